set_option maxHeartbeats 4000000 in
set_option maxRecDepth 100000 in
theorem g_X4_gives_1 (l : Launch) (dC : Nat → ClassId) (dI : Nat → Nat → Nat) (h0 : Nat) (h1 : Nat) (h2 : Nat) (h3 : Nat) (cint : ClassId) (sz : Nat) (n0_size : Int32) (n0_top : Int32) (f1 : Nat → Int32) (f2 : Nat → Int32) (f3 : Nat → Int32) (tn0_size : 0 ≤ n0_size.toInt ∧ n0_size.toInt ≤ 128) (tn0_top : 0 ≤ n0_top.toInt ∧ n0_top.toInt ≤ 64) : Met l yX4_gives wsX4_gives ({ frames := 3, cells := 0, slots := 0, locals := 65 }) (va_Pc [.ref h0] (fun U => U.heap.size = sz ∧ va_P (dC, dI) vwCl [(h0, Sum.inr (4, [Value.ref h1, Value.int n0_size, Value.ref h2, Value.ref h3, Value.int n0_top])), (h1, Sum.inl (cint, 128, Sum.inl f1)), (h2, Sum.inl (cint, 8, Sum.inl f2)), (h3, Sum.inl (cint, 64, Sum.inl f3))] U.heap ∧ va_K (dC, dI) vwCl [(cint, .int)] U ∧ va_D (fun _ => True) [(h0, Sum.inr (4, [Value.ref h1, Value.int n0_size, Value.ref h2, Value.ref h3, Value.int n0_top])), (h1, Sum.inl (cint, 128, Sum.inl f1)), (h2, Sum.inl (cint, 8, Sum.inl f2)), (h3, Sum.inl (cint, 64, Sum.inl f3))])) (va_Qi (fun (r : Int32) (_ : Unit) => r.toInt = (kg_run f2 (kg_sI f1 n0_size.toInt) false []).toInt ∧ True) (fun (_ : Unit) t => ∃ (m0_top : Int32) (g3 : Nat → Int32), (0 ≤ m0_top.toInt ∧ m0_top.toInt ≤ 64) ∧ va_P (dC, dI) vwCl [(h0, Sum.inr (4, [Value.ref h1, Value.int n0_size, Value.ref h2, Value.ref h3, Value.int m0_top])), (h1, Sum.inl (cint, 128, Sum.inl f1)), (h2, Sum.inl (cint, 8, Sum.inl f2)), (h3, Sum.inl (cint, 64, Sum.inl g3))] t.heap ∧ va_K (dC, dI) vwCl [] t ∧ va_D (va_A [(h0, Sum.inr (4, [Value.ref h1, Value.int n0_size, Value.ref h2, Value.ref h3, Value.int n0_top])), (h1, Sum.inl (cint, 128, Sum.inl f1)), (h2, Sum.inl (cint, 8, Sum.inl f2)), (h3, Sum.inl (cint, 64, Sum.inl f3))] sz) [(h0, Sum.inr (4, [Value.ref h1, Value.int n0_size, Value.ref h2, Value.ref h3, Value.int m0_top])), (h1, Sum.inl (cint, 128, Sum.inl f1)), (h2, Sum.inl (cint, 8, Sum.inl f2)), (h3, Sum.inl (cint, 64, Sum.inl g3))]) (va_A [(h0, Sum.inr (4, [Value.ref h1, Value.int n0_size, Value.ref h2, Value.ref h3, Value.int n0_top])), (h1, Sum.inl (cint, 128, Sum.inl f1)), (h2, Sum.inl (cint, 8, Sum.inl f2)), (h3, Sum.inl (cint, 64, Sum.inl f3))] sz)) 0 0 (va_A [(h0, Sum.inr (4, [Value.ref h1, Value.int n0_size, Value.ref h2, Value.ref h3, Value.int n0_top])), (h1, Sum.inl (cint, 128, Sum.inl f1)), (h2, Sum.inl (cint, 8, Sum.inl f2)), (h3, Sum.inl (cint, 64, Sum.inl f3))] sz) := by
  refine Met.ofW (cc := cX4_gives) (maxL := 4) (ret := (some .int)) (by decide) rfl ?_
  intro p e s m args below meth c s₁ B hml hv
  obtain ⟨rfl, hsz, hP, hK, hD0⟩ := hv
  have hx := B.exec
  have hb := B.bytes
  have hr := B.returns
  have hts := atoms_spec (ws := wsX4_gives) B.pre
  have hown : s.vm.findClass RX4 = some m.cls := findClass_of_methodNamed B.named
  have hlocks := B.notSynchronized
  subst hsz
  have hD := hD0.self (sz := s.heap.size)
  generalize hAe : va_A [(h0, Sum.inr (4, [Value.ref h1, Value.int n0_size, Value.ref h2, Value.ref h3, Value.int n0_top])), (h1, Sum.inl (cint, 128, Sum.inl f1)), (h2, Sum.inl (cint, 8, Sum.inl f2)), (h3, Sum.inl (cint, 64, Sum.inl f3))] s.heap.size = A at hD ⊢
  have hA : ∀ q : Nat, s.heap.size ≤ q → A q := fun q h => by rw [← hAe]; exact Or.inr h
  have hS : va_S A s.heap s.heap [] := va_S.rf
  have hP : va_P (dC, dI) vwCl [(h0, Sum.inr (4, [Value.ref h1, Value.int n0_size, Value.ref h2, Value.ref h3, Value.int n0_top])), (h1, Sum.inl (cint, 128, Sum.inl f1)), (h2, Sum.inl (cint, 8, Sum.inl f2)), (h3, Sum.inl (cint, 64, Sum.inl f3))] s.heap := hP
  have hl := lv_entry ([.ref h0]) (n := 4) (Nat.le_of_ble_eq_true rfl)
  rw [lg_entry_eq]
  generalize (lg_sl ([.ref h0]) ++ List.replicate (4 - (lg_sl ([.ref h0])).length) Slot.unset).toArray = ls at hl ⊢
  have hl : lv_has ls 4 [(0, .ref h0)] := hl
  refine lv_aload_n hx hb dX4_gives_0 rfl (lv_at hl 0 rfl) ?_
  refine lv_iconst (v := 0) hx hb dX4_gives_1 (by decide) ?_
  refine va_put (D := (dC, dI)) (ci := 4) (v := .int 0) (ty := .int) (C := RX4) (T := TX4) (N := 5) hx hb hts (fun _ h => List.mem_cons_of_mem _ (List.mem_append_right _ h)) tyX4 tyX4_ok nmX4 hown hK hP hD hS 0 rfl rfl 4 (by decide) (hts (.fieldLink RX4 76 "KinkStreet$Law" "top" "I") (List.mem_of_getElem? (i := 1) rfl)) (fun _ h9 => h9) rfl (by decide +kernel) rfl rfl (Nat.le_of_ble_eq_true rfl) dX4_gives_2 (fun H locs hP hD hS => ?_)
  have hP : va_P (dC, dI) vwCl [(h0, Sum.inr (4, [Value.ref h1, Value.int n0_size, Value.ref h2, Value.ref h3, Value.int 0])), (h1, Sum.inl (cint, 128, Sum.inl f1)), (h2, Sum.inl (cint, 8, Sum.inl f2)), (h3, Sum.inl (cint, 64, Sum.inl f3))] H := hP
  have hD : va_D A [(h0, Sum.inr (4, [Value.ref h1, Value.int n0_size, Value.ref h2, Value.ref h3, Value.int 0])), (h1, Sum.inl (cint, 128, Sum.inl f1)), (h2, Sum.inl (cint, 8, Sum.inl f2)), (h3, Sum.inl (cint, 64, Sum.inl f3))] := hD
  refine lv_iconst (v := 0) hx hb dX4_gives_5 (by decide) ?_
  refine lv_istore_n (lv' := [(1, .int 0), (0, .ref h0)]) hx hb dX4_gives_6 rfl hl (by decide) rfl (fun ls hl => ?_)
  refine lv_iconst (v := 0) hx hb dX4_gives_7 (by decide) ?_
  have hk_1 : kg_run f2 (kg_dI f1 (0 : Int) (n0_size.toInt - (0 : Int))) (decide ((0 : Int) ≠ 0)) (kg_sT f3 (0 : Int)) = kg_run f2 (kg_sI f1 n0_size.toInt) false [] := kg_g0
  refine lv_istore_n (lv' := [(2, .int 0), (1, .int 0), (0, .ref h0)]) hx hb dX4_gives_8 rfl hl (by decide) rfl (fun ls hl => ?_)
  refine kk_loop (σ := Int32 × Int32 × (Nat → Int32) × Int32) (fun x H locs ls => (0 ≤ x.1.toInt ∧ x.1.toInt ≤ 128) ∧ (0 ≤ x.2.1.toInt ∧ x.2.1.toInt ≤ 64) ∧ (0 ≤ x.2.2.2.toInt ∧ x.2.2.2.toInt ≤ 1) ∧ kg_run f2 (kg_dI f1 x.1.toInt (n0_size.toInt - x.1.toInt)) (decide (x.2.2.2.toInt ≠ 0)) (kg_sT x.2.2.1 x.2.1.toInt) = kg_run f2 (kg_sI f1 n0_size.toInt) false [] ∧ va_P (dC, dI) vwCl [(h0, Sum.inr (4, [Value.ref h1, Value.int n0_size, Value.ref h2, Value.ref h3, Value.int x.2.1])), (h1, Sum.inl (cint, 128, Sum.inl f1)), (h2, Sum.inl (cint, 8, Sum.inl f2)), (h3, Sum.inl (cint, 64, Sum.inl x.2.2.1))] H ∧ va_D A [(h0, Sum.inr (4, [Value.ref h1, Value.int n0_size, Value.ref h2, Value.ref h3, Value.int x.2.1])), (h1, Sum.inl (cint, 128, Sum.inl f1)), (h2, Sum.inl (cint, 8, Sum.inl f2)), (h3, Sum.inl (cint, 64, Sum.inl x.2.2.1))] ∧ va_S A s.heap H locs ∧ lv_has ls 4 [(2, .int x.1), (1, .int x.2.2.2), (0, .ref h0)]) (fun x => ((128 : Int) - x.1.toInt).toNat) ?_ (0, 0, f3, 0) _ _ _ ⟨(by show 0 ≤ (0 : Int32).toInt ∧ (0 : Int32).toInt ≤ 128; first | with_reducible assumption | decide | (constructor <;> (omega))), (by show 0 ≤ (0 : Int32).toInt ∧ (0 : Int32).toInt ≤ 64; first | with_reducible assumption | decide | (constructor <;> (omega))), (by show 0 ≤ (0 : Int32).toInt ∧ (0 : Int32).toInt ≤ 1; first | with_reducible assumption | decide | (constructor <;> (omega))), (by with_reducible assumption), hP, hD, hS, hl⟩
  rintro ⟨i_2_0, i_2_1, f_2_2, i_2_3⟩ H locs ls ⟨t_2_0, t_2_1, t_2_3, z_2_0, hP, hD, hS, hl⟩ ih_2
  have t_2_0 : (0 ≤ i_2_0.toInt ∧ i_2_0.toInt ≤ 128) := t_2_0
  have t_2_1 : (0 ≤ i_2_1.toInt ∧ i_2_1.toInt ≤ 64) := t_2_1
  have t_2_3 : (0 ≤ i_2_3.toInt ∧ i_2_3.toInt ≤ 1) := t_2_3
  have z_2_0 : kg_run f2 (kg_dI f1 i_2_0.toInt (n0_size.toInt - i_2_0.toInt)) (decide (i_2_3.toInt ≠ 0)) (kg_sT f_2_2 i_2_1.toInt) = kg_run f2 (kg_sI f1 n0_size.toInt) false [] := z_2_0
  have hl : lv_has ls 4 [(2, .int i_2_0), (1, .int i_2_3), (0, .ref h0)] := hl
  have hP : va_P (dC, dI) vwCl [(h0, Sum.inr (4, [Value.ref h1, Value.int n0_size, Value.ref h2, Value.ref h3, Value.int i_2_1])), (h1, Sum.inl (cint, 128, Sum.inl f1)), (h2, Sum.inl (cint, 8, Sum.inl f2)), (h3, Sum.inl (cint, 64, Sum.inl f_2_2))] H := hP
  have hD : va_D A [(h0, Sum.inr (4, [Value.ref h1, Value.int n0_size, Value.ref h2, Value.ref h3, Value.int i_2_1])), (h1, Sum.inl (cint, 128, Sum.inl f1)), (h2, Sum.inl (cint, 8, Sum.inl f2)), (h3, Sum.inl (cint, 64, Sum.inl f_2_2))] := hD
  refine lv_iload_n hx hb dX4_gives_9 rfl (lv_at hl 0 rfl) ?_
  refine lv_aload_n hx hb dX4_gives_10 rfl (lv_at hl 2 rfl) ?_
  refine va_get (D := (dC, dI)) (ci := 4) (v := .int n0_size) (C := RX4) (T := TX4) (N := 5) hx hb hts (fun _ h => List.mem_cons_of_mem _ (List.mem_append_right _ h)) hown hK hP 0 rfl rfl 1 (by decide) (hts (.fieldLink RX4 25 "KinkStreet$Law" "size" "I") (List.mem_of_getElem? (i := 2) rfl)) (fun _ h9 => h9) rfl dX4_gives_11 ?_
  refine lv_icmp_ge (tgt := 87) hx hb dX4_gives_14 (by decide) (fun c_3 => ?_) (fun c_3 => ?_)
  · have t_3 : n0_size.toInt ≤ i_2_0.toInt := kk_le c_3
    refine lv_iconst (v := 0) hx hb dX4_gives_87 (by decide) ?_
    have hk_4 : (0 : Int) = (kg_run f2 (kg_sI f1 n0_size.toInt) false []).toInt := kg_gn (show kg_run f2 (kg_dI f1 i_2_0.toInt (n0_size.toInt - i_2_0.toInt)) (decide (i_2_3.toInt ≠ 0)) (kg_sT f_2_2 i_2_1.toInt) = kg_run f2 (kg_sI f1 n0_size.toInt) false [] from (by with_reducible assumption)) (by omega)
    obtain ⟨hP9, hD9⟩ := kk_leafout (wc := [(h0, Sum.inr (4, [Value.ref h1, Value.int n0_size, Value.ref h2, Value.ref h3, Value.int i_2_1])), (h1, Sum.inl (cint, 128, Sum.inl f1)), (h2, Sum.inl (cint, 8, Sum.inl f2)), (h3, Sum.inl (cint, 64, Sum.inl f_2_2))]) hP hD [0, 1, 2, 3] (by decide) rfl
    have hK9 := hK.sub (tys' := []) [] rfl
    exact W.iret (v := 0) hx hb hr (fun t ht hW => ⟨⟨0, (), rfl, ⟨(by with_reducible assumption), trivial⟩, i_2_1, f_2_2, (by show 0 ≤ (i_2_1 : Int32).toInt ∧ (i_2_1 : Int32).toInt ≤ 64; first | with_reducible assumption | (constructor <;> (omega))), by rw [ht]; exact hP9, va_K.moved hW.alike hK9, hD9⟩, hS.F ht⟩) hS.2.2 dX4_gives_88
  · have t_3 : i_2_0.toInt < n0_size.toInt := kk_nle c_3
    refine lv_aload_n hx hb dX4_gives_17 rfl (lv_at hl 2 rfl) ?_
    refine va_get (D := (dC, dI)) (ci := 4) (v := .ref h1) (C := RX4) (T := TX4) (N := 5) hx hb hts (fun _ h => List.mem_cons_of_mem _ (List.mem_append_right _ h)) hown hK hP 0 rfl rfl 0 (by decide) (hts (.fieldLink RX4 11 "KinkStreet$Law" "signs" "[I") (List.mem_of_getElem? (i := 3) rfl)) (fun _ h9 => h9) rfl dX4_gives_18 ?_
    refine lv_iload_n hx hb dX4_gives_21 rfl (lv_at hl 0 rfl) ?_
    have hi_5 : vp_in i_2_0 128 := (vp_in_iff.mpr ⟨by omega, by omega⟩)
    refine va_iald hx hb hK hP 1 0 rfl rfl hi_5 dX4_gives_22 ?_
    refine lv_topi (fun y_5 e_5 => ?_)
    obtain rfl : y_5 = (f1 (i_2_0 : Int32).toNatClampNeg) := e_5
    refine lv_istore_n (lv' := [(3, .int (f1 (i_2_0 : Int32).toNatClampNeg)), (2, .int i_2_0), (1, .int i_2_3), (0, .ref h0)]) hx hb dX4_gives_23 rfl hl (by decide) rfl (fun ls hl => ?_)
    refine lv_iload_n hx hb dX4_gives_24 rfl (lv_at hl 2 rfl) ?_
    refine lv_if_eq (tgt := 43) hx hb dX4_gives_25 (by decide) (fun c_6 => ?_) (fun c_6 => ?_)
    · have t_6 : i_2_3.toInt = 0 := kk_eq c_6
      refine lv_iload_n hx hb dX4_gives_43 rfl (lv_at hl 0 rfl) ?_
      refine lv_bipush (v := 59) hx hb dX4_gives_44 (by decide) ?_
      refine lv_icmp_ne (tgt := 54) hx hb dX4_gives_46 (by decide) (fun c_7 => ?_) (fun c_7 => ?_)
      · have t_7 : (f1 (i_2_0 : Int32).toNatClampNeg).toInt ≠ 59 := kk_ne c_7
        refine lv_iload_n hx hb dX4_gives_54 rfl (lv_at hl 0 rfl) ?_
        refine lv_bipush (v := 63) hx hb dX4_gives_55 (by decide) ?_
        refine lv_icmp_ne (tgt := 76) hx hb dX4_gives_57 (by decide) (fun c_8 => ?_) (fun c_8 => ?_)
        · have t_8 : (f1 (i_2_0 : Int32).toNatClampNeg).toInt ≠ 63 := kk_ne c_8
          refine lv_aload_n hx hb dX4_gives_76 rfl (lv_at hl 3 rfl) ?_
          refine lv_iload_n hx hb dX4_gives_77 rfl (lv_at hl 0 rfl) ?_
          obtain ⟨hPc, hDc, hFc⟩ := kk_cutout (wc := [(h0, Sum.inr (4, [Value.ref h1, Value.int n0_size, Value.ref h2, Value.ref h3, Value.int i_2_1])), (h2, Sum.inl (cint, 8, Sum.inl f2)), (h3, Sum.inl (cint, 64, Sum.inl f_2_2))]) hP hD hS hA [0, 2, 3] (by decide) rfl
          have hKc := hK.sub (tys' := [(cint, .int)]) [0] rfl
          refine va_callv (va_runV (As := [.int (f1 (i_2_0 : Int32).toNatClampNeg)]) (rest := []) ⟨hx, hb, hml, hown, hts⟩ (g_X4_work_1 l dC dI h0 h2 h3 h1 cint H.size (f1 (i_2_0 : Int32).toNatClampNeg) n0_size i_2_1 f2 f_2_2 tn0_size (by show 0 ≤ (i_2_1 : Int32).toInt ∧ (i_2_1 : Int32).toInt ≤ 64; first | with_reducible assumption | (constructor <;> (omega)))) (cwV 1 hts gX4_gives_X4_work rfl rfl rfl (by decide +kernel) ⟨Nat.le_of_ble_eq_true rfl, Nat.le_of_ble_eq_true rfl⟩) ⟨fun a U g mk q => by obtain ⟨q0, q1, qP, qK, qD⟩ := q; exact ⟨q0, q1, qP, va_K.moved (u := U) (U := U.calling g mk a) (Vm.Alike.refl U.vm) qK, qD⟩, va_recv hKc hPc (ci := 4) (q0 := 0) rfl rfl, fun U hU hW => ⟨rfl, by rw [hU], by rw [hU]; exact hPc, va_K.moved hW.alike hKc, hDc.weaken (fun _ _ _ _ => trivial)⟩⟩ rfl rfl hl.1 rfl (lv_room (Nat.le_of_ble_eq_true rfl)) dX4_gives_78 ⟨Nat.le_of_ble_eq_true rfl, Nat.le_of_ble_eq_true rfl⟩) hS (fun q _ h => hFc q h) hFc (fun u t H1 locs ht hvm hw hB hz1 hk1 hS => ?_)
          obtain ⟨y_10, f_11, by_10, v_11_0, hP1, hK1, hD1⟩ := hB
          have v_11_0 : kg_sT f_11 y_10.toInt = kg_work f2 (f1 (i_2_0 : Int32).toNatClampNeg) (kg_sT f_2_2 i_2_1.toInt) := v_11_0
          rw [ht] at hP1
          have hK1 := va_K.moved hvm.symm hK1
          obtain ⟨hP, hD⟩ := va_join (wr := [(h1, Sum.inl (cint, 128, Sum.inl f1))]) (w1 := [(h0, Sum.inr (4, [Value.ref h1, Value.int n0_size, Value.ref h2, Value.ref h3, Value.int y_10])), (h2, Sum.inl (cint, 8, Sum.inl f2)), (h3, Sum.inl (cint, 64, Sum.inl f_11))]) hP hD [0, 2, 3] [1] rfl rfl (by decide) (by decide) hk1 hFc hP1 hD1
          generalize H1 = H at hP hS ⊢
          have hP : va_P (dC, dI) vwCl [(h1, Sum.inl (cint, 128, Sum.inl f1)), (h0, Sum.inr (4, [Value.ref h1, Value.int n0_size, Value.ref h2, Value.ref h3, Value.int y_10])), (h2, Sum.inl (cint, 8, Sum.inl f2)), (h3, Sum.inl (cint, 64, Sum.inl f_11))] H := hP
          have hD : va_D A [(h1, Sum.inl (cint, 128, Sum.inl f1)), (h0, Sum.inr (4, [Value.ref h1, Value.int n0_size, Value.ref h2, Value.ref h3, Value.int y_10])), (h2, Sum.inl (cint, 8, Sum.inl f2)), (h3, Sum.inl (cint, 64, Sum.inl f_11))] := hD
          refine lv_iinc (v := (i_2_0 + 1)) (lv' := [(2, .int (i_2_0 + 1)), (3, .int (f1 (i_2_0 : Int32).toNatClampNeg)), (1, .int i_2_3), (0, .ref h0)]) hx hb dX4_gives_81 hl (k := 1) rfl (by first | rfl | decide) (by decide) rfl (fun ls hl => ?_)
          have hk_12 : kg_run f2 (kg_dI f1 (i_2_0 + 1).toInt (n0_size.toInt - (i_2_0 + 1).toInt)) (decide (i_2_3.toInt ≠ 0)) (kg_sT f_11 y_10.toInt) = kg_run f2 (kg_sI f1 n0_size.toInt) false [] := kg_gw (show kg_run f2 (kg_dI f1 i_2_0.toInt (n0_size.toInt - i_2_0.toInt)) (decide (i_2_3.toInt ≠ 0)) (kg_sT f_2_2 i_2_1.toInt) = kg_run f2 (kg_sI f1 n0_size.toInt) false [] from (by with_reducible assumption)) (by have := kk_add2 (x := i_2_0) (y := 1) (a := i_2_0.toInt) (b := 1) rfl rfl (by omega) (by omega); omega) (by have := kk_add2 (x := i_2_0) (y := 1) (a := i_2_0.toInt) (b := 1) rfl rfl (by omega) (by omega); omega) (by have := kk_add2 (x := i_2_0) (y := 1) (a := i_2_0.toInt) (b := 1) rfl rfl (by omega) (by omega); omega) (by have := kk_add2 (x := i_2_0) (y := 1) (a := i_2_0.toInt) (b := 1) rfl rfl (by omega) (by omega); omega) (by have := kk_add2 (x := i_2_0) (y := 1) (a := i_2_0.toInt) (b := 1) rfl rfl (by omega) (by omega); omega) (by have := kk_add2 (x := i_2_0) (y := 1) (a := i_2_0.toInt) (b := 1) rfl rfl (by omega) (by omega); omega) (show kg_sT f_11 y_10.toInt = kg_work f2 (f1 (i_2_0 : Int32).toNatClampNeg) (kg_sT f_2_2 i_2_1.toInt) from (by with_reducible assumption)) (by have := kk_add2 (x := i_2_0) (y := 1) (a := i_2_0.toInt) (b := 1) rfl rfl (by omega) (by omega); omega)
          refine lv_goto (tgt := 9) hx hb dX4_gives_84 (by decide) ?_
          exact ih_2 ((i_2_0 + 1), y_10, f_11, i_2_3) _ _ _ (by show ((128 : Int) - ((i_2_0 + 1) : Int32).toInt).toNat < ((128 : Int) - i_2_0.toInt).toNat; have := kk_add2 (x := i_2_0) (y := 1) (a := i_2_0.toInt) (b := 1) rfl rfl (by omega) (by omega); exact kk_mu (by omega) (by omega)) ⟨(by show 0 ≤ ((i_2_0 + 1) : Int32).toInt ∧ ((i_2_0 + 1) : Int32).toInt ≤ 128; first | with_reducible assumption | (constructor <;> (have := kk_add2 (x := i_2_0) (y := 1) (a := i_2_0.toInt) (b := 1) rfl rfl (by omega) (by omega); omega))), (by show 0 ≤ (y_10 : Int32).toInt ∧ (y_10 : Int32).toInt ≤ 64; first | with_reducible assumption | (constructor <;> (have := kk_add2 (x := i_2_0) (y := 1) (a := i_2_0.toInt) (b := 1) rfl rfl (by omega) (by omega); omega))), (by show 0 ≤ (i_2_3 : Int32).toInt ∧ (i_2_3 : Int32).toInt ≤ 1; first | with_reducible assumption | (constructor <;> (have := kk_add2 (x := i_2_0) (y := 1) (a := i_2_0.toInt) (b := 1) rfl rfl (by omega) (by omega); omega))), (by with_reducible assumption), hP.sub [1, 0, 2, 3] rfl, hD.sub [1, 0, 2, 3] (by decide) rfl, hS, lv_sub hl [0, 2, 3] rfl⟩
        · have t_8 : (f1 (i_2_0 : Int32).toNatClampNeg).toInt = 63 := kk_eq c_8
          refine lv_aload_n hx hb dX4_gives_60 rfl (lv_at hl 3 rfl) ?_
          obtain ⟨hPc, hDc, hFc⟩ := kk_cutout (wc := [(h0, Sum.inr (4, [Value.ref h1, Value.int n0_size, Value.ref h2, Value.ref h3, Value.int i_2_1])), (h3, Sum.inl (cint, 64, Sum.inl f_2_2))]) hP hD hS hA [0, 3] (by decide) rfl
          have hKc := hK.sub (tys' := [(cint, .int)]) [0] rfl
          refine va_calli (va_runV (As := []) (rest := []) ⟨hx, hb, hml, hown, hts⟩ (g_X4_pop_1 l dC dI h0 h3 h1 h2 cint H.size n0_size i_2_1 f_2_2 tn0_size (by show 0 ≤ (i_2_1 : Int32).toInt ∧ (i_2_1 : Int32).toInt ≤ 64; first | with_reducible assumption | (constructor <;> (omega)))) (cwV 0 hts gX4_gives_X4_pop rfl rfl rfl (by decide +kernel) ⟨Nat.le_of_ble_eq_true rfl, Nat.le_of_ble_eq_true rfl⟩) ⟨fun a U g mk q => by obtain ⟨q0, q1, qP, qK, qD⟩ := q; exact ⟨q0, q1, qP, va_K.moved (u := U) (U := U.calling g mk a) (Vm.Alike.refl U.vm) qK, qD⟩, va_recv hKc hPc (ci := 4) (q0 := 0) rfl rfl, fun U hU hW => ⟨rfl, by rw [hU], by rw [hU]; exact hPc, va_K.moved hW.alike hKc, hDc.weaken (fun _ _ _ _ => trivial)⟩⟩ rfl rfl hl.1 rfl (lv_room (Nat.le_of_ble_eq_true rfl)) dX4_gives_61 ⟨Nat.le_of_ble_eq_true rfl, Nat.le_of_ble_eq_true rfl⟩) hS (fun q _ h => hFc q h) hFc (fun r_13 u t H1 locs ht hvm hw hB hz1 hk1 hS => ?_)
          obtain ⟨y_14, by_14, v_14_0, hP1, hK1, hD1⟩ := hB
          have v_14_0 : kg_sT f_2_2 y_14.toInt = kg_tl (kg_sT f_2_2 i_2_1.toInt) := v_14_0
          rw [ht] at hP1
          have hK1 := va_K.moved hvm.symm hK1
          obtain ⟨hP, hD⟩ := va_join (wr := [(h1, Sum.inl (cint, 128, Sum.inl f1)), (h2, Sum.inl (cint, 8, Sum.inl f2))]) (w1 := [(h0, Sum.inr (4, [Value.ref h1, Value.int n0_size, Value.ref h2, Value.ref h3, Value.int y_14])), (h3, Sum.inl (cint, 64, Sum.inl f_2_2))]) hP hD [0, 3] [1, 2] rfl rfl (by decide) (by decide) hk1 hFc hP1 hD1
          generalize H1 = H at hP hS ⊢
          have hP : va_P (dC, dI) vwCl [(h1, Sum.inl (cint, 128, Sum.inl f1)), (h2, Sum.inl (cint, 8, Sum.inl f2)), (h0, Sum.inr (4, [Value.ref h1, Value.int n0_size, Value.ref h2, Value.ref h3, Value.int y_14])), (h3, Sum.inl (cint, 64, Sum.inl f_2_2))] H := hP
          have hD : va_D A [(h1, Sum.inl (cint, 128, Sum.inl f1)), (h2, Sum.inl (cint, 8, Sum.inl f2)), (h0, Sum.inr (4, [Value.ref h1, Value.int n0_size, Value.ref h2, Value.ref h3, Value.int y_14])), (h3, Sum.inl (cint, 64, Sum.inl f_2_2))] := hD
          rcases hw with ⟨t_13_0, _⟩
          · skip
            have t_13_0 : r_13.toInt = (kg_pop (kg_sT f_2_2 i_2_1.toInt)).toInt := t_13_0
            refine lv_if_ne (tgt := 71) hx hb dX4_gives_64 (by decide) (fun c_15 => ?_) (fun c_15 => ?_)
            · have t_15 : r_13.toInt ≠ 0 := kk_ne c_15
              refine lv_iconst (v := 0) hx hb dX4_gives_71 (by decide) ?_
              refine lv_istore_n (lv' := [(1, .int 0), (3, .int (f1 (i_2_0 : Int32).toNatClampNeg)), (2, .int i_2_0), (0, .ref h0)]) hx hb dX4_gives_72 rfl hl (by decide) rfl (fun ls hl => ?_)
              refine lv_goto (tgt := 81) hx hb dX4_gives_73 (by decide) ?_
              refine lv_iinc (v := (i_2_0 + 1)) (lv' := [(2, .int (i_2_0 + 1)), (1, .int 0), (3, .int (f1 (i_2_0 : Int32).toNatClampNeg)), (0, .ref h0)]) hx hb dX4_gives_81 hl (k := 2) rfl (by first | rfl | decide) (by decide) rfl (fun ls hl => ?_)
              have hk_16 : kg_run f2 (kg_dI f1 (i_2_0 + 1).toInt (n0_size.toInt - (i_2_0 + 1).toInt)) (decide ((0 : Int) ≠ 0)) (kg_sT f_2_2 y_14.toInt) = kg_run f2 (kg_sI f1 n0_size.toInt) false [] := kg_gi (show kg_run f2 (kg_dI f1 i_2_0.toInt (n0_size.toInt - i_2_0.toInt)) (decide (i_2_3.toInt ≠ 0)) (kg_sT f_2_2 i_2_1.toInt) = kg_run f2 (kg_sI f1 n0_size.toInt) false [] from (by with_reducible assumption)) (by have := kk_add2 (x := i_2_0) (y := 1) (a := i_2_0.toInt) (b := 1) rfl rfl (by omega) (by omega); omega) (by have := kk_add2 (x := i_2_0) (y := 1) (a := i_2_0.toInt) (b := 1) rfl rfl (by omega) (by omega); omega) (by have := kk_add2 (x := i_2_0) (y := 1) (a := i_2_0.toInt) (b := 1) rfl rfl (by omega) (by omega); omega) (by have := kk_add2 (x := i_2_0) (y := 1) (a := i_2_0.toInt) (b := 1) rfl rfl (by omega) (by omega); omega) (by have := kk_add2 (x := i_2_0) (y := 1) (a := i_2_0.toInt) (b := 1) rfl rfl (by omega) (by omega); omega) (show r_13.toInt = (kg_pop (kg_sT f_2_2 i_2_1.toInt)).toInt from (by with_reducible assumption)) (show kg_sT f_2_2 y_14.toInt = kg_tl (kg_sT f_2_2 i_2_1.toInt) from (by with_reducible assumption)) (by have := kk_add2 (x := i_2_0) (y := 1) (a := i_2_0.toInt) (b := 1) rfl rfl (by omega) (by omega); omega)
              refine lv_goto (tgt := 9) hx hb dX4_gives_84 (by decide) ?_
              exact ih_2 ((i_2_0 + 1), y_14, f_2_2, 0) _ _ _ (by show ((128 : Int) - ((i_2_0 + 1) : Int32).toInt).toNat < ((128 : Int) - i_2_0.toInt).toNat; have := kk_add2 (x := i_2_0) (y := 1) (a := i_2_0.toInt) (b := 1) rfl rfl (by omega) (by omega); exact kk_mu (by omega) (by omega)) ⟨(by show 0 ≤ ((i_2_0 + 1) : Int32).toInt ∧ ((i_2_0 + 1) : Int32).toInt ≤ 128; first | with_reducible assumption | (constructor <;> (have := kk_add2 (x := i_2_0) (y := 1) (a := i_2_0.toInt) (b := 1) rfl rfl (by omega) (by omega); omega))), (by show 0 ≤ (y_14 : Int32).toInt ∧ (y_14 : Int32).toInt ≤ 64; first | with_reducible assumption | (constructor <;> (have := kk_add2 (x := i_2_0) (y := 1) (a := i_2_0.toInt) (b := 1) rfl rfl (by omega) (by omega); omega))), (by show 0 ≤ (0 : Int32).toInt ∧ (0 : Int32).toInt ≤ 1; first | with_reducible assumption | decide | (constructor <;> (have := kk_add2 (x := i_2_0) (y := 1) (a := i_2_0.toInt) (b := 1) rfl rfl (by omega) (by omega); omega))), (by with_reducible assumption), hP.sub [2, 0, 1, 3] rfl, hD.sub [2, 0, 1, 3] (by decide) rfl, hS, lv_sub hl [0, 1, 3] rfl⟩
            · have t_15 : r_13.toInt = 0 := kk_eq c_15
              refine lv_iconst (v := 1) hx hb dX4_gives_67 (by decide) ?_
              refine lv_goto (tgt := 72) hx hb dX4_gives_68 (by decide) ?_
              refine lv_istore_n (lv' := [(1, .int 1), (3, .int (f1 (i_2_0 : Int32).toNatClampNeg)), (2, .int i_2_0), (0, .ref h0)]) hx hb dX4_gives_72 rfl hl (by decide) rfl (fun ls hl => ?_)
              refine lv_goto (tgt := 81) hx hb dX4_gives_73 (by decide) ?_
              refine lv_iinc (v := (i_2_0 + 1)) (lv' := [(2, .int (i_2_0 + 1)), (1, .int 1), (3, .int (f1 (i_2_0 : Int32).toNatClampNeg)), (0, .ref h0)]) hx hb dX4_gives_81 hl (k := 2) rfl (by first | rfl | decide) (by decide) rfl (fun ls hl => ?_)
              have hk_17 : kg_run f2 (kg_dI f1 (i_2_0 + 1).toInt (n0_size.toInt - (i_2_0 + 1).toInt)) (decide ((1 : Int) ≠ 0)) (kg_sT f_2_2 y_14.toInt) = kg_run f2 (kg_sI f1 n0_size.toInt) false [] := kg_gi (show kg_run f2 (kg_dI f1 i_2_0.toInt (n0_size.toInt - i_2_0.toInt)) (decide (i_2_3.toInt ≠ 0)) (kg_sT f_2_2 i_2_1.toInt) = kg_run f2 (kg_sI f1 n0_size.toInt) false [] from (by with_reducible assumption)) (by have := kk_add2 (x := i_2_0) (y := 1) (a := i_2_0.toInt) (b := 1) rfl rfl (by omega) (by omega); omega) (by have := kk_add2 (x := i_2_0) (y := 1) (a := i_2_0.toInt) (b := 1) rfl rfl (by omega) (by omega); omega) (by have := kk_add2 (x := i_2_0) (y := 1) (a := i_2_0.toInt) (b := 1) rfl rfl (by omega) (by omega); omega) (by have := kk_add2 (x := i_2_0) (y := 1) (a := i_2_0.toInt) (b := 1) rfl rfl (by omega) (by omega); omega) (by have := kk_add2 (x := i_2_0) (y := 1) (a := i_2_0.toInt) (b := 1) rfl rfl (by omega) (by omega); omega) (show r_13.toInt = (kg_pop (kg_sT f_2_2 i_2_1.toInt)).toInt from (by with_reducible assumption)) (show kg_sT f_2_2 y_14.toInt = kg_tl (kg_sT f_2_2 i_2_1.toInt) from (by with_reducible assumption)) (by have := kk_add2 (x := i_2_0) (y := 1) (a := i_2_0.toInt) (b := 1) rfl rfl (by omega) (by omega); omega)
              refine lv_goto (tgt := 9) hx hb dX4_gives_84 (by decide) ?_
              exact ih_2 ((i_2_0 + 1), y_14, f_2_2, 1) _ _ _ (by show ((128 : Int) - ((i_2_0 + 1) : Int32).toInt).toNat < ((128 : Int) - i_2_0.toInt).toNat; have := kk_add2 (x := i_2_0) (y := 1) (a := i_2_0.toInt) (b := 1) rfl rfl (by omega) (by omega); exact kk_mu (by omega) (by omega)) ⟨(by show 0 ≤ ((i_2_0 + 1) : Int32).toInt ∧ ((i_2_0 + 1) : Int32).toInt ≤ 128; first | with_reducible assumption | (constructor <;> (have := kk_add2 (x := i_2_0) (y := 1) (a := i_2_0.toInt) (b := 1) rfl rfl (by omega) (by omega); omega))), (by show 0 ≤ (y_14 : Int32).toInt ∧ (y_14 : Int32).toInt ≤ 64; first | with_reducible assumption | (constructor <;> (have := kk_add2 (x := i_2_0) (y := 1) (a := i_2_0.toInt) (b := 1) rfl rfl (by omega) (by omega); omega))), (by show 0 ≤ (1 : Int32).toInt ∧ (1 : Int32).toInt ≤ 1; first | with_reducible assumption | decide | (constructor <;> (have := kk_add2 (x := i_2_0) (y := 1) (a := i_2_0.toInt) (b := 1) rfl rfl (by omega) (by omega); omega))), (by with_reducible assumption), hP.sub [2, 0, 1, 3] rfl, hD.sub [2, 0, 1, 3] (by decide) rfl, hS, lv_sub hl [0, 1, 3] rfl⟩
      · have t_7 : (f1 (i_2_0 : Int32).toNatClampNeg).toInt = 59 := kk_eq c_7
        refine lv_aload_n hx hb dX4_gives_49 rfl (lv_at hl 3 rfl) ?_
        obtain ⟨hPc, hDc, hFc⟩ := kk_cutout (wc := [(h0, Sum.inr (4, [Value.ref h1, Value.int n0_size, Value.ref h2, Value.ref h3, Value.int i_2_1])), (h3, Sum.inl (cint, 64, Sum.inl f_2_2))]) hP hD hS hA [0, 3] (by decide) rfl
        have hKc := hK.sub (tys' := [(cint, .int)]) [0] rfl
        refine va_calli (va_runV (As := []) (rest := []) ⟨hx, hb, hml, hown, hts⟩ (g_X4_pop_1 l dC dI h0 h3 h1 h2 cint H.size n0_size i_2_1 f_2_2 tn0_size (by show 0 ≤ (i_2_1 : Int32).toInt ∧ (i_2_1 : Int32).toInt ≤ 64; first | with_reducible assumption | (constructor <;> (omega)))) (cwV 0 hts gX4_gives_X4_pop rfl rfl rfl (by decide +kernel) ⟨Nat.le_of_ble_eq_true rfl, Nat.le_of_ble_eq_true rfl⟩) ⟨fun a U g mk q => by obtain ⟨q0, q1, qP, qK, qD⟩ := q; exact ⟨q0, q1, qP, va_K.moved (u := U) (U := U.calling g mk a) (Vm.Alike.refl U.vm) qK, qD⟩, va_recv hKc hPc (ci := 4) (q0 := 0) rfl rfl, fun U hU hW => ⟨rfl, by rw [hU], by rw [hU]; exact hPc, va_K.moved hW.alike hKc, hDc.weaken (fun _ _ _ _ => trivial)⟩⟩ rfl rfl hl.1 rfl (lv_room (Nat.le_of_ble_eq_true rfl)) dX4_gives_50 ⟨Nat.le_of_ble_eq_true rfl, Nat.le_of_ble_eq_true rfl⟩) hS (fun q _ h => hFc q h) hFc (fun r_18 u t H1 locs ht hvm hw hB hz1 hk1 hS => ?_)
        obtain ⟨y_19, by_19, v_19_0, hP1, hK1, hD1⟩ := hB
        have v_19_0 : kg_sT f_2_2 y_19.toInt = kg_tl (kg_sT f_2_2 i_2_1.toInt) := v_19_0
        rw [ht] at hP1
        have hK1 := va_K.moved hvm.symm hK1
        obtain ⟨hP, hD⟩ := va_join (wr := [(h1, Sum.inl (cint, 128, Sum.inl f1)), (h2, Sum.inl (cint, 8, Sum.inl f2))]) (w1 := [(h0, Sum.inr (4, [Value.ref h1, Value.int n0_size, Value.ref h2, Value.ref h3, Value.int y_19])), (h3, Sum.inl (cint, 64, Sum.inl f_2_2))]) hP hD [0, 3] [1, 2] rfl rfl (by decide) (by decide) hk1 hFc hP1 hD1
        generalize H1 = H at hP hS ⊢
        have hP : va_P (dC, dI) vwCl [(h1, Sum.inl (cint, 128, Sum.inl f1)), (h2, Sum.inl (cint, 8, Sum.inl f2)), (h0, Sum.inr (4, [Value.ref h1, Value.int n0_size, Value.ref h2, Value.ref h3, Value.int y_19])), (h3, Sum.inl (cint, 64, Sum.inl f_2_2))] H := hP
        have hD : va_D A [(h1, Sum.inl (cint, 128, Sum.inl f1)), (h2, Sum.inl (cint, 8, Sum.inl f2)), (h0, Sum.inr (4, [Value.ref h1, Value.int n0_size, Value.ref h2, Value.ref h3, Value.int y_19])), (h3, Sum.inl (cint, 64, Sum.inl f_2_2))] := hD
        rcases hw with ⟨t_18_0, _⟩
        · skip
          have t_18_0 : r_18.toInt = (kg_pop (kg_sT f_2_2 i_2_1.toInt)).toInt := t_18_0
          have hk_20 : r_18.toInt = (kg_run f2 (kg_sI f1 n0_size.toInt) false []).toInt := kg_ge (show kg_run f2 (kg_dI f1 i_2_0.toInt (n0_size.toInt - i_2_0.toInt)) (decide (i_2_3.toInt ≠ 0)) (kg_sT f_2_2 i_2_1.toInt) = kg_run f2 (kg_sI f1 n0_size.toInt) false [] from (by with_reducible assumption)) (by omega) (by omega) (by omega) (by omega) (show r_18.toInt = (kg_pop (kg_sT f_2_2 i_2_1.toInt)).toInt from (by with_reducible assumption))
          obtain ⟨hP9, hD9⟩ := kk_leafout (wc := [(h0, Sum.inr (4, [Value.ref h1, Value.int n0_size, Value.ref h2, Value.ref h3, Value.int y_19])), (h1, Sum.inl (cint, 128, Sum.inl f1)), (h2, Sum.inl (cint, 8, Sum.inl f2)), (h3, Sum.inl (cint, 64, Sum.inl f_2_2))]) hP hD [2, 0, 1, 3] (by decide) rfl
          have hK9 := hK.sub (tys' := []) [] rfl
          exact W.iret (v := r_18) hx hb hr (fun t ht hW => ⟨⟨r_18, (), rfl, ⟨(by with_reducible assumption), trivial⟩, y_19, f_2_2, (by show 0 ≤ (y_19 : Int32).toInt ∧ (y_19 : Int32).toInt ≤ 64; first | with_reducible assumption | (constructor <;> (omega))), by rw [ht]; exact hP9, va_K.moved hW.alike hK9, hD9⟩, hS.F ht⟩) hS.2.2 dX4_gives_53
    · have t_6 : i_2_3.toInt ≠ 0 := kk_ne c_6
      refine lv_iload_n hx hb dX4_gives_28 rfl (lv_at hl 0 rfl) ?_
      refine lv_bipush (v := 59) hx hb dX4_gives_29 (by decide) ?_
      refine lv_icmp_eq (tgt := 38) hx hb dX4_gives_31 (by decide) (fun c_21 => ?_) (fun c_21 => ?_)
      · have t_21 : (f1 (i_2_0 : Int32).toNatClampNeg).toInt = 59 := kk_eq c_21
        refine lv_iconst (v := 0) hx hb dX4_gives_38 (by decide) ?_
        refine lv_istore_n (lv' := [(1, .int 0), (3, .int (f1 (i_2_0 : Int32).toNatClampNeg)), (2, .int i_2_0), (0, .ref h0)]) hx hb dX4_gives_39 rfl hl (by decide) rfl (fun ls hl => ?_)
        refine lv_goto (tgt := 81) hx hb dX4_gives_40 (by decide) ?_
        refine lv_iinc (v := (i_2_0 + 1)) (lv' := [(2, .int (i_2_0 + 1)), (1, .int 0), (3, .int (f1 (i_2_0 : Int32).toNatClampNeg)), (0, .ref h0)]) hx hb dX4_gives_81 hl (k := 2) rfl (by first | rfl | decide) (by decide) rfl (fun ls hl => ?_)
        have hk_22 : kg_run f2 (kg_dI f1 (i_2_0 + 1).toInt (n0_size.toInt - (i_2_0 + 1).toInt)) (decide ((0 : Int) ≠ 0)) (kg_sT f_2_2 i_2_1.toInt) = kg_run f2 (kg_sI f1 n0_size.toInt) false [] := kg_gp (show kg_run f2 (kg_dI f1 i_2_0.toInt (n0_size.toInt - i_2_0.toInt)) (decide (i_2_3.toInt ≠ 0)) (kg_sT f_2_2 i_2_1.toInt) = kg_run f2 (kg_sI f1 n0_size.toInt) false [] from (by with_reducible assumption)) (by have := kk_add2 (x := i_2_0) (y := 1) (a := i_2_0.toInt) (b := 1) rfl rfl (by omega) (by omega); omega) (by have := kk_add2 (x := i_2_0) (y := 1) (a := i_2_0.toInt) (b := 1) rfl rfl (by omega) (by omega); omega) (by have := kk_add2 (x := i_2_0) (y := 1) (a := i_2_0.toInt) (b := 1) rfl rfl (by omega) (by omega); omega) (by have := kk_add2 (x := i_2_0) (y := 1) (a := i_2_0.toInt) (b := 1) rfl rfl (by omega) (by omega); omega) (by have := kk_add2 (x := i_2_0) (y := 1) (a := i_2_0.toInt) (b := 1) rfl rfl (by omega) (by omega); omega)
        refine lv_goto (tgt := 9) hx hb dX4_gives_84 (by decide) ?_
        exact ih_2 ((i_2_0 + 1), i_2_1, f_2_2, 0) _ _ _ (by show ((128 : Int) - ((i_2_0 + 1) : Int32).toInt).toNat < ((128 : Int) - i_2_0.toInt).toNat; have := kk_add2 (x := i_2_0) (y := 1) (a := i_2_0.toInt) (b := 1) rfl rfl (by omega) (by omega); exact kk_mu (by omega) (by omega)) ⟨(by show 0 ≤ ((i_2_0 + 1) : Int32).toInt ∧ ((i_2_0 + 1) : Int32).toInt ≤ 128; first | with_reducible assumption | (constructor <;> (have := kk_add2 (x := i_2_0) (y := 1) (a := i_2_0.toInt) (b := 1) rfl rfl (by omega) (by omega); omega))), (by show 0 ≤ (i_2_1 : Int32).toInt ∧ (i_2_1 : Int32).toInt ≤ 64; first | with_reducible assumption | (constructor <;> (have := kk_add2 (x := i_2_0) (y := 1) (a := i_2_0.toInt) (b := 1) rfl rfl (by omega) (by omega); omega))), (by show 0 ≤ (0 : Int32).toInt ∧ (0 : Int32).toInt ≤ 1; first | with_reducible assumption | decide | (constructor <;> (have := kk_add2 (x := i_2_0) (y := 1) (a := i_2_0.toInt) (b := 1) rfl rfl (by omega) (by omega); omega))), (by with_reducible assumption), hP, hD, hS, lv_sub hl [0, 1, 3] rfl⟩
      · have t_21 : (f1 (i_2_0 : Int32).toNatClampNeg).toInt ≠ 59 := kk_ne c_21
        refine lv_iconst (v := 1) hx hb dX4_gives_34 (by decide) ?_
        refine lv_goto (tgt := 39) hx hb dX4_gives_35 (by decide) ?_
        refine lv_istore_n (lv' := [(1, .int 1), (3, .int (f1 (i_2_0 : Int32).toNatClampNeg)), (2, .int i_2_0), (0, .ref h0)]) hx hb dX4_gives_39 rfl hl (by decide) rfl (fun ls hl => ?_)
        refine lv_goto (tgt := 81) hx hb dX4_gives_40 (by decide) ?_
        refine lv_iinc (v := (i_2_0 + 1)) (lv' := [(2, .int (i_2_0 + 1)), (1, .int 1), (3, .int (f1 (i_2_0 : Int32).toNatClampNeg)), (0, .ref h0)]) hx hb dX4_gives_81 hl (k := 2) rfl (by first | rfl | decide) (by decide) rfl (fun ls hl => ?_)
        have hk_23 : kg_run f2 (kg_dI f1 (i_2_0 + 1).toInt (n0_size.toInt - (i_2_0 + 1).toInt)) (decide ((1 : Int) ≠ 0)) (kg_sT f_2_2 i_2_1.toInt) = kg_run f2 (kg_sI f1 n0_size.toInt) false [] := kg_gp (show kg_run f2 (kg_dI f1 i_2_0.toInt (n0_size.toInt - i_2_0.toInt)) (decide (i_2_3.toInt ≠ 0)) (kg_sT f_2_2 i_2_1.toInt) = kg_run f2 (kg_sI f1 n0_size.toInt) false [] from (by with_reducible assumption)) (by have := kk_add2 (x := i_2_0) (y := 1) (a := i_2_0.toInt) (b := 1) rfl rfl (by omega) (by omega); omega) (by have := kk_add2 (x := i_2_0) (y := 1) (a := i_2_0.toInt) (b := 1) rfl rfl (by omega) (by omega); omega) (by have := kk_add2 (x := i_2_0) (y := 1) (a := i_2_0.toInt) (b := 1) rfl rfl (by omega) (by omega); omega) (by have := kk_add2 (x := i_2_0) (y := 1) (a := i_2_0.toInt) (b := 1) rfl rfl (by omega) (by omega); omega) (by have := kk_add2 (x := i_2_0) (y := 1) (a := i_2_0.toInt) (b := 1) rfl rfl (by omega) (by omega); omega)
        refine lv_goto (tgt := 9) hx hb dX4_gives_84 (by decide) ?_
        exact ih_2 ((i_2_0 + 1), i_2_1, f_2_2, 1) _ _ _ (by show ((128 : Int) - ((i_2_0 + 1) : Int32).toInt).toNat < ((128 : Int) - i_2_0.toInt).toNat; have := kk_add2 (x := i_2_0) (y := 1) (a := i_2_0.toInt) (b := 1) rfl rfl (by omega) (by omega); exact kk_mu (by omega) (by omega)) ⟨(by show 0 ≤ ((i_2_0 + 1) : Int32).toInt ∧ ((i_2_0 + 1) : Int32).toInt ≤ 128; first | with_reducible assumption | (constructor <;> (have := kk_add2 (x := i_2_0) (y := 1) (a := i_2_0.toInt) (b := 1) rfl rfl (by omega) (by omega); omega))), (by show 0 ≤ (i_2_1 : Int32).toInt ∧ (i_2_1 : Int32).toInt ≤ 64; first | with_reducible assumption | (constructor <;> (have := kk_add2 (x := i_2_0) (y := 1) (a := i_2_0.toInt) (b := 1) rfl rfl (by omega) (by omega); omega))), (by show 0 ≤ (1 : Int32).toInt ∧ (1 : Int32).toInt ≤ 1; first | with_reducible assumption | decide | (constructor <;> (have := kk_add2 (x := i_2_0) (y := 1) (a := i_2_0.toInt) (b := 1) rfl rfl (by omega) (by omega); omega))), (by with_reducible assumption), hP, hD, hS, lv_sub hl [0, 1, 3] rfl⟩
set_option maxHeartbeats 4000000 in
set_option maxRecDepth 100000 in
theorem g_X9_remove_1 (l : Launch) (dC : Nat → ClassId) (dI : Nat → Nat → Nat) (h0 : Nat) (h1 : Nat) (h2 : Nat) (h3 : Nat) (cint : ClassId) (sz : Nat) (p0 : Int32) (n0_size : Int32) (f1 : Nat → Int32) (f2 : Nat → Int32) (f3 : Nat → Int32) (tn0_size : 0 ≤ n0_size.toInt ∧ n0_size.toInt ≤ 40) (pr0 : 0 ≤ p0.toInt) (pr1 : p0.toInt < n0_size.toInt) : Met l yX9_remove wsX9_remove ({ frames := 1, cells := 0, slots := 0, locals := 21 }) (va_Pc [.ref h0, .int p0] (fun U => U.heap.size = sz ∧ va_P (dC, dI) vwCl [(h0, Sum.inr (9, [Value.ref h1, Value.ref h2, Value.ref h3, Value.int n0_size])), (h1, Sum.inl (cint, 40, Sum.inl f1)), (h2, Sum.inl (cint, 40, Sum.inl f2)), (h3, Sum.inl (cint, 40, Sum.inl f3))] U.heap ∧ va_K (dC, dI) vwCl [(cint, .int)] U ∧ va_D (fun _ => True) [(h0, Sum.inr (9, [Value.ref h1, Value.ref h2, Value.ref h3, Value.int n0_size])), (h1, Sum.inl (cint, 40, Sum.inl f1)), (h2, Sum.inl (cint, 40, Sum.inl f2)), (h3, Sum.inl (cint, 40, Sum.inl f3))])) (va_Qv (fun (_ : Unit) => True) (fun (_ : Unit) t => ∃ (m0_size : Int32) (g1 : Nat → Int32) (g2 : Nat → Int32) (g3 : Nat → Int32), (0 ≤ m0_size.toInt ∧ m0_size.toInt ≤ 40) ∧ (kt_rm f1 g1 p0.toInt n0_size.toInt) ∧ (kt_rm f2 g2 p0.toInt n0_size.toInt) ∧ (kt_rm f3 g3 p0.toInt n0_size.toInt) ∧ (m0_size.toInt = n0_size.toInt - 1) ∧ va_P (dC, dI) vwCl [(h0, Sum.inr (9, [Value.ref h1, Value.ref h2, Value.ref h3, Value.int m0_size])), (h1, Sum.inl (cint, 40, Sum.inl g1)), (h2, Sum.inl (cint, 40, Sum.inl g2)), (h3, Sum.inl (cint, 40, Sum.inl g3))] t.heap ∧ va_K (dC, dI) vwCl [] t ∧ va_D (va_A [(h0, Sum.inr (9, [Value.ref h1, Value.ref h2, Value.ref h3, Value.int n0_size])), (h1, Sum.inl (cint, 40, Sum.inl f1)), (h2, Sum.inl (cint, 40, Sum.inl f2)), (h3, Sum.inl (cint, 40, Sum.inl f3))] sz) [(h0, Sum.inr (9, [Value.ref h1, Value.ref h2, Value.ref h3, Value.int m0_size])), (h1, Sum.inl (cint, 40, Sum.inl g1)), (h2, Sum.inl (cint, 40, Sum.inl g2)), (h3, Sum.inl (cint, 40, Sum.inl g3))]) (va_A [(h0, Sum.inr (9, [Value.ref h1, Value.ref h2, Value.ref h3, Value.int n0_size])), (h1, Sum.inl (cint, 40, Sum.inl f1)), (h2, Sum.inl (cint, 40, Sum.inl f2)), (h3, Sum.inl (cint, 40, Sum.inl f3))] sz)) 0 0 (va_A [(h0, Sum.inr (9, [Value.ref h1, Value.ref h2, Value.ref h3, Value.int n0_size])), (h1, Sum.inl (cint, 40, Sum.inl f1)), (h2, Sum.inl (cint, 40, Sum.inl f2)), (h3, Sum.inl (cint, 40, Sum.inl f3))] sz) := by
  refine Met.ofW (cc := cX9_remove) (maxL := 3) (ret := none) (by decide) rfl ?_
  intro p e s m args below meth c s₁ B hml hv
  obtain ⟨rfl, hsz, hP, hK, hD0⟩ := hv
  have hx := B.exec
  have hb := B.bytes
  have hr := B.returns
  have hts := atoms_spec (ws := wsX9_remove) B.pre
  have hown : s.vm.findClass RX9 = some m.cls := findClass_of_methodNamed B.named
  have hlocks := B.notSynchronized
  subst hsz
  have hD := hD0.self (sz := s.heap.size)
  generalize hAe : va_A [(h0, Sum.inr (9, [Value.ref h1, Value.ref h2, Value.ref h3, Value.int n0_size])), (h1, Sum.inl (cint, 40, Sum.inl f1)), (h2, Sum.inl (cint, 40, Sum.inl f2)), (h3, Sum.inl (cint, 40, Sum.inl f3))] s.heap.size = A at hD ⊢
  have hA : ∀ q : Nat, s.heap.size ≤ q → A q := fun q h => by rw [← hAe]; exact Or.inr h
  have hS : va_S A s.heap s.heap [] := va_S.rf
  have hP : va_P (dC, dI) vwCl [(h0, Sum.inr (9, [Value.ref h1, Value.ref h2, Value.ref h3, Value.int n0_size])), (h1, Sum.inl (cint, 40, Sum.inl f1)), (h2, Sum.inl (cint, 40, Sum.inl f2)), (h3, Sum.inl (cint, 40, Sum.inl f3))] s.heap := hP
  have hl := lv_entry ([.ref h0, .int p0]) (n := 3) (Nat.le_of_ble_eq_true rfl)
  rw [lg_entry_eq]
  generalize (lg_sl ([.ref h0, .int p0]) ++ List.replicate (3 - (lg_sl ([.ref h0, .int p0])).length) Slot.unset).toArray = ls at hl ⊢
  have hl : lv_has ls 3 [(0, .ref h0), (1, .int p0)] := hl
  refine lv_aload_n hx hb dX9_remove_0 rfl (lv_at hl 0 rfl) ?_
  refine lv_iload_n hx hb dX9_remove_1 rfl (lv_at hl 1 rfl) ?_
  obtain ⟨hPc, hDc, hFc⟩ := kk_cutout (wc := [(h0, Sum.inr (9, [Value.ref h1, Value.ref h2, Value.ref h3, Value.int n0_size]))]) hP hD hS hA [0] (by decide) rfl
  have hKc := hK.sub (tys' := []) [] rfl
  refine va_calli (va_runV (As := [.int p0]) (rest := []) ⟨hx, hb, hml, hown, hts⟩ (g_X9_has_1 l dC dI h0 h1 h2 h3 s.heap.size p0 n0_size tn0_size) (cwV 1 hts gX9_remove_X9_has rfl rfl rfl (by decide +kernel) ⟨Nat.le_of_ble_eq_true rfl, Nat.le_of_ble_eq_true rfl⟩) ⟨fun a U g mk q => by obtain ⟨q0, q1, qP, qK, qD⟩ := q; exact ⟨q0, q1, qP, va_K.moved (u := U) (U := U.calling g mk a) (Vm.Alike.refl U.vm) qK, qD⟩, va_recv hKc hPc (ci := 9) (q0 := 0) rfl rfl, fun U hU hW => ⟨rfl, by rw [hU], by rw [hU]; exact hPc, va_K.moved hW.alike hKc, hDc.weaken (fun _ _ _ _ => trivial)⟩⟩ rfl rfl hl.1 rfl (lv_room (Nat.le_of_ble_eq_true rfl)) dX9_remove_2 ⟨Nat.le_of_ble_eq_true rfl, Nat.le_of_ble_eq_true rfl⟩) hS (fun q _ h => hFc q h) hFc (fun r_1 u t H1 locs ht hvm hw hB hz1 hk1 hS => ?_)
  obtain ⟨hP1, hK1, hD1⟩ := hB
  rw [ht] at hP1
  have hK1 := va_K.moved hvm.symm hK1
  obtain ⟨hP, hD⟩ := va_join (wr := [(h1, Sum.inl (cint, 40, Sum.inl f1)), (h2, Sum.inl (cint, 40, Sum.inl f2)), (h3, Sum.inl (cint, 40, Sum.inl f3))]) (w1 := [(h0, Sum.inr (9, [Value.ref h1, Value.ref h2, Value.ref h3, Value.int n0_size]))]) hP hD [0] [1, 2, 3] rfl rfl (by decide) (by decide) hk1 hFc hP1 hD1
  generalize H1 = H at hP hS ⊢
  have hP : va_P (dC, dI) vwCl [(h1, Sum.inl (cint, 40, Sum.inl f1)), (h2, Sum.inl (cint, 40, Sum.inl f2)), (h3, Sum.inl (cint, 40, Sum.inl f3)), (h0, Sum.inr (9, [Value.ref h1, Value.ref h2, Value.ref h3, Value.int n0_size]))] H := hP
  have hD : va_D A [(h1, Sum.inl (cint, 40, Sum.inl f1)), (h2, Sum.inl (cint, 40, Sum.inl f2)), (h3, Sum.inl (cint, 40, Sum.inl f3)), (h0, Sum.inr (9, [Value.ref h1, Value.ref h2, Value.ref h3, Value.int n0_size]))] := hD
  rcases hw with ⟨t_1_0, rfl⟩ | ⟨t_1_0, t_1_1, t_1_2, rfl⟩
  · skip
    have t_1_0 : (p0.toInt < 0 ∨ n0_size.toInt ≤ p0.toInt) := t_1_0
    refine lv_if_ne (tgt := 9) hx hb dX9_remove_5 (by decide) (fun c => absurd c (by decide)) (fun _ => ?_)
    obtain ⟨hP9, hD9⟩ := kk_leafout (wc := [(h0, Sum.inr (9, [Value.ref h1, Value.ref h2, Value.ref h3, Value.int n0_size])), (h1, Sum.inl (cint, 40, Sum.inl f1)), (h2, Sum.inl (cint, 40, Sum.inl f2)), (h3, Sum.inl (cint, 40, Sum.inl f3))]) hP hD [3, 0, 1, 2] (by decide) rfl
    have hK9 := hK.sub (tys' := []) [] rfl
    exact W.vret hx hb hr (fun t ht hW => ⟨⟨(), rfl, trivial, n0_size, f1, f2, f3, tn0_size, (by first | with_reducible assumption | (exfalso; omega)), (by first | with_reducible assumption | (exfalso; omega)), (by first | with_reducible assumption | (exfalso; omega)), (by show (n0_size : Int32).toInt = (n0_size : Int32).toInt - 1; first | with_reducible assumption | (omega)), by rw [ht]; exact hP9, va_K.moved hW.alike hK9, hD9⟩, hS.F ht⟩) hS.2.2 dX9_remove_8
  · skip
    have t_1_0 : (0 : Int) ≤ p0.toInt := t_1_0
    have t_1_2 : (p0.toInt : Int) ≤ 39 := t_1_2
    refine lv_if_ne (tgt := 9) hx hb dX9_remove_5 (by decide) (fun _ => ?_) (fun c => absurd c (by decide))
    refine lv_iload_n hx hb dX9_remove_9 rfl (lv_at hl 1 rfl) ?_
    refine lv_iconst (v := 1) hx hb dX9_remove_10 (by decide) ?_
    refine lv_iadd hx hb dX9_remove_11 ?_
    have hk_2 : kt_dnw f1 f1 p0.toInt (p0 + 1).toInt := kt_dnw_0 (by have := kk_add2 (x := p0) (y := 1) (a := p0.toInt) (b := 1) rfl rfl (by omega) (by omega); omega)
    have hk_3 : kt_dnw f2 f2 p0.toInt (p0 + 1).toInt := kt_dnw_0 (by have := kk_add2 (x := p0) (y := 1) (a := p0.toInt) (b := 1) rfl rfl (by omega) (by omega); omega)
    have hk_4 : kt_dnw f3 f3 p0.toInt (p0 + 1).toInt := kt_dnw_0 (by have := kk_add2 (x := p0) (y := 1) (a := p0.toInt) (b := 1) rfl rfl (by omega) (by omega); omega)
    refine lv_istore_n (lv' := [(2, .int (p0 + 1)), (0, .ref h0), (1, .int p0)]) hx hb dX9_remove_12 rfl hl (by decide) rfl (fun ls hl => ?_)
    refine kk_loop (σ := Int32 × (Nat → Int32) × (Nat → Int32) × (Nat → Int32)) (fun x H locs ls => (1 ≤ x.1.toInt ∧ x.1.toInt ≤ 40) ∧ (p0 + 1).toInt ≤ x.1.toInt ∧ kt_dnw x.2.1 f1 p0.toInt x.1.toInt ∧ kt_dnw x.2.2.1 f2 p0.toInt x.1.toInt ∧ kt_dnw x.2.2.2 f3 p0.toInt x.1.toInt ∧ p0.toInt < x.1.toInt ∧ x.1.toInt ≤ n0_size.toInt ∧ va_P (dC, dI) vwCl [(h1, Sum.inl (cint, 40, Sum.inl x.2.1)), (h2, Sum.inl (cint, 40, Sum.inl x.2.2.1)), (h3, Sum.inl (cint, 40, Sum.inl x.2.2.2)), (h0, Sum.inr (9, [Value.ref h1, Value.ref h2, Value.ref h3, Value.int n0_size]))] H ∧ va_D A [(h1, Sum.inl (cint, 40, Sum.inl x.2.1)), (h2, Sum.inl (cint, 40, Sum.inl x.2.2.1)), (h3, Sum.inl (cint, 40, Sum.inl x.2.2.2)), (h0, Sum.inr (9, [Value.ref h1, Value.ref h2, Value.ref h3, Value.int n0_size]))] ∧ va_S A s.heap H locs ∧ lv_has ls 3 [(2, .int x.1), (0, .ref h0), (1, .int p0)]) (fun x => ((40 : Int) - x.1.toInt).toNat) ?_ ((p0 + 1), f1, f2, f3) _ _ _ ⟨(by show 1 ≤ ((p0 + 1) : Int32).toInt ∧ ((p0 + 1) : Int32).toInt ≤ 40; first | with_reducible assumption | (constructor <;> (have := kk_add2 (x := p0) (y := 1) (a := p0.toInt) (b := 1) rfl rfl (by omega) (by omega); omega))), (by show ((p0 + 1) : Int32).toInt ≤ ((p0 + 1) : Int32).toInt; first | with_reducible assumption | (have := kk_add2 (x := p0) (y := 1) (a := p0.toInt) (b := 1) rfl rfl (by omega) (by omega); omega)), (by with_reducible assumption), (by with_reducible assumption), (by with_reducible assumption), (by show (p0 : Int32).toInt < ((p0 + 1) : Int32).toInt; first | with_reducible assumption | (have := kk_add2 (x := p0) (y := 1) (a := p0.toInt) (b := 1) rfl rfl (by omega) (by omega); omega)), (by show ((p0 + 1) : Int32).toInt ≤ (n0_size : Int32).toInt; first | with_reducible assumption | (have := kk_add2 (x := p0) (y := 1) (a := p0.toInt) (b := 1) rfl rfl (by omega) (by omega); omega)), hP, hD, hS, hl⟩
    rintro ⟨i_5_0, f_5_1, f_5_2, f_5_3⟩ H locs ls ⟨t_5_0, z_5_0, z_5_1, z_5_2, z_5_3, z_5_4, z_5_5, hP, hD, hS, hl⟩ ih_5
    have t_5_0 : (1 ≤ i_5_0.toInt ∧ i_5_0.toInt ≤ 40) := t_5_0
    have z_5_0 : (p0 + 1).toInt ≤ i_5_0.toInt := z_5_0
    have z_5_1 : kt_dnw f_5_1 f1 p0.toInt i_5_0.toInt := z_5_1
    have z_5_2 : kt_dnw f_5_2 f2 p0.toInt i_5_0.toInt := z_5_2
    have z_5_3 : kt_dnw f_5_3 f3 p0.toInt i_5_0.toInt := z_5_3
    have z_5_4 : p0.toInt < i_5_0.toInt := z_5_4
    have z_5_5 : i_5_0.toInt ≤ n0_size.toInt := z_5_5
    have hl : lv_has ls 3 [(2, .int i_5_0), (0, .ref h0), (1, .int p0)] := hl
    have hP : va_P (dC, dI) vwCl [(h1, Sum.inl (cint, 40, Sum.inl f_5_1)), (h2, Sum.inl (cint, 40, Sum.inl f_5_2)), (h3, Sum.inl (cint, 40, Sum.inl f_5_3)), (h0, Sum.inr (9, [Value.ref h1, Value.ref h2, Value.ref h3, Value.int n0_size]))] H := hP
    have hD : va_D A [(h1, Sum.inl (cint, 40, Sum.inl f_5_1)), (h2, Sum.inl (cint, 40, Sum.inl f_5_2)), (h3, Sum.inl (cint, 40, Sum.inl f_5_3)), (h0, Sum.inr (9, [Value.ref h1, Value.ref h2, Value.ref h3, Value.int n0_size]))] := hD
    refine lv_iload_n hx hb dX9_remove_13 rfl (lv_at hl 0 rfl) ?_
    refine lv_aload_n hx hb dX9_remove_14 rfl (lv_at hl 1 rfl) ?_
    refine va_get (D := (dC, dI)) (ci := 9) (v := .int n0_size) (C := RX9) (T := TX9) (N := 4) hx hb hts (fun _ h => List.mem_cons_of_mem _ (List.mem_append_right _ h)) hown hK hP 3 rfl rfl 3 (by decide) (hts (.fieldLink RX9 21 "KinkStreet$Street" "size" "I") (List.mem_of_getElem? (i := 1) rfl)) (fun _ h9 => h9) rfl dX9_remove_15 ?_
    refine lv_icmp_ge (tgt := 69) hx hb dX9_remove_18 (by decide) (fun c_6 => ?_) (fun c_6 => ?_)
    · have t_6 : n0_size.toInt ≤ i_5_0.toInt := kk_le c_6
      have hk_7 : kt_rm f1 f_5_1 p0.toInt n0_size.toInt := kt_rm_e (show kt_dnw f_5_1 f1 p0.toInt i_5_0.toInt from (by with_reducible assumption)) (by have := kk_add2 (x := p0) (y := 1) (a := p0.toInt) (b := 1) rfl rfl (by omega) (by omega); omega)
      have hk_8 : kt_rm f2 f_5_2 p0.toInt n0_size.toInt := kt_rm_e (show kt_dnw f_5_2 f2 p0.toInt i_5_0.toInt from (by with_reducible assumption)) (by have := kk_add2 (x := p0) (y := 1) (a := p0.toInt) (b := 1) rfl rfl (by omega) (by omega); omega)
      have hk_9 : kt_rm f3 f_5_3 p0.toInt n0_size.toInt := kt_rm_e (show kt_dnw f_5_3 f3 p0.toInt i_5_0.toInt from (by with_reducible assumption)) (by have := kk_add2 (x := p0) (y := 1) (a := p0.toInt) (b := 1) rfl rfl (by omega) (by omega); omega)
      refine lv_aload_n hx hb dX9_remove_69 rfl (lv_at hl 1 rfl) ?_
      refine lv_dup hx hb dX9_remove_70 rfl ?_
      refine va_get (D := (dC, dI)) (ci := 9) (v := .int n0_size) (C := RX9) (T := TX9) (N := 4) hx hb hts (fun _ h => List.mem_cons_of_mem _ (List.mem_append_right _ h)) hown hK hP 3 rfl rfl 3 (by decide) (hts (.fieldLink RX9 21 "KinkStreet$Street" "size" "I") (List.mem_of_getElem? (i := 1) rfl)) (fun _ h9 => h9) rfl dX9_remove_71 ?_
      refine lv_iconst (v := 1) hx hb dX9_remove_74 (by decide) ?_
      refine lv_isub hx hb dX9_remove_75 ?_
      refine va_put (D := (dC, dI)) (ci := 9) (v := .int (n0_size - 1)) (ty := .int) (C := RX9) (T := TX9) (N := 4) hx hb hts (fun _ h => List.mem_cons_of_mem _ (List.mem_append_right _ h)) tyX9 tyX9_ok nmX9 hown hK hP hD hS 3 rfl rfl 3 (by decide) (hts (.fieldLink RX9 21 "KinkStreet$Street" "size" "I") (List.mem_of_getElem? (i := 1) rfl)) (fun _ h9 => h9) rfl (by decide +kernel) rfl rfl (Nat.le_of_ble_eq_true rfl) dX9_remove_76 (fun H locs hP hD hS => ?_)
      have hP : va_P (dC, dI) vwCl [(h1, Sum.inl (cint, 40, Sum.inl f_5_1)), (h2, Sum.inl (cint, 40, Sum.inl f_5_2)), (h3, Sum.inl (cint, 40, Sum.inl f_5_3)), (h0, Sum.inr (9, [Value.ref h1, Value.ref h2, Value.ref h3, Value.int (n0_size - 1)]))] H := hP
      have hD : va_D A [(h1, Sum.inl (cint, 40, Sum.inl f_5_1)), (h2, Sum.inl (cint, 40, Sum.inl f_5_2)), (h3, Sum.inl (cint, 40, Sum.inl f_5_3)), (h0, Sum.inr (9, [Value.ref h1, Value.ref h2, Value.ref h3, Value.int (n0_size - 1)]))] := hD
      obtain ⟨hP9, hD9⟩ := kk_leafout (wc := [(h0, Sum.inr (9, [Value.ref h1, Value.ref h2, Value.ref h3, Value.int (n0_size - 1)])), (h1, Sum.inl (cint, 40, Sum.inl f_5_1)), (h2, Sum.inl (cint, 40, Sum.inl f_5_2)), (h3, Sum.inl (cint, 40, Sum.inl f_5_3))]) hP hD [3, 0, 1, 2] (by decide) rfl
      have hK9 := hK.sub (tys' := []) [] rfl
      exact W.vret hx hb hr (fun t ht hW => ⟨⟨(), rfl, trivial, (n0_size - 1), f_5_1, f_5_2, f_5_3, (by show 0 ≤ ((n0_size - 1) : Int32).toInt ∧ ((n0_size - 1) : Int32).toInt ≤ 40; first | with_reducible assumption | (constructor <;> (have := kk_add2 (x := p0) (y := 1) (a := p0.toInt) (b := 1) rfl rfl (by omega) (by omega); have := kk_sub2 (x := n0_size) (y := 1) (a := n0_size.toInt) (b := 1) rfl rfl (by omega) (by omega); omega))), (by first | with_reducible assumption | (exfalso; have := kk_add2 (x := p0) (y := 1) (a := p0.toInt) (b := 1) rfl rfl (by omega) (by omega); have := kk_sub2 (x := n0_size) (y := 1) (a := n0_size.toInt) (b := 1) rfl rfl (by omega) (by omega); omega)), (by first | with_reducible assumption | (exfalso; have := kk_add2 (x := p0) (y := 1) (a := p0.toInt) (b := 1) rfl rfl (by omega) (by omega); have := kk_sub2 (x := n0_size) (y := 1) (a := n0_size.toInt) (b := 1) rfl rfl (by omega) (by omega); omega)), (by first | with_reducible assumption | (exfalso; have := kk_add2 (x := p0) (y := 1) (a := p0.toInt) (b := 1) rfl rfl (by omega) (by omega); have := kk_sub2 (x := n0_size) (y := 1) (a := n0_size.toInt) (b := 1) rfl rfl (by omega) (by omega); omega)), (by show ((n0_size - 1) : Int32).toInt = (n0_size : Int32).toInt - 1; first | with_reducible assumption | (have := kk_add2 (x := p0) (y := 1) (a := p0.toInt) (b := 1) rfl rfl (by omega) (by omega); have := kk_sub2 (x := n0_size) (y := 1) (a := n0_size.toInt) (b := 1) rfl rfl (by omega) (by omega); omega)), by rw [ht]; exact hP9, va_K.moved hW.alike hK9, hD9⟩, hS.F ht⟩) hS.2.2 dX9_remove_79
    · have t_6 : i_5_0.toInt < n0_size.toInt := kk_nle c_6
      refine lv_aload_n hx hb dX9_remove_21 rfl (lv_at hl 1 rfl) ?_
      refine va_get (D := (dC, dI)) (ci := 9) (v := .ref h1) (C := RX9) (T := TX9) (N := 4) hx hb hts (fun _ h => List.mem_cons_of_mem _ (List.mem_append_right _ h)) hown hK hP 3 rfl rfl 0 (by decide) (hts (.fieldLink RX9 9 "KinkStreet$Street" "widths" "[I") (List.mem_of_getElem? (i := 2) rfl)) (fun _ h9 => h9) rfl dX9_remove_22 ?_
      refine lv_iload_n hx hb dX9_remove_25 rfl (lv_at hl 0 rfl) ?_
      refine lv_iconst (v := 1) hx hb dX9_remove_26 (by decide) ?_
      refine lv_isub hx hb dX9_remove_27 ?_
      refine lv_aload_n hx hb dX9_remove_28 rfl (lv_at hl 1 rfl) ?_
      refine va_get (D := (dC, dI)) (ci := 9) (v := .ref h1) (C := RX9) (T := TX9) (N := 4) hx hb hts (fun _ h => List.mem_cons_of_mem _ (List.mem_append_right _ h)) hown hK hP 3 rfl rfl 0 (by decide) (hts (.fieldLink RX9 9 "KinkStreet$Street" "widths" "[I") (List.mem_of_getElem? (i := 2) rfl)) (fun _ h9 => h9) rfl dX9_remove_29 ?_
      refine lv_iload_n hx hb dX9_remove_32 rfl (lv_at hl 0 rfl) ?_
      have hi_10 : vp_in i_5_0 40 := (vp_in_iff.mpr ⟨by have := kk_add2 (x := p0) (y := 1) (a := p0.toInt) (b := 1) rfl rfl (by omega) (by omega); have := kk_sub2 (x := i_5_0) (y := 1) (a := i_5_0.toInt) (b := 1) rfl rfl (by omega) (by omega); omega, by have := kk_add2 (x := p0) (y := 1) (a := p0.toInt) (b := 1) rfl rfl (by omega) (by omega); have := kk_sub2 (x := i_5_0) (y := 1) (a := i_5_0.toInt) (b := 1) rfl rfl (by omega) (by omega); omega⟩)
      refine va_iald hx hb hK hP 0 0 rfl rfl hi_10 dX9_remove_33 ?_
      refine lv_topi (fun y_10 e_10 => ?_)
      obtain rfl : y_10 = (f_5_1 (i_5_0 : Int32).toNatClampNeg) := e_10
      refine va_iast hx hb hK hP hD hS 0 0 rfl rfl (vp_in_iff.mpr ⟨by have := kk_add2 (x := p0) (y := 1) (a := p0.toInt) (b := 1) rfl rfl (by omega) (by omega); have := kk_sub2 (x := i_5_0) (y := 1) (a := i_5_0.toInt) (b := 1) rfl rfl (by omega) (by omega); omega, by have := kk_add2 (x := p0) (y := 1) (a := p0.toInt) (b := 1) rfl rfl (by omega) (by omega); have := kk_sub2 (x := i_5_0) (y := 1) (a := i_5_0.toInt) (b := 1) rfl rfl (by omega) (by omega); omega⟩) dX9_remove_34 (fun H locs hP hD hS => ?_)
      have w_11 : ((upd f_5_1 ((i_5_0 - 1) : Int32).toNatClampNeg (f_5_1 (i_5_0 : Int32).toNatClampNeg)) ((i_5_0 - 1) : Int32).toNatClampNeg).toInt = ((f_5_1 (i_5_0 : Int32).toNatClampNeg) : Int32).toInt := by rw [kk_ups]
      have hP : va_P (dC, dI) vwCl [(h1, Sum.inl (cint, 40, Sum.inl (upd f_5_1 ((i_5_0 - 1) : Int32).toNatClampNeg (f_5_1 (i_5_0 : Int32).toNatClampNeg)))), (h2, Sum.inl (cint, 40, Sum.inl f_5_2)), (h3, Sum.inl (cint, 40, Sum.inl f_5_3)), (h0, Sum.inr (9, [Value.ref h1, Value.ref h2, Value.ref h3, Value.int n0_size]))] H := hP
      have hD : va_D A [(h1, Sum.inl (cint, 40, Sum.inl (upd f_5_1 ((i_5_0 - 1) : Int32).toNatClampNeg (f_5_1 (i_5_0 : Int32).toNatClampNeg)))), (h2, Sum.inl (cint, 40, Sum.inl f_5_2)), (h3, Sum.inl (cint, 40, Sum.inl f_5_3)), (h0, Sum.inr (9, [Value.ref h1, Value.ref h2, Value.ref h3, Value.int n0_size]))] := hD
      refine lv_aload_n hx hb dX9_remove_35 rfl (lv_at hl 1 rfl) ?_
      refine va_get (D := (dC, dI)) (ci := 9) (v := .ref h2) (C := RX9) (T := TX9) (N := 4) hx hb hts (fun _ h => List.mem_cons_of_mem _ (List.mem_append_right _ h)) hown hK hP 3 rfl rfl 1 (by decide) (hts (.fieldLink RX9 15 "KinkStreet$Street" "depths" "[I") (List.mem_of_getElem? (i := 3) rfl)) (fun _ h9 => h9) rfl dX9_remove_36 ?_
      refine lv_iload_n hx hb dX9_remove_39 rfl (lv_at hl 0 rfl) ?_
      refine lv_iconst (v := 1) hx hb dX9_remove_40 (by decide) ?_
      refine lv_isub hx hb dX9_remove_41 ?_
      refine lv_aload_n hx hb dX9_remove_42 rfl (lv_at hl 1 rfl) ?_
      refine va_get (D := (dC, dI)) (ci := 9) (v := .ref h2) (C := RX9) (T := TX9) (N := 4) hx hb hts (fun _ h => List.mem_cons_of_mem _ (List.mem_append_right _ h)) hown hK hP 3 rfl rfl 1 (by decide) (hts (.fieldLink RX9 15 "KinkStreet$Street" "depths" "[I") (List.mem_of_getElem? (i := 3) rfl)) (fun _ h9 => h9) rfl dX9_remove_43 ?_
      refine lv_iload_n hx hb dX9_remove_46 rfl (lv_at hl 0 rfl) ?_
      have hi_12 : vp_in i_5_0 40 := (vp_in_iff.mpr ⟨by have := kk_add2 (x := p0) (y := 1) (a := p0.toInt) (b := 1) rfl rfl (by omega) (by omega); have := kk_sub2 (x := i_5_0) (y := 1) (a := i_5_0.toInt) (b := 1) rfl rfl (by omega) (by omega); omega, by have := kk_add2 (x := p0) (y := 1) (a := p0.toInt) (b := 1) rfl rfl (by omega) (by omega); have := kk_sub2 (x := i_5_0) (y := 1) (a := i_5_0.toInt) (b := 1) rfl rfl (by omega) (by omega); omega⟩)
      refine va_iald hx hb hK hP 1 0 rfl rfl hi_12 dX9_remove_47 ?_
      refine lv_topi (fun y_12 e_12 => ?_)
      obtain rfl : y_12 = (f_5_2 (i_5_0 : Int32).toNatClampNeg) := e_12
      refine va_iast hx hb hK hP hD hS 1 0 rfl rfl (vp_in_iff.mpr ⟨by have := kk_add2 (x := p0) (y := 1) (a := p0.toInt) (b := 1) rfl rfl (by omega) (by omega); have := kk_sub2 (x := i_5_0) (y := 1) (a := i_5_0.toInt) (b := 1) rfl rfl (by omega) (by omega); omega, by have := kk_add2 (x := p0) (y := 1) (a := p0.toInt) (b := 1) rfl rfl (by omega) (by omega); have := kk_sub2 (x := i_5_0) (y := 1) (a := i_5_0.toInt) (b := 1) rfl rfl (by omega) (by omega); omega⟩) dX9_remove_48 (fun H locs hP hD hS => ?_)
      have w_13 : ((upd f_5_2 ((i_5_0 - 1) : Int32).toNatClampNeg (f_5_2 (i_5_0 : Int32).toNatClampNeg)) ((i_5_0 - 1) : Int32).toNatClampNeg).toInt = ((f_5_2 (i_5_0 : Int32).toNatClampNeg) : Int32).toInt := by rw [kk_ups]
      have hP : va_P (dC, dI) vwCl [(h1, Sum.inl (cint, 40, Sum.inl (upd f_5_1 ((i_5_0 - 1) : Int32).toNatClampNeg (f_5_1 (i_5_0 : Int32).toNatClampNeg)))), (h2, Sum.inl (cint, 40, Sum.inl (upd f_5_2 ((i_5_0 - 1) : Int32).toNatClampNeg (f_5_2 (i_5_0 : Int32).toNatClampNeg)))), (h3, Sum.inl (cint, 40, Sum.inl f_5_3)), (h0, Sum.inr (9, [Value.ref h1, Value.ref h2, Value.ref h3, Value.int n0_size]))] H := hP
      have hD : va_D A [(h1, Sum.inl (cint, 40, Sum.inl (upd f_5_1 ((i_5_0 - 1) : Int32).toNatClampNeg (f_5_1 (i_5_0 : Int32).toNatClampNeg)))), (h2, Sum.inl (cint, 40, Sum.inl (upd f_5_2 ((i_5_0 - 1) : Int32).toNatClampNeg (f_5_2 (i_5_0 : Int32).toNatClampNeg)))), (h3, Sum.inl (cint, 40, Sum.inl f_5_3)), (h0, Sum.inr (9, [Value.ref h1, Value.ref h2, Value.ref h3, Value.int n0_size]))] := hD
      refine lv_aload_n hx hb dX9_remove_49 rfl (lv_at hl 1 rfl) ?_
      refine va_get (D := (dC, dI)) (ci := 9) (v := .ref h3) (C := RX9) (T := TX9) (N := 4) hx hb hts (fun _ h => List.mem_cons_of_mem _ (List.mem_append_right _ h)) hown hK hP 3 rfl rfl 2 (by decide) (hts (.fieldLink RX9 18 "KinkStreet$Street" "asides" "[I") (List.mem_of_getElem? (i := 4) rfl)) (fun _ h9 => h9) rfl dX9_remove_50 ?_
      refine lv_iload_n hx hb dX9_remove_53 rfl (lv_at hl 0 rfl) ?_
      refine lv_iconst (v := 1) hx hb dX9_remove_54 (by decide) ?_
      refine lv_isub hx hb dX9_remove_55 ?_
      refine lv_aload_n hx hb dX9_remove_56 rfl (lv_at hl 1 rfl) ?_
      refine va_get (D := (dC, dI)) (ci := 9) (v := .ref h3) (C := RX9) (T := TX9) (N := 4) hx hb hts (fun _ h => List.mem_cons_of_mem _ (List.mem_append_right _ h)) hown hK hP 3 rfl rfl 2 (by decide) (hts (.fieldLink RX9 18 "KinkStreet$Street" "asides" "[I") (List.mem_of_getElem? (i := 4) rfl)) (fun _ h9 => h9) rfl dX9_remove_57 ?_
      refine lv_iload_n hx hb dX9_remove_60 rfl (lv_at hl 0 rfl) ?_
      have hi_14 : vp_in i_5_0 40 := (vp_in_iff.mpr ⟨by have := kk_add2 (x := p0) (y := 1) (a := p0.toInt) (b := 1) rfl rfl (by omega) (by omega); have := kk_sub2 (x := i_5_0) (y := 1) (a := i_5_0.toInt) (b := 1) rfl rfl (by omega) (by omega); omega, by have := kk_add2 (x := p0) (y := 1) (a := p0.toInt) (b := 1) rfl rfl (by omega) (by omega); have := kk_sub2 (x := i_5_0) (y := 1) (a := i_5_0.toInt) (b := 1) rfl rfl (by omega) (by omega); omega⟩)
      refine va_iald hx hb hK hP 2 0 rfl rfl hi_14 dX9_remove_61 ?_
      refine lv_topi (fun y_14 e_14 => ?_)
      obtain rfl : y_14 = (f_5_3 (i_5_0 : Int32).toNatClampNeg) := e_14
      refine va_iast hx hb hK hP hD hS 2 0 rfl rfl (vp_in_iff.mpr ⟨by have := kk_add2 (x := p0) (y := 1) (a := p0.toInt) (b := 1) rfl rfl (by omega) (by omega); have := kk_sub2 (x := i_5_0) (y := 1) (a := i_5_0.toInt) (b := 1) rfl rfl (by omega) (by omega); omega, by have := kk_add2 (x := p0) (y := 1) (a := p0.toInt) (b := 1) rfl rfl (by omega) (by omega); have := kk_sub2 (x := i_5_0) (y := 1) (a := i_5_0.toInt) (b := 1) rfl rfl (by omega) (by omega); omega⟩) dX9_remove_62 (fun H locs hP hD hS => ?_)
      have w_15 : ((upd f_5_3 ((i_5_0 - 1) : Int32).toNatClampNeg (f_5_3 (i_5_0 : Int32).toNatClampNeg)) ((i_5_0 - 1) : Int32).toNatClampNeg).toInt = ((f_5_3 (i_5_0 : Int32).toNatClampNeg) : Int32).toInt := by rw [kk_ups]
      have hP : va_P (dC, dI) vwCl [(h1, Sum.inl (cint, 40, Sum.inl (upd f_5_1 ((i_5_0 - 1) : Int32).toNatClampNeg (f_5_1 (i_5_0 : Int32).toNatClampNeg)))), (h2, Sum.inl (cint, 40, Sum.inl (upd f_5_2 ((i_5_0 - 1) : Int32).toNatClampNeg (f_5_2 (i_5_0 : Int32).toNatClampNeg)))), (h3, Sum.inl (cint, 40, Sum.inl (upd f_5_3 ((i_5_0 - 1) : Int32).toNatClampNeg (f_5_3 (i_5_0 : Int32).toNatClampNeg)))), (h0, Sum.inr (9, [Value.ref h1, Value.ref h2, Value.ref h3, Value.int n0_size]))] H := hP
      have hD : va_D A [(h1, Sum.inl (cint, 40, Sum.inl (upd f_5_1 ((i_5_0 - 1) : Int32).toNatClampNeg (f_5_1 (i_5_0 : Int32).toNatClampNeg)))), (h2, Sum.inl (cint, 40, Sum.inl (upd f_5_2 ((i_5_0 - 1) : Int32).toNatClampNeg (f_5_2 (i_5_0 : Int32).toNatClampNeg)))), (h3, Sum.inl (cint, 40, Sum.inl (upd f_5_3 ((i_5_0 - 1) : Int32).toNatClampNeg (f_5_3 (i_5_0 : Int32).toNatClampNeg)))), (h0, Sum.inr (9, [Value.ref h1, Value.ref h2, Value.ref h3, Value.int n0_size]))] := hD
      refine lv_iinc (v := (i_5_0 + 1)) (lv' := [(2, .int (i_5_0 + 1)), (0, .ref h0), (1, .int p0)]) hx hb dX9_remove_63 hl (k := 0) rfl (by first | rfl | decide) (by decide) rfl (fun ls hl => ?_)
      have hk_16 : kt_dnw (upd f_5_1 ((i_5_0 - 1) : Int32).toNatClampNeg (f_5_1 (i_5_0 : Int32).toNatClampNeg)) f1 p0.toInt (i_5_0 + 1).toInt := kt_dnw_s (show kt_dnw f_5_1 f1 p0.toInt i_5_0.toInt from (by with_reducible assumption)) (by have := kk_add2 (x := p0) (y := 1) (a := p0.toInt) (b := 1) rfl rfl (by omega) (by omega); have := kk_sub2 (x := i_5_0) (y := 1) (a := i_5_0.toInt) (b := 1) rfl rfl (by omega) (by omega); have := kk_add2 (x := i_5_0) (y := 1) (a := i_5_0.toInt) (b := 1) rfl rfl (by omega) (by omega); omega) (by have := kk_add2 (x := p0) (y := 1) (a := p0.toInt) (b := 1) rfl rfl (by omega) (by omega); have := kk_sub2 (x := i_5_0) (y := 1) (a := i_5_0.toInt) (b := 1) rfl rfl (by omega) (by omega); have := kk_add2 (x := i_5_0) (y := 1) (a := i_5_0.toInt) (b := 1) rfl rfl (by omega) (by omega); omega) (by have := kk_add2 (x := p0) (y := 1) (a := p0.toInt) (b := 1) rfl rfl (by omega) (by omega); have := kk_sub2 (x := i_5_0) (y := 1) (a := i_5_0.toInt) (b := 1) rfl rfl (by omega) (by omega); have := kk_add2 (x := i_5_0) (y := 1) (a := i_5_0.toInt) (b := 1) rfl rfl (by omega) (by omega); omega) (by have := kk_add2 (x := p0) (y := 1) (a := p0.toInt) (b := 1) rfl rfl (by omega) (by omega); have := kk_sub2 (x := i_5_0) (y := 1) (a := i_5_0.toInt) (b := 1) rfl rfl (by omega) (by omega); have := kk_add2 (x := i_5_0) (y := 1) (a := i_5_0.toInt) (b := 1) rfl rfl (by omega) (by omega); omega)
      have hk_17 : kt_dnw (upd f_5_2 ((i_5_0 - 1) : Int32).toNatClampNeg (f_5_2 (i_5_0 : Int32).toNatClampNeg)) f2 p0.toInt (i_5_0 + 1).toInt := kt_dnw_s (show kt_dnw f_5_2 f2 p0.toInt i_5_0.toInt from (by with_reducible assumption)) (by have := kk_add2 (x := p0) (y := 1) (a := p0.toInt) (b := 1) rfl rfl (by omega) (by omega); have := kk_sub2 (x := i_5_0) (y := 1) (a := i_5_0.toInt) (b := 1) rfl rfl (by omega) (by omega); have := kk_add2 (x := i_5_0) (y := 1) (a := i_5_0.toInt) (b := 1) rfl rfl (by omega) (by omega); omega) (by have := kk_add2 (x := p0) (y := 1) (a := p0.toInt) (b := 1) rfl rfl (by omega) (by omega); have := kk_sub2 (x := i_5_0) (y := 1) (a := i_5_0.toInt) (b := 1) rfl rfl (by omega) (by omega); have := kk_add2 (x := i_5_0) (y := 1) (a := i_5_0.toInt) (b := 1) rfl rfl (by omega) (by omega); omega) (by have := kk_add2 (x := p0) (y := 1) (a := p0.toInt) (b := 1) rfl rfl (by omega) (by omega); have := kk_sub2 (x := i_5_0) (y := 1) (a := i_5_0.toInt) (b := 1) rfl rfl (by omega) (by omega); have := kk_add2 (x := i_5_0) (y := 1) (a := i_5_0.toInt) (b := 1) rfl rfl (by omega) (by omega); omega) (by have := kk_add2 (x := p0) (y := 1) (a := p0.toInt) (b := 1) rfl rfl (by omega) (by omega); have := kk_sub2 (x := i_5_0) (y := 1) (a := i_5_0.toInt) (b := 1) rfl rfl (by omega) (by omega); have := kk_add2 (x := i_5_0) (y := 1) (a := i_5_0.toInt) (b := 1) rfl rfl (by omega) (by omega); omega)
      have hk_18 : kt_dnw (upd f_5_3 ((i_5_0 - 1) : Int32).toNatClampNeg (f_5_3 (i_5_0 : Int32).toNatClampNeg)) f3 p0.toInt (i_5_0 + 1).toInt := kt_dnw_s (show kt_dnw f_5_3 f3 p0.toInt i_5_0.toInt from (by with_reducible assumption)) (by have := kk_add2 (x := p0) (y := 1) (a := p0.toInt) (b := 1) rfl rfl (by omega) (by omega); have := kk_sub2 (x := i_5_0) (y := 1) (a := i_5_0.toInt) (b := 1) rfl rfl (by omega) (by omega); have := kk_add2 (x := i_5_0) (y := 1) (a := i_5_0.toInt) (b := 1) rfl rfl (by omega) (by omega); omega) (by have := kk_add2 (x := p0) (y := 1) (a := p0.toInt) (b := 1) rfl rfl (by omega) (by omega); have := kk_sub2 (x := i_5_0) (y := 1) (a := i_5_0.toInt) (b := 1) rfl rfl (by omega) (by omega); have := kk_add2 (x := i_5_0) (y := 1) (a := i_5_0.toInt) (b := 1) rfl rfl (by omega) (by omega); omega) (by have := kk_add2 (x := p0) (y := 1) (a := p0.toInt) (b := 1) rfl rfl (by omega) (by omega); have := kk_sub2 (x := i_5_0) (y := 1) (a := i_5_0.toInt) (b := 1) rfl rfl (by omega) (by omega); have := kk_add2 (x := i_5_0) (y := 1) (a := i_5_0.toInt) (b := 1) rfl rfl (by omega) (by omega); omega) (by have := kk_add2 (x := p0) (y := 1) (a := p0.toInt) (b := 1) rfl rfl (by omega) (by omega); have := kk_sub2 (x := i_5_0) (y := 1) (a := i_5_0.toInt) (b := 1) rfl rfl (by omega) (by omega); have := kk_add2 (x := i_5_0) (y := 1) (a := i_5_0.toInt) (b := 1) rfl rfl (by omega) (by omega); omega)
      refine lv_goto (tgt := 13) hx hb dX9_remove_66 (by decide) ?_
      exact ih_5 ((i_5_0 + 1), (upd f_5_1 ((i_5_0 - 1) : Int32).toNatClampNeg (f_5_1 (i_5_0 : Int32).toNatClampNeg)), (upd f_5_2 ((i_5_0 - 1) : Int32).toNatClampNeg (f_5_2 (i_5_0 : Int32).toNatClampNeg)), (upd f_5_3 ((i_5_0 - 1) : Int32).toNatClampNeg (f_5_3 (i_5_0 : Int32).toNatClampNeg))) _ _ _ (by show ((40 : Int) - ((i_5_0 + 1) : Int32).toInt).toNat < ((40 : Int) - i_5_0.toInt).toNat; have := kk_add2 (x := p0) (y := 1) (a := p0.toInt) (b := 1) rfl rfl (by omega) (by omega); have := kk_sub2 (x := i_5_0) (y := 1) (a := i_5_0.toInt) (b := 1) rfl rfl (by omega) (by omega); have := kk_add2 (x := i_5_0) (y := 1) (a := i_5_0.toInt) (b := 1) rfl rfl (by omega) (by omega); exact kk_mu (by omega) (by omega)) ⟨(by show 1 ≤ ((i_5_0 + 1) : Int32).toInt ∧ ((i_5_0 + 1) : Int32).toInt ≤ 40; first | with_reducible assumption | (constructor <;> (have := kk_add2 (x := p0) (y := 1) (a := p0.toInt) (b := 1) rfl rfl (by omega) (by omega); have := kk_sub2 (x := i_5_0) (y := 1) (a := i_5_0.toInt) (b := 1) rfl rfl (by omega) (by omega); have := kk_add2 (x := i_5_0) (y := 1) (a := i_5_0.toInt) (b := 1) rfl rfl (by omega) (by omega); omega))), (by show ((p0 + 1) : Int32).toInt ≤ ((i_5_0 + 1) : Int32).toInt; first | with_reducible assumption | (have := kk_add2 (x := p0) (y := 1) (a := p0.toInt) (b := 1) rfl rfl (by omega) (by omega); have := kk_sub2 (x := i_5_0) (y := 1) (a := i_5_0.toInt) (b := 1) rfl rfl (by omega) (by omega); have := kk_add2 (x := i_5_0) (y := 1) (a := i_5_0.toInt) (b := 1) rfl rfl (by omega) (by omega); omega)), (by with_reducible assumption), (by with_reducible assumption), (by with_reducible assumption), (by show (p0 : Int32).toInt < ((i_5_0 + 1) : Int32).toInt; first | with_reducible assumption | (have := kk_add2 (x := p0) (y := 1) (a := p0.toInt) (b := 1) rfl rfl (by omega) (by omega); have := kk_sub2 (x := i_5_0) (y := 1) (a := i_5_0.toInt) (b := 1) rfl rfl (by omega) (by omega); have := kk_add2 (x := i_5_0) (y := 1) (a := i_5_0.toInt) (b := 1) rfl rfl (by omega) (by omega); omega)), (by show ((i_5_0 + 1) : Int32).toInt ≤ (n0_size : Int32).toInt; first | with_reducible assumption | (have := kk_add2 (x := p0) (y := 1) (a := p0.toInt) (b := 1) rfl rfl (by omega) (by omega); have := kk_sub2 (x := i_5_0) (y := 1) (a := i_5_0.toInt) (b := 1) rfl rfl (by omega) (by omega); have := kk_add2 (x := i_5_0) (y := 1) (a := i_5_0.toInt) (b := 1) rfl rfl (by omega) (by omega); omega)), hP, hD, hS, lv_sub hl [0, 1, 2] rfl⟩
set_option maxHeartbeats 4000000 in
set_option maxRecDepth 100000 in
theorem g_X9_join_1 (l : Launch) (dC : Nat → ClassId) (dI : Nat → Nat → Nat) (h0 : Nat) (h1 : Nat) (h2 : Nat) (h3 : Nat) (cint : ClassId) (sz : Nat) (p0 : Int32) (n0_size : Int32) (f1 : Nat → Int32) (f2 : Nat → Int32) (f3 : Nat → Int32) (tn0_size : 0 ≤ n0_size.toInt ∧ n0_size.toInt ≤ 40) (pr0 : 0 ≤ p0.toInt) (pr1 : p0.toInt < n0_size.toInt) : Met l yX9_join wsX9_join ({ frames := 2, cells := 0, slots := 0, locals := 43 }) (va_Pc [.ref h0, .int p0] (fun U => U.heap.size = sz ∧ va_P (dC, dI) vwCl [(h0, Sum.inr (9, [Value.ref h1, Value.ref h2, Value.ref h3, Value.int n0_size])), (h1, Sum.inl (cint, 40, Sum.inl f1)), (h2, Sum.inl (cint, 40, Sum.inl f2)), (h3, Sum.inl (cint, 40, Sum.inl f3))] U.heap ∧ va_K (dC, dI) vwCl [(cint, .int)] U ∧ va_D (fun _ => True) [(h0, Sum.inr (9, [Value.ref h1, Value.ref h2, Value.ref h3, Value.int n0_size])), (h1, Sum.inl (cint, 40, Sum.inl f1)), (h2, Sum.inl (cint, 40, Sum.inl f2)), (h3, Sum.inl (cint, 40, Sum.inl f3))])) (va_Qv (fun (_ : Unit) => True) (fun (_ : Unit) t => ∃ (m0_size : Int32) (g1 : Nat → Int32) (g2 : Nat → Int32) (g3 : Nat → Int32), (0 ≤ m0_size.toInt ∧ m0_size.toInt ≤ 40) ∧ (kt_st (m0_size : Int32) g1 g2 g3 = kt_join (p0 : Int32) (kt_st (n0_size : Int32) f1 f2 f3)) ∧ (1 ≤ m0_size.toInt) ∧ va_P (dC, dI) vwCl [(h0, Sum.inr (9, [Value.ref h1, Value.ref h2, Value.ref h3, Value.int m0_size])), (h1, Sum.inl (cint, 40, Sum.inl g1)), (h2, Sum.inl (cint, 40, Sum.inl g2)), (h3, Sum.inl (cint, 40, Sum.inl g3))] t.heap ∧ va_K (dC, dI) vwCl [] t ∧ va_D (va_A [(h0, Sum.inr (9, [Value.ref h1, Value.ref h2, Value.ref h3, Value.int n0_size])), (h1, Sum.inl (cint, 40, Sum.inl f1)), (h2, Sum.inl (cint, 40, Sum.inl f2)), (h3, Sum.inl (cint, 40, Sum.inl f3))] sz) [(h0, Sum.inr (9, [Value.ref h1, Value.ref h2, Value.ref h3, Value.int m0_size])), (h1, Sum.inl (cint, 40, Sum.inl g1)), (h2, Sum.inl (cint, 40, Sum.inl g2)), (h3, Sum.inl (cint, 40, Sum.inl g3))]) (va_A [(h0, Sum.inr (9, [Value.ref h1, Value.ref h2, Value.ref h3, Value.int n0_size])), (h1, Sum.inl (cint, 40, Sum.inl f1)), (h2, Sum.inl (cint, 40, Sum.inl f2)), (h3, Sum.inl (cint, 40, Sum.inl f3))] sz)) 0 0 (va_A [(h0, Sum.inr (9, [Value.ref h1, Value.ref h2, Value.ref h3, Value.int n0_size])), (h1, Sum.inl (cint, 40, Sum.inl f1)), (h2, Sum.inl (cint, 40, Sum.inl f2)), (h3, Sum.inl (cint, 40, Sum.inl f3))] sz) := by
  refine Met.ofW (cc := cX9_join) (maxL := 3) (ret := none) (by decide) rfl ?_
  intro p e s m args below meth c s₁ B hml hv
  obtain ⟨rfl, hsz, hP, hK, hD0⟩ := hv
  have hx := B.exec
  have hb := B.bytes
  have hr := B.returns
  have hts := atoms_spec (ws := wsX9_join) B.pre
  have hown : s.vm.findClass RX9 = some m.cls := findClass_of_methodNamed B.named
  have hlocks := B.notSynchronized
  subst hsz
  have hD := hD0.self (sz := s.heap.size)
  generalize hAe : va_A [(h0, Sum.inr (9, [Value.ref h1, Value.ref h2, Value.ref h3, Value.int n0_size])), (h1, Sum.inl (cint, 40, Sum.inl f1)), (h2, Sum.inl (cint, 40, Sum.inl f2)), (h3, Sum.inl (cint, 40, Sum.inl f3))] s.heap.size = A at hD ⊢
  have hA : ∀ q : Nat, s.heap.size ≤ q → A q := fun q h => by rw [← hAe]; exact Or.inr h
  have hS : va_S A s.heap s.heap [] := va_S.rf
  have hP : va_P (dC, dI) vwCl [(h0, Sum.inr (9, [Value.ref h1, Value.ref h2, Value.ref h3, Value.int n0_size])), (h1, Sum.inl (cint, 40, Sum.inl f1)), (h2, Sum.inl (cint, 40, Sum.inl f2)), (h3, Sum.inl (cint, 40, Sum.inl f3))] s.heap := hP
  have hl := lv_entry ([.ref h0, .int p0]) (n := 3) (Nat.le_of_ble_eq_true rfl)
  rw [lg_entry_eq]
  generalize (lg_sl ([.ref h0, .int p0]) ++ List.replicate (3 - (lg_sl ([.ref h0, .int p0])).length) Slot.unset).toArray = ls at hl ⊢
  have hl : lv_has ls 3 [(0, .ref h0), (1, .int p0)] := hl
  refine lv_aload_n hx hb dX9_join_0 rfl (lv_at hl 0 rfl) ?_
  refine lv_iload_n hx hb dX9_join_1 rfl (lv_at hl 1 rfl) ?_
  obtain ⟨hPc, hDc, hFc⟩ := kk_cutout (wc := [(h0, Sum.inr (9, [Value.ref h1, Value.ref h2, Value.ref h3, Value.int n0_size])), (h1, Sum.inl (cint, 40, Sum.inl f1))]) hP hD hS hA [0, 1] (by decide) rfl
  have hKc := hK.sub (tys' := [(cint, .int)]) [0] rfl
  refine va_calli (va_runV (As := [.int p0]) (rest := []) ⟨hx, hb, hml, hown, hts⟩ (g_X9_width_1 l dC dI h0 h1 h2 h3 cint s.heap.size p0 n0_size f1 tn0_size) (cwV 1 hts gX9_join_X9_width rfl rfl rfl (by decide +kernel) ⟨Nat.le_of_ble_eq_true rfl, Nat.le_of_ble_eq_true rfl⟩) ⟨fun a U g mk q => by obtain ⟨q0, q1, qP, qK, qD⟩ := q; exact ⟨q0, q1, qP, va_K.moved (u := U) (U := U.calling g mk a) (Vm.Alike.refl U.vm) qK, qD⟩, va_recv hKc hPc (ci := 9) (q0 := 0) rfl rfl, fun U hU hW => ⟨rfl, by rw [hU], by rw [hU]; exact hPc, va_K.moved hW.alike hKc, hDc.weaken (fun _ _ _ _ => trivial)⟩⟩ rfl rfl hl.1 rfl (lv_room (Nat.le_of_ble_eq_true rfl)) dX9_join_2 ⟨Nat.le_of_ble_eq_true rfl, Nat.le_of_ble_eq_true rfl⟩) hS (fun q _ h => hFc q h) hFc (fun r_1 u t H1 locs ht hvm hw hB hz1 hk1 hS => ?_)
  obtain ⟨hP1, hK1, hD1⟩ := hB
  rw [ht] at hP1
  have hK1 := va_K.moved hvm.symm hK1
  obtain ⟨hP, hD⟩ := va_join (wr := [(h2, Sum.inl (cint, 40, Sum.inl f2)), (h3, Sum.inl (cint, 40, Sum.inl f3))]) (w1 := [(h0, Sum.inr (9, [Value.ref h1, Value.ref h2, Value.ref h3, Value.int n0_size])), (h1, Sum.inl (cint, 40, Sum.inl f1))]) hP hD [0, 1] [2, 3] rfl rfl (by decide) (by decide) hk1 hFc hP1 hD1
  generalize H1 = H at hP hS ⊢
  have hP : va_P (dC, dI) vwCl [(h2, Sum.inl (cint, 40, Sum.inl f2)), (h3, Sum.inl (cint, 40, Sum.inl f3)), (h0, Sum.inr (9, [Value.ref h1, Value.ref h2, Value.ref h3, Value.int n0_size])), (h1, Sum.inl (cint, 40, Sum.inl f1))] H := hP
  have hD : va_D A [(h2, Sum.inl (cint, 40, Sum.inl f2)), (h3, Sum.inl (cint, 40, Sum.inl f3)), (h0, Sum.inr (9, [Value.ref h1, Value.ref h2, Value.ref h3, Value.int n0_size])), (h1, Sum.inl (cint, 40, Sum.inl f1))] := hD
  rcases hw with ⟨t_1_0, _⟩
  · skip
    have t_1_0 : ((0 ≤ p0.toInt ∧ p0.toInt < n0_size.toInt → r_1.toInt = (f1 (p0 : Int32).toNatClampNeg).toInt) ∧ ((p0.toInt < 0 ∨ n0_size.toInt ≤ p0.toInt) → r_1.toInt = 0)) := t_1_0
    refine lv_aload_n hx hb dX9_join_5 rfl (lv_at hl 0 rfl) ?_
    refine lv_iload_n hx hb dX9_join_6 rfl (lv_at hl 1 rfl) ?_
    refine lv_iconst (v := 1) hx hb dX9_join_7 (by decide) ?_
    refine lv_iadd hx hb dX9_join_8 ?_
    obtain ⟨hPc, hDc, hFc⟩ := kk_cutout (wc := [(h0, Sum.inr (9, [Value.ref h1, Value.ref h2, Value.ref h3, Value.int n0_size])), (h1, Sum.inl (cint, 40, Sum.inl f1))]) hP hD hS hA [2, 3] (by decide) rfl
    have hKc := hK.sub (tys' := [(cint, .int)]) [0] rfl
    refine va_calli (va_runV (As := [.int (p0 + 1)]) (rest := [.int r_1]) ⟨hx, hb, hml, hown, hts⟩ (g_X9_width_1 l dC dI h0 h1 h2 h3 cint H.size (p0 + 1) n0_size f1 tn0_size) (cwV 1 hts gX9_join_X9_width rfl rfl rfl (by decide +kernel) ⟨Nat.le_of_ble_eq_true rfl, Nat.le_of_ble_eq_true rfl⟩) ⟨fun a U g mk q => by obtain ⟨q0, q1, qP, qK, qD⟩ := q; exact ⟨q0, q1, qP, va_K.moved (u := U) (U := U.calling g mk a) (Vm.Alike.refl U.vm) qK, qD⟩, va_recv hKc hPc (ci := 9) (q0 := 0) rfl rfl, fun U hU hW => ⟨rfl, by rw [hU], by rw [hU]; exact hPc, va_K.moved hW.alike hKc, hDc.weaken (fun _ _ _ _ => trivial)⟩⟩ rfl rfl hl.1 rfl (lv_room (Nat.le_of_ble_eq_true rfl)) dX9_join_9 ⟨Nat.le_of_ble_eq_true rfl, Nat.le_of_ble_eq_true rfl⟩) hS (fun q _ h => hFc q h) hFc (fun r_2 u t H1 locs ht hvm hw hB hz1 hk1 hS => ?_)
    obtain ⟨hP1, hK1, hD1⟩ := hB
    rw [ht] at hP1
    have hK1 := va_K.moved hvm.symm hK1
    obtain ⟨hP, hD⟩ := va_join (wr := [(h2, Sum.inl (cint, 40, Sum.inl f2)), (h3, Sum.inl (cint, 40, Sum.inl f3))]) (w1 := [(h0, Sum.inr (9, [Value.ref h1, Value.ref h2, Value.ref h3, Value.int n0_size])), (h1, Sum.inl (cint, 40, Sum.inl f1))]) hP hD [2, 3] [0, 1] rfl rfl (by decide) (by decide) hk1 hFc hP1 hD1
    generalize H1 = H at hP hS ⊢
    have hP : va_P (dC, dI) vwCl [(h2, Sum.inl (cint, 40, Sum.inl f2)), (h3, Sum.inl (cint, 40, Sum.inl f3)), (h0, Sum.inr (9, [Value.ref h1, Value.ref h2, Value.ref h3, Value.int n0_size])), (h1, Sum.inl (cint, 40, Sum.inl f1))] H := hP
    have hD : va_D A [(h2, Sum.inl (cint, 40, Sum.inl f2)), (h3, Sum.inl (cint, 40, Sum.inl f3)), (h0, Sum.inr (9, [Value.ref h1, Value.ref h2, Value.ref h3, Value.int n0_size])), (h1, Sum.inl (cint, 40, Sum.inl f1))] := hD
    rcases hw with ⟨t_2_0, _⟩
    · skip
      have t_2_0 : ((0 ≤ (p0 + 1).toInt ∧ (p0 + 1).toInt < n0_size.toInt → r_2.toInt = (f1 ((p0 + 1) : Int32).toNatClampNeg).toInt) ∧ (((p0 + 1).toInt < 0 ∨ n0_size.toInt ≤ (p0 + 1).toInt) → r_2.toInt = 0)) := t_2_0
      refine lv_iadd hx hb dX9_join_12 ?_
      refine lv_istore_n (lv' := [(2, .int (r_1 + r_2)), (0, .ref h0), (1, .int p0)]) hx hb dX9_join_13 rfl hl (by decide) rfl (fun ls hl => ?_)
      refine lv_aload_n hx hb dX9_join_14 rfl (lv_at hl 1 rfl) ?_
      refine lv_iload_n hx hb dX9_join_15 rfl (lv_at hl 2 rfl) ?_
      obtain ⟨hPc, hDc, hFc⟩ := kk_cutout (wc := [(h0, Sum.inr (9, [Value.ref h1, Value.ref h2, Value.ref h3, Value.int n0_size]))]) hP hD hS hA [2] (by decide) rfl
      have hKc := hK.sub (tys' := []) [] rfl
      refine va_calli (va_runV (As := [.int p0]) (rest := []) ⟨hx, hb, hml, hown, hts⟩ (g_X9_has_1 l dC dI h0 h1 h2 h3 H.size p0 n0_size tn0_size) (cwV 1 hts gX9_join_X9_has rfl rfl rfl (by decide +kernel) ⟨Nat.le_of_ble_eq_true rfl, Nat.le_of_ble_eq_true rfl⟩) ⟨fun a U g mk q => by obtain ⟨q0, q1, qP, qK, qD⟩ := q; exact ⟨q0, q1, qP, va_K.moved (u := U) (U := U.calling g mk a) (Vm.Alike.refl U.vm) qK, qD⟩, va_recv hKc hPc (ci := 9) (q0 := 0) rfl rfl, fun U hU hW => ⟨rfl, by rw [hU], by rw [hU]; exact hPc, va_K.moved hW.alike hKc, hDc.weaken (fun _ _ _ _ => trivial)⟩⟩ rfl rfl hl.1 rfl (lv_room (Nat.le_of_ble_eq_true rfl)) dX9_join_16 ⟨Nat.le_of_ble_eq_true rfl, Nat.le_of_ble_eq_true rfl⟩) hS (fun q _ h => hFc q h) hFc (fun r_3 u t H1 locs ht hvm hw hB hz1 hk1 hS => ?_)
      obtain ⟨hP1, hK1, hD1⟩ := hB
      rw [ht] at hP1
      have hK1 := va_K.moved hvm.symm hK1
      obtain ⟨hP, hD⟩ := va_join (wr := [(h2, Sum.inl (cint, 40, Sum.inl f2)), (h3, Sum.inl (cint, 40, Sum.inl f3)), (h1, Sum.inl (cint, 40, Sum.inl f1))]) (w1 := [(h0, Sum.inr (9, [Value.ref h1, Value.ref h2, Value.ref h3, Value.int n0_size]))]) hP hD [2] [0, 1, 3] rfl rfl (by decide) (by decide) hk1 hFc hP1 hD1
      generalize H1 = H at hP hS ⊢
      have hP : va_P (dC, dI) vwCl [(h2, Sum.inl (cint, 40, Sum.inl f2)), (h3, Sum.inl (cint, 40, Sum.inl f3)), (h1, Sum.inl (cint, 40, Sum.inl f1)), (h0, Sum.inr (9, [Value.ref h1, Value.ref h2, Value.ref h3, Value.int n0_size]))] H := hP
      have hD : va_D A [(h2, Sum.inl (cint, 40, Sum.inl f2)), (h3, Sum.inl (cint, 40, Sum.inl f3)), (h1, Sum.inl (cint, 40, Sum.inl f1)), (h0, Sum.inr (9, [Value.ref h1, Value.ref h2, Value.ref h3, Value.int n0_size]))] := hD
      rcases hw with ⟨t_3_0, rfl⟩ | ⟨t_3_0, t_3_1, t_3_2, rfl⟩
      · skip
        have t_3_0 : (p0.toInt < 0 ∨ n0_size.toInt ≤ p0.toInt) := t_3_0
        refine lv_if_eq (tgt := 53) hx hb dX9_join_19 (by decide) (fun _ => ?_) (fun c => absurd c (by decide))
        have hk_4 : kt_st n0_size f1 f2 f3 = kt_join (p0 : Int32) (kt_st n0_size f1 f2 f3) := kt_join_n2 (q := (p0 + 1)) (a := r_1) (b := r_2) (by have := kk_add2 (x := p0) (y := 1) (a := p0.toInt) (b := 1) rfl rfl (by omega) (by omega); have := kk_sub2 (x := n0_size) (y := 1) (a := n0_size.toInt) (b := 1) rfl rfl (by omega) (by omega); omega) (by have := kk_add2 (x := p0) (y := 1) (a := p0.toInt) (b := 1) rfl rfl (by omega) (by omega); have := kk_sub2 (x := n0_size) (y := 1) (a := n0_size.toInt) (b := 1) rfl rfl (by omega) (by omega); omega) (by have := kk_add2 (x := p0) (y := 1) (a := p0.toInt) (b := 1) rfl rfl (by omega) (by omega); have := kk_sub2 (x := n0_size) (y := 1) (a := n0_size.toInt) (b := 1) rfl rfl (by omega) (by omega); omega) (by have := kk_add2 (x := p0) (y := 1) (a := p0.toInt) (b := 1) rfl rfl (by omega) (by omega); have := kk_sub2 (x := n0_size) (y := 1) (a := n0_size.toInt) (b := 1) rfl rfl (by omega) (by omega); omega) (by have := kk_add2 (x := p0) (y := 1) (a := p0.toInt) (b := 1) rfl rfl (by omega) (by omega); have := kk_sub2 (x := n0_size) (y := 1) (a := n0_size.toInt) (b := 1) rfl rfl (by omega) (by omega); omega)
        obtain ⟨hP9, hD9⟩ := kk_leafout (wc := [(h0, Sum.inr (9, [Value.ref h1, Value.ref h2, Value.ref h3, Value.int n0_size])), (h1, Sum.inl (cint, 40, Sum.inl f1)), (h2, Sum.inl (cint, 40, Sum.inl f2)), (h3, Sum.inl (cint, 40, Sum.inl f3))]) hP hD [3, 2, 0, 1] (by decide) rfl
        have hK9 := hK.sub (tys' := []) [] rfl
        exact W.vret hx hb hr (fun t ht hW => ⟨⟨(), rfl, trivial, n0_size, f1, f2, f3, tn0_size, (by first | with_reducible assumption | (exfalso; have := kk_add2 (x := p0) (y := 1) (a := p0.toInt) (b := 1) rfl rfl (by omega) (by omega); have := kk_sub2 (x := n0_size) (y := 1) (a := n0_size.toInt) (b := 1) rfl rfl (by omega) (by omega); omega)), (by show 1 ≤ (n0_size : Int32).toInt; first | with_reducible assumption | (have := kk_add2 (x := p0) (y := 1) (a := p0.toInt) (b := 1) rfl rfl (by omega) (by omega); have := kk_sub2 (x := n0_size) (y := 1) (a := n0_size.toInt) (b := 1) rfl rfl (by omega) (by omega); omega)), by rw [ht]; exact hP9, va_K.moved hW.alike hK9, hD9⟩, hS.F ht⟩) hS.2.2 dX9_join_53
      · skip
        have t_3_0 : (0 : Int) ≤ p0.toInt := t_3_0
        have t_3_2 : (p0.toInt : Int) ≤ 39 := t_3_2
        refine lv_if_eq (tgt := 53) hx hb dX9_join_19 (by decide) (fun c => absurd c (by decide)) (fun _ => ?_)
        refine lv_aload_n hx hb dX9_join_22 rfl (lv_at hl 1 rfl) ?_
        refine lv_iload_n hx hb dX9_join_23 rfl (lv_at hl 2 rfl) ?_
        refine lv_iconst (v := 1) hx hb dX9_join_24 (by decide) ?_
        refine lv_iadd hx hb dX9_join_25 ?_
        obtain ⟨hPc, hDc, hFc⟩ := kk_cutout (wc := [(h0, Sum.inr (9, [Value.ref h1, Value.ref h2, Value.ref h3, Value.int n0_size]))]) hP hD hS hA [3] (by decide) rfl
        have hKc := hK.sub (tys' := []) [] rfl
        refine va_calli (va_runV (As := [.int (p0 + 1)]) (rest := []) ⟨hx, hb, hml, hown, hts⟩ (g_X9_has_1 l dC dI h0 h1 h2 h3 H.size (p0 + 1) n0_size tn0_size) (cwV 1 hts gX9_join_X9_has rfl rfl rfl (by decide +kernel) ⟨Nat.le_of_ble_eq_true rfl, Nat.le_of_ble_eq_true rfl⟩) ⟨fun a U g mk q => by obtain ⟨q0, q1, qP, qK, qD⟩ := q; exact ⟨q0, q1, qP, va_K.moved (u := U) (U := U.calling g mk a) (Vm.Alike.refl U.vm) qK, qD⟩, va_recv hKc hPc (ci := 9) (q0 := 0) rfl rfl, fun U hU hW => ⟨rfl, by rw [hU], by rw [hU]; exact hPc, va_K.moved hW.alike hKc, hDc.weaken (fun _ _ _ _ => trivial)⟩⟩ rfl rfl hl.1 rfl (lv_room (Nat.le_of_ble_eq_true rfl)) dX9_join_26 ⟨Nat.le_of_ble_eq_true rfl, Nat.le_of_ble_eq_true rfl⟩) hS (fun q _ h => hFc q h) hFc (fun r_5 u t H1 locs ht hvm hw hB hz1 hk1 hS => ?_)
        obtain ⟨hP1, hK1, hD1⟩ := hB
        rw [ht] at hP1
        have hK1 := va_K.moved hvm.symm hK1
        obtain ⟨hP, hD⟩ := va_join (wr := [(h2, Sum.inl (cint, 40, Sum.inl f2)), (h3, Sum.inl (cint, 40, Sum.inl f3)), (h1, Sum.inl (cint, 40, Sum.inl f1))]) (w1 := [(h0, Sum.inr (9, [Value.ref h1, Value.ref h2, Value.ref h3, Value.int n0_size]))]) hP hD [3] [0, 1, 2] rfl rfl (by decide) (by decide) hk1 hFc hP1 hD1
        generalize H1 = H at hP hS ⊢
        have hP : va_P (dC, dI) vwCl [(h2, Sum.inl (cint, 40, Sum.inl f2)), (h3, Sum.inl (cint, 40, Sum.inl f3)), (h1, Sum.inl (cint, 40, Sum.inl f1)), (h0, Sum.inr (9, [Value.ref h1, Value.ref h2, Value.ref h3, Value.int n0_size]))] H := hP
        have hD : va_D A [(h2, Sum.inl (cint, 40, Sum.inl f2)), (h3, Sum.inl (cint, 40, Sum.inl f3)), (h1, Sum.inl (cint, 40, Sum.inl f1)), (h0, Sum.inr (9, [Value.ref h1, Value.ref h2, Value.ref h3, Value.int n0_size]))] := hD
        rcases hw with ⟨t_5_0, rfl⟩ | ⟨t_5_0, t_5_1, t_5_2, rfl⟩
        · skip
          have t_5_0 : ((p0 + 1).toInt < 0 ∨ n0_size.toInt ≤ (p0 + 1).toInt) := t_5_0
          refine lv_if_eq (tgt := 53) hx hb dX9_join_29 (by decide) (fun _ => ?_) (fun c => absurd c (by decide))
          have hk_6 : kt_st n0_size f1 f2 f3 = kt_join (p0 : Int32) (kt_st n0_size f1 f2 f3) := kt_join_n2 (q := (p0 + 1)) (a := r_1) (b := r_2) (by have := kk_add2 (x := p0) (y := 1) (a := p0.toInt) (b := 1) rfl rfl (by omega) (by omega); have := kk_sub2 (x := n0_size) (y := 1) (a := n0_size.toInt) (b := 1) rfl rfl (by omega) (by omega); omega) (by have := kk_add2 (x := p0) (y := 1) (a := p0.toInt) (b := 1) rfl rfl (by omega) (by omega); have := kk_sub2 (x := n0_size) (y := 1) (a := n0_size.toInt) (b := 1) rfl rfl (by omega) (by omega); omega) (by have := kk_add2 (x := p0) (y := 1) (a := p0.toInt) (b := 1) rfl rfl (by omega) (by omega); have := kk_sub2 (x := n0_size) (y := 1) (a := n0_size.toInt) (b := 1) rfl rfl (by omega) (by omega); omega) (by have := kk_add2 (x := p0) (y := 1) (a := p0.toInt) (b := 1) rfl rfl (by omega) (by omega); have := kk_sub2 (x := n0_size) (y := 1) (a := n0_size.toInt) (b := 1) rfl rfl (by omega) (by omega); omega) (by have := kk_add2 (x := p0) (y := 1) (a := p0.toInt) (b := 1) rfl rfl (by omega) (by omega); have := kk_sub2 (x := n0_size) (y := 1) (a := n0_size.toInt) (b := 1) rfl rfl (by omega) (by omega); omega)
          obtain ⟨hP9, hD9⟩ := kk_leafout (wc := [(h0, Sum.inr (9, [Value.ref h1, Value.ref h2, Value.ref h3, Value.int n0_size])), (h1, Sum.inl (cint, 40, Sum.inl f1)), (h2, Sum.inl (cint, 40, Sum.inl f2)), (h3, Sum.inl (cint, 40, Sum.inl f3))]) hP hD [3, 2, 0, 1] (by decide) rfl
          have hK9 := hK.sub (tys' := []) [] rfl
          exact W.vret hx hb hr (fun t ht hW => ⟨⟨(), rfl, trivial, n0_size, f1, f2, f3, tn0_size, (by first | with_reducible assumption | (exfalso; have := kk_add2 (x := p0) (y := 1) (a := p0.toInt) (b := 1) rfl rfl (by omega) (by omega); have := kk_sub2 (x := n0_size) (y := 1) (a := n0_size.toInt) (b := 1) rfl rfl (by omega) (by omega); omega)), (by show 1 ≤ (n0_size : Int32).toInt; first | with_reducible assumption | (have := kk_add2 (x := p0) (y := 1) (a := p0.toInt) (b := 1) rfl rfl (by omega) (by omega); have := kk_sub2 (x := n0_size) (y := 1) (a := n0_size.toInt) (b := 1) rfl rfl (by omega) (by omega); omega)), by rw [ht]; exact hP9, va_K.moved hW.alike hK9, hD9⟩, hS.F ht⟩) hS.2.2 dX9_join_53
        · skip
          have t_5_0 : (0 : Int) ≤ (p0 + 1).toInt := t_5_0
          have t_5_2 : ((p0 + 1).toInt : Int) ≤ 39 := t_5_2
          refine lv_if_eq (tgt := 53) hx hb dX9_join_29 (by decide) (fun c => absurd c (by decide)) (fun _ => ?_)
          refine lv_iload_n hx hb dX9_join_32 rfl (lv_at hl 0 rfl) ?_
          refine lv_sipush (v := 999) hx hb dX9_join_33 (by decide) ?_
          refine lv_icmp_gt (tgt := 53) hx hb dX9_join_36 (by decide) (fun c_7 => ?_) (fun c_7 => ?_)
          · have t_7 : 999 < (r_1 + r_2).toInt := kk_lt c_7
            have hk_8 : kt_st n0_size f1 f2 f3 = kt_join (p0 : Int32) (kt_st n0_size f1 f2 f3) := kt_join_n2 (q := (p0 + 1)) (a := r_1) (b := r_2) (by have := kk_rng r_1; have := kk_rng r_2; have := kk_add2 (x := p0) (y := 1) (a := p0.toInt) (b := 1) rfl rfl (by omega) (by omega); have := kk_sub2 (x := n0_size) (y := 1) (a := n0_size.toInt) (b := 1) rfl rfl (by omega) (by omega); omega) (by have := kk_rng r_1; have := kk_rng r_2; have := kk_add2 (x := p0) (y := 1) (a := p0.toInt) (b := 1) rfl rfl (by omega) (by omega); have := kk_sub2 (x := n0_size) (y := 1) (a := n0_size.toInt) (b := 1) rfl rfl (by omega) (by omega); omega) (by have := kk_rng r_1; have := kk_rng r_2; have := kk_add2 (x := p0) (y := 1) (a := p0.toInt) (b := 1) rfl rfl (by omega) (by omega); have := kk_sub2 (x := n0_size) (y := 1) (a := n0_size.toInt) (b := 1) rfl rfl (by omega) (by omega); omega) (by have := kk_rng r_1; have := kk_rng r_2; have := kk_add2 (x := p0) (y := 1) (a := p0.toInt) (b := 1) rfl rfl (by omega) (by omega); have := kk_sub2 (x := n0_size) (y := 1) (a := n0_size.toInt) (b := 1) rfl rfl (by omega) (by omega); omega) (by have := kk_rng r_1; have := kk_rng r_2; have := kk_add2 (x := p0) (y := 1) (a := p0.toInt) (b := 1) rfl rfl (by omega) (by omega); have := kk_sub2 (x := n0_size) (y := 1) (a := n0_size.toInt) (b := 1) rfl rfl (by omega) (by omega); omega)
            obtain ⟨hP9, hD9⟩ := kk_leafout (wc := [(h0, Sum.inr (9, [Value.ref h1, Value.ref h2, Value.ref h3, Value.int n0_size])), (h1, Sum.inl (cint, 40, Sum.inl f1)), (h2, Sum.inl (cint, 40, Sum.inl f2)), (h3, Sum.inl (cint, 40, Sum.inl f3))]) hP hD [3, 2, 0, 1] (by decide) rfl
            have hK9 := hK.sub (tys' := []) [] rfl
            exact W.vret hx hb hr (fun t ht hW => ⟨⟨(), rfl, trivial, n0_size, f1, f2, f3, tn0_size, (by first | with_reducible assumption | (exfalso; have := kk_rng r_1; have := kk_rng r_2; have := kk_add2 (x := p0) (y := 1) (a := p0.toInt) (b := 1) rfl rfl (by omega) (by omega); have := kk_sub2 (x := n0_size) (y := 1) (a := n0_size.toInt) (b := 1) rfl rfl (by omega) (by omega); omega)), (by show 1 ≤ (n0_size : Int32).toInt; first | with_reducible assumption | (have := kk_rng r_1; have := kk_rng r_2; have := kk_add2 (x := p0) (y := 1) (a := p0.toInt) (b := 1) rfl rfl (by omega) (by omega); have := kk_sub2 (x := n0_size) (y := 1) (a := n0_size.toInt) (b := 1) rfl rfl (by omega) (by omega); omega)), by rw [ht]; exact hP9, va_K.moved hW.alike hK9, hD9⟩, hS.F ht⟩) hS.2.2 dX9_join_53
          · have t_7 : (r_1 + r_2).toInt ≤ 999 := kk_nlt c_7
            refine lv_aload_n hx hb dX9_join_39 rfl (lv_at hl 1 rfl) ?_
            refine va_get (D := (dC, dI)) (ci := 9) (v := .ref h1) (C := RX9) (T := TX9) (N := 4) hx hb hts (fun _ h => List.mem_cons_of_mem _ (List.mem_append_right _ h)) hown hK hP 3 rfl rfl 0 (by decide) (hts (.fieldLink RX9 9 "KinkStreet$Street" "widths" "[I") (List.mem_of_getElem? (i := 1) rfl)) (fun _ h9 => h9) rfl dX9_join_40 ?_
            refine lv_iload_n hx hb dX9_join_43 rfl (lv_at hl 2 rfl) ?_
            refine lv_iload_n hx hb dX9_join_44 rfl (lv_at hl 0 rfl) ?_
            refine va_iast hx hb hK hP hD hS 2 0 rfl rfl (vp_in_iff.mpr ⟨by have := kk_rng r_1; have := kk_rng r_2; have := kk_add2 (x := p0) (y := 1) (a := p0.toInt) (b := 1) rfl rfl (by omega) (by omega); omega, by have := kk_rng r_1; have := kk_rng r_2; have := kk_add2 (x := p0) (y := 1) (a := p0.toInt) (b := 1) rfl rfl (by omega) (by omega); omega⟩) dX9_join_45 (fun H locs hP hD hS => ?_)
            have w_9 : ((upd f1 (p0 : Int32).toNatClampNeg (r_1 + r_2)) (p0 : Int32).toNatClampNeg).toInt = ((r_1 + r_2) : Int32).toInt := by rw [kk_ups]
            have hP : va_P (dC, dI) vwCl [(h2, Sum.inl (cint, 40, Sum.inl f2)), (h3, Sum.inl (cint, 40, Sum.inl f3)), (h1, Sum.inl (cint, 40, Sum.inl (upd f1 (p0 : Int32).toNatClampNeg (r_1 + r_2)))), (h0, Sum.inr (9, [Value.ref h1, Value.ref h2, Value.ref h3, Value.int n0_size]))] H := hP
            have hD : va_D A [(h2, Sum.inl (cint, 40, Sum.inl f2)), (h3, Sum.inl (cint, 40, Sum.inl f3)), (h1, Sum.inl (cint, 40, Sum.inl (upd f1 (p0 : Int32).toNatClampNeg (r_1 + r_2)))), (h0, Sum.inr (9, [Value.ref h1, Value.ref h2, Value.ref h3, Value.int n0_size]))] := hD
            refine lv_aload_n hx hb dX9_join_46 rfl (lv_at hl 1 rfl) ?_
            refine lv_iload_n hx hb dX9_join_47 rfl (lv_at hl 2 rfl) ?_
            refine lv_iconst (v := 1) hx hb dX9_join_48 (by decide) ?_
            refine lv_iadd hx hb dX9_join_49 ?_
            obtain ⟨hPc, hDc, hFc⟩ := kk_cutout (wc := [(h0, Sum.inr (9, [Value.ref h1, Value.ref h2, Value.ref h3, Value.int n0_size])), (h1, Sum.inl (cint, 40, Sum.inl (upd f1 (p0 : Int32).toNatClampNeg (r_1 + r_2)))), (h2, Sum.inl (cint, 40, Sum.inl f2)), (h3, Sum.inl (cint, 40, Sum.inl f3))]) hP hD hS hA [3, 2, 0, 1] (by decide) rfl
            have hKc := hK.sub (tys' := [(cint, .int)]) [0] rfl
            refine va_callv (va_runV (As := [.int (p0 + 1)]) (rest := []) ⟨hx, hb, hml, hown, hts⟩ (g_X9_remove_1 l dC dI h0 h1 h2 h3 cint H.size (p0 + 1) n0_size (upd f1 (p0 : Int32).toNatClampNeg (r_1 + r_2)) f2 f3 tn0_size (by show 0 ≤ ((p0 + 1) : Int32).toInt; first | with_reducible assumption | (have := kk_rng r_1; have := kk_rng r_2; have := kk_add2 (x := p0) (y := 1) (a := p0.toInt) (b := 1) rfl rfl (by omega) (by omega); omega)) (by show ((p0 + 1) : Int32).toInt < (n0_size : Int32).toInt; first | with_reducible assumption | (have := kk_rng r_1; have := kk_rng r_2; have := kk_add2 (x := p0) (y := 1) (a := p0.toInt) (b := 1) rfl rfl (by omega) (by omega); omega))) (cwV 1 hts gX9_join_X9_remove rfl rfl rfl (by decide +kernel) ⟨Nat.le_of_ble_eq_true rfl, Nat.le_of_ble_eq_true rfl⟩) ⟨fun a U g mk q => by obtain ⟨q0, q1, qP, qK, qD⟩ := q; exact ⟨q0, q1, qP, va_K.moved (u := U) (U := U.calling g mk a) (Vm.Alike.refl U.vm) qK, qD⟩, va_recv hKc hPc (ci := 9) (q0 := 0) rfl rfl, fun U hU hW => ⟨rfl, by rw [hU], by rw [hU]; exact hPc, va_K.moved hW.alike hKc, hDc.weaken (fun _ _ _ _ => trivial)⟩⟩ rfl rfl hl.1 rfl (lv_room (Nat.le_of_ble_eq_true rfl)) dX9_join_50 ⟨Nat.le_of_ble_eq_true rfl, Nat.le_of_ble_eq_true rfl⟩) hS (fun q _ h => hFc q h) hFc (fun u t H1 locs ht hvm hw hB hz1 hk1 hS => ?_)
            obtain ⟨y_11, f_12, f_13, f_14, by_11, v_14_0, v_14_1, v_14_2, v_14_3, hP1, hK1, hD1⟩ := hB
            have v_14_0 : kt_rm (upd f1 (p0 : Int32).toNatClampNeg (r_1 + r_2)) f_12 (p0 + 1).toInt n0_size.toInt := v_14_0
            have v_14_1 : kt_rm f2 f_13 (p0 + 1).toInt n0_size.toInt := v_14_1
            have v_14_2 : kt_rm f3 f_14 (p0 + 1).toInt n0_size.toInt := v_14_2
            have v_14_3 : y_11.toInt = n0_size.toInt - 1 := v_14_3
            rw [ht] at hP1
            have hK1 := va_K.moved hvm.symm hK1
            obtain ⟨hP, hD⟩ := va_join (wr := []) (w1 := [(h0, Sum.inr (9, [Value.ref h1, Value.ref h2, Value.ref h3, Value.int y_11])), (h1, Sum.inl (cint, 40, Sum.inl f_12)), (h2, Sum.inl (cint, 40, Sum.inl f_13)), (h3, Sum.inl (cint, 40, Sum.inl f_14))]) hP hD [3, 2, 0, 1] [] rfl rfl (by decide) (by decide) hk1 hFc hP1 hD1
            generalize H1 = H at hP hS ⊢
            have hP : va_P (dC, dI) vwCl [(h0, Sum.inr (9, [Value.ref h1, Value.ref h2, Value.ref h3, Value.int y_11])), (h1, Sum.inl (cint, 40, Sum.inl f_12)), (h2, Sum.inl (cint, 40, Sum.inl f_13)), (h3, Sum.inl (cint, 40, Sum.inl f_14))] H := hP
            have hD : va_D A [(h0, Sum.inr (9, [Value.ref h1, Value.ref h2, Value.ref h3, Value.int y_11])), (h1, Sum.inl (cint, 40, Sum.inl f_12)), (h2, Sum.inl (cint, 40, Sum.inl f_13)), (h3, Sum.inl (cint, 40, Sum.inl f_14))] := hD
            have hk_15 : kt_st y_11 f_12 f_13 f_14 = kt_join (p0 : Int32) (kt_st n0_size f1 f2 f3) := kt_join_c (q := (p0 + 1)) (a := r_1) (b := r_2) (W1 := (upd f1 (p0 : Int32).toNatClampNeg (r_1 + r_2))) (by have := kk_rng r_1; have := kk_rng r_2; have := kk_add2 (x := p0) (y := 1) (a := p0.toInt) (b := 1) rfl rfl (by omega) (by omega); have := kk_sub2 (x := n0_size) (y := 1) (a := n0_size.toInt) (b := 1) rfl rfl (by omega) (by omega); omega) (by have := kk_rng r_1; have := kk_rng r_2; have := kk_add2 (x := p0) (y := 1) (a := p0.toInt) (b := 1) rfl rfl (by omega) (by omega); have := kk_sub2 (x := n0_size) (y := 1) (a := n0_size.toInt) (b := 1) rfl rfl (by omega) (by omega); omega) (by have := kk_rng r_1; have := kk_rng r_2; have := kk_add2 (x := p0) (y := 1) (a := p0.toInt) (b := 1) rfl rfl (by omega) (by omega); have := kk_sub2 (x := n0_size) (y := 1) (a := n0_size.toInt) (b := 1) rfl rfl (by omega) (by omega); omega) (by have := kk_rng r_1; have := kk_rng r_2; have := kk_add2 (x := p0) (y := 1) (a := p0.toInt) (b := 1) rfl rfl (by omega) (by omega); have := kk_sub2 (x := n0_size) (y := 1) (a := n0_size.toInt) (b := 1) rfl rfl (by omega) (by omega); omega) (by have := kk_rng r_1; have := kk_rng r_2; have := kk_add2 (x := p0) (y := 1) (a := p0.toInt) (b := 1) rfl rfl (by omega) (by omega); have := kk_sub2 (x := n0_size) (y := 1) (a := n0_size.toInt) (b := 1) rfl rfl (by omega) (by omega); omega) (by have := kk_rng r_1; have := kk_rng r_2; have := kk_add2 (x := p0) (y := 1) (a := p0.toInt) (b := 1) rfl rfl (by omega) (by omega); have := kk_sub2 (x := n0_size) (y := 1) (a := n0_size.toInt) (b := 1) rfl rfl (by omega) (by omega); omega) (kt_i1 (by have := kk_rng r_1; have := kk_rng r_2; have := kk_add2 (x := p0) (y := 1) (a := p0.toInt) (b := 1) rfl rfl (by omega) (by omega); have := kk_sub2 (x := n0_size) (y := 1) (a := n0_size.toInt) (b := 1) rfl rfl (by omega) (by omega); omega)) (by have := kk_rng r_1; have := kk_rng r_2; have := kk_add2 (x := p0) (y := 1) (a := p0.toInt) (b := 1) rfl rfl (by omega) (by omega); have := kk_sub2 (x := n0_size) (y := 1) (a := n0_size.toInt) (b := 1) rfl rfl (by omega) (by omega); omega) rfl (show kt_rm (upd f1 (p0 : Int32).toNatClampNeg (r_1 + r_2)) f_12 (p0 + 1).toInt n0_size.toInt from (by with_reducible assumption)) (show kt_rm f2 f_13 (p0 + 1).toInt n0_size.toInt from (by with_reducible assumption)) (show kt_rm f3 f_14 (p0 + 1).toInt n0_size.toInt from (by with_reducible assumption))
            obtain ⟨hP9, hD9⟩ := kk_leafout (wc := [(h0, Sum.inr (9, [Value.ref h1, Value.ref h2, Value.ref h3, Value.int y_11])), (h1, Sum.inl (cint, 40, Sum.inl f_12)), (h2, Sum.inl (cint, 40, Sum.inl f_13)), (h3, Sum.inl (cint, 40, Sum.inl f_14))]) hP hD [0, 1, 2, 3] (by decide) rfl
            have hK9 := hK.sub (tys' := []) [] rfl
            exact W.vret hx hb hr (fun t ht hW => ⟨⟨(), rfl, trivial, y_11, f_12, f_13, f_14, (by show 0 ≤ (y_11 : Int32).toInt ∧ (y_11 : Int32).toInt ≤ 40; first | with_reducible assumption | (constructor <;> (have := kk_rng r_1; have := kk_rng r_2; have := kk_add2 (x := p0) (y := 1) (a := p0.toInt) (b := 1) rfl rfl (by omega) (by omega); have := kk_sub2 (x := n0_size) (y := 1) (a := n0_size.toInt) (b := 1) rfl rfl (by omega) (by omega); omega))), (by first | with_reducible assumption | (exfalso; have := kk_rng r_1; have := kk_rng r_2; have := kk_add2 (x := p0) (y := 1) (a := p0.toInt) (b := 1) rfl rfl (by omega) (by omega); have := kk_sub2 (x := n0_size) (y := 1) (a := n0_size.toInt) (b := 1) rfl rfl (by omega) (by omega); omega)), (by show 1 ≤ (y_11 : Int32).toInt; first | with_reducible assumption | (have := kk_rng r_1; have := kk_rng r_2; have := kk_add2 (x := p0) (y := 1) (a := p0.toInt) (b := 1) rfl rfl (by omega) (by omega); have := kk_sub2 (x := n0_size) (y := 1) (a := n0_size.toInt) (b := 1) rfl rfl (by omega) (by omega); omega)), by rw [ht]; exact hP9, va_K.moved hW.alike hK9, hD9⟩, hS.F ht⟩) hS.2.2 dX9_join_53
set_option maxHeartbeats 4000000 in
set_option maxRecDepth 100000 in
theorem g_X9_facts_2 (l : Launch) (dC : Nat → ClassId) (dI : Nat → Nat → Nat) (h0 : Nat) (h1 : Nat) (h2 : Nat) (h3 : Nat) (sz : Nat) (n0_size : Int32) (tn0_size : 0 ≤ n0_size.toInt ∧ n0_size.toInt ≤ 40) : Met l yX9_facts wsX9_facts ({ frames := 0, cells := 0, slots := 0, locals := 0 }) (va_Pc [.ref h0, .int 0] (fun U => U.heap.size = sz ∧ va_P (dC, dI) vwCl [(h0, Sum.inr (9, [Value.ref h1, Value.ref h2, Value.ref h3, Value.int n0_size]))] U.heap ∧ va_K (dC, dI) vwCl [] U ∧ va_D (fun _ => True) [(h0, Sum.inr (9, [Value.ref h1, Value.ref h2, Value.ref h3, Value.int n0_size]))])) (va_Qq (fun (r : Option Nat) (_ : Unit) => some h1 = r) (fun (_ : Unit) t => va_P (dC, dI) vwCl [(h0, Sum.inr (9, [Value.ref h1, Value.ref h2, Value.ref h3, Value.int n0_size]))] t.heap ∧ va_K (dC, dI) vwCl [] t ∧ va_D (va_A [(h0, Sum.inr (9, [Value.ref h1, Value.ref h2, Value.ref h3, Value.int n0_size]))] sz) [(h0, Sum.inr (9, [Value.ref h1, Value.ref h2, Value.ref h3, Value.int n0_size]))]) (va_A [(h0, Sum.inr (9, [Value.ref h1, Value.ref h2, Value.ref h3, Value.int n0_size]))] sz)) 0 0 (va_A [(h0, Sum.inr (9, [Value.ref h1, Value.ref h2, Value.ref h3, Value.int n0_size]))] sz) := by
  refine Met.ofW (cc := cX9_facts) (maxL := 2) (ret := (some (.array .int))) (by decide) rfl ?_
  intro p e s m args below meth c s₁ B hml hv
  obtain ⟨rfl, hsz, hP, hK, hD0⟩ := hv
  have hx := B.exec
  have hb := B.bytes
  have hr := B.returns
  have hts := atoms_spec (ws := wsX9_facts) B.pre
  have hown : s.vm.findClass RX9 = some m.cls := findClass_of_methodNamed B.named
  have hlocks := B.notSynchronized
  subst hsz
  have hD := hD0.self (sz := s.heap.size)
  generalize hAe : va_A [(h0, Sum.inr (9, [Value.ref h1, Value.ref h2, Value.ref h3, Value.int n0_size]))] s.heap.size = A at hD ⊢
  have hA : ∀ q : Nat, s.heap.size ≤ q → A q := fun q h => by rw [← hAe]; exact Or.inr h
  have hS : va_S A s.heap s.heap [] := va_S.rf
  have hP : va_P (dC, dI) vwCl [(h0, Sum.inr (9, [Value.ref h1, Value.ref h2, Value.ref h3, Value.int n0_size]))] s.heap := hP
  have hl := lv_entry ([.ref h0, .int 0]) (n := 2) (Nat.le_of_ble_eq_true rfl)
  rw [lg_entry_eq]
  generalize (lg_sl ([.ref h0, .int 0]) ++ List.replicate (2 - (lg_sl ([.ref h0, .int 0])).length) Slot.unset).toArray = ls at hl ⊢
  have hl : lv_has ls 2 [(0, .ref h0), (1, .int 0)] := hl
  refine lv_iload_n hx hb dX9_facts_0 rfl (lv_at hl 1 rfl) ?_
  refine lv_if_ne (tgt := 11) hx hb dX9_facts_1 (by decide) (fun c => absurd c (by decide)) (fun _ => ?_)
  refine lv_aload_n hx hb dX9_facts_4 rfl (lv_at hl 0 rfl) ?_
  refine va_get (D := (dC, dI)) (ci := 9) (v := .ref h1) (C := RX9) (T := TX9) (N := 4) hx hb hts (fun _ h => List.mem_cons_of_mem _ (List.mem_append_right _ h)) hown hK hP 0 rfl rfl 0 (by decide) (hts (.fieldLink RX9 9 "KinkStreet$Street" "widths" "[I") (List.mem_of_getElem? (i := 1) rfl)) (fun _ h9 => h9) rfl dX9_facts_5 ?_
  refine lv_goto (tgt := 27) hx hb dX9_facts_8 (by decide) ?_
  obtain ⟨hP9, hD9⟩ := kk_leafout (wc := [(h0, Sum.inr (9, [Value.ref h1, Value.ref h2, Value.ref h3, Value.int n0_size]))]) hP hD [0] (by decide) rfl
  have hK9 := hK.sub (tys' := []) [] rfl
  exact W.aret (v := .ref h1) hx hb hr (Or.inr ⟨_, rfl⟩) (Or.inr ⟨_, rfl⟩) (fun t ht hW => ⟨⟨some h1, (), rfl, rfl, by rw [ht]; exact hP9, va_K.moved hW.alike hK9, hD9⟩, hS.F ht⟩) hS.2.2 dX9_facts_27
set_option maxHeartbeats 4000000 in
set_option maxRecDepth 100000 in
theorem g_X9_tell_1 (l : Launch) (dC : Nat → ClassId) (dI : Nat → Nat → Nat) (h0 : Nat) (h1 : Nat) (h2 : Nat) (h3 : Nat) (cint : ClassId) (sz : Nat) (p1 : Int32) (p2 : Int32) (n0_size : Int32) (f1 : Nat → Int32) (tn0_size : 0 ≤ n0_size.toInt ∧ n0_size.toInt ≤ 40) (pr0 : 0 ≤ p1.toInt) (pr1 : p1.toInt < n0_size.toInt) : Met l yX9_tell wsX9_tell ({ frames := 1, cells := 0, slots := 0, locals := 21 }) (va_Pc [.ref h0, .int 0, .int p1, .int p2] (fun U => U.heap.size = sz ∧ va_P (dC, dI) vwCl [(h0, Sum.inr (9, [Value.ref h1, Value.ref h2, Value.ref h3, Value.int n0_size])), (h1, Sum.inl (cint, 40, Sum.inl f1))] U.heap ∧ va_K (dC, dI) vwCl [(cint, .int)] U ∧ va_D (fun _ => True) [(h0, Sum.inr (9, [Value.ref h1, Value.ref h2, Value.ref h3, Value.int n0_size])), (h1, Sum.inl (cint, 40, Sum.inl f1))])) (va_Qv (fun (_ : Unit) => True) (fun (_ : Unit) t => ∃ (g1 : Nat → Int32), (g1 = upd f1 (p1 : Int32).toNatClampNeg (p2 : Int32)) ∧ va_P (dC, dI) vwCl [(h0, Sum.inr (9, [Value.ref h1, Value.ref h2, Value.ref h3, Value.int n0_size])), (h1, Sum.inl (cint, 40, Sum.inl g1))] t.heap ∧ va_K (dC, dI) vwCl [] t ∧ va_D (va_A [(h0, Sum.inr (9, [Value.ref h1, Value.ref h2, Value.ref h3, Value.int n0_size])), (h1, Sum.inl (cint, 40, Sum.inl f1))] sz) [(h0, Sum.inr (9, [Value.ref h1, Value.ref h2, Value.ref h3, Value.int n0_size])), (h1, Sum.inl (cint, 40, Sum.inl g1))]) (va_A [(h0, Sum.inr (9, [Value.ref h1, Value.ref h2, Value.ref h3, Value.int n0_size])), (h1, Sum.inl (cint, 40, Sum.inl f1))] sz)) 0 0 (va_A [(h0, Sum.inr (9, [Value.ref h1, Value.ref h2, Value.ref h3, Value.int n0_size])), (h1, Sum.inl (cint, 40, Sum.inl f1))] sz) := by
  refine Met.ofW (cc := cX9_tell) (maxL := 4) (ret := none) (by decide) rfl ?_
  intro p e s m args below meth c s₁ B hml hv
  obtain ⟨rfl, hsz, hP, hK, hD0⟩ := hv
  have hx := B.exec
  have hb := B.bytes
  have hr := B.returns
  have hts := atoms_spec (ws := wsX9_tell) B.pre
  have hown : s.vm.findClass RX9 = some m.cls := findClass_of_methodNamed B.named
  have hlocks := B.notSynchronized
  subst hsz
  have hD := hD0.self (sz := s.heap.size)
  generalize hAe : va_A [(h0, Sum.inr (9, [Value.ref h1, Value.ref h2, Value.ref h3, Value.int n0_size])), (h1, Sum.inl (cint, 40, Sum.inl f1))] s.heap.size = A at hD ⊢
  have hA : ∀ q : Nat, s.heap.size ≤ q → A q := fun q h => by rw [← hAe]; exact Or.inr h
  have hS : va_S A s.heap s.heap [] := va_S.rf
  have hP : va_P (dC, dI) vwCl [(h0, Sum.inr (9, [Value.ref h1, Value.ref h2, Value.ref h3, Value.int n0_size])), (h1, Sum.inl (cint, 40, Sum.inl f1))] s.heap := hP
  have hl := lv_entry ([.ref h0, .int 0, .int p1, .int p2]) (n := 4) (Nat.le_of_ble_eq_true rfl)
  rw [lg_entry_eq]
  generalize (lg_sl ([.ref h0, .int 0, .int p1, .int p2]) ++ List.replicate (4 - (lg_sl ([.ref h0, .int 0, .int p1, .int p2])).length) Slot.unset).toArray = ls at hl ⊢
  have hl : lv_has ls 4 [(0, .ref h0), (1, .int 0), (2, .int p1), (3, .int p2)] := hl
  refine lv_aload_n hx hb dX9_tell_0 rfl (lv_at hl 0 rfl) ?_
  refine lv_iload_n hx hb dX9_tell_1 rfl (lv_at hl 2 rfl) ?_
  obtain ⟨hPc, hDc, hFc⟩ := kk_cutout (wc := [(h0, Sum.inr (9, [Value.ref h1, Value.ref h2, Value.ref h3, Value.int n0_size]))]) hP hD hS hA [0] (by decide) rfl
  have hKc := hK.sub (tys' := []) [] rfl
  refine va_calli (va_runV (As := [.int p1]) (rest := []) ⟨hx, hb, hml, hown, hts⟩ (g_X9_has_1 l dC dI h0 h1 h2 h3 s.heap.size p1 n0_size tn0_size) (cwV 1 hts gX9_tell_X9_has rfl rfl rfl (by decide +kernel) ⟨Nat.le_of_ble_eq_true rfl, Nat.le_of_ble_eq_true rfl⟩) ⟨fun a U g mk q => by obtain ⟨q0, q1, qP, qK, qD⟩ := q; exact ⟨q0, q1, qP, va_K.moved (u := U) (U := U.calling g mk a) (Vm.Alike.refl U.vm) qK, qD⟩, va_recv hKc hPc (ci := 9) (q0 := 0) rfl rfl, fun U hU hW => ⟨rfl, by rw [hU], by rw [hU]; exact hPc, va_K.moved hW.alike hKc, hDc.weaken (fun _ _ _ _ => trivial)⟩⟩ rfl rfl hl.1 rfl (lv_room (Nat.le_of_ble_eq_true rfl)) dX9_tell_2 ⟨Nat.le_of_ble_eq_true rfl, Nat.le_of_ble_eq_true rfl⟩) hS (fun q _ h => hFc q h) hFc (fun r_1 u t H1 locs ht hvm hw hB hz1 hk1 hS => ?_)
  obtain ⟨hP1, hK1, hD1⟩ := hB
  rw [ht] at hP1
  have hK1 := va_K.moved hvm.symm hK1
  obtain ⟨hP, hD⟩ := va_join (wr := [(h1, Sum.inl (cint, 40, Sum.inl f1))]) (w1 := [(h0, Sum.inr (9, [Value.ref h1, Value.ref h2, Value.ref h3, Value.int n0_size]))]) hP hD [0] [1] rfl rfl (by decide) (by decide) hk1 hFc hP1 hD1
  generalize H1 = H at hP hS ⊢
  have hP : va_P (dC, dI) vwCl [(h1, Sum.inl (cint, 40, Sum.inl f1)), (h0, Sum.inr (9, [Value.ref h1, Value.ref h2, Value.ref h3, Value.int n0_size]))] H := hP
  have hD : va_D A [(h1, Sum.inl (cint, 40, Sum.inl f1)), (h0, Sum.inr (9, [Value.ref h1, Value.ref h2, Value.ref h3, Value.int n0_size]))] := hD
  rcases hw with ⟨t_1_0, rfl⟩ | ⟨t_1_0, t_1_1, t_1_2, rfl⟩
  · skip
    have t_1_0 : (p1.toInt < 0 ∨ n0_size.toInt ≤ p1.toInt) := t_1_0
    refine lv_if_eq (tgt := 16) hx hb dX9_tell_5 (by decide) (fun _ => ?_) (fun c => absurd c (by decide))
    obtain ⟨hP9, hD9⟩ := kk_leafout (wc := [(h0, Sum.inr (9, [Value.ref h1, Value.ref h2, Value.ref h3, Value.int n0_size])), (h1, Sum.inl (cint, 40, Sum.inl f1))]) hP hD [1, 0] (by decide) rfl
    have hK9 := hK.sub (tys' := []) [] rfl
    exact W.vret hx hb hr (fun t ht hW => ⟨⟨(), rfl, trivial, f1, (by first | rfl | (exfalso; omega)), by rw [ht]; exact hP9, va_K.moved hW.alike hK9, hD9⟩, hS.F ht⟩) hS.2.2 dX9_tell_16
  · skip
    have t_1_0 : (0 : Int) ≤ p1.toInt := t_1_0
    have t_1_2 : (p1.toInt : Int) ≤ 39 := t_1_2
    refine lv_if_eq (tgt := 16) hx hb dX9_tell_5 (by decide) (fun c => absurd c (by decide)) (fun _ => ?_)
    refine lv_aload_n hx hb dX9_tell_8 rfl (lv_at hl 0 rfl) ?_
    refine lv_iload_n hx hb dX9_tell_9 rfl (lv_at hl 1 rfl) ?_
    obtain ⟨hPc, hDc, hFc⟩ := kk_cutout (wc := [(h0, Sum.inr (9, [Value.ref h1, Value.ref h2, Value.ref h3, Value.int n0_size]))]) hP hD hS hA [1] (by decide) rfl
    have hKc := hK.sub (tys' := []) [] rfl
    refine va_callq (va_runV (As := [.int 0]) (rest := []) ⟨hx, hb, hml, hown, hts⟩ (g_X9_facts_2 l dC dI h0 h1 h2 h3 H.size n0_size tn0_size) (cwV 1 hts gX9_tell_X9_facts rfl rfl rfl (by decide +kernel) ⟨Nat.le_of_ble_eq_true rfl, Nat.le_of_ble_eq_true rfl⟩) ⟨fun a U g mk q => by obtain ⟨q0, q1, qP, qK, qD⟩ := q; exact ⟨q0, q1, qP, va_K.moved (u := U) (U := U.calling g mk a) (Vm.Alike.refl U.vm) qK, qD⟩, va_recv hKc hPc (ci := 9) (q0 := 0) rfl rfl, fun U hU hW => ⟨rfl, by rw [hU], by rw [hU]; exact hPc, va_K.moved hW.alike hKc, hDc.weaken (fun _ _ _ _ => trivial)⟩⟩ rfl rfl hl.1 rfl (lv_room (Nat.le_of_ble_eq_true rfl)) dX9_tell_10 ⟨Nat.le_of_ble_eq_true rfl, Nat.le_of_ble_eq_true rfl⟩) hS (fun q _ h => hFc q h) hFc (fun r_2 u t H1 locs ht hvm hw hB hz1 hk1 hS => ?_)
    obtain ⟨hP1, hK1, hD1⟩ := hB
    rw [ht] at hP1
    have hK1 := va_K.moved hvm.symm hK1
    obtain ⟨hP, hD⟩ := va_join (wr := [(h1, Sum.inl (cint, 40, Sum.inl f1))]) (w1 := [(h0, Sum.inr (9, [Value.ref h1, Value.ref h2, Value.ref h3, Value.int n0_size]))]) hP hD [1] [0] rfl rfl (by decide) (by decide) hk1 hFc hP1 hD1
    generalize H1 = H at hP hS ⊢
    have hP : va_P (dC, dI) vwCl [(h1, Sum.inl (cint, 40, Sum.inl f1)), (h0, Sum.inr (9, [Value.ref h1, Value.ref h2, Value.ref h3, Value.int n0_size]))] H := hP
    have hD : va_D A [(h1, Sum.inl (cint, 40, Sum.inl f1)), (h0, Sum.inr (9, [Value.ref h1, Value.ref h2, Value.ref h3, Value.int n0_size]))] := hD
    obtain rfl := hw
    refine W.eq (g2 := F0 m 13 ls [.ref h1]) rfl ?_
    refine lv_iload_n hx hb dX9_tell_13 rfl (lv_at hl 2 rfl) ?_
    refine lv_iload_n hx hb dX9_tell_14 rfl (lv_at hl 3 rfl) ?_
    refine va_iast hx hb hK hP hD hS 0 0 rfl rfl (vp_in_iff.mpr ⟨by omega, by omega⟩) dX9_tell_15 (fun H locs hP hD hS => ?_)
    have w_3 : ((upd f1 (p1 : Int32).toNatClampNeg p2) (p1 : Int32).toNatClampNeg).toInt = (p2 : Int32).toInt := by rw [kk_ups]
    have hP : va_P (dC, dI) vwCl [(h1, Sum.inl (cint, 40, Sum.inl (upd f1 (p1 : Int32).toNatClampNeg p2))), (h0, Sum.inr (9, [Value.ref h1, Value.ref h2, Value.ref h3, Value.int n0_size]))] H := hP
    have hD : va_D A [(h1, Sum.inl (cint, 40, Sum.inl (upd f1 (p1 : Int32).toNatClampNeg p2))), (h0, Sum.inr (9, [Value.ref h1, Value.ref h2, Value.ref h3, Value.int n0_size]))] := hD
    obtain ⟨hP9, hD9⟩ := kk_leafout (wc := [(h0, Sum.inr (9, [Value.ref h1, Value.ref h2, Value.ref h3, Value.int n0_size])), (h1, Sum.inl (cint, 40, Sum.inl (upd f1 (p1 : Int32).toNatClampNeg p2)))]) hP hD [1, 0] (by decide) rfl
    have hK9 := hK.sub (tys' := []) [] rfl
    exact W.vret hx hb hr (fun t ht hW => ⟨⟨(), rfl, trivial, (upd f1 (p1 : Int32).toNatClampNeg p2), (by first | rfl | (exfalso; omega)), by rw [ht]; exact hP9, va_K.moved hW.alike hK9, hD9⟩, hS.F ht⟩) hS.2.2 dX9_tell_16
set_option maxHeartbeats 4000000 in
set_option maxRecDepth 100000 in
theorem g_X9_part_1 (l : Launch) (dC : Nat → ClassId) (dI : Nat → Nat → Nat) (h0 : Nat) (h1 : Nat) (h2 : Nat) (h3 : Nat) (cint : ClassId) (sz : Nat) (p0 : Int32) (n0_size : Int32) (f1 : Nat → Int32) (f2 : Nat → Int32) (f3 : Nat → Int32) (tn0_size : 0 ≤ n0_size.toInt ∧ n0_size.toInt ≤ 40) (pr0 : 0 ≤ p0.toInt) (pr1 : p0.toInt < n0_size.toInt) : Met l yX9_part wsX9_part ({ frames := 2, cells := 0, slots := 0, locals := 45 }) (va_Pc [.ref h0, .int p0] (fun U => U.heap.size = sz ∧ va_P (dC, dI) vwCl [(h0, Sum.inr (9, [Value.ref h1, Value.ref h2, Value.ref h3, Value.int n0_size])), (h1, Sum.inl (cint, 40, Sum.inl f1)), (h2, Sum.inl (cint, 40, Sum.inl f2)), (h3, Sum.inl (cint, 40, Sum.inl f3))] U.heap ∧ va_K (dC, dI) vwCl [(cint, .int)] U ∧ va_D (fun _ => True) [(h0, Sum.inr (9, [Value.ref h1, Value.ref h2, Value.ref h3, Value.int n0_size])), (h1, Sum.inl (cint, 40, Sum.inl f1)), (h2, Sum.inl (cint, 40, Sum.inl f2)), (h3, Sum.inl (cint, 40, Sum.inl f3))])) (va_Qv (fun (_ : Unit) => True) (fun (_ : Unit) t => ∃ (m0_size : Int32) (g1 : Nat → Int32) (g2 : Nat → Int32) (g3 : Nat → Int32), (0 ≤ m0_size.toInt ∧ m0_size.toInt ≤ 40) ∧ (kt_st (m0_size : Int32) g1 g2 g3 = kt_part (p0 : Int32) (kt_st (n0_size : Int32) f1 f2 f3)) ∧ (1 ≤ m0_size.toInt) ∧ va_P (dC, dI) vwCl [(h0, Sum.inr (9, [Value.ref h1, Value.ref h2, Value.ref h3, Value.int m0_size])), (h1, Sum.inl (cint, 40, Sum.inl g1)), (h2, Sum.inl (cint, 40, Sum.inl g2)), (h3, Sum.inl (cint, 40, Sum.inl g3))] t.heap ∧ va_K (dC, dI) vwCl [] t ∧ va_D (va_A [(h0, Sum.inr (9, [Value.ref h1, Value.ref h2, Value.ref h3, Value.int n0_size])), (h1, Sum.inl (cint, 40, Sum.inl f1)), (h2, Sum.inl (cint, 40, Sum.inl f2)), (h3, Sum.inl (cint, 40, Sum.inl f3))] sz) [(h0, Sum.inr (9, [Value.ref h1, Value.ref h2, Value.ref h3, Value.int m0_size])), (h1, Sum.inl (cint, 40, Sum.inl g1)), (h2, Sum.inl (cint, 40, Sum.inl g2)), (h3, Sum.inl (cint, 40, Sum.inl g3))]) (va_A [(h0, Sum.inr (9, [Value.ref h1, Value.ref h2, Value.ref h3, Value.int n0_size])), (h1, Sum.inl (cint, 40, Sum.inl f1)), (h2, Sum.inl (cint, 40, Sum.inl f2)), (h3, Sum.inl (cint, 40, Sum.inl f3))] sz)) 0 0 (va_A [(h0, Sum.inr (9, [Value.ref h1, Value.ref h2, Value.ref h3, Value.int n0_size])), (h1, Sum.inl (cint, 40, Sum.inl f1)), (h2, Sum.inl (cint, 40, Sum.inl f2)), (h3, Sum.inl (cint, 40, Sum.inl f3))] sz) := by
  refine Met.ofW (cc := cX9_part) (maxL := 3) (ret := none) (by decide) rfl ?_
  intro p e s m args below meth c s₁ B hml hv
  obtain ⟨rfl, hsz, hP, hK, hD0⟩ := hv
  have hx := B.exec
  have hb := B.bytes
  have hr := B.returns
  have hts := atoms_spec (ws := wsX9_part) B.pre
  have hown : s.vm.findClass RX9 = some m.cls := findClass_of_methodNamed B.named
  have hlocks := B.notSynchronized
  subst hsz
  have hD := hD0.self (sz := s.heap.size)
  generalize hAe : va_A [(h0, Sum.inr (9, [Value.ref h1, Value.ref h2, Value.ref h3, Value.int n0_size])), (h1, Sum.inl (cint, 40, Sum.inl f1)), (h2, Sum.inl (cint, 40, Sum.inl f2)), (h3, Sum.inl (cint, 40, Sum.inl f3))] s.heap.size = A at hD ⊢
  have hA : ∀ q : Nat, s.heap.size ≤ q → A q := fun q h => by rw [← hAe]; exact Or.inr h
  have hS : va_S A s.heap s.heap [] := va_S.rf
  have hP : va_P (dC, dI) vwCl [(h0, Sum.inr (9, [Value.ref h1, Value.ref h2, Value.ref h3, Value.int n0_size])), (h1, Sum.inl (cint, 40, Sum.inl f1)), (h2, Sum.inl (cint, 40, Sum.inl f2)), (h3, Sum.inl (cint, 40, Sum.inl f3))] s.heap := hP
  have hl := lv_entry ([.ref h0, .int p0]) (n := 3) (Nat.le_of_ble_eq_true rfl)
  rw [lg_entry_eq]
  generalize (lg_sl ([.ref h0, .int p0]) ++ List.replicate (3 - (lg_sl ([.ref h0, .int p0])).length) Slot.unset).toArray = ls at hl ⊢
  have hl : lv_has ls 3 [(0, .ref h0), (1, .int p0)] := hl
  refine lv_aload_n hx hb dX9_part_0 rfl (lv_at hl 0 rfl) ?_
  refine lv_iload_n hx hb dX9_part_1 rfl (lv_at hl 1 rfl) ?_
  obtain ⟨hPc, hDc, hFc⟩ := kk_cutout (wc := [(h0, Sum.inr (9, [Value.ref h1, Value.ref h2, Value.ref h3, Value.int n0_size])), (h1, Sum.inl (cint, 40, Sum.inl f1))]) hP hD hS hA [0, 1] (by decide) rfl
  have hKc := hK.sub (tys' := [(cint, .int)]) [0] rfl
  refine va_calli (va_runV (As := [.int p0]) (rest := []) ⟨hx, hb, hml, hown, hts⟩ (g_X9_width_1 l dC dI h0 h1 h2 h3 cint s.heap.size p0 n0_size f1 tn0_size) (cwV 1 hts gX9_part_X9_width rfl rfl rfl (by decide +kernel) ⟨Nat.le_of_ble_eq_true rfl, Nat.le_of_ble_eq_true rfl⟩) ⟨fun a U g mk q => by obtain ⟨q0, q1, qP, qK, qD⟩ := q; exact ⟨q0, q1, qP, va_K.moved (u := U) (U := U.calling g mk a) (Vm.Alike.refl U.vm) qK, qD⟩, va_recv hKc hPc (ci := 9) (q0 := 0) rfl rfl, fun U hU hW => ⟨rfl, by rw [hU], by rw [hU]; exact hPc, va_K.moved hW.alike hKc, hDc.weaken (fun _ _ _ _ => trivial)⟩⟩ rfl rfl hl.1 rfl (lv_room (Nat.le_of_ble_eq_true rfl)) dX9_part_2 ⟨Nat.le_of_ble_eq_true rfl, Nat.le_of_ble_eq_true rfl⟩) hS (fun q _ h => hFc q h) hFc (fun r_1 u t H1 locs ht hvm hw hB hz1 hk1 hS => ?_)
  obtain ⟨hP1, hK1, hD1⟩ := hB
  rw [ht] at hP1
  have hK1 := va_K.moved hvm.symm hK1
  obtain ⟨hP, hD⟩ := va_join (wr := [(h2, Sum.inl (cint, 40, Sum.inl f2)), (h3, Sum.inl (cint, 40, Sum.inl f3))]) (w1 := [(h0, Sum.inr (9, [Value.ref h1, Value.ref h2, Value.ref h3, Value.int n0_size])), (h1, Sum.inl (cint, 40, Sum.inl f1))]) hP hD [0, 1] [2, 3] rfl rfl (by decide) (by decide) hk1 hFc hP1 hD1
  generalize H1 = H at hP hS ⊢
  have hP : va_P (dC, dI) vwCl [(h2, Sum.inl (cint, 40, Sum.inl f2)), (h3, Sum.inl (cint, 40, Sum.inl f3)), (h0, Sum.inr (9, [Value.ref h1, Value.ref h2, Value.ref h3, Value.int n0_size])), (h1, Sum.inl (cint, 40, Sum.inl f1))] H := hP
  have hD : va_D A [(h2, Sum.inl (cint, 40, Sum.inl f2)), (h3, Sum.inl (cint, 40, Sum.inl f3)), (h0, Sum.inr (9, [Value.ref h1, Value.ref h2, Value.ref h3, Value.int n0_size])), (h1, Sum.inl (cint, 40, Sum.inl f1))] := hD
  rcases hw with ⟨t_1_0, _⟩
  · skip
    have t_1_0 : ((0 ≤ p0.toInt ∧ p0.toInt < n0_size.toInt → r_1.toInt = (f1 (p0 : Int32).toNatClampNeg).toInt) ∧ ((p0.toInt < 0 ∨ n0_size.toInt ≤ p0.toInt) → r_1.toInt = 0)) := t_1_0
    refine lv_istore_n (lv' := [(2, .int r_1), (0, .ref h0), (1, .int p0)]) hx hb dX9_part_5 rfl hl (by decide) rfl (fun ls hl => ?_)
    refine lv_iload_n hx hb dX9_part_6 rfl (lv_at hl 0 rfl) ?_
    refine lv_iconst (v := 1) hx hb dX9_part_7 (by decide) ?_
    refine lv_icmp_le (tgt := 46) hx hb dX9_part_8 (by decide) (fun c_2 => ?_) (fun c_2 => ?_)
    · have t_2 : r_1.toInt ≤ 1 := kk_le c_2
      have hk_3 : kt_st n0_size f1 f2 f3 = kt_part (p0 : Int32) (kt_st n0_size f1 f2 f3) := kt_part_n2 (a := r_1) (by have := kk_rng r_1; have := kk_add2 (x := p0) (y := 1) (a := p0.toInt) (b := 1) rfl rfl (by omega) (by omega); have := kk_add2 (x := n0_size) (y := 1) (a := n0_size.toInt) (b := 1) rfl rfl (by omega) (by omega); omega) (by have := kk_rng r_1; have := kk_add2 (x := p0) (y := 1) (a := p0.toInt) (b := 1) rfl rfl (by omega) (by omega); have := kk_add2 (x := n0_size) (y := 1) (a := n0_size.toInt) (b := 1) rfl rfl (by omega) (by omega); omega) (by have := kk_rng r_1; have := kk_add2 (x := p0) (y := 1) (a := p0.toInt) (b := 1) rfl rfl (by omega) (by omega); have := kk_add2 (x := n0_size) (y := 1) (a := n0_size.toInt) (b := 1) rfl rfl (by omega) (by omega); omega) (by have := kk_rng r_1; have := kk_add2 (x := p0) (y := 1) (a := p0.toInt) (b := 1) rfl rfl (by omega) (by omega); have := kk_add2 (x := n0_size) (y := 1) (a := n0_size.toInt) (b := 1) rfl rfl (by omega) (by omega); omega)
      obtain ⟨hP9, hD9⟩ := kk_leafout (wc := [(h0, Sum.inr (9, [Value.ref h1, Value.ref h2, Value.ref h3, Value.int n0_size])), (h1, Sum.inl (cint, 40, Sum.inl f1)), (h2, Sum.inl (cint, 40, Sum.inl f2)), (h3, Sum.inl (cint, 40, Sum.inl f3))]) hP hD [2, 3, 0, 1] (by decide) rfl
      have hK9 := hK.sub (tys' := []) [] rfl
      exact W.vret hx hb hr (fun t ht hW => ⟨⟨(), rfl, trivial, n0_size, f1, f2, f3, tn0_size, (by first | with_reducible assumption | (exfalso; have := kk_rng r_1; have := kk_add2 (x := p0) (y := 1) (a := p0.toInt) (b := 1) rfl rfl (by omega) (by omega); have := kk_add2 (x := n0_size) (y := 1) (a := n0_size.toInt) (b := 1) rfl rfl (by omega) (by omega); omega)), (by show 1 ≤ (n0_size : Int32).toInt; first | with_reducible assumption | (have := kk_rng r_1; have := kk_add2 (x := p0) (y := 1) (a := p0.toInt) (b := 1) rfl rfl (by omega) (by omega); have := kk_add2 (x := n0_size) (y := 1) (a := n0_size.toInt) (b := 1) rfl rfl (by omega) (by omega); omega)), by rw [ht]; exact hP9, va_K.moved hW.alike hK9, hD9⟩, hS.F ht⟩) hS.2.2 dX9_part_46
    · have t_2 : 1 < r_1.toInt := kk_nle c_2
      refine lv_aload_n hx hb dX9_part_11 rfl (lv_at hl 1 rfl) ?_
      obtain ⟨hPc, hDc, hFc⟩ := kk_cutout (wc := [(h0, Sum.inr (9, [Value.ref h1, Value.ref h2, Value.ref h3, Value.int n0_size]))]) hP hD hS hA [2] (by decide) rfl
      have hKc := hK.sub (tys' := []) [] rfl
      refine va_calli (va_runV (As := []) (rest := []) ⟨hx, hb, hml, hown, hts⟩ (g_X9_isFull_0 l dC dI h0 h1 h2 h3 H.size n0_size tn0_size) (cwV 0 hts gX9_part_X9_isFull rfl rfl rfl (by decide +kernel) ⟨Nat.le_of_ble_eq_true rfl, Nat.le_of_ble_eq_true rfl⟩) ⟨fun a U g mk q => by obtain ⟨q0, q1, qP, qK, qD⟩ := q; exact ⟨q0, q1, qP, va_K.moved (u := U) (U := U.calling g mk a) (Vm.Alike.refl U.vm) qK, qD⟩, va_recv hKc hPc (ci := 9) (q0 := 0) rfl rfl, fun U hU hW => ⟨rfl, by rw [hU], by rw [hU]; exact hPc, va_K.moved hW.alike hKc, hDc.weaken (fun _ _ _ _ => trivial)⟩⟩ rfl rfl hl.1 rfl (lv_room (Nat.le_of_ble_eq_true rfl)) dX9_part_12 ⟨Nat.le_of_ble_eq_true rfl, Nat.le_of_ble_eq_true rfl⟩) hS (fun q _ h => hFc q h) hFc (fun r_4 u t H1 locs ht hvm hw hB hz1 hk1 hS => ?_)
      obtain ⟨hP1, hK1, hD1⟩ := hB
      rw [ht] at hP1
      have hK1 := va_K.moved hvm.symm hK1
      obtain ⟨hP, hD⟩ := va_join (wr := [(h2, Sum.inl (cint, 40, Sum.inl f2)), (h3, Sum.inl (cint, 40, Sum.inl f3)), (h1, Sum.inl (cint, 40, Sum.inl f1))]) (w1 := [(h0, Sum.inr (9, [Value.ref h1, Value.ref h2, Value.ref h3, Value.int n0_size]))]) hP hD [2] [0, 1, 3] rfl rfl (by decide) (by decide) hk1 hFc hP1 hD1
      generalize H1 = H at hP hS ⊢
      have hP : va_P (dC, dI) vwCl [(h2, Sum.inl (cint, 40, Sum.inl f2)), (h3, Sum.inl (cint, 40, Sum.inl f3)), (h1, Sum.inl (cint, 40, Sum.inl f1)), (h0, Sum.inr (9, [Value.ref h1, Value.ref h2, Value.ref h3, Value.int n0_size]))] H := hP
      have hD : va_D A [(h2, Sum.inl (cint, 40, Sum.inl f2)), (h3, Sum.inl (cint, 40, Sum.inl f3)), (h1, Sum.inl (cint, 40, Sum.inl f1)), (h0, Sum.inr (9, [Value.ref h1, Value.ref h2, Value.ref h3, Value.int n0_size]))] := hD
      rcases hw with ⟨t_4_0, rfl⟩ | ⟨t_4_0, rfl⟩
      · skip
        have t_4_0 : (n0_size.toInt : Int) < 40 := t_4_0
        refine lv_if_ne (tgt := 46) hx hb dX9_part_15 (by decide) (fun c => absurd c (by decide)) (fun _ => ?_)
        refine lv_aload_n hx hb dX9_part_18 rfl (lv_at hl 1 rfl) ?_
        refine lv_iconst (v := 0) hx hb dX9_part_19 (by decide) ?_
        refine lv_iload_n hx hb dX9_part_20 rfl (lv_at hl 2 rfl) ?_
        refine lv_iload_n hx hb dX9_part_21 rfl (lv_at hl 0 rfl) ?_
        refine lv_iconst (v := 2) hx hb dX9_part_22 (by decide) ?_
        refine lv_idiv hx hb dX9_part_23 (by decide) ?_
        obtain ⟨hPc, hDc, hFc⟩ := kk_cutout (wc := [(h0, Sum.inr (9, [Value.ref h1, Value.ref h2, Value.ref h3, Value.int n0_size])), (h1, Sum.inl (cint, 40, Sum.inl f1))]) hP hD hS hA [3, 2] (by decide) rfl
        have hKc := hK.sub (tys' := [(cint, .int)]) [0] rfl
        refine va_callv (va_runV (As := [.int 0, .int p0, .int (r_1 / 2)]) (rest := []) ⟨hx, hb, hml, hown, hts⟩ (g_X9_tell_1 l dC dI h0 h1 h2 h3 cint H.size p0 (r_1 / 2) n0_size f1 tn0_size (by show 0 ≤ (p0 : Int32).toInt; first | with_reducible assumption | (have := kk_rng r_1; have := kk_div (x := r_1) (k := 2) (n := 2) rfl (by decide) (by omega); omega)) (by show (p0 : Int32).toInt < (n0_size : Int32).toInt; first | with_reducible assumption | (have := kk_rng r_1; have := kk_div (x := r_1) (k := 2) (n := 2) rfl (by decide) (by omega); omega))) (cwV 3 hts gX9_part_X9_tell rfl rfl rfl (by decide +kernel) ⟨Nat.le_of_ble_eq_true rfl, Nat.le_of_ble_eq_true rfl⟩) ⟨fun a U g mk q => by obtain ⟨q0, q1, qP, qK, qD⟩ := q; exact ⟨q0, q1, qP, va_K.moved (u := U) (U := U.calling g mk a) (Vm.Alike.refl U.vm) qK, qD⟩, va_recv hKc hPc (ci := 9) (q0 := 0) rfl rfl, fun U hU hW => ⟨rfl, by rw [hU], by rw [hU]; exact hPc, va_K.moved hW.alike hKc, hDc.weaken (fun _ _ _ _ => trivial)⟩⟩ rfl rfl hl.1 rfl (lv_room (Nat.le_of_ble_eq_true rfl)) dX9_part_24 ⟨Nat.le_of_ble_eq_true rfl, Nat.le_of_ble_eq_true rfl⟩) hS (fun q _ h => hFc q h) hFc (fun u t H1 locs ht hvm hw hB hz1 hk1 hS => ?_)
        obtain ⟨f_6, v_6_0, hP1, hK1, hD1⟩ := hB
        have v_6_0 : f_6 = upd f1 (p0 : Int32).toNatClampNeg ((r_1 / 2) : Int32) := v_6_0
        rw [ht] at hP1
        have hK1 := va_K.moved hvm.symm hK1
        obtain ⟨hP, hD⟩ := va_join (wr := [(h2, Sum.inl (cint, 40, Sum.inl f2)), (h3, Sum.inl (cint, 40, Sum.inl f3))]) (w1 := [(h0, Sum.inr (9, [Value.ref h1, Value.ref h2, Value.ref h3, Value.int n0_size])), (h1, Sum.inl (cint, 40, Sum.inl f_6))]) hP hD [3, 2] [0, 1] rfl rfl (by decide) (by decide) hk1 hFc hP1 hD1
        generalize H1 = H at hP hS ⊢
        have hP : va_P (dC, dI) vwCl [(h2, Sum.inl (cint, 40, Sum.inl f2)), (h3, Sum.inl (cint, 40, Sum.inl f3)), (h0, Sum.inr (9, [Value.ref h1, Value.ref h2, Value.ref h3, Value.int n0_size])), (h1, Sum.inl (cint, 40, Sum.inl f_6))] H := hP
        have hD : va_D A [(h2, Sum.inl (cint, 40, Sum.inl f2)), (h3, Sum.inl (cint, 40, Sum.inl f3)), (h0, Sum.inr (9, [Value.ref h1, Value.ref h2, Value.ref h3, Value.int n0_size])), (h1, Sum.inl (cint, 40, Sum.inl f_6))] := hD
        refine lv_aload_n hx hb dX9_part_27 rfl (lv_at hl 1 rfl) ?_
        refine lv_iload_n hx hb dX9_part_28 rfl (lv_at hl 2 rfl) ?_
        refine lv_iconst (v := 1) hx hb dX9_part_29 (by decide) ?_
        refine lv_iadd hx hb dX9_part_30 ?_
        refine lv_iload_n hx hb dX9_part_31 rfl (lv_at hl 0 rfl) ?_
        refine lv_iload_n hx hb dX9_part_32 rfl (lv_at hl 0 rfl) ?_
        refine lv_iconst (v := 2) hx hb dX9_part_33 (by decide) ?_
        refine lv_idiv hx hb dX9_part_34 (by decide) ?_
        refine lv_isub hx hb dX9_part_35 ?_
        refine lv_aload_n hx hb dX9_part_36 rfl (lv_at hl 1 rfl) ?_
        refine lv_iconst (v := 1) hx hb dX9_part_37 (by decide) ?_
        refine lv_iload_n hx hb dX9_part_38 rfl (lv_at hl 2 rfl) ?_
        obtain ⟨hPc, hDc, hFc⟩ := kk_cutout (wc := [(h0, Sum.inr (9, [Value.ref h1, Value.ref h2, Value.ref h3, Value.int n0_size])), (h2, Sum.inl (cint, 40, Sum.inl f2))]) hP hD hS hA [2, 0] (by decide) rfl
        have hKc := hK.sub (tys' := [(cint, .int)]) [0] rfl
        refine va_calli (va_runV (As := [.int 1, .int p0]) (rest := [.int (r_1 - (r_1 / 2)), .int (p0 + 1), .ref h0]) ⟨hx, hb, hml, hown, hts⟩ (g_X9_fact_1 l dC dI h0 h2 h1 h3 cint H.size p0 n0_size f2 tn0_size) (cwV 2 hts gX9_part_X9_fact rfl rfl rfl (by decide +kernel) ⟨Nat.le_of_ble_eq_true rfl, Nat.le_of_ble_eq_true rfl⟩) ⟨fun a U g mk q => by obtain ⟨q0, q1, qP, qK, qD⟩ := q; exact ⟨q0, q1, qP, va_K.moved (u := U) (U := U.calling g mk a) (Vm.Alike.refl U.vm) qK, qD⟩, va_recv hKc hPc (ci := 9) (q0 := 0) rfl rfl, fun U hU hW => ⟨rfl, by rw [hU], by rw [hU]; exact hPc, va_K.moved hW.alike hKc, hDc.weaken (fun _ _ _ _ => trivial)⟩⟩ rfl rfl hl.1 rfl (lv_room (Nat.le_of_ble_eq_true rfl)) dX9_part_39 ⟨Nat.le_of_ble_eq_true rfl, Nat.le_of_ble_eq_true rfl⟩) hS (fun q _ h => hFc q h) hFc (fun r_7 u t H1 locs ht hvm hw hB hz1 hk1 hS => ?_)
        obtain ⟨hP1, hK1, hD1⟩ := hB
        rw [ht] at hP1
        have hK1 := va_K.moved hvm.symm hK1
        obtain ⟨hP, hD⟩ := va_join (wr := [(h3, Sum.inl (cint, 40, Sum.inl f3)), (h1, Sum.inl (cint, 40, Sum.inl f_6))]) (w1 := [(h0, Sum.inr (9, [Value.ref h1, Value.ref h2, Value.ref h3, Value.int n0_size])), (h2, Sum.inl (cint, 40, Sum.inl f2))]) hP hD [2, 0] [1, 3] rfl rfl (by decide) (by decide) hk1 hFc hP1 hD1
        generalize H1 = H at hP hS ⊢
        have hP : va_P (dC, dI) vwCl [(h3, Sum.inl (cint, 40, Sum.inl f3)), (h1, Sum.inl (cint, 40, Sum.inl f_6)), (h0, Sum.inr (9, [Value.ref h1, Value.ref h2, Value.ref h3, Value.int n0_size])), (h2, Sum.inl (cint, 40, Sum.inl f2))] H := hP
        have hD : va_D A [(h3, Sum.inl (cint, 40, Sum.inl f3)), (h1, Sum.inl (cint, 40, Sum.inl f_6)), (h0, Sum.inr (9, [Value.ref h1, Value.ref h2, Value.ref h3, Value.int n0_size])), (h2, Sum.inl (cint, 40, Sum.inl f2))] := hD
        rcases hw with ⟨t_7_0, _⟩
        · skip
          have t_7_0 : ((0 ≤ p0.toInt ∧ p0.toInt < n0_size.toInt → r_7.toInt = (f2 (p0 : Int32).toNatClampNeg).toInt) ∧ ((p0.toInt < 0 ∨ n0_size.toInt ≤ p0.toInt) → r_7.toInt = 0)) := t_7_0
          refine lv_iconst (v := 0) hx hb dX9_part_42 (by decide) ?_
          obtain ⟨hPc, hDc, hFc⟩ := kk_cutout (wc := [(h0, Sum.inr (9, [Value.ref h1, Value.ref h2, Value.ref h3, Value.int n0_size])), (h1, Sum.inl (cint, 40, Sum.inl f_6)), (h2, Sum.inl (cint, 40, Sum.inl f2)), (h3, Sum.inl (cint, 40, Sum.inl f3))]) hP hD hS hA [2, 1, 3, 0] (by decide) rfl
          have hKc := hK.sub (tys' := [(cint, .int)]) [0] rfl
          refine va_callv (va_runV (As := [.int (p0 + 1), .int (r_1 - (r_1 / 2)), .int r_7, .int 0]) (rest := []) ⟨hx, hb, hml, hown, hts⟩ (g_X9_insert_1 l dC dI h0 h1 h2 h3 cint H.size (p0 + 1) (r_1 - (r_1 / 2)) r_7 0 n0_size f_6 f2 f3 tn0_size (by show (n0_size : Int32).toInt ≤ 39; first | with_reducible assumption | (have := kk_rng r_1; have := kk_div (x := r_1) (k := 2) (n := 2) rfl (by decide) (by omega); have := kk_add2 (x := p0) (y := 1) (a := p0.toInt) (b := 1) rfl rfl (by omega) (by omega); have := kk_rng r_1; have := kk_sub2 (x := r_1) (y := (r_1 / 2)) (a := r_1.toInt) (b := (r_1 / 2).toInt) rfl rfl (by omega) (by omega); omega)) (by show 0 ≤ ((p0 + 1) : Int32).toInt; first | with_reducible assumption | (have := kk_rng r_1; have := kk_div (x := r_1) (k := 2) (n := 2) rfl (by decide) (by omega); have := kk_add2 (x := p0) (y := 1) (a := p0.toInt) (b := 1) rfl rfl (by omega) (by omega); have := kk_rng r_1; have := kk_sub2 (x := r_1) (y := (r_1 / 2)) (a := r_1.toInt) (b := (r_1 / 2).toInt) rfl rfl (by omega) (by omega); omega)) (by show ((p0 + 1) : Int32).toInt ≤ (n0_size : Int32).toInt; first | with_reducible assumption | (have := kk_rng r_1; have := kk_div (x := r_1) (k := 2) (n := 2) rfl (by decide) (by omega); have := kk_add2 (x := p0) (y := 1) (a := p0.toInt) (b := 1) rfl rfl (by omega) (by omega); have := kk_rng r_1; have := kk_sub2 (x := r_1) (y := (r_1 / 2)) (a := r_1.toInt) (b := (r_1 / 2).toInt) rfl rfl (by omega) (by omega); omega))) (cwV 4 hts gX9_part_X9_insert rfl rfl rfl (by decide +kernel) ⟨Nat.le_of_ble_eq_true rfl, Nat.le_of_ble_eq_true rfl⟩) ⟨fun a U g mk q => by obtain ⟨q0, q1, qP, qK, qD⟩ := q; exact ⟨q0, q1, qP, va_K.moved (u := U) (U := U.calling g mk a) (Vm.Alike.refl U.vm) qK, qD⟩, va_recv hKc hPc (ci := 9) (q0 := 0) rfl rfl, fun U hU hW => ⟨rfl, by rw [hU], by rw [hU]; exact hPc, va_K.moved hW.alike hKc, hDc.weaken (fun _ _ _ _ => trivial)⟩⟩ rfl rfl hl.1 rfl (lv_room (Nat.le_of_ble_eq_true rfl)) dX9_part_43 ⟨Nat.le_of_ble_eq_true rfl, Nat.le_of_ble_eq_true rfl⟩) hS (fun q _ h => hFc q h) hFc (fun u t H1 locs ht hvm hw hB hz1 hk1 hS => ?_)
          obtain ⟨y_9, f_10, f_11, f_12, by_9, v_12_0, v_12_1, v_12_2, v_12_3, hP1, hK1, hD1⟩ := hB
          have v_12_0 : kt_in f_6 f_10 (p0 + 1).toInt n0_size.toInt ((r_1 - (r_1 / 2)) : Int32) := v_12_0
          have v_12_1 : kt_in f2 f_11 (p0 + 1).toInt n0_size.toInt (r_7 : Int32) := v_12_1
          have v_12_2 : kt_in f3 f_12 (p0 + 1).toInt n0_size.toInt (0 : Int32) := v_12_2
          have v_12_3 : y_9.toInt = n0_size.toInt + 1 := v_12_3
          rw [ht] at hP1
          have hK1 := va_K.moved hvm.symm hK1
          obtain ⟨hP, hD⟩ := va_join (wr := []) (w1 := [(h0, Sum.inr (9, [Value.ref h1, Value.ref h2, Value.ref h3, Value.int y_9])), (h1, Sum.inl (cint, 40, Sum.inl f_10)), (h2, Sum.inl (cint, 40, Sum.inl f_11)), (h3, Sum.inl (cint, 40, Sum.inl f_12))]) hP hD [2, 1, 3, 0] [] rfl rfl (by decide) (by decide) hk1 hFc hP1 hD1
          generalize H1 = H at hP hS ⊢
          have hP : va_P (dC, dI) vwCl [(h0, Sum.inr (9, [Value.ref h1, Value.ref h2, Value.ref h3, Value.int y_9])), (h1, Sum.inl (cint, 40, Sum.inl f_10)), (h2, Sum.inl (cint, 40, Sum.inl f_11)), (h3, Sum.inl (cint, 40, Sum.inl f_12))] H := hP
          have hD : va_D A [(h0, Sum.inr (9, [Value.ref h1, Value.ref h2, Value.ref h3, Value.int y_9])), (h1, Sum.inl (cint, 40, Sum.inl f_10)), (h2, Sum.inl (cint, 40, Sum.inl f_11)), (h3, Sum.inl (cint, 40, Sum.inl f_12))] := hD
          have hk_13 : kt_st y_9 f_10 f_11 f_12 = kt_part (p0 : Int32) (kt_st n0_size f1 f2 f3) := kt_part_c (q := (p0 + 1)) (a := r_1) (h := (r_1 / 2)) (d := r_7) (W1 := f_6) (by have := kk_rng r_1; have := kk_div (x := r_1) (k := 2) (n := 2) rfl (by decide) (by omega); have := kk_add2 (x := p0) (y := 1) (a := p0.toInt) (b := 1) rfl rfl (by omega) (by omega); have := kk_rng r_1; have := kk_sub2 (x := r_1) (y := (r_1 / 2)) (a := r_1.toInt) (b := (r_1 / 2).toInt) rfl rfl (by omega) (by omega); have := kk_add2 (x := n0_size) (y := 1) (a := n0_size.toInt) (b := 1) rfl rfl (by omega) (by omega); omega) (by have := kk_rng r_1; have := kk_div (x := r_1) (k := 2) (n := 2) rfl (by decide) (by omega); have := kk_add2 (x := p0) (y := 1) (a := p0.toInt) (b := 1) rfl rfl (by omega) (by omega); have := kk_rng r_1; have := kk_sub2 (x := r_1) (y := (r_1 / 2)) (a := r_1.toInt) (b := (r_1 / 2).toInt) rfl rfl (by omega) (by omega); have := kk_add2 (x := n0_size) (y := 1) (a := n0_size.toInt) (b := 1) rfl rfl (by omega) (by omega); omega) (by have := kk_rng r_1; have := kk_div (x := r_1) (k := 2) (n := 2) rfl (by decide) (by omega); have := kk_add2 (x := p0) (y := 1) (a := p0.toInt) (b := 1) rfl rfl (by omega) (by omega); have := kk_rng r_1; have := kk_sub2 (x := r_1) (y := (r_1 / 2)) (a := r_1.toInt) (b := (r_1 / 2).toInt) rfl rfl (by omega) (by omega); have := kk_add2 (x := n0_size) (y := 1) (a := n0_size.toInt) (b := 1) rfl rfl (by omega) (by omega); omega) (by have := kk_rng r_1; have := kk_div (x := r_1) (k := 2) (n := 2) rfl (by decide) (by omega); have := kk_add2 (x := p0) (y := 1) (a := p0.toInt) (b := 1) rfl rfl (by omega) (by omega); have := kk_rng r_1; have := kk_sub2 (x := r_1) (y := (r_1 / 2)) (a := r_1.toInt) (b := (r_1 / 2).toInt) rfl rfl (by omega) (by omega); have := kk_add2 (x := n0_size) (y := 1) (a := n0_size.toInt) (b := 1) rfl rfl (by omega) (by omega); omega) (by have := kk_rng r_1; have := kk_div (x := r_1) (k := 2) (n := 2) rfl (by decide) (by omega); have := kk_add2 (x := p0) (y := 1) (a := p0.toInt) (b := 1) rfl rfl (by omega) (by omega); have := kk_rng r_1; have := kk_sub2 (x := r_1) (y := (r_1 / 2)) (a := r_1.toInt) (b := (r_1 / 2).toInt) rfl rfl (by omega) (by omega); have := kk_add2 (x := n0_size) (y := 1) (a := n0_size.toInt) (b := 1) rfl rfl (by omega) (by omega); omega) (by have := kk_rng r_1; have := kk_div (x := r_1) (k := 2) (n := 2) rfl (by decide) (by omega); have := kk_add2 (x := p0) (y := 1) (a := p0.toInt) (b := 1) rfl rfl (by omega) (by omega); have := kk_rng r_1; have := kk_sub2 (x := r_1) (y := (r_1 / 2)) (a := r_1.toInt) (b := (r_1 / 2).toInt) rfl rfl (by omega) (by omega); have := kk_add2 (x := n0_size) (y := 1) (a := n0_size.toInt) (b := 1) rfl rfl (by omega) (by omega); omega) (kt_i2 (by have := kk_rng r_1; have := kk_div (x := r_1) (k := 2) (n := 2) rfl (by decide) (by omega); have := kk_add2 (x := p0) (y := 1) (a := p0.toInt) (b := 1) rfl rfl (by omega) (by omega); have := kk_rng r_1; have := kk_sub2 (x := r_1) (y := (r_1 / 2)) (a := r_1.toInt) (b := (r_1 / 2).toInt) rfl rfl (by omega) (by omega); have := kk_add2 (x := n0_size) (y := 1) (a := n0_size.toInt) (b := 1) rfl rfl (by omega) (by omega); omega)) (by have := kk_rng r_1; have := kk_div (x := r_1) (k := 2) (n := 2) rfl (by decide) (by omega); have := kk_add2 (x := p0) (y := 1) (a := p0.toInt) (b := 1) rfl rfl (by omega) (by omega); have := kk_rng r_1; have := kk_sub2 (x := r_1) (y := (r_1 / 2)) (a := r_1.toInt) (b := (r_1 / 2).toInt) rfl rfl (by omega) (by omega); have := kk_add2 (x := n0_size) (y := 1) (a := n0_size.toInt) (b := 1) rfl rfl (by omega) (by omega); omega) rfl rfl (by have := kk_rng r_1; have := kk_div (x := r_1) (k := 2) (n := 2) rfl (by decide) (by omega); have := kk_add2 (x := p0) (y := 1) (a := p0.toInt) (b := 1) rfl rfl (by omega) (by omega); have := kk_rng r_1; have := kk_sub2 (x := r_1) (y := (r_1 / 2)) (a := r_1.toInt) (b := (r_1 / 2).toInt) rfl rfl (by omega) (by omega); have := kk_add2 (x := n0_size) (y := 1) (a := n0_size.toInt) (b := 1) rfl rfl (by omega) (by omega); omega) rfl (by with_reducible assumption) (show kt_in f_6 f_10 (p0 + 1).toInt n0_size.toInt (r_1 - (r_1 / 2) : Int32) from (by with_reducible assumption)) (show kt_in f2 f_11 (p0 + 1).toInt n0_size.toInt r_7 from (by with_reducible assumption)) (show kt_in f3 f_12 (p0 + 1).toInt n0_size.toInt (0 : Int32) from (by with_reducible assumption))
          obtain ⟨hP9, hD9⟩ := kk_leafout (wc := [(h0, Sum.inr (9, [Value.ref h1, Value.ref h2, Value.ref h3, Value.int y_9])), (h1, Sum.inl (cint, 40, Sum.inl f_10)), (h2, Sum.inl (cint, 40, Sum.inl f_11)), (h3, Sum.inl (cint, 40, Sum.inl f_12))]) hP hD [0, 1, 2, 3] (by decide) rfl
          have hK9 := hK.sub (tys' := []) [] rfl
          exact W.vret hx hb hr (fun t ht hW => ⟨⟨(), rfl, trivial, y_9, f_10, f_11, f_12, (by show 0 ≤ (y_9 : Int32).toInt ∧ (y_9 : Int32).toInt ≤ 40; first | with_reducible assumption | (constructor <;> (have := kk_rng r_1; have := kk_div (x := r_1) (k := 2) (n := 2) rfl (by decide) (by omega); have := kk_add2 (x := p0) (y := 1) (a := p0.toInt) (b := 1) rfl rfl (by omega) (by omega); have := kk_rng r_1; have := kk_sub2 (x := r_1) (y := (r_1 / 2)) (a := r_1.toInt) (b := (r_1 / 2).toInt) rfl rfl (by omega) (by omega); have := kk_add2 (x := n0_size) (y := 1) (a := n0_size.toInt) (b := 1) rfl rfl (by omega) (by omega); omega))), (by first | with_reducible assumption | (exfalso; have := kk_rng r_1; have := kk_div (x := r_1) (k := 2) (n := 2) rfl (by decide) (by omega); have := kk_add2 (x := p0) (y := 1) (a := p0.toInt) (b := 1) rfl rfl (by omega) (by omega); have := kk_rng r_1; have := kk_sub2 (x := r_1) (y := (r_1 / 2)) (a := r_1.toInt) (b := (r_1 / 2).toInt) rfl rfl (by omega) (by omega); have := kk_add2 (x := n0_size) (y := 1) (a := n0_size.toInt) (b := 1) rfl rfl (by omega) (by omega); omega)), (by show 1 ≤ (y_9 : Int32).toInt; first | with_reducible assumption | (have := kk_rng r_1; have := kk_div (x := r_1) (k := 2) (n := 2) rfl (by decide) (by omega); have := kk_add2 (x := p0) (y := 1) (a := p0.toInt) (b := 1) rfl rfl (by omega) (by omega); have := kk_rng r_1; have := kk_sub2 (x := r_1) (y := (r_1 / 2)) (a := r_1.toInt) (b := (r_1 / 2).toInt) rfl rfl (by omega) (by omega); have := kk_add2 (x := n0_size) (y := 1) (a := n0_size.toInt) (b := 1) rfl rfl (by omega) (by omega); omega)), by rw [ht]; exact hP9, va_K.moved hW.alike hK9, hD9⟩, hS.F ht⟩) hS.2.2 dX9_part_46
      · skip
        have t_4_0 : (40 : Int) ≤ n0_size.toInt := t_4_0
        refine lv_if_ne (tgt := 46) hx hb dX9_part_15 (by decide) (fun _ => ?_) (fun c => absurd c (by decide))
        have hk_14 : kt_st n0_size f1 f2 f3 = kt_part (p0 : Int32) (kt_st n0_size f1 f2 f3) := kt_part_n2 (a := r_1) (by have := kk_rng r_1; have := kk_add2 (x := p0) (y := 1) (a := p0.toInt) (b := 1) rfl rfl (by omega) (by omega); have := kk_add2 (x := n0_size) (y := 1) (a := n0_size.toInt) (b := 1) rfl rfl (by omega) (by omega); omega) (by have := kk_rng r_1; have := kk_add2 (x := p0) (y := 1) (a := p0.toInt) (b := 1) rfl rfl (by omega) (by omega); have := kk_add2 (x := n0_size) (y := 1) (a := n0_size.toInt) (b := 1) rfl rfl (by omega) (by omega); omega) (by have := kk_rng r_1; have := kk_add2 (x := p0) (y := 1) (a := p0.toInt) (b := 1) rfl rfl (by omega) (by omega); have := kk_add2 (x := n0_size) (y := 1) (a := n0_size.toInt) (b := 1) rfl rfl (by omega) (by omega); omega) (by have := kk_rng r_1; have := kk_add2 (x := p0) (y := 1) (a := p0.toInt) (b := 1) rfl rfl (by omega) (by omega); have := kk_add2 (x := n0_size) (y := 1) (a := n0_size.toInt) (b := 1) rfl rfl (by omega) (by omega); omega)
        obtain ⟨hP9, hD9⟩ := kk_leafout (wc := [(h0, Sum.inr (9, [Value.ref h1, Value.ref h2, Value.ref h3, Value.int n0_size])), (h1, Sum.inl (cint, 40, Sum.inl f1)), (h2, Sum.inl (cint, 40, Sum.inl f2)), (h3, Sum.inl (cint, 40, Sum.inl f3))]) hP hD [3, 2, 0, 1] (by decide) rfl
        have hK9 := hK.sub (tys' := []) [] rfl
        exact W.vret hx hb hr (fun t ht hW => ⟨⟨(), rfl, trivial, n0_size, f1, f2, f3, tn0_size, (by first | with_reducible assumption | (exfalso; have := kk_rng r_1; have := kk_add2 (x := p0) (y := 1) (a := p0.toInt) (b := 1) rfl rfl (by omega) (by omega); have := kk_add2 (x := n0_size) (y := 1) (a := n0_size.toInt) (b := 1) rfl rfl (by omega) (by omega); omega)), (by show 1 ≤ (n0_size : Int32).toInt; first | with_reducible assumption | (have := kk_rng r_1; have := kk_add2 (x := p0) (y := 1) (a := p0.toInt) (b := 1) rfl rfl (by omega) (by omega); have := kk_add2 (x := n0_size) (y := 1) (a := n0_size.toInt) (b := 1) rfl rfl (by omega) (by omega); omega)), by rw [ht]; exact hP9, va_K.moved hW.alike hK9, hD9⟩, hS.F ht⟩) hS.2.2 dX9_part_46
set_option maxHeartbeats 4000000 in
set_option maxRecDepth 100000 in
theorem g_X9_aside_1 (l : Launch) (dC : Nat → ClassId) (dI : Nat → Nat → Nat) (h0 : Nat) (h1 : Nat) (h2 : Nat) (h3 : Nat) (cint : ClassId) (sz : Nat) (p0 : Int32) (n0_size : Int32) (f1 : Nat → Int32) (tn0_size : 0 ≤ n0_size.toInt ∧ n0_size.toInt ≤ 40) : Met l yX9_aside wsX9_aside ({ frames := 1, cells := 0, slots := 0, locals := 21 }) (va_Pc [.ref h0, .int p0] (fun U => U.heap.size = sz ∧ va_P (dC, dI) vwCl [(h0, Sum.inr (9, [Value.ref h2, Value.ref h3, Value.ref h1, Value.int n0_size])), (h1, Sum.inl (cint, 40, Sum.inl f1))] U.heap ∧ va_K (dC, dI) vwCl [(cint, .int)] U ∧ va_D (fun _ => True) [(h0, Sum.inr (9, [Value.ref h2, Value.ref h3, Value.ref h1, Value.int n0_size])), (h1, Sum.inl (cint, 40, Sum.inl f1))])) (va_Qi (fun (r : Int32) (_ : Unit) => ((0 ≤ p0.toInt ∧ p0.toInt < n0_size.toInt → r.toInt = (f1 (p0 : Int32).toNatClampNeg).toInt) ∧ ((p0.toInt < 0 ∨ n0_size.toInt ≤ p0.toInt) → r.toInt = 0)) ∧ True) (fun (_ : Unit) t => va_P (dC, dI) vwCl [(h0, Sum.inr (9, [Value.ref h2, Value.ref h3, Value.ref h1, Value.int n0_size])), (h1, Sum.inl (cint, 40, Sum.inl f1))] t.heap ∧ va_K (dC, dI) vwCl [] t ∧ va_D (va_A [(h0, Sum.inr (9, [Value.ref h2, Value.ref h3, Value.ref h1, Value.int n0_size])), (h1, Sum.inl (cint, 40, Sum.inl f1))] sz) [(h0, Sum.inr (9, [Value.ref h2, Value.ref h3, Value.ref h1, Value.int n0_size])), (h1, Sum.inl (cint, 40, Sum.inl f1))]) (va_A [(h0, Sum.inr (9, [Value.ref h2, Value.ref h3, Value.ref h1, Value.int n0_size])), (h1, Sum.inl (cint, 40, Sum.inl f1))] sz)) 0 0 (va_A [(h0, Sum.inr (9, [Value.ref h2, Value.ref h3, Value.ref h1, Value.int n0_size])), (h1, Sum.inl (cint, 40, Sum.inl f1))] sz) := by
  refine Met.ofW (cc := cX9_aside) (maxL := 2) (ret := (some .int)) (by decide) rfl ?_
  intro p e s m args below meth c s₁ B hml hv
  obtain ⟨rfl, hsz, hP, hK, hD0⟩ := hv
  have hx := B.exec
  have hb := B.bytes
  have hr := B.returns
  have hts := atoms_spec (ws := wsX9_aside) B.pre
  have hown : s.vm.findClass RX9 = some m.cls := findClass_of_methodNamed B.named
  have hlocks := B.notSynchronized
  subst hsz
  have hD := hD0.self (sz := s.heap.size)
  generalize hAe : va_A [(h0, Sum.inr (9, [Value.ref h2, Value.ref h3, Value.ref h1, Value.int n0_size])), (h1, Sum.inl (cint, 40, Sum.inl f1))] s.heap.size = A at hD ⊢
  have hA : ∀ q : Nat, s.heap.size ≤ q → A q := fun q h => by rw [← hAe]; exact Or.inr h
  have hS : va_S A s.heap s.heap [] := va_S.rf
  have hP : va_P (dC, dI) vwCl [(h0, Sum.inr (9, [Value.ref h2, Value.ref h3, Value.ref h1, Value.int n0_size])), (h1, Sum.inl (cint, 40, Sum.inl f1))] s.heap := hP
  have hl := lv_entry ([.ref h0, .int p0]) (n := 2) (Nat.le_of_ble_eq_true rfl)
  rw [lg_entry_eq]
  generalize (lg_sl ([.ref h0, .int p0]) ++ List.replicate (2 - (lg_sl ([.ref h0, .int p0])).length) Slot.unset).toArray = ls at hl ⊢
  have hl : lv_has ls 2 [(0, .ref h0), (1, .int p0)] := hl
  refine lv_aload_n hx hb dX9_aside_0 rfl (lv_at hl 0 rfl) ?_
  refine lv_iload_n hx hb dX9_aside_1 rfl (lv_at hl 1 rfl) ?_
  obtain ⟨hPc, hDc, hFc⟩ := kk_cutout (wc := [(h0, Sum.inr (9, [Value.ref h2, Value.ref h3, Value.ref h1, Value.int n0_size]))]) hP hD hS hA [0] (by decide) rfl
  have hKc := hK.sub (tys' := []) [] rfl
  refine va_calli (va_runV (As := [.int p0]) (rest := []) ⟨hx, hb, hml, hown, hts⟩ (g_X9_has_1 l dC dI h0 h2 h3 h1 s.heap.size p0 n0_size tn0_size) (cwV 1 hts gX9_aside_X9_has rfl rfl rfl (by decide +kernel) ⟨Nat.le_of_ble_eq_true rfl, Nat.le_of_ble_eq_true rfl⟩) ⟨fun a U g mk q => by obtain ⟨q0, q1, qP, qK, qD⟩ := q; exact ⟨q0, q1, qP, va_K.moved (u := U) (U := U.calling g mk a) (Vm.Alike.refl U.vm) qK, qD⟩, va_recv hKc hPc (ci := 9) (q0 := 0) rfl rfl, fun U hU hW => ⟨rfl, by rw [hU], by rw [hU]; exact hPc, va_K.moved hW.alike hKc, hDc.weaken (fun _ _ _ _ => trivial)⟩⟩ rfl rfl hl.1 rfl (lv_room (Nat.le_of_ble_eq_true rfl)) dX9_aside_2 ⟨Nat.le_of_ble_eq_true rfl, Nat.le_of_ble_eq_true rfl⟩) hS (fun q _ h => hFc q h) hFc (fun r_1 u t H1 locs ht hvm hw hB hz1 hk1 hS => ?_)
  obtain ⟨hP1, hK1, hD1⟩ := hB
  rw [ht] at hP1
  have hK1 := va_K.moved hvm.symm hK1
  obtain ⟨hP, hD⟩ := va_join (wr := [(h1, Sum.inl (cint, 40, Sum.inl f1))]) (w1 := [(h0, Sum.inr (9, [Value.ref h2, Value.ref h3, Value.ref h1, Value.int n0_size]))]) hP hD [0] [1] rfl rfl (by decide) (by decide) hk1 hFc hP1 hD1
  generalize H1 = H at hP hS ⊢
  have hP : va_P (dC, dI) vwCl [(h1, Sum.inl (cint, 40, Sum.inl f1)), (h0, Sum.inr (9, [Value.ref h2, Value.ref h3, Value.ref h1, Value.int n0_size]))] H := hP
  have hD : va_D A [(h1, Sum.inl (cint, 40, Sum.inl f1)), (h0, Sum.inr (9, [Value.ref h2, Value.ref h3, Value.ref h1, Value.int n0_size]))] := hD
  rcases hw with ⟨t_1_0, rfl⟩ | ⟨t_1_0, t_1_1, t_1_2, rfl⟩
  · skip
    have t_1_0 : (p0.toInt < 0 ∨ n0_size.toInt ≤ p0.toInt) := t_1_0
    refine lv_if_eq (tgt := 17) hx hb dX9_aside_5 (by decide) (fun _ => ?_) (fun c => absurd c (by decide))
    refine lv_iconst (v := 0) hx hb dX9_aside_17 (by decide) ?_
    obtain ⟨hP9, hD9⟩ := kk_leafout (wc := [(h0, Sum.inr (9, [Value.ref h2, Value.ref h3, Value.ref h1, Value.int n0_size])), (h1, Sum.inl (cint, 40, Sum.inl f1))]) hP hD [1, 0] (by decide) rfl
    have hK9 := hK.sub (tys' := []) [] rfl
    exact W.iret (v := 0) hx hb hr (fun t ht hW => ⟨⟨0, (), rfl, ⟨(by show ((0 ≤ (p0 : Int32).toInt ∧ (p0 : Int32).toInt < (n0_size : Int32).toInt → (0 : Int) = ((f1 (p0 : Int32).toNatClampNeg) : Int32).toInt) ∧ (((p0 : Int32).toInt < 0 ∨ (n0_size : Int32).toInt ≤ (p0 : Int32).toInt) → (0 : Int) = 0)); omega), trivial⟩, by rw [ht]; exact hP9, va_K.moved hW.alike hK9, hD9⟩, hS.F ht⟩) hS.2.2 dX9_aside_18
  · skip
    have t_1_0 : (0 : Int) ≤ p0.toInt := t_1_0
    have t_1_2 : (p0.toInt : Int) ≤ 39 := t_1_2
    refine lv_if_eq (tgt := 17) hx hb dX9_aside_5 (by decide) (fun c => absurd c (by decide)) (fun _ => ?_)
    refine lv_aload_n hx hb dX9_aside_8 rfl (lv_at hl 0 rfl) ?_
    refine va_get (D := (dC, dI)) (ci := 9) (v := .ref h1) (C := RX9) (T := TX9) (N := 4) hx hb hts (fun _ h => List.mem_cons_of_mem _ (List.mem_append_right _ h)) hown hK hP 1 rfl rfl 2 (by decide) (hts (.fieldLink RX9 18 "KinkStreet$Street" "asides" "[I") (List.mem_of_getElem? (i := 1) rfl)) (fun _ h9 => h9) rfl dX9_aside_9 ?_
    refine lv_iload_n hx hb dX9_aside_12 rfl (lv_at hl 1 rfl) ?_
    have hi_2 : vp_in p0 40 := (vp_in_iff.mpr ⟨by omega, by omega⟩)
    refine va_iald hx hb hK hP 0 0 rfl rfl hi_2 dX9_aside_13 ?_
    refine lv_topi (fun y_2 e_2 => ?_)
    obtain rfl : y_2 = (f1 (p0 : Int32).toNatClampNeg) := e_2
    refine lv_goto (tgt := 18) hx hb dX9_aside_14 (by decide) ?_
    obtain ⟨hP9, hD9⟩ := kk_leafout (wc := [(h0, Sum.inr (9, [Value.ref h2, Value.ref h3, Value.ref h1, Value.int n0_size])), (h1, Sum.inl (cint, 40, Sum.inl f1))]) hP hD [1, 0] (by decide) rfl
    have hK9 := hK.sub (tys' := []) [] rfl
    exact W.iret (v := (f1 (p0 : Int32).toNatClampNeg)) hx hb hr (fun t ht hW => ⟨⟨(f1 (p0 : Int32).toNatClampNeg), (), rfl, ⟨(by show ((0 ≤ (p0 : Int32).toInt ∧ (p0 : Int32).toInt < (n0_size : Int32).toInt → ((f1 (p0 : Int32).toNatClampNeg) : Int32).toInt = ((f1 (p0 : Int32).toNatClampNeg) : Int32).toInt) ∧ (((p0 : Int32).toInt < 0 ∨ (n0_size : Int32).toInt ≤ (p0 : Int32).toInt) → ((f1 (p0 : Int32).toNatClampNeg) : Int32).toInt = 0)); omega), trivial⟩, by rw [ht]; exact hP9, va_K.moved hW.alike hK9, hD9⟩, hS.F ht⟩) hS.2.2 dX9_aside_18
set_option maxHeartbeats 4000000 in
set_option maxRecDepth 100000 in
theorem g_X9_facts_3 (l : Launch) (dC : Nat → ClassId) (dI : Nat → Nat → Nat) (h0 : Nat) (h1 : Nat) (h2 : Nat) (h3 : Nat) (sz : Nat) (n0_size : Int32) (tn0_size : 0 ≤ n0_size.toInt ∧ n0_size.toInt ≤ 40) : Met l yX9_facts wsX9_facts ({ frames := 0, cells := 0, slots := 0, locals := 0 }) (va_Pc [.ref h0, .int 2] (fun U => U.heap.size = sz ∧ va_P (dC, dI) vwCl [(h0, Sum.inr (9, [Value.ref h1, Value.ref h2, Value.ref h3, Value.int n0_size]))] U.heap ∧ va_K (dC, dI) vwCl [] U ∧ va_D (fun _ => True) [(h0, Sum.inr (9, [Value.ref h1, Value.ref h2, Value.ref h3, Value.int n0_size]))])) (va_Qq (fun (r : Option Nat) (_ : Unit) => some h3 = r) (fun (_ : Unit) t => va_P (dC, dI) vwCl [(h0, Sum.inr (9, [Value.ref h1, Value.ref h2, Value.ref h3, Value.int n0_size]))] t.heap ∧ va_K (dC, dI) vwCl [] t ∧ va_D (va_A [(h0, Sum.inr (9, [Value.ref h1, Value.ref h2, Value.ref h3, Value.int n0_size]))] sz) [(h0, Sum.inr (9, [Value.ref h1, Value.ref h2, Value.ref h3, Value.int n0_size]))]) (va_A [(h0, Sum.inr (9, [Value.ref h1, Value.ref h2, Value.ref h3, Value.int n0_size]))] sz)) 0 0 (va_A [(h0, Sum.inr (9, [Value.ref h1, Value.ref h2, Value.ref h3, Value.int n0_size]))] sz) := by
  refine Met.ofW (cc := cX9_facts) (maxL := 2) (ret := (some (.array .int))) (by decide) rfl ?_
  intro p e s m args below meth c s₁ B hml hv
  obtain ⟨rfl, hsz, hP, hK, hD0⟩ := hv
  have hx := B.exec
  have hb := B.bytes
  have hr := B.returns
  have hts := atoms_spec (ws := wsX9_facts) B.pre
  have hown : s.vm.findClass RX9 = some m.cls := findClass_of_methodNamed B.named
  have hlocks := B.notSynchronized
  subst hsz
  have hD := hD0.self (sz := s.heap.size)
  generalize hAe : va_A [(h0, Sum.inr (9, [Value.ref h1, Value.ref h2, Value.ref h3, Value.int n0_size]))] s.heap.size = A at hD ⊢
  have hA : ∀ q : Nat, s.heap.size ≤ q → A q := fun q h => by rw [← hAe]; exact Or.inr h
  have hS : va_S A s.heap s.heap [] := va_S.rf
  have hP : va_P (dC, dI) vwCl [(h0, Sum.inr (9, [Value.ref h1, Value.ref h2, Value.ref h3, Value.int n0_size]))] s.heap := hP
  have hl := lv_entry ([.ref h0, .int 2]) (n := 2) (Nat.le_of_ble_eq_true rfl)
  rw [lg_entry_eq]
  generalize (lg_sl ([.ref h0, .int 2]) ++ List.replicate (2 - (lg_sl ([.ref h0, .int 2])).length) Slot.unset).toArray = ls at hl ⊢
  have hl : lv_has ls 2 [(0, .ref h0), (1, .int 2)] := hl
  refine lv_iload_n hx hb dX9_facts_0 rfl (lv_at hl 1 rfl) ?_
  refine lv_if_ne (tgt := 11) hx hb dX9_facts_1 (by decide) (fun _ => ?_) (fun c => absurd c (by decide))
  refine lv_iload_n hx hb dX9_facts_11 rfl (lv_at hl 1 rfl) ?_
  refine lv_iconst (v := 1) hx hb dX9_facts_12 (by decide) ?_
  refine lv_icmp_ne (tgt := 23) hx hb dX9_facts_13 (by decide) (fun _ => ?_) (fun c => absurd c (by decide))
  refine lv_aload_n hx hb dX9_facts_23 rfl (lv_at hl 0 rfl) ?_
  refine va_get (D := (dC, dI)) (ci := 9) (v := .ref h3) (C := RX9) (T := TX9) (N := 4) hx hb hts (fun _ h => List.mem_cons_of_mem _ (List.mem_append_right _ h)) hown hK hP 0 rfl rfl 2 (by decide) (hts (.fieldLink RX9 18 "KinkStreet$Street" "asides" "[I") (List.mem_of_getElem? (i := 3) rfl)) (fun _ h9 => h9) rfl dX9_facts_24 ?_
  obtain ⟨hP9, hD9⟩ := kk_leafout (wc := [(h0, Sum.inr (9, [Value.ref h1, Value.ref h2, Value.ref h3, Value.int n0_size]))]) hP hD [0] (by decide) rfl
  have hK9 := hK.sub (tys' := []) [] rfl
  exact W.aret (v := .ref h3) hx hb hr (Or.inr ⟨_, rfl⟩) (Or.inr ⟨_, rfl⟩) (fun t ht hW => ⟨⟨some h3, (), rfl, rfl, by rw [ht]; exact hP9, va_K.moved hW.alike hK9, hD9⟩, hS.F ht⟩) hS.2.2 dX9_facts_27
set_option maxHeartbeats 4000000 in
set_option maxRecDepth 100000 in
theorem g_X9_tell_2 (l : Launch) (dC : Nat → ClassId) (dI : Nat → Nat → Nat) (h0 : Nat) (h1 : Nat) (h2 : Nat) (h3 : Nat) (cint : ClassId) (sz : Nat) (p1 : Int32) (p2 : Int32) (n0_size : Int32) (f1 : Nat → Int32) (tn0_size : 0 ≤ n0_size.toInt ∧ n0_size.toInt ≤ 40) (pr0 : 0 ≤ p1.toInt) (pr1 : p1.toInt < n0_size.toInt) : Met l yX9_tell wsX9_tell ({ frames := 1, cells := 0, slots := 0, locals := 21 }) (va_Pc [.ref h0, .int 2, .int p1, .int p2] (fun U => U.heap.size = sz ∧ va_P (dC, dI) vwCl [(h0, Sum.inr (9, [Value.ref h2, Value.ref h3, Value.ref h1, Value.int n0_size])), (h1, Sum.inl (cint, 40, Sum.inl f1))] U.heap ∧ va_K (dC, dI) vwCl [(cint, .int)] U ∧ va_D (fun _ => True) [(h0, Sum.inr (9, [Value.ref h2, Value.ref h3, Value.ref h1, Value.int n0_size])), (h1, Sum.inl (cint, 40, Sum.inl f1))])) (va_Qv (fun (_ : Unit) => True) (fun (_ : Unit) t => ∃ (g1 : Nat → Int32), (g1 = upd f1 (p1 : Int32).toNatClampNeg (p2 : Int32)) ∧ va_P (dC, dI) vwCl [(h0, Sum.inr (9, [Value.ref h2, Value.ref h3, Value.ref h1, Value.int n0_size])), (h1, Sum.inl (cint, 40, Sum.inl g1))] t.heap ∧ va_K (dC, dI) vwCl [] t ∧ va_D (va_A [(h0, Sum.inr (9, [Value.ref h2, Value.ref h3, Value.ref h1, Value.int n0_size])), (h1, Sum.inl (cint, 40, Sum.inl f1))] sz) [(h0, Sum.inr (9, [Value.ref h2, Value.ref h3, Value.ref h1, Value.int n0_size])), (h1, Sum.inl (cint, 40, Sum.inl g1))]) (va_A [(h0, Sum.inr (9, [Value.ref h2, Value.ref h3, Value.ref h1, Value.int n0_size])), (h1, Sum.inl (cint, 40, Sum.inl f1))] sz)) 0 0 (va_A [(h0, Sum.inr (9, [Value.ref h2, Value.ref h3, Value.ref h1, Value.int n0_size])), (h1, Sum.inl (cint, 40, Sum.inl f1))] sz) := by
  refine Met.ofW (cc := cX9_tell) (maxL := 4) (ret := none) (by decide) rfl ?_
  intro p e s m args below meth c s₁ B hml hv
  obtain ⟨rfl, hsz, hP, hK, hD0⟩ := hv
  have hx := B.exec
  have hb := B.bytes
  have hr := B.returns
  have hts := atoms_spec (ws := wsX9_tell) B.pre
  have hown : s.vm.findClass RX9 = some m.cls := findClass_of_methodNamed B.named
  have hlocks := B.notSynchronized
  subst hsz
  have hD := hD0.self (sz := s.heap.size)
  generalize hAe : va_A [(h0, Sum.inr (9, [Value.ref h2, Value.ref h3, Value.ref h1, Value.int n0_size])), (h1, Sum.inl (cint, 40, Sum.inl f1))] s.heap.size = A at hD ⊢
  have hA : ∀ q : Nat, s.heap.size ≤ q → A q := fun q h => by rw [← hAe]; exact Or.inr h
  have hS : va_S A s.heap s.heap [] := va_S.rf
  have hP : va_P (dC, dI) vwCl [(h0, Sum.inr (9, [Value.ref h2, Value.ref h3, Value.ref h1, Value.int n0_size])), (h1, Sum.inl (cint, 40, Sum.inl f1))] s.heap := hP
  have hl := lv_entry ([.ref h0, .int 2, .int p1, .int p2]) (n := 4) (Nat.le_of_ble_eq_true rfl)
  rw [lg_entry_eq]
  generalize (lg_sl ([.ref h0, .int 2, .int p1, .int p2]) ++ List.replicate (4 - (lg_sl ([.ref h0, .int 2, .int p1, .int p2])).length) Slot.unset).toArray = ls at hl ⊢
  have hl : lv_has ls 4 [(0, .ref h0), (1, .int 2), (2, .int p1), (3, .int p2)] := hl
  refine lv_aload_n hx hb dX9_tell_0 rfl (lv_at hl 0 rfl) ?_
  refine lv_iload_n hx hb dX9_tell_1 rfl (lv_at hl 2 rfl) ?_
  obtain ⟨hPc, hDc, hFc⟩ := kk_cutout (wc := [(h0, Sum.inr (9, [Value.ref h2, Value.ref h3, Value.ref h1, Value.int n0_size]))]) hP hD hS hA [0] (by decide) rfl
  have hKc := hK.sub (tys' := []) [] rfl
  refine va_calli (va_runV (As := [.int p1]) (rest := []) ⟨hx, hb, hml, hown, hts⟩ (g_X9_has_1 l dC dI h0 h2 h3 h1 s.heap.size p1 n0_size tn0_size) (cwV 1 hts gX9_tell_X9_has rfl rfl rfl (by decide +kernel) ⟨Nat.le_of_ble_eq_true rfl, Nat.le_of_ble_eq_true rfl⟩) ⟨fun a U g mk q => by obtain ⟨q0, q1, qP, qK, qD⟩ := q; exact ⟨q0, q1, qP, va_K.moved (u := U) (U := U.calling g mk a) (Vm.Alike.refl U.vm) qK, qD⟩, va_recv hKc hPc (ci := 9) (q0 := 0) rfl rfl, fun U hU hW => ⟨rfl, by rw [hU], by rw [hU]; exact hPc, va_K.moved hW.alike hKc, hDc.weaken (fun _ _ _ _ => trivial)⟩⟩ rfl rfl hl.1 rfl (lv_room (Nat.le_of_ble_eq_true rfl)) dX9_tell_2 ⟨Nat.le_of_ble_eq_true rfl, Nat.le_of_ble_eq_true rfl⟩) hS (fun q _ h => hFc q h) hFc (fun r_1 u t H1 locs ht hvm hw hB hz1 hk1 hS => ?_)
  obtain ⟨hP1, hK1, hD1⟩ := hB
  rw [ht] at hP1
  have hK1 := va_K.moved hvm.symm hK1
  obtain ⟨hP, hD⟩ := va_join (wr := [(h1, Sum.inl (cint, 40, Sum.inl f1))]) (w1 := [(h0, Sum.inr (9, [Value.ref h2, Value.ref h3, Value.ref h1, Value.int n0_size]))]) hP hD [0] [1] rfl rfl (by decide) (by decide) hk1 hFc hP1 hD1
  generalize H1 = H at hP hS ⊢
  have hP : va_P (dC, dI) vwCl [(h1, Sum.inl (cint, 40, Sum.inl f1)), (h0, Sum.inr (9, [Value.ref h2, Value.ref h3, Value.ref h1, Value.int n0_size]))] H := hP
  have hD : va_D A [(h1, Sum.inl (cint, 40, Sum.inl f1)), (h0, Sum.inr (9, [Value.ref h2, Value.ref h3, Value.ref h1, Value.int n0_size]))] := hD
  rcases hw with ⟨t_1_0, rfl⟩ | ⟨t_1_0, t_1_1, t_1_2, rfl⟩
  · skip
    have t_1_0 : (p1.toInt < 0 ∨ n0_size.toInt ≤ p1.toInt) := t_1_0
    refine lv_if_eq (tgt := 16) hx hb dX9_tell_5 (by decide) (fun _ => ?_) (fun c => absurd c (by decide))
    obtain ⟨hP9, hD9⟩ := kk_leafout (wc := [(h0, Sum.inr (9, [Value.ref h2, Value.ref h3, Value.ref h1, Value.int n0_size])), (h1, Sum.inl (cint, 40, Sum.inl f1))]) hP hD [1, 0] (by decide) rfl
    have hK9 := hK.sub (tys' := []) [] rfl
    exact W.vret hx hb hr (fun t ht hW => ⟨⟨(), rfl, trivial, f1, (by first | rfl | (exfalso; omega)), by rw [ht]; exact hP9, va_K.moved hW.alike hK9, hD9⟩, hS.F ht⟩) hS.2.2 dX9_tell_16
  · skip
    have t_1_0 : (0 : Int) ≤ p1.toInt := t_1_0
    have t_1_2 : (p1.toInt : Int) ≤ 39 := t_1_2
    refine lv_if_eq (tgt := 16) hx hb dX9_tell_5 (by decide) (fun c => absurd c (by decide)) (fun _ => ?_)
    refine lv_aload_n hx hb dX9_tell_8 rfl (lv_at hl 0 rfl) ?_
    refine lv_iload_n hx hb dX9_tell_9 rfl (lv_at hl 1 rfl) ?_
    obtain ⟨hPc, hDc, hFc⟩ := kk_cutout (wc := [(h0, Sum.inr (9, [Value.ref h2, Value.ref h3, Value.ref h1, Value.int n0_size]))]) hP hD hS hA [1] (by decide) rfl
    have hKc := hK.sub (tys' := []) [] rfl
    refine va_callq (va_runV (As := [.int 2]) (rest := []) ⟨hx, hb, hml, hown, hts⟩ (g_X9_facts_3 l dC dI h0 h2 h3 h1 H.size n0_size tn0_size) (cwV 1 hts gX9_tell_X9_facts rfl rfl rfl (by decide +kernel) ⟨Nat.le_of_ble_eq_true rfl, Nat.le_of_ble_eq_true rfl⟩) ⟨fun a U g mk q => by obtain ⟨q0, q1, qP, qK, qD⟩ := q; exact ⟨q0, q1, qP, va_K.moved (u := U) (U := U.calling g mk a) (Vm.Alike.refl U.vm) qK, qD⟩, va_recv hKc hPc (ci := 9) (q0 := 0) rfl rfl, fun U hU hW => ⟨rfl, by rw [hU], by rw [hU]; exact hPc, va_K.moved hW.alike hKc, hDc.weaken (fun _ _ _ _ => trivial)⟩⟩ rfl rfl hl.1 rfl (lv_room (Nat.le_of_ble_eq_true rfl)) dX9_tell_10 ⟨Nat.le_of_ble_eq_true rfl, Nat.le_of_ble_eq_true rfl⟩) hS (fun q _ h => hFc q h) hFc (fun r_2 u t H1 locs ht hvm hw hB hz1 hk1 hS => ?_)
    obtain ⟨hP1, hK1, hD1⟩ := hB
    rw [ht] at hP1
    have hK1 := va_K.moved hvm.symm hK1
    obtain ⟨hP, hD⟩ := va_join (wr := [(h1, Sum.inl (cint, 40, Sum.inl f1))]) (w1 := [(h0, Sum.inr (9, [Value.ref h2, Value.ref h3, Value.ref h1, Value.int n0_size]))]) hP hD [1] [0] rfl rfl (by decide) (by decide) hk1 hFc hP1 hD1
    generalize H1 = H at hP hS ⊢
    have hP : va_P (dC, dI) vwCl [(h1, Sum.inl (cint, 40, Sum.inl f1)), (h0, Sum.inr (9, [Value.ref h2, Value.ref h3, Value.ref h1, Value.int n0_size]))] H := hP
    have hD : va_D A [(h1, Sum.inl (cint, 40, Sum.inl f1)), (h0, Sum.inr (9, [Value.ref h2, Value.ref h3, Value.ref h1, Value.int n0_size]))] := hD
    obtain rfl := hw
    refine W.eq (g2 := F0 m 13 ls [.ref h1]) rfl ?_
    refine lv_iload_n hx hb dX9_tell_13 rfl (lv_at hl 2 rfl) ?_
    refine lv_iload_n hx hb dX9_tell_14 rfl (lv_at hl 3 rfl) ?_
    refine va_iast hx hb hK hP hD hS 0 0 rfl rfl (vp_in_iff.mpr ⟨by omega, by omega⟩) dX9_tell_15 (fun H locs hP hD hS => ?_)
    have w_3 : ((upd f1 (p1 : Int32).toNatClampNeg p2) (p1 : Int32).toNatClampNeg).toInt = (p2 : Int32).toInt := by rw [kk_ups]
    have hP : va_P (dC, dI) vwCl [(h1, Sum.inl (cint, 40, Sum.inl (upd f1 (p1 : Int32).toNatClampNeg p2))), (h0, Sum.inr (9, [Value.ref h2, Value.ref h3, Value.ref h1, Value.int n0_size]))] H := hP
    have hD : va_D A [(h1, Sum.inl (cint, 40, Sum.inl (upd f1 (p1 : Int32).toNatClampNeg p2))), (h0, Sum.inr (9, [Value.ref h2, Value.ref h3, Value.ref h1, Value.int n0_size]))] := hD
    obtain ⟨hP9, hD9⟩ := kk_leafout (wc := [(h0, Sum.inr (9, [Value.ref h2, Value.ref h3, Value.ref h1, Value.int n0_size])), (h1, Sum.inl (cint, 40, Sum.inl (upd f1 (p1 : Int32).toNatClampNeg p2)))]) hP hD [1, 0] (by decide) rfl
    have hK9 := hK.sub (tys' := []) [] rfl
    exact W.vret hx hb hr (fun t ht hW => ⟨⟨(), rfl, trivial, (upd f1 (p1 : Int32).toNatClampNeg p2), (by first | rfl | (exfalso; omega)), by rw [ht]; exact hP9, va_K.moved hW.alike hK9, hD9⟩, hS.F ht⟩) hS.2.2 dX9_tell_16
set_option maxHeartbeats 4000000 in
set_option maxRecDepth 100000 in
theorem g_X9_stepAside_1 (l : Launch) (dC : Nat → ClassId) (dI : Nat → Nat → Nat) (h0 : Nat) (h1 : Nat) (h2 : Nat) (h3 : Nat) (cint : ClassId) (sz : Nat) (p0 : Int32) (n0_size : Int32) (f1 : Nat → Int32) (f2 : Nat → Int32) (f3 : Nat → Int32) (tn0_size : 0 ≤ n0_size.toInt ∧ n0_size.toInt ≤ 40) (pr0 : 0 ≤ p0.toInt) (pr1 : p0.toInt < n0_size.toInt) : Met l yX9_stepAside wsX9_stepAside ({ frames := 2, cells := 0, slots := 0, locals := 44 }) (va_Pc [.ref h0, .int p0] (fun U => U.heap.size = sz ∧ va_P (dC, dI) vwCl [(h0, Sum.inr (9, [Value.ref h1, Value.ref h2, Value.ref h3, Value.int n0_size])), (h1, Sum.inl (cint, 40, Sum.inl f1)), (h2, Sum.inl (cint, 40, Sum.inl f2)), (h3, Sum.inl (cint, 40, Sum.inl f3))] U.heap ∧ va_K (dC, dI) vwCl [(cint, .int)] U ∧ va_D (fun _ => True) [(h0, Sum.inr (9, [Value.ref h1, Value.ref h2, Value.ref h3, Value.int n0_size])), (h1, Sum.inl (cint, 40, Sum.inl f1)), (h2, Sum.inl (cint, 40, Sum.inl f2)), (h3, Sum.inl (cint, 40, Sum.inl f3))])) (va_Qv (fun (_ : Unit) => True) (fun (_ : Unit) t => ∃ (g3 : Nat → Int32), (kt_st (n0_size : Int32) f1 f2 g3 = kt_asd (p0 : Int32) (kt_st (n0_size : Int32) f1 f2 f3)) ∧ (1 ≤ n0_size.toInt) ∧ va_P (dC, dI) vwCl [(h0, Sum.inr (9, [Value.ref h1, Value.ref h2, Value.ref h3, Value.int n0_size])), (h1, Sum.inl (cint, 40, Sum.inl f1)), (h2, Sum.inl (cint, 40, Sum.inl f2)), (h3, Sum.inl (cint, 40, Sum.inl g3))] t.heap ∧ va_K (dC, dI) vwCl [] t ∧ va_D (va_A [(h0, Sum.inr (9, [Value.ref h1, Value.ref h2, Value.ref h3, Value.int n0_size])), (h1, Sum.inl (cint, 40, Sum.inl f1)), (h2, Sum.inl (cint, 40, Sum.inl f2)), (h3, Sum.inl (cint, 40, Sum.inl f3))] sz) [(h0, Sum.inr (9, [Value.ref h1, Value.ref h2, Value.ref h3, Value.int n0_size])), (h1, Sum.inl (cint, 40, Sum.inl f1)), (h2, Sum.inl (cint, 40, Sum.inl f2)), (h3, Sum.inl (cint, 40, Sum.inl g3))]) (va_A [(h0, Sum.inr (9, [Value.ref h1, Value.ref h2, Value.ref h3, Value.int n0_size])), (h1, Sum.inl (cint, 40, Sum.inl f1)), (h2, Sum.inl (cint, 40, Sum.inl f2)), (h3, Sum.inl (cint, 40, Sum.inl f3))] sz)) 0 0 (va_A [(h0, Sum.inr (9, [Value.ref h1, Value.ref h2, Value.ref h3, Value.int n0_size])), (h1, Sum.inl (cint, 40, Sum.inl f1)), (h2, Sum.inl (cint, 40, Sum.inl f2)), (h3, Sum.inl (cint, 40, Sum.inl f3))] sz) := by
  refine Met.ofW (cc := cX9_stepAside) (maxL := 2) (ret := none) (by decide) rfl ?_
  intro p e s m args below meth c s₁ B hml hv
  obtain ⟨rfl, hsz, hP, hK, hD0⟩ := hv
  have hx := B.exec
  have hb := B.bytes
  have hr := B.returns
  have hts := atoms_spec (ws := wsX9_stepAside) B.pre
  have hown : s.vm.findClass RX9 = some m.cls := findClass_of_methodNamed B.named
  have hlocks := B.notSynchronized
  subst hsz
  have hD := hD0.self (sz := s.heap.size)
  generalize hAe : va_A [(h0, Sum.inr (9, [Value.ref h1, Value.ref h2, Value.ref h3, Value.int n0_size])), (h1, Sum.inl (cint, 40, Sum.inl f1)), (h2, Sum.inl (cint, 40, Sum.inl f2)), (h3, Sum.inl (cint, 40, Sum.inl f3))] s.heap.size = A at hD ⊢
  have hA : ∀ q : Nat, s.heap.size ≤ q → A q := fun q h => by rw [← hAe]; exact Or.inr h
  have hS : va_S A s.heap s.heap [] := va_S.rf
  have hP : va_P (dC, dI) vwCl [(h0, Sum.inr (9, [Value.ref h1, Value.ref h2, Value.ref h3, Value.int n0_size])), (h1, Sum.inl (cint, 40, Sum.inl f1)), (h2, Sum.inl (cint, 40, Sum.inl f2)), (h3, Sum.inl (cint, 40, Sum.inl f3))] s.heap := hP
  have hl := lv_entry ([.ref h0, .int p0]) (n := 2) (Nat.le_of_ble_eq_true rfl)
  rw [lg_entry_eq]
  generalize (lg_sl ([.ref h0, .int p0]) ++ List.replicate (2 - (lg_sl ([.ref h0, .int p0])).length) Slot.unset).toArray = ls at hl ⊢
  have hl : lv_has ls 2 [(0, .ref h0), (1, .int p0)] := hl
  refine lv_iload_n hx hb dX9_stepAside_0 rfl (lv_at hl 1 rfl) ?_
  refine lv_if_le (tgt := 22) hx hb dX9_stepAside_1 (by decide) (fun c_1 => ?_) (fun c_1 => ?_)
  · have t_1 : p0.toInt ≤ 0 := kk_le c_1
    have hk_2 : kt_st n0_size f1 f2 f3 = kt_asd (p0 : Int32) (kt_st n0_size f1 f2 f3) := kt_asd_n (by omega)
    obtain ⟨hP9, hD9⟩ := kk_leafout (wc := [(h0, Sum.inr (9, [Value.ref h1, Value.ref h2, Value.ref h3, Value.int n0_size])), (h1, Sum.inl (cint, 40, Sum.inl f1)), (h2, Sum.inl (cint, 40, Sum.inl f2)), (h3, Sum.inl (cint, 40, Sum.inl f3))]) hP hD [0, 1, 2, 3] (by decide) rfl
    have hK9 := hK.sub (tys' := []) [] rfl
    exact W.vret hx hb hr (fun t ht hW => ⟨⟨(), rfl, trivial, f3, (by first | with_reducible assumption | (exfalso; omega)), (by show 1 ≤ (n0_size : Int32).toInt; first | with_reducible assumption | (omega)), by rw [ht]; exact hP9, va_K.moved hW.alike hK9, hD9⟩, hS.F ht⟩) hS.2.2 dX9_stepAside_22
  · have t_1 : 0 < p0.toInt := kk_nle c_1
    refine lv_aload_n hx hb dX9_stepAside_4 rfl (lv_at hl 0 rfl) ?_
    refine lv_iconst (v := 2) hx hb dX9_stepAside_5 (by decide) ?_
    refine lv_iload_n hx hb dX9_stepAside_6 rfl (lv_at hl 1 rfl) ?_
    refine lv_bipush (v := 99) hx hb dX9_stepAside_7 (by decide) ?_
    refine lv_aload_n hx hb dX9_stepAside_9 rfl (lv_at hl 0 rfl) ?_
    refine lv_iload_n hx hb dX9_stepAside_10 rfl (lv_at hl 1 rfl) ?_
    obtain ⟨hPc, hDc, hFc⟩ := kk_cutout (wc := [(h0, Sum.inr (9, [Value.ref h1, Value.ref h2, Value.ref h3, Value.int n0_size])), (h3, Sum.inl (cint, 40, Sum.inl f3))]) hP hD hS hA [0, 3] (by decide) rfl
    have hKc := hK.sub (tys' := [(cint, .int)]) [0] rfl
    refine va_calli (va_runV (As := [.int p0]) (rest := [.int 99, .int p0, .int 2, .ref h0]) ⟨hx, hb, hml, hown, hts⟩ (g_X9_aside_1 l dC dI h0 h3 h1 h2 cint s.heap.size p0 n0_size f3 tn0_size) (cwV 1 hts gX9_stepAside_X9_aside rfl rfl rfl (by decide +kernel) ⟨Nat.le_of_ble_eq_true rfl, Nat.le_of_ble_eq_true rfl⟩) ⟨fun a U g mk q => by obtain ⟨q0, q1, qP, qK, qD⟩ := q; exact ⟨q0, q1, qP, va_K.moved (u := U) (U := U.calling g mk a) (Vm.Alike.refl U.vm) qK, qD⟩, va_recv hKc hPc (ci := 9) (q0 := 0) rfl rfl, fun U hU hW => ⟨rfl, by rw [hU], by rw [hU]; exact hPc, va_K.moved hW.alike hKc, hDc.weaken (fun _ _ _ _ => trivial)⟩⟩ rfl rfl hl.1 rfl (lv_room (Nat.le_of_ble_eq_true rfl)) dX9_stepAside_11 ⟨Nat.le_of_ble_eq_true rfl, Nat.le_of_ble_eq_true rfl⟩) hS (fun q _ h => hFc q h) hFc (fun r_3 u t H1 locs ht hvm hw hB hz1 hk1 hS => ?_)
    obtain ⟨hP1, hK1, hD1⟩ := hB
    rw [ht] at hP1
    have hK1 := va_K.moved hvm.symm hK1
    obtain ⟨hP, hD⟩ := va_join (wr := [(h1, Sum.inl (cint, 40, Sum.inl f1)), (h2, Sum.inl (cint, 40, Sum.inl f2))]) (w1 := [(h0, Sum.inr (9, [Value.ref h1, Value.ref h2, Value.ref h3, Value.int n0_size])), (h3, Sum.inl (cint, 40, Sum.inl f3))]) hP hD [0, 3] [1, 2] rfl rfl (by decide) (by decide) hk1 hFc hP1 hD1
    generalize H1 = H at hP hS ⊢
    have hP : va_P (dC, dI) vwCl [(h1, Sum.inl (cint, 40, Sum.inl f1)), (h2, Sum.inl (cint, 40, Sum.inl f2)), (h0, Sum.inr (9, [Value.ref h1, Value.ref h2, Value.ref h3, Value.int n0_size])), (h3, Sum.inl (cint, 40, Sum.inl f3))] H := hP
    have hD : va_D A [(h1, Sum.inl (cint, 40, Sum.inl f1)), (h2, Sum.inl (cint, 40, Sum.inl f2)), (h0, Sum.inr (9, [Value.ref h1, Value.ref h2, Value.ref h3, Value.int n0_size])), (h3, Sum.inl (cint, 40, Sum.inl f3))] := hD
    rcases hw with ⟨t_3_0, _⟩
    · skip
      have t_3_0 : ((0 ≤ p0.toInt ∧ p0.toInt < n0_size.toInt → r_3.toInt = (f3 (p0 : Int32).toNatClampNeg).toInt) ∧ ((p0.toInt < 0 ∨ n0_size.toInt ≤ p0.toInt) → r_3.toInt = 0)) := t_3_0
      refine lv_iconst (v := 5) hx hb dX9_stepAside_14 (by decide) ?_
      refine lv_iadd hx hb dX9_stepAside_15 ?_
      refine va_mmin hx hb (hml.trans hl.1.symm) hown (hts (.methodLink RX9 75 Lib.Math.min.name) (List.mem_of_getElem? (i := 1) rfl)) (hts (.static Lib.Math.min.name) (List.mem_of_getElem? (i := 2) rfl)) (hts (.initialized "java/lang/Math") (List.mem_of_getElem? (i := 3) rfl)) (hts (.code Lib.Math.min.name Lib.Math.min.code 2 (some .int)) (List.mem_of_getElem? (i := 4) rfl)) (Nat.le_of_ble_eq_true rfl) (Nat.le_of_ble_eq_true rfl) (Nat.le_of_ble_eq_true rfl) (Nat.le_of_ble_eq_true rfl) dX9_stepAside_16 ?_
      refine lv_topi (fun y_4 e_4 => ?_)
      have t_4 : y_4.toInt ≤ 99 ∧ y_4.toInt ≤ (r_3 + 5).toInt ∧ (y_4.toInt = 99 ∨ y_4.toInt = (r_3 + 5).toInt) := by rw [e_4]; exact kk_min _ _
      clear e_4
      obtain ⟨hPc, hDc, hFc⟩ := kk_cutout (wc := [(h0, Sum.inr (9, [Value.ref h1, Value.ref h2, Value.ref h3, Value.int n0_size])), (h3, Sum.inl (cint, 40, Sum.inl f3))]) hP hD hS hA [2, 3] (by decide) rfl
      have hKc := hK.sub (tys' := [(cint, .int)]) [0] rfl
      refine va_callv (va_runV (As := [.int 2, .int p0, .int y_4]) (rest := []) ⟨hx, hb, hml, hown, hts⟩ (g_X9_tell_2 l dC dI h0 h3 h1 h2 cint H.size p0 y_4 n0_size f3 tn0_size (by show 0 ≤ (p0 : Int32).toInt; first | with_reducible assumption | (have := kk_rng y_4; have := kk_rng r_3; omega)) (by show (p0 : Int32).toInt < (n0_size : Int32).toInt; first | with_reducible assumption | (have := kk_rng y_4; have := kk_rng r_3; omega))) (cwV 3 hts gX9_stepAside_X9_tell rfl rfl rfl (by decide +kernel) ⟨Nat.le_of_ble_eq_true rfl, Nat.le_of_ble_eq_true rfl⟩) ⟨fun a U g mk q => by obtain ⟨q0, q1, qP, qK, qD⟩ := q; exact ⟨q0, q1, qP, va_K.moved (u := U) (U := U.calling g mk a) (Vm.Alike.refl U.vm) qK, qD⟩, va_recv hKc hPc (ci := 9) (q0 := 0) rfl rfl, fun U hU hW => ⟨rfl, by rw [hU], by rw [hU]; exact hPc, va_K.moved hW.alike hKc, hDc.weaken (fun _ _ _ _ => trivial)⟩⟩ rfl rfl hl.1 rfl (lv_room (Nat.le_of_ble_eq_true rfl)) dX9_stepAside_19 ⟨Nat.le_of_ble_eq_true rfl, Nat.le_of_ble_eq_true rfl⟩) hS (fun q _ h => hFc q h) hFc (fun u t H1 locs ht hvm hw hB hz1 hk1 hS => ?_)
      obtain ⟨f_6, v_6_0, hP1, hK1, hD1⟩ := hB
      have v_6_0 : f_6 = upd f3 (p0 : Int32).toNatClampNeg (y_4 : Int32) := v_6_0
      rw [ht] at hP1
      have hK1 := va_K.moved hvm.symm hK1
      obtain ⟨hP, hD⟩ := va_join (wr := [(h1, Sum.inl (cint, 40, Sum.inl f1)), (h2, Sum.inl (cint, 40, Sum.inl f2))]) (w1 := [(h0, Sum.inr (9, [Value.ref h1, Value.ref h2, Value.ref h3, Value.int n0_size])), (h3, Sum.inl (cint, 40, Sum.inl f_6))]) hP hD [2, 3] [0, 1] rfl rfl (by decide) (by decide) hk1 hFc hP1 hD1
      generalize H1 = H at hP hS ⊢
      have hP : va_P (dC, dI) vwCl [(h1, Sum.inl (cint, 40, Sum.inl f1)), (h2, Sum.inl (cint, 40, Sum.inl f2)), (h0, Sum.inr (9, [Value.ref h1, Value.ref h2, Value.ref h3, Value.int n0_size])), (h3, Sum.inl (cint, 40, Sum.inl f_6))] H := hP
      have hD : va_D A [(h1, Sum.inl (cint, 40, Sum.inl f1)), (h2, Sum.inl (cint, 40, Sum.inl f2)), (h0, Sum.inr (9, [Value.ref h1, Value.ref h2, Value.ref h3, Value.int n0_size])), (h3, Sum.inl (cint, 40, Sum.inl f_6))] := hD
      have hk_7 : kt_st n0_size f1 f2 f_6 = kt_asd (p0 : Int32) (kt_st n0_size f1 f2 f3) := kt_asd_c (a := r_3) (v := y_4) (by have := kk_rng y_4; have := kk_rng r_3; omega) (by have := kk_rng y_4; have := kk_rng r_3; omega) (by have := kk_rng y_4; have := kk_rng r_3; omega) (by have := kk_rng y_4; have := kk_rng r_3; omega) (by with_reducible assumption)
      obtain ⟨hP9, hD9⟩ := kk_leafout (wc := [(h0, Sum.inr (9, [Value.ref h1, Value.ref h2, Value.ref h3, Value.int n0_size])), (h1, Sum.inl (cint, 40, Sum.inl f1)), (h2, Sum.inl (cint, 40, Sum.inl f2)), (h3, Sum.inl (cint, 40, Sum.inl f_6))]) hP hD [2, 0, 1, 3] (by decide) rfl
      have hK9 := hK.sub (tys' := []) [] rfl
      exact W.vret hx hb hr (fun t ht hW => ⟨⟨(), rfl, trivial, f_6, (by first | with_reducible assumption | (exfalso; have := kk_rng y_4; have := kk_rng r_3; omega)), (by show 1 ≤ (n0_size : Int32).toInt; first | with_reducible assumption | (have := kk_rng y_4; have := kk_rng r_3; omega)), by rw [ht]; exact hP9, va_K.moved hW.alike hK9, hD9⟩, hS.F ht⟩) hS.2.2 dX9_stepAside_22
set_option maxHeartbeats 4000000 in
set_option maxRecDepth 100000 in
theorem g_X4_changeTown_1 (l : Launch) (dC : Nat → ClassId) (dI : Nat → Nat → Nat) (h0 : Nat) (h1 : Nat) (h2 : Nat) (h3 : Nat) (cint : ClassId) (sz : Nat) (p1 : Int32) (p2 : Int32) (n0_size : Int32) (f1 : Nat → Int32) (f2 : Nat → Int32) (f3 : Nat → Int32) (tn0_size : 0 ≤ n0_size.toInt ∧ n0_size.toInt ≤ 40) (pr0 : 0 ≤ p1.toInt) (pr1 : p1.toInt < n0_size.toInt) : Met l yX4_changeTown wsX4_changeTown ({ frames := 3, cells := 0, slots := 0, locals := 67 }) (va_Pc [.ref h0, .int p1, .int p2] (fun U => U.heap.size = sz ∧ va_P (dC, dI) vwCl [(h0, Sum.inr (9, [Value.ref h1, Value.ref h2, Value.ref h3, Value.int n0_size])), (h1, Sum.inl (cint, 40, Sum.inl f1)), (h2, Sum.inl (cint, 40, Sum.inl f2)), (h3, Sum.inl (cint, 40, Sum.inl f3))] U.heap ∧ va_K (dC, dI) vwCl [(cint, .int)] U ∧ va_D (fun _ => True) [(h0, Sum.inr (9, [Value.ref h1, Value.ref h2, Value.ref h3, Value.int n0_size])), (h1, Sum.inl (cint, 40, Sum.inl f1)), (h2, Sum.inl (cint, 40, Sum.inl f2)), (h3, Sum.inl (cint, 40, Sum.inl f3))])) (va_Qv (fun (_ : Unit) => True) (fun (_ : Unit) t => ∃ (m0_size : Int32) (g1 : Nat → Int32) (g2 : Nat → Int32) (g3 : Nat → Int32), (1 ≤ m0_size.toInt ∧ m0_size.toInt ≤ 40) ∧ (kt_st (m0_size : Int32) g1 g2 g3 = kt_chg (p2 : Int32) (p1 : Int32) (kt_st (n0_size : Int32) f1 f2 f3)) ∧ (1 ≤ m0_size.toInt) ∧ va_P (dC, dI) vwCl [(h0, Sum.inr (9, [Value.ref h1, Value.ref h2, Value.ref h3, Value.int m0_size])), (h1, Sum.inl (cint, 40, Sum.inl g1)), (h2, Sum.inl (cint, 40, Sum.inl g2)), (h3, Sum.inl (cint, 40, Sum.inl g3))] t.heap ∧ va_K (dC, dI) vwCl [] t ∧ va_D (va_A [(h0, Sum.inr (9, [Value.ref h1, Value.ref h2, Value.ref h3, Value.int n0_size])), (h1, Sum.inl (cint, 40, Sum.inl f1)), (h2, Sum.inl (cint, 40, Sum.inl f2)), (h3, Sum.inl (cint, 40, Sum.inl f3))] sz) [(h0, Sum.inr (9, [Value.ref h1, Value.ref h2, Value.ref h3, Value.int m0_size])), (h1, Sum.inl (cint, 40, Sum.inl g1)), (h2, Sum.inl (cint, 40, Sum.inl g2)), (h3, Sum.inl (cint, 40, Sum.inl g3))]) (va_A [(h0, Sum.inr (9, [Value.ref h1, Value.ref h2, Value.ref h3, Value.int n0_size])), (h1, Sum.inl (cint, 40, Sum.inl f1)), (h2, Sum.inl (cint, 40, Sum.inl f2)), (h3, Sum.inl (cint, 40, Sum.inl f3))] sz)) 0 0 (va_A [(h0, Sum.inr (9, [Value.ref h1, Value.ref h2, Value.ref h3, Value.int n0_size])), (h1, Sum.inl (cint, 40, Sum.inl f1)), (h2, Sum.inl (cint, 40, Sum.inl f2)), (h3, Sum.inl (cint, 40, Sum.inl f3))] sz) := by
  refine Met.ofW (cc := cX4_changeTown) (maxL := 3) (ret := none) (by decide) rfl ?_
  intro p e s m args below meth c s₁ B hml hv
  obtain ⟨rfl, hsz, hP, hK, hD0⟩ := hv
  have hx := B.exec
  have hb := B.bytes
  have hr := B.returns
  have hts := atoms_spec (ws := wsX4_changeTown) B.pre
  have hown : s.vm.findClass RX4 = some m.cls := findClass_of_methodNamed B.named
  have hlocks := B.notSynchronized
  subst hsz
  have hD := hD0.self (sz := s.heap.size)
  generalize hAe : va_A [(h0, Sum.inr (9, [Value.ref h1, Value.ref h2, Value.ref h3, Value.int n0_size])), (h1, Sum.inl (cint, 40, Sum.inl f1)), (h2, Sum.inl (cint, 40, Sum.inl f2)), (h3, Sum.inl (cint, 40, Sum.inl f3))] s.heap.size = A at hD ⊢
  have hA : ∀ q : Nat, s.heap.size ≤ q → A q := fun q h => by rw [← hAe]; exact Or.inr h
  have hS : va_S A s.heap s.heap [] := va_S.rf
  have hP : va_P (dC, dI) vwCl [(h0, Sum.inr (9, [Value.ref h1, Value.ref h2, Value.ref h3, Value.int n0_size])), (h1, Sum.inl (cint, 40, Sum.inl f1)), (h2, Sum.inl (cint, 40, Sum.inl f2)), (h3, Sum.inl (cint, 40, Sum.inl f3))] s.heap := hP
  have hl := lv_entry ([.ref h0, .int p1, .int p2]) (n := 3) (Nat.le_of_ble_eq_true rfl)
  rw [lg_entry_eq]
  generalize (lg_sl ([.ref h0, .int p1, .int p2]) ++ List.replicate (3 - (lg_sl ([.ref h0, .int p1, .int p2])).length) Slot.unset).toArray = ls at hl ⊢
  have hl : lv_has ls 3 [(0, .ref h0), (1, .int p1), (2, .int p2)] := hl
  refine lv_iload_n hx hb dX4_changeTown_0 rfl (lv_at hl 2 rfl) ?_
  rcases (show p2 = 1 ∨ p2 = 2 ∨ p2 = 3 ∨ (p2.toInt < 1 ∨ 3 < p2.toInt) from by simp only [← Int32.toInt_inj]; simp; omega) with e_1 | e_1 | e_1 | t_1
  · have t_1 : p2.toInt = 1 := by rw [e_1]; rfl
    refine lv_tableIn (tgt := 28) (off := 27) hx hb dX4_changeTown_1 (by omega) (by omega) (by rw [t_1]; rfl) (by decide) ?_
    refine lv_aload_n hx hb dX4_changeTown_28 rfl (lv_at hl 0 rfl) ?_
    refine lv_iload_n hx hb dX4_changeTown_29 rfl (lv_at hl 1 rfl) ?_
    obtain ⟨hPc, hDc, hFc⟩ := kk_cutout (wc := [(h0, Sum.inr (9, [Value.ref h1, Value.ref h2, Value.ref h3, Value.int n0_size])), (h1, Sum.inl (cint, 40, Sum.inl f1)), (h2, Sum.inl (cint, 40, Sum.inl f2)), (h3, Sum.inl (cint, 40, Sum.inl f3))]) hP hD hS hA [0, 1, 2, 3] (by decide) rfl
    have hKc := hK.sub (tys' := [(cint, .int)]) [0] rfl
    refine va_callv (va_runV (As := [.int p1]) (rest := []) ⟨hx, hb, hml, hown, hts⟩ (g_X9_join_1 l dC dI h0 h1 h2 h3 cint s.heap.size p1 n0_size f1 f2 f3 tn0_size (by show 0 ≤ (p1 : Int32).toInt; first | with_reducible assumption | (omega)) (by show (p1 : Int32).toInt < (n0_size : Int32).toInt; first | with_reducible assumption | (omega))) (cwV 1 hts gX4_changeTown_X9_join rfl rfl rfl (by decide +kernel) ⟨Nat.le_of_ble_eq_true rfl, Nat.le_of_ble_eq_true rfl⟩) ⟨fun a U g mk q => by obtain ⟨q0, q1, qP, qK, qD⟩ := q; exact ⟨q0, q1, qP, va_K.moved (u := U) (U := U.calling g mk a) (Vm.Alike.refl U.vm) qK, qD⟩, va_recv hKc hPc (ci := 9) (q0 := 0) rfl rfl, fun U hU hW => ⟨rfl, by rw [hU], by rw [hU]; exact hPc, va_K.moved hW.alike hKc, hDc.weaken (fun _ _ _ _ => trivial)⟩⟩ rfl rfl hl.1 rfl (lv_room (Nat.le_of_ble_eq_true rfl)) dX4_changeTown_30 ⟨Nat.le_of_ble_eq_true rfl, Nat.le_of_ble_eq_true rfl⟩) hS (fun q _ h => hFc q h) hFc (fun u t H1 locs ht hvm hw hB hz1 hk1 hS => ?_)
    obtain ⟨y_3, f_4, f_5, f_6, by_3, v_6_0, v_6_1, hP1, hK1, hD1⟩ := hB
    have v_6_0 : kt_st (y_3 : Int32) f_4 f_5 f_6 = kt_join (p1 : Int32) (kt_st (n0_size : Int32) f1 f2 f3) := v_6_0
    have v_6_1 : 1 ≤ y_3.toInt := v_6_1
    rw [ht] at hP1
    have hK1 := va_K.moved hvm.symm hK1
    obtain ⟨hP, hD⟩ := va_join (wr := []) (w1 := [(h0, Sum.inr (9, [Value.ref h1, Value.ref h2, Value.ref h3, Value.int y_3])), (h1, Sum.inl (cint, 40, Sum.inl f_4)), (h2, Sum.inl (cint, 40, Sum.inl f_5)), (h3, Sum.inl (cint, 40, Sum.inl f_6))]) hP hD [0, 1, 2, 3] [] rfl rfl (by decide) (by decide) hk1 hFc hP1 hD1
    generalize H1 = H at hP hS ⊢
    have hP : va_P (dC, dI) vwCl [(h0, Sum.inr (9, [Value.ref h1, Value.ref h2, Value.ref h3, Value.int y_3])), (h1, Sum.inl (cint, 40, Sum.inl f_4)), (h2, Sum.inl (cint, 40, Sum.inl f_5)), (h3, Sum.inl (cint, 40, Sum.inl f_6))] H := hP
    have hD : va_D A [(h0, Sum.inr (9, [Value.ref h1, Value.ref h2, Value.ref h3, Value.int y_3])), (h1, Sum.inl (cint, 40, Sum.inl f_4)), (h2, Sum.inl (cint, 40, Sum.inl f_5)), (h3, Sum.inl (cint, 40, Sum.inl f_6))] := hD
    have hk_7 : kt_st y_3 f_4 f_5 f_6 = kt_chg (p2 : Int32) (p1 : Int32) (kt_st n0_size f1 f2 f3) := kt_chg1 (by omega) (show kt_st y_3 f_4 f_5 f_6 = kt_join (p1 : Int32) (kt_st n0_size f1 f2 f3) from (by with_reducible assumption))
    refine lv_goto (tgt := 52) hx hb dX4_changeTown_33 (by decide) ?_
    obtain ⟨hP9, hD9⟩ := kk_leafout (wc := [(h0, Sum.inr (9, [Value.ref h1, Value.ref h2, Value.ref h3, Value.int y_3])), (h1, Sum.inl (cint, 40, Sum.inl f_4)), (h2, Sum.inl (cint, 40, Sum.inl f_5)), (h3, Sum.inl (cint, 40, Sum.inl f_6))]) hP hD [0, 1, 2, 3] (by decide) rfl
    have hK9 := hK.sub (tys' := []) [] rfl
    exact W.vret hx hb hr (fun t ht hW => ⟨⟨(), rfl, trivial, y_3, f_4, f_5, f_6, (by show 1 ≤ (y_3 : Int32).toInt ∧ (y_3 : Int32).toInt ≤ 40; first | with_reducible assumption | (constructor <;> (omega))), (by first | with_reducible assumption | (exfalso; omega)), (by show 1 ≤ (y_3 : Int32).toInt; first | with_reducible assumption | (omega)), by rw [ht]; exact hP9, va_K.moved hW.alike hK9, hD9⟩, hS.F ht⟩) hS.2.2 dX4_changeTown_52
  · have t_1 : p2.toInt = 2 := by rw [e_1]; rfl
    refine lv_tableIn (tgt := 36) (off := 35) hx hb dX4_changeTown_1 (by omega) (by omega) (by rw [t_1]; rfl) (by decide) ?_
    refine lv_aload_n hx hb dX4_changeTown_36 rfl (lv_at hl 0 rfl) ?_
    refine lv_iload_n hx hb dX4_changeTown_37 rfl (lv_at hl 1 rfl) ?_
    obtain ⟨hPc, hDc, hFc⟩ := kk_cutout (wc := [(h0, Sum.inr (9, [Value.ref h1, Value.ref h2, Value.ref h3, Value.int n0_size])), (h1, Sum.inl (cint, 40, Sum.inl f1)), (h2, Sum.inl (cint, 40, Sum.inl f2)), (h3, Sum.inl (cint, 40, Sum.inl f3))]) hP hD hS hA [0, 1, 2, 3] (by decide) rfl
    have hKc := hK.sub (tys' := [(cint, .int)]) [0] rfl
    refine va_callv (va_runV (As := [.int p1]) (rest := []) ⟨hx, hb, hml, hown, hts⟩ (g_X9_part_1 l dC dI h0 h1 h2 h3 cint s.heap.size p1 n0_size f1 f2 f3 tn0_size (by show 0 ≤ (p1 : Int32).toInt; first | with_reducible assumption | (omega)) (by show (p1 : Int32).toInt < (n0_size : Int32).toInt; first | with_reducible assumption | (omega))) (cwV 1 hts gX4_changeTown_X9_part rfl rfl rfl (by decide +kernel) ⟨Nat.le_of_ble_eq_true rfl, Nat.le_of_ble_eq_true rfl⟩) ⟨fun a U g mk q => by obtain ⟨q0, q1, qP, qK, qD⟩ := q; exact ⟨q0, q1, qP, va_K.moved (u := U) (U := U.calling g mk a) (Vm.Alike.refl U.vm) qK, qD⟩, va_recv hKc hPc (ci := 9) (q0 := 0) rfl rfl, fun U hU hW => ⟨rfl, by rw [hU], by rw [hU]; exact hPc, va_K.moved hW.alike hKc, hDc.weaken (fun _ _ _ _ => trivial)⟩⟩ rfl rfl hl.1 rfl (lv_room (Nat.le_of_ble_eq_true rfl)) dX4_changeTown_38 ⟨Nat.le_of_ble_eq_true rfl, Nat.le_of_ble_eq_true rfl⟩) hS (fun q _ h => hFc q h) hFc (fun u t H1 locs ht hvm hw hB hz1 hk1 hS => ?_)
    obtain ⟨y_9, f_10, f_11, f_12, by_9, v_12_0, v_12_1, hP1, hK1, hD1⟩ := hB
    have v_12_0 : kt_st (y_9 : Int32) f_10 f_11 f_12 = kt_part (p1 : Int32) (kt_st (n0_size : Int32) f1 f2 f3) := v_12_0
    have v_12_1 : 1 ≤ y_9.toInt := v_12_1
    rw [ht] at hP1
    have hK1 := va_K.moved hvm.symm hK1
    obtain ⟨hP, hD⟩ := va_join (wr := []) (w1 := [(h0, Sum.inr (9, [Value.ref h1, Value.ref h2, Value.ref h3, Value.int y_9])), (h1, Sum.inl (cint, 40, Sum.inl f_10)), (h2, Sum.inl (cint, 40, Sum.inl f_11)), (h3, Sum.inl (cint, 40, Sum.inl f_12))]) hP hD [0, 1, 2, 3] [] rfl rfl (by decide) (by decide) hk1 hFc hP1 hD1
    generalize H1 = H at hP hS ⊢
    have hP : va_P (dC, dI) vwCl [(h0, Sum.inr (9, [Value.ref h1, Value.ref h2, Value.ref h3, Value.int y_9])), (h1, Sum.inl (cint, 40, Sum.inl f_10)), (h2, Sum.inl (cint, 40, Sum.inl f_11)), (h3, Sum.inl (cint, 40, Sum.inl f_12))] H := hP
    have hD : va_D A [(h0, Sum.inr (9, [Value.ref h1, Value.ref h2, Value.ref h3, Value.int y_9])), (h1, Sum.inl (cint, 40, Sum.inl f_10)), (h2, Sum.inl (cint, 40, Sum.inl f_11)), (h3, Sum.inl (cint, 40, Sum.inl f_12))] := hD
    have hk_13 : kt_st y_9 f_10 f_11 f_12 = kt_chg (p2 : Int32) (p1 : Int32) (kt_st n0_size f1 f2 f3) := kt_chg2 (by omega) (show kt_st y_9 f_10 f_11 f_12 = kt_part (p1 : Int32) (kt_st n0_size f1 f2 f3) from (by with_reducible assumption))
    refine lv_goto (tgt := 52) hx hb dX4_changeTown_41 (by decide) ?_
    obtain ⟨hP9, hD9⟩ := kk_leafout (wc := [(h0, Sum.inr (9, [Value.ref h1, Value.ref h2, Value.ref h3, Value.int y_9])), (h1, Sum.inl (cint, 40, Sum.inl f_10)), (h2, Sum.inl (cint, 40, Sum.inl f_11)), (h3, Sum.inl (cint, 40, Sum.inl f_12))]) hP hD [0, 1, 2, 3] (by decide) rfl
    have hK9 := hK.sub (tys' := []) [] rfl
    exact W.vret hx hb hr (fun t ht hW => ⟨⟨(), rfl, trivial, y_9, f_10, f_11, f_12, (by show 1 ≤ (y_9 : Int32).toInt ∧ (y_9 : Int32).toInt ≤ 40; first | with_reducible assumption | (constructor <;> (omega))), (by first | with_reducible assumption | (exfalso; omega)), (by show 1 ≤ (y_9 : Int32).toInt; first | with_reducible assumption | (omega)), by rw [ht]; exact hP9, va_K.moved hW.alike hK9, hD9⟩, hS.F ht⟩) hS.2.2 dX4_changeTown_52
  · have t_1 : p2.toInt = 3 := by rw [e_1]; rfl
    refine lv_tableIn (tgt := 44) (off := 43) hx hb dX4_changeTown_1 (by omega) (by omega) (by rw [t_1]; rfl) (by decide) ?_
    refine lv_aload_n hx hb dX4_changeTown_44 rfl (lv_at hl 0 rfl) ?_
    refine lv_iload_n hx hb dX4_changeTown_45 rfl (lv_at hl 1 rfl) ?_
    obtain ⟨hPc, hDc, hFc⟩ := kk_cutout (wc := [(h0, Sum.inr (9, [Value.ref h1, Value.ref h2, Value.ref h3, Value.int n0_size])), (h1, Sum.inl (cint, 40, Sum.inl f1)), (h2, Sum.inl (cint, 40, Sum.inl f2)), (h3, Sum.inl (cint, 40, Sum.inl f3))]) hP hD hS hA [0, 1, 2, 3] (by decide) rfl
    have hKc := hK.sub (tys' := [(cint, .int)]) [0] rfl
    refine va_callv (va_runV (As := [.int p1]) (rest := []) ⟨hx, hb, hml, hown, hts⟩ (g_X9_stepAside_1 l dC dI h0 h1 h2 h3 cint s.heap.size p1 n0_size f1 f2 f3 tn0_size (by show 0 ≤ (p1 : Int32).toInt; first | with_reducible assumption | (omega)) (by show (p1 : Int32).toInt < (n0_size : Int32).toInt; first | with_reducible assumption | (omega))) (cwV 1 hts gX4_changeTown_X9_stepAside rfl rfl rfl (by decide +kernel) ⟨Nat.le_of_ble_eq_true rfl, Nat.le_of_ble_eq_true rfl⟩) ⟨fun a U g mk q => by obtain ⟨q0, q1, qP, qK, qD⟩ := q; exact ⟨q0, q1, qP, va_K.moved (u := U) (U := U.calling g mk a) (Vm.Alike.refl U.vm) qK, qD⟩, va_recv hKc hPc (ci := 9) (q0 := 0) rfl rfl, fun U hU hW => ⟨rfl, by rw [hU], by rw [hU]; exact hPc, va_K.moved hW.alike hKc, hDc.weaken (fun _ _ _ _ => trivial)⟩⟩ rfl rfl hl.1 rfl (lv_room (Nat.le_of_ble_eq_true rfl)) dX4_changeTown_46 ⟨Nat.le_of_ble_eq_true rfl, Nat.le_of_ble_eq_true rfl⟩) hS (fun q _ h => hFc q h) hFc (fun u t H1 locs ht hvm hw hB hz1 hk1 hS => ?_)
    obtain ⟨f_15, v_15_0, v_15_1, hP1, hK1, hD1⟩ := hB
    have v_15_0 : kt_st (n0_size : Int32) f1 f2 f_15 = kt_asd (p1 : Int32) (kt_st (n0_size : Int32) f1 f2 f3) := v_15_0
    have v_15_1 : 1 ≤ n0_size.toInt := v_15_1
    rw [ht] at hP1
    have hK1 := va_K.moved hvm.symm hK1
    obtain ⟨hP, hD⟩ := va_join (wr := []) (w1 := [(h0, Sum.inr (9, [Value.ref h1, Value.ref h2, Value.ref h3, Value.int n0_size])), (h1, Sum.inl (cint, 40, Sum.inl f1)), (h2, Sum.inl (cint, 40, Sum.inl f2)), (h3, Sum.inl (cint, 40, Sum.inl f_15))]) hP hD [0, 1, 2, 3] [] rfl rfl (by decide) (by decide) hk1 hFc hP1 hD1
    generalize H1 = H at hP hS ⊢
    have hP : va_P (dC, dI) vwCl [(h0, Sum.inr (9, [Value.ref h1, Value.ref h2, Value.ref h3, Value.int n0_size])), (h1, Sum.inl (cint, 40, Sum.inl f1)), (h2, Sum.inl (cint, 40, Sum.inl f2)), (h3, Sum.inl (cint, 40, Sum.inl f_15))] H := hP
    have hD : va_D A [(h0, Sum.inr (9, [Value.ref h1, Value.ref h2, Value.ref h3, Value.int n0_size])), (h1, Sum.inl (cint, 40, Sum.inl f1)), (h2, Sum.inl (cint, 40, Sum.inl f2)), (h3, Sum.inl (cint, 40, Sum.inl f_15))] := hD
    have hk_16 : kt_st n0_size f1 f2 f_15 = kt_chg (p2 : Int32) (p1 : Int32) (kt_st n0_size f1 f2 f3) := kt_chg3 (by omega) (show kt_st n0_size f1 f2 f_15 = kt_asd (p1 : Int32) (kt_st n0_size f1 f2 f3) from (by with_reducible assumption))
    refine lv_goto (tgt := 52) hx hb dX4_changeTown_49 (by decide) ?_
    obtain ⟨hP9, hD9⟩ := kk_leafout (wc := [(h0, Sum.inr (9, [Value.ref h1, Value.ref h2, Value.ref h3, Value.int n0_size])), (h1, Sum.inl (cint, 40, Sum.inl f1)), (h2, Sum.inl (cint, 40, Sum.inl f2)), (h3, Sum.inl (cint, 40, Sum.inl f_15))]) hP hD [0, 1, 2, 3] (by decide) rfl
    have hK9 := hK.sub (tys' := []) [] rfl
    exact W.vret hx hb hr (fun t ht hW => ⟨⟨(), rfl, trivial, n0_size, f1, f2, f_15, (by show 1 ≤ (n0_size : Int32).toInt ∧ (n0_size : Int32).toInt ≤ 40; first | with_reducible assumption | (constructor <;> (omega))), (by first | with_reducible assumption | (exfalso; omega)), (by show 1 ≤ (n0_size : Int32).toInt; first | with_reducible assumption | (omega)), by rw [ht]; exact hP9, va_K.moved hW.alike hK9, hD9⟩, hS.F ht⟩) hS.2.2 dX4_changeTown_52
  · refine lv_tableOut (tgt := 52) hx hb dX4_changeTown_1 t_1 (by decide) ?_
    have hk_17 : kt_st n0_size f1 f2 f3 = kt_chg (p2 : Int32) (p1 : Int32) (kt_st n0_size f1 f2 f3) := kt_chg0 (by omega)
    obtain ⟨hP9, hD9⟩ := kk_leafout (wc := [(h0, Sum.inr (9, [Value.ref h1, Value.ref h2, Value.ref h3, Value.int n0_size])), (h1, Sum.inl (cint, 40, Sum.inl f1)), (h2, Sum.inl (cint, 40, Sum.inl f2)), (h3, Sum.inl (cint, 40, Sum.inl f3))]) hP hD [0, 1, 2, 3] (by decide) rfl
    have hK9 := hK.sub (tys' := []) [] rfl
    exact W.vret hx hb hr (fun t ht hW => ⟨⟨(), rfl, trivial, n0_size, f1, f2, f3, (by show 1 ≤ (n0_size : Int32).toInt ∧ (n0_size : Int32).toInt ≤ 40; first | with_reducible assumption | (constructor <;> (omega))), (by first | with_reducible assumption | (exfalso; omega)), (by show 1 ≤ (n0_size : Int32).toInt; first | with_reducible assumption | (omega)), by rw [ht]; exact hP9, va_K.moved hW.alike hK9, hD9⟩, hS.F ht⟩) hS.2.2 dX4_changeTown_52
