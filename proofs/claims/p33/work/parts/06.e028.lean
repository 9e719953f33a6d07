set_option maxHeartbeats 4000000 in
set_option maxRecDepth 100000 in
theorem g_X11_feed_0 (l : Launch) (dC : Nat → ClassId) (dI : Nat → Nat → Nat) (h0 : Nat) (h1 : Nat) (h2 : Nat) (h3 : Nat) (h4 : Nat) (h5 : Nat) (h6 : Nat) (h7 : Nat) (h8 : Nat) (h9 : Nat) (h10 : Nat) (h11 : Nat) (h12 : Nat) (h13 : Nat) (cint : ClassId) (sz : Nat) (p0 : Int32) (p1 : Int32) (n0_streetCount : Int32) (n0_lawCount : Int32) (n1_size : Int32) (n1_place : Int32) (o1_law : Option Nat) (f2 : Nat → Int32) (tn0_streetCount : 0 ≤ n0_streetCount.toInt ∧ n0_streetCount.toInt ≤ 6) (tn0_lawCount : 0 ≤ n0_lawCount.toInt ∧ n0_lawCount.toInt ≤ 4) (tn1_size : 0 ≤ n1_size.toInt ∧ n1_size.toInt ≤ 120) (bf2 : ∀ j, j < 120 → 0 ≤ (f2 j).toInt ∧ (f2 j).toInt ≤ 255) : Met l yX11_feed wsX11_feed ({ frames := 1, cells := 0, slots := 0, locals := 23 }) (va_Pc [.ref h0, .int p0, .int p1] (fun U => U.heap.size = sz ∧ va_P (dC, dI) vwCl [(h0, .inr (11, [.ref h3, .int n0_streetCount, .ref h4, .ref h5, .ref h6, .ref h7, .ref h8, .ref h9, .ref h10, .ref h1, .ref h11, .int n0_lawCount, .ref h12, .ref h13])), (h1, .inr (10, [.ref h2, .int n1_size, .int n1_place, va_rf o1_law])), (h2, .inl (cint, 120, .inl f2))] U.heap ∧ va_K (dC, dI) vwCl [(cint, .int)] U ∧ va_D (fun _ => True) [(h0, .inr (11, [.ref h3, .int n0_streetCount, .ref h4, .ref h5, .ref h6, .ref h7, .ref h8, .ref h9, .ref h10, .ref h1, .ref h11, .int n0_lawCount, .ref h12, .ref h13])), (h1, .inr (10, [.ref h2, .int n1_size, .int n1_place, va_rf o1_law])), (h2, .inl (cint, 120, .inl f2))])) (va_Qi (fun (r : Int32) (_ : Unit) => ((-3) ≤ r.toInt ∧ r.toInt ≤ 120)) (fun (_ : Unit) t => ∃ (m1_size : Int32) (g2 : Nat → Int32), (0 ≤ m1_size.toInt ∧ m1_size.toInt ≤ 120) ∧ (∀ j, j < 120 → 0 ≤ (g2 j).toInt ∧ (g2 j).toInt ≤ 255) ∧ va_P (dC, dI) vwCl [(h0, .inr (11, [.ref h3, .int n0_streetCount, .ref h4, .ref h5, .ref h6, .ref h7, .ref h8, .ref h9, .ref h10, .ref h1, .ref h11, .int n0_lawCount, .ref h12, .ref h13])), (h1, .inr (10, [.ref h2, .int m1_size, .int n1_place, va_rf o1_law])), (h2, .inl (cint, 120, .inl g2))] t.heap ∧ va_K (dC, dI) vwCl [] t ∧ va_D (va_A [(h0, .inr (11, [.ref h3, .int n0_streetCount, .ref h4, .ref h5, .ref h6, .ref h7, .ref h8, .ref h9, .ref h10, .ref h1, .ref h11, .int n0_lawCount, .ref h12, .ref h13])), (h1, .inr (10, [.ref h2, .int n1_size, .int n1_place, va_rf o1_law])), (h2, .inl (cint, 120, .inl f2))] sz) [(h0, .inr (11, [.ref h3, .int n0_streetCount, .ref h4, .ref h5, .ref h6, .ref h7, .ref h8, .ref h9, .ref h10, .ref h1, .ref h11, .int n0_lawCount, .ref h12, .ref h13])), (h1, .inr (10, [.ref h2, .int m1_size, .int n1_place, va_rf o1_law])), (h2, .inl (cint, 120, .inl g2))]) (va_A [(h0, .inr (11, [.ref h3, .int n0_streetCount, .ref h4, .ref h5, .ref h6, .ref h7, .ref h8, .ref h9, .ref h10, .ref h1, .ref h11, .int n0_lawCount, .ref h12, .ref h13])), (h1, .inr (10, [.ref h2, .int n1_size, .int n1_place, va_rf o1_law])), (h2, .inl (cint, 120, .inl f2))] sz)) 0 0 (va_A [(h0, .inr (11, [.ref h3, .int n0_streetCount, .ref h4, .ref h5, .ref h6, .ref h7, .ref h8, .ref h9, .ref h10, .ref h1, .ref h11, .int n0_lawCount, .ref h12, .ref h13])), (h1, .inr (10, [.ref h2, .int n1_size, .int n1_place, va_rf o1_law])), (h2, .inl (cint, 120, .inl f2))] sz) := by
  refine Met.ofW (cc := cX11_feed) (maxL := 3) (ret := (some .int)) (by decide) rfl ?_
  intro p e s m args below meth c s₁ B hml hv
  obtain ⟨rfl, hsz, hP, hK, hD0⟩ := hv
  have hx := B.exec
  have hb := B.bytes
  have hr := B.returns
  have hts := atoms_spec (ws := wsX11_feed) B.pre
  have hown : s.vm.findClass RX11 = some m.cls := findClass_of_methodNamed B.named
  have hlocks := B.notSynchronized
  subst hsz
  have hD := hD0.self (sz := s.heap.size)
  generalize hAe : va_A [(h0, .inr (11, [.ref h3, .int n0_streetCount, .ref h4, .ref h5, .ref h6, .ref h7, .ref h8, .ref h9, .ref h10, .ref h1, .ref h11, .int n0_lawCount, .ref h12, .ref h13])), (h1, .inr (10, [.ref h2, .int n1_size, .int n1_place, va_rf o1_law])), (h2, .inl (cint, 120, .inl f2))] s.heap.size = A at hD ⊢
  have hA : ∀ q : Nat, s.heap.size ≤ q → A q := fun q h => by rw [← hAe]; exact Or.inr h
  have hS : va_S A s.heap s.heap [] := va_S.rf
  have hP : va_P (dC, dI) vwCl [(h0, .inr (11, [.ref h3, .int n0_streetCount, .ref h4, .ref h5, .ref h6, .ref h7, .ref h8, .ref h9, .ref h10, .ref h1, .ref h11, .int n0_lawCount, .ref h12, .ref h13])), (h1, .inr (10, [.ref h2, .int n1_size, .int n1_place, va_rf o1_law])), (h2, .inl (cint, 120, .inl f2))] s.heap := hP
  have hl := lv_entry ([.ref h0, .int p0, .int p1]) (n := 3) (Nat.le_of_ble_eq_true rfl)
  rw [lg_entry_eq]
  generalize (lg_sl ([.ref h0, .int p0, .int p1]) ++ List.replicate (3 - (lg_sl ([.ref h0, .int p0, .int p1])).length) Slot.unset).toArray = ls at hl ⊢
  have hl : lv_has ls 3 [(0, .ref h0), (1, .int p0), (2, .int p1)] := hl
  refine lv_iload_n hx hb dX11_feed_0 rfl (lv_at hl 1 rfl) ?_
  refine lv_iconst (v := 1) hx hb dX11_feed_1 (by decide) ?_
  refine lv_icmp_lt (tgt := 10) hx hb dX11_feed_2 (by decide) (fun c_1 => ?_) (fun c_1 => ?_)
  · have t_1 : p0.toInt < 1 := kk_lt c_1
    refine lv_iconst (v := (-1)) hx hb dX11_feed_10 (by decide) ?_
    obtain ⟨hP9, hD9⟩ := kk_leafout (wc := [(h0, .inr (11, [.ref h3, .int n0_streetCount, .ref h4, .ref h5, .ref h6, .ref h7, .ref h8, .ref h9, .ref h10, .ref h1, .ref h11, .int n0_lawCount, .ref h12, .ref h13])), (h1, .inr (10, [.ref h2, .int n1_size, .int n1_place, va_rf o1_law])), (h2, .inl (cint, 120, .inl f2))]) hP hD [0, 1, 2] (by decide) rfl
    have hK9 := hK.sub (tys' := []) [] rfl
    exact W.iret (v := (-1)) hx hb hr (fun t ht hW => ⟨⟨(-1), (), rfl, (by show (-3) ≤ ((-1) : Int32).toInt ∧ ((-1) : Int32).toInt ≤ 120; first | decide | (constructor <;> (have := kk_rng p0; omega))), n1_size, f2, (by show 0 ≤ (n1_size : Int32).toInt ∧ (n1_size : Int32).toInt ≤ 120; first | decide | (constructor <;> (have := kk_rng p0; omega))), bf2, by rw [ht]; exact hP9, va_K.moved hW.alike hK9, hD9⟩, hS.F ht⟩) hS.2.2 dX11_feed_11
  · have t_1 : 1 ≤ p0.toInt := kk_nlt c_1
    refine lv_iload_n hx hb dX11_feed_5 rfl (lv_at hl 1 rfl) ?_
    refine lv_iconst (v := 4) hx hb dX11_feed_6 (by decide) ?_
    refine lv_icmp_le (tgt := 12) hx hb dX11_feed_7 (by decide) (fun c_2 => ?_) (fun c_2 => ?_)
    · have t_2 : p0.toInt ≤ 4 := kk_le c_2
      refine lv_aload_n hx hb dX11_feed_12 rfl (lv_at hl 0 rfl) ?_
      refine va_get (D := (dC, dI)) (ci := 11) (v := .ref h1) (C := RX11) (T := TX11) (N := 14) hx hb hts (fun _ h => List.mem_cons_of_mem _ (List.mem_append_left _ (List.mem_append_right _ h))) hown hK hP 0 rfl rfl 9 (by decide) (hts (.fieldLink RX11 65 "KinkStreet" "tape" "LKinkStreet$Tape;") (List.mem_of_getElem? (i := 1) rfl)) (fun _ h9 => h9) rfl dX11_feed_13 ?_
      refine lv_iload_n hx hb dX11_feed_16 rfl (lv_at hl 1 rfl) ?_
      obtain ⟨hPc, hDc, hFc⟩ := kk_cutout (wc := [(h1, .inr (10, [.ref h2, .int n1_size, .int n1_place, va_rf o1_law]))]) hP hD hS hA [1] (by decide) rfl
      have hKc := hK.sub (tys' := []) [] rfl
      refine va_calli (va_runV (As := [.int p0]) (rest := []) ⟨hx, hb, hml, hown, hts⟩ (g_X10_hasRoomFor_0 l dC dI h1 h2 s.heap.size p0 n1_size n1_place o1_law (by show 0 ≤ (n1_size : Int32).toInt ∧ (n1_size : Int32).toInt ≤ 120; first | decide | (constructor <;> (omega)))) (cwV 1 hts gX11_feed_X10_hasRoomFor rfl rfl rfl (by decide +kernel) ⟨Nat.le_of_ble_eq_true rfl, Nat.le_of_ble_eq_true rfl⟩) ⟨fun a U g mk q => by obtain ⟨q0, q1, qP, qK, qD⟩ := q; exact ⟨q0, q1, qP, va_K.moved (u := U) (U := U.calling g mk a) (Vm.Alike.refl U.vm) qK, qD⟩, va_recv hKc hPc (ci := 10) (q0 := 0) rfl rfl, fun U hU hW => ⟨rfl, by rw [hU], by rw [hU]; exact hPc, va_K.moved hW.alike hKc, hDc.weaken (fun _ _ _ _ => trivial)⟩⟩ rfl rfl hl.1 rfl (lv_room (Nat.le_of_ble_eq_true rfl)) dX11_feed_17 ⟨Nat.le_of_ble_eq_true rfl, Nat.le_of_ble_eq_true rfl⟩) hS (fun q _ h => hFc q h) hFc (fun r_3 u t H1 locs ht hvm hw hB hz1 hk1 hS => ?_)
      obtain ⟨hP1, hK1, hD1⟩ := hB
      rw [ht] at hP1
      have hK1 := va_K.moved hvm.symm hK1
      obtain ⟨hP, hD⟩ := va_join (wr := [(h0, .inr (11, [.ref h3, .int n0_streetCount, .ref h4, .ref h5, .ref h6, .ref h7, .ref h8, .ref h9, .ref h10, .ref h1, .ref h11, .int n0_lawCount, .ref h12, .ref h13])), (h2, .inl (cint, 120, .inl f2))]) (w1 := [(h1, .inr (10, [.ref h2, .int n1_size, .int n1_place, va_rf o1_law]))]) hP hD [1] [0, 2] rfl rfl (by decide) (by decide) hk1 hFc hP1 hD1
      generalize H1 = H at hP hS ⊢
      have hP : va_P (dC, dI) vwCl [(h0, .inr (11, [.ref h3, .int n0_streetCount, .ref h4, .ref h5, .ref h6, .ref h7, .ref h8, .ref h9, .ref h10, .ref h1, .ref h11, .int n0_lawCount, .ref h12, .ref h13])), (h2, .inl (cint, 120, .inl f2)), (h1, .inr (10, [.ref h2, .int n1_size, .int n1_place, va_rf o1_law]))] H := hP
      have hD : va_D A [(h0, .inr (11, [.ref h3, .int n0_streetCount, .ref h4, .ref h5, .ref h6, .ref h7, .ref h8, .ref h9, .ref h10, .ref h1, .ref h11, .int n0_lawCount, .ref h12, .ref h13])), (h2, .inl (cint, 120, .inl f2)), (h1, .inr (10, [.ref h2, .int n1_size, .int n1_place, va_rf o1_law]))] := hD
      rcases hw with ⟨t_3_0, rfl⟩ | ⟨t_3_0, rfl⟩
      · skip
        have t_3_0 : (120 : Int) < (n1_size + p0).toInt := t_3_0
        refine lv_if_eq (tgt := 35) hx hb dX11_feed_20 (by decide) (fun _ => ?_) (fun c => absurd c (by decide))
        refine lv_bipush (v := (-3)) hx hb dX11_feed_35 (by decide) ?_
        obtain ⟨hP9, hD9⟩ := kk_leafout (wc := [(h0, .inr (11, [.ref h3, .int n0_streetCount, .ref h4, .ref h5, .ref h6, .ref h7, .ref h8, .ref h9, .ref h10, .ref h1, .ref h11, .int n0_lawCount, .ref h12, .ref h13])), (h1, .inr (10, [.ref h2, .int n1_size, .int n1_place, va_rf o1_law])), (h2, .inl (cint, 120, .inl f2))]) hP hD [0, 2, 1] (by decide) rfl
        have hK9 := hK.sub (tys' := []) [] rfl
        exact W.iret (v := (-3)) hx hb hr (fun t ht hW => ⟨⟨(-3), (), rfl, (by show (-3) ≤ ((-3) : Int32).toInt ∧ ((-3) : Int32).toInt ≤ 120; first | decide | (constructor <;> (have := kk_add2 (x := n1_size) (y := p0) (a := n1_size.toInt) (b := p0.toInt) rfl rfl (by omega) (by omega); omega))), n1_size, f2, (by show 0 ≤ (n1_size : Int32).toInt ∧ (n1_size : Int32).toInt ≤ 120; first | decide | (constructor <;> (have := kk_add2 (x := n1_size) (y := p0) (a := n1_size.toInt) (b := p0.toInt) rfl rfl (by omega) (by omega); omega))), bf2, by rw [ht]; exact hP9, va_K.moved hW.alike hK9, hD9⟩, hS.F ht⟩) hS.2.2 dX11_feed_37
      · skip
        have t_3_0 : ((n1_size + p0).toInt : Int) ≤ 120 := t_3_0
        refine lv_if_eq (tgt := 35) hx hb dX11_feed_20 (by decide) (fun c => absurd c (by decide)) (fun _ => ?_)
        refine lv_aload_n hx hb dX11_feed_23 rfl (lv_at hl 0 rfl) ?_
        refine va_get (D := (dC, dI)) (ci := 11) (v := .ref h1) (C := RX11) (T := TX11) (N := 14) hx hb hts (fun _ h => List.mem_cons_of_mem _ (List.mem_append_left _ (List.mem_append_right _ h))) hown hK hP 0 rfl rfl 9 (by decide) (hts (.fieldLink RX11 65 "KinkStreet" "tape" "LKinkStreet$Tape;") (List.mem_of_getElem? (i := 1) rfl)) (fun _ h9 => h9) rfl dX11_feed_24 ?_
        refine lv_iload_n hx hb dX11_feed_27 rfl (lv_at hl 1 rfl) ?_
        refine lv_iload_n hx hb dX11_feed_28 rfl (lv_at hl 2 rfl) ?_
        obtain ⟨hPc, hDc, hFc⟩ := kk_cutout (wc := [(h1, .inr (10, [.ref h2, .int n1_size, .int n1_place, va_rf o1_law])), (h2, .inl (cint, 120, .inl f2))]) hP hD hS hA [2, 1] (by decide) rfl
        have hKc := hK.sub (tys' := [(cint, .int)]) [0] rfl
        refine va_calli (va_runV (As := [.int p0, .int p1]) (rest := []) ⟨hx, hb, hml, hown, hts⟩ (g_X10_take_0 l dC dI h1 h2 cint H.size p0 p1 n1_size n1_place o1_law f2 (by show 0 ≤ (n1_size : Int32).toInt ∧ (n1_size : Int32).toInt ≤ 120; first | decide | (constructor <;> (have := kk_add2 (x := n1_size) (y := p0) (a := n1_size.toInt) (b := p0.toInt) rfl rfl (by omega) (by omega); omega))) bf2) (cwV 2 hts gX11_feed_X10_take rfl rfl rfl (by decide +kernel) ⟨Nat.le_of_ble_eq_true rfl, Nat.le_of_ble_eq_true rfl⟩) ⟨fun a U g mk q => by obtain ⟨q0, q1, qP, qK, qD⟩ := q; exact ⟨q0, q1, qP, va_K.moved (u := U) (U := U.calling g mk a) (Vm.Alike.refl U.vm) qK, qD⟩, va_recv hKc hPc (ci := 10) (q0 := 0) rfl rfl, fun U hU hW => ⟨rfl, by rw [hU], by rw [hU]; exact hPc, va_K.moved hW.alike hKc, hDc.weaken (fun _ _ _ _ => trivial)⟩⟩ rfl rfl hl.1 rfl (lv_room (Nat.le_of_ble_eq_true rfl)) dX11_feed_29 ⟨Nat.le_of_ble_eq_true rfl, Nat.le_of_ble_eq_true rfl⟩) hS (fun q _ h => hFc q h) hFc (fun r_4 u t H1 locs ht hvm hw hB hz1 hk1 hS => ?_)
        obtain ⟨y_5, f_6, by_5, bf_6, hP1, hK1, hD1⟩ := hB
        rw [ht] at hP1
        have hK1 := va_K.moved hvm.symm hK1
        obtain ⟨hP, hD⟩ := va_join (wr := [(h0, .inr (11, [.ref h3, .int n0_streetCount, .ref h4, .ref h5, .ref h6, .ref h7, .ref h8, .ref h9, .ref h10, .ref h1, .ref h11, .int n0_lawCount, .ref h12, .ref h13]))]) (w1 := [(h1, .inr (10, [.ref h2, .int y_5, .int n1_place, va_rf o1_law])), (h2, .inl (cint, 120, .inl f_6))]) hP hD [2, 1] [0] rfl rfl (by decide) (by decide) hk1 hFc hP1 hD1
        generalize H1 = H at hP hS ⊢
        have hP : va_P (dC, dI) vwCl [(h0, .inr (11, [.ref h3, .int n0_streetCount, .ref h4, .ref h5, .ref h6, .ref h7, .ref h8, .ref h9, .ref h10, .ref h1, .ref h11, .int n0_lawCount, .ref h12, .ref h13])), (h1, .inr (10, [.ref h2, .int y_5, .int n1_place, va_rf o1_law])), (h2, .inl (cint, 120, .inl f_6))] H := hP
        have hD : va_D A [(h0, .inr (11, [.ref h3, .int n0_streetCount, .ref h4, .ref h5, .ref h6, .ref h7, .ref h8, .ref h9, .ref h10, .ref h1, .ref h11, .int n0_lawCount, .ref h12, .ref h13])), (h1, .inr (10, [.ref h2, .int y_5, .int n1_place, va_rf o1_law])), (h2, .inl (cint, 120, .inl f_6))] := hD
        have t_4 : 0 ≤ r_4.toInt ∧ r_4.toInt ≤ 120 := hw
        refine lv_goto (tgt := 37) hx hb dX11_feed_32 (by decide) ?_
        obtain ⟨hP9, hD9⟩ := kk_leafout (wc := [(h0, .inr (11, [.ref h3, .int n0_streetCount, .ref h4, .ref h5, .ref h6, .ref h7, .ref h8, .ref h9, .ref h10, .ref h1, .ref h11, .int n0_lawCount, .ref h12, .ref h13])), (h1, .inr (10, [.ref h2, .int y_5, .int n1_place, va_rf o1_law])), (h2, .inl (cint, 120, .inl f_6))]) hP hD [0, 1, 2] (by decide) rfl
        have hK9 := hK.sub (tys' := []) [] rfl
        exact W.iret (v := r_4) hx hb hr (fun t ht hW => ⟨⟨r_4, (), rfl, (by show (-3) ≤ (r_4 : Int32).toInt ∧ (r_4 : Int32).toInt ≤ 120; first | decide | (constructor <;> (have := kk_add2 (x := n1_size) (y := p0) (a := n1_size.toInt) (b := p0.toInt) rfl rfl (by omega) (by omega); omega))), y_5, f_6, (by show 0 ≤ (y_5 : Int32).toInt ∧ (y_5 : Int32).toInt ≤ 120; first | decide | (constructor <;> (have := kk_add2 (x := n1_size) (y := p0) (a := n1_size.toInt) (b := p0.toInt) rfl rfl (by omega) (by omega); omega))), bf_6, by rw [ht]; exact hP9, va_K.moved hW.alike hK9, hD9⟩, hS.F ht⟩) hS.2.2 dX11_feed_37
    · have t_2 : 4 < p0.toInt := kk_nle c_2
      refine lv_iconst (v := (-1)) hx hb dX11_feed_10 (by decide) ?_
      obtain ⟨hP9, hD9⟩ := kk_leafout (wc := [(h0, .inr (11, [.ref h3, .int n0_streetCount, .ref h4, .ref h5, .ref h6, .ref h7, .ref h8, .ref h9, .ref h10, .ref h1, .ref h11, .int n0_lawCount, .ref h12, .ref h13])), (h1, .inr (10, [.ref h2, .int n1_size, .int n1_place, va_rf o1_law])), (h2, .inl (cint, 120, .inl f2))]) hP hD [0, 1, 2] (by decide) rfl
      have hK9 := hK.sub (tys' := []) [] rfl
      exact W.iret (v := (-1)) hx hb hr (fun t ht hW => ⟨⟨(-1), (), rfl, (by show (-3) ≤ ((-1) : Int32).toInt ∧ ((-1) : Int32).toInt ≤ 120; first | decide | (constructor <;> (have := kk_rng p0; omega))), n1_size, f2, (by show 0 ≤ (n1_size : Int32).toInt ∧ (n1_size : Int32).toInt ≤ 120; first | decide | (constructor <;> (have := kk_rng p0; omega))), bf2, by rw [ht]; exact hP9, va_K.moved hW.alike hK9, hD9⟩, hS.F ht⟩) hS.2.2 dX11_feed_11
