set_option maxHeartbeats 4000000 in
set_option maxRecDepth 100000 in
theorem g_X2_seat_0 (l : Launch) (dC : Nat → ClassId) (dI : Nat → Nat → Nat) (h0 : Nat) (h1 : Nat) (h2 : Nat) (h3 : Nat) (h4 : Nat) (h5 : Nat) (h6 : Nat) (h7 : Nat) (h8 : Nat) (h9 : Nat) (cint : ClassId) (sz : Nat) (p0 : Int32) (n0_size : Int32) (n0_names : Int32) (n0_plots : Int32) (n0_ways : Int32) (f1 : Nat → Int32) (tn0_size : 0 ≤ n0_size.toInt ∧ n0_size.toInt ≤ 10) (tn0_names : 0 ≤ n0_names.toInt ∧ n0_names.toInt ≤ 8) (tn0_plots : 0 ≤ n0_plots.toInt ∧ n0_plots.toInt ≤ 40) : Met l yX2_seat wsX2_seat ({ frames := 1, cells := 0, slots := 0, locals := 20 }) (va_Pc [.ref h0, .int p0] (fun U => U.heap.size = sz ∧ va_P (dC, dI) vwCl [(h0, .inr (2, [.ref h2, .ref h3, .ref h4, .int n0_size, .ref h1, .int n0_names, .int n0_plots, .ref h5, .ref h6, .ref h7, .ref h8, .ref h9, .int n0_ways])), (h1, .inl (cint, 8, .inl f1))] U.heap ∧ va_K (dC, dI) vwCl [(cint, .int)] U ∧ va_D (fun _ => True) [(h0, .inr (2, [.ref h2, .ref h3, .ref h4, .int n0_size, .ref h1, .int n0_names, .int n0_plots, .ref h5, .ref h6, .ref h7, .ref h8, .ref h9, .int n0_ways])), (h1, .inl (cint, 8, .inl f1))])) (va_Qi (fun (r : Int32) (_ : Unit) => (0 ≤ r.toInt ∧ r.toInt ≤ 4)) (fun (_ : Unit) t => va_P (dC, dI) vwCl [(h0, .inr (2, [.ref h2, .ref h3, .ref h4, .int n0_size, .ref h1, .int n0_names, .int n0_plots, .ref h5, .ref h6, .ref h7, .ref h8, .ref h9, .int n0_ways])), (h1, .inl (cint, 8, .inl f1))] t.heap ∧ va_K (dC, dI) vwCl [] t ∧ va_D (va_A [(h0, .inr (2, [.ref h2, .ref h3, .ref h4, .int n0_size, .ref h1, .int n0_names, .int n0_plots, .ref h5, .ref h6, .ref h7, .ref h8, .ref h9, .int n0_ways])), (h1, .inl (cint, 8, .inl f1))] sz) [(h0, .inr (2, [.ref h2, .ref h3, .ref h4, .int n0_size, .ref h1, .int n0_names, .int n0_plots, .ref h5, .ref h6, .ref h7, .ref h8, .ref h9, .int n0_ways])), (h1, .inl (cint, 8, .inl f1))]) (va_A [(h0, .inr (2, [.ref h2, .ref h3, .ref h4, .int n0_size, .ref h1, .int n0_names, .int n0_plots, .ref h5, .ref h6, .ref h7, .ref h8, .ref h9, .int n0_ways])), (h1, .inl (cint, 8, .inl f1))] sz)) 0 0 (va_A [(h0, .inr (2, [.ref h2, .ref h3, .ref h4, .int n0_size, .ref h1, .int n0_names, .int n0_plots, .ref h5, .ref h6, .ref h7, .ref h8, .ref h9, .int n0_ways])), (h1, .inl (cint, 8, .inl f1))] sz) := by
  refine Met.ofW (cc := cX2_seat) (maxL := 3) (ret := (some .int)) (by decide) rfl ?_
  intro p e s m args below meth c s₁ B hml hv
  obtain ⟨rfl, hsz, hP, hK, hD0⟩ := hv
  have hx := B.exec
  have hb := B.bytes
  have hr := B.returns
  have hts := atoms_spec (ws := wsX2_seat) B.pre
  have hown : s.vm.findClass RX2 = some m.cls := findClass_of_methodNamed B.named
  have hlocks := B.notSynchronized
  subst hsz
  have hD := hD0.self (sz := s.heap.size)
  generalize hAe : va_A [(h0, .inr (2, [.ref h2, .ref h3, .ref h4, .int n0_size, .ref h1, .int n0_names, .int n0_plots, .ref h5, .ref h6, .ref h7, .ref h8, .ref h9, .int n0_ways])), (h1, .inl (cint, 8, .inl f1))] s.heap.size = A at hD ⊢
  have hA : ∀ q : Nat, s.heap.size ≤ q → A q := fun q h => by rw [← hAe]; exact Or.inr h
  have hS : va_S A s.heap s.heap [] := va_S.rf
  have hP : va_P (dC, dI) vwCl [(h0, .inr (2, [.ref h2, .ref h3, .ref h4, .int n0_size, .ref h1, .int n0_names, .int n0_plots, .ref h5, .ref h6, .ref h7, .ref h8, .ref h9, .int n0_ways])), (h1, .inl (cint, 8, .inl f1))] s.heap := hP
  have hl := lv_entry ([.ref h0, .int p0]) (n := 3) (Nat.le_of_ble_eq_true rfl)
  rw [lg_entry_eq]
  generalize (lg_sl ([.ref h0, .int p0]) ++ List.replicate (3 - (lg_sl ([.ref h0, .int p0])).length) Slot.unset).toArray = ls at hl ⊢
  have hl : lv_has ls 3 [(0, .ref h0), (1, .int p0)] := hl
  refine lv_iload_n hx hb dX2_seat_0 rfl (lv_at hl 1 rfl) ?_
  obtain ⟨hPc, hDc, hFc⟩ := kk_cutout (wc := []) hP hD hS hA [] (by decide) rfl
  have hKc := hK.sub (tys' := []) [] rfl
  refine va_calli (va_runS (As := [.int p0]) (rest := []) ⟨hx, hb, hml, hown, hts⟩ (g_X2_isName_0 l dC dI s.heap.size p0) (va_cwS 1 hts gX2_seat_X2_isName rfl rfl rfl (by decide +kernel) ⟨Nat.le_of_ble_eq_true rfl, Nat.le_of_ble_eq_true rfl⟩) ⟨fun a U g mk q => by obtain ⟨q0, q1, qP, qK, qD⟩ := q; exact ⟨q0, q1, qP, va_K.moved (u := U) (U := U.calling g mk a) (Vm.Alike.refl U.vm) qK, qD⟩, fun U hU hW => ⟨rfl, by rw [hU], by rw [hU]; exact hPc, va_K.moved hW.alike hKc, hDc.weaken (fun _ _ _ _ => trivial)⟩⟩ rfl rfl hl.1 rfl (lv_room (Nat.le_of_ble_eq_true rfl)) dX2_seat_1 ⟨Nat.le_of_ble_eq_true rfl, Nat.le_of_ble_eq_true rfl⟩) hS (fun q _ h => hFc q h) hFc (fun r_1 u t H1 locs ht hvm hw hB hz1 hk1 hS => ?_)
  obtain ⟨hP1, hK1, hD1⟩ := hB
  rw [ht] at hP1
  have hK1 := va_K.moved hvm.symm hK1
  obtain ⟨hP, hD⟩ := va_join (wr := [(h0, .inr (2, [.ref h2, .ref h3, .ref h4, .int n0_size, .ref h1, .int n0_names, .int n0_plots, .ref h5, .ref h6, .ref h7, .ref h8, .ref h9, .int n0_ways])), (h1, .inl (cint, 8, .inl f1))]) (w1 := []) hP hD [] [0, 1] rfl rfl (by decide) (by decide) hk1 hFc hP1 hD1
  generalize H1 = H at hP hS ⊢
  have hP : va_P (dC, dI) vwCl [(h0, .inr (2, [.ref h2, .ref h3, .ref h4, .int n0_size, .ref h1, .int n0_names, .int n0_plots, .ref h5, .ref h6, .ref h7, .ref h8, .ref h9, .int n0_ways])), (h1, .inl (cint, 8, .inl f1))] H := hP
  have hD : va_D A [(h0, .inr (2, [.ref h2, .ref h3, .ref h4, .int n0_size, .ref h1, .int n0_names, .int n0_plots, .ref h5, .ref h6, .ref h7, .ref h8, .ref h9, .int n0_ways])), (h1, .inl (cint, 8, .inl f1))] := hD
  rcases hw with ⟨rfl⟩ | ⟨t_1_0, t_1_1, rfl⟩
  · skip
    refine lv_if_eq (tgt := 16) hx hb dX2_seat_4 (by decide) (fun _ => ?_) (fun c => absurd c (by decide))
    refine lv_iconst (v := 0) hx hb dX2_seat_16 (by decide) ?_
    refine lv_istore_n (lv' := [(2, .int 0), (0, .ref h0), (1, .int p0)]) hx hb dX2_seat_17 rfl hl (by decide) rfl (fun ls hl => ?_)
    refine lv_iload_n hx hb dX2_seat_18 rfl (lv_at hl 0 rfl) ?_
    refine lv_if_lt (tgt := 31) hx hb dX2_seat_19 (by decide) (fun c => absurd c (by decide)) (fun _ => ?_)
    refine lv_iload_n hx hb dX2_seat_22 rfl (lv_at hl 0 rfl) ?_
    refine lv_iconst (v := 5) hx hb dX2_seat_23 (by decide) ?_
    refine lv_icmp_ge (tgt := 31) hx hb dX2_seat_24 (by decide) (fun c => absurd c (by decide)) (fun _ => ?_)
    refine lv_iload_n hx hb dX2_seat_27 rfl (lv_at hl 0 rfl) ?_
    refine lv_goto (tgt := 32) hx hb dX2_seat_28 (by decide) ?_
    obtain ⟨hP9, hD9⟩ := kk_leafout (wc := [(h0, .inr (2, [.ref h2, .ref h3, .ref h4, .int n0_size, .ref h1, .int n0_names, .int n0_plots, .ref h5, .ref h6, .ref h7, .ref h8, .ref h9, .int n0_ways])), (h1, .inl (cint, 8, .inl f1))]) hP hD [0, 1] (by decide) rfl
    have hK9 := hK.sub (tys' := []) [] rfl
    exact W.iret (v := 0) hx hb hr (fun t ht hW => ⟨⟨0, (), rfl, (by show 0 ≤ (0 : Int32).toInt ∧ (0 : Int32).toInt ≤ 4; first | decide | (constructor <;> (omega))), by rw [ht]; exact hP9, va_K.moved hW.alike hK9, hD9⟩, hS.F ht⟩) hS.2.2 dX2_seat_32
  · skip
    have t_1_0 : (0 : Int) ≤ p0.toInt := t_1_0
    have t_1_1 : (p0.toInt : Int) < 8 := t_1_1
    refine lv_if_eq (tgt := 16) hx hb dX2_seat_4 (by decide) (fun c => absurd c (by decide)) (fun _ => ?_)
    refine lv_aload_n hx hb dX2_seat_7 rfl (lv_at hl 0 rfl) ?_
    refine va_get (D := (dC, dI)) (ci := 2) (v := .ref h1) (C := RX2) (T := TX2) (N := 13) hx hb hts (fun _ h => List.mem_cons_of_mem _ (List.mem_append_right _ h)) hown hK hP 0 rfl rfl 4 (by decide) (hts (.fieldLink RX2 21 "KinkStreet$Deeds" "seats" "[I") (List.mem_of_getElem? (i := 1) rfl)) (fun _ h9 => h9) rfl dX2_seat_8 ?_
    refine lv_iload_n hx hb dX2_seat_11 rfl (lv_at hl 1 rfl) ?_
    have hi_2 : vp_in p0 8 := (vp_in_iff.mpr ⟨by omega, by omega⟩)
    refine va_iald hx hb hK hP 1 0 rfl rfl hi_2 dX2_seat_12 ?_
    refine lv_topi (fun y_2 e_2 => ?_)
    clear e_2
    refine lv_goto (tgt := 17) hx hb dX2_seat_13 (by decide) ?_
    refine lv_istore_n (lv' := [(2, .int y_2), (0, .ref h0), (1, .int p0)]) hx hb dX2_seat_17 rfl hl (by decide) rfl (fun ls hl => ?_)
    refine lv_iload_n hx hb dX2_seat_18 rfl (lv_at hl 0 rfl) ?_
    refine lv_if_lt (tgt := 31) hx hb dX2_seat_19 (by decide) (fun c_3 => ?_) (fun c_3 => ?_)
    · have t_3 : y_2.toInt < 0 := kk_lt c_3
      refine lv_iconst (v := 0) hx hb dX2_seat_31 (by decide) ?_
      obtain ⟨hP9, hD9⟩ := kk_leafout (wc := [(h0, .inr (2, [.ref h2, .ref h3, .ref h4, .int n0_size, .ref h1, .int n0_names, .int n0_plots, .ref h5, .ref h6, .ref h7, .ref h8, .ref h9, .int n0_ways])), (h1, .inl (cint, 8, .inl f1))]) hP hD [0, 1] (by decide) rfl
      have hK9 := hK.sub (tys' := []) [] rfl
      exact W.iret (v := 0) hx hb hr (fun t ht hW => ⟨⟨0, (), rfl, (by show 0 ≤ (0 : Int32).toInt ∧ (0 : Int32).toInt ≤ 4; first | decide | (constructor <;> (have := kk_rng y_2; omega))), by rw [ht]; exact hP9, va_K.moved hW.alike hK9, hD9⟩, hS.F ht⟩) hS.2.2 dX2_seat_32
    · have t_3 : 0 ≤ y_2.toInt := kk_nlt c_3
      refine lv_iload_n hx hb dX2_seat_22 rfl (lv_at hl 0 rfl) ?_
      refine lv_iconst (v := 5) hx hb dX2_seat_23 (by decide) ?_
      refine lv_icmp_ge (tgt := 31) hx hb dX2_seat_24 (by decide) (fun c_4 => ?_) (fun c_4 => ?_)
      · have t_4 : 5 ≤ y_2.toInt := kk_le c_4
        refine lv_iconst (v := 0) hx hb dX2_seat_31 (by decide) ?_
        obtain ⟨hP9, hD9⟩ := kk_leafout (wc := [(h0, .inr (2, [.ref h2, .ref h3, .ref h4, .int n0_size, .ref h1, .int n0_names, .int n0_plots, .ref h5, .ref h6, .ref h7, .ref h8, .ref h9, .int n0_ways])), (h1, .inl (cint, 8, .inl f1))]) hP hD [0, 1] (by decide) rfl
        have hK9 := hK.sub (tys' := []) [] rfl
        exact W.iret (v := 0) hx hb hr (fun t ht hW => ⟨⟨0, (), rfl, (by show 0 ≤ (0 : Int32).toInt ∧ (0 : Int32).toInt ≤ 4; first | decide | (constructor <;> (have := kk_rng y_2; omega))), by rw [ht]; exact hP9, va_K.moved hW.alike hK9, hD9⟩, hS.F ht⟩) hS.2.2 dX2_seat_32
      · have t_4 : y_2.toInt < 5 := kk_nle c_4
        refine lv_iload_n hx hb dX2_seat_27 rfl (lv_at hl 0 rfl) ?_
        refine lv_goto (tgt := 32) hx hb dX2_seat_28 (by decide) ?_
        obtain ⟨hP9, hD9⟩ := kk_leafout (wc := [(h0, .inr (2, [.ref h2, .ref h3, .ref h4, .int n0_size, .ref h1, .int n0_names, .int n0_plots, .ref h5, .ref h6, .ref h7, .ref h8, .ref h9, .int n0_ways])), (h1, .inl (cint, 8, .inl f1))]) hP hD [0, 1] (by decide) rfl
        have hK9 := hK.sub (tys' := []) [] rfl
        exact W.iret (v := y_2) hx hb hr (fun t ht hW => ⟨⟨y_2, (), rfl, (by show 0 ≤ (y_2 : Int32).toInt ∧ (y_2 : Int32).toInt ≤ 4; first | decide | (constructor <;> (omega))), by rw [ht]; exact hP9, va_K.moved hW.alike hK9, hD9⟩, hS.F ht⟩) hS.2.2 dX2_seat_32
set_option maxHeartbeats 4000000 in
set_option maxRecDepth 100000 in
theorem g_X2_keepDistance_0 (l : Launch) (dC : Nat → ClassId) (dI : Nat → Nat → Nat) (h0 : Nat) (h1 : Nat) (h2 : Nat) (h3 : Nat) (h4 : Nat → Nat) (h5 : Nat → Nat) (h6 : Nat) (h7 : Nat) (h8 : Nat) (h9 : Nat) (h10 : Nat) (h11 : Nat) (cint cAlong clong : ClassId) (sz : Nat) (p0 : Int32) (p1 : Int32) (p2 : Int32) (p3 : Int32) (tp0 : 0 ≤ p0.toInt ∧ p0.toInt ≤ 4) (tp1 : 0 ≤ p1.toInt ∧ p1.toInt ≤ 4) (n0_size : Int32) (n0_names : Int32) (n0_plots : Int32) (n0_ways : Int32) (f1 : Nat → Int32) (F4 : Nat → Nat → Int64) (F5 : Nat → Nat → Int64) (tn0_size : 0 ≤ n0_size.toInt ∧ n0_size.toInt ≤ 10) (tn0_names : 0 ≤ n0_names.toInt ∧ n0_names.toInt ≤ 8) (tn0_plots : 0 ≤ n0_plots.toInt ∧ n0_plots.toInt ≤ 40) : Met l yX2_keepDistance wsX2_keepDistance ({ frames := 1, cells := 0, slots := 0, locals := 21 }) (va_Pc [.ref h0, .int p0, .int p1, .int p2, .int p3] (fun U => U.heap.size = sz ∧ va_P (dC, dI) vwCl (([(h0, .inr (2, [.ref h6, .ref h7, .ref h8, .int n0_size, .ref h9, .int n0_names, .int n0_plots, .ref h1, .ref h2, .ref h3, .ref h10, .ref h11, .int n0_ways])), (h1, .inl (cint, 40, .inl f1)), (h2, .inl (cAlong, 25, .inr (.inr (.inr (.inr (fun j => some (h4 j))))))), (h3, .inl (cAlong, 5, .inr (.inr (.inr (.inr (fun j => some (h5 j)))))))] : va_W) ++ (kk_rowsL h4 clong 40 F4 25 ++ (kk_rowsL h5 clong 5 F5 5))) U.heap ∧ va_K (dC, dI) vwCl [(cint, .int), (cAlong, .array .long), (clong, .long)] U ∧ va_D (fun _ => True) (([(h0, .inr (2, [.ref h6, .ref h7, .ref h8, .int n0_size, .ref h9, .int n0_names, .int n0_plots, .ref h1, .ref h2, .ref h3, .ref h10, .ref h11, .int n0_ways])), (h1, .inl (cint, 40, .inl f1)), (h2, .inl (cAlong, 25, .inr (.inr (.inr (.inr (fun j => some (h4 j))))))), (h3, .inl (cAlong, 5, .inr (.inr (.inr (.inr (fun j => some (h5 j)))))))] : va_W) ++ (kk_rowsL h4 clong 40 F4 25 ++ (kk_rowsL h5 clong 5 F5 5))))) (va_Qv (fun (_ : Unit) => True) (fun (_ : Unit) t => ∃ (g4 : Nat → Nat → Int64), va_P (dC, dI) vwCl (([(h0, .inr (2, [.ref h6, .ref h7, .ref h8, .int n0_size, .ref h9, .int n0_names, .int n0_plots, .ref h1, .ref h2, .ref h3, .ref h10, .ref h11, .int n0_ways])), (h1, .inl (cint, 40, .inl f1)), (h2, .inl (cAlong, 25, .inr (.inr (.inr (.inr (fun j => some (h4 j))))))), (h3, .inl (cAlong, 5, .inr (.inr (.inr (.inr (fun j => some (h5 j)))))))] : va_W) ++ (kk_rowsL h4 clong 40 g4 25 ++ (kk_rowsL h5 clong 5 F5 5))) t.heap ∧ va_K (dC, dI) vwCl [] t ∧ va_D (va_A (([(h0, .inr (2, [.ref h6, .ref h7, .ref h8, .int n0_size, .ref h9, .int n0_names, .int n0_plots, .ref h1, .ref h2, .ref h3, .ref h10, .ref h11, .int n0_ways])), (h1, .inl (cint, 40, .inl f1)), (h2, .inl (cAlong, 25, .inr (.inr (.inr (.inr (fun j => some (h4 j))))))), (h3, .inl (cAlong, 5, .inr (.inr (.inr (.inr (fun j => some (h5 j)))))))] : va_W) ++ (kk_rowsL h4 clong 40 F4 25 ++ (kk_rowsL h5 clong 5 F5 5))) sz) (([(h0, .inr (2, [.ref h6, .ref h7, .ref h8, .int n0_size, .ref h9, .int n0_names, .int n0_plots, .ref h1, .ref h2, .ref h3, .ref h10, .ref h11, .int n0_ways])), (h1, .inl (cint, 40, .inl f1)), (h2, .inl (cAlong, 25, .inr (.inr (.inr (.inr (fun j => some (h4 j))))))), (h3, .inl (cAlong, 5, .inr (.inr (.inr (.inr (fun j => some (h5 j)))))))] : va_W) ++ (kk_rowsL h4 clong 40 g4 25 ++ (kk_rowsL h5 clong 5 F5 5)))) (va_A (([(h0, .inr (2, [.ref h6, .ref h7, .ref h8, .int n0_size, .ref h9, .int n0_names, .int n0_plots, .ref h1, .ref h2, .ref h3, .ref h10, .ref h11, .int n0_ways])), (h1, .inl (cint, 40, .inl f1)), (h2, .inl (cAlong, 25, .inr (.inr (.inr (.inr (fun j => some (h4 j))))))), (h3, .inl (cAlong, 5, .inr (.inr (.inr (.inr (fun j => some (h5 j)))))))] : va_W) ++ (kk_rowsL h4 clong 40 F4 25 ++ (kk_rowsL h5 clong 5 F5 5))) sz)) 0 0 (va_A (([(h0, .inr (2, [.ref h6, .ref h7, .ref h8, .int n0_size, .ref h9, .int n0_names, .int n0_plots, .ref h1, .ref h2, .ref h3, .ref h10, .ref h11, .int n0_ways])), (h1, .inl (cint, 40, .inl f1)), (h2, .inl (cAlong, 25, .inr (.inr (.inr (.inr (fun j => some (h4 j))))))), (h3, .inl (cAlong, 5, .inr (.inr (.inr (.inr (fun j => some (h5 j)))))))] : va_W) ++ (kk_rowsL h4 clong 40 F4 25 ++ (kk_rowsL h5 clong 5 F5 5))) sz) := by
  refine Met.ofW (cc := cX2_keepDistance) (maxL := 9) (ret := none) (by decide) rfl ?_
  intro p e s m args below meth c s₁ B hml hv
  obtain ⟨rfl, hsz, hP, hK, hD0⟩ := hv
  have hx := B.exec
  have hb := B.bytes
  have hr := B.returns
  have hts := atoms_spec (ws := wsX2_keepDistance) B.pre
  have hown : s.vm.findClass RX2 = some m.cls := findClass_of_methodNamed B.named
  have hlocks := B.notSynchronized
  subst hsz
  have hD := hD0.self (sz := s.heap.size)
  generalize hAe : va_A (([(h0, .inr (2, [.ref h6, .ref h7, .ref h8, .int n0_size, .ref h9, .int n0_names, .int n0_plots, .ref h1, .ref h2, .ref h3, .ref h10, .ref h11, .int n0_ways])), (h1, .inl (cint, 40, .inl f1)), (h2, .inl (cAlong, 25, .inr (.inr (.inr (.inr (fun j => some (h4 j))))))), (h3, .inl (cAlong, 5, .inr (.inr (.inr (.inr (fun j => some (h5 j)))))))] : va_W) ++ (kk_rowsL h4 clong 40 F4 25 ++ (kk_rowsL h5 clong 5 F5 5))) s.heap.size = A at hD ⊢
  have hA : ∀ q : Nat, s.heap.size ≤ q → A q := fun q h => by rw [← hAe]; exact Or.inr h
  have hS : va_S A s.heap s.heap [] := va_S.rf
  have hP : va_P (dC, dI) vwCl (([(h0, .inr (2, [.ref h6, .ref h7, .ref h8, .int n0_size, .ref h9, .int n0_names, .int n0_plots, .ref h1, .ref h2, .ref h3, .ref h10, .ref h11, .int n0_ways])), (h1, .inl (cint, 40, .inl f1)), (h2, .inl (cAlong, 25, .inr (.inr (.inr (.inr (fun j => some (h4 j))))))), (h3, .inl (cAlong, 5, .inr (.inr (.inr (.inr (fun j => some (h5 j)))))))] : va_W) ++ (kk_rowsL h4 clong 40 F4 25 ++ (kk_rowsL h5 clong 5 F5 5))) s.heap := hP
  have hl := lv_entry ([.ref h0, .int p0, .int p1, .int p2, .int p3]) (n := 9) (Nat.le_of_ble_eq_true rfl)
  rw [lg_entry_eq]
  generalize (lg_sl ([.ref h0, .int p0, .int p1, .int p2, .int p3]) ++ List.replicate (9 - (lg_sl ([.ref h0, .int p0, .int p1, .int p2, .int p3])).length) Slot.unset).toArray = ls at hl ⊢
  have hl : lv_has ls 9 [(0, .ref h0), (1, .int p0), (2, .int p1), (3, .int p2), (4, .int p3)] := hl
  refine lv_aload_n hx hb dX2_keepDistance_0 rfl (lv_at hl 0 rfl) ?_
  refine va_get (D := (dC, dI)) (ci := 2) (v := .ref h2) (C := RX2) (T := TX2) (N := 13) hx hb hts (fun _ h => List.mem_cons_of_mem _ (List.mem_append_right _ h)) hown hK hP 0 rfl rfl 8 (by decide) (hts (.fieldLink RX2 29 "KinkStreet$Deeds" "fits" "[[J") (List.mem_of_getElem? (i := 1) rfl)) (fun _ h9 => h9) rfl dX2_keepDistance_1 ?_
  refine lv_iload_n hx hb dX2_keepDistance_4 rfl (lv_at hl 1 rfl) ?_
  refine lv_iconst (v := 5) hx hb dX2_keepDistance_5 (by decide) ?_
  refine lv_imul hx hb dX2_keepDistance_6 ?_
  refine lv_iload_n hx hb dX2_keepDistance_7 rfl (lv_at hl 2 rfl) ?_
  refine lv_iadd hx hb dX2_keepDistance_8 ?_
  have hi_1 : vp_in (((p0 * 5) + p1) : Int32) 25 := (vp_in_iff.mpr ⟨by have := kk_mul2 (x := p0) (y := 5) (a := p0.toInt) (b := 5) rfl rfl (by omega) (by omega); have := kk_add2 (x := (p0 * 5)) (y := p1) (a := (p0 * 5).toInt) (b := p1.toInt) rfl rfl (by omega) (by omega); omega, by have := kk_mul2 (x := p0) (y := 5) (a := p0.toInt) (b := 5) rfl rfl (by omega) (by omega); have := kk_add2 (x := (p0 * 5)) (y := p1) (a := (p0 * 5).toInt) (b := p1.toInt) rfl rfl (by omega) (by omega); omega⟩)
  have hk_1 : (((p0 * 5) + p1) : Int32).toNatClampNeg < 25 := Nat.not_le.mp fun q => hi_1 (Or.inr q)
  refine kk_aald hx hb hK hP 2 1 rfl rfl hi_1 dX2_keepDistance_9 ?_
  refine W.eq (g2 := F0 m 10 ls [.ref (h4 (((p0 * 5) + p1) : Int32).toNatClampNeg)]) rfl ?_
  refine lv_astore (lv' := [(5, .ref (h4 (((p0 * 5) + p1) : Int32).toNatClampNeg)), (0, .ref h0), (1, .int p0), (2, .int p1), (3, .int p2), (4, .int p3)]) hx hb dX2_keepDistance_10 hl (by decide) rfl (fun ls hl => ?_)
  refine lv_aload_n hx hb dX2_keepDistance_12 rfl (lv_at hl 1 rfl) ?_
  refine va_get (D := (dC, dI)) (ci := 2) (v := .ref h2) (C := RX2) (T := TX2) (N := 13) hx hb hts (fun _ h => List.mem_cons_of_mem _ (List.mem_append_right _ h)) hown hK hP 0 rfl rfl 8 (by decide) (hts (.fieldLink RX2 29 "KinkStreet$Deeds" "fits" "[[J") (List.mem_of_getElem? (i := 1) rfl)) (fun _ h9 => h9) rfl dX2_keepDistance_13 ?_
  refine lv_iload_n hx hb dX2_keepDistance_16 rfl (lv_at hl 3 rfl) ?_
  refine lv_iconst (v := 5) hx hb dX2_keepDistance_17 (by decide) ?_
  refine lv_imul hx hb dX2_keepDistance_18 ?_
  refine lv_iload_n hx hb dX2_keepDistance_19 rfl (lv_at hl 2 rfl) ?_
  refine lv_iadd hx hb dX2_keepDistance_20 ?_
  have hi_2 : vp_in (((p1 * 5) + p0) : Int32) 25 := (vp_in_iff.mpr ⟨by have := kk_mul2 (x := p0) (y := 5) (a := p0.toInt) (b := 5) rfl rfl (by omega) (by omega); have := kk_add2 (x := (p0 * 5)) (y := p1) (a := (p0 * 5).toInt) (b := p1.toInt) rfl rfl (by omega) (by omega); have := kk_mul2 (x := p1) (y := 5) (a := p1.toInt) (b := 5) rfl rfl (by omega) (by omega); have := kk_add2 (x := (p1 * 5)) (y := p0) (a := (p1 * 5).toInt) (b := p0.toInt) rfl rfl (by omega) (by omega); omega, by have := kk_mul2 (x := p0) (y := 5) (a := p0.toInt) (b := 5) rfl rfl (by omega) (by omega); have := kk_add2 (x := (p0 * 5)) (y := p1) (a := (p0 * 5).toInt) (b := p1.toInt) rfl rfl (by omega) (by omega); have := kk_mul2 (x := p1) (y := 5) (a := p1.toInt) (b := 5) rfl rfl (by omega) (by omega); have := kk_add2 (x := (p1 * 5)) (y := p0) (a := (p1 * 5).toInt) (b := p0.toInt) rfl rfl (by omega) (by omega); omega⟩)
  have hk_2 : (((p1 * 5) + p0) : Int32).toNatClampNeg < 25 := Nat.not_le.mp fun q => hi_2 (Or.inr q)
  refine kk_aald hx hb hK hP 2 1 rfl rfl hi_2 dX2_keepDistance_21 ?_
  refine W.eq (g2 := F0 m 22 ls [.ref (h4 (((p1 * 5) + p0) : Int32).toNatClampNeg)]) rfl ?_
  refine lv_astore (lv' := [(6, .ref (h4 (((p1 * 5) + p0) : Int32).toNatClampNeg)), (5, .ref (h4 (((p0 * 5) + p1) : Int32).toNatClampNeg)), (0, .ref h0), (1, .int p0), (2, .int p1), (3, .int p2), (4, .int p3)]) hx hb dX2_keepDistance_22 hl (by decide) rfl (fun ls hl => ?_)
  refine lv_iconst (v := 0) hx hb dX2_keepDistance_24 (by decide) ?_
  refine lv_istore (lv' := [(7, .int 0), (6, .ref (h4 (((p1 * 5) + p0) : Int32).toNatClampNeg)), (5, .ref (h4 (((p0 * 5) + p1) : Int32).toNatClampNeg)), (0, .ref h0), (1, .int p0), (2, .int p1), (3, .int p2), (4, .int p3)]) hx hb dX2_keepDistance_25 hl (by decide) rfl (fun ls hl => ?_)
  refine kk_loop (σ := Int32 × (Nat → Nat → Int64)) (fun x H locs ls => (0 ≤ x.1.toInt ∧ x.1.toInt ≤ 40) ∧ va_P (dC, dI) vwCl (([(h0, .inr (2, [.ref h6, .ref h7, .ref h8, .int n0_size, .ref h9, .int n0_names, .int n0_plots, .ref h1, .ref h2, .ref h3, .ref h10, .ref h11, .int n0_ways])), (h1, .inl (cint, 40, .inl f1)), (h2, .inl (cAlong, 25, .inr (.inr (.inr (.inr (fun j => some (h4 j))))))), (h3, .inl (cAlong, 5, .inr (.inr (.inr (.inr (fun j => some (h5 j)))))))] : va_W) ++ (kk_rowsL h4 clong 40 x.2 25 ++ (kk_rowsL h5 clong 5 F5 5))) H ∧ va_D A (([(h0, .inr (2, [.ref h6, .ref h7, .ref h8, .int n0_size, .ref h9, .int n0_names, .int n0_plots, .ref h1, .ref h2, .ref h3, .ref h10, .ref h11, .int n0_ways])), (h1, .inl (cint, 40, .inl f1)), (h2, .inl (cAlong, 25, .inr (.inr (.inr (.inr (fun j => some (h4 j))))))), (h3, .inl (cAlong, 5, .inr (.inr (.inr (.inr (fun j => some (h5 j)))))))] : va_W) ++ (kk_rowsL h4 clong 40 x.2 25 ++ (kk_rowsL h5 clong 5 F5 5))) ∧ va_S A s.heap H locs ∧ lv_has ls 9 [(7, .int x.1), (6, .ref (h4 (((p1 * 5) + p0) : Int32).toNatClampNeg)), (5, .ref (h4 (((p0 * 5) + p1) : Int32).toNatClampNeg)), (0, .ref h0), (1, .int p0), (2, .int p1), (3, .int p2), (4, .int p3)]) (fun x => ((40 : Int) - x.1.toInt).toNat) ?_ (0, F4) _ _ _ ⟨(by show 0 ≤ (0 : Int32).toInt ∧ (0 : Int32).toInt ≤ 40; first | decide | (constructor <;> (have := kk_mul2 (x := p0) (y := 5) (a := p0.toInt) (b := 5) rfl rfl (by omega) (by omega); have := kk_add2 (x := (p0 * 5)) (y := p1) (a := (p0 * 5).toInt) (b := p1.toInt) rfl rfl (by omega) (by omega); have := kk_mul2 (x := p1) (y := 5) (a := p1.toInt) (b := 5) rfl rfl (by omega) (by omega); have := kk_add2 (x := (p1 * 5)) (y := p0) (a := (p1 * 5).toInt) (b := p0.toInt) rfl rfl (by omega) (by omega); omega))), hP, hD, hS, hl⟩
  rintro ⟨i_3_0, f_3_1⟩ H locs ls ⟨t_3_0, hP, hD, hS, hl⟩ ih_3
  have t_3_0 : (0 ≤ i_3_0.toInt ∧ i_3_0.toInt ≤ 40) := t_3_0
  have hl : lv_has ls 9 [(7, .int i_3_0), (6, .ref (h4 (((p1 * 5) + p0) : Int32).toNatClampNeg)), (5, .ref (h4 (((p0 * 5) + p1) : Int32).toNatClampNeg)), (0, .ref h0), (1, .int p0), (2, .int p1), (3, .int p2), (4, .int p3)] := hl
  have hP : va_P (dC, dI) vwCl (([(h0, .inr (2, [.ref h6, .ref h7, .ref h8, .int n0_size, .ref h9, .int n0_names, .int n0_plots, .ref h1, .ref h2, .ref h3, .ref h10, .ref h11, .int n0_ways])), (h1, .inl (cint, 40, .inl f1)), (h2, .inl (cAlong, 25, .inr (.inr (.inr (.inr (fun j => some (h4 j))))))), (h3, .inl (cAlong, 5, .inr (.inr (.inr (.inr (fun j => some (h5 j)))))))] : va_W) ++ (kk_rowsL h4 clong 40 f_3_1 25 ++ (kk_rowsL h5 clong 5 F5 5))) H := hP
  have hD : va_D A (([(h0, .inr (2, [.ref h6, .ref h7, .ref h8, .int n0_size, .ref h9, .int n0_names, .int n0_plots, .ref h1, .ref h2, .ref h3, .ref h10, .ref h11, .int n0_ways])), (h1, .inl (cint, 40, .inl f1)), (h2, .inl (cAlong, 25, .inr (.inr (.inr (.inr (fun j => some (h4 j))))))), (h3, .inl (cAlong, 5, .inr (.inr (.inr (.inr (fun j => some (h5 j)))))))] : va_W) ++ (kk_rowsL h4 clong 40 f_3_1 25 ++ (kk_rowsL h5 clong 5 F5 5))) := hD
  refine lv_iload hx hb dX2_keepDistance_27 (lv_at hl 0 rfl) ?_
  refine lv_aload_n hx hb dX2_keepDistance_29 rfl (lv_at hl 3 rfl) ?_
  refine va_get (D := (dC, dI)) (ci := 2) (v := .int n0_plots) (C := RX2) (T := TX2) (N := 13) hx hb hts (fun _ h => List.mem_cons_of_mem _ (List.mem_append_right _ h)) hown hK hP 0 rfl rfl 6 (by decide) (hts (.fieldLink RX2 67 "KinkStreet$Deeds" "plots" "I") (List.mem_of_getElem? (i := 2) rfl)) (fun _ h9 => h9) rfl dX2_keepDistance_30 ?_
  refine lv_icmp_ge (tgt := 117) hx hb dX2_keepDistance_33 (by decide) (fun c_4 => ?_) (fun c_4 => ?_)
  · have t_4 : n0_plots.toInt ≤ i_3_0.toInt := kk_le c_4
    have hP9 := hP.part (cx := [(h0, .inr (2, [.ref h6, .ref h7, .ref h8, .int n0_size, .ref h9, .int n0_names, .int n0_plots, .ref h1, .ref h2, .ref h3, .ref h10, .ref h11, .int n0_ways])), (h1, .inl (cint, 40, .inl f1)), (h2, .inl (cAlong, 25, .inr (.inr (.inr (.inr (fun j => some (h4 j))))))), (h3, .inl (cAlong, 5, .inr (.inr (.inr (.inr (fun j => some (h5 j)))))))]) [0, 1, 2, 3] rfl
    have hD9 := hD.part (cx := [(h0, .inr (2, [.ref h6, .ref h7, .ref h8, .int n0_size, .ref h9, .int n0_names, .int n0_plots, .ref h1, .ref h2, .ref h3, .ref h10, .ref h11, .int n0_ways])), (h1, .inl (cint, 40, .inl f1)), (h2, .inl (cAlong, 25, .inr (.inr (.inr (.inr (fun j => some (h4 j))))))), (h3, .inl (cAlong, 5, .inr (.inr (.inr (.inr (fun j => some (h5 j)))))))]) [0, 1, 2, 3] (by decide) rfl
    have hK9 := hK.sub (tys' := []) [] rfl
    exact W.vret hx hb hr (fun t ht hW => ⟨⟨(), rfl, trivial, f_3_1, by rw [ht]; exact hP9, va_K.moved hW.alike hK9, hD9⟩, hS.F ht⟩) hS.2.2 dX2_keepDistance_117
  · have t_4 : i_3_0.toInt < n0_plots.toInt := kk_nle c_4
    refine lv_iconst (v := 0) hx hb dX2_keepDistance_36 (by decide) ?_
    refine lv_istore (lv' := [(8, .int 0), (7, .int i_3_0), (6, .ref (h4 (((p1 * 5) + p0) : Int32).toNatClampNeg)), (5, .ref (h4 (((p0 * 5) + p1) : Int32).toNatClampNeg)), (0, .ref h0), (1, .int p0), (2, .int p1), (3, .int p2), (4, .int p3)]) hx hb dX2_keepDistance_37 hl (by decide) rfl (fun ls hl => ?_)
    refine kk_loop (σ := Int32 × (Nat → Nat → Int64)) (fun x H locs ls => (0 ≤ x.1.toInt ∧ x.1.toInt ≤ 40) ∧ va_P (dC, dI) vwCl (([(h0, .inr (2, [.ref h6, .ref h7, .ref h8, .int n0_size, .ref h9, .int n0_names, .int n0_plots, .ref h1, .ref h2, .ref h3, .ref h10, .ref h11, .int n0_ways])), (h1, .inl (cint, 40, .inl f1)), (h2, .inl (cAlong, 25, .inr (.inr (.inr (.inr (fun j => some (h4 j))))))), (h3, .inl (cAlong, 5, .inr (.inr (.inr (.inr (fun j => some (h5 j)))))))] : va_W) ++ (kk_rowsL h4 clong 40 x.2 25 ++ (kk_rowsL h5 clong 5 F5 5))) H ∧ va_D A (([(h0, .inr (2, [.ref h6, .ref h7, .ref h8, .int n0_size, .ref h9, .int n0_names, .int n0_plots, .ref h1, .ref h2, .ref h3, .ref h10, .ref h11, .int n0_ways])), (h1, .inl (cint, 40, .inl f1)), (h2, .inl (cAlong, 25, .inr (.inr (.inr (.inr (fun j => some (h4 j))))))), (h3, .inl (cAlong, 5, .inr (.inr (.inr (.inr (fun j => some (h5 j)))))))] : va_W) ++ (kk_rowsL h4 clong 40 x.2 25 ++ (kk_rowsL h5 clong 5 F5 5))) ∧ va_S A s.heap H locs ∧ lv_has ls 9 [(8, .int x.1), (7, .int i_3_0), (6, .ref (h4 (((p1 * 5) + p0) : Int32).toNatClampNeg)), (5, .ref (h4 (((p0 * 5) + p1) : Int32).toNatClampNeg)), (0, .ref h0), (1, .int p0), (2, .int p1), (3, .int p2), (4, .int p3)]) (fun x => ((40 : Int) - x.1.toInt).toNat) ?_ (0, f_3_1) _ _ _ ⟨(by show 0 ≤ (0 : Int32).toInt ∧ (0 : Int32).toInt ≤ 40; first | decide | (constructor <;> (have := kk_mul2 (x := p0) (y := 5) (a := p0.toInt) (b := 5) rfl rfl (by omega) (by omega); have := kk_add2 (x := (p0 * 5)) (y := p1) (a := (p0 * 5).toInt) (b := p1.toInt) rfl rfl (by omega) (by omega); have := kk_mul2 (x := p1) (y := 5) (a := p1.toInt) (b := 5) rfl rfl (by omega) (by omega); have := kk_add2 (x := (p1 * 5)) (y := p0) (a := (p1 * 5).toInt) (b := p0.toInt) rfl rfl (by omega) (by omega); omega))), hP, hD, hS, hl⟩
    rintro ⟨i_5_0, f_5_1⟩ H locs ls ⟨t_5_0, hP, hD, hS, hl⟩ ih_5
    have t_5_0 : (0 ≤ i_5_0.toInt ∧ i_5_0.toInt ≤ 40) := t_5_0
    have hl : lv_has ls 9 [(8, .int i_5_0), (7, .int i_3_0), (6, .ref (h4 (((p1 * 5) + p0) : Int32).toNatClampNeg)), (5, .ref (h4 (((p0 * 5) + p1) : Int32).toNatClampNeg)), (0, .ref h0), (1, .int p0), (2, .int p1), (3, .int p2), (4, .int p3)] := hl
    have hP : va_P (dC, dI) vwCl (([(h0, .inr (2, [.ref h6, .ref h7, .ref h8, .int n0_size, .ref h9, .int n0_names, .int n0_plots, .ref h1, .ref h2, .ref h3, .ref h10, .ref h11, .int n0_ways])), (h1, .inl (cint, 40, .inl f1)), (h2, .inl (cAlong, 25, .inr (.inr (.inr (.inr (fun j => some (h4 j))))))), (h3, .inl (cAlong, 5, .inr (.inr (.inr (.inr (fun j => some (h5 j)))))))] : va_W) ++ (kk_rowsL h4 clong 40 f_5_1 25 ++ (kk_rowsL h5 clong 5 F5 5))) H := hP
    have hD : va_D A (([(h0, .inr (2, [.ref h6, .ref h7, .ref h8, .int n0_size, .ref h9, .int n0_names, .int n0_plots, .ref h1, .ref h2, .ref h3, .ref h10, .ref h11, .int n0_ways])), (h1, .inl (cint, 40, .inl f1)), (h2, .inl (cAlong, 25, .inr (.inr (.inr (.inr (fun j => some (h4 j))))))), (h3, .inl (cAlong, 5, .inr (.inr (.inr (.inr (fun j => some (h5 j)))))))] : va_W) ++ (kk_rowsL h4 clong 40 f_5_1 25 ++ (kk_rowsL h5 clong 5 F5 5))) := hD
    refine lv_iload hx hb dX2_keepDistance_39 (lv_at hl 0 rfl) ?_
    refine lv_aload_n hx hb dX2_keepDistance_41 rfl (lv_at hl 4 rfl) ?_
    refine va_get (D := (dC, dI)) (ci := 2) (v := .int n0_plots) (C := RX2) (T := TX2) (N := 13) hx hb hts (fun _ h => List.mem_cons_of_mem _ (List.mem_append_right _ h)) hown hK hP 0 rfl rfl 6 (by decide) (hts (.fieldLink RX2 67 "KinkStreet$Deeds" "plots" "I") (List.mem_of_getElem? (i := 2) rfl)) (fun _ h9 => h9) rfl dX2_keepDistance_42 ?_
    refine lv_icmp_ge (tgt := 111) hx hb dX2_keepDistance_45 (by decide) (fun c_6 => ?_) (fun c_6 => ?_)
    · have t_6 : n0_plots.toInt ≤ i_5_0.toInt := kk_le c_6
      refine lv_iinc (v := (i_3_0 + 1)) (lv' := [(7, .int (i_3_0 + 1)), (8, .int i_5_0), (6, .ref (h4 (((p1 * 5) + p0) : Int32).toNatClampNeg)), (5, .ref (h4 (((p0 * 5) + p1) : Int32).toNatClampNeg)), (0, .ref h0), (1, .int p0), (2, .int p1), (3, .int p2), (4, .int p3)]) hx hb dX2_keepDistance_111 hl (k := 1) rfl (by first | rfl | decide) (by decide) rfl (fun ls hl => ?_)
      refine lv_goto (tgt := 27) hx hb dX2_keepDistance_114 (by decide) ?_
      exact ih_3 ((i_3_0 + 1), f_5_1) _ _ _ (by show ((40 : Int) - ((i_3_0 + 1)).toInt).toNat < ((40 : Int) - i_3_0.toInt).toNat; have := kk_mul2 (x := p0) (y := 5) (a := p0.toInt) (b := 5) rfl rfl (by omega) (by omega); have := kk_add2 (x := (p0 * 5)) (y := p1) (a := (p0 * 5).toInt) (b := p1.toInt) rfl rfl (by omega) (by omega); have := kk_mul2 (x := p1) (y := 5) (a := p1.toInt) (b := 5) rfl rfl (by omega) (by omega); have := kk_add2 (x := (p1 * 5)) (y := p0) (a := (p1 * 5).toInt) (b := p0.toInt) rfl rfl (by omega) (by omega); have := kk_add2 (x := i_3_0) (y := 1) (a := i_3_0.toInt) (b := 1) rfl rfl (by omega) (by omega); exact kk_mu (by omega) (by omega)) ⟨(by show 0 ≤ ((i_3_0 + 1) : Int32).toInt ∧ ((i_3_0 + 1) : Int32).toInt ≤ 40; first | decide | (constructor <;> (have := kk_mul2 (x := p0) (y := 5) (a := p0.toInt) (b := 5) rfl rfl (by omega) (by omega); have := kk_add2 (x := (p0 * 5)) (y := p1) (a := (p0 * 5).toInt) (b := p1.toInt) rfl rfl (by omega) (by omega); have := kk_mul2 (x := p1) (y := 5) (a := p1.toInt) (b := 5) rfl rfl (by omega) (by omega); have := kk_add2 (x := (p1 * 5)) (y := p0) (a := (p1 * 5).toInt) (b := p0.toInt) rfl rfl (by omega) (by omega); have := kk_add2 (x := i_3_0) (y := 1) (a := i_3_0.toInt) (b := 1) rfl rfl (by omega) (by omega); omega))), hP, hD, hS, lv_sub hl [0, 2, 3, 4, 5, 6, 7, 8] rfl⟩
    · have t_6 : i_5_0.toInt < n0_plots.toInt := kk_nle c_6
      refine lv_iload_n hx hb dX2_keepDistance_48 rfl (lv_at hl 7 rfl) ?_
      refine lv_aload_n hx hb dX2_keepDistance_49 rfl (lv_at hl 4 rfl) ?_
      refine va_get (D := (dC, dI)) (ci := 2) (v := .ref h1) (C := RX2) (T := TX2) (N := 13) hx hb hts (fun _ h => List.mem_cons_of_mem _ (List.mem_append_right _ h)) hown hK hP 0 rfl rfl 7 (by decide) (hts (.fieldLink RX2 24 "KinkStreet$Deeds" "begins" "[I") (List.mem_of_getElem? (i := 3) rfl)) (fun _ h9 => h9) rfl dX2_keepDistance_50 ?_
      refine lv_iload hx hb dX2_keepDistance_53 (lv_at hl 1 rfl) ?_
      have hi_7 : vp_in i_3_0 40 := (vp_in_iff.mpr ⟨by have := kk_mul2 (x := p0) (y := 5) (a := p0.toInt) (b := 5) rfl rfl (by omega) (by omega); have := kk_add2 (x := (p0 * 5)) (y := p1) (a := (p0 * 5).toInt) (b := p1.toInt) rfl rfl (by omega) (by omega); have := kk_mul2 (x := p1) (y := 5) (a := p1.toInt) (b := 5) rfl rfl (by omega) (by omega); have := kk_add2 (x := (p1 * 5)) (y := p0) (a := (p1 * 5).toInt) (b := p0.toInt) rfl rfl (by omega) (by omega); omega, by have := kk_mul2 (x := p0) (y := 5) (a := p0.toInt) (b := 5) rfl rfl (by omega) (by omega); have := kk_add2 (x := (p0 * 5)) (y := p1) (a := (p0 * 5).toInt) (b := p1.toInt) rfl rfl (by omega) (by omega); have := kk_mul2 (x := p1) (y := 5) (a := p1.toInt) (b := 5) rfl rfl (by omega) (by omega); have := kk_add2 (x := (p1 * 5)) (y := p0) (a := (p1 * 5).toInt) (b := p0.toInt) rfl rfl (by omega) (by omega); omega⟩)
      refine va_iald hx hb hK hP 1 0 rfl rfl hi_7 dX2_keepDistance_55 ?_
      refine lv_topi (fun y_7 e_7 => ?_)
      clear e_7
      refine lv_aload_n hx hb dX2_keepDistance_56 rfl (lv_at hl 4 rfl) ?_
      refine va_get (D := (dC, dI)) (ci := 2) (v := .ref h1) (C := RX2) (T := TX2) (N := 13) hx hb hts (fun _ h => List.mem_cons_of_mem _ (List.mem_append_right _ h)) hown hK hP 0 rfl rfl 7 (by decide) (hts (.fieldLink RX2 24 "KinkStreet$Deeds" "begins" "[I") (List.mem_of_getElem? (i := 3) rfl)) (fun _ h9 => h9) rfl dX2_keepDistance_57 ?_
      refine lv_iload hx hb dX2_keepDistance_60 (lv_at hl 0 rfl) ?_
      have hi_8 : vp_in i_5_0 40 := (vp_in_iff.mpr ⟨by have := kk_mul2 (x := p0) (y := 5) (a := p0.toInt) (b := 5) rfl rfl (by omega) (by omega); have := kk_add2 (x := (p0 * 5)) (y := p1) (a := (p0 * 5).toInt) (b := p1.toInt) rfl rfl (by omega) (by omega); have := kk_mul2 (x := p1) (y := 5) (a := p1.toInt) (b := 5) rfl rfl (by omega) (by omega); have := kk_add2 (x := (p1 * 5)) (y := p0) (a := (p1 * 5).toInt) (b := p0.toInt) rfl rfl (by omega) (by omega); omega, by have := kk_mul2 (x := p0) (y := 5) (a := p0.toInt) (b := 5) rfl rfl (by omega) (by omega); have := kk_add2 (x := (p0 * 5)) (y := p1) (a := (p0 * 5).toInt) (b := p1.toInt) rfl rfl (by omega) (by omega); have := kk_mul2 (x := p1) (y := 5) (a := p1.toInt) (b := 5) rfl rfl (by omega) (by omega); have := kk_add2 (x := (p1 * 5)) (y := p0) (a := (p1 * 5).toInt) (b := p0.toInt) rfl rfl (by omega) (by omega); omega⟩)
      refine va_iald hx hb hK hP 1 0 rfl rfl hi_8 dX2_keepDistance_62 ?_
      refine lv_topi (fun y_8 e_8 => ?_)
      clear e_8
      refine lv_isub hx hb dX2_keepDistance_63 ?_
      refine lv_isub hx hb dX2_keepDistance_64 ?_
      refine va_mabs hx hb (hml.trans hl.1.symm) hown (hts (.methodLink RX2 101 Lib.Math.abs.name) (List.mem_of_getElem? (i := 4) rfl)) (hts (.static Lib.Math.abs.name) (List.mem_of_getElem? (i := 5) rfl)) (hts (.initialized "java/lang/Math") (List.mem_of_getElem? (i := 6) rfl)) (hts (.code Lib.Math.abs.name Lib.Math.abs.code 1 (some .int)) (List.mem_of_getElem? (i := 7) rfl)) (Nat.le_of_ble_eq_true rfl) (Nat.le_of_ble_eq_true rfl) (Nat.le_of_ble_eq_true rfl) (Nat.le_of_ble_eq_true rfl) dX2_keepDistance_65 ?_
      refine lv_topi (fun y_9 e_9 => ?_)
      clear e_9
      refine lv_iload hx hb dX2_keepDistance_68 (lv_at hl 8 rfl) ?_
      refine lv_icmp_le (tgt := 105) hx hb dX2_keepDistance_70 (by decide) (fun c_10 => ?_) (fun c_10 => ?_)
      · have t_10 : y_9.toInt ≤ p3.toInt := kk_le c_10
        refine lv_iinc (v := (i_5_0 + 1)) (lv' := [(8, .int (i_5_0 + 1)), (7, .int i_3_0), (6, .ref (h4 (((p1 * 5) + p0) : Int32).toNatClampNeg)), (5, .ref (h4 (((p0 * 5) + p1) : Int32).toNatClampNeg)), (0, .ref h0), (1, .int p0), (2, .int p1), (3, .int p2), (4, .int p3)]) hx hb dX2_keepDistance_105 hl (k := 0) rfl (by first | rfl | decide) (by decide) rfl (fun ls hl => ?_)
        refine lv_goto (tgt := 39) hx hb dX2_keepDistance_108 (by decide) ?_
        exact ih_5 ((i_5_0 + 1), f_5_1) _ _ _ (by show ((40 : Int) - ((i_5_0 + 1)).toInt).toNat < ((40 : Int) - i_5_0.toInt).toNat; have := kk_rng y_9; have := kk_rng p3; have := kk_mul2 (x := p0) (y := 5) (a := p0.toInt) (b := 5) rfl rfl (by omega) (by omega); have := kk_add2 (x := (p0 * 5)) (y := p1) (a := (p0 * 5).toInt) (b := p1.toInt) rfl rfl (by omega) (by omega); have := kk_mul2 (x := p1) (y := 5) (a := p1.toInt) (b := 5) rfl rfl (by omega) (by omega); have := kk_add2 (x := (p1 * 5)) (y := p0) (a := (p1 * 5).toInt) (b := p0.toInt) rfl rfl (by omega) (by omega); have := kk_add2 (x := i_5_0) (y := 1) (a := i_5_0.toInt) (b := 1) rfl rfl (by omega) (by omega); exact kk_mu (by omega) (by omega)) ⟨(by show 0 ≤ ((i_5_0 + 1) : Int32).toInt ∧ ((i_5_0 + 1) : Int32).toInt ≤ 40; first | decide | (constructor <;> (have := kk_rng y_9; have := kk_rng p3; have := kk_mul2 (x := p0) (y := 5) (a := p0.toInt) (b := 5) rfl rfl (by omega) (by omega); have := kk_add2 (x := (p0 * 5)) (y := p1) (a := (p0 * 5).toInt) (b := p1.toInt) rfl rfl (by omega) (by omega); have := kk_mul2 (x := p1) (y := 5) (a := p1.toInt) (b := 5) rfl rfl (by omega) (by omega); have := kk_add2 (x := (p1 * 5)) (y := p0) (a := (p1 * 5).toInt) (b := p0.toInt) rfl rfl (by omega) (by omega); have := kk_add2 (x := i_5_0) (y := 1) (a := i_5_0.toInt) (b := 1) rfl rfl (by omega) (by omega); omega))), hP, hD, hS, lv_sub hl [0, 1, 2, 3, 4, 5, 6, 7, 8] rfl⟩
      · have t_10 : p3.toInt < y_9.toInt := kk_nle c_10
        refine lv_aload hx hb dX2_keepDistance_73 (lv_at hl 3 rfl) ?_
        refine lv_iload hx hb dX2_keepDistance_75 (lv_at hl 1 rfl) ?_
        refine lv_dup2_11 hx hb dX2_keepDistance_77 rfl rfl ?_
        refine va_lald hx hb hK hP _ 2 (kk_getr (kk_getl (kk_rowL hk_1))) rfl (vp_in_iff.mpr ⟨by have := kk_rng p3; have := kk_rng y_9; have := kk_mul2 (x := p0) (y := 5) (a := p0.toInt) (b := 5) rfl rfl (by omega) (by omega); have := kk_add2 (x := (p0 * 5)) (y := p1) (a := (p0 * 5).toInt) (b := p1.toInt) rfl rfl (by omega) (by omega); have := kk_mul2 (x := p1) (y := 5) (a := p1.toInt) (b := 5) rfl rfl (by omega) (by omega); have := kk_add2 (x := (p1 * 5)) (y := p0) (a := (p1 * 5).toInt) (b := p0.toInt) rfl rfl (by omega) (by omega); omega, by have := kk_rng p3; have := kk_rng y_9; have := kk_mul2 (x := p0) (y := 5) (a := p0.toInt) (b := 5) rfl rfl (by omega) (by omega); have := kk_add2 (x := (p0 * 5)) (y := p1) (a := (p0 * 5).toInt) (b := p1.toInt) rfl rfl (by omega) (by omega); have := kk_mul2 (x := p1) (y := 5) (a := p1.toInt) (b := 5) rfl rfl (by omega) (by omega); have := kk_add2 (x := (p1 * 5)) (y := p0) (a := (p1 * 5).toInt) (b := p0.toInt) rfl rfl (by omega) (by omega); omega⟩) dX2_keepDistance_78 ?_
        refine lv_topl (fun y_11 e_11 => ?_)
        clear e_11
        refine lv_lconst (v := 1) hx hb dX2_keepDistance_79 (by decide) ?_
        refine lv_iload hx hb dX2_keepDistance_80 (lv_at hl 0 rfl) ?_
        refine lv_lshl hx hb dX2_keepDistance_82 rfl ?_
        refine lv_topl (fun y_12 e_12 => ?_)
        clear e_12
        refine lv_ldc2 hx hb hown (hts _ (List.mem_of_getElem? (i := 8) rfl)) dX2_keepDistance_83 ?_
        refine lv_lxor hx hb dX2_keepDistance_86 ?_
        refine lv_topl (fun y_13 e_13 => ?_)
        clear e_13
        refine lv_land hx hb dX2_keepDistance_87 ?_
        refine lv_topl (fun y_14 e_14 => ?_)
        clear e_14
        refine va_last hx hb hK hP hD hS _ 2 (kk_getr (kk_getl (kk_rowL hk_1))) rfl (vp_in_iff.mpr ⟨by have := kk_rng p3; have := kk_rng y_9; have := kk_mul2 (x := p0) (y := 5) (a := p0.toInt) (b := 5) rfl rfl (by omega) (by omega); have := kk_add2 (x := (p0 * 5)) (y := p1) (a := (p0 * 5).toInt) (b := p1.toInt) rfl rfl (by omega) (by omega); have := kk_mul2 (x := p1) (y := 5) (a := p1.toInt) (b := 5) rfl rfl (by omega) (by omega); have := kk_add2 (x := (p1 * 5)) (y := p0) (a := (p1 * 5).toInt) (b := p0.toInt) rfl rfl (by omega) (by omega); omega, by have := kk_rng p3; have := kk_rng y_9; have := kk_mul2 (x := p0) (y := 5) (a := p0.toInt) (b := 5) rfl rfl (by omega) (by omega); have := kk_add2 (x := (p0 * 5)) (y := p1) (a := (p0 * 5).toInt) (b := p1.toInt) rfl rfl (by omega) (by omega); have := kk_mul2 (x := p1) (y := 5) (a := p1.toInt) (b := 5) rfl rfl (by omega) (by omega); have := kk_add2 (x := (p1 * 5)) (y := p0) (a := (p1 * 5).toInt) (b := p0.toInt) rfl rfl (by omega) (by omega); omega⟩) dX2_keepDistance_88 (fun H locs hP hD hS => ?_)
        rw [kk_setr, kk_setl (kk_rowL hk_1), kk_rowsL_set hk_1] at hP hD
        generalize kk_upF f_5_1 (((p0 * 5) + p1) : Int32).toNatClampNeg (vp_updL (f_5_1 (((p0 * 5) + p1) : Int32).toNatClampNeg) (i_3_0 : Int32).toNatClampNeg y_14) = F_15 at hP hD
        have hP : va_P (dC, dI) vwCl (([(h0, .inr (2, [.ref h6, .ref h7, .ref h8, .int n0_size, .ref h9, .int n0_names, .int n0_plots, .ref h1, .ref h2, .ref h3, .ref h10, .ref h11, .int n0_ways])), (h1, .inl (cint, 40, .inl f1)), (h2, .inl (cAlong, 25, .inr (.inr (.inr (.inr (fun j => some (h4 j))))))), (h3, .inl (cAlong, 5, .inr (.inr (.inr (.inr (fun j => some (h5 j)))))))] : va_W) ++ (kk_rowsL h4 clong 40 F_15 25 ++ (kk_rowsL h5 clong 5 F5 5))) H := hP
        have hD : va_D A (([(h0, .inr (2, [.ref h6, .ref h7, .ref h8, .int n0_size, .ref h9, .int n0_names, .int n0_plots, .ref h1, .ref h2, .ref h3, .ref h10, .ref h11, .int n0_ways])), (h1, .inl (cint, 40, .inl f1)), (h2, .inl (cAlong, 25, .inr (.inr (.inr (.inr (fun j => some (h4 j))))))), (h3, .inl (cAlong, 5, .inr (.inr (.inr (.inr (fun j => some (h5 j)))))))] : va_W) ++ (kk_rowsL h4 clong 40 F_15 25 ++ (kk_rowsL h5 clong 5 F5 5))) := hD
        refine lv_aload hx hb dX2_keepDistance_89 (lv_at hl 2 rfl) ?_
        refine lv_iload hx hb dX2_keepDistance_91 (lv_at hl 0 rfl) ?_
        refine lv_dup2_11 hx hb dX2_keepDistance_93 rfl rfl ?_
        refine va_lald hx hb hK hP _ 2 (kk_getr (kk_getl (kk_rowL hk_2))) rfl (vp_in_iff.mpr ⟨by have := kk_rng p3; have := kk_rng y_9; have := kk_mul2 (x := p0) (y := 5) (a := p0.toInt) (b := 5) rfl rfl (by omega) (by omega); have := kk_add2 (x := (p0 * 5)) (y := p1) (a := (p0 * 5).toInt) (b := p1.toInt) rfl rfl (by omega) (by omega); have := kk_mul2 (x := p1) (y := 5) (a := p1.toInt) (b := 5) rfl rfl (by omega) (by omega); have := kk_add2 (x := (p1 * 5)) (y := p0) (a := (p1 * 5).toInt) (b := p0.toInt) rfl rfl (by omega) (by omega); omega, by have := kk_rng p3; have := kk_rng y_9; have := kk_mul2 (x := p0) (y := 5) (a := p0.toInt) (b := 5) rfl rfl (by omega) (by omega); have := kk_add2 (x := (p0 * 5)) (y := p1) (a := (p0 * 5).toInt) (b := p1.toInt) rfl rfl (by omega) (by omega); have := kk_mul2 (x := p1) (y := 5) (a := p1.toInt) (b := 5) rfl rfl (by omega) (by omega); have := kk_add2 (x := (p1 * 5)) (y := p0) (a := (p1 * 5).toInt) (b := p0.toInt) rfl rfl (by omega) (by omega); omega⟩) dX2_keepDistance_94 ?_
        refine lv_topl (fun y_16 e_16 => ?_)
        clear e_16
        refine lv_lconst (v := 1) hx hb dX2_keepDistance_95 (by decide) ?_
        refine lv_iload hx hb dX2_keepDistance_96 (lv_at hl 1 rfl) ?_
        refine lv_lshl hx hb dX2_keepDistance_98 rfl ?_
        refine lv_topl (fun y_17 e_17 => ?_)
        clear e_17
        refine lv_ldc2 hx hb hown (hts _ (List.mem_of_getElem? (i := 8) rfl)) dX2_keepDistance_99 ?_
        refine lv_lxor hx hb dX2_keepDistance_102 ?_
        refine lv_topl (fun y_18 e_18 => ?_)
        clear e_18
        refine lv_land hx hb dX2_keepDistance_103 ?_
        refine lv_topl (fun y_19 e_19 => ?_)
        clear e_19
        refine va_last hx hb hK hP hD hS _ 2 (kk_getr (kk_getl (kk_rowL hk_2))) rfl (vp_in_iff.mpr ⟨by have := kk_rng p3; have := kk_rng y_9; have := kk_mul2 (x := p0) (y := 5) (a := p0.toInt) (b := 5) rfl rfl (by omega) (by omega); have := kk_add2 (x := (p0 * 5)) (y := p1) (a := (p0 * 5).toInt) (b := p1.toInt) rfl rfl (by omega) (by omega); have := kk_mul2 (x := p1) (y := 5) (a := p1.toInt) (b := 5) rfl rfl (by omega) (by omega); have := kk_add2 (x := (p1 * 5)) (y := p0) (a := (p1 * 5).toInt) (b := p0.toInt) rfl rfl (by omega) (by omega); omega, by have := kk_rng p3; have := kk_rng y_9; have := kk_mul2 (x := p0) (y := 5) (a := p0.toInt) (b := 5) rfl rfl (by omega) (by omega); have := kk_add2 (x := (p0 * 5)) (y := p1) (a := (p0 * 5).toInt) (b := p1.toInt) rfl rfl (by omega) (by omega); have := kk_mul2 (x := p1) (y := 5) (a := p1.toInt) (b := 5) rfl rfl (by omega) (by omega); have := kk_add2 (x := (p1 * 5)) (y := p0) (a := (p1 * 5).toInt) (b := p0.toInt) rfl rfl (by omega) (by omega); omega⟩) dX2_keepDistance_104 (fun H locs hP hD hS => ?_)
        rw [kk_setr, kk_setl (kk_rowL hk_2), kk_rowsL_set hk_2] at hP hD
        generalize kk_upF F_15 (((p1 * 5) + p0) : Int32).toNatClampNeg (vp_updL (F_15 (((p1 * 5) + p0) : Int32).toNatClampNeg) (i_5_0 : Int32).toNatClampNeg y_19) = F_20 at hP hD
        have hP : va_P (dC, dI) vwCl (([(h0, .inr (2, [.ref h6, .ref h7, .ref h8, .int n0_size, .ref h9, .int n0_names, .int n0_plots, .ref h1, .ref h2, .ref h3, .ref h10, .ref h11, .int n0_ways])), (h1, .inl (cint, 40, .inl f1)), (h2, .inl (cAlong, 25, .inr (.inr (.inr (.inr (fun j => some (h4 j))))))), (h3, .inl (cAlong, 5, .inr (.inr (.inr (.inr (fun j => some (h5 j)))))))] : va_W) ++ (kk_rowsL h4 clong 40 F_20 25 ++ (kk_rowsL h5 clong 5 F5 5))) H := hP
        have hD : va_D A (([(h0, .inr (2, [.ref h6, .ref h7, .ref h8, .int n0_size, .ref h9, .int n0_names, .int n0_plots, .ref h1, .ref h2, .ref h3, .ref h10, .ref h11, .int n0_ways])), (h1, .inl (cint, 40, .inl f1)), (h2, .inl (cAlong, 25, .inr (.inr (.inr (.inr (fun j => some (h4 j))))))), (h3, .inl (cAlong, 5, .inr (.inr (.inr (.inr (fun j => some (h5 j)))))))] : va_W) ++ (kk_rowsL h4 clong 40 F_20 25 ++ (kk_rowsL h5 clong 5 F5 5))) := hD
        refine lv_iinc (v := (i_5_0 + 1)) (lv' := [(8, .int (i_5_0 + 1)), (7, .int i_3_0), (6, .ref (h4 (((p1 * 5) + p0) : Int32).toNatClampNeg)), (5, .ref (h4 (((p0 * 5) + p1) : Int32).toNatClampNeg)), (0, .ref h0), (1, .int p0), (2, .int p1), (3, .int p2), (4, .int p3)]) hx hb dX2_keepDistance_105 hl (k := 0) rfl (by first | rfl | decide) (by decide) rfl (fun ls hl => ?_)
        refine lv_goto (tgt := 39) hx hb dX2_keepDistance_108 (by decide) ?_
        exact ih_5 ((i_5_0 + 1), F_20) _ _ _ (by show ((40 : Int) - ((i_5_0 + 1)).toInt).toNat < ((40 : Int) - i_5_0.toInt).toNat; have := kk_rng p3; have := kk_rng y_9; have := kk_mul2 (x := p0) (y := 5) (a := p0.toInt) (b := 5) rfl rfl (by omega) (by omega); have := kk_add2 (x := (p0 * 5)) (y := p1) (a := (p0 * 5).toInt) (b := p1.toInt) rfl rfl (by omega) (by omega); have := kk_mul2 (x := p1) (y := 5) (a := p1.toInt) (b := 5) rfl rfl (by omega) (by omega); have := kk_add2 (x := (p1 * 5)) (y := p0) (a := (p1 * 5).toInt) (b := p0.toInt) rfl rfl (by omega) (by omega); have := kk_add2 (x := i_5_0) (y := 1) (a := i_5_0.toInt) (b := 1) rfl rfl (by omega) (by omega); exact kk_mu (by omega) (by omega)) ⟨(by show 0 ≤ ((i_5_0 + 1) : Int32).toInt ∧ ((i_5_0 + 1) : Int32).toInt ≤ 40; first | decide | (constructor <;> (have := kk_rng p3; have := kk_rng y_9; have := kk_mul2 (x := p0) (y := 5) (a := p0.toInt) (b := 5) rfl rfl (by omega) (by omega); have := kk_add2 (x := (p0 * 5)) (y := p1) (a := (p0 * 5).toInt) (b := p1.toInt) rfl rfl (by omega) (by omega); have := kk_mul2 (x := p1) (y := 5) (a := p1.toInt) (b := 5) rfl rfl (by omega) (by omega); have := kk_add2 (x := (p1 * 5)) (y := p0) (a := (p1 * 5).toInt) (b := p0.toInt) rfl rfl (by omega) (by omega); have := kk_add2 (x := i_5_0) (y := 1) (a := i_5_0.toInt) (b := 1) rfl rfl (by omega) (by omega); omega))), hP, hD, hS, lv_sub hl [0, 1, 2, 3, 4, 5, 6, 7, 8] rfl⟩
set_option maxHeartbeats 4000000 in
set_option maxRecDepth 100000 in
theorem g_X2_keepPlace_0 (l : Launch) (dC : Nat → ClassId) (dI : Nat → Nat → Nat) (h0 : Nat) (h1 : Nat) (h2 : Nat) (h3 : Nat → Nat) (h4 : Nat → Nat) (h5 : Nat) (h6 : Nat) (h7 : Nat) (h8 : Nat) (h9 : Nat) (h10 : Nat) (h11 : Nat) (cAlong clong : ClassId) (sz : Nat) (p0 : Int32) (p1 : Int32) (tp0 : 0 ≤ p0.toInt ∧ p0.toInt ≤ 4) (n0_size : Int32) (n0_names : Int32) (n0_plots : Int32) (n0_ways : Int32) (F3 : Nat → Nat → Int64) (F4 : Nat → Nat → Int64) (tn0_size : 0 ≤ n0_size.toInt ∧ n0_size.toInt ≤ 10) (tn0_names : 0 ≤ n0_names.toInt ∧ n0_names.toInt ≤ 8) (tn0_plots : 0 ≤ n0_plots.toInt ∧ n0_plots.toInt ≤ 40) : Met l yX2_keepPlace wsX2_keepPlace ({ frames := 0, cells := 0, slots := 0, locals := 0 }) (va_Pc [.ref h0, .int p0, .int p1] (fun U => U.heap.size = sz ∧ va_P (dC, dI) vwCl (([(h0, .inr (2, [.ref h5, .ref h6, .ref h7, .int n0_size, .ref h8, .int n0_names, .int n0_plots, .ref h9, .ref h1, .ref h2, .ref h10, .ref h11, .int n0_ways])), (h1, .inl (cAlong, 25, .inr (.inr (.inr (.inr (fun j => some (h3 j))))))), (h2, .inl (cAlong, 5, .inr (.inr (.inr (.inr (fun j => some (h4 j)))))))] : va_W) ++ (kk_rowsL h3 clong 40 F3 25 ++ (kk_rowsL h4 clong 5 F4 5))) U.heap ∧ va_K (dC, dI) vwCl [(cAlong, .array .long), (clong, .long)] U ∧ va_D (fun _ => True) (([(h0, .inr (2, [.ref h5, .ref h6, .ref h7, .int n0_size, .ref h8, .int n0_names, .int n0_plots, .ref h9, .ref h1, .ref h2, .ref h10, .ref h11, .int n0_ways])), (h1, .inl (cAlong, 25, .inr (.inr (.inr (.inr (fun j => some (h3 j))))))), (h2, .inl (cAlong, 5, .inr (.inr (.inr (.inr (fun j => some (h4 j)))))))] : va_W) ++ (kk_rowsL h3 clong 40 F3 25 ++ (kk_rowsL h4 clong 5 F4 5))))) (va_Qv (fun (_ : Unit) => True) (fun (_ : Unit) t => ∃ (g4 : Nat → Nat → Int64), va_P (dC, dI) vwCl (([(h0, .inr (2, [.ref h5, .ref h6, .ref h7, .int n0_size, .ref h8, .int n0_names, .int n0_plots, .ref h9, .ref h1, .ref h2, .ref h10, .ref h11, .int n0_ways])), (h1, .inl (cAlong, 25, .inr (.inr (.inr (.inr (fun j => some (h3 j))))))), (h2, .inl (cAlong, 5, .inr (.inr (.inr (.inr (fun j => some (h4 j)))))))] : va_W) ++ (kk_rowsL h3 clong 40 F3 25 ++ (kk_rowsL h4 clong 5 g4 5))) t.heap ∧ va_K (dC, dI) vwCl [] t ∧ va_D (va_A (([(h0, .inr (2, [.ref h5, .ref h6, .ref h7, .int n0_size, .ref h8, .int n0_names, .int n0_plots, .ref h9, .ref h1, .ref h2, .ref h10, .ref h11, .int n0_ways])), (h1, .inl (cAlong, 25, .inr (.inr (.inr (.inr (fun j => some (h3 j))))))), (h2, .inl (cAlong, 5, .inr (.inr (.inr (.inr (fun j => some (h4 j)))))))] : va_W) ++ (kk_rowsL h3 clong 40 F3 25 ++ (kk_rowsL h4 clong 5 F4 5))) sz) (([(h0, .inr (2, [.ref h5, .ref h6, .ref h7, .int n0_size, .ref h8, .int n0_names, .int n0_plots, .ref h9, .ref h1, .ref h2, .ref h10, .ref h11, .int n0_ways])), (h1, .inl (cAlong, 25, .inr (.inr (.inr (.inr (fun j => some (h3 j))))))), (h2, .inl (cAlong, 5, .inr (.inr (.inr (.inr (fun j => some (h4 j)))))))] : va_W) ++ (kk_rowsL h3 clong 40 F3 25 ++ (kk_rowsL h4 clong 5 g4 5)))) (va_A (([(h0, .inr (2, [.ref h5, .ref h6, .ref h7, .int n0_size, .ref h8, .int n0_names, .int n0_plots, .ref h9, .ref h1, .ref h2, .ref h10, .ref h11, .int n0_ways])), (h1, .inl (cAlong, 25, .inr (.inr (.inr (.inr (fun j => some (h3 j))))))), (h2, .inl (cAlong, 5, .inr (.inr (.inr (.inr (fun j => some (h4 j)))))))] : va_W) ++ (kk_rowsL h3 clong 40 F3 25 ++ (kk_rowsL h4 clong 5 F4 5))) sz)) 0 0 (va_A (([(h0, .inr (2, [.ref h5, .ref h6, .ref h7, .int n0_size, .ref h8, .int n0_names, .int n0_plots, .ref h9, .ref h1, .ref h2, .ref h10, .ref h11, .int n0_ways])), (h1, .inl (cAlong, 25, .inr (.inr (.inr (.inr (fun j => some (h3 j))))))), (h2, .inl (cAlong, 5, .inr (.inr (.inr (.inr (fun j => some (h4 j)))))))] : va_W) ++ (kk_rowsL h3 clong 40 F3 25 ++ (kk_rowsL h4 clong 5 F4 5))) sz) := by
  refine Met.ofW (cc := cX2_keepPlace) (maxL := 3) (ret := none) (by decide) rfl ?_
  intro p e s m args below meth c s₁ B hml hv
  obtain ⟨rfl, hsz, hP, hK, hD0⟩ := hv
  have hx := B.exec
  have hb := B.bytes
  have hr := B.returns
  have hts := atoms_spec (ws := wsX2_keepPlace) B.pre
  have hown : s.vm.findClass RX2 = some m.cls := findClass_of_methodNamed B.named
  have hlocks := B.notSynchronized
  subst hsz
  have hD := hD0.self (sz := s.heap.size)
  generalize hAe : va_A (([(h0, .inr (2, [.ref h5, .ref h6, .ref h7, .int n0_size, .ref h8, .int n0_names, .int n0_plots, .ref h9, .ref h1, .ref h2, .ref h10, .ref h11, .int n0_ways])), (h1, .inl (cAlong, 25, .inr (.inr (.inr (.inr (fun j => some (h3 j))))))), (h2, .inl (cAlong, 5, .inr (.inr (.inr (.inr (fun j => some (h4 j)))))))] : va_W) ++ (kk_rowsL h3 clong 40 F3 25 ++ (kk_rowsL h4 clong 5 F4 5))) s.heap.size = A at hD ⊢
  have hA : ∀ q : Nat, s.heap.size ≤ q → A q := fun q h => by rw [← hAe]; exact Or.inr h
  have hS : va_S A s.heap s.heap [] := va_S.rf
  have hP : va_P (dC, dI) vwCl (([(h0, .inr (2, [.ref h5, .ref h6, .ref h7, .int n0_size, .ref h8, .int n0_names, .int n0_plots, .ref h9, .ref h1, .ref h2, .ref h10, .ref h11, .int n0_ways])), (h1, .inl (cAlong, 25, .inr (.inr (.inr (.inr (fun j => some (h3 j))))))), (h2, .inl (cAlong, 5, .inr (.inr (.inr (.inr (fun j => some (h4 j)))))))] : va_W) ++ (kk_rowsL h3 clong 40 F3 25 ++ (kk_rowsL h4 clong 5 F4 5))) s.heap := hP
  have hl := lv_entry ([.ref h0, .int p0, .int p1]) (n := 3) (Nat.le_of_ble_eq_true rfl)
  rw [lg_entry_eq]
  generalize (lg_sl ([.ref h0, .int p0, .int p1]) ++ List.replicate (3 - (lg_sl ([.ref h0, .int p0, .int p1])).length) Slot.unset).toArray = ls at hl ⊢
  have hl : lv_has ls 3 [(0, .ref h0), (1, .int p0), (2, .int p1)] := hl
  refine lv_aload_n hx hb dX2_keepPlace_0 rfl (lv_at hl 0 rfl) ?_
  refine va_get (D := (dC, dI)) (ci := 2) (v := .ref h2) (C := RX2) (T := TX2) (N := 13) hx hb hts (fun _ h => List.mem_cons_of_mem _ (List.mem_append_right _ h)) hown hK hP 0 rfl rfl 9 (by decide) (hts (.fieldLink RX2 32 "KinkStreet$Deeds" "open" "[[J") (List.mem_of_getElem? (i := 1) rfl)) (fun _ h9 => h9) rfl dX2_keepPlace_1 ?_
  refine lv_iconst (v := 0) hx hb dX2_keepPlace_4 (by decide) ?_
  have hi_1 : vp_in (0 : Int32) 5 := (by unfold vp_in; decide)
  have hk_1 : (0 : Int32).toNatClampNeg < 5 := Nat.not_le.mp fun q => hi_1 (Or.inr q)
  refine kk_aald hx hb hK hP 2 0 rfl rfl hi_1 dX2_keepPlace_5 ?_
  refine W.eq (g2 := F0 m 6 ls [.ref (h4 (0 : Int32).toNatClampNeg)]) rfl ?_
  refine lv_iload_n hx hb dX2_keepPlace_6 rfl (lv_at hl 1 rfl) ?_
  refine lv_dup2_11 hx hb dX2_keepPlace_7 rfl rfl ?_
  refine va_lald hx hb hK hP _ 1 (kk_getr (kk_getr (kk_rowL hk_1))) rfl (vp_in_iff.mpr ⟨by omega, by omega⟩) dX2_keepPlace_8 ?_
  refine lv_topl (fun y_2 e_2 => ?_)
  clear e_2
  refine lv_lconst (v := 1) hx hb dX2_keepPlace_9 (by decide) ?_
  refine lv_iload_n hx hb dX2_keepPlace_10 rfl (lv_at hl 2 rfl) ?_
  refine lv_lshl hx hb dX2_keepPlace_11 rfl ?_
  refine lv_topl (fun y_3 e_3 => ?_)
  clear e_3
  refine lv_land hx hb dX2_keepPlace_12 ?_
  refine lv_topl (fun y_4 e_4 => ?_)
  clear e_4
  refine va_last hx hb hK hP hD hS _ 1 (kk_getr (kk_getr (kk_rowL hk_1))) rfl (vp_in_iff.mpr ⟨by omega, by omega⟩) dX2_keepPlace_13 (fun H locs hP hD hS => ?_)
  rw [kk_setr, kk_setr, kk_rowsL_set hk_1] at hP hD
  generalize kk_upF F4 (0 : Int32).toNatClampNeg (vp_updL (F4 (0 : Int32).toNatClampNeg) (p0 : Int32).toNatClampNeg y_4) = F_5 at hP hD
  have hP : va_P (dC, dI) vwCl (([(h0, .inr (2, [.ref h5, .ref h6, .ref h7, .int n0_size, .ref h8, .int n0_names, .int n0_plots, .ref h9, .ref h1, .ref h2, .ref h10, .ref h11, .int n0_ways])), (h1, .inl (cAlong, 25, .inr (.inr (.inr (.inr (fun j => some (h3 j))))))), (h2, .inl (cAlong, 5, .inr (.inr (.inr (.inr (fun j => some (h4 j)))))))] : va_W) ++ (kk_rowsL h3 clong 40 F3 25 ++ (kk_rowsL h4 clong 5 F_5 5))) H := hP
  have hD : va_D A (([(h0, .inr (2, [.ref h5, .ref h6, .ref h7, .int n0_size, .ref h8, .int n0_names, .int n0_plots, .ref h9, .ref h1, .ref h2, .ref h10, .ref h11, .int n0_ways])), (h1, .inl (cAlong, 25, .inr (.inr (.inr (.inr (fun j => some (h3 j))))))), (h2, .inl (cAlong, 5, .inr (.inr (.inr (.inr (fun j => some (h4 j)))))))] : va_W) ++ (kk_rowsL h3 clong 40 F3 25 ++ (kk_rowsL h4 clong 5 F_5 5))) := hD
  have hP9 := hP.part (cx := [(h0, .inr (2, [.ref h5, .ref h6, .ref h7, .int n0_size, .ref h8, .int n0_names, .int n0_plots, .ref h9, .ref h1, .ref h2, .ref h10, .ref h11, .int n0_ways])), (h1, .inl (cAlong, 25, .inr (.inr (.inr (.inr (fun j => some (h3 j))))))), (h2, .inl (cAlong, 5, .inr (.inr (.inr (.inr (fun j => some (h4 j)))))))]) [0, 1, 2] rfl
  have hD9 := hD.part (cx := [(h0, .inr (2, [.ref h5, .ref h6, .ref h7, .int n0_size, .ref h8, .int n0_names, .int n0_plots, .ref h9, .ref h1, .ref h2, .ref h10, .ref h11, .int n0_ways])), (h1, .inl (cAlong, 25, .inr (.inr (.inr (.inr (fun j => some (h3 j))))))), (h2, .inl (cAlong, 5, .inr (.inr (.inr (.inr (fun j => some (h4 j)))))))]) [0, 1, 2] (by decide) rfl
  have hK9 := hK.sub (tys' := []) [] rfl
  exact W.vret hx hb hr (fun t ht hW => ⟨⟨(), rfl, trivial, F_5, by rw [ht]; exact hP9, va_K.moved hW.alike hK9, hD9⟩, hS.F ht⟩) hS.2.2 dX2_keepPlace_14
