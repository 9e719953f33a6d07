set_option maxHeartbeats 4000000 in
set_option maxRecDepth 100000 in
theorem g_X10_next_1 (l : Launch) (dC : Nat → ClassId) (dI : Nat → Nat → Nat) (h0 : Nat) (h1 : Nat) (h2 : Nat) (cint : ClassId) (sz : Nat) (n0_size : Int32) (n0_place : Int32) (f1 : Nat → Int32) (tn0_size : 0 ≤ n0_size.toInt ∧ n0_size.toInt ≤ 120) (tn0_place : 0 ≤ n0_place.toInt ∧ n0_place.toInt ≤ 120) (bf1 : ∀ j, j < 120 → 0 ≤ (f1 j).toInt ∧ (f1 j).toInt ≤ 255) (pr0 : (0 ≤ n0_place.toInt ∧ n0_place.toInt ≤ n0_size.toInt)) : Met l yX10_next wsX10_next ({ frames := 0, cells := 0, slots := 0, locals := 0 }) (va_Pc [.ref h0] (fun U => U.heap.size = sz ∧ va_P (dC, dI) vwCl [(h0, kO10 h1 n0_size n0_place h2), (h1, kAi cint 120 f1)] U.heap ∧ va_K (dC, dI) vwCl [(cint, .int)] U ∧ va_D (fun _ => True) [(h0, kO10 h1 n0_size n0_place h2), (h1, kAi cint 120 f1)])) (va_Qi (fun (r : Int32) (_ : Unit) => (((n0_place.toInt < n0_size.toInt) → r.toInt = ko_at f1 n0_size.toInt n0_place.toInt ∧ 0 ≤ r.toInt) ∧ (n0_size.toInt ≤ n0_place.toInt → r.toInt = -1 ∧ ko_at f1 n0_size.toInt n0_place.toInt = 0)) ∧ ((-1) ≤ r.toInt ∧ r.toInt ≤ 255)) (fun (_ : Unit) t => va_P (dC, dI) vwCl [(h0, kO10 h1 n0_size n0_place h2), (h1, kAi cint 120 f1)] t.heap ∧ va_K (dC, dI) vwCl [] t ∧ va_D (va_A [(h0, kO10 h1 n0_size n0_place h2), (h1, kAi cint 120 f1)] sz) [(h0, kO10 h1 n0_size n0_place h2), (h1, kAi cint 120 f1)]) (va_A [(h0, kO10 h1 n0_size n0_place h2), (h1, kAi cint 120 f1)] sz)) 0 0 (va_A [(h0, kO10 h1 n0_size n0_place h2), (h1, kAi cint 120 f1)] sz) := by
  refine Met.ofW (cc := cX10_next) (maxL := 1) (ret := (some .int)) (by decide) rfl ?_
  intro p e s m args below meth c s₁ B hml hv
  obtain ⟨rfl, hsz, hP, hK, hD0⟩ := hv
  have hx := B.exec
  have hb := B.bytes
  have hr := B.returns
  have hts := atoms_spec (ws := wsX10_next) B.pre
  have hown : s.vm.findClass RX10 = some m.cls := findClass_of_methodNamed B.named
  have hlocks := B.notSynchronized
  subst hsz
  have hD := hD0.self (sz := s.heap.size)
  generalize hAe : va_A [(h0, kO10 h1 n0_size n0_place h2), (h1, kAi cint 120 f1)] s.heap.size = A at hD ⊢
  have hA : ∀ q : Nat, s.heap.size ≤ q → A q := fun q h => by rw [← hAe]; exact Or.inr h
  have hS : va_S A s.heap s.heap [] := va_S.rf
  replace hP : va_P (dC, dI) vwCl [(h0, kO10 h1 n0_size n0_place h2), (h1, kAi cint 120 f1)] s.heap := hP
  have hl := lv_entry ([.ref h0]) (n := 1) (Nat.le_of_ble_eq_true rfl)
  rw [lg_entry_eq]
  generalize (lg_sl ([.ref h0]) ++ List.replicate (1 - (lg_sl ([.ref h0])).length) Slot.unset).toArray = ls at hl ⊢
  replace hl : lv_has ls 1 [(0, .ref h0)] := hl
  refine lv_aload_n hx hb dX10_next_0 rfl (lv_at hl 0 rfl) ?_
  refine va_get (D := (dC, dI)) (ci := 10) (v := .int n0_place) (C := RX10) (T := TX10) (N := 4) hx hb hts (fun _ h => List.mem_cons_of_mem _ (List.mem_append_right _ h)) hown hK hP 0 rfl rfl 2 (by decide) (hts (.fieldLink RX10 17 "KinkStreet$Tape" "place" "I") (List.mem_of_getElem? (i := 1) rfl)) (fun _ h9 => h9) rfl dX10_next_1 ?_
  refine lv_if_lt (tgt := 30) hx hb dX10_next_4 (by decide) (fun c_1 => ?_) (fun c_1 => ?_)
  · have t_1 : n0_place.toInt < 0 := kk_lt c_1
    exfalso; omega
  · have t_1 : 0 ≤ n0_place.toInt := kk_nlt c_1
    refine lv_aload_n hx hb dX10_next_7 rfl (lv_at hl 0 rfl) ?_
    refine va_get (D := (dC, dI)) (ci := 10) (v := .int n0_place) (C := RX10) (T := TX10) (N := 4) hx hb hts (fun _ h => List.mem_cons_of_mem _ (List.mem_append_right _ h)) hown hK hP 0 rfl rfl 2 (by decide) (hts (.fieldLink RX10 17 "KinkStreet$Tape" "place" "I") (List.mem_of_getElem? (i := 1) rfl)) (fun _ h9 => h9) rfl dX10_next_8 ?_
    refine lv_aload_n hx hb dX10_next_11 rfl (lv_at hl 0 rfl) ?_
    refine va_get (D := (dC, dI)) (ci := 10) (v := .int n0_size) (C := RX10) (T := TX10) (N := 4) hx hb hts (fun _ h => List.mem_cons_of_mem _ (List.mem_append_right _ h)) hown hK hP 0 rfl rfl 1 (by decide) (hts (.fieldLink RX10 13 "KinkStreet$Tape" "size" "I") (List.mem_of_getElem? (i := 2) rfl)) (fun _ h9 => h9) rfl dX10_next_12 ?_
    refine lv_icmp_ge (tgt := 30) hx hb dX10_next_15 (by decide) (fun c_2 => ?_) (fun c_2 => ?_)
    · have t_2 : n0_size.toInt ≤ n0_place.toInt := kk_le c_2
      have hk_3 : ko_at f1 n0_size.toInt n0_place.toInt = 0 := ko_at_out (by omega)
      refine lv_iconst (v := (-1)) hx hb dX10_next_30 kk_ic_m1 ?_
      obtain ⟨hP9, hD9⟩ := kk_leafout (wc := [(h0, kO10 h1 n0_size n0_place h2), (h1, kAi cint 120 f1)]) hP hD [0, 1] (by decide) rfl
      have hK9 := kk_Ks (tq := []) hK [] rfl
      exact W.iret (v := (-1)) hx hb hr (fun t ht hW => ⟨⟨(-1), (), rfl, ⟨(by show ((((n0_place : Int32).toInt < (n0_size : Int32).toInt) → ((-1) : Int) = ko_at f1 (n0_size : Int32).toInt (n0_place : Int32).toInt ∧ 0 ≤ ((-1) : Int)) ∧ ((n0_size : Int32).toInt ≤ (n0_place : Int32).toInt → ((-1) : Int) = -1 ∧ ko_at f1 (n0_size : Int32).toInt (n0_place : Int32).toInt = 0)); omega), (by show (-1) ≤ ((-1) : Int32).toInt ∧ ((-1) : Int32).toInt ≤ 255; first | with_reducible assumption | decide | (constructor <;> (omega)))⟩, by rw [ht]; exact hP9, va_K.moved hW.alike hK9, hD9⟩, hS.F ht⟩) hS.2.2 dX10_next_31
    · have t_2 : n0_place.toInt < n0_size.toInt := kk_nle c_2
      have hk_4 : ko_at f1 n0_size.toInt n0_place.toInt = (f1 (n0_place : Int32).toNatClampNeg).toInt := ko_at_in (by omega) (by omega)
      refine lv_aload_n hx hb dX10_next_18 rfl (lv_at hl 0 rfl) ?_
      refine va_get (D := (dC, dI)) (ci := 10) (v := .ref h1) (C := RX10) (T := TX10) (N := 4) hx hb hts (fun _ h => List.mem_cons_of_mem _ (List.mem_append_right _ h)) hown hK hP 0 rfl rfl 0 (by decide) (hts (.fieldLink RX10 9 "KinkStreet$Tape" "bytes" "[I") (List.mem_of_getElem? (i := 3) rfl)) (fun _ h9 => h9) rfl dX10_next_19 ?_
      refine lv_aload_n hx hb dX10_next_22 rfl (lv_at hl 0 rfl) ?_
      refine va_get (D := (dC, dI)) (ci := 10) (v := .int n0_place) (C := RX10) (T := TX10) (N := 4) hx hb hts (fun _ h => List.mem_cons_of_mem _ (List.mem_append_right _ h)) hown hK hP 0 rfl rfl 2 (by decide) (hts (.fieldLink RX10 17 "KinkStreet$Tape" "place" "I") (List.mem_of_getElem? (i := 1) rfl)) (fun _ h9 => h9) rfl dX10_next_23 ?_
      have hi_5 : vp_in n0_place 120 := (vp_in_iff.mpr ⟨by omega, by omega⟩)
      refine va_iald hx hb hK hP 1 0 rfl rfl hi_5 dX10_next_26 ?_
      refine lv_topi (fun y_5 e_5 => ?_)
      obtain rfl : y_5 = (f1 (n0_place : Int32).toNatClampNeg) := e_5
      have t_5 : 0 ≤ (f1 (n0_place : Int32).toNatClampNeg).toInt ∧ (f1 (n0_place : Int32).toNatClampNeg).toInt ≤ 255 := bf1 _ (Nat.not_le.mp fun q => hi_5 (Or.inr q))
      refine lv_goto (tgt := 31) hx hb dX10_next_27 (by decide) ?_
      obtain ⟨hP9, hD9⟩ := kk_leafout (wc := [(h0, kO10 h1 n0_size n0_place h2), (h1, kAi cint 120 f1)]) hP hD [0, 1] (by decide) rfl
      have hK9 := kk_Ks (tq := []) hK [] rfl
      exact W.iret (v := (f1 (n0_place : Int32).toNatClampNeg)) hx hb hr (fun t ht hW => ⟨⟨(f1 (n0_place : Int32).toNatClampNeg), (), rfl, ⟨(by show ((((n0_place : Int32).toInt < (n0_size : Int32).toInt) → ((f1 (n0_place : Int32).toNatClampNeg) : Int32).toInt = ko_at f1 (n0_size : Int32).toInt (n0_place : Int32).toInt ∧ 0 ≤ ((f1 (n0_place : Int32).toNatClampNeg) : Int32).toInt) ∧ ((n0_size : Int32).toInt ≤ (n0_place : Int32).toInt → ((f1 (n0_place : Int32).toNatClampNeg) : Int32).toInt = -1 ∧ ko_at f1 (n0_size : Int32).toInt (n0_place : Int32).toInt = 0)); omega), (by show (-1) ≤ ((f1 (n0_place : Int32).toNatClampNeg) : Int32).toInt ∧ ((f1 (n0_place : Int32).toNatClampNeg) : Int32).toInt ≤ 255; first | with_reducible assumption | (constructor <;> (omega)))⟩, by rw [ht]; exact hP9, va_K.moved hW.alike hK9, hD9⟩, hS.F ht⟩) hS.2.2 dX10_next_31
set_option maxHeartbeats 4000000 in
set_option maxRecDepth 100000 in
theorem g_X10_isDigit_1 (l : Launch) (dC : Nat → ClassId) (dI : Nat → Nat → Nat) (sz : Nat) (p0 : Int32) : Met l yX10_isDigit wsX10_isDigit ({ frames := 0, cells := 0, slots := 0, locals := 0 }) (va_Pc [.int p0] (fun U => U.heap.size = sz ∧ va_P (dC, dI) vwCl [] U.heap ∧ va_K (dC, dI) vwCl [] U ∧ va_D (fun _ => True) [])) (va_Qi (fun (r : Int32) (_ : Unit) => ((p0.toInt < 48 ∨ 57 < p0.toInt) ∧ (0 : Int32) = r) ∨ (48 ≤ p0.toInt ∧ p0.toInt ≤ 57 ∧ (48 ≤ p0.toInt ∧ p0.toInt ≤ 57) ∧ (1 : Int32) = r)) (fun (_ : Unit) t => va_P (dC, dI) vwCl [] t.heap ∧ va_K (dC, dI) vwCl [] t ∧ va_D (va_A [] sz) []) (va_A [] sz)) 0 0 (va_A [] sz) := by
  refine Met.ofW (cc := cX10_isDigit) (maxL := 1) (ret := (some .boolean)) (by decide) rfl ?_
  intro p e s m args below meth c s₁ B hml hv
  obtain ⟨rfl, hsz, hP, hK, hD0⟩ := hv
  have hx := B.exec
  have hb := B.bytes
  have hr := B.returns
  have hts := atoms_spec (ws := wsX10_isDigit) B.pre
  have hown : s.vm.findClass RX10 = some m.cls := findClass_of_methodNamed B.named
  have hlocks := B.notSynchronized
  subst hsz
  have hD := hD0.self (sz := s.heap.size)
  generalize hAe : va_A [] s.heap.size = A at hD ⊢
  have hA : ∀ q : Nat, s.heap.size ≤ q → A q := fun q h => by rw [← hAe]; exact Or.inr h
  have hS : va_S A s.heap s.heap [] := va_S.rf
  replace hP : va_P (dC, dI) vwCl [] s.heap := hP
  have hl := lv_entry ([.int p0]) (n := 1) (Nat.le_of_ble_eq_true rfl)
  rw [lg_entry_eq]
  generalize (lg_sl ([.int p0]) ++ List.replicate (1 - (lg_sl ([.int p0])).length) Slot.unset).toArray = ls at hl ⊢
  replace hl : lv_has ls 1 [(0, .int p0)] := hl
  refine lv_iload_n hx hb dX10_isDigit_0 rfl (lv_at hl 0 rfl) ?_
  refine lv_bipush (v := 48) hx hb dX10_isDigit_1 kk_bi_48 ?_
  refine lv_icmp_lt (tgt := 16) hx hb dX10_isDigit_3 (by decide) (fun c_1 => ?_) (fun c_1 => ?_)
  · have t_1 : p0.toInt < 48 := kk_lt c_1
    refine lv_iconst (v := 0) hx hb dX10_isDigit_16 kk_ic_0 ?_
    obtain ⟨hP9, hD9⟩ := kk_leafout (wc := []) hP hD [] (by decide) rfl
    have hK9 := kk_Ks (tq := []) hK [] rfl
    have := kk_rng p0
    exact W.zret (v := 0) hx hb hr rfl (fun t ht hW => ⟨⟨0, (), rfl, Or.inl ⟨(by show ((p0 : Int32).toInt < 48 ∨ 57 < (p0 : Int32).toInt); omega), rfl⟩, by rw [ht]; exact hP9, va_K.moved hW.alike hK9, hD9⟩, hS.F ht⟩) hS.2.2 dX10_isDigit_17
  · have t_1 : 48 ≤ p0.toInt := kk_nlt c_1
    refine lv_iload_n hx hb dX10_isDigit_6 rfl (lv_at hl 0 rfl) ?_
    refine lv_bipush (v := 57) hx hb dX10_isDigit_7 kk_bi_57 ?_
    refine lv_icmp_gt (tgt := 16) hx hb dX10_isDigit_9 (by decide) (fun c_2 => ?_) (fun c_2 => ?_)
    · have t_2 : 57 < p0.toInt := kk_lt c_2
      refine lv_iconst (v := 0) hx hb dX10_isDigit_16 kk_ic_0 ?_
      obtain ⟨hP9, hD9⟩ := kk_leafout (wc := []) hP hD [] (by decide) rfl
      have hK9 := kk_Ks (tq := []) hK [] rfl
      have := kk_rng p0
      exact W.zret (v := 0) hx hb hr rfl (fun t ht hW => ⟨⟨0, (), rfl, Or.inl ⟨(by show ((p0 : Int32).toInt < 48 ∨ 57 < (p0 : Int32).toInt); omega), rfl⟩, by rw [ht]; exact hP9, va_K.moved hW.alike hK9, hD9⟩, hS.F ht⟩) hS.2.2 dX10_isDigit_17
    · have t_2 : p0.toInt ≤ 57 := kk_nlt c_2
      refine lv_iconst (v := 1) hx hb dX10_isDigit_12 kk_ic_1 ?_
      refine lv_goto (tgt := 17) hx hb dX10_isDigit_13 (by decide) ?_
      obtain ⟨hP9, hD9⟩ := kk_leafout (wc := []) hP hD [] (by decide) rfl
      have hK9 := kk_Ks (tq := []) hK [] rfl
      exact W.zret (v := 1) hx hb hr rfl (fun t ht hW => ⟨⟨1, (), rfl, Or.inr (⟨by first | with_reducible assumption | (omega), by first | with_reducible assumption | (omega), (by show (48 ≤ (p0 : Int32).toInt ∧ (p0 : Int32).toInt ≤ 57); omega), rfl⟩), by rw [ht]; exact hP9, va_K.moved hW.alike hK9, hD9⟩, hS.F ht⟩) hS.2.2 dX10_isDigit_17
set_option maxHeartbeats 4000000 in
set_option maxRecDepth 100000 in
theorem g_X4_nameOf_1 (l : Launch) (dC : Nat → ClassId) (dI : Nat → Nat → Nat) (sz : Nat) (p0 : Int32) (aNAMES : Nat) : Met l yX4_nameOf wsX4_nameOf ({ frames := 0, cells := 0, slots := 0, locals := 0 }) (va_Pc [.int p0] (fun U => U.heap.size = sz ∧ va_P (dC, dI) vwCl [] U.heap ∧ va_K (dC, dI) vwCl [] U ∧ va_D (fun _ => True) [] ∧ va_Z "KinkStreet$Law" "NAMES" "[C" (.ref aNAMES) (va_A [] sz) U U.heap ∧ va_T .char aNAMES 8 tb_NAMES (va_A [] sz) U U.heap)) (va_Qi (fun (r : Int32) (_ : Unit) => ((0 ≤ r.toInt → (p0.toInt = 119 ∨ p0.toInt = 110 ∨ p0.toInt = 100 ∨ p0.toInt = 121 ∨ p0.toInt = 122 ∨ p0.toInt = 102 ∨ p0.toInt = 105 ∨ p0.toInt = 99)) ∧ (r.toInt < 0 → ¬ (p0.toInt = 119 ∨ p0.toInt = 110 ∨ p0.toInt = 100 ∨ p0.toInt = 121 ∨ p0.toInt = 122 ∨ p0.toInt = 102 ∨ p0.toInt = 105 ∨ p0.toInt = 99))) ∧ ((-2) ≤ r.toInt ∧ r.toInt ≤ 7)) (fun (_ : Unit) t => va_P (dC, dI) vwCl [] t.heap ∧ va_K (dC, dI) vwCl [] t ∧ va_D (va_A [] sz) []) (va_A [] sz)) 0 0 (va_A [] sz) := by
  refine Met.ofW (cc := cX4_nameOf) (maxL := 2) (ret := (some .int)) (by decide) rfl ?_
  intro p e s m args below meth c s₁ B hml hv
  obtain ⟨rfl, hsz, hP, hK, hD0, hZNAMES, hTNAMES⟩ := hv
  have hx := B.exec
  have hb := B.bytes
  have hr := B.returns
  have hts := atoms_spec (ws := wsX4_nameOf) B.pre
  have hown : s.vm.findClass RX4 = some m.cls := findClass_of_methodNamed B.named
  have hlocks := B.notSynchronized
  subst hsz
  have hD := hD0.self (sz := s.heap.size)
  generalize hAe : va_A [] s.heap.size = A at hD hZNAMES hTNAMES ⊢
  have hA : ∀ q : Nat, s.heap.size ≤ q → A q := fun q h => by rw [← hAe]; exact Or.inr h
  have hS : va_S A s.heap s.heap [] := va_S.rf
  replace hP : va_P (dC, dI) vwCl [] s.heap := hP
  have hl := lv_entry ([.int p0]) (n := 2) (Nat.le_of_ble_eq_true rfl)
  rw [lg_entry_eq]
  generalize (lg_sl ([.int p0]) ++ List.replicate (2 - (lg_sl ([.int p0])).length) Slot.unset).toArray = ls at hl ⊢
  replace hl : lv_has ls 2 [(0, .int p0)] := hl
  refine lv_iconst (v := 0) hx hb dX4_nameOf_0 kk_ic_0 ?_
  refine lv_istore_n hx hb dX4_nameOf_1 rfl hl (by decide) (rfl : _ = ([(1, .int 0), (0, .int p0)] : List (Nat × Value))) (fun ls hl => ?_)
  refine lv_iload_n hx hb dX4_nameOf_2 rfl (lv_at hl 0 rfl) ?_
  refine va_gets hx hb hZNAMES hS hown (hts (.fieldLink RX4 15 "KinkStreet$Law" "NAMES" "[C") (List.mem_of_getElem? (i := 1) rfl)) (fun _ h9 => h9) dX4_nameOf_3 ?_
  refine va_tlen (v := 8) hx hb hTNAMES hS rfl dX4_nameOf_6 ?_
  refine lv_icmp_ge (tgt := 27) hx hb dX4_nameOf_7 (by decide) (fun c => absurd c (by decide)) (fun _ => ?_)
  refine va_gets hx hb hZNAMES hS hown (hts (.fieldLink RX4 15 "KinkStreet$Law" "NAMES" "[C") (List.mem_of_getElem? (i := 1) rfl)) (fun _ h9 => h9) dX4_nameOf_10 ?_
  refine lv_iload_n hx hb dX4_nameOf_13 rfl (lv_at hl 0 rfl) ?_
  refine va_tc (v := .int 119) hx hb hTNAMES hS (by unfold vp_in; decide) rfl dX4_nameOf_14 ?_
  refine lv_iload_n hx hb dX4_nameOf_15 rfl (lv_at hl 1 rfl) ?_
  refine lv_icmp_ne (tgt := 21) hx hb dX4_nameOf_16 (by decide) (fun c_1 => ?_) (fun c_1 => ?_)
  · have t_1 : 119 ≠ p0.toInt := kk_ne c_1
    refine lv_iinc (v := 1) hx hb dX4_nameOf_21 hl (k := 0) rfl (by first | rfl | decide) (by decide) (rfl : _ = ([(1, .int 1), (0, .int p0)] : List (Nat × Value))) (fun ls hl => ?_)
    refine lv_goto (tgt := 2) hx hb dX4_nameOf_24 (by decide) ?_
    refine lv_iload_n hx hb dX4_nameOf_2 rfl (lv_at hl 0 rfl) ?_
    refine va_gets hx hb hZNAMES hS hown (hts (.fieldLink RX4 15 "KinkStreet$Law" "NAMES" "[C") (List.mem_of_getElem? (i := 1) rfl)) (fun _ h9 => h9) dX4_nameOf_3 ?_
    refine va_tlen (v := 8) hx hb hTNAMES hS rfl dX4_nameOf_6 ?_
    refine lv_icmp_ge (tgt := 27) hx hb dX4_nameOf_7 (by decide) (fun c => absurd c (by decide)) (fun _ => ?_)
    refine va_gets hx hb hZNAMES hS hown (hts (.fieldLink RX4 15 "KinkStreet$Law" "NAMES" "[C") (List.mem_of_getElem? (i := 1) rfl)) (fun _ h9 => h9) dX4_nameOf_10 ?_
    refine lv_iload_n hx hb dX4_nameOf_13 rfl (lv_at hl 0 rfl) ?_
    refine va_tc (v := .int 110) hx hb hTNAMES hS (by unfold vp_in; decide) rfl dX4_nameOf_14 ?_
    refine lv_iload_n hx hb dX4_nameOf_15 rfl (lv_at hl 1 rfl) ?_
    refine lv_icmp_ne (tgt := 21) hx hb dX4_nameOf_16 (by decide) (fun c_2 => ?_) (fun c_2 => ?_)
    · have t_2 : 110 ≠ p0.toInt := kk_ne c_2
      refine lv_iinc (v := 2) hx hb dX4_nameOf_21 hl (k := 0) rfl (by first | rfl | decide) (by decide) (rfl : _ = ([(1, .int 2), (0, .int p0)] : List (Nat × Value))) (fun ls hl => ?_)
      refine lv_goto (tgt := 2) hx hb dX4_nameOf_24 (by decide) ?_
      refine lv_iload_n hx hb dX4_nameOf_2 rfl (lv_at hl 0 rfl) ?_
      refine va_gets hx hb hZNAMES hS hown (hts (.fieldLink RX4 15 "KinkStreet$Law" "NAMES" "[C") (List.mem_of_getElem? (i := 1) rfl)) (fun _ h9 => h9) dX4_nameOf_3 ?_
      refine va_tlen (v := 8) hx hb hTNAMES hS rfl dX4_nameOf_6 ?_
      refine lv_icmp_ge (tgt := 27) hx hb dX4_nameOf_7 (by decide) (fun c => absurd c (by decide)) (fun _ => ?_)
      refine va_gets hx hb hZNAMES hS hown (hts (.fieldLink RX4 15 "KinkStreet$Law" "NAMES" "[C") (List.mem_of_getElem? (i := 1) rfl)) (fun _ h9 => h9) dX4_nameOf_10 ?_
      refine lv_iload_n hx hb dX4_nameOf_13 rfl (lv_at hl 0 rfl) ?_
      refine va_tc (v := .int 100) hx hb hTNAMES hS (by unfold vp_in; decide) rfl dX4_nameOf_14 ?_
      refine lv_iload_n hx hb dX4_nameOf_15 rfl (lv_at hl 1 rfl) ?_
      refine lv_icmp_ne (tgt := 21) hx hb dX4_nameOf_16 (by decide) (fun c_3 => ?_) (fun c_3 => ?_)
      · have t_3 : 100 ≠ p0.toInt := kk_ne c_3
        refine lv_iinc (v := 3) hx hb dX4_nameOf_21 hl (k := 0) rfl (by first | rfl | decide) (by decide) (rfl : _ = ([(1, .int 3), (0, .int p0)] : List (Nat × Value))) (fun ls hl => ?_)
        refine lv_goto (tgt := 2) hx hb dX4_nameOf_24 (by decide) ?_
        refine lv_iload_n hx hb dX4_nameOf_2 rfl (lv_at hl 0 rfl) ?_
        refine va_gets hx hb hZNAMES hS hown (hts (.fieldLink RX4 15 "KinkStreet$Law" "NAMES" "[C") (List.mem_of_getElem? (i := 1) rfl)) (fun _ h9 => h9) dX4_nameOf_3 ?_
        refine va_tlen (v := 8) hx hb hTNAMES hS rfl dX4_nameOf_6 ?_
        refine lv_icmp_ge (tgt := 27) hx hb dX4_nameOf_7 (by decide) (fun c => absurd c (by decide)) (fun _ => ?_)
        refine va_gets hx hb hZNAMES hS hown (hts (.fieldLink RX4 15 "KinkStreet$Law" "NAMES" "[C") (List.mem_of_getElem? (i := 1) rfl)) (fun _ h9 => h9) dX4_nameOf_10 ?_
        refine lv_iload_n hx hb dX4_nameOf_13 rfl (lv_at hl 0 rfl) ?_
        refine va_tc (v := .int 121) hx hb hTNAMES hS (by unfold vp_in; decide) rfl dX4_nameOf_14 ?_
        refine lv_iload_n hx hb dX4_nameOf_15 rfl (lv_at hl 1 rfl) ?_
        refine lv_icmp_ne (tgt := 21) hx hb dX4_nameOf_16 (by decide) (fun c_4 => ?_) (fun c_4 => ?_)
        · have t_4 : 121 ≠ p0.toInt := kk_ne c_4
          refine lv_iinc (v := 4) hx hb dX4_nameOf_21 hl (k := 0) rfl (by first | rfl | decide) (by decide) (rfl : _ = ([(1, .int 4), (0, .int p0)] : List (Nat × Value))) (fun ls hl => ?_)
          refine lv_goto (tgt := 2) hx hb dX4_nameOf_24 (by decide) ?_
          refine lv_iload_n hx hb dX4_nameOf_2 rfl (lv_at hl 0 rfl) ?_
          refine va_gets hx hb hZNAMES hS hown (hts (.fieldLink RX4 15 "KinkStreet$Law" "NAMES" "[C") (List.mem_of_getElem? (i := 1) rfl)) (fun _ h9 => h9) dX4_nameOf_3 ?_
          refine va_tlen (v := 8) hx hb hTNAMES hS rfl dX4_nameOf_6 ?_
          refine lv_icmp_ge (tgt := 27) hx hb dX4_nameOf_7 (by decide) (fun c => absurd c (by decide)) (fun _ => ?_)
          refine va_gets hx hb hZNAMES hS hown (hts (.fieldLink RX4 15 "KinkStreet$Law" "NAMES" "[C") (List.mem_of_getElem? (i := 1) rfl)) (fun _ h9 => h9) dX4_nameOf_10 ?_
          refine lv_iload_n hx hb dX4_nameOf_13 rfl (lv_at hl 0 rfl) ?_
          refine va_tc (v := .int 122) hx hb hTNAMES hS (by unfold vp_in; decide) rfl dX4_nameOf_14 ?_
          refine lv_iload_n hx hb dX4_nameOf_15 rfl (lv_at hl 1 rfl) ?_
          refine lv_icmp_ne (tgt := 21) hx hb dX4_nameOf_16 (by decide) (fun c_5 => ?_) (fun c_5 => ?_)
          · have t_5 : 122 ≠ p0.toInt := kk_ne c_5
            refine lv_iinc (v := 5) hx hb dX4_nameOf_21 hl (k := 0) rfl (by first | rfl | decide) (by decide) (rfl : _ = ([(1, .int 5), (0, .int p0)] : List (Nat × Value))) (fun ls hl => ?_)
            refine lv_goto (tgt := 2) hx hb dX4_nameOf_24 (by decide) ?_
            refine lv_iload_n hx hb dX4_nameOf_2 rfl (lv_at hl 0 rfl) ?_
            refine va_gets hx hb hZNAMES hS hown (hts (.fieldLink RX4 15 "KinkStreet$Law" "NAMES" "[C") (List.mem_of_getElem? (i := 1) rfl)) (fun _ h9 => h9) dX4_nameOf_3 ?_
            refine va_tlen (v := 8) hx hb hTNAMES hS rfl dX4_nameOf_6 ?_
            refine lv_icmp_ge (tgt := 27) hx hb dX4_nameOf_7 (by decide) (fun c => absurd c (by decide)) (fun _ => ?_)
            refine va_gets hx hb hZNAMES hS hown (hts (.fieldLink RX4 15 "KinkStreet$Law" "NAMES" "[C") (List.mem_of_getElem? (i := 1) rfl)) (fun _ h9 => h9) dX4_nameOf_10 ?_
            refine lv_iload_n hx hb dX4_nameOf_13 rfl (lv_at hl 0 rfl) ?_
            refine va_tc (v := .int 102) hx hb hTNAMES hS (by unfold vp_in; decide) rfl dX4_nameOf_14 ?_
            refine lv_iload_n hx hb dX4_nameOf_15 rfl (lv_at hl 1 rfl) ?_
            refine lv_icmp_ne (tgt := 21) hx hb dX4_nameOf_16 (by decide) (fun c_6 => ?_) (fun c_6 => ?_)
            · have t_6 : 102 ≠ p0.toInt := kk_ne c_6
              refine lv_iinc (v := 6) hx hb dX4_nameOf_21 hl (k := 0) rfl (by first | rfl | decide) (by decide) (rfl : _ = ([(1, .int 6), (0, .int p0)] : List (Nat × Value))) (fun ls hl => ?_)
              refine lv_goto (tgt := 2) hx hb dX4_nameOf_24 (by decide) ?_
              refine lv_iload_n hx hb dX4_nameOf_2 rfl (lv_at hl 0 rfl) ?_
              refine va_gets hx hb hZNAMES hS hown (hts (.fieldLink RX4 15 "KinkStreet$Law" "NAMES" "[C") (List.mem_of_getElem? (i := 1) rfl)) (fun _ h9 => h9) dX4_nameOf_3 ?_
              refine va_tlen (v := 8) hx hb hTNAMES hS rfl dX4_nameOf_6 ?_
              refine lv_icmp_ge (tgt := 27) hx hb dX4_nameOf_7 (by decide) (fun c => absurd c (by decide)) (fun _ => ?_)
              refine va_gets hx hb hZNAMES hS hown (hts (.fieldLink RX4 15 "KinkStreet$Law" "NAMES" "[C") (List.mem_of_getElem? (i := 1) rfl)) (fun _ h9 => h9) dX4_nameOf_10 ?_
              refine lv_iload_n hx hb dX4_nameOf_13 rfl (lv_at hl 0 rfl) ?_
              refine va_tc (v := .int 105) hx hb hTNAMES hS (by unfold vp_in; decide) rfl dX4_nameOf_14 ?_
              refine lv_iload_n hx hb dX4_nameOf_15 rfl (lv_at hl 1 rfl) ?_
              refine lv_icmp_ne (tgt := 21) hx hb dX4_nameOf_16 (by decide) (fun c_7 => ?_) (fun c_7 => ?_)
              · have t_7 : 105 ≠ p0.toInt := kk_ne c_7
                refine lv_iinc (v := 7) hx hb dX4_nameOf_21 hl (k := 0) rfl (by first | rfl | decide) (by decide) (rfl : _ = ([(1, .int 7), (0, .int p0)] : List (Nat × Value))) (fun ls hl => ?_)
                refine lv_goto (tgt := 2) hx hb dX4_nameOf_24 (by decide) ?_
                refine lv_iload_n hx hb dX4_nameOf_2 rfl (lv_at hl 0 rfl) ?_
                refine va_gets hx hb hZNAMES hS hown (hts (.fieldLink RX4 15 "KinkStreet$Law" "NAMES" "[C") (List.mem_of_getElem? (i := 1) rfl)) (fun _ h9 => h9) dX4_nameOf_3 ?_
                refine va_tlen (v := 8) hx hb hTNAMES hS rfl dX4_nameOf_6 ?_
                refine lv_icmp_ge (tgt := 27) hx hb dX4_nameOf_7 (by decide) (fun c => absurd c (by decide)) (fun _ => ?_)
                refine va_gets hx hb hZNAMES hS hown (hts (.fieldLink RX4 15 "KinkStreet$Law" "NAMES" "[C") (List.mem_of_getElem? (i := 1) rfl)) (fun _ h9 => h9) dX4_nameOf_10 ?_
                refine lv_iload_n hx hb dX4_nameOf_13 rfl (lv_at hl 0 rfl) ?_
                refine va_tc (v := .int 99) hx hb hTNAMES hS (by unfold vp_in; decide) rfl dX4_nameOf_14 ?_
                refine lv_iload_n hx hb dX4_nameOf_15 rfl (lv_at hl 1 rfl) ?_
                refine lv_icmp_ne (tgt := 21) hx hb dX4_nameOf_16 (by decide) (fun c_8 => ?_) (fun c_8 => ?_)
                · have t_8 : 99 ≠ p0.toInt := kk_ne c_8
                  refine lv_iinc (v := 8) hx hb dX4_nameOf_21 hl (k := 0) rfl (by first | rfl | decide) (by decide) (rfl : _ = ([(1, .int 8), (0, .int p0)] : List (Nat × Value))) (fun ls hl => ?_)
                  refine lv_goto (tgt := 2) hx hb dX4_nameOf_24 (by decide) ?_
                  refine lv_iload_n hx hb dX4_nameOf_2 rfl (lv_at hl 0 rfl) ?_
                  refine va_gets hx hb hZNAMES hS hown (hts (.fieldLink RX4 15 "KinkStreet$Law" "NAMES" "[C") (List.mem_of_getElem? (i := 1) rfl)) (fun _ h9 => h9) dX4_nameOf_3 ?_
                  refine va_tlen (v := 8) hx hb hTNAMES hS rfl dX4_nameOf_6 ?_
                  refine lv_icmp_ge (tgt := 27) hx hb dX4_nameOf_7 (by decide) (fun _ => ?_) (fun c => absurd c (by decide))
                  refine lv_bipush (v := (-2)) hx hb dX4_nameOf_27 kk_bi_m2 ?_
                  obtain ⟨hP9, hD9⟩ := kk_leafout (wc := []) hP hD [] (by decide) rfl
                  have hK9 := kk_Ks (tq := []) hK [] rfl
                  exact W.iret (v := (-2)) hx hb hr (fun t ht hW => ⟨⟨(-2), (), rfl, ⟨(by show ((0 ≤ ((-2) : Int) → ((p0 : Int32).toInt = 119 ∨ (p0 : Int32).toInt = 110 ∨ (p0 : Int32).toInt = 100 ∨ (p0 : Int32).toInt = 121 ∨ (p0 : Int32).toInt = 122 ∨ (p0 : Int32).toInt = 102 ∨ (p0 : Int32).toInt = 105 ∨ (p0 : Int32).toInt = 99)) ∧ (((-2) : Int) < 0 → ¬ ((p0 : Int32).toInt = 119 ∨ (p0 : Int32).toInt = 110 ∨ (p0 : Int32).toInt = 100 ∨ (p0 : Int32).toInt = 121 ∨ (p0 : Int32).toInt = 122 ∨ (p0 : Int32).toInt = 102 ∨ (p0 : Int32).toInt = 105 ∨ (p0 : Int32).toInt = 99))); omega), (by show (-2) ≤ ((-2) : Int32).toInt ∧ ((-2) : Int32).toInt ≤ 7; first | with_reducible assumption | decide | (constructor <;> (omega)))⟩, by rw [ht]; exact hP9, va_K.moved hW.alike hK9, hD9⟩, hS.F ht⟩) hS.2.2 dX4_nameOf_29
                · have t_8 : 99 = p0.toInt := kk_eq c_8
                  refine lv_iload_n hx hb dX4_nameOf_19 rfl (lv_at hl 0 rfl) ?_
                  obtain ⟨hP9, hD9⟩ := kk_leafout (wc := []) hP hD [] (by decide) rfl
                  have hK9 := kk_Ks (tq := []) hK [] rfl
                  exact W.iret (v := 7) hx hb hr (fun t ht hW => ⟨⟨7, (), rfl, ⟨(by show ((0 ≤ (7 : Int) → ((p0 : Int32).toInt = 119 ∨ (p0 : Int32).toInt = 110 ∨ (p0 : Int32).toInt = 100 ∨ (p0 : Int32).toInt = 121 ∨ (p0 : Int32).toInt = 122 ∨ (p0 : Int32).toInt = 102 ∨ (p0 : Int32).toInt = 105 ∨ (p0 : Int32).toInt = 99)) ∧ ((7 : Int) < 0 → ¬ ((p0 : Int32).toInt = 119 ∨ (p0 : Int32).toInt = 110 ∨ (p0 : Int32).toInt = 100 ∨ (p0 : Int32).toInt = 121 ∨ (p0 : Int32).toInt = 122 ∨ (p0 : Int32).toInt = 102 ∨ (p0 : Int32).toInt = 105 ∨ (p0 : Int32).toInt = 99))); omega), (by show (-2) ≤ (7 : Int32).toInt ∧ (7 : Int32).toInt ≤ 7; first | with_reducible assumption | decide | (constructor <;> (omega)))⟩, by rw [ht]; exact hP9, va_K.moved hW.alike hK9, hD9⟩, hS.F ht⟩) hS.2.2 dX4_nameOf_20
              · have t_7 : 105 = p0.toInt := kk_eq c_7
                refine lv_iload_n hx hb dX4_nameOf_19 rfl (lv_at hl 0 rfl) ?_
                obtain ⟨hP9, hD9⟩ := kk_leafout (wc := []) hP hD [] (by decide) rfl
                have hK9 := kk_Ks (tq := []) hK [] rfl
                exact W.iret (v := 6) hx hb hr (fun t ht hW => ⟨⟨6, (), rfl, ⟨(by show ((0 ≤ (6 : Int) → ((p0 : Int32).toInt = 119 ∨ (p0 : Int32).toInt = 110 ∨ (p0 : Int32).toInt = 100 ∨ (p0 : Int32).toInt = 121 ∨ (p0 : Int32).toInt = 122 ∨ (p0 : Int32).toInt = 102 ∨ (p0 : Int32).toInt = 105 ∨ (p0 : Int32).toInt = 99)) ∧ ((6 : Int) < 0 → ¬ ((p0 : Int32).toInt = 119 ∨ (p0 : Int32).toInt = 110 ∨ (p0 : Int32).toInt = 100 ∨ (p0 : Int32).toInt = 121 ∨ (p0 : Int32).toInt = 122 ∨ (p0 : Int32).toInt = 102 ∨ (p0 : Int32).toInt = 105 ∨ (p0 : Int32).toInt = 99))); omega), (by show (-2) ≤ (6 : Int32).toInt ∧ (6 : Int32).toInt ≤ 7; first | with_reducible assumption | decide | (constructor <;> (omega)))⟩, by rw [ht]; exact hP9, va_K.moved hW.alike hK9, hD9⟩, hS.F ht⟩) hS.2.2 dX4_nameOf_20
            · have t_6 : 102 = p0.toInt := kk_eq c_6
              refine lv_iload_n hx hb dX4_nameOf_19 rfl (lv_at hl 0 rfl) ?_
              obtain ⟨hP9, hD9⟩ := kk_leafout (wc := []) hP hD [] (by decide) rfl
              have hK9 := kk_Ks (tq := []) hK [] rfl
              exact W.iret (v := 5) hx hb hr (fun t ht hW => ⟨⟨5, (), rfl, ⟨(by show ((0 ≤ (5 : Int) → ((p0 : Int32).toInt = 119 ∨ (p0 : Int32).toInt = 110 ∨ (p0 : Int32).toInt = 100 ∨ (p0 : Int32).toInt = 121 ∨ (p0 : Int32).toInt = 122 ∨ (p0 : Int32).toInt = 102 ∨ (p0 : Int32).toInt = 105 ∨ (p0 : Int32).toInt = 99)) ∧ ((5 : Int) < 0 → ¬ ((p0 : Int32).toInt = 119 ∨ (p0 : Int32).toInt = 110 ∨ (p0 : Int32).toInt = 100 ∨ (p0 : Int32).toInt = 121 ∨ (p0 : Int32).toInt = 122 ∨ (p0 : Int32).toInt = 102 ∨ (p0 : Int32).toInt = 105 ∨ (p0 : Int32).toInt = 99))); omega), (by show (-2) ≤ (5 : Int32).toInt ∧ (5 : Int32).toInt ≤ 7; first | with_reducible assumption | decide | (constructor <;> (omega)))⟩, by rw [ht]; exact hP9, va_K.moved hW.alike hK9, hD9⟩, hS.F ht⟩) hS.2.2 dX4_nameOf_20
          · have t_5 : 122 = p0.toInt := kk_eq c_5
            refine lv_iload_n hx hb dX4_nameOf_19 rfl (lv_at hl 0 rfl) ?_
            obtain ⟨hP9, hD9⟩ := kk_leafout (wc := []) hP hD [] (by decide) rfl
            have hK9 := kk_Ks (tq := []) hK [] rfl
            exact W.iret (v := 4) hx hb hr (fun t ht hW => ⟨⟨4, (), rfl, ⟨(by show ((0 ≤ (4 : Int) → ((p0 : Int32).toInt = 119 ∨ (p0 : Int32).toInt = 110 ∨ (p0 : Int32).toInt = 100 ∨ (p0 : Int32).toInt = 121 ∨ (p0 : Int32).toInt = 122 ∨ (p0 : Int32).toInt = 102 ∨ (p0 : Int32).toInt = 105 ∨ (p0 : Int32).toInt = 99)) ∧ ((4 : Int) < 0 → ¬ ((p0 : Int32).toInt = 119 ∨ (p0 : Int32).toInt = 110 ∨ (p0 : Int32).toInt = 100 ∨ (p0 : Int32).toInt = 121 ∨ (p0 : Int32).toInt = 122 ∨ (p0 : Int32).toInt = 102 ∨ (p0 : Int32).toInt = 105 ∨ (p0 : Int32).toInt = 99))); omega), (by show (-2) ≤ (4 : Int32).toInt ∧ (4 : Int32).toInt ≤ 7; first | with_reducible assumption | decide | (constructor <;> (omega)))⟩, by rw [ht]; exact hP9, va_K.moved hW.alike hK9, hD9⟩, hS.F ht⟩) hS.2.2 dX4_nameOf_20
        · have t_4 : 121 = p0.toInt := kk_eq c_4
          refine lv_iload_n hx hb dX4_nameOf_19 rfl (lv_at hl 0 rfl) ?_
          obtain ⟨hP9, hD9⟩ := kk_leafout (wc := []) hP hD [] (by decide) rfl
          have hK9 := kk_Ks (tq := []) hK [] rfl
          exact W.iret (v := 3) hx hb hr (fun t ht hW => ⟨⟨3, (), rfl, ⟨(by show ((0 ≤ (3 : Int) → ((p0 : Int32).toInt = 119 ∨ (p0 : Int32).toInt = 110 ∨ (p0 : Int32).toInt = 100 ∨ (p0 : Int32).toInt = 121 ∨ (p0 : Int32).toInt = 122 ∨ (p0 : Int32).toInt = 102 ∨ (p0 : Int32).toInt = 105 ∨ (p0 : Int32).toInt = 99)) ∧ ((3 : Int) < 0 → ¬ ((p0 : Int32).toInt = 119 ∨ (p0 : Int32).toInt = 110 ∨ (p0 : Int32).toInt = 100 ∨ (p0 : Int32).toInt = 121 ∨ (p0 : Int32).toInt = 122 ∨ (p0 : Int32).toInt = 102 ∨ (p0 : Int32).toInt = 105 ∨ (p0 : Int32).toInt = 99))); omega), (by show (-2) ≤ (3 : Int32).toInt ∧ (3 : Int32).toInt ≤ 7; first | with_reducible assumption | decide | (constructor <;> (omega)))⟩, by rw [ht]; exact hP9, va_K.moved hW.alike hK9, hD9⟩, hS.F ht⟩) hS.2.2 dX4_nameOf_20
      · have t_3 : 100 = p0.toInt := kk_eq c_3
        refine lv_iload_n hx hb dX4_nameOf_19 rfl (lv_at hl 0 rfl) ?_
        obtain ⟨hP9, hD9⟩ := kk_leafout (wc := []) hP hD [] (by decide) rfl
        have hK9 := kk_Ks (tq := []) hK [] rfl
        exact W.iret (v := 2) hx hb hr (fun t ht hW => ⟨⟨2, (), rfl, ⟨(by show ((0 ≤ (2 : Int) → ((p0 : Int32).toInt = 119 ∨ (p0 : Int32).toInt = 110 ∨ (p0 : Int32).toInt = 100 ∨ (p0 : Int32).toInt = 121 ∨ (p0 : Int32).toInt = 122 ∨ (p0 : Int32).toInt = 102 ∨ (p0 : Int32).toInt = 105 ∨ (p0 : Int32).toInt = 99)) ∧ ((2 : Int) < 0 → ¬ ((p0 : Int32).toInt = 119 ∨ (p0 : Int32).toInt = 110 ∨ (p0 : Int32).toInt = 100 ∨ (p0 : Int32).toInt = 121 ∨ (p0 : Int32).toInt = 122 ∨ (p0 : Int32).toInt = 102 ∨ (p0 : Int32).toInt = 105 ∨ (p0 : Int32).toInt = 99))); omega), (by show (-2) ≤ (2 : Int32).toInt ∧ (2 : Int32).toInt ≤ 7; first | with_reducible assumption | decide | (constructor <;> (omega)))⟩, by rw [ht]; exact hP9, va_K.moved hW.alike hK9, hD9⟩, hS.F ht⟩) hS.2.2 dX4_nameOf_20
    · have t_2 : 110 = p0.toInt := kk_eq c_2
      refine lv_iload_n hx hb dX4_nameOf_19 rfl (lv_at hl 0 rfl) ?_
      obtain ⟨hP9, hD9⟩ := kk_leafout (wc := []) hP hD [] (by decide) rfl
      have hK9 := kk_Ks (tq := []) hK [] rfl
      exact W.iret (v := 1) hx hb hr (fun t ht hW => ⟨⟨1, (), rfl, ⟨(by show ((0 ≤ (1 : Int) → ((p0 : Int32).toInt = 119 ∨ (p0 : Int32).toInt = 110 ∨ (p0 : Int32).toInt = 100 ∨ (p0 : Int32).toInt = 121 ∨ (p0 : Int32).toInt = 122 ∨ (p0 : Int32).toInt = 102 ∨ (p0 : Int32).toInt = 105 ∨ (p0 : Int32).toInt = 99)) ∧ ((1 : Int) < 0 → ¬ ((p0 : Int32).toInt = 119 ∨ (p0 : Int32).toInt = 110 ∨ (p0 : Int32).toInt = 100 ∨ (p0 : Int32).toInt = 121 ∨ (p0 : Int32).toInt = 122 ∨ (p0 : Int32).toInt = 102 ∨ (p0 : Int32).toInt = 105 ∨ (p0 : Int32).toInt = 99))); omega), (by show (-2) ≤ (1 : Int32).toInt ∧ (1 : Int32).toInt ≤ 7; first | with_reducible assumption | decide | (constructor <;> (omega)))⟩, by rw [ht]; exact hP9, va_K.moved hW.alike hK9, hD9⟩, hS.F ht⟩) hS.2.2 dX4_nameOf_20
  · have t_1 : 119 = p0.toInt := kk_eq c_1
    refine lv_iload_n hx hb dX4_nameOf_19 rfl (lv_at hl 0 rfl) ?_
    obtain ⟨hP9, hD9⟩ := kk_leafout (wc := []) hP hD [] (by decide) rfl
    have hK9 := kk_Ks (tq := []) hK [] rfl
    exact W.iret (v := 0) hx hb hr (fun t ht hW => ⟨⟨0, (), rfl, ⟨(by show ((0 ≤ (0 : Int) → ((p0 : Int32).toInt = 119 ∨ (p0 : Int32).toInt = 110 ∨ (p0 : Int32).toInt = 100 ∨ (p0 : Int32).toInt = 121 ∨ (p0 : Int32).toInt = 122 ∨ (p0 : Int32).toInt = 102 ∨ (p0 : Int32).toInt = 105 ∨ (p0 : Int32).toInt = 99)) ∧ ((0 : Int) < 0 → ¬ ((p0 : Int32).toInt = 119 ∨ (p0 : Int32).toInt = 110 ∨ (p0 : Int32).toInt = 100 ∨ (p0 : Int32).toInt = 121 ∨ (p0 : Int32).toInt = 122 ∨ (p0 : Int32).toInt = 102 ∨ (p0 : Int32).toInt = 105 ∨ (p0 : Int32).toInt = 99))); omega), (by show (-2) ≤ (0 : Int32).toInt ∧ (0 : Int32).toInt ≤ 7; first | with_reducible assumption | decide | (constructor <;> (omega)))⟩, by rw [ht]; exact hP9, va_K.moved hW.alike hK9, hD9⟩, hS.F ht⟩) hS.2.2 dX4_nameOf_20
set_option maxHeartbeats 4000000 in
set_option maxRecDepth 100000 in
theorem g_X10_readNumber_1 (l : Launch) (dC : Nat → ClassId) (dI : Nat → Nat → Nat) (h0 : Nat) (h1 : Nat) (h2 : Nat) (h3 : Nat) (h4 : Nat) (h5 : Nat) (cint : ClassId) (sz : Nat) (n0_size : Int32) (n0_place : Int32) (f1 : Nat → Int32) (n2_size : Int32) (n2_top : Int32) (f3 : Nat → Int32) (tn0_size : 0 ≤ n0_size.toInt ∧ n0_size.toInt ≤ 120) (tn0_place : 0 ≤ n0_place.toInt ∧ n0_place.toInt ≤ 120) (bf1 : ∀ j, j < 120 → 0 ≤ (f1 j).toInt ∧ (f1 j).toInt ≤ 255) (tn2_size : kk_bx (0 ≤ n2_size.toInt ∧ n2_size.toInt ≤ 128)) (tn2_top : kk_bx (0 ≤ n2_top.toInt ∧ n2_top.toInt ≤ 64)) (pr0 : (0 ≤ n0_place.toInt ∧ n0_place.toInt ≤ n0_size.toInt)) : Met l yX10_readNumber wsX10_readNumber ({ frames := 1, cells := 0, slots := 0, locals := 21 }) (va_Pc [.ref h0] (fun U => U.heap.size = sz ∧ va_P (dC, dI) vwCl [(h0, kO10 h1 n0_size n0_place h2), (h1, kAi cint 120 f1), (h2, kO4 h3 n2_size h4 h5 n2_top), (h3, kAi cint 128 f3)] U.heap ∧ va_K (dC, dI) vwCl [(cint, .int)] U ∧ va_D (fun _ => True) [(h0, kO10 h1 n0_size n0_place h2), (h1, kAi cint 120 f1), (h2, kO4 h3 n2_size h4 h5 n2_top), (h3, kAi cint 128 f3)])) (va_Qv (fun (_ : Unit) => True) (fun (_ : Unit) t => ∃ (m0_place : Int32) (m2_size : Int32) (g3 : Nat → Int32), (0 ≤ m0_place.toInt ∧ m0_place.toInt ≤ 120) ∧ (1 ≤ m2_size.toInt ∧ m2_size.toInt ≤ 128) ∧ ((m0_place.toInt = ko_F (ko_at f1 n0_size.toInt) 4 n0_place.toInt ∧ n0_place.toInt ≤ m0_place.toInt ∧ m0_place.toInt ≤ n0_size.toInt)) ∧ va_P (dC, dI) vwCl [(h0, kO10 h1 n0_size m0_place h2), (h1, kAi cint 120 f1), (h2, kO4 h3 m2_size h4 h5 n2_top), (h3, kAi cint 128 g3)] t.heap ∧ va_K (dC, dI) vwCl [] t ∧ va_D (va_A [(h0, kO10 h1 n0_size n0_place h2), (h1, kAi cint 120 f1), (h2, kO4 h3 n2_size h4 h5 n2_top), (h3, kAi cint 128 f3)] sz) [(h0, kO10 h1 n0_size m0_place h2), (h1, kAi cint 120 f1), (h2, kO4 h3 m2_size h4 h5 n2_top), (h3, kAi cint 128 g3)]) (va_A [(h0, kO10 h1 n0_size n0_place h2), (h1, kAi cint 120 f1), (h2, kO4 h3 n2_size h4 h5 n2_top), (h3, kAi cint 128 f3)] sz)) 0 0 (va_A [(h0, kO10 h1 n0_size n0_place h2), (h1, kAi cint 120 f1), (h2, kO4 h3 n2_size h4 h5 n2_top), (h3, kAi cint 128 f3)] sz) := by
  refine Met.ofW (cc := cX10_readNumber) (maxL := 3) (ret := none) (by decide) rfl ?_
  intro p e s m args below meth c s₁ B hml hv
  obtain ⟨rfl, hsz, hP, hK, hD0⟩ := hv
  have hx := B.exec
  have hb := B.bytes
  have hr := B.returns
  have hts := atoms_spec (ws := wsX10_readNumber) B.pre
  have hown : s.vm.findClass RX10 = some m.cls := findClass_of_methodNamed B.named
  have hlocks := B.notSynchronized
  subst hsz
  have hD := hD0.self (sz := s.heap.size)
  generalize hAe : va_A [(h0, kO10 h1 n0_size n0_place h2), (h1, kAi cint 120 f1), (h2, kO4 h3 n2_size h4 h5 n2_top), (h3, kAi cint 128 f3)] s.heap.size = A at hD ⊢
  have hA : ∀ q : Nat, s.heap.size ≤ q → A q := fun q h => by rw [← hAe]; exact Or.inr h
  have hS : va_S A s.heap s.heap [] := va_S.rf
  replace hP : va_P (dC, dI) vwCl [(h0, kO10 h1 n0_size n0_place h2), (h1, kAi cint 120 f1), (h2, kO4 h3 n2_size h4 h5 n2_top), (h3, kAi cint 128 f3)] s.heap := hP
  have hl := lv_entry ([.ref h0]) (n := 3) (Nat.le_of_ble_eq_true rfl)
  rw [lg_entry_eq]
  generalize (lg_sl ([.ref h0]) ++ List.replicate (3 - (lg_sl ([.ref h0])).length) Slot.unset).toArray = ls at hl ⊢
  replace hl : lv_has ls 3 [(0, .ref h0)] := hl
  refine lv_iconst (v := 0) hx hb dX10_readNumber_0 kk_ic_0 ?_
  refine lv_istore_n hx hb dX10_readNumber_1 rfl hl (by decide) (rfl : _ = ([(1, .int 0), (0, .ref h0)] : List (Nat × Value))) (fun ls hl => ?_)
  refine lv_iconst (v := 0) hx hb dX10_readNumber_2 kk_ic_0 ?_
  have hk_1 : ko_F (ko_at f1 n0_size.toInt) (4 - (0 : Int)) n0_place.toInt = ko_F (ko_at f1 n0_size.toInt) 4 n0_place.toInt := rfl
  refine lv_istore_n hx hb dX10_readNumber_3 rfl hl (by decide) (rfl : _ = ([(2, .int 0), (1, .int 0), (0, .ref h0)] : List (Nat × Value))) (fun ls hl => ?_)
  refine kk_loop (σ := Int32 × Int32 × Int32) (fun x H locs ls => (0 ≤ x.1.toInt ∧ x.1.toInt ≤ 4) ∧ 0 ≤ x.2.2.toInt ∧ x.2.2.toInt ≤ 120 ∧ (ko_F (ko_at f1 n0_size.toInt) (4 - x.1.toInt) x.2.2.toInt = ko_F (ko_at f1 n0_size.toInt) 4 n0_place.toInt ∧ n0_place.toInt ≤ x.2.2.toInt ∧ x.2.2.toInt ≤ n0_size.toInt) ∧ va_P (dC, dI) vwCl [(h0, kO10 h1 n0_size x.2.2 h2), (h1, kAi cint 120 f1), (h2, kO4 h3 n2_size h4 h5 n2_top), (h3, kAi cint 128 f3)] H ∧ va_D A [(h0, kO10 h1 n0_size x.2.2 h2), (h1, kAi cint 120 f1), (h2, kO4 h3 n2_size h4 h5 n2_top), (h3, kAi cint 128 f3)] ∧ va_S A s.heap H locs ∧ lv_has ls 3 [(2, .int x.1), (1, .int x.2.1), (0, .ref h0)]) (fun x => ((4 : Int) - x.1.toInt).toNat) ?_ (0, 0, n0_place) _ _ _ ⟨(by show 0 ≤ (0 : Int32).toInt ∧ (0 : Int32).toInt ≤ 4; first | with_reducible assumption | decide | (constructor <;> (omega))), (by show 0 ≤ (n0_place : Int32).toInt; first | with_reducible assumption | (omega)), (by show (n0_place : Int32).toInt ≤ 120; first | with_reducible assumption | (omega)), (by show (ko_F (ko_at f1 (n0_size : Int32).toInt) (4 - (0 : Int)) (n0_place : Int32).toInt = ko_F (ko_at f1 (n0_size : Int32).toInt) 4 (n0_place : Int32).toInt ∧ (n0_place : Int32).toInt ≤ (n0_place : Int32).toInt ∧ (n0_place : Int32).toInt ≤ (n0_size : Int32).toInt); first | with_reducible assumption | (refine ⟨?_, ?_, ?_⟩ <;> (first | with_reducible assumption | (omega)))), hP, hD, hS, hl⟩
  rintro ⟨i_2_0, i_2_1, i_2_2⟩ H locs ls ⟨t_2_0, z_2_0, z_2_1, z_2_2, hP, hD, hS, hl⟩ ih_2
  replace t_2_0 : (0 ≤ i_2_0.toInt ∧ i_2_0.toInt ≤ 4) := t_2_0
  replace z_2_0 : 0 ≤ i_2_2.toInt := z_2_0
  replace z_2_1 : i_2_2.toInt ≤ 120 := z_2_1
  replace z_2_2 : (ko_F (ko_at f1 n0_size.toInt) (4 - i_2_0.toInt) i_2_2.toInt = ko_F (ko_at f1 n0_size.toInt) 4 n0_place.toInt ∧ n0_place.toInt ≤ i_2_2.toInt ∧ i_2_2.toInt ≤ n0_size.toInt) := z_2_2
  replace hl : lv_has ls 3 [(2, .int i_2_0), (1, .int i_2_1), (0, .ref h0)] := hl
  replace hP : va_P (dC, dI) vwCl [(h0, kO10 h1 n0_size i_2_2 h2), (h1, kAi cint 120 f1), (h2, kO4 h3 n2_size h4 h5 n2_top), (h3, kAi cint 128 f3)] H := hP
  replace hD : va_D A [(h0, kO10 h1 n0_size i_2_2 h2), (h1, kAi cint 120 f1), (h2, kO4 h3 n2_size h4 h5 n2_top), (h3, kAi cint 128 f3)] := hD
  refine lv_iload_n hx hb dX10_readNumber_4 rfl (lv_at hl 0 rfl) ?_
  refine lv_iconst (v := 4) hx hb dX10_readNumber_5 kk_ic_4 ?_
  refine lv_icmp_ge (tgt := 48) hx hb dX10_readNumber_6 (by decide) (fun c_3 => ?_) (fun c_3 => ?_)
  · have t_3 : 4 ≤ i_2_0.toInt := kk_le c_3
    have hk_4 : ko_F (ko_at f1 n0_size.toInt) (4 - i_2_0.toInt) i_2_2.toInt = i_2_2.toInt := ko_F_no (by omega)
    refine lv_aload_n hx hb dX10_readNumber_48 rfl (lv_at hl 2 rfl) ?_
    refine va_get (D := (dC, dI)) (ci := 10) (v := .ref h2) (C := RX10) (T := TX10) (N := 4) hx hb hts (fun _ h => List.mem_cons_of_mem _ (List.mem_append_left _ (List.mem_append_right _ h))) hown hK hP 0 rfl rfl 3 (by decide) (hts (.fieldLink RX10 20 "KinkStreet$Tape" "law" "LKinkStreet$Law;") (List.mem_of_getElem? (i := 2) rfl)) (fun _ h9 => h9) rfl dX10_readNumber_49 ?_
    refine lv_sipush (v := 256) hx hb dX10_readNumber_52 kk_si_256 ?_
    refine lv_iload_n hx hb dX10_readNumber_55 rfl (lv_at hl 1 rfl) ?_
    refine lv_iadd hx hb dX10_readNumber_56 ?_
    obtain ⟨hPc, hDc, hFc⟩ := kk_cutout (wc := [(h2, kO4 h3 n2_size h4 h5 n2_top), (h3, kAi cint 128 f3)]) hP hD hS hA [2, 3] (by decide) rfl
    have hKc := kk_Ks (tq := [(cint, .int)]) hK [0] rfl
    refine va_callv (va_runV (As := [.int (256 + i_2_1)]) (rest := []) ⟨hx, hb, hml, hown, hts⟩ (g_X4_append_0 l dC dI h2 h3 h4 h5 cint H.size (256 + i_2_1) n2_size n2_top f3 tn2_size tn2_top) (cwV 1 hts gX10_readNumber_X4_append rfl rfl rfl ⟨rfl, kh_X4_append⟩ ⟨Nat.le_of_ble_eq_true rfl, Nat.le_of_ble_eq_true rfl⟩) ⟨fun a U g mk q => by obtain ⟨q0, q1, qP, qK, qD⟩ := q; exact ⟨q0, q1, qP, va_K.moved (u := U) (U := U.calling g mk a) (Vm.Alike.refl U.vm) qK, qD⟩, va_recv hKc hPc (ci := 4) (q0 := 0) rfl rfl, fun U hU hW => ⟨rfl, by rw [hU], by rw [hU]; exact hPc, va_K.moved hW.alike hKc, hDc.weaken (fun _ _ _ _ => trivial)⟩⟩ rfl rfl hl.1 rfl (lv_room (Nat.le_of_ble_eq_true rfl)) dX10_readNumber_57 ⟨Nat.le_of_ble_eq_true rfl, Nat.le_of_ble_eq_true rfl⟩) hS (fun q _ h => hFc q h) hFc (fun u t H1 locs ht hvm hw hB hz1 hk1 hS => ?_)
    obtain ⟨y_6, f_7, by_6, hP1, hK1, hD1⟩ := hB
    rw [ht] at hP1
    have hK1 := va_K.moved hvm.symm hK1
    obtain ⟨hP, hD⟩ := va_join (wr := [(h0, kO10 h1 n0_size i_2_2 h2), (h1, kAi cint 120 f1)]) (w1 := [(h2, kO4 h3 y_6 h4 h5 n2_top), (h3, kAi cint 128 f_7)]) hP hD [2, 3] [0, 1] rfl rfl (by decide) (by decide) hk1 hFc hP1 hD1
    generalize H1 = H at hP hS ⊢
    replace hP : va_P (dC, dI) vwCl [(h0, kO10 h1 n0_size i_2_2 h2), (h1, kAi cint 120 f1), (h2, kO4 h3 y_6 h4 h5 n2_top), (h3, kAi cint 128 f_7)] H := hP
    replace hD : va_D A [(h0, kO10 h1 n0_size i_2_2 h2), (h1, kAi cint 120 f1), (h2, kO4 h3 y_6 h4 h5 n2_top), (h3, kAi cint 128 f_7)] := hD
    obtain ⟨hP9, hD9⟩ := kk_leafout (wc := [(h0, kO10 h1 n0_size i_2_2 h2), (h1, kAi cint 120 f1), (h2, kO4 h3 y_6 h4 h5 n2_top), (h3, kAi cint 128 f_7)]) hP hD [0, 1, 2, 3] (by decide) rfl
    have hK9 := kk_Ks (tq := []) hK [] rfl
    exact W.vret hx hb hr (fun t ht hW => ⟨⟨(), rfl, trivial, i_2_2, y_6, f_7, (by show 0 ≤ (i_2_2 : Int32).toInt ∧ (i_2_2 : Int32).toInt ≤ 120; first | with_reducible assumption | (constructor <;> (omega))), (by show 1 ≤ (y_6 : Int32).toInt ∧ (y_6 : Int32).toInt ≤ 128; first | with_reducible assumption | (constructor <;> (omega))), (by show ((i_2_2 : Int32).toInt = ko_F (ko_at f1 (n0_size : Int32).toInt) 4 (n0_place : Int32).toInt ∧ (n0_place : Int32).toInt ≤ (i_2_2 : Int32).toInt ∧ (i_2_2 : Int32).toInt ≤ (n0_size : Int32).toInt); first | with_reducible assumption | (refine ⟨?_, ?_, ?_⟩ <;> (first | with_reducible assumption | (omega)))), by rw [ht]; exact hP9, va_K.moved hW.alike hK9, hD9⟩, hS.F ht⟩) hS.2.2 dX10_readNumber_60
  · have t_3 : i_2_0.toInt < 4 := kk_nle c_3
    refine lv_aload_n hx hb dX10_readNumber_9 rfl (lv_at hl 2 rfl) ?_
    obtain ⟨hPc, hDc, hFc⟩ := kk_cutout (wc := [(h0, kO10 h1 n0_size i_2_2 h2), (h1, kAi cint 120 f1)]) hP hD hS hA [0, 1] (by decide) rfl
    have hKc := kk_Ks (tq := [(cint, .int)]) hK [0] rfl
    refine va_calli (va_runV (As := []) (rest := []) ⟨hx, hb, hml, hown, hts⟩ (g_X10_next_1 l dC dI h0 h1 h2 cint H.size n0_size i_2_2 f1 tn0_size (by show 0 ≤ (i_2_2 : Int32).toInt ∧ (i_2_2 : Int32).toInt ≤ 120; first | with_reducible assumption | (constructor <;> (omega))) bf1 (by show (0 ≤ (i_2_2 : Int32).toInt ∧ (i_2_2 : Int32).toInt ≤ (n0_size : Int32).toInt); first | with_reducible assumption | (refine ⟨?_, ?_⟩ <;> (first | with_reducible assumption | (omega))))) (cwV 0 hts gX10_readNumber_X10_next rfl rfl rfl ⟨rfl, kh_X10_next⟩ ⟨Nat.le_of_ble_eq_true rfl, Nat.le_of_ble_eq_true rfl⟩) ⟨fun a U g mk q => by obtain ⟨q0, q1, qP, qK, qD⟩ := q; exact ⟨q0, q1, qP, va_K.moved (u := U) (U := U.calling g mk a) (Vm.Alike.refl U.vm) qK, qD⟩, va_recv hKc hPc (ci := 10) (q0 := 0) rfl rfl, fun U hU hW => ⟨rfl, by rw [hU], by rw [hU]; exact hPc, va_K.moved hW.alike hKc, hDc.weaken (fun _ _ _ _ => trivial)⟩⟩ rfl rfl hl.1 rfl (lv_room (Nat.le_of_ble_eq_true rfl)) dX10_readNumber_10 ⟨Nat.le_of_ble_eq_true rfl, Nat.le_of_ble_eq_true rfl⟩) hS (fun q _ h => hFc q h) hFc (fun r_8 u t H1 locs ht hvm hw hB hz1 hk1 hS => ?_)
    obtain ⟨hP1, hK1, hD1⟩ := hB
    rw [ht] at hP1
    have hK1 := va_K.moved hvm.symm hK1
    obtain ⟨hP, hD⟩ := va_join (wr := [(h2, kO4 h3 n2_size h4 h5 n2_top), (h3, kAi cint 128 f3)]) (w1 := [(h0, kO10 h1 n0_size i_2_2 h2), (h1, kAi cint 120 f1)]) hP hD [0, 1] [2, 3] rfl rfl (by decide) (by decide) hk1 hFc hP1 hD1
    generalize H1 = H at hP hS ⊢
    replace hP : va_P (dC, dI) vwCl [(h2, kO4 h3 n2_size h4 h5 n2_top), (h3, kAi cint 128 f3), (h0, kO10 h1 n0_size i_2_2 h2), (h1, kAi cint 120 f1)] H := hP
    replace hD : va_D A [(h2, kO4 h3 n2_size h4 h5 n2_top), (h3, kAi cint 128 f3), (h0, kO10 h1 n0_size i_2_2 h2), (h1, kAi cint 120 f1)] := hD
    rcases hw with ⟨t_8_0, t_8_any⟩
    · skip
      replace t_8_0 : (((i_2_2.toInt < n0_size.toInt) → r_8.toInt = ko_at f1 n0_size.toInt i_2_2.toInt ∧ 0 ≤ r_8.toInt) ∧ (n0_size.toInt ≤ i_2_2.toInt → r_8.toInt = -1 ∧ ko_at f1 n0_size.toInt i_2_2.toInt = 0)) := t_8_0
      obtain ⟨hPc, hDc, hFc⟩ := kk_cutout (wc := []) hP hD hS hA [] (by decide) rfl
      have hKc := kk_Ks (tq := []) hK [] rfl
      refine va_calli (va_runS (As := [.int r_8]) (rest := []) ⟨hx, hb, hml, hown, hts⟩ (g_X10_isDigit_1 l dC dI H.size r_8) (va_cwS 1 hts gX10_readNumber_X10_isDigit rfl rfl rfl kh_X10_isDigit ⟨Nat.le_of_ble_eq_true rfl, Nat.le_of_ble_eq_true rfl⟩) ⟨fun a U g mk q => by obtain ⟨q0, q1, qP, qK, qD⟩ := q; exact ⟨q0, q1, qP, va_K.moved (u := U) (U := U.calling g mk a) (Vm.Alike.refl U.vm) qK, qD⟩, fun U hU hW => ⟨rfl, by rw [hU], by rw [hU]; exact hPc, va_K.moved hW.alike hKc, hDc.weaken (fun _ _ _ _ => trivial)⟩⟩ rfl rfl hl.1 rfl (lv_room (Nat.le_of_ble_eq_true rfl)) dX10_readNumber_13 ⟨Nat.le_of_ble_eq_true rfl, Nat.le_of_ble_eq_true rfl⟩) hS (fun q _ h => hFc q h) hFc (fun r_9 u t H1 locs ht hvm hw hB hz1 hk1 hS => ?_)
      obtain ⟨hP1, hK1, hD1⟩ := hB
      rw [ht] at hP1
      have hK1 := va_K.moved hvm.symm hK1
      obtain ⟨hP, hD⟩ := va_join (wr := [(h2, kO4 h3 n2_size h4 h5 n2_top), (h3, kAi cint 128 f3), (h0, kO10 h1 n0_size i_2_2 h2), (h1, kAi cint 120 f1)]) (w1 := []) hP hD [] [0, 1, 2, 3] rfl rfl (by decide) (by decide) hk1 hFc hP1 hD1
      generalize H1 = H at hP hS ⊢
      replace hP : va_P (dC, dI) vwCl [(h2, kO4 h3 n2_size h4 h5 n2_top), (h3, kAi cint 128 f3), (h0, kO10 h1 n0_size i_2_2 h2), (h1, kAi cint 120 f1)] H := hP
      replace hD : va_D A [(h2, kO4 h3 n2_size h4 h5 n2_top), (h3, kAi cint 128 f3), (h0, kO10 h1 n0_size i_2_2 h2), (h1, kAi cint 120 f1)] := hD
      rcases hw with ⟨t_9_0, rfl⟩ | ⟨t_9_0, t_9_1, t_9_2, rfl⟩
      · skip
        replace t_9_0 : (r_8.toInt < 48 ∨ 57 < r_8.toInt) := t_9_0
        refine lv_if_eq (tgt := 48) hx hb dX10_readNumber_16 (by decide) (fun _ => ?_) (fun c => absurd c (by decide))
        have hk_10 : ko_F (ko_at f1 n0_size.toInt) (4 - i_2_0.toInt) i_2_2.toInt = i_2_2.toInt := ko_F_no (by omega)
        refine lv_aload_n hx hb dX10_readNumber_48 rfl (lv_at hl 2 rfl) ?_
        refine va_get (D := (dC, dI)) (ci := 10) (v := .ref h2) (C := RX10) (T := TX10) (N := 4) hx hb hts (fun _ h => List.mem_cons_of_mem _ (List.mem_append_left _ (List.mem_append_right _ h))) hown hK hP 2 rfl rfl 3 (by decide) (hts (.fieldLink RX10 20 "KinkStreet$Tape" "law" "LKinkStreet$Law;") (List.mem_of_getElem? (i := 2) rfl)) (fun _ h9 => h9) rfl dX10_readNumber_49 ?_
        refine lv_sipush (v := 256) hx hb dX10_readNumber_52 kk_si_256 ?_
        refine lv_iload_n hx hb dX10_readNumber_55 rfl (lv_at hl 1 rfl) ?_
        refine lv_iadd hx hb dX10_readNumber_56 ?_
        obtain ⟨hPc, hDc, hFc⟩ := kk_cutout (wc := [(h2, kO4 h3 n2_size h4 h5 n2_top), (h3, kAi cint 128 f3)]) hP hD hS hA [0, 1] (by decide) rfl
        have hKc := kk_Ks (tq := [(cint, .int)]) hK [0] rfl
        refine va_callv (va_runV (As := [.int (256 + i_2_1)]) (rest := []) ⟨hx, hb, hml, hown, hts⟩ (g_X4_append_0 l dC dI h2 h3 h4 h5 cint H.size (256 + i_2_1) n2_size n2_top f3 tn2_size tn2_top) (cwV 1 hts gX10_readNumber_X4_append rfl rfl rfl ⟨rfl, kh_X4_append⟩ ⟨Nat.le_of_ble_eq_true rfl, Nat.le_of_ble_eq_true rfl⟩) ⟨fun a U g mk q => by obtain ⟨q0, q1, qP, qK, qD⟩ := q; exact ⟨q0, q1, qP, va_K.moved (u := U) (U := U.calling g mk a) (Vm.Alike.refl U.vm) qK, qD⟩, va_recv hKc hPc (ci := 4) (q0 := 0) rfl rfl, fun U hU hW => ⟨rfl, by rw [hU], by rw [hU]; exact hPc, va_K.moved hW.alike hKc, hDc.weaken (fun _ _ _ _ => trivial)⟩⟩ rfl rfl hl.1 rfl (lv_room (Nat.le_of_ble_eq_true rfl)) dX10_readNumber_57 ⟨Nat.le_of_ble_eq_true rfl, Nat.le_of_ble_eq_true rfl⟩) hS (fun q _ h => hFc q h) hFc (fun u t H1 locs ht hvm hw hB hz1 hk1 hS => ?_)
        obtain ⟨y_12, f_13, by_12, hP1, hK1, hD1⟩ := hB
        rw [ht] at hP1
        have hK1 := va_K.moved hvm.symm hK1
        obtain ⟨hP, hD⟩ := va_join (wr := [(h0, kO10 h1 n0_size i_2_2 h2), (h1, kAi cint 120 f1)]) (w1 := [(h2, kO4 h3 y_12 h4 h5 n2_top), (h3, kAi cint 128 f_13)]) hP hD [0, 1] [2, 3] rfl rfl (by decide) (by decide) hk1 hFc hP1 hD1
        generalize H1 = H at hP hS ⊢
        replace hP : va_P (dC, dI) vwCl [(h0, kO10 h1 n0_size i_2_2 h2), (h1, kAi cint 120 f1), (h2, kO4 h3 y_12 h4 h5 n2_top), (h3, kAi cint 128 f_13)] H := hP
        replace hD : va_D A [(h0, kO10 h1 n0_size i_2_2 h2), (h1, kAi cint 120 f1), (h2, kO4 h3 y_12 h4 h5 n2_top), (h3, kAi cint 128 f_13)] := hD
        obtain ⟨hP9, hD9⟩ := kk_leafout (wc := [(h0, kO10 h1 n0_size i_2_2 h2), (h1, kAi cint 120 f1), (h2, kO4 h3 y_12 h4 h5 n2_top), (h3, kAi cint 128 f_13)]) hP hD [0, 1, 2, 3] (by decide) rfl
        have hK9 := kk_Ks (tq := []) hK [] rfl
        exact W.vret hx hb hr (fun t ht hW => ⟨⟨(), rfl, trivial, i_2_2, y_12, f_13, (by show 0 ≤ (i_2_2 : Int32).toInt ∧ (i_2_2 : Int32).toInt ≤ 120; first | with_reducible assumption | (constructor <;> (omega))), (by show 1 ≤ (y_12 : Int32).toInt ∧ (y_12 : Int32).toInt ≤ 128; first | with_reducible assumption | (constructor <;> (omega))), (by show ((i_2_2 : Int32).toInt = ko_F (ko_at f1 (n0_size : Int32).toInt) 4 (n0_place : Int32).toInt ∧ (n0_place : Int32).toInt ≤ (i_2_2 : Int32).toInt ∧ (i_2_2 : Int32).toInt ≤ (n0_size : Int32).toInt); first | with_reducible assumption | (refine ⟨?_, ?_, ?_⟩ <;> (first | with_reducible assumption | (omega)))), by rw [ht]; exact hP9, va_K.moved hW.alike hK9, hD9⟩, hS.F ht⟩) hS.2.2 dX10_readNumber_60
      · skip
        replace t_9_0 : (48 : Int) ≤ r_8.toInt := t_9_0
        replace t_9_1 : (r_8.toInt : Int) ≤ 57 := t_9_1
        replace t_9_2 : (48 ≤ r_8.toInt ∧ r_8.toInt ≤ 57) := t_9_2
        refine lv_if_eq (tgt := 48) hx hb dX10_readNumber_16 (by decide) (fun c => absurd c (by decide)) (fun _ => ?_)
        refine lv_iload_n hx hb dX10_readNumber_19 rfl (lv_at hl 1 rfl) ?_
        refine lv_bipush (v := 10) hx hb dX10_readNumber_20 kk_bi_10 ?_
        refine lv_imul hx hb dX10_readNumber_22 ?_
        refine lv_aload_n hx hb dX10_readNumber_23 rfl (lv_at hl 2 rfl) ?_
        obtain ⟨hPc, hDc, hFc⟩ := kk_cutout (wc := [(h0, kO10 h1 n0_size i_2_2 h2), (h1, kAi cint 120 f1)]) hP hD hS hA [2, 3] (by decide) rfl
        have hKc := kk_Ks (tq := [(cint, .int)]) hK [0] rfl
        refine va_calli (va_runV (As := []) (rest := [.int (i_2_1 * 10)]) ⟨hx, hb, hml, hown, hts⟩ (g_X10_next_1 l dC dI h0 h1 h2 cint H.size n0_size i_2_2 f1 tn0_size (by show 0 ≤ (i_2_2 : Int32).toInt ∧ (i_2_2 : Int32).toInt ≤ 120; first | with_reducible assumption | (constructor <;> (omega))) bf1 (by show (0 ≤ (i_2_2 : Int32).toInt ∧ (i_2_2 : Int32).toInt ≤ (n0_size : Int32).toInt); first | with_reducible assumption | (refine ⟨?_, ?_⟩ <;> (first | with_reducible assumption | (omega))))) (cwV 0 hts gX10_readNumber_X10_next rfl rfl rfl ⟨rfl, kh_X10_next⟩ ⟨Nat.le_of_ble_eq_true rfl, Nat.le_of_ble_eq_true rfl⟩) ⟨fun a U g mk q => by obtain ⟨q0, q1, qP, qK, qD⟩ := q; exact ⟨q0, q1, qP, va_K.moved (u := U) (U := U.calling g mk a) (Vm.Alike.refl U.vm) qK, qD⟩, va_recv hKc hPc (ci := 10) (q0 := 0) rfl rfl, fun U hU hW => ⟨rfl, by rw [hU], by rw [hU]; exact hPc, va_K.moved hW.alike hKc, hDc.weaken (fun _ _ _ _ => trivial)⟩⟩ rfl rfl hl.1 rfl (lv_room (Nat.le_of_ble_eq_true rfl)) dX10_readNumber_24 ⟨Nat.le_of_ble_eq_true rfl, Nat.le_of_ble_eq_true rfl⟩) hS (fun q _ h => hFc q h) hFc (fun r_14 u t H1 locs ht hvm hw hB hz1 hk1 hS => ?_)
        obtain ⟨hP1, hK1, hD1⟩ := hB
        rw [ht] at hP1
        have hK1 := va_K.moved hvm.symm hK1
        obtain ⟨hP, hD⟩ := va_join (wr := [(h2, kO4 h3 n2_size h4 h5 n2_top), (h3, kAi cint 128 f3)]) (w1 := [(h0, kO10 h1 n0_size i_2_2 h2), (h1, kAi cint 120 f1)]) hP hD [2, 3] [0, 1] rfl rfl (by decide) (by decide) hk1 hFc hP1 hD1
        generalize H1 = H at hP hS ⊢
        replace hP : va_P (dC, dI) vwCl [(h2, kO4 h3 n2_size h4 h5 n2_top), (h3, kAi cint 128 f3), (h0, kO10 h1 n0_size i_2_2 h2), (h1, kAi cint 120 f1)] H := hP
        replace hD : va_D A [(h2, kO4 h3 n2_size h4 h5 n2_top), (h3, kAi cint 128 f3), (h0, kO10 h1 n0_size i_2_2 h2), (h1, kAi cint 120 f1)] := hD
        rcases hw with ⟨t_14_0, t_14_any⟩
        · skip
          replace t_14_0 : (((i_2_2.toInt < n0_size.toInt) → r_14.toInt = ko_at f1 n0_size.toInt i_2_2.toInt ∧ 0 ≤ r_14.toInt) ∧ (n0_size.toInt ≤ i_2_2.toInt → r_14.toInt = -1 ∧ ko_at f1 n0_size.toInt i_2_2.toInt = 0)) := t_14_0
          refine lv_iadd hx hb dX10_readNumber_27 ?_
          refine lv_bipush (v := 48) hx hb dX10_readNumber_28 kk_bi_48 ?_
          refine lv_isub hx hb dX10_readNumber_30 ?_
          refine lv_istore_n hx hb dX10_readNumber_31 rfl hl (by decide) (rfl : _ = ([(1, .int (((i_2_1 * 10) + r_14) - 48)), (2, .int i_2_0), (0, .ref h0)] : List (Nat × Value))) (fun ls hl => ?_)
          refine lv_aload_n hx hb dX10_readNumber_32 rfl (lv_at hl 2 rfl) ?_
          refine lv_dup hx hb dX10_readNumber_33 rfl ?_
          refine va_get (D := (dC, dI)) (ci := 10) (v := .int i_2_2) (C := RX10) (T := TX10) (N := 4) hx hb hts (fun _ h => List.mem_cons_of_mem _ (List.mem_append_left _ (List.mem_append_right _ h))) hown hK hP 2 rfl rfl 2 (by decide) (hts (.fieldLink RX10 17 "KinkStreet$Tape" "place" "I") (List.mem_of_getElem? (i := 1) rfl)) (fun _ h9 => h9) rfl dX10_readNumber_34 ?_
          refine lv_iconst (v := 1) hx hb dX10_readNumber_37 kk_ic_1 ?_
          refine lv_iadd hx hb dX10_readNumber_38 ?_
          refine va_put (D := (dC, dI)) (ci := 10) (v := .int (i_2_2 + 1)) (ty := .int) (C := RX10) (T := TX10) (N := 4) hx hb hts (fun _ h => List.mem_cons_of_mem _ (List.mem_append_left _ (List.mem_append_right _ h))) tyX10 tyX10_ok nmX10 hown hK hP hD hS 2 rfl rfl 2 (by decide) (hts (.fieldLink RX10 17 "KinkStreet$Tape" "place" "I") (List.mem_of_getElem? (i := 1) rfl)) (fun _ h9 => h9) rfl (by decide +kernel) rfl rfl (Nat.le_of_ble_eq_true rfl) dX10_readNumber_39 (fun H locs hP hD hS => ?_)
          replace hP : va_P (dC, dI) vwCl [(h2, kO4 h3 n2_size h4 h5 n2_top), (h3, kAi cint 128 f3), (h0, kO10 h1 n0_size (i_2_2 + 1) h2), (h1, kAi cint 120 f1)] H := hP
          replace hD : va_D A [(h2, kO4 h3 n2_size h4 h5 n2_top), (h3, kAi cint 128 f3), (h0, kO10 h1 n0_size (i_2_2 + 1) h2), (h1, kAi cint 120 f1)] := hD
          have := kk_add2 (x := i_2_2) (y := 1) (a := i_2_2.toInt) (b := 1) rfl rfl (by omega) (by omega)
          have := kk_add2 (x := i_2_0) (y := 1) (a := i_2_0.toInt) (b := 1) rfl rfl (by omega) (by omega)
          have hk_15 : ko_F (ko_at f1 n0_size.toInt) (4 - i_2_0.toInt) i_2_2.toInt = ko_F (ko_at f1 n0_size.toInt) (4 - (i_2_0 + 1).toInt) (i_2_2 + 1).toInt := ko_F_s (by omega) (by omega) (by omega) (by omega)
          refine lv_iinc (v := (i_2_0 + 1)) hx hb dX10_readNumber_42 hl (k := 1) rfl (by first | rfl | decide) (by decide) (rfl : _ = ([(2, .int (i_2_0 + 1)), (1, .int (((i_2_1 * 10) + r_14) - 48)), (0, .ref h0)] : List (Nat × Value))) (fun ls hl => ?_)
          refine lv_goto (tgt := 4) hx hb dX10_readNumber_45 (by decide) ?_
          exact ih_2 ((i_2_0 + 1), (((i_2_1 * 10) + r_14) - 48), (i_2_2 + 1)) _ _ _ (by show ((4 : Int) - ((i_2_0 + 1) : Int32).toInt).toNat < ((4 : Int) - i_2_0.toInt).toNat; exact kk_mu (by omega) (by omega)) ⟨(by show 0 ≤ ((i_2_0 + 1) : Int32).toInt ∧ ((i_2_0 + 1) : Int32).toInt ≤ 4; first | with_reducible assumption | (constructor <;> (omega))), (by show 0 ≤ ((i_2_2 + 1) : Int32).toInt; first | with_reducible assumption | (omega)), (by show ((i_2_2 + 1) : Int32).toInt ≤ 120; first | with_reducible assumption | (omega)), (by show (ko_F (ko_at f1 (n0_size : Int32).toInt) (4 - ((i_2_0 + 1) : Int32).toInt) ((i_2_2 + 1) : Int32).toInt = ko_F (ko_at f1 (n0_size : Int32).toInt) 4 (n0_place : Int32).toInt ∧ (n0_place : Int32).toInt ≤ ((i_2_2 + 1) : Int32).toInt ∧ ((i_2_2 + 1) : Int32).toInt ≤ (n0_size : Int32).toInt); first | with_reducible assumption | (refine ⟨?_, ?_, ?_⟩ <;> (first | with_reducible assumption | (omega)))), hP.sub [2, 3, 0, 1] rfl, hD.sub [2, 3, 0, 1] (by decide) rfl, hS, lv_sub hl [0, 1, 2] rfl⟩
set_option maxHeartbeats 4000000 in
set_option maxRecDepth 100000 in
theorem g_X10_joins_5 (l : Launch) (dC : Nat → ClassId) (dI : Nat → Nat → Nat) (sz : Nat) (p1 : Int32) : Met l yX10_joins wsX10_joins ({ frames := 0, cells := 0, slots := 0, locals := 0 }) (va_Pc [.int 4, .int p1] (fun U => U.heap.size = sz ∧ va_P (dC, dI) vwCl [] U.heap ∧ va_K (dC, dI) vwCl [] U ∧ va_D (fun _ => True) [])) (va_Qi (fun (r : Int32) (_ : Unit) => (p1.toInt ≠ 42 ∧ p1.toInt ≠ 47 ∧ p1.toInt ≠ 37 ∧ (p1.toInt ≠ 42 ∧ p1.toInt ≠ 47 ∧ p1.toInt ≠ 37) ∧ (0 : Int32) = r) ∨ ((p1.toInt = 42 ∨ p1.toInt = 47 ∨ p1.toInt = 37) ∧ (1 : Int32) = r)) (fun (_ : Unit) t => va_P (dC, dI) vwCl [] t.heap ∧ va_K (dC, dI) vwCl [] t ∧ va_D (va_A [] sz) []) (va_A [] sz)) 0 0 (va_A [] sz) := by
  refine Met.ofW (cc := cX10_joins) (maxL := 2) (ret := (some .boolean)) (by decide) rfl ?_
  intro p e s m args below meth c s₁ B hml hv
  obtain ⟨rfl, hsz, hP, hK, hD0⟩ := hv
  have hx := B.exec
  have hb := B.bytes
  have hr := B.returns
  have hts := atoms_spec (ws := wsX10_joins) B.pre
  have hown : s.vm.findClass RX10 = some m.cls := findClass_of_methodNamed B.named
  have hlocks := B.notSynchronized
  subst hsz
  have hD := hD0.self (sz := s.heap.size)
  generalize hAe : va_A [] s.heap.size = A at hD ⊢
  have hA : ∀ q : Nat, s.heap.size ≤ q → A q := fun q h => by rw [← hAe]; exact Or.inr h
  have hS : va_S A s.heap s.heap [] := va_S.rf
  replace hP : va_P (dC, dI) vwCl [] s.heap := hP
  have hl := lv_entry ([.int 4, .int p1]) (n := 2) (Nat.le_of_ble_eq_true rfl)
  rw [lg_entry_eq]
  generalize (lg_sl ([.int 4, .int p1]) ++ List.replicate (2 - (lg_sl ([.int 4, .int p1])).length) Slot.unset).toArray = ls at hl ⊢
  replace hl : lv_has ls 2 [(0, .int 4), (1, .int p1)] := hl
  refine lv_iload_n hx hb dX10_joins_0 rfl (lv_at hl 0 rfl) ?_
  refine lv_tableOut (tgt := 98) hx hb dX10_joins_1 (by decide) (by decide) ?_
  refine lv_iload_n hx hb dX10_joins_98 rfl (lv_at hl 1 rfl) ?_
  refine lv_bipush (v := 42) hx hb dX10_joins_99 kk_bi_42 ?_
  refine lv_icmp_eq (tgt := 116) hx hb dX10_joins_101 (by decide) (fun c_1 => ?_) (fun c_1 => ?_)
  · have t_1 : p1.toInt = 42 := kk_eq c_1
    refine lv_iconst (v := 1) hx hb dX10_joins_116 kk_ic_1 ?_
    refine lv_goto (tgt := 121) hx hb dX10_joins_117 (by decide) ?_
    obtain ⟨hP9, hD9⟩ := kk_leafout (wc := []) hP hD [] (by decide) rfl
    have hK9 := kk_Ks (tq := []) hK [] rfl
    exact W.zret (v := 1) hx hb hr rfl (fun t ht hW => ⟨⟨1, (), rfl, Or.inr (⟨(by show ((p1 : Int32).toInt = 42 ∨ (p1 : Int32).toInt = 47 ∨ (p1 : Int32).toInt = 37); omega), rfl⟩), by rw [ht]; exact hP9, va_K.moved hW.alike hK9, hD9⟩, hS.F ht⟩) hS.2.2 dX10_joins_121
  · have t_1 : p1.toInt ≠ 42 := kk_ne c_1
    refine lv_iload_n hx hb dX10_joins_104 rfl (lv_at hl 1 rfl) ?_
    refine lv_bipush (v := 47) hx hb dX10_joins_105 kk_bi_47 ?_
    refine lv_icmp_eq (tgt := 116) hx hb dX10_joins_107 (by decide) (fun c_2 => ?_) (fun c_2 => ?_)
    · have t_2 : p1.toInt = 47 := kk_eq c_2
      refine lv_iconst (v := 1) hx hb dX10_joins_116 kk_ic_1 ?_
      refine lv_goto (tgt := 121) hx hb dX10_joins_117 (by decide) ?_
      obtain ⟨hP9, hD9⟩ := kk_leafout (wc := []) hP hD [] (by decide) rfl
      have hK9 := kk_Ks (tq := []) hK [] rfl
      exact W.zret (v := 1) hx hb hr rfl (fun t ht hW => ⟨⟨1, (), rfl, Or.inr (⟨(by show ((p1 : Int32).toInt = 42 ∨ (p1 : Int32).toInt = 47 ∨ (p1 : Int32).toInt = 37); omega), rfl⟩), by rw [ht]; exact hP9, va_K.moved hW.alike hK9, hD9⟩, hS.F ht⟩) hS.2.2 dX10_joins_121
    · have t_2 : p1.toInt ≠ 47 := kk_ne c_2
      refine lv_iload_n hx hb dX10_joins_110 rfl (lv_at hl 1 rfl) ?_
      refine lv_bipush (v := 37) hx hb dX10_joins_111 kk_bi_37 ?_
      refine lv_icmp_ne (tgt := 120) hx hb dX10_joins_113 (by decide) (fun c_3 => ?_) (fun c_3 => ?_)
      · have t_3 : p1.toInt ≠ 37 := kk_ne c_3
        refine lv_iconst (v := 0) hx hb dX10_joins_120 kk_ic_0 ?_
        obtain ⟨hP9, hD9⟩ := kk_leafout (wc := []) hP hD [] (by decide) rfl
        have hK9 := kk_Ks (tq := []) hK [] rfl
        exact W.zret (v := 0) hx hb hr rfl (fun t ht hW => ⟨⟨0, (), rfl, Or.inl ⟨by first | with_reducible assumption | (omega), by first | with_reducible assumption | (omega), by first | with_reducible assumption | (omega), (by show ((p1 : Int32).toInt ≠ 42 ∧ (p1 : Int32).toInt ≠ 47 ∧ (p1 : Int32).toInt ≠ 37); omega), rfl⟩, by rw [ht]; exact hP9, va_K.moved hW.alike hK9, hD9⟩, hS.F ht⟩) hS.2.2 dX10_joins_121
      · have t_3 : p1.toInt = 37 := kk_eq c_3
        refine lv_iconst (v := 1) hx hb dX10_joins_116 kk_ic_1 ?_
        refine lv_goto (tgt := 121) hx hb dX10_joins_117 (by decide) ?_
        obtain ⟨hP9, hD9⟩ := kk_leafout (wc := []) hP hD [] (by decide) rfl
        have hK9 := kk_Ks (tq := []) hK [] rfl
        exact W.zret (v := 1) hx hb hr rfl (fun t ht hW => ⟨⟨1, (), rfl, Or.inr (⟨(by show ((p1 : Int32).toInt = 42 ∨ (p1 : Int32).toInt = 47 ∨ (p1 : Int32).toInt = 37); omega), rfl⟩), by rw [ht]; exact hP9, va_K.moved hW.alike hK9, hD9⟩, hS.F ht⟩) hS.2.2 dX10_joins_121
set_option maxHeartbeats 4000000 in
set_option maxRecDepth 100000 in
theorem g_X10_joins_6 (l : Launch) (dC : Nat → ClassId) (dI : Nat → Nat → Nat) (sz : Nat) (p1 : Int32) : Met l yX10_joins wsX10_joins ({ frames := 0, cells := 0, slots := 0, locals := 0 }) (va_Pc [.int 3, .int p1] (fun U => U.heap.size = sz ∧ va_P (dC, dI) vwCl [] U.heap ∧ va_K (dC, dI) vwCl [] U ∧ va_D (fun _ => True) [])) (va_Qi (fun (r : Int32) (_ : Unit) => (p1.toInt ≠ 43 ∧ p1.toInt ≠ 45 ∧ (p1.toInt ≠ 43 ∧ p1.toInt ≠ 45) ∧ (0 : Int32) = r) ∨ ((p1.toInt = 43 ∨ p1.toInt = 45) ∧ (1 : Int32) = r)) (fun (_ : Unit) t => va_P (dC, dI) vwCl [] t.heap ∧ va_K (dC, dI) vwCl [] t ∧ va_D (va_A [] sz) []) (va_A [] sz)) 0 0 (va_A [] sz) := by
  refine Met.ofW (cc := cX10_joins) (maxL := 2) (ret := (some .boolean)) (by decide) rfl ?_
  intro p e s m args below meth c s₁ B hml hv
  obtain ⟨rfl, hsz, hP, hK, hD0⟩ := hv
  have hx := B.exec
  have hb := B.bytes
  have hr := B.returns
  have hts := atoms_spec (ws := wsX10_joins) B.pre
  have hown : s.vm.findClass RX10 = some m.cls := findClass_of_methodNamed B.named
  have hlocks := B.notSynchronized
  subst hsz
  have hD := hD0.self (sz := s.heap.size)
  generalize hAe : va_A [] s.heap.size = A at hD ⊢
  have hA : ∀ q : Nat, s.heap.size ≤ q → A q := fun q h => by rw [← hAe]; exact Or.inr h
  have hS : va_S A s.heap s.heap [] := va_S.rf
  replace hP : va_P (dC, dI) vwCl [] s.heap := hP
  have hl := lv_entry ([.int 3, .int p1]) (n := 2) (Nat.le_of_ble_eq_true rfl)
  rw [lg_entry_eq]
  generalize (lg_sl ([.int 3, .int p1]) ++ List.replicate (2 - (lg_sl ([.int 3, .int p1])).length) Slot.unset).toArray = ls at hl ⊢
  replace hl : lv_has ls 2 [(0, .int 3), (1, .int p1)] := hl
  refine lv_iload_n hx hb dX10_joins_0 rfl (lv_at hl 0 rfl) ?_
  refine lv_tableIn (tgt := 80) hx hb dX10_joins_1 (by decide) (by decide) rfl (by decide) ?_
  refine lv_iload_n hx hb dX10_joins_80 rfl (lv_at hl 1 rfl) ?_
  refine lv_bipush (v := 43) hx hb dX10_joins_81 kk_bi_43 ?_
  refine lv_icmp_eq (tgt := 92) hx hb dX10_joins_83 (by decide) (fun c_1 => ?_) (fun c_1 => ?_)
  · have t_1 : p1.toInt = 43 := kk_eq c_1
    refine lv_iconst (v := 1) hx hb dX10_joins_92 kk_ic_1 ?_
    refine lv_goto (tgt := 97) hx hb dX10_joins_93 (by decide) ?_
    obtain ⟨hP9, hD9⟩ := kk_leafout (wc := []) hP hD [] (by decide) rfl
    have hK9 := kk_Ks (tq := []) hK [] rfl
    exact W.zret (v := 1) hx hb hr rfl (fun t ht hW => ⟨⟨1, (), rfl, Or.inr (⟨(by show ((p1 : Int32).toInt = 43 ∨ (p1 : Int32).toInt = 45); omega), rfl⟩), by rw [ht]; exact hP9, va_K.moved hW.alike hK9, hD9⟩, hS.F ht⟩) hS.2.2 dX10_joins_97
  · have t_1 : p1.toInt ≠ 43 := kk_ne c_1
    refine lv_iload_n hx hb dX10_joins_86 rfl (lv_at hl 1 rfl) ?_
    refine lv_bipush (v := 45) hx hb dX10_joins_87 kk_bi_45 ?_
    refine lv_icmp_ne (tgt := 96) hx hb dX10_joins_89 (by decide) (fun c_2 => ?_) (fun c_2 => ?_)
    · have t_2 : p1.toInt ≠ 45 := kk_ne c_2
      refine lv_iconst (v := 0) hx hb dX10_joins_96 kk_ic_0 ?_
      obtain ⟨hP9, hD9⟩ := kk_leafout (wc := []) hP hD [] (by decide) rfl
      have hK9 := kk_Ks (tq := []) hK [] rfl
      exact W.zret (v := 0) hx hb hr rfl (fun t ht hW => ⟨⟨0, (), rfl, Or.inl ⟨by first | with_reducible assumption | (omega), by first | with_reducible assumption | (omega), (by show ((p1 : Int32).toInt ≠ 43 ∧ (p1 : Int32).toInt ≠ 45); omega), rfl⟩, by rw [ht]; exact hP9, va_K.moved hW.alike hK9, hD9⟩, hS.F ht⟩) hS.2.2 dX10_joins_97
    · have t_2 : p1.toInt = 45 := kk_eq c_2
      refine lv_iconst (v := 1) hx hb dX10_joins_92 kk_ic_1 ?_
      refine lv_goto (tgt := 97) hx hb dX10_joins_93 (by decide) ?_
      obtain ⟨hP9, hD9⟩ := kk_leafout (wc := []) hP hD [] (by decide) rfl
      have hK9 := kk_Ks (tq := []) hK [] rfl
      exact W.zret (v := 1) hx hb hr rfl (fun t ht hW => ⟨⟨1, (), rfl, Or.inr (⟨(by show ((p1 : Int32).toInt = 43 ∨ (p1 : Int32).toInt = 45); omega), rfl⟩), by rw [ht]; exact hP9, va_K.moved hW.alike hK9, hD9⟩, hS.F ht⟩) hS.2.2 dX10_joins_97
set_option maxHeartbeats 4000000 in
set_option maxRecDepth 100000 in
theorem g_X10_joins_7 (l : Launch) (dC : Nat → ClassId) (dI : Nat → Nat → Nat) (sz : Nat) (p1 : Int32) : Met l yX10_joins wsX10_joins ({ frames := 0, cells := 0, slots := 0, locals := 0 }) (va_Pc [.int 2, .int p1] (fun U => U.heap.size = sz ∧ va_P (dC, dI) vwCl [] U.heap ∧ va_K (dC, dI) vwCl [] U ∧ va_D (fun _ => True) [])) (va_Qi (fun (r : Int32) (_ : Unit) => (p1.toInt ≠ 60 ∧ p1.toInt ≠ 61 ∧ p1.toInt ≠ 62 ∧ (p1.toInt < 60 ∨ 62 < p1.toInt) ∧ (0 : Int32) = r) ∨ ((60 ≤ p1.toInt ∧ p1.toInt ≤ 62) ∧ (1 : Int32) = r)) (fun (_ : Unit) t => va_P (dC, dI) vwCl [] t.heap ∧ va_K (dC, dI) vwCl [] t ∧ va_D (va_A [] sz) []) (va_A [] sz)) 0 0 (va_A [] sz) := by
  refine Met.ofW (cc := cX10_joins) (maxL := 2) (ret := (some .boolean)) (by decide) rfl ?_
  intro p e s m args below meth c s₁ B hml hv
  obtain ⟨rfl, hsz, hP, hK, hD0⟩ := hv
  have hx := B.exec
  have hb := B.bytes
  have hr := B.returns
  have hts := atoms_spec (ws := wsX10_joins) B.pre
  have hown : s.vm.findClass RX10 = some m.cls := findClass_of_methodNamed B.named
  have hlocks := B.notSynchronized
  subst hsz
  have hD := hD0.self (sz := s.heap.size)
  generalize hAe : va_A [] s.heap.size = A at hD ⊢
  have hA : ∀ q : Nat, s.heap.size ≤ q → A q := fun q h => by rw [← hAe]; exact Or.inr h
  have hS : va_S A s.heap s.heap [] := va_S.rf
  replace hP : va_P (dC, dI) vwCl [] s.heap := hP
  have hl := lv_entry ([.int 2, .int p1]) (n := 2) (Nat.le_of_ble_eq_true rfl)
  rw [lg_entry_eq]
  generalize (lg_sl ([.int 2, .int p1]) ++ List.replicate (2 - (lg_sl ([.int 2, .int p1])).length) Slot.unset).toArray = ls at hl ⊢
  replace hl : lv_has ls 2 [(0, .int 2), (1, .int p1)] := hl
  refine lv_iload_n hx hb dX10_joins_0 rfl (lv_at hl 0 rfl) ?_
  refine lv_tableIn (tgt := 56) hx hb dX10_joins_1 (by decide) (by decide) rfl (by decide) ?_
  refine lv_iload_n hx hb dX10_joins_56 rfl (lv_at hl 1 rfl) ?_
  refine lv_bipush (v := 60) hx hb dX10_joins_57 kk_bi_60 ?_
  refine lv_icmp_eq (tgt := 74) hx hb dX10_joins_59 (by decide) (fun c_1 => ?_) (fun c_1 => ?_)
  · have t_1 : p1.toInt = 60 := kk_eq c_1
    refine lv_iconst (v := 1) hx hb dX10_joins_74 kk_ic_1 ?_
    refine lv_goto (tgt := 79) hx hb dX10_joins_75 (by decide) ?_
    obtain ⟨hP9, hD9⟩ := kk_leafout (wc := []) hP hD [] (by decide) rfl
    have hK9 := kk_Ks (tq := []) hK [] rfl
    exact W.zret (v := 1) hx hb hr rfl (fun t ht hW => ⟨⟨1, (), rfl, Or.inr (⟨(by show (60 ≤ (p1 : Int32).toInt ∧ (p1 : Int32).toInt ≤ 62); omega), rfl⟩), by rw [ht]; exact hP9, va_K.moved hW.alike hK9, hD9⟩, hS.F ht⟩) hS.2.2 dX10_joins_79
  · have t_1 : p1.toInt ≠ 60 := kk_ne c_1
    refine lv_iload_n hx hb dX10_joins_62 rfl (lv_at hl 1 rfl) ?_
    refine lv_bipush (v := 61) hx hb dX10_joins_63 kk_bi_61 ?_
    refine lv_icmp_eq (tgt := 74) hx hb dX10_joins_65 (by decide) (fun c_2 => ?_) (fun c_2 => ?_)
    · have t_2 : p1.toInt = 61 := kk_eq c_2
      refine lv_iconst (v := 1) hx hb dX10_joins_74 kk_ic_1 ?_
      refine lv_goto (tgt := 79) hx hb dX10_joins_75 (by decide) ?_
      obtain ⟨hP9, hD9⟩ := kk_leafout (wc := []) hP hD [] (by decide) rfl
      have hK9 := kk_Ks (tq := []) hK [] rfl
      exact W.zret (v := 1) hx hb hr rfl (fun t ht hW => ⟨⟨1, (), rfl, Or.inr (⟨(by show (60 ≤ (p1 : Int32).toInt ∧ (p1 : Int32).toInt ≤ 62); omega), rfl⟩), by rw [ht]; exact hP9, va_K.moved hW.alike hK9, hD9⟩, hS.F ht⟩) hS.2.2 dX10_joins_79
    · have t_2 : p1.toInt ≠ 61 := kk_ne c_2
      refine lv_iload_n hx hb dX10_joins_68 rfl (lv_at hl 1 rfl) ?_
      refine lv_bipush (v := 62) hx hb dX10_joins_69 kk_bi_62 ?_
      refine lv_icmp_ne (tgt := 78) hx hb dX10_joins_71 (by decide) (fun c_3 => ?_) (fun c_3 => ?_)
      · have t_3 : p1.toInt ≠ 62 := kk_ne c_3
        refine lv_iconst (v := 0) hx hb dX10_joins_78 kk_ic_0 ?_
        obtain ⟨hP9, hD9⟩ := kk_leafout (wc := []) hP hD [] (by decide) rfl
        have hK9 := kk_Ks (tq := []) hK [] rfl
        exact W.zret (v := 0) hx hb hr rfl (fun t ht hW => ⟨⟨0, (), rfl, Or.inl ⟨by first | with_reducible assumption | (omega), by first | with_reducible assumption | (omega), by first | with_reducible assumption | (omega), (by show ((p1 : Int32).toInt < 60 ∨ 62 < (p1 : Int32).toInt); omega), rfl⟩, by rw [ht]; exact hP9, va_K.moved hW.alike hK9, hD9⟩, hS.F ht⟩) hS.2.2 dX10_joins_79
      · have t_3 : p1.toInt = 62 := kk_eq c_3
        refine lv_iconst (v := 1) hx hb dX10_joins_74 kk_ic_1 ?_
        refine lv_goto (tgt := 79) hx hb dX10_joins_75 (by decide) ?_
        obtain ⟨hP9, hD9⟩ := kk_leafout (wc := []) hP hD [] (by decide) rfl
        have hK9 := kk_Ks (tq := []) hK [] rfl
        exact W.zret (v := 1) hx hb hr rfl (fun t ht hW => ⟨⟨1, (), rfl, Or.inr (⟨(by show (60 ≤ (p1 : Int32).toInt ∧ (p1 : Int32).toInt ≤ 62); omega), rfl⟩), by rw [ht]; exact hP9, va_K.moved hW.alike hK9, hD9⟩, hS.F ht⟩) hS.2.2 dX10_joins_79
set_option maxHeartbeats 4000000 in
set_option maxRecDepth 100000 in
theorem g_X10_joins_8 (l : Launch) (dC : Nat → ClassId) (dI : Nat → Nat → Nat) (sz : Nat) (p1 : Int32) : Met l yX10_joins wsX10_joins ({ frames := 0, cells := 0, slots := 0, locals := 0 }) (va_Pc [.int 1, .int p1] (fun U => U.heap.size = sz ∧ va_P (dC, dI) vwCl [] U.heap ∧ va_K (dC, dI) vwCl [] U ∧ va_D (fun _ => True) [])) (va_Qi (fun (r : Int32) (_ : Unit) => (p1.toInt ≠ 38 ∧ p1.toInt ≠ 38 ∧ (0 : Int32) = r) ∨ (p1.toInt = 38 ∧ p1.toInt = 38 ∧ (1 : Int32) = r)) (fun (_ : Unit) t => va_P (dC, dI) vwCl [] t.heap ∧ va_K (dC, dI) vwCl [] t ∧ va_D (va_A [] sz) []) (va_A [] sz)) 0 0 (va_A [] sz) := by
  refine Met.ofW (cc := cX10_joins) (maxL := 2) (ret := (some .boolean)) (by decide) rfl ?_
  intro p e s m args below meth c s₁ B hml hv
  obtain ⟨rfl, hsz, hP, hK, hD0⟩ := hv
  have hx := B.exec
  have hb := B.bytes
  have hr := B.returns
  have hts := atoms_spec (ws := wsX10_joins) B.pre
  have hown : s.vm.findClass RX10 = some m.cls := findClass_of_methodNamed B.named
  have hlocks := B.notSynchronized
  subst hsz
  have hD := hD0.self (sz := s.heap.size)
  generalize hAe : va_A [] s.heap.size = A at hD ⊢
  have hA : ∀ q : Nat, s.heap.size ≤ q → A q := fun q h => by rw [← hAe]; exact Or.inr h
  have hS : va_S A s.heap s.heap [] := va_S.rf
  replace hP : va_P (dC, dI) vwCl [] s.heap := hP
  have hl := lv_entry ([.int 1, .int p1]) (n := 2) (Nat.le_of_ble_eq_true rfl)
  rw [lg_entry_eq]
  generalize (lg_sl ([.int 1, .int p1]) ++ List.replicate (2 - (lg_sl ([.int 1, .int p1])).length) Slot.unset).toArray = ls at hl ⊢
  replace hl : lv_has ls 2 [(0, .int 1), (1, .int p1)] := hl
  refine lv_iload_n hx hb dX10_joins_0 rfl (lv_at hl 0 rfl) ?_
  refine lv_tableIn (tgt := 44) hx hb dX10_joins_1 (by decide) (by decide) rfl (by decide) ?_
  refine lv_iload_n hx hb dX10_joins_44 rfl (lv_at hl 1 rfl) ?_
  refine lv_bipush (v := 38) hx hb dX10_joins_45 kk_bi_38 ?_
  refine lv_icmp_ne (tgt := 54) hx hb dX10_joins_47 (by decide) (fun c_1 => ?_) (fun c_1 => ?_)
  · have t_1 : p1.toInt ≠ 38 := kk_ne c_1
    refine lv_iconst (v := 0) hx hb dX10_joins_54 kk_ic_0 ?_
    obtain ⟨hP9, hD9⟩ := kk_leafout (wc := []) hP hD [] (by decide) rfl
    have hK9 := kk_Ks (tq := []) hK [] rfl
    exact W.zret (v := 0) hx hb hr rfl (fun t ht hW => ⟨⟨0, (), rfl, Or.inl ⟨by first | with_reducible assumption | (omega), (by show (p1 : Int32).toInt ≠ 38; omega), rfl⟩, by rw [ht]; exact hP9, va_K.moved hW.alike hK9, hD9⟩, hS.F ht⟩) hS.2.2 dX10_joins_55
  · have t_1 : p1.toInt = 38 := kk_eq c_1
    refine lv_iconst (v := 1) hx hb dX10_joins_50 kk_ic_1 ?_
    refine lv_goto (tgt := 55) hx hb dX10_joins_51 (by decide) ?_
    obtain ⟨hP9, hD9⟩ := kk_leafout (wc := []) hP hD [] (by decide) rfl
    have hK9 := kk_Ks (tq := []) hK [] rfl
    exact W.zret (v := 1) hx hb hr rfl (fun t ht hW => ⟨⟨1, (), rfl, Or.inr (⟨by first | with_reducible assumption | (omega), (by show (p1 : Int32).toInt = 38; omega), rfl⟩), by rw [ht]; exact hP9, va_K.moved hW.alike hK9, hD9⟩, hS.F ht⟩) hS.2.2 dX10_joins_55
set_option maxHeartbeats 4000000 in
set_option maxRecDepth 100000 in
theorem g_X10_joins_9 (l : Launch) (dC : Nat → ClassId) (dI : Nat → Nat → Nat) (sz : Nat) (p1 : Int32) : Met l yX10_joins wsX10_joins ({ frames := 0, cells := 0, slots := 0, locals := 0 }) (va_Pc [.int 0, .int p1] (fun U => U.heap.size = sz ∧ va_P (dC, dI) vwCl [] U.heap ∧ va_K (dC, dI) vwCl [] U ∧ va_D (fun _ => True) [])) (va_Qi (fun (r : Int32) (_ : Unit) => (p1.toInt ≠ 124 ∧ p1.toInt ≠ 124 ∧ (0 : Int32) = r) ∨ (p1.toInt = 124 ∧ p1.toInt = 124 ∧ (1 : Int32) = r)) (fun (_ : Unit) t => va_P (dC, dI) vwCl [] t.heap ∧ va_K (dC, dI) vwCl [] t ∧ va_D (va_A [] sz) []) (va_A [] sz)) 0 0 (va_A [] sz) := by
  refine Met.ofW (cc := cX10_joins) (maxL := 2) (ret := (some .boolean)) (by decide) rfl ?_
  intro p e s m args below meth c s₁ B hml hv
  obtain ⟨rfl, hsz, hP, hK, hD0⟩ := hv
  have hx := B.exec
  have hb := B.bytes
  have hr := B.returns
  have hts := atoms_spec (ws := wsX10_joins) B.pre
  have hown : s.vm.findClass RX10 = some m.cls := findClass_of_methodNamed B.named
  have hlocks := B.notSynchronized
  subst hsz
  have hD := hD0.self (sz := s.heap.size)
  generalize hAe : va_A [] s.heap.size = A at hD ⊢
  have hA : ∀ q : Nat, s.heap.size ≤ q → A q := fun q h => by rw [← hAe]; exact Or.inr h
  have hS : va_S A s.heap s.heap [] := va_S.rf
  replace hP : va_P (dC, dI) vwCl [] s.heap := hP
  have hl := lv_entry ([.int 0, .int p1]) (n := 2) (Nat.le_of_ble_eq_true rfl)
  rw [lg_entry_eq]
  generalize (lg_sl ([.int 0, .int p1]) ++ List.replicate (2 - (lg_sl ([.int 0, .int p1])).length) Slot.unset).toArray = ls at hl ⊢
  replace hl : lv_has ls 2 [(0, .int 0), (1, .int p1)] := hl
  refine lv_iload_n hx hb dX10_joins_0 rfl (lv_at hl 0 rfl) ?_
  refine lv_tableIn (tgt := 32) hx hb dX10_joins_1 (by decide) (by decide) rfl (by decide) ?_
  refine lv_iload_n hx hb dX10_joins_32 rfl (lv_at hl 1 rfl) ?_
  refine lv_bipush (v := 124) hx hb dX10_joins_33 kk_bi_124 ?_
  refine lv_icmp_ne (tgt := 42) hx hb dX10_joins_35 (by decide) (fun c_1 => ?_) (fun c_1 => ?_)
  · have t_1 : p1.toInt ≠ 124 := kk_ne c_1
    refine lv_iconst (v := 0) hx hb dX10_joins_42 kk_ic_0 ?_
    obtain ⟨hP9, hD9⟩ := kk_leafout (wc := []) hP hD [] (by decide) rfl
    have hK9 := kk_Ks (tq := []) hK [] rfl
    exact W.zret (v := 0) hx hb hr rfl (fun t ht hW => ⟨⟨0, (), rfl, Or.inl ⟨by first | with_reducible assumption | (omega), (by show (p1 : Int32).toInt ≠ 124; omega), rfl⟩, by rw [ht]; exact hP9, va_K.moved hW.alike hK9, hD9⟩, hS.F ht⟩) hS.2.2 dX10_joins_43
  · have t_1 : p1.toInt = 124 := kk_eq c_1
    refine lv_iconst (v := 1) hx hb dX10_joins_38 kk_ic_1 ?_
    refine lv_goto (tgt := 43) hx hb dX10_joins_39 (by decide) ?_
    obtain ⟨hP9, hD9⟩ := kk_leafout (wc := []) hP hD [] (by decide) rfl
    have hK9 := kk_Ks (tq := []) hK [] rfl
    exact W.zret (v := 1) hx hb hr rfl (fun t ht hW => ⟨⟨1, (), rfl, Or.inr (⟨by first | with_reducible assumption | (omega), (by show (p1 : Int32).toInt = 124; omega), rfl⟩), by rw [ht]; exact hP9, va_K.moved hW.alike hK9, hD9⟩, hS.F ht⟩) hS.2.2 dX10_joins_43
def ka_X10_readOperandv (l : Launch) (F L : Nat) (rk : Int) : Prop := ∀ (dC : Nat → ClassId) (dI : Nat → Nat → Nat) (h0 : Nat) (h1 : Nat) (h2 : Nat) (h3 : Nat) (h4 : Nat) (h5 : Nat) (cint : ClassId) (sz : Nat) (p0 : Int32) (tp0 : 0 ≤ p0.toInt ∧ p0.toInt ≤ 6) (n0_size : Int32) (n0_place : Int32) (f1 : Nat → Int32) (n2_size : Int32) (n2_top : Int32) (f3 : Nat → Int32) (tn0_size : 0 ≤ n0_size.toInt ∧ n0_size.toInt ≤ 120) (tn0_place : 0 ≤ n0_place.toInt ∧ n0_place.toInt ≤ 120) (bf1 : ∀ j, j < 120 → 0 ≤ (f1 j).toInt ∧ (f1 j).toInt ≤ 255) (tn2_size : 0 ≤ n2_size.toInt ∧ n2_size.toInt ≤ 128) (tn2_top : 0 ≤ n2_top.toInt ∧ n2_top.toInt ≤ 64) (pr0 : (6 ≤ p0.toInt + rk)) (pr1 : (0 ≤ n0_place.toInt ∧ n0_place.toInt ≤ n0_size.toInt)) (aNAMES : Nat), Met l yX10_readOperand wsX10_readOperand ({ frames := F, cells := 0, slots := 0, locals := L }) (va_Pc [.ref h0, .int p0] (fun U => U.heap.size = sz ∧ va_P (dC, dI) vwCl [(h0, kO10 h1 n0_size n0_place h2), (h1, kAi cint 120 f1), (h2, kO4 h3 n2_size h4 h5 n2_top), (h3, kAi cint 128 f3)] U.heap ∧ va_K (dC, dI) vwCl [(cint, .int)] U ∧ va_D (fun _ => True) [(h0, kO10 h1 n0_size n0_place h2), (h1, kAi cint 120 f1), (h2, kO4 h3 n2_size h4 h5 n2_top), (h3, kAi cint 128 f3)] ∧ va_Z "KinkStreet$Law" "NAMES" "[C" (.ref aNAMES) (va_A [(h0, kO10 h1 n0_size n0_place h2), (h1, kAi cint 120 f1), (h2, kO4 h3 n2_size h4 h5 n2_top), (h3, kAi cint 128 f3)] sz) U U.heap ∧ va_T .char aNAMES 8 tb_NAMES (va_A [(h0, kO10 h1 n0_size n0_place h2), (h1, kAi cint 120 f1), (h2, kO4 h3 n2_size h4 h5 n2_top), (h3, kAi cint 128 f3)] sz) U U.heap)) (va_Qi (fun (r : Int32) (u_ : Int32) => u_ = r ∧ True) (fun (u_ : Int32) t => ∃ (m0_place : Int32) (m2_size : Int32) (g3 : Nat → Int32), (0 ≤ m0_place.toInt ∧ m0_place.toInt ≤ 120) ∧ (0 ≤ m2_size.toInt ∧ m2_size.toInt ≤ 128) ∧ (((ko_R (ko_at f1 n0_size.toInt) (5 : Int) p0.toInt n0_place.toInt = -1 - m0_place.toInt ∧ 0 ≤ m0_place.toInt ∧ m0_place.toInt ≤ n0_size.toInt) ∧ u_ = (0 : Int32)) ∨ ((ko_R (ko_at f1 n0_size.toInt) (5 : Int) p0.toInt n0_place.toInt = m0_place.toInt ∧ 0 ≤ m0_place.toInt ∧ m0_place.toInt ≤ n0_size.toInt) ∧ u_ = (1 : Int32))) ∧ va_P (dC, dI) vwCl [(h0, kO10 h1 n0_size m0_place h2), (h1, kAi cint 120 f1), (h2, kO4 h3 m2_size h4 h5 n2_top), (h3, kAi cint 128 g3)] t.heap ∧ va_K (dC, dI) vwCl [] t ∧ va_D (va_A [(h0, kO10 h1 n0_size n0_place h2), (h1, kAi cint 120 f1), (h2, kO4 h3 n2_size h4 h5 n2_top), (h3, kAi cint 128 f3)] sz) [(h0, kO10 h1 n0_size m0_place h2), (h1, kAi cint 120 f1), (h2, kO4 h3 m2_size h4 h5 n2_top), (h3, kAi cint 128 g3)]) (va_A [(h0, kO10 h1 n0_size n0_place h2), (h1, kAi cint 120 f1), (h2, kO4 h3 n2_size h4 h5 n2_top), (h3, kAi cint 128 f3)] sz)) 0 0 (va_A [(h0, kO10 h1 n0_size n0_place h2), (h1, kAi cint 120 f1), (h2, kO4 h3 n2_size h4 h5 n2_top), (h3, kAi cint 128 f3)] sz)
def ka_X10_readChain_5v (l : Launch) (F L : Nat) (rk : Int) : Prop := ∀ (dC : Nat → ClassId) (dI : Nat → Nat → Nat) (h0 : Nat) (h1 : Nat) (h2 : Nat) (h3 : Nat) (h4 : Nat) (h5 : Nat) (cint : ClassId) (sz : Nat) (p1 : Int32) (tp1 : 0 ≤ p1.toInt ∧ p1.toInt ≤ 6) (n0_size : Int32) (n0_place : Int32) (f1 : Nat → Int32) (n2_size : Int32) (n2_top : Int32) (f3 : Nat → Int32) (tn0_size : 0 ≤ n0_size.toInt ∧ n0_size.toInt ≤ 120) (tn0_place : 0 ≤ n0_place.toInt ∧ n0_place.toInt ≤ 120) (bf1 : ∀ j, j < 120 → 0 ≤ (f1 j).toInt ∧ (f1 j).toInt ≤ 255) (tn2_size : 0 ≤ n2_size.toInt ∧ n2_size.toInt ≤ 128) (tn2_top : 0 ≤ n2_top.toInt ∧ n2_top.toInt ≤ 64) (pr0 : (6 ≤ p1.toInt + rk)) (pr1 : (0 ≤ n0_place.toInt ∧ n0_place.toInt ≤ n0_size.toInt)) (aNAMES : Nat), Met l yX10_readChain wsX10_readChain ({ frames := F, cells := 0, slots := 0, locals := L }) (va_Pc [.ref h0, .int 5, .int p1] (fun U => U.heap.size = sz ∧ va_P (dC, dI) vwCl [(h0, kO10 h1 n0_size n0_place h2), (h1, kAi cint 120 f1), (h2, kO4 h3 n2_size h4 h5 n2_top), (h3, kAi cint 128 f3)] U.heap ∧ va_K (dC, dI) vwCl [(cint, .int)] U ∧ va_D (fun _ => True) [(h0, kO10 h1 n0_size n0_place h2), (h1, kAi cint 120 f1), (h2, kO4 h3 n2_size h4 h5 n2_top), (h3, kAi cint 128 f3)] ∧ va_Z "KinkStreet$Law" "NAMES" "[C" (.ref aNAMES) (va_A [(h0, kO10 h1 n0_size n0_place h2), (h1, kAi cint 120 f1), (h2, kO4 h3 n2_size h4 h5 n2_top), (h3, kAi cint 128 f3)] sz) U U.heap ∧ va_T .char aNAMES 8 tb_NAMES (va_A [(h0, kO10 h1 n0_size n0_place h2), (h1, kAi cint 120 f1), (h2, kO4 h3 n2_size h4 h5 n2_top), (h3, kAi cint 128 f3)] sz) U U.heap)) (va_Qi (fun (r : Int32) (u_ : Int32) => u_ = r ∧ True) (fun (u_ : Int32) t => ∃ (m0_place : Int32) (m2_size : Int32) (g3 : Nat → Int32), (0 ≤ m0_place.toInt ∧ m0_place.toInt ≤ 120) ∧ (0 ≤ m2_size.toInt ∧ m2_size.toInt ≤ 128) ∧ (((ko_R (ko_at f1 n0_size.toInt) (5 : Int) p1.toInt n0_place.toInt = -1 - m0_place.toInt ∧ 0 ≤ m0_place.toInt ∧ m0_place.toInt ≤ n0_size.toInt) ∧ u_ = (0 : Int32)) ∨ ((ko_R (ko_at f1 n0_size.toInt) (5 : Int) p1.toInt n0_place.toInt = m0_place.toInt ∧ 0 ≤ m0_place.toInt ∧ m0_place.toInt ≤ n0_size.toInt) ∧ u_ = (1 : Int32))) ∧ va_P (dC, dI) vwCl [(h0, kO10 h1 n0_size m0_place h2), (h1, kAi cint 120 f1), (h2, kO4 h3 m2_size h4 h5 n2_top), (h3, kAi cint 128 g3)] t.heap ∧ va_K (dC, dI) vwCl [] t ∧ va_D (va_A [(h0, kO10 h1 n0_size n0_place h2), (h1, kAi cint 120 f1), (h2, kO4 h3 n2_size h4 h5 n2_top), (h3, kAi cint 128 f3)] sz) [(h0, kO10 h1 n0_size m0_place h2), (h1, kAi cint 120 f1), (h2, kO4 h3 m2_size h4 h5 n2_top), (h3, kAi cint 128 g3)]) (va_A [(h0, kO10 h1 n0_size n0_place h2), (h1, kAi cint 120 f1), (h2, kO4 h3 n2_size h4 h5 n2_top), (h3, kAi cint 128 f3)] sz)) 0 0 (va_A [(h0, kO10 h1 n0_size n0_place h2), (h1, kAi cint 120 f1), (h2, kO4 h3 n2_size h4 h5 n2_top), (h3, kAi cint 128 f3)] sz)
def ka_X10_readChain_4v (l : Launch) (F L : Nat) (rk : Int) : Prop := ∀ (dC : Nat → ClassId) (dI : Nat → Nat → Nat) (h0 : Nat) (h1 : Nat) (h2 : Nat) (h3 : Nat) (h4 : Nat) (h5 : Nat) (cint : ClassId) (sz : Nat) (p1 : Int32) (tp1 : 0 ≤ p1.toInt ∧ p1.toInt ≤ 6) (n0_size : Int32) (n0_place : Int32) (f1 : Nat → Int32) (n2_size : Int32) (n2_top : Int32) (f3 : Nat → Int32) (tn0_size : 0 ≤ n0_size.toInt ∧ n0_size.toInt ≤ 120) (tn0_place : 0 ≤ n0_place.toInt ∧ n0_place.toInt ≤ 120) (bf1 : ∀ j, j < 120 → 0 ≤ (f1 j).toInt ∧ (f1 j).toInt ≤ 255) (tn2_size : 0 ≤ n2_size.toInt ∧ n2_size.toInt ≤ 128) (tn2_top : 0 ≤ n2_top.toInt ∧ n2_top.toInt ≤ 64) (pr0 : (6 ≤ p1.toInt + rk)) (pr1 : (0 ≤ n0_place.toInt ∧ n0_place.toInt ≤ n0_size.toInt)) (aNAMES : Nat), Met l yX10_readChain wsX10_readChain ({ frames := F, cells := 0, slots := 0, locals := L }) (va_Pc [.ref h0, .int 4, .int p1] (fun U => U.heap.size = sz ∧ va_P (dC, dI) vwCl [(h0, kO10 h1 n0_size n0_place h2), (h1, kAi cint 120 f1), (h2, kO4 h3 n2_size h4 h5 n2_top), (h3, kAi cint 128 f3)] U.heap ∧ va_K (dC, dI) vwCl [(cint, .int)] U ∧ va_D (fun _ => True) [(h0, kO10 h1 n0_size n0_place h2), (h1, kAi cint 120 f1), (h2, kO4 h3 n2_size h4 h5 n2_top), (h3, kAi cint 128 f3)] ∧ va_Z "KinkStreet$Law" "NAMES" "[C" (.ref aNAMES) (va_A [(h0, kO10 h1 n0_size n0_place h2), (h1, kAi cint 120 f1), (h2, kO4 h3 n2_size h4 h5 n2_top), (h3, kAi cint 128 f3)] sz) U U.heap ∧ va_T .char aNAMES 8 tb_NAMES (va_A [(h0, kO10 h1 n0_size n0_place h2), (h1, kAi cint 120 f1), (h2, kO4 h3 n2_size h4 h5 n2_top), (h3, kAi cint 128 f3)] sz) U U.heap)) (va_Qi (fun (r : Int32) (u_ : Int32) => u_ = r ∧ True) (fun (u_ : Int32) t => ∃ (m0_place : Int32) (m2_size : Int32) (g3 : Nat → Int32), (0 ≤ m0_place.toInt ∧ m0_place.toInt ≤ 120) ∧ (0 ≤ m2_size.toInt ∧ m2_size.toInt ≤ 128) ∧ (((ko_R (ko_at f1 n0_size.toInt) (4 : Int) p1.toInt n0_place.toInt = -1 - m0_place.toInt ∧ 0 ≤ m0_place.toInt ∧ m0_place.toInt ≤ n0_size.toInt) ∧ u_ = (0 : Int32)) ∨ ((ko_R (ko_at f1 n0_size.toInt) (4 : Int) p1.toInt n0_place.toInt = m0_place.toInt ∧ 0 ≤ m0_place.toInt ∧ m0_place.toInt ≤ n0_size.toInt) ∧ u_ = (1 : Int32))) ∧ va_P (dC, dI) vwCl [(h0, kO10 h1 n0_size m0_place h2), (h1, kAi cint 120 f1), (h2, kO4 h3 m2_size h4 h5 n2_top), (h3, kAi cint 128 g3)] t.heap ∧ va_K (dC, dI) vwCl [] t ∧ va_D (va_A [(h0, kO10 h1 n0_size n0_place h2), (h1, kAi cint 120 f1), (h2, kO4 h3 n2_size h4 h5 n2_top), (h3, kAi cint 128 f3)] sz) [(h0, kO10 h1 n0_size m0_place h2), (h1, kAi cint 120 f1), (h2, kO4 h3 m2_size h4 h5 n2_top), (h3, kAi cint 128 g3)]) (va_A [(h0, kO10 h1 n0_size n0_place h2), (h1, kAi cint 120 f1), (h2, kO4 h3 n2_size h4 h5 n2_top), (h3, kAi cint 128 f3)] sz)) 0 0 (va_A [(h0, kO10 h1 n0_size n0_place h2), (h1, kAi cint 120 f1), (h2, kO4 h3 n2_size h4 h5 n2_top), (h3, kAi cint 128 f3)] sz)
def ka_X10_readChain_3v (l : Launch) (F L : Nat) (rk : Int) : Prop := ∀ (dC : Nat → ClassId) (dI : Nat → Nat → Nat) (h0 : Nat) (h1 : Nat) (h2 : Nat) (h3 : Nat) (h4 : Nat) (h5 : Nat) (cint : ClassId) (sz : Nat) (p1 : Int32) (tp1 : 0 ≤ p1.toInt ∧ p1.toInt ≤ 6) (n0_size : Int32) (n0_place : Int32) (f1 : Nat → Int32) (n2_size : Int32) (n2_top : Int32) (f3 : Nat → Int32) (tn0_size : 0 ≤ n0_size.toInt ∧ n0_size.toInt ≤ 120) (tn0_place : 0 ≤ n0_place.toInt ∧ n0_place.toInt ≤ 120) (bf1 : ∀ j, j < 120 → 0 ≤ (f1 j).toInt ∧ (f1 j).toInt ≤ 255) (tn2_size : 0 ≤ n2_size.toInt ∧ n2_size.toInt ≤ 128) (tn2_top : 0 ≤ n2_top.toInt ∧ n2_top.toInt ≤ 64) (pr0 : (6 ≤ p1.toInt + rk)) (pr1 : (0 ≤ n0_place.toInt ∧ n0_place.toInt ≤ n0_size.toInt)) (aNAMES : Nat), Met l yX10_readChain wsX10_readChain ({ frames := F, cells := 0, slots := 0, locals := L }) (va_Pc [.ref h0, .int 3, .int p1] (fun U => U.heap.size = sz ∧ va_P (dC, dI) vwCl [(h0, kO10 h1 n0_size n0_place h2), (h1, kAi cint 120 f1), (h2, kO4 h3 n2_size h4 h5 n2_top), (h3, kAi cint 128 f3)] U.heap ∧ va_K (dC, dI) vwCl [(cint, .int)] U ∧ va_D (fun _ => True) [(h0, kO10 h1 n0_size n0_place h2), (h1, kAi cint 120 f1), (h2, kO4 h3 n2_size h4 h5 n2_top), (h3, kAi cint 128 f3)] ∧ va_Z "KinkStreet$Law" "NAMES" "[C" (.ref aNAMES) (va_A [(h0, kO10 h1 n0_size n0_place h2), (h1, kAi cint 120 f1), (h2, kO4 h3 n2_size h4 h5 n2_top), (h3, kAi cint 128 f3)] sz) U U.heap ∧ va_T .char aNAMES 8 tb_NAMES (va_A [(h0, kO10 h1 n0_size n0_place h2), (h1, kAi cint 120 f1), (h2, kO4 h3 n2_size h4 h5 n2_top), (h3, kAi cint 128 f3)] sz) U U.heap)) (va_Qi (fun (r : Int32) (u_ : Int32) => u_ = r ∧ True) (fun (u_ : Int32) t => ∃ (m0_place : Int32) (m2_size : Int32) (g3 : Nat → Int32), (0 ≤ m0_place.toInt ∧ m0_place.toInt ≤ 120) ∧ (0 ≤ m2_size.toInt ∧ m2_size.toInt ≤ 128) ∧ (((ko_R (ko_at f1 n0_size.toInt) (3 : Int) p1.toInt n0_place.toInt = -1 - m0_place.toInt ∧ 0 ≤ m0_place.toInt ∧ m0_place.toInt ≤ n0_size.toInt) ∧ u_ = (0 : Int32)) ∨ ((ko_R (ko_at f1 n0_size.toInt) (3 : Int) p1.toInt n0_place.toInt = m0_place.toInt ∧ 0 ≤ m0_place.toInt ∧ m0_place.toInt ≤ n0_size.toInt) ∧ u_ = (1 : Int32))) ∧ va_P (dC, dI) vwCl [(h0, kO10 h1 n0_size m0_place h2), (h1, kAi cint 120 f1), (h2, kO4 h3 m2_size h4 h5 n2_top), (h3, kAi cint 128 g3)] t.heap ∧ va_K (dC, dI) vwCl [] t ∧ va_D (va_A [(h0, kO10 h1 n0_size n0_place h2), (h1, kAi cint 120 f1), (h2, kO4 h3 n2_size h4 h5 n2_top), (h3, kAi cint 128 f3)] sz) [(h0, kO10 h1 n0_size m0_place h2), (h1, kAi cint 120 f1), (h2, kO4 h3 m2_size h4 h5 n2_top), (h3, kAi cint 128 g3)]) (va_A [(h0, kO10 h1 n0_size n0_place h2), (h1, kAi cint 120 f1), (h2, kO4 h3 n2_size h4 h5 n2_top), (h3, kAi cint 128 f3)] sz)) 0 0 (va_A [(h0, kO10 h1 n0_size n0_place h2), (h1, kAi cint 120 f1), (h2, kO4 h3 n2_size h4 h5 n2_top), (h3, kAi cint 128 f3)] sz)
def ka_X10_readChain_2v (l : Launch) (F L : Nat) (rk : Int) : Prop := ∀ (dC : Nat → ClassId) (dI : Nat → Nat → Nat) (h0 : Nat) (h1 : Nat) (h2 : Nat) (h3 : Nat) (h4 : Nat) (h5 : Nat) (cint : ClassId) (sz : Nat) (p1 : Int32) (tp1 : 0 ≤ p1.toInt ∧ p1.toInt ≤ 6) (n0_size : Int32) (n0_place : Int32) (f1 : Nat → Int32) (n2_size : Int32) (n2_top : Int32) (f3 : Nat → Int32) (tn0_size : 0 ≤ n0_size.toInt ∧ n0_size.toInt ≤ 120) (tn0_place : 0 ≤ n0_place.toInt ∧ n0_place.toInt ≤ 120) (bf1 : ∀ j, j < 120 → 0 ≤ (f1 j).toInt ∧ (f1 j).toInt ≤ 255) (tn2_size : 0 ≤ n2_size.toInt ∧ n2_size.toInt ≤ 128) (tn2_top : 0 ≤ n2_top.toInt ∧ n2_top.toInt ≤ 64) (pr0 : (6 ≤ p1.toInt + rk)) (pr1 : (0 ≤ n0_place.toInt ∧ n0_place.toInt ≤ n0_size.toInt)) (aNAMES : Nat), Met l yX10_readChain wsX10_readChain ({ frames := F, cells := 0, slots := 0, locals := L }) (va_Pc [.ref h0, .int 2, .int p1] (fun U => U.heap.size = sz ∧ va_P (dC, dI) vwCl [(h0, kO10 h1 n0_size n0_place h2), (h1, kAi cint 120 f1), (h2, kO4 h3 n2_size h4 h5 n2_top), (h3, kAi cint 128 f3)] U.heap ∧ va_K (dC, dI) vwCl [(cint, .int)] U ∧ va_D (fun _ => True) [(h0, kO10 h1 n0_size n0_place h2), (h1, kAi cint 120 f1), (h2, kO4 h3 n2_size h4 h5 n2_top), (h3, kAi cint 128 f3)] ∧ va_Z "KinkStreet$Law" "NAMES" "[C" (.ref aNAMES) (va_A [(h0, kO10 h1 n0_size n0_place h2), (h1, kAi cint 120 f1), (h2, kO4 h3 n2_size h4 h5 n2_top), (h3, kAi cint 128 f3)] sz) U U.heap ∧ va_T .char aNAMES 8 tb_NAMES (va_A [(h0, kO10 h1 n0_size n0_place h2), (h1, kAi cint 120 f1), (h2, kO4 h3 n2_size h4 h5 n2_top), (h3, kAi cint 128 f3)] sz) U U.heap)) (va_Qi (fun (r : Int32) (u_ : Int32) => u_ = r ∧ True) (fun (u_ : Int32) t => ∃ (m0_place : Int32) (m2_size : Int32) (g3 : Nat → Int32), (0 ≤ m0_place.toInt ∧ m0_place.toInt ≤ 120) ∧ (0 ≤ m2_size.toInt ∧ m2_size.toInt ≤ 128) ∧ (((ko_R (ko_at f1 n0_size.toInt) (2 : Int) p1.toInt n0_place.toInt = -1 - m0_place.toInt ∧ 0 ≤ m0_place.toInt ∧ m0_place.toInt ≤ n0_size.toInt) ∧ u_ = (0 : Int32)) ∨ ((ko_R (ko_at f1 n0_size.toInt) (2 : Int) p1.toInt n0_place.toInt = m0_place.toInt ∧ 0 ≤ m0_place.toInt ∧ m0_place.toInt ≤ n0_size.toInt) ∧ u_ = (1 : Int32))) ∧ va_P (dC, dI) vwCl [(h0, kO10 h1 n0_size m0_place h2), (h1, kAi cint 120 f1), (h2, kO4 h3 m2_size h4 h5 n2_top), (h3, kAi cint 128 g3)] t.heap ∧ va_K (dC, dI) vwCl [] t ∧ va_D (va_A [(h0, kO10 h1 n0_size n0_place h2), (h1, kAi cint 120 f1), (h2, kO4 h3 n2_size h4 h5 n2_top), (h3, kAi cint 128 f3)] sz) [(h0, kO10 h1 n0_size m0_place h2), (h1, kAi cint 120 f1), (h2, kO4 h3 m2_size h4 h5 n2_top), (h3, kAi cint 128 g3)]) (va_A [(h0, kO10 h1 n0_size n0_place h2), (h1, kAi cint 120 f1), (h2, kO4 h3 n2_size h4 h5 n2_top), (h3, kAi cint 128 f3)] sz)) 0 0 (va_A [(h0, kO10 h1 n0_size n0_place h2), (h1, kAi cint 120 f1), (h2, kO4 h3 n2_size h4 h5 n2_top), (h3, kAi cint 128 f3)] sz)
def ka_X10_readChain_1v (l : Launch) (F L : Nat) (rk : Int) : Prop := ∀ (dC : Nat → ClassId) (dI : Nat → Nat → Nat) (h0 : Nat) (h1 : Nat) (h2 : Nat) (h3 : Nat) (h4 : Nat) (h5 : Nat) (cint : ClassId) (sz : Nat) (p1 : Int32) (tp1 : 0 ≤ p1.toInt ∧ p1.toInt ≤ 6) (n0_size : Int32) (n0_place : Int32) (f1 : Nat → Int32) (n2_size : Int32) (n2_top : Int32) (f3 : Nat → Int32) (tn0_size : 0 ≤ n0_size.toInt ∧ n0_size.toInt ≤ 120) (tn0_place : 0 ≤ n0_place.toInt ∧ n0_place.toInt ≤ 120) (bf1 : ∀ j, j < 120 → 0 ≤ (f1 j).toInt ∧ (f1 j).toInt ≤ 255) (tn2_size : 0 ≤ n2_size.toInt ∧ n2_size.toInt ≤ 128) (tn2_top : 0 ≤ n2_top.toInt ∧ n2_top.toInt ≤ 64) (pr0 : (6 ≤ p1.toInt + rk)) (pr1 : (0 ≤ n0_place.toInt ∧ n0_place.toInt ≤ n0_size.toInt)) (aNAMES : Nat), Met l yX10_readChain wsX10_readChain ({ frames := F, cells := 0, slots := 0, locals := L }) (va_Pc [.ref h0, .int 1, .int p1] (fun U => U.heap.size = sz ∧ va_P (dC, dI) vwCl [(h0, kO10 h1 n0_size n0_place h2), (h1, kAi cint 120 f1), (h2, kO4 h3 n2_size h4 h5 n2_top), (h3, kAi cint 128 f3)] U.heap ∧ va_K (dC, dI) vwCl [(cint, .int)] U ∧ va_D (fun _ => True) [(h0, kO10 h1 n0_size n0_place h2), (h1, kAi cint 120 f1), (h2, kO4 h3 n2_size h4 h5 n2_top), (h3, kAi cint 128 f3)] ∧ va_Z "KinkStreet$Law" "NAMES" "[C" (.ref aNAMES) (va_A [(h0, kO10 h1 n0_size n0_place h2), (h1, kAi cint 120 f1), (h2, kO4 h3 n2_size h4 h5 n2_top), (h3, kAi cint 128 f3)] sz) U U.heap ∧ va_T .char aNAMES 8 tb_NAMES (va_A [(h0, kO10 h1 n0_size n0_place h2), (h1, kAi cint 120 f1), (h2, kO4 h3 n2_size h4 h5 n2_top), (h3, kAi cint 128 f3)] sz) U U.heap)) (va_Qi (fun (r : Int32) (u_ : Int32) => u_ = r ∧ True) (fun (u_ : Int32) t => ∃ (m0_place : Int32) (m2_size : Int32) (g3 : Nat → Int32), (0 ≤ m0_place.toInt ∧ m0_place.toInt ≤ 120) ∧ (0 ≤ m2_size.toInt ∧ m2_size.toInt ≤ 128) ∧ (((ko_R (ko_at f1 n0_size.toInt) (1 : Int) p1.toInt n0_place.toInt = -1 - m0_place.toInt ∧ 0 ≤ m0_place.toInt ∧ m0_place.toInt ≤ n0_size.toInt) ∧ u_ = (0 : Int32)) ∨ ((ko_R (ko_at f1 n0_size.toInt) (1 : Int) p1.toInt n0_place.toInt = m0_place.toInt ∧ 0 ≤ m0_place.toInt ∧ m0_place.toInt ≤ n0_size.toInt) ∧ u_ = (1 : Int32))) ∧ va_P (dC, dI) vwCl [(h0, kO10 h1 n0_size m0_place h2), (h1, kAi cint 120 f1), (h2, kO4 h3 m2_size h4 h5 n2_top), (h3, kAi cint 128 g3)] t.heap ∧ va_K (dC, dI) vwCl [] t ∧ va_D (va_A [(h0, kO10 h1 n0_size n0_place h2), (h1, kAi cint 120 f1), (h2, kO4 h3 n2_size h4 h5 n2_top), (h3, kAi cint 128 f3)] sz) [(h0, kO10 h1 n0_size m0_place h2), (h1, kAi cint 120 f1), (h2, kO4 h3 m2_size h4 h5 n2_top), (h3, kAi cint 128 g3)]) (va_A [(h0, kO10 h1 n0_size n0_place h2), (h1, kAi cint 120 f1), (h2, kO4 h3 n2_size h4 h5 n2_top), (h3, kAi cint 128 f3)] sz)) 0 0 (va_A [(h0, kO10 h1 n0_size n0_place h2), (h1, kAi cint 120 f1), (h2, kO4 h3 n2_size h4 h5 n2_top), (h3, kAi cint 128 f3)] sz)
def ka_X10_readChain_0v (l : Launch) (F L : Nat) (rk : Int) : Prop := ∀ (dC : Nat → ClassId) (dI : Nat → Nat → Nat) (h0 : Nat) (h1 : Nat) (h2 : Nat) (h3 : Nat) (h4 : Nat) (h5 : Nat) (cint : ClassId) (sz : Nat) (p1 : Int32) (tp1 : 0 ≤ p1.toInt ∧ p1.toInt ≤ 6) (n0_size : Int32) (n0_place : Int32) (f1 : Nat → Int32) (n2_size : Int32) (n2_top : Int32) (f3 : Nat → Int32) (tn0_size : 0 ≤ n0_size.toInt ∧ n0_size.toInt ≤ 120) (tn0_place : 0 ≤ n0_place.toInt ∧ n0_place.toInt ≤ 120) (bf1 : ∀ j, j < 120 → 0 ≤ (f1 j).toInt ∧ (f1 j).toInt ≤ 255) (tn2_size : 0 ≤ n2_size.toInt ∧ n2_size.toInt ≤ 128) (tn2_top : 0 ≤ n2_top.toInt ∧ n2_top.toInt ≤ 64) (pr0 : (6 ≤ p1.toInt + rk)) (pr1 : (0 ≤ n0_place.toInt ∧ n0_place.toInt ≤ n0_size.toInt)) (aNAMES : Nat), Met l yX10_readChain wsX10_readChain ({ frames := F, cells := 0, slots := 0, locals := L }) (va_Pc [.ref h0, .int 0, .int p1] (fun U => U.heap.size = sz ∧ va_P (dC, dI) vwCl [(h0, kO10 h1 n0_size n0_place h2), (h1, kAi cint 120 f1), (h2, kO4 h3 n2_size h4 h5 n2_top), (h3, kAi cint 128 f3)] U.heap ∧ va_K (dC, dI) vwCl [(cint, .int)] U ∧ va_D (fun _ => True) [(h0, kO10 h1 n0_size n0_place h2), (h1, kAi cint 120 f1), (h2, kO4 h3 n2_size h4 h5 n2_top), (h3, kAi cint 128 f3)] ∧ va_Z "KinkStreet$Law" "NAMES" "[C" (.ref aNAMES) (va_A [(h0, kO10 h1 n0_size n0_place h2), (h1, kAi cint 120 f1), (h2, kO4 h3 n2_size h4 h5 n2_top), (h3, kAi cint 128 f3)] sz) U U.heap ∧ va_T .char aNAMES 8 tb_NAMES (va_A [(h0, kO10 h1 n0_size n0_place h2), (h1, kAi cint 120 f1), (h2, kO4 h3 n2_size h4 h5 n2_top), (h3, kAi cint 128 f3)] sz) U U.heap)) (va_Qi (fun (r : Int32) (u_ : Int32) => u_ = r ∧ True) (fun (u_ : Int32) t => ∃ (m0_place : Int32) (m2_size : Int32) (g3 : Nat → Int32), (0 ≤ m0_place.toInt ∧ m0_place.toInt ≤ 120) ∧ (0 ≤ m2_size.toInt ∧ m2_size.toInt ≤ 128) ∧ (((ko_R (ko_at f1 n0_size.toInt) (0 : Int) p1.toInt n0_place.toInt = -1 - m0_place.toInt ∧ 0 ≤ m0_place.toInt ∧ m0_place.toInt ≤ n0_size.toInt) ∧ u_ = (0 : Int32)) ∨ ((ko_R (ko_at f1 n0_size.toInt) (0 : Int) p1.toInt n0_place.toInt = m0_place.toInt ∧ 0 ≤ m0_place.toInt ∧ m0_place.toInt ≤ n0_size.toInt) ∧ u_ = (1 : Int32))) ∧ va_P (dC, dI) vwCl [(h0, kO10 h1 n0_size m0_place h2), (h1, kAi cint 120 f1), (h2, kO4 h3 m2_size h4 h5 n2_top), (h3, kAi cint 128 g3)] t.heap ∧ va_K (dC, dI) vwCl [] t ∧ va_D (va_A [(h0, kO10 h1 n0_size n0_place h2), (h1, kAi cint 120 f1), (h2, kO4 h3 n2_size h4 h5 n2_top), (h3, kAi cint 128 f3)] sz) [(h0, kO10 h1 n0_size m0_place h2), (h1, kAi cint 120 f1), (h2, kO4 h3 m2_size h4 h5 n2_top), (h3, kAi cint 128 g3)]) (va_A [(h0, kO10 h1 n0_size n0_place h2), (h1, kAi cint 120 f1), (h2, kO4 h3 n2_size h4 h5 n2_top), (h3, kAi cint 128 f3)] sz)) 0 0 (va_A [(h0, kO10 h1 n0_size n0_place h2), (h1, kAi cint 120 f1), (h2, kO4 h3 n2_size h4 h5 n2_top), (h3, kAi cint 128 f3)] sz)
def ka_X10_readInnerv (l : Launch) (F L : Nat) (rk : Int) : Prop := ∀ (dC : Nat → ClassId) (dI : Nat → Nat → Nat) (h0 : Nat) (h1 : Nat) (h2 : Nat) (h3 : Nat) (h4 : Nat) (h5 : Nat) (cint : ClassId) (sz : Nat) (p0 : Int32) (tp0 : 0 ≤ p0.toInt ∧ p0.toInt ≤ 6) (n0_size : Int32) (n0_place : Int32) (f1 : Nat → Int32) (n2_size : Int32) (n2_top : Int32) (f3 : Nat → Int32) (tn0_size : 0 ≤ n0_size.toInt ∧ n0_size.toInt ≤ 120) (tn0_place : 0 ≤ n0_place.toInt ∧ n0_place.toInt ≤ 120) (bf1 : ∀ j, j < 120 → 0 ≤ (f1 j).toInt ∧ (f1 j).toInt ≤ 255) (tn2_size : 0 ≤ n2_size.toInt ∧ n2_size.toInt ≤ 128) (tn2_top : 0 ≤ n2_top.toInt ∧ n2_top.toInt ≤ 64) (pr0 : (6 ≤ p0.toInt + rk)) (pr1 : (0 ≤ n0_place.toInt ∧ n0_place.toInt ≤ n0_size.toInt)) (aNAMES : Nat), Met l yX10_readInner wsX10_readInner ({ frames := F, cells := 0, slots := 0, locals := L }) (va_Pc [.ref h0, .int p0] (fun U => U.heap.size = sz ∧ va_P (dC, dI) vwCl [(h0, kO10 h1 n0_size n0_place h2), (h1, kAi cint 120 f1), (h2, kO4 h3 n2_size h4 h5 n2_top), (h3, kAi cint 128 f3)] U.heap ∧ va_K (dC, dI) vwCl [(cint, .int)] U ∧ va_D (fun _ => True) [(h0, kO10 h1 n0_size n0_place h2), (h1, kAi cint 120 f1), (h2, kO4 h3 n2_size h4 h5 n2_top), (h3, kAi cint 128 f3)] ∧ va_Z "KinkStreet$Law" "NAMES" "[C" (.ref aNAMES) (va_A [(h0, kO10 h1 n0_size n0_place h2), (h1, kAi cint 120 f1), (h2, kO4 h3 n2_size h4 h5 n2_top), (h3, kAi cint 128 f3)] sz) U U.heap ∧ va_T .char aNAMES 8 tb_NAMES (va_A [(h0, kO10 h1 n0_size n0_place h2), (h1, kAi cint 120 f1), (h2, kO4 h3 n2_size h4 h5 n2_top), (h3, kAi cint 128 f3)] sz) U U.heap)) (va_Qi (fun (r : Int32) (u_ : Int32) => u_ = r ∧ True) (fun (u_ : Int32) t => ∃ (m0_place : Int32) (m2_size : Int32) (g3 : Nat → Int32), (0 ≤ m0_place.toInt ∧ m0_place.toInt ≤ 120) ∧ (0 ≤ m2_size.toInt ∧ m2_size.toInt ≤ 128) ∧ ((((((ko_R (ko_at f1 n0_size.toInt) (0 : Int) p0.toInt n0_place.toInt) < 0 ∧ m0_place.toInt = -1 - (ko_R (ko_at f1 n0_size.toInt) (0 : Int) p0.toInt n0_place.toInt)) ∨ (0 ≤ (ko_R (ko_at f1 n0_size.toInt) (0 : Int) p0.toInt n0_place.toInt) ∧ ko_at f1 n0_size.toInt (ko_R (ko_at f1 n0_size.toInt) (0 : Int) p0.toInt n0_place.toInt) ≠ 41 ∧ m0_place.toInt = (ko_R (ko_at f1 n0_size.toInt) (0 : Int) p0.toInt n0_place.toInt))) ∧ 0 ≤ m0_place.toInt ∧ m0_place.toInt ≤ n0_size.toInt) ∧ u_ = (0 : Int32)) ∨ ((0 ≤ (ko_R (ko_at f1 n0_size.toInt) (0 : Int) p0.toInt n0_place.toInt) ∧ ko_at f1 n0_size.toInt (ko_R (ko_at f1 n0_size.toInt) (0 : Int) p0.toInt n0_place.toInt) = 41 ∧ m0_place.toInt = (ko_R (ko_at f1 n0_size.toInt) (0 : Int) p0.toInt n0_place.toInt) + 1 ∧ 0 ≤ m0_place.toInt ∧ m0_place.toInt ≤ n0_size.toInt) ∧ u_ = (1 : Int32))) ∧ va_P (dC, dI) vwCl [(h0, kO10 h1 n0_size m0_place h2), (h1, kAi cint 120 f1), (h2, kO4 h3 m2_size h4 h5 n2_top), (h3, kAi cint 128 g3)] t.heap ∧ va_K (dC, dI) vwCl [] t ∧ va_D (va_A [(h0, kO10 h1 n0_size n0_place h2), (h1, kAi cint 120 f1), (h2, kO4 h3 n2_size h4 h5 n2_top), (h3, kAi cint 128 f3)] sz) [(h0, kO10 h1 n0_size m0_place h2), (h1, kAi cint 120 f1), (h2, kO4 h3 m2_size h4 h5 n2_top), (h3, kAi cint 128 g3)]) (va_A [(h0, kO10 h1 n0_size n0_place h2), (h1, kAi cint 120 f1), (h2, kO4 h3 n2_size h4 h5 n2_top), (h3, kAi cint 128 f3)] sz)) 0 0 (va_A [(h0, kO10 h1 n0_size n0_place h2), (h1, kAi cint 120 f1), (h2, kO4 h3 n2_size h4 h5 n2_top), (h3, kAi cint 128 f3)] sz)
def ka_X10_readSignedv (l : Launch) (F L : Nat) (rk : Int) : Prop := ∀ (dC : Nat → ClassId) (dI : Nat → Nat → Nat) (h0 : Nat) (h1 : Nat) (h2 : Nat) (h3 : Nat) (h4 : Nat) (h5 : Nat) (cint : ClassId) (sz : Nat) (p0 : Int32) (p1 : Int32) (tp1 : 0 ≤ p1.toInt ∧ p1.toInt ≤ 6) (n0_size : Int32) (n0_place : Int32) (f1 : Nat → Int32) (n2_size : Int32) (n2_top : Int32) (f3 : Nat → Int32) (tn0_size : 0 ≤ n0_size.toInt ∧ n0_size.toInt ≤ 120) (tn0_place : 0 ≤ n0_place.toInt ∧ n0_place.toInt ≤ 120) (bf1 : ∀ j, j < 120 → 0 ≤ (f1 j).toInt ∧ (f1 j).toInt ≤ 255) (tn2_size : 0 ≤ n2_size.toInt ∧ n2_size.toInt ≤ 128) (tn2_top : 0 ≤ n2_top.toInt ∧ n2_top.toInt ≤ 64) (pr0 : (6 ≤ p1.toInt + rk)) (pr1 : (0 ≤ n0_place.toInt ∧ n0_place.toInt ≤ n0_size.toInt)) (aNAMES : Nat), Met l yX10_readSigned wsX10_readSigned ({ frames := F, cells := 0, slots := 0, locals := L }) (va_Pc [.ref h0, .int p0, .int p1] (fun U => U.heap.size = sz ∧ va_P (dC, dI) vwCl [(h0, kO10 h1 n0_size n0_place h2), (h1, kAi cint 120 f1), (h2, kO4 h3 n2_size h4 h5 n2_top), (h3, kAi cint 128 f3)] U.heap ∧ va_K (dC, dI) vwCl [(cint, .int)] U ∧ va_D (fun _ => True) [(h0, kO10 h1 n0_size n0_place h2), (h1, kAi cint 120 f1), (h2, kO4 h3 n2_size h4 h5 n2_top), (h3, kAi cint 128 f3)] ∧ va_Z "KinkStreet$Law" "NAMES" "[C" (.ref aNAMES) (va_A [(h0, kO10 h1 n0_size n0_place h2), (h1, kAi cint 120 f1), (h2, kO4 h3 n2_size h4 h5 n2_top), (h3, kAi cint 128 f3)] sz) U U.heap ∧ va_T .char aNAMES 8 tb_NAMES (va_A [(h0, kO10 h1 n0_size n0_place h2), (h1, kAi cint 120 f1), (h2, kO4 h3 n2_size h4 h5 n2_top), (h3, kAi cint 128 f3)] sz) U U.heap)) (va_Qi (fun (r : Int32) (u_ : Int32) => u_ = r ∧ True) (fun (u_ : Int32) t => ∃ (m0_place : Int32) (m2_size : Int32) (g3 : Nat → Int32), (0 ≤ m0_place.toInt ∧ m0_place.toInt ≤ 120) ∧ (0 ≤ m2_size.toInt ∧ m2_size.toInt ≤ 128) ∧ (((ko_R (ko_at f1 n0_size.toInt) (5 : Int) p1.toInt n0_place.toInt = -1 - m0_place.toInt ∧ 0 ≤ m0_place.toInt ∧ m0_place.toInt ≤ n0_size.toInt) ∧ u_ = (0 : Int32)) ∨ ((ko_R (ko_at f1 n0_size.toInt) (5 : Int) p1.toInt n0_place.toInt = m0_place.toInt ∧ 0 ≤ m0_place.toInt ∧ m0_place.toInt ≤ n0_size.toInt) ∧ u_ = (1 : Int32))) ∧ va_P (dC, dI) vwCl [(h0, kO10 h1 n0_size m0_place h2), (h1, kAi cint 120 f1), (h2, kO4 h3 m2_size h4 h5 n2_top), (h3, kAi cint 128 g3)] t.heap ∧ va_K (dC, dI) vwCl [] t ∧ va_D (va_A [(h0, kO10 h1 n0_size n0_place h2), (h1, kAi cint 120 f1), (h2, kO4 h3 n2_size h4 h5 n2_top), (h3, kAi cint 128 f3)] sz) [(h0, kO10 h1 n0_size m0_place h2), (h1, kAi cint 120 f1), (h2, kO4 h3 m2_size h4 h5 n2_top), (h3, kAi cint 128 g3)]) (va_A [(h0, kO10 h1 n0_size n0_place h2), (h1, kAi cint 120 f1), (h2, kO4 h3 n2_size h4 h5 n2_top), (h3, kAi cint 128 f3)] sz)) 0 0 (va_A [(h0, kO10 h1 n0_size n0_place h2), (h1, kAi cint 120 f1), (h2, kO4 h3 n2_size h4 h5 n2_top), (h3, kAi cint 128 f3)] sz)
set_option maxHeartbeats 4000000 in
set_option maxRecDepth 100000 in
theorem s_X10_readOperandv (l : Launch) (F L : Nat) (hF : 10 ≤ F) (hL : 200 ≤ L) (rk : Int) (Fq0 Lq0 : Nat) (hF0 : Fq0 ≤ F) (hL0 : Lq0 ≤ L) (ih0 : ka_X10_readInnerv l Fq0 Lq0 (rk - 1)) (Fq1 Lq1 : Nat) (hF1 : Fq1 ≤ F) (hL1 : Lq1 ≤ L) (ih1 : ka_X10_readSignedv l Fq1 Lq1 (rk - 1)) (dC : Nat → ClassId) (dI : Nat → Nat → Nat) (h0 : Nat) (h1 : Nat) (h2 : Nat) (h3 : Nat) (h4 : Nat) (h5 : Nat) (cint : ClassId) (sz : Nat) (p0 : Int32) (tp0 : 0 ≤ p0.toInt ∧ p0.toInt ≤ 6) (n0_size : Int32) (n0_place : Int32) (f1 : Nat → Int32) (n2_size : Int32) (n2_top : Int32) (f3 : Nat → Int32) (tn0_size : 0 ≤ n0_size.toInt ∧ n0_size.toInt ≤ 120) (tn0_place : 0 ≤ n0_place.toInt ∧ n0_place.toInt ≤ 120) (bf1 : ∀ j, j < 120 → 0 ≤ (f1 j).toInt ∧ (f1 j).toInt ≤ 255) (tn2_size : kk_bx (0 ≤ n2_size.toInt ∧ n2_size.toInt ≤ 128)) (tn2_top : kk_bx (0 ≤ n2_top.toInt ∧ n2_top.toInt ≤ 64)) (pr0 : (6 ≤ p0.toInt + rk)) (pr1 : (0 ≤ n0_place.toInt ∧ n0_place.toInt ≤ n0_size.toInt)) (aNAMES : Nat) : Met l yX10_readOperand wsX10_readOperand ({ frames := F + 1, cells := 0, slots := 0, locals := L + 43 }) (va_Pc [.ref h0, .int p0] (fun U => U.heap.size = sz ∧ va_P (dC, dI) vwCl [(h0, kO10 h1 n0_size n0_place h2), (h1, kAi cint 120 f1), (h2, kO4 h3 n2_size h4 h5 n2_top), (h3, kAi cint 128 f3)] U.heap ∧ va_K (dC, dI) vwCl [(cint, .int)] U ∧ va_D (fun _ => True) [(h0, kO10 h1 n0_size n0_place h2), (h1, kAi cint 120 f1), (h2, kO4 h3 n2_size h4 h5 n2_top), (h3, kAi cint 128 f3)] ∧ va_Z "KinkStreet$Law" "NAMES" "[C" (.ref aNAMES) (va_A [(h0, kO10 h1 n0_size n0_place h2), (h1, kAi cint 120 f1), (h2, kO4 h3 n2_size h4 h5 n2_top), (h3, kAi cint 128 f3)] sz) U U.heap ∧ va_T .char aNAMES 8 tb_NAMES (va_A [(h0, kO10 h1 n0_size n0_place h2), (h1, kAi cint 120 f1), (h2, kO4 h3 n2_size h4 h5 n2_top), (h3, kAi cint 128 f3)] sz) U U.heap)) (va_Qi (fun (r : Int32) (u_ : Int32) => u_ = r ∧ True) (fun (u_ : Int32) t => ∃ (m0_place : Int32) (m2_size : Int32) (g3 : Nat → Int32), (0 ≤ m0_place.toInt ∧ m0_place.toInt ≤ 120) ∧ (0 ≤ m2_size.toInt ∧ m2_size.toInt ≤ 128) ∧ (((ko_R (ko_at f1 n0_size.toInt) (5 : Int) p0.toInt n0_place.toInt = -1 - m0_place.toInt ∧ 0 ≤ m0_place.toInt ∧ m0_place.toInt ≤ n0_size.toInt) ∧ u_ = (0 : Int32)) ∨ ((ko_R (ko_at f1 n0_size.toInt) (5 : Int) p0.toInt n0_place.toInt = m0_place.toInt ∧ 0 ≤ m0_place.toInt ∧ m0_place.toInt ≤ n0_size.toInt) ∧ u_ = (1 : Int32))) ∧ va_P (dC, dI) vwCl [(h0, kO10 h1 n0_size m0_place h2), (h1, kAi cint 120 f1), (h2, kO4 h3 m2_size h4 h5 n2_top), (h3, kAi cint 128 g3)] t.heap ∧ va_K (dC, dI) vwCl [] t ∧ va_D (va_A [(h0, kO10 h1 n0_size n0_place h2), (h1, kAi cint 120 f1), (h2, kO4 h3 n2_size h4 h5 n2_top), (h3, kAi cint 128 f3)] sz) [(h0, kO10 h1 n0_size m0_place h2), (h1, kAi cint 120 f1), (h2, kO4 h3 m2_size h4 h5 n2_top), (h3, kAi cint 128 g3)]) (va_A [(h0, kO10 h1 n0_size n0_place h2), (h1, kAi cint 120 f1), (h2, kO4 h3 n2_size h4 h5 n2_top), (h3, kAi cint 128 f3)] sz)) 0 0 (va_A [(h0, kO10 h1 n0_size n0_place h2), (h1, kAi cint 120 f1), (h2, kO4 h3 n2_size h4 h5 n2_top), (h3, kAi cint 128 f3)] sz) := by
  refine Met.ofW (cc := cX10_readOperand) (maxL := 4) (ret := (some .boolean)) (by decide) rfl ?_
  intro p e s m args below meth c s₁ B hml hv
  obtain ⟨rfl, hsz, hP, hK, hD0, hZNAMES, hTNAMES⟩ := hv
  have hx := B.exec
  have hb := B.bytes
  have hr := B.returns
  have hts := atoms_spec (ws := wsX10_readOperand) B.pre
  have hown : s.vm.findClass RX10 = some m.cls := findClass_of_methodNamed B.named
  have hlocks := B.notSynchronized
  subst hsz
  have hD := hD0.self (sz := s.heap.size)
  generalize hAe : va_A [(h0, kO10 h1 n0_size n0_place h2), (h1, kAi cint 120 f1), (h2, kO4 h3 n2_size h4 h5 n2_top), (h3, kAi cint 128 f3)] s.heap.size = A at hD hZNAMES hTNAMES ⊢
  have hA : ∀ q : Nat, s.heap.size ≤ q → A q := fun q h => by rw [← hAe]; exact Or.inr h
  have hS : va_S A s.heap s.heap [] := va_S.rf
  replace hP : va_P (dC, dI) vwCl [(h0, kO10 h1 n0_size n0_place h2), (h1, kAi cint 120 f1), (h2, kO4 h3 n2_size h4 h5 n2_top), (h3, kAi cint 128 f3)] s.heap := hP
  have hl := lv_entry ([.ref h0, .int p0]) (n := 4) (Nat.le_of_ble_eq_true rfl)
  rw [lg_entry_eq]
  generalize (lg_sl ([.ref h0, .int p0]) ++ List.replicate (4 - (lg_sl ([.ref h0, .int p0])).length) Slot.unset).toArray = ls at hl ⊢
  replace hl : lv_has ls 4 [(0, .ref h0), (1, .int p0)] := hl
  refine lv_aload_n hx hb dX10_readOperand_0 rfl (lv_at hl 0 rfl) ?_
  obtain ⟨hPc, hDc, hFc⟩ := kk_cutout (wc := [(h0, kO10 h1 n0_size n0_place h2), (h1, kAi cint 120 f1)]) hP hD hS hA [0, 1] (by decide) rfl
  have hKc := kk_Ks (tq := [(cint, .int)]) hK [0] rfl
  refine va_calli (va_runV (As := []) (rest := []) ⟨hx, hb, hml, hown, hts⟩ (g_X10_next_1 l dC dI h0 h1 h2 cint s.heap.size n0_size n0_place f1 tn0_size tn0_place bf1 (by show (0 ≤ (n0_place : Int32).toInt ∧ (n0_place : Int32).toInt ≤ (n0_size : Int32).toInt); first | with_reducible assumption | (refine ⟨?_, ?_⟩ <;> (first | with_reducible assumption | (omega))))) (cwV 0 hts gX10_readOperand_X10_next rfl rfl rfl ⟨rfl, kh_X10_next⟩ ⟨kk_rmF hF (Nat.le_of_ble_eq_true rfl), kk_rmM hL (Nat.le_of_ble_eq_true rfl)⟩) ⟨fun a U g mk q => by obtain ⟨q0, q1, qP, qK, qD⟩ := q; exact ⟨q0, q1, qP, va_K.moved (u := U) (U := U.calling g mk a) (Vm.Alike.refl U.vm) qK, qD⟩, va_recv hKc hPc (ci := 10) (q0 := 0) rfl rfl, fun U hU hW => ⟨rfl, by rw [hU], by rw [hU]; exact hPc, va_K.moved hW.alike hKc, hDc.weaken (fun _ _ _ _ => trivial)⟩⟩ rfl rfl hl.1 rfl (lv_room (Nat.le_of_ble_eq_true rfl)) dX10_readOperand_1 ⟨Nat.le_of_ble_eq_true rfl, Nat.le_of_ble_eq_true rfl⟩) hS (fun q _ h => hFc q h) hFc (fun r_1 u t H1 locs ht hvm hw hB hz1 hk1 hS => ?_)
  obtain ⟨hP1, hK1, hD1⟩ := hB
  rw [ht] at hP1
  have hK1 := va_K.moved hvm.symm hK1
  obtain ⟨hP, hD⟩ := va_join (wr := [(h2, kO4 h3 n2_size h4 h5 n2_top), (h3, kAi cint 128 f3)]) (w1 := [(h0, kO10 h1 n0_size n0_place h2), (h1, kAi cint 120 f1)]) hP hD [0, 1] [2, 3] rfl rfl (by decide) (by decide) hk1 hFc hP1 hD1
  generalize H1 = H at hP hS ⊢
  replace hP : va_P (dC, dI) vwCl [(h2, kO4 h3 n2_size h4 h5 n2_top), (h3, kAi cint 128 f3), (h0, kO10 h1 n0_size n0_place h2), (h1, kAi cint 120 f1)] H := hP
  replace hD : va_D A [(h2, kO4 h3 n2_size h4 h5 n2_top), (h3, kAi cint 128 f3), (h0, kO10 h1 n0_size n0_place h2), (h1, kAi cint 120 f1)] := hD
  rcases hw with ⟨t_1_0, t_1_any⟩
  · skip
    replace t_1_0 : (((n0_place.toInt < n0_size.toInt) → r_1.toInt = ko_at f1 n0_size.toInt n0_place.toInt ∧ 0 ≤ r_1.toInt) ∧ (n0_size.toInt ≤ n0_place.toInt → r_1.toInt = -1 ∧ ko_at f1 n0_size.toInt n0_place.toInt = 0)) := t_1_0
    have qb_1 := kd_bx t_1_0
    clear t_1_0
    refine lv_istore_n hx hb dX10_readOperand_4 rfl hl (by decide) (rfl : _ = ([(2, .int r_1), (0, .ref h0), (1, .int p0)] : List (Nat × Value))) (fun ls hl => ?_)
    refine lv_iload_n hx hb dX10_readOperand_5 rfl (lv_at hl 0 rfl) ?_
    obtain ⟨hPc, hDc, hFc⟩ := kk_cutout (wc := []) hP hD hS hA [] (by decide) rfl
    have hKc := kk_Ks (tq := []) hK [] rfl
    refine va_calli (va_runS (As := [.int r_1]) (rest := []) ⟨hx, hb, hml, hown, hts⟩ (g_X10_isDigit_1 l dC dI H.size r_1) (va_cwS 1 hts gX10_readOperand_X10_isDigit rfl rfl rfl kh_X10_isDigit ⟨kk_rmF hF (Nat.le_of_ble_eq_true rfl), kk_rmM hL (Nat.le_of_ble_eq_true rfl)⟩) ⟨fun a U g mk q => by obtain ⟨q0, q1, qP, qK, qD⟩ := q; exact ⟨q0, q1, qP, va_K.moved (u := U) (U := U.calling g mk a) (Vm.Alike.refl U.vm) qK, qD⟩, fun U hU hW => ⟨rfl, by rw [hU], by rw [hU]; exact hPc, va_K.moved hW.alike hKc, hDc.weaken (fun _ _ _ _ => trivial)⟩⟩ rfl rfl hl.1 rfl (lv_room (Nat.le_of_ble_eq_true rfl)) dX10_readOperand_6 ⟨Nat.le_of_ble_eq_true rfl, Nat.le_of_ble_eq_true rfl⟩) hS (fun q _ h => hFc q h) hFc (fun r_2 u t H1 locs ht hvm hw hB hz1 hk1 hS => ?_)
    obtain ⟨hP1, hK1, hD1⟩ := hB
    rw [ht] at hP1
    have hK1 := va_K.moved hvm.symm hK1
    obtain ⟨hP, hD⟩ := va_join (wr := [(h2, kO4 h3 n2_size h4 h5 n2_top), (h3, kAi cint 128 f3), (h0, kO10 h1 n0_size n0_place h2), (h1, kAi cint 120 f1)]) (w1 := []) hP hD [] [0, 1, 2, 3] rfl rfl (by decide) (by decide) hk1 hFc hP1 hD1
    generalize H1 = H at hP hS ⊢
    replace hP : va_P (dC, dI) vwCl [(h2, kO4 h3 n2_size h4 h5 n2_top), (h3, kAi cint 128 f3), (h0, kO10 h1 n0_size n0_place h2), (h1, kAi cint 120 f1)] H := hP
    replace hD : va_D A [(h2, kO4 h3 n2_size h4 h5 n2_top), (h3, kAi cint 128 f3), (h0, kO10 h1 n0_size n0_place h2), (h1, kAi cint 120 f1)] := hD
    rcases hw with ⟨t_2_0, rfl⟩ | ⟨t_2_0, t_2_1, t_2_2, rfl⟩
    · skip
      replace t_2_0 : (r_1.toInt < 48 ∨ 57 < r_1.toInt) := t_2_0
      have qd_2 := kd_nd (kd_ub qb_1) t_2_0
      clear t_2_0
      refine lv_if_eq (tgt := 18) hx hb dX10_readOperand_9 (by decide) (fun _ => ?_) (fun c => absurd c (by decide))
      refine lv_iload_n hx hb dX10_readOperand_18 rfl (lv_at hl 0 rfl) ?_
      obtain ⟨hPc, hDc, hFc⟩ := kk_cutout (wc := []) hP hD hS hA [] (by decide) rfl
      have hKc := kk_Ks (tq := []) hK [] rfl
      refine va_calli (va_runS (As := [.int r_1]) (rest := []) ⟨hx, hb, hml, hown, hts⟩ (g_X4_nameOf_1 l dC dI H.size r_1 aNAMES) (va_cwS 1 hts gX10_readOperand_X4_nameOf rfl rfl rfl kh_X4_nameOf ⟨kk_rmF hF (Nat.le_of_ble_eq_true rfl), kk_rmM hL (Nat.le_of_ble_eq_true rfl)⟩) ⟨fun a U g mk q => by obtain ⟨q0, q1, qP, qK, qD, qx0, qx1⟩ := q; exact ⟨q0, q1, qP, va_K.moved (u := U) (U := U.calling g mk a) (Vm.Alike.refl U.vm) qK, qD, va_Z.moved (u := U) (U := U.calling g mk a) (Vm.Alike.refl U.vm) qx0, va_T.moved (u := U) (U := U.calling g mk a) (Vm.Alike.refl U.vm) qx1⟩, fun U hU hW => ⟨rfl, by rw [hU], by rw [hU]; exact hPc, va_K.moved hW.alike hKc, hDc.weaken (fun _ _ _ _ => trivial), by rw [hU]; exact ((hZNAMES.kept (fun a h1 h2 => hS.2.1 a h1 h2)).narrow hFc).moved hW.alike, by rw [hU]; exact ((hTNAMES.kept (fun a h1 h2 => hS.2.1 a h1 h2)).narrow hFc).moved hW.alike⟩⟩ rfl rfl hl.1 rfl (lv_room (Nat.le_of_ble_eq_true rfl)) dX10_readOperand_19 ⟨Nat.le_of_ble_eq_true rfl, Nat.le_of_ble_eq_true rfl⟩) hS (fun q _ h => hFc q h) hFc (fun r_3 u t H1 locs ht hvm hw hB hz1 hk1 hS => ?_)
      obtain ⟨hP1, hK1, hD1⟩ := hB
      rw [ht] at hP1
      have hK1 := va_K.moved hvm.symm hK1
      obtain ⟨hP, hD⟩ := va_join (wr := [(h2, kO4 h3 n2_size h4 h5 n2_top), (h3, kAi cint 128 f3), (h0, kO10 h1 n0_size n0_place h2), (h1, kAi cint 120 f1)]) (w1 := []) hP hD [] [0, 1, 2, 3] rfl rfl (by decide) (by decide) hk1 hFc hP1 hD1
      generalize H1 = H at hP hS ⊢
      replace hP : va_P (dC, dI) vwCl [(h2, kO4 h3 n2_size h4 h5 n2_top), (h3, kAi cint 128 f3), (h0, kO10 h1 n0_size n0_place h2), (h1, kAi cint 120 f1)] H := hP
      replace hD : va_D A [(h2, kO4 h3 n2_size h4 h5 n2_top), (h3, kAi cint 128 f3), (h0, kO10 h1 n0_size n0_place h2), (h1, kAi cint 120 f1)] := hD
      rcases hw with ⟨t_3_0, t_3_any⟩
      · skip
        replace t_3_0 : ((0 ≤ r_3.toInt → (r_1.toInt = 119 ∨ r_1.toInt = 110 ∨ r_1.toInt = 100 ∨ r_1.toInt = 121 ∨ r_1.toInt = 122 ∨ r_1.toInt = 102 ∨ r_1.toInt = 105 ∨ r_1.toInt = 99)) ∧ (r_3.toInt < 0 → ¬ (r_1.toInt = 119 ∨ r_1.toInt = 110 ∨ r_1.toInt = 100 ∨ r_1.toInt = 121 ∨ r_1.toInt = 122 ∨ r_1.toInt = 102 ∨ r_1.toInt = 105 ∨ r_1.toInt = 99))) := t_3_0
        have qb_3 := kd_bx t_3_0
        clear t_3_0
        refine lv_istore_n hx hb dX10_readOperand_22 rfl hl (by decide) (rfl : _ = ([(3, .int r_3), (2, .int r_1), (0, .ref h0), (1, .int p0)] : List (Nat × Value))) (fun ls hl => ?_)
        refine lv_iload_n hx hb dX10_readOperand_23 rfl (lv_at hl 0 rfl) ?_
        refine lv_if_lt (tgt := 47) hx hb dX10_readOperand_24 (by decide) (fun c_4 => ?_) (fun c_4 => ?_)
        · have t_4 : r_3.toInt < 0 := kk_lt c_4
          have qn_4 := kd_nn (kd_ub qb_1) (kd_ub qb_3) t_4
          refine lv_iload_n hx hb dX10_readOperand_47 rfl (lv_at hl 3 rfl) ?_
          refine lv_bipush (v := 6) hx hb dX10_readOperand_48 kk_bi_6 ?_
          refine lv_icmp_ge (tgt := 71) hx hb dX10_readOperand_50 (by decide) (fun c_5 => ?_) (fun c_5 => ?_)
          · have t_5 : 6 ≤ p0.toInt := kk_le c_5
            have hk_6 : ko_R (ko_at f1 n0_size.toInt) (5 : Int) (p0.toInt : Int) n0_place.toInt = -1 - n0_place.toInt := ko_o_bad (by first | with_reducible assumption | exact Or.inl (by with_reducible assumption) | exact Or.inr (by with_reducible assumption) | omega) (by first | with_reducible assumption | exact Or.inl (by with_reducible assumption) | exact Or.inr (by with_reducible assumption) | omega) (by first | exact Or.inr ⟨by with_reducible assumption, by with_reducible assumption, by with_reducible assumption⟩ | exact Or.inl (by omega) | omega)
            refine lv_iconst (v := 0) hx hb dX10_readOperand_71 kk_ic_0 ?_
            obtain ⟨hP9, hD9⟩ := kk_leafout (wc := [(h0, kO10 h1 n0_size n0_place h2), (h1, kAi cint 120 f1), (h2, kO4 h3 n2_size h4 h5 n2_top), (h3, kAi cint 128 f3)]) hP hD [2, 3, 0, 1] (by decide) rfl
            have hK9 := kk_Ks (tq := []) hK [] rfl
            exact W.zret (v := 0) hx hb hr rfl (fun t ht hW => ⟨⟨0, 0, rfl, ⟨rfl, trivial⟩, n0_place, n2_size, f3, tn0_place, tn2_size, (Or.inl ⟨(by show (ko_R (ko_at f1 (n0_size : Int32).toInt) (5 : Int) (p0 : Int32).toInt (n0_place : Int32).toInt = -1 - (n0_place : Int32).toInt ∧ 0 ≤ (n0_place : Int32).toInt ∧ (n0_place : Int32).toInt ≤ (n0_size : Int32).toInt); first | with_reducible assumption | (refine ⟨?_, ?_, ?_⟩ <;> (first | with_reducible assumption | (omega)))), rfl⟩), by rw [ht]; exact hP9, va_K.moved hW.alike hK9, hD9⟩, hS.F ht⟩) hS.2.2 dX10_readOperand_72
          · have t_5 : p0.toInt < 6 := kk_nle c_5
            refine lv_iload_n hx hb dX10_readOperand_53 rfl (lv_at hl 1 rfl) ?_
            refine lv_bipush (v := 40) hx hb dX10_readOperand_54 kk_bi_40 ?_
            refine lv_icmp_eq (tgt := 73) hx hb dX10_readOperand_56 (by decide) (fun c_7 => ?_) (fun c_7 => ?_)
            · have t_7 : r_1.toInt = 40 := kk_eq c_7
              obtain ⟨qe_7, qi_7, qr_7⟩ := kd_k (kd_ub qb_1) t_7 (by decide)
              refine lv_aload_n hx hb dX10_readOperand_73 rfl (lv_at hl 2 rfl) ?_
              refine lv_dup hx hb dX10_readOperand_74 rfl ?_
              refine va_get (D := (dC, dI)) (ci := 10) (v := .int n0_place) (C := RX10) (T := TX10) (N := 4) hx hb hts (fun _ h => List.mem_cons_of_mem _ (List.mem_append_left _ (List.mem_append_right _ h))) hown hK hP 2 rfl rfl 2 (by decide) (hts (.fieldLink RX10 17 "KinkStreet$Tape" "place" "I") (List.mem_of_getElem? (i := 1) rfl)) (fun _ h9 => h9) rfl dX10_readOperand_75 ?_
              refine lv_iconst (v := 1) hx hb dX10_readOperand_78 kk_ic_1 ?_
              refine lv_iadd hx hb dX10_readOperand_79 ?_
              refine va_put (D := (dC, dI)) (ci := 10) (v := .int (n0_place + 1)) (ty := .int) (C := RX10) (T := TX10) (N := 4) hx hb hts (fun _ h => List.mem_cons_of_mem _ (List.mem_append_left _ (List.mem_append_right _ h))) tyX10 tyX10_ok nmX10 hown hK hP hD hS 2 rfl rfl 2 (by decide) (hts (.fieldLink RX10 17 "KinkStreet$Tape" "place" "I") (List.mem_of_getElem? (i := 1) rfl)) (fun _ h9 => h9) rfl (by decide +kernel) rfl rfl (Nat.le_of_ble_eq_true rfl) dX10_readOperand_80 (fun H locs hP hD hS => ?_)
              replace hP : va_P (dC, dI) vwCl [(h2, kO4 h3 n2_size h4 h5 n2_top), (h3, kAi cint 128 f3), (h0, kO10 h1 n0_size (n0_place + 1) h2), (h1, kAi cint 120 f1)] H := hP
              replace hD : va_D A [(h2, kO4 h3 n2_size h4 h5 n2_top), (h3, kAi cint 128 f3), (h0, kO10 h1 n0_size (n0_place + 1) h2), (h1, kAi cint 120 f1)] := hD
              refine lv_iload_n hx hb dX10_readOperand_83 rfl (lv_at hl 1 rfl) ?_
              refine lv_bipush (v := 40) hx hb dX10_readOperand_84 kk_bi_40 ?_
              refine lv_icmp_ne (tgt := 99) hx hb dX10_readOperand_86 (by decide) (fun c_8 => ?_) (fun c_8 => ?_)
              · have t_8 : r_1.toInt ≠ 40 := kk_ne c_8
                have qe_8 := kd_nk (kd_ub qb_1) t_8 (by decide)
                have := kk_add2 (x := n0_place) (y := 1) (a := n0_place.toInt) (b := 1) rfl rfl (by omega) (by omega)
                exfalso; omega
              · have t_8 : r_1.toInt = 40 := kk_eq c_8
                obtain ⟨qe_8, qi_8, qr_8⟩ := kd_k (kd_ub qb_1) t_8 (by decide)
                have := kk_add2 (x := n0_place) (y := 1) (a := n0_place.toInt) (b := 1) rfl rfl (by omega) (by omega)
                have := kk_add2 (x := p0) (y := 1) (a := p0.toInt) (b := 1) rfl rfl (by omega) (by omega)
                have hk_9 : 0 ≤ ko_R (ko_at f1 n0_size.toInt) (0 : Int) ((p0 + 1).toInt : Int) (n0_place + 1).toInt → ko_at f1 n0_size.toInt (ko_R (ko_at f1 n0_size.toInt) (0 : Int) ((p0 + 1).toInt : Int) (n0_place + 1).toInt) = 41 → ko_R (ko_at f1 n0_size.toInt) (5 : Int) (p0.toInt : Int) n0_place.toInt = ko_R (ko_at f1 n0_size.toInt) (0 : Int) ((p0 + 1).toInt : Int) (n0_place + 1).toInt + 1 := fun h0 h1 => ko_o_par (k' := ((p0 + 1).toInt : Int)) (p1 := (n0_place + 1).toInt) (by omega) (by omega) (by omega) (by omega) rfl h0 h1
                have hk_10 : 0 ≤ ko_R (ko_at f1 n0_size.toInt) (0 : Int) ((p0 + 1).toInt : Int) (n0_place + 1).toInt → ko_at f1 n0_size.toInt (ko_R (ko_at f1 n0_size.toInt) (0 : Int) ((p0 + 1).toInt : Int) (n0_place + 1).toInt) ≠ 41 → ko_R (ko_at f1 n0_size.toInt) (5 : Int) (p0.toInt : Int) n0_place.toInt = -1 - ko_R (ko_at f1 n0_size.toInt) (0 : Int) ((p0 + 1).toInt : Int) (n0_place + 1).toInt := fun h0 h1 => ko_o_pab (k' := ((p0 + 1).toInt : Int)) (p1 := (n0_place + 1).toInt) (by omega) (by omega) (by omega) (by omega) rfl h0 h1
                have hk_11 : ko_R (ko_at f1 n0_size.toInt) (0 : Int) ((p0 + 1).toInt : Int) (n0_place + 1).toInt < 0 → ko_R (ko_at f1 n0_size.toInt) (5 : Int) (p0.toInt : Int) n0_place.toInt = ko_R (ko_at f1 n0_size.toInt) (0 : Int) ((p0 + 1).toInt : Int) (n0_place + 1).toInt := fun h0 => ko_o_paf (k' := ((p0 + 1).toInt : Int)) (p1 := (n0_place + 1).toInt) (by omega) (by omega) (by omega) (by omega) rfl h0
                refine lv_aload_n hx hb dX10_readOperand_89 rfl (lv_at hl 2 rfl) ?_
                refine lv_iload_n hx hb dX10_readOperand_90 rfl (lv_at hl 3 rfl) ?_
                refine lv_iconst (v := 1) hx hb dX10_readOperand_91 kk_ic_1 ?_
                refine lv_iadd hx hb dX10_readOperand_92 ?_
                obtain ⟨hPc, hDc, hFc⟩ := kk_cutout (wc := [(h0, kO10 h1 n0_size (n0_place + 1) h2), (h1, kAi cint 120 f1), (h2, kO4 h3 n2_size h4 h5 n2_top), (h3, kAi cint 128 f3)]) hP hD hS hA [2, 3, 0, 1] (by decide) rfl
                have hKc := kk_Ks (tq := [(cint, .int)]) hK [0] rfl
                refine va_calli (va_runV (As := [.int (p0 + 1)]) (rest := []) ⟨hx, hb, hml, hown, hts⟩ (ih0 dC dI h0 h1 h2 h3 h4 h5 cint H.size (p0 + 1) (by show 0 ≤ ((p0 + 1) : Int32).toInt ∧ ((p0 + 1) : Int32).toInt ≤ 6; first | with_reducible assumption | (constructor <;> (omega))) n0_size (n0_place + 1) f1 n2_size n2_top f3 tn0_size (by show 0 ≤ ((n0_place + 1) : Int32).toInt ∧ ((n0_place + 1) : Int32).toInt ≤ 120; first | with_reducible assumption | (constructor <;> (omega))) bf1 tn2_size tn2_top (by show (6 ≤ ((p0 + 1) : Int32).toInt + (rk - 1)); first | with_reducible assumption | (omega)) (by show (0 ≤ ((n0_place + 1) : Int32).toInt ∧ ((n0_place + 1) : Int32).toInt ≤ (n0_size : Int32).toInt); first | with_reducible assumption | (refine ⟨?_, ?_⟩ <;> (first | with_reducible assumption | (omega)))) aNAMES) (cwV 1 hts gX10_readOperand_X10_readInner rfl rfl rfl ⟨rfl, kh_X10_readInner⟩ ⟨Nat.add_le_add_right hF0 1, kk_rmL hL0 (Nat.le_of_ble_eq_true rfl)⟩) ⟨fun a U g mk q => by obtain ⟨q0, q1, qP, qK, qD, qx0, qx1⟩ := q; exact ⟨q0, q1, qP, va_K.moved (u := U) (U := U.calling g mk a) (Vm.Alike.refl U.vm) qK, qD, va_Z.moved (u := U) (U := U.calling g mk a) (Vm.Alike.refl U.vm) qx0, va_T.moved (u := U) (U := U.calling g mk a) (Vm.Alike.refl U.vm) qx1⟩, va_recv hKc hPc (ci := 10) (q0 := 0) rfl rfl, fun U hU hW => ⟨rfl, by rw [hU], by rw [hU]; exact hPc, va_K.moved hW.alike hKc, hDc.weaken (fun _ _ _ _ => trivial), by rw [hU]; exact ((hZNAMES.kept (fun a h1 h2 => hS.2.1 a h1 h2)).narrow hFc).moved hW.alike, by rw [hU]; exact ((hTNAMES.kept (fun a h1 h2 => hS.2.1 a h1 h2)).narrow hFc).moved hW.alike⟩⟩ rfl rfl hl.1 rfl (lv_room (Nat.le_of_ble_eq_true rfl)) dX10_readOperand_93 ⟨Nat.le_of_ble_eq_true rfl, Nat.le_of_ble_eq_true rfl⟩) hS (fun q _ h => hFc q h) hFc (fun r_12 ug_12 t H1 locs ht hvm hw hB hz1 hk1 hS => ?_)
                obtain ⟨hu_12, hw⟩ := hw
                subst ug_12
                obtain ⟨y_13, y_14, f_15, by_13, by_14, hcase_15, hP1, hK1, hD1⟩ := hB
                rw [ht] at hP1
                have hK1 := va_K.moved hvm.symm hK1
                obtain ⟨hP, hD⟩ := va_join (wr := []) (w1 := [(h0, kO10 h1 n0_size y_13 h2), (h1, kAi cint 120 f1), (h2, kO4 h3 y_14 h4 h5 n2_top), (h3, kAi cint 128 f_15)]) hP hD [2, 3, 0, 1] [] rfl rfl (by decide) (by decide) hk1 hFc hP1 hD1
                generalize H1 = H at hP hS ⊢
                replace hP : va_P (dC, dI) vwCl [(h0, kO10 h1 n0_size y_13 h2), (h1, kAi cint 120 f1), (h2, kO4 h3 y_14 h4 h5 n2_top), (h3, kAi cint 128 f_15)] H := hP
                replace hD : va_D A [(h0, kO10 h1 n0_size y_13 h2), (h1, kAi cint 120 f1), (h2, kO4 h3 y_14 h4 h5 n2_top), (h3, kAi cint 128 f_15)] := hD
                rcases hcase_15 with ⟨w_12_0_0, rfl⟩ | ⟨w_12_1_0, rfl⟩
                · skip
                  replace w_12_0_0 : ((((ko_R (ko_at f1 n0_size.toInt) (0 : Int) (p0 + 1).toInt (n0_place + 1).toInt) < 0 ∧ y_13.toInt = -1 - (ko_R (ko_at f1 n0_size.toInt) (0 : Int) (p0 + 1).toInt (n0_place + 1).toInt)) ∨ (0 ≤ (ko_R (ko_at f1 n0_size.toInt) (0 : Int) (p0 + 1).toInt (n0_place + 1).toInt) ∧ ko_at f1 n0_size.toInt (ko_R (ko_at f1 n0_size.toInt) (0 : Int) (p0 + 1).toInt (n0_place + 1).toInt) ≠ 41 ∧ y_13.toInt = (ko_R (ko_at f1 n0_size.toInt) (0 : Int) (p0 + 1).toInt (n0_place + 1).toInt))) ∧ 0 ≤ y_13.toInt ∧ y_13.toInt ≤ n0_size.toInt) := w_12_0_0
                  replace hP : va_P (dC, dI) vwCl [(h0, kO10 h1 n0_size y_13 h2), (h1, kAi cint 120 f1), (h2, kO4 h3 y_14 h4 h5 n2_top), (h3, kAi cint 128 f_15)] H := hP
                  replace hD : va_D A [(h0, kO10 h1 n0_size y_13 h2), (h1, kAi cint 120 f1), (h2, kO4 h3 y_14 h4 h5 n2_top), (h3, kAi cint 128 f_15)] := hD
                  refine W.eq (g2 := F0 m 96 ls [.int 0]) rfl ?_
                  refine lv_goto (tgt := 107) hx hb dX10_readOperand_96 (by decide) ?_
                  obtain ⟨hP9, hD9⟩ := kk_leafout (wc := [(h0, kO10 h1 n0_size y_13 h2), (h1, kAi cint 120 f1), (h2, kO4 h3 y_14 h4 h5 n2_top), (h3, kAi cint 128 f_15)]) hP hD [0, 1, 2, 3] (by decide) rfl
                  have hK9 := kk_Ks (tq := []) hK [] rfl
                  exact W.zret (v := 0) hx hb hr rfl (fun t ht hW => ⟨⟨0, 0, rfl, ⟨rfl, trivial⟩, y_13, y_14, f_15, (by show 0 ≤ (y_13 : Int32).toInt ∧ (y_13 : Int32).toInt ≤ 120; first | with_reducible assumption | (constructor <;> (omega))), (by show 0 ≤ (y_14 : Int32).toInt ∧ (y_14 : Int32).toInt ≤ 128; first | with_reducible assumption | (constructor <;> (omega))), (Or.inl ⟨(by show (ko_R (ko_at f1 (n0_size : Int32).toInt) (5 : Int) (p0 : Int32).toInt (n0_place : Int32).toInt = -1 - (y_13 : Int32).toInt ∧ 0 ≤ (y_13 : Int32).toInt ∧ (y_13 : Int32).toInt ≤ (n0_size : Int32).toInt); first | with_reducible assumption | (refine ⟨?_, ?_, ?_⟩ <;> (first | with_reducible assumption | (omega)))), rfl⟩), by rw [ht]; exact hP9, va_K.moved hW.alike hK9, hD9⟩, hS.F ht⟩) hS.2.2 dX10_readOperand_107
                · skip
                  replace w_12_1_0 : (0 ≤ (ko_R (ko_at f1 n0_size.toInt) (0 : Int) (p0 + 1).toInt (n0_place + 1).toInt) ∧ ko_at f1 n0_size.toInt (ko_R (ko_at f1 n0_size.toInt) (0 : Int) (p0 + 1).toInt (n0_place + 1).toInt) = 41 ∧ y_13.toInt = (ko_R (ko_at f1 n0_size.toInt) (0 : Int) (p0 + 1).toInt (n0_place + 1).toInt) + 1 ∧ 0 ≤ y_13.toInt ∧ y_13.toInt ≤ n0_size.toInt) := w_12_1_0
                  replace hP : va_P (dC, dI) vwCl [(h0, kO10 h1 n0_size y_13 h2), (h1, kAi cint 120 f1), (h2, kO4 h3 y_14 h4 h5 n2_top), (h3, kAi cint 128 f_15)] H := hP
                  replace hD : va_D A [(h0, kO10 h1 n0_size y_13 h2), (h1, kAi cint 120 f1), (h2, kO4 h3 y_14 h4 h5 n2_top), (h3, kAi cint 128 f_15)] := hD
                  refine W.eq (g2 := F0 m 96 ls [.int 1]) rfl ?_
                  refine lv_goto (tgt := 107) hx hb dX10_readOperand_96 (by decide) ?_
                  obtain ⟨hP9, hD9⟩ := kk_leafout (wc := [(h0, kO10 h1 n0_size y_13 h2), (h1, kAi cint 120 f1), (h2, kO4 h3 y_14 h4 h5 n2_top), (h3, kAi cint 128 f_15)]) hP hD [0, 1, 2, 3] (by decide) rfl
                  have hK9 := kk_Ks (tq := []) hK [] rfl
                  exact W.zret (v := 1) hx hb hr rfl (fun t ht hW => ⟨⟨1, 1, rfl, ⟨rfl, trivial⟩, y_13, y_14, f_15, (by show 0 ≤ (y_13 : Int32).toInt ∧ (y_13 : Int32).toInt ≤ 120; first | with_reducible assumption | (constructor <;> (omega))), (by show 0 ≤ (y_14 : Int32).toInt ∧ (y_14 : Int32).toInt ≤ 128; first | with_reducible assumption | (constructor <;> (omega))), (Or.inr ⟨(by show (ko_R (ko_at f1 (n0_size : Int32).toInt) (5 : Int) (p0 : Int32).toInt (n0_place : Int32).toInt = (y_13 : Int32).toInt ∧ 0 ≤ (y_13 : Int32).toInt ∧ (y_13 : Int32).toInt ≤ (n0_size : Int32).toInt); first | with_reducible assumption | (refine ⟨?_, ?_, ?_⟩ <;> (first | with_reducible assumption | (omega)))), rfl⟩), by rw [ht]; exact hP9, va_K.moved hW.alike hK9, hD9⟩, hS.F ht⟩) hS.2.2 dX10_readOperand_107
            · have t_7 : r_1.toInt ≠ 40 := kk_ne c_7
              have qe_7 := kd_nk (kd_ub qb_1) t_7 (by decide)
              refine lv_iload_n hx hb dX10_readOperand_59 rfl (lv_at hl 1 rfl) ?_
              refine lv_bipush (v := 33) hx hb dX10_readOperand_60 kk_bi_33 ?_
              refine lv_icmp_eq (tgt := 73) hx hb dX10_readOperand_62 (by decide) (fun c_16 => ?_) (fun c_16 => ?_)
              · have t_16 : r_1.toInt = 33 := kk_eq c_16
                obtain ⟨qe_16, qi_16, qr_16⟩ := kd_k (kd_ub qb_1) t_16 (by decide)
                refine lv_aload_n hx hb dX10_readOperand_73 rfl (lv_at hl 2 rfl) ?_
                refine lv_dup hx hb dX10_readOperand_74 rfl ?_
                refine va_get (D := (dC, dI)) (ci := 10) (v := .int n0_place) (C := RX10) (T := TX10) (N := 4) hx hb hts (fun _ h => List.mem_cons_of_mem _ (List.mem_append_left _ (List.mem_append_right _ h))) hown hK hP 2 rfl rfl 2 (by decide) (hts (.fieldLink RX10 17 "KinkStreet$Tape" "place" "I") (List.mem_of_getElem? (i := 1) rfl)) (fun _ h9 => h9) rfl dX10_readOperand_75 ?_
                refine lv_iconst (v := 1) hx hb dX10_readOperand_78 kk_ic_1 ?_
                refine lv_iadd hx hb dX10_readOperand_79 ?_
                refine va_put (D := (dC, dI)) (ci := 10) (v := .int (n0_place + 1)) (ty := .int) (C := RX10) (T := TX10) (N := 4) hx hb hts (fun _ h => List.mem_cons_of_mem _ (List.mem_append_left _ (List.mem_append_right _ h))) tyX10 tyX10_ok nmX10 hown hK hP hD hS 2 rfl rfl 2 (by decide) (hts (.fieldLink RX10 17 "KinkStreet$Tape" "place" "I") (List.mem_of_getElem? (i := 1) rfl)) (fun _ h9 => h9) rfl (by decide +kernel) rfl rfl (Nat.le_of_ble_eq_true rfl) dX10_readOperand_80 (fun H locs hP hD hS => ?_)
                replace hP : va_P (dC, dI) vwCl [(h2, kO4 h3 n2_size h4 h5 n2_top), (h3, kAi cint 128 f3), (h0, kO10 h1 n0_size (n0_place + 1) h2), (h1, kAi cint 120 f1)] H := hP
                replace hD : va_D A [(h2, kO4 h3 n2_size h4 h5 n2_top), (h3, kAi cint 128 f3), (h0, kO10 h1 n0_size (n0_place + 1) h2), (h1, kAi cint 120 f1)] := hD
                refine lv_iload_n hx hb dX10_readOperand_83 rfl (lv_at hl 1 rfl) ?_
                refine lv_bipush (v := 40) hx hb dX10_readOperand_84 kk_bi_40 ?_
                refine lv_icmp_ne (tgt := 99) hx hb dX10_readOperand_86 (by decide) (fun c_17 => ?_) (fun c_17 => ?_)
                · have t_17 : r_1.toInt ≠ 40 := kk_ne c_17
                  have qe_17 := kd_nk (kd_ub qb_1) t_17 (by decide)
                  have := kk_add2 (x := n0_place) (y := 1) (a := n0_place.toInt) (b := 1) rfl rfl (by omega) (by omega)
                  have := kk_add2 (x := p0) (y := 1) (a := p0.toInt) (b := 1) rfl rfl (by omega) (by omega)
                  have hk_18 : ko_R (ko_at f1 n0_size.toInt) (5 : Int) (p0.toInt : Int) n0_place.toInt = ko_R (ko_at f1 n0_size.toInt) (5 : Int) ((p0 + 1).toInt : Int) (n0_place + 1).toInt := ko_o_sgn (k' := ((p0 + 1).toInt : Int)) (p1 := (n0_place + 1).toInt) (by first | with_reducible assumption | exact Or.inl (by with_reducible assumption) | exact Or.inr (by with_reducible assumption) | omega) (by first | with_reducible assumption | exact Or.inl (by with_reducible assumption) | exact Or.inr (by with_reducible assumption) | omega) (by first | with_reducible assumption | exact Or.inl (by with_reducible assumption) | exact Or.inr (by with_reducible assumption) | omega) (by first | with_reducible assumption | exact Or.inl (by with_reducible assumption) | exact Or.inr (by with_reducible assumption) | omega) rfl
                  refine lv_aload_n hx hb dX10_readOperand_99 rfl (lv_at hl 2 rfl) ?_
                  refine lv_iload_n hx hb dX10_readOperand_100 rfl (lv_at hl 1 rfl) ?_
                  refine lv_iload_n hx hb dX10_readOperand_101 rfl (lv_at hl 3 rfl) ?_
                  refine lv_iconst (v := 1) hx hb dX10_readOperand_102 kk_ic_1 ?_
                  refine lv_iadd hx hb dX10_readOperand_103 ?_
                  obtain ⟨hPc, hDc, hFc⟩ := kk_cutout (wc := [(h0, kO10 h1 n0_size (n0_place + 1) h2), (h1, kAi cint 120 f1), (h2, kO4 h3 n2_size h4 h5 n2_top), (h3, kAi cint 128 f3)]) hP hD hS hA [2, 3, 0, 1] (by decide) rfl
                  have hKc := kk_Ks (tq := [(cint, .int)]) hK [0] rfl
                  refine va_calli (va_runV (As := [.int r_1, .int (p0 + 1)]) (rest := []) ⟨hx, hb, hml, hown, hts⟩ (ih1 dC dI h0 h1 h2 h3 h4 h5 cint H.size r_1 (p0 + 1) (by show 0 ≤ ((p0 + 1) : Int32).toInt ∧ ((p0 + 1) : Int32).toInt ≤ 6; first | with_reducible assumption | (constructor <;> (omega))) n0_size (n0_place + 1) f1 n2_size n2_top f3 tn0_size (by show 0 ≤ ((n0_place + 1) : Int32).toInt ∧ ((n0_place + 1) : Int32).toInt ≤ 120; first | with_reducible assumption | (constructor <;> (omega))) bf1 tn2_size tn2_top (by show (6 ≤ ((p0 + 1) : Int32).toInt + (rk - 1)); first | with_reducible assumption | (omega)) (by show (0 ≤ ((n0_place + 1) : Int32).toInt ∧ ((n0_place + 1) : Int32).toInt ≤ (n0_size : Int32).toInt); first | with_reducible assumption | (refine ⟨?_, ?_⟩ <;> (first | with_reducible assumption | (omega)))) aNAMES) (cwV 2 hts gX10_readOperand_X10_readSigned rfl rfl rfl ⟨rfl, kh_X10_readSigned⟩ ⟨Nat.add_le_add_right hF1 1, kk_rmL hL1 (Nat.le_of_ble_eq_true rfl)⟩) ⟨fun a U g mk q => by obtain ⟨q0, q1, qP, qK, qD, qx0, qx1⟩ := q; exact ⟨q0, q1, qP, va_K.moved (u := U) (U := U.calling g mk a) (Vm.Alike.refl U.vm) qK, qD, va_Z.moved (u := U) (U := U.calling g mk a) (Vm.Alike.refl U.vm) qx0, va_T.moved (u := U) (U := U.calling g mk a) (Vm.Alike.refl U.vm) qx1⟩, va_recv hKc hPc (ci := 10) (q0 := 0) rfl rfl, fun U hU hW => ⟨rfl, by rw [hU], by rw [hU]; exact hPc, va_K.moved hW.alike hKc, hDc.weaken (fun _ _ _ _ => trivial), by rw [hU]; exact ((hZNAMES.kept (fun a h1 h2 => hS.2.1 a h1 h2)).narrow hFc).moved hW.alike, by rw [hU]; exact ((hTNAMES.kept (fun a h1 h2 => hS.2.1 a h1 h2)).narrow hFc).moved hW.alike⟩⟩ rfl rfl hl.1 rfl (lv_room (Nat.le_of_ble_eq_true rfl)) dX10_readOperand_104 ⟨Nat.le_of_ble_eq_true rfl, Nat.le_of_ble_eq_true rfl⟩) hS (fun q _ h => hFc q h) hFc (fun r_19 ug_19 t H1 locs ht hvm hw hB hz1 hk1 hS => ?_)
                  obtain ⟨hu_19, hw⟩ := hw
                  subst ug_19
                  obtain ⟨y_20, y_21, f_22, by_20, by_21, hcase_22, hP1, hK1, hD1⟩ := hB
                  rw [ht] at hP1
                  have hK1 := va_K.moved hvm.symm hK1
                  obtain ⟨hP, hD⟩ := va_join (wr := []) (w1 := [(h0, kO10 h1 n0_size y_20 h2), (h1, kAi cint 120 f1), (h2, kO4 h3 y_21 h4 h5 n2_top), (h3, kAi cint 128 f_22)]) hP hD [2, 3, 0, 1] [] rfl rfl (by decide) (by decide) hk1 hFc hP1 hD1
                  generalize H1 = H at hP hS ⊢
                  replace hP : va_P (dC, dI) vwCl [(h0, kO10 h1 n0_size y_20 h2), (h1, kAi cint 120 f1), (h2, kO4 h3 y_21 h4 h5 n2_top), (h3, kAi cint 128 f_22)] H := hP
                  replace hD : va_D A [(h0, kO10 h1 n0_size y_20 h2), (h1, kAi cint 120 f1), (h2, kO4 h3 y_21 h4 h5 n2_top), (h3, kAi cint 128 f_22)] := hD
                  rcases hcase_22 with ⟨w_19_0_0, rfl⟩ | ⟨w_19_1_0, rfl⟩
                  · skip
                    replace w_19_0_0 : (ko_R (ko_at f1 n0_size.toInt) (5 : Int) (p0 + 1).toInt (n0_place + 1).toInt = -1 - y_20.toInt ∧ 0 ≤ y_20.toInt ∧ y_20.toInt ≤ n0_size.toInt) := w_19_0_0
                    replace hP : va_P (dC, dI) vwCl [(h0, kO10 h1 n0_size y_20 h2), (h1, kAi cint 120 f1), (h2, kO4 h3 y_21 h4 h5 n2_top), (h3, kAi cint 128 f_22)] H := hP
                    replace hD : va_D A [(h0, kO10 h1 n0_size y_20 h2), (h1, kAi cint 120 f1), (h2, kO4 h3 y_21 h4 h5 n2_top), (h3, kAi cint 128 f_22)] := hD
                    refine W.eq (g2 := F0 m 107 ls [.int 0]) rfl ?_
                    obtain ⟨hP9, hD9⟩ := kk_leafout (wc := [(h0, kO10 h1 n0_size y_20 h2), (h1, kAi cint 120 f1), (h2, kO4 h3 y_21 h4 h5 n2_top), (h3, kAi cint 128 f_22)]) hP hD [0, 1, 2, 3] (by decide) rfl
                    have hK9 := kk_Ks (tq := []) hK [] rfl
                    exact W.zret (v := 0) hx hb hr rfl (fun t ht hW => ⟨⟨0, 0, rfl, ⟨rfl, trivial⟩, y_20, y_21, f_22, (by show 0 ≤ (y_20 : Int32).toInt ∧ (y_20 : Int32).toInt ≤ 120; first | with_reducible assumption | (constructor <;> (omega))), (by show 0 ≤ (y_21 : Int32).toInt ∧ (y_21 : Int32).toInt ≤ 128; first | with_reducible assumption | (constructor <;> (omega))), (Or.inl ⟨(by show (ko_R (ko_at f1 (n0_size : Int32).toInt) (5 : Int) (p0 : Int32).toInt (n0_place : Int32).toInt = -1 - (y_20 : Int32).toInt ∧ 0 ≤ (y_20 : Int32).toInt ∧ (y_20 : Int32).toInt ≤ (n0_size : Int32).toInt); first | with_reducible assumption | (refine ⟨?_, ?_, ?_⟩ <;> (first | with_reducible assumption | (omega)))), rfl⟩), by rw [ht]; exact hP9, va_K.moved hW.alike hK9, hD9⟩, hS.F ht⟩) hS.2.2 dX10_readOperand_107
                  · skip
                    replace w_19_1_0 : (ko_R (ko_at f1 n0_size.toInt) (5 : Int) (p0 + 1).toInt (n0_place + 1).toInt = y_20.toInt ∧ 0 ≤ y_20.toInt ∧ y_20.toInt ≤ n0_size.toInt) := w_19_1_0
                    replace hP : va_P (dC, dI) vwCl [(h0, kO10 h1 n0_size y_20 h2), (h1, kAi cint 120 f1), (h2, kO4 h3 y_21 h4 h5 n2_top), (h3, kAi cint 128 f_22)] H := hP
                    replace hD : va_D A [(h0, kO10 h1 n0_size y_20 h2), (h1, kAi cint 120 f1), (h2, kO4 h3 y_21 h4 h5 n2_top), (h3, kAi cint 128 f_22)] := hD
                    refine W.eq (g2 := F0 m 107 ls [.int 1]) rfl ?_
                    obtain ⟨hP9, hD9⟩ := kk_leafout (wc := [(h0, kO10 h1 n0_size y_20 h2), (h1, kAi cint 120 f1), (h2, kO4 h3 y_21 h4 h5 n2_top), (h3, kAi cint 128 f_22)]) hP hD [0, 1, 2, 3] (by decide) rfl
                    have hK9 := kk_Ks (tq := []) hK [] rfl
                    exact W.zret (v := 1) hx hb hr rfl (fun t ht hW => ⟨⟨1, 1, rfl, ⟨rfl, trivial⟩, y_20, y_21, f_22, (by show 0 ≤ (y_20 : Int32).toInt ∧ (y_20 : Int32).toInt ≤ 120; first | with_reducible assumption | (constructor <;> (omega))), (by show 0 ≤ (y_21 : Int32).toInt ∧ (y_21 : Int32).toInt ≤ 128; first | with_reducible assumption | (constructor <;> (omega))), (Or.inr ⟨(by show (ko_R (ko_at f1 (n0_size : Int32).toInt) (5 : Int) (p0 : Int32).toInt (n0_place : Int32).toInt = (y_20 : Int32).toInt ∧ 0 ≤ (y_20 : Int32).toInt ∧ (y_20 : Int32).toInt ≤ (n0_size : Int32).toInt); first | with_reducible assumption | (refine ⟨?_, ?_, ?_⟩ <;> (first | with_reducible assumption | (omega)))), rfl⟩), by rw [ht]; exact hP9, va_K.moved hW.alike hK9, hD9⟩, hS.F ht⟩) hS.2.2 dX10_readOperand_107
                · have t_17 : r_1.toInt = 40 := kk_eq c_17
                  obtain ⟨qe_17, qi_17, qr_17⟩ := kd_k (kd_ub qb_1) t_17 (by decide)
                  have := kk_add2 (x := n0_place) (y := 1) (a := n0_place.toInt) (b := 1) rfl rfl (by omega) (by omega)
                  exfalso; omega
              · have t_16 : r_1.toInt ≠ 33 := kk_ne c_16
                have qe_16 := kd_nk (kd_ub qb_1) t_16 (by decide)
                refine lv_iload_n hx hb dX10_readOperand_65 rfl (lv_at hl 1 rfl) ?_
                refine lv_bipush (v := 45) hx hb dX10_readOperand_66 kk_bi_45 ?_
                refine lv_icmp_eq (tgt := 73) hx hb dX10_readOperand_68 (by decide) (fun c_23 => ?_) (fun c_23 => ?_)
                · have t_23 : r_1.toInt = 45 := kk_eq c_23
                  obtain ⟨qe_23, qi_23, qr_23⟩ := kd_k (kd_ub qb_1) t_23 (by decide)
                  refine lv_aload_n hx hb dX10_readOperand_73 rfl (lv_at hl 2 rfl) ?_
                  refine lv_dup hx hb dX10_readOperand_74 rfl ?_
                  refine va_get (D := (dC, dI)) (ci := 10) (v := .int n0_place) (C := RX10) (T := TX10) (N := 4) hx hb hts (fun _ h => List.mem_cons_of_mem _ (List.mem_append_left _ (List.mem_append_right _ h))) hown hK hP 2 rfl rfl 2 (by decide) (hts (.fieldLink RX10 17 "KinkStreet$Tape" "place" "I") (List.mem_of_getElem? (i := 1) rfl)) (fun _ h9 => h9) rfl dX10_readOperand_75 ?_
                  refine lv_iconst (v := 1) hx hb dX10_readOperand_78 kk_ic_1 ?_
                  refine lv_iadd hx hb dX10_readOperand_79 ?_
                  refine va_put (D := (dC, dI)) (ci := 10) (v := .int (n0_place + 1)) (ty := .int) (C := RX10) (T := TX10) (N := 4) hx hb hts (fun _ h => List.mem_cons_of_mem _ (List.mem_append_left _ (List.mem_append_right _ h))) tyX10 tyX10_ok nmX10 hown hK hP hD hS 2 rfl rfl 2 (by decide) (hts (.fieldLink RX10 17 "KinkStreet$Tape" "place" "I") (List.mem_of_getElem? (i := 1) rfl)) (fun _ h9 => h9) rfl (by decide +kernel) rfl rfl (Nat.le_of_ble_eq_true rfl) dX10_readOperand_80 (fun H locs hP hD hS => ?_)
                  replace hP : va_P (dC, dI) vwCl [(h2, kO4 h3 n2_size h4 h5 n2_top), (h3, kAi cint 128 f3), (h0, kO10 h1 n0_size (n0_place + 1) h2), (h1, kAi cint 120 f1)] H := hP
                  replace hD : va_D A [(h2, kO4 h3 n2_size h4 h5 n2_top), (h3, kAi cint 128 f3), (h0, kO10 h1 n0_size (n0_place + 1) h2), (h1, kAi cint 120 f1)] := hD
                  refine lv_iload_n hx hb dX10_readOperand_83 rfl (lv_at hl 1 rfl) ?_
                  refine lv_bipush (v := 40) hx hb dX10_readOperand_84 kk_bi_40 ?_
                  refine lv_icmp_ne (tgt := 99) hx hb dX10_readOperand_86 (by decide) (fun c_24 => ?_) (fun c_24 => ?_)
                  · have t_24 : r_1.toInt ≠ 40 := kk_ne c_24
                    have qe_24 := kd_nk (kd_ub qb_1) t_24 (by decide)
                    have := kk_add2 (x := n0_place) (y := 1) (a := n0_place.toInt) (b := 1) rfl rfl (by omega) (by omega)
                    have := kk_add2 (x := p0) (y := 1) (a := p0.toInt) (b := 1) rfl rfl (by omega) (by omega)
                    have hk_25 : ko_R (ko_at f1 n0_size.toInt) (5 : Int) (p0.toInt : Int) n0_place.toInt = ko_R (ko_at f1 n0_size.toInt) (5 : Int) ((p0 + 1).toInt : Int) (n0_place + 1).toInt := ko_o_sgn (k' := ((p0 + 1).toInt : Int)) (p1 := (n0_place + 1).toInt) (by first | with_reducible assumption | exact Or.inl (by with_reducible assumption) | exact Or.inr (by with_reducible assumption) | omega) (by first | with_reducible assumption | exact Or.inl (by with_reducible assumption) | exact Or.inr (by with_reducible assumption) | omega) (by first | with_reducible assumption | exact Or.inl (by with_reducible assumption) | exact Or.inr (by with_reducible assumption) | omega) (by first | with_reducible assumption | exact Or.inl (by with_reducible assumption) | exact Or.inr (by with_reducible assumption) | omega) rfl
                    refine lv_aload_n hx hb dX10_readOperand_99 rfl (lv_at hl 2 rfl) ?_
                    refine lv_iload_n hx hb dX10_readOperand_100 rfl (lv_at hl 1 rfl) ?_
                    refine lv_iload_n hx hb dX10_readOperand_101 rfl (lv_at hl 3 rfl) ?_
                    refine lv_iconst (v := 1) hx hb dX10_readOperand_102 kk_ic_1 ?_
                    refine lv_iadd hx hb dX10_readOperand_103 ?_
                    obtain ⟨hPc, hDc, hFc⟩ := kk_cutout (wc := [(h0, kO10 h1 n0_size (n0_place + 1) h2), (h1, kAi cint 120 f1), (h2, kO4 h3 n2_size h4 h5 n2_top), (h3, kAi cint 128 f3)]) hP hD hS hA [2, 3, 0, 1] (by decide) rfl
                    have hKc := kk_Ks (tq := [(cint, .int)]) hK [0] rfl
                    refine va_calli (va_runV (As := [.int r_1, .int (p0 + 1)]) (rest := []) ⟨hx, hb, hml, hown, hts⟩ (ih1 dC dI h0 h1 h2 h3 h4 h5 cint H.size r_1 (p0 + 1) (by show 0 ≤ ((p0 + 1) : Int32).toInt ∧ ((p0 + 1) : Int32).toInt ≤ 6; first | with_reducible assumption | (constructor <;> (omega))) n0_size (n0_place + 1) f1 n2_size n2_top f3 tn0_size (by show 0 ≤ ((n0_place + 1) : Int32).toInt ∧ ((n0_place + 1) : Int32).toInt ≤ 120; first | with_reducible assumption | (constructor <;> (omega))) bf1 tn2_size tn2_top (by show (6 ≤ ((p0 + 1) : Int32).toInt + (rk - 1)); first | with_reducible assumption | (omega)) (by show (0 ≤ ((n0_place + 1) : Int32).toInt ∧ ((n0_place + 1) : Int32).toInt ≤ (n0_size : Int32).toInt); first | with_reducible assumption | (refine ⟨?_, ?_⟩ <;> (first | with_reducible assumption | (omega)))) aNAMES) (cwV 2 hts gX10_readOperand_X10_readSigned rfl rfl rfl ⟨rfl, kh_X10_readSigned⟩ ⟨Nat.add_le_add_right hF1 1, kk_rmL hL1 (Nat.le_of_ble_eq_true rfl)⟩) ⟨fun a U g mk q => by obtain ⟨q0, q1, qP, qK, qD, qx0, qx1⟩ := q; exact ⟨q0, q1, qP, va_K.moved (u := U) (U := U.calling g mk a) (Vm.Alike.refl U.vm) qK, qD, va_Z.moved (u := U) (U := U.calling g mk a) (Vm.Alike.refl U.vm) qx0, va_T.moved (u := U) (U := U.calling g mk a) (Vm.Alike.refl U.vm) qx1⟩, va_recv hKc hPc (ci := 10) (q0 := 0) rfl rfl, fun U hU hW => ⟨rfl, by rw [hU], by rw [hU]; exact hPc, va_K.moved hW.alike hKc, hDc.weaken (fun _ _ _ _ => trivial), by rw [hU]; exact ((hZNAMES.kept (fun a h1 h2 => hS.2.1 a h1 h2)).narrow hFc).moved hW.alike, by rw [hU]; exact ((hTNAMES.kept (fun a h1 h2 => hS.2.1 a h1 h2)).narrow hFc).moved hW.alike⟩⟩ rfl rfl hl.1 rfl (lv_room (Nat.le_of_ble_eq_true rfl)) dX10_readOperand_104 ⟨Nat.le_of_ble_eq_true rfl, Nat.le_of_ble_eq_true rfl⟩) hS (fun q _ h => hFc q h) hFc (fun r_26 ug_26 t H1 locs ht hvm hw hB hz1 hk1 hS => ?_)
                    obtain ⟨hu_26, hw⟩ := hw
                    subst ug_26
                    obtain ⟨y_27, y_28, f_29, by_27, by_28, hcase_29, hP1, hK1, hD1⟩ := hB
                    rw [ht] at hP1
                    have hK1 := va_K.moved hvm.symm hK1
                    obtain ⟨hP, hD⟩ := va_join (wr := []) (w1 := [(h0, kO10 h1 n0_size y_27 h2), (h1, kAi cint 120 f1), (h2, kO4 h3 y_28 h4 h5 n2_top), (h3, kAi cint 128 f_29)]) hP hD [2, 3, 0, 1] [] rfl rfl (by decide) (by decide) hk1 hFc hP1 hD1
                    generalize H1 = H at hP hS ⊢
                    replace hP : va_P (dC, dI) vwCl [(h0, kO10 h1 n0_size y_27 h2), (h1, kAi cint 120 f1), (h2, kO4 h3 y_28 h4 h5 n2_top), (h3, kAi cint 128 f_29)] H := hP
                    replace hD : va_D A [(h0, kO10 h1 n0_size y_27 h2), (h1, kAi cint 120 f1), (h2, kO4 h3 y_28 h4 h5 n2_top), (h3, kAi cint 128 f_29)] := hD
                    rcases hcase_29 with ⟨w_26_0_0, rfl⟩ | ⟨w_26_1_0, rfl⟩
                    · skip
                      replace w_26_0_0 : (ko_R (ko_at f1 n0_size.toInt) (5 : Int) (p0 + 1).toInt (n0_place + 1).toInt = -1 - y_27.toInt ∧ 0 ≤ y_27.toInt ∧ y_27.toInt ≤ n0_size.toInt) := w_26_0_0
                      replace hP : va_P (dC, dI) vwCl [(h0, kO10 h1 n0_size y_27 h2), (h1, kAi cint 120 f1), (h2, kO4 h3 y_28 h4 h5 n2_top), (h3, kAi cint 128 f_29)] H := hP
                      replace hD : va_D A [(h0, kO10 h1 n0_size y_27 h2), (h1, kAi cint 120 f1), (h2, kO4 h3 y_28 h4 h5 n2_top), (h3, kAi cint 128 f_29)] := hD
                      refine W.eq (g2 := F0 m 107 ls [.int 0]) rfl ?_
                      obtain ⟨hP9, hD9⟩ := kk_leafout (wc := [(h0, kO10 h1 n0_size y_27 h2), (h1, kAi cint 120 f1), (h2, kO4 h3 y_28 h4 h5 n2_top), (h3, kAi cint 128 f_29)]) hP hD [0, 1, 2, 3] (by decide) rfl
                      have hK9 := kk_Ks (tq := []) hK [] rfl
                      exact W.zret (v := 0) hx hb hr rfl (fun t ht hW => ⟨⟨0, 0, rfl, ⟨rfl, trivial⟩, y_27, y_28, f_29, (by show 0 ≤ (y_27 : Int32).toInt ∧ (y_27 : Int32).toInt ≤ 120; first | with_reducible assumption | (constructor <;> (omega))), (by show 0 ≤ (y_28 : Int32).toInt ∧ (y_28 : Int32).toInt ≤ 128; first | with_reducible assumption | (constructor <;> (omega))), (Or.inl ⟨(by show (ko_R (ko_at f1 (n0_size : Int32).toInt) (5 : Int) (p0 : Int32).toInt (n0_place : Int32).toInt = -1 - (y_27 : Int32).toInt ∧ 0 ≤ (y_27 : Int32).toInt ∧ (y_27 : Int32).toInt ≤ (n0_size : Int32).toInt); first | with_reducible assumption | (refine ⟨?_, ?_, ?_⟩ <;> (first | with_reducible assumption | (omega)))), rfl⟩), by rw [ht]; exact hP9, va_K.moved hW.alike hK9, hD9⟩, hS.F ht⟩) hS.2.2 dX10_readOperand_107
                    · skip
                      replace w_26_1_0 : (ko_R (ko_at f1 n0_size.toInt) (5 : Int) (p0 + 1).toInt (n0_place + 1).toInt = y_27.toInt ∧ 0 ≤ y_27.toInt ∧ y_27.toInt ≤ n0_size.toInt) := w_26_1_0
                      replace hP : va_P (dC, dI) vwCl [(h0, kO10 h1 n0_size y_27 h2), (h1, kAi cint 120 f1), (h2, kO4 h3 y_28 h4 h5 n2_top), (h3, kAi cint 128 f_29)] H := hP
                      replace hD : va_D A [(h0, kO10 h1 n0_size y_27 h2), (h1, kAi cint 120 f1), (h2, kO4 h3 y_28 h4 h5 n2_top), (h3, kAi cint 128 f_29)] := hD
                      refine W.eq (g2 := F0 m 107 ls [.int 1]) rfl ?_
                      obtain ⟨hP9, hD9⟩ := kk_leafout (wc := [(h0, kO10 h1 n0_size y_27 h2), (h1, kAi cint 120 f1), (h2, kO4 h3 y_28 h4 h5 n2_top), (h3, kAi cint 128 f_29)]) hP hD [0, 1, 2, 3] (by decide) rfl
                      have hK9 := kk_Ks (tq := []) hK [] rfl
                      exact W.zret (v := 1) hx hb hr rfl (fun t ht hW => ⟨⟨1, 1, rfl, ⟨rfl, trivial⟩, y_27, y_28, f_29, (by show 0 ≤ (y_27 : Int32).toInt ∧ (y_27 : Int32).toInt ≤ 120; first | with_reducible assumption | (constructor <;> (omega))), (by show 0 ≤ (y_28 : Int32).toInt ∧ (y_28 : Int32).toInt ≤ 128; first | with_reducible assumption | (constructor <;> (omega))), (Or.inr ⟨(by show (ko_R (ko_at f1 (n0_size : Int32).toInt) (5 : Int) (p0 : Int32).toInt (n0_place : Int32).toInt = (y_27 : Int32).toInt ∧ 0 ≤ (y_27 : Int32).toInt ∧ (y_27 : Int32).toInt ≤ (n0_size : Int32).toInt); first | with_reducible assumption | (refine ⟨?_, ?_, ?_⟩ <;> (first | with_reducible assumption | (omega)))), rfl⟩), by rw [ht]; exact hP9, va_K.moved hW.alike hK9, hD9⟩, hS.F ht⟩) hS.2.2 dX10_readOperand_107
                  · have t_24 : r_1.toInt = 40 := kk_eq c_24
                    obtain ⟨qe_24, qi_24, qr_24⟩ := kd_k (kd_ub qb_1) t_24 (by decide)
                    have := kk_add2 (x := n0_place) (y := 1) (a := n0_place.toInt) (b := 1) rfl rfl (by omega) (by omega)
                    exfalso; omega
                · have t_23 : r_1.toInt ≠ 45 := kk_ne c_23
                  have qe_23 := kd_nk (kd_ub qb_1) t_23 (by decide)
                  have hk_30 : ko_R (ko_at f1 n0_size.toInt) (5 : Int) (p0.toInt : Int) n0_place.toInt = -1 - n0_place.toInt := ko_o_bad (by first | with_reducible assumption | exact Or.inl (by with_reducible assumption) | exact Or.inr (by with_reducible assumption) | omega) (by first | with_reducible assumption | exact Or.inl (by with_reducible assumption) | exact Or.inr (by with_reducible assumption) | omega) (by first | exact Or.inr ⟨by with_reducible assumption, by with_reducible assumption, by with_reducible assumption⟩ | exact Or.inl (by omega) | omega)
                  refine lv_iconst (v := 0) hx hb dX10_readOperand_71 kk_ic_0 ?_
                  obtain ⟨hP9, hD9⟩ := kk_leafout (wc := [(h0, kO10 h1 n0_size n0_place h2), (h1, kAi cint 120 f1), (h2, kO4 h3 n2_size h4 h5 n2_top), (h3, kAi cint 128 f3)]) hP hD [2, 3, 0, 1] (by decide) rfl
                  have hK9 := kk_Ks (tq := []) hK [] rfl
                  exact W.zret (v := 0) hx hb hr rfl (fun t ht hW => ⟨⟨0, 0, rfl, ⟨rfl, trivial⟩, n0_place, n2_size, f3, tn0_place, tn2_size, (Or.inl ⟨(by show (ko_R (ko_at f1 (n0_size : Int32).toInt) (5 : Int) (p0 : Int32).toInt (n0_place : Int32).toInt = -1 - (n0_place : Int32).toInt ∧ 0 ≤ (n0_place : Int32).toInt ∧ (n0_place : Int32).toInt ≤ (n0_size : Int32).toInt); first | with_reducible assumption | (refine ⟨?_, ?_, ?_⟩ <;> (first | with_reducible assumption | (omega)))), rfl⟩), by rw [ht]; exact hP9, va_K.moved hW.alike hK9, hD9⟩, hS.F ht⟩) hS.2.2 dX10_readOperand_72
        · have t_4 : 0 ≤ r_3.toInt := kk_nlt c_4
          obtain ⟨qn_4, qi_4, qr_4⟩ := kd_nm (kd_ub qb_1) (kd_ub qb_3) t_4
          have hk_31 : ko_R (ko_at f1 n0_size.toInt) (5 : Int) (p0.toInt : Int) n0_place.toInt = n0_place.toInt + 1 := ko_o_nam (by first | with_reducible assumption | exact Or.inl (by with_reducible assumption) | exact Or.inr (by with_reducible assumption) | omega)
          refine lv_aload_n hx hb dX10_readOperand_27 rfl (lv_at hl 2 rfl) ?_
          refine lv_dup hx hb dX10_readOperand_28 rfl ?_
          refine va_get (D := (dC, dI)) (ci := 10) (v := .int n0_place) (C := RX10) (T := TX10) (N := 4) hx hb hts (fun _ h => List.mem_cons_of_mem _ (List.mem_append_left _ (List.mem_append_right _ h))) hown hK hP 2 rfl rfl 2 (by decide) (hts (.fieldLink RX10 17 "KinkStreet$Tape" "place" "I") (List.mem_of_getElem? (i := 1) rfl)) (fun _ h9 => h9) rfl dX10_readOperand_29 ?_
          refine lv_iconst (v := 1) hx hb dX10_readOperand_32 kk_ic_1 ?_
          refine lv_iadd hx hb dX10_readOperand_33 ?_
          refine va_put (D := (dC, dI)) (ci := 10) (v := .int (n0_place + 1)) (ty := .int) (C := RX10) (T := TX10) (N := 4) hx hb hts (fun _ h => List.mem_cons_of_mem _ (List.mem_append_left _ (List.mem_append_right _ h))) tyX10 tyX10_ok nmX10 hown hK hP hD hS 2 rfl rfl 2 (by decide) (hts (.fieldLink RX10 17 "KinkStreet$Tape" "place" "I") (List.mem_of_getElem? (i := 1) rfl)) (fun _ h9 => h9) rfl (by decide +kernel) rfl rfl (Nat.le_of_ble_eq_true rfl) dX10_readOperand_34 (fun H locs hP hD hS => ?_)
          replace hP : va_P (dC, dI) vwCl [(h2, kO4 h3 n2_size h4 h5 n2_top), (h3, kAi cint 128 f3), (h0, kO10 h1 n0_size (n0_place + 1) h2), (h1, kAi cint 120 f1)] H := hP
          replace hD : va_D A [(h2, kO4 h3 n2_size h4 h5 n2_top), (h3, kAi cint 128 f3), (h0, kO10 h1 n0_size (n0_place + 1) h2), (h1, kAi cint 120 f1)] := hD
          refine lv_aload_n hx hb dX10_readOperand_37 rfl (lv_at hl 2 rfl) ?_
          refine va_get (D := (dC, dI)) (ci := 10) (v := .ref h2) (C := RX10) (T := TX10) (N := 4) hx hb hts (fun _ h => List.mem_cons_of_mem _ (List.mem_append_left _ (List.mem_append_right _ h))) hown hK hP 2 rfl rfl 3 (by decide) (hts (.fieldLink RX10 20 "KinkStreet$Tape" "law" "LKinkStreet$Law;") (List.mem_of_getElem? (i := 2) rfl)) (fun _ h9 => h9) rfl dX10_readOperand_38 ?_
          refine lv_iload_n hx hb dX10_readOperand_41 rfl (lv_at hl 0 rfl) ?_
          obtain ⟨hPc, hDc, hFc⟩ := kk_cutout (wc := [(h2, kO4 h3 n2_size h4 h5 n2_top), (h3, kAi cint 128 f3)]) hP hD hS hA [0, 1] (by decide) rfl
          have hKc := kk_Ks (tq := [(cint, .int)]) hK [0] rfl
          refine va_callv (va_runV (As := [.int r_3]) (rest := []) ⟨hx, hb, hml, hown, hts⟩ (g_X4_append_0 l dC dI h2 h3 h4 h5 cint H.size r_3 n2_size n2_top f3 tn2_size tn2_top) (cwV 1 hts gX10_readOperand_X4_append rfl rfl rfl ⟨rfl, kh_X4_append⟩ ⟨kk_rmF hF (Nat.le_of_ble_eq_true rfl), kk_rmM hL (Nat.le_of_ble_eq_true rfl)⟩) ⟨fun a U g mk q => by obtain ⟨q0, q1, qP, qK, qD⟩ := q; exact ⟨q0, q1, qP, va_K.moved (u := U) (U := U.calling g mk a) (Vm.Alike.refl U.vm) qK, qD⟩, va_recv hKc hPc (ci := 4) (q0 := 0) rfl rfl, fun U hU hW => ⟨rfl, by rw [hU], by rw [hU]; exact hPc, va_K.moved hW.alike hKc, hDc.weaken (fun _ _ _ _ => trivial)⟩⟩ rfl rfl hl.1 rfl (lv_room (Nat.le_of_ble_eq_true rfl)) dX10_readOperand_42 ⟨Nat.le_of_ble_eq_true rfl, Nat.le_of_ble_eq_true rfl⟩) hS (fun q _ h => hFc q h) hFc (fun u t H1 locs ht hvm hw hB hz1 hk1 hS => ?_)
          obtain ⟨y_33, f_34, by_33, hP1, hK1, hD1⟩ := hB
          rw [ht] at hP1
          have hK1 := va_K.moved hvm.symm hK1
          obtain ⟨hP, hD⟩ := va_join (wr := [(h0, kO10 h1 n0_size (n0_place + 1) h2), (h1, kAi cint 120 f1)]) (w1 := [(h2, kO4 h3 y_33 h4 h5 n2_top), (h3, kAi cint 128 f_34)]) hP hD [0, 1] [2, 3] rfl rfl (by decide) (by decide) hk1 hFc hP1 hD1
          generalize H1 = H at hP hS ⊢
          replace hP : va_P (dC, dI) vwCl [(h0, kO10 h1 n0_size (n0_place + 1) h2), (h1, kAi cint 120 f1), (h2, kO4 h3 y_33 h4 h5 n2_top), (h3, kAi cint 128 f_34)] H := hP
          replace hD : va_D A [(h0, kO10 h1 n0_size (n0_place + 1) h2), (h1, kAi cint 120 f1), (h2, kO4 h3 y_33 h4 h5 n2_top), (h3, kAi cint 128 f_34)] := hD
          refine lv_iconst (v := 1) hx hb dX10_readOperand_45 kk_ic_1 ?_
          obtain ⟨hP9, hD9⟩ := kk_leafout (wc := [(h0, kO10 h1 n0_size (n0_place + 1) h2), (h1, kAi cint 120 f1), (h2, kO4 h3 y_33 h4 h5 n2_top), (h3, kAi cint 128 f_34)]) hP hD [0, 1, 2, 3] (by decide) rfl
          have hK9 := kk_Ks (tq := []) hK [] rfl
          have := kk_add2 (x := n0_place) (y := 1) (a := n0_place.toInt) (b := 1) rfl rfl (by omega) (by omega)
          exact W.zret (v := 1) hx hb hr rfl (fun t ht hW => ⟨⟨1, 1, rfl, ⟨rfl, trivial⟩, (n0_place + 1), y_33, f_34, (by show 0 ≤ ((n0_place + 1) : Int32).toInt ∧ ((n0_place + 1) : Int32).toInt ≤ 120; first | with_reducible assumption | (constructor <;> (omega))), (by show 0 ≤ (y_33 : Int32).toInt ∧ (y_33 : Int32).toInt ≤ 128; first | with_reducible assumption | (constructor <;> (omega))), (Or.inr ⟨(by show (ko_R (ko_at f1 (n0_size : Int32).toInt) (5 : Int) (p0 : Int32).toInt (n0_place : Int32).toInt = ((n0_place + 1) : Int32).toInt ∧ 0 ≤ ((n0_place + 1) : Int32).toInt ∧ ((n0_place + 1) : Int32).toInt ≤ (n0_size : Int32).toInt); first | with_reducible assumption | (refine ⟨?_, ?_, ?_⟩ <;> (first | with_reducible assumption | (omega)))), rfl⟩), by rw [ht]; exact hP9, va_K.moved hW.alike hK9, hD9⟩, hS.F ht⟩) hS.2.2 dX10_readOperand_46
    · skip
      replace t_2_0 : (48 : Int) ≤ r_1.toInt := t_2_0
      replace t_2_1 : (r_1.toInt : Int) ≤ 57 := t_2_1
      replace t_2_2 : (48 ≤ r_1.toInt ∧ r_1.toInt ≤ 57) := t_2_2
      obtain ⟨qe_2, qi_2, qr_2⟩ := kd_dg (kd_ub qb_1) t_2_2
      refine lv_if_eq (tgt := 18) hx hb dX10_readOperand_9 (by decide) (fun c => absurd c (by decide)) (fun _ => ?_)
      refine lv_aload_n hx hb dX10_readOperand_12 rfl (lv_at hl 1 rfl) ?_
      obtain ⟨hPc, hDc, hFc⟩ := kk_cutout (wc := [(h0, kO10 h1 n0_size n0_place h2), (h1, kAi cint 120 f1), (h2, kO4 h3 n2_size h4 h5 n2_top), (h3, kAi cint 128 f3)]) hP hD hS hA [2, 3, 0, 1] (by decide) rfl
      have hKc := kk_Ks (tq := [(cint, .int)]) hK [0] rfl
      refine va_callv (va_runV (As := []) (rest := []) ⟨hx, hb, hml, hown, hts⟩ (g_X10_readNumber_1 l dC dI h0 h1 h2 h3 h4 h5 cint H.size n0_size n0_place f1 n2_size n2_top f3 tn0_size tn0_place bf1 tn2_size tn2_top (by show (0 ≤ (n0_place : Int32).toInt ∧ (n0_place : Int32).toInt ≤ (n0_size : Int32).toInt); first | with_reducible assumption | (refine ⟨?_, ?_⟩ <;> (first | with_reducible assumption | (omega))))) (cwV 0 hts gX10_readOperand_X10_readNumber rfl rfl rfl ⟨rfl, kh_X10_readNumber⟩ ⟨kk_rmF hF (Nat.le_of_ble_eq_true rfl), kk_rmM hL (Nat.le_of_ble_eq_true rfl)⟩) ⟨fun a U g mk q => by obtain ⟨q0, q1, qP, qK, qD⟩ := q; exact ⟨q0, q1, qP, va_K.moved (u := U) (U := U.calling g mk a) (Vm.Alike.refl U.vm) qK, qD⟩, va_recv hKc hPc (ci := 10) (q0 := 0) rfl rfl, fun U hU hW => ⟨rfl, by rw [hU], by rw [hU]; exact hPc, va_K.moved hW.alike hKc, hDc.weaken (fun _ _ _ _ => trivial)⟩⟩ rfl rfl hl.1 rfl (lv_room (Nat.le_of_ble_eq_true rfl)) dX10_readOperand_13 ⟨Nat.le_of_ble_eq_true rfl, Nat.le_of_ble_eq_true rfl⟩) hS (fun q _ h => hFc q h) hFc (fun u t H1 locs ht hvm hw hB hz1 hk1 hS => ?_)
      obtain ⟨y_36, y_37, f_38, by_36, by_37, v_38_0, hP1, hK1, hD1⟩ := hB
      replace v_38_0 : (y_36.toInt = ko_F (ko_at f1 n0_size.toInt) 4 n0_place.toInt ∧ n0_place.toInt ≤ y_36.toInt ∧ y_36.toInt ≤ n0_size.toInt) := v_38_0
      rw [ht] at hP1
      have hK1 := va_K.moved hvm.symm hK1
      obtain ⟨hP, hD⟩ := va_join (wr := []) (w1 := [(h0, kO10 h1 n0_size y_36 h2), (h1, kAi cint 120 f1), (h2, kO4 h3 y_37 h4 h5 n2_top), (h3, kAi cint 128 f_38)]) hP hD [2, 3, 0, 1] [] rfl rfl (by decide) (by decide) hk1 hFc hP1 hD1
      generalize H1 = H at hP hS ⊢
      replace hP : va_P (dC, dI) vwCl [(h0, kO10 h1 n0_size y_36 h2), (h1, kAi cint 120 f1), (h2, kO4 h3 y_37 h4 h5 n2_top), (h3, kAi cint 128 f_38)] H := hP
      replace hD : va_D A [(h0, kO10 h1 n0_size y_36 h2), (h1, kAi cint 120 f1), (h2, kO4 h3 y_37 h4 h5 n2_top), (h3, kAi cint 128 f_38)] := hD
      have hk_39 : ko_R (ko_at f1 n0_size.toInt) (5 : Int) (p0.toInt : Int) n0_place.toInt = ko_F (ko_at f1 n0_size.toInt) 4 n0_place.toInt := ko_o_num (by first | with_reducible assumption | exact Or.inl (by with_reducible assumption) | exact Or.inr (by with_reducible assumption) | omega)
      refine lv_iconst (v := 1) hx hb dX10_readOperand_16 kk_ic_1 ?_
      obtain ⟨hP9, hD9⟩ := kk_leafout (wc := [(h0, kO10 h1 n0_size y_36 h2), (h1, kAi cint 120 f1), (h2, kO4 h3 y_37 h4 h5 n2_top), (h3, kAi cint 128 f_38)]) hP hD [0, 1, 2, 3] (by decide) rfl
      have hK9 := kk_Ks (tq := []) hK [] rfl
      exact W.zret (v := 1) hx hb hr rfl (fun t ht hW => ⟨⟨1, 1, rfl, ⟨rfl, trivial⟩, y_36, y_37, f_38, (by show 0 ≤ (y_36 : Int32).toInt ∧ (y_36 : Int32).toInt ≤ 120; first | with_reducible assumption | (constructor <;> (omega))), (by show 0 ≤ (y_37 : Int32).toInt ∧ (y_37 : Int32).toInt ≤ 128; first | with_reducible assumption | (constructor <;> (omega))), (Or.inr ⟨(by show (ko_R (ko_at f1 (n0_size : Int32).toInt) (5 : Int) (p0 : Int32).toInt (n0_place : Int32).toInt = (y_36 : Int32).toInt ∧ 0 ≤ (y_36 : Int32).toInt ∧ (y_36 : Int32).toInt ≤ (n0_size : Int32).toInt); first | with_reducible assumption | (refine ⟨?_, ?_, ?_⟩ <;> (first | with_reducible assumption | (omega)))), rfl⟩), by rw [ht]; exact hP9, va_K.moved hW.alike hK9, hD9⟩, hS.F ht⟩) hS.2.2 dX10_readOperand_17
set_option maxHeartbeats 4000000 in
set_option maxRecDepth 100000 in
theorem s_X10_readChain_5v (l : Launch) (F L : Nat) (hF : 10 ≤ F) (hL : 200 ≤ L) (rk : Int) (Fq0 Lq0 : Nat) (hF0 : Fq0 ≤ F) (hL0 : Lq0 ≤ L) (ih0 : ka_X10_readOperandv l Fq0 Lq0 rk) (dC : Nat → ClassId) (dI : Nat → Nat → Nat) (h0 : Nat) (h1 : Nat) (h2 : Nat) (h3 : Nat) (h4 : Nat) (h5 : Nat) (cint : ClassId) (sz : Nat) (p1 : Int32) (tp1 : 0 ≤ p1.toInt ∧ p1.toInt ≤ 6) (n0_size : Int32) (n0_place : Int32) (f1 : Nat → Int32) (n2_size : Int32) (n2_top : Int32) (f3 : Nat → Int32) (tn0_size : 0 ≤ n0_size.toInt ∧ n0_size.toInt ≤ 120) (tn0_place : 0 ≤ n0_place.toInt ∧ n0_place.toInt ≤ 120) (bf1 : ∀ j, j < 120 → 0 ≤ (f1 j).toInt ∧ (f1 j).toInt ≤ 255) (tn2_size : kk_bx (0 ≤ n2_size.toInt ∧ n2_size.toInt ≤ 128)) (tn2_top : kk_bx (0 ≤ n2_top.toInt ∧ n2_top.toInt ≤ 64)) (pr0 : (6 ≤ p1.toInt + rk)) (pr1 : (0 ≤ n0_place.toInt ∧ n0_place.toInt ≤ n0_size.toInt)) (aNAMES : Nat) : Met l yX10_readChain wsX10_readChain ({ frames := F + 1, cells := 0, slots := 0, locals := L + 23 }) (va_Pc [.ref h0, .int 5, .int p1] (fun U => U.heap.size = sz ∧ va_P (dC, dI) vwCl [(h0, kO10 h1 n0_size n0_place h2), (h1, kAi cint 120 f1), (h2, kO4 h3 n2_size h4 h5 n2_top), (h3, kAi cint 128 f3)] U.heap ∧ va_K (dC, dI) vwCl [(cint, .int)] U ∧ va_D (fun _ => True) [(h0, kO10 h1 n0_size n0_place h2), (h1, kAi cint 120 f1), (h2, kO4 h3 n2_size h4 h5 n2_top), (h3, kAi cint 128 f3)] ∧ va_Z "KinkStreet$Law" "NAMES" "[C" (.ref aNAMES) (va_A [(h0, kO10 h1 n0_size n0_place h2), (h1, kAi cint 120 f1), (h2, kO4 h3 n2_size h4 h5 n2_top), (h3, kAi cint 128 f3)] sz) U U.heap ∧ va_T .char aNAMES 8 tb_NAMES (va_A [(h0, kO10 h1 n0_size n0_place h2), (h1, kAi cint 120 f1), (h2, kO4 h3 n2_size h4 h5 n2_top), (h3, kAi cint 128 f3)] sz) U U.heap)) (va_Qi (fun (r : Int32) (u_ : Int32) => u_ = r ∧ True) (fun (u_ : Int32) t => ∃ (m0_place : Int32) (m2_size : Int32) (g3 : Nat → Int32), (0 ≤ m0_place.toInt ∧ m0_place.toInt ≤ 120) ∧ (0 ≤ m2_size.toInt ∧ m2_size.toInt ≤ 128) ∧ (((ko_R (ko_at f1 n0_size.toInt) (5 : Int) p1.toInt n0_place.toInt = -1 - m0_place.toInt ∧ 0 ≤ m0_place.toInt ∧ m0_place.toInt ≤ n0_size.toInt) ∧ u_ = (0 : Int32)) ∨ ((ko_R (ko_at f1 n0_size.toInt) (5 : Int) p1.toInt n0_place.toInt = m0_place.toInt ∧ 0 ≤ m0_place.toInt ∧ m0_place.toInt ≤ n0_size.toInt) ∧ u_ = (1 : Int32))) ∧ va_P (dC, dI) vwCl [(h0, kO10 h1 n0_size m0_place h2), (h1, kAi cint 120 f1), (h2, kO4 h3 m2_size h4 h5 n2_top), (h3, kAi cint 128 g3)] t.heap ∧ va_K (dC, dI) vwCl [] t ∧ va_D (va_A [(h0, kO10 h1 n0_size n0_place h2), (h1, kAi cint 120 f1), (h2, kO4 h3 n2_size h4 h5 n2_top), (h3, kAi cint 128 f3)] sz) [(h0, kO10 h1 n0_size m0_place h2), (h1, kAi cint 120 f1), (h2, kO4 h3 m2_size h4 h5 n2_top), (h3, kAi cint 128 g3)]) (va_A [(h0, kO10 h1 n0_size n0_place h2), (h1, kAi cint 120 f1), (h2, kO4 h3 n2_size h4 h5 n2_top), (h3, kAi cint 128 f3)] sz)) 0 0 (va_A [(h0, kO10 h1 n0_size n0_place h2), (h1, kAi cint 120 f1), (h2, kO4 h3 n2_size h4 h5 n2_top), (h3, kAi cint 128 f3)] sz) := by
  refine Met.ofW (cc := cX10_readChain) (maxL := 5) (ret := (some .boolean)) (by decide) rfl ?_
  intro p e s m args below meth c s₁ B hml hv
  obtain ⟨rfl, hsz, hP, hK, hD0, hZNAMES, hTNAMES⟩ := hv
  have hx := B.exec
  have hb := B.bytes
  have hr := B.returns
  have hts := atoms_spec (ws := wsX10_readChain) B.pre
  have hown : s.vm.findClass RX10 = some m.cls := findClass_of_methodNamed B.named
  have hlocks := B.notSynchronized
  subst hsz
  have hD := hD0.self (sz := s.heap.size)
  generalize hAe : va_A [(h0, kO10 h1 n0_size n0_place h2), (h1, kAi cint 120 f1), (h2, kO4 h3 n2_size h4 h5 n2_top), (h3, kAi cint 128 f3)] s.heap.size = A at hD hZNAMES hTNAMES ⊢
  have hA : ∀ q : Nat, s.heap.size ≤ q → A q := fun q h => by rw [← hAe]; exact Or.inr h
  have hS : va_S A s.heap s.heap [] := va_S.rf
  replace hP : va_P (dC, dI) vwCl [(h0, kO10 h1 n0_size n0_place h2), (h1, kAi cint 120 f1), (h2, kO4 h3 n2_size h4 h5 n2_top), (h3, kAi cint 128 f3)] s.heap := hP
  have hl := lv_entry ([.ref h0, .int 5, .int p1]) (n := 5) (Nat.le_of_ble_eq_true rfl)
  rw [lg_entry_eq]
  generalize (lg_sl ([.ref h0, .int 5, .int p1]) ++ List.replicate (5 - (lg_sl ([.ref h0, .int 5, .int p1])).length) Slot.unset).toArray = ls at hl ⊢
  replace hl : lv_has ls 5 [(0, .ref h0), (1, .int 5), (2, .int p1)] := hl
  refine lv_iload_n hx hb dX10_readChain_0 rfl (lv_at hl 1 rfl) ?_
  refine lv_iconst (v := 5) hx hb dX10_readChain_1 kk_ic_5 ?_
  refine lv_icmp_lt (tgt := 11) hx hb dX10_readChain_2 (by decide) (fun c => absurd c (by decide)) (fun _ => ?_)
  refine lv_aload_n hx hb dX10_readChain_5 rfl (lv_at hl 0 rfl) ?_
  refine lv_iload_n hx hb dX10_readChain_6 rfl (lv_at hl 2 rfl) ?_
  obtain ⟨hPc, hDc, hFc⟩ := kk_cutout (wc := [(h0, kO10 h1 n0_size n0_place h2), (h1, kAi cint 120 f1), (h2, kO4 h3 n2_size h4 h5 n2_top), (h3, kAi cint 128 f3)]) hP hD hS hA [0, 1, 2, 3] (by decide) rfl
  have hKc := kk_Ks (tq := [(cint, .int)]) hK [0] rfl
  refine va_calli (va_runV (As := [.int p1]) (rest := []) ⟨hx, hb, hml, hown, hts⟩ (ih0 dC dI h0 h1 h2 h3 h4 h5 cint s.heap.size p1 tp1 n0_size n0_place f1 n2_size n2_top f3 tn0_size tn0_place bf1 tn2_size tn2_top (by show (6 ≤ (p1 : Int32).toInt + rk); first | with_reducible assumption | (omega)) (by show (0 ≤ (n0_place : Int32).toInt ∧ (n0_place : Int32).toInt ≤ (n0_size : Int32).toInt); first | with_reducible assumption | (refine ⟨?_, ?_⟩ <;> (first | with_reducible assumption | (omega)))) aNAMES) (cwV 1 hts gX10_readChain_X10_readOperand rfl rfl rfl ⟨rfl, kh_X10_readOperand⟩ ⟨Nat.add_le_add_right hF0 1, kk_rmL hL0 (Nat.le_of_ble_eq_true rfl)⟩) ⟨fun a U g mk q => by obtain ⟨q0, q1, qP, qK, qD, qx0, qx1⟩ := q; exact ⟨q0, q1, qP, va_K.moved (u := U) (U := U.calling g mk a) (Vm.Alike.refl U.vm) qK, qD, va_Z.moved (u := U) (U := U.calling g mk a) (Vm.Alike.refl U.vm) qx0, va_T.moved (u := U) (U := U.calling g mk a) (Vm.Alike.refl U.vm) qx1⟩, va_recv hKc hPc (ci := 10) (q0 := 0) rfl rfl, fun U hU hW => ⟨rfl, by rw [hU], by rw [hU]; exact hPc, va_K.moved hW.alike hKc, hDc.weaken (fun _ _ _ _ => trivial), by rw [hU]; exact ((hZNAMES.kept (fun a h1 h2 => hS.2.1 a h1 h2)).narrow hFc).moved hW.alike, by rw [hU]; exact ((hTNAMES.kept (fun a h1 h2 => hS.2.1 a h1 h2)).narrow hFc).moved hW.alike⟩⟩ rfl rfl hl.1 rfl (lv_room (Nat.le_of_ble_eq_true rfl)) dX10_readChain_7 ⟨Nat.le_of_ble_eq_true rfl, Nat.le_of_ble_eq_true rfl⟩) hS (fun q _ h => hFc q h) hFc (fun r_1 ug_1 t H1 locs ht hvm hw hB hz1 hk1 hS => ?_)
  obtain ⟨hu_1, hw⟩ := hw
  subst ug_1
  obtain ⟨y_2, y_3, f_4, by_2, by_3, hcase_4, hP1, hK1, hD1⟩ := hB
  rw [ht] at hP1
  have hK1 := va_K.moved hvm.symm hK1
  obtain ⟨hP, hD⟩ := va_join (wr := []) (w1 := [(h0, kO10 h1 n0_size y_2 h2), (h1, kAi cint 120 f1), (h2, kO4 h3 y_3 h4 h5 n2_top), (h3, kAi cint 128 f_4)]) hP hD [0, 1, 2, 3] [] rfl rfl (by decide) (by decide) hk1 hFc hP1 hD1
  generalize H1 = H at hP hS ⊢
  replace hP : va_P (dC, dI) vwCl [(h0, kO10 h1 n0_size y_2 h2), (h1, kAi cint 120 f1), (h2, kO4 h3 y_3 h4 h5 n2_top), (h3, kAi cint 128 f_4)] H := hP
  replace hD : va_D A [(h0, kO10 h1 n0_size y_2 h2), (h1, kAi cint 120 f1), (h2, kO4 h3 y_3 h4 h5 n2_top), (h3, kAi cint 128 f_4)] := hD
  rcases hcase_4 with ⟨w_1_0_0, rfl⟩ | ⟨w_1_1_0, rfl⟩
  · skip
    replace w_1_0_0 : (ko_R (ko_at f1 n0_size.toInt) (5 : Int) p1.toInt n0_place.toInt = -1 - y_2.toInt ∧ 0 ≤ y_2.toInt ∧ y_2.toInt ≤ n0_size.toInt) := w_1_0_0
    replace hP : va_P (dC, dI) vwCl [(h0, kO10 h1 n0_size y_2 h2), (h1, kAi cint 120 f1), (h2, kO4 h3 y_3 h4 h5 n2_top), (h3, kAi cint 128 f_4)] H := hP
    replace hD : va_D A [(h0, kO10 h1 n0_size y_2 h2), (h1, kAi cint 120 f1), (h2, kO4 h3 y_3 h4 h5 n2_top), (h3, kAi cint 128 f_4)] := hD
    refine W.eq (g2 := F0 m 10 ls [.int 0]) rfl ?_
    obtain ⟨hP9, hD9⟩ := kk_leafout (wc := [(h0, kO10 h1 n0_size y_2 h2), (h1, kAi cint 120 f1), (h2, kO4 h3 y_3 h4 h5 n2_top), (h3, kAi cint 128 f_4)]) hP hD [0, 1, 2, 3] (by decide) rfl
    have hK9 := kk_Ks (tq := []) hK [] rfl
    exact W.zret (v := 0) hx hb hr rfl (fun t ht hW => ⟨⟨0, 0, rfl, ⟨rfl, trivial⟩, y_2, y_3, f_4, (by show 0 ≤ (y_2 : Int32).toInt ∧ (y_2 : Int32).toInt ≤ 120; first | with_reducible assumption | (constructor <;> (omega))), (by show 0 ≤ (y_3 : Int32).toInt ∧ (y_3 : Int32).toInt ≤ 128; first | with_reducible assumption | (constructor <;> (omega))), (Or.inl ⟨(by show (ko_R (ko_at f1 (n0_size : Int32).toInt) (5 : Int) (p1 : Int32).toInt (n0_place : Int32).toInt = -1 - (y_2 : Int32).toInt ∧ 0 ≤ (y_2 : Int32).toInt ∧ (y_2 : Int32).toInt ≤ (n0_size : Int32).toInt); first | with_reducible assumption | (refine ⟨?_, ?_, ?_⟩ <;> (first | with_reducible assumption | (omega)))), rfl⟩), by rw [ht]; exact hP9, va_K.moved hW.alike hK9, hD9⟩, hS.F ht⟩) hS.2.2 dX10_readChain_10
  · skip
    replace w_1_1_0 : (ko_R (ko_at f1 n0_size.toInt) (5 : Int) p1.toInt n0_place.toInt = y_2.toInt ∧ 0 ≤ y_2.toInt ∧ y_2.toInt ≤ n0_size.toInt) := w_1_1_0
    replace hP : va_P (dC, dI) vwCl [(h0, kO10 h1 n0_size y_2 h2), (h1, kAi cint 120 f1), (h2, kO4 h3 y_3 h4 h5 n2_top), (h3, kAi cint 128 f_4)] H := hP
    replace hD : va_D A [(h0, kO10 h1 n0_size y_2 h2), (h1, kAi cint 120 f1), (h2, kO4 h3 y_3 h4 h5 n2_top), (h3, kAi cint 128 f_4)] := hD
    refine W.eq (g2 := F0 m 10 ls [.int 1]) rfl ?_
    obtain ⟨hP9, hD9⟩ := kk_leafout (wc := [(h0, kO10 h1 n0_size y_2 h2), (h1, kAi cint 120 f1), (h2, kO4 h3 y_3 h4 h5 n2_top), (h3, kAi cint 128 f_4)]) hP hD [0, 1, 2, 3] (by decide) rfl
    have hK9 := kk_Ks (tq := []) hK [] rfl
    exact W.zret (v := 1) hx hb hr rfl (fun t ht hW => ⟨⟨1, 1, rfl, ⟨rfl, trivial⟩, y_2, y_3, f_4, (by show 0 ≤ (y_2 : Int32).toInt ∧ (y_2 : Int32).toInt ≤ 120; first | with_reducible assumption | (constructor <;> (omega))), (by show 0 ≤ (y_3 : Int32).toInt ∧ (y_3 : Int32).toInt ≤ 128; first | with_reducible assumption | (constructor <;> (omega))), (Or.inr ⟨(by show (ko_R (ko_at f1 (n0_size : Int32).toInt) (5 : Int) (p1 : Int32).toInt (n0_place : Int32).toInt = (y_2 : Int32).toInt ∧ 0 ≤ (y_2 : Int32).toInt ∧ (y_2 : Int32).toInt ≤ (n0_size : Int32).toInt); first | with_reducible assumption | (refine ⟨?_, ?_, ?_⟩ <;> (first | with_reducible assumption | (omega)))), rfl⟩), by rw [ht]; exact hP9, va_K.moved hW.alike hK9, hD9⟩, hS.F ht⟩) hS.2.2 dX10_readChain_10
set_option maxHeartbeats 4000000 in
set_option maxRecDepth 100000 in
theorem s_X10_readChain_4v (l : Launch) (F L : Nat) (hF : 10 ≤ F) (hL : 200 ≤ L) (rk : Int) (Fq0 Lq0 : Nat) (hF0 : Fq0 ≤ F) (hL0 : Lq0 ≤ L) (ih0 : ka_X10_readChain_5v l Fq0 Lq0 rk) (dC : Nat → ClassId) (dI : Nat → Nat → Nat) (h0 : Nat) (h1 : Nat) (h2 : Nat) (h3 : Nat) (h4 : Nat) (h5 : Nat) (cint : ClassId) (sz : Nat) (p1 : Int32) (tp1 : 0 ≤ p1.toInt ∧ p1.toInt ≤ 6) (n0_size : Int32) (n0_place : Int32) (f1 : Nat → Int32) (n2_size : Int32) (n2_top : Int32) (f3 : Nat → Int32) (tn0_size : 0 ≤ n0_size.toInt ∧ n0_size.toInt ≤ 120) (tn0_place : 0 ≤ n0_place.toInt ∧ n0_place.toInt ≤ 120) (bf1 : ∀ j, j < 120 → 0 ≤ (f1 j).toInt ∧ (f1 j).toInt ≤ 255) (tn2_size : kk_bx (0 ≤ n2_size.toInt ∧ n2_size.toInt ≤ 128)) (tn2_top : kk_bx (0 ≤ n2_top.toInt ∧ n2_top.toInt ≤ 64)) (pr0 : (6 ≤ p1.toInt + rk)) (pr1 : (0 ≤ n0_place.toInt ∧ n0_place.toInt ≤ n0_size.toInt)) (aNAMES : Nat) : Met l yX10_readChain wsX10_readChain ({ frames := F + 1, cells := 0, slots := 0, locals := L + 24 }) (va_Pc [.ref h0, .int 4, .int p1] (fun U => U.heap.size = sz ∧ va_P (dC, dI) vwCl [(h0, kO10 h1 n0_size n0_place h2), (h1, kAi cint 120 f1), (h2, kO4 h3 n2_size h4 h5 n2_top), (h3, kAi cint 128 f3)] U.heap ∧ va_K (dC, dI) vwCl [(cint, .int)] U ∧ va_D (fun _ => True) [(h0, kO10 h1 n0_size n0_place h2), (h1, kAi cint 120 f1), (h2, kO4 h3 n2_size h4 h5 n2_top), (h3, kAi cint 128 f3)] ∧ va_Z "KinkStreet$Law" "NAMES" "[C" (.ref aNAMES) (va_A [(h0, kO10 h1 n0_size n0_place h2), (h1, kAi cint 120 f1), (h2, kO4 h3 n2_size h4 h5 n2_top), (h3, kAi cint 128 f3)] sz) U U.heap ∧ va_T .char aNAMES 8 tb_NAMES (va_A [(h0, kO10 h1 n0_size n0_place h2), (h1, kAi cint 120 f1), (h2, kO4 h3 n2_size h4 h5 n2_top), (h3, kAi cint 128 f3)] sz) U U.heap)) (va_Qi (fun (r : Int32) (u_ : Int32) => u_ = r ∧ True) (fun (u_ : Int32) t => ∃ (m0_place : Int32) (m2_size : Int32) (g3 : Nat → Int32), (0 ≤ m0_place.toInt ∧ m0_place.toInt ≤ 120) ∧ (0 ≤ m2_size.toInt ∧ m2_size.toInt ≤ 128) ∧ (((ko_R (ko_at f1 n0_size.toInt) (4 : Int) p1.toInt n0_place.toInt = -1 - m0_place.toInt ∧ 0 ≤ m0_place.toInt ∧ m0_place.toInt ≤ n0_size.toInt) ∧ u_ = (0 : Int32)) ∨ ((ko_R (ko_at f1 n0_size.toInt) (4 : Int) p1.toInt n0_place.toInt = m0_place.toInt ∧ 0 ≤ m0_place.toInt ∧ m0_place.toInt ≤ n0_size.toInt) ∧ u_ = (1 : Int32))) ∧ va_P (dC, dI) vwCl [(h0, kO10 h1 n0_size m0_place h2), (h1, kAi cint 120 f1), (h2, kO4 h3 m2_size h4 h5 n2_top), (h3, kAi cint 128 g3)] t.heap ∧ va_K (dC, dI) vwCl [] t ∧ va_D (va_A [(h0, kO10 h1 n0_size n0_place h2), (h1, kAi cint 120 f1), (h2, kO4 h3 n2_size h4 h5 n2_top), (h3, kAi cint 128 f3)] sz) [(h0, kO10 h1 n0_size m0_place h2), (h1, kAi cint 120 f1), (h2, kO4 h3 m2_size h4 h5 n2_top), (h3, kAi cint 128 g3)]) (va_A [(h0, kO10 h1 n0_size n0_place h2), (h1, kAi cint 120 f1), (h2, kO4 h3 n2_size h4 h5 n2_top), (h3, kAi cint 128 f3)] sz)) 0 0 (va_A [(h0, kO10 h1 n0_size n0_place h2), (h1, kAi cint 120 f1), (h2, kO4 h3 n2_size h4 h5 n2_top), (h3, kAi cint 128 f3)] sz) := by
  refine Met.ofW (cc := cX10_readChain) (maxL := 5) (ret := (some .boolean)) (by decide) rfl ?_
  intro p e s m args below meth c s₁ B hml hv
  obtain ⟨rfl, hsz, hP, hK, hD0, hZNAMES, hTNAMES⟩ := hv
  have hx := B.exec
  have hb := B.bytes
  have hr := B.returns
  have hts := atoms_spec (ws := wsX10_readChain) B.pre
  have hown : s.vm.findClass RX10 = some m.cls := findClass_of_methodNamed B.named
  have hlocks := B.notSynchronized
  subst hsz
  have hD := hD0.self (sz := s.heap.size)
  generalize hAe : va_A [(h0, kO10 h1 n0_size n0_place h2), (h1, kAi cint 120 f1), (h2, kO4 h3 n2_size h4 h5 n2_top), (h3, kAi cint 128 f3)] s.heap.size = A at hD hZNAMES hTNAMES ⊢
  have hA : ∀ q : Nat, s.heap.size ≤ q → A q := fun q h => by rw [← hAe]; exact Or.inr h
  have hS : va_S A s.heap s.heap [] := va_S.rf
  replace hP : va_P (dC, dI) vwCl [(h0, kO10 h1 n0_size n0_place h2), (h1, kAi cint 120 f1), (h2, kO4 h3 n2_size h4 h5 n2_top), (h3, kAi cint 128 f3)] s.heap := hP
  have hl := lv_entry ([.ref h0, .int 4, .int p1]) (n := 5) (Nat.le_of_ble_eq_true rfl)
  rw [lg_entry_eq]
  generalize (lg_sl ([.ref h0, .int 4, .int p1]) ++ List.replicate (5 - (lg_sl ([.ref h0, .int 4, .int p1])).length) Slot.unset).toArray = ls at hl ⊢
  replace hl : lv_has ls 5 [(0, .ref h0), (1, .int 4), (2, .int p1)] := hl
  refine lv_iload_n hx hb dX10_readChain_0 rfl (lv_at hl 1 rfl) ?_
  refine lv_iconst (v := 5) hx hb dX10_readChain_1 kk_ic_5 ?_
  refine lv_icmp_lt (tgt := 11) hx hb dX10_readChain_2 (by decide) (fun _ => ?_) (fun c => absurd c (by decide))
  refine lv_aload_n hx hb dX10_readChain_11 rfl (lv_at hl 0 rfl) ?_
  refine lv_iload_n hx hb dX10_readChain_12 rfl (lv_at hl 1 rfl) ?_
  refine lv_iconst (v := 1) hx hb dX10_readChain_13 kk_ic_1 ?_
  refine lv_iadd hx hb dX10_readChain_14 ?_
  refine lv_topi (fun y_1 e_1 => ?_)
  obtain rfl : y_1 = 5 := e_1.trans (by decide)
  refine lv_iload_n hx hb dX10_readChain_15 rfl (lv_at hl 2 rfl) ?_
  obtain ⟨hPc, hDc, hFc⟩ := kk_cutout (wc := [(h0, kO10 h1 n0_size n0_place h2), (h1, kAi cint 120 f1), (h2, kO4 h3 n2_size h4 h5 n2_top), (h3, kAi cint 128 f3)]) hP hD hS hA [0, 1, 2, 3] (by decide) rfl
  have hKc := kk_Ks (tq := [(cint, .int)]) hK [0] rfl
  refine va_calli (va_runV (As := [.int 5, .int p1]) (rest := []) ⟨hx, hb, hml, hown, hts⟩ (ih0 dC dI h0 h1 h2 h3 h4 h5 cint s.heap.size p1 tp1 n0_size n0_place f1 n2_size n2_top f3 tn0_size tn0_place bf1 tn2_size tn2_top (by show (6 ≤ (p1 : Int32).toInt + rk); first | with_reducible assumption | (omega)) (by show (0 ≤ (n0_place : Int32).toInt ∧ (n0_place : Int32).toInt ≤ (n0_size : Int32).toInt); first | with_reducible assumption | (refine ⟨?_, ?_⟩ <;> (first | with_reducible assumption | (omega)))) aNAMES) (cwV 2 hts gX10_readChain_X10_readChain rfl rfl rfl ⟨rfl, kh_X10_readChain⟩ ⟨Nat.add_le_add_right hF0 1, kk_rmL hL0 (Nat.le_of_ble_eq_true rfl)⟩) ⟨fun a U g mk q => by obtain ⟨q0, q1, qP, qK, qD, qx0, qx1⟩ := q; exact ⟨q0, q1, qP, va_K.moved (u := U) (U := U.calling g mk a) (Vm.Alike.refl U.vm) qK, qD, va_Z.moved (u := U) (U := U.calling g mk a) (Vm.Alike.refl U.vm) qx0, va_T.moved (u := U) (U := U.calling g mk a) (Vm.Alike.refl U.vm) qx1⟩, va_recv hKc hPc (ci := 10) (q0 := 0) rfl rfl, fun U hU hW => ⟨rfl, by rw [hU], by rw [hU]; exact hPc, va_K.moved hW.alike hKc, hDc.weaken (fun _ _ _ _ => trivial), by rw [hU]; exact ((hZNAMES.kept (fun a h1 h2 => hS.2.1 a h1 h2)).narrow hFc).moved hW.alike, by rw [hU]; exact ((hTNAMES.kept (fun a h1 h2 => hS.2.1 a h1 h2)).narrow hFc).moved hW.alike⟩⟩ rfl rfl hl.1 rfl (lv_room (Nat.le_of_ble_eq_true rfl)) dX10_readChain_16 ⟨Nat.le_of_ble_eq_true rfl, Nat.le_of_ble_eq_true rfl⟩) hS (fun q _ h => hFc q h) hFc (fun r_2 ug_2 t H1 locs ht hvm hw hB hz1 hk1 hS => ?_)
  obtain ⟨hu_2, hw⟩ := hw
  subst ug_2
  obtain ⟨y_3, y_4, f_5, by_3, by_4, hcase_5, hP1, hK1, hD1⟩ := hB
  rw [ht] at hP1
  have hK1 := va_K.moved hvm.symm hK1
  obtain ⟨hP, hD⟩ := va_join (wr := []) (w1 := [(h0, kO10 h1 n0_size y_3 h2), (h1, kAi cint 120 f1), (h2, kO4 h3 y_4 h4 h5 n2_top), (h3, kAi cint 128 f_5)]) hP hD [0, 1, 2, 3] [] rfl rfl (by decide) (by decide) hk1 hFc hP1 hD1
  generalize H1 = H at hP hS ⊢
  replace hP : va_P (dC, dI) vwCl [(h0, kO10 h1 n0_size y_3 h2), (h1, kAi cint 120 f1), (h2, kO4 h3 y_4 h4 h5 n2_top), (h3, kAi cint 128 f_5)] H := hP
  replace hD : va_D A [(h0, kO10 h1 n0_size y_3 h2), (h1, kAi cint 120 f1), (h2, kO4 h3 y_4 h4 h5 n2_top), (h3, kAi cint 128 f_5)] := hD
  rcases hcase_5 with ⟨w_2_0_0, rfl⟩ | ⟨w_2_1_0, rfl⟩
  · skip
    replace w_2_0_0 : (ko_R (ko_at f1 n0_size.toInt) (5 : Int) p1.toInt n0_place.toInt = -1 - y_3.toInt ∧ 0 ≤ y_3.toInt ∧ y_3.toInt ≤ n0_size.toInt) := w_2_0_0
    replace hP : va_P (dC, dI) vwCl [(h0, kO10 h1 n0_size y_3 h2), (h1, kAi cint 120 f1), (h2, kO4 h3 y_4 h4 h5 n2_top), (h3, kAi cint 128 f_5)] H := hP
    replace hD : va_D A [(h0, kO10 h1 n0_size y_3 h2), (h1, kAi cint 120 f1), (h2, kO4 h3 y_4 h4 h5 n2_top), (h3, kAi cint 128 f_5)] := hD
    refine W.eq (g2 := F0 m 19 ls [.int 0]) rfl ?_
    refine lv_if_ne (tgt := 24) hx hb dX10_readChain_19 (by decide) (fun c => absurd c (by decide)) (fun _ => ?_)
    have hk_6 : ko_R (ko_at f1 n0_size.toInt) (4 : Int) (p1.toInt : Int) n0_place.toInt = -1 - y_3.toInt := ko_cf (l' := (5 : Int)) (by decide) (by decide) (show ko_R (ko_at f1 n0_size.toInt) (5 : Int) (p1.toInt : Int) n0_place.toInt = -1 - y_3.toInt from (by omega)) (by omega)
    refine lv_iconst (v := 0) hx hb dX10_readChain_22 kk_ic_0 ?_
    obtain ⟨hP9, hD9⟩ := kk_leafout (wc := [(h0, kO10 h1 n0_size y_3 h2), (h1, kAi cint 120 f1), (h2, kO4 h3 y_4 h4 h5 n2_top), (h3, kAi cint 128 f_5)]) hP hD [0, 1, 2, 3] (by decide) rfl
    have hK9 := kk_Ks (tq := []) hK [] rfl
    exact W.zret (v := 0) hx hb hr rfl (fun t ht hW => ⟨⟨0, 0, rfl, ⟨rfl, trivial⟩, y_3, y_4, f_5, (by show 0 ≤ (y_3 : Int32).toInt ∧ (y_3 : Int32).toInt ≤ 120; first | with_reducible assumption | (constructor <;> (omega))), (by show 0 ≤ (y_4 : Int32).toInt ∧ (y_4 : Int32).toInt ≤ 128; first | with_reducible assumption | (constructor <;> (omega))), (Or.inl ⟨(by show (ko_R (ko_at f1 (n0_size : Int32).toInt) (4 : Int) (p1 : Int32).toInt (n0_place : Int32).toInt = -1 - (y_3 : Int32).toInt ∧ 0 ≤ (y_3 : Int32).toInt ∧ (y_3 : Int32).toInt ≤ (n0_size : Int32).toInt); first | with_reducible assumption | (refine ⟨?_, ?_, ?_⟩ <;> (first | with_reducible assumption | (omega)))), rfl⟩), by rw [ht]; exact hP9, va_K.moved hW.alike hK9, hD9⟩, hS.F ht⟩) hS.2.2 dX10_readChain_23
  · skip
    replace w_2_1_0 : (ko_R (ko_at f1 n0_size.toInt) (5 : Int) p1.toInt n0_place.toInt = y_3.toInt ∧ 0 ≤ y_3.toInt ∧ y_3.toInt ≤ n0_size.toInt) := w_2_1_0
    replace hP : va_P (dC, dI) vwCl [(h0, kO10 h1 n0_size y_3 h2), (h1, kAi cint 120 f1), (h2, kO4 h3 y_4 h4 h5 n2_top), (h3, kAi cint 128 f_5)] H := hP
    replace hD : va_D A [(h0, kO10 h1 n0_size y_3 h2), (h1, kAi cint 120 f1), (h2, kO4 h3 y_4 h4 h5 n2_top), (h3, kAi cint 128 f_5)] := hD
    refine W.eq (g2 := F0 m 19 ls [.int 1]) rfl ?_
    refine lv_if_ne (tgt := 24) hx hb dX10_readChain_19 (by decide) (fun _ => ?_) (fun c => absurd c (by decide))
    have hk_7 : ko_L (ko_at f1 n0_size.toInt) (4 : Int) (p1.toInt : Int) (120 - (0 : Int)) y_3.toInt = ko_R (ko_at f1 n0_size.toInt) (4 : Int) (p1.toInt : Int) n0_place.toInt := ko_c0 (l' := (5 : Int)) (by decide) (by decide) (show ko_R (ko_at f1 n0_size.toInt) (5 : Int) (p1.toInt : Int) n0_place.toInt = y_3.toInt from (by omega)) (by omega) (by decide)
    refine lv_iconst (v := 0) hx hb dX10_readChain_24 kk_ic_0 ?_
    refine lv_istore_n hx hb dX10_readChain_25 rfl hl (by decide) (rfl : _ = ([(3, .int 0), (0, .ref h0), (1, .int 4), (2, .int p1)] : List (Nat × Value))) (fun ls hl => ?_)
    refine kk_loop (σ := Int32 × Int32 × Int32 × (Nat → Int32)) (fun x H locs ls => (0 ≤ x.1.toInt ∧ x.1.toInt ≤ 120) ∧ (0 ≤ x.2.1.toInt ∧ x.2.1.toInt ≤ 120) ∧ (0 ≤ x.2.2.1.toInt ∧ x.2.2.1.toInt ≤ 128) ∧ 0 ≤ x.2.1.toInt ∧ x.2.1.toInt ≤ 120 ∧ (ko_L (ko_at f1 n0_size.toInt) (4 : Int) p1.toInt (120 - x.1.toInt) x.2.1.toInt = ko_R (ko_at f1 n0_size.toInt) (4 : Int) p1.toInt n0_place.toInt ∧ 0 ≤ x.2.1.toInt ∧ x.2.1.toInt ≤ n0_size.toInt) ∧ va_P (dC, dI) vwCl [(h0, kO10 h1 n0_size x.2.1 h2), (h1, kAi cint 120 f1), (h2, kO4 h3 x.2.2.1 h4 h5 n2_top), (h3, kAi cint 128 x.2.2.2)] H ∧ va_D A [(h0, kO10 h1 n0_size x.2.1 h2), (h1, kAi cint 120 f1), (h2, kO4 h3 x.2.2.1 h4 h5 n2_top), (h3, kAi cint 128 x.2.2.2)] ∧ va_S A s.heap H locs ∧ lv_has ls 5 [(3, .int x.1), (0, .ref h0), (1, .int 4), (2, .int p1)]) (fun x => ((120 : Int) - x.1.toInt).toNat) ?_ (0, y_3, y_4, f_5) _ _ _ ⟨(by show 0 ≤ (0 : Int32).toInt ∧ (0 : Int32).toInt ≤ 120; first | with_reducible assumption | decide | (constructor <;> (omega))), (by show 0 ≤ (y_3 : Int32).toInt ∧ (y_3 : Int32).toInt ≤ 120; first | with_reducible assumption | (constructor <;> (omega))), (by show 0 ≤ (y_4 : Int32).toInt ∧ (y_4 : Int32).toInt ≤ 128; first | with_reducible assumption | (constructor <;> (omega))), (by show 0 ≤ (y_3 : Int32).toInt; first | with_reducible assumption | (omega)), (by show (y_3 : Int32).toInt ≤ 120; first | with_reducible assumption | (omega)), (by show (ko_L (ko_at f1 (n0_size : Int32).toInt) (4 : Int) (p1 : Int32).toInt (120 - (0 : Int)) (y_3 : Int32).toInt = ko_R (ko_at f1 (n0_size : Int32).toInt) (4 : Int) (p1 : Int32).toInt (n0_place : Int32).toInt ∧ 0 ≤ (y_3 : Int32).toInt ∧ (y_3 : Int32).toInt ≤ (n0_size : Int32).toInt); first | with_reducible assumption | (refine ⟨?_, ?_, ?_⟩ <;> (first | with_reducible assumption | (omega)))), hP, hD, hS, hl⟩
    rintro ⟨i_8_0, i_8_1, i_8_2, f_8_3⟩ H locs ls ⟨t_8_0, t_8_1, t_8_2, z_8_0, z_8_1, z_8_2, hP, hD, hS, hl⟩ ih_8
    replace t_8_0 : (0 ≤ i_8_0.toInt ∧ i_8_0.toInt ≤ 120) := t_8_0
    replace t_8_1 : (0 ≤ i_8_1.toInt ∧ i_8_1.toInt ≤ 120) := t_8_1
    replace t_8_2 : (0 ≤ i_8_2.toInt ∧ i_8_2.toInt ≤ 128) := t_8_2
    replace z_8_0 : 0 ≤ i_8_1.toInt := z_8_0
    replace z_8_1 : i_8_1.toInt ≤ 120 := z_8_1
    replace z_8_2 : (ko_L (ko_at f1 n0_size.toInt) (4 : Int) p1.toInt (120 - i_8_0.toInt) i_8_1.toInt = ko_R (ko_at f1 n0_size.toInt) (4 : Int) p1.toInt n0_place.toInt ∧ 0 ≤ i_8_1.toInt ∧ i_8_1.toInt ≤ n0_size.toInt) := z_8_2
    replace hl : lv_has ls 5 [(3, .int i_8_0), (0, .ref h0), (1, .int 4), (2, .int p1)] := hl
    replace hP : va_P (dC, dI) vwCl [(h0, kO10 h1 n0_size i_8_1 h2), (h1, kAi cint 120 f1), (h2, kO4 h3 i_8_2 h4 h5 n2_top), (h3, kAi cint 128 f_8_3)] H := hP
    replace hD : va_D A [(h0, kO10 h1 n0_size i_8_1 h2), (h1, kAi cint 120 f1), (h2, kO4 h3 i_8_2 h4 h5 n2_top), (h3, kAi cint 128 f_8_3)] := hD
    refine lv_iload_n hx hb dX10_readChain_26 rfl (lv_at hl 0 rfl) ?_
    refine lv_bipush (v := 120) hx hb dX10_readChain_27 kk_bi_120 ?_
    refine lv_icmp_ge (tgt := 94) hx hb dX10_readChain_29 (by decide) (fun c_9 => ?_) (fun c_9 => ?_)
    · have t_9 : 120 ≤ i_8_0.toInt := kk_le c_9
      have hk_10 : ko_L (ko_at f1 n0_size.toInt) (4 : Int) (p1.toInt : Int) (120 - i_8_0.toInt) i_8_1.toInt = i_8_1.toInt := ko_L_no (by first | exact kd_no4 (by with_reducible assumption) (by with_reducible assumption) | exact Or.inl (by omega) | omega)
      refine lv_iconst (v := 1) hx hb dX10_readChain_94 kk_ic_1 ?_
      obtain ⟨hP9, hD9⟩ := kk_leafout (wc := [(h0, kO10 h1 n0_size i_8_1 h2), (h1, kAi cint 120 f1), (h2, kO4 h3 i_8_2 h4 h5 n2_top), (h3, kAi cint 128 f_8_3)]) hP hD [0, 1, 2, 3] (by decide) rfl
      have hK9 := kk_Ks (tq := []) hK [] rfl
      exact W.zret (v := 1) hx hb hr rfl (fun t ht hW => ⟨⟨1, 1, rfl, ⟨rfl, trivial⟩, i_8_1, i_8_2, f_8_3, (by show 0 ≤ (i_8_1 : Int32).toInt ∧ (i_8_1 : Int32).toInt ≤ 120; first | with_reducible assumption | (constructor <;> (omega))), (by show 0 ≤ (i_8_2 : Int32).toInt ∧ (i_8_2 : Int32).toInt ≤ 128; first | with_reducible assumption | (constructor <;> (omega))), (Or.inr ⟨(by show (ko_R (ko_at f1 (n0_size : Int32).toInt) (4 : Int) (p1 : Int32).toInt (n0_place : Int32).toInt = (i_8_1 : Int32).toInt ∧ 0 ≤ (i_8_1 : Int32).toInt ∧ (i_8_1 : Int32).toInt ≤ (n0_size : Int32).toInt); first | with_reducible assumption | (refine ⟨?_, ?_, ?_⟩ <;> (first | with_reducible assumption | (omega)))), rfl⟩), by rw [ht]; exact hP9, va_K.moved hW.alike hK9, hD9⟩, hS.F ht⟩) hS.2.2 dX10_readChain_95
    · have t_9 : i_8_0.toInt < 120 := kk_nle c_9
      refine lv_iload_n hx hb dX10_readChain_32 rfl (lv_at hl 2 rfl) ?_
      refine lv_aload_n hx hb dX10_readChain_33 rfl (lv_at hl 1 rfl) ?_
      obtain ⟨hPc, hDc, hFc⟩ := kk_cutout (wc := [(h0, kO10 h1 n0_size i_8_1 h2), (h1, kAi cint 120 f1)]) hP hD hS hA [0, 1] (by decide) rfl
      have hKc := kk_Ks (tq := [(cint, .int)]) hK [0] rfl
      refine va_calli (va_runV (As := []) (rest := [.int 4]) ⟨hx, hb, hml, hown, hts⟩ (g_X10_next_1 l dC dI h0 h1 h2 cint H.size n0_size i_8_1 f1 tn0_size (by show 0 ≤ (i_8_1 : Int32).toInt ∧ (i_8_1 : Int32).toInt ≤ 120; first | with_reducible assumption | (constructor <;> (omega))) bf1 (by show (0 ≤ (i_8_1 : Int32).toInt ∧ (i_8_1 : Int32).toInt ≤ (n0_size : Int32).toInt); first | with_reducible assumption | (refine ⟨?_, ?_⟩ <;> (first | with_reducible assumption | (omega))))) (cwV 0 hts gX10_readChain_X10_next rfl rfl rfl ⟨rfl, kh_X10_next⟩ ⟨kk_rmF hF (Nat.le_of_ble_eq_true rfl), kk_rmM hL (Nat.le_of_ble_eq_true rfl)⟩) ⟨fun a U g mk q => by obtain ⟨q0, q1, qP, qK, qD⟩ := q; exact ⟨q0, q1, qP, va_K.moved (u := U) (U := U.calling g mk a) (Vm.Alike.refl U.vm) qK, qD⟩, va_recv hKc hPc (ci := 10) (q0 := 0) rfl rfl, fun U hU hW => ⟨rfl, by rw [hU], by rw [hU]; exact hPc, va_K.moved hW.alike hKc, hDc.weaken (fun _ _ _ _ => trivial)⟩⟩ rfl rfl hl.1 rfl (lv_room (Nat.le_of_ble_eq_true rfl)) dX10_readChain_34 ⟨Nat.le_of_ble_eq_true rfl, Nat.le_of_ble_eq_true rfl⟩) hS (fun q _ h => hFc q h) hFc (fun r_11 u t H1 locs ht hvm hw hB hz1 hk1 hS => ?_)
      obtain ⟨hP1, hK1, hD1⟩ := hB
      rw [ht] at hP1
      have hK1 := va_K.moved hvm.symm hK1
      obtain ⟨hP, hD⟩ := va_join (wr := [(h2, kO4 h3 i_8_2 h4 h5 n2_top), (h3, kAi cint 128 f_8_3)]) (w1 := [(h0, kO10 h1 n0_size i_8_1 h2), (h1, kAi cint 120 f1)]) hP hD [0, 1] [2, 3] rfl rfl (by decide) (by decide) hk1 hFc hP1 hD1
      generalize H1 = H at hP hS ⊢
      replace hP : va_P (dC, dI) vwCl [(h2, kO4 h3 i_8_2 h4 h5 n2_top), (h3, kAi cint 128 f_8_3), (h0, kO10 h1 n0_size i_8_1 h2), (h1, kAi cint 120 f1)] H := hP
      replace hD : va_D A [(h2, kO4 h3 i_8_2 h4 h5 n2_top), (h3, kAi cint 128 f_8_3), (h0, kO10 h1 n0_size i_8_1 h2), (h1, kAi cint 120 f1)] := hD
      rcases hw with ⟨t_11_0, t_11_any⟩
      · skip
        replace t_11_0 : (((i_8_1.toInt < n0_size.toInt) → r_11.toInt = ko_at f1 n0_size.toInt i_8_1.toInt ∧ 0 ≤ r_11.toInt) ∧ (n0_size.toInt ≤ i_8_1.toInt → r_11.toInt = -1 ∧ ko_at f1 n0_size.toInt i_8_1.toInt = 0)) := t_11_0
        obtain ⟨hPc, hDc, hFc⟩ := kk_cutout (wc := []) hP hD hS hA [] (by decide) rfl
        have hKc := kk_Ks (tq := []) hK [] rfl
        refine va_calli (va_runS (As := [.int 4, .int r_11]) (rest := []) ⟨hx, hb, hml, hown, hts⟩ (g_X10_joins_5 l dC dI H.size r_11) (va_cwS 2 hts gX10_readChain_X10_joins rfl rfl rfl kh_X10_joins ⟨kk_rmF hF (Nat.le_of_ble_eq_true rfl), kk_rmM hL (Nat.le_of_ble_eq_true rfl)⟩) ⟨fun a U g mk q => by obtain ⟨q0, q1, qP, qK, qD⟩ := q; exact ⟨q0, q1, qP, va_K.moved (u := U) (U := U.calling g mk a) (Vm.Alike.refl U.vm) qK, qD⟩, fun U hU hW => ⟨rfl, by rw [hU], by rw [hU]; exact hPc, va_K.moved hW.alike hKc, hDc.weaken (fun _ _ _ _ => trivial)⟩⟩ rfl rfl hl.1 rfl (lv_room (Nat.le_of_ble_eq_true rfl)) dX10_readChain_37 ⟨Nat.le_of_ble_eq_true rfl, Nat.le_of_ble_eq_true rfl⟩) hS (fun q _ h => hFc q h) hFc (fun r_12 u t H1 locs ht hvm hw hB hz1 hk1 hS => ?_)
        obtain ⟨hP1, hK1, hD1⟩ := hB
        rw [ht] at hP1
        have hK1 := va_K.moved hvm.symm hK1
        obtain ⟨hP, hD⟩ := va_join (wr := [(h2, kO4 h3 i_8_2 h4 h5 n2_top), (h3, kAi cint 128 f_8_3), (h0, kO10 h1 n0_size i_8_1 h2), (h1, kAi cint 120 f1)]) (w1 := []) hP hD [] [0, 1, 2, 3] rfl rfl (by decide) (by decide) hk1 hFc hP1 hD1
        generalize H1 = H at hP hS ⊢
        replace hP : va_P (dC, dI) vwCl [(h2, kO4 h3 i_8_2 h4 h5 n2_top), (h3, kAi cint 128 f_8_3), (h0, kO10 h1 n0_size i_8_1 h2), (h1, kAi cint 120 f1)] H := hP
        replace hD : va_D A [(h2, kO4 h3 i_8_2 h4 h5 n2_top), (h3, kAi cint 128 f_8_3), (h0, kO10 h1 n0_size i_8_1 h2), (h1, kAi cint 120 f1)] := hD
        rcases hw with ⟨t_12_0, t_12_1, t_12_2, t_12_3, rfl⟩ | ⟨t_12_0, rfl⟩
        · skip
          replace t_12_0 : (r_11.toInt : Int) ≠ 42 := t_12_0
          replace t_12_1 : (r_11.toInt : Int) ≠ 47 := t_12_1
          replace t_12_2 : (r_11.toInt : Int) ≠ 37 := t_12_2
          replace t_12_3 : (r_11.toInt ≠ 42 ∧ r_11.toInt ≠ 47 ∧ r_11.toInt ≠ 37) := t_12_3
          refine lv_if_eq (tgt := 94) hx hb dX10_readChain_40 (by decide) (fun _ => ?_) (fun c => absurd c (by decide))
          have hk_13 : ko_L (ko_at f1 n0_size.toInt) (4 : Int) (p1.toInt : Int) (120 - i_8_0.toInt) i_8_1.toInt = i_8_1.toInt := ko_L_no (by first | exact kd_no4 (by with_reducible assumption) (by with_reducible assumption) | exact Or.inl (by omega) | omega)
          refine lv_iconst (v := 1) hx hb dX10_readChain_94 kk_ic_1 ?_
          obtain ⟨hP9, hD9⟩ := kk_leafout (wc := [(h0, kO10 h1 n0_size i_8_1 h2), (h1, kAi cint 120 f1), (h2, kO4 h3 i_8_2 h4 h5 n2_top), (h3, kAi cint 128 f_8_3)]) hP hD [2, 3, 0, 1] (by decide) rfl
          have hK9 := kk_Ks (tq := []) hK [] rfl
          exact W.zret (v := 1) hx hb hr rfl (fun t ht hW => ⟨⟨1, 1, rfl, ⟨rfl, trivial⟩, i_8_1, i_8_2, f_8_3, (by show 0 ≤ (i_8_1 : Int32).toInt ∧ (i_8_1 : Int32).toInt ≤ 120; first | with_reducible assumption | (constructor <;> (omega))), (by show 0 ≤ (i_8_2 : Int32).toInt ∧ (i_8_2 : Int32).toInt ≤ 128; first | with_reducible assumption | (constructor <;> (omega))), (Or.inr ⟨(by show (ko_R (ko_at f1 (n0_size : Int32).toInt) (4 : Int) (p1 : Int32).toInt (n0_place : Int32).toInt = (i_8_1 : Int32).toInt ∧ 0 ≤ (i_8_1 : Int32).toInt ∧ (i_8_1 : Int32).toInt ≤ (n0_size : Int32).toInt); first | with_reducible assumption | (refine ⟨?_, ?_, ?_⟩ <;> (first | with_reducible assumption | (omega)))), rfl⟩), by rw [ht]; exact hP9, va_K.moved hW.alike hK9, hD9⟩, hS.F ht⟩) hS.2.2 dX10_readChain_95
        · skip
          replace t_12_0 : (r_11.toInt = 42 ∨ r_11.toInt = 47 ∨ r_11.toInt = 37) := t_12_0
          refine lv_if_eq (tgt := 94) hx hb dX10_readChain_40 (by decide) (fun c => absurd c (by decide)) (fun _ => ?_)
          refine lv_aload_n hx hb dX10_readChain_43 rfl (lv_at hl 1 rfl) ?_
          obtain ⟨hPc, hDc, hFc⟩ := kk_cutout (wc := [(h0, kO10 h1 n0_size i_8_1 h2), (h1, kAi cint 120 f1)]) hP hD hS hA [2, 3] (by decide) rfl
          have hKc := kk_Ks (tq := [(cint, .int)]) hK [0] rfl
          refine va_calli (va_runV (As := []) (rest := []) ⟨hx, hb, hml, hown, hts⟩ (g_X10_next_1 l dC dI h0 h1 h2 cint H.size n0_size i_8_1 f1 tn0_size (by show 0 ≤ (i_8_1 : Int32).toInt ∧ (i_8_1 : Int32).toInt ≤ 120; first | with_reducible assumption | (constructor <;> (omega))) bf1 (by show (0 ≤ (i_8_1 : Int32).toInt ∧ (i_8_1 : Int32).toInt ≤ (n0_size : Int32).toInt); first | with_reducible assumption | (refine ⟨?_, ?_⟩ <;> (first | with_reducible assumption | (omega))))) (cwV 0 hts gX10_readChain_X10_next rfl rfl rfl ⟨rfl, kh_X10_next⟩ ⟨kk_rmF hF (Nat.le_of_ble_eq_true rfl), kk_rmM hL (Nat.le_of_ble_eq_true rfl)⟩) ⟨fun a U g mk q => by obtain ⟨q0, q1, qP, qK, qD⟩ := q; exact ⟨q0, q1, qP, va_K.moved (u := U) (U := U.calling g mk a) (Vm.Alike.refl U.vm) qK, qD⟩, va_recv hKc hPc (ci := 10) (q0 := 0) rfl rfl, fun U hU hW => ⟨rfl, by rw [hU], by rw [hU]; exact hPc, va_K.moved hW.alike hKc, hDc.weaken (fun _ _ _ _ => trivial)⟩⟩ rfl rfl hl.1 rfl (lv_room (Nat.le_of_ble_eq_true rfl)) dX10_readChain_44 ⟨Nat.le_of_ble_eq_true rfl, Nat.le_of_ble_eq_true rfl⟩) hS (fun q _ h => hFc q h) hFc (fun r_14 u t H1 locs ht hvm hw hB hz1 hk1 hS => ?_)
          obtain ⟨hP1, hK1, hD1⟩ := hB
          rw [ht] at hP1
          have hK1 := va_K.moved hvm.symm hK1
          obtain ⟨hP, hD⟩ := va_join (wr := [(h2, kO4 h3 i_8_2 h4 h5 n2_top), (h3, kAi cint 128 f_8_3)]) (w1 := [(h0, kO10 h1 n0_size i_8_1 h2), (h1, kAi cint 120 f1)]) hP hD [2, 3] [0, 1] rfl rfl (by decide) (by decide) hk1 hFc hP1 hD1
          generalize H1 = H at hP hS ⊢
          replace hP : va_P (dC, dI) vwCl [(h2, kO4 h3 i_8_2 h4 h5 n2_top), (h3, kAi cint 128 f_8_3), (h0, kO10 h1 n0_size i_8_1 h2), (h1, kAi cint 120 f1)] H := hP
          replace hD : va_D A [(h2, kO4 h3 i_8_2 h4 h5 n2_top), (h3, kAi cint 128 f_8_3), (h0, kO10 h1 n0_size i_8_1 h2), (h1, kAi cint 120 f1)] := hD
          rcases hw with ⟨t_14_0, t_14_any⟩
          · skip
            replace t_14_0 : (((i_8_1.toInt < n0_size.toInt) → r_14.toInt = ko_at f1 n0_size.toInt i_8_1.toInt ∧ 0 ≤ r_14.toInt) ∧ (n0_size.toInt ≤ i_8_1.toInt → r_14.toInt = -1 ∧ ko_at f1 n0_size.toInt i_8_1.toInt = 0)) := t_14_0
            refine lv_istore hx hb dX10_readChain_47 hl (by decide) (rfl : _ = ([(4, .int r_14), (3, .int i_8_0), (0, .ref h0), (1, .int 4), (2, .int p1)] : List (Nat × Value))) (fun ls hl => ?_)
            refine lv_aload_n hx hb dX10_readChain_49 rfl (lv_at hl 2 rfl) ?_
            refine lv_dup hx hb dX10_readChain_50 rfl ?_
            refine va_get (D := (dC, dI)) (ci := 10) (v := .int i_8_1) (C := RX10) (T := TX10) (N := 4) hx hb hts (fun _ h => List.mem_cons_of_mem _ (List.mem_append_left _ (List.mem_append_right _ h))) hown hK hP 2 rfl rfl 2 (by decide) (hts (.fieldLink RX10 17 "KinkStreet$Tape" "place" "I") (List.mem_of_getElem? (i := 1) rfl)) (fun _ h9 => h9) rfl dX10_readChain_51 ?_
            refine lv_iconst (v := 1) hx hb dX10_readChain_54 kk_ic_1 ?_
            refine lv_iadd hx hb dX10_readChain_55 ?_
            refine va_put (D := (dC, dI)) (ci := 10) (v := .int (i_8_1 + 1)) (ty := .int) (C := RX10) (T := TX10) (N := 4) hx hb hts (fun _ h => List.mem_cons_of_mem _ (List.mem_append_left _ (List.mem_append_right _ h))) tyX10 tyX10_ok nmX10 hown hK hP hD hS 2 rfl rfl 2 (by decide) (hts (.fieldLink RX10 17 "KinkStreet$Tape" "place" "I") (List.mem_of_getElem? (i := 1) rfl)) (fun _ h9 => h9) rfl (by decide +kernel) rfl rfl (Nat.le_of_ble_eq_true rfl) dX10_readChain_56 (fun H locs hP hD hS => ?_)
            replace hP : va_P (dC, dI) vwCl [(h2, kO4 h3 i_8_2 h4 h5 n2_top), (h3, kAi cint 128 f_8_3), (h0, kO10 h1 n0_size (i_8_1 + 1) h2), (h1, kAi cint 120 f1)] H := hP
            replace hD : va_D A [(h2, kO4 h3 i_8_2 h4 h5 n2_top), (h3, kAi cint 128 f_8_3), (h0, kO10 h1 n0_size (i_8_1 + 1) h2), (h1, kAi cint 120 f1)] := hD
            refine lv_aload_n hx hb dX10_readChain_59 rfl (lv_at hl 2 rfl) ?_
            refine lv_iload_n hx hb dX10_readChain_60 rfl (lv_at hl 3 rfl) ?_
            refine lv_iconst (v := 1) hx hb dX10_readChain_61 kk_ic_1 ?_
            refine lv_iadd hx hb dX10_readChain_62 ?_
            refine lv_topi (fun y_15 e_15 => ?_)
            obtain rfl : y_15 = 5 := e_15.trans (by decide)
            refine lv_iload_n hx hb dX10_readChain_63 rfl (lv_at hl 4 rfl) ?_
            obtain ⟨hPc, hDc, hFc⟩ := kk_cutout (wc := [(h0, kO10 h1 n0_size (i_8_1 + 1) h2), (h1, kAi cint 120 f1), (h2, kO4 h3 i_8_2 h4 h5 n2_top), (h3, kAi cint 128 f_8_3)]) hP hD hS hA [2, 3, 0, 1] (by decide) rfl
            have hKc := kk_Ks (tq := [(cint, .int)]) hK [0] rfl
            have := kk_add2 (x := i_8_1) (y := 1) (a := i_8_1.toInt) (b := 1) rfl rfl (by omega) (by omega)
            refine va_calli (va_runV (As := [.int 5, .int p1]) (rest := []) ⟨hx, hb, hml, hown, hts⟩ (ih0 dC dI h0 h1 h2 h3 h4 h5 cint H.size p1 tp1 n0_size (i_8_1 + 1) f1 i_8_2 n2_top f_8_3 tn0_size (by show 0 ≤ ((i_8_1 + 1) : Int32).toInt ∧ ((i_8_1 + 1) : Int32).toInt ≤ 120; first | with_reducible assumption | (constructor <;> (omega))) bf1 (by show 0 ≤ (i_8_2 : Int32).toInt ∧ (i_8_2 : Int32).toInt ≤ 128; first | with_reducible assumption | (constructor <;> (omega))) tn2_top (by show (6 ≤ (p1 : Int32).toInt + rk); first | with_reducible assumption | (omega)) (by show (0 ≤ ((i_8_1 + 1) : Int32).toInt ∧ ((i_8_1 + 1) : Int32).toInt ≤ (n0_size : Int32).toInt); first | with_reducible assumption | (refine ⟨?_, ?_⟩ <;> (first | with_reducible assumption | (omega)))) aNAMES) (cwV 2 hts gX10_readChain_X10_readChain rfl rfl rfl ⟨rfl, kh_X10_readChain⟩ ⟨Nat.add_le_add_right hF0 1, kk_rmL hL0 (Nat.le_of_ble_eq_true rfl)⟩) ⟨fun a U g mk q => by obtain ⟨q0, q1, qP, qK, qD, qx0, qx1⟩ := q; exact ⟨q0, q1, qP, va_K.moved (u := U) (U := U.calling g mk a) (Vm.Alike.refl U.vm) qK, qD, va_Z.moved (u := U) (U := U.calling g mk a) (Vm.Alike.refl U.vm) qx0, va_T.moved (u := U) (U := U.calling g mk a) (Vm.Alike.refl U.vm) qx1⟩, va_recv hKc hPc (ci := 10) (q0 := 0) rfl rfl, fun U hU hW => ⟨rfl, by rw [hU], by rw [hU]; exact hPc, va_K.moved hW.alike hKc, hDc.weaken (fun _ _ _ _ => trivial), by rw [hU]; exact ((hZNAMES.kept (fun a h1 h2 => hS.2.1 a h1 h2)).narrow hFc).moved hW.alike, by rw [hU]; exact ((hTNAMES.kept (fun a h1 h2 => hS.2.1 a h1 h2)).narrow hFc).moved hW.alike⟩⟩ rfl rfl hl.1 rfl (lv_room (Nat.le_of_ble_eq_true rfl)) dX10_readChain_64 ⟨Nat.le_of_ble_eq_true rfl, Nat.le_of_ble_eq_true rfl⟩) hS (fun q _ h => hFc q h) hFc (fun r_16 ug_16 t H1 locs ht hvm hw hB hz1 hk1 hS => ?_)
            obtain ⟨hu_16, hw⟩ := hw
            subst ug_16
            obtain ⟨y_17, y_18, f_19, by_17, by_18, hcase_19, hP1, hK1, hD1⟩ := hB
            rw [ht] at hP1
            have hK1 := va_K.moved hvm.symm hK1
            obtain ⟨hP, hD⟩ := va_join (wr := []) (w1 := [(h0, kO10 h1 n0_size y_17 h2), (h1, kAi cint 120 f1), (h2, kO4 h3 y_18 h4 h5 n2_top), (h3, kAi cint 128 f_19)]) hP hD [2, 3, 0, 1] [] rfl rfl (by decide) (by decide) hk1 hFc hP1 hD1
            generalize H1 = H at hP hS ⊢
            replace hP : va_P (dC, dI) vwCl [(h0, kO10 h1 n0_size y_17 h2), (h1, kAi cint 120 f1), (h2, kO4 h3 y_18 h4 h5 n2_top), (h3, kAi cint 128 f_19)] H := hP
            replace hD : va_D A [(h0, kO10 h1 n0_size y_17 h2), (h1, kAi cint 120 f1), (h2, kO4 h3 y_18 h4 h5 n2_top), (h3, kAi cint 128 f_19)] := hD
            rcases hcase_19 with ⟨w_16_0_0, rfl⟩ | ⟨w_16_1_0, rfl⟩
            · skip
              replace w_16_0_0 : (ko_R (ko_at f1 n0_size.toInt) (5 : Int) p1.toInt (i_8_1 + 1).toInt = -1 - y_17.toInt ∧ 0 ≤ y_17.toInt ∧ y_17.toInt ≤ n0_size.toInt) := w_16_0_0
              replace hP : va_P (dC, dI) vwCl [(h0, kO10 h1 n0_size y_17 h2), (h1, kAi cint 120 f1), (h2, kO4 h3 y_18 h4 h5 n2_top), (h3, kAi cint 128 f_19)] H := hP
              replace hD : va_D A [(h0, kO10 h1 n0_size y_17 h2), (h1, kAi cint 120 f1), (h2, kO4 h3 y_18 h4 h5 n2_top), (h3, kAi cint 128 f_19)] := hD
              refine W.eq (g2 := F0 m 67 ls [.int 0]) rfl ?_
              refine lv_if_ne (tgt := 72) hx hb dX10_readChain_67 (by decide) (fun c => absurd c (by decide)) (fun _ => ?_)
              have hk_20 : ko_L (ko_at f1 n0_size.toInt) (4 : Int) (p1.toInt : Int) (120 - i_8_0.toInt) i_8_1.toInt = -1 - y_17.toInt := ko_L_f (l' := (5 : Int)) (q1 := (i_8_1 + 1).toInt) (by omega) (by first | exact kd_ys4 (by with_reducible assumption) (by with_reducible assumption) | omega) (by decide) (by omega) (show ko_R (ko_at f1 n0_size.toInt) (5 : Int) (p1.toInt : Int) (i_8_1 + 1).toInt = -1 - y_17.toInt from (by omega)) (by omega)
              refine lv_iconst (v := 0) hx hb dX10_readChain_70 kk_ic_0 ?_
              obtain ⟨hP9, hD9⟩ := kk_leafout (wc := [(h0, kO10 h1 n0_size y_17 h2), (h1, kAi cint 120 f1), (h2, kO4 h3 y_18 h4 h5 n2_top), (h3, kAi cint 128 f_19)]) hP hD [0, 1, 2, 3] (by decide) rfl
              have hK9 := kk_Ks (tq := []) hK [] rfl
              exact W.zret (v := 0) hx hb hr rfl (fun t ht hW => ⟨⟨0, 0, rfl, ⟨rfl, trivial⟩, y_17, y_18, f_19, (by show 0 ≤ (y_17 : Int32).toInt ∧ (y_17 : Int32).toInt ≤ 120; first | with_reducible assumption | (constructor <;> (omega))), (by show 0 ≤ (y_18 : Int32).toInt ∧ (y_18 : Int32).toInt ≤ 128; first | with_reducible assumption | (constructor <;> (omega))), (Or.inl ⟨(by show (ko_R (ko_at f1 (n0_size : Int32).toInt) (4 : Int) (p1 : Int32).toInt (n0_place : Int32).toInt = -1 - (y_17 : Int32).toInt ∧ 0 ≤ (y_17 : Int32).toInt ∧ (y_17 : Int32).toInt ≤ (n0_size : Int32).toInt); first | with_reducible assumption | (refine ⟨?_, ?_, ?_⟩ <;> (first | with_reducible assumption | (omega)))), rfl⟩), by rw [ht]; exact hP9, va_K.moved hW.alike hK9, hD9⟩, hS.F ht⟩) hS.2.2 dX10_readChain_71
            · skip
              replace w_16_1_0 : (ko_R (ko_at f1 n0_size.toInt) (5 : Int) p1.toInt (i_8_1 + 1).toInt = y_17.toInt ∧ 0 ≤ y_17.toInt ∧ y_17.toInt ≤ n0_size.toInt) := w_16_1_0
              replace hP : va_P (dC, dI) vwCl [(h0, kO10 h1 n0_size y_17 h2), (h1, kAi cint 120 f1), (h2, kO4 h3 y_18 h4 h5 n2_top), (h3, kAi cint 128 f_19)] H := hP
              replace hD : va_D A [(h0, kO10 h1 n0_size y_17 h2), (h1, kAi cint 120 f1), (h2, kO4 h3 y_18 h4 h5 n2_top), (h3, kAi cint 128 f_19)] := hD
              refine W.eq (g2 := F0 m 67 ls [.int 1]) rfl ?_
              refine lv_if_ne (tgt := 72) hx hb dX10_readChain_67 (by decide) (fun _ => ?_) (fun c => absurd c (by decide))
              have := kk_add2 (x := i_8_0) (y := 1) (a := i_8_0.toInt) (b := 1) rfl rfl (by omega) (by omega)
              have hk_21 : ko_L (ko_at f1 n0_size.toInt) (4 : Int) (p1.toInt : Int) (120 - i_8_0.toInt) i_8_1.toInt = ko_L (ko_at f1 n0_size.toInt) (4 : Int) (p1.toInt : Int) (120 - (i_8_0 + 1).toInt) y_17.toInt := ko_L_s (l' := (5 : Int)) (q1 := (i_8_1 + 1).toInt) (by omega) (by first | exact kd_ys4 (by with_reducible assumption) (by with_reducible assumption) | omega) (by decide) (by decide) (by omega) (show ko_R (ko_at f1 n0_size.toInt) (5 : Int) (p1.toInt : Int) (i_8_1 + 1).toInt = y_17.toInt from (by omega)) (by omega) (by omega)
              refine lv_aload_n hx hb dX10_readChain_72 rfl (lv_at hl 2 rfl) ?_
              refine va_get (D := (dC, dI)) (ci := 10) (v := .ref h2) (C := RX10) (T := TX10) (N := 4) hx hb hts (fun _ h => List.mem_cons_of_mem _ (List.mem_append_left _ (List.mem_append_right _ h))) hown hK hP 0 rfl rfl 3 (by decide) (hts (.fieldLink RX10 20 "KinkStreet$Tape" "law" "LKinkStreet$Law;") (List.mem_of_getElem? (i := 2) rfl)) (fun _ h9 => h9) rfl dX10_readChain_73 ?_
              refine lv_iload hx hb dX10_readChain_76 (lv_at hl 0 rfl) ?_
              obtain ⟨hPc, hDc, hFc⟩ := kk_cutout (wc := [(h2, kO4 h3 y_18 h4 h5 n2_top), (h3, kAi cint 128 f_19)]) hP hD hS hA [2, 3] (by decide) rfl
              have hKc := kk_Ks (tq := [(cint, .int)]) hK [0] rfl
              refine va_callv (va_runV (As := [.int r_14]) (rest := []) ⟨hx, hb, hml, hown, hts⟩ (g_X4_append_0 l dC dI h2 h3 h4 h5 cint H.size r_14 y_18 n2_top f_19 (by show 0 ≤ (y_18 : Int32).toInt ∧ (y_18 : Int32).toInt ≤ 128; first | with_reducible assumption | (constructor <;> (omega))) tn2_top) (cwV 1 hts gX10_readChain_X4_append rfl rfl rfl ⟨rfl, kh_X4_append⟩ ⟨kk_rmF hF (Nat.le_of_ble_eq_true rfl), kk_rmM hL (Nat.le_of_ble_eq_true rfl)⟩) ⟨fun a U g mk q => by obtain ⟨q0, q1, qP, qK, qD⟩ := q; exact ⟨q0, q1, qP, va_K.moved (u := U) (U := U.calling g mk a) (Vm.Alike.refl U.vm) qK, qD⟩, va_recv hKc hPc (ci := 4) (q0 := 0) rfl rfl, fun U hU hW => ⟨rfl, by rw [hU], by rw [hU]; exact hPc, va_K.moved hW.alike hKc, hDc.weaken (fun _ _ _ _ => trivial)⟩⟩ rfl rfl hl.1 rfl (lv_room (Nat.le_of_ble_eq_true rfl)) dX10_readChain_78 ⟨Nat.le_of_ble_eq_true rfl, Nat.le_of_ble_eq_true rfl⟩) hS (fun q _ h => hFc q h) hFc (fun u t H1 locs ht hvm hw hB hz1 hk1 hS => ?_)
              obtain ⟨y_23, f_24, by_23, hP1, hK1, hD1⟩ := hB
              rw [ht] at hP1
              have hK1 := va_K.moved hvm.symm hK1
              obtain ⟨hP, hD⟩ := va_join (wr := [(h0, kO10 h1 n0_size y_17 h2), (h1, kAi cint 120 f1)]) (w1 := [(h2, kO4 h3 y_23 h4 h5 n2_top), (h3, kAi cint 128 f_24)]) hP hD [2, 3] [0, 1] rfl rfl (by decide) (by decide) hk1 hFc hP1 hD1
              generalize H1 = H at hP hS ⊢
              replace hP : va_P (dC, dI) vwCl [(h0, kO10 h1 n0_size y_17 h2), (h1, kAi cint 120 f1), (h2, kO4 h3 y_23 h4 h5 n2_top), (h3, kAi cint 128 f_24)] H := hP
              replace hD : va_D A [(h0, kO10 h1 n0_size y_17 h2), (h1, kAi cint 120 f1), (h2, kO4 h3 y_23 h4 h5 n2_top), (h3, kAi cint 128 f_24)] := hD
              refine lv_iload_n hx hb dX10_readChain_81 rfl (lv_at hl 3 rfl) ?_
              refine lv_iconst (v := 2) hx hb dX10_readChain_82 kk_ic_2 ?_
              refine lv_icmp_ne (tgt := 88) hx hb dX10_readChain_83 (by decide) (fun _ => ?_) (fun c => absurd c (by decide))
              refine lv_iinc (v := (i_8_0 + 1)) hx hb dX10_readChain_88 hl (k := 1) rfl (by first | rfl | decide) (by decide) (rfl : _ = ([(3, .int (i_8_0 + 1)), (4, .int r_14), (0, .ref h0), (1, .int 4), (2, .int p1)] : List (Nat × Value))) (fun ls hl => ?_)
              refine lv_goto (tgt := 26) hx hb dX10_readChain_91 (by decide) ?_
              exact ih_8 ((i_8_0 + 1), y_17, y_23, f_24) _ _ _ (by show ((120 : Int) - ((i_8_0 + 1) : Int32).toInt).toNat < ((120 : Int) - i_8_0.toInt).toNat; exact kk_mu (by omega) (by omega)) ⟨(by show 0 ≤ ((i_8_0 + 1) : Int32).toInt ∧ ((i_8_0 + 1) : Int32).toInt ≤ 120; first | with_reducible assumption | (constructor <;> (omega))), (by show 0 ≤ (y_17 : Int32).toInt ∧ (y_17 : Int32).toInt ≤ 120; first | with_reducible assumption | (constructor <;> (omega))), (by show 0 ≤ (y_23 : Int32).toInt ∧ (y_23 : Int32).toInt ≤ 128; first | with_reducible assumption | (constructor <;> (omega))), (by show 0 ≤ (y_17 : Int32).toInt; first | with_reducible assumption | (omega)), (by show (y_17 : Int32).toInt ≤ 120; first | with_reducible assumption | (omega)), (by show (ko_L (ko_at f1 (n0_size : Int32).toInt) (4 : Int) (p1 : Int32).toInt (120 - ((i_8_0 + 1) : Int32).toInt) (y_17 : Int32).toInt = ko_R (ko_at f1 (n0_size : Int32).toInt) (4 : Int) (p1 : Int32).toInt (n0_place : Int32).toInt ∧ 0 ≤ (y_17 : Int32).toInt ∧ (y_17 : Int32).toInt ≤ (n0_size : Int32).toInt); first | with_reducible assumption | (refine ⟨?_, ?_, ?_⟩ <;> (first | with_reducible assumption | (omega)))), hP, hD, hS, lv_sub hl [0, 2, 3, 4] rfl⟩
set_option maxHeartbeats 4000000 in
set_option maxRecDepth 100000 in
theorem s_X10_readChain_3v (l : Launch) (F L : Nat) (hF : 10 ≤ F) (hL : 200 ≤ L) (rk : Int) (Fq0 Lq0 : Nat) (hF0 : Fq0 ≤ F) (hL0 : Lq0 ≤ L) (ih0 : ka_X10_readChain_4v l Fq0 Lq0 rk) (dC : Nat → ClassId) (dI : Nat → Nat → Nat) (h0 : Nat) (h1 : Nat) (h2 : Nat) (h3 : Nat) (h4 : Nat) (h5 : Nat) (cint : ClassId) (sz : Nat) (p1 : Int32) (tp1 : 0 ≤ p1.toInt ∧ p1.toInt ≤ 6) (n0_size : Int32) (n0_place : Int32) (f1 : Nat → Int32) (n2_size : Int32) (n2_top : Int32) (f3 : Nat → Int32) (tn0_size : 0 ≤ n0_size.toInt ∧ n0_size.toInt ≤ 120) (tn0_place : 0 ≤ n0_place.toInt ∧ n0_place.toInt ≤ 120) (bf1 : ∀ j, j < 120 → 0 ≤ (f1 j).toInt ∧ (f1 j).toInt ≤ 255) (tn2_size : kk_bx (0 ≤ n2_size.toInt ∧ n2_size.toInt ≤ 128)) (tn2_top : kk_bx (0 ≤ n2_top.toInt ∧ n2_top.toInt ≤ 64)) (pr0 : (6 ≤ p1.toInt + rk)) (pr1 : (0 ≤ n0_place.toInt ∧ n0_place.toInt ≤ n0_size.toInt)) (aNAMES : Nat) : Met l yX10_readChain wsX10_readChain ({ frames := F + 1, cells := 0, slots := 0, locals := L + 24 }) (va_Pc [.ref h0, .int 3, .int p1] (fun U => U.heap.size = sz ∧ va_P (dC, dI) vwCl [(h0, kO10 h1 n0_size n0_place h2), (h1, kAi cint 120 f1), (h2, kO4 h3 n2_size h4 h5 n2_top), (h3, kAi cint 128 f3)] U.heap ∧ va_K (dC, dI) vwCl [(cint, .int)] U ∧ va_D (fun _ => True) [(h0, kO10 h1 n0_size n0_place h2), (h1, kAi cint 120 f1), (h2, kO4 h3 n2_size h4 h5 n2_top), (h3, kAi cint 128 f3)] ∧ va_Z "KinkStreet$Law" "NAMES" "[C" (.ref aNAMES) (va_A [(h0, kO10 h1 n0_size n0_place h2), (h1, kAi cint 120 f1), (h2, kO4 h3 n2_size h4 h5 n2_top), (h3, kAi cint 128 f3)] sz) U U.heap ∧ va_T .char aNAMES 8 tb_NAMES (va_A [(h0, kO10 h1 n0_size n0_place h2), (h1, kAi cint 120 f1), (h2, kO4 h3 n2_size h4 h5 n2_top), (h3, kAi cint 128 f3)] sz) U U.heap)) (va_Qi (fun (r : Int32) (u_ : Int32) => u_ = r ∧ True) (fun (u_ : Int32) t => ∃ (m0_place : Int32) (m2_size : Int32) (g3 : Nat → Int32), (0 ≤ m0_place.toInt ∧ m0_place.toInt ≤ 120) ∧ (0 ≤ m2_size.toInt ∧ m2_size.toInt ≤ 128) ∧ (((ko_R (ko_at f1 n0_size.toInt) (3 : Int) p1.toInt n0_place.toInt = -1 - m0_place.toInt ∧ 0 ≤ m0_place.toInt ∧ m0_place.toInt ≤ n0_size.toInt) ∧ u_ = (0 : Int32)) ∨ ((ko_R (ko_at f1 n0_size.toInt) (3 : Int) p1.toInt n0_place.toInt = m0_place.toInt ∧ 0 ≤ m0_place.toInt ∧ m0_place.toInt ≤ n0_size.toInt) ∧ u_ = (1 : Int32))) ∧ va_P (dC, dI) vwCl [(h0, kO10 h1 n0_size m0_place h2), (h1, kAi cint 120 f1), (h2, kO4 h3 m2_size h4 h5 n2_top), (h3, kAi cint 128 g3)] t.heap ∧ va_K (dC, dI) vwCl [] t ∧ va_D (va_A [(h0, kO10 h1 n0_size n0_place h2), (h1, kAi cint 120 f1), (h2, kO4 h3 n2_size h4 h5 n2_top), (h3, kAi cint 128 f3)] sz) [(h0, kO10 h1 n0_size m0_place h2), (h1, kAi cint 120 f1), (h2, kO4 h3 m2_size h4 h5 n2_top), (h3, kAi cint 128 g3)]) (va_A [(h0, kO10 h1 n0_size n0_place h2), (h1, kAi cint 120 f1), (h2, kO4 h3 n2_size h4 h5 n2_top), (h3, kAi cint 128 f3)] sz)) 0 0 (va_A [(h0, kO10 h1 n0_size n0_place h2), (h1, kAi cint 120 f1), (h2, kO4 h3 n2_size h4 h5 n2_top), (h3, kAi cint 128 f3)] sz) := by
  refine Met.ofW (cc := cX10_readChain) (maxL := 5) (ret := (some .boolean)) (by decide) rfl ?_
  intro p e s m args below meth c s₁ B hml hv
  obtain ⟨rfl, hsz, hP, hK, hD0, hZNAMES, hTNAMES⟩ := hv
  have hx := B.exec
  have hb := B.bytes
  have hr := B.returns
  have hts := atoms_spec (ws := wsX10_readChain) B.pre
  have hown : s.vm.findClass RX10 = some m.cls := findClass_of_methodNamed B.named
  have hlocks := B.notSynchronized
  subst hsz
  have hD := hD0.self (sz := s.heap.size)
  generalize hAe : va_A [(h0, kO10 h1 n0_size n0_place h2), (h1, kAi cint 120 f1), (h2, kO4 h3 n2_size h4 h5 n2_top), (h3, kAi cint 128 f3)] s.heap.size = A at hD hZNAMES hTNAMES ⊢
  have hA : ∀ q : Nat, s.heap.size ≤ q → A q := fun q h => by rw [← hAe]; exact Or.inr h
  have hS : va_S A s.heap s.heap [] := va_S.rf
  replace hP : va_P (dC, dI) vwCl [(h0, kO10 h1 n0_size n0_place h2), (h1, kAi cint 120 f1), (h2, kO4 h3 n2_size h4 h5 n2_top), (h3, kAi cint 128 f3)] s.heap := hP
  have hl := lv_entry ([.ref h0, .int 3, .int p1]) (n := 5) (Nat.le_of_ble_eq_true rfl)
  rw [lg_entry_eq]
  generalize (lg_sl ([.ref h0, .int 3, .int p1]) ++ List.replicate (5 - (lg_sl ([.ref h0, .int 3, .int p1])).length) Slot.unset).toArray = ls at hl ⊢
  replace hl : lv_has ls 5 [(0, .ref h0), (1, .int 3), (2, .int p1)] := hl
  refine lv_iload_n hx hb dX10_readChain_0 rfl (lv_at hl 1 rfl) ?_
  refine lv_iconst (v := 5) hx hb dX10_readChain_1 kk_ic_5 ?_
  refine lv_icmp_lt (tgt := 11) hx hb dX10_readChain_2 (by decide) (fun _ => ?_) (fun c => absurd c (by decide))
  refine lv_aload_n hx hb dX10_readChain_11 rfl (lv_at hl 0 rfl) ?_
  refine lv_iload_n hx hb dX10_readChain_12 rfl (lv_at hl 1 rfl) ?_
  refine lv_iconst (v := 1) hx hb dX10_readChain_13 kk_ic_1 ?_
  refine lv_iadd hx hb dX10_readChain_14 ?_
  refine lv_topi (fun y_1 e_1 => ?_)
  obtain rfl : y_1 = 4 := e_1.trans (by decide)
  refine lv_iload_n hx hb dX10_readChain_15 rfl (lv_at hl 2 rfl) ?_
  obtain ⟨hPc, hDc, hFc⟩ := kk_cutout (wc := [(h0, kO10 h1 n0_size n0_place h2), (h1, kAi cint 120 f1), (h2, kO4 h3 n2_size h4 h5 n2_top), (h3, kAi cint 128 f3)]) hP hD hS hA [0, 1, 2, 3] (by decide) rfl
  have hKc := kk_Ks (tq := [(cint, .int)]) hK [0] rfl
  refine va_calli (va_runV (As := [.int 4, .int p1]) (rest := []) ⟨hx, hb, hml, hown, hts⟩ (ih0 dC dI h0 h1 h2 h3 h4 h5 cint s.heap.size p1 tp1 n0_size n0_place f1 n2_size n2_top f3 tn0_size tn0_place bf1 tn2_size tn2_top (by show (6 ≤ (p1 : Int32).toInt + rk); first | with_reducible assumption | (omega)) (by show (0 ≤ (n0_place : Int32).toInt ∧ (n0_place : Int32).toInt ≤ (n0_size : Int32).toInt); first | with_reducible assumption | (refine ⟨?_, ?_⟩ <;> (first | with_reducible assumption | (omega)))) aNAMES) (cwV 2 hts gX10_readChain_X10_readChain rfl rfl rfl ⟨rfl, kh_X10_readChain⟩ ⟨Nat.add_le_add_right hF0 1, kk_rmL hL0 (Nat.le_of_ble_eq_true rfl)⟩) ⟨fun a U g mk q => by obtain ⟨q0, q1, qP, qK, qD, qx0, qx1⟩ := q; exact ⟨q0, q1, qP, va_K.moved (u := U) (U := U.calling g mk a) (Vm.Alike.refl U.vm) qK, qD, va_Z.moved (u := U) (U := U.calling g mk a) (Vm.Alike.refl U.vm) qx0, va_T.moved (u := U) (U := U.calling g mk a) (Vm.Alike.refl U.vm) qx1⟩, va_recv hKc hPc (ci := 10) (q0 := 0) rfl rfl, fun U hU hW => ⟨rfl, by rw [hU], by rw [hU]; exact hPc, va_K.moved hW.alike hKc, hDc.weaken (fun _ _ _ _ => trivial), by rw [hU]; exact ((hZNAMES.kept (fun a h1 h2 => hS.2.1 a h1 h2)).narrow hFc).moved hW.alike, by rw [hU]; exact ((hTNAMES.kept (fun a h1 h2 => hS.2.1 a h1 h2)).narrow hFc).moved hW.alike⟩⟩ rfl rfl hl.1 rfl (lv_room (Nat.le_of_ble_eq_true rfl)) dX10_readChain_16 ⟨Nat.le_of_ble_eq_true rfl, Nat.le_of_ble_eq_true rfl⟩) hS (fun q _ h => hFc q h) hFc (fun r_2 ug_2 t H1 locs ht hvm hw hB hz1 hk1 hS => ?_)
  obtain ⟨hu_2, hw⟩ := hw
  subst ug_2
  obtain ⟨y_3, y_4, f_5, by_3, by_4, hcase_5, hP1, hK1, hD1⟩ := hB
  rw [ht] at hP1
  have hK1 := va_K.moved hvm.symm hK1
  obtain ⟨hP, hD⟩ := va_join (wr := []) (w1 := [(h0, kO10 h1 n0_size y_3 h2), (h1, kAi cint 120 f1), (h2, kO4 h3 y_4 h4 h5 n2_top), (h3, kAi cint 128 f_5)]) hP hD [0, 1, 2, 3] [] rfl rfl (by decide) (by decide) hk1 hFc hP1 hD1
  generalize H1 = H at hP hS ⊢
  replace hP : va_P (dC, dI) vwCl [(h0, kO10 h1 n0_size y_3 h2), (h1, kAi cint 120 f1), (h2, kO4 h3 y_4 h4 h5 n2_top), (h3, kAi cint 128 f_5)] H := hP
  replace hD : va_D A [(h0, kO10 h1 n0_size y_3 h2), (h1, kAi cint 120 f1), (h2, kO4 h3 y_4 h4 h5 n2_top), (h3, kAi cint 128 f_5)] := hD
  rcases hcase_5 with ⟨w_2_0_0, rfl⟩ | ⟨w_2_1_0, rfl⟩
  · skip
    replace w_2_0_0 : (ko_R (ko_at f1 n0_size.toInt) (4 : Int) p1.toInt n0_place.toInt = -1 - y_3.toInt ∧ 0 ≤ y_3.toInt ∧ y_3.toInt ≤ n0_size.toInt) := w_2_0_0
    replace hP : va_P (dC, dI) vwCl [(h0, kO10 h1 n0_size y_3 h2), (h1, kAi cint 120 f1), (h2, kO4 h3 y_4 h4 h5 n2_top), (h3, kAi cint 128 f_5)] H := hP
    replace hD : va_D A [(h0, kO10 h1 n0_size y_3 h2), (h1, kAi cint 120 f1), (h2, kO4 h3 y_4 h4 h5 n2_top), (h3, kAi cint 128 f_5)] := hD
    refine W.eq (g2 := F0 m 19 ls [.int 0]) rfl ?_
    refine lv_if_ne (tgt := 24) hx hb dX10_readChain_19 (by decide) (fun c => absurd c (by decide)) (fun _ => ?_)
    have hk_6 : ko_R (ko_at f1 n0_size.toInt) (3 : Int) (p1.toInt : Int) n0_place.toInt = -1 - y_3.toInt := ko_cf (l' := (4 : Int)) (by decide) (by decide) (show ko_R (ko_at f1 n0_size.toInt) (4 : Int) (p1.toInt : Int) n0_place.toInt = -1 - y_3.toInt from (by omega)) (by omega)
    refine lv_iconst (v := 0) hx hb dX10_readChain_22 kk_ic_0 ?_
    obtain ⟨hP9, hD9⟩ := kk_leafout (wc := [(h0, kO10 h1 n0_size y_3 h2), (h1, kAi cint 120 f1), (h2, kO4 h3 y_4 h4 h5 n2_top), (h3, kAi cint 128 f_5)]) hP hD [0, 1, 2, 3] (by decide) rfl
    have hK9 := kk_Ks (tq := []) hK [] rfl
    exact W.zret (v := 0) hx hb hr rfl (fun t ht hW => ⟨⟨0, 0, rfl, ⟨rfl, trivial⟩, y_3, y_4, f_5, (by show 0 ≤ (y_3 : Int32).toInt ∧ (y_3 : Int32).toInt ≤ 120; first | with_reducible assumption | (constructor <;> (omega))), (by show 0 ≤ (y_4 : Int32).toInt ∧ (y_4 : Int32).toInt ≤ 128; first | with_reducible assumption | (constructor <;> (omega))), (Or.inl ⟨(by show (ko_R (ko_at f1 (n0_size : Int32).toInt) (3 : Int) (p1 : Int32).toInt (n0_place : Int32).toInt = -1 - (y_3 : Int32).toInt ∧ 0 ≤ (y_3 : Int32).toInt ∧ (y_3 : Int32).toInt ≤ (n0_size : Int32).toInt); first | with_reducible assumption | (refine ⟨?_, ?_, ?_⟩ <;> (first | with_reducible assumption | (omega)))), rfl⟩), by rw [ht]; exact hP9, va_K.moved hW.alike hK9, hD9⟩, hS.F ht⟩) hS.2.2 dX10_readChain_23
  · skip
    replace w_2_1_0 : (ko_R (ko_at f1 n0_size.toInt) (4 : Int) p1.toInt n0_place.toInt = y_3.toInt ∧ 0 ≤ y_3.toInt ∧ y_3.toInt ≤ n0_size.toInt) := w_2_1_0
    replace hP : va_P (dC, dI) vwCl [(h0, kO10 h1 n0_size y_3 h2), (h1, kAi cint 120 f1), (h2, kO4 h3 y_4 h4 h5 n2_top), (h3, kAi cint 128 f_5)] H := hP
    replace hD : va_D A [(h0, kO10 h1 n0_size y_3 h2), (h1, kAi cint 120 f1), (h2, kO4 h3 y_4 h4 h5 n2_top), (h3, kAi cint 128 f_5)] := hD
    refine W.eq (g2 := F0 m 19 ls [.int 1]) rfl ?_
    refine lv_if_ne (tgt := 24) hx hb dX10_readChain_19 (by decide) (fun _ => ?_) (fun c => absurd c (by decide))
    have hk_7 : ko_L (ko_at f1 n0_size.toInt) (3 : Int) (p1.toInt : Int) (120 - (0 : Int)) y_3.toInt = ko_R (ko_at f1 n0_size.toInt) (3 : Int) (p1.toInt : Int) n0_place.toInt := ko_c0 (l' := (4 : Int)) (by decide) (by decide) (show ko_R (ko_at f1 n0_size.toInt) (4 : Int) (p1.toInt : Int) n0_place.toInt = y_3.toInt from (by omega)) (by omega) (by decide)
    refine lv_iconst (v := 0) hx hb dX10_readChain_24 kk_ic_0 ?_
    refine lv_istore_n hx hb dX10_readChain_25 rfl hl (by decide) (rfl : _ = ([(3, .int 0), (0, .ref h0), (1, .int 3), (2, .int p1)] : List (Nat × Value))) (fun ls hl => ?_)
    refine kk_loop (σ := Int32 × Int32 × Int32 × (Nat → Int32)) (fun x H locs ls => (0 ≤ x.1.toInt ∧ x.1.toInt ≤ 120) ∧ (0 ≤ x.2.1.toInt ∧ x.2.1.toInt ≤ 120) ∧ (0 ≤ x.2.2.1.toInt ∧ x.2.2.1.toInt ≤ 128) ∧ 0 ≤ x.2.1.toInt ∧ x.2.1.toInt ≤ 120 ∧ (ko_L (ko_at f1 n0_size.toInt) (3 : Int) p1.toInt (120 - x.1.toInt) x.2.1.toInt = ko_R (ko_at f1 n0_size.toInt) (3 : Int) p1.toInt n0_place.toInt ∧ 0 ≤ x.2.1.toInt ∧ x.2.1.toInt ≤ n0_size.toInt) ∧ va_P (dC, dI) vwCl [(h0, kO10 h1 n0_size x.2.1 h2), (h1, kAi cint 120 f1), (h2, kO4 h3 x.2.2.1 h4 h5 n2_top), (h3, kAi cint 128 x.2.2.2)] H ∧ va_D A [(h0, kO10 h1 n0_size x.2.1 h2), (h1, kAi cint 120 f1), (h2, kO4 h3 x.2.2.1 h4 h5 n2_top), (h3, kAi cint 128 x.2.2.2)] ∧ va_S A s.heap H locs ∧ lv_has ls 5 [(3, .int x.1), (0, .ref h0), (1, .int 3), (2, .int p1)]) (fun x => ((120 : Int) - x.1.toInt).toNat) ?_ (0, y_3, y_4, f_5) _ _ _ ⟨(by show 0 ≤ (0 : Int32).toInt ∧ (0 : Int32).toInt ≤ 120; first | with_reducible assumption | decide | (constructor <;> (omega))), (by show 0 ≤ (y_3 : Int32).toInt ∧ (y_3 : Int32).toInt ≤ 120; first | with_reducible assumption | (constructor <;> (omega))), (by show 0 ≤ (y_4 : Int32).toInt ∧ (y_4 : Int32).toInt ≤ 128; first | with_reducible assumption | (constructor <;> (omega))), (by show 0 ≤ (y_3 : Int32).toInt; first | with_reducible assumption | (omega)), (by show (y_3 : Int32).toInt ≤ 120; first | with_reducible assumption | (omega)), (by show (ko_L (ko_at f1 (n0_size : Int32).toInt) (3 : Int) (p1 : Int32).toInt (120 - (0 : Int)) (y_3 : Int32).toInt = ko_R (ko_at f1 (n0_size : Int32).toInt) (3 : Int) (p1 : Int32).toInt (n0_place : Int32).toInt ∧ 0 ≤ (y_3 : Int32).toInt ∧ (y_3 : Int32).toInt ≤ (n0_size : Int32).toInt); first | with_reducible assumption | (refine ⟨?_, ?_, ?_⟩ <;> (first | with_reducible assumption | (omega)))), hP, hD, hS, hl⟩
    rintro ⟨i_8_0, i_8_1, i_8_2, f_8_3⟩ H locs ls ⟨t_8_0, t_8_1, t_8_2, z_8_0, z_8_1, z_8_2, hP, hD, hS, hl⟩ ih_8
    replace t_8_0 : (0 ≤ i_8_0.toInt ∧ i_8_0.toInt ≤ 120) := t_8_0
    replace t_8_1 : (0 ≤ i_8_1.toInt ∧ i_8_1.toInt ≤ 120) := t_8_1
    replace t_8_2 : (0 ≤ i_8_2.toInt ∧ i_8_2.toInt ≤ 128) := t_8_2
    replace z_8_0 : 0 ≤ i_8_1.toInt := z_8_0
    replace z_8_1 : i_8_1.toInt ≤ 120 := z_8_1
    replace z_8_2 : (ko_L (ko_at f1 n0_size.toInt) (3 : Int) p1.toInt (120 - i_8_0.toInt) i_8_1.toInt = ko_R (ko_at f1 n0_size.toInt) (3 : Int) p1.toInt n0_place.toInt ∧ 0 ≤ i_8_1.toInt ∧ i_8_1.toInt ≤ n0_size.toInt) := z_8_2
    replace hl : lv_has ls 5 [(3, .int i_8_0), (0, .ref h0), (1, .int 3), (2, .int p1)] := hl
    replace hP : va_P (dC, dI) vwCl [(h0, kO10 h1 n0_size i_8_1 h2), (h1, kAi cint 120 f1), (h2, kO4 h3 i_8_2 h4 h5 n2_top), (h3, kAi cint 128 f_8_3)] H := hP
    replace hD : va_D A [(h0, kO10 h1 n0_size i_8_1 h2), (h1, kAi cint 120 f1), (h2, kO4 h3 i_8_2 h4 h5 n2_top), (h3, kAi cint 128 f_8_3)] := hD
    refine lv_iload_n hx hb dX10_readChain_26 rfl (lv_at hl 0 rfl) ?_
    refine lv_bipush (v := 120) hx hb dX10_readChain_27 kk_bi_120 ?_
    refine lv_icmp_ge (tgt := 94) hx hb dX10_readChain_29 (by decide) (fun c_9 => ?_) (fun c_9 => ?_)
    · have t_9 : 120 ≤ i_8_0.toInt := kk_le c_9
      have hk_10 : ko_L (ko_at f1 n0_size.toInt) (3 : Int) (p1.toInt : Int) (120 - i_8_0.toInt) i_8_1.toInt = i_8_1.toInt := ko_L_no (by first | exact kd_no3 (by with_reducible assumption) (by with_reducible assumption) | exact Or.inl (by omega) | omega)
      refine lv_iconst (v := 1) hx hb dX10_readChain_94 kk_ic_1 ?_
      obtain ⟨hP9, hD9⟩ := kk_leafout (wc := [(h0, kO10 h1 n0_size i_8_1 h2), (h1, kAi cint 120 f1), (h2, kO4 h3 i_8_2 h4 h5 n2_top), (h3, kAi cint 128 f_8_3)]) hP hD [0, 1, 2, 3] (by decide) rfl
      have hK9 := kk_Ks (tq := []) hK [] rfl
      exact W.zret (v := 1) hx hb hr rfl (fun t ht hW => ⟨⟨1, 1, rfl, ⟨rfl, trivial⟩, i_8_1, i_8_2, f_8_3, (by show 0 ≤ (i_8_1 : Int32).toInt ∧ (i_8_1 : Int32).toInt ≤ 120; first | with_reducible assumption | (constructor <;> (omega))), (by show 0 ≤ (i_8_2 : Int32).toInt ∧ (i_8_2 : Int32).toInt ≤ 128; first | with_reducible assumption | (constructor <;> (omega))), (Or.inr ⟨(by show (ko_R (ko_at f1 (n0_size : Int32).toInt) (3 : Int) (p1 : Int32).toInt (n0_place : Int32).toInt = (i_8_1 : Int32).toInt ∧ 0 ≤ (i_8_1 : Int32).toInt ∧ (i_8_1 : Int32).toInt ≤ (n0_size : Int32).toInt); first | with_reducible assumption | (refine ⟨?_, ?_, ?_⟩ <;> (first | with_reducible assumption | (omega)))), rfl⟩), by rw [ht]; exact hP9, va_K.moved hW.alike hK9, hD9⟩, hS.F ht⟩) hS.2.2 dX10_readChain_95
    · have t_9 : i_8_0.toInt < 120 := kk_nle c_9
      refine lv_iload_n hx hb dX10_readChain_32 rfl (lv_at hl 2 rfl) ?_
      refine lv_aload_n hx hb dX10_readChain_33 rfl (lv_at hl 1 rfl) ?_
      obtain ⟨hPc, hDc, hFc⟩ := kk_cutout (wc := [(h0, kO10 h1 n0_size i_8_1 h2), (h1, kAi cint 120 f1)]) hP hD hS hA [0, 1] (by decide) rfl
      have hKc := kk_Ks (tq := [(cint, .int)]) hK [0] rfl
      refine va_calli (va_runV (As := []) (rest := [.int 3]) ⟨hx, hb, hml, hown, hts⟩ (g_X10_next_1 l dC dI h0 h1 h2 cint H.size n0_size i_8_1 f1 tn0_size (by show 0 ≤ (i_8_1 : Int32).toInt ∧ (i_8_1 : Int32).toInt ≤ 120; first | with_reducible assumption | (constructor <;> (omega))) bf1 (by show (0 ≤ (i_8_1 : Int32).toInt ∧ (i_8_1 : Int32).toInt ≤ (n0_size : Int32).toInt); first | with_reducible assumption | (refine ⟨?_, ?_⟩ <;> (first | with_reducible assumption | (omega))))) (cwV 0 hts gX10_readChain_X10_next rfl rfl rfl ⟨rfl, kh_X10_next⟩ ⟨kk_rmF hF (Nat.le_of_ble_eq_true rfl), kk_rmM hL (Nat.le_of_ble_eq_true rfl)⟩) ⟨fun a U g mk q => by obtain ⟨q0, q1, qP, qK, qD⟩ := q; exact ⟨q0, q1, qP, va_K.moved (u := U) (U := U.calling g mk a) (Vm.Alike.refl U.vm) qK, qD⟩, va_recv hKc hPc (ci := 10) (q0 := 0) rfl rfl, fun U hU hW => ⟨rfl, by rw [hU], by rw [hU]; exact hPc, va_K.moved hW.alike hKc, hDc.weaken (fun _ _ _ _ => trivial)⟩⟩ rfl rfl hl.1 rfl (lv_room (Nat.le_of_ble_eq_true rfl)) dX10_readChain_34 ⟨Nat.le_of_ble_eq_true rfl, Nat.le_of_ble_eq_true rfl⟩) hS (fun q _ h => hFc q h) hFc (fun r_11 u t H1 locs ht hvm hw hB hz1 hk1 hS => ?_)
      obtain ⟨hP1, hK1, hD1⟩ := hB
      rw [ht] at hP1
      have hK1 := va_K.moved hvm.symm hK1
      obtain ⟨hP, hD⟩ := va_join (wr := [(h2, kO4 h3 i_8_2 h4 h5 n2_top), (h3, kAi cint 128 f_8_3)]) (w1 := [(h0, kO10 h1 n0_size i_8_1 h2), (h1, kAi cint 120 f1)]) hP hD [0, 1] [2, 3] rfl rfl (by decide) (by decide) hk1 hFc hP1 hD1
      generalize H1 = H at hP hS ⊢
      replace hP : va_P (dC, dI) vwCl [(h2, kO4 h3 i_8_2 h4 h5 n2_top), (h3, kAi cint 128 f_8_3), (h0, kO10 h1 n0_size i_8_1 h2), (h1, kAi cint 120 f1)] H := hP
      replace hD : va_D A [(h2, kO4 h3 i_8_2 h4 h5 n2_top), (h3, kAi cint 128 f_8_3), (h0, kO10 h1 n0_size i_8_1 h2), (h1, kAi cint 120 f1)] := hD
      rcases hw with ⟨t_11_0, t_11_any⟩
      · skip
        replace t_11_0 : (((i_8_1.toInt < n0_size.toInt) → r_11.toInt = ko_at f1 n0_size.toInt i_8_1.toInt ∧ 0 ≤ r_11.toInt) ∧ (n0_size.toInt ≤ i_8_1.toInt → r_11.toInt = -1 ∧ ko_at f1 n0_size.toInt i_8_1.toInt = 0)) := t_11_0
        obtain ⟨hPc, hDc, hFc⟩ := kk_cutout (wc := []) hP hD hS hA [] (by decide) rfl
        have hKc := kk_Ks (tq := []) hK [] rfl
        refine va_calli (va_runS (As := [.int 3, .int r_11]) (rest := []) ⟨hx, hb, hml, hown, hts⟩ (g_X10_joins_6 l dC dI H.size r_11) (va_cwS 2 hts gX10_readChain_X10_joins rfl rfl rfl kh_X10_joins ⟨kk_rmF hF (Nat.le_of_ble_eq_true rfl), kk_rmM hL (Nat.le_of_ble_eq_true rfl)⟩) ⟨fun a U g mk q => by obtain ⟨q0, q1, qP, qK, qD⟩ := q; exact ⟨q0, q1, qP, va_K.moved (u := U) (U := U.calling g mk a) (Vm.Alike.refl U.vm) qK, qD⟩, fun U hU hW => ⟨rfl, by rw [hU], by rw [hU]; exact hPc, va_K.moved hW.alike hKc, hDc.weaken (fun _ _ _ _ => trivial)⟩⟩ rfl rfl hl.1 rfl (lv_room (Nat.le_of_ble_eq_true rfl)) dX10_readChain_37 ⟨Nat.le_of_ble_eq_true rfl, Nat.le_of_ble_eq_true rfl⟩) hS (fun q _ h => hFc q h) hFc (fun r_12 u t H1 locs ht hvm hw hB hz1 hk1 hS => ?_)
        obtain ⟨hP1, hK1, hD1⟩ := hB
        rw [ht] at hP1
        have hK1 := va_K.moved hvm.symm hK1
        obtain ⟨hP, hD⟩ := va_join (wr := [(h2, kO4 h3 i_8_2 h4 h5 n2_top), (h3, kAi cint 128 f_8_3), (h0, kO10 h1 n0_size i_8_1 h2), (h1, kAi cint 120 f1)]) (w1 := []) hP hD [] [0, 1, 2, 3] rfl rfl (by decide) (by decide) hk1 hFc hP1 hD1
        generalize H1 = H at hP hS ⊢
        replace hP : va_P (dC, dI) vwCl [(h2, kO4 h3 i_8_2 h4 h5 n2_top), (h3, kAi cint 128 f_8_3), (h0, kO10 h1 n0_size i_8_1 h2), (h1, kAi cint 120 f1)] H := hP
        replace hD : va_D A [(h2, kO4 h3 i_8_2 h4 h5 n2_top), (h3, kAi cint 128 f_8_3), (h0, kO10 h1 n0_size i_8_1 h2), (h1, kAi cint 120 f1)] := hD
        rcases hw with ⟨t_12_0, t_12_1, t_12_2, rfl⟩ | ⟨t_12_0, rfl⟩
        · skip
          replace t_12_0 : (r_11.toInt : Int) ≠ 43 := t_12_0
          replace t_12_1 : (r_11.toInt : Int) ≠ 45 := t_12_1
          replace t_12_2 : (r_11.toInt ≠ 43 ∧ r_11.toInt ≠ 45) := t_12_2
          refine lv_if_eq (tgt := 94) hx hb dX10_readChain_40 (by decide) (fun _ => ?_) (fun c => absurd c (by decide))
          have hk_13 : ko_L (ko_at f1 n0_size.toInt) (3 : Int) (p1.toInt : Int) (120 - i_8_0.toInt) i_8_1.toInt = i_8_1.toInt := ko_L_no (by first | exact kd_no3 (by with_reducible assumption) (by with_reducible assumption) | exact Or.inl (by omega) | omega)
          refine lv_iconst (v := 1) hx hb dX10_readChain_94 kk_ic_1 ?_
          obtain ⟨hP9, hD9⟩ := kk_leafout (wc := [(h0, kO10 h1 n0_size i_8_1 h2), (h1, kAi cint 120 f1), (h2, kO4 h3 i_8_2 h4 h5 n2_top), (h3, kAi cint 128 f_8_3)]) hP hD [2, 3, 0, 1] (by decide) rfl
          have hK9 := kk_Ks (tq := []) hK [] rfl
          exact W.zret (v := 1) hx hb hr rfl (fun t ht hW => ⟨⟨1, 1, rfl, ⟨rfl, trivial⟩, i_8_1, i_8_2, f_8_3, (by show 0 ≤ (i_8_1 : Int32).toInt ∧ (i_8_1 : Int32).toInt ≤ 120; first | with_reducible assumption | (constructor <;> (omega))), (by show 0 ≤ (i_8_2 : Int32).toInt ∧ (i_8_2 : Int32).toInt ≤ 128; first | with_reducible assumption | (constructor <;> (omega))), (Or.inr ⟨(by show (ko_R (ko_at f1 (n0_size : Int32).toInt) (3 : Int) (p1 : Int32).toInt (n0_place : Int32).toInt = (i_8_1 : Int32).toInt ∧ 0 ≤ (i_8_1 : Int32).toInt ∧ (i_8_1 : Int32).toInt ≤ (n0_size : Int32).toInt); first | with_reducible assumption | (refine ⟨?_, ?_, ?_⟩ <;> (first | with_reducible assumption | (omega)))), rfl⟩), by rw [ht]; exact hP9, va_K.moved hW.alike hK9, hD9⟩, hS.F ht⟩) hS.2.2 dX10_readChain_95
        · skip
          replace t_12_0 : (r_11.toInt = 43 ∨ r_11.toInt = 45) := t_12_0
          refine lv_if_eq (tgt := 94) hx hb dX10_readChain_40 (by decide) (fun c => absurd c (by decide)) (fun _ => ?_)
          refine lv_aload_n hx hb dX10_readChain_43 rfl (lv_at hl 1 rfl) ?_
          obtain ⟨hPc, hDc, hFc⟩ := kk_cutout (wc := [(h0, kO10 h1 n0_size i_8_1 h2), (h1, kAi cint 120 f1)]) hP hD hS hA [2, 3] (by decide) rfl
          have hKc := kk_Ks (tq := [(cint, .int)]) hK [0] rfl
          refine va_calli (va_runV (As := []) (rest := []) ⟨hx, hb, hml, hown, hts⟩ (g_X10_next_1 l dC dI h0 h1 h2 cint H.size n0_size i_8_1 f1 tn0_size (by show 0 ≤ (i_8_1 : Int32).toInt ∧ (i_8_1 : Int32).toInt ≤ 120; first | with_reducible assumption | (constructor <;> (omega))) bf1 (by show (0 ≤ (i_8_1 : Int32).toInt ∧ (i_8_1 : Int32).toInt ≤ (n0_size : Int32).toInt); first | with_reducible assumption | (refine ⟨?_, ?_⟩ <;> (first | with_reducible assumption | (omega))))) (cwV 0 hts gX10_readChain_X10_next rfl rfl rfl ⟨rfl, kh_X10_next⟩ ⟨kk_rmF hF (Nat.le_of_ble_eq_true rfl), kk_rmM hL (Nat.le_of_ble_eq_true rfl)⟩) ⟨fun a U g mk q => by obtain ⟨q0, q1, qP, qK, qD⟩ := q; exact ⟨q0, q1, qP, va_K.moved (u := U) (U := U.calling g mk a) (Vm.Alike.refl U.vm) qK, qD⟩, va_recv hKc hPc (ci := 10) (q0 := 0) rfl rfl, fun U hU hW => ⟨rfl, by rw [hU], by rw [hU]; exact hPc, va_K.moved hW.alike hKc, hDc.weaken (fun _ _ _ _ => trivial)⟩⟩ rfl rfl hl.1 rfl (lv_room (Nat.le_of_ble_eq_true rfl)) dX10_readChain_44 ⟨Nat.le_of_ble_eq_true rfl, Nat.le_of_ble_eq_true rfl⟩) hS (fun q _ h => hFc q h) hFc (fun r_14 u t H1 locs ht hvm hw hB hz1 hk1 hS => ?_)
          obtain ⟨hP1, hK1, hD1⟩ := hB
          rw [ht] at hP1
          have hK1 := va_K.moved hvm.symm hK1
          obtain ⟨hP, hD⟩ := va_join (wr := [(h2, kO4 h3 i_8_2 h4 h5 n2_top), (h3, kAi cint 128 f_8_3)]) (w1 := [(h0, kO10 h1 n0_size i_8_1 h2), (h1, kAi cint 120 f1)]) hP hD [2, 3] [0, 1] rfl rfl (by decide) (by decide) hk1 hFc hP1 hD1
          generalize H1 = H at hP hS ⊢
          replace hP : va_P (dC, dI) vwCl [(h2, kO4 h3 i_8_2 h4 h5 n2_top), (h3, kAi cint 128 f_8_3), (h0, kO10 h1 n0_size i_8_1 h2), (h1, kAi cint 120 f1)] H := hP
          replace hD : va_D A [(h2, kO4 h3 i_8_2 h4 h5 n2_top), (h3, kAi cint 128 f_8_3), (h0, kO10 h1 n0_size i_8_1 h2), (h1, kAi cint 120 f1)] := hD
          rcases hw with ⟨t_14_0, t_14_any⟩
          · skip
            replace t_14_0 : (((i_8_1.toInt < n0_size.toInt) → r_14.toInt = ko_at f1 n0_size.toInt i_8_1.toInt ∧ 0 ≤ r_14.toInt) ∧ (n0_size.toInt ≤ i_8_1.toInt → r_14.toInt = -1 ∧ ko_at f1 n0_size.toInt i_8_1.toInt = 0)) := t_14_0
            refine lv_istore hx hb dX10_readChain_47 hl (by decide) (rfl : _ = ([(4, .int r_14), (3, .int i_8_0), (0, .ref h0), (1, .int 3), (2, .int p1)] : List (Nat × Value))) (fun ls hl => ?_)
            refine lv_aload_n hx hb dX10_readChain_49 rfl (lv_at hl 2 rfl) ?_
            refine lv_dup hx hb dX10_readChain_50 rfl ?_
            refine va_get (D := (dC, dI)) (ci := 10) (v := .int i_8_1) (C := RX10) (T := TX10) (N := 4) hx hb hts (fun _ h => List.mem_cons_of_mem _ (List.mem_append_left _ (List.mem_append_right _ h))) hown hK hP 2 rfl rfl 2 (by decide) (hts (.fieldLink RX10 17 "KinkStreet$Tape" "place" "I") (List.mem_of_getElem? (i := 1) rfl)) (fun _ h9 => h9) rfl dX10_readChain_51 ?_
            refine lv_iconst (v := 1) hx hb dX10_readChain_54 kk_ic_1 ?_
            refine lv_iadd hx hb dX10_readChain_55 ?_
            refine va_put (D := (dC, dI)) (ci := 10) (v := .int (i_8_1 + 1)) (ty := .int) (C := RX10) (T := TX10) (N := 4) hx hb hts (fun _ h => List.mem_cons_of_mem _ (List.mem_append_left _ (List.mem_append_right _ h))) tyX10 tyX10_ok nmX10 hown hK hP hD hS 2 rfl rfl 2 (by decide) (hts (.fieldLink RX10 17 "KinkStreet$Tape" "place" "I") (List.mem_of_getElem? (i := 1) rfl)) (fun _ h9 => h9) rfl (by decide +kernel) rfl rfl (Nat.le_of_ble_eq_true rfl) dX10_readChain_56 (fun H locs hP hD hS => ?_)
            replace hP : va_P (dC, dI) vwCl [(h2, kO4 h3 i_8_2 h4 h5 n2_top), (h3, kAi cint 128 f_8_3), (h0, kO10 h1 n0_size (i_8_1 + 1) h2), (h1, kAi cint 120 f1)] H := hP
            replace hD : va_D A [(h2, kO4 h3 i_8_2 h4 h5 n2_top), (h3, kAi cint 128 f_8_3), (h0, kO10 h1 n0_size (i_8_1 + 1) h2), (h1, kAi cint 120 f1)] := hD
            refine lv_aload_n hx hb dX10_readChain_59 rfl (lv_at hl 2 rfl) ?_
            refine lv_iload_n hx hb dX10_readChain_60 rfl (lv_at hl 3 rfl) ?_
            refine lv_iconst (v := 1) hx hb dX10_readChain_61 kk_ic_1 ?_
            refine lv_iadd hx hb dX10_readChain_62 ?_
            refine lv_topi (fun y_15 e_15 => ?_)
            obtain rfl : y_15 = 4 := e_15.trans (by decide)
            refine lv_iload_n hx hb dX10_readChain_63 rfl (lv_at hl 4 rfl) ?_
            obtain ⟨hPc, hDc, hFc⟩ := kk_cutout (wc := [(h0, kO10 h1 n0_size (i_8_1 + 1) h2), (h1, kAi cint 120 f1), (h2, kO4 h3 i_8_2 h4 h5 n2_top), (h3, kAi cint 128 f_8_3)]) hP hD hS hA [2, 3, 0, 1] (by decide) rfl
            have hKc := kk_Ks (tq := [(cint, .int)]) hK [0] rfl
            have := kk_add2 (x := i_8_1) (y := 1) (a := i_8_1.toInt) (b := 1) rfl rfl (by omega) (by omega)
            refine va_calli (va_runV (As := [.int 4, .int p1]) (rest := []) ⟨hx, hb, hml, hown, hts⟩ (ih0 dC dI h0 h1 h2 h3 h4 h5 cint H.size p1 tp1 n0_size (i_8_1 + 1) f1 i_8_2 n2_top f_8_3 tn0_size (by show 0 ≤ ((i_8_1 + 1) : Int32).toInt ∧ ((i_8_1 + 1) : Int32).toInt ≤ 120; first | with_reducible assumption | (constructor <;> (omega))) bf1 (by show 0 ≤ (i_8_2 : Int32).toInt ∧ (i_8_2 : Int32).toInt ≤ 128; first | with_reducible assumption | (constructor <;> (omega))) tn2_top (by show (6 ≤ (p1 : Int32).toInt + rk); first | with_reducible assumption | (omega)) (by show (0 ≤ ((i_8_1 + 1) : Int32).toInt ∧ ((i_8_1 + 1) : Int32).toInt ≤ (n0_size : Int32).toInt); first | with_reducible assumption | (refine ⟨?_, ?_⟩ <;> (first | with_reducible assumption | (omega)))) aNAMES) (cwV 2 hts gX10_readChain_X10_readChain rfl rfl rfl ⟨rfl, kh_X10_readChain⟩ ⟨Nat.add_le_add_right hF0 1, kk_rmL hL0 (Nat.le_of_ble_eq_true rfl)⟩) ⟨fun a U g mk q => by obtain ⟨q0, q1, qP, qK, qD, qx0, qx1⟩ := q; exact ⟨q0, q1, qP, va_K.moved (u := U) (U := U.calling g mk a) (Vm.Alike.refl U.vm) qK, qD, va_Z.moved (u := U) (U := U.calling g mk a) (Vm.Alike.refl U.vm) qx0, va_T.moved (u := U) (U := U.calling g mk a) (Vm.Alike.refl U.vm) qx1⟩, va_recv hKc hPc (ci := 10) (q0 := 0) rfl rfl, fun U hU hW => ⟨rfl, by rw [hU], by rw [hU]; exact hPc, va_K.moved hW.alike hKc, hDc.weaken (fun _ _ _ _ => trivial), by rw [hU]; exact ((hZNAMES.kept (fun a h1 h2 => hS.2.1 a h1 h2)).narrow hFc).moved hW.alike, by rw [hU]; exact ((hTNAMES.kept (fun a h1 h2 => hS.2.1 a h1 h2)).narrow hFc).moved hW.alike⟩⟩ rfl rfl hl.1 rfl (lv_room (Nat.le_of_ble_eq_true rfl)) dX10_readChain_64 ⟨Nat.le_of_ble_eq_true rfl, Nat.le_of_ble_eq_true rfl⟩) hS (fun q _ h => hFc q h) hFc (fun r_16 ug_16 t H1 locs ht hvm hw hB hz1 hk1 hS => ?_)
            obtain ⟨hu_16, hw⟩ := hw
            subst ug_16
            obtain ⟨y_17, y_18, f_19, by_17, by_18, hcase_19, hP1, hK1, hD1⟩ := hB
            rw [ht] at hP1
            have hK1 := va_K.moved hvm.symm hK1
            obtain ⟨hP, hD⟩ := va_join (wr := []) (w1 := [(h0, kO10 h1 n0_size y_17 h2), (h1, kAi cint 120 f1), (h2, kO4 h3 y_18 h4 h5 n2_top), (h3, kAi cint 128 f_19)]) hP hD [2, 3, 0, 1] [] rfl rfl (by decide) (by decide) hk1 hFc hP1 hD1
            generalize H1 = H at hP hS ⊢
            replace hP : va_P (dC, dI) vwCl [(h0, kO10 h1 n0_size y_17 h2), (h1, kAi cint 120 f1), (h2, kO4 h3 y_18 h4 h5 n2_top), (h3, kAi cint 128 f_19)] H := hP
            replace hD : va_D A [(h0, kO10 h1 n0_size y_17 h2), (h1, kAi cint 120 f1), (h2, kO4 h3 y_18 h4 h5 n2_top), (h3, kAi cint 128 f_19)] := hD
            rcases hcase_19 with ⟨w_16_0_0, rfl⟩ | ⟨w_16_1_0, rfl⟩
            · skip
              replace w_16_0_0 : (ko_R (ko_at f1 n0_size.toInt) (4 : Int) p1.toInt (i_8_1 + 1).toInt = -1 - y_17.toInt ∧ 0 ≤ y_17.toInt ∧ y_17.toInt ≤ n0_size.toInt) := w_16_0_0
              replace hP : va_P (dC, dI) vwCl [(h0, kO10 h1 n0_size y_17 h2), (h1, kAi cint 120 f1), (h2, kO4 h3 y_18 h4 h5 n2_top), (h3, kAi cint 128 f_19)] H := hP
              replace hD : va_D A [(h0, kO10 h1 n0_size y_17 h2), (h1, kAi cint 120 f1), (h2, kO4 h3 y_18 h4 h5 n2_top), (h3, kAi cint 128 f_19)] := hD
              refine W.eq (g2 := F0 m 67 ls [.int 0]) rfl ?_
              refine lv_if_ne (tgt := 72) hx hb dX10_readChain_67 (by decide) (fun c => absurd c (by decide)) (fun _ => ?_)
              have hk_20 : ko_L (ko_at f1 n0_size.toInt) (3 : Int) (p1.toInt : Int) (120 - i_8_0.toInt) i_8_1.toInt = -1 - y_17.toInt := ko_L_f (l' := (4 : Int)) (q1 := (i_8_1 + 1).toInt) (by omega) (by first | exact kd_ys3 (by with_reducible assumption) (by with_reducible assumption) | omega) (by decide) (by omega) (show ko_R (ko_at f1 n0_size.toInt) (4 : Int) (p1.toInt : Int) (i_8_1 + 1).toInt = -1 - y_17.toInt from (by omega)) (by omega)
              refine lv_iconst (v := 0) hx hb dX10_readChain_70 kk_ic_0 ?_
              obtain ⟨hP9, hD9⟩ := kk_leafout (wc := [(h0, kO10 h1 n0_size y_17 h2), (h1, kAi cint 120 f1), (h2, kO4 h3 y_18 h4 h5 n2_top), (h3, kAi cint 128 f_19)]) hP hD [0, 1, 2, 3] (by decide) rfl
              have hK9 := kk_Ks (tq := []) hK [] rfl
              exact W.zret (v := 0) hx hb hr rfl (fun t ht hW => ⟨⟨0, 0, rfl, ⟨rfl, trivial⟩, y_17, y_18, f_19, (by show 0 ≤ (y_17 : Int32).toInt ∧ (y_17 : Int32).toInt ≤ 120; first | with_reducible assumption | (constructor <;> (omega))), (by show 0 ≤ (y_18 : Int32).toInt ∧ (y_18 : Int32).toInt ≤ 128; first | with_reducible assumption | (constructor <;> (omega))), (Or.inl ⟨(by show (ko_R (ko_at f1 (n0_size : Int32).toInt) (3 : Int) (p1 : Int32).toInt (n0_place : Int32).toInt = -1 - (y_17 : Int32).toInt ∧ 0 ≤ (y_17 : Int32).toInt ∧ (y_17 : Int32).toInt ≤ (n0_size : Int32).toInt); first | with_reducible assumption | (refine ⟨?_, ?_, ?_⟩ <;> (first | with_reducible assumption | (omega)))), rfl⟩), by rw [ht]; exact hP9, va_K.moved hW.alike hK9, hD9⟩, hS.F ht⟩) hS.2.2 dX10_readChain_71
            · skip
              replace w_16_1_0 : (ko_R (ko_at f1 n0_size.toInt) (4 : Int) p1.toInt (i_8_1 + 1).toInt = y_17.toInt ∧ 0 ≤ y_17.toInt ∧ y_17.toInt ≤ n0_size.toInt) := w_16_1_0
              replace hP : va_P (dC, dI) vwCl [(h0, kO10 h1 n0_size y_17 h2), (h1, kAi cint 120 f1), (h2, kO4 h3 y_18 h4 h5 n2_top), (h3, kAi cint 128 f_19)] H := hP
              replace hD : va_D A [(h0, kO10 h1 n0_size y_17 h2), (h1, kAi cint 120 f1), (h2, kO4 h3 y_18 h4 h5 n2_top), (h3, kAi cint 128 f_19)] := hD
              refine W.eq (g2 := F0 m 67 ls [.int 1]) rfl ?_
              refine lv_if_ne (tgt := 72) hx hb dX10_readChain_67 (by decide) (fun _ => ?_) (fun c => absurd c (by decide))
              have := kk_add2 (x := i_8_0) (y := 1) (a := i_8_0.toInt) (b := 1) rfl rfl (by omega) (by omega)
              have hk_21 : ko_L (ko_at f1 n0_size.toInt) (3 : Int) (p1.toInt : Int) (120 - i_8_0.toInt) i_8_1.toInt = ko_L (ko_at f1 n0_size.toInt) (3 : Int) (p1.toInt : Int) (120 - (i_8_0 + 1).toInt) y_17.toInt := ko_L_s (l' := (4 : Int)) (q1 := (i_8_1 + 1).toInt) (by omega) (by first | exact kd_ys3 (by with_reducible assumption) (by with_reducible assumption) | omega) (by decide) (by decide) (by omega) (show ko_R (ko_at f1 n0_size.toInt) (4 : Int) (p1.toInt : Int) (i_8_1 + 1).toInt = y_17.toInt from (by omega)) (by omega) (by omega)
              refine lv_aload_n hx hb dX10_readChain_72 rfl (lv_at hl 2 rfl) ?_
              refine va_get (D := (dC, dI)) (ci := 10) (v := .ref h2) (C := RX10) (T := TX10) (N := 4) hx hb hts (fun _ h => List.mem_cons_of_mem _ (List.mem_append_left _ (List.mem_append_right _ h))) hown hK hP 0 rfl rfl 3 (by decide) (hts (.fieldLink RX10 20 "KinkStreet$Tape" "law" "LKinkStreet$Law;") (List.mem_of_getElem? (i := 2) rfl)) (fun _ h9 => h9) rfl dX10_readChain_73 ?_
              refine lv_iload hx hb dX10_readChain_76 (lv_at hl 0 rfl) ?_
              obtain ⟨hPc, hDc, hFc⟩ := kk_cutout (wc := [(h2, kO4 h3 y_18 h4 h5 n2_top), (h3, kAi cint 128 f_19)]) hP hD hS hA [2, 3] (by decide) rfl
              have hKc := kk_Ks (tq := [(cint, .int)]) hK [0] rfl
              refine va_callv (va_runV (As := [.int r_14]) (rest := []) ⟨hx, hb, hml, hown, hts⟩ (g_X4_append_0 l dC dI h2 h3 h4 h5 cint H.size r_14 y_18 n2_top f_19 (by show 0 ≤ (y_18 : Int32).toInt ∧ (y_18 : Int32).toInt ≤ 128; first | with_reducible assumption | (constructor <;> (omega))) tn2_top) (cwV 1 hts gX10_readChain_X4_append rfl rfl rfl ⟨rfl, kh_X4_append⟩ ⟨kk_rmF hF (Nat.le_of_ble_eq_true rfl), kk_rmM hL (Nat.le_of_ble_eq_true rfl)⟩) ⟨fun a U g mk q => by obtain ⟨q0, q1, qP, qK, qD⟩ := q; exact ⟨q0, q1, qP, va_K.moved (u := U) (U := U.calling g mk a) (Vm.Alike.refl U.vm) qK, qD⟩, va_recv hKc hPc (ci := 4) (q0 := 0) rfl rfl, fun U hU hW => ⟨rfl, by rw [hU], by rw [hU]; exact hPc, va_K.moved hW.alike hKc, hDc.weaken (fun _ _ _ _ => trivial)⟩⟩ rfl rfl hl.1 rfl (lv_room (Nat.le_of_ble_eq_true rfl)) dX10_readChain_78 ⟨Nat.le_of_ble_eq_true rfl, Nat.le_of_ble_eq_true rfl⟩) hS (fun q _ h => hFc q h) hFc (fun u t H1 locs ht hvm hw hB hz1 hk1 hS => ?_)
              obtain ⟨y_23, f_24, by_23, hP1, hK1, hD1⟩ := hB
              rw [ht] at hP1
              have hK1 := va_K.moved hvm.symm hK1
              obtain ⟨hP, hD⟩ := va_join (wr := [(h0, kO10 h1 n0_size y_17 h2), (h1, kAi cint 120 f1)]) (w1 := [(h2, kO4 h3 y_23 h4 h5 n2_top), (h3, kAi cint 128 f_24)]) hP hD [2, 3] [0, 1] rfl rfl (by decide) (by decide) hk1 hFc hP1 hD1
              generalize H1 = H at hP hS ⊢
              replace hP : va_P (dC, dI) vwCl [(h0, kO10 h1 n0_size y_17 h2), (h1, kAi cint 120 f1), (h2, kO4 h3 y_23 h4 h5 n2_top), (h3, kAi cint 128 f_24)] H := hP
              replace hD : va_D A [(h0, kO10 h1 n0_size y_17 h2), (h1, kAi cint 120 f1), (h2, kO4 h3 y_23 h4 h5 n2_top), (h3, kAi cint 128 f_24)] := hD
              refine lv_iload_n hx hb dX10_readChain_81 rfl (lv_at hl 3 rfl) ?_
              refine lv_iconst (v := 2) hx hb dX10_readChain_82 kk_ic_2 ?_
              refine lv_icmp_ne (tgt := 88) hx hb dX10_readChain_83 (by decide) (fun _ => ?_) (fun c => absurd c (by decide))
              refine lv_iinc (v := (i_8_0 + 1)) hx hb dX10_readChain_88 hl (k := 1) rfl (by first | rfl | decide) (by decide) (rfl : _ = ([(3, .int (i_8_0 + 1)), (4, .int r_14), (0, .ref h0), (1, .int 3), (2, .int p1)] : List (Nat × Value))) (fun ls hl => ?_)
              refine lv_goto (tgt := 26) hx hb dX10_readChain_91 (by decide) ?_
              exact ih_8 ((i_8_0 + 1), y_17, y_23, f_24) _ _ _ (by show ((120 : Int) - ((i_8_0 + 1) : Int32).toInt).toNat < ((120 : Int) - i_8_0.toInt).toNat; exact kk_mu (by omega) (by omega)) ⟨(by show 0 ≤ ((i_8_0 + 1) : Int32).toInt ∧ ((i_8_0 + 1) : Int32).toInt ≤ 120; first | with_reducible assumption | (constructor <;> (omega))), (by show 0 ≤ (y_17 : Int32).toInt ∧ (y_17 : Int32).toInt ≤ 120; first | with_reducible assumption | (constructor <;> (omega))), (by show 0 ≤ (y_23 : Int32).toInt ∧ (y_23 : Int32).toInt ≤ 128; first | with_reducible assumption | (constructor <;> (omega))), (by show 0 ≤ (y_17 : Int32).toInt; first | with_reducible assumption | (omega)), (by show (y_17 : Int32).toInt ≤ 120; first | with_reducible assumption | (omega)), (by show (ko_L (ko_at f1 (n0_size : Int32).toInt) (3 : Int) (p1 : Int32).toInt (120 - ((i_8_0 + 1) : Int32).toInt) (y_17 : Int32).toInt = ko_R (ko_at f1 (n0_size : Int32).toInt) (3 : Int) (p1 : Int32).toInt (n0_place : Int32).toInt ∧ 0 ≤ (y_17 : Int32).toInt ∧ (y_17 : Int32).toInt ≤ (n0_size : Int32).toInt); first | with_reducible assumption | (refine ⟨?_, ?_, ?_⟩ <;> (first | with_reducible assumption | (omega)))), hP, hD, hS, lv_sub hl [0, 2, 3, 4] rfl⟩
set_option maxHeartbeats 4000000 in
set_option maxRecDepth 100000 in
theorem s_X10_readChain_2v (l : Launch) (F L : Nat) (hF : 10 ≤ F) (hL : 200 ≤ L) (rk : Int) (Fq0 Lq0 : Nat) (hF0 : Fq0 ≤ F) (hL0 : Lq0 ≤ L) (ih0 : ka_X10_readChain_3v l Fq0 Lq0 rk) (dC : Nat → ClassId) (dI : Nat → Nat → Nat) (h0 : Nat) (h1 : Nat) (h2 : Nat) (h3 : Nat) (h4 : Nat) (h5 : Nat) (cint : ClassId) (sz : Nat) (p1 : Int32) (tp1 : 0 ≤ p1.toInt ∧ p1.toInt ≤ 6) (n0_size : Int32) (n0_place : Int32) (f1 : Nat → Int32) (n2_size : Int32) (n2_top : Int32) (f3 : Nat → Int32) (tn0_size : 0 ≤ n0_size.toInt ∧ n0_size.toInt ≤ 120) (tn0_place : 0 ≤ n0_place.toInt ∧ n0_place.toInt ≤ 120) (bf1 : ∀ j, j < 120 → 0 ≤ (f1 j).toInt ∧ (f1 j).toInt ≤ 255) (tn2_size : kk_bx (0 ≤ n2_size.toInt ∧ n2_size.toInt ≤ 128)) (tn2_top : kk_bx (0 ≤ n2_top.toInt ∧ n2_top.toInt ≤ 64)) (pr0 : (6 ≤ p1.toInt + rk)) (pr1 : (0 ≤ n0_place.toInt ∧ n0_place.toInt ≤ n0_size.toInt)) (aNAMES : Nat) : Met l yX10_readChain wsX10_readChain ({ frames := F + 1, cells := 0, slots := 0, locals := L + 24 }) (va_Pc [.ref h0, .int 2, .int p1] (fun U => U.heap.size = sz ∧ va_P (dC, dI) vwCl [(h0, kO10 h1 n0_size n0_place h2), (h1, kAi cint 120 f1), (h2, kO4 h3 n2_size h4 h5 n2_top), (h3, kAi cint 128 f3)] U.heap ∧ va_K (dC, dI) vwCl [(cint, .int)] U ∧ va_D (fun _ => True) [(h0, kO10 h1 n0_size n0_place h2), (h1, kAi cint 120 f1), (h2, kO4 h3 n2_size h4 h5 n2_top), (h3, kAi cint 128 f3)] ∧ va_Z "KinkStreet$Law" "NAMES" "[C" (.ref aNAMES) (va_A [(h0, kO10 h1 n0_size n0_place h2), (h1, kAi cint 120 f1), (h2, kO4 h3 n2_size h4 h5 n2_top), (h3, kAi cint 128 f3)] sz) U U.heap ∧ va_T .char aNAMES 8 tb_NAMES (va_A [(h0, kO10 h1 n0_size n0_place h2), (h1, kAi cint 120 f1), (h2, kO4 h3 n2_size h4 h5 n2_top), (h3, kAi cint 128 f3)] sz) U U.heap)) (va_Qi (fun (r : Int32) (u_ : Int32) => u_ = r ∧ True) (fun (u_ : Int32) t => ∃ (m0_place : Int32) (m2_size : Int32) (g3 : Nat → Int32), (0 ≤ m0_place.toInt ∧ m0_place.toInt ≤ 120) ∧ (0 ≤ m2_size.toInt ∧ m2_size.toInt ≤ 128) ∧ (((ko_R (ko_at f1 n0_size.toInt) (2 : Int) p1.toInt n0_place.toInt = -1 - m0_place.toInt ∧ 0 ≤ m0_place.toInt ∧ m0_place.toInt ≤ n0_size.toInt) ∧ u_ = (0 : Int32)) ∨ ((ko_R (ko_at f1 n0_size.toInt) (2 : Int) p1.toInt n0_place.toInt = m0_place.toInt ∧ 0 ≤ m0_place.toInt ∧ m0_place.toInt ≤ n0_size.toInt) ∧ u_ = (1 : Int32))) ∧ va_P (dC, dI) vwCl [(h0, kO10 h1 n0_size m0_place h2), (h1, kAi cint 120 f1), (h2, kO4 h3 m2_size h4 h5 n2_top), (h3, kAi cint 128 g3)] t.heap ∧ va_K (dC, dI) vwCl [] t ∧ va_D (va_A [(h0, kO10 h1 n0_size n0_place h2), (h1, kAi cint 120 f1), (h2, kO4 h3 n2_size h4 h5 n2_top), (h3, kAi cint 128 f3)] sz) [(h0, kO10 h1 n0_size m0_place h2), (h1, kAi cint 120 f1), (h2, kO4 h3 m2_size h4 h5 n2_top), (h3, kAi cint 128 g3)]) (va_A [(h0, kO10 h1 n0_size n0_place h2), (h1, kAi cint 120 f1), (h2, kO4 h3 n2_size h4 h5 n2_top), (h3, kAi cint 128 f3)] sz)) 0 0 (va_A [(h0, kO10 h1 n0_size n0_place h2), (h1, kAi cint 120 f1), (h2, kO4 h3 n2_size h4 h5 n2_top), (h3, kAi cint 128 f3)] sz) := by
  refine Met.ofW (cc := cX10_readChain) (maxL := 5) (ret := (some .boolean)) (by decide) rfl ?_
  intro p e s m args below meth c s₁ B hml hv
  obtain ⟨rfl, hsz, hP, hK, hD0, hZNAMES, hTNAMES⟩ := hv
  have hx := B.exec
  have hb := B.bytes
  have hr := B.returns
  have hts := atoms_spec (ws := wsX10_readChain) B.pre
  have hown : s.vm.findClass RX10 = some m.cls := findClass_of_methodNamed B.named
  have hlocks := B.notSynchronized
  subst hsz
  have hD := hD0.self (sz := s.heap.size)
  generalize hAe : va_A [(h0, kO10 h1 n0_size n0_place h2), (h1, kAi cint 120 f1), (h2, kO4 h3 n2_size h4 h5 n2_top), (h3, kAi cint 128 f3)] s.heap.size = A at hD hZNAMES hTNAMES ⊢
  have hA : ∀ q : Nat, s.heap.size ≤ q → A q := fun q h => by rw [← hAe]; exact Or.inr h
  have hS : va_S A s.heap s.heap [] := va_S.rf
  replace hP : va_P (dC, dI) vwCl [(h0, kO10 h1 n0_size n0_place h2), (h1, kAi cint 120 f1), (h2, kO4 h3 n2_size h4 h5 n2_top), (h3, kAi cint 128 f3)] s.heap := hP
  have hl := lv_entry ([.ref h0, .int 2, .int p1]) (n := 5) (Nat.le_of_ble_eq_true rfl)
  rw [lg_entry_eq]
  generalize (lg_sl ([.ref h0, .int 2, .int p1]) ++ List.replicate (5 - (lg_sl ([.ref h0, .int 2, .int p1])).length) Slot.unset).toArray = ls at hl ⊢
  replace hl : lv_has ls 5 [(0, .ref h0), (1, .int 2), (2, .int p1)] := hl
  refine lv_iload_n hx hb dX10_readChain_0 rfl (lv_at hl 1 rfl) ?_
  refine lv_iconst (v := 5) hx hb dX10_readChain_1 kk_ic_5 ?_
  refine lv_icmp_lt (tgt := 11) hx hb dX10_readChain_2 (by decide) (fun _ => ?_) (fun c => absurd c (by decide))
  refine lv_aload_n hx hb dX10_readChain_11 rfl (lv_at hl 0 rfl) ?_
  refine lv_iload_n hx hb dX10_readChain_12 rfl (lv_at hl 1 rfl) ?_
  refine lv_iconst (v := 1) hx hb dX10_readChain_13 kk_ic_1 ?_
  refine lv_iadd hx hb dX10_readChain_14 ?_
  refine lv_topi (fun y_1 e_1 => ?_)
  obtain rfl : y_1 = 3 := e_1.trans (by decide)
  refine lv_iload_n hx hb dX10_readChain_15 rfl (lv_at hl 2 rfl) ?_
  obtain ⟨hPc, hDc, hFc⟩ := kk_cutout (wc := [(h0, kO10 h1 n0_size n0_place h2), (h1, kAi cint 120 f1), (h2, kO4 h3 n2_size h4 h5 n2_top), (h3, kAi cint 128 f3)]) hP hD hS hA [0, 1, 2, 3] (by decide) rfl
  have hKc := kk_Ks (tq := [(cint, .int)]) hK [0] rfl
  refine va_calli (va_runV (As := [.int 3, .int p1]) (rest := []) ⟨hx, hb, hml, hown, hts⟩ (ih0 dC dI h0 h1 h2 h3 h4 h5 cint s.heap.size p1 tp1 n0_size n0_place f1 n2_size n2_top f3 tn0_size tn0_place bf1 tn2_size tn2_top (by show (6 ≤ (p1 : Int32).toInt + rk); first | with_reducible assumption | (omega)) (by show (0 ≤ (n0_place : Int32).toInt ∧ (n0_place : Int32).toInt ≤ (n0_size : Int32).toInt); first | with_reducible assumption | (refine ⟨?_, ?_⟩ <;> (first | with_reducible assumption | (omega)))) aNAMES) (cwV 2 hts gX10_readChain_X10_readChain rfl rfl rfl ⟨rfl, kh_X10_readChain⟩ ⟨Nat.add_le_add_right hF0 1, kk_rmL hL0 (Nat.le_of_ble_eq_true rfl)⟩) ⟨fun a U g mk q => by obtain ⟨q0, q1, qP, qK, qD, qx0, qx1⟩ := q; exact ⟨q0, q1, qP, va_K.moved (u := U) (U := U.calling g mk a) (Vm.Alike.refl U.vm) qK, qD, va_Z.moved (u := U) (U := U.calling g mk a) (Vm.Alike.refl U.vm) qx0, va_T.moved (u := U) (U := U.calling g mk a) (Vm.Alike.refl U.vm) qx1⟩, va_recv hKc hPc (ci := 10) (q0 := 0) rfl rfl, fun U hU hW => ⟨rfl, by rw [hU], by rw [hU]; exact hPc, va_K.moved hW.alike hKc, hDc.weaken (fun _ _ _ _ => trivial), by rw [hU]; exact ((hZNAMES.kept (fun a h1 h2 => hS.2.1 a h1 h2)).narrow hFc).moved hW.alike, by rw [hU]; exact ((hTNAMES.kept (fun a h1 h2 => hS.2.1 a h1 h2)).narrow hFc).moved hW.alike⟩⟩ rfl rfl hl.1 rfl (lv_room (Nat.le_of_ble_eq_true rfl)) dX10_readChain_16 ⟨Nat.le_of_ble_eq_true rfl, Nat.le_of_ble_eq_true rfl⟩) hS (fun q _ h => hFc q h) hFc (fun r_2 ug_2 t H1 locs ht hvm hw hB hz1 hk1 hS => ?_)
  obtain ⟨hu_2, hw⟩ := hw
  subst ug_2
  obtain ⟨y_3, y_4, f_5, by_3, by_4, hcase_5, hP1, hK1, hD1⟩ := hB
  rw [ht] at hP1
  have hK1 := va_K.moved hvm.symm hK1
  obtain ⟨hP, hD⟩ := va_join (wr := []) (w1 := [(h0, kO10 h1 n0_size y_3 h2), (h1, kAi cint 120 f1), (h2, kO4 h3 y_4 h4 h5 n2_top), (h3, kAi cint 128 f_5)]) hP hD [0, 1, 2, 3] [] rfl rfl (by decide) (by decide) hk1 hFc hP1 hD1
  generalize H1 = H at hP hS ⊢
  replace hP : va_P (dC, dI) vwCl [(h0, kO10 h1 n0_size y_3 h2), (h1, kAi cint 120 f1), (h2, kO4 h3 y_4 h4 h5 n2_top), (h3, kAi cint 128 f_5)] H := hP
  replace hD : va_D A [(h0, kO10 h1 n0_size y_3 h2), (h1, kAi cint 120 f1), (h2, kO4 h3 y_4 h4 h5 n2_top), (h3, kAi cint 128 f_5)] := hD
  rcases hcase_5 with ⟨w_2_0_0, rfl⟩ | ⟨w_2_1_0, rfl⟩
  · skip
    replace w_2_0_0 : (ko_R (ko_at f1 n0_size.toInt) (3 : Int) p1.toInt n0_place.toInt = -1 - y_3.toInt ∧ 0 ≤ y_3.toInt ∧ y_3.toInt ≤ n0_size.toInt) := w_2_0_0
    replace hP : va_P (dC, dI) vwCl [(h0, kO10 h1 n0_size y_3 h2), (h1, kAi cint 120 f1), (h2, kO4 h3 y_4 h4 h5 n2_top), (h3, kAi cint 128 f_5)] H := hP
    replace hD : va_D A [(h0, kO10 h1 n0_size y_3 h2), (h1, kAi cint 120 f1), (h2, kO4 h3 y_4 h4 h5 n2_top), (h3, kAi cint 128 f_5)] := hD
    refine W.eq (g2 := F0 m 19 ls [.int 0]) rfl ?_
    refine lv_if_ne (tgt := 24) hx hb dX10_readChain_19 (by decide) (fun c => absurd c (by decide)) (fun _ => ?_)
    have hk_6 : ko_R (ko_at f1 n0_size.toInt) (2 : Int) (p1.toInt : Int) n0_place.toInt = -1 - y_3.toInt := ko_cf (l' := (3 : Int)) (by decide) (by decide) (show ko_R (ko_at f1 n0_size.toInt) (3 : Int) (p1.toInt : Int) n0_place.toInt = -1 - y_3.toInt from (by omega)) (by omega)
    refine lv_iconst (v := 0) hx hb dX10_readChain_22 kk_ic_0 ?_
    obtain ⟨hP9, hD9⟩ := kk_leafout (wc := [(h0, kO10 h1 n0_size y_3 h2), (h1, kAi cint 120 f1), (h2, kO4 h3 y_4 h4 h5 n2_top), (h3, kAi cint 128 f_5)]) hP hD [0, 1, 2, 3] (by decide) rfl
    have hK9 := kk_Ks (tq := []) hK [] rfl
    exact W.zret (v := 0) hx hb hr rfl (fun t ht hW => ⟨⟨0, 0, rfl, ⟨rfl, trivial⟩, y_3, y_4, f_5, (by show 0 ≤ (y_3 : Int32).toInt ∧ (y_3 : Int32).toInt ≤ 120; first | with_reducible assumption | (constructor <;> (omega))), (by show 0 ≤ (y_4 : Int32).toInt ∧ (y_4 : Int32).toInt ≤ 128; first | with_reducible assumption | (constructor <;> (omega))), (Or.inl ⟨(by show (ko_R (ko_at f1 (n0_size : Int32).toInt) (2 : Int) (p1 : Int32).toInt (n0_place : Int32).toInt = -1 - (y_3 : Int32).toInt ∧ 0 ≤ (y_3 : Int32).toInt ∧ (y_3 : Int32).toInt ≤ (n0_size : Int32).toInt); first | with_reducible assumption | (refine ⟨?_, ?_, ?_⟩ <;> (first | with_reducible assumption | (omega)))), rfl⟩), by rw [ht]; exact hP9, va_K.moved hW.alike hK9, hD9⟩, hS.F ht⟩) hS.2.2 dX10_readChain_23
  · skip
    replace w_2_1_0 : (ko_R (ko_at f1 n0_size.toInt) (3 : Int) p1.toInt n0_place.toInt = y_3.toInt ∧ 0 ≤ y_3.toInt ∧ y_3.toInt ≤ n0_size.toInt) := w_2_1_0
    replace hP : va_P (dC, dI) vwCl [(h0, kO10 h1 n0_size y_3 h2), (h1, kAi cint 120 f1), (h2, kO4 h3 y_4 h4 h5 n2_top), (h3, kAi cint 128 f_5)] H := hP
    replace hD : va_D A [(h0, kO10 h1 n0_size y_3 h2), (h1, kAi cint 120 f1), (h2, kO4 h3 y_4 h4 h5 n2_top), (h3, kAi cint 128 f_5)] := hD
    refine W.eq (g2 := F0 m 19 ls [.int 1]) rfl ?_
    refine lv_if_ne (tgt := 24) hx hb dX10_readChain_19 (by decide) (fun _ => ?_) (fun c => absurd c (by decide))
    have hk_7 : ko_L (ko_at f1 n0_size.toInt) (2 : Int) (p1.toInt : Int) (120 - (0 : Int)) y_3.toInt = ko_R (ko_at f1 n0_size.toInt) (2 : Int) (p1.toInt : Int) n0_place.toInt := ko_c0 (l' := (3 : Int)) (by decide) (by decide) (show ko_R (ko_at f1 n0_size.toInt) (3 : Int) (p1.toInt : Int) n0_place.toInt = y_3.toInt from (by omega)) (by omega) (by decide)
    refine lv_iconst (v := 0) hx hb dX10_readChain_24 kk_ic_0 ?_
    refine lv_istore_n hx hb dX10_readChain_25 rfl hl (by decide) (rfl : _ = ([(3, .int 0), (0, .ref h0), (1, .int 2), (2, .int p1)] : List (Nat × Value))) (fun ls hl => ?_)
    refine kk_loop (σ := Unit) (fun x H locs ls => 0 ≤ y_3.toInt ∧ y_3.toInt ≤ 120 ∧ (ko_L (ko_at f1 n0_size.toInt) (2 : Int) p1.toInt (120 - (0 : Int)) y_3.toInt = ko_R (ko_at f1 n0_size.toInt) (2 : Int) p1.toInt n0_place.toInt ∧ 0 ≤ y_3.toInt ∧ y_3.toInt ≤ n0_size.toInt) ∧ va_P (dC, dI) vwCl [(h0, kO10 h1 n0_size y_3 h2), (h1, kAi cint 120 f1), (h2, kO4 h3 y_4 h4 h5 n2_top), (h3, kAi cint 128 f_5)] H ∧ va_D A [(h0, kO10 h1 n0_size y_3 h2), (h1, kAi cint 120 f1), (h2, kO4 h3 y_4 h4 h5 n2_top), (h3, kAi cint 128 f_5)] ∧ va_S A s.heap H locs ∧ lv_has ls 5 [(3, .int 0), (0, .ref h0), (1, .int 2), (2, .int p1)]) (fun x => 0) ?_ () _ _ _ ⟨(by show 0 ≤ (y_3 : Int32).toInt; first | with_reducible assumption | (omega)), (by show (y_3 : Int32).toInt ≤ 120; first | with_reducible assumption | (omega)), (by show (ko_L (ko_at f1 (n0_size : Int32).toInt) (2 : Int) (p1 : Int32).toInt (120 - (0 : Int)) (y_3 : Int32).toInt = ko_R (ko_at f1 (n0_size : Int32).toInt) (2 : Int) (p1 : Int32).toInt (n0_place : Int32).toInt ∧ 0 ≤ (y_3 : Int32).toInt ∧ (y_3 : Int32).toInt ≤ (n0_size : Int32).toInt); first | with_reducible assumption | (refine ⟨?_, ?_, ?_⟩ <;> (first | with_reducible assumption | (omega)))), hP, hD, hS, hl⟩
    rintro _ H locs ls ⟨z_8_0, z_8_1, z_8_2, hP, hD, hS, hl⟩ ih_8
    replace z_8_0 : 0 ≤ y_3.toInt := z_8_0
    replace z_8_1 : y_3.toInt ≤ 120 := z_8_1
    replace z_8_2 : (ko_L (ko_at f1 n0_size.toInt) (2 : Int) p1.toInt (120 - (0 : Int)) y_3.toInt = ko_R (ko_at f1 n0_size.toInt) (2 : Int) p1.toInt n0_place.toInt ∧ 0 ≤ y_3.toInt ∧ y_3.toInt ≤ n0_size.toInt) := z_8_2
    replace hl : lv_has ls 5 [(3, .int 0), (0, .ref h0), (1, .int 2), (2, .int p1)] := hl
    replace hP : va_P (dC, dI) vwCl [(h0, kO10 h1 n0_size y_3 h2), (h1, kAi cint 120 f1), (h2, kO4 h3 y_4 h4 h5 n2_top), (h3, kAi cint 128 f_5)] H := hP
    replace hD : va_D A [(h0, kO10 h1 n0_size y_3 h2), (h1, kAi cint 120 f1), (h2, kO4 h3 y_4 h4 h5 n2_top), (h3, kAi cint 128 f_5)] := hD
    refine lv_iload_n hx hb dX10_readChain_26 rfl (lv_at hl 0 rfl) ?_
    refine lv_bipush (v := 120) hx hb dX10_readChain_27 kk_bi_120 ?_
    refine lv_icmp_ge (tgt := 94) hx hb dX10_readChain_29 (by decide) (fun c => absurd c (by decide)) (fun _ => ?_)
    refine lv_iload_n hx hb dX10_readChain_32 rfl (lv_at hl 2 rfl) ?_
    refine lv_aload_n hx hb dX10_readChain_33 rfl (lv_at hl 1 rfl) ?_
    obtain ⟨hPc, hDc, hFc⟩ := kk_cutout (wc := [(h0, kO10 h1 n0_size y_3 h2), (h1, kAi cint 120 f1)]) hP hD hS hA [0, 1] (by decide) rfl
    have hKc := kk_Ks (tq := [(cint, .int)]) hK [0] rfl
    refine va_calli (va_runV (As := []) (rest := [.int 2]) ⟨hx, hb, hml, hown, hts⟩ (g_X10_next_1 l dC dI h0 h1 h2 cint H.size n0_size y_3 f1 tn0_size (by show 0 ≤ (y_3 : Int32).toInt ∧ (y_3 : Int32).toInt ≤ 120; first | with_reducible assumption | (constructor <;> (omega))) bf1 (by show (0 ≤ (y_3 : Int32).toInt ∧ (y_3 : Int32).toInt ≤ (n0_size : Int32).toInt); first | with_reducible assumption | (refine ⟨?_, ?_⟩ <;> (first | with_reducible assumption | (omega))))) (cwV 0 hts gX10_readChain_X10_next rfl rfl rfl ⟨rfl, kh_X10_next⟩ ⟨kk_rmF hF (Nat.le_of_ble_eq_true rfl), kk_rmM hL (Nat.le_of_ble_eq_true rfl)⟩) ⟨fun a U g mk q => by obtain ⟨q0, q1, qP, qK, qD⟩ := q; exact ⟨q0, q1, qP, va_K.moved (u := U) (U := U.calling g mk a) (Vm.Alike.refl U.vm) qK, qD⟩, va_recv hKc hPc (ci := 10) (q0 := 0) rfl rfl, fun U hU hW => ⟨rfl, by rw [hU], by rw [hU]; exact hPc, va_K.moved hW.alike hKc, hDc.weaken (fun _ _ _ _ => trivial)⟩⟩ rfl rfl hl.1 rfl (lv_room (Nat.le_of_ble_eq_true rfl)) dX10_readChain_34 ⟨Nat.le_of_ble_eq_true rfl, Nat.le_of_ble_eq_true rfl⟩) hS (fun q _ h => hFc q h) hFc (fun r_9 u t H1 locs ht hvm hw hB hz1 hk1 hS => ?_)
    obtain ⟨hP1, hK1, hD1⟩ := hB
    rw [ht] at hP1
    have hK1 := va_K.moved hvm.symm hK1
    obtain ⟨hP, hD⟩ := va_join (wr := [(h2, kO4 h3 y_4 h4 h5 n2_top), (h3, kAi cint 128 f_5)]) (w1 := [(h0, kO10 h1 n0_size y_3 h2), (h1, kAi cint 120 f1)]) hP hD [0, 1] [2, 3] rfl rfl (by decide) (by decide) hk1 hFc hP1 hD1
    generalize H1 = H at hP hS ⊢
    replace hP : va_P (dC, dI) vwCl [(h2, kO4 h3 y_4 h4 h5 n2_top), (h3, kAi cint 128 f_5), (h0, kO10 h1 n0_size y_3 h2), (h1, kAi cint 120 f1)] H := hP
    replace hD : va_D A [(h2, kO4 h3 y_4 h4 h5 n2_top), (h3, kAi cint 128 f_5), (h0, kO10 h1 n0_size y_3 h2), (h1, kAi cint 120 f1)] := hD
    rcases hw with ⟨t_9_0, t_9_any⟩
    · skip
      replace t_9_0 : (((y_3.toInt < n0_size.toInt) → r_9.toInt = ko_at f1 n0_size.toInt y_3.toInt ∧ 0 ≤ r_9.toInt) ∧ (n0_size.toInt ≤ y_3.toInt → r_9.toInt = -1 ∧ ko_at f1 n0_size.toInt y_3.toInt = 0)) := t_9_0
      obtain ⟨hPc, hDc, hFc⟩ := kk_cutout (wc := []) hP hD hS hA [] (by decide) rfl
      have hKc := kk_Ks (tq := []) hK [] rfl
      refine va_calli (va_runS (As := [.int 2, .int r_9]) (rest := []) ⟨hx, hb, hml, hown, hts⟩ (g_X10_joins_7 l dC dI H.size r_9) (va_cwS 2 hts gX10_readChain_X10_joins rfl rfl rfl kh_X10_joins ⟨kk_rmF hF (Nat.le_of_ble_eq_true rfl), kk_rmM hL (Nat.le_of_ble_eq_true rfl)⟩) ⟨fun a U g mk q => by obtain ⟨q0, q1, qP, qK, qD⟩ := q; exact ⟨q0, q1, qP, va_K.moved (u := U) (U := U.calling g mk a) (Vm.Alike.refl U.vm) qK, qD⟩, fun U hU hW => ⟨rfl, by rw [hU], by rw [hU]; exact hPc, va_K.moved hW.alike hKc, hDc.weaken (fun _ _ _ _ => trivial)⟩⟩ rfl rfl hl.1 rfl (lv_room (Nat.le_of_ble_eq_true rfl)) dX10_readChain_37 ⟨Nat.le_of_ble_eq_true rfl, Nat.le_of_ble_eq_true rfl⟩) hS (fun q _ h => hFc q h) hFc (fun r_10 u t H1 locs ht hvm hw hB hz1 hk1 hS => ?_)
      obtain ⟨hP1, hK1, hD1⟩ := hB
      rw [ht] at hP1
      have hK1 := va_K.moved hvm.symm hK1
      obtain ⟨hP, hD⟩ := va_join (wr := [(h2, kO4 h3 y_4 h4 h5 n2_top), (h3, kAi cint 128 f_5), (h0, kO10 h1 n0_size y_3 h2), (h1, kAi cint 120 f1)]) (w1 := []) hP hD [] [0, 1, 2, 3] rfl rfl (by decide) (by decide) hk1 hFc hP1 hD1
      generalize H1 = H at hP hS ⊢
      replace hP : va_P (dC, dI) vwCl [(h2, kO4 h3 y_4 h4 h5 n2_top), (h3, kAi cint 128 f_5), (h0, kO10 h1 n0_size y_3 h2), (h1, kAi cint 120 f1)] H := hP
      replace hD : va_D A [(h2, kO4 h3 y_4 h4 h5 n2_top), (h3, kAi cint 128 f_5), (h0, kO10 h1 n0_size y_3 h2), (h1, kAi cint 120 f1)] := hD
      rcases hw with ⟨t_10_0, t_10_1, t_10_2, t_10_3, rfl⟩ | ⟨t_10_0, rfl⟩
      · skip
        replace t_10_0 : (r_9.toInt : Int) ≠ 60 := t_10_0
        replace t_10_1 : (r_9.toInt : Int) ≠ 61 := t_10_1
        replace t_10_2 : (r_9.toInt : Int) ≠ 62 := t_10_2
        replace t_10_3 : (r_9.toInt < 60 ∨ 62 < r_9.toInt) := t_10_3
        refine lv_if_eq (tgt := 94) hx hb dX10_readChain_40 (by decide) (fun _ => ?_) (fun c => absurd c (by decide))
        have hk_11 : ko_L (ko_at f1 n0_size.toInt) (2 : Int) (p1.toInt : Int) (120 - (0 : Int)) y_3.toInt = y_3.toInt := ko_L_no (by first | exact kd_no2 (by with_reducible assumption) (by with_reducible assumption) | exact Or.inl (by omega) | omega)
        refine lv_iconst (v := 1) hx hb dX10_readChain_94 kk_ic_1 ?_
        obtain ⟨hP9, hD9⟩ := kk_leafout (wc := [(h0, kO10 h1 n0_size y_3 h2), (h1, kAi cint 120 f1), (h2, kO4 h3 y_4 h4 h5 n2_top), (h3, kAi cint 128 f_5)]) hP hD [2, 3, 0, 1] (by decide) rfl
        have hK9 := kk_Ks (tq := []) hK [] rfl
        exact W.zret (v := 1) hx hb hr rfl (fun t ht hW => ⟨⟨1, 1, rfl, ⟨rfl, trivial⟩, y_3, y_4, f_5, (by show 0 ≤ (y_3 : Int32).toInt ∧ (y_3 : Int32).toInt ≤ 120; first | with_reducible assumption | (constructor <;> (omega))), (by show 0 ≤ (y_4 : Int32).toInt ∧ (y_4 : Int32).toInt ≤ 128; first | with_reducible assumption | (constructor <;> (omega))), (Or.inr ⟨(by show (ko_R (ko_at f1 (n0_size : Int32).toInt) (2 : Int) (p1 : Int32).toInt (n0_place : Int32).toInt = (y_3 : Int32).toInt ∧ 0 ≤ (y_3 : Int32).toInt ∧ (y_3 : Int32).toInt ≤ (n0_size : Int32).toInt); first | with_reducible assumption | (refine ⟨?_, ?_, ?_⟩ <;> (first | with_reducible assumption | (omega)))), rfl⟩), by rw [ht]; exact hP9, va_K.moved hW.alike hK9, hD9⟩, hS.F ht⟩) hS.2.2 dX10_readChain_95
      · skip
        replace t_10_0 : (60 ≤ r_9.toInt ∧ r_9.toInt ≤ 62) := t_10_0
        refine lv_if_eq (tgt := 94) hx hb dX10_readChain_40 (by decide) (fun c => absurd c (by decide)) (fun _ => ?_)
        refine lv_aload_n hx hb dX10_readChain_43 rfl (lv_at hl 1 rfl) ?_
        obtain ⟨hPc, hDc, hFc⟩ := kk_cutout (wc := [(h0, kO10 h1 n0_size y_3 h2), (h1, kAi cint 120 f1)]) hP hD hS hA [2, 3] (by decide) rfl
        have hKc := kk_Ks (tq := [(cint, .int)]) hK [0] rfl
        refine va_calli (va_runV (As := []) (rest := []) ⟨hx, hb, hml, hown, hts⟩ (g_X10_next_1 l dC dI h0 h1 h2 cint H.size n0_size y_3 f1 tn0_size (by show 0 ≤ (y_3 : Int32).toInt ∧ (y_3 : Int32).toInt ≤ 120; first | with_reducible assumption | (constructor <;> (omega))) bf1 (by show (0 ≤ (y_3 : Int32).toInt ∧ (y_3 : Int32).toInt ≤ (n0_size : Int32).toInt); first | with_reducible assumption | (refine ⟨?_, ?_⟩ <;> (first | with_reducible assumption | (omega))))) (cwV 0 hts gX10_readChain_X10_next rfl rfl rfl ⟨rfl, kh_X10_next⟩ ⟨kk_rmF hF (Nat.le_of_ble_eq_true rfl), kk_rmM hL (Nat.le_of_ble_eq_true rfl)⟩) ⟨fun a U g mk q => by obtain ⟨q0, q1, qP, qK, qD⟩ := q; exact ⟨q0, q1, qP, va_K.moved (u := U) (U := U.calling g mk a) (Vm.Alike.refl U.vm) qK, qD⟩, va_recv hKc hPc (ci := 10) (q0 := 0) rfl rfl, fun U hU hW => ⟨rfl, by rw [hU], by rw [hU]; exact hPc, va_K.moved hW.alike hKc, hDc.weaken (fun _ _ _ _ => trivial)⟩⟩ rfl rfl hl.1 rfl (lv_room (Nat.le_of_ble_eq_true rfl)) dX10_readChain_44 ⟨Nat.le_of_ble_eq_true rfl, Nat.le_of_ble_eq_true rfl⟩) hS (fun q _ h => hFc q h) hFc (fun r_12 u t H1 locs ht hvm hw hB hz1 hk1 hS => ?_)
        obtain ⟨hP1, hK1, hD1⟩ := hB
        rw [ht] at hP1
        have hK1 := va_K.moved hvm.symm hK1
        obtain ⟨hP, hD⟩ := va_join (wr := [(h2, kO4 h3 y_4 h4 h5 n2_top), (h3, kAi cint 128 f_5)]) (w1 := [(h0, kO10 h1 n0_size y_3 h2), (h1, kAi cint 120 f1)]) hP hD [2, 3] [0, 1] rfl rfl (by decide) (by decide) hk1 hFc hP1 hD1
        generalize H1 = H at hP hS ⊢
        replace hP : va_P (dC, dI) vwCl [(h2, kO4 h3 y_4 h4 h5 n2_top), (h3, kAi cint 128 f_5), (h0, kO10 h1 n0_size y_3 h2), (h1, kAi cint 120 f1)] H := hP
        replace hD : va_D A [(h2, kO4 h3 y_4 h4 h5 n2_top), (h3, kAi cint 128 f_5), (h0, kO10 h1 n0_size y_3 h2), (h1, kAi cint 120 f1)] := hD
        rcases hw with ⟨t_12_0, t_12_any⟩
        · skip
          replace t_12_0 : (((y_3.toInt < n0_size.toInt) → r_12.toInt = ko_at f1 n0_size.toInt y_3.toInt ∧ 0 ≤ r_12.toInt) ∧ (n0_size.toInt ≤ y_3.toInt → r_12.toInt = -1 ∧ ko_at f1 n0_size.toInt y_3.toInt = 0)) := t_12_0
          refine lv_istore hx hb dX10_readChain_47 hl (by decide) (rfl : _ = ([(4, .int r_12), (3, .int 0), (0, .ref h0), (1, .int 2), (2, .int p1)] : List (Nat × Value))) (fun ls hl => ?_)
          refine lv_aload_n hx hb dX10_readChain_49 rfl (lv_at hl 2 rfl) ?_
          refine lv_dup hx hb dX10_readChain_50 rfl ?_
          refine va_get (D := (dC, dI)) (ci := 10) (v := .int y_3) (C := RX10) (T := TX10) (N := 4) hx hb hts (fun _ h => List.mem_cons_of_mem _ (List.mem_append_left _ (List.mem_append_right _ h))) hown hK hP 2 rfl rfl 2 (by decide) (hts (.fieldLink RX10 17 "KinkStreet$Tape" "place" "I") (List.mem_of_getElem? (i := 1) rfl)) (fun _ h9 => h9) rfl dX10_readChain_51 ?_
          refine lv_iconst (v := 1) hx hb dX10_readChain_54 kk_ic_1 ?_
          refine lv_iadd hx hb dX10_readChain_55 ?_
          refine va_put (D := (dC, dI)) (ci := 10) (v := .int (y_3 + 1)) (ty := .int) (C := RX10) (T := TX10) (N := 4) hx hb hts (fun _ h => List.mem_cons_of_mem _ (List.mem_append_left _ (List.mem_append_right _ h))) tyX10 tyX10_ok nmX10 hown hK hP hD hS 2 rfl rfl 2 (by decide) (hts (.fieldLink RX10 17 "KinkStreet$Tape" "place" "I") (List.mem_of_getElem? (i := 1) rfl)) (fun _ h9 => h9) rfl (by decide +kernel) rfl rfl (Nat.le_of_ble_eq_true rfl) dX10_readChain_56 (fun H locs hP hD hS => ?_)
          replace hP : va_P (dC, dI) vwCl [(h2, kO4 h3 y_4 h4 h5 n2_top), (h3, kAi cint 128 f_5), (h0, kO10 h1 n0_size (y_3 + 1) h2), (h1, kAi cint 120 f1)] H := hP
          replace hD : va_D A [(h2, kO4 h3 y_4 h4 h5 n2_top), (h3, kAi cint 128 f_5), (h0, kO10 h1 n0_size (y_3 + 1) h2), (h1, kAi cint 120 f1)] := hD
          refine lv_aload_n hx hb dX10_readChain_59 rfl (lv_at hl 2 rfl) ?_
          refine lv_iload_n hx hb dX10_readChain_60 rfl (lv_at hl 3 rfl) ?_
          refine lv_iconst (v := 1) hx hb dX10_readChain_61 kk_ic_1 ?_
          refine lv_iadd hx hb dX10_readChain_62 ?_
          refine lv_topi (fun y_13 e_13 => ?_)
          obtain rfl : y_13 = 3 := e_13.trans (by decide)
          refine lv_iload_n hx hb dX10_readChain_63 rfl (lv_at hl 4 rfl) ?_
          obtain ⟨hPc, hDc, hFc⟩ := kk_cutout (wc := [(h0, kO10 h1 n0_size (y_3 + 1) h2), (h1, kAi cint 120 f1), (h2, kO4 h3 y_4 h4 h5 n2_top), (h3, kAi cint 128 f_5)]) hP hD hS hA [2, 3, 0, 1] (by decide) rfl
          have hKc := kk_Ks (tq := [(cint, .int)]) hK [0] rfl
          have := kk_add2 (x := y_3) (y := 1) (a := y_3.toInt) (b := 1) rfl rfl (by omega) (by omega)
          refine va_calli (va_runV (As := [.int 3, .int p1]) (rest := []) ⟨hx, hb, hml, hown, hts⟩ (ih0 dC dI h0 h1 h2 h3 h4 h5 cint H.size p1 tp1 n0_size (y_3 + 1) f1 y_4 n2_top f_5 tn0_size (by show 0 ≤ ((y_3 + 1) : Int32).toInt ∧ ((y_3 + 1) : Int32).toInt ≤ 120; first | with_reducible assumption | (constructor <;> (omega))) bf1 (by show 0 ≤ (y_4 : Int32).toInt ∧ (y_4 : Int32).toInt ≤ 128; first | with_reducible assumption | (constructor <;> (omega))) tn2_top (by show (6 ≤ (p1 : Int32).toInt + rk); first | with_reducible assumption | (omega)) (by show (0 ≤ ((y_3 + 1) : Int32).toInt ∧ ((y_3 + 1) : Int32).toInt ≤ (n0_size : Int32).toInt); first | with_reducible assumption | (refine ⟨?_, ?_⟩ <;> (first | with_reducible assumption | (omega)))) aNAMES) (cwV 2 hts gX10_readChain_X10_readChain rfl rfl rfl ⟨rfl, kh_X10_readChain⟩ ⟨Nat.add_le_add_right hF0 1, kk_rmL hL0 (Nat.le_of_ble_eq_true rfl)⟩) ⟨fun a U g mk q => by obtain ⟨q0, q1, qP, qK, qD, qx0, qx1⟩ := q; exact ⟨q0, q1, qP, va_K.moved (u := U) (U := U.calling g mk a) (Vm.Alike.refl U.vm) qK, qD, va_Z.moved (u := U) (U := U.calling g mk a) (Vm.Alike.refl U.vm) qx0, va_T.moved (u := U) (U := U.calling g mk a) (Vm.Alike.refl U.vm) qx1⟩, va_recv hKc hPc (ci := 10) (q0 := 0) rfl rfl, fun U hU hW => ⟨rfl, by rw [hU], by rw [hU]; exact hPc, va_K.moved hW.alike hKc, hDc.weaken (fun _ _ _ _ => trivial), by rw [hU]; exact ((hZNAMES.kept (fun a h1 h2 => hS.2.1 a h1 h2)).narrow hFc).moved hW.alike, by rw [hU]; exact ((hTNAMES.kept (fun a h1 h2 => hS.2.1 a h1 h2)).narrow hFc).moved hW.alike⟩⟩ rfl rfl hl.1 rfl (lv_room (Nat.le_of_ble_eq_true rfl)) dX10_readChain_64 ⟨Nat.le_of_ble_eq_true rfl, Nat.le_of_ble_eq_true rfl⟩) hS (fun q _ h => hFc q h) hFc (fun r_14 ug_14 t H1 locs ht hvm hw hB hz1 hk1 hS => ?_)
          obtain ⟨hu_14, hw⟩ := hw
          subst ug_14
          obtain ⟨y_15, y_16, f_17, by_15, by_16, hcase_17, hP1, hK1, hD1⟩ := hB
          rw [ht] at hP1
          have hK1 := va_K.moved hvm.symm hK1
          obtain ⟨hP, hD⟩ := va_join (wr := []) (w1 := [(h0, kO10 h1 n0_size y_15 h2), (h1, kAi cint 120 f1), (h2, kO4 h3 y_16 h4 h5 n2_top), (h3, kAi cint 128 f_17)]) hP hD [2, 3, 0, 1] [] rfl rfl (by decide) (by decide) hk1 hFc hP1 hD1
          generalize H1 = H at hP hS ⊢
          replace hP : va_P (dC, dI) vwCl [(h0, kO10 h1 n0_size y_15 h2), (h1, kAi cint 120 f1), (h2, kO4 h3 y_16 h4 h5 n2_top), (h3, kAi cint 128 f_17)] H := hP
          replace hD : va_D A [(h0, kO10 h1 n0_size y_15 h2), (h1, kAi cint 120 f1), (h2, kO4 h3 y_16 h4 h5 n2_top), (h3, kAi cint 128 f_17)] := hD
          rcases hcase_17 with ⟨w_14_0_0, rfl⟩ | ⟨w_14_1_0, rfl⟩
          · skip
            replace w_14_0_0 : (ko_R (ko_at f1 n0_size.toInt) (3 : Int) p1.toInt (y_3 + 1).toInt = -1 - y_15.toInt ∧ 0 ≤ y_15.toInt ∧ y_15.toInt ≤ n0_size.toInt) := w_14_0_0
            replace hP : va_P (dC, dI) vwCl [(h0, kO10 h1 n0_size y_15 h2), (h1, kAi cint 120 f1), (h2, kO4 h3 y_16 h4 h5 n2_top), (h3, kAi cint 128 f_17)] H := hP
            replace hD : va_D A [(h0, kO10 h1 n0_size y_15 h2), (h1, kAi cint 120 f1), (h2, kO4 h3 y_16 h4 h5 n2_top), (h3, kAi cint 128 f_17)] := hD
            refine W.eq (g2 := F0 m 67 ls [.int 0]) rfl ?_
            refine lv_if_ne (tgt := 72) hx hb dX10_readChain_67 (by decide) (fun c => absurd c (by decide)) (fun _ => ?_)
            have hk_18 : ko_L (ko_at f1 n0_size.toInt) (2 : Int) (p1.toInt : Int) (120 - (0 : Int)) y_3.toInt = -1 - y_15.toInt := ko_L_f (l' := (3 : Int)) (q1 := (y_3 + 1).toInt) (by omega) (by first | exact kd_ys2 (by with_reducible assumption) (by with_reducible assumption) | omega) (by decide) (by omega) (show ko_R (ko_at f1 n0_size.toInt) (3 : Int) (p1.toInt : Int) (y_3 + 1).toInt = -1 - y_15.toInt from (by omega)) (by omega)
            refine lv_iconst (v := 0) hx hb dX10_readChain_70 kk_ic_0 ?_
            obtain ⟨hP9, hD9⟩ := kk_leafout (wc := [(h0, kO10 h1 n0_size y_15 h2), (h1, kAi cint 120 f1), (h2, kO4 h3 y_16 h4 h5 n2_top), (h3, kAi cint 128 f_17)]) hP hD [0, 1, 2, 3] (by decide) rfl
            have hK9 := kk_Ks (tq := []) hK [] rfl
            exact W.zret (v := 0) hx hb hr rfl (fun t ht hW => ⟨⟨0, 0, rfl, ⟨rfl, trivial⟩, y_15, y_16, f_17, (by show 0 ≤ (y_15 : Int32).toInt ∧ (y_15 : Int32).toInt ≤ 120; first | with_reducible assumption | (constructor <;> (omega))), (by show 0 ≤ (y_16 : Int32).toInt ∧ (y_16 : Int32).toInt ≤ 128; first | with_reducible assumption | (constructor <;> (omega))), (Or.inl ⟨(by show (ko_R (ko_at f1 (n0_size : Int32).toInt) (2 : Int) (p1 : Int32).toInt (n0_place : Int32).toInt = -1 - (y_15 : Int32).toInt ∧ 0 ≤ (y_15 : Int32).toInt ∧ (y_15 : Int32).toInt ≤ (n0_size : Int32).toInt); first | with_reducible assumption | (refine ⟨?_, ?_, ?_⟩ <;> (first | with_reducible assumption | (omega)))), rfl⟩), by rw [ht]; exact hP9, va_K.moved hW.alike hK9, hD9⟩, hS.F ht⟩) hS.2.2 dX10_readChain_71
          · skip
            replace w_14_1_0 : (ko_R (ko_at f1 n0_size.toInt) (3 : Int) p1.toInt (y_3 + 1).toInt = y_15.toInt ∧ 0 ≤ y_15.toInt ∧ y_15.toInt ≤ n0_size.toInt) := w_14_1_0
            replace hP : va_P (dC, dI) vwCl [(h0, kO10 h1 n0_size y_15 h2), (h1, kAi cint 120 f1), (h2, kO4 h3 y_16 h4 h5 n2_top), (h3, kAi cint 128 f_17)] H := hP
            replace hD : va_D A [(h0, kO10 h1 n0_size y_15 h2), (h1, kAi cint 120 f1), (h2, kO4 h3 y_16 h4 h5 n2_top), (h3, kAi cint 128 f_17)] := hD
            refine W.eq (g2 := F0 m 67 ls [.int 1]) rfl ?_
            refine lv_if_ne (tgt := 72) hx hb dX10_readChain_67 (by decide) (fun _ => ?_) (fun c => absurd c (by decide))
            have hk_19 : ko_L (ko_at f1 n0_size.toInt) (2 : Int) (p1.toInt : Int) (120 - (0 : Int)) y_3.toInt = y_15.toInt := ko_L_2 (l' := (3 : Int)) (q1 := (y_3 + 1).toInt) (by omega) (by first | exact kd_in2 (by with_reducible assumption) (by with_reducible assumption) | omega) rfl (by decide) (by omega) (show ko_R (ko_at f1 n0_size.toInt) (3 : Int) (p1.toInt : Int) (y_3 + 1).toInt = y_15.toInt from (by omega))
            refine lv_aload_n hx hb dX10_readChain_72 rfl (lv_at hl 2 rfl) ?_
            refine va_get (D := (dC, dI)) (ci := 10) (v := .ref h2) (C := RX10) (T := TX10) (N := 4) hx hb hts (fun _ h => List.mem_cons_of_mem _ (List.mem_append_left _ (List.mem_append_right _ h))) hown hK hP 0 rfl rfl 3 (by decide) (hts (.fieldLink RX10 20 "KinkStreet$Tape" "law" "LKinkStreet$Law;") (List.mem_of_getElem? (i := 2) rfl)) (fun _ h9 => h9) rfl dX10_readChain_73 ?_
            refine lv_iload hx hb dX10_readChain_76 (lv_at hl 0 rfl) ?_
            obtain ⟨hPc, hDc, hFc⟩ := kk_cutout (wc := [(h2, kO4 h3 y_16 h4 h5 n2_top), (h3, kAi cint 128 f_17)]) hP hD hS hA [2, 3] (by decide) rfl
            have hKc := kk_Ks (tq := [(cint, .int)]) hK [0] rfl
            refine va_callv (va_runV (As := [.int r_12]) (rest := []) ⟨hx, hb, hml, hown, hts⟩ (g_X4_append_0 l dC dI h2 h3 h4 h5 cint H.size r_12 y_16 n2_top f_17 (by show 0 ≤ (y_16 : Int32).toInt ∧ (y_16 : Int32).toInt ≤ 128; first | with_reducible assumption | (constructor <;> (omega))) tn2_top) (cwV 1 hts gX10_readChain_X4_append rfl rfl rfl ⟨rfl, kh_X4_append⟩ ⟨kk_rmF hF (Nat.le_of_ble_eq_true rfl), kk_rmM hL (Nat.le_of_ble_eq_true rfl)⟩) ⟨fun a U g mk q => by obtain ⟨q0, q1, qP, qK, qD⟩ := q; exact ⟨q0, q1, qP, va_K.moved (u := U) (U := U.calling g mk a) (Vm.Alike.refl U.vm) qK, qD⟩, va_recv hKc hPc (ci := 4) (q0 := 0) rfl rfl, fun U hU hW => ⟨rfl, by rw [hU], by rw [hU]; exact hPc, va_K.moved hW.alike hKc, hDc.weaken (fun _ _ _ _ => trivial)⟩⟩ rfl rfl hl.1 rfl (lv_room (Nat.le_of_ble_eq_true rfl)) dX10_readChain_78 ⟨Nat.le_of_ble_eq_true rfl, Nat.le_of_ble_eq_true rfl⟩) hS (fun q _ h => hFc q h) hFc (fun u t H1 locs ht hvm hw hB hz1 hk1 hS => ?_)
            obtain ⟨y_21, f_22, by_21, hP1, hK1, hD1⟩ := hB
            rw [ht] at hP1
            have hK1 := va_K.moved hvm.symm hK1
            obtain ⟨hP, hD⟩ := va_join (wr := [(h0, kO10 h1 n0_size y_15 h2), (h1, kAi cint 120 f1)]) (w1 := [(h2, kO4 h3 y_21 h4 h5 n2_top), (h3, kAi cint 128 f_22)]) hP hD [2, 3] [0, 1] rfl rfl (by decide) (by decide) hk1 hFc hP1 hD1
            generalize H1 = H at hP hS ⊢
            replace hP : va_P (dC, dI) vwCl [(h0, kO10 h1 n0_size y_15 h2), (h1, kAi cint 120 f1), (h2, kO4 h3 y_21 h4 h5 n2_top), (h3, kAi cint 128 f_22)] H := hP
            replace hD : va_D A [(h0, kO10 h1 n0_size y_15 h2), (h1, kAi cint 120 f1), (h2, kO4 h3 y_21 h4 h5 n2_top), (h3, kAi cint 128 f_22)] := hD
            refine lv_iload_n hx hb dX10_readChain_81 rfl (lv_at hl 3 rfl) ?_
            refine lv_iconst (v := 2) hx hb dX10_readChain_82 kk_ic_2 ?_
            refine lv_icmp_ne (tgt := 88) hx hb dX10_readChain_83 (by decide) (fun c => absurd c (by decide)) (fun _ => ?_)
            refine lv_iconst (v := 1) hx hb dX10_readChain_86 kk_ic_1 ?_
            obtain ⟨hP9, hD9⟩ := kk_leafout (wc := [(h0, kO10 h1 n0_size y_15 h2), (h1, kAi cint 120 f1), (h2, kO4 h3 y_21 h4 h5 n2_top), (h3, kAi cint 128 f_22)]) hP hD [0, 1, 2, 3] (by decide) rfl
            have hK9 := kk_Ks (tq := []) hK [] rfl
            exact W.zret (v := 1) hx hb hr rfl (fun t ht hW => ⟨⟨1, 1, rfl, ⟨rfl, trivial⟩, y_15, y_21, f_22, (by show 0 ≤ (y_15 : Int32).toInt ∧ (y_15 : Int32).toInt ≤ 120; first | with_reducible assumption | (constructor <;> (omega))), (by show 0 ≤ (y_21 : Int32).toInt ∧ (y_21 : Int32).toInt ≤ 128; first | with_reducible assumption | (constructor <;> (omega))), (Or.inr ⟨(by show (ko_R (ko_at f1 (n0_size : Int32).toInt) (2 : Int) (p1 : Int32).toInt (n0_place : Int32).toInt = (y_15 : Int32).toInt ∧ 0 ≤ (y_15 : Int32).toInt ∧ (y_15 : Int32).toInt ≤ (n0_size : Int32).toInt); first | with_reducible assumption | (refine ⟨?_, ?_, ?_⟩ <;> (first | with_reducible assumption | (omega)))), rfl⟩), by rw [ht]; exact hP9, va_K.moved hW.alike hK9, hD9⟩, hS.F ht⟩) hS.2.2 dX10_readChain_87
set_option maxHeartbeats 4000000 in
set_option maxRecDepth 100000 in
theorem s_X10_readChain_1v (l : Launch) (F L : Nat) (hF : 10 ≤ F) (hL : 200 ≤ L) (rk : Int) (Fq0 Lq0 : Nat) (hF0 : Fq0 ≤ F) (hL0 : Lq0 ≤ L) (ih0 : ka_X10_readChain_2v l Fq0 Lq0 rk) (dC : Nat → ClassId) (dI : Nat → Nat → Nat) (h0 : Nat) (h1 : Nat) (h2 : Nat) (h3 : Nat) (h4 : Nat) (h5 : Nat) (cint : ClassId) (sz : Nat) (p1 : Int32) (tp1 : 0 ≤ p1.toInt ∧ p1.toInt ≤ 6) (n0_size : Int32) (n0_place : Int32) (f1 : Nat → Int32) (n2_size : Int32) (n2_top : Int32) (f3 : Nat → Int32) (tn0_size : 0 ≤ n0_size.toInt ∧ n0_size.toInt ≤ 120) (tn0_place : 0 ≤ n0_place.toInt ∧ n0_place.toInt ≤ 120) (bf1 : ∀ j, j < 120 → 0 ≤ (f1 j).toInt ∧ (f1 j).toInt ≤ 255) (tn2_size : kk_bx (0 ≤ n2_size.toInt ∧ n2_size.toInt ≤ 128)) (tn2_top : kk_bx (0 ≤ n2_top.toInt ∧ n2_top.toInt ≤ 64)) (pr0 : (6 ≤ p1.toInt + rk)) (pr1 : (0 ≤ n0_place.toInt ∧ n0_place.toInt ≤ n0_size.toInt)) (aNAMES : Nat) : Met l yX10_readChain wsX10_readChain ({ frames := F + 1, cells := 0, slots := 0, locals := L + 24 }) (va_Pc [.ref h0, .int 1, .int p1] (fun U => U.heap.size = sz ∧ va_P (dC, dI) vwCl [(h0, kO10 h1 n0_size n0_place h2), (h1, kAi cint 120 f1), (h2, kO4 h3 n2_size h4 h5 n2_top), (h3, kAi cint 128 f3)] U.heap ∧ va_K (dC, dI) vwCl [(cint, .int)] U ∧ va_D (fun _ => True) [(h0, kO10 h1 n0_size n0_place h2), (h1, kAi cint 120 f1), (h2, kO4 h3 n2_size h4 h5 n2_top), (h3, kAi cint 128 f3)] ∧ va_Z "KinkStreet$Law" "NAMES" "[C" (.ref aNAMES) (va_A [(h0, kO10 h1 n0_size n0_place h2), (h1, kAi cint 120 f1), (h2, kO4 h3 n2_size h4 h5 n2_top), (h3, kAi cint 128 f3)] sz) U U.heap ∧ va_T .char aNAMES 8 tb_NAMES (va_A [(h0, kO10 h1 n0_size n0_place h2), (h1, kAi cint 120 f1), (h2, kO4 h3 n2_size h4 h5 n2_top), (h3, kAi cint 128 f3)] sz) U U.heap)) (va_Qi (fun (r : Int32) (u_ : Int32) => u_ = r ∧ True) (fun (u_ : Int32) t => ∃ (m0_place : Int32) (m2_size : Int32) (g3 : Nat → Int32), (0 ≤ m0_place.toInt ∧ m0_place.toInt ≤ 120) ∧ (0 ≤ m2_size.toInt ∧ m2_size.toInt ≤ 128) ∧ (((ko_R (ko_at f1 n0_size.toInt) (1 : Int) p1.toInt n0_place.toInt = -1 - m0_place.toInt ∧ 0 ≤ m0_place.toInt ∧ m0_place.toInt ≤ n0_size.toInt) ∧ u_ = (0 : Int32)) ∨ ((ko_R (ko_at f1 n0_size.toInt) (1 : Int) p1.toInt n0_place.toInt = m0_place.toInt ∧ 0 ≤ m0_place.toInt ∧ m0_place.toInt ≤ n0_size.toInt) ∧ u_ = (1 : Int32))) ∧ va_P (dC, dI) vwCl [(h0, kO10 h1 n0_size m0_place h2), (h1, kAi cint 120 f1), (h2, kO4 h3 m2_size h4 h5 n2_top), (h3, kAi cint 128 g3)] t.heap ∧ va_K (dC, dI) vwCl [] t ∧ va_D (va_A [(h0, kO10 h1 n0_size n0_place h2), (h1, kAi cint 120 f1), (h2, kO4 h3 n2_size h4 h5 n2_top), (h3, kAi cint 128 f3)] sz) [(h0, kO10 h1 n0_size m0_place h2), (h1, kAi cint 120 f1), (h2, kO4 h3 m2_size h4 h5 n2_top), (h3, kAi cint 128 g3)]) (va_A [(h0, kO10 h1 n0_size n0_place h2), (h1, kAi cint 120 f1), (h2, kO4 h3 n2_size h4 h5 n2_top), (h3, kAi cint 128 f3)] sz)) 0 0 (va_A [(h0, kO10 h1 n0_size n0_place h2), (h1, kAi cint 120 f1), (h2, kO4 h3 n2_size h4 h5 n2_top), (h3, kAi cint 128 f3)] sz) := by
  refine Met.ofW (cc := cX10_readChain) (maxL := 5) (ret := (some .boolean)) (by decide) rfl ?_
  intro p e s m args below meth c s₁ B hml hv
  obtain ⟨rfl, hsz, hP, hK, hD0, hZNAMES, hTNAMES⟩ := hv
  have hx := B.exec
  have hb := B.bytes
  have hr := B.returns
  have hts := atoms_spec (ws := wsX10_readChain) B.pre
  have hown : s.vm.findClass RX10 = some m.cls := findClass_of_methodNamed B.named
  have hlocks := B.notSynchronized
  subst hsz
  have hD := hD0.self (sz := s.heap.size)
  generalize hAe : va_A [(h0, kO10 h1 n0_size n0_place h2), (h1, kAi cint 120 f1), (h2, kO4 h3 n2_size h4 h5 n2_top), (h3, kAi cint 128 f3)] s.heap.size = A at hD hZNAMES hTNAMES ⊢
  have hA : ∀ q : Nat, s.heap.size ≤ q → A q := fun q h => by rw [← hAe]; exact Or.inr h
  have hS : va_S A s.heap s.heap [] := va_S.rf
  replace hP : va_P (dC, dI) vwCl [(h0, kO10 h1 n0_size n0_place h2), (h1, kAi cint 120 f1), (h2, kO4 h3 n2_size h4 h5 n2_top), (h3, kAi cint 128 f3)] s.heap := hP
  have hl := lv_entry ([.ref h0, .int 1, .int p1]) (n := 5) (Nat.le_of_ble_eq_true rfl)
  rw [lg_entry_eq]
  generalize (lg_sl ([.ref h0, .int 1, .int p1]) ++ List.replicate (5 - (lg_sl ([.ref h0, .int 1, .int p1])).length) Slot.unset).toArray = ls at hl ⊢
  replace hl : lv_has ls 5 [(0, .ref h0), (1, .int 1), (2, .int p1)] := hl
  refine lv_iload_n hx hb dX10_readChain_0 rfl (lv_at hl 1 rfl) ?_
  refine lv_iconst (v := 5) hx hb dX10_readChain_1 kk_ic_5 ?_
  refine lv_icmp_lt (tgt := 11) hx hb dX10_readChain_2 (by decide) (fun _ => ?_) (fun c => absurd c (by decide))
  refine lv_aload_n hx hb dX10_readChain_11 rfl (lv_at hl 0 rfl) ?_
  refine lv_iload_n hx hb dX10_readChain_12 rfl (lv_at hl 1 rfl) ?_
  refine lv_iconst (v := 1) hx hb dX10_readChain_13 kk_ic_1 ?_
  refine lv_iadd hx hb dX10_readChain_14 ?_
  refine lv_topi (fun y_1 e_1 => ?_)
  obtain rfl : y_1 = 2 := e_1.trans (by decide)
  refine lv_iload_n hx hb dX10_readChain_15 rfl (lv_at hl 2 rfl) ?_
  obtain ⟨hPc, hDc, hFc⟩ := kk_cutout (wc := [(h0, kO10 h1 n0_size n0_place h2), (h1, kAi cint 120 f1), (h2, kO4 h3 n2_size h4 h5 n2_top), (h3, kAi cint 128 f3)]) hP hD hS hA [0, 1, 2, 3] (by decide) rfl
  have hKc := kk_Ks (tq := [(cint, .int)]) hK [0] rfl
  refine va_calli (va_runV (As := [.int 2, .int p1]) (rest := []) ⟨hx, hb, hml, hown, hts⟩ (ih0 dC dI h0 h1 h2 h3 h4 h5 cint s.heap.size p1 tp1 n0_size n0_place f1 n2_size n2_top f3 tn0_size tn0_place bf1 tn2_size tn2_top (by show (6 ≤ (p1 : Int32).toInt + rk); first | with_reducible assumption | (omega)) (by show (0 ≤ (n0_place : Int32).toInt ∧ (n0_place : Int32).toInt ≤ (n0_size : Int32).toInt); first | with_reducible assumption | (refine ⟨?_, ?_⟩ <;> (first | with_reducible assumption | (omega)))) aNAMES) (cwV 2 hts gX10_readChain_X10_readChain rfl rfl rfl ⟨rfl, kh_X10_readChain⟩ ⟨Nat.add_le_add_right hF0 1, kk_rmL hL0 (Nat.le_of_ble_eq_true rfl)⟩) ⟨fun a U g mk q => by obtain ⟨q0, q1, qP, qK, qD, qx0, qx1⟩ := q; exact ⟨q0, q1, qP, va_K.moved (u := U) (U := U.calling g mk a) (Vm.Alike.refl U.vm) qK, qD, va_Z.moved (u := U) (U := U.calling g mk a) (Vm.Alike.refl U.vm) qx0, va_T.moved (u := U) (U := U.calling g mk a) (Vm.Alike.refl U.vm) qx1⟩, va_recv hKc hPc (ci := 10) (q0 := 0) rfl rfl, fun U hU hW => ⟨rfl, by rw [hU], by rw [hU]; exact hPc, va_K.moved hW.alike hKc, hDc.weaken (fun _ _ _ _ => trivial), by rw [hU]; exact ((hZNAMES.kept (fun a h1 h2 => hS.2.1 a h1 h2)).narrow hFc).moved hW.alike, by rw [hU]; exact ((hTNAMES.kept (fun a h1 h2 => hS.2.1 a h1 h2)).narrow hFc).moved hW.alike⟩⟩ rfl rfl hl.1 rfl (lv_room (Nat.le_of_ble_eq_true rfl)) dX10_readChain_16 ⟨Nat.le_of_ble_eq_true rfl, Nat.le_of_ble_eq_true rfl⟩) hS (fun q _ h => hFc q h) hFc (fun r_2 ug_2 t H1 locs ht hvm hw hB hz1 hk1 hS => ?_)
  obtain ⟨hu_2, hw⟩ := hw
  subst ug_2
  obtain ⟨y_3, y_4, f_5, by_3, by_4, hcase_5, hP1, hK1, hD1⟩ := hB
  rw [ht] at hP1
  have hK1 := va_K.moved hvm.symm hK1
  obtain ⟨hP, hD⟩ := va_join (wr := []) (w1 := [(h0, kO10 h1 n0_size y_3 h2), (h1, kAi cint 120 f1), (h2, kO4 h3 y_4 h4 h5 n2_top), (h3, kAi cint 128 f_5)]) hP hD [0, 1, 2, 3] [] rfl rfl (by decide) (by decide) hk1 hFc hP1 hD1
  generalize H1 = H at hP hS ⊢
  replace hP : va_P (dC, dI) vwCl [(h0, kO10 h1 n0_size y_3 h2), (h1, kAi cint 120 f1), (h2, kO4 h3 y_4 h4 h5 n2_top), (h3, kAi cint 128 f_5)] H := hP
  replace hD : va_D A [(h0, kO10 h1 n0_size y_3 h2), (h1, kAi cint 120 f1), (h2, kO4 h3 y_4 h4 h5 n2_top), (h3, kAi cint 128 f_5)] := hD
  rcases hcase_5 with ⟨w_2_0_0, rfl⟩ | ⟨w_2_1_0, rfl⟩
  · skip
    replace w_2_0_0 : (ko_R (ko_at f1 n0_size.toInt) (2 : Int) p1.toInt n0_place.toInt = -1 - y_3.toInt ∧ 0 ≤ y_3.toInt ∧ y_3.toInt ≤ n0_size.toInt) := w_2_0_0
    replace hP : va_P (dC, dI) vwCl [(h0, kO10 h1 n0_size y_3 h2), (h1, kAi cint 120 f1), (h2, kO4 h3 y_4 h4 h5 n2_top), (h3, kAi cint 128 f_5)] H := hP
    replace hD : va_D A [(h0, kO10 h1 n0_size y_3 h2), (h1, kAi cint 120 f1), (h2, kO4 h3 y_4 h4 h5 n2_top), (h3, kAi cint 128 f_5)] := hD
    refine W.eq (g2 := F0 m 19 ls [.int 0]) rfl ?_
    refine lv_if_ne (tgt := 24) hx hb dX10_readChain_19 (by decide) (fun c => absurd c (by decide)) (fun _ => ?_)
    have hk_6 : ko_R (ko_at f1 n0_size.toInt) (1 : Int) (p1.toInt : Int) n0_place.toInt = -1 - y_3.toInt := ko_cf (l' := (2 : Int)) (by decide) (by decide) (show ko_R (ko_at f1 n0_size.toInt) (2 : Int) (p1.toInt : Int) n0_place.toInt = -1 - y_3.toInt from (by omega)) (by omega)
    refine lv_iconst (v := 0) hx hb dX10_readChain_22 kk_ic_0 ?_
    obtain ⟨hP9, hD9⟩ := kk_leafout (wc := [(h0, kO10 h1 n0_size y_3 h2), (h1, kAi cint 120 f1), (h2, kO4 h3 y_4 h4 h5 n2_top), (h3, kAi cint 128 f_5)]) hP hD [0, 1, 2, 3] (by decide) rfl
    have hK9 := kk_Ks (tq := []) hK [] rfl
    exact W.zret (v := 0) hx hb hr rfl (fun t ht hW => ⟨⟨0, 0, rfl, ⟨rfl, trivial⟩, y_3, y_4, f_5, (by show 0 ≤ (y_3 : Int32).toInt ∧ (y_3 : Int32).toInt ≤ 120; first | with_reducible assumption | (constructor <;> (omega))), (by show 0 ≤ (y_4 : Int32).toInt ∧ (y_4 : Int32).toInt ≤ 128; first | with_reducible assumption | (constructor <;> (omega))), (Or.inl ⟨(by show (ko_R (ko_at f1 (n0_size : Int32).toInt) (1 : Int) (p1 : Int32).toInt (n0_place : Int32).toInt = -1 - (y_3 : Int32).toInt ∧ 0 ≤ (y_3 : Int32).toInt ∧ (y_3 : Int32).toInt ≤ (n0_size : Int32).toInt); first | with_reducible assumption | (refine ⟨?_, ?_, ?_⟩ <;> (first | with_reducible assumption | (omega)))), rfl⟩), by rw [ht]; exact hP9, va_K.moved hW.alike hK9, hD9⟩, hS.F ht⟩) hS.2.2 dX10_readChain_23
  · skip
    replace w_2_1_0 : (ko_R (ko_at f1 n0_size.toInt) (2 : Int) p1.toInt n0_place.toInt = y_3.toInt ∧ 0 ≤ y_3.toInt ∧ y_3.toInt ≤ n0_size.toInt) := w_2_1_0
    replace hP : va_P (dC, dI) vwCl [(h0, kO10 h1 n0_size y_3 h2), (h1, kAi cint 120 f1), (h2, kO4 h3 y_4 h4 h5 n2_top), (h3, kAi cint 128 f_5)] H := hP
    replace hD : va_D A [(h0, kO10 h1 n0_size y_3 h2), (h1, kAi cint 120 f1), (h2, kO4 h3 y_4 h4 h5 n2_top), (h3, kAi cint 128 f_5)] := hD
    refine W.eq (g2 := F0 m 19 ls [.int 1]) rfl ?_
    refine lv_if_ne (tgt := 24) hx hb dX10_readChain_19 (by decide) (fun _ => ?_) (fun c => absurd c (by decide))
    have hk_7 : ko_L (ko_at f1 n0_size.toInt) (1 : Int) (p1.toInt : Int) (120 - (0 : Int)) y_3.toInt = ko_R (ko_at f1 n0_size.toInt) (1 : Int) (p1.toInt : Int) n0_place.toInt := ko_c0 (l' := (2 : Int)) (by decide) (by decide) (show ko_R (ko_at f1 n0_size.toInt) (2 : Int) (p1.toInt : Int) n0_place.toInt = y_3.toInt from (by omega)) (by omega) (by decide)
    refine lv_iconst (v := 0) hx hb dX10_readChain_24 kk_ic_0 ?_
    refine lv_istore_n hx hb dX10_readChain_25 rfl hl (by decide) (rfl : _ = ([(3, .int 0), (0, .ref h0), (1, .int 1), (2, .int p1)] : List (Nat × Value))) (fun ls hl => ?_)
    refine kk_loop (σ := Int32 × Int32 × Int32 × (Nat → Int32)) (fun x H locs ls => (0 ≤ x.1.toInt ∧ x.1.toInt ≤ 120) ∧ (0 ≤ x.2.1.toInt ∧ x.2.1.toInt ≤ 120) ∧ (0 ≤ x.2.2.1.toInt ∧ x.2.2.1.toInt ≤ 128) ∧ 0 ≤ x.2.1.toInt ∧ x.2.1.toInt ≤ 120 ∧ (ko_L (ko_at f1 n0_size.toInt) (1 : Int) p1.toInt (120 - x.1.toInt) x.2.1.toInt = ko_R (ko_at f1 n0_size.toInt) (1 : Int) p1.toInt n0_place.toInt ∧ 0 ≤ x.2.1.toInt ∧ x.2.1.toInt ≤ n0_size.toInt) ∧ va_P (dC, dI) vwCl [(h0, kO10 h1 n0_size x.2.1 h2), (h1, kAi cint 120 f1), (h2, kO4 h3 x.2.2.1 h4 h5 n2_top), (h3, kAi cint 128 x.2.2.2)] H ∧ va_D A [(h0, kO10 h1 n0_size x.2.1 h2), (h1, kAi cint 120 f1), (h2, kO4 h3 x.2.2.1 h4 h5 n2_top), (h3, kAi cint 128 x.2.2.2)] ∧ va_S A s.heap H locs ∧ lv_has ls 5 [(3, .int x.1), (0, .ref h0), (1, .int 1), (2, .int p1)]) (fun x => ((120 : Int) - x.1.toInt).toNat) ?_ (0, y_3, y_4, f_5) _ _ _ ⟨(by show 0 ≤ (0 : Int32).toInt ∧ (0 : Int32).toInt ≤ 120; first | with_reducible assumption | decide | (constructor <;> (omega))), (by show 0 ≤ (y_3 : Int32).toInt ∧ (y_3 : Int32).toInt ≤ 120; first | with_reducible assumption | (constructor <;> (omega))), (by show 0 ≤ (y_4 : Int32).toInt ∧ (y_4 : Int32).toInt ≤ 128; first | with_reducible assumption | (constructor <;> (omega))), (by show 0 ≤ (y_3 : Int32).toInt; first | with_reducible assumption | (omega)), (by show (y_3 : Int32).toInt ≤ 120; first | with_reducible assumption | (omega)), (by show (ko_L (ko_at f1 (n0_size : Int32).toInt) (1 : Int) (p1 : Int32).toInt (120 - (0 : Int)) (y_3 : Int32).toInt = ko_R (ko_at f1 (n0_size : Int32).toInt) (1 : Int) (p1 : Int32).toInt (n0_place : Int32).toInt ∧ 0 ≤ (y_3 : Int32).toInt ∧ (y_3 : Int32).toInt ≤ (n0_size : Int32).toInt); first | with_reducible assumption | (refine ⟨?_, ?_, ?_⟩ <;> (first | with_reducible assumption | (omega)))), hP, hD, hS, hl⟩
    rintro ⟨i_8_0, i_8_1, i_8_2, f_8_3⟩ H locs ls ⟨t_8_0, t_8_1, t_8_2, z_8_0, z_8_1, z_8_2, hP, hD, hS, hl⟩ ih_8
    replace t_8_0 : (0 ≤ i_8_0.toInt ∧ i_8_0.toInt ≤ 120) := t_8_0
    replace t_8_1 : (0 ≤ i_8_1.toInt ∧ i_8_1.toInt ≤ 120) := t_8_1
    replace t_8_2 : (0 ≤ i_8_2.toInt ∧ i_8_2.toInt ≤ 128) := t_8_2
    replace z_8_0 : 0 ≤ i_8_1.toInt := z_8_0
    replace z_8_1 : i_8_1.toInt ≤ 120 := z_8_1
    replace z_8_2 : (ko_L (ko_at f1 n0_size.toInt) (1 : Int) p1.toInt (120 - i_8_0.toInt) i_8_1.toInt = ko_R (ko_at f1 n0_size.toInt) (1 : Int) p1.toInt n0_place.toInt ∧ 0 ≤ i_8_1.toInt ∧ i_8_1.toInt ≤ n0_size.toInt) := z_8_2
    replace hl : lv_has ls 5 [(3, .int i_8_0), (0, .ref h0), (1, .int 1), (2, .int p1)] := hl
    replace hP : va_P (dC, dI) vwCl [(h0, kO10 h1 n0_size i_8_1 h2), (h1, kAi cint 120 f1), (h2, kO4 h3 i_8_2 h4 h5 n2_top), (h3, kAi cint 128 f_8_3)] H := hP
    replace hD : va_D A [(h0, kO10 h1 n0_size i_8_1 h2), (h1, kAi cint 120 f1), (h2, kO4 h3 i_8_2 h4 h5 n2_top), (h3, kAi cint 128 f_8_3)] := hD
    refine lv_iload_n hx hb dX10_readChain_26 rfl (lv_at hl 0 rfl) ?_
    refine lv_bipush (v := 120) hx hb dX10_readChain_27 kk_bi_120 ?_
    refine lv_icmp_ge (tgt := 94) hx hb dX10_readChain_29 (by decide) (fun c_9 => ?_) (fun c_9 => ?_)
    · have t_9 : 120 ≤ i_8_0.toInt := kk_le c_9
      have hk_10 : ko_L (ko_at f1 n0_size.toInt) (1 : Int) (p1.toInt : Int) (120 - i_8_0.toInt) i_8_1.toInt = i_8_1.toInt := ko_L_no (by first | exact kd_no1 (by with_reducible assumption) (by with_reducible assumption) | exact Or.inl (by omega) | omega)
      refine lv_iconst (v := 1) hx hb dX10_readChain_94 kk_ic_1 ?_
      obtain ⟨hP9, hD9⟩ := kk_leafout (wc := [(h0, kO10 h1 n0_size i_8_1 h2), (h1, kAi cint 120 f1), (h2, kO4 h3 i_8_2 h4 h5 n2_top), (h3, kAi cint 128 f_8_3)]) hP hD [0, 1, 2, 3] (by decide) rfl
      have hK9 := kk_Ks (tq := []) hK [] rfl
      exact W.zret (v := 1) hx hb hr rfl (fun t ht hW => ⟨⟨1, 1, rfl, ⟨rfl, trivial⟩, i_8_1, i_8_2, f_8_3, (by show 0 ≤ (i_8_1 : Int32).toInt ∧ (i_8_1 : Int32).toInt ≤ 120; first | with_reducible assumption | (constructor <;> (omega))), (by show 0 ≤ (i_8_2 : Int32).toInt ∧ (i_8_2 : Int32).toInt ≤ 128; first | with_reducible assumption | (constructor <;> (omega))), (Or.inr ⟨(by show (ko_R (ko_at f1 (n0_size : Int32).toInt) (1 : Int) (p1 : Int32).toInt (n0_place : Int32).toInt = (i_8_1 : Int32).toInt ∧ 0 ≤ (i_8_1 : Int32).toInt ∧ (i_8_1 : Int32).toInt ≤ (n0_size : Int32).toInt); first | with_reducible assumption | (refine ⟨?_, ?_, ?_⟩ <;> (first | with_reducible assumption | (omega)))), rfl⟩), by rw [ht]; exact hP9, va_K.moved hW.alike hK9, hD9⟩, hS.F ht⟩) hS.2.2 dX10_readChain_95
    · have t_9 : i_8_0.toInt < 120 := kk_nle c_9
      refine lv_iload_n hx hb dX10_readChain_32 rfl (lv_at hl 2 rfl) ?_
      refine lv_aload_n hx hb dX10_readChain_33 rfl (lv_at hl 1 rfl) ?_
      obtain ⟨hPc, hDc, hFc⟩ := kk_cutout (wc := [(h0, kO10 h1 n0_size i_8_1 h2), (h1, kAi cint 120 f1)]) hP hD hS hA [0, 1] (by decide) rfl
      have hKc := kk_Ks (tq := [(cint, .int)]) hK [0] rfl
      refine va_calli (va_runV (As := []) (rest := [.int 1]) ⟨hx, hb, hml, hown, hts⟩ (g_X10_next_1 l dC dI h0 h1 h2 cint H.size n0_size i_8_1 f1 tn0_size (by show 0 ≤ (i_8_1 : Int32).toInt ∧ (i_8_1 : Int32).toInt ≤ 120; first | with_reducible assumption | (constructor <;> (omega))) bf1 (by show (0 ≤ (i_8_1 : Int32).toInt ∧ (i_8_1 : Int32).toInt ≤ (n0_size : Int32).toInt); first | with_reducible assumption | (refine ⟨?_, ?_⟩ <;> (first | with_reducible assumption | (omega))))) (cwV 0 hts gX10_readChain_X10_next rfl rfl rfl ⟨rfl, kh_X10_next⟩ ⟨kk_rmF hF (Nat.le_of_ble_eq_true rfl), kk_rmM hL (Nat.le_of_ble_eq_true rfl)⟩) ⟨fun a U g mk q => by obtain ⟨q0, q1, qP, qK, qD⟩ := q; exact ⟨q0, q1, qP, va_K.moved (u := U) (U := U.calling g mk a) (Vm.Alike.refl U.vm) qK, qD⟩, va_recv hKc hPc (ci := 10) (q0 := 0) rfl rfl, fun U hU hW => ⟨rfl, by rw [hU], by rw [hU]; exact hPc, va_K.moved hW.alike hKc, hDc.weaken (fun _ _ _ _ => trivial)⟩⟩ rfl rfl hl.1 rfl (lv_room (Nat.le_of_ble_eq_true rfl)) dX10_readChain_34 ⟨Nat.le_of_ble_eq_true rfl, Nat.le_of_ble_eq_true rfl⟩) hS (fun q _ h => hFc q h) hFc (fun r_11 u t H1 locs ht hvm hw hB hz1 hk1 hS => ?_)
      obtain ⟨hP1, hK1, hD1⟩ := hB
      rw [ht] at hP1
      have hK1 := va_K.moved hvm.symm hK1
      obtain ⟨hP, hD⟩ := va_join (wr := [(h2, kO4 h3 i_8_2 h4 h5 n2_top), (h3, kAi cint 128 f_8_3)]) (w1 := [(h0, kO10 h1 n0_size i_8_1 h2), (h1, kAi cint 120 f1)]) hP hD [0, 1] [2, 3] rfl rfl (by decide) (by decide) hk1 hFc hP1 hD1
      generalize H1 = H at hP hS ⊢
      replace hP : va_P (dC, dI) vwCl [(h2, kO4 h3 i_8_2 h4 h5 n2_top), (h3, kAi cint 128 f_8_3), (h0, kO10 h1 n0_size i_8_1 h2), (h1, kAi cint 120 f1)] H := hP
      replace hD : va_D A [(h2, kO4 h3 i_8_2 h4 h5 n2_top), (h3, kAi cint 128 f_8_3), (h0, kO10 h1 n0_size i_8_1 h2), (h1, kAi cint 120 f1)] := hD
      rcases hw with ⟨t_11_0, t_11_any⟩
      · skip
        replace t_11_0 : (((i_8_1.toInt < n0_size.toInt) → r_11.toInt = ko_at f1 n0_size.toInt i_8_1.toInt ∧ 0 ≤ r_11.toInt) ∧ (n0_size.toInt ≤ i_8_1.toInt → r_11.toInt = -1 ∧ ko_at f1 n0_size.toInt i_8_1.toInt = 0)) := t_11_0
        obtain ⟨hPc, hDc, hFc⟩ := kk_cutout (wc := []) hP hD hS hA [] (by decide) rfl
        have hKc := kk_Ks (tq := []) hK [] rfl
        refine va_calli (va_runS (As := [.int 1, .int r_11]) (rest := []) ⟨hx, hb, hml, hown, hts⟩ (g_X10_joins_8 l dC dI H.size r_11) (va_cwS 2 hts gX10_readChain_X10_joins rfl rfl rfl kh_X10_joins ⟨kk_rmF hF (Nat.le_of_ble_eq_true rfl), kk_rmM hL (Nat.le_of_ble_eq_true rfl)⟩) ⟨fun a U g mk q => by obtain ⟨q0, q1, qP, qK, qD⟩ := q; exact ⟨q0, q1, qP, va_K.moved (u := U) (U := U.calling g mk a) (Vm.Alike.refl U.vm) qK, qD⟩, fun U hU hW => ⟨rfl, by rw [hU], by rw [hU]; exact hPc, va_K.moved hW.alike hKc, hDc.weaken (fun _ _ _ _ => trivial)⟩⟩ rfl rfl hl.1 rfl (lv_room (Nat.le_of_ble_eq_true rfl)) dX10_readChain_37 ⟨Nat.le_of_ble_eq_true rfl, Nat.le_of_ble_eq_true rfl⟩) hS (fun q _ h => hFc q h) hFc (fun r_12 u t H1 locs ht hvm hw hB hz1 hk1 hS => ?_)
        obtain ⟨hP1, hK1, hD1⟩ := hB
        rw [ht] at hP1
        have hK1 := va_K.moved hvm.symm hK1
        obtain ⟨hP, hD⟩ := va_join (wr := [(h2, kO4 h3 i_8_2 h4 h5 n2_top), (h3, kAi cint 128 f_8_3), (h0, kO10 h1 n0_size i_8_1 h2), (h1, kAi cint 120 f1)]) (w1 := []) hP hD [] [0, 1, 2, 3] rfl rfl (by decide) (by decide) hk1 hFc hP1 hD1
        generalize H1 = H at hP hS ⊢
        replace hP : va_P (dC, dI) vwCl [(h2, kO4 h3 i_8_2 h4 h5 n2_top), (h3, kAi cint 128 f_8_3), (h0, kO10 h1 n0_size i_8_1 h2), (h1, kAi cint 120 f1)] H := hP
        replace hD : va_D A [(h2, kO4 h3 i_8_2 h4 h5 n2_top), (h3, kAi cint 128 f_8_3), (h0, kO10 h1 n0_size i_8_1 h2), (h1, kAi cint 120 f1)] := hD
        rcases hw with ⟨t_12_0, t_12_1, rfl⟩ | ⟨t_12_0, t_12_1, rfl⟩
        · skip
          replace t_12_0 : (r_11.toInt : Int) ≠ 38 := t_12_0
          replace t_12_1 : r_11.toInt ≠ 38 := t_12_1
          refine lv_if_eq (tgt := 94) hx hb dX10_readChain_40 (by decide) (fun _ => ?_) (fun c => absurd c (by decide))
          have hk_13 : ko_L (ko_at f1 n0_size.toInt) (1 : Int) (p1.toInt : Int) (120 - i_8_0.toInt) i_8_1.toInt = i_8_1.toInt := ko_L_no (by first | exact kd_no1 (by with_reducible assumption) (by with_reducible assumption) | exact Or.inl (by omega) | omega)
          refine lv_iconst (v := 1) hx hb dX10_readChain_94 kk_ic_1 ?_
          obtain ⟨hP9, hD9⟩ := kk_leafout (wc := [(h0, kO10 h1 n0_size i_8_1 h2), (h1, kAi cint 120 f1), (h2, kO4 h3 i_8_2 h4 h5 n2_top), (h3, kAi cint 128 f_8_3)]) hP hD [2, 3, 0, 1] (by decide) rfl
          have hK9 := kk_Ks (tq := []) hK [] rfl
          exact W.zret (v := 1) hx hb hr rfl (fun t ht hW => ⟨⟨1, 1, rfl, ⟨rfl, trivial⟩, i_8_1, i_8_2, f_8_3, (by show 0 ≤ (i_8_1 : Int32).toInt ∧ (i_8_1 : Int32).toInt ≤ 120; first | with_reducible assumption | (constructor <;> (omega))), (by show 0 ≤ (i_8_2 : Int32).toInt ∧ (i_8_2 : Int32).toInt ≤ 128; first | with_reducible assumption | (constructor <;> (omega))), (Or.inr ⟨(by show (ko_R (ko_at f1 (n0_size : Int32).toInt) (1 : Int) (p1 : Int32).toInt (n0_place : Int32).toInt = (i_8_1 : Int32).toInt ∧ 0 ≤ (i_8_1 : Int32).toInt ∧ (i_8_1 : Int32).toInt ≤ (n0_size : Int32).toInt); first | with_reducible assumption | (refine ⟨?_, ?_, ?_⟩ <;> (first | with_reducible assumption | (omega)))), rfl⟩), by rw [ht]; exact hP9, va_K.moved hW.alike hK9, hD9⟩, hS.F ht⟩) hS.2.2 dX10_readChain_95
        · skip
          replace t_12_0 : (r_11.toInt : Int) = 38 := t_12_0
          replace t_12_1 : r_11.toInt = 38 := t_12_1
          refine lv_if_eq (tgt := 94) hx hb dX10_readChain_40 (by decide) (fun c => absurd c (by decide)) (fun _ => ?_)
          refine lv_aload_n hx hb dX10_readChain_43 rfl (lv_at hl 1 rfl) ?_
          obtain ⟨hPc, hDc, hFc⟩ := kk_cutout (wc := [(h0, kO10 h1 n0_size i_8_1 h2), (h1, kAi cint 120 f1)]) hP hD hS hA [2, 3] (by decide) rfl
          have hKc := kk_Ks (tq := [(cint, .int)]) hK [0] rfl
          refine va_calli (va_runV (As := []) (rest := []) ⟨hx, hb, hml, hown, hts⟩ (g_X10_next_1 l dC dI h0 h1 h2 cint H.size n0_size i_8_1 f1 tn0_size (by show 0 ≤ (i_8_1 : Int32).toInt ∧ (i_8_1 : Int32).toInt ≤ 120; first | with_reducible assumption | (constructor <;> (omega))) bf1 (by show (0 ≤ (i_8_1 : Int32).toInt ∧ (i_8_1 : Int32).toInt ≤ (n0_size : Int32).toInt); first | with_reducible assumption | (refine ⟨?_, ?_⟩ <;> (first | with_reducible assumption | (omega))))) (cwV 0 hts gX10_readChain_X10_next rfl rfl rfl ⟨rfl, kh_X10_next⟩ ⟨kk_rmF hF (Nat.le_of_ble_eq_true rfl), kk_rmM hL (Nat.le_of_ble_eq_true rfl)⟩) ⟨fun a U g mk q => by obtain ⟨q0, q1, qP, qK, qD⟩ := q; exact ⟨q0, q1, qP, va_K.moved (u := U) (U := U.calling g mk a) (Vm.Alike.refl U.vm) qK, qD⟩, va_recv hKc hPc (ci := 10) (q0 := 0) rfl rfl, fun U hU hW => ⟨rfl, by rw [hU], by rw [hU]; exact hPc, va_K.moved hW.alike hKc, hDc.weaken (fun _ _ _ _ => trivial)⟩⟩ rfl rfl hl.1 rfl (lv_room (Nat.le_of_ble_eq_true rfl)) dX10_readChain_44 ⟨Nat.le_of_ble_eq_true rfl, Nat.le_of_ble_eq_true rfl⟩) hS (fun q _ h => hFc q h) hFc (fun r_14 u t H1 locs ht hvm hw hB hz1 hk1 hS => ?_)
          obtain ⟨hP1, hK1, hD1⟩ := hB
          rw [ht] at hP1
          have hK1 := va_K.moved hvm.symm hK1
          obtain ⟨hP, hD⟩ := va_join (wr := [(h2, kO4 h3 i_8_2 h4 h5 n2_top), (h3, kAi cint 128 f_8_3)]) (w1 := [(h0, kO10 h1 n0_size i_8_1 h2), (h1, kAi cint 120 f1)]) hP hD [2, 3] [0, 1] rfl rfl (by decide) (by decide) hk1 hFc hP1 hD1
          generalize H1 = H at hP hS ⊢
          replace hP : va_P (dC, dI) vwCl [(h2, kO4 h3 i_8_2 h4 h5 n2_top), (h3, kAi cint 128 f_8_3), (h0, kO10 h1 n0_size i_8_1 h2), (h1, kAi cint 120 f1)] H := hP
          replace hD : va_D A [(h2, kO4 h3 i_8_2 h4 h5 n2_top), (h3, kAi cint 128 f_8_3), (h0, kO10 h1 n0_size i_8_1 h2), (h1, kAi cint 120 f1)] := hD
          rcases hw with ⟨t_14_0, t_14_any⟩
          · skip
            replace t_14_0 : (((i_8_1.toInt < n0_size.toInt) → r_14.toInt = ko_at f1 n0_size.toInt i_8_1.toInt ∧ 0 ≤ r_14.toInt) ∧ (n0_size.toInt ≤ i_8_1.toInt → r_14.toInt = -1 ∧ ko_at f1 n0_size.toInt i_8_1.toInt = 0)) := t_14_0
            refine lv_istore hx hb dX10_readChain_47 hl (by decide) (rfl : _ = ([(4, .int r_14), (3, .int i_8_0), (0, .ref h0), (1, .int 1), (2, .int p1)] : List (Nat × Value))) (fun ls hl => ?_)
            refine lv_aload_n hx hb dX10_readChain_49 rfl (lv_at hl 2 rfl) ?_
            refine lv_dup hx hb dX10_readChain_50 rfl ?_
            refine va_get (D := (dC, dI)) (ci := 10) (v := .int i_8_1) (C := RX10) (T := TX10) (N := 4) hx hb hts (fun _ h => List.mem_cons_of_mem _ (List.mem_append_left _ (List.mem_append_right _ h))) hown hK hP 2 rfl rfl 2 (by decide) (hts (.fieldLink RX10 17 "KinkStreet$Tape" "place" "I") (List.mem_of_getElem? (i := 1) rfl)) (fun _ h9 => h9) rfl dX10_readChain_51 ?_
            refine lv_iconst (v := 1) hx hb dX10_readChain_54 kk_ic_1 ?_
            refine lv_iadd hx hb dX10_readChain_55 ?_
            refine va_put (D := (dC, dI)) (ci := 10) (v := .int (i_8_1 + 1)) (ty := .int) (C := RX10) (T := TX10) (N := 4) hx hb hts (fun _ h => List.mem_cons_of_mem _ (List.mem_append_left _ (List.mem_append_right _ h))) tyX10 tyX10_ok nmX10 hown hK hP hD hS 2 rfl rfl 2 (by decide) (hts (.fieldLink RX10 17 "KinkStreet$Tape" "place" "I") (List.mem_of_getElem? (i := 1) rfl)) (fun _ h9 => h9) rfl (by decide +kernel) rfl rfl (Nat.le_of_ble_eq_true rfl) dX10_readChain_56 (fun H locs hP hD hS => ?_)
            replace hP : va_P (dC, dI) vwCl [(h2, kO4 h3 i_8_2 h4 h5 n2_top), (h3, kAi cint 128 f_8_3), (h0, kO10 h1 n0_size (i_8_1 + 1) h2), (h1, kAi cint 120 f1)] H := hP
            replace hD : va_D A [(h2, kO4 h3 i_8_2 h4 h5 n2_top), (h3, kAi cint 128 f_8_3), (h0, kO10 h1 n0_size (i_8_1 + 1) h2), (h1, kAi cint 120 f1)] := hD
            refine lv_aload_n hx hb dX10_readChain_59 rfl (lv_at hl 2 rfl) ?_
            refine lv_iload_n hx hb dX10_readChain_60 rfl (lv_at hl 3 rfl) ?_
            refine lv_iconst (v := 1) hx hb dX10_readChain_61 kk_ic_1 ?_
            refine lv_iadd hx hb dX10_readChain_62 ?_
            refine lv_topi (fun y_15 e_15 => ?_)
            obtain rfl : y_15 = 2 := e_15.trans (by decide)
            refine lv_iload_n hx hb dX10_readChain_63 rfl (lv_at hl 4 rfl) ?_
            obtain ⟨hPc, hDc, hFc⟩ := kk_cutout (wc := [(h0, kO10 h1 n0_size (i_8_1 + 1) h2), (h1, kAi cint 120 f1), (h2, kO4 h3 i_8_2 h4 h5 n2_top), (h3, kAi cint 128 f_8_3)]) hP hD hS hA [2, 3, 0, 1] (by decide) rfl
            have hKc := kk_Ks (tq := [(cint, .int)]) hK [0] rfl
            have := kk_add2 (x := i_8_1) (y := 1) (a := i_8_1.toInt) (b := 1) rfl rfl (by omega) (by omega)
            refine va_calli (va_runV (As := [.int 2, .int p1]) (rest := []) ⟨hx, hb, hml, hown, hts⟩ (ih0 dC dI h0 h1 h2 h3 h4 h5 cint H.size p1 tp1 n0_size (i_8_1 + 1) f1 i_8_2 n2_top f_8_3 tn0_size (by show 0 ≤ ((i_8_1 + 1) : Int32).toInt ∧ ((i_8_1 + 1) : Int32).toInt ≤ 120; first | with_reducible assumption | (constructor <;> (omega))) bf1 (by show 0 ≤ (i_8_2 : Int32).toInt ∧ (i_8_2 : Int32).toInt ≤ 128; first | with_reducible assumption | (constructor <;> (omega))) tn2_top (by show (6 ≤ (p1 : Int32).toInt + rk); first | with_reducible assumption | (omega)) (by show (0 ≤ ((i_8_1 + 1) : Int32).toInt ∧ ((i_8_1 + 1) : Int32).toInt ≤ (n0_size : Int32).toInt); first | with_reducible assumption | (refine ⟨?_, ?_⟩ <;> (first | with_reducible assumption | (omega)))) aNAMES) (cwV 2 hts gX10_readChain_X10_readChain rfl rfl rfl ⟨rfl, kh_X10_readChain⟩ ⟨Nat.add_le_add_right hF0 1, kk_rmL hL0 (Nat.le_of_ble_eq_true rfl)⟩) ⟨fun a U g mk q => by obtain ⟨q0, q1, qP, qK, qD, qx0, qx1⟩ := q; exact ⟨q0, q1, qP, va_K.moved (u := U) (U := U.calling g mk a) (Vm.Alike.refl U.vm) qK, qD, va_Z.moved (u := U) (U := U.calling g mk a) (Vm.Alike.refl U.vm) qx0, va_T.moved (u := U) (U := U.calling g mk a) (Vm.Alike.refl U.vm) qx1⟩, va_recv hKc hPc (ci := 10) (q0 := 0) rfl rfl, fun U hU hW => ⟨rfl, by rw [hU], by rw [hU]; exact hPc, va_K.moved hW.alike hKc, hDc.weaken (fun _ _ _ _ => trivial), by rw [hU]; exact ((hZNAMES.kept (fun a h1 h2 => hS.2.1 a h1 h2)).narrow hFc).moved hW.alike, by rw [hU]; exact ((hTNAMES.kept (fun a h1 h2 => hS.2.1 a h1 h2)).narrow hFc).moved hW.alike⟩⟩ rfl rfl hl.1 rfl (lv_room (Nat.le_of_ble_eq_true rfl)) dX10_readChain_64 ⟨Nat.le_of_ble_eq_true rfl, Nat.le_of_ble_eq_true rfl⟩) hS (fun q _ h => hFc q h) hFc (fun r_16 ug_16 t H1 locs ht hvm hw hB hz1 hk1 hS => ?_)
            obtain ⟨hu_16, hw⟩ := hw
            subst ug_16
            obtain ⟨y_17, y_18, f_19, by_17, by_18, hcase_19, hP1, hK1, hD1⟩ := hB
            rw [ht] at hP1
            have hK1 := va_K.moved hvm.symm hK1
            obtain ⟨hP, hD⟩ := va_join (wr := []) (w1 := [(h0, kO10 h1 n0_size y_17 h2), (h1, kAi cint 120 f1), (h2, kO4 h3 y_18 h4 h5 n2_top), (h3, kAi cint 128 f_19)]) hP hD [2, 3, 0, 1] [] rfl rfl (by decide) (by decide) hk1 hFc hP1 hD1
            generalize H1 = H at hP hS ⊢
            replace hP : va_P (dC, dI) vwCl [(h0, kO10 h1 n0_size y_17 h2), (h1, kAi cint 120 f1), (h2, kO4 h3 y_18 h4 h5 n2_top), (h3, kAi cint 128 f_19)] H := hP
            replace hD : va_D A [(h0, kO10 h1 n0_size y_17 h2), (h1, kAi cint 120 f1), (h2, kO4 h3 y_18 h4 h5 n2_top), (h3, kAi cint 128 f_19)] := hD
            rcases hcase_19 with ⟨w_16_0_0, rfl⟩ | ⟨w_16_1_0, rfl⟩
            · skip
              replace w_16_0_0 : (ko_R (ko_at f1 n0_size.toInt) (2 : Int) p1.toInt (i_8_1 + 1).toInt = -1 - y_17.toInt ∧ 0 ≤ y_17.toInt ∧ y_17.toInt ≤ n0_size.toInt) := w_16_0_0
              replace hP : va_P (dC, dI) vwCl [(h0, kO10 h1 n0_size y_17 h2), (h1, kAi cint 120 f1), (h2, kO4 h3 y_18 h4 h5 n2_top), (h3, kAi cint 128 f_19)] H := hP
              replace hD : va_D A [(h0, kO10 h1 n0_size y_17 h2), (h1, kAi cint 120 f1), (h2, kO4 h3 y_18 h4 h5 n2_top), (h3, kAi cint 128 f_19)] := hD
              refine W.eq (g2 := F0 m 67 ls [.int 0]) rfl ?_
              refine lv_if_ne (tgt := 72) hx hb dX10_readChain_67 (by decide) (fun c => absurd c (by decide)) (fun _ => ?_)
              have hk_20 : ko_L (ko_at f1 n0_size.toInt) (1 : Int) (p1.toInt : Int) (120 - i_8_0.toInt) i_8_1.toInt = -1 - y_17.toInt := ko_L_f (l' := (2 : Int)) (q1 := (i_8_1 + 1).toInt) (by omega) (by first | exact kd_ys1 (by with_reducible assumption) (by with_reducible assumption) | omega) (by decide) (by omega) (show ko_R (ko_at f1 n0_size.toInt) (2 : Int) (p1.toInt : Int) (i_8_1 + 1).toInt = -1 - y_17.toInt from (by omega)) (by omega)
              refine lv_iconst (v := 0) hx hb dX10_readChain_70 kk_ic_0 ?_
              obtain ⟨hP9, hD9⟩ := kk_leafout (wc := [(h0, kO10 h1 n0_size y_17 h2), (h1, kAi cint 120 f1), (h2, kO4 h3 y_18 h4 h5 n2_top), (h3, kAi cint 128 f_19)]) hP hD [0, 1, 2, 3] (by decide) rfl
              have hK9 := kk_Ks (tq := []) hK [] rfl
              exact W.zret (v := 0) hx hb hr rfl (fun t ht hW => ⟨⟨0, 0, rfl, ⟨rfl, trivial⟩, y_17, y_18, f_19, (by show 0 ≤ (y_17 : Int32).toInt ∧ (y_17 : Int32).toInt ≤ 120; first | with_reducible assumption | (constructor <;> (omega))), (by show 0 ≤ (y_18 : Int32).toInt ∧ (y_18 : Int32).toInt ≤ 128; first | with_reducible assumption | (constructor <;> (omega))), (Or.inl ⟨(by show (ko_R (ko_at f1 (n0_size : Int32).toInt) (1 : Int) (p1 : Int32).toInt (n0_place : Int32).toInt = -1 - (y_17 : Int32).toInt ∧ 0 ≤ (y_17 : Int32).toInt ∧ (y_17 : Int32).toInt ≤ (n0_size : Int32).toInt); first | with_reducible assumption | (refine ⟨?_, ?_, ?_⟩ <;> (first | with_reducible assumption | (omega)))), rfl⟩), by rw [ht]; exact hP9, va_K.moved hW.alike hK9, hD9⟩, hS.F ht⟩) hS.2.2 dX10_readChain_71
            · skip
              replace w_16_1_0 : (ko_R (ko_at f1 n0_size.toInt) (2 : Int) p1.toInt (i_8_1 + 1).toInt = y_17.toInt ∧ 0 ≤ y_17.toInt ∧ y_17.toInt ≤ n0_size.toInt) := w_16_1_0
              replace hP : va_P (dC, dI) vwCl [(h0, kO10 h1 n0_size y_17 h2), (h1, kAi cint 120 f1), (h2, kO4 h3 y_18 h4 h5 n2_top), (h3, kAi cint 128 f_19)] H := hP
              replace hD : va_D A [(h0, kO10 h1 n0_size y_17 h2), (h1, kAi cint 120 f1), (h2, kO4 h3 y_18 h4 h5 n2_top), (h3, kAi cint 128 f_19)] := hD
              refine W.eq (g2 := F0 m 67 ls [.int 1]) rfl ?_
              refine lv_if_ne (tgt := 72) hx hb dX10_readChain_67 (by decide) (fun _ => ?_) (fun c => absurd c (by decide))
              have := kk_add2 (x := i_8_0) (y := 1) (a := i_8_0.toInt) (b := 1) rfl rfl (by omega) (by omega)
              have hk_21 : ko_L (ko_at f1 n0_size.toInt) (1 : Int) (p1.toInt : Int) (120 - i_8_0.toInt) i_8_1.toInt = ko_L (ko_at f1 n0_size.toInt) (1 : Int) (p1.toInt : Int) (120 - (i_8_0 + 1).toInt) y_17.toInt := ko_L_s (l' := (2 : Int)) (q1 := (i_8_1 + 1).toInt) (by omega) (by first | exact kd_ys1 (by with_reducible assumption) (by with_reducible assumption) | omega) (by decide) (by decide) (by omega) (show ko_R (ko_at f1 n0_size.toInt) (2 : Int) (p1.toInt : Int) (i_8_1 + 1).toInt = y_17.toInt from (by omega)) (by omega) (by omega)
              refine lv_aload_n hx hb dX10_readChain_72 rfl (lv_at hl 2 rfl) ?_
              refine va_get (D := (dC, dI)) (ci := 10) (v := .ref h2) (C := RX10) (T := TX10) (N := 4) hx hb hts (fun _ h => List.mem_cons_of_mem _ (List.mem_append_left _ (List.mem_append_right _ h))) hown hK hP 0 rfl rfl 3 (by decide) (hts (.fieldLink RX10 20 "KinkStreet$Tape" "law" "LKinkStreet$Law;") (List.mem_of_getElem? (i := 2) rfl)) (fun _ h9 => h9) rfl dX10_readChain_73 ?_
              refine lv_iload hx hb dX10_readChain_76 (lv_at hl 0 rfl) ?_
              obtain ⟨hPc, hDc, hFc⟩ := kk_cutout (wc := [(h2, kO4 h3 y_18 h4 h5 n2_top), (h3, kAi cint 128 f_19)]) hP hD hS hA [2, 3] (by decide) rfl
              have hKc := kk_Ks (tq := [(cint, .int)]) hK [0] rfl
              refine va_callv (va_runV (As := [.int r_14]) (rest := []) ⟨hx, hb, hml, hown, hts⟩ (g_X4_append_0 l dC dI h2 h3 h4 h5 cint H.size r_14 y_18 n2_top f_19 (by show 0 ≤ (y_18 : Int32).toInt ∧ (y_18 : Int32).toInt ≤ 128; first | with_reducible assumption | (constructor <;> (omega))) tn2_top) (cwV 1 hts gX10_readChain_X4_append rfl rfl rfl ⟨rfl, kh_X4_append⟩ ⟨kk_rmF hF (Nat.le_of_ble_eq_true rfl), kk_rmM hL (Nat.le_of_ble_eq_true rfl)⟩) ⟨fun a U g mk q => by obtain ⟨q0, q1, qP, qK, qD⟩ := q; exact ⟨q0, q1, qP, va_K.moved (u := U) (U := U.calling g mk a) (Vm.Alike.refl U.vm) qK, qD⟩, va_recv hKc hPc (ci := 4) (q0 := 0) rfl rfl, fun U hU hW => ⟨rfl, by rw [hU], by rw [hU]; exact hPc, va_K.moved hW.alike hKc, hDc.weaken (fun _ _ _ _ => trivial)⟩⟩ rfl rfl hl.1 rfl (lv_room (Nat.le_of_ble_eq_true rfl)) dX10_readChain_78 ⟨Nat.le_of_ble_eq_true rfl, Nat.le_of_ble_eq_true rfl⟩) hS (fun q _ h => hFc q h) hFc (fun u t H1 locs ht hvm hw hB hz1 hk1 hS => ?_)
              obtain ⟨y_23, f_24, by_23, hP1, hK1, hD1⟩ := hB
              rw [ht] at hP1
              have hK1 := va_K.moved hvm.symm hK1
              obtain ⟨hP, hD⟩ := va_join (wr := [(h0, kO10 h1 n0_size y_17 h2), (h1, kAi cint 120 f1)]) (w1 := [(h2, kO4 h3 y_23 h4 h5 n2_top), (h3, kAi cint 128 f_24)]) hP hD [2, 3] [0, 1] rfl rfl (by decide) (by decide) hk1 hFc hP1 hD1
              generalize H1 = H at hP hS ⊢
              replace hP : va_P (dC, dI) vwCl [(h0, kO10 h1 n0_size y_17 h2), (h1, kAi cint 120 f1), (h2, kO4 h3 y_23 h4 h5 n2_top), (h3, kAi cint 128 f_24)] H := hP
              replace hD : va_D A [(h0, kO10 h1 n0_size y_17 h2), (h1, kAi cint 120 f1), (h2, kO4 h3 y_23 h4 h5 n2_top), (h3, kAi cint 128 f_24)] := hD
              refine lv_iload_n hx hb dX10_readChain_81 rfl (lv_at hl 3 rfl) ?_
              refine lv_iconst (v := 2) hx hb dX10_readChain_82 kk_ic_2 ?_
              refine lv_icmp_ne (tgt := 88) hx hb dX10_readChain_83 (by decide) (fun _ => ?_) (fun c => absurd c (by decide))
              refine lv_iinc (v := (i_8_0 + 1)) hx hb dX10_readChain_88 hl (k := 1) rfl (by first | rfl | decide) (by decide) (rfl : _ = ([(3, .int (i_8_0 + 1)), (4, .int r_14), (0, .ref h0), (1, .int 1), (2, .int p1)] : List (Nat × Value))) (fun ls hl => ?_)
              refine lv_goto (tgt := 26) hx hb dX10_readChain_91 (by decide) ?_
              exact ih_8 ((i_8_0 + 1), y_17, y_23, f_24) _ _ _ (by show ((120 : Int) - ((i_8_0 + 1) : Int32).toInt).toNat < ((120 : Int) - i_8_0.toInt).toNat; exact kk_mu (by omega) (by omega)) ⟨(by show 0 ≤ ((i_8_0 + 1) : Int32).toInt ∧ ((i_8_0 + 1) : Int32).toInt ≤ 120; first | with_reducible assumption | (constructor <;> (omega))), (by show 0 ≤ (y_17 : Int32).toInt ∧ (y_17 : Int32).toInt ≤ 120; first | with_reducible assumption | (constructor <;> (omega))), (by show 0 ≤ (y_23 : Int32).toInt ∧ (y_23 : Int32).toInt ≤ 128; first | with_reducible assumption | (constructor <;> (omega))), (by show 0 ≤ (y_17 : Int32).toInt; first | with_reducible assumption | (omega)), (by show (y_17 : Int32).toInt ≤ 120; first | with_reducible assumption | (omega)), (by show (ko_L (ko_at f1 (n0_size : Int32).toInt) (1 : Int) (p1 : Int32).toInt (120 - ((i_8_0 + 1) : Int32).toInt) (y_17 : Int32).toInt = ko_R (ko_at f1 (n0_size : Int32).toInt) (1 : Int) (p1 : Int32).toInt (n0_place : Int32).toInt ∧ 0 ≤ (y_17 : Int32).toInt ∧ (y_17 : Int32).toInt ≤ (n0_size : Int32).toInt); first | with_reducible assumption | (refine ⟨?_, ?_, ?_⟩ <;> (first | with_reducible assumption | (omega)))), hP, hD, hS, lv_sub hl [0, 2, 3, 4] rfl⟩
