set_option maxHeartbeats 4000000 in
set_option maxRecDepth 100000 in
theorem g_X10_next_1 (l : Launch) (dC : Nat → ClassId) (dI : Nat → Nat → Nat) (h0 : Nat) (h1 : Nat) (h2 : Nat) (cint : ClassId) (sz : Nat) (n0_size : Int32) (n0_place : Int32) (f1 : Nat → Int32) (tn0_size : 0 ≤ n0_size.toInt ∧ n0_size.toInt ≤ 120) (tn0_place : 0 ≤ n0_place.toInt ∧ n0_place.toInt ≤ 120) (bf1 : ∀ j, j < 120 → 0 ≤ (f1 j).toInt ∧ (f1 j).toInt ≤ 255) (pr0 : (0 ≤ n0_place.toInt ∧ n0_place.toInt ≤ n0_size.toInt)) : Met l yX10_next wsX10_next ({ frames := 0, cells := 0, slots := 0, locals := 0 }) (va_Pc [.ref h0] (fun U => U.heap.size = sz ∧ va_P (dC, dI) vwCl [(h0, Sum.inr (10, [Value.ref h1, Value.int n0_size, Value.int n0_place, Value.ref h2])), (h1, Sum.inl (cint, 120, Sum.inl f1))] U.heap ∧ va_K (dC, dI) vwCl [(cint, .int)] U ∧ va_D (fun _ => True) [(h0, Sum.inr (10, [Value.ref h1, Value.int n0_size, Value.int n0_place, Value.ref h2])), (h1, Sum.inl (cint, 120, Sum.inl f1))])) (va_Qi (fun (r : Int32) (_ : Unit) => (((n0_place.toInt < n0_size.toInt) → r.toInt = ko_at f1 n0_size.toInt n0_place.toInt ∧ 0 ≤ r.toInt) ∧ (n0_size.toInt ≤ n0_place.toInt → r.toInt = -1 ∧ ko_at f1 n0_size.toInt n0_place.toInt = 0)) ∧ ((-1) ≤ r.toInt ∧ r.toInt ≤ 255)) (fun (_ : Unit) t => va_P (dC, dI) vwCl [(h0, Sum.inr (10, [Value.ref h1, Value.int n0_size, Value.int n0_place, Value.ref h2])), (h1, Sum.inl (cint, 120, Sum.inl f1))] t.heap ∧ va_K (dC, dI) vwCl [] t ∧ va_D (va_A [(h0, Sum.inr (10, [Value.ref h1, Value.int n0_size, Value.int n0_place, Value.ref h2])), (h1, Sum.inl (cint, 120, Sum.inl f1))] sz) [(h0, Sum.inr (10, [Value.ref h1, Value.int n0_size, Value.int n0_place, Value.ref h2])), (h1, Sum.inl (cint, 120, Sum.inl f1))]) (va_A [(h0, Sum.inr (10, [Value.ref h1, Value.int n0_size, Value.int n0_place, Value.ref h2])), (h1, Sum.inl (cint, 120, Sum.inl f1))] sz)) 0 0 (va_A [(h0, Sum.inr (10, [Value.ref h1, Value.int n0_size, Value.int n0_place, Value.ref h2])), (h1, Sum.inl (cint, 120, Sum.inl f1))] sz) := by
  refine Met.ofW (cc := cX10_next) (maxL := 1) (ret := (some .int)) (by decide) rfl ?_
  intro p e s m args below meth c s₁ B hml hv
  obtain ⟨rfl, hsz, hP, hK, hD0⟩ := hv
  have hx := B.exec
  have hb := B.bytes
  have hr := B.returns
  have hts := atoms_spec (ws := wsX10_next) B.pre
  have hown : s.vm.findClass RX10 = some m.cls := findClass_of_methodNamed B.named
  have hlocks := B.notSynchronized
  subst hsz
  have hD := hD0.self (sz := s.heap.size)
  generalize hAe : va_A [(h0, Sum.inr (10, [Value.ref h1, Value.int n0_size, Value.int n0_place, Value.ref h2])), (h1, Sum.inl (cint, 120, Sum.inl f1))] s.heap.size = A at hD ⊢
  have hA : ∀ q : Nat, s.heap.size ≤ q → A q := fun q h => by rw [← hAe]; exact Or.inr h
  have hS : va_S A s.heap s.heap [] := va_S.rf
  have hP : va_P (dC, dI) vwCl [(h0, Sum.inr (10, [Value.ref h1, Value.int n0_size, Value.int n0_place, Value.ref h2])), (h1, Sum.inl (cint, 120, Sum.inl f1))] s.heap := hP
  have hl := lv_entry ([.ref h0]) (n := 1) (Nat.le_of_ble_eq_true rfl)
  rw [lg_entry_eq]
  generalize (lg_sl ([.ref h0]) ++ List.replicate (1 - (lg_sl ([.ref h0])).length) Slot.unset).toArray = ls at hl ⊢
  have hl : lv_has ls 1 [(0, .ref h0)] := hl
  refine lv_aload_n hx hb dX10_next_0 rfl (lv_at hl 0 rfl) ?_
  refine va_get (D := (dC, dI)) (ci := 10) (v := .int n0_place) (C := RX10) (T := TX10) (N := 4) hx hb hts (fun _ h => List.mem_cons_of_mem _ (List.mem_append_right _ h)) hown hK hP 0 rfl rfl 2 (by decide) (hts (.fieldLink RX10 17 "KinkStreet$Tape" "place" "I") (List.mem_of_getElem? (i := 1) rfl)) (fun _ h9 => h9) rfl dX10_next_1 ?_
  refine lv_if_lt (tgt := 30) hx hb dX10_next_4 (by decide) (fun c_1 => ?_) (fun c_1 => ?_)
  · have t_1 : n0_place.toInt < 0 := kk_lt c_1
    exfalso; omega
  · have t_1 : 0 ≤ n0_place.toInt := kk_nlt c_1
    refine lv_aload_n hx hb dX10_next_7 rfl (lv_at hl 0 rfl) ?_
    refine va_get (D := (dC, dI)) (ci := 10) (v := .int n0_place) (C := RX10) (T := TX10) (N := 4) hx hb hts (fun _ h => List.mem_cons_of_mem _ (List.mem_append_right _ h)) hown hK hP 0 rfl rfl 2 (by decide) (hts (.fieldLink RX10 17 "KinkStreet$Tape" "place" "I") (List.mem_of_getElem? (i := 1) rfl)) (fun _ h9 => h9) rfl dX10_next_8 ?_
    refine lv_aload_n hx hb dX10_next_11 rfl (lv_at hl 0 rfl) ?_
    refine va_get (D := (dC, dI)) (ci := 10) (v := .int n0_size) (C := RX10) (T := TX10) (N := 4) hx hb hts (fun _ h => List.mem_cons_of_mem _ (List.mem_append_right _ h)) hown hK hP 0 rfl rfl 1 (by decide) (hts (.fieldLink RX10 13 "KinkStreet$Tape" "size" "I") (List.mem_of_getElem? (i := 2) rfl)) (fun _ h9 => h9) rfl dX10_next_12 ?_
    refine lv_icmp_ge (tgt := 30) hx hb dX10_next_15 (by decide) (fun c_2 => ?_) (fun c_2 => ?_)
    · have t_2 : n0_size.toInt ≤ n0_place.toInt := kk_le c_2
      have hk_3 : ko_at f1 n0_size.toInt n0_place.toInt = 0 := ko_at_out (by omega)
      refine lv_iconst (v := (-1)) hx hb dX10_next_30 (by decide) ?_
      obtain ⟨hP9, hD9⟩ := kk_leafout (wc := [(h0, Sum.inr (10, [Value.ref h1, Value.int n0_size, Value.int n0_place, Value.ref h2])), (h1, Sum.inl (cint, 120, Sum.inl f1))]) hP hD [0, 1] (by decide) rfl
      have hK9 := hK.sub (tys' := []) [] rfl
      exact W.iret (v := (-1)) hx hb hr (fun t ht hW => ⟨⟨(-1), (), rfl, ⟨(by show ((((n0_place : Int32).toInt < (n0_size : Int32).toInt) → ((-1) : Int) = ko_at f1 (n0_size : Int32).toInt (n0_place : Int32).toInt ∧ 0 ≤ ((-1) : Int)) ∧ ((n0_size : Int32).toInt ≤ (n0_place : Int32).toInt → ((-1) : Int) = -1 ∧ ko_at f1 (n0_size : Int32).toInt (n0_place : Int32).toInt = 0)); omega), (by show (-1) ≤ ((-1) : Int32).toInt ∧ ((-1) : Int32).toInt ≤ 255; first | with_reducible assumption | decide | (constructor <;> (omega)))⟩, by rw [ht]; exact hP9, va_K.moved hW.alike hK9, hD9⟩, hS.F ht⟩) hS.2.2 dX10_next_31
    · have t_2 : n0_place.toInt < n0_size.toInt := kk_nle c_2
      have hk_4 : ko_at f1 n0_size.toInt n0_place.toInt = (f1 (n0_place : Int32).toNatClampNeg).toInt := ko_at_in (by omega) (by omega)
      refine lv_aload_n hx hb dX10_next_18 rfl (lv_at hl 0 rfl) ?_
      refine va_get (D := (dC, dI)) (ci := 10) (v := .ref h1) (C := RX10) (T := TX10) (N := 4) hx hb hts (fun _ h => List.mem_cons_of_mem _ (List.mem_append_right _ h)) hown hK hP 0 rfl rfl 0 (by decide) (hts (.fieldLink RX10 9 "KinkStreet$Tape" "bytes" "[I") (List.mem_of_getElem? (i := 3) rfl)) (fun _ h9 => h9) rfl dX10_next_19 ?_
      refine lv_aload_n hx hb dX10_next_22 rfl (lv_at hl 0 rfl) ?_
      refine va_get (D := (dC, dI)) (ci := 10) (v := .int n0_place) (C := RX10) (T := TX10) (N := 4) hx hb hts (fun _ h => List.mem_cons_of_mem _ (List.mem_append_right _ h)) hown hK hP 0 rfl rfl 2 (by decide) (hts (.fieldLink RX10 17 "KinkStreet$Tape" "place" "I") (List.mem_of_getElem? (i := 1) rfl)) (fun _ h9 => h9) rfl dX10_next_23 ?_
      have hi_5 : vp_in n0_place 120 := (vp_in_iff.mpr ⟨by omega, by omega⟩)
      refine va_iald hx hb hK hP 1 0 rfl rfl hi_5 dX10_next_26 ?_
      refine lv_topi (fun y_5 e_5 => ?_)
      obtain rfl : y_5 = (f1 (n0_place : Int32).toNatClampNeg) := e_5
      have t_5 : 0 ≤ (f1 (n0_place : Int32).toNatClampNeg).toInt ∧ (f1 (n0_place : Int32).toNatClampNeg).toInt ≤ 255 := bf1 _ (Nat.not_le.mp fun q => hi_5 (Or.inr q))
      refine lv_goto (tgt := 31) hx hb dX10_next_27 (by decide) ?_
      obtain ⟨hP9, hD9⟩ := kk_leafout (wc := [(h0, Sum.inr (10, [Value.ref h1, Value.int n0_size, Value.int n0_place, Value.ref h2])), (h1, Sum.inl (cint, 120, Sum.inl f1))]) hP hD [0, 1] (by decide) rfl
      have hK9 := hK.sub (tys' := []) [] rfl
      exact W.iret (v := (f1 (n0_place : Int32).toNatClampNeg)) hx hb hr (fun t ht hW => ⟨⟨(f1 (n0_place : Int32).toNatClampNeg), (), rfl, ⟨(by show ((((n0_place : Int32).toInt < (n0_size : Int32).toInt) → ((f1 (n0_place : Int32).toNatClampNeg) : Int32).toInt = ko_at f1 (n0_size : Int32).toInt (n0_place : Int32).toInt ∧ 0 ≤ ((f1 (n0_place : Int32).toNatClampNeg) : Int32).toInt) ∧ ((n0_size : Int32).toInt ≤ (n0_place : Int32).toInt → ((f1 (n0_place : Int32).toNatClampNeg) : Int32).toInt = -1 ∧ ko_at f1 (n0_size : Int32).toInt (n0_place : Int32).toInt = 0)); omega), (by show (-1) ≤ ((f1 (n0_place : Int32).toNatClampNeg) : Int32).toInt ∧ ((f1 (n0_place : Int32).toNatClampNeg) : Int32).toInt ≤ 255; first | with_reducible assumption | (constructor <;> (omega)))⟩, by rw [ht]; exact hP9, va_K.moved hW.alike hK9, hD9⟩, hS.F ht⟩) hS.2.2 dX10_next_31
set_option maxHeartbeats 4000000 in
set_option maxRecDepth 100000 in
theorem g_X10_isDigit_1 (l : Launch) (dC : Nat → ClassId) (dI : Nat → Nat → Nat) (sz : Nat) (p0 : Int32) : Met l yX10_isDigit wsX10_isDigit ({ frames := 0, cells := 0, slots := 0, locals := 0 }) (va_Pc [.int p0] (fun U => U.heap.size = sz ∧ va_P (dC, dI) vwCl [] U.heap ∧ va_K (dC, dI) vwCl [] U ∧ va_D (fun _ => True) [])) (va_Qi (fun (r : Int32) (_ : Unit) => ((p0.toInt < 48 ∨ 57 < p0.toInt) ∧ (0 : Int32) = r) ∨ (48 ≤ p0.toInt ∧ p0.toInt ≤ 57 ∧ (48 ≤ p0.toInt ∧ p0.toInt ≤ 57) ∧ (1 : Int32) = r)) (fun (_ : Unit) t => va_P (dC, dI) vwCl [] t.heap ∧ va_K (dC, dI) vwCl [] t ∧ va_D (va_A [] sz) []) (va_A [] sz)) 0 0 (va_A [] sz) := by
  refine Met.ofW (cc := cX10_isDigit) (maxL := 1) (ret := (some .boolean)) (by decide) rfl ?_
  intro p e s m args below meth c s₁ B hml hv
  obtain ⟨rfl, hsz, hP, hK, hD0⟩ := hv
  have hx := B.exec
  have hb := B.bytes
  have hr := B.returns
  have hts := atoms_spec (ws := wsX10_isDigit) B.pre
  have hown : s.vm.findClass RX10 = some m.cls := findClass_of_methodNamed B.named
  have hlocks := B.notSynchronized
  subst hsz
  have hD := hD0.self (sz := s.heap.size)
  generalize hAe : va_A [] s.heap.size = A at hD ⊢
  have hA : ∀ q : Nat, s.heap.size ≤ q → A q := fun q h => by rw [← hAe]; exact Or.inr h
  have hS : va_S A s.heap s.heap [] := va_S.rf
  have hP : va_P (dC, dI) vwCl [] s.heap := hP
  have hl := lv_entry ([.int p0]) (n := 1) (Nat.le_of_ble_eq_true rfl)
  rw [lg_entry_eq]
  generalize (lg_sl ([.int p0]) ++ List.replicate (1 - (lg_sl ([.int p0])).length) Slot.unset).toArray = ls at hl ⊢
  have hl : lv_has ls 1 [(0, .int p0)] := hl
  refine lv_iload_n hx hb dX10_isDigit_0 rfl (lv_at hl 0 rfl) ?_
  refine lv_bipush (v := 48) hx hb dX10_isDigit_1 (by decide) ?_
  refine lv_icmp_lt (tgt := 16) hx hb dX10_isDigit_3 (by decide) (fun c_1 => ?_) (fun c_1 => ?_)
  · have t_1 : p0.toInt < 48 := kk_lt c_1
    refine lv_iconst (v := 0) hx hb dX10_isDigit_16 (by decide) ?_
    obtain ⟨hP9, hD9⟩ := kk_leafout (wc := []) hP hD [] (by decide) rfl
    have hK9 := hK.sub (tys' := []) [] rfl
    exact W.zret (v := 0) hx hb hr rfl (fun t ht hW => ⟨⟨0, (), rfl, Or.inl ⟨(by show ((p0 : Int32).toInt < 48 ∨ 57 < (p0 : Int32).toInt); have := kk_rng p0; omega), rfl⟩, by rw [ht]; exact hP9, va_K.moved hW.alike hK9, hD9⟩, hS.F ht⟩) hS.2.2 dX10_isDigit_17
  · have t_1 : 48 ≤ p0.toInt := kk_nlt c_1
    refine lv_iload_n hx hb dX10_isDigit_6 rfl (lv_at hl 0 rfl) ?_
    refine lv_bipush (v := 57) hx hb dX10_isDigit_7 (by decide) ?_
    refine lv_icmp_gt (tgt := 16) hx hb dX10_isDigit_9 (by decide) (fun c_2 => ?_) (fun c_2 => ?_)
    · have t_2 : 57 < p0.toInt := kk_lt c_2
      refine lv_iconst (v := 0) hx hb dX10_isDigit_16 (by decide) ?_
      obtain ⟨hP9, hD9⟩ := kk_leafout (wc := []) hP hD [] (by decide) rfl
      have hK9 := hK.sub (tys' := []) [] rfl
      exact W.zret (v := 0) hx hb hr rfl (fun t ht hW => ⟨⟨0, (), rfl, Or.inl ⟨(by show ((p0 : Int32).toInt < 48 ∨ 57 < (p0 : Int32).toInt); have := kk_rng p0; omega), rfl⟩, by rw [ht]; exact hP9, va_K.moved hW.alike hK9, hD9⟩, hS.F ht⟩) hS.2.2 dX10_isDigit_17
    · have t_2 : p0.toInt ≤ 57 := kk_nlt c_2
      refine lv_iconst (v := 1) hx hb dX10_isDigit_12 (by decide) ?_
      refine lv_goto (tgt := 17) hx hb dX10_isDigit_13 (by decide) ?_
      obtain ⟨hP9, hD9⟩ := kk_leafout (wc := []) hP hD [] (by decide) rfl
      have hK9 := hK.sub (tys' := []) [] rfl
      exact W.zret (v := 1) hx hb hr rfl (fun t ht hW => ⟨⟨1, (), rfl, Or.inr (⟨by first | with_reducible assumption | (omega), by first | with_reducible assumption | (omega), (by show (48 ≤ (p0 : Int32).toInt ∧ (p0 : Int32).toInt ≤ 57); omega), rfl⟩), by rw [ht]; exact hP9, va_K.moved hW.alike hK9, hD9⟩, hS.F ht⟩) hS.2.2 dX10_isDigit_17
set_option maxHeartbeats 4000000 in
set_option maxRecDepth 100000 in
theorem g_X4_nameOf_1 (l : Launch) (dC : Nat → ClassId) (dI : Nat → Nat → Nat) (sz : Nat) (p0 : Int32) (aNAMES : Nat) : Met l yX4_nameOf wsX4_nameOf ({ frames := 0, cells := 0, slots := 0, locals := 0 }) (va_Pc [.int p0] (fun U => U.heap.size = sz ∧ va_P (dC, dI) vwCl [] U.heap ∧ va_K (dC, dI) vwCl [] U ∧ va_D (fun _ => True) [] ∧ va_Z "KinkStreet$Law" "NAMES" "[C" (.ref aNAMES) (va_A [] sz) U U.heap ∧ va_T .char aNAMES 8 tb_NAMES (va_A [] sz) U U.heap)) (va_Qi (fun (r : Int32) (_ : Unit) => ((0 ≤ r.toInt → (p0.toInt = 119 ∨ p0.toInt = 110 ∨ p0.toInt = 100 ∨ p0.toInt = 121 ∨ p0.toInt = 122 ∨ p0.toInt = 102 ∨ p0.toInt = 105 ∨ p0.toInt = 99)) ∧ (r.toInt < 0 → ¬ (p0.toInt = 119 ∨ p0.toInt = 110 ∨ p0.toInt = 100 ∨ p0.toInt = 121 ∨ p0.toInt = 122 ∨ p0.toInt = 102 ∨ p0.toInt = 105 ∨ p0.toInt = 99))) ∧ ((-2) ≤ r.toInt ∧ r.toInt ≤ 7)) (fun (_ : Unit) t => va_P (dC, dI) vwCl [] t.heap ∧ va_K (dC, dI) vwCl [] t ∧ va_D (va_A [] sz) []) (va_A [] sz)) 0 0 (va_A [] sz) := by
  refine Met.ofW (cc := cX4_nameOf) (maxL := 2) (ret := (some .int)) (by decide) rfl ?_
  intro p e s m args below meth c s₁ B hml hv
  obtain ⟨rfl, hsz, hP, hK, hD0, hZNAMES, hTNAMES⟩ := hv
  have hx := B.exec
  have hb := B.bytes
  have hr := B.returns
  have hts := atoms_spec (ws := wsX4_nameOf) B.pre
  have hown : s.vm.findClass RX4 = some m.cls := findClass_of_methodNamed B.named
  have hlocks := B.notSynchronized
  subst hsz
  have hD := hD0.self (sz := s.heap.size)
  generalize hAe : va_A [] s.heap.size = A at hD hZNAMES hTNAMES ⊢
  have hA : ∀ q : Nat, s.heap.size ≤ q → A q := fun q h => by rw [← hAe]; exact Or.inr h
  have hS : va_S A s.heap s.heap [] := va_S.rf
  have hP : va_P (dC, dI) vwCl [] s.heap := hP
  have hl := lv_entry ([.int p0]) (n := 2) (Nat.le_of_ble_eq_true rfl)
  rw [lg_entry_eq]
  generalize (lg_sl ([.int p0]) ++ List.replicate (2 - (lg_sl ([.int p0])).length) Slot.unset).toArray = ls at hl ⊢
  have hl : lv_has ls 2 [(0, .int p0)] := hl
  refine lv_iconst (v := 0) hx hb dX4_nameOf_0 (by decide) ?_
  refine lv_istore_n (lv' := [(1, .int 0), (0, .int p0)]) hx hb dX4_nameOf_1 rfl hl (by decide) rfl (fun ls hl => ?_)
  refine lv_iload_n hx hb dX4_nameOf_2 rfl (lv_at hl 0 rfl) ?_
  refine va_gets hx hb hZNAMES hS hown (hts (.fieldLink RX4 15 "KinkStreet$Law" "NAMES" "[C") (List.mem_of_getElem? (i := 1) rfl)) (fun _ h9 => h9) dX4_nameOf_3 ?_
  refine va_tlen (v := 8) hx hb hTNAMES hS rfl dX4_nameOf_6 ?_
  refine lv_icmp_ge (tgt := 27) hx hb dX4_nameOf_7 (by decide) (fun c => absurd c (by decide)) (fun _ => ?_)
  refine va_gets hx hb hZNAMES hS hown (hts (.fieldLink RX4 15 "KinkStreet$Law" "NAMES" "[C") (List.mem_of_getElem? (i := 1) rfl)) (fun _ h9 => h9) dX4_nameOf_10 ?_
  refine lv_iload_n hx hb dX4_nameOf_13 rfl (lv_at hl 0 rfl) ?_
  refine va_tc (v := .int 119) hx hb hTNAMES hS (by unfold vp_in; decide) rfl dX4_nameOf_14 ?_
  refine lv_iload_n hx hb dX4_nameOf_15 rfl (lv_at hl 1 rfl) ?_
  refine lv_icmp_ne (tgt := 21) hx hb dX4_nameOf_16 (by decide) (fun c_1 => ?_) (fun c_1 => ?_)
  · have t_1 : 119 ≠ p0.toInt := kk_ne c_1
    refine lv_iinc (v := 1) (lv' := [(1, .int 1), (0, .int p0)]) hx hb dX4_nameOf_21 hl (k := 0) rfl (by first | rfl | decide) (by decide) rfl (fun ls hl => ?_)
    refine lv_goto (tgt := 2) hx hb dX4_nameOf_24 (by decide) ?_
    refine lv_iload_n hx hb dX4_nameOf_2 rfl (lv_at hl 0 rfl) ?_
    refine va_gets hx hb hZNAMES hS hown (hts (.fieldLink RX4 15 "KinkStreet$Law" "NAMES" "[C") (List.mem_of_getElem? (i := 1) rfl)) (fun _ h9 => h9) dX4_nameOf_3 ?_
    refine va_tlen (v := 8) hx hb hTNAMES hS rfl dX4_nameOf_6 ?_
    refine lv_icmp_ge (tgt := 27) hx hb dX4_nameOf_7 (by decide) (fun c => absurd c (by decide)) (fun _ => ?_)
    refine va_gets hx hb hZNAMES hS hown (hts (.fieldLink RX4 15 "KinkStreet$Law" "NAMES" "[C") (List.mem_of_getElem? (i := 1) rfl)) (fun _ h9 => h9) dX4_nameOf_10 ?_
    refine lv_iload_n hx hb dX4_nameOf_13 rfl (lv_at hl 0 rfl) ?_
    refine va_tc (v := .int 110) hx hb hTNAMES hS (by unfold vp_in; decide) rfl dX4_nameOf_14 ?_
    refine lv_iload_n hx hb dX4_nameOf_15 rfl (lv_at hl 1 rfl) ?_
    refine lv_icmp_ne (tgt := 21) hx hb dX4_nameOf_16 (by decide) (fun c_2 => ?_) (fun c_2 => ?_)
    · have t_2 : 110 ≠ p0.toInt := kk_ne c_2
      refine lv_iinc (v := 2) (lv' := [(1, .int 2), (0, .int p0)]) hx hb dX4_nameOf_21 hl (k := 0) rfl (by first | rfl | decide) (by decide) rfl (fun ls hl => ?_)
      refine lv_goto (tgt := 2) hx hb dX4_nameOf_24 (by decide) ?_
      refine lv_iload_n hx hb dX4_nameOf_2 rfl (lv_at hl 0 rfl) ?_
      refine va_gets hx hb hZNAMES hS hown (hts (.fieldLink RX4 15 "KinkStreet$Law" "NAMES" "[C") (List.mem_of_getElem? (i := 1) rfl)) (fun _ h9 => h9) dX4_nameOf_3 ?_
      refine va_tlen (v := 8) hx hb hTNAMES hS rfl dX4_nameOf_6 ?_
      refine lv_icmp_ge (tgt := 27) hx hb dX4_nameOf_7 (by decide) (fun c => absurd c (by decide)) (fun _ => ?_)
      refine va_gets hx hb hZNAMES hS hown (hts (.fieldLink RX4 15 "KinkStreet$Law" "NAMES" "[C") (List.mem_of_getElem? (i := 1) rfl)) (fun _ h9 => h9) dX4_nameOf_10 ?_
      refine lv_iload_n hx hb dX4_nameOf_13 rfl (lv_at hl 0 rfl) ?_
      refine va_tc (v := .int 100) hx hb hTNAMES hS (by unfold vp_in; decide) rfl dX4_nameOf_14 ?_
      refine lv_iload_n hx hb dX4_nameOf_15 rfl (lv_at hl 1 rfl) ?_
      refine lv_icmp_ne (tgt := 21) hx hb dX4_nameOf_16 (by decide) (fun c_3 => ?_) (fun c_3 => ?_)
      · have t_3 : 100 ≠ p0.toInt := kk_ne c_3
        refine lv_iinc (v := 3) (lv' := [(1, .int 3), (0, .int p0)]) hx hb dX4_nameOf_21 hl (k := 0) rfl (by first | rfl | decide) (by decide) rfl (fun ls hl => ?_)
        refine lv_goto (tgt := 2) hx hb dX4_nameOf_24 (by decide) ?_
        refine lv_iload_n hx hb dX4_nameOf_2 rfl (lv_at hl 0 rfl) ?_
        refine va_gets hx hb hZNAMES hS hown (hts (.fieldLink RX4 15 "KinkStreet$Law" "NAMES" "[C") (List.mem_of_getElem? (i := 1) rfl)) (fun _ h9 => h9) dX4_nameOf_3 ?_
        refine va_tlen (v := 8) hx hb hTNAMES hS rfl dX4_nameOf_6 ?_
        refine lv_icmp_ge (tgt := 27) hx hb dX4_nameOf_7 (by decide) (fun c => absurd c (by decide)) (fun _ => ?_)
        refine va_gets hx hb hZNAMES hS hown (hts (.fieldLink RX4 15 "KinkStreet$Law" "NAMES" "[C") (List.mem_of_getElem? (i := 1) rfl)) (fun _ h9 => h9) dX4_nameOf_10 ?_
        refine lv_iload_n hx hb dX4_nameOf_13 rfl (lv_at hl 0 rfl) ?_
        refine va_tc (v := .int 121) hx hb hTNAMES hS (by unfold vp_in; decide) rfl dX4_nameOf_14 ?_
        refine lv_iload_n hx hb dX4_nameOf_15 rfl (lv_at hl 1 rfl) ?_
        refine lv_icmp_ne (tgt := 21) hx hb dX4_nameOf_16 (by decide) (fun c_4 => ?_) (fun c_4 => ?_)
        · have t_4 : 121 ≠ p0.toInt := kk_ne c_4
          refine lv_iinc (v := 4) (lv' := [(1, .int 4), (0, .int p0)]) hx hb dX4_nameOf_21 hl (k := 0) rfl (by first | rfl | decide) (by decide) rfl (fun ls hl => ?_)
          refine lv_goto (tgt := 2) hx hb dX4_nameOf_24 (by decide) ?_
          refine lv_iload_n hx hb dX4_nameOf_2 rfl (lv_at hl 0 rfl) ?_
          refine va_gets hx hb hZNAMES hS hown (hts (.fieldLink RX4 15 "KinkStreet$Law" "NAMES" "[C") (List.mem_of_getElem? (i := 1) rfl)) (fun _ h9 => h9) dX4_nameOf_3 ?_
          refine va_tlen (v := 8) hx hb hTNAMES hS rfl dX4_nameOf_6 ?_
          refine lv_icmp_ge (tgt := 27) hx hb dX4_nameOf_7 (by decide) (fun c => absurd c (by decide)) (fun _ => ?_)
          refine va_gets hx hb hZNAMES hS hown (hts (.fieldLink RX4 15 "KinkStreet$Law" "NAMES" "[C") (List.mem_of_getElem? (i := 1) rfl)) (fun _ h9 => h9) dX4_nameOf_10 ?_
          refine lv_iload_n hx hb dX4_nameOf_13 rfl (lv_at hl 0 rfl) ?_
          refine va_tc (v := .int 122) hx hb hTNAMES hS (by unfold vp_in; decide) rfl dX4_nameOf_14 ?_
          refine lv_iload_n hx hb dX4_nameOf_15 rfl (lv_at hl 1 rfl) ?_
          refine lv_icmp_ne (tgt := 21) hx hb dX4_nameOf_16 (by decide) (fun c_5 => ?_) (fun c_5 => ?_)
          · have t_5 : 122 ≠ p0.toInt := kk_ne c_5
            refine lv_iinc (v := 5) (lv' := [(1, .int 5), (0, .int p0)]) hx hb dX4_nameOf_21 hl (k := 0) rfl (by first | rfl | decide) (by decide) rfl (fun ls hl => ?_)
            refine lv_goto (tgt := 2) hx hb dX4_nameOf_24 (by decide) ?_
            refine lv_iload_n hx hb dX4_nameOf_2 rfl (lv_at hl 0 rfl) ?_
            refine va_gets hx hb hZNAMES hS hown (hts (.fieldLink RX4 15 "KinkStreet$Law" "NAMES" "[C") (List.mem_of_getElem? (i := 1) rfl)) (fun _ h9 => h9) dX4_nameOf_3 ?_
            refine va_tlen (v := 8) hx hb hTNAMES hS rfl dX4_nameOf_6 ?_
            refine lv_icmp_ge (tgt := 27) hx hb dX4_nameOf_7 (by decide) (fun c => absurd c (by decide)) (fun _ => ?_)
            refine va_gets hx hb hZNAMES hS hown (hts (.fieldLink RX4 15 "KinkStreet$Law" "NAMES" "[C") (List.mem_of_getElem? (i := 1) rfl)) (fun _ h9 => h9) dX4_nameOf_10 ?_
            refine lv_iload_n hx hb dX4_nameOf_13 rfl (lv_at hl 0 rfl) ?_
            refine va_tc (v := .int 102) hx hb hTNAMES hS (by unfold vp_in; decide) rfl dX4_nameOf_14 ?_
            refine lv_iload_n hx hb dX4_nameOf_15 rfl (lv_at hl 1 rfl) ?_
            refine lv_icmp_ne (tgt := 21) hx hb dX4_nameOf_16 (by decide) (fun c_6 => ?_) (fun c_6 => ?_)
            · have t_6 : 102 ≠ p0.toInt := kk_ne c_6
              refine lv_iinc (v := 6) (lv' := [(1, .int 6), (0, .int p0)]) hx hb dX4_nameOf_21 hl (k := 0) rfl (by first | rfl | decide) (by decide) rfl (fun ls hl => ?_)
              refine lv_goto (tgt := 2) hx hb dX4_nameOf_24 (by decide) ?_
              refine lv_iload_n hx hb dX4_nameOf_2 rfl (lv_at hl 0 rfl) ?_
              refine va_gets hx hb hZNAMES hS hown (hts (.fieldLink RX4 15 "KinkStreet$Law" "NAMES" "[C") (List.mem_of_getElem? (i := 1) rfl)) (fun _ h9 => h9) dX4_nameOf_3 ?_
              refine va_tlen (v := 8) hx hb hTNAMES hS rfl dX4_nameOf_6 ?_
              refine lv_icmp_ge (tgt := 27) hx hb dX4_nameOf_7 (by decide) (fun c => absurd c (by decide)) (fun _ => ?_)
              refine va_gets hx hb hZNAMES hS hown (hts (.fieldLink RX4 15 "KinkStreet$Law" "NAMES" "[C") (List.mem_of_getElem? (i := 1) rfl)) (fun _ h9 => h9) dX4_nameOf_10 ?_
              refine lv_iload_n hx hb dX4_nameOf_13 rfl (lv_at hl 0 rfl) ?_
              refine va_tc (v := .int 105) hx hb hTNAMES hS (by unfold vp_in; decide) rfl dX4_nameOf_14 ?_
              refine lv_iload_n hx hb dX4_nameOf_15 rfl (lv_at hl 1 rfl) ?_
              refine lv_icmp_ne (tgt := 21) hx hb dX4_nameOf_16 (by decide) (fun c_7 => ?_) (fun c_7 => ?_)
              · have t_7 : 105 ≠ p0.toInt := kk_ne c_7
                refine lv_iinc (v := 7) (lv' := [(1, .int 7), (0, .int p0)]) hx hb dX4_nameOf_21 hl (k := 0) rfl (by first | rfl | decide) (by decide) rfl (fun ls hl => ?_)
                refine lv_goto (tgt := 2) hx hb dX4_nameOf_24 (by decide) ?_
                refine lv_iload_n hx hb dX4_nameOf_2 rfl (lv_at hl 0 rfl) ?_
                refine va_gets hx hb hZNAMES hS hown (hts (.fieldLink RX4 15 "KinkStreet$Law" "NAMES" "[C") (List.mem_of_getElem? (i := 1) rfl)) (fun _ h9 => h9) dX4_nameOf_3 ?_
                refine va_tlen (v := 8) hx hb hTNAMES hS rfl dX4_nameOf_6 ?_
                refine lv_icmp_ge (tgt := 27) hx hb dX4_nameOf_7 (by decide) (fun c => absurd c (by decide)) (fun _ => ?_)
                refine va_gets hx hb hZNAMES hS hown (hts (.fieldLink RX4 15 "KinkStreet$Law" "NAMES" "[C") (List.mem_of_getElem? (i := 1) rfl)) (fun _ h9 => h9) dX4_nameOf_10 ?_
                refine lv_iload_n hx hb dX4_nameOf_13 rfl (lv_at hl 0 rfl) ?_
                refine va_tc (v := .int 99) hx hb hTNAMES hS (by unfold vp_in; decide) rfl dX4_nameOf_14 ?_
                refine lv_iload_n hx hb dX4_nameOf_15 rfl (lv_at hl 1 rfl) ?_
                refine lv_icmp_ne (tgt := 21) hx hb dX4_nameOf_16 (by decide) (fun c_8 => ?_) (fun c_8 => ?_)
                · have t_8 : 99 ≠ p0.toInt := kk_ne c_8
                  refine lv_iinc (v := 8) (lv' := [(1, .int 8), (0, .int p0)]) hx hb dX4_nameOf_21 hl (k := 0) rfl (by first | rfl | decide) (by decide) rfl (fun ls hl => ?_)
                  refine lv_goto (tgt := 2) hx hb dX4_nameOf_24 (by decide) ?_
                  refine lv_iload_n hx hb dX4_nameOf_2 rfl (lv_at hl 0 rfl) ?_
                  refine va_gets hx hb hZNAMES hS hown (hts (.fieldLink RX4 15 "KinkStreet$Law" "NAMES" "[C") (List.mem_of_getElem? (i := 1) rfl)) (fun _ h9 => h9) dX4_nameOf_3 ?_
                  refine va_tlen (v := 8) hx hb hTNAMES hS rfl dX4_nameOf_6 ?_
                  refine lv_icmp_ge (tgt := 27) hx hb dX4_nameOf_7 (by decide) (fun _ => ?_) (fun c => absurd c (by decide))
                  refine lv_bipush (v := (-2)) hx hb dX4_nameOf_27 (by decide) ?_
                  obtain ⟨hP9, hD9⟩ := kk_leafout (wc := []) hP hD [] (by decide) rfl
                  have hK9 := hK.sub (tys' := []) [] rfl
                  exact W.iret (v := (-2)) hx hb hr (fun t ht hW => ⟨⟨(-2), (), rfl, ⟨(by show ((0 ≤ ((-2) : Int) → ((p0 : Int32).toInt = 119 ∨ (p0 : Int32).toInt = 110 ∨ (p0 : Int32).toInt = 100 ∨ (p0 : Int32).toInt = 121 ∨ (p0 : Int32).toInt = 122 ∨ (p0 : Int32).toInt = 102 ∨ (p0 : Int32).toInt = 105 ∨ (p0 : Int32).toInt = 99)) ∧ (((-2) : Int) < 0 → ¬ ((p0 : Int32).toInt = 119 ∨ (p0 : Int32).toInt = 110 ∨ (p0 : Int32).toInt = 100 ∨ (p0 : Int32).toInt = 121 ∨ (p0 : Int32).toInt = 122 ∨ (p0 : Int32).toInt = 102 ∨ (p0 : Int32).toInt = 105 ∨ (p0 : Int32).toInt = 99))); omega), (by show (-2) ≤ ((-2) : Int32).toInt ∧ ((-2) : Int32).toInt ≤ 7; first | with_reducible assumption | decide | (constructor <;> (omega)))⟩, by rw [ht]; exact hP9, va_K.moved hW.alike hK9, hD9⟩, hS.F ht⟩) hS.2.2 dX4_nameOf_29
                · have t_8 : 99 = p0.toInt := kk_eq c_8
                  refine lv_iload_n hx hb dX4_nameOf_19 rfl (lv_at hl 0 rfl) ?_
                  obtain ⟨hP9, hD9⟩ := kk_leafout (wc := []) hP hD [] (by decide) rfl
                  have hK9 := hK.sub (tys' := []) [] rfl
                  exact W.iret (v := 7) hx hb hr (fun t ht hW => ⟨⟨7, (), rfl, ⟨(by show ((0 ≤ (7 : Int) → ((p0 : Int32).toInt = 119 ∨ (p0 : Int32).toInt = 110 ∨ (p0 : Int32).toInt = 100 ∨ (p0 : Int32).toInt = 121 ∨ (p0 : Int32).toInt = 122 ∨ (p0 : Int32).toInt = 102 ∨ (p0 : Int32).toInt = 105 ∨ (p0 : Int32).toInt = 99)) ∧ ((7 : Int) < 0 → ¬ ((p0 : Int32).toInt = 119 ∨ (p0 : Int32).toInt = 110 ∨ (p0 : Int32).toInt = 100 ∨ (p0 : Int32).toInt = 121 ∨ (p0 : Int32).toInt = 122 ∨ (p0 : Int32).toInt = 102 ∨ (p0 : Int32).toInt = 105 ∨ (p0 : Int32).toInt = 99))); omega), (by show (-2) ≤ (7 : Int32).toInt ∧ (7 : Int32).toInt ≤ 7; first | with_reducible assumption | decide | (constructor <;> (omega)))⟩, by rw [ht]; exact hP9, va_K.moved hW.alike hK9, hD9⟩, hS.F ht⟩) hS.2.2 dX4_nameOf_20
              · have t_7 : 105 = p0.toInt := kk_eq c_7
                refine lv_iload_n hx hb dX4_nameOf_19 rfl (lv_at hl 0 rfl) ?_
                obtain ⟨hP9, hD9⟩ := kk_leafout (wc := []) hP hD [] (by decide) rfl
                have hK9 := hK.sub (tys' := []) [] rfl
                exact W.iret (v := 6) hx hb hr (fun t ht hW => ⟨⟨6, (), rfl, ⟨(by show ((0 ≤ (6 : Int) → ((p0 : Int32).toInt = 119 ∨ (p0 : Int32).toInt = 110 ∨ (p0 : Int32).toInt = 100 ∨ (p0 : Int32).toInt = 121 ∨ (p0 : Int32).toInt = 122 ∨ (p0 : Int32).toInt = 102 ∨ (p0 : Int32).toInt = 105 ∨ (p0 : Int32).toInt = 99)) ∧ ((6 : Int) < 0 → ¬ ((p0 : Int32).toInt = 119 ∨ (p0 : Int32).toInt = 110 ∨ (p0 : Int32).toInt = 100 ∨ (p0 : Int32).toInt = 121 ∨ (p0 : Int32).toInt = 122 ∨ (p0 : Int32).toInt = 102 ∨ (p0 : Int32).toInt = 105 ∨ (p0 : Int32).toInt = 99))); omega), (by show (-2) ≤ (6 : Int32).toInt ∧ (6 : Int32).toInt ≤ 7; first | with_reducible assumption | decide | (constructor <;> (omega)))⟩, by rw [ht]; exact hP9, va_K.moved hW.alike hK9, hD9⟩, hS.F ht⟩) hS.2.2 dX4_nameOf_20
            · have t_6 : 102 = p0.toInt := kk_eq c_6
              refine lv_iload_n hx hb dX4_nameOf_19 rfl (lv_at hl 0 rfl) ?_
              obtain ⟨hP9, hD9⟩ := kk_leafout (wc := []) hP hD [] (by decide) rfl
              have hK9 := hK.sub (tys' := []) [] rfl
              exact W.iret (v := 5) hx hb hr (fun t ht hW => ⟨⟨5, (), rfl, ⟨(by show ((0 ≤ (5 : Int) → ((p0 : Int32).toInt = 119 ∨ (p0 : Int32).toInt = 110 ∨ (p0 : Int32).toInt = 100 ∨ (p0 : Int32).toInt = 121 ∨ (p0 : Int32).toInt = 122 ∨ (p0 : Int32).toInt = 102 ∨ (p0 : Int32).toInt = 105 ∨ (p0 : Int32).toInt = 99)) ∧ ((5 : Int) < 0 → ¬ ((p0 : Int32).toInt = 119 ∨ (p0 : Int32).toInt = 110 ∨ (p0 : Int32).toInt = 100 ∨ (p0 : Int32).toInt = 121 ∨ (p0 : Int32).toInt = 122 ∨ (p0 : Int32).toInt = 102 ∨ (p0 : Int32).toInt = 105 ∨ (p0 : Int32).toInt = 99))); omega), (by show (-2) ≤ (5 : Int32).toInt ∧ (5 : Int32).toInt ≤ 7; first | with_reducible assumption | decide | (constructor <;> (omega)))⟩, by rw [ht]; exact hP9, va_K.moved hW.alike hK9, hD9⟩, hS.F ht⟩) hS.2.2 dX4_nameOf_20
          · have t_5 : 122 = p0.toInt := kk_eq c_5
            refine lv_iload_n hx hb dX4_nameOf_19 rfl (lv_at hl 0 rfl) ?_
            obtain ⟨hP9, hD9⟩ := kk_leafout (wc := []) hP hD [] (by decide) rfl
            have hK9 := hK.sub (tys' := []) [] rfl
            exact W.iret (v := 4) hx hb hr (fun t ht hW => ⟨⟨4, (), rfl, ⟨(by show ((0 ≤ (4 : Int) → ((p0 : Int32).toInt = 119 ∨ (p0 : Int32).toInt = 110 ∨ (p0 : Int32).toInt = 100 ∨ (p0 : Int32).toInt = 121 ∨ (p0 : Int32).toInt = 122 ∨ (p0 : Int32).toInt = 102 ∨ (p0 : Int32).toInt = 105 ∨ (p0 : Int32).toInt = 99)) ∧ ((4 : Int) < 0 → ¬ ((p0 : Int32).toInt = 119 ∨ (p0 : Int32).toInt = 110 ∨ (p0 : Int32).toInt = 100 ∨ (p0 : Int32).toInt = 121 ∨ (p0 : Int32).toInt = 122 ∨ (p0 : Int32).toInt = 102 ∨ (p0 : Int32).toInt = 105 ∨ (p0 : Int32).toInt = 99))); omega), (by show (-2) ≤ (4 : Int32).toInt ∧ (4 : Int32).toInt ≤ 7; first | with_reducible assumption | decide | (constructor <;> (omega)))⟩, by rw [ht]; exact hP9, va_K.moved hW.alike hK9, hD9⟩, hS.F ht⟩) hS.2.2 dX4_nameOf_20
        · have t_4 : 121 = p0.toInt := kk_eq c_4
          refine lv_iload_n hx hb dX4_nameOf_19 rfl (lv_at hl 0 rfl) ?_
          obtain ⟨hP9, hD9⟩ := kk_leafout (wc := []) hP hD [] (by decide) rfl
          have hK9 := hK.sub (tys' := []) [] rfl
          exact W.iret (v := 3) hx hb hr (fun t ht hW => ⟨⟨3, (), rfl, ⟨(by show ((0 ≤ (3 : Int) → ((p0 : Int32).toInt = 119 ∨ (p0 : Int32).toInt = 110 ∨ (p0 : Int32).toInt = 100 ∨ (p0 : Int32).toInt = 121 ∨ (p0 : Int32).toInt = 122 ∨ (p0 : Int32).toInt = 102 ∨ (p0 : Int32).toInt = 105 ∨ (p0 : Int32).toInt = 99)) ∧ ((3 : Int) < 0 → ¬ ((p0 : Int32).toInt = 119 ∨ (p0 : Int32).toInt = 110 ∨ (p0 : Int32).toInt = 100 ∨ (p0 : Int32).toInt = 121 ∨ (p0 : Int32).toInt = 122 ∨ (p0 : Int32).toInt = 102 ∨ (p0 : Int32).toInt = 105 ∨ (p0 : Int32).toInt = 99))); omega), (by show (-2) ≤ (3 : Int32).toInt ∧ (3 : Int32).toInt ≤ 7; first | with_reducible assumption | decide | (constructor <;> (omega)))⟩, by rw [ht]; exact hP9, va_K.moved hW.alike hK9, hD9⟩, hS.F ht⟩) hS.2.2 dX4_nameOf_20
      · have t_3 : 100 = p0.toInt := kk_eq c_3
        refine lv_iload_n hx hb dX4_nameOf_19 rfl (lv_at hl 0 rfl) ?_
        obtain ⟨hP9, hD9⟩ := kk_leafout (wc := []) hP hD [] (by decide) rfl
        have hK9 := hK.sub (tys' := []) [] rfl
        exact W.iret (v := 2) hx hb hr (fun t ht hW => ⟨⟨2, (), rfl, ⟨(by show ((0 ≤ (2 : Int) → ((p0 : Int32).toInt = 119 ∨ (p0 : Int32).toInt = 110 ∨ (p0 : Int32).toInt = 100 ∨ (p0 : Int32).toInt = 121 ∨ (p0 : Int32).toInt = 122 ∨ (p0 : Int32).toInt = 102 ∨ (p0 : Int32).toInt = 105 ∨ (p0 : Int32).toInt = 99)) ∧ ((2 : Int) < 0 → ¬ ((p0 : Int32).toInt = 119 ∨ (p0 : Int32).toInt = 110 ∨ (p0 : Int32).toInt = 100 ∨ (p0 : Int32).toInt = 121 ∨ (p0 : Int32).toInt = 122 ∨ (p0 : Int32).toInt = 102 ∨ (p0 : Int32).toInt = 105 ∨ (p0 : Int32).toInt = 99))); omega), (by show (-2) ≤ (2 : Int32).toInt ∧ (2 : Int32).toInt ≤ 7; first | with_reducible assumption | decide | (constructor <;> (omega)))⟩, by rw [ht]; exact hP9, va_K.moved hW.alike hK9, hD9⟩, hS.F ht⟩) hS.2.2 dX4_nameOf_20
    · have t_2 : 110 = p0.toInt := kk_eq c_2
      refine lv_iload_n hx hb dX4_nameOf_19 rfl (lv_at hl 0 rfl) ?_
      obtain ⟨hP9, hD9⟩ := kk_leafout (wc := []) hP hD [] (by decide) rfl
      have hK9 := hK.sub (tys' := []) [] rfl
      exact W.iret (v := 1) hx hb hr (fun t ht hW => ⟨⟨1, (), rfl, ⟨(by show ((0 ≤ (1 : Int) → ((p0 : Int32).toInt = 119 ∨ (p0 : Int32).toInt = 110 ∨ (p0 : Int32).toInt = 100 ∨ (p0 : Int32).toInt = 121 ∨ (p0 : Int32).toInt = 122 ∨ (p0 : Int32).toInt = 102 ∨ (p0 : Int32).toInt = 105 ∨ (p0 : Int32).toInt = 99)) ∧ ((1 : Int) < 0 → ¬ ((p0 : Int32).toInt = 119 ∨ (p0 : Int32).toInt = 110 ∨ (p0 : Int32).toInt = 100 ∨ (p0 : Int32).toInt = 121 ∨ (p0 : Int32).toInt = 122 ∨ (p0 : Int32).toInt = 102 ∨ (p0 : Int32).toInt = 105 ∨ (p0 : Int32).toInt = 99))); omega), (by show (-2) ≤ (1 : Int32).toInt ∧ (1 : Int32).toInt ≤ 7; first | with_reducible assumption | decide | (constructor <;> (omega)))⟩, by rw [ht]; exact hP9, va_K.moved hW.alike hK9, hD9⟩, hS.F ht⟩) hS.2.2 dX4_nameOf_20
  · have t_1 : 119 = p0.toInt := kk_eq c_1
    refine lv_iload_n hx hb dX4_nameOf_19 rfl (lv_at hl 0 rfl) ?_
    obtain ⟨hP9, hD9⟩ := kk_leafout (wc := []) hP hD [] (by decide) rfl
    have hK9 := hK.sub (tys' := []) [] rfl
    exact W.iret (v := 0) hx hb hr (fun t ht hW => ⟨⟨0, (), rfl, ⟨(by show ((0 ≤ (0 : Int) → ((p0 : Int32).toInt = 119 ∨ (p0 : Int32).toInt = 110 ∨ (p0 : Int32).toInt = 100 ∨ (p0 : Int32).toInt = 121 ∨ (p0 : Int32).toInt = 122 ∨ (p0 : Int32).toInt = 102 ∨ (p0 : Int32).toInt = 105 ∨ (p0 : Int32).toInt = 99)) ∧ ((0 : Int) < 0 → ¬ ((p0 : Int32).toInt = 119 ∨ (p0 : Int32).toInt = 110 ∨ (p0 : Int32).toInt = 100 ∨ (p0 : Int32).toInt = 121 ∨ (p0 : Int32).toInt = 122 ∨ (p0 : Int32).toInt = 102 ∨ (p0 : Int32).toInt = 105 ∨ (p0 : Int32).toInt = 99))); omega), (by show (-2) ≤ (0 : Int32).toInt ∧ (0 : Int32).toInt ≤ 7; first | with_reducible assumption | decide | (constructor <;> (omega)))⟩, by rw [ht]; exact hP9, va_K.moved hW.alike hK9, hD9⟩, hS.F ht⟩) hS.2.2 dX4_nameOf_20
set_option maxHeartbeats 4000000 in
set_option maxRecDepth 100000 in
theorem g_X4_append_1 (l : Launch) (dC : Nat → ClassId) (dI : Nat → Nat → Nat) (h0 : Nat) (h1 : Nat) (h2 : Nat) (h3 : Nat) (cint : ClassId) (sz : Nat) (p0 : Int32) (n0_size : Int32) (n0_top : Int32) (f1 : Nat → Int32) (tn0_size : 0 ≤ n0_size.toInt ∧ n0_size.toInt ≤ 128) (tn0_top : 0 ≤ n0_top.toInt ∧ n0_top.toInt ≤ 64) (pr0 : n0_size.toInt ≤ 127) : Met l yX4_append wsX4_append ({ frames := 0, cells := 0, slots := 0, locals := 0 }) (va_Pc [.ref h0, .int p0] (fun U => U.heap.size = sz ∧ va_P (dC, dI) vwCl [(h0, Sum.inr (4, [Value.ref h1, Value.int n0_size, Value.ref h2, Value.ref h3, Value.int n0_top])), (h1, Sum.inl (cint, 128, Sum.inl f1))] U.heap ∧ va_K (dC, dI) vwCl [(cint, .int)] U ∧ va_D (fun _ => True) [(h0, Sum.inr (4, [Value.ref h1, Value.int n0_size, Value.ref h2, Value.ref h3, Value.int n0_top])), (h1, Sum.inl (cint, 128, Sum.inl f1))])) (va_Qv (fun (_ : Unit) => True) (fun (_ : Unit) t => ∃ (m0_size : Int32) (g1 : Nat → Int32), (1 ≤ m0_size.toInt ∧ m0_size.toInt ≤ 128) ∧ (kg_sI g1 m0_size.toInt = kg_sI f1 n0_size.toInt ++ [(p0 : Int32)]) ∧ (m0_size.toInt = n0_size.toInt + 1) ∧ va_P (dC, dI) vwCl [(h0, Sum.inr (4, [Value.ref h1, Value.int m0_size, Value.ref h2, Value.ref h3, Value.int n0_top])), (h1, Sum.inl (cint, 128, Sum.inl g1))] t.heap ∧ va_K (dC, dI) vwCl [] t ∧ va_D (va_A [(h0, Sum.inr (4, [Value.ref h1, Value.int n0_size, Value.ref h2, Value.ref h3, Value.int n0_top])), (h1, Sum.inl (cint, 128, Sum.inl f1))] sz) [(h0, Sum.inr (4, [Value.ref h1, Value.int m0_size, Value.ref h2, Value.ref h3, Value.int n0_top])), (h1, Sum.inl (cint, 128, Sum.inl g1))]) (va_A [(h0, Sum.inr (4, [Value.ref h1, Value.int n0_size, Value.ref h2, Value.ref h3, Value.int n0_top])), (h1, Sum.inl (cint, 128, Sum.inl f1))] sz)) 0 0 (va_A [(h0, Sum.inr (4, [Value.ref h1, Value.int n0_size, Value.ref h2, Value.ref h3, Value.int n0_top])), (h1, Sum.inl (cint, 128, Sum.inl f1))] sz) := by
  refine Met.ofW (cc := cX4_append) (maxL := 2) (ret := none) (by decide) rfl ?_
  intro p e s m args below meth c s₁ B hml hv
  obtain ⟨rfl, hsz, hP, hK, hD0⟩ := hv
  have hx := B.exec
  have hb := B.bytes
  have hr := B.returns
  have hts := atoms_spec (ws := wsX4_append) B.pre
  have hown : s.vm.findClass RX4 = some m.cls := findClass_of_methodNamed B.named
  have hlocks := B.notSynchronized
  subst hsz
  have hD := hD0.self (sz := s.heap.size)
  generalize hAe : va_A [(h0, Sum.inr (4, [Value.ref h1, Value.int n0_size, Value.ref h2, Value.ref h3, Value.int n0_top])), (h1, Sum.inl (cint, 128, Sum.inl f1))] s.heap.size = A at hD ⊢
  have hA : ∀ q : Nat, s.heap.size ≤ q → A q := fun q h => by rw [← hAe]; exact Or.inr h
  have hS : va_S A s.heap s.heap [] := va_S.rf
  have hP : va_P (dC, dI) vwCl [(h0, Sum.inr (4, [Value.ref h1, Value.int n0_size, Value.ref h2, Value.ref h3, Value.int n0_top])), (h1, Sum.inl (cint, 128, Sum.inl f1))] s.heap := hP
  have hl := lv_entry ([.ref h0, .int p0]) (n := 2) (Nat.le_of_ble_eq_true rfl)
  rw [lg_entry_eq]
  generalize (lg_sl ([.ref h0, .int p0]) ++ List.replicate (2 - (lg_sl ([.ref h0, .int p0])).length) Slot.unset).toArray = ls at hl ⊢
  have hl : lv_has ls 2 [(0, .ref h0), (1, .int p0)] := hl
  refine lv_aload_n hx hb dX4_append_0 rfl (lv_at hl 0 rfl) ?_
  refine va_get (D := (dC, dI)) (ci := 4) (v := .int n0_size) (C := RX4) (T := TX4) (N := 5) hx hb hts (fun _ h => List.mem_cons_of_mem _ (List.mem_append_right _ h)) hown hK hP 0 rfl rfl 1 (by decide) (hts (.fieldLink RX4 25 "KinkStreet$Law" "size" "I") (List.mem_of_getElem? (i := 1) rfl)) (fun _ h9 => h9) rfl dX4_append_1 ?_
  refine lv_sipush (v := 128) hx hb dX4_append_4 (by decide) ?_
  refine lv_icmp_ge (tgt := 27) hx hb dX4_append_7 (by decide) (fun c_1 => ?_) (fun c_1 => ?_)
  · have t_1 : 128 ≤ n0_size.toInt := kk_le c_1
    exfalso; omega
  · have t_1 : n0_size.toInt < 128 := kk_nle c_1
    refine lv_aload_n hx hb dX4_append_10 rfl (lv_at hl 0 rfl) ?_
    refine va_get (D := (dC, dI)) (ci := 4) (v := .ref h1) (C := RX4) (T := TX4) (N := 5) hx hb hts (fun _ h => List.mem_cons_of_mem _ (List.mem_append_right _ h)) hown hK hP 0 rfl rfl 0 (by decide) (hts (.fieldLink RX4 11 "KinkStreet$Law" "signs" "[I") (List.mem_of_getElem? (i := 2) rfl)) (fun _ h9 => h9) rfl dX4_append_11 ?_
    refine lv_aload_n hx hb dX4_append_14 rfl (lv_at hl 0 rfl) ?_
    refine lv_dup hx hb dX4_append_15 rfl ?_
    refine va_get (D := (dC, dI)) (ci := 4) (v := .int n0_size) (C := RX4) (T := TX4) (N := 5) hx hb hts (fun _ h => List.mem_cons_of_mem _ (List.mem_append_right _ h)) hown hK hP 0 rfl rfl 1 (by decide) (hts (.fieldLink RX4 25 "KinkStreet$Law" "size" "I") (List.mem_of_getElem? (i := 1) rfl)) (fun _ h9 => h9) rfl dX4_append_16 ?_
    refine lv_dup_x1 hx hb dX4_append_19 rfl rfl ?_
    refine lv_iconst (v := 1) hx hb dX4_append_20 (by decide) ?_
    refine lv_iadd hx hb dX4_append_21 ?_
    refine va_put (D := (dC, dI)) (ci := 4) (v := .int (n0_size + 1)) (ty := .int) (C := RX4) (T := TX4) (N := 5) hx hb hts (fun _ h => List.mem_cons_of_mem _ (List.mem_append_right _ h)) tyX4 tyX4_ok nmX4 hown hK hP hD hS 0 rfl rfl 1 (by decide) (hts (.fieldLink RX4 25 "KinkStreet$Law" "size" "I") (List.mem_of_getElem? (i := 1) rfl)) (fun _ h9 => h9) rfl (by decide +kernel) rfl rfl (Nat.le_of_ble_eq_true rfl) dX4_append_22 (fun H locs hP hD hS => ?_)
    have hP : va_P (dC, dI) vwCl [(h0, Sum.inr (4, [Value.ref h1, Value.int (n0_size + 1), Value.ref h2, Value.ref h3, Value.int n0_top])), (h1, Sum.inl (cint, 128, Sum.inl f1))] H := hP
    have hD : va_D A [(h0, Sum.inr (4, [Value.ref h1, Value.int (n0_size + 1), Value.ref h2, Value.ref h3, Value.int n0_top])), (h1, Sum.inl (cint, 128, Sum.inl f1))] := hD
    refine lv_iload_n hx hb dX4_append_25 rfl (lv_at hl 1 rfl) ?_
    refine va_iast hx hb hK hP hD hS 1 0 rfl rfl (vp_in_iff.mpr ⟨by have := kk_add2 (x := n0_size) (y := 1) (a := n0_size.toInt) (b := 1) rfl rfl (by omega) (by omega); omega, by have := kk_add2 (x := n0_size) (y := 1) (a := n0_size.toInt) (b := 1) rfl rfl (by omega) (by omega); omega⟩) dX4_append_26 (fun H locs hP hD hS => ?_)
    have w_2 : ((upd f1 (n0_size : Int32).toNatClampNeg p0) (n0_size : Int32).toNatClampNeg).toInt = (p0 : Int32).toInt := by rw [kk_ups]
    have hP : va_P (dC, dI) vwCl [(h0, Sum.inr (4, [Value.ref h1, Value.int (n0_size + 1), Value.ref h2, Value.ref h3, Value.int n0_top])), (h1, Sum.inl (cint, 128, Sum.inl (upd f1 (n0_size : Int32).toNatClampNeg p0)))] H := hP
    have hD : va_D A [(h0, Sum.inr (4, [Value.ref h1, Value.int (n0_size + 1), Value.ref h2, Value.ref h3, Value.int n0_top])), (h1, Sum.inl (cint, 128, Sum.inl (upd f1 (n0_size : Int32).toNatClampNeg p0)))] := hD
    obtain ⟨hP9, hD9⟩ := kk_leafout (wc := [(h0, Sum.inr (4, [Value.ref h1, Value.int (n0_size + 1), Value.ref h2, Value.ref h3, Value.int n0_top])), (h1, Sum.inl (cint, 128, Sum.inl (upd f1 (n0_size : Int32).toNatClampNeg p0)))]) hP hD [0, 1] (by decide) rfl
    have hK9 := hK.sub (tys' := []) [] rfl
    exact W.vret hx hb hr (fun t ht hW => ⟨⟨(), rfl, trivial, (n0_size + 1), (upd f1 (n0_size : Int32).toNatClampNeg p0), (by show 1 ≤ ((n0_size + 1) : Int32).toInt ∧ ((n0_size + 1) : Int32).toInt ≤ 128; first | with_reducible assumption | (constructor <;> (have := kk_add2 (x := n0_size) (y := 1) (a := n0_size.toInt) (b := 1) rfl rfl (by omega) (by omega); omega))), (by first | exact kg_sI_app (by have := kk_add2 (x := n0_size) (y := 1) (a := n0_size.toInt) (b := 1) rfl rfl (by omega) (by omega); omega) (by have := kk_add2 (x := n0_size) (y := 1) (a := n0_size.toInt) (b := 1) rfl rfl (by omega) (by omega); omega) | (exfalso; have := kk_add2 (x := n0_size) (y := 1) (a := n0_size.toInt) (b := 1) rfl rfl (by omega) (by omega); omega)), (by show ((n0_size + 1) : Int32).toInt = (n0_size : Int32).toInt + 1; first | with_reducible assumption | (have := kk_add2 (x := n0_size) (y := 1) (a := n0_size.toInt) (b := 1) rfl rfl (by omega) (by omega); omega)), by rw [ht]; exact hP9, va_K.moved hW.alike hK9, hD9⟩, hS.F ht⟩) hS.2.2 dX4_append_27
set_option maxHeartbeats 4000000 in
set_option maxRecDepth 100000 in
theorem g_X10_joins_5 (l : Launch) (dC : Nat → ClassId) (dI : Nat → Nat → Nat) (sz : Nat) (p1 : Int32) : Met l yX10_joins wsX10_joins ({ frames := 0, cells := 0, slots := 0, locals := 0 }) (va_Pc [.int 4, .int p1] (fun U => U.heap.size = sz ∧ va_P (dC, dI) vwCl [] U.heap ∧ va_K (dC, dI) vwCl [] U ∧ va_D (fun _ => True) [])) (va_Qi (fun (r : Int32) (_ : Unit) => (p1.toInt ≠ 42 ∧ p1.toInt ≠ 47 ∧ p1.toInt ≠ 37 ∧ (p1.toInt ≠ 42 ∧ p1.toInt ≠ 47 ∧ p1.toInt ≠ 37) ∧ (0 : Int32) = r) ∨ ((p1.toInt = 42 ∨ p1.toInt = 47 ∨ p1.toInt = 37) ∧ (1 : Int32) = r)) (fun (_ : Unit) t => va_P (dC, dI) vwCl [] t.heap ∧ va_K (dC, dI) vwCl [] t ∧ va_D (va_A [] sz) []) (va_A [] sz)) 0 0 (va_A [] sz) := by
  refine Met.ofW (cc := cX10_joins) (maxL := 2) (ret := (some .boolean)) (by decide) rfl ?_
  intro p e s m args below meth c s₁ B hml hv
  obtain ⟨rfl, hsz, hP, hK, hD0⟩ := hv
  have hx := B.exec
  have hb := B.bytes
  have hr := B.returns
  have hts := atoms_spec (ws := wsX10_joins) B.pre
  have hown : s.vm.findClass RX10 = some m.cls := findClass_of_methodNamed B.named
  have hlocks := B.notSynchronized
  subst hsz
  have hD := hD0.self (sz := s.heap.size)
  generalize hAe : va_A [] s.heap.size = A at hD ⊢
  have hA : ∀ q : Nat, s.heap.size ≤ q → A q := fun q h => by rw [← hAe]; exact Or.inr h
  have hS : va_S A s.heap s.heap [] := va_S.rf
  have hP : va_P (dC, dI) vwCl [] s.heap := hP
  have hl := lv_entry ([.int 4, .int p1]) (n := 2) (Nat.le_of_ble_eq_true rfl)
  rw [lg_entry_eq]
  generalize (lg_sl ([.int 4, .int p1]) ++ List.replicate (2 - (lg_sl ([.int 4, .int p1])).length) Slot.unset).toArray = ls at hl ⊢
  have hl : lv_has ls 2 [(0, .int 4), (1, .int p1)] := hl
  refine lv_iload_n hx hb dX10_joins_0 rfl (lv_at hl 0 rfl) ?_
  refine lv_tableOut (tgt := 98) hx hb dX10_joins_1 (by decide) (by decide) ?_
  refine lv_iload_n hx hb dX10_joins_98 rfl (lv_at hl 1 rfl) ?_
  refine lv_bipush (v := 42) hx hb dX10_joins_99 (by decide) ?_
  refine lv_icmp_eq (tgt := 116) hx hb dX10_joins_101 (by decide) (fun c_1 => ?_) (fun c_1 => ?_)
  · have t_1 : p1.toInt = 42 := kk_eq c_1
    refine lv_iconst (v := 1) hx hb dX10_joins_116 (by decide) ?_
    refine lv_goto (tgt := 121) hx hb dX10_joins_117 (by decide) ?_
    obtain ⟨hP9, hD9⟩ := kk_leafout (wc := []) hP hD [] (by decide) rfl
    have hK9 := hK.sub (tys' := []) [] rfl
    exact W.zret (v := 1) hx hb hr rfl (fun t ht hW => ⟨⟨1, (), rfl, Or.inr (⟨(by show ((p1 : Int32).toInt = 42 ∨ (p1 : Int32).toInt = 47 ∨ (p1 : Int32).toInt = 37); omega), rfl⟩), by rw [ht]; exact hP9, va_K.moved hW.alike hK9, hD9⟩, hS.F ht⟩) hS.2.2 dX10_joins_121
  · have t_1 : p1.toInt ≠ 42 := kk_ne c_1
    refine lv_iload_n hx hb dX10_joins_104 rfl (lv_at hl 1 rfl) ?_
    refine lv_bipush (v := 47) hx hb dX10_joins_105 (by decide) ?_
    refine lv_icmp_eq (tgt := 116) hx hb dX10_joins_107 (by decide) (fun c_2 => ?_) (fun c_2 => ?_)
    · have t_2 : p1.toInt = 47 := kk_eq c_2
      refine lv_iconst (v := 1) hx hb dX10_joins_116 (by decide) ?_
      refine lv_goto (tgt := 121) hx hb dX10_joins_117 (by decide) ?_
      obtain ⟨hP9, hD9⟩ := kk_leafout (wc := []) hP hD [] (by decide) rfl
      have hK9 := hK.sub (tys' := []) [] rfl
      exact W.zret (v := 1) hx hb hr rfl (fun t ht hW => ⟨⟨1, (), rfl, Or.inr (⟨(by show ((p1 : Int32).toInt = 42 ∨ (p1 : Int32).toInt = 47 ∨ (p1 : Int32).toInt = 37); omega), rfl⟩), by rw [ht]; exact hP9, va_K.moved hW.alike hK9, hD9⟩, hS.F ht⟩) hS.2.2 dX10_joins_121
    · have t_2 : p1.toInt ≠ 47 := kk_ne c_2
      refine lv_iload_n hx hb dX10_joins_110 rfl (lv_at hl 1 rfl) ?_
      refine lv_bipush (v := 37) hx hb dX10_joins_111 (by decide) ?_
      refine lv_icmp_ne (tgt := 120) hx hb dX10_joins_113 (by decide) (fun c_3 => ?_) (fun c_3 => ?_)
      · have t_3 : p1.toInt ≠ 37 := kk_ne c_3
        refine lv_iconst (v := 0) hx hb dX10_joins_120 (by decide) ?_
        obtain ⟨hP9, hD9⟩ := kk_leafout (wc := []) hP hD [] (by decide) rfl
        have hK9 := hK.sub (tys' := []) [] rfl
        exact W.zret (v := 0) hx hb hr rfl (fun t ht hW => ⟨⟨0, (), rfl, Or.inl ⟨by first | with_reducible assumption | (omega), by first | with_reducible assumption | (omega), by first | with_reducible assumption | (omega), (by show ((p1 : Int32).toInt ≠ 42 ∧ (p1 : Int32).toInt ≠ 47 ∧ (p1 : Int32).toInt ≠ 37); omega), rfl⟩, by rw [ht]; exact hP9, va_K.moved hW.alike hK9, hD9⟩, hS.F ht⟩) hS.2.2 dX10_joins_121
      · have t_3 : p1.toInt = 37 := kk_eq c_3
        refine lv_iconst (v := 1) hx hb dX10_joins_116 (by decide) ?_
        refine lv_goto (tgt := 121) hx hb dX10_joins_117 (by decide) ?_
        obtain ⟨hP9, hD9⟩ := kk_leafout (wc := []) hP hD [] (by decide) rfl
        have hK9 := hK.sub (tys' := []) [] rfl
        exact W.zret (v := 1) hx hb hr rfl (fun t ht hW => ⟨⟨1, (), rfl, Or.inr (⟨(by show ((p1 : Int32).toInt = 42 ∨ (p1 : Int32).toInt = 47 ∨ (p1 : Int32).toInt = 37); omega), rfl⟩), by rw [ht]; exact hP9, va_K.moved hW.alike hK9, hD9⟩, hS.F ht⟩) hS.2.2 dX10_joins_121
set_option maxHeartbeats 4000000 in
set_option maxRecDepth 100000 in
theorem g_X10_joins_6 (l : Launch) (dC : Nat → ClassId) (dI : Nat → Nat → Nat) (sz : Nat) (p1 : Int32) : Met l yX10_joins wsX10_joins ({ frames := 0, cells := 0, slots := 0, locals := 0 }) (va_Pc [.int 3, .int p1] (fun U => U.heap.size = sz ∧ va_P (dC, dI) vwCl [] U.heap ∧ va_K (dC, dI) vwCl [] U ∧ va_D (fun _ => True) [])) (va_Qi (fun (r : Int32) (_ : Unit) => (p1.toInt ≠ 43 ∧ p1.toInt ≠ 45 ∧ (p1.toInt ≠ 43 ∧ p1.toInt ≠ 45) ∧ (0 : Int32) = r) ∨ ((p1.toInt = 43 ∨ p1.toInt = 45) ∧ (1 : Int32) = r)) (fun (_ : Unit) t => va_P (dC, dI) vwCl [] t.heap ∧ va_K (dC, dI) vwCl [] t ∧ va_D (va_A [] sz) []) (va_A [] sz)) 0 0 (va_A [] sz) := by
  refine Met.ofW (cc := cX10_joins) (maxL := 2) (ret := (some .boolean)) (by decide) rfl ?_
  intro p e s m args below meth c s₁ B hml hv
  obtain ⟨rfl, hsz, hP, hK, hD0⟩ := hv
  have hx := B.exec
  have hb := B.bytes
  have hr := B.returns
  have hts := atoms_spec (ws := wsX10_joins) B.pre
  have hown : s.vm.findClass RX10 = some m.cls := findClass_of_methodNamed B.named
  have hlocks := B.notSynchronized
  subst hsz
  have hD := hD0.self (sz := s.heap.size)
  generalize hAe : va_A [] s.heap.size = A at hD ⊢
  have hA : ∀ q : Nat, s.heap.size ≤ q → A q := fun q h => by rw [← hAe]; exact Or.inr h
  have hS : va_S A s.heap s.heap [] := va_S.rf
  have hP : va_P (dC, dI) vwCl [] s.heap := hP
  have hl := lv_entry ([.int 3, .int p1]) (n := 2) (Nat.le_of_ble_eq_true rfl)
  rw [lg_entry_eq]
  generalize (lg_sl ([.int 3, .int p1]) ++ List.replicate (2 - (lg_sl ([.int 3, .int p1])).length) Slot.unset).toArray = ls at hl ⊢
  have hl : lv_has ls 2 [(0, .int 3), (1, .int p1)] := hl
  refine lv_iload_n hx hb dX10_joins_0 rfl (lv_at hl 0 rfl) ?_
  refine lv_tableIn (tgt := 80) hx hb dX10_joins_1 (by decide) (by decide) rfl (by decide) ?_
  refine lv_iload_n hx hb dX10_joins_80 rfl (lv_at hl 1 rfl) ?_
  refine lv_bipush (v := 43) hx hb dX10_joins_81 (by decide) ?_
  refine lv_icmp_eq (tgt := 92) hx hb dX10_joins_83 (by decide) (fun c_1 => ?_) (fun c_1 => ?_)
  · have t_1 : p1.toInt = 43 := kk_eq c_1
    refine lv_iconst (v := 1) hx hb dX10_joins_92 (by decide) ?_
    refine lv_goto (tgt := 97) hx hb dX10_joins_93 (by decide) ?_
    obtain ⟨hP9, hD9⟩ := kk_leafout (wc := []) hP hD [] (by decide) rfl
    have hK9 := hK.sub (tys' := []) [] rfl
    exact W.zret (v := 1) hx hb hr rfl (fun t ht hW => ⟨⟨1, (), rfl, Or.inr (⟨(by show ((p1 : Int32).toInt = 43 ∨ (p1 : Int32).toInt = 45); omega), rfl⟩), by rw [ht]; exact hP9, va_K.moved hW.alike hK9, hD9⟩, hS.F ht⟩) hS.2.2 dX10_joins_97
  · have t_1 : p1.toInt ≠ 43 := kk_ne c_1
    refine lv_iload_n hx hb dX10_joins_86 rfl (lv_at hl 1 rfl) ?_
    refine lv_bipush (v := 45) hx hb dX10_joins_87 (by decide) ?_
    refine lv_icmp_ne (tgt := 96) hx hb dX10_joins_89 (by decide) (fun c_2 => ?_) (fun c_2 => ?_)
    · have t_2 : p1.toInt ≠ 45 := kk_ne c_2
      refine lv_iconst (v := 0) hx hb dX10_joins_96 (by decide) ?_
      obtain ⟨hP9, hD9⟩ := kk_leafout (wc := []) hP hD [] (by decide) rfl
      have hK9 := hK.sub (tys' := []) [] rfl
      exact W.zret (v := 0) hx hb hr rfl (fun t ht hW => ⟨⟨0, (), rfl, Or.inl ⟨by first | with_reducible assumption | (omega), by first | with_reducible assumption | (omega), (by show ((p1 : Int32).toInt ≠ 43 ∧ (p1 : Int32).toInt ≠ 45); omega), rfl⟩, by rw [ht]; exact hP9, va_K.moved hW.alike hK9, hD9⟩, hS.F ht⟩) hS.2.2 dX10_joins_97
    · have t_2 : p1.toInt = 45 := kk_eq c_2
      refine lv_iconst (v := 1) hx hb dX10_joins_92 (by decide) ?_
      refine lv_goto (tgt := 97) hx hb dX10_joins_93 (by decide) ?_
      obtain ⟨hP9, hD9⟩ := kk_leafout (wc := []) hP hD [] (by decide) rfl
      have hK9 := hK.sub (tys' := []) [] rfl
      exact W.zret (v := 1) hx hb hr rfl (fun t ht hW => ⟨⟨1, (), rfl, Or.inr (⟨(by show ((p1 : Int32).toInt = 43 ∨ (p1 : Int32).toInt = 45); omega), rfl⟩), by rw [ht]; exact hP9, va_K.moved hW.alike hK9, hD9⟩, hS.F ht⟩) hS.2.2 dX10_joins_97
set_option maxHeartbeats 4000000 in
set_option maxRecDepth 100000 in
theorem g_X10_joins_7 (l : Launch) (dC : Nat → ClassId) (dI : Nat → Nat → Nat) (sz : Nat) (p1 : Int32) : Met l yX10_joins wsX10_joins ({ frames := 0, cells := 0, slots := 0, locals := 0 }) (va_Pc [.int 2, .int p1] (fun U => U.heap.size = sz ∧ va_P (dC, dI) vwCl [] U.heap ∧ va_K (dC, dI) vwCl [] U ∧ va_D (fun _ => True) [])) (va_Qi (fun (r : Int32) (_ : Unit) => (p1.toInt ≠ 60 ∧ p1.toInt ≠ 61 ∧ p1.toInt ≠ 62 ∧ (p1.toInt < 60 ∨ 62 < p1.toInt) ∧ (0 : Int32) = r) ∨ ((60 ≤ p1.toInt ∧ p1.toInt ≤ 62) ∧ (1 : Int32) = r)) (fun (_ : Unit) t => va_P (dC, dI) vwCl [] t.heap ∧ va_K (dC, dI) vwCl [] t ∧ va_D (va_A [] sz) []) (va_A [] sz)) 0 0 (va_A [] sz) := by
  refine Met.ofW (cc := cX10_joins) (maxL := 2) (ret := (some .boolean)) (by decide) rfl ?_
  intro p e s m args below meth c s₁ B hml hv
  obtain ⟨rfl, hsz, hP, hK, hD0⟩ := hv
  have hx := B.exec
  have hb := B.bytes
  have hr := B.returns
  have hts := atoms_spec (ws := wsX10_joins) B.pre
  have hown : s.vm.findClass RX10 = some m.cls := findClass_of_methodNamed B.named
  have hlocks := B.notSynchronized
  subst hsz
  have hD := hD0.self (sz := s.heap.size)
  generalize hAe : va_A [] s.heap.size = A at hD ⊢
  have hA : ∀ q : Nat, s.heap.size ≤ q → A q := fun q h => by rw [← hAe]; exact Or.inr h
  have hS : va_S A s.heap s.heap [] := va_S.rf
  have hP : va_P (dC, dI) vwCl [] s.heap := hP
  have hl := lv_entry ([.int 2, .int p1]) (n := 2) (Nat.le_of_ble_eq_true rfl)
  rw [lg_entry_eq]
  generalize (lg_sl ([.int 2, .int p1]) ++ List.replicate (2 - (lg_sl ([.int 2, .int p1])).length) Slot.unset).toArray = ls at hl ⊢
  have hl : lv_has ls 2 [(0, .int 2), (1, .int p1)] := hl
  refine lv_iload_n hx hb dX10_joins_0 rfl (lv_at hl 0 rfl) ?_
  refine lv_tableIn (tgt := 56) hx hb dX10_joins_1 (by decide) (by decide) rfl (by decide) ?_
  refine lv_iload_n hx hb dX10_joins_56 rfl (lv_at hl 1 rfl) ?_
  refine lv_bipush (v := 60) hx hb dX10_joins_57 (by decide) ?_
  refine lv_icmp_eq (tgt := 74) hx hb dX10_joins_59 (by decide) (fun c_1 => ?_) (fun c_1 => ?_)
  · have t_1 : p1.toInt = 60 := kk_eq c_1
    refine lv_iconst (v := 1) hx hb dX10_joins_74 (by decide) ?_
    refine lv_goto (tgt := 79) hx hb dX10_joins_75 (by decide) ?_
    obtain ⟨hP9, hD9⟩ := kk_leafout (wc := []) hP hD [] (by decide) rfl
    have hK9 := hK.sub (tys' := []) [] rfl
    exact W.zret (v := 1) hx hb hr rfl (fun t ht hW => ⟨⟨1, (), rfl, Or.inr (⟨(by show (60 ≤ (p1 : Int32).toInt ∧ (p1 : Int32).toInt ≤ 62); omega), rfl⟩), by rw [ht]; exact hP9, va_K.moved hW.alike hK9, hD9⟩, hS.F ht⟩) hS.2.2 dX10_joins_79
  · have t_1 : p1.toInt ≠ 60 := kk_ne c_1
    refine lv_iload_n hx hb dX10_joins_62 rfl (lv_at hl 1 rfl) ?_
    refine lv_bipush (v := 61) hx hb dX10_joins_63 (by decide) ?_
    refine lv_icmp_eq (tgt := 74) hx hb dX10_joins_65 (by decide) (fun c_2 => ?_) (fun c_2 => ?_)
    · have t_2 : p1.toInt = 61 := kk_eq c_2
      refine lv_iconst (v := 1) hx hb dX10_joins_74 (by decide) ?_
      refine lv_goto (tgt := 79) hx hb dX10_joins_75 (by decide) ?_
      obtain ⟨hP9, hD9⟩ := kk_leafout (wc := []) hP hD [] (by decide) rfl
      have hK9 := hK.sub (tys' := []) [] rfl
      exact W.zret (v := 1) hx hb hr rfl (fun t ht hW => ⟨⟨1, (), rfl, Or.inr (⟨(by show (60 ≤ (p1 : Int32).toInt ∧ (p1 : Int32).toInt ≤ 62); omega), rfl⟩), by rw [ht]; exact hP9, va_K.moved hW.alike hK9, hD9⟩, hS.F ht⟩) hS.2.2 dX10_joins_79
    · have t_2 : p1.toInt ≠ 61 := kk_ne c_2
      refine lv_iload_n hx hb dX10_joins_68 rfl (lv_at hl 1 rfl) ?_
      refine lv_bipush (v := 62) hx hb dX10_joins_69 (by decide) ?_
      refine lv_icmp_ne (tgt := 78) hx hb dX10_joins_71 (by decide) (fun c_3 => ?_) (fun c_3 => ?_)
      · have t_3 : p1.toInt ≠ 62 := kk_ne c_3
        refine lv_iconst (v := 0) hx hb dX10_joins_78 (by decide) ?_
        obtain ⟨hP9, hD9⟩ := kk_leafout (wc := []) hP hD [] (by decide) rfl
        have hK9 := hK.sub (tys' := []) [] rfl
        exact W.zret (v := 0) hx hb hr rfl (fun t ht hW => ⟨⟨0, (), rfl, Or.inl ⟨by first | with_reducible assumption | (omega), by first | with_reducible assumption | (omega), by first | with_reducible assumption | (omega), (by show ((p1 : Int32).toInt < 60 ∨ 62 < (p1 : Int32).toInt); omega), rfl⟩, by rw [ht]; exact hP9, va_K.moved hW.alike hK9, hD9⟩, hS.F ht⟩) hS.2.2 dX10_joins_79
      · have t_3 : p1.toInt = 62 := kk_eq c_3
        refine lv_iconst (v := 1) hx hb dX10_joins_74 (by decide) ?_
        refine lv_goto (tgt := 79) hx hb dX10_joins_75 (by decide) ?_
        obtain ⟨hP9, hD9⟩ := kk_leafout (wc := []) hP hD [] (by decide) rfl
        have hK9 := hK.sub (tys' := []) [] rfl
        exact W.zret (v := 1) hx hb hr rfl (fun t ht hW => ⟨⟨1, (), rfl, Or.inr (⟨(by show (60 ≤ (p1 : Int32).toInt ∧ (p1 : Int32).toInt ≤ 62); omega), rfl⟩), by rw [ht]; exact hP9, va_K.moved hW.alike hK9, hD9⟩, hS.F ht⟩) hS.2.2 dX10_joins_79
set_option maxHeartbeats 4000000 in
set_option maxRecDepth 100000 in
theorem g_X10_joins_8 (l : Launch) (dC : Nat → ClassId) (dI : Nat → Nat → Nat) (sz : Nat) (p1 : Int32) : Met l yX10_joins wsX10_joins ({ frames := 0, cells := 0, slots := 0, locals := 0 }) (va_Pc [.int 1, .int p1] (fun U => U.heap.size = sz ∧ va_P (dC, dI) vwCl [] U.heap ∧ va_K (dC, dI) vwCl [] U ∧ va_D (fun _ => True) [])) (va_Qi (fun (r : Int32) (_ : Unit) => (p1.toInt ≠ 38 ∧ p1.toInt ≠ 38 ∧ (0 : Int32) = r) ∨ (p1.toInt = 38 ∧ p1.toInt = 38 ∧ (1 : Int32) = r)) (fun (_ : Unit) t => va_P (dC, dI) vwCl [] t.heap ∧ va_K (dC, dI) vwCl [] t ∧ va_D (va_A [] sz) []) (va_A [] sz)) 0 0 (va_A [] sz) := by
  refine Met.ofW (cc := cX10_joins) (maxL := 2) (ret := (some .boolean)) (by decide) rfl ?_
  intro p e s m args below meth c s₁ B hml hv
  obtain ⟨rfl, hsz, hP, hK, hD0⟩ := hv
  have hx := B.exec
  have hb := B.bytes
  have hr := B.returns
  have hts := atoms_spec (ws := wsX10_joins) B.pre
  have hown : s.vm.findClass RX10 = some m.cls := findClass_of_methodNamed B.named
  have hlocks := B.notSynchronized
  subst hsz
  have hD := hD0.self (sz := s.heap.size)
  generalize hAe : va_A [] s.heap.size = A at hD ⊢
  have hA : ∀ q : Nat, s.heap.size ≤ q → A q := fun q h => by rw [← hAe]; exact Or.inr h
  have hS : va_S A s.heap s.heap [] := va_S.rf
  have hP : va_P (dC, dI) vwCl [] s.heap := hP
  have hl := lv_entry ([.int 1, .int p1]) (n := 2) (Nat.le_of_ble_eq_true rfl)
  rw [lg_entry_eq]
  generalize (lg_sl ([.int 1, .int p1]) ++ List.replicate (2 - (lg_sl ([.int 1, .int p1])).length) Slot.unset).toArray = ls at hl ⊢
  have hl : lv_has ls 2 [(0, .int 1), (1, .int p1)] := hl
  refine lv_iload_n hx hb dX10_joins_0 rfl (lv_at hl 0 rfl) ?_
  refine lv_tableIn (tgt := 44) hx hb dX10_joins_1 (by decide) (by decide) rfl (by decide) ?_
  refine lv_iload_n hx hb dX10_joins_44 rfl (lv_at hl 1 rfl) ?_
  refine lv_bipush (v := 38) hx hb dX10_joins_45 (by decide) ?_
  refine lv_icmp_ne (tgt := 54) hx hb dX10_joins_47 (by decide) (fun c_1 => ?_) (fun c_1 => ?_)
  · have t_1 : p1.toInt ≠ 38 := kk_ne c_1
    refine lv_iconst (v := 0) hx hb dX10_joins_54 (by decide) ?_
    obtain ⟨hP9, hD9⟩ := kk_leafout (wc := []) hP hD [] (by decide) rfl
    have hK9 := hK.sub (tys' := []) [] rfl
    exact W.zret (v := 0) hx hb hr rfl (fun t ht hW => ⟨⟨0, (), rfl, Or.inl ⟨by first | with_reducible assumption | (omega), (by show (p1 : Int32).toInt ≠ 38; omega), rfl⟩, by rw [ht]; exact hP9, va_K.moved hW.alike hK9, hD9⟩, hS.F ht⟩) hS.2.2 dX10_joins_55
  · have t_1 : p1.toInt = 38 := kk_eq c_1
    refine lv_iconst (v := 1) hx hb dX10_joins_50 (by decide) ?_
    refine lv_goto (tgt := 55) hx hb dX10_joins_51 (by decide) ?_
    obtain ⟨hP9, hD9⟩ := kk_leafout (wc := []) hP hD [] (by decide) rfl
    have hK9 := hK.sub (tys' := []) [] rfl
    exact W.zret (v := 1) hx hb hr rfl (fun t ht hW => ⟨⟨1, (), rfl, Or.inr (⟨by first | with_reducible assumption | (omega), (by show (p1 : Int32).toInt = 38; omega), rfl⟩), by rw [ht]; exact hP9, va_K.moved hW.alike hK9, hD9⟩, hS.F ht⟩) hS.2.2 dX10_joins_55
set_option maxHeartbeats 4000000 in
set_option maxRecDepth 100000 in
theorem g_X10_joins_9 (l : Launch) (dC : Nat → ClassId) (dI : Nat → Nat → Nat) (sz : Nat) (p1 : Int32) : Met l yX10_joins wsX10_joins ({ frames := 0, cells := 0, slots := 0, locals := 0 }) (va_Pc [.int 0, .int p1] (fun U => U.heap.size = sz ∧ va_P (dC, dI) vwCl [] U.heap ∧ va_K (dC, dI) vwCl [] U ∧ va_D (fun _ => True) [])) (va_Qi (fun (r : Int32) (_ : Unit) => (p1.toInt ≠ 124 ∧ p1.toInt ≠ 124 ∧ (0 : Int32) = r) ∨ (p1.toInt = 124 ∧ p1.toInt = 124 ∧ (1 : Int32) = r)) (fun (_ : Unit) t => va_P (dC, dI) vwCl [] t.heap ∧ va_K (dC, dI) vwCl [] t ∧ va_D (va_A [] sz) []) (va_A [] sz)) 0 0 (va_A [] sz) := by
  refine Met.ofW (cc := cX10_joins) (maxL := 2) (ret := (some .boolean)) (by decide) rfl ?_
  intro p e s m args below meth c s₁ B hml hv
  obtain ⟨rfl, hsz, hP, hK, hD0⟩ := hv
  have hx := B.exec
  have hb := B.bytes
  have hr := B.returns
  have hts := atoms_spec (ws := wsX10_joins) B.pre
  have hown : s.vm.findClass RX10 = some m.cls := findClass_of_methodNamed B.named
  have hlocks := B.notSynchronized
  subst hsz
  have hD := hD0.self (sz := s.heap.size)
  generalize hAe : va_A [] s.heap.size = A at hD ⊢
  have hA : ∀ q : Nat, s.heap.size ≤ q → A q := fun q h => by rw [← hAe]; exact Or.inr h
  have hS : va_S A s.heap s.heap [] := va_S.rf
  have hP : va_P (dC, dI) vwCl [] s.heap := hP
  have hl := lv_entry ([.int 0, .int p1]) (n := 2) (Nat.le_of_ble_eq_true rfl)
  rw [lg_entry_eq]
  generalize (lg_sl ([.int 0, .int p1]) ++ List.replicate (2 - (lg_sl ([.int 0, .int p1])).length) Slot.unset).toArray = ls at hl ⊢
  have hl : lv_has ls 2 [(0, .int 0), (1, .int p1)] := hl
  refine lv_iload_n hx hb dX10_joins_0 rfl (lv_at hl 0 rfl) ?_
  refine lv_tableIn (tgt := 32) hx hb dX10_joins_1 (by decide) (by decide) rfl (by decide) ?_
  refine lv_iload_n hx hb dX10_joins_32 rfl (lv_at hl 1 rfl) ?_
  refine lv_bipush (v := 124) hx hb dX10_joins_33 (by decide) ?_
  refine lv_icmp_ne (tgt := 42) hx hb dX10_joins_35 (by decide) (fun c_1 => ?_) (fun c_1 => ?_)
  · have t_1 : p1.toInt ≠ 124 := kk_ne c_1
    refine lv_iconst (v := 0) hx hb dX10_joins_42 (by decide) ?_
    obtain ⟨hP9, hD9⟩ := kk_leafout (wc := []) hP hD [] (by decide) rfl
    have hK9 := hK.sub (tys' := []) [] rfl
    exact W.zret (v := 0) hx hb hr rfl (fun t ht hW => ⟨⟨0, (), rfl, Or.inl ⟨by first | with_reducible assumption | (omega), (by show (p1 : Int32).toInt ≠ 124; omega), rfl⟩, by rw [ht]; exact hP9, va_K.moved hW.alike hK9, hD9⟩, hS.F ht⟩) hS.2.2 dX10_joins_43
  · have t_1 : p1.toInt = 124 := kk_eq c_1
    refine lv_iconst (v := 1) hx hb dX10_joins_38 (by decide) ?_
    refine lv_goto (tgt := 43) hx hb dX10_joins_39 (by decide) ?_
    obtain ⟨hP9, hD9⟩ := kk_leafout (wc := []) hP hD [] (by decide) rfl
    have hK9 := hK.sub (tys' := []) [] rfl
    exact W.zret (v := 1) hx hb hr rfl (fun t ht hW => ⟨⟨1, (), rfl, Or.inr (⟨by first | with_reducible assumption | (omega), (by show (p1 : Int32).toInt = 124; omega), rfl⟩), by rw [ht]; exact hP9, va_K.moved hW.alike hK9, hD9⟩, hS.F ht⟩) hS.2.2 dX10_joins_43
set_option maxHeartbeats 4000000 in
set_option maxRecDepth 100000 in
theorem g_X10_hasRoomFor_1 (l : Launch) (dC : Nat → ClassId) (dI : Nat → Nat → Nat) (h0 : Nat) (h1 : Nat) (sz : Nat) (p0 : Int32) (n0_size : Int32) (n0_place : Int32) (o0_law : Option Nat) (tn0_size : 0 ≤ n0_size.toInt ∧ n0_size.toInt ≤ 120) (pr0 : 1 ≤ p0.toInt) (pr1 : p0.toInt ≤ 4) : Met l yX10_hasRoomFor wsX10_hasRoomFor ({ frames := 0, cells := 0, slots := 0, locals := 0 }) (va_Pc [.ref h0, .int p0] (fun U => U.heap.size = sz ∧ va_P (dC, dI) vwCl [(h0, Sum.inr (10, [Value.ref h1, Value.int n0_size, Value.int n0_place, va_rf o0_law]))] U.heap ∧ va_K (dC, dI) vwCl [] U ∧ va_D (fun _ => True) [(h0, Sum.inr (10, [Value.ref h1, Value.int n0_size, Value.int n0_place, va_rf o0_law]))])) (va_Qi (fun (r : Int32) (_ : Unit) => ((r.toInt = 1 → n0_size.toInt + p0.toInt ≤ 120) ∧ (r.toInt = 0 → 120 < n0_size.toInt + p0.toInt)) ∧ (0 ≤ r.toInt ∧ r.toInt ≤ 1)) (fun (_ : Unit) t => va_P (dC, dI) vwCl [(h0, Sum.inr (10, [Value.ref h1, Value.int n0_size, Value.int n0_place, va_rf o0_law]))] t.heap ∧ va_K (dC, dI) vwCl [] t ∧ va_D (va_A [(h0, Sum.inr (10, [Value.ref h1, Value.int n0_size, Value.int n0_place, va_rf o0_law]))] sz) [(h0, Sum.inr (10, [Value.ref h1, Value.int n0_size, Value.int n0_place, va_rf o0_law]))]) (va_A [(h0, Sum.inr (10, [Value.ref h1, Value.int n0_size, Value.int n0_place, va_rf o0_law]))] sz)) 0 0 (va_A [(h0, Sum.inr (10, [Value.ref h1, Value.int n0_size, Value.int n0_place, va_rf o0_law]))] sz) := by
  refine Met.ofW (cc := cX10_hasRoomFor) (maxL := 2) (ret := (some .boolean)) (by decide) rfl ?_
  intro p e s m args below meth c s₁ B hml hv
  obtain ⟨rfl, hsz, hP, hK, hD0⟩ := hv
  have hx := B.exec
  have hb := B.bytes
  have hr := B.returns
  have hts := atoms_spec (ws := wsX10_hasRoomFor) B.pre
  have hown : s.vm.findClass RX10 = some m.cls := findClass_of_methodNamed B.named
  have hlocks := B.notSynchronized
  subst hsz
  have hD := hD0.self (sz := s.heap.size)
  generalize hAe : va_A [(h0, Sum.inr (10, [Value.ref h1, Value.int n0_size, Value.int n0_place, va_rf o0_law]))] s.heap.size = A at hD ⊢
  have hA : ∀ q : Nat, s.heap.size ≤ q → A q := fun q h => by rw [← hAe]; exact Or.inr h
  have hS : va_S A s.heap s.heap [] := va_S.rf
  have hP : va_P (dC, dI) vwCl [(h0, Sum.inr (10, [Value.ref h1, Value.int n0_size, Value.int n0_place, va_rf o0_law]))] s.heap := hP
  have hl := lv_entry ([.ref h0, .int p0]) (n := 2) (Nat.le_of_ble_eq_true rfl)
  rw [lg_entry_eq]
  generalize (lg_sl ([.ref h0, .int p0]) ++ List.replicate (2 - (lg_sl ([.ref h0, .int p0])).length) Slot.unset).toArray = ls at hl ⊢
  have hl : lv_has ls 2 [(0, .ref h0), (1, .int p0)] := hl
  refine lv_aload_n hx hb dX10_hasRoomFor_0 rfl (lv_at hl 0 rfl) ?_
  refine va_get (D := (dC, dI)) (ci := 10) (v := .int n0_size) (C := RX10) (T := TX10) (N := 4) hx hb hts (fun _ h => List.mem_cons_of_mem _ (List.mem_append_right _ h)) hown hK hP 0 rfl rfl 1 (by decide) (hts (.fieldLink RX10 13 "KinkStreet$Tape" "size" "I") (List.mem_of_getElem? (i := 1) rfl)) (fun _ h9 => h9) rfl dX10_hasRoomFor_1 ?_
  refine lv_iload_n hx hb dX10_hasRoomFor_4 rfl (lv_at hl 1 rfl) ?_
  refine lv_iadd hx hb dX10_hasRoomFor_5 ?_
  refine lv_bipush (v := 120) hx hb dX10_hasRoomFor_6 (by decide) ?_
  refine lv_icmp_gt (tgt := 15) hx hb dX10_hasRoomFor_8 (by decide) (fun c_1 => ?_) (fun c_1 => ?_)
  · have t_1 : 120 < (n0_size + p0).toInt := kk_lt c_1
    refine lv_iconst (v := 0) hx hb dX10_hasRoomFor_15 (by decide) ?_
    obtain ⟨hP9, hD9⟩ := kk_leafout (wc := [(h0, Sum.inr (10, [Value.ref h1, Value.int n0_size, Value.int n0_place, va_rf o0_law]))]) hP hD [0] (by decide) rfl
    have hK9 := hK.sub (tys' := []) [] rfl
    exact W.zret (v := 0) hx hb hr rfl (fun t ht hW => ⟨⟨0, (), rfl, ⟨(by show (((0 : Int) = 1 → (n0_size : Int32).toInt + (p0 : Int32).toInt ≤ 120) ∧ ((0 : Int) = 0 → 120 < (n0_size : Int32).toInt + (p0 : Int32).toInt)); have := kk_add2 (x := n0_size) (y := p0) (a := n0_size.toInt) (b := p0.toInt) rfl rfl (by omega) (by omega); omega), (by show 0 ≤ (0 : Int32).toInt ∧ (0 : Int32).toInt ≤ 1; first | with_reducible assumption | decide | (constructor <;> (have := kk_add2 (x := n0_size) (y := p0) (a := n0_size.toInt) (b := p0.toInt) rfl rfl (by omega) (by omega); omega)))⟩, by rw [ht]; exact hP9, va_K.moved hW.alike hK9, hD9⟩, hS.F ht⟩) hS.2.2 dX10_hasRoomFor_16
  · have t_1 : (n0_size + p0).toInt ≤ 120 := kk_nlt c_1
    refine lv_iconst (v := 1) hx hb dX10_hasRoomFor_11 (by decide) ?_
    refine lv_goto (tgt := 16) hx hb dX10_hasRoomFor_12 (by decide) ?_
    obtain ⟨hP9, hD9⟩ := kk_leafout (wc := [(h0, Sum.inr (10, [Value.ref h1, Value.int n0_size, Value.int n0_place, va_rf o0_law]))]) hP hD [0] (by decide) rfl
    have hK9 := hK.sub (tys' := []) [] rfl
    exact W.zret (v := 1) hx hb hr rfl (fun t ht hW => ⟨⟨1, (), rfl, ⟨(by show (((1 : Int) = 1 → (n0_size : Int32).toInt + (p0 : Int32).toInt ≤ 120) ∧ ((1 : Int) = 0 → 120 < (n0_size : Int32).toInt + (p0 : Int32).toInt)); have := kk_add2 (x := n0_size) (y := p0) (a := n0_size.toInt) (b := p0.toInt) rfl rfl (by omega) (by omega); omega), (by show 0 ≤ (1 : Int32).toInt ∧ (1 : Int32).toInt ≤ 1; first | with_reducible assumption | decide | (constructor <;> (have := kk_add2 (x := n0_size) (y := p0) (a := n0_size.toInt) (b := p0.toInt) rfl rfl (by omega) (by omega); omega)))⟩, by rw [ht]; exact hP9, va_K.moved hW.alike hK9, hD9⟩, hS.F ht⟩) hS.2.2 dX10_hasRoomFor_16
set_option maxHeartbeats 4000000 in
set_option maxRecDepth 100000 in
theorem g_X10_take_1 (l : Launch) (dC : Nat → ClassId) (dI : Nat → Nat → Nat) (h0 : Nat) (h1 : Nat) (cint : ClassId) (sz : Nat) (p1 : Int32) (n0_size : Int32) (n0_place : Int32) (o0_law : Option Nat) (f1 : Nat → Int32) (tn0_size : 0 ≤ n0_size.toInt ∧ n0_size.toInt ≤ 120) (bf1 : ∀ j, j < 120 → 0 ≤ (f1 j).toInt ∧ (f1 j).toInt ≤ 255) (pr0 : (n0_size.toInt + (1 : Int) ≤ 120)) : Met l yX10_take wsX10_take ({ frames := 0, cells := 0, slots := 0, locals := 0 }) (va_Pc [.ref h0, .int 1, .int p1] (fun U => U.heap.size = sz ∧ va_P (dC, dI) vwCl [(h0, Sum.inr (10, [Value.ref h1, Value.int n0_size, Value.int n0_place, va_rf o0_law])), (h1, Sum.inl (cint, 120, Sum.inl f1))] U.heap ∧ va_K (dC, dI) vwCl [(cint, .int)] U ∧ va_D (fun _ => True) [(h0, Sum.inr (10, [Value.ref h1, Value.int n0_size, Value.int n0_place, va_rf o0_law])), (h1, Sum.inl (cint, 120, Sum.inl f1))])) (va_Qi (fun (r : Int32) (_ : Unit) => r.toInt = n0_size.toInt + (1 : Int) ∧ (1 ≤ r.toInt ∧ r.toInt ≤ 120)) (fun (_ : Unit) t => ∃ (m0_size : Int32) (g1 : Nat → Int32), (1 ≤ m0_size.toInt ∧ m0_size.toInt ≤ 120) ∧ (∀ j, j < 120 → 0 ≤ (g1 j).toInt ∧ (g1 j).toInt ≤ 255) ∧ (m0_size.toInt = n0_size.toInt + (1 : Int)) ∧ (((0 : Int) = 0 → g1 = (upd f1 (n0_size : Int32).toNatClampNeg (kk_by p1 0))) ∧ ((0 : Int) = 0 → True)) ∧ va_P (dC, dI) vwCl [(h0, Sum.inr (10, [Value.ref h1, Value.int m0_size, Value.int n0_place, va_rf o0_law])), (h1, Sum.inl (cint, 120, Sum.inl g1))] t.heap ∧ va_K (dC, dI) vwCl [] t ∧ va_D (va_A [(h0, Sum.inr (10, [Value.ref h1, Value.int n0_size, Value.int n0_place, va_rf o0_law])), (h1, Sum.inl (cint, 120, Sum.inl f1))] sz) [(h0, Sum.inr (10, [Value.ref h1, Value.int m0_size, Value.int n0_place, va_rf o0_law])), (h1, Sum.inl (cint, 120, Sum.inl g1))]) (va_A [(h0, Sum.inr (10, [Value.ref h1, Value.int n0_size, Value.int n0_place, va_rf o0_law])), (h1, Sum.inl (cint, 120, Sum.inl f1))] sz)) 0 0 (va_A [(h0, Sum.inr (10, [Value.ref h1, Value.int n0_size, Value.int n0_place, va_rf o0_law])), (h1, Sum.inl (cint, 120, Sum.inl f1))] sz) := by
  refine Met.ofW (cc := cX10_take) (maxL := 4) (ret := (some .int)) (by decide) rfl ?_
  intro p e s m args below meth c s₁ B hml hv
  obtain ⟨rfl, hsz, hP, hK, hD0⟩ := hv
  have hx := B.exec
  have hb := B.bytes
  have hr := B.returns
  have hts := atoms_spec (ws := wsX10_take) B.pre
  have hown : s.vm.findClass RX10 = some m.cls := findClass_of_methodNamed B.named
  have hlocks := B.notSynchronized
  subst hsz
  have hD := hD0.self (sz := s.heap.size)
  generalize hAe : va_A [(h0, Sum.inr (10, [Value.ref h1, Value.int n0_size, Value.int n0_place, va_rf o0_law])), (h1, Sum.inl (cint, 120, Sum.inl f1))] s.heap.size = A at hD ⊢
  have hA : ∀ q : Nat, s.heap.size ≤ q → A q := fun q h => by rw [← hAe]; exact Or.inr h
  have hS : va_S A s.heap s.heap [] := va_S.rf
  have hP : va_P (dC, dI) vwCl [(h0, Sum.inr (10, [Value.ref h1, Value.int n0_size, Value.int n0_place, va_rf o0_law])), (h1, Sum.inl (cint, 120, Sum.inl f1))] s.heap := hP
  have hl := lv_entry ([.ref h0, .int 1, .int p1]) (n := 4) (Nat.le_of_ble_eq_true rfl)
  rw [lg_entry_eq]
  generalize (lg_sl ([.ref h0, .int 1, .int p1]) ++ List.replicate (4 - (lg_sl ([.ref h0, .int 1, .int p1])).length) Slot.unset).toArray = ls at hl ⊢
  have hl : lv_has ls 4 [(0, .ref h0), (1, .int 1), (2, .int p1)] := hl
  refine lv_iconst (v := 0) hx hb dX10_take_0 (by decide) ?_
  refine lv_istore_n (lv' := [(3, .int 0), (0, .ref h0), (1, .int 1), (2, .int p1)]) hx hb dX10_take_1 rfl hl (by decide) rfl (fun ls hl => ?_)
  refine lv_iload_n hx hb dX10_take_2 rfl (lv_at hl 0 rfl) ?_
  refine lv_iload_n hx hb dX10_take_3 rfl (lv_at hl 2 rfl) ?_
  refine lv_icmp_ge (tgt := 48) hx hb dX10_take_4 (by decide) (fun c => absurd c (by decide)) (fun _ => ?_)
  refine lv_aload_n hx hb dX10_take_7 rfl (lv_at hl 1 rfl) ?_
  refine va_get (D := (dC, dI)) (ci := 10) (v := .int n0_size) (C := RX10) (T := TX10) (N := 4) hx hb hts (fun _ h => List.mem_cons_of_mem _ (List.mem_append_right _ h)) hown hK hP 0 rfl rfl 1 (by decide) (hts (.fieldLink RX10 13 "KinkStreet$Tape" "size" "I") (List.mem_of_getElem? (i := 1) rfl)) (fun _ h9 => h9) rfl dX10_take_8 ?_
  refine lv_bipush (v := 120) hx hb dX10_take_11 (by decide) ?_
  refine lv_icmp_ge (tgt := 48) hx hb dX10_take_13 (by decide) (fun c_1 => ?_) (fun c_1 => ?_)
  · have t_1 : 120 ≤ n0_size.toInt := kk_le c_1
    refine lv_aload_n hx hb dX10_take_48 rfl (lv_at hl 1 rfl) ?_
    refine va_get (D := (dC, dI)) (ci := 10) (v := .int n0_size) (C := RX10) (T := TX10) (N := 4) hx hb hts (fun _ h => List.mem_cons_of_mem _ (List.mem_append_right _ h)) hown hK hP 0 rfl rfl 1 (by decide) (hts (.fieldLink RX10 13 "KinkStreet$Tape" "size" "I") (List.mem_of_getElem? (i := 1) rfl)) (fun _ h9 => h9) rfl dX10_take_49 ?_
    obtain ⟨hP9, hD9⟩ := kk_leafout (wc := [(h0, Sum.inr (10, [Value.ref h1, Value.int n0_size, Value.int n0_place, va_rf o0_law])), (h1, Sum.inl (cint, 120, Sum.inl f1))]) hP hD [0, 1] (by decide) rfl
    have hK9 := hK.sub (tys' := []) [] rfl
    exact W.iret (v := n0_size) hx hb hr (fun t ht hW => ⟨⟨n0_size, (), rfl, ⟨(by show (n0_size : Int32).toInt = (n0_size : Int32).toInt + (1 : Int); omega), (by show 1 ≤ (n0_size : Int32).toInt ∧ (n0_size : Int32).toInt ≤ 120; first | with_reducible assumption | (constructor <;> (omega)))⟩, n0_size, f1, (by show 1 ≤ (n0_size : Int32).toInt ∧ (n0_size : Int32).toInt ≤ 120; first | with_reducible assumption | (constructor <;> (omega))), bf1, (by show (n0_size : Int32).toInt = (n0_size : Int32).toInt + (1 : Int); first | with_reducible assumption | (omega)), ⟨fun hh => by first | exact rfl | (exfalso; omega), fun hh => by first | exact trivial | (exfalso; omega)⟩, by rw [ht]; exact hP9, va_K.moved hW.alike hK9, hD9⟩, hS.F ht⟩) hS.2.2 dX10_take_52
  · have t_1 : n0_size.toInt < 120 := kk_nle c_1
    refine lv_aload_n hx hb dX10_take_16 rfl (lv_at hl 1 rfl) ?_
    refine va_get (D := (dC, dI)) (ci := 10) (v := .ref h1) (C := RX10) (T := TX10) (N := 4) hx hb hts (fun _ h => List.mem_cons_of_mem _ (List.mem_append_right _ h)) hown hK hP 0 rfl rfl 0 (by decide) (hts (.fieldLink RX10 9 "KinkStreet$Tape" "bytes" "[I") (List.mem_of_getElem? (i := 2) rfl)) (fun _ h9 => h9) rfl dX10_take_17 ?_
    refine lv_aload_n hx hb dX10_take_20 rfl (lv_at hl 1 rfl) ?_
    refine lv_dup hx hb dX10_take_21 rfl ?_
    refine va_get (D := (dC, dI)) (ci := 10) (v := .int n0_size) (C := RX10) (T := TX10) (N := 4) hx hb hts (fun _ h => List.mem_cons_of_mem _ (List.mem_append_right _ h)) hown hK hP 0 rfl rfl 1 (by decide) (hts (.fieldLink RX10 13 "KinkStreet$Tape" "size" "I") (List.mem_of_getElem? (i := 1) rfl)) (fun _ h9 => h9) rfl dX10_take_22 ?_
    refine lv_dup_x1 hx hb dX10_take_25 rfl rfl ?_
    refine lv_iconst (v := 1) hx hb dX10_take_26 (by decide) ?_
    refine lv_iadd hx hb dX10_take_27 ?_
    refine va_put (D := (dC, dI)) (ci := 10) (v := .int (n0_size + 1)) (ty := .int) (C := RX10) (T := TX10) (N := 4) hx hb hts (fun _ h => List.mem_cons_of_mem _ (List.mem_append_right _ h)) tyX10 tyX10_ok nmX10 hown hK hP hD hS 0 rfl rfl 1 (by decide) (hts (.fieldLink RX10 13 "KinkStreet$Tape" "size" "I") (List.mem_of_getElem? (i := 1) rfl)) (fun _ h9 => h9) rfl (by decide +kernel) rfl rfl (Nat.le_of_ble_eq_true rfl) dX10_take_28 (fun H locs hP hD hS => ?_)
    have hP : va_P (dC, dI) vwCl [(h0, Sum.inr (10, [Value.ref h1, Value.int (n0_size + 1), Value.int n0_place, va_rf o0_law])), (h1, Sum.inl (cint, 120, Sum.inl f1))] H := hP
    have hD : va_D A [(h0, Sum.inr (10, [Value.ref h1, Value.int (n0_size + 1), Value.int n0_place, va_rf o0_law])), (h1, Sum.inl (cint, 120, Sum.inl f1))] := hD
    refine lv_iload_n hx hb dX10_take_31 rfl (lv_at hl 3 rfl) ?_
    refine lv_bipush (v := 8) hx hb dX10_take_32 (by decide) ?_
    refine lv_iload_n hx hb dX10_take_34 rfl (lv_at hl 0 rfl) ?_
    refine lv_imul hx hb dX10_take_35 ?_
    refine lv_topi (fun y_2 e_2 => ?_)
    obtain rfl : y_2 = 0 := e_2.trans (by decide)
    refine lv_iushr hx hb dX10_take_36 rfl ?_
    refine lv_sipush (v := 255) hx hb dX10_take_37 (by decide) ?_
    refine lv_iand hx hb dX10_take_40 ?_
    refine lv_topi (fun y_3 e_3 => ?_)
    obtain rfl : y_3 = (kk_by p1 0) := e_3.trans rfl
    have t_3 : 0 ≤ (kk_by p1 0).toInt ∧ (kk_by p1 0).toInt ≤ 255 := kk_by_b _ _
    refine va_iast hx hb hK hP hD hS 1 0 rfl rfl (vp_in_iff.mpr ⟨by have := kk_add2 (x := n0_size) (y := 1) (a := n0_size.toInt) (b := 1) rfl rfl (by omega) (by omega); omega, by have := kk_add2 (x := n0_size) (y := 1) (a := n0_size.toInt) (b := 1) rfl rfl (by omega) (by omega); omega⟩) dX10_take_41 (fun H locs hP hD hS => ?_)
    have w_4 : ((upd f1 (n0_size : Int32).toNatClampNeg (kk_by p1 0)) (n0_size : Int32).toNatClampNeg).toInt = ((kk_by p1 0) : Int32).toInt := by rw [kk_ups]
    have b_4 := kk_upb (k := (n0_size : Int32).toNatClampNeg) bf1 (show 0 ≤ ((kk_by p1 0) : Int32).toInt ∧ ((kk_by p1 0) : Int32).toInt ≤ 255 from by first | with_reducible assumption | decide | (constructor <;> (have := kk_add2 (x := n0_size) (y := 1) (a := n0_size.toInt) (b := 1) rfl rfl (by omega) (by omega); omega)))
    have hP : va_P (dC, dI) vwCl [(h0, Sum.inr (10, [Value.ref h1, Value.int (n0_size + 1), Value.int n0_place, va_rf o0_law])), (h1, Sum.inl (cint, 120, Sum.inl (upd f1 (n0_size : Int32).toNatClampNeg (kk_by p1 0))))] H := hP
    have hD : va_D A [(h0, Sum.inr (10, [Value.ref h1, Value.int (n0_size + 1), Value.int n0_place, va_rf o0_law])), (h1, Sum.inl (cint, 120, Sum.inl (upd f1 (n0_size : Int32).toNatClampNeg (kk_by p1 0))))] := hD
    refine lv_iinc (v := 1) (lv' := [(3, .int 1), (0, .ref h0), (1, .int 1), (2, .int p1)]) hx hb dX10_take_42 hl (k := 0) rfl (by first | rfl | decide) (by decide) rfl (fun ls hl => ?_)
    refine lv_goto (tgt := 2) hx hb dX10_take_45 (by decide) ?_
    refine lv_iload_n hx hb dX10_take_2 rfl (lv_at hl 0 rfl) ?_
    refine lv_iload_n hx hb dX10_take_3 rfl (lv_at hl 2 rfl) ?_
    refine lv_icmp_ge (tgt := 48) hx hb dX10_take_4 (by decide) (fun _ => ?_) (fun c => absurd c (by decide))
    refine lv_aload_n hx hb dX10_take_48 rfl (lv_at hl 1 rfl) ?_
    refine va_get (D := (dC, dI)) (ci := 10) (v := .int (n0_size + 1)) (C := RX10) (T := TX10) (N := 4) hx hb hts (fun _ h => List.mem_cons_of_mem _ (List.mem_append_right _ h)) hown hK hP 0 rfl rfl 1 (by decide) (hts (.fieldLink RX10 13 "KinkStreet$Tape" "size" "I") (List.mem_of_getElem? (i := 1) rfl)) (fun _ h9 => h9) rfl dX10_take_49 ?_
    obtain ⟨hP9, hD9⟩ := kk_leafout (wc := [(h0, Sum.inr (10, [Value.ref h1, Value.int (n0_size + 1), Value.int n0_place, va_rf o0_law])), (h1, Sum.inl (cint, 120, Sum.inl (upd f1 (n0_size : Int32).toNatClampNeg (kk_by p1 0))))]) hP hD [0, 1] (by decide) rfl
    have hK9 := hK.sub (tys' := []) [] rfl
    exact W.iret (v := (n0_size + 1)) hx hb hr (fun t ht hW => ⟨⟨(n0_size + 1), (), rfl, ⟨(by show ((n0_size + 1) : Int32).toInt = (n0_size : Int32).toInt + (1 : Int); have := kk_add2 (x := n0_size) (y := 1) (a := n0_size.toInt) (b := 1) rfl rfl (by omega) (by omega); omega), (by show 1 ≤ ((n0_size + 1) : Int32).toInt ∧ ((n0_size + 1) : Int32).toInt ≤ 120; first | with_reducible assumption | (constructor <;> (have := kk_add2 (x := n0_size) (y := 1) (a := n0_size.toInt) (b := 1) rfl rfl (by omega) (by omega); omega)))⟩, (n0_size + 1), (upd f1 (n0_size : Int32).toNatClampNeg (kk_by p1 0)), (by show 1 ≤ ((n0_size + 1) : Int32).toInt ∧ ((n0_size + 1) : Int32).toInt ≤ 120; first | with_reducible assumption | (constructor <;> (have := kk_add2 (x := n0_size) (y := 1) (a := n0_size.toInt) (b := 1) rfl rfl (by omega) (by omega); omega))), b_4, (by show ((n0_size + 1) : Int32).toInt = (n0_size : Int32).toInt + (1 : Int); first | with_reducible assumption | (have := kk_add2 (x := n0_size) (y := 1) (a := n0_size.toInt) (b := 1) rfl rfl (by omega) (by omega); omega)), ⟨fun hh => by first | exact rfl | (exfalso; have := kk_add2 (x := n0_size) (y := 1) (a := n0_size.toInt) (b := 1) rfl rfl (by omega) (by omega); omega), fun hh => by first | exact trivial | (exfalso; have := kk_add2 (x := n0_size) (y := 1) (a := n0_size.toInt) (b := 1) rfl rfl (by omega) (by omega); omega)⟩, by rw [ht]; exact hP9, va_K.moved hW.alike hK9, hD9⟩, hS.F ht⟩) hS.2.2 dX10_take_52
set_option maxHeartbeats 4000000 in
set_option maxRecDepth 100000 in
theorem g_X10_take_2 (l : Launch) (dC : Nat → ClassId) (dI : Nat → Nat → Nat) (h0 : Nat) (h1 : Nat) (cint : ClassId) (sz : Nat) (p1 : Int32) (n0_size : Int32) (n0_place : Int32) (o0_law : Option Nat) (f1 : Nat → Int32) (tn0_size : 0 ≤ n0_size.toInt ∧ n0_size.toInt ≤ 120) (bf1 : ∀ j, j < 120 → 0 ≤ (f1 j).toInt ∧ (f1 j).toInt ≤ 255) (pr0 : (n0_size.toInt + (2 : Int) ≤ 120)) : Met l yX10_take wsX10_take ({ frames := 0, cells := 0, slots := 0, locals := 0 }) (va_Pc [.ref h0, .int 2, .int p1] (fun U => U.heap.size = sz ∧ va_P (dC, dI) vwCl [(h0, Sum.inr (10, [Value.ref h1, Value.int n0_size, Value.int n0_place, va_rf o0_law])), (h1, Sum.inl (cint, 120, Sum.inl f1))] U.heap ∧ va_K (dC, dI) vwCl [(cint, .int)] U ∧ va_D (fun _ => True) [(h0, Sum.inr (10, [Value.ref h1, Value.int n0_size, Value.int n0_place, va_rf o0_law])), (h1, Sum.inl (cint, 120, Sum.inl f1))])) (va_Qi (fun (r : Int32) (_ : Unit) => r.toInt = n0_size.toInt + (2 : Int) ∧ (2 ≤ r.toInt ∧ r.toInt ≤ 120)) (fun (_ : Unit) t => ∃ (m0_size : Int32) (g1 : Nat → Int32), (2 ≤ m0_size.toInt ∧ m0_size.toInt ≤ 120) ∧ (∀ j, j < 120 → 0 ≤ (g1 j).toInt ∧ (g1 j).toInt ≤ 255) ∧ (m0_size.toInt = n0_size.toInt + (2 : Int)) ∧ (((0 : Int) = 0 → g1 = (upd (upd f1 (n0_size : Int32).toNatClampNeg (kk_by p1 0)) ((n0_size + 1) : Int32).toNatClampNeg (kk_by p1 8))) ∧ ((0 : Int) = 0 → True)) ∧ va_P (dC, dI) vwCl [(h0, Sum.inr (10, [Value.ref h1, Value.int m0_size, Value.int n0_place, va_rf o0_law])), (h1, Sum.inl (cint, 120, Sum.inl g1))] t.heap ∧ va_K (dC, dI) vwCl [] t ∧ va_D (va_A [(h0, Sum.inr (10, [Value.ref h1, Value.int n0_size, Value.int n0_place, va_rf o0_law])), (h1, Sum.inl (cint, 120, Sum.inl f1))] sz) [(h0, Sum.inr (10, [Value.ref h1, Value.int m0_size, Value.int n0_place, va_rf o0_law])), (h1, Sum.inl (cint, 120, Sum.inl g1))]) (va_A [(h0, Sum.inr (10, [Value.ref h1, Value.int n0_size, Value.int n0_place, va_rf o0_law])), (h1, Sum.inl (cint, 120, Sum.inl f1))] sz)) 0 0 (va_A [(h0, Sum.inr (10, [Value.ref h1, Value.int n0_size, Value.int n0_place, va_rf o0_law])), (h1, Sum.inl (cint, 120, Sum.inl f1))] sz) := by
  refine Met.ofW (cc := cX10_take) (maxL := 4) (ret := (some .int)) (by decide) rfl ?_
  intro p e s m args below meth c s₁ B hml hv
  obtain ⟨rfl, hsz, hP, hK, hD0⟩ := hv
  have hx := B.exec
  have hb := B.bytes
  have hr := B.returns
  have hts := atoms_spec (ws := wsX10_take) B.pre
  have hown : s.vm.findClass RX10 = some m.cls := findClass_of_methodNamed B.named
  have hlocks := B.notSynchronized
  subst hsz
  have hD := hD0.self (sz := s.heap.size)
  generalize hAe : va_A [(h0, Sum.inr (10, [Value.ref h1, Value.int n0_size, Value.int n0_place, va_rf o0_law])), (h1, Sum.inl (cint, 120, Sum.inl f1))] s.heap.size = A at hD ⊢
  have hA : ∀ q : Nat, s.heap.size ≤ q → A q := fun q h => by rw [← hAe]; exact Or.inr h
  have hS : va_S A s.heap s.heap [] := va_S.rf
  have hP : va_P (dC, dI) vwCl [(h0, Sum.inr (10, [Value.ref h1, Value.int n0_size, Value.int n0_place, va_rf o0_law])), (h1, Sum.inl (cint, 120, Sum.inl f1))] s.heap := hP
  have hl := lv_entry ([.ref h0, .int 2, .int p1]) (n := 4) (Nat.le_of_ble_eq_true rfl)
  rw [lg_entry_eq]
  generalize (lg_sl ([.ref h0, .int 2, .int p1]) ++ List.replicate (4 - (lg_sl ([.ref h0, .int 2, .int p1])).length) Slot.unset).toArray = ls at hl ⊢
  have hl : lv_has ls 4 [(0, .ref h0), (1, .int 2), (2, .int p1)] := hl
  refine lv_iconst (v := 0) hx hb dX10_take_0 (by decide) ?_
  refine lv_istore_n (lv' := [(3, .int 0), (0, .ref h0), (1, .int 2), (2, .int p1)]) hx hb dX10_take_1 rfl hl (by decide) rfl (fun ls hl => ?_)
  refine lv_iload_n hx hb dX10_take_2 rfl (lv_at hl 0 rfl) ?_
  refine lv_iload_n hx hb dX10_take_3 rfl (lv_at hl 2 rfl) ?_
  refine lv_icmp_ge (tgt := 48) hx hb dX10_take_4 (by decide) (fun c => absurd c (by decide)) (fun _ => ?_)
  refine lv_aload_n hx hb dX10_take_7 rfl (lv_at hl 1 rfl) ?_
  refine va_get (D := (dC, dI)) (ci := 10) (v := .int n0_size) (C := RX10) (T := TX10) (N := 4) hx hb hts (fun _ h => List.mem_cons_of_mem _ (List.mem_append_right _ h)) hown hK hP 0 rfl rfl 1 (by decide) (hts (.fieldLink RX10 13 "KinkStreet$Tape" "size" "I") (List.mem_of_getElem? (i := 1) rfl)) (fun _ h9 => h9) rfl dX10_take_8 ?_
  refine lv_bipush (v := 120) hx hb dX10_take_11 (by decide) ?_
  refine lv_icmp_ge (tgt := 48) hx hb dX10_take_13 (by decide) (fun c_1 => ?_) (fun c_1 => ?_)
  · have t_1 : 120 ≤ n0_size.toInt := kk_le c_1
    refine lv_aload_n hx hb dX10_take_48 rfl (lv_at hl 1 rfl) ?_
    refine va_get (D := (dC, dI)) (ci := 10) (v := .int n0_size) (C := RX10) (T := TX10) (N := 4) hx hb hts (fun _ h => List.mem_cons_of_mem _ (List.mem_append_right _ h)) hown hK hP 0 rfl rfl 1 (by decide) (hts (.fieldLink RX10 13 "KinkStreet$Tape" "size" "I") (List.mem_of_getElem? (i := 1) rfl)) (fun _ h9 => h9) rfl dX10_take_49 ?_
    obtain ⟨hP9, hD9⟩ := kk_leafout (wc := [(h0, Sum.inr (10, [Value.ref h1, Value.int n0_size, Value.int n0_place, va_rf o0_law])), (h1, Sum.inl (cint, 120, Sum.inl f1))]) hP hD [0, 1] (by decide) rfl
    have hK9 := hK.sub (tys' := []) [] rfl
    exact W.iret (v := n0_size) hx hb hr (fun t ht hW => ⟨⟨n0_size, (), rfl, ⟨(by show (n0_size : Int32).toInt = (n0_size : Int32).toInt + (2 : Int); have := kk_add2 (x := n0_size) (y := 1) (a := n0_size.toInt) (b := 1) rfl rfl (by omega) (by omega); omega), (by show 2 ≤ (n0_size : Int32).toInt ∧ (n0_size : Int32).toInt ≤ 120; first | with_reducible assumption | (constructor <;> (have := kk_add2 (x := n0_size) (y := 1) (a := n0_size.toInt) (b := 1) rfl rfl (by omega) (by omega); omega)))⟩, n0_size, f1, (by show 2 ≤ (n0_size : Int32).toInt ∧ (n0_size : Int32).toInt ≤ 120; first | with_reducible assumption | (constructor <;> (omega))), bf1, (by show (n0_size : Int32).toInt = (n0_size : Int32).toInt + (2 : Int); first | with_reducible assumption | (omega)), ⟨fun hh => by first | exact rfl | (exfalso; have := kk_add2 (x := n0_size) (y := 1) (a := n0_size.toInt) (b := 1) rfl rfl (by omega) (by omega); omega), fun hh => by first | exact trivial | (exfalso; have := kk_add2 (x := n0_size) (y := 1) (a := n0_size.toInt) (b := 1) rfl rfl (by omega) (by omega); omega)⟩, by rw [ht]; exact hP9, va_K.moved hW.alike hK9, hD9⟩, hS.F ht⟩) hS.2.2 dX10_take_52
  · have t_1 : n0_size.toInt < 120 := kk_nle c_1
    refine lv_aload_n hx hb dX10_take_16 rfl (lv_at hl 1 rfl) ?_
    refine va_get (D := (dC, dI)) (ci := 10) (v := .ref h1) (C := RX10) (T := TX10) (N := 4) hx hb hts (fun _ h => List.mem_cons_of_mem _ (List.mem_append_right _ h)) hown hK hP 0 rfl rfl 0 (by decide) (hts (.fieldLink RX10 9 "KinkStreet$Tape" "bytes" "[I") (List.mem_of_getElem? (i := 2) rfl)) (fun _ h9 => h9) rfl dX10_take_17 ?_
    refine lv_aload_n hx hb dX10_take_20 rfl (lv_at hl 1 rfl) ?_
    refine lv_dup hx hb dX10_take_21 rfl ?_
    refine va_get (D := (dC, dI)) (ci := 10) (v := .int n0_size) (C := RX10) (T := TX10) (N := 4) hx hb hts (fun _ h => List.mem_cons_of_mem _ (List.mem_append_right _ h)) hown hK hP 0 rfl rfl 1 (by decide) (hts (.fieldLink RX10 13 "KinkStreet$Tape" "size" "I") (List.mem_of_getElem? (i := 1) rfl)) (fun _ h9 => h9) rfl dX10_take_22 ?_
    refine lv_dup_x1 hx hb dX10_take_25 rfl rfl ?_
    refine lv_iconst (v := 1) hx hb dX10_take_26 (by decide) ?_
    refine lv_iadd hx hb dX10_take_27 ?_
    refine va_put (D := (dC, dI)) (ci := 10) (v := .int (n0_size + 1)) (ty := .int) (C := RX10) (T := TX10) (N := 4) hx hb hts (fun _ h => List.mem_cons_of_mem _ (List.mem_append_right _ h)) tyX10 tyX10_ok nmX10 hown hK hP hD hS 0 rfl rfl 1 (by decide) (hts (.fieldLink RX10 13 "KinkStreet$Tape" "size" "I") (List.mem_of_getElem? (i := 1) rfl)) (fun _ h9 => h9) rfl (by decide +kernel) rfl rfl (Nat.le_of_ble_eq_true rfl) dX10_take_28 (fun H locs hP hD hS => ?_)
    have hP : va_P (dC, dI) vwCl [(h0, Sum.inr (10, [Value.ref h1, Value.int (n0_size + 1), Value.int n0_place, va_rf o0_law])), (h1, Sum.inl (cint, 120, Sum.inl f1))] H := hP
    have hD : va_D A [(h0, Sum.inr (10, [Value.ref h1, Value.int (n0_size + 1), Value.int n0_place, va_rf o0_law])), (h1, Sum.inl (cint, 120, Sum.inl f1))] := hD
    refine lv_iload_n hx hb dX10_take_31 rfl (lv_at hl 3 rfl) ?_
    refine lv_bipush (v := 8) hx hb dX10_take_32 (by decide) ?_
    refine lv_iload_n hx hb dX10_take_34 rfl (lv_at hl 0 rfl) ?_
    refine lv_imul hx hb dX10_take_35 ?_
    refine lv_topi (fun y_2 e_2 => ?_)
    obtain rfl : y_2 = 0 := e_2.trans (by decide)
    refine lv_iushr hx hb dX10_take_36 rfl ?_
    refine lv_sipush (v := 255) hx hb dX10_take_37 (by decide) ?_
    refine lv_iand hx hb dX10_take_40 ?_
    refine lv_topi (fun y_3 e_3 => ?_)
    obtain rfl : y_3 = (kk_by p1 0) := e_3.trans rfl
    have t_3 : 0 ≤ (kk_by p1 0).toInt ∧ (kk_by p1 0).toInt ≤ 255 := kk_by_b _ _
    refine va_iast hx hb hK hP hD hS 1 0 rfl rfl (vp_in_iff.mpr ⟨by have := kk_add2 (x := n0_size) (y := 1) (a := n0_size.toInt) (b := 1) rfl rfl (by omega) (by omega); omega, by have := kk_add2 (x := n0_size) (y := 1) (a := n0_size.toInt) (b := 1) rfl rfl (by omega) (by omega); omega⟩) dX10_take_41 (fun H locs hP hD hS => ?_)
    have w_4 : ((upd f1 (n0_size : Int32).toNatClampNeg (kk_by p1 0)) (n0_size : Int32).toNatClampNeg).toInt = ((kk_by p1 0) : Int32).toInt := by rw [kk_ups]
    have b_4 := kk_upb (k := (n0_size : Int32).toNatClampNeg) bf1 (show 0 ≤ ((kk_by p1 0) : Int32).toInt ∧ ((kk_by p1 0) : Int32).toInt ≤ 255 from by first | with_reducible assumption | decide | (constructor <;> (have := kk_add2 (x := n0_size) (y := 1) (a := n0_size.toInt) (b := 1) rfl rfl (by omega) (by omega); omega)))
    have hP : va_P (dC, dI) vwCl [(h0, Sum.inr (10, [Value.ref h1, Value.int (n0_size + 1), Value.int n0_place, va_rf o0_law])), (h1, Sum.inl (cint, 120, Sum.inl (upd f1 (n0_size : Int32).toNatClampNeg (kk_by p1 0))))] H := hP
    have hD : va_D A [(h0, Sum.inr (10, [Value.ref h1, Value.int (n0_size + 1), Value.int n0_place, va_rf o0_law])), (h1, Sum.inl (cint, 120, Sum.inl (upd f1 (n0_size : Int32).toNatClampNeg (kk_by p1 0))))] := hD
    refine lv_iinc (v := 1) (lv' := [(3, .int 1), (0, .ref h0), (1, .int 2), (2, .int p1)]) hx hb dX10_take_42 hl (k := 0) rfl (by first | rfl | decide) (by decide) rfl (fun ls hl => ?_)
    refine lv_goto (tgt := 2) hx hb dX10_take_45 (by decide) ?_
    refine lv_iload_n hx hb dX10_take_2 rfl (lv_at hl 0 rfl) ?_
    refine lv_iload_n hx hb dX10_take_3 rfl (lv_at hl 2 rfl) ?_
    refine lv_icmp_ge (tgt := 48) hx hb dX10_take_4 (by decide) (fun c => absurd c (by decide)) (fun _ => ?_)
    refine lv_aload_n hx hb dX10_take_7 rfl (lv_at hl 1 rfl) ?_
    refine va_get (D := (dC, dI)) (ci := 10) (v := .int (n0_size + 1)) (C := RX10) (T := TX10) (N := 4) hx hb hts (fun _ h => List.mem_cons_of_mem _ (List.mem_append_right _ h)) hown hK hP 0 rfl rfl 1 (by decide) (hts (.fieldLink RX10 13 "KinkStreet$Tape" "size" "I") (List.mem_of_getElem? (i := 1) rfl)) (fun _ h9 => h9) rfl dX10_take_8 ?_
    refine lv_bipush (v := 120) hx hb dX10_take_11 (by decide) ?_
    refine lv_icmp_ge (tgt := 48) hx hb dX10_take_13 (by decide) (fun c_5 => ?_) (fun c_5 => ?_)
    · have t_5 : 120 ≤ (n0_size + 1).toInt := kk_le c_5
      refine lv_aload_n hx hb dX10_take_48 rfl (lv_at hl 1 rfl) ?_
      refine va_get (D := (dC, dI)) (ci := 10) (v := .int (n0_size + 1)) (C := RX10) (T := TX10) (N := 4) hx hb hts (fun _ h => List.mem_cons_of_mem _ (List.mem_append_right _ h)) hown hK hP 0 rfl rfl 1 (by decide) (hts (.fieldLink RX10 13 "KinkStreet$Tape" "size" "I") (List.mem_of_getElem? (i := 1) rfl)) (fun _ h9 => h9) rfl dX10_take_49 ?_
      obtain ⟨hP9, hD9⟩ := kk_leafout (wc := [(h0, Sum.inr (10, [Value.ref h1, Value.int (n0_size + 1), Value.int n0_place, va_rf o0_law])), (h1, Sum.inl (cint, 120, Sum.inl (upd f1 (n0_size : Int32).toNatClampNeg (kk_by p1 0))))]) hP hD [0, 1] (by decide) rfl
      have hK9 := hK.sub (tys' := []) [] rfl
      exact W.iret (v := (n0_size + 1)) hx hb hr (fun t ht hW => ⟨⟨(n0_size + 1), (), rfl, ⟨(by show ((n0_size + 1) : Int32).toInt = (n0_size : Int32).toInt + (2 : Int); have := kk_add2 (x := n0_size) (y := 1) (a := n0_size.toInt) (b := 1) rfl rfl (by omega) (by omega); omega), (by show 2 ≤ ((n0_size + 1) : Int32).toInt ∧ ((n0_size + 1) : Int32).toInt ≤ 120; first | with_reducible assumption | (constructor <;> (have := kk_add2 (x := n0_size) (y := 1) (a := n0_size.toInt) (b := 1) rfl rfl (by omega) (by omega); omega)))⟩, (n0_size + 1), (upd f1 (n0_size : Int32).toNatClampNeg (kk_by p1 0)), (by show 2 ≤ ((n0_size + 1) : Int32).toInt ∧ ((n0_size + 1) : Int32).toInt ≤ 120; first | with_reducible assumption | (constructor <;> (have := kk_add2 (x := n0_size) (y := 1) (a := n0_size.toInt) (b := 1) rfl rfl (by omega) (by omega); omega))), b_4, (by show ((n0_size + 1) : Int32).toInt = (n0_size : Int32).toInt + (2 : Int); first | with_reducible assumption | (have := kk_add2 (x := n0_size) (y := 1) (a := n0_size.toInt) (b := 1) rfl rfl (by omega) (by omega); omega)), ⟨fun hh => by first | exact rfl | (exfalso; have := kk_add2 (x := n0_size) (y := 1) (a := n0_size.toInt) (b := 1) rfl rfl (by omega) (by omega); omega), fun hh => by first | exact trivial | (exfalso; have := kk_add2 (x := n0_size) (y := 1) (a := n0_size.toInt) (b := 1) rfl rfl (by omega) (by omega); omega)⟩, by rw [ht]; exact hP9, va_K.moved hW.alike hK9, hD9⟩, hS.F ht⟩) hS.2.2 dX10_take_52
    · have t_5 : (n0_size + 1).toInt < 120 := kk_nle c_5
      refine lv_aload_n hx hb dX10_take_16 rfl (lv_at hl 1 rfl) ?_
      refine va_get (D := (dC, dI)) (ci := 10) (v := .ref h1) (C := RX10) (T := TX10) (N := 4) hx hb hts (fun _ h => List.mem_cons_of_mem _ (List.mem_append_right _ h)) hown hK hP 0 rfl rfl 0 (by decide) (hts (.fieldLink RX10 9 "KinkStreet$Tape" "bytes" "[I") (List.mem_of_getElem? (i := 2) rfl)) (fun _ h9 => h9) rfl dX10_take_17 ?_
      refine lv_aload_n hx hb dX10_take_20 rfl (lv_at hl 1 rfl) ?_
      refine lv_dup hx hb dX10_take_21 rfl ?_
      refine va_get (D := (dC, dI)) (ci := 10) (v := .int (n0_size + 1)) (C := RX10) (T := TX10) (N := 4) hx hb hts (fun _ h => List.mem_cons_of_mem _ (List.mem_append_right _ h)) hown hK hP 0 rfl rfl 1 (by decide) (hts (.fieldLink RX10 13 "KinkStreet$Tape" "size" "I") (List.mem_of_getElem? (i := 1) rfl)) (fun _ h9 => h9) rfl dX10_take_22 ?_
      refine lv_dup_x1 hx hb dX10_take_25 rfl rfl ?_
      refine lv_iconst (v := 1) hx hb dX10_take_26 (by decide) ?_
      refine lv_iadd hx hb dX10_take_27 ?_
      refine va_put (D := (dC, dI)) (ci := 10) (v := .int ((n0_size + 1) + 1)) (ty := .int) (C := RX10) (T := TX10) (N := 4) hx hb hts (fun _ h => List.mem_cons_of_mem _ (List.mem_append_right _ h)) tyX10 tyX10_ok nmX10 hown hK hP hD hS 0 rfl rfl 1 (by decide) (hts (.fieldLink RX10 13 "KinkStreet$Tape" "size" "I") (List.mem_of_getElem? (i := 1) rfl)) (fun _ h9 => h9) rfl (by decide +kernel) rfl rfl (Nat.le_of_ble_eq_true rfl) dX10_take_28 (fun H locs hP hD hS => ?_)
      have hP : va_P (dC, dI) vwCl [(h0, Sum.inr (10, [Value.ref h1, Value.int ((n0_size + 1) + 1), Value.int n0_place, va_rf o0_law])), (h1, Sum.inl (cint, 120, Sum.inl (upd f1 (n0_size : Int32).toNatClampNeg (kk_by p1 0))))] H := hP
      have hD : va_D A [(h0, Sum.inr (10, [Value.ref h1, Value.int ((n0_size + 1) + 1), Value.int n0_place, va_rf o0_law])), (h1, Sum.inl (cint, 120, Sum.inl (upd f1 (n0_size : Int32).toNatClampNeg (kk_by p1 0))))] := hD
      refine lv_iload_n hx hb dX10_take_31 rfl (lv_at hl 3 rfl) ?_
      refine lv_bipush (v := 8) hx hb dX10_take_32 (by decide) ?_
      refine lv_iload_n hx hb dX10_take_34 rfl (lv_at hl 0 rfl) ?_
      refine lv_imul hx hb dX10_take_35 ?_
      refine lv_topi (fun y_6 e_6 => ?_)
      obtain rfl : y_6 = 8 := e_6.trans (by decide)
      refine lv_iushr hx hb dX10_take_36 rfl ?_
      refine lv_sipush (v := 255) hx hb dX10_take_37 (by decide) ?_
      refine lv_iand hx hb dX10_take_40 ?_
      refine lv_topi (fun y_7 e_7 => ?_)
      obtain rfl : y_7 = (kk_by p1 8) := e_7.trans rfl
      have t_7 : 0 ≤ (kk_by p1 8).toInt ∧ (kk_by p1 8).toInt ≤ 255 := kk_by_b _ _
      refine va_iast hx hb hK hP hD hS 1 0 rfl rfl (vp_in_iff.mpr ⟨by have := kk_add2 (x := n0_size) (y := 1) (a := n0_size.toInt) (b := 1) rfl rfl (by omega) (by omega); have := kk_add2 (x := (n0_size + 1)) (y := 1) (a := (n0_size + 1).toInt) (b := 1) rfl rfl (by omega) (by omega); omega, by have := kk_add2 (x := n0_size) (y := 1) (a := n0_size.toInt) (b := 1) rfl rfl (by omega) (by omega); have := kk_add2 (x := (n0_size + 1)) (y := 1) (a := (n0_size + 1).toInt) (b := 1) rfl rfl (by omega) (by omega); omega⟩) dX10_take_41 (fun H locs hP hD hS => ?_)
      have w_8 : ((upd (upd f1 (n0_size : Int32).toNatClampNeg (kk_by p1 0)) ((n0_size + 1) : Int32).toNatClampNeg (kk_by p1 8)) ((n0_size + 1) : Int32).toNatClampNeg).toInt = ((kk_by p1 8) : Int32).toInt := by rw [kk_ups]
      have b_8 := kk_upb (k := ((n0_size + 1) : Int32).toNatClampNeg) b_4 (show 0 ≤ ((kk_by p1 8) : Int32).toInt ∧ ((kk_by p1 8) : Int32).toInt ≤ 255 from by first | with_reducible assumption | decide | (constructor <;> (have := kk_add2 (x := n0_size) (y := 1) (a := n0_size.toInt) (b := 1) rfl rfl (by omega) (by omega); have := kk_add2 (x := (n0_size + 1)) (y := 1) (a := (n0_size + 1).toInt) (b := 1) rfl rfl (by omega) (by omega); omega)))
      have hP : va_P (dC, dI) vwCl [(h0, Sum.inr (10, [Value.ref h1, Value.int ((n0_size + 1) + 1), Value.int n0_place, va_rf o0_law])), (h1, Sum.inl (cint, 120, Sum.inl (upd (upd f1 (n0_size : Int32).toNatClampNeg (kk_by p1 0)) ((n0_size + 1) : Int32).toNatClampNeg (kk_by p1 8))))] H := hP
      have hD : va_D A [(h0, Sum.inr (10, [Value.ref h1, Value.int ((n0_size + 1) + 1), Value.int n0_place, va_rf o0_law])), (h1, Sum.inl (cint, 120, Sum.inl (upd (upd f1 (n0_size : Int32).toNatClampNeg (kk_by p1 0)) ((n0_size + 1) : Int32).toNatClampNeg (kk_by p1 8))))] := hD
      refine lv_iinc (v := 2) (lv' := [(3, .int 2), (0, .ref h0), (1, .int 2), (2, .int p1)]) hx hb dX10_take_42 hl (k := 0) rfl (by first | rfl | decide) (by decide) rfl (fun ls hl => ?_)
      refine lv_goto (tgt := 2) hx hb dX10_take_45 (by decide) ?_
      refine lv_iload_n hx hb dX10_take_2 rfl (lv_at hl 0 rfl) ?_
      refine lv_iload_n hx hb dX10_take_3 rfl (lv_at hl 2 rfl) ?_
      refine lv_icmp_ge (tgt := 48) hx hb dX10_take_4 (by decide) (fun _ => ?_) (fun c => absurd c (by decide))
      refine lv_aload_n hx hb dX10_take_48 rfl (lv_at hl 1 rfl) ?_
      refine va_get (D := (dC, dI)) (ci := 10) (v := .int ((n0_size + 1) + 1)) (C := RX10) (T := TX10) (N := 4) hx hb hts (fun _ h => List.mem_cons_of_mem _ (List.mem_append_right _ h)) hown hK hP 0 rfl rfl 1 (by decide) (hts (.fieldLink RX10 13 "KinkStreet$Tape" "size" "I") (List.mem_of_getElem? (i := 1) rfl)) (fun _ h9 => h9) rfl dX10_take_49 ?_
      obtain ⟨hP9, hD9⟩ := kk_leafout (wc := [(h0, Sum.inr (10, [Value.ref h1, Value.int ((n0_size + 1) + 1), Value.int n0_place, va_rf o0_law])), (h1, Sum.inl (cint, 120, Sum.inl (upd (upd f1 (n0_size : Int32).toNatClampNeg (kk_by p1 0)) ((n0_size + 1) : Int32).toNatClampNeg (kk_by p1 8))))]) hP hD [0, 1] (by decide) rfl
      have hK9 := hK.sub (tys' := []) [] rfl
      exact W.iret (v := ((n0_size + 1) + 1)) hx hb hr (fun t ht hW => ⟨⟨((n0_size + 1) + 1), (), rfl, ⟨(by show (((n0_size + 1) + 1) : Int32).toInt = (n0_size : Int32).toInt + (2 : Int); have := kk_add2 (x := n0_size) (y := 1) (a := n0_size.toInt) (b := 1) rfl rfl (by omega) (by omega); have := kk_add2 (x := (n0_size + 1)) (y := 1) (a := (n0_size + 1).toInt) (b := 1) rfl rfl (by omega) (by omega); omega), (by show 2 ≤ (((n0_size + 1) + 1) : Int32).toInt ∧ (((n0_size + 1) + 1) : Int32).toInt ≤ 120; first | with_reducible assumption | (constructor <;> (have := kk_add2 (x := n0_size) (y := 1) (a := n0_size.toInt) (b := 1) rfl rfl (by omega) (by omega); have := kk_add2 (x := (n0_size + 1)) (y := 1) (a := (n0_size + 1).toInt) (b := 1) rfl rfl (by omega) (by omega); omega)))⟩, ((n0_size + 1) + 1), (upd (upd f1 (n0_size : Int32).toNatClampNeg (kk_by p1 0)) ((n0_size + 1) : Int32).toNatClampNeg (kk_by p1 8)), (by show 2 ≤ (((n0_size + 1) + 1) : Int32).toInt ∧ (((n0_size + 1) + 1) : Int32).toInt ≤ 120; first | with_reducible assumption | (constructor <;> (have := kk_add2 (x := n0_size) (y := 1) (a := n0_size.toInt) (b := 1) rfl rfl (by omega) (by omega); have := kk_add2 (x := (n0_size + 1)) (y := 1) (a := (n0_size + 1).toInt) (b := 1) rfl rfl (by omega) (by omega); omega))), b_8, (by show (((n0_size + 1) + 1) : Int32).toInt = (n0_size : Int32).toInt + (2 : Int); first | with_reducible assumption | (have := kk_add2 (x := n0_size) (y := 1) (a := n0_size.toInt) (b := 1) rfl rfl (by omega) (by omega); have := kk_add2 (x := (n0_size + 1)) (y := 1) (a := (n0_size + 1).toInt) (b := 1) rfl rfl (by omega) (by omega); omega)), ⟨fun hh => by first | exact rfl | (exfalso; have := kk_add2 (x := n0_size) (y := 1) (a := n0_size.toInt) (b := 1) rfl rfl (by omega) (by omega); have := kk_add2 (x := (n0_size + 1)) (y := 1) (a := (n0_size + 1).toInt) (b := 1) rfl rfl (by omega) (by omega); omega), fun hh => by first | exact trivial | (exfalso; have := kk_add2 (x := n0_size) (y := 1) (a := n0_size.toInt) (b := 1) rfl rfl (by omega) (by omega); have := kk_add2 (x := (n0_size + 1)) (y := 1) (a := (n0_size + 1).toInt) (b := 1) rfl rfl (by omega) (by omega); omega)⟩, by rw [ht]; exact hP9, va_K.moved hW.alike hK9, hD9⟩, hS.F ht⟩) hS.2.2 dX10_take_52
set_option maxHeartbeats 4000000 in
set_option maxRecDepth 100000 in
theorem g_X10_take_3 (l : Launch) (dC : Nat → ClassId) (dI : Nat → Nat → Nat) (h0 : Nat) (h1 : Nat) (cint : ClassId) (sz : Nat) (p1 : Int32) (n0_size : Int32) (n0_place : Int32) (o0_law : Option Nat) (f1 : Nat → Int32) (tn0_size : 0 ≤ n0_size.toInt ∧ n0_size.toInt ≤ 120) (bf1 : ∀ j, j < 120 → 0 ≤ (f1 j).toInt ∧ (f1 j).toInt ≤ 255) (pr0 : (n0_size.toInt + (3 : Int) ≤ 120)) : Met l yX10_take wsX10_take ({ frames := 0, cells := 0, slots := 0, locals := 0 }) (va_Pc [.ref h0, .int 3, .int p1] (fun U => U.heap.size = sz ∧ va_P (dC, dI) vwCl [(h0, Sum.inr (10, [Value.ref h1, Value.int n0_size, Value.int n0_place, va_rf o0_law])), (h1, Sum.inl (cint, 120, Sum.inl f1))] U.heap ∧ va_K (dC, dI) vwCl [(cint, .int)] U ∧ va_D (fun _ => True) [(h0, Sum.inr (10, [Value.ref h1, Value.int n0_size, Value.int n0_place, va_rf o0_law])), (h1, Sum.inl (cint, 120, Sum.inl f1))])) (va_Qi (fun (r : Int32) (_ : Unit) => r.toInt = n0_size.toInt + (3 : Int) ∧ (3 ≤ r.toInt ∧ r.toInt ≤ 120)) (fun (_ : Unit) t => ∃ (m0_size : Int32) (g1 : Nat → Int32), (3 ≤ m0_size.toInt ∧ m0_size.toInt ≤ 120) ∧ (∀ j, j < 120 → 0 ≤ (g1 j).toInt ∧ (g1 j).toInt ≤ 255) ∧ (m0_size.toInt = n0_size.toInt + (3 : Int)) ∧ (((0 : Int) = 0 → g1 = (upd (upd (upd f1 (n0_size : Int32).toNatClampNeg (kk_by p1 0)) ((n0_size + 1) : Int32).toNatClampNeg (kk_by p1 8)) (((n0_size + 1) + 1) : Int32).toNatClampNeg (kk_by p1 16))) ∧ ((0 : Int) = 0 → True)) ∧ va_P (dC, dI) vwCl [(h0, Sum.inr (10, [Value.ref h1, Value.int m0_size, Value.int n0_place, va_rf o0_law])), (h1, Sum.inl (cint, 120, Sum.inl g1))] t.heap ∧ va_K (dC, dI) vwCl [] t ∧ va_D (va_A [(h0, Sum.inr (10, [Value.ref h1, Value.int n0_size, Value.int n0_place, va_rf o0_law])), (h1, Sum.inl (cint, 120, Sum.inl f1))] sz) [(h0, Sum.inr (10, [Value.ref h1, Value.int m0_size, Value.int n0_place, va_rf o0_law])), (h1, Sum.inl (cint, 120, Sum.inl g1))]) (va_A [(h0, Sum.inr (10, [Value.ref h1, Value.int n0_size, Value.int n0_place, va_rf o0_law])), (h1, Sum.inl (cint, 120, Sum.inl f1))] sz)) 0 0 (va_A [(h0, Sum.inr (10, [Value.ref h1, Value.int n0_size, Value.int n0_place, va_rf o0_law])), (h1, Sum.inl (cint, 120, Sum.inl f1))] sz) := by
  refine Met.ofW (cc := cX10_take) (maxL := 4) (ret := (some .int)) (by decide) rfl ?_
  intro p e s m args below meth c s₁ B hml hv
  obtain ⟨rfl, hsz, hP, hK, hD0⟩ := hv
  have hx := B.exec
  have hb := B.bytes
  have hr := B.returns
  have hts := atoms_spec (ws := wsX10_take) B.pre
  have hown : s.vm.findClass RX10 = some m.cls := findClass_of_methodNamed B.named
  have hlocks := B.notSynchronized
  subst hsz
  have hD := hD0.self (sz := s.heap.size)
  generalize hAe : va_A [(h0, Sum.inr (10, [Value.ref h1, Value.int n0_size, Value.int n0_place, va_rf o0_law])), (h1, Sum.inl (cint, 120, Sum.inl f1))] s.heap.size = A at hD ⊢
  have hA : ∀ q : Nat, s.heap.size ≤ q → A q := fun q h => by rw [← hAe]; exact Or.inr h
  have hS : va_S A s.heap s.heap [] := va_S.rf
  have hP : va_P (dC, dI) vwCl [(h0, Sum.inr (10, [Value.ref h1, Value.int n0_size, Value.int n0_place, va_rf o0_law])), (h1, Sum.inl (cint, 120, Sum.inl f1))] s.heap := hP
  have hl := lv_entry ([.ref h0, .int 3, .int p1]) (n := 4) (Nat.le_of_ble_eq_true rfl)
  rw [lg_entry_eq]
  generalize (lg_sl ([.ref h0, .int 3, .int p1]) ++ List.replicate (4 - (lg_sl ([.ref h0, .int 3, .int p1])).length) Slot.unset).toArray = ls at hl ⊢
  have hl : lv_has ls 4 [(0, .ref h0), (1, .int 3), (2, .int p1)] := hl
  refine lv_iconst (v := 0) hx hb dX10_take_0 (by decide) ?_
  refine lv_istore_n (lv' := [(3, .int 0), (0, .ref h0), (1, .int 3), (2, .int p1)]) hx hb dX10_take_1 rfl hl (by decide) rfl (fun ls hl => ?_)
  refine lv_iload_n hx hb dX10_take_2 rfl (lv_at hl 0 rfl) ?_
  refine lv_iload_n hx hb dX10_take_3 rfl (lv_at hl 2 rfl) ?_
  refine lv_icmp_ge (tgt := 48) hx hb dX10_take_4 (by decide) (fun c => absurd c (by decide)) (fun _ => ?_)
  refine lv_aload_n hx hb dX10_take_7 rfl (lv_at hl 1 rfl) ?_
  refine va_get (D := (dC, dI)) (ci := 10) (v := .int n0_size) (C := RX10) (T := TX10) (N := 4) hx hb hts (fun _ h => List.mem_cons_of_mem _ (List.mem_append_right _ h)) hown hK hP 0 rfl rfl 1 (by decide) (hts (.fieldLink RX10 13 "KinkStreet$Tape" "size" "I") (List.mem_of_getElem? (i := 1) rfl)) (fun _ h9 => h9) rfl dX10_take_8 ?_
  refine lv_bipush (v := 120) hx hb dX10_take_11 (by decide) ?_
  refine lv_icmp_ge (tgt := 48) hx hb dX10_take_13 (by decide) (fun c_1 => ?_) (fun c_1 => ?_)
  · have t_1 : 120 ≤ n0_size.toInt := kk_le c_1
    refine lv_aload_n hx hb dX10_take_48 rfl (lv_at hl 1 rfl) ?_
    refine va_get (D := (dC, dI)) (ci := 10) (v := .int n0_size) (C := RX10) (T := TX10) (N := 4) hx hb hts (fun _ h => List.mem_cons_of_mem _ (List.mem_append_right _ h)) hown hK hP 0 rfl rfl 1 (by decide) (hts (.fieldLink RX10 13 "KinkStreet$Tape" "size" "I") (List.mem_of_getElem? (i := 1) rfl)) (fun _ h9 => h9) rfl dX10_take_49 ?_
    obtain ⟨hP9, hD9⟩ := kk_leafout (wc := [(h0, Sum.inr (10, [Value.ref h1, Value.int n0_size, Value.int n0_place, va_rf o0_law])), (h1, Sum.inl (cint, 120, Sum.inl f1))]) hP hD [0, 1] (by decide) rfl
    have hK9 := hK.sub (tys' := []) [] rfl
    exact W.iret (v := n0_size) hx hb hr (fun t ht hW => ⟨⟨n0_size, (), rfl, ⟨(by show (n0_size : Int32).toInt = (n0_size : Int32).toInt + (3 : Int); have := kk_add2 (x := n0_size) (y := 1) (a := n0_size.toInt) (b := 1) rfl rfl (by omega) (by omega); have := kk_add2 (x := (n0_size + 1)) (y := 1) (a := (n0_size + 1).toInt) (b := 1) rfl rfl (by omega) (by omega); omega), (by show 3 ≤ (n0_size : Int32).toInt ∧ (n0_size : Int32).toInt ≤ 120; first | with_reducible assumption | (constructor <;> (have := kk_add2 (x := n0_size) (y := 1) (a := n0_size.toInt) (b := 1) rfl rfl (by omega) (by omega); have := kk_add2 (x := (n0_size + 1)) (y := 1) (a := (n0_size + 1).toInt) (b := 1) rfl rfl (by omega) (by omega); omega)))⟩, n0_size, f1, (by show 3 ≤ (n0_size : Int32).toInt ∧ (n0_size : Int32).toInt ≤ 120; first | with_reducible assumption | (constructor <;> (omega))), bf1, (by show (n0_size : Int32).toInt = (n0_size : Int32).toInt + (3 : Int); first | with_reducible assumption | (omega)), ⟨fun hh => by first | exact rfl | (exfalso; have := kk_add2 (x := n0_size) (y := 1) (a := n0_size.toInt) (b := 1) rfl rfl (by omega) (by omega); have := kk_add2 (x := (n0_size + 1)) (y := 1) (a := (n0_size + 1).toInt) (b := 1) rfl rfl (by omega) (by omega); omega), fun hh => by first | exact trivial | (exfalso; have := kk_add2 (x := n0_size) (y := 1) (a := n0_size.toInt) (b := 1) rfl rfl (by omega) (by omega); have := kk_add2 (x := (n0_size + 1)) (y := 1) (a := (n0_size + 1).toInt) (b := 1) rfl rfl (by omega) (by omega); omega)⟩, by rw [ht]; exact hP9, va_K.moved hW.alike hK9, hD9⟩, hS.F ht⟩) hS.2.2 dX10_take_52
  · have t_1 : n0_size.toInt < 120 := kk_nle c_1
    refine lv_aload_n hx hb dX10_take_16 rfl (lv_at hl 1 rfl) ?_
    refine va_get (D := (dC, dI)) (ci := 10) (v := .ref h1) (C := RX10) (T := TX10) (N := 4) hx hb hts (fun _ h => List.mem_cons_of_mem _ (List.mem_append_right _ h)) hown hK hP 0 rfl rfl 0 (by decide) (hts (.fieldLink RX10 9 "KinkStreet$Tape" "bytes" "[I") (List.mem_of_getElem? (i := 2) rfl)) (fun _ h9 => h9) rfl dX10_take_17 ?_
    refine lv_aload_n hx hb dX10_take_20 rfl (lv_at hl 1 rfl) ?_
    refine lv_dup hx hb dX10_take_21 rfl ?_
    refine va_get (D := (dC, dI)) (ci := 10) (v := .int n0_size) (C := RX10) (T := TX10) (N := 4) hx hb hts (fun _ h => List.mem_cons_of_mem _ (List.mem_append_right _ h)) hown hK hP 0 rfl rfl 1 (by decide) (hts (.fieldLink RX10 13 "KinkStreet$Tape" "size" "I") (List.mem_of_getElem? (i := 1) rfl)) (fun _ h9 => h9) rfl dX10_take_22 ?_
    refine lv_dup_x1 hx hb dX10_take_25 rfl rfl ?_
    refine lv_iconst (v := 1) hx hb dX10_take_26 (by decide) ?_
    refine lv_iadd hx hb dX10_take_27 ?_
    refine va_put (D := (dC, dI)) (ci := 10) (v := .int (n0_size + 1)) (ty := .int) (C := RX10) (T := TX10) (N := 4) hx hb hts (fun _ h => List.mem_cons_of_mem _ (List.mem_append_right _ h)) tyX10 tyX10_ok nmX10 hown hK hP hD hS 0 rfl rfl 1 (by decide) (hts (.fieldLink RX10 13 "KinkStreet$Tape" "size" "I") (List.mem_of_getElem? (i := 1) rfl)) (fun _ h9 => h9) rfl (by decide +kernel) rfl rfl (Nat.le_of_ble_eq_true rfl) dX10_take_28 (fun H locs hP hD hS => ?_)
    have hP : va_P (dC, dI) vwCl [(h0, Sum.inr (10, [Value.ref h1, Value.int (n0_size + 1), Value.int n0_place, va_rf o0_law])), (h1, Sum.inl (cint, 120, Sum.inl f1))] H := hP
    have hD : va_D A [(h0, Sum.inr (10, [Value.ref h1, Value.int (n0_size + 1), Value.int n0_place, va_rf o0_law])), (h1, Sum.inl (cint, 120, Sum.inl f1))] := hD
    refine lv_iload_n hx hb dX10_take_31 rfl (lv_at hl 3 rfl) ?_
    refine lv_bipush (v := 8) hx hb dX10_take_32 (by decide) ?_
    refine lv_iload_n hx hb dX10_take_34 rfl (lv_at hl 0 rfl) ?_
    refine lv_imul hx hb dX10_take_35 ?_
    refine lv_topi (fun y_2 e_2 => ?_)
    obtain rfl : y_2 = 0 := e_2.trans (by decide)
    refine lv_iushr hx hb dX10_take_36 rfl ?_
    refine lv_sipush (v := 255) hx hb dX10_take_37 (by decide) ?_
    refine lv_iand hx hb dX10_take_40 ?_
    refine lv_topi (fun y_3 e_3 => ?_)
    obtain rfl : y_3 = (kk_by p1 0) := e_3.trans rfl
    have t_3 : 0 ≤ (kk_by p1 0).toInt ∧ (kk_by p1 0).toInt ≤ 255 := kk_by_b _ _
    refine va_iast hx hb hK hP hD hS 1 0 rfl rfl (vp_in_iff.mpr ⟨by have := kk_add2 (x := n0_size) (y := 1) (a := n0_size.toInt) (b := 1) rfl rfl (by omega) (by omega); omega, by have := kk_add2 (x := n0_size) (y := 1) (a := n0_size.toInt) (b := 1) rfl rfl (by omega) (by omega); omega⟩) dX10_take_41 (fun H locs hP hD hS => ?_)
    have w_4 : ((upd f1 (n0_size : Int32).toNatClampNeg (kk_by p1 0)) (n0_size : Int32).toNatClampNeg).toInt = ((kk_by p1 0) : Int32).toInt := by rw [kk_ups]
    have b_4 := kk_upb (k := (n0_size : Int32).toNatClampNeg) bf1 (show 0 ≤ ((kk_by p1 0) : Int32).toInt ∧ ((kk_by p1 0) : Int32).toInt ≤ 255 from by first | with_reducible assumption | decide | (constructor <;> (have := kk_add2 (x := n0_size) (y := 1) (a := n0_size.toInt) (b := 1) rfl rfl (by omega) (by omega); omega)))
    have hP : va_P (dC, dI) vwCl [(h0, Sum.inr (10, [Value.ref h1, Value.int (n0_size + 1), Value.int n0_place, va_rf o0_law])), (h1, Sum.inl (cint, 120, Sum.inl (upd f1 (n0_size : Int32).toNatClampNeg (kk_by p1 0))))] H := hP
    have hD : va_D A [(h0, Sum.inr (10, [Value.ref h1, Value.int (n0_size + 1), Value.int n0_place, va_rf o0_law])), (h1, Sum.inl (cint, 120, Sum.inl (upd f1 (n0_size : Int32).toNatClampNeg (kk_by p1 0))))] := hD
    refine lv_iinc (v := 1) (lv' := [(3, .int 1), (0, .ref h0), (1, .int 3), (2, .int p1)]) hx hb dX10_take_42 hl (k := 0) rfl (by first | rfl | decide) (by decide) rfl (fun ls hl => ?_)
    refine lv_goto (tgt := 2) hx hb dX10_take_45 (by decide) ?_
    refine lv_iload_n hx hb dX10_take_2 rfl (lv_at hl 0 rfl) ?_
    refine lv_iload_n hx hb dX10_take_3 rfl (lv_at hl 2 rfl) ?_
    refine lv_icmp_ge (tgt := 48) hx hb dX10_take_4 (by decide) (fun c => absurd c (by decide)) (fun _ => ?_)
    refine lv_aload_n hx hb dX10_take_7 rfl (lv_at hl 1 rfl) ?_
    refine va_get (D := (dC, dI)) (ci := 10) (v := .int (n0_size + 1)) (C := RX10) (T := TX10) (N := 4) hx hb hts (fun _ h => List.mem_cons_of_mem _ (List.mem_append_right _ h)) hown hK hP 0 rfl rfl 1 (by decide) (hts (.fieldLink RX10 13 "KinkStreet$Tape" "size" "I") (List.mem_of_getElem? (i := 1) rfl)) (fun _ h9 => h9) rfl dX10_take_8 ?_
    refine lv_bipush (v := 120) hx hb dX10_take_11 (by decide) ?_
    refine lv_icmp_ge (tgt := 48) hx hb dX10_take_13 (by decide) (fun c_5 => ?_) (fun c_5 => ?_)
    · have t_5 : 120 ≤ (n0_size + 1).toInt := kk_le c_5
      refine lv_aload_n hx hb dX10_take_48 rfl (lv_at hl 1 rfl) ?_
      refine va_get (D := (dC, dI)) (ci := 10) (v := .int (n0_size + 1)) (C := RX10) (T := TX10) (N := 4) hx hb hts (fun _ h => List.mem_cons_of_mem _ (List.mem_append_right _ h)) hown hK hP 0 rfl rfl 1 (by decide) (hts (.fieldLink RX10 13 "KinkStreet$Tape" "size" "I") (List.mem_of_getElem? (i := 1) rfl)) (fun _ h9 => h9) rfl dX10_take_49 ?_
      obtain ⟨hP9, hD9⟩ := kk_leafout (wc := [(h0, Sum.inr (10, [Value.ref h1, Value.int (n0_size + 1), Value.int n0_place, va_rf o0_law])), (h1, Sum.inl (cint, 120, Sum.inl (upd f1 (n0_size : Int32).toNatClampNeg (kk_by p1 0))))]) hP hD [0, 1] (by decide) rfl
      have hK9 := hK.sub (tys' := []) [] rfl
      exact W.iret (v := (n0_size + 1)) hx hb hr (fun t ht hW => ⟨⟨(n0_size + 1), (), rfl, ⟨(by show ((n0_size + 1) : Int32).toInt = (n0_size : Int32).toInt + (3 : Int); have := kk_add2 (x := n0_size) (y := 1) (a := n0_size.toInt) (b := 1) rfl rfl (by omega) (by omega); have := kk_add2 (x := (n0_size + 1)) (y := 1) (a := (n0_size + 1).toInt) (b := 1) rfl rfl (by omega) (by omega); omega), (by show 3 ≤ ((n0_size + 1) : Int32).toInt ∧ ((n0_size + 1) : Int32).toInt ≤ 120; first | with_reducible assumption | (constructor <;> (have := kk_add2 (x := n0_size) (y := 1) (a := n0_size.toInt) (b := 1) rfl rfl (by omega) (by omega); have := kk_add2 (x := (n0_size + 1)) (y := 1) (a := (n0_size + 1).toInt) (b := 1) rfl rfl (by omega) (by omega); omega)))⟩, (n0_size + 1), (upd f1 (n0_size : Int32).toNatClampNeg (kk_by p1 0)), (by show 3 ≤ ((n0_size + 1) : Int32).toInt ∧ ((n0_size + 1) : Int32).toInt ≤ 120; first | with_reducible assumption | (constructor <;> (have := kk_add2 (x := n0_size) (y := 1) (a := n0_size.toInt) (b := 1) rfl rfl (by omega) (by omega); omega))), b_4, (by show ((n0_size + 1) : Int32).toInt = (n0_size : Int32).toInt + (3 : Int); first | with_reducible assumption | (have := kk_add2 (x := n0_size) (y := 1) (a := n0_size.toInt) (b := 1) rfl rfl (by omega) (by omega); omega)), ⟨fun hh => by first | exact rfl | (exfalso; have := kk_add2 (x := n0_size) (y := 1) (a := n0_size.toInt) (b := 1) rfl rfl (by omega) (by omega); have := kk_add2 (x := (n0_size + 1)) (y := 1) (a := (n0_size + 1).toInt) (b := 1) rfl rfl (by omega) (by omega); omega), fun hh => by first | exact trivial | (exfalso; have := kk_add2 (x := n0_size) (y := 1) (a := n0_size.toInt) (b := 1) rfl rfl (by omega) (by omega); have := kk_add2 (x := (n0_size + 1)) (y := 1) (a := (n0_size + 1).toInt) (b := 1) rfl rfl (by omega) (by omega); omega)⟩, by rw [ht]; exact hP9, va_K.moved hW.alike hK9, hD9⟩, hS.F ht⟩) hS.2.2 dX10_take_52
    · have t_5 : (n0_size + 1).toInt < 120 := kk_nle c_5
      refine lv_aload_n hx hb dX10_take_16 rfl (lv_at hl 1 rfl) ?_
      refine va_get (D := (dC, dI)) (ci := 10) (v := .ref h1) (C := RX10) (T := TX10) (N := 4) hx hb hts (fun _ h => List.mem_cons_of_mem _ (List.mem_append_right _ h)) hown hK hP 0 rfl rfl 0 (by decide) (hts (.fieldLink RX10 9 "KinkStreet$Tape" "bytes" "[I") (List.mem_of_getElem? (i := 2) rfl)) (fun _ h9 => h9) rfl dX10_take_17 ?_
      refine lv_aload_n hx hb dX10_take_20 rfl (lv_at hl 1 rfl) ?_
      refine lv_dup hx hb dX10_take_21 rfl ?_
      refine va_get (D := (dC, dI)) (ci := 10) (v := .int (n0_size + 1)) (C := RX10) (T := TX10) (N := 4) hx hb hts (fun _ h => List.mem_cons_of_mem _ (List.mem_append_right _ h)) hown hK hP 0 rfl rfl 1 (by decide) (hts (.fieldLink RX10 13 "KinkStreet$Tape" "size" "I") (List.mem_of_getElem? (i := 1) rfl)) (fun _ h9 => h9) rfl dX10_take_22 ?_
      refine lv_dup_x1 hx hb dX10_take_25 rfl rfl ?_
      refine lv_iconst (v := 1) hx hb dX10_take_26 (by decide) ?_
      refine lv_iadd hx hb dX10_take_27 ?_
      refine va_put (D := (dC, dI)) (ci := 10) (v := .int ((n0_size + 1) + 1)) (ty := .int) (C := RX10) (T := TX10) (N := 4) hx hb hts (fun _ h => List.mem_cons_of_mem _ (List.mem_append_right _ h)) tyX10 tyX10_ok nmX10 hown hK hP hD hS 0 rfl rfl 1 (by decide) (hts (.fieldLink RX10 13 "KinkStreet$Tape" "size" "I") (List.mem_of_getElem? (i := 1) rfl)) (fun _ h9 => h9) rfl (by decide +kernel) rfl rfl (Nat.le_of_ble_eq_true rfl) dX10_take_28 (fun H locs hP hD hS => ?_)
      have hP : va_P (dC, dI) vwCl [(h0, Sum.inr (10, [Value.ref h1, Value.int ((n0_size + 1) + 1), Value.int n0_place, va_rf o0_law])), (h1, Sum.inl (cint, 120, Sum.inl (upd f1 (n0_size : Int32).toNatClampNeg (kk_by p1 0))))] H := hP
      have hD : va_D A [(h0, Sum.inr (10, [Value.ref h1, Value.int ((n0_size + 1) + 1), Value.int n0_place, va_rf o0_law])), (h1, Sum.inl (cint, 120, Sum.inl (upd f1 (n0_size : Int32).toNatClampNeg (kk_by p1 0))))] := hD
      refine lv_iload_n hx hb dX10_take_31 rfl (lv_at hl 3 rfl) ?_
      refine lv_bipush (v := 8) hx hb dX10_take_32 (by decide) ?_
      refine lv_iload_n hx hb dX10_take_34 rfl (lv_at hl 0 rfl) ?_
      refine lv_imul hx hb dX10_take_35 ?_
      refine lv_topi (fun y_6 e_6 => ?_)
      obtain rfl : y_6 = 8 := e_6.trans (by decide)
      refine lv_iushr hx hb dX10_take_36 rfl ?_
      refine lv_sipush (v := 255) hx hb dX10_take_37 (by decide) ?_
      refine lv_iand hx hb dX10_take_40 ?_
      refine lv_topi (fun y_7 e_7 => ?_)
      obtain rfl : y_7 = (kk_by p1 8) := e_7.trans rfl
      have t_7 : 0 ≤ (kk_by p1 8).toInt ∧ (kk_by p1 8).toInt ≤ 255 := kk_by_b _ _
      refine va_iast hx hb hK hP hD hS 1 0 rfl rfl (vp_in_iff.mpr ⟨by have := kk_add2 (x := n0_size) (y := 1) (a := n0_size.toInt) (b := 1) rfl rfl (by omega) (by omega); have := kk_add2 (x := (n0_size + 1)) (y := 1) (a := (n0_size + 1).toInt) (b := 1) rfl rfl (by omega) (by omega); omega, by have := kk_add2 (x := n0_size) (y := 1) (a := n0_size.toInt) (b := 1) rfl rfl (by omega) (by omega); have := kk_add2 (x := (n0_size + 1)) (y := 1) (a := (n0_size + 1).toInt) (b := 1) rfl rfl (by omega) (by omega); omega⟩) dX10_take_41 (fun H locs hP hD hS => ?_)
      have w_8 : ((upd (upd f1 (n0_size : Int32).toNatClampNeg (kk_by p1 0)) ((n0_size + 1) : Int32).toNatClampNeg (kk_by p1 8)) ((n0_size + 1) : Int32).toNatClampNeg).toInt = ((kk_by p1 8) : Int32).toInt := by rw [kk_ups]
      have b_8 := kk_upb (k := ((n0_size + 1) : Int32).toNatClampNeg) b_4 (show 0 ≤ ((kk_by p1 8) : Int32).toInt ∧ ((kk_by p1 8) : Int32).toInt ≤ 255 from by first | with_reducible assumption | decide | (constructor <;> (have := kk_add2 (x := n0_size) (y := 1) (a := n0_size.toInt) (b := 1) rfl rfl (by omega) (by omega); have := kk_add2 (x := (n0_size + 1)) (y := 1) (a := (n0_size + 1).toInt) (b := 1) rfl rfl (by omega) (by omega); omega)))
      have hP : va_P (dC, dI) vwCl [(h0, Sum.inr (10, [Value.ref h1, Value.int ((n0_size + 1) + 1), Value.int n0_place, va_rf o0_law])), (h1, Sum.inl (cint, 120, Sum.inl (upd (upd f1 (n0_size : Int32).toNatClampNeg (kk_by p1 0)) ((n0_size + 1) : Int32).toNatClampNeg (kk_by p1 8))))] H := hP
      have hD : va_D A [(h0, Sum.inr (10, [Value.ref h1, Value.int ((n0_size + 1) + 1), Value.int n0_place, va_rf o0_law])), (h1, Sum.inl (cint, 120, Sum.inl (upd (upd f1 (n0_size : Int32).toNatClampNeg (kk_by p1 0)) ((n0_size + 1) : Int32).toNatClampNeg (kk_by p1 8))))] := hD
      refine lv_iinc (v := 2) (lv' := [(3, .int 2), (0, .ref h0), (1, .int 3), (2, .int p1)]) hx hb dX10_take_42 hl (k := 0) rfl (by first | rfl | decide) (by decide) rfl (fun ls hl => ?_)
      refine lv_goto (tgt := 2) hx hb dX10_take_45 (by decide) ?_
      refine lv_iload_n hx hb dX10_take_2 rfl (lv_at hl 0 rfl) ?_
      refine lv_iload_n hx hb dX10_take_3 rfl (lv_at hl 2 rfl) ?_
      refine lv_icmp_ge (tgt := 48) hx hb dX10_take_4 (by decide) (fun c => absurd c (by decide)) (fun _ => ?_)
      refine lv_aload_n hx hb dX10_take_7 rfl (lv_at hl 1 rfl) ?_
      refine va_get (D := (dC, dI)) (ci := 10) (v := .int ((n0_size + 1) + 1)) (C := RX10) (T := TX10) (N := 4) hx hb hts (fun _ h => List.mem_cons_of_mem _ (List.mem_append_right _ h)) hown hK hP 0 rfl rfl 1 (by decide) (hts (.fieldLink RX10 13 "KinkStreet$Tape" "size" "I") (List.mem_of_getElem? (i := 1) rfl)) (fun _ h9 => h9) rfl dX10_take_8 ?_
      refine lv_bipush (v := 120) hx hb dX10_take_11 (by decide) ?_
      refine lv_icmp_ge (tgt := 48) hx hb dX10_take_13 (by decide) (fun c_9 => ?_) (fun c_9 => ?_)
      · have t_9 : 120 ≤ ((n0_size + 1) + 1).toInt := kk_le c_9
        refine lv_aload_n hx hb dX10_take_48 rfl (lv_at hl 1 rfl) ?_
        refine va_get (D := (dC, dI)) (ci := 10) (v := .int ((n0_size + 1) + 1)) (C := RX10) (T := TX10) (N := 4) hx hb hts (fun _ h => List.mem_cons_of_mem _ (List.mem_append_right _ h)) hown hK hP 0 rfl rfl 1 (by decide) (hts (.fieldLink RX10 13 "KinkStreet$Tape" "size" "I") (List.mem_of_getElem? (i := 1) rfl)) (fun _ h9 => h9) rfl dX10_take_49 ?_
        obtain ⟨hP9, hD9⟩ := kk_leafout (wc := [(h0, Sum.inr (10, [Value.ref h1, Value.int ((n0_size + 1) + 1), Value.int n0_place, va_rf o0_law])), (h1, Sum.inl (cint, 120, Sum.inl (upd (upd f1 (n0_size : Int32).toNatClampNeg (kk_by p1 0)) ((n0_size + 1) : Int32).toNatClampNeg (kk_by p1 8))))]) hP hD [0, 1] (by decide) rfl
        have hK9 := hK.sub (tys' := []) [] rfl
        exact W.iret (v := ((n0_size + 1) + 1)) hx hb hr (fun t ht hW => ⟨⟨((n0_size + 1) + 1), (), rfl, ⟨(by show (((n0_size + 1) + 1) : Int32).toInt = (n0_size : Int32).toInt + (3 : Int); have := kk_add2 (x := n0_size) (y := 1) (a := n0_size.toInt) (b := 1) rfl rfl (by omega) (by omega); have := kk_add2 (x := (n0_size + 1)) (y := 1) (a := (n0_size + 1).toInt) (b := 1) rfl rfl (by omega) (by omega); omega), (by show 3 ≤ (((n0_size + 1) + 1) : Int32).toInt ∧ (((n0_size + 1) + 1) : Int32).toInt ≤ 120; first | with_reducible assumption | (constructor <;> (have := kk_add2 (x := n0_size) (y := 1) (a := n0_size.toInt) (b := 1) rfl rfl (by omega) (by omega); have := kk_add2 (x := (n0_size + 1)) (y := 1) (a := (n0_size + 1).toInt) (b := 1) rfl rfl (by omega) (by omega); omega)))⟩, ((n0_size + 1) + 1), (upd (upd f1 (n0_size : Int32).toNatClampNeg (kk_by p1 0)) ((n0_size + 1) : Int32).toNatClampNeg (kk_by p1 8)), (by show 3 ≤ (((n0_size + 1) + 1) : Int32).toInt ∧ (((n0_size + 1) + 1) : Int32).toInt ≤ 120; first | with_reducible assumption | (constructor <;> (have := kk_add2 (x := n0_size) (y := 1) (a := n0_size.toInt) (b := 1) rfl rfl (by omega) (by omega); have := kk_add2 (x := (n0_size + 1)) (y := 1) (a := (n0_size + 1).toInt) (b := 1) rfl rfl (by omega) (by omega); omega))), b_8, (by show (((n0_size + 1) + 1) : Int32).toInt = (n0_size : Int32).toInt + (3 : Int); first | with_reducible assumption | (have := kk_add2 (x := n0_size) (y := 1) (a := n0_size.toInt) (b := 1) rfl rfl (by omega) (by omega); have := kk_add2 (x := (n0_size + 1)) (y := 1) (a := (n0_size + 1).toInt) (b := 1) rfl rfl (by omega) (by omega); omega)), ⟨fun hh => by first | exact rfl | (exfalso; have := kk_add2 (x := n0_size) (y := 1) (a := n0_size.toInt) (b := 1) rfl rfl (by omega) (by omega); have := kk_add2 (x := (n0_size + 1)) (y := 1) (a := (n0_size + 1).toInt) (b := 1) rfl rfl (by omega) (by omega); omega), fun hh => by first | exact trivial | (exfalso; have := kk_add2 (x := n0_size) (y := 1) (a := n0_size.toInt) (b := 1) rfl rfl (by omega) (by omega); have := kk_add2 (x := (n0_size + 1)) (y := 1) (a := (n0_size + 1).toInt) (b := 1) rfl rfl (by omega) (by omega); omega)⟩, by rw [ht]; exact hP9, va_K.moved hW.alike hK9, hD9⟩, hS.F ht⟩) hS.2.2 dX10_take_52
      · have t_9 : ((n0_size + 1) + 1).toInt < 120 := kk_nle c_9
        refine lv_aload_n hx hb dX10_take_16 rfl (lv_at hl 1 rfl) ?_
        refine va_get (D := (dC, dI)) (ci := 10) (v := .ref h1) (C := RX10) (T := TX10) (N := 4) hx hb hts (fun _ h => List.mem_cons_of_mem _ (List.mem_append_right _ h)) hown hK hP 0 rfl rfl 0 (by decide) (hts (.fieldLink RX10 9 "KinkStreet$Tape" "bytes" "[I") (List.mem_of_getElem? (i := 2) rfl)) (fun _ h9 => h9) rfl dX10_take_17 ?_
        refine lv_aload_n hx hb dX10_take_20 rfl (lv_at hl 1 rfl) ?_
        refine lv_dup hx hb dX10_take_21 rfl ?_
        refine va_get (D := (dC, dI)) (ci := 10) (v := .int ((n0_size + 1) + 1)) (C := RX10) (T := TX10) (N := 4) hx hb hts (fun _ h => List.mem_cons_of_mem _ (List.mem_append_right _ h)) hown hK hP 0 rfl rfl 1 (by decide) (hts (.fieldLink RX10 13 "KinkStreet$Tape" "size" "I") (List.mem_of_getElem? (i := 1) rfl)) (fun _ h9 => h9) rfl dX10_take_22 ?_
        refine lv_dup_x1 hx hb dX10_take_25 rfl rfl ?_
        refine lv_iconst (v := 1) hx hb dX10_take_26 (by decide) ?_
        refine lv_iadd hx hb dX10_take_27 ?_
        refine va_put (D := (dC, dI)) (ci := 10) (v := .int (((n0_size + 1) + 1) + 1)) (ty := .int) (C := RX10) (T := TX10) (N := 4) hx hb hts (fun _ h => List.mem_cons_of_mem _ (List.mem_append_right _ h)) tyX10 tyX10_ok nmX10 hown hK hP hD hS 0 rfl rfl 1 (by decide) (hts (.fieldLink RX10 13 "KinkStreet$Tape" "size" "I") (List.mem_of_getElem? (i := 1) rfl)) (fun _ h9 => h9) rfl (by decide +kernel) rfl rfl (Nat.le_of_ble_eq_true rfl) dX10_take_28 (fun H locs hP hD hS => ?_)
        have hP : va_P (dC, dI) vwCl [(h0, Sum.inr (10, [Value.ref h1, Value.int (((n0_size + 1) + 1) + 1), Value.int n0_place, va_rf o0_law])), (h1, Sum.inl (cint, 120, Sum.inl (upd (upd f1 (n0_size : Int32).toNatClampNeg (kk_by p1 0)) ((n0_size + 1) : Int32).toNatClampNeg (kk_by p1 8))))] H := hP
        have hD : va_D A [(h0, Sum.inr (10, [Value.ref h1, Value.int (((n0_size + 1) + 1) + 1), Value.int n0_place, va_rf o0_law])), (h1, Sum.inl (cint, 120, Sum.inl (upd (upd f1 (n0_size : Int32).toNatClampNeg (kk_by p1 0)) ((n0_size + 1) : Int32).toNatClampNeg (kk_by p1 8))))] := hD
        refine lv_iload_n hx hb dX10_take_31 rfl (lv_at hl 3 rfl) ?_
        refine lv_bipush (v := 8) hx hb dX10_take_32 (by decide) ?_
        refine lv_iload_n hx hb dX10_take_34 rfl (lv_at hl 0 rfl) ?_
        refine lv_imul hx hb dX10_take_35 ?_
        refine lv_topi (fun y_10 e_10 => ?_)
        obtain rfl : y_10 = 16 := e_10.trans (by decide)
        refine lv_iushr hx hb dX10_take_36 rfl ?_
        refine lv_sipush (v := 255) hx hb dX10_take_37 (by decide) ?_
        refine lv_iand hx hb dX10_take_40 ?_
        refine lv_topi (fun y_11 e_11 => ?_)
        obtain rfl : y_11 = (kk_by p1 16) := e_11.trans rfl
        have t_11 : 0 ≤ (kk_by p1 16).toInt ∧ (kk_by p1 16).toInt ≤ 255 := kk_by_b _ _
        refine va_iast hx hb hK hP hD hS 1 0 rfl rfl (vp_in_iff.mpr ⟨by have := kk_add2 (x := n0_size) (y := 1) (a := n0_size.toInt) (b := 1) rfl rfl (by omega) (by omega); have := kk_add2 (x := (n0_size + 1)) (y := 1) (a := (n0_size + 1).toInt) (b := 1) rfl rfl (by omega) (by omega); have := kk_add2 (x := ((n0_size + 1) + 1)) (y := 1) (a := ((n0_size + 1) + 1).toInt) (b := 1) rfl rfl (by omega) (by omega); omega, by have := kk_add2 (x := n0_size) (y := 1) (a := n0_size.toInt) (b := 1) rfl rfl (by omega) (by omega); have := kk_add2 (x := (n0_size + 1)) (y := 1) (a := (n0_size + 1).toInt) (b := 1) rfl rfl (by omega) (by omega); have := kk_add2 (x := ((n0_size + 1) + 1)) (y := 1) (a := ((n0_size + 1) + 1).toInt) (b := 1) rfl rfl (by omega) (by omega); omega⟩) dX10_take_41 (fun H locs hP hD hS => ?_)
        have w_12 : ((upd (upd (upd f1 (n0_size : Int32).toNatClampNeg (kk_by p1 0)) ((n0_size + 1) : Int32).toNatClampNeg (kk_by p1 8)) (((n0_size + 1) + 1) : Int32).toNatClampNeg (kk_by p1 16)) (((n0_size + 1) + 1) : Int32).toNatClampNeg).toInt = ((kk_by p1 16) : Int32).toInt := by rw [kk_ups]
        have b_12 := kk_upb (k := (((n0_size + 1) + 1) : Int32).toNatClampNeg) b_8 (show 0 ≤ ((kk_by p1 16) : Int32).toInt ∧ ((kk_by p1 16) : Int32).toInt ≤ 255 from by first | with_reducible assumption | decide | (constructor <;> (have := kk_add2 (x := n0_size) (y := 1) (a := n0_size.toInt) (b := 1) rfl rfl (by omega) (by omega); have := kk_add2 (x := (n0_size + 1)) (y := 1) (a := (n0_size + 1).toInt) (b := 1) rfl rfl (by omega) (by omega); have := kk_add2 (x := ((n0_size + 1) + 1)) (y := 1) (a := ((n0_size + 1) + 1).toInt) (b := 1) rfl rfl (by omega) (by omega); omega)))
        have hP : va_P (dC, dI) vwCl [(h0, Sum.inr (10, [Value.ref h1, Value.int (((n0_size + 1) + 1) + 1), Value.int n0_place, va_rf o0_law])), (h1, Sum.inl (cint, 120, Sum.inl (upd (upd (upd f1 (n0_size : Int32).toNatClampNeg (kk_by p1 0)) ((n0_size + 1) : Int32).toNatClampNeg (kk_by p1 8)) (((n0_size + 1) + 1) : Int32).toNatClampNeg (kk_by p1 16))))] H := hP
        have hD : va_D A [(h0, Sum.inr (10, [Value.ref h1, Value.int (((n0_size + 1) + 1) + 1), Value.int n0_place, va_rf o0_law])), (h1, Sum.inl (cint, 120, Sum.inl (upd (upd (upd f1 (n0_size : Int32).toNatClampNeg (kk_by p1 0)) ((n0_size + 1) : Int32).toNatClampNeg (kk_by p1 8)) (((n0_size + 1) + 1) : Int32).toNatClampNeg (kk_by p1 16))))] := hD
        refine lv_iinc (v := 3) (lv' := [(3, .int 3), (0, .ref h0), (1, .int 3), (2, .int p1)]) hx hb dX10_take_42 hl (k := 0) rfl (by first | rfl | decide) (by decide) rfl (fun ls hl => ?_)
        refine lv_goto (tgt := 2) hx hb dX10_take_45 (by decide) ?_
        refine lv_iload_n hx hb dX10_take_2 rfl (lv_at hl 0 rfl) ?_
        refine lv_iload_n hx hb dX10_take_3 rfl (lv_at hl 2 rfl) ?_
        refine lv_icmp_ge (tgt := 48) hx hb dX10_take_4 (by decide) (fun _ => ?_) (fun c => absurd c (by decide))
        refine lv_aload_n hx hb dX10_take_48 rfl (lv_at hl 1 rfl) ?_
        refine va_get (D := (dC, dI)) (ci := 10) (v := .int (((n0_size + 1) + 1) + 1)) (C := RX10) (T := TX10) (N := 4) hx hb hts (fun _ h => List.mem_cons_of_mem _ (List.mem_append_right _ h)) hown hK hP 0 rfl rfl 1 (by decide) (hts (.fieldLink RX10 13 "KinkStreet$Tape" "size" "I") (List.mem_of_getElem? (i := 1) rfl)) (fun _ h9 => h9) rfl dX10_take_49 ?_
        obtain ⟨hP9, hD9⟩ := kk_leafout (wc := [(h0, Sum.inr (10, [Value.ref h1, Value.int (((n0_size + 1) + 1) + 1), Value.int n0_place, va_rf o0_law])), (h1, Sum.inl (cint, 120, Sum.inl (upd (upd (upd f1 (n0_size : Int32).toNatClampNeg (kk_by p1 0)) ((n0_size + 1) : Int32).toNatClampNeg (kk_by p1 8)) (((n0_size + 1) + 1) : Int32).toNatClampNeg (kk_by p1 16))))]) hP hD [0, 1] (by decide) rfl
        have hK9 := hK.sub (tys' := []) [] rfl
        exact W.iret (v := (((n0_size + 1) + 1) + 1)) hx hb hr (fun t ht hW => ⟨⟨(((n0_size + 1) + 1) + 1), (), rfl, ⟨(by show ((((n0_size + 1) + 1) + 1) : Int32).toInt = (n0_size : Int32).toInt + (3 : Int); have := kk_add2 (x := n0_size) (y := 1) (a := n0_size.toInt) (b := 1) rfl rfl (by omega) (by omega); have := kk_add2 (x := (n0_size + 1)) (y := 1) (a := (n0_size + 1).toInt) (b := 1) rfl rfl (by omega) (by omega); have := kk_add2 (x := ((n0_size + 1) + 1)) (y := 1) (a := ((n0_size + 1) + 1).toInt) (b := 1) rfl rfl (by omega) (by omega); omega), (by show 3 ≤ ((((n0_size + 1) + 1) + 1) : Int32).toInt ∧ ((((n0_size + 1) + 1) + 1) : Int32).toInt ≤ 120; first | with_reducible assumption | decide | (constructor <;> (have := kk_add2 (x := n0_size) (y := 1) (a := n0_size.toInt) (b := 1) rfl rfl (by omega) (by omega); have := kk_add2 (x := (n0_size + 1)) (y := 1) (a := (n0_size + 1).toInt) (b := 1) rfl rfl (by omega) (by omega); have := kk_add2 (x := ((n0_size + 1) + 1)) (y := 1) (a := ((n0_size + 1) + 1).toInt) (b := 1) rfl rfl (by omega) (by omega); omega)))⟩, (((n0_size + 1) + 1) + 1), (upd (upd (upd f1 (n0_size : Int32).toNatClampNeg (kk_by p1 0)) ((n0_size + 1) : Int32).toNatClampNeg (kk_by p1 8)) (((n0_size + 1) + 1) : Int32).toNatClampNeg (kk_by p1 16)), (by show 3 ≤ ((((n0_size + 1) + 1) + 1) : Int32).toInt ∧ ((((n0_size + 1) + 1) + 1) : Int32).toInt ≤ 120; first | with_reducible assumption | decide | (constructor <;> (have := kk_add2 (x := n0_size) (y := 1) (a := n0_size.toInt) (b := 1) rfl rfl (by omega) (by omega); have := kk_add2 (x := (n0_size + 1)) (y := 1) (a := (n0_size + 1).toInt) (b := 1) rfl rfl (by omega) (by omega); have := kk_add2 (x := ((n0_size + 1) + 1)) (y := 1) (a := ((n0_size + 1) + 1).toInt) (b := 1) rfl rfl (by omega) (by omega); omega))), b_12, (by show ((((n0_size + 1) + 1) + 1) : Int32).toInt = (n0_size : Int32).toInt + (3 : Int); first | with_reducible assumption | (have := kk_add2 (x := n0_size) (y := 1) (a := n0_size.toInt) (b := 1) rfl rfl (by omega) (by omega); have := kk_add2 (x := (n0_size + 1)) (y := 1) (a := (n0_size + 1).toInt) (b := 1) rfl rfl (by omega) (by omega); have := kk_add2 (x := ((n0_size + 1) + 1)) (y := 1) (a := ((n0_size + 1) + 1).toInt) (b := 1) rfl rfl (by omega) (by omega); omega)), ⟨fun hh => by first | exact rfl | (exfalso; have := kk_add2 (x := n0_size) (y := 1) (a := n0_size.toInt) (b := 1) rfl rfl (by omega) (by omega); have := kk_add2 (x := (n0_size + 1)) (y := 1) (a := (n0_size + 1).toInt) (b := 1) rfl rfl (by omega) (by omega); have := kk_add2 (x := ((n0_size + 1) + 1)) (y := 1) (a := ((n0_size + 1) + 1).toInt) (b := 1) rfl rfl (by omega) (by omega); omega), fun hh => by first | exact trivial | (exfalso; have := kk_add2 (x := n0_size) (y := 1) (a := n0_size.toInt) (b := 1) rfl rfl (by omega) (by omega); have := kk_add2 (x := (n0_size + 1)) (y := 1) (a := (n0_size + 1).toInt) (b := 1) rfl rfl (by omega) (by omega); have := kk_add2 (x := ((n0_size + 1) + 1)) (y := 1) (a := ((n0_size + 1) + 1).toInt) (b := 1) rfl rfl (by omega) (by omega); omega)⟩, by rw [ht]; exact hP9, va_K.moved hW.alike hK9, hD9⟩, hS.F ht⟩) hS.2.2 dX10_take_52
set_option maxHeartbeats 4000000 in
set_option maxRecDepth 100000 in
theorem g_X10_take_4 (l : Launch) (dC : Nat → ClassId) (dI : Nat → Nat → Nat) (h0 : Nat) (h1 : Nat) (cint : ClassId) (sz : Nat) (p1 : Int32) (n0_size : Int32) (n0_place : Int32) (o0_law : Option Nat) (f1 : Nat → Int32) (tn0_size : 0 ≤ n0_size.toInt ∧ n0_size.toInt ≤ 120) (bf1 : ∀ j, j < 120 → 0 ≤ (f1 j).toInt ∧ (f1 j).toInt ≤ 255) (pr0 : (n0_size.toInt + (4 : Int) ≤ 120)) : Met l yX10_take wsX10_take ({ frames := 0, cells := 0, slots := 0, locals := 0 }) (va_Pc [.ref h0, .int 4, .int p1] (fun U => U.heap.size = sz ∧ va_P (dC, dI) vwCl [(h0, Sum.inr (10, [Value.ref h1, Value.int n0_size, Value.int n0_place, va_rf o0_law])), (h1, Sum.inl (cint, 120, Sum.inl f1))] U.heap ∧ va_K (dC, dI) vwCl [(cint, .int)] U ∧ va_D (fun _ => True) [(h0, Sum.inr (10, [Value.ref h1, Value.int n0_size, Value.int n0_place, va_rf o0_law])), (h1, Sum.inl (cint, 120, Sum.inl f1))])) (va_Qi (fun (r : Int32) (_ : Unit) => r.toInt = n0_size.toInt + (4 : Int) ∧ (4 ≤ r.toInt ∧ r.toInt ≤ 120)) (fun (_ : Unit) t => ∃ (m0_size : Int32) (g1 : Nat → Int32), (4 ≤ m0_size.toInt ∧ m0_size.toInt ≤ 120) ∧ (∀ j, j < 120 → 0 ≤ (g1 j).toInt ∧ (g1 j).toInt ≤ 255) ∧ (m0_size.toInt = n0_size.toInt + (4 : Int)) ∧ (((0 : Int) = 0 → g1 = (upd (upd (upd (upd f1 (n0_size : Int32).toNatClampNeg (kk_by p1 0)) ((n0_size + 1) : Int32).toNatClampNeg (kk_by p1 8)) (((n0_size + 1) + 1) : Int32).toNatClampNeg (kk_by p1 16)) ((((n0_size + 1) + 1) + 1) : Int32).toNatClampNeg (kk_by p1 24))) ∧ ((0 : Int) = 0 → True)) ∧ va_P (dC, dI) vwCl [(h0, Sum.inr (10, [Value.ref h1, Value.int m0_size, Value.int n0_place, va_rf o0_law])), (h1, Sum.inl (cint, 120, Sum.inl g1))] t.heap ∧ va_K (dC, dI) vwCl [] t ∧ va_D (va_A [(h0, Sum.inr (10, [Value.ref h1, Value.int n0_size, Value.int n0_place, va_rf o0_law])), (h1, Sum.inl (cint, 120, Sum.inl f1))] sz) [(h0, Sum.inr (10, [Value.ref h1, Value.int m0_size, Value.int n0_place, va_rf o0_law])), (h1, Sum.inl (cint, 120, Sum.inl g1))]) (va_A [(h0, Sum.inr (10, [Value.ref h1, Value.int n0_size, Value.int n0_place, va_rf o0_law])), (h1, Sum.inl (cint, 120, Sum.inl f1))] sz)) 0 0 (va_A [(h0, Sum.inr (10, [Value.ref h1, Value.int n0_size, Value.int n0_place, va_rf o0_law])), (h1, Sum.inl (cint, 120, Sum.inl f1))] sz) := by
  refine Met.ofW (cc := cX10_take) (maxL := 4) (ret := (some .int)) (by decide) rfl ?_
  intro p e s m args below meth c s₁ B hml hv
  obtain ⟨rfl, hsz, hP, hK, hD0⟩ := hv
  have hx := B.exec
  have hb := B.bytes
  have hr := B.returns
  have hts := atoms_spec (ws := wsX10_take) B.pre
  have hown : s.vm.findClass RX10 = some m.cls := findClass_of_methodNamed B.named
  have hlocks := B.notSynchronized
  subst hsz
  have hD := hD0.self (sz := s.heap.size)
  generalize hAe : va_A [(h0, Sum.inr (10, [Value.ref h1, Value.int n0_size, Value.int n0_place, va_rf o0_law])), (h1, Sum.inl (cint, 120, Sum.inl f1))] s.heap.size = A at hD ⊢
  have hA : ∀ q : Nat, s.heap.size ≤ q → A q := fun q h => by rw [← hAe]; exact Or.inr h
  have hS : va_S A s.heap s.heap [] := va_S.rf
  have hP : va_P (dC, dI) vwCl [(h0, Sum.inr (10, [Value.ref h1, Value.int n0_size, Value.int n0_place, va_rf o0_law])), (h1, Sum.inl (cint, 120, Sum.inl f1))] s.heap := hP
  have hl := lv_entry ([.ref h0, .int 4, .int p1]) (n := 4) (Nat.le_of_ble_eq_true rfl)
  rw [lg_entry_eq]
  generalize (lg_sl ([.ref h0, .int 4, .int p1]) ++ List.replicate (4 - (lg_sl ([.ref h0, .int 4, .int p1])).length) Slot.unset).toArray = ls at hl ⊢
  have hl : lv_has ls 4 [(0, .ref h0), (1, .int 4), (2, .int p1)] := hl
  refine lv_iconst (v := 0) hx hb dX10_take_0 (by decide) ?_
  refine lv_istore_n (lv' := [(3, .int 0), (0, .ref h0), (1, .int 4), (2, .int p1)]) hx hb dX10_take_1 rfl hl (by decide) rfl (fun ls hl => ?_)
  refine lv_iload_n hx hb dX10_take_2 rfl (lv_at hl 0 rfl) ?_
  refine lv_iload_n hx hb dX10_take_3 rfl (lv_at hl 2 rfl) ?_
  refine lv_icmp_ge (tgt := 48) hx hb dX10_take_4 (by decide) (fun c => absurd c (by decide)) (fun _ => ?_)
  refine lv_aload_n hx hb dX10_take_7 rfl (lv_at hl 1 rfl) ?_
  refine va_get (D := (dC, dI)) (ci := 10) (v := .int n0_size) (C := RX10) (T := TX10) (N := 4) hx hb hts (fun _ h => List.mem_cons_of_mem _ (List.mem_append_right _ h)) hown hK hP 0 rfl rfl 1 (by decide) (hts (.fieldLink RX10 13 "KinkStreet$Tape" "size" "I") (List.mem_of_getElem? (i := 1) rfl)) (fun _ h9 => h9) rfl dX10_take_8 ?_
  refine lv_bipush (v := 120) hx hb dX10_take_11 (by decide) ?_
  refine lv_icmp_ge (tgt := 48) hx hb dX10_take_13 (by decide) (fun c_1 => ?_) (fun c_1 => ?_)
  · have t_1 : 120 ≤ n0_size.toInt := kk_le c_1
    refine lv_aload_n hx hb dX10_take_48 rfl (lv_at hl 1 rfl) ?_
    refine va_get (D := (dC, dI)) (ci := 10) (v := .int n0_size) (C := RX10) (T := TX10) (N := 4) hx hb hts (fun _ h => List.mem_cons_of_mem _ (List.mem_append_right _ h)) hown hK hP 0 rfl rfl 1 (by decide) (hts (.fieldLink RX10 13 "KinkStreet$Tape" "size" "I") (List.mem_of_getElem? (i := 1) rfl)) (fun _ h9 => h9) rfl dX10_take_49 ?_
    obtain ⟨hP9, hD9⟩ := kk_leafout (wc := [(h0, Sum.inr (10, [Value.ref h1, Value.int n0_size, Value.int n0_place, va_rf o0_law])), (h1, Sum.inl (cint, 120, Sum.inl f1))]) hP hD [0, 1] (by decide) rfl
    have hK9 := hK.sub (tys' := []) [] rfl
    exact W.iret (v := n0_size) hx hb hr (fun t ht hW => ⟨⟨n0_size, (), rfl, ⟨(by show (n0_size : Int32).toInt = (n0_size : Int32).toInt + (4 : Int); have := kk_add2 (x := n0_size) (y := 1) (a := n0_size.toInt) (b := 1) rfl rfl (by omega) (by omega); have := kk_add2 (x := (n0_size + 1)) (y := 1) (a := (n0_size + 1).toInt) (b := 1) rfl rfl (by omega) (by omega); have := kk_add2 (x := ((n0_size + 1) + 1)) (y := 1) (a := ((n0_size + 1) + 1).toInt) (b := 1) rfl rfl (by omega) (by omega); omega), (by show 4 ≤ (n0_size : Int32).toInt ∧ (n0_size : Int32).toInt ≤ 120; first | with_reducible assumption | (constructor <;> (have := kk_add2 (x := n0_size) (y := 1) (a := n0_size.toInt) (b := 1) rfl rfl (by omega) (by omega); have := kk_add2 (x := (n0_size + 1)) (y := 1) (a := (n0_size + 1).toInt) (b := 1) rfl rfl (by omega) (by omega); have := kk_add2 (x := ((n0_size + 1) + 1)) (y := 1) (a := ((n0_size + 1) + 1).toInt) (b := 1) rfl rfl (by omega) (by omega); omega)))⟩, n0_size, f1, (by show 4 ≤ (n0_size : Int32).toInt ∧ (n0_size : Int32).toInt ≤ 120; first | with_reducible assumption | (constructor <;> (omega))), bf1, (by show (n0_size : Int32).toInt = (n0_size : Int32).toInt + (4 : Int); first | with_reducible assumption | (omega)), ⟨fun hh => by first | exact rfl | (exfalso; have := kk_add2 (x := n0_size) (y := 1) (a := n0_size.toInt) (b := 1) rfl rfl (by omega) (by omega); have := kk_add2 (x := (n0_size + 1)) (y := 1) (a := (n0_size + 1).toInt) (b := 1) rfl rfl (by omega) (by omega); have := kk_add2 (x := ((n0_size + 1) + 1)) (y := 1) (a := ((n0_size + 1) + 1).toInt) (b := 1) rfl rfl (by omega) (by omega); omega), fun hh => by first | exact trivial | (exfalso; have := kk_add2 (x := n0_size) (y := 1) (a := n0_size.toInt) (b := 1) rfl rfl (by omega) (by omega); have := kk_add2 (x := (n0_size + 1)) (y := 1) (a := (n0_size + 1).toInt) (b := 1) rfl rfl (by omega) (by omega); have := kk_add2 (x := ((n0_size + 1) + 1)) (y := 1) (a := ((n0_size + 1) + 1).toInt) (b := 1) rfl rfl (by omega) (by omega); omega)⟩, by rw [ht]; exact hP9, va_K.moved hW.alike hK9, hD9⟩, hS.F ht⟩) hS.2.2 dX10_take_52
  · have t_1 : n0_size.toInt < 120 := kk_nle c_1
    refine lv_aload_n hx hb dX10_take_16 rfl (lv_at hl 1 rfl) ?_
    refine va_get (D := (dC, dI)) (ci := 10) (v := .ref h1) (C := RX10) (T := TX10) (N := 4) hx hb hts (fun _ h => List.mem_cons_of_mem _ (List.mem_append_right _ h)) hown hK hP 0 rfl rfl 0 (by decide) (hts (.fieldLink RX10 9 "KinkStreet$Tape" "bytes" "[I") (List.mem_of_getElem? (i := 2) rfl)) (fun _ h9 => h9) rfl dX10_take_17 ?_
    refine lv_aload_n hx hb dX10_take_20 rfl (lv_at hl 1 rfl) ?_
    refine lv_dup hx hb dX10_take_21 rfl ?_
    refine va_get (D := (dC, dI)) (ci := 10) (v := .int n0_size) (C := RX10) (T := TX10) (N := 4) hx hb hts (fun _ h => List.mem_cons_of_mem _ (List.mem_append_right _ h)) hown hK hP 0 rfl rfl 1 (by decide) (hts (.fieldLink RX10 13 "KinkStreet$Tape" "size" "I") (List.mem_of_getElem? (i := 1) rfl)) (fun _ h9 => h9) rfl dX10_take_22 ?_
    refine lv_dup_x1 hx hb dX10_take_25 rfl rfl ?_
    refine lv_iconst (v := 1) hx hb dX10_take_26 (by decide) ?_
    refine lv_iadd hx hb dX10_take_27 ?_
    refine va_put (D := (dC, dI)) (ci := 10) (v := .int (n0_size + 1)) (ty := .int) (C := RX10) (T := TX10) (N := 4) hx hb hts (fun _ h => List.mem_cons_of_mem _ (List.mem_append_right _ h)) tyX10 tyX10_ok nmX10 hown hK hP hD hS 0 rfl rfl 1 (by decide) (hts (.fieldLink RX10 13 "KinkStreet$Tape" "size" "I") (List.mem_of_getElem? (i := 1) rfl)) (fun _ h9 => h9) rfl (by decide +kernel) rfl rfl (Nat.le_of_ble_eq_true rfl) dX10_take_28 (fun H locs hP hD hS => ?_)
    have hP : va_P (dC, dI) vwCl [(h0, Sum.inr (10, [Value.ref h1, Value.int (n0_size + 1), Value.int n0_place, va_rf o0_law])), (h1, Sum.inl (cint, 120, Sum.inl f1))] H := hP
    have hD : va_D A [(h0, Sum.inr (10, [Value.ref h1, Value.int (n0_size + 1), Value.int n0_place, va_rf o0_law])), (h1, Sum.inl (cint, 120, Sum.inl f1))] := hD
    refine lv_iload_n hx hb dX10_take_31 rfl (lv_at hl 3 rfl) ?_
    refine lv_bipush (v := 8) hx hb dX10_take_32 (by decide) ?_
    refine lv_iload_n hx hb dX10_take_34 rfl (lv_at hl 0 rfl) ?_
    refine lv_imul hx hb dX10_take_35 ?_
    refine lv_topi (fun y_2 e_2 => ?_)
    obtain rfl : y_2 = 0 := e_2.trans (by decide)
    refine lv_iushr hx hb dX10_take_36 rfl ?_
    refine lv_sipush (v := 255) hx hb dX10_take_37 (by decide) ?_
    refine lv_iand hx hb dX10_take_40 ?_
    refine lv_topi (fun y_3 e_3 => ?_)
    obtain rfl : y_3 = (kk_by p1 0) := e_3.trans rfl
    have t_3 : 0 ≤ (kk_by p1 0).toInt ∧ (kk_by p1 0).toInt ≤ 255 := kk_by_b _ _
    refine va_iast hx hb hK hP hD hS 1 0 rfl rfl (vp_in_iff.mpr ⟨by have := kk_add2 (x := n0_size) (y := 1) (a := n0_size.toInt) (b := 1) rfl rfl (by omega) (by omega); omega, by have := kk_add2 (x := n0_size) (y := 1) (a := n0_size.toInt) (b := 1) rfl rfl (by omega) (by omega); omega⟩) dX10_take_41 (fun H locs hP hD hS => ?_)
    have w_4 : ((upd f1 (n0_size : Int32).toNatClampNeg (kk_by p1 0)) (n0_size : Int32).toNatClampNeg).toInt = ((kk_by p1 0) : Int32).toInt := by rw [kk_ups]
    have b_4 := kk_upb (k := (n0_size : Int32).toNatClampNeg) bf1 (show 0 ≤ ((kk_by p1 0) : Int32).toInt ∧ ((kk_by p1 0) : Int32).toInt ≤ 255 from by first | with_reducible assumption | decide | (constructor <;> (have := kk_add2 (x := n0_size) (y := 1) (a := n0_size.toInt) (b := 1) rfl rfl (by omega) (by omega); omega)))
    have hP : va_P (dC, dI) vwCl [(h0, Sum.inr (10, [Value.ref h1, Value.int (n0_size + 1), Value.int n0_place, va_rf o0_law])), (h1, Sum.inl (cint, 120, Sum.inl (upd f1 (n0_size : Int32).toNatClampNeg (kk_by p1 0))))] H := hP
    have hD : va_D A [(h0, Sum.inr (10, [Value.ref h1, Value.int (n0_size + 1), Value.int n0_place, va_rf o0_law])), (h1, Sum.inl (cint, 120, Sum.inl (upd f1 (n0_size : Int32).toNatClampNeg (kk_by p1 0))))] := hD
    refine lv_iinc (v := 1) (lv' := [(3, .int 1), (0, .ref h0), (1, .int 4), (2, .int p1)]) hx hb dX10_take_42 hl (k := 0) rfl (by first | rfl | decide) (by decide) rfl (fun ls hl => ?_)
    refine lv_goto (tgt := 2) hx hb dX10_take_45 (by decide) ?_
    refine lv_iload_n hx hb dX10_take_2 rfl (lv_at hl 0 rfl) ?_
    refine lv_iload_n hx hb dX10_take_3 rfl (lv_at hl 2 rfl) ?_
    refine lv_icmp_ge (tgt := 48) hx hb dX10_take_4 (by decide) (fun c => absurd c (by decide)) (fun _ => ?_)
    refine lv_aload_n hx hb dX10_take_7 rfl (lv_at hl 1 rfl) ?_
    refine va_get (D := (dC, dI)) (ci := 10) (v := .int (n0_size + 1)) (C := RX10) (T := TX10) (N := 4) hx hb hts (fun _ h => List.mem_cons_of_mem _ (List.mem_append_right _ h)) hown hK hP 0 rfl rfl 1 (by decide) (hts (.fieldLink RX10 13 "KinkStreet$Tape" "size" "I") (List.mem_of_getElem? (i := 1) rfl)) (fun _ h9 => h9) rfl dX10_take_8 ?_
    refine lv_bipush (v := 120) hx hb dX10_take_11 (by decide) ?_
    refine lv_icmp_ge (tgt := 48) hx hb dX10_take_13 (by decide) (fun c_5 => ?_) (fun c_5 => ?_)
    · have t_5 : 120 ≤ (n0_size + 1).toInt := kk_le c_5
      refine lv_aload_n hx hb dX10_take_48 rfl (lv_at hl 1 rfl) ?_
      refine va_get (D := (dC, dI)) (ci := 10) (v := .int (n0_size + 1)) (C := RX10) (T := TX10) (N := 4) hx hb hts (fun _ h => List.mem_cons_of_mem _ (List.mem_append_right _ h)) hown hK hP 0 rfl rfl 1 (by decide) (hts (.fieldLink RX10 13 "KinkStreet$Tape" "size" "I") (List.mem_of_getElem? (i := 1) rfl)) (fun _ h9 => h9) rfl dX10_take_49 ?_
      obtain ⟨hP9, hD9⟩ := kk_leafout (wc := [(h0, Sum.inr (10, [Value.ref h1, Value.int (n0_size + 1), Value.int n0_place, va_rf o0_law])), (h1, Sum.inl (cint, 120, Sum.inl (upd f1 (n0_size : Int32).toNatClampNeg (kk_by p1 0))))]) hP hD [0, 1] (by decide) rfl
      have hK9 := hK.sub (tys' := []) [] rfl
      exact W.iret (v := (n0_size + 1)) hx hb hr (fun t ht hW => ⟨⟨(n0_size + 1), (), rfl, ⟨(by show ((n0_size + 1) : Int32).toInt = (n0_size : Int32).toInt + (4 : Int); have := kk_add2 (x := n0_size) (y := 1) (a := n0_size.toInt) (b := 1) rfl rfl (by omega) (by omega); have := kk_add2 (x := (n0_size + 1)) (y := 1) (a := (n0_size + 1).toInt) (b := 1) rfl rfl (by omega) (by omega); have := kk_add2 (x := ((n0_size + 1) + 1)) (y := 1) (a := ((n0_size + 1) + 1).toInt) (b := 1) rfl rfl (by omega) (by omega); omega), (by show 4 ≤ ((n0_size + 1) : Int32).toInt ∧ ((n0_size + 1) : Int32).toInt ≤ 120; first | with_reducible assumption | (constructor <;> (have := kk_add2 (x := n0_size) (y := 1) (a := n0_size.toInt) (b := 1) rfl rfl (by omega) (by omega); have := kk_add2 (x := (n0_size + 1)) (y := 1) (a := (n0_size + 1).toInt) (b := 1) rfl rfl (by omega) (by omega); have := kk_add2 (x := ((n0_size + 1) + 1)) (y := 1) (a := ((n0_size + 1) + 1).toInt) (b := 1) rfl rfl (by omega) (by omega); omega)))⟩, (n0_size + 1), (upd f1 (n0_size : Int32).toNatClampNeg (kk_by p1 0)), (by show 4 ≤ ((n0_size + 1) : Int32).toInt ∧ ((n0_size + 1) : Int32).toInt ≤ 120; first | with_reducible assumption | (constructor <;> (have := kk_add2 (x := n0_size) (y := 1) (a := n0_size.toInt) (b := 1) rfl rfl (by omega) (by omega); omega))), b_4, (by show ((n0_size + 1) : Int32).toInt = (n0_size : Int32).toInt + (4 : Int); first | with_reducible assumption | (have := kk_add2 (x := n0_size) (y := 1) (a := n0_size.toInt) (b := 1) rfl rfl (by omega) (by omega); omega)), ⟨fun hh => by first | exact rfl | (exfalso; have := kk_add2 (x := n0_size) (y := 1) (a := n0_size.toInt) (b := 1) rfl rfl (by omega) (by omega); have := kk_add2 (x := (n0_size + 1)) (y := 1) (a := (n0_size + 1).toInt) (b := 1) rfl rfl (by omega) (by omega); have := kk_add2 (x := ((n0_size + 1) + 1)) (y := 1) (a := ((n0_size + 1) + 1).toInt) (b := 1) rfl rfl (by omega) (by omega); omega), fun hh => by first | exact trivial | (exfalso; have := kk_add2 (x := n0_size) (y := 1) (a := n0_size.toInt) (b := 1) rfl rfl (by omega) (by omega); have := kk_add2 (x := (n0_size + 1)) (y := 1) (a := (n0_size + 1).toInt) (b := 1) rfl rfl (by omega) (by omega); have := kk_add2 (x := ((n0_size + 1) + 1)) (y := 1) (a := ((n0_size + 1) + 1).toInt) (b := 1) rfl rfl (by omega) (by omega); omega)⟩, by rw [ht]; exact hP9, va_K.moved hW.alike hK9, hD9⟩, hS.F ht⟩) hS.2.2 dX10_take_52
    · have t_5 : (n0_size + 1).toInt < 120 := kk_nle c_5
      refine lv_aload_n hx hb dX10_take_16 rfl (lv_at hl 1 rfl) ?_
      refine va_get (D := (dC, dI)) (ci := 10) (v := .ref h1) (C := RX10) (T := TX10) (N := 4) hx hb hts (fun _ h => List.mem_cons_of_mem _ (List.mem_append_right _ h)) hown hK hP 0 rfl rfl 0 (by decide) (hts (.fieldLink RX10 9 "KinkStreet$Tape" "bytes" "[I") (List.mem_of_getElem? (i := 2) rfl)) (fun _ h9 => h9) rfl dX10_take_17 ?_
      refine lv_aload_n hx hb dX10_take_20 rfl (lv_at hl 1 rfl) ?_
      refine lv_dup hx hb dX10_take_21 rfl ?_
      refine va_get (D := (dC, dI)) (ci := 10) (v := .int (n0_size + 1)) (C := RX10) (T := TX10) (N := 4) hx hb hts (fun _ h => List.mem_cons_of_mem _ (List.mem_append_right _ h)) hown hK hP 0 rfl rfl 1 (by decide) (hts (.fieldLink RX10 13 "KinkStreet$Tape" "size" "I") (List.mem_of_getElem? (i := 1) rfl)) (fun _ h9 => h9) rfl dX10_take_22 ?_
      refine lv_dup_x1 hx hb dX10_take_25 rfl rfl ?_
      refine lv_iconst (v := 1) hx hb dX10_take_26 (by decide) ?_
      refine lv_iadd hx hb dX10_take_27 ?_
      refine va_put (D := (dC, dI)) (ci := 10) (v := .int ((n0_size + 1) + 1)) (ty := .int) (C := RX10) (T := TX10) (N := 4) hx hb hts (fun _ h => List.mem_cons_of_mem _ (List.mem_append_right _ h)) tyX10 tyX10_ok nmX10 hown hK hP hD hS 0 rfl rfl 1 (by decide) (hts (.fieldLink RX10 13 "KinkStreet$Tape" "size" "I") (List.mem_of_getElem? (i := 1) rfl)) (fun _ h9 => h9) rfl (by decide +kernel) rfl rfl (Nat.le_of_ble_eq_true rfl) dX10_take_28 (fun H locs hP hD hS => ?_)
      have hP : va_P (dC, dI) vwCl [(h0, Sum.inr (10, [Value.ref h1, Value.int ((n0_size + 1) + 1), Value.int n0_place, va_rf o0_law])), (h1, Sum.inl (cint, 120, Sum.inl (upd f1 (n0_size : Int32).toNatClampNeg (kk_by p1 0))))] H := hP
      have hD : va_D A [(h0, Sum.inr (10, [Value.ref h1, Value.int ((n0_size + 1) + 1), Value.int n0_place, va_rf o0_law])), (h1, Sum.inl (cint, 120, Sum.inl (upd f1 (n0_size : Int32).toNatClampNeg (kk_by p1 0))))] := hD
      refine lv_iload_n hx hb dX10_take_31 rfl (lv_at hl 3 rfl) ?_
      refine lv_bipush (v := 8) hx hb dX10_take_32 (by decide) ?_
      refine lv_iload_n hx hb dX10_take_34 rfl (lv_at hl 0 rfl) ?_
      refine lv_imul hx hb dX10_take_35 ?_
      refine lv_topi (fun y_6 e_6 => ?_)
      obtain rfl : y_6 = 8 := e_6.trans (by decide)
      refine lv_iushr hx hb dX10_take_36 rfl ?_
      refine lv_sipush (v := 255) hx hb dX10_take_37 (by decide) ?_
      refine lv_iand hx hb dX10_take_40 ?_
      refine lv_topi (fun y_7 e_7 => ?_)
      obtain rfl : y_7 = (kk_by p1 8) := e_7.trans rfl
      have t_7 : 0 ≤ (kk_by p1 8).toInt ∧ (kk_by p1 8).toInt ≤ 255 := kk_by_b _ _
      refine va_iast hx hb hK hP hD hS 1 0 rfl rfl (vp_in_iff.mpr ⟨by have := kk_add2 (x := n0_size) (y := 1) (a := n0_size.toInt) (b := 1) rfl rfl (by omega) (by omega); have := kk_add2 (x := (n0_size + 1)) (y := 1) (a := (n0_size + 1).toInt) (b := 1) rfl rfl (by omega) (by omega); omega, by have := kk_add2 (x := n0_size) (y := 1) (a := n0_size.toInt) (b := 1) rfl rfl (by omega) (by omega); have := kk_add2 (x := (n0_size + 1)) (y := 1) (a := (n0_size + 1).toInt) (b := 1) rfl rfl (by omega) (by omega); omega⟩) dX10_take_41 (fun H locs hP hD hS => ?_)
      have w_8 : ((upd (upd f1 (n0_size : Int32).toNatClampNeg (kk_by p1 0)) ((n0_size + 1) : Int32).toNatClampNeg (kk_by p1 8)) ((n0_size + 1) : Int32).toNatClampNeg).toInt = ((kk_by p1 8) : Int32).toInt := by rw [kk_ups]
      have b_8 := kk_upb (k := ((n0_size + 1) : Int32).toNatClampNeg) b_4 (show 0 ≤ ((kk_by p1 8) : Int32).toInt ∧ ((kk_by p1 8) : Int32).toInt ≤ 255 from by first | with_reducible assumption | decide | (constructor <;> (have := kk_add2 (x := n0_size) (y := 1) (a := n0_size.toInt) (b := 1) rfl rfl (by omega) (by omega); have := kk_add2 (x := (n0_size + 1)) (y := 1) (a := (n0_size + 1).toInt) (b := 1) rfl rfl (by omega) (by omega); omega)))
      have hP : va_P (dC, dI) vwCl [(h0, Sum.inr (10, [Value.ref h1, Value.int ((n0_size + 1) + 1), Value.int n0_place, va_rf o0_law])), (h1, Sum.inl (cint, 120, Sum.inl (upd (upd f1 (n0_size : Int32).toNatClampNeg (kk_by p1 0)) ((n0_size + 1) : Int32).toNatClampNeg (kk_by p1 8))))] H := hP
      have hD : va_D A [(h0, Sum.inr (10, [Value.ref h1, Value.int ((n0_size + 1) + 1), Value.int n0_place, va_rf o0_law])), (h1, Sum.inl (cint, 120, Sum.inl (upd (upd f1 (n0_size : Int32).toNatClampNeg (kk_by p1 0)) ((n0_size + 1) : Int32).toNatClampNeg (kk_by p1 8))))] := hD
      refine lv_iinc (v := 2) (lv' := [(3, .int 2), (0, .ref h0), (1, .int 4), (2, .int p1)]) hx hb dX10_take_42 hl (k := 0) rfl (by first | rfl | decide) (by decide) rfl (fun ls hl => ?_)
      refine lv_goto (tgt := 2) hx hb dX10_take_45 (by decide) ?_
      refine lv_iload_n hx hb dX10_take_2 rfl (lv_at hl 0 rfl) ?_
      refine lv_iload_n hx hb dX10_take_3 rfl (lv_at hl 2 rfl) ?_
      refine lv_icmp_ge (tgt := 48) hx hb dX10_take_4 (by decide) (fun c => absurd c (by decide)) (fun _ => ?_)
      refine lv_aload_n hx hb dX10_take_7 rfl (lv_at hl 1 rfl) ?_
      refine va_get (D := (dC, dI)) (ci := 10) (v := .int ((n0_size + 1) + 1)) (C := RX10) (T := TX10) (N := 4) hx hb hts (fun _ h => List.mem_cons_of_mem _ (List.mem_append_right _ h)) hown hK hP 0 rfl rfl 1 (by decide) (hts (.fieldLink RX10 13 "KinkStreet$Tape" "size" "I") (List.mem_of_getElem? (i := 1) rfl)) (fun _ h9 => h9) rfl dX10_take_8 ?_
      refine lv_bipush (v := 120) hx hb dX10_take_11 (by decide) ?_
      refine lv_icmp_ge (tgt := 48) hx hb dX10_take_13 (by decide) (fun c_9 => ?_) (fun c_9 => ?_)
      · have t_9 : 120 ≤ ((n0_size + 1) + 1).toInt := kk_le c_9
        refine lv_aload_n hx hb dX10_take_48 rfl (lv_at hl 1 rfl) ?_
        refine va_get (D := (dC, dI)) (ci := 10) (v := .int ((n0_size + 1) + 1)) (C := RX10) (T := TX10) (N := 4) hx hb hts (fun _ h => List.mem_cons_of_mem _ (List.mem_append_right _ h)) hown hK hP 0 rfl rfl 1 (by decide) (hts (.fieldLink RX10 13 "KinkStreet$Tape" "size" "I") (List.mem_of_getElem? (i := 1) rfl)) (fun _ h9 => h9) rfl dX10_take_49 ?_
        obtain ⟨hP9, hD9⟩ := kk_leafout (wc := [(h0, Sum.inr (10, [Value.ref h1, Value.int ((n0_size + 1) + 1), Value.int n0_place, va_rf o0_law])), (h1, Sum.inl (cint, 120, Sum.inl (upd (upd f1 (n0_size : Int32).toNatClampNeg (kk_by p1 0)) ((n0_size + 1) : Int32).toNatClampNeg (kk_by p1 8))))]) hP hD [0, 1] (by decide) rfl
        have hK9 := hK.sub (tys' := []) [] rfl
        exact W.iret (v := ((n0_size + 1) + 1)) hx hb hr (fun t ht hW => ⟨⟨((n0_size + 1) + 1), (), rfl, ⟨(by show (((n0_size + 1) + 1) : Int32).toInt = (n0_size : Int32).toInt + (4 : Int); have := kk_add2 (x := n0_size) (y := 1) (a := n0_size.toInt) (b := 1) rfl rfl (by omega) (by omega); have := kk_add2 (x := (n0_size + 1)) (y := 1) (a := (n0_size + 1).toInt) (b := 1) rfl rfl (by omega) (by omega); have := kk_add2 (x := ((n0_size + 1) + 1)) (y := 1) (a := ((n0_size + 1) + 1).toInt) (b := 1) rfl rfl (by omega) (by omega); omega), (by show 4 ≤ (((n0_size + 1) + 1) : Int32).toInt ∧ (((n0_size + 1) + 1) : Int32).toInt ≤ 120; first | with_reducible assumption | (constructor <;> (have := kk_add2 (x := n0_size) (y := 1) (a := n0_size.toInt) (b := 1) rfl rfl (by omega) (by omega); have := kk_add2 (x := (n0_size + 1)) (y := 1) (a := (n0_size + 1).toInt) (b := 1) rfl rfl (by omega) (by omega); have := kk_add2 (x := ((n0_size + 1) + 1)) (y := 1) (a := ((n0_size + 1) + 1).toInt) (b := 1) rfl rfl (by omega) (by omega); omega)))⟩, ((n0_size + 1) + 1), (upd (upd f1 (n0_size : Int32).toNatClampNeg (kk_by p1 0)) ((n0_size + 1) : Int32).toNatClampNeg (kk_by p1 8)), (by show 4 ≤ (((n0_size + 1) + 1) : Int32).toInt ∧ (((n0_size + 1) + 1) : Int32).toInt ≤ 120; first | with_reducible assumption | (constructor <;> (have := kk_add2 (x := n0_size) (y := 1) (a := n0_size.toInt) (b := 1) rfl rfl (by omega) (by omega); have := kk_add2 (x := (n0_size + 1)) (y := 1) (a := (n0_size + 1).toInt) (b := 1) rfl rfl (by omega) (by omega); omega))), b_8, (by show (((n0_size + 1) + 1) : Int32).toInt = (n0_size : Int32).toInt + (4 : Int); first | with_reducible assumption | (have := kk_add2 (x := n0_size) (y := 1) (a := n0_size.toInt) (b := 1) rfl rfl (by omega) (by omega); have := kk_add2 (x := (n0_size + 1)) (y := 1) (a := (n0_size + 1).toInt) (b := 1) rfl rfl (by omega) (by omega); omega)), ⟨fun hh => by first | exact rfl | (exfalso; have := kk_add2 (x := n0_size) (y := 1) (a := n0_size.toInt) (b := 1) rfl rfl (by omega) (by omega); have := kk_add2 (x := (n0_size + 1)) (y := 1) (a := (n0_size + 1).toInt) (b := 1) rfl rfl (by omega) (by omega); have := kk_add2 (x := ((n0_size + 1) + 1)) (y := 1) (a := ((n0_size + 1) + 1).toInt) (b := 1) rfl rfl (by omega) (by omega); omega), fun hh => by first | exact trivial | (exfalso; have := kk_add2 (x := n0_size) (y := 1) (a := n0_size.toInt) (b := 1) rfl rfl (by omega) (by omega); have := kk_add2 (x := (n0_size + 1)) (y := 1) (a := (n0_size + 1).toInt) (b := 1) rfl rfl (by omega) (by omega); have := kk_add2 (x := ((n0_size + 1) + 1)) (y := 1) (a := ((n0_size + 1) + 1).toInt) (b := 1) rfl rfl (by omega) (by omega); omega)⟩, by rw [ht]; exact hP9, va_K.moved hW.alike hK9, hD9⟩, hS.F ht⟩) hS.2.2 dX10_take_52
      · have t_9 : ((n0_size + 1) + 1).toInt < 120 := kk_nle c_9
        refine lv_aload_n hx hb dX10_take_16 rfl (lv_at hl 1 rfl) ?_
        refine va_get (D := (dC, dI)) (ci := 10) (v := .ref h1) (C := RX10) (T := TX10) (N := 4) hx hb hts (fun _ h => List.mem_cons_of_mem _ (List.mem_append_right _ h)) hown hK hP 0 rfl rfl 0 (by decide) (hts (.fieldLink RX10 9 "KinkStreet$Tape" "bytes" "[I") (List.mem_of_getElem? (i := 2) rfl)) (fun _ h9 => h9) rfl dX10_take_17 ?_
        refine lv_aload_n hx hb dX10_take_20 rfl (lv_at hl 1 rfl) ?_
        refine lv_dup hx hb dX10_take_21 rfl ?_
        refine va_get (D := (dC, dI)) (ci := 10) (v := .int ((n0_size + 1) + 1)) (C := RX10) (T := TX10) (N := 4) hx hb hts (fun _ h => List.mem_cons_of_mem _ (List.mem_append_right _ h)) hown hK hP 0 rfl rfl 1 (by decide) (hts (.fieldLink RX10 13 "KinkStreet$Tape" "size" "I") (List.mem_of_getElem? (i := 1) rfl)) (fun _ h9 => h9) rfl dX10_take_22 ?_
        refine lv_dup_x1 hx hb dX10_take_25 rfl rfl ?_
        refine lv_iconst (v := 1) hx hb dX10_take_26 (by decide) ?_
        refine lv_iadd hx hb dX10_take_27 ?_
        refine va_put (D := (dC, dI)) (ci := 10) (v := .int (((n0_size + 1) + 1) + 1)) (ty := .int) (C := RX10) (T := TX10) (N := 4) hx hb hts (fun _ h => List.mem_cons_of_mem _ (List.mem_append_right _ h)) tyX10 tyX10_ok nmX10 hown hK hP hD hS 0 rfl rfl 1 (by decide) (hts (.fieldLink RX10 13 "KinkStreet$Tape" "size" "I") (List.mem_of_getElem? (i := 1) rfl)) (fun _ h9 => h9) rfl (by decide +kernel) rfl rfl (Nat.le_of_ble_eq_true rfl) dX10_take_28 (fun H locs hP hD hS => ?_)
        have hP : va_P (dC, dI) vwCl [(h0, Sum.inr (10, [Value.ref h1, Value.int (((n0_size + 1) + 1) + 1), Value.int n0_place, va_rf o0_law])), (h1, Sum.inl (cint, 120, Sum.inl (upd (upd f1 (n0_size : Int32).toNatClampNeg (kk_by p1 0)) ((n0_size + 1) : Int32).toNatClampNeg (kk_by p1 8))))] H := hP
        have hD : va_D A [(h0, Sum.inr (10, [Value.ref h1, Value.int (((n0_size + 1) + 1) + 1), Value.int n0_place, va_rf o0_law])), (h1, Sum.inl (cint, 120, Sum.inl (upd (upd f1 (n0_size : Int32).toNatClampNeg (kk_by p1 0)) ((n0_size + 1) : Int32).toNatClampNeg (kk_by p1 8))))] := hD
        refine lv_iload_n hx hb dX10_take_31 rfl (lv_at hl 3 rfl) ?_
        refine lv_bipush (v := 8) hx hb dX10_take_32 (by decide) ?_
        refine lv_iload_n hx hb dX10_take_34 rfl (lv_at hl 0 rfl) ?_
        refine lv_imul hx hb dX10_take_35 ?_
        refine lv_topi (fun y_10 e_10 => ?_)
        obtain rfl : y_10 = 16 := e_10.trans (by decide)
        refine lv_iushr hx hb dX10_take_36 rfl ?_
        refine lv_sipush (v := 255) hx hb dX10_take_37 (by decide) ?_
        refine lv_iand hx hb dX10_take_40 ?_
        refine lv_topi (fun y_11 e_11 => ?_)
        obtain rfl : y_11 = (kk_by p1 16) := e_11.trans rfl
        have t_11 : 0 ≤ (kk_by p1 16).toInt ∧ (kk_by p1 16).toInt ≤ 255 := kk_by_b _ _
        refine va_iast hx hb hK hP hD hS 1 0 rfl rfl (vp_in_iff.mpr ⟨by have := kk_add2 (x := n0_size) (y := 1) (a := n0_size.toInt) (b := 1) rfl rfl (by omega) (by omega); have := kk_add2 (x := (n0_size + 1)) (y := 1) (a := (n0_size + 1).toInt) (b := 1) rfl rfl (by omega) (by omega); have := kk_add2 (x := ((n0_size + 1) + 1)) (y := 1) (a := ((n0_size + 1) + 1).toInt) (b := 1) rfl rfl (by omega) (by omega); omega, by have := kk_add2 (x := n0_size) (y := 1) (a := n0_size.toInt) (b := 1) rfl rfl (by omega) (by omega); have := kk_add2 (x := (n0_size + 1)) (y := 1) (a := (n0_size + 1).toInt) (b := 1) rfl rfl (by omega) (by omega); have := kk_add2 (x := ((n0_size + 1) + 1)) (y := 1) (a := ((n0_size + 1) + 1).toInt) (b := 1) rfl rfl (by omega) (by omega); omega⟩) dX10_take_41 (fun H locs hP hD hS => ?_)
        have w_12 : ((upd (upd (upd f1 (n0_size : Int32).toNatClampNeg (kk_by p1 0)) ((n0_size + 1) : Int32).toNatClampNeg (kk_by p1 8)) (((n0_size + 1) + 1) : Int32).toNatClampNeg (kk_by p1 16)) (((n0_size + 1) + 1) : Int32).toNatClampNeg).toInt = ((kk_by p1 16) : Int32).toInt := by rw [kk_ups]
        have b_12 := kk_upb (k := (((n0_size + 1) + 1) : Int32).toNatClampNeg) b_8 (show 0 ≤ ((kk_by p1 16) : Int32).toInt ∧ ((kk_by p1 16) : Int32).toInt ≤ 255 from by first | with_reducible assumption | decide | (constructor <;> (have := kk_add2 (x := n0_size) (y := 1) (a := n0_size.toInt) (b := 1) rfl rfl (by omega) (by omega); have := kk_add2 (x := (n0_size + 1)) (y := 1) (a := (n0_size + 1).toInt) (b := 1) rfl rfl (by omega) (by omega); have := kk_add2 (x := ((n0_size + 1) + 1)) (y := 1) (a := ((n0_size + 1) + 1).toInt) (b := 1) rfl rfl (by omega) (by omega); omega)))
        have hP : va_P (dC, dI) vwCl [(h0, Sum.inr (10, [Value.ref h1, Value.int (((n0_size + 1) + 1) + 1), Value.int n0_place, va_rf o0_law])), (h1, Sum.inl (cint, 120, Sum.inl (upd (upd (upd f1 (n0_size : Int32).toNatClampNeg (kk_by p1 0)) ((n0_size + 1) : Int32).toNatClampNeg (kk_by p1 8)) (((n0_size + 1) + 1) : Int32).toNatClampNeg (kk_by p1 16))))] H := hP
        have hD : va_D A [(h0, Sum.inr (10, [Value.ref h1, Value.int (((n0_size + 1) + 1) + 1), Value.int n0_place, va_rf o0_law])), (h1, Sum.inl (cint, 120, Sum.inl (upd (upd (upd f1 (n0_size : Int32).toNatClampNeg (kk_by p1 0)) ((n0_size + 1) : Int32).toNatClampNeg (kk_by p1 8)) (((n0_size + 1) + 1) : Int32).toNatClampNeg (kk_by p1 16))))] := hD
        refine lv_iinc (v := 3) (lv' := [(3, .int 3), (0, .ref h0), (1, .int 4), (2, .int p1)]) hx hb dX10_take_42 hl (k := 0) rfl (by first | rfl | decide) (by decide) rfl (fun ls hl => ?_)
        refine lv_goto (tgt := 2) hx hb dX10_take_45 (by decide) ?_
        refine lv_iload_n hx hb dX10_take_2 rfl (lv_at hl 0 rfl) ?_
        refine lv_iload_n hx hb dX10_take_3 rfl (lv_at hl 2 rfl) ?_
        refine lv_icmp_ge (tgt := 48) hx hb dX10_take_4 (by decide) (fun c => absurd c (by decide)) (fun _ => ?_)
        refine lv_aload_n hx hb dX10_take_7 rfl (lv_at hl 1 rfl) ?_
        refine va_get (D := (dC, dI)) (ci := 10) (v := .int (((n0_size + 1) + 1) + 1)) (C := RX10) (T := TX10) (N := 4) hx hb hts (fun _ h => List.mem_cons_of_mem _ (List.mem_append_right _ h)) hown hK hP 0 rfl rfl 1 (by decide) (hts (.fieldLink RX10 13 "KinkStreet$Tape" "size" "I") (List.mem_of_getElem? (i := 1) rfl)) (fun _ h9 => h9) rfl dX10_take_8 ?_
        refine lv_bipush (v := 120) hx hb dX10_take_11 (by decide) ?_
        refine lv_icmp_ge (tgt := 48) hx hb dX10_take_13 (by decide) (fun c_13 => ?_) (fun c_13 => ?_)
        · have t_13 : 120 ≤ (((n0_size + 1) + 1) + 1).toInt := kk_le c_13
          refine lv_aload_n hx hb dX10_take_48 rfl (lv_at hl 1 rfl) ?_
          refine va_get (D := (dC, dI)) (ci := 10) (v := .int (((n0_size + 1) + 1) + 1)) (C := RX10) (T := TX10) (N := 4) hx hb hts (fun _ h => List.mem_cons_of_mem _ (List.mem_append_right _ h)) hown hK hP 0 rfl rfl 1 (by decide) (hts (.fieldLink RX10 13 "KinkStreet$Tape" "size" "I") (List.mem_of_getElem? (i := 1) rfl)) (fun _ h9 => h9) rfl dX10_take_49 ?_
          obtain ⟨hP9, hD9⟩ := kk_leafout (wc := [(h0, Sum.inr (10, [Value.ref h1, Value.int (((n0_size + 1) + 1) + 1), Value.int n0_place, va_rf o0_law])), (h1, Sum.inl (cint, 120, Sum.inl (upd (upd (upd f1 (n0_size : Int32).toNatClampNeg (kk_by p1 0)) ((n0_size + 1) : Int32).toNatClampNeg (kk_by p1 8)) (((n0_size + 1) + 1) : Int32).toNatClampNeg (kk_by p1 16))))]) hP hD [0, 1] (by decide) rfl
          have hK9 := hK.sub (tys' := []) [] rfl
          exact W.iret (v := (((n0_size + 1) + 1) + 1)) hx hb hr (fun t ht hW => ⟨⟨(((n0_size + 1) + 1) + 1), (), rfl, ⟨(by show ((((n0_size + 1) + 1) + 1) : Int32).toInt = (n0_size : Int32).toInt + (4 : Int); have := kk_add2 (x := n0_size) (y := 1) (a := n0_size.toInt) (b := 1) rfl rfl (by omega) (by omega); have := kk_add2 (x := (n0_size + 1)) (y := 1) (a := (n0_size + 1).toInt) (b := 1) rfl rfl (by omega) (by omega); have := kk_add2 (x := ((n0_size + 1) + 1)) (y := 1) (a := ((n0_size + 1) + 1).toInt) (b := 1) rfl rfl (by omega) (by omega); omega), (by show 4 ≤ ((((n0_size + 1) + 1) + 1) : Int32).toInt ∧ ((((n0_size + 1) + 1) + 1) : Int32).toInt ≤ 120; first | with_reducible assumption | decide | (constructor <;> (have := kk_add2 (x := n0_size) (y := 1) (a := n0_size.toInt) (b := 1) rfl rfl (by omega) (by omega); have := kk_add2 (x := (n0_size + 1)) (y := 1) (a := (n0_size + 1).toInt) (b := 1) rfl rfl (by omega) (by omega); have := kk_add2 (x := ((n0_size + 1) + 1)) (y := 1) (a := ((n0_size + 1) + 1).toInt) (b := 1) rfl rfl (by omega) (by omega); omega)))⟩, (((n0_size + 1) + 1) + 1), (upd (upd (upd f1 (n0_size : Int32).toNatClampNeg (kk_by p1 0)) ((n0_size + 1) : Int32).toNatClampNeg (kk_by p1 8)) (((n0_size + 1) + 1) : Int32).toNatClampNeg (kk_by p1 16)), (by show 4 ≤ ((((n0_size + 1) + 1) + 1) : Int32).toInt ∧ ((((n0_size + 1) + 1) + 1) : Int32).toInt ≤ 120; first | with_reducible assumption | decide | (constructor <;> (have := kk_add2 (x := n0_size) (y := 1) (a := n0_size.toInt) (b := 1) rfl rfl (by omega) (by omega); have := kk_add2 (x := (n0_size + 1)) (y := 1) (a := (n0_size + 1).toInt) (b := 1) rfl rfl (by omega) (by omega); have := kk_add2 (x := ((n0_size + 1) + 1)) (y := 1) (a := ((n0_size + 1) + 1).toInt) (b := 1) rfl rfl (by omega) (by omega); omega))), b_12, (by show ((((n0_size + 1) + 1) + 1) : Int32).toInt = (n0_size : Int32).toInt + (4 : Int); first | with_reducible assumption | (have := kk_add2 (x := n0_size) (y := 1) (a := n0_size.toInt) (b := 1) rfl rfl (by omega) (by omega); have := kk_add2 (x := (n0_size + 1)) (y := 1) (a := (n0_size + 1).toInt) (b := 1) rfl rfl (by omega) (by omega); have := kk_add2 (x := ((n0_size + 1) + 1)) (y := 1) (a := ((n0_size + 1) + 1).toInt) (b := 1) rfl rfl (by omega) (by omega); omega)), ⟨fun hh => by first | exact rfl | (exfalso; have := kk_add2 (x := n0_size) (y := 1) (a := n0_size.toInt) (b := 1) rfl rfl (by omega) (by omega); have := kk_add2 (x := (n0_size + 1)) (y := 1) (a := (n0_size + 1).toInt) (b := 1) rfl rfl (by omega) (by omega); have := kk_add2 (x := ((n0_size + 1) + 1)) (y := 1) (a := ((n0_size + 1) + 1).toInt) (b := 1) rfl rfl (by omega) (by omega); omega), fun hh => by first | exact trivial | (exfalso; have := kk_add2 (x := n0_size) (y := 1) (a := n0_size.toInt) (b := 1) rfl rfl (by omega) (by omega); have := kk_add2 (x := (n0_size + 1)) (y := 1) (a := (n0_size + 1).toInt) (b := 1) rfl rfl (by omega) (by omega); have := kk_add2 (x := ((n0_size + 1) + 1)) (y := 1) (a := ((n0_size + 1) + 1).toInt) (b := 1) rfl rfl (by omega) (by omega); omega)⟩, by rw [ht]; exact hP9, va_K.moved hW.alike hK9, hD9⟩, hS.F ht⟩) hS.2.2 dX10_take_52
        · have t_13 : (((n0_size + 1) + 1) + 1).toInt < 120 := kk_nle c_13
          refine lv_aload_n hx hb dX10_take_16 rfl (lv_at hl 1 rfl) ?_
          refine va_get (D := (dC, dI)) (ci := 10) (v := .ref h1) (C := RX10) (T := TX10) (N := 4) hx hb hts (fun _ h => List.mem_cons_of_mem _ (List.mem_append_right _ h)) hown hK hP 0 rfl rfl 0 (by decide) (hts (.fieldLink RX10 9 "KinkStreet$Tape" "bytes" "[I") (List.mem_of_getElem? (i := 2) rfl)) (fun _ h9 => h9) rfl dX10_take_17 ?_
          refine lv_aload_n hx hb dX10_take_20 rfl (lv_at hl 1 rfl) ?_
          refine lv_dup hx hb dX10_take_21 rfl ?_
          refine va_get (D := (dC, dI)) (ci := 10) (v := .int (((n0_size + 1) + 1) + 1)) (C := RX10) (T := TX10) (N := 4) hx hb hts (fun _ h => List.mem_cons_of_mem _ (List.mem_append_right _ h)) hown hK hP 0 rfl rfl 1 (by decide) (hts (.fieldLink RX10 13 "KinkStreet$Tape" "size" "I") (List.mem_of_getElem? (i := 1) rfl)) (fun _ h9 => h9) rfl dX10_take_22 ?_
          refine lv_dup_x1 hx hb dX10_take_25 rfl rfl ?_
          refine lv_iconst (v := 1) hx hb dX10_take_26 (by decide) ?_
          refine lv_iadd hx hb dX10_take_27 ?_
          refine va_put (D := (dC, dI)) (ci := 10) (v := .int ((((n0_size + 1) + 1) + 1) + 1)) (ty := .int) (C := RX10) (T := TX10) (N := 4) hx hb hts (fun _ h => List.mem_cons_of_mem _ (List.mem_append_right _ h)) tyX10 tyX10_ok nmX10 hown hK hP hD hS 0 rfl rfl 1 (by decide) (hts (.fieldLink RX10 13 "KinkStreet$Tape" "size" "I") (List.mem_of_getElem? (i := 1) rfl)) (fun _ h9 => h9) rfl (by decide +kernel) rfl rfl (Nat.le_of_ble_eq_true rfl) dX10_take_28 (fun H locs hP hD hS => ?_)
          have hP : va_P (dC, dI) vwCl [(h0, Sum.inr (10, [Value.ref h1, Value.int ((((n0_size + 1) + 1) + 1) + 1), Value.int n0_place, va_rf o0_law])), (h1, Sum.inl (cint, 120, Sum.inl (upd (upd (upd f1 (n0_size : Int32).toNatClampNeg (kk_by p1 0)) ((n0_size + 1) : Int32).toNatClampNeg (kk_by p1 8)) (((n0_size + 1) + 1) : Int32).toNatClampNeg (kk_by p1 16))))] H := hP
          have hD : va_D A [(h0, Sum.inr (10, [Value.ref h1, Value.int ((((n0_size + 1) + 1) + 1) + 1), Value.int n0_place, va_rf o0_law])), (h1, Sum.inl (cint, 120, Sum.inl (upd (upd (upd f1 (n0_size : Int32).toNatClampNeg (kk_by p1 0)) ((n0_size + 1) : Int32).toNatClampNeg (kk_by p1 8)) (((n0_size + 1) + 1) : Int32).toNatClampNeg (kk_by p1 16))))] := hD
          refine lv_iload_n hx hb dX10_take_31 rfl (lv_at hl 3 rfl) ?_
          refine lv_bipush (v := 8) hx hb dX10_take_32 (by decide) ?_
          refine lv_iload_n hx hb dX10_take_34 rfl (lv_at hl 0 rfl) ?_
          refine lv_imul hx hb dX10_take_35 ?_
          refine lv_topi (fun y_14 e_14 => ?_)
          obtain rfl : y_14 = 24 := e_14.trans (by decide)
          refine lv_iushr hx hb dX10_take_36 rfl ?_
          refine lv_sipush (v := 255) hx hb dX10_take_37 (by decide) ?_
          refine lv_iand hx hb dX10_take_40 ?_
          refine lv_topi (fun y_15 e_15 => ?_)
          obtain rfl : y_15 = (kk_by p1 24) := e_15.trans rfl
          have t_15 : 0 ≤ (kk_by p1 24).toInt ∧ (kk_by p1 24).toInt ≤ 255 := kk_by_b _ _
          refine va_iast hx hb hK hP hD hS 1 0 rfl rfl (vp_in_iff.mpr ⟨by have := kk_add2 (x := n0_size) (y := 1) (a := n0_size.toInt) (b := 1) rfl rfl (by omega) (by omega); have := kk_add2 (x := (n0_size + 1)) (y := 1) (a := (n0_size + 1).toInt) (b := 1) rfl rfl (by omega) (by omega); have := kk_add2 (x := ((n0_size + 1) + 1)) (y := 1) (a := ((n0_size + 1) + 1).toInt) (b := 1) rfl rfl (by omega) (by omega); have := kk_add2 (x := (((n0_size + 1) + 1) + 1)) (y := 1) (a := (((n0_size + 1) + 1) + 1).toInt) (b := 1) rfl rfl (by omega) (by omega); omega, by have := kk_add2 (x := n0_size) (y := 1) (a := n0_size.toInt) (b := 1) rfl rfl (by omega) (by omega); have := kk_add2 (x := (n0_size + 1)) (y := 1) (a := (n0_size + 1).toInt) (b := 1) rfl rfl (by omega) (by omega); have := kk_add2 (x := ((n0_size + 1) + 1)) (y := 1) (a := ((n0_size + 1) + 1).toInt) (b := 1) rfl rfl (by omega) (by omega); have := kk_add2 (x := (((n0_size + 1) + 1) + 1)) (y := 1) (a := (((n0_size + 1) + 1) + 1).toInt) (b := 1) rfl rfl (by omega) (by omega); omega⟩) dX10_take_41 (fun H locs hP hD hS => ?_)
          have w_16 : ((upd (upd (upd (upd f1 (n0_size : Int32).toNatClampNeg (kk_by p1 0)) ((n0_size + 1) : Int32).toNatClampNeg (kk_by p1 8)) (((n0_size + 1) + 1) : Int32).toNatClampNeg (kk_by p1 16)) ((((n0_size + 1) + 1) + 1) : Int32).toNatClampNeg (kk_by p1 24)) ((((n0_size + 1) + 1) + 1) : Int32).toNatClampNeg).toInt = ((kk_by p1 24) : Int32).toInt := by rw [kk_ups]
          have b_16 := kk_upb (k := ((((n0_size + 1) + 1) + 1) : Int32).toNatClampNeg) b_12 (show 0 ≤ ((kk_by p1 24) : Int32).toInt ∧ ((kk_by p1 24) : Int32).toInt ≤ 255 from by first | with_reducible assumption | decide | (constructor <;> (have := kk_add2 (x := n0_size) (y := 1) (a := n0_size.toInt) (b := 1) rfl rfl (by omega) (by omega); have := kk_add2 (x := (n0_size + 1)) (y := 1) (a := (n0_size + 1).toInt) (b := 1) rfl rfl (by omega) (by omega); have := kk_add2 (x := ((n0_size + 1) + 1)) (y := 1) (a := ((n0_size + 1) + 1).toInt) (b := 1) rfl rfl (by omega) (by omega); have := kk_add2 (x := (((n0_size + 1) + 1) + 1)) (y := 1) (a := (((n0_size + 1) + 1) + 1).toInt) (b := 1) rfl rfl (by omega) (by omega); omega)))
          have hP : va_P (dC, dI) vwCl [(h0, Sum.inr (10, [Value.ref h1, Value.int ((((n0_size + 1) + 1) + 1) + 1), Value.int n0_place, va_rf o0_law])), (h1, Sum.inl (cint, 120, Sum.inl (upd (upd (upd (upd f1 (n0_size : Int32).toNatClampNeg (kk_by p1 0)) ((n0_size + 1) : Int32).toNatClampNeg (kk_by p1 8)) (((n0_size + 1) + 1) : Int32).toNatClampNeg (kk_by p1 16)) ((((n0_size + 1) + 1) + 1) : Int32).toNatClampNeg (kk_by p1 24))))] H := hP
          have hD : va_D A [(h0, Sum.inr (10, [Value.ref h1, Value.int ((((n0_size + 1) + 1) + 1) + 1), Value.int n0_place, va_rf o0_law])), (h1, Sum.inl (cint, 120, Sum.inl (upd (upd (upd (upd f1 (n0_size : Int32).toNatClampNeg (kk_by p1 0)) ((n0_size + 1) : Int32).toNatClampNeg (kk_by p1 8)) (((n0_size + 1) + 1) : Int32).toNatClampNeg (kk_by p1 16)) ((((n0_size + 1) + 1) + 1) : Int32).toNatClampNeg (kk_by p1 24))))] := hD
          refine lv_iinc (v := 4) (lv' := [(3, .int 4), (0, .ref h0), (1, .int 4), (2, .int p1)]) hx hb dX10_take_42 hl (k := 0) rfl (by first | rfl | decide) (by decide) rfl (fun ls hl => ?_)
          refine lv_goto (tgt := 2) hx hb dX10_take_45 (by decide) ?_
          refine lv_iload_n hx hb dX10_take_2 rfl (lv_at hl 0 rfl) ?_
          refine lv_iload_n hx hb dX10_take_3 rfl (lv_at hl 2 rfl) ?_
          refine lv_icmp_ge (tgt := 48) hx hb dX10_take_4 (by decide) (fun _ => ?_) (fun c => absurd c (by decide))
          refine lv_aload_n hx hb dX10_take_48 rfl (lv_at hl 1 rfl) ?_
          refine va_get (D := (dC, dI)) (ci := 10) (v := .int ((((n0_size + 1) + 1) + 1) + 1)) (C := RX10) (T := TX10) (N := 4) hx hb hts (fun _ h => List.mem_cons_of_mem _ (List.mem_append_right _ h)) hown hK hP 0 rfl rfl 1 (by decide) (hts (.fieldLink RX10 13 "KinkStreet$Tape" "size" "I") (List.mem_of_getElem? (i := 1) rfl)) (fun _ h9 => h9) rfl dX10_take_49 ?_
          obtain ⟨hP9, hD9⟩ := kk_leafout (wc := [(h0, Sum.inr (10, [Value.ref h1, Value.int ((((n0_size + 1) + 1) + 1) + 1), Value.int n0_place, va_rf o0_law])), (h1, Sum.inl (cint, 120, Sum.inl (upd (upd (upd (upd f1 (n0_size : Int32).toNatClampNeg (kk_by p1 0)) ((n0_size + 1) : Int32).toNatClampNeg (kk_by p1 8)) (((n0_size + 1) + 1) : Int32).toNatClampNeg (kk_by p1 16)) ((((n0_size + 1) + 1) + 1) : Int32).toNatClampNeg (kk_by p1 24))))]) hP hD [0, 1] (by decide) rfl
          have hK9 := hK.sub (tys' := []) [] rfl
          exact W.iret (v := ((((n0_size + 1) + 1) + 1) + 1)) hx hb hr (fun t ht hW => ⟨⟨((((n0_size + 1) + 1) + 1) + 1), (), rfl, ⟨(by show (((((n0_size + 1) + 1) + 1) + 1) : Int32).toInt = (n0_size : Int32).toInt + (4 : Int); have := kk_add2 (x := n0_size) (y := 1) (a := n0_size.toInt) (b := 1) rfl rfl (by omega) (by omega); have := kk_add2 (x := (n0_size + 1)) (y := 1) (a := (n0_size + 1).toInt) (b := 1) rfl rfl (by omega) (by omega); have := kk_add2 (x := ((n0_size + 1) + 1)) (y := 1) (a := ((n0_size + 1) + 1).toInt) (b := 1) rfl rfl (by omega) (by omega); have := kk_add2 (x := (((n0_size + 1) + 1) + 1)) (y := 1) (a := (((n0_size + 1) + 1) + 1).toInt) (b := 1) rfl rfl (by omega) (by omega); omega), (by show 4 ≤ (((((n0_size + 1) + 1) + 1) + 1) : Int32).toInt ∧ (((((n0_size + 1) + 1) + 1) + 1) : Int32).toInt ≤ 120; first | with_reducible assumption | decide | (constructor <;> (have := kk_add2 (x := n0_size) (y := 1) (a := n0_size.toInt) (b := 1) rfl rfl (by omega) (by omega); have := kk_add2 (x := (n0_size + 1)) (y := 1) (a := (n0_size + 1).toInt) (b := 1) rfl rfl (by omega) (by omega); have := kk_add2 (x := ((n0_size + 1) + 1)) (y := 1) (a := ((n0_size + 1) + 1).toInt) (b := 1) rfl rfl (by omega) (by omega); have := kk_add2 (x := (((n0_size + 1) + 1) + 1)) (y := 1) (a := (((n0_size + 1) + 1) + 1).toInt) (b := 1) rfl rfl (by omega) (by omega); omega)))⟩, ((((n0_size + 1) + 1) + 1) + 1), (upd (upd (upd (upd f1 (n0_size : Int32).toNatClampNeg (kk_by p1 0)) ((n0_size + 1) : Int32).toNatClampNeg (kk_by p1 8)) (((n0_size + 1) + 1) : Int32).toNatClampNeg (kk_by p1 16)) ((((n0_size + 1) + 1) + 1) : Int32).toNatClampNeg (kk_by p1 24)), (by show 4 ≤ (((((n0_size + 1) + 1) + 1) + 1) : Int32).toInt ∧ (((((n0_size + 1) + 1) + 1) + 1) : Int32).toInt ≤ 120; first | with_reducible assumption | decide | (constructor <;> (have := kk_add2 (x := n0_size) (y := 1) (a := n0_size.toInt) (b := 1) rfl rfl (by omega) (by omega); have := kk_add2 (x := (n0_size + 1)) (y := 1) (a := (n0_size + 1).toInt) (b := 1) rfl rfl (by omega) (by omega); have := kk_add2 (x := ((n0_size + 1) + 1)) (y := 1) (a := ((n0_size + 1) + 1).toInt) (b := 1) rfl rfl (by omega) (by omega); have := kk_add2 (x := (((n0_size + 1) + 1) + 1)) (y := 1) (a := (((n0_size + 1) + 1) + 1).toInt) (b := 1) rfl rfl (by omega) (by omega); omega))), b_16, (by show (((((n0_size + 1) + 1) + 1) + 1) : Int32).toInt = (n0_size : Int32).toInt + (4 : Int); first | with_reducible assumption | (have := kk_add2 (x := n0_size) (y := 1) (a := n0_size.toInt) (b := 1) rfl rfl (by omega) (by omega); have := kk_add2 (x := (n0_size + 1)) (y := 1) (a := (n0_size + 1).toInt) (b := 1) rfl rfl (by omega) (by omega); have := kk_add2 (x := ((n0_size + 1) + 1)) (y := 1) (a := ((n0_size + 1) + 1).toInt) (b := 1) rfl rfl (by omega) (by omega); have := kk_add2 (x := (((n0_size + 1) + 1) + 1)) (y := 1) (a := (((n0_size + 1) + 1) + 1).toInt) (b := 1) rfl rfl (by omega) (by omega); omega)), ⟨fun hh => by first | exact rfl | (exfalso; have := kk_add2 (x := n0_size) (y := 1) (a := n0_size.toInt) (b := 1) rfl rfl (by omega) (by omega); have := kk_add2 (x := (n0_size + 1)) (y := 1) (a := (n0_size + 1).toInt) (b := 1) rfl rfl (by omega) (by omega); have := kk_add2 (x := ((n0_size + 1) + 1)) (y := 1) (a := ((n0_size + 1) + 1).toInt) (b := 1) rfl rfl (by omega) (by omega); have := kk_add2 (x := (((n0_size + 1) + 1) + 1)) (y := 1) (a := (((n0_size + 1) + 1) + 1).toInt) (b := 1) rfl rfl (by omega) (by omega); omega), fun hh => by first | exact trivial | (exfalso; have := kk_add2 (x := n0_size) (y := 1) (a := n0_size.toInt) (b := 1) rfl rfl (by omega) (by omega); have := kk_add2 (x := (n0_size + 1)) (y := 1) (a := (n0_size + 1).toInt) (b := 1) rfl rfl (by omega) (by omega); have := kk_add2 (x := ((n0_size + 1) + 1)) (y := 1) (a := ((n0_size + 1) + 1).toInt) (b := 1) rfl rfl (by omega) (by omega); have := kk_add2 (x := (((n0_size + 1) + 1) + 1)) (y := 1) (a := (((n0_size + 1) + 1) + 1).toInt) (b := 1) rfl rfl (by omega) (by omega); omega)⟩, by rw [ht]; exact hP9, va_K.moved hW.alike hK9, hD9⟩, hS.F ht⟩) hS.2.2 dX10_take_52
