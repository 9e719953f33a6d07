set_option maxHeartbeats 4000000 in
set_option maxRecDepth 100000 in
theorem g_X10_next_1 (l : Launch) (dC : Nat → ClassId) (dI : Nat → Nat → Nat) (h0 : Nat) (h1 : Nat) (h2 : Nat) (cint : ClassId) (sz : Nat) (n0_size : Int32) (n0_place : Int32) (f1 : Nat → Int32) (tn0_size : 0 ≤ n0_size.toInt ∧ n0_size.toInt ≤ 120) (tn0_place : 0 ≤ n0_place.toInt ∧ n0_place.toInt ≤ 120) (bf1 : ∀ j, j < 120 → 0 ≤ (f1 j).toInt ∧ (f1 j).toInt ≤ 255) (pr0 : (0 ≤ n0_place.toInt ∧ n0_place.toInt ≤ n0_size.toInt)) : Met l yX10_next wsX10_next ({ frames := 0, cells := 0, slots := 0, locals := 0 }) (va_Pc [.ref h0] (fun U => U.heap.size = sz ∧ va_P (dC, dI) vwCl [(h0, Sum.inr (10, [Value.ref h1, Value.int n0_size, Value.int n0_place, Value.ref h2])), (h1, Sum.inl (cint, 120, Sum.inl f1))] U.heap ∧ va_K (dC, dI) vwCl [(cint, .int)] U ∧ va_D (fun _ => True) [(h0, Sum.inr (10, [Value.ref h1, Value.int n0_size, Value.int n0_place, Value.ref h2])), (h1, Sum.inl (cint, 120, Sum.inl f1))])) (va_Qi (fun (r : Int32) (_ : Unit) => (((n0_place.toInt < n0_size.toInt) → r.toInt = ko_at f1 n0_size.toInt n0_place.toInt) ∧ (n0_size.toInt ≤ n0_place.toInt → r.toInt = -1 ∧ ko_at f1 n0_size.toInt n0_place.toInt = 0)) ∧ ((-1) ≤ r.toInt ∧ r.toInt ≤ 255)) (fun (_ : Unit) t => va_P (dC, dI) vwCl [(h0, Sum.inr (10, [Value.ref h1, Value.int n0_size, Value.int n0_place, Value.ref h2])), (h1, Sum.inl (cint, 120, Sum.inl f1))] t.heap ∧ va_K (dC, dI) vwCl [] t ∧ va_D (va_A [(h0, Sum.inr (10, [Value.ref h1, Value.int n0_size, Value.int n0_place, Value.ref h2])), (h1, Sum.inl (cint, 120, Sum.inl f1))] sz) [(h0, Sum.inr (10, [Value.ref h1, Value.int n0_size, Value.int n0_place, Value.ref h2])), (h1, Sum.inl (cint, 120, Sum.inl f1))]) (va_A [(h0, Sum.inr (10, [Value.ref h1, Value.int n0_size, Value.int n0_place, Value.ref h2])), (h1, Sum.inl (cint, 120, Sum.inl f1))] sz)) 0 0 (va_A [(h0, Sum.inr (10, [Value.ref h1, Value.int n0_size, Value.int n0_place, Value.ref h2])), (h1, Sum.inl (cint, 120, Sum.inl f1))] sz) := by
  refine Met.ofW (cc := cX10_next) (maxL := 1) (ret := (some .int)) (by decide) rfl ?_
  intro p e s m args below meth c s₁ B hml hv
  obtain ⟨rfl, hsz, hP, hK, hD0⟩ := hv
  have hx := B.exec
  have hb := B.bytes
  have hr := B.returns
  have hts := atoms_spec (ws := wsX10_next) B.pre
  have hown : s.vm.findClass RX10 = some m.cls := findClass_of_methodNamed B.named
  have hlocks := B.notSynchronized
  subst hsz
  have hD := hD0.self (sz := s.heap.size)
  generalize hAe : va_A [(h0, Sum.inr (10, [Value.ref h1, Value.int n0_size, Value.int n0_place, Value.ref h2])), (h1, Sum.inl (cint, 120, Sum.inl f1))] s.heap.size = A at hD ⊢
  have hA : ∀ q : Nat, s.heap.size ≤ q → A q := fun q h => by rw [← hAe]; exact Or.inr h
  have hS : va_S A s.heap s.heap [] := va_S.rf
  have hP : va_P (dC, dI) vwCl [(h0, Sum.inr (10, [Value.ref h1, Value.int n0_size, Value.int n0_place, Value.ref h2])), (h1, Sum.inl (cint, 120, Sum.inl f1))] s.heap := hP
  have hl := lv_entry ([.ref h0]) (n := 1) (Nat.le_of_ble_eq_true rfl)
  rw [lg_entry_eq]
  generalize (lg_sl ([.ref h0]) ++ List.replicate (1 - (lg_sl ([.ref h0])).length) Slot.unset).toArray = ls at hl ⊢
  have hl : lv_has ls 1 [(0, .ref h0)] := hl
  refine lv_aload_n hx hb dX10_next_0 rfl (lv_at hl 0 rfl) ?_
  refine va_get (D := (dC, dI)) (ci := 10) (v := .int n0_place) (C := RX10) (T := TX10) (N := 4) hx hb hts (fun _ h => List.mem_cons_of_mem _ (List.mem_append_right _ h)) hown hK hP 0 rfl rfl 2 (by decide) (hts (.fieldLink RX10 17 "KinkStreet$Tape" "place" "I") (List.mem_of_getElem? (i := 1) rfl)) (fun _ h9 => h9) rfl dX10_next_1 ?_
  refine lv_if_lt (tgt := 30) hx hb dX10_next_4 (by decide) (fun c_1 => ?_) (fun c_1 => ?_)
  · have t_1 : n0_place.toInt < 0 := kk_lt c_1
    exfalso; omega
  · have t_1 : 0 ≤ n0_place.toInt := kk_nlt c_1
    refine lv_aload_n hx hb dX10_next_7 rfl (lv_at hl 0 rfl) ?_
    refine va_get (D := (dC, dI)) (ci := 10) (v := .int n0_place) (C := RX10) (T := TX10) (N := 4) hx hb hts (fun _ h => List.mem_cons_of_mem _ (List.mem_append_right _ h)) hown hK hP 0 rfl rfl 2 (by decide) (hts (.fieldLink RX10 17 "KinkStreet$Tape" "place" "I") (List.mem_of_getElem? (i := 1) rfl)) (fun _ h9 => h9) rfl dX10_next_8 ?_
    refine lv_aload_n hx hb dX10_next_11 rfl (lv_at hl 0 rfl) ?_
    refine va_get (D := (dC, dI)) (ci := 10) (v := .int n0_size) (C := RX10) (T := TX10) (N := 4) hx hb hts (fun _ h => List.mem_cons_of_mem _ (List.mem_append_right _ h)) hown hK hP 0 rfl rfl 1 (by decide) (hts (.fieldLink RX10 13 "KinkStreet$Tape" "size" "I") (List.mem_of_getElem? (i := 2) rfl)) (fun _ h9 => h9) rfl dX10_next_12 ?_
    refine lv_icmp_ge (tgt := 30) hx hb dX10_next_15 (by decide) (fun c_2 => ?_) (fun c_2 => ?_)
    · have t_2 : n0_size.toInt ≤ n0_place.toInt := kk_le c_2
      have hk_3 : ko_at f1 n0_size.toInt n0_place.toInt = 0 := ko_at_out (by omega)
      refine lv_iconst (v := (-1)) hx hb dX10_next_30 (by decide) ?_
      obtain ⟨hP9, hD9⟩ := kk_leafout (wc := [(h0, Sum.inr (10, [Value.ref h1, Value.int n0_size, Value.int n0_place, Value.ref h2])), (h1, Sum.inl (cint, 120, Sum.inl f1))]) hP hD [0, 1] (by decide) rfl
      have hK9 := hK.sub (tys' := []) [] rfl
      exact W.iret (v := (-1)) hx hb hr (fun t ht hW => ⟨⟨(-1), (), rfl, ⟨(by show ((((n0_place : Int32).toInt < (n0_size : Int32).toInt) → ((-1) : Int) = ko_at f1 (n0_size : Int32).toInt (n0_place : Int32).toInt) ∧ ((n0_size : Int32).toInt ≤ (n0_place : Int32).toInt → ((-1) : Int) = -1 ∧ ko_at f1 (n0_size : Int32).toInt (n0_place : Int32).toInt = 0)); omega), (by show (-1) ≤ ((-1) : Int32).toInt ∧ ((-1) : Int32).toInt ≤ 255; first | with_reducible assumption | decide | (constructor <;> (omega)))⟩, by rw [ht]; exact hP9, va_K.moved hW.alike hK9, hD9⟩, hS.F ht⟩) hS.2.2 dX10_next_31
    · have t_2 : n0_place.toInt < n0_size.toInt := kk_nle c_2
      have hk_4 : ko_at f1 n0_size.toInt n0_place.toInt = (f1 (n0_place : Int32).toNatClampNeg).toInt := ko_at_in (by omega) (by omega)
      refine lv_aload_n hx hb dX10_next_18 rfl (lv_at hl 0 rfl) ?_
      refine va_get (D := (dC, dI)) (ci := 10) (v := .ref h1) (C := RX10) (T := TX10) (N := 4) hx hb hts (fun _ h => List.mem_cons_of_mem _ (List.mem_append_right _ h)) hown hK hP 0 rfl rfl 0 (by decide) (hts (.fieldLink RX10 9 "KinkStreet$Tape" "bytes" "[I") (List.mem_of_getElem? (i := 3) rfl)) (fun _ h9 => h9) rfl dX10_next_19 ?_
      refine lv_aload_n hx hb dX10_next_22 rfl (lv_at hl 0 rfl) ?_
      refine va_get (D := (dC, dI)) (ci := 10) (v := .int n0_place) (C := RX10) (T := TX10) (N := 4) hx hb hts (fun _ h => List.mem_cons_of_mem _ (List.mem_append_right _ h)) hown hK hP 0 rfl rfl 2 (by decide) (hts (.fieldLink RX10 17 "KinkStreet$Tape" "place" "I") (List.mem_of_getElem? (i := 1) rfl)) (fun _ h9 => h9) rfl dX10_next_23 ?_
      have hi_5 : vp_in n0_place 120 := (vp_in_iff.mpr ⟨by omega, by omega⟩)
      refine va_iald hx hb hK hP 1 0 rfl rfl hi_5 dX10_next_26 ?_
      refine lv_topi (fun y_5 e_5 => ?_)
      obtain rfl : y_5 = (f1 (n0_place : Int32).toNatClampNeg) := e_5
      have t_5 : 0 ≤ (f1 (n0_place : Int32).toNatClampNeg).toInt ∧ (f1 (n0_place : Int32).toNatClampNeg).toInt ≤ 255 := bf1 _ (Nat.not_le.mp fun q => hi_5 (Or.inr q))
      refine lv_goto (tgt := 31) hx hb dX10_next_27 (by decide) ?_
      obtain ⟨hP9, hD9⟩ := kk_leafout (wc := [(h0, Sum.inr (10, [Value.ref h1, Value.int n0_size, Value.int n0_place, Value.ref h2])), (h1, Sum.inl (cint, 120, Sum.inl f1))]) hP hD [0, 1] (by decide) rfl
      have hK9 := hK.sub (tys' := []) [] rfl
      exact W.iret (v := (f1 (n0_place : Int32).toNatClampNeg)) hx hb hr (fun t ht hW => ⟨⟨(f1 (n0_place : Int32).toNatClampNeg), (), rfl, ⟨(by show ((((n0_place : Int32).toInt < (n0_size : Int32).toInt) → ((f1 (n0_place : Int32).toNatClampNeg) : Int32).toInt = ko_at f1 (n0_size : Int32).toInt (n0_place : Int32).toInt) ∧ ((n0_size : Int32).toInt ≤ (n0_place : Int32).toInt → ((f1 (n0_place : Int32).toNatClampNeg) : Int32).toInt = -1 ∧ ko_at f1 (n0_size : Int32).toInt (n0_place : Int32).toInt = 0)); omega), (by show (-1) ≤ ((f1 (n0_place : Int32).toNatClampNeg) : Int32).toInt ∧ ((f1 (n0_place : Int32).toNatClampNeg) : Int32).toInt ≤ 255; first | with_reducible assumption | (constructor <;> (omega)))⟩, by rw [ht]; exact hP9, va_K.moved hW.alike hK9, hD9⟩, hS.F ht⟩) hS.2.2 dX10_next_31
