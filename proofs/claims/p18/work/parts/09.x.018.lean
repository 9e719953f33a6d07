set_option maxHeartbeats 4000000 in
set_option maxRecDepth 100000 in
theorem g_X4_nameOf_1 (l : Launch) (dC : Nat → ClassId) (dI : Nat → Nat → Nat) (sz : Nat) (p0 : Int32) (aNAMES : Nat) : Met l yX4_nameOf wsX4_nameOf ({ frames := 0, cells := 0, slots := 0, locals := 0 }) (va_Pc [.int p0] (fun U => U.heap.size = sz ∧ va_P (dC, dI) vwCl [] U.heap ∧ va_K (dC, dI) vwCl [] U ∧ va_D (fun _ => True) [] ∧ va_Z "KinkStreet$Law" "NAMES" "[C" (.ref aNAMES) (va_A [] sz) U U.heap ∧ va_T .char aNAMES 8 tb_NAMES (va_A [] sz) U U.heap)) (va_Qi (fun (r : Int32) (_ : Unit) => ((0 ≤ r.toInt → (p0.toInt = 119 ∨ p0.toInt = 110 ∨ p0.toInt = 100 ∨ p0.toInt = 121 ∨ p0.toInt = 122 ∨ p0.toInt = 102 ∨ p0.toInt = 105 ∨ p0.toInt = 99)) ∧ (r.toInt < 0 → ¬ (p0.toInt = 119 ∨ p0.toInt = 110 ∨ p0.toInt = 100 ∨ p0.toInt = 121 ∨ p0.toInt = 122 ∨ p0.toInt = 102 ∨ p0.toInt = 105 ∨ p0.toInt = 99))) ∧ ((-2) ≤ r.toInt ∧ r.toInt ≤ 7)) (fun (_ : Unit) t => va_P (dC, dI) vwCl [] t.heap ∧ va_K (dC, dI) vwCl [] t ∧ va_D (va_A [] sz) []) (va_A [] sz)) 0 0 (va_A [] sz) := by
  refine Met.ofW (cc := cX4_nameOf) (maxL := 2) (ret := (some .int)) (by decide) rfl ?_
  intro p e s m args below meth c s₁ B hml hv
  obtain ⟨rfl, hsz, hP, hK, hD0, hZNAMES, hTNAMES⟩ := hv
  have hx := B.exec
  have hb := B.bytes
  have hr := B.returns
  have hts := atoms_spec (ws := wsX4_nameOf) B.pre
  have hown : s.vm.findClass RX4 = some m.cls := findClass_of_methodNamed B.named
  have hlocks := B.notSynchronized
  subst hsz
  have hD := hD0.self (sz := s.heap.size)
  generalize hAe : va_A [] s.heap.size = A at hD hZNAMES hTNAMES ⊢
  have hA : ∀ q : Nat, s.heap.size ≤ q → A q := fun q h => by rw [← hAe]; exact Or.inr h
  have hS : va_S A s.heap s.heap [] := va_S.rf
  have hP : va_P (dC, dI) vwCl [] s.heap := hP
  have hl := lv_entry ([.int p0]) (n := 2) (Nat.le_of_ble_eq_true rfl)
  rw [lg_entry_eq]
  generalize (lg_sl ([.int p0]) ++ List.replicate (2 - (lg_sl ([.int p0])).length) Slot.unset).toArray = ls at hl ⊢
  have hl : lv_has ls 2 [(0, .int p0)] := hl
  refine lv_iconst (v := 0) hx hb dX4_nameOf_0 (by decide) ?_
  refine lv_istore_n (lv' := [(1, .int 0), (0, .int p0)]) hx hb dX4_nameOf_1 rfl hl (by decide) rfl (fun ls hl => ?_)
  refine lv_iload_n hx hb dX4_nameOf_2 rfl (lv_at hl 0 rfl) ?_
  refine va_gets hx hb hZNAMES hS hown (hts (.fieldLink RX4 15 "KinkStreet$Law" "NAMES" "[C") (List.mem_of_getElem? (i := 1) rfl)) (fun _ h9 => h9) dX4_nameOf_3 ?_
  refine va_tlen (v := 8) hx hb hTNAMES hS rfl dX4_nameOf_6 ?_
  refine lv_icmp_ge (tgt := 27) hx hb dX4_nameOf_7 (by decide) (fun c => absurd c (by decide)) (fun _ => ?_)
  refine va_gets hx hb hZNAMES hS hown (hts (.fieldLink RX4 15 "KinkStreet$Law" "NAMES" "[C") (List.mem_of_getElem? (i := 1) rfl)) (fun _ h9 => h9) dX4_nameOf_10 ?_
  refine lv_iload_n hx hb dX4_nameOf_13 rfl (lv_at hl 0 rfl) ?_
  refine va_tc (v := .int 119) hx hb hTNAMES hS (by unfold vp_in; decide) rfl dX4_nameOf_14 ?_
  refine lv_iload_n hx hb dX4_nameOf_15 rfl (lv_at hl 1 rfl) ?_
  refine lv_icmp_ne (tgt := 21) hx hb dX4_nameOf_16 (by decide) (fun c_1 => ?_) (fun c_1 => ?_)
  · have t_1 : 119 ≠ p0.toInt := kk_ne c_1
    refine lv_iinc (v := 1) (lv' := [(1, .int 1), (0, .int p0)]) hx hb dX4_nameOf_21 hl (k := 0) rfl (by first | rfl | decide) (by decide) rfl (fun ls hl => ?_)
    refine lv_goto (tgt := 2) hx hb dX4_nameOf_24 (by decide) ?_
    refine lv_iload_n hx hb dX4_nameOf_2 rfl (lv_at hl 0 rfl) ?_
    refine va_gets hx hb hZNAMES hS hown (hts (.fieldLink RX4 15 "KinkStreet$Law" "NAMES" "[C") (List.mem_of_getElem? (i := 1) rfl)) (fun _ h9 => h9) dX4_nameOf_3 ?_
    refine va_tlen (v := 8) hx hb hTNAMES hS rfl dX4_nameOf_6 ?_
    refine lv_icmp_ge (tgt := 27) hx hb dX4_nameOf_7 (by decide) (fun c => absurd c (by decide)) (fun _ => ?_)
    refine va_gets hx hb hZNAMES hS hown (hts (.fieldLink RX4 15 "KinkStreet$Law" "NAMES" "[C") (List.mem_of_getElem? (i := 1) rfl)) (fun _ h9 => h9) dX4_nameOf_10 ?_
    refine lv_iload_n hx hb dX4_nameOf_13 rfl (lv_at hl 0 rfl) ?_
    refine va_tc (v := .int 110) hx hb hTNAMES hS (by unfold vp_in; decide) rfl dX4_nameOf_14 ?_
    refine lv_iload_n hx hb dX4_nameOf_15 rfl (lv_at hl 1 rfl) ?_
    refine lv_icmp_ne (tgt := 21) hx hb dX4_nameOf_16 (by decide) (fun c_2 => ?_) (fun c_2 => ?_)
    · have t_2 : 110 ≠ p0.toInt := kk_ne c_2
      refine lv_iinc (v := 2) (lv' := [(1, .int 2), (0, .int p0)]) hx hb dX4_nameOf_21 hl (k := 0) rfl (by first | rfl | decide) (by decide) rfl (fun ls hl => ?_)
      refine lv_goto (tgt := 2) hx hb dX4_nameOf_24 (by decide) ?_
      refine lv_iload_n hx hb dX4_nameOf_2 rfl (lv_at hl 0 rfl) ?_
      refine va_gets hx hb hZNAMES hS hown (hts (.fieldLink RX4 15 "KinkStreet$Law" "NAMES" "[C") (List.mem_of_getElem? (i := 1) rfl)) (fun _ h9 => h9) dX4_nameOf_3 ?_
      refine va_tlen (v := 8) hx hb hTNAMES hS rfl dX4_nameOf_6 ?_
      refine lv_icmp_ge (tgt := 27) hx hb dX4_nameOf_7 (by decide) (fun c => absurd c (by decide)) (fun _ => ?_)
      refine va_gets hx hb hZNAMES hS hown (hts (.fieldLink RX4 15 "KinkStreet$Law" "NAMES" "[C") (List.mem_of_getElem? (i := 1) rfl)) (fun _ h9 => h9) dX4_nameOf_10 ?_
      refine lv_iload_n hx hb dX4_nameOf_13 rfl (lv_at hl 0 rfl) ?_
      refine va_tc (v := .int 100) hx hb hTNAMES hS (by unfold vp_in; decide) rfl dX4_nameOf_14 ?_
      refine lv_iload_n hx hb dX4_nameOf_15 rfl (lv_at hl 1 rfl) ?_
      refine lv_icmp_ne (tgt := 21) hx hb dX4_nameOf_16 (by decide) (fun c_3 => ?_) (fun c_3 => ?_)
      · have t_3 : 100 ≠ p0.toInt := kk_ne c_3
        refine lv_iinc (v := 3) (lv' := [(1, .int 3), (0, .int p0)]) hx hb dX4_nameOf_21 hl (k := 0) rfl (by first | rfl | decide) (by decide) rfl (fun ls hl => ?_)
        refine lv_goto (tgt := 2) hx hb dX4_nameOf_24 (by decide) ?_
        refine lv_iload_n hx hb dX4_nameOf_2 rfl (lv_at hl 0 rfl) ?_
        refine va_gets hx hb hZNAMES hS hown (hts (.fieldLink RX4 15 "KinkStreet$Law" "NAMES" "[C") (List.mem_of_getElem? (i := 1) rfl)) (fun _ h9 => h9) dX4_nameOf_3 ?_
        refine va_tlen (v := 8) hx hb hTNAMES hS rfl dX4_nameOf_6 ?_
        refine lv_icmp_ge (tgt := 27) hx hb dX4_nameOf_7 (by decide) (fun c => absurd c (by decide)) (fun _ => ?_)
        refine va_gets hx hb hZNAMES hS hown (hts (.fieldLink RX4 15 "KinkStreet$Law" "NAMES" "[C") (List.mem_of_getElem? (i := 1) rfl)) (fun _ h9 => h9) dX4_nameOf_10 ?_
        refine lv_iload_n hx hb dX4_nameOf_13 rfl (lv_at hl 0 rfl) ?_
        refine va_tc (v := .int 121) hx hb hTNAMES hS (by unfold vp_in; decide) rfl dX4_nameOf_14 ?_
        refine lv_iload_n hx hb dX4_nameOf_15 rfl (lv_at hl 1 rfl) ?_
        refine lv_icmp_ne (tgt := 21) hx hb dX4_nameOf_16 (by decide) (fun c_4 => ?_) (fun c_4 => ?_)
        · have t_4 : 121 ≠ p0.toInt := kk_ne c_4
          refine lv_iinc (v := 4) (lv' := [(1, .int 4), (0, .int p0)]) hx hb dX4_nameOf_21 hl (k := 0) rfl (by first | rfl | decide) (by decide) rfl (fun ls hl => ?_)
          refine lv_goto (tgt := 2) hx hb dX4_nameOf_24 (by decide) ?_
          refine lv_iload_n hx hb dX4_nameOf_2 rfl (lv_at hl 0 rfl) ?_
          refine va_gets hx hb hZNAMES hS hown (hts (.fieldLink RX4 15 "KinkStreet$Law" "NAMES" "[C") (List.mem_of_getElem? (i := 1) rfl)) (fun _ h9 => h9) dX4_nameOf_3 ?_
          refine va_tlen (v := 8) hx hb hTNAMES hS rfl dX4_nameOf_6 ?_
          refine lv_icmp_ge (tgt := 27) hx hb dX4_nameOf_7 (by decide) (fun c => absurd c (by decide)) (fun _ => ?_)
          refine va_gets hx hb hZNAMES hS hown (hts (.fieldLink RX4 15 "KinkStreet$Law" "NAMES" "[C") (List.mem_of_getElem? (i := 1) rfl)) (fun _ h9 => h9) dX4_nameOf_10 ?_
          refine lv_iload_n hx hb dX4_nameOf_13 rfl (lv_at hl 0 rfl) ?_
          refine va_tc (v := .int 122) hx hb hTNAMES hS (by unfold vp_in; decide) rfl dX4_nameOf_14 ?_
          refine lv_iload_n hx hb dX4_nameOf_15 rfl (lv_at hl 1 rfl) ?_
          refine lv_icmp_ne (tgt := 21) hx hb dX4_nameOf_16 (by decide) (fun c_5 => ?_) (fun c_5 => ?_)
          · have t_5 : 122 ≠ p0.toInt := kk_ne c_5
            refine lv_iinc (v := 5) (lv' := [(1, .int 5), (0, .int p0)]) hx hb dX4_nameOf_21 hl (k := 0) rfl (by first | rfl | decide) (by decide) rfl (fun ls hl => ?_)
            refine lv_goto (tgt := 2) hx hb dX4_nameOf_24 (by decide) ?_
            refine lv_iload_n hx hb dX4_nameOf_2 rfl (lv_at hl 0 rfl) ?_
            refine va_gets hx hb hZNAMES hS hown (hts (.fieldLink RX4 15 "KinkStreet$Law" "NAMES" "[C") (List.mem_of_getElem? (i := 1) rfl)) (fun _ h9 => h9) dX4_nameOf_3 ?_
            refine va_tlen (v := 8) hx hb hTNAMES hS rfl dX4_nameOf_6 ?_
            refine lv_icmp_ge (tgt := 27) hx hb dX4_nameOf_7 (by decide) (fun c => absurd c (by decide)) (fun _ => ?_)
            refine va_gets hx hb hZNAMES hS hown (hts (.fieldLink RX4 15 "KinkStreet$Law" "NAMES" "[C") (List.mem_of_getElem? (i := 1) rfl)) (fun _ h9 => h9) dX4_nameOf_10 ?_
            refine lv_iload_n hx hb dX4_nameOf_13 rfl (lv_at hl 0 rfl) ?_
            refine va_tc (v := .int 102) hx hb hTNAMES hS (by unfold vp_in; decide) rfl dX4_nameOf_14 ?_
            refine lv_iload_n hx hb dX4_nameOf_15 rfl (lv_at hl 1 rfl) ?_
            refine lv_icmp_ne (tgt := 21) hx hb dX4_nameOf_16 (by decide) (fun c_6 => ?_) (fun c_6 => ?_)
            · have t_6 : 102 ≠ p0.toInt := kk_ne c_6
              refine lv_iinc (v := 6) (lv' := [(1, .int 6), (0, .int p0)]) hx hb dX4_nameOf_21 hl (k := 0) rfl (by first | rfl | decide) (by decide) rfl (fun ls hl => ?_)
              refine lv_goto (tgt := 2) hx hb dX4_nameOf_24 (by decide) ?_
              refine lv_iload_n hx hb dX4_nameOf_2 rfl (lv_at hl 0 rfl) ?_
              refine va_gets hx hb hZNAMES hS hown (hts (.fieldLink RX4 15 "KinkStreet$Law" "NAMES" "[C") (List.mem_of_getElem? (i := 1) rfl)) (fun _ h9 => h9) dX4_nameOf_3 ?_
              refine va_tlen (v := 8) hx hb hTNAMES hS rfl dX4_nameOf_6 ?_
              refine lv_icmp_ge (tgt := 27) hx hb dX4_nameOf_7 (by decide) (fun c => absurd c (by decide)) (fun _ => ?_)
              refine va_gets hx hb hZNAMES hS hown (hts (.fieldLink RX4 15 "KinkStreet$Law" "NAMES" "[C") (List.mem_of_getElem? (i := 1) rfl)) (fun _ h9 => h9) dX4_nameOf_10 ?_
              refine lv_iload_n hx hb dX4_nameOf_13 rfl (lv_at hl 0 rfl) ?_
              refine va_tc (v := .int 105) hx hb hTNAMES hS (by unfold vp_in; decide) rfl dX4_nameOf_14 ?_
              refine lv_iload_n hx hb dX4_nameOf_15 rfl (lv_at hl 1 rfl) ?_
              refine lv_icmp_ne (tgt := 21) hx hb dX4_nameOf_16 (by decide) (fun c_7 => ?_) (fun c_7 => ?_)
              · have t_7 : 105 ≠ p0.toInt := kk_ne c_7
                refine lv_iinc (v := 7) (lv' := [(1, .int 7), (0, .int p0)]) hx hb dX4_nameOf_21 hl (k := 0) rfl (by first | rfl | decide) (by decide) rfl (fun ls hl => ?_)
                refine lv_goto (tgt := 2) hx hb dX4_nameOf_24 (by decide) ?_
                refine lv_iload_n hx hb dX4_nameOf_2 rfl (lv_at hl 0 rfl) ?_
                refine va_gets hx hb hZNAMES hS hown (hts (.fieldLink RX4 15 "KinkStreet$Law" "NAMES" "[C") (List.mem_of_getElem? (i := 1) rfl)) (fun _ h9 => h9) dX4_nameOf_3 ?_
                refine va_tlen (v := 8) hx hb hTNAMES hS rfl dX4_nameOf_6 ?_
                refine lv_icmp_ge (tgt := 27) hx hb dX4_nameOf_7 (by decide) (fun c => absurd c (by decide)) (fun _ => ?_)
                refine va_gets hx hb hZNAMES hS hown (hts (.fieldLink RX4 15 "KinkStreet$Law" "NAMES" "[C") (List.mem_of_getElem? (i := 1) rfl)) (fun _ h9 => h9) dX4_nameOf_10 ?_
                refine lv_iload_n hx hb dX4_nameOf_13 rfl (lv_at hl 0 rfl) ?_
                refine va_tc (v := .int 99) hx hb hTNAMES hS (by unfold vp_in; decide) rfl dX4_nameOf_14 ?_
                refine lv_iload_n hx hb dX4_nameOf_15 rfl (lv_at hl 1 rfl) ?_
                refine lv_icmp_ne (tgt := 21) hx hb dX4_nameOf_16 (by decide) (fun c_8 => ?_) (fun c_8 => ?_)
                · have t_8 : 99 ≠ p0.toInt := kk_ne c_8
                  refine lv_iinc (v := 8) (lv' := [(1, .int 8), (0, .int p0)]) hx hb dX4_nameOf_21 hl (k := 0) rfl (by first | rfl | decide) (by decide) rfl (fun ls hl => ?_)
                  refine lv_goto (tgt := 2) hx hb dX4_nameOf_24 (by decide) ?_
                  refine lv_iload_n hx hb dX4_nameOf_2 rfl (lv_at hl 0 rfl) ?_
                  refine va_gets hx hb hZNAMES hS hown (hts (.fieldLink RX4 15 "KinkStreet$Law" "NAMES" "[C") (List.mem_of_getElem? (i := 1) rfl)) (fun _ h9 => h9) dX4_nameOf_3 ?_
                  refine va_tlen (v := 8) hx hb hTNAMES hS rfl dX4_nameOf_6 ?_
                  refine lv_icmp_ge (tgt := 27) hx hb dX4_nameOf_7 (by decide) (fun _ => ?_) (fun c => absurd c (by decide))
                  refine lv_bipush (v := (-2)) hx hb dX4_nameOf_27 (by decide) ?_
                  obtain ⟨hP9, hD9⟩ := kk_leafout (wc := []) hP hD [] (by decide) rfl
                  have hK9 := hK.sub (tys' := []) [] rfl
                  exact W.iret (v := (-2)) hx hb hr (fun t ht hW => ⟨⟨(-2), (), rfl, ⟨(by show ((0 ≤ ((-2) : Int) → ((p0 : Int32).toInt = 119 ∨ (p0 : Int32).toInt = 110 ∨ (p0 : Int32).toInt = 100 ∨ (p0 : Int32).toInt = 121 ∨ (p0 : Int32).toInt = 122 ∨ (p0 : Int32).toInt = 102 ∨ (p0 : Int32).toInt = 105 ∨ (p0 : Int32).toInt = 99)) ∧ (((-2) : Int) < 0 → ¬ ((p0 : Int32).toInt = 119 ∨ (p0 : Int32).toInt = 110 ∨ (p0 : Int32).toInt = 100 ∨ (p0 : Int32).toInt = 121 ∨ (p0 : Int32).toInt = 122 ∨ (p0 : Int32).toInt = 102 ∨ (p0 : Int32).toInt = 105 ∨ (p0 : Int32).toInt = 99))); omega), (by show (-2) ≤ ((-2) : Int32).toInt ∧ ((-2) : Int32).toInt ≤ 7; first | with_reducible assumption | decide | (constructor <;> (omega)))⟩, by rw [ht]; exact hP9, va_K.moved hW.alike hK9, hD9⟩, hS.F ht⟩) hS.2.2 dX4_nameOf_29
                · have t_8 : 99 = p0.toInt := kk_eq c_8
                  refine lv_iload_n hx hb dX4_nameOf_19 rfl (lv_at hl 0 rfl) ?_
                  obtain ⟨hP9, hD9⟩ := kk_leafout (wc := []) hP hD [] (by decide) rfl
                  have hK9 := hK.sub (tys' := []) [] rfl
                  exact W.iret (v := 7) hx hb hr (fun t ht hW => ⟨⟨7, (), rfl, ⟨(by show ((0 ≤ (7 : Int) → ((p0 : Int32).toInt = 119 ∨ (p0 : Int32).toInt = 110 ∨ (p0 : Int32).toInt = 100 ∨ (p0 : Int32).toInt = 121 ∨ (p0 : Int32).toInt = 122 ∨ (p0 : Int32).toInt = 102 ∨ (p0 : Int32).toInt = 105 ∨ (p0 : Int32).toInt = 99)) ∧ ((7 : Int) < 0 → ¬ ((p0 : Int32).toInt = 119 ∨ (p0 : Int32).toInt = 110 ∨ (p0 : Int32).toInt = 100 ∨ (p0 : Int32).toInt = 121 ∨ (p0 : Int32).toInt = 122 ∨ (p0 : Int32).toInt = 102 ∨ (p0 : Int32).toInt = 105 ∨ (p0 : Int32).toInt = 99))); omega), (by show (-2) ≤ (7 : Int32).toInt ∧ (7 : Int32).toInt ≤ 7; first | with_reducible assumption | decide | (constructor <;> (omega)))⟩, by rw [ht]; exact hP9, va_K.moved hW.alike hK9, hD9⟩, hS.F ht⟩) hS.2.2 dX4_nameOf_20
              · have t_7 : 105 = p0.toInt := kk_eq c_7
                refine lv_iload_n hx hb dX4_nameOf_19 rfl (lv_at hl 0 rfl) ?_
                obtain ⟨hP9, hD9⟩ := kk_leafout (wc := []) hP hD [] (by decide) rfl
                have hK9 := hK.sub (tys' := []) [] rfl
                exact W.iret (v := 6) hx hb hr (fun t ht hW => ⟨⟨6, (), rfl, ⟨(by show ((0 ≤ (6 : Int) → ((p0 : Int32).toInt = 119 ∨ (p0 : Int32).toInt = 110 ∨ (p0 : Int32).toInt = 100 ∨ (p0 : Int32).toInt = 121 ∨ (p0 : Int32).toInt = 122 ∨ (p0 : Int32).toInt = 102 ∨ (p0 : Int32).toInt = 105 ∨ (p0 : Int32).toInt = 99)) ∧ ((6 : Int) < 0 → ¬ ((p0 : Int32).toInt = 119 ∨ (p0 : Int32).toInt = 110 ∨ (p0 : Int32).toInt = 100 ∨ (p0 : Int32).toInt = 121 ∨ (p0 : Int32).toInt = 122 ∨ (p0 : Int32).toInt = 102 ∨ (p0 : Int32).toInt = 105 ∨ (p0 : Int32).toInt = 99))); omega), (by show (-2) ≤ (6 : Int32).toInt ∧ (6 : Int32).toInt ≤ 7; first | with_reducible assumption | decide | (constructor <;> (omega)))⟩, by rw [ht]; exact hP9, va_K.moved hW.alike hK9, hD9⟩, hS.F ht⟩) hS.2.2 dX4_nameOf_20
            · have t_6 : 102 = p0.toInt := kk_eq c_6
              refine lv_iload_n hx hb dX4_nameOf_19 rfl (lv_at hl 0 rfl) ?_
              obtain ⟨hP9, hD9⟩ := kk_leafout (wc := []) hP hD [] (by decide) rfl
              have hK9 := hK.sub (tys' := []) [] rfl
              exact W.iret (v := 5) hx hb hr (fun t ht hW => ⟨⟨5, (), rfl, ⟨(by show ((0 ≤ (5 : Int) → ((p0 : Int32).toInt = 119 ∨ (p0 : Int32).toInt = 110 ∨ (p0 : Int32).toInt = 100 ∨ (p0 : Int32).toInt = 121 ∨ (p0 : Int32).toInt = 122 ∨ (p0 : Int32).toInt = 102 ∨ (p0 : Int32).toInt = 105 ∨ (p0 : Int32).toInt = 99)) ∧ ((5 : Int) < 0 → ¬ ((p0 : Int32).toInt = 119 ∨ (p0 : Int32).toInt = 110 ∨ (p0 : Int32).toInt = 100 ∨ (p0 : Int32).toInt = 121 ∨ (p0 : Int32).toInt = 122 ∨ (p0 : Int32).toInt = 102 ∨ (p0 : Int32).toInt = 105 ∨ (p0 : Int32).toInt = 99))); omega), (by show (-2) ≤ (5 : Int32).toInt ∧ (5 : Int32).toInt ≤ 7; first | with_reducible assumption | decide | (constructor <;> (omega)))⟩, by rw [ht]; exact hP9, va_K.moved hW.alike hK9, hD9⟩, hS.F ht⟩) hS.2.2 dX4_nameOf_20
          · have t_5 : 122 = p0.toInt := kk_eq c_5
            refine lv_iload_n hx hb dX4_nameOf_19 rfl (lv_at hl 0 rfl) ?_
            obtain ⟨hP9, hD9⟩ := kk_leafout (wc := []) hP hD [] (by decide) rfl
            have hK9 := hK.sub (tys' := []) [] rfl
            exact W.iret (v := 4) hx hb hr (fun t ht hW => ⟨⟨4, (), rfl, ⟨(by show ((0 ≤ (4 : Int) → ((p0 : Int32).toInt = 119 ∨ (p0 : Int32).toInt = 110 ∨ (p0 : Int32).toInt = 100 ∨ (p0 : Int32).toInt = 121 ∨ (p0 : Int32).toInt = 122 ∨ (p0 : Int32).toInt = 102 ∨ (p0 : Int32).toInt = 105 ∨ (p0 : Int32).toInt = 99)) ∧ ((4 : Int) < 0 → ¬ ((p0 : Int32).toInt = 119 ∨ (p0 : Int32).toInt = 110 ∨ (p0 : Int32).toInt = 100 ∨ (p0 : Int32).toInt = 121 ∨ (p0 : Int32).toInt = 122 ∨ (p0 : Int32).toInt = 102 ∨ (p0 : Int32).toInt = 105 ∨ (p0 : Int32).toInt = 99))); omega), (by show (-2) ≤ (4 : Int32).toInt ∧ (4 : Int32).toInt ≤ 7; first | with_reducible assumption | decide | (constructor <;> (omega)))⟩, by rw [ht]; exact hP9, va_K.moved hW.alike hK9, hD9⟩, hS.F ht⟩) hS.2.2 dX4_nameOf_20
        · have t_4 : 121 = p0.toInt := kk_eq c_4
          refine lv_iload_n hx hb dX4_nameOf_19 rfl (lv_at hl 0 rfl) ?_
          obtain ⟨hP9, hD9⟩ := kk_leafout (wc := []) hP hD [] (by decide) rfl
          have hK9 := hK.sub (tys' := []) [] rfl
          exact W.iret (v := 3) hx hb hr (fun t ht hW => ⟨⟨3, (), rfl, ⟨(by show ((0 ≤ (3 : Int) → ((p0 : Int32).toInt = 119 ∨ (p0 : Int32).toInt = 110 ∨ (p0 : Int32).toInt = 100 ∨ (p0 : Int32).toInt = 121 ∨ (p0 : Int32).toInt = 122 ∨ (p0 : Int32).toInt = 102 ∨ (p0 : Int32).toInt = 105 ∨ (p0 : Int32).toInt = 99)) ∧ ((3 : Int) < 0 → ¬ ((p0 : Int32).toInt = 119 ∨ (p0 : Int32).toInt = 110 ∨ (p0 : Int32).toInt = 100 ∨ (p0 : Int32).toInt = 121 ∨ (p0 : Int32).toInt = 122 ∨ (p0 : Int32).toInt = 102 ∨ (p0 : Int32).toInt = 105 ∨ (p0 : Int32).toInt = 99))); omega), (by show (-2) ≤ (3 : Int32).toInt ∧ (3 : Int32).toInt ≤ 7; first | with_reducible assumption | decide | (constructor <;> (omega)))⟩, by rw [ht]; exact hP9, va_K.moved hW.alike hK9, hD9⟩, hS.F ht⟩) hS.2.2 dX4_nameOf_20
      · have t_3 : 100 = p0.toInt := kk_eq c_3
        refine lv_iload_n hx hb dX4_nameOf_19 rfl (lv_at hl 0 rfl) ?_
        obtain ⟨hP9, hD9⟩ := kk_leafout (wc := []) hP hD [] (by decide) rfl
        have hK9 := hK.sub (tys' := []) [] rfl
        exact W.iret (v := 2) hx hb hr (fun t ht hW => ⟨⟨2, (), rfl, ⟨(by show ((0 ≤ (2 : Int) → ((p0 : Int32).toInt = 119 ∨ (p0 : Int32).toInt = 110 ∨ (p0 : Int32).toInt = 100 ∨ (p0 : Int32).toInt = 121 ∨ (p0 : Int32).toInt = 122 ∨ (p0 : Int32).toInt = 102 ∨ (p0 : Int32).toInt = 105 ∨ (p0 : Int32).toInt = 99)) ∧ ((2 : Int) < 0 → ¬ ((p0 : Int32).toInt = 119 ∨ (p0 : Int32).toInt = 110 ∨ (p0 : Int32).toInt = 100 ∨ (p0 : Int32).toInt = 121 ∨ (p0 : Int32).toInt = 122 ∨ (p0 : Int32).toInt = 102 ∨ (p0 : Int32).toInt = 105 ∨ (p0 : Int32).toInt = 99))); omega), (by show (-2) ≤ (2 : Int32).toInt ∧ (2 : Int32).toInt ≤ 7; first | with_reducible assumption | decide | (constructor <;> (omega)))⟩, by rw [ht]; exact hP9, va_K.moved hW.alike hK9, hD9⟩, hS.F ht⟩) hS.2.2 dX4_nameOf_20
    · have t_2 : 110 = p0.toInt := kk_eq c_2
      refine lv_iload_n hx hb dX4_nameOf_19 rfl (lv_at hl 0 rfl) ?_
      obtain ⟨hP9, hD9⟩ := kk_leafout (wc := []) hP hD [] (by decide) rfl
      have hK9 := hK.sub (tys' := []) [] rfl
      exact W.iret (v := 1) hx hb hr (fun t ht hW => ⟨⟨1, (), rfl, ⟨(by show ((0 ≤ (1 : Int) → ((p0 : Int32).toInt = 119 ∨ (p0 : Int32).toInt = 110 ∨ (p0 : Int32).toInt = 100 ∨ (p0 : Int32).toInt = 121 ∨ (p0 : Int32).toInt = 122 ∨ (p0 : Int32).toInt = 102 ∨ (p0 : Int32).toInt = 105 ∨ (p0 : Int32).toInt = 99)) ∧ ((1 : Int) < 0 → ¬ ((p0 : Int32).toInt = 119 ∨ (p0 : Int32).toInt = 110 ∨ (p0 : Int32).toInt = 100 ∨ (p0 : Int32).toInt = 121 ∨ (p0 : Int32).toInt = 122 ∨ (p0 : Int32).toInt = 102 ∨ (p0 : Int32).toInt = 105 ∨ (p0 : Int32).toInt = 99))); omega), (by show (-2) ≤ (1 : Int32).toInt ∧ (1 : Int32).toInt ≤ 7; first | with_reducible assumption | decide | (constructor <;> (omega)))⟩, by rw [ht]; exact hP9, va_K.moved hW.alike hK9, hD9⟩, hS.F ht⟩) hS.2.2 dX4_nameOf_20
  · have t_1 : 119 = p0.toInt := kk_eq c_1
    refine lv_iload_n hx hb dX4_nameOf_19 rfl (lv_at hl 0 rfl) ?_
    obtain ⟨hP9, hD9⟩ := kk_leafout (wc := []) hP hD [] (by decide) rfl
    have hK9 := hK.sub (tys' := []) [] rfl
    exact W.iret (v := 0) hx hb hr (fun t ht hW => ⟨⟨0, (), rfl, ⟨(by show ((0 ≤ (0 : Int) → ((p0 : Int32).toInt = 119 ∨ (p0 : Int32).toInt = 110 ∨ (p0 : Int32).toInt = 100 ∨ (p0 : Int32).toInt = 121 ∨ (p0 : Int32).toInt = 122 ∨ (p0 : Int32).toInt = 102 ∨ (p0 : Int32).toInt = 105 ∨ (p0 : Int32).toInt = 99)) ∧ ((0 : Int) < 0 → ¬ ((p0 : Int32).toInt = 119 ∨ (p0 : Int32).toInt = 110 ∨ (p0 : Int32).toInt = 100 ∨ (p0 : Int32).toInt = 121 ∨ (p0 : Int32).toInt = 122 ∨ (p0 : Int32).toInt = 102 ∨ (p0 : Int32).toInt = 105 ∨ (p0 : Int32).toInt = 99))); omega), (by show (-2) ≤ (0 : Int32).toInt ∧ (0 : Int32).toInt ≤ 7; first | with_reducible assumption | decide | (constructor <;> (omega)))⟩, by rw [ht]; exact hP9, va_K.moved hW.alike hK9, hD9⟩, hS.F ht⟩) hS.2.2 dX4_nameOf_20
