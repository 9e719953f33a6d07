set_option maxHeartbeats 4000000 in
set_option maxRecDepth 100000 in
theorem g_X10_joins_5 (l : Launch) (dC : Nat → ClassId) (dI : Nat → Nat → Nat) (sz : Nat) (p1 : Int32) : Met l yX10_joins wsX10_joins ({ frames := 0, cells := 0, slots := 0, locals := 0 }) (va_Pc [.int 4, .int p1] (fun U => U.heap.size = sz ∧ va_P (dC, dI) vwCl [] U.heap ∧ va_K (dC, dI) vwCl [] U ∧ va_D (fun _ => True) [])) (va_Qi (fun (r : Int32) (_ : Unit) => (p1.toInt ≠ 42 ∧ p1.toInt ≠ 47 ∧ p1.toInt ≠ 37 ∧ (p1.toInt ≠ 42 ∧ p1.toInt ≠ 47 ∧ p1.toInt ≠ 37) ∧ (0 : Int32) = r) ∨ ((p1.toInt = 42 ∨ p1.toInt = 47 ∨ p1.toInt = 37) ∧ (1 : Int32) = r)) (fun (_ : Unit) t => va_P (dC, dI) vwCl [] t.heap ∧ va_K (dC, dI) vwCl [] t ∧ va_D (va_A [] sz) []) (va_A [] sz)) 0 0 (va_A [] sz) := by
  refine Met.ofW (cc := cX10_joins) (maxL := 2) (ret := (some .boolean)) (by decide) rfl ?_
  intro p e s m args below meth c s₁ B hml hv
  obtain ⟨rfl, hsz, hP, hK, hD0⟩ := hv
  have hx := B.exec
  have hb := B.bytes
  have hr := B.returns
  have hts := atoms_spec (ws := wsX10_joins) B.pre
  have hown : s.vm.findClass RX10 = some m.cls := findClass_of_methodNamed B.named
  have hlocks := B.notSynchronized
  subst hsz
  have hD := hD0.self (sz := s.heap.size)
  generalize hAe : va_A [] s.heap.size = A at hD ⊢
  have hA : ∀ q : Nat, s.heap.size ≤ q → A q := fun q h => by rw [← hAe]; exact Or.inr h
  have hS : va_S A s.heap s.heap [] := va_S.rf
  replace hP : va_P (dC, dI) vwCl [] s.heap := hP
  have hl := lv_entry ([.int 4, .int p1]) (n := 2) (Nat.le_of_ble_eq_true rfl)
  rw [lg_entry_eq]
  generalize (lg_sl ([.int 4, .int p1]) ++ List.replicate (2 - (lg_sl ([.int 4, .int p1])).length) Slot.unset).toArray = ls at hl ⊢
  replace hl : lv_has ls 2 [(0, .int 4), (1, .int p1)] := hl
  refine lv_iload_n hx hb dX10_joins_0 rfl (lv_at hl 0 rfl) ?_
  refine lv_tableOut (tgt := 98) hx hb dX10_joins_1 (by decide) (by decide) ?_
  refine lv_iload_n hx hb dX10_joins_98 rfl (lv_at hl 1 rfl) ?_
  refine lv_bipush (v := 42) hx hb dX10_joins_99 kk_bi_42 ?_
  refine lv_icmp_eq (tgt := 116) hx hb dX10_joins_101 (by decide) (fun c_1 => ?_) (fun c_1 => ?_)
  · have t_1 : p1.toInt = 42 := kk_eq c_1
    refine lv_iconst (v := 1) hx hb dX10_joins_116 kk_ic_1 ?_
    refine lv_goto (tgt := 121) hx hb dX10_joins_117 (by decide) ?_
    obtain ⟨hP9, hD9⟩ := kk_leafout (wc := []) hP hD [] (by decide) rfl
    have hK9 := kk_Ks (tq := []) hK [] rfl
    exact W.zret (v := 1) hx hb hr rfl (fun t ht hW => ⟨⟨1, (), rfl, Or.inr (⟨(by show ((p1 : Int32).toInt = 42 ∨ (p1 : Int32).toInt = 47 ∨ (p1 : Int32).toInt = 37); omega), rfl⟩), by rw [ht]; exact hP9, va_K.moved hW.alike hK9, hD9⟩, hS.F ht⟩) hS.2.2 dX10_joins_121
  · have t_1 : p1.toInt ≠ 42 := kk_ne c_1
    refine lv_iload_n hx hb dX10_joins_104 rfl (lv_at hl 1 rfl) ?_
    refine lv_bipush (v := 47) hx hb dX10_joins_105 kk_bi_47 ?_
    refine lv_icmp_eq (tgt := 116) hx hb dX10_joins_107 (by decide) (fun c_2 => ?_) (fun c_2 => ?_)
    · have t_2 : p1.toInt = 47 := kk_eq c_2
      refine lv_iconst (v := 1) hx hb dX10_joins_116 kk_ic_1 ?_
      refine lv_goto (tgt := 121) hx hb dX10_joins_117 (by decide) ?_
      obtain ⟨hP9, hD9⟩ := kk_leafout (wc := []) hP hD [] (by decide) rfl
      have hK9 := kk_Ks (tq := []) hK [] rfl
      exact W.zret (v := 1) hx hb hr rfl (fun t ht hW => ⟨⟨1, (), rfl, Or.inr (⟨(by show ((p1 : Int32).toInt = 42 ∨ (p1 : Int32).toInt = 47 ∨ (p1 : Int32).toInt = 37); omega), rfl⟩), by rw [ht]; exact hP9, va_K.moved hW.alike hK9, hD9⟩, hS.F ht⟩) hS.2.2 dX10_joins_121
    · have t_2 : p1.toInt ≠ 47 := kk_ne c_2
      refine lv_iload_n hx hb dX10_joins_110 rfl (lv_at hl 1 rfl) ?_
      refine lv_bipush (v := 37) hx hb dX10_joins_111 kk_bi_37 ?_
      refine lv_icmp_ne (tgt := 120) hx hb dX10_joins_113 (by decide) (fun c_3 => ?_) (fun c_3 => ?_)
      · have t_3 : p1.toInt ≠ 37 := kk_ne c_3
        refine lv_iconst (v := 0) hx hb dX10_joins_120 kk_ic_0 ?_
        obtain ⟨hP9, hD9⟩ := kk_leafout (wc := []) hP hD [] (by decide) rfl
        have hK9 := kk_Ks (tq := []) hK [] rfl
        exact W.zret (v := 0) hx hb hr rfl (fun t ht hW => ⟨⟨0, (), rfl, Or.inl ⟨by first | with_reducible assumption | (omega), by first | with_reducible assumption | (omega), by first | with_reducible assumption | (omega), (by show ((p1 : Int32).toInt ≠ 42 ∧ (p1 : Int32).toInt ≠ 47 ∧ (p1 : Int32).toInt ≠ 37); omega), rfl⟩, by rw [ht]; exact hP9, va_K.moved hW.alike hK9, hD9⟩, hS.F ht⟩) hS.2.2 dX10_joins_121
      · have t_3 : p1.toInt = 37 := kk_eq c_3
        refine lv_iconst (v := 1) hx hb dX10_joins_116 kk_ic_1 ?_
        refine lv_goto (tgt := 121) hx hb dX10_joins_117 (by decide) ?_
        obtain ⟨hP9, hD9⟩ := kk_leafout (wc := []) hP hD [] (by decide) rfl
        have hK9 := kk_Ks (tq := []) hK [] rfl
        exact W.zret (v := 1) hx hb hr rfl (fun t ht hW => ⟨⟨1, (), rfl, Or.inr (⟨(by show ((p1 : Int32).toInt = 42 ∨ (p1 : Int32).toInt = 47 ∨ (p1 : Int32).toInt = 37); omega), rfl⟩), by rw [ht]; exact hP9, va_K.moved hW.alike hK9, hD9⟩, hS.F ht⟩) hS.2.2 dX10_joins_121
set_option maxHeartbeats 4000000 in
set_option maxRecDepth 100000 in
theorem g_X10_joins_6 (l : Launch) (dC : Nat → ClassId) (dI : Nat → Nat → Nat) (sz : Nat) (p1 : Int32) : Met l yX10_joins wsX10_joins ({ frames := 0, cells := 0, slots := 0, locals := 0 }) (va_Pc [.int 3, .int p1] (fun U => U.heap.size = sz ∧ va_P (dC, dI) vwCl [] U.heap ∧ va_K (dC, dI) vwCl [] U ∧ va_D (fun _ => True) [])) (va_Qi (fun (r : Int32) (_ : Unit) => (p1.toInt ≠ 43 ∧ p1.toInt ≠ 45 ∧ (p1.toInt ≠ 43 ∧ p1.toInt ≠ 45) ∧ (0 : Int32) = r) ∨ ((p1.toInt = 43 ∨ p1.toInt = 45) ∧ (1 : Int32) = r)) (fun (_ : Unit) t => va_P (dC, dI) vwCl [] t.heap ∧ va_K (dC, dI) vwCl [] t ∧ va_D (va_A [] sz) []) (va_A [] sz)) 0 0 (va_A [] sz) := by
  refine Met.ofW (cc := cX10_joins) (maxL := 2) (ret := (some .boolean)) (by decide) rfl ?_
  intro p e s m args below meth c s₁ B hml hv
  obtain ⟨rfl, hsz, hP, hK, hD0⟩ := hv
  have hx := B.exec
  have hb := B.bytes
  have hr := B.returns
  have hts := atoms_spec (ws := wsX10_joins) B.pre
  have hown : s.vm.findClass RX10 = some m.cls := findClass_of_methodNamed B.named
  have hlocks := B.notSynchronized
  subst hsz
  have hD := hD0.self (sz := s.heap.size)
  generalize hAe : va_A [] s.heap.size = A at hD ⊢
  have hA : ∀ q : Nat, s.heap.size ≤ q → A q := fun q h => by rw [← hAe]; exact Or.inr h
  have hS : va_S A s.heap s.heap [] := va_S.rf
  replace hP : va_P (dC, dI) vwCl [] s.heap := hP
  have hl := lv_entry ([.int 3, .int p1]) (n := 2) (Nat.le_of_ble_eq_true rfl)
  rw [lg_entry_eq]
  generalize (lg_sl ([.int 3, .int p1]) ++ List.replicate (2 - (lg_sl ([.int 3, .int p1])).length) Slot.unset).toArray = ls at hl ⊢
  replace hl : lv_has ls 2 [(0, .int 3), (1, .int p1)] := hl
  refine lv_iload_n hx hb dX10_joins_0 rfl (lv_at hl 0 rfl) ?_
  refine lv_tableIn (tgt := 80) hx hb dX10_joins_1 (by decide) (by decide) rfl (by decide) ?_
  refine lv_iload_n hx hb dX10_joins_80 rfl (lv_at hl 1 rfl) ?_
  refine lv_bipush (v := 43) hx hb dX10_joins_81 kk_bi_43 ?_
  refine lv_icmp_eq (tgt := 92) hx hb dX10_joins_83 (by decide) (fun c_1 => ?_) (fun c_1 => ?_)
  · have t_1 : p1.toInt = 43 := kk_eq c_1
    refine lv_iconst (v := 1) hx hb dX10_joins_92 kk_ic_1 ?_
    refine lv_goto (tgt := 97) hx hb dX10_joins_93 (by decide) ?_
    obtain ⟨hP9, hD9⟩ := kk_leafout (wc := []) hP hD [] (by decide) rfl
    have hK9 := kk_Ks (tq := []) hK [] rfl
    exact W.zret (v := 1) hx hb hr rfl (fun t ht hW => ⟨⟨1, (), rfl, Or.inr (⟨(by show ((p1 : Int32).toInt = 43 ∨ (p1 : Int32).toInt = 45); omega), rfl⟩), by rw [ht]; exact hP9, va_K.moved hW.alike hK9, hD9⟩, hS.F ht⟩) hS.2.2 dX10_joins_97
  · have t_1 : p1.toInt ≠ 43 := kk_ne c_1
    refine lv_iload_n hx hb dX10_joins_86 rfl (lv_at hl 1 rfl) ?_
    refine lv_bipush (v := 45) hx hb dX10_joins_87 kk_bi_45 ?_
    refine lv_icmp_ne (tgt := 96) hx hb dX10_joins_89 (by decide) (fun c_2 => ?_) (fun c_2 => ?_)
    · have t_2 : p1.toInt ≠ 45 := kk_ne c_2
      refine lv_iconst (v := 0) hx hb dX10_joins_96 kk_ic_0 ?_
      obtain ⟨hP9, hD9⟩ := kk_leafout (wc := []) hP hD [] (by decide) rfl
      have hK9 := kk_Ks (tq := []) hK [] rfl
      exact W.zret (v := 0) hx hb hr rfl (fun t ht hW => ⟨⟨0, (), rfl, Or.inl ⟨by first | with_reducible assumption | (omega), by first | with_reducible assumption | (omega), (by show ((p1 : Int32).toInt ≠ 43 ∧ (p1 : Int32).toInt ≠ 45); omega), rfl⟩, by rw [ht]; exact hP9, va_K.moved hW.alike hK9, hD9⟩, hS.F ht⟩) hS.2.2 dX10_joins_97
    · have t_2 : p1.toInt = 45 := kk_eq c_2
      refine lv_iconst (v := 1) hx hb dX10_joins_92 kk_ic_1 ?_
      refine lv_goto (tgt := 97) hx hb dX10_joins_93 (by decide) ?_
      obtain ⟨hP9, hD9⟩ := kk_leafout (wc := []) hP hD [] (by decide) rfl
      have hK9 := kk_Ks (tq := []) hK [] rfl
      exact W.zret (v := 1) hx hb hr rfl (fun t ht hW => ⟨⟨1, (), rfl, Or.inr (⟨(by show ((p1 : Int32).toInt = 43 ∨ (p1 : Int32).toInt = 45); omega), rfl⟩), by rw [ht]; exact hP9, va_K.moved hW.alike hK9, hD9⟩, hS.F ht⟩) hS.2.2 dX10_joins_97
set_option maxHeartbeats 4000000 in
set_option maxRecDepth 100000 in
theorem g_X10_joins_7 (l : Launch) (dC : Nat → ClassId) (dI : Nat → Nat → Nat) (sz : Nat) (p1 : Int32) : Met l yX10_joins wsX10_joins ({ frames := 0, cells := 0, slots := 0, locals := 0 }) (va_Pc [.int 2, .int p1] (fun U => U.heap.size = sz ∧ va_P (dC, dI) vwCl [] U.heap ∧ va_K (dC, dI) vwCl [] U ∧ va_D (fun _ => True) [])) (va_Qi (fun (r : Int32) (_ : Unit) => (p1.toInt ≠ 60 ∧ p1.toInt ≠ 61 ∧ p1.toInt ≠ 62 ∧ (p1.toInt < 60 ∨ 62 < p1.toInt) ∧ (0 : Int32) = r) ∨ ((60 ≤ p1.toInt ∧ p1.toInt ≤ 62) ∧ (1 : Int32) = r)) (fun (_ : Unit) t => va_P (dC, dI) vwCl [] t.heap ∧ va_K (dC, dI) vwCl [] t ∧ va_D (va_A [] sz) []) (va_A [] sz)) 0 0 (va_A [] sz) := by
  refine Met.ofW (cc := cX10_joins) (maxL := 2) (ret := (some .boolean)) (by decide) rfl ?_
  intro p e s m args below meth c s₁ B hml hv
  obtain ⟨rfl, hsz, hP, hK, hD0⟩ := hv
  have hx := B.exec
  have hb := B.bytes
  have hr := B.returns
  have hts := atoms_spec (ws := wsX10_joins) B.pre
  have hown : s.vm.findClass RX10 = some m.cls := findClass_of_methodNamed B.named
  have hlocks := B.notSynchronized
  subst hsz
  have hD := hD0.self (sz := s.heap.size)
  generalize hAe : va_A [] s.heap.size = A at hD ⊢
  have hA : ∀ q : Nat, s.heap.size ≤ q → A q := fun q h => by rw [← hAe]; exact Or.inr h
  have hS : va_S A s.heap s.heap [] := va_S.rf
  replace hP : va_P (dC, dI) vwCl [] s.heap := hP
  have hl := lv_entry ([.int 2, .int p1]) (n := 2) (Nat.le_of_ble_eq_true rfl)
  rw [lg_entry_eq]
  generalize (lg_sl ([.int 2, .int p1]) ++ List.replicate (2 - (lg_sl ([.int 2, .int p1])).length) Slot.unset).toArray = ls at hl ⊢
  replace hl : lv_has ls 2 [(0, .int 2), (1, .int p1)] := hl
  refine lv_iload_n hx hb dX10_joins_0 rfl (lv_at hl 0 rfl) ?_
  refine lv_tableIn (tgt := 56) hx hb dX10_joins_1 (by decide) (by decide) rfl (by decide) ?_
  refine lv_iload_n hx hb dX10_joins_56 rfl (lv_at hl 1 rfl) ?_
  refine lv_bipush (v := 60) hx hb dX10_joins_57 kk_bi_60 ?_
  refine lv_icmp_eq (tgt := 74) hx hb dX10_joins_59 (by decide) (fun c_1 => ?_) (fun c_1 => ?_)
  · have t_1 : p1.toInt = 60 := kk_eq c_1
    refine lv_iconst (v := 1) hx hb dX10_joins_74 kk_ic_1 ?_
    refine lv_goto (tgt := 79) hx hb dX10_joins_75 (by decide) ?_
    obtain ⟨hP9, hD9⟩ := kk_leafout (wc := []) hP hD [] (by decide) rfl
    have hK9 := kk_Ks (tq := []) hK [] rfl
    exact W.zret (v := 1) hx hb hr rfl (fun t ht hW => ⟨⟨1, (), rfl, Or.inr (⟨(by show (60 ≤ (p1 : Int32).toInt ∧ (p1 : Int32).toInt ≤ 62); omega), rfl⟩), by rw [ht]; exact hP9, va_K.moved hW.alike hK9, hD9⟩, hS.F ht⟩) hS.2.2 dX10_joins_79
  · have t_1 : p1.toInt ≠ 60 := kk_ne c_1
    refine lv_iload_n hx hb dX10_joins_62 rfl (lv_at hl 1 rfl) ?_
    refine lv_bipush (v := 61) hx hb dX10_joins_63 kk_bi_61 ?_
    refine lv_icmp_eq (tgt := 74) hx hb dX10_joins_65 (by decide) (fun c_2 => ?_) (fun c_2 => ?_)
    · have t_2 : p1.toInt = 61 := kk_eq c_2
      refine lv_iconst (v := 1) hx hb dX10_joins_74 kk_ic_1 ?_
      refine lv_goto (tgt := 79) hx hb dX10_joins_75 (by decide) ?_
      obtain ⟨hP9, hD9⟩ := kk_leafout (wc := []) hP hD [] (by decide) rfl
      have hK9 := kk_Ks (tq := []) hK [] rfl
      exact W.zret (v := 1) hx hb hr rfl (fun t ht hW => ⟨⟨1, (), rfl, Or.inr (⟨(by show (60 ≤ (p1 : Int32).toInt ∧ (p1 : Int32).toInt ≤ 62); omega), rfl⟩), by rw [ht]; exact hP9, va_K.moved hW.alike hK9, hD9⟩, hS.F ht⟩) hS.2.2 dX10_joins_79
    · have t_2 : p1.toInt ≠ 61 := kk_ne c_2
      refine lv_iload_n hx hb dX10_joins_68 rfl (lv_at hl 1 rfl) ?_
      refine lv_bipush (v := 62) hx hb dX10_joins_69 kk_bi_62 ?_
      refine lv_icmp_ne (tgt := 78) hx hb dX10_joins_71 (by decide) (fun c_3 => ?_) (fun c_3 => ?_)
      · have t_3 : p1.toInt ≠ 62 := kk_ne c_3
        refine lv_iconst (v := 0) hx hb dX10_joins_78 kk_ic_0 ?_
        obtain ⟨hP9, hD9⟩ := kk_leafout (wc := []) hP hD [] (by decide) rfl
        have hK9 := kk_Ks (tq := []) hK [] rfl
        exact W.zret (v := 0) hx hb hr rfl (fun t ht hW => ⟨⟨0, (), rfl, Or.inl ⟨by first | with_reducible assumption | (omega), by first | with_reducible assumption | (omega), by first | with_reducible assumption | (omega), (by show ((p1 : Int32).toInt < 60 ∨ 62 < (p1 : Int32).toInt); omega), rfl⟩, by rw [ht]; exact hP9, va_K.moved hW.alike hK9, hD9⟩, hS.F ht⟩) hS.2.2 dX10_joins_79
      · have t_3 : p1.toInt = 62 := kk_eq c_3
        refine lv_iconst (v := 1) hx hb dX10_joins_74 kk_ic_1 ?_
        refine lv_goto (tgt := 79) hx hb dX10_joins_75 (by decide) ?_
        obtain ⟨hP9, hD9⟩ := kk_leafout (wc := []) hP hD [] (by decide) rfl
        have hK9 := kk_Ks (tq := []) hK [] rfl
        exact W.zret (v := 1) hx hb hr rfl (fun t ht hW => ⟨⟨1, (), rfl, Or.inr (⟨(by show (60 ≤ (p1 : Int32).toInt ∧ (p1 : Int32).toInt ≤ 62); omega), rfl⟩), by rw [ht]; exact hP9, va_K.moved hW.alike hK9, hD9⟩, hS.F ht⟩) hS.2.2 dX10_joins_79
set_option maxHeartbeats 4000000 in
set_option maxRecDepth 100000 in
theorem g_X10_joins_8 (l : Launch) (dC : Nat → ClassId) (dI : Nat → Nat → Nat) (sz : Nat) (p1 : Int32) : Met l yX10_joins wsX10_joins ({ frames := 0, cells := 0, slots := 0, locals := 0 }) (va_Pc [.int 1, .int p1] (fun U => U.heap.size = sz ∧ va_P (dC, dI) vwCl [] U.heap ∧ va_K (dC, dI) vwCl [] U ∧ va_D (fun _ => True) [])) (va_Qi (fun (r : Int32) (_ : Unit) => (p1.toInt ≠ 38 ∧ p1.toInt ≠ 38 ∧ (0 : Int32) = r) ∨ (p1.toInt = 38 ∧ p1.toInt = 38 ∧ (1 : Int32) = r)) (fun (_ : Unit) t => va_P (dC, dI) vwCl [] t.heap ∧ va_K (dC, dI) vwCl [] t ∧ va_D (va_A [] sz) []) (va_A [] sz)) 0 0 (va_A [] sz) := by
  refine Met.ofW (cc := cX10_joins) (maxL := 2) (ret := (some .boolean)) (by decide) rfl ?_
  intro p e s m args below meth c s₁ B hml hv
  obtain ⟨rfl, hsz, hP, hK, hD0⟩ := hv
  have hx := B.exec
  have hb := B.bytes
  have hr := B.returns
  have hts := atoms_spec (ws := wsX10_joins) B.pre
  have hown : s.vm.findClass RX10 = some m.cls := findClass_of_methodNamed B.named
  have hlocks := B.notSynchronized
  subst hsz
  have hD := hD0.self (sz := s.heap.size)
  generalize hAe : va_A [] s.heap.size = A at hD ⊢
  have hA : ∀ q : Nat, s.heap.size ≤ q → A q := fun q h => by rw [← hAe]; exact Or.inr h
  have hS : va_S A s.heap s.heap [] := va_S.rf
  replace hP : va_P (dC, dI) vwCl [] s.heap := hP
  have hl := lv_entry ([.int 1, .int p1]) (n := 2) (Nat.le_of_ble_eq_true rfl)
  rw [lg_entry_eq]
  generalize (lg_sl ([.int 1, .int p1]) ++ List.replicate (2 - (lg_sl ([.int 1, .int p1])).length) Slot.unset).toArray = ls at hl ⊢
  replace hl : lv_has ls 2 [(0, .int 1), (1, .int p1)] := hl
  refine lv_iload_n hx hb dX10_joins_0 rfl (lv_at hl 0 rfl) ?_
  refine lv_tableIn (tgt := 44) hx hb dX10_joins_1 (by decide) (by decide) rfl (by decide) ?_
  refine lv_iload_n hx hb dX10_joins_44 rfl (lv_at hl 1 rfl) ?_
  refine lv_bipush (v := 38) hx hb dX10_joins_45 kk_bi_38 ?_
  refine lv_icmp_ne (tgt := 54) hx hb dX10_joins_47 (by decide) (fun c_1 => ?_) (fun c_1 => ?_)
  · have t_1 : p1.toInt ≠ 38 := kk_ne c_1
    refine lv_iconst (v := 0) hx hb dX10_joins_54 kk_ic_0 ?_
    obtain ⟨hP9, hD9⟩ := kk_leafout (wc := []) hP hD [] (by decide) rfl
    have hK9 := kk_Ks (tq := []) hK [] rfl
    exact W.zret (v := 0) hx hb hr rfl (fun t ht hW => ⟨⟨0, (), rfl, Or.inl ⟨by first | with_reducible assumption | (omega), (by show (p1 : Int32).toInt ≠ 38; omega), rfl⟩, by rw [ht]; exact hP9, va_K.moved hW.alike hK9, hD9⟩, hS.F ht⟩) hS.2.2 dX10_joins_55
  · have t_1 : p1.toInt = 38 := kk_eq c_1
    refine lv_iconst (v := 1) hx hb dX10_joins_50 kk_ic_1 ?_
    refine lv_goto (tgt := 55) hx hb dX10_joins_51 (by decide) ?_
    obtain ⟨hP9, hD9⟩ := kk_leafout (wc := []) hP hD [] (by decide) rfl
    have hK9 := kk_Ks (tq := []) hK [] rfl
    exact W.zret (v := 1) hx hb hr rfl (fun t ht hW => ⟨⟨1, (), rfl, Or.inr (⟨by first | with_reducible assumption | (omega), (by show (p1 : Int32).toInt = 38; omega), rfl⟩), by rw [ht]; exact hP9, va_K.moved hW.alike hK9, hD9⟩, hS.F ht⟩) hS.2.2 dX10_joins_55
set_option maxHeartbeats 4000000 in
set_option maxRecDepth 100000 in
theorem g_X10_joins_9 (l : Launch) (dC : Nat → ClassId) (dI : Nat → Nat → Nat) (sz : Nat) (p1 : Int32) : Met l yX10_joins wsX10_joins ({ frames := 0, cells := 0, slots := 0, locals := 0 }) (va_Pc [.int 0, .int p1] (fun U => U.heap.size = sz ∧ va_P (dC, dI) vwCl [] U.heap ∧ va_K (dC, dI) vwCl [] U ∧ va_D (fun _ => True) [])) (va_Qi (fun (r : Int32) (_ : Unit) => (p1.toInt ≠ 124 ∧ p1.toInt ≠ 124 ∧ (0 : Int32) = r) ∨ (p1.toInt = 124 ∧ p1.toInt = 124 ∧ (1 : Int32) = r)) (fun (_ : Unit) t => va_P (dC, dI) vwCl [] t.heap ∧ va_K (dC, dI) vwCl [] t ∧ va_D (va_A [] sz) []) (va_A [] sz)) 0 0 (va_A [] sz) := by
  refine Met.ofW (cc := cX10_joins) (maxL := 2) (ret := (some .boolean)) (by decide) rfl ?_
  intro p e s m args below meth c s₁ B hml hv
  obtain ⟨rfl, hsz, hP, hK, hD0⟩ := hv
  have hx := B.exec
  have hb := B.bytes
  have hr := B.returns
  have hts := atoms_spec (ws := wsX10_joins) B.pre
  have hown : s.vm.findClass RX10 = some m.cls := findClass_of_methodNamed B.named
  have hlocks := B.notSynchronized
  subst hsz
  have hD := hD0.self (sz := s.heap.size)
  generalize hAe : va_A [] s.heap.size = A at hD ⊢
  have hA : ∀ q : Nat, s.heap.size ≤ q → A q := fun q h => by rw [← hAe]; exact Or.inr h
  have hS : va_S A s.heap s.heap [] := va_S.rf
  replace hP : va_P (dC, dI) vwCl [] s.heap := hP
  have hl := lv_entry ([.int 0, .int p1]) (n := 2) (Nat.le_of_ble_eq_true rfl)
  rw [lg_entry_eq]
  generalize (lg_sl ([.int 0, .int p1]) ++ List.replicate (2 - (lg_sl ([.int 0, .int p1])).length) Slot.unset).toArray = ls at hl ⊢
  replace hl : lv_has ls 2 [(0, .int 0), (1, .int p1)] := hl
  refine lv_iload_n hx hb dX10_joins_0 rfl (lv_at hl 0 rfl) ?_
  refine lv_tableIn (tgt := 32) hx hb dX10_joins_1 (by decide) (by decide) rfl (by decide) ?_
  refine lv_iload_n hx hb dX10_joins_32 rfl (lv_at hl 1 rfl) ?_
  refine lv_bipush (v := 124) hx hb dX10_joins_33 kk_bi_124 ?_
  refine lv_icmp_ne (tgt := 42) hx hb dX10_joins_35 (by decide) (fun c_1 => ?_) (fun c_1 => ?_)
  · have t_1 : p1.toInt ≠ 124 := kk_ne c_1
    refine lv_iconst (v := 0) hx hb dX10_joins_42 kk_ic_0 ?_
    obtain ⟨hP9, hD9⟩ := kk_leafout (wc := []) hP hD [] (by decide) rfl
    have hK9 := kk_Ks (tq := []) hK [] rfl
    exact W.zret (v := 0) hx hb hr rfl (fun t ht hW => ⟨⟨0, (), rfl, Or.inl ⟨by first | with_reducible assumption | (omega), (by show (p1 : Int32).toInt ≠ 124; omega), rfl⟩, by rw [ht]; exact hP9, va_K.moved hW.alike hK9, hD9⟩, hS.F ht⟩) hS.2.2 dX10_joins_43
  · have t_1 : p1.toInt = 124 := kk_eq c_1
    refine lv_iconst (v := 1) hx hb dX10_joins_38 kk_ic_1 ?_
    refine lv_goto (tgt := 43) hx hb dX10_joins_39 (by decide) ?_
    obtain ⟨hP9, hD9⟩ := kk_leafout (wc := []) hP hD [] (by decide) rfl
    have hK9 := kk_Ks (tq := []) hK [] rfl
    exact W.zret (v := 1) hx hb hr rfl (fun t ht hW => ⟨⟨1, (), rfl, Or.inr (⟨by first | with_reducible assumption | (omega), (by show (p1 : Int32).toInt = 124; omega), rfl⟩), by rw [ht]; exact hP9, va_K.moved hW.alike hK9, hD9⟩, hS.F ht⟩) hS.2.2 dX10_joins_43
set_option maxHeartbeats 4000000 in
set_option maxRecDepth 100000 in
theorem g_X10_hasRoomFor_1 (l : Launch) (dC : Nat → ClassId) (dI : Nat → Nat → Nat) (h0 : Nat) (h1 : Nat) (sz : Nat) (p0 : Int32) (n0_size : Int32) (n0_place : Int32) (o0_law : Option Nat) (tn0_size : 0 ≤ n0_size.toInt ∧ n0_size.toInt ≤ 120) (pr0 : 1 ≤ p0.toInt) (pr1 : p0.toInt ≤ 4) : Met l yX10_hasRoomFor wsX10_hasRoomFor ({ frames := 0, cells := 0, slots := 0, locals := 0 }) (va_Pc [.ref h0, .int p0] (fun U => U.heap.size = sz ∧ va_P (dC, dI) vwCl [(h0, kO10v h1 n0_size n0_place (va_rf o0_law))] U.heap ∧ va_K (dC, dI) vwCl [] U ∧ va_D (fun _ => True) [(h0, kO10v h1 n0_size n0_place (va_rf o0_law))])) (va_Qi (fun (r : Int32) (_ : Unit) => ((r.toInt = 1 → n0_size.toInt + p0.toInt ≤ 120) ∧ (r.toInt = 0 → 120 < n0_size.toInt + p0.toInt)) ∧ (0 ≤ r.toInt ∧ r.toInt ≤ 1)) (fun (_ : Unit) t => va_P (dC, dI) vwCl [(h0, kO10v h1 n0_size n0_place (va_rf o0_law))] t.heap ∧ va_K (dC, dI) vwCl [] t ∧ va_D (va_A [(h0, kO10v h1 n0_size n0_place (va_rf o0_law))] sz) [(h0, kO10v h1 n0_size n0_place (va_rf o0_law))]) (va_A [(h0, kO10v h1 n0_size n0_place (va_rf o0_law))] sz)) 0 0 (va_A [(h0, kO10v h1 n0_size n0_place (va_rf o0_law))] sz) := by
  refine Met.ofW (cc := cX10_hasRoomFor) (maxL := 2) (ret := (some .boolean)) (by decide) rfl ?_
  intro p e s m args below meth c s₁ B hml hv
  obtain ⟨rfl, hsz, hP, hK, hD0⟩ := hv
  have hx := B.exec
  have hb := B.bytes
  have hr := B.returns
  have hts := atoms_spec (ws := wsX10_hasRoomFor) B.pre
  have hown : s.vm.findClass RX10 = some m.cls := findClass_of_methodNamed B.named
  have hlocks := B.notSynchronized
  subst hsz
  have hD := hD0.self (sz := s.heap.size)
  generalize hAe : va_A [(h0, kO10v h1 n0_size n0_place (va_rf o0_law))] s.heap.size = A at hD ⊢
  have hA : ∀ q : Nat, s.heap.size ≤ q → A q := fun q h => by rw [← hAe]; exact Or.inr h
  have hS : va_S A s.heap s.heap [] := va_S.rf
  replace hP : va_P (dC, dI) vwCl [(h0, kO10v h1 n0_size n0_place (va_rf o0_law))] s.heap := hP
  have hl := lv_entry ([.ref h0, .int p0]) (n := 2) (Nat.le_of_ble_eq_true rfl)
  rw [lg_entry_eq]
  generalize (lg_sl ([.ref h0, .int p0]) ++ List.replicate (2 - (lg_sl ([.ref h0, .int p0])).length) Slot.unset).toArray = ls at hl ⊢
  replace hl : lv_has ls 2 [(0, .ref h0), (1, .int p0)] := hl
  refine lv_aload_n hx hb dX10_hasRoomFor_0 rfl (lv_at hl 0 rfl) ?_
  refine va_get (D := (dC, dI)) (ci := 10) (v := .int n0_size) (C := RX10) (T := TX10) (N := 4) hx hb hts (fun _ h => List.mem_cons_of_mem _ (List.mem_append_right _ h)) hown hK hP 0 rfl rfl 1 (by decide) (hts (.fieldLink RX10 13 "KinkStreet$Tape" "size" "I") (List.mem_of_getElem? (i := 1) rfl)) (fun _ h9 => h9) rfl dX10_hasRoomFor_1 ?_
  refine lv_iload_n hx hb dX10_hasRoomFor_4 rfl (lv_at hl 1 rfl) ?_
  refine lv_iadd hx hb dX10_hasRoomFor_5 ?_
  refine lv_bipush (v := 120) hx hb dX10_hasRoomFor_6 kk_bi_120 ?_
  refine lv_icmp_gt (tgt := 15) hx hb dX10_hasRoomFor_8 (by decide) (fun c_1 => ?_) (fun c_1 => ?_)
  · have t_1 : 120 < (n0_size + p0).toInt := kk_lt c_1
    refine lv_iconst (v := 0) hx hb dX10_hasRoomFor_15 kk_ic_0 ?_
    obtain ⟨hP9, hD9⟩ := kk_leafout (wc := [(h0, kO10v h1 n0_size n0_place (va_rf o0_law))]) hP hD [0] (by decide) rfl
    have hK9 := kk_Ks (tq := []) hK [] rfl
    have := kk_add2 (x := n0_size) (y := p0) (a := n0_size.toInt) (b := p0.toInt) rfl rfl (by omega) (by omega)
    exact W.zret (v := 0) hx hb hr rfl (fun t ht hW => ⟨⟨0, (), rfl, ⟨(by show (((0 : Int) = 1 → (n0_size : Int32).toInt + (p0 : Int32).toInt ≤ 120) ∧ ((0 : Int) = 0 → 120 < (n0_size : Int32).toInt + (p0 : Int32).toInt)); omega), (by show 0 ≤ (0 : Int32).toInt ∧ (0 : Int32).toInt ≤ 1; first | with_reducible assumption | decide | (constructor <;> (omega)))⟩, by rw [ht]; exact hP9, va_K.moved hW.alike hK9, hD9⟩, hS.F ht⟩) hS.2.2 dX10_hasRoomFor_16
  · have t_1 : (n0_size + p0).toInt ≤ 120 := kk_nlt c_1
    refine lv_iconst (v := 1) hx hb dX10_hasRoomFor_11 kk_ic_1 ?_
    refine lv_goto (tgt := 16) hx hb dX10_hasRoomFor_12 (by decide) ?_
    obtain ⟨hP9, hD9⟩ := kk_leafout (wc := [(h0, kO10v h1 n0_size n0_place (va_rf o0_law))]) hP hD [0] (by decide) rfl
    have hK9 := kk_Ks (tq := []) hK [] rfl
    have := kk_add2 (x := n0_size) (y := p0) (a := n0_size.toInt) (b := p0.toInt) rfl rfl (by omega) (by omega)
    exact W.zret (v := 1) hx hb hr rfl (fun t ht hW => ⟨⟨1, (), rfl, ⟨(by show (((1 : Int) = 1 → (n0_size : Int32).toInt + (p0 : Int32).toInt ≤ 120) ∧ ((1 : Int) = 0 → 120 < (n0_size : Int32).toInt + (p0 : Int32).toInt)); omega), (by show 0 ≤ (1 : Int32).toInt ∧ (1 : Int32).toInt ≤ 1; first | with_reducible assumption | decide | (constructor <;> (omega)))⟩, by rw [ht]; exact hP9, va_K.moved hW.alike hK9, hD9⟩, hS.F ht⟩) hS.2.2 dX10_hasRoomFor_16
set_option maxHeartbeats 4000000 in
set_option maxRecDepth 100000 in
theorem g_X10_take_1 (l : Launch) (dC : Nat → ClassId) (dI : Nat → Nat → Nat) (h0 : Nat) (h1 : Nat) (cint : ClassId) (sz : Nat) (p1 : Int32) (n0_size : Int32) (n0_place : Int32) (o0_law : Option Nat) (f1 : Nat → Int32) (tn0_size : 0 ≤ n0_size.toInt ∧ n0_size.toInt ≤ 120) (bf1 : ∀ j, j < 120 → 0 ≤ (f1 j).toInt ∧ (f1 j).toInt ≤ 255) (pr0 : (n0_size.toInt + (1 : Int) ≤ 120)) : Met l yX10_take wsX10_take ({ frames := 0, cells := 0, slots := 0, locals := 0 }) (va_Pc [.ref h0, .int 1, .int p1] (fun U => U.heap.size = sz ∧ va_P (dC, dI) vwCl [(h0, kO10v h1 n0_size n0_place (va_rf o0_law)), (h1, kAi cint 120 f1)] U.heap ∧ va_K (dC, dI) vwCl [(cint, .int)] U ∧ va_D (fun _ => True) [(h0, kO10v h1 n0_size n0_place (va_rf o0_law)), (h1, kAi cint 120 f1)])) (va_Qi (fun (r : Int32) (_ : Unit) => r.toInt = n0_size.toInt + (1 : Int) ∧ (1 ≤ r.toInt ∧ r.toInt ≤ 120)) (fun (_ : Unit) t => ∃ (m0_size : Int32) (g1 : Nat → Int32), (1 ≤ m0_size.toInt ∧ m0_size.toInt ≤ 120) ∧ (∀ j, j < 120 → 0 ≤ (g1 j).toInt ∧ (g1 j).toInt ≤ 255) ∧ (m0_size.toInt = n0_size.toInt + (1 : Int)) ∧ (((0 : Int) = 0 → g1 = (upd f1 (n0_size : Int32).toNatClampNeg (kk_by p1 0))) ∧ ((0 : Int) = 0 → True)) ∧ va_P (dC, dI) vwCl [(h0, kO10v h1 m0_size n0_place (va_rf o0_law)), (h1, kAi cint 120 g1)] t.heap ∧ va_K (dC, dI) vwCl [] t ∧ va_D (va_A [(h0, kO10v h1 n0_size n0_place (va_rf o0_law)), (h1, kAi cint 120 f1)] sz) [(h0, kO10v h1 m0_size n0_place (va_rf o0_law)), (h1, kAi cint 120 g1)]) (va_A [(h0, kO10v h1 n0_size n0_place (va_rf o0_law)), (h1, kAi cint 120 f1)] sz)) 0 0 (va_A [(h0, kO10v h1 n0_size n0_place (va_rf o0_law)), (h1, kAi cint 120 f1)] sz) := by
  refine Met.ofW (cc := cX10_take) (maxL := 4) (ret := (some .int)) (by decide) rfl ?_
  intro p e s m args below meth c s₁ B hml hv
  obtain ⟨rfl, hsz, hP, hK, hD0⟩ := hv
  have hx := B.exec
  have hb := B.bytes
  have hr := B.returns
  have hts := atoms_spec (ws := wsX10_take) B.pre
  have hown : s.vm.findClass RX10 = some m.cls := findClass_of_methodNamed B.named
  have hlocks := B.notSynchronized
  subst hsz
  have hD := hD0.self (sz := s.heap.size)
  generalize hAe : va_A [(h0, kO10v h1 n0_size n0_place (va_rf o0_law)), (h1, kAi cint 120 f1)] s.heap.size = A at hD ⊢
  have hA : ∀ q : Nat, s.heap.size ≤ q → A q := fun q h => by rw [← hAe]; exact Or.inr h
  have hS : va_S A s.heap s.heap [] := va_S.rf
  replace hP : va_P (dC, dI) vwCl [(h0, kO10v h1 n0_size n0_place (va_rf o0_law)), (h1, kAi cint 120 f1)] s.heap := hP
  have hl := lv_entry ([.ref h0, .int 1, .int p1]) (n := 4) (Nat.le_of_ble_eq_true rfl)
  rw [lg_entry_eq]
  generalize (lg_sl ([.ref h0, .int 1, .int p1]) ++ List.replicate (4 - (lg_sl ([.ref h0, .int 1, .int p1])).length) Slot.unset).toArray = ls at hl ⊢
  replace hl : lv_has ls 4 [(0, .ref h0), (1, .int 1), (2, .int p1)] := hl
  refine lv_iconst (v := 0) hx hb dX10_take_0 kk_ic_0 ?_
  refine lv_istore_n hx hb dX10_take_1 rfl hl (by decide) (rfl : _ = ([(3, .int 0), (0, .ref h0), (1, .int 1), (2, .int p1)] : List (Nat × Value))) (fun ls hl => ?_)
  refine lv_iload_n hx hb dX10_take_2 rfl (lv_at hl 0 rfl) ?_
  refine lv_iload_n hx hb dX10_take_3 rfl (lv_at hl 2 rfl) ?_
  refine lv_icmp_ge (tgt := 48) hx hb dX10_take_4 (by decide) (fun c => absurd c (by decide)) (fun _ => ?_)
  refine lv_aload_n hx hb dX10_take_7 rfl (lv_at hl 1 rfl) ?_
  refine va_get (D := (dC, dI)) (ci := 10) (v := .int n0_size) (C := RX10) (T := TX10) (N := 4) hx hb hts (fun _ h => List.mem_cons_of_mem _ (List.mem_append_right _ h)) hown hK hP 0 rfl rfl 1 (by decide) (hts (.fieldLink RX10 13 "KinkStreet$Tape" "size" "I") (List.mem_of_getElem? (i := 1) rfl)) (fun _ h9 => h9) rfl dX10_take_8 ?_
  refine lv_bipush (v := 120) hx hb dX10_take_11 kk_bi_120 ?_
  refine lv_icmp_ge (tgt := 48) hx hb dX10_take_13 (by decide) (fun c_1 => ?_) (fun c_1 => ?_)
  · have t_1 : 120 ≤ n0_size.toInt := kk_le c_1
    refine lv_aload_n hx hb dX10_take_48 rfl (lv_at hl 1 rfl) ?_
    refine va_get (D := (dC, dI)) (ci := 10) (v := .int n0_size) (C := RX10) (T := TX10) (N := 4) hx hb hts (fun _ h => List.mem_cons_of_mem _ (List.mem_append_right _ h)) hown hK hP 0 rfl rfl 1 (by decide) (hts (.fieldLink RX10 13 "KinkStreet$Tape" "size" "I") (List.mem_of_getElem? (i := 1) rfl)) (fun _ h9 => h9) rfl dX10_take_49 ?_
    obtain ⟨hP9, hD9⟩ := kk_leafout (wc := [(h0, kO10v h1 n0_size n0_place (va_rf o0_law)), (h1, kAi cint 120 f1)]) hP hD [0, 1] (by decide) rfl
    have hK9 := kk_Ks (tq := []) hK [] rfl
    exact W.iret (v := n0_size) hx hb hr (fun t ht hW => ⟨⟨n0_size, (), rfl, ⟨(by show (n0_size : Int32).toInt = (n0_size : Int32).toInt + (1 : Int); omega), (by show 1 ≤ (n0_size : Int32).toInt ∧ (n0_size : Int32).toInt ≤ 120; first | with_reducible assumption | (constructor <;> (omega)))⟩, n0_size, f1, (by show 1 ≤ (n0_size : Int32).toInt ∧ (n0_size : Int32).toInt ≤ 120; first | with_reducible assumption | (constructor <;> (omega))), bf1, (by show (n0_size : Int32).toInt = (n0_size : Int32).toInt + (1 : Int); first | with_reducible assumption | (omega)), ⟨fun hh => by first | exact rfl | (exfalso; omega), fun hh => by first | exact trivial | (exfalso; omega)⟩, by rw [ht]; exact hP9, va_K.moved hW.alike hK9, hD9⟩, hS.F ht⟩) hS.2.2 dX10_take_52
  · have t_1 : n0_size.toInt < 120 := kk_nle c_1
    refine lv_aload_n hx hb dX10_take_16 rfl (lv_at hl 1 rfl) ?_
    refine va_get (D := (dC, dI)) (ci := 10) (v := .ref h1) (C := RX10) (T := TX10) (N := 4) hx hb hts (fun _ h => List.mem_cons_of_mem _ (List.mem_append_right _ h)) hown hK hP 0 rfl rfl 0 (by decide) (hts (.fieldLink RX10 9 "KinkStreet$Tape" "bytes" "[I") (List.mem_of_getElem? (i := 2) rfl)) (fun _ h9 => h9) rfl dX10_take_17 ?_
    refine lv_aload_n hx hb dX10_take_20 rfl (lv_at hl 1 rfl) ?_
    refine lv_dup hx hb dX10_take_21 rfl ?_
    refine va_get (D := (dC, dI)) (ci := 10) (v := .int n0_size) (C := RX10) (T := TX10) (N := 4) hx hb hts (fun _ h => List.mem_cons_of_mem _ (List.mem_append_right _ h)) hown hK hP 0 rfl rfl 1 (by decide) (hts (.fieldLink RX10 13 "KinkStreet$Tape" "size" "I") (List.mem_of_getElem? (i := 1) rfl)) (fun _ h9 => h9) rfl dX10_take_22 ?_
    refine lv_dup_x1 hx hb dX10_take_25 rfl rfl ?_
    refine lv_iconst (v := 1) hx hb dX10_take_26 kk_ic_1 ?_
    refine lv_iadd hx hb dX10_take_27 ?_
    refine va_put (D := (dC, dI)) (ci := 10) (v := .int (n0_size + 1)) (ty := .int) (C := RX10) (T := TX10) (N := 4) hx hb hts (fun _ h => List.mem_cons_of_mem _ (List.mem_append_right _ h)) tyX10 tyX10_ok nmX10 hown hK hP hD hS 0 rfl rfl 1 (by decide) (hts (.fieldLink RX10 13 "KinkStreet$Tape" "size" "I") (List.mem_of_getElem? (i := 1) rfl)) (fun _ h9 => h9) rfl (by decide +kernel) rfl rfl (Nat.le_of_ble_eq_true rfl) dX10_take_28 (fun H locs hP hD hS => ?_)
    replace hP : va_P (dC, dI) vwCl [(h0, kO10v h1 (n0_size + 1) n0_place (va_rf o0_law)), (h1, kAi cint 120 f1)] H := hP
    replace hD : va_D A [(h0, kO10v h1 (n0_size + 1) n0_place (va_rf o0_law)), (h1, kAi cint 120 f1)] := hD
    refine lv_iload_n hx hb dX10_take_31 rfl (lv_at hl 3 rfl) ?_
    refine lv_bipush (v := 8) hx hb dX10_take_32 kk_bi_8 ?_
    refine lv_iload_n hx hb dX10_take_34 rfl (lv_at hl 0 rfl) ?_
    refine lv_imul hx hb dX10_take_35 ?_
    refine lv_topi (fun y_2 e_2 => ?_)
    obtain rfl : y_2 = 0 := e_2.trans (by decide)
    refine lv_iushr hx hb dX10_take_36 rfl ?_
    refine lv_sipush (v := 255) hx hb dX10_take_37 kk_si_255 ?_
    refine lv_iand hx hb dX10_take_40 ?_
    refine lv_topi (fun y_3 e_3 => ?_)
    obtain rfl : y_3 = (kk_by p1 0) := e_3.trans rfl
    have t_3 : 0 ≤ (kk_by p1 0).toInt ∧ (kk_by p1 0).toInt ≤ 255 := kk_by_b _ _
    have := kk_add2 (x := n0_size) (y := 1) (a := n0_size.toInt) (b := 1) rfl rfl (by omega) (by omega)
    refine va_iast hx hb hK hP hD hS 1 0 rfl rfl (vp_in_iff.mpr ⟨by omega, by omega⟩) dX10_take_41 (fun H locs hP hD hS => ?_)
    have w_4 : ((upd f1 (n0_size : Int32).toNatClampNeg (kk_by p1 0)) (n0_size : Int32).toNatClampNeg).toInt = ((kk_by p1 0) : Int32).toInt := by rw [kk_ups]
    have b_4 := kk_upb (k := (n0_size : Int32).toNatClampNeg) bf1 (show 0 ≤ ((kk_by p1 0) : Int32).toInt ∧ ((kk_by p1 0) : Int32).toInt ≤ 255 from by first | with_reducible assumption | decide | (constructor <;> (omega)))
    replace hP : va_P (dC, dI) vwCl [(h0, kO10v h1 (n0_size + 1) n0_place (va_rf o0_law)), (h1, kAi cint 120 (upd f1 (n0_size : Int32).toNatClampNeg (kk_by p1 0)))] H := hP
    replace hD : va_D A [(h0, kO10v h1 (n0_size + 1) n0_place (va_rf o0_law)), (h1, kAi cint 120 (upd f1 (n0_size : Int32).toNatClampNeg (kk_by p1 0)))] := hD
    refine lv_iinc (v := 1) hx hb dX10_take_42 hl (k := 0) rfl (by first | rfl | decide) (by decide) (rfl : _ = ([(3, .int 1), (0, .ref h0), (1, .int 1), (2, .int p1)] : List (Nat × Value))) (fun ls hl => ?_)
    refine lv_goto (tgt := 2) hx hb dX10_take_45 (by decide) ?_
    refine lv_iload_n hx hb dX10_take_2 rfl (lv_at hl 0 rfl) ?_
    refine lv_iload_n hx hb dX10_take_3 rfl (lv_at hl 2 rfl) ?_
    refine lv_icmp_ge (tgt := 48) hx hb dX10_take_4 (by decide) (fun _ => ?_) (fun c => absurd c (by decide))
    refine lv_aload_n hx hb dX10_take_48 rfl (lv_at hl 1 rfl) ?_
    refine va_get (D := (dC, dI)) (ci := 10) (v := .int (n0_size + 1)) (C := RX10) (T := TX10) (N := 4) hx hb hts (fun _ h => List.mem_cons_of_mem _ (List.mem_append_right _ h)) hown hK hP 0 rfl rfl 1 (by decide) (hts (.fieldLink RX10 13 "KinkStreet$Tape" "size" "I") (List.mem_of_getElem? (i := 1) rfl)) (fun _ h9 => h9) rfl dX10_take_49 ?_
    obtain ⟨hP9, hD9⟩ := kk_leafout (wc := [(h0, kO10v h1 (n0_size + 1) n0_place (va_rf o0_law)), (h1, kAi cint 120 (upd f1 (n0_size : Int32).toNatClampNeg (kk_by p1 0)))]) hP hD [0, 1] (by decide) rfl
    have hK9 := kk_Ks (tq := []) hK [] rfl
    exact W.iret (v := (n0_size + 1)) hx hb hr (fun t ht hW => ⟨⟨(n0_size + 1), (), rfl, ⟨(by show ((n0_size + 1) : Int32).toInt = (n0_size : Int32).toInt + (1 : Int); omega), (by show 1 ≤ ((n0_size + 1) : Int32).toInt ∧ ((n0_size + 1) : Int32).toInt ≤ 120; first | with_reducible assumption | (constructor <;> (omega)))⟩, (n0_size + 1), (upd f1 (n0_size : Int32).toNatClampNeg (kk_by p1 0)), (by show 1 ≤ ((n0_size + 1) : Int32).toInt ∧ ((n0_size + 1) : Int32).toInt ≤ 120; first | with_reducible assumption | (constructor <;> (omega))), b_4, (by show ((n0_size + 1) : Int32).toInt = (n0_size : Int32).toInt + (1 : Int); first | with_reducible assumption | (omega)), ⟨fun hh => by first | exact rfl | (exfalso; omega), fun hh => by first | exact trivial | (exfalso; omega)⟩, by rw [ht]; exact hP9, va_K.moved hW.alike hK9, hD9⟩, hS.F ht⟩) hS.2.2 dX10_take_52
set_option maxHeartbeats 4000000 in
set_option maxRecDepth 100000 in
theorem g_X10_take_2 (l : Launch) (dC : Nat → ClassId) (dI : Nat → Nat → Nat) (h0 : Nat) (h1 : Nat) (cint : ClassId) (sz : Nat) (p1 : Int32) (n0_size : Int32) (n0_place : Int32) (o0_law : Option Nat) (f1 : Nat → Int32) (tn0_size : 0 ≤ n0_size.toInt ∧ n0_size.toInt ≤ 120) (bf1 : ∀ j, j < 120 → 0 ≤ (f1 j).toInt ∧ (f1 j).toInt ≤ 255) (pr0 : (n0_size.toInt + (2 : Int) ≤ 120)) : Met l yX10_take wsX10_take ({ frames := 0, cells := 0, slots := 0, locals := 0 }) (va_Pc [.ref h0, .int 2, .int p1] (fun U => U.heap.size = sz ∧ va_P (dC, dI) vwCl [(h0, kO10v h1 n0_size n0_place (va_rf o0_law)), (h1, kAi cint 120 f1)] U.heap ∧ va_K (dC, dI) vwCl [(cint, .int)] U ∧ va_D (fun _ => True) [(h0, kO10v h1 n0_size n0_place (va_rf o0_law)), (h1, kAi cint 120 f1)])) (va_Qi (fun (r : Int32) (_ : Unit) => r.toInt = n0_size.toInt + (2 : Int) ∧ (2 ≤ r.toInt ∧ r.toInt ≤ 120)) (fun (_ : Unit) t => ∃ (m0_size : Int32) (g1 : Nat → Int32), (2 ≤ m0_size.toInt ∧ m0_size.toInt ≤ 120) ∧ (∀ j, j < 120 → 0 ≤ (g1 j).toInt ∧ (g1 j).toInt ≤ 255) ∧ (m0_size.toInt = n0_size.toInt + (2 : Int)) ∧ (((0 : Int) = 0 → g1 = (upd (upd f1 (n0_size : Int32).toNatClampNeg (kk_by p1 0)) ((n0_size + 1) : Int32).toNatClampNeg (kk_by p1 8))) ∧ ((0 : Int) = 0 → True)) ∧ va_P (dC, dI) vwCl [(h0, kO10v h1 m0_size n0_place (va_rf o0_law)), (h1, kAi cint 120 g1)] t.heap ∧ va_K (dC, dI) vwCl [] t ∧ va_D (va_A [(h0, kO10v h1 n0_size n0_place (va_rf o0_law)), (h1, kAi cint 120 f1)] sz) [(h0, kO10v h1 m0_size n0_place (va_rf o0_law)), (h1, kAi cint 120 g1)]) (va_A [(h0, kO10v h1 n0_size n0_place (va_rf o0_law)), (h1, kAi cint 120 f1)] sz)) 0 0 (va_A [(h0, kO10v h1 n0_size n0_place (va_rf o0_law)), (h1, kAi cint 120 f1)] sz) := by
  refine Met.ofW (cc := cX10_take) (maxL := 4) (ret := (some .int)) (by decide) rfl ?_
  intro p e s m args below meth c s₁ B hml hv
  obtain ⟨rfl, hsz, hP, hK, hD0⟩ := hv
  have hx := B.exec
  have hb := B.bytes
  have hr := B.returns
  have hts := atoms_spec (ws := wsX10_take) B.pre
  have hown : s.vm.findClass RX10 = some m.cls := findClass_of_methodNamed B.named
  have hlocks := B.notSynchronized
  subst hsz
  have hD := hD0.self (sz := s.heap.size)
  generalize hAe : va_A [(h0, kO10v h1 n0_size n0_place (va_rf o0_law)), (h1, kAi cint 120 f1)] s.heap.size = A at hD ⊢
  have hA : ∀ q : Nat, s.heap.size ≤ q → A q := fun q h => by rw [← hAe]; exact Or.inr h
  have hS : va_S A s.heap s.heap [] := va_S.rf
  replace hP : va_P (dC, dI) vwCl [(h0, kO10v h1 n0_size n0_place (va_rf o0_law)), (h1, kAi cint 120 f1)] s.heap := hP
  have hl := lv_entry ([.ref h0, .int 2, .int p1]) (n := 4) (Nat.le_of_ble_eq_true rfl)
  rw [lg_entry_eq]
  generalize (lg_sl ([.ref h0, .int 2, .int p1]) ++ List.replicate (4 - (lg_sl ([.ref h0, .int 2, .int p1])).length) Slot.unset).toArray = ls at hl ⊢
  replace hl : lv_has ls 4 [(0, .ref h0), (1, .int 2), (2, .int p1)] := hl
  refine lv_iconst (v := 0) hx hb dX10_take_0 kk_ic_0 ?_
  refine lv_istore_n hx hb dX10_take_1 rfl hl (by decide) (rfl : _ = ([(3, .int 0), (0, .ref h0), (1, .int 2), (2, .int p1)] : List (Nat × Value))) (fun ls hl => ?_)
  refine lv_iload_n hx hb dX10_take_2 rfl (lv_at hl 0 rfl) ?_
  refine lv_iload_n hx hb dX10_take_3 rfl (lv_at hl 2 rfl) ?_
  refine lv_icmp_ge (tgt := 48) hx hb dX10_take_4 (by decide) (fun c => absurd c (by decide)) (fun _ => ?_)
  refine lv_aload_n hx hb dX10_take_7 rfl (lv_at hl 1 rfl) ?_
  refine va_get (D := (dC, dI)) (ci := 10) (v := .int n0_size) (C := RX10) (T := TX10) (N := 4) hx hb hts (fun _ h => List.mem_cons_of_mem _ (List.mem_append_right _ h)) hown hK hP 0 rfl rfl 1 (by decide) (hts (.fieldLink RX10 13 "KinkStreet$Tape" "size" "I") (List.mem_of_getElem? (i := 1) rfl)) (fun _ h9 => h9) rfl dX10_take_8 ?_
  refine lv_bipush (v := 120) hx hb dX10_take_11 kk_bi_120 ?_
  refine lv_icmp_ge (tgt := 48) hx hb dX10_take_13 (by decide) (fun c_1 => ?_) (fun c_1 => ?_)
  · have t_1 : 120 ≤ n0_size.toInt := kk_le c_1
    refine lv_aload_n hx hb dX10_take_48 rfl (lv_at hl 1 rfl) ?_
    refine va_get (D := (dC, dI)) (ci := 10) (v := .int n0_size) (C := RX10) (T := TX10) (N := 4) hx hb hts (fun _ h => List.mem_cons_of_mem _ (List.mem_append_right _ h)) hown hK hP 0 rfl rfl 1 (by decide) (hts (.fieldLink RX10 13 "KinkStreet$Tape" "size" "I") (List.mem_of_getElem? (i := 1) rfl)) (fun _ h9 => h9) rfl dX10_take_49 ?_
    obtain ⟨hP9, hD9⟩ := kk_leafout (wc := [(h0, kO10v h1 n0_size n0_place (va_rf o0_law)), (h1, kAi cint 120 f1)]) hP hD [0, 1] (by decide) rfl
    have hK9 := kk_Ks (tq := []) hK [] rfl
    have := kk_add2 (x := n0_size) (y := 1) (a := n0_size.toInt) (b := 1) rfl rfl (by omega) (by omega)
    exact W.iret (v := n0_size) hx hb hr (fun t ht hW => ⟨⟨n0_size, (), rfl, ⟨(by show (n0_size : Int32).toInt = (n0_size : Int32).toInt + (2 : Int); omega), (by show 2 ≤ (n0_size : Int32).toInt ∧ (n0_size : Int32).toInt ≤ 120; first | with_reducible assumption | (constructor <;> (omega)))⟩, n0_size, f1, (by show 2 ≤ (n0_size : Int32).toInt ∧ (n0_size : Int32).toInt ≤ 120; first | with_reducible assumption | (constructor <;> (omega))), bf1, (by show (n0_size : Int32).toInt = (n0_size : Int32).toInt + (2 : Int); first | with_reducible assumption | (omega)), ⟨fun hh => by first | exact rfl | (exfalso; omega), fun hh => by first | exact trivial | (exfalso; omega)⟩, by rw [ht]; exact hP9, va_K.moved hW.alike hK9, hD9⟩, hS.F ht⟩) hS.2.2 dX10_take_52
  · have t_1 : n0_size.toInt < 120 := kk_nle c_1
    refine lv_aload_n hx hb dX10_take_16 rfl (lv_at hl 1 rfl) ?_
    refine va_get (D := (dC, dI)) (ci := 10) (v := .ref h1) (C := RX10) (T := TX10) (N := 4) hx hb hts (fun _ h => List.mem_cons_of_mem _ (List.mem_append_right _ h)) hown hK hP 0 rfl rfl 0 (by decide) (hts (.fieldLink RX10 9 "KinkStreet$Tape" "bytes" "[I") (List.mem_of_getElem? (i := 2) rfl)) (fun _ h9 => h9) rfl dX10_take_17 ?_
    refine lv_aload_n hx hb dX10_take_20 rfl (lv_at hl 1 rfl) ?_
    refine lv_dup hx hb dX10_take_21 rfl ?_
    refine va_get (D := (dC, dI)) (ci := 10) (v := .int n0_size) (C := RX10) (T := TX10) (N := 4) hx hb hts (fun _ h => List.mem_cons_of_mem _ (List.mem_append_right _ h)) hown hK hP 0 rfl rfl 1 (by decide) (hts (.fieldLink RX10 13 "KinkStreet$Tape" "size" "I") (List.mem_of_getElem? (i := 1) rfl)) (fun _ h9 => h9) rfl dX10_take_22 ?_
    refine lv_dup_x1 hx hb dX10_take_25 rfl rfl ?_
    refine lv_iconst (v := 1) hx hb dX10_take_26 kk_ic_1 ?_
    refine lv_iadd hx hb dX10_take_27 ?_
    refine va_put (D := (dC, dI)) (ci := 10) (v := .int (n0_size + 1)) (ty := .int) (C := RX10) (T := TX10) (N := 4) hx hb hts (fun _ h => List.mem_cons_of_mem _ (List.mem_append_right _ h)) tyX10 tyX10_ok nmX10 hown hK hP hD hS 0 rfl rfl 1 (by decide) (hts (.fieldLink RX10 13 "KinkStreet$Tape" "size" "I") (List.mem_of_getElem? (i := 1) rfl)) (fun _ h9 => h9) rfl (by decide +kernel) rfl rfl (Nat.le_of_ble_eq_true rfl) dX10_take_28 (fun H locs hP hD hS => ?_)
    replace hP : va_P (dC, dI) vwCl [(h0, kO10v h1 (n0_size + 1) n0_place (va_rf o0_law)), (h1, kAi cint 120 f1)] H := hP
    replace hD : va_D A [(h0, kO10v h1 (n0_size + 1) n0_place (va_rf o0_law)), (h1, kAi cint 120 f1)] := hD
    refine lv_iload_n hx hb dX10_take_31 rfl (lv_at hl 3 rfl) ?_
    refine lv_bipush (v := 8) hx hb dX10_take_32 kk_bi_8 ?_
    refine lv_iload_n hx hb dX10_take_34 rfl (lv_at hl 0 rfl) ?_
    refine lv_imul hx hb dX10_take_35 ?_
    refine lv_topi (fun y_2 e_2 => ?_)
    obtain rfl : y_2 = 0 := e_2.trans (by decide)
    refine lv_iushr hx hb dX10_take_36 rfl ?_
    refine lv_sipush (v := 255) hx hb dX10_take_37 kk_si_255 ?_
    refine lv_iand hx hb dX10_take_40 ?_
    refine lv_topi (fun y_3 e_3 => ?_)
    obtain rfl : y_3 = (kk_by p1 0) := e_3.trans rfl
    have t_3 : 0 ≤ (kk_by p1 0).toInt ∧ (kk_by p1 0).toInt ≤ 255 := kk_by_b _ _
    have := kk_add2 (x := n0_size) (y := 1) (a := n0_size.toInt) (b := 1) rfl rfl (by omega) (by omega)
    refine va_iast hx hb hK hP hD hS 1 0 rfl rfl (vp_in_iff.mpr ⟨by omega, by omega⟩) dX10_take_41 (fun H locs hP hD hS => ?_)
    have w_4 : ((upd f1 (n0_size : Int32).toNatClampNeg (kk_by p1 0)) (n0_size : Int32).toNatClampNeg).toInt = ((kk_by p1 0) : Int32).toInt := by rw [kk_ups]
    have b_4 := kk_upb (k := (n0_size : Int32).toNatClampNeg) bf1 (show 0 ≤ ((kk_by p1 0) : Int32).toInt ∧ ((kk_by p1 0) : Int32).toInt ≤ 255 from by first | with_reducible assumption | decide | (constructor <;> (omega)))
    replace hP : va_P (dC, dI) vwCl [(h0, kO10v h1 (n0_size + 1) n0_place (va_rf o0_law)), (h1, kAi cint 120 (upd f1 (n0_size : Int32).toNatClampNeg (kk_by p1 0)))] H := hP
    replace hD : va_D A [(h0, kO10v h1 (n0_size + 1) n0_place (va_rf o0_law)), (h1, kAi cint 120 (upd f1 (n0_size : Int32).toNatClampNeg (kk_by p1 0)))] := hD
    refine lv_iinc (v := 1) hx hb dX10_take_42 hl (k := 0) rfl (by first | rfl | decide) (by decide) (rfl : _ = ([(3, .int 1), (0, .ref h0), (1, .int 2), (2, .int p1)] : List (Nat × Value))) (fun ls hl => ?_)
    refine lv_goto (tgt := 2) hx hb dX10_take_45 (by decide) ?_
    refine lv_iload_n hx hb dX10_take_2 rfl (lv_at hl 0 rfl) ?_
    refine lv_iload_n hx hb dX10_take_3 rfl (lv_at hl 2 rfl) ?_
    refine lv_icmp_ge (tgt := 48) hx hb dX10_take_4 (by decide) (fun c => absurd c (by decide)) (fun _ => ?_)
    refine lv_aload_n hx hb dX10_take_7 rfl (lv_at hl 1 rfl) ?_
    refine va_get (D := (dC, dI)) (ci := 10) (v := .int (n0_size + 1)) (C := RX10) (T := TX10) (N := 4) hx hb hts (fun _ h => List.mem_cons_of_mem _ (List.mem_append_right _ h)) hown hK hP 0 rfl rfl 1 (by decide) (hts (.fieldLink RX10 13 "KinkStreet$Tape" "size" "I") (List.mem_of_getElem? (i := 1) rfl)) (fun _ h9 => h9) rfl dX10_take_8 ?_
    refine lv_bipush (v := 120) hx hb dX10_take_11 kk_bi_120 ?_
    refine lv_icmp_ge (tgt := 48) hx hb dX10_take_13 (by decide) (fun c_5 => ?_) (fun c_5 => ?_)
    · have t_5 : 120 ≤ (n0_size + 1).toInt := kk_le c_5
      refine lv_aload_n hx hb dX10_take_48 rfl (lv_at hl 1 rfl) ?_
      refine va_get (D := (dC, dI)) (ci := 10) (v := .int (n0_size + 1)) (C := RX10) (T := TX10) (N := 4) hx hb hts (fun _ h => List.mem_cons_of_mem _ (List.mem_append_right _ h)) hown hK hP 0 rfl rfl 1 (by decide) (hts (.fieldLink RX10 13 "KinkStreet$Tape" "size" "I") (List.mem_of_getElem? (i := 1) rfl)) (fun _ h9 => h9) rfl dX10_take_49 ?_
      obtain ⟨hP9, hD9⟩ := kk_leafout (wc := [(h0, kO10v h1 (n0_size + 1) n0_place (va_rf o0_law)), (h1, kAi cint 120 (upd f1 (n0_size : Int32).toNatClampNeg (kk_by p1 0)))]) hP hD [0, 1] (by decide) rfl
      have hK9 := kk_Ks (tq := []) hK [] rfl
      exact W.iret (v := (n0_size + 1)) hx hb hr (fun t ht hW => ⟨⟨(n0_size + 1), (), rfl, ⟨(by show ((n0_size + 1) : Int32).toInt = (n0_size : Int32).toInt + (2 : Int); omega), (by show 2 ≤ ((n0_size + 1) : Int32).toInt ∧ ((n0_size + 1) : Int32).toInt ≤ 120; first | with_reducible assumption | (constructor <;> (omega)))⟩, (n0_size + 1), (upd f1 (n0_size : Int32).toNatClampNeg (kk_by p1 0)), (by show 2 ≤ ((n0_size + 1) : Int32).toInt ∧ ((n0_size + 1) : Int32).toInt ≤ 120; first | with_reducible assumption | (constructor <;> (omega))), b_4, (by show ((n0_size + 1) : Int32).toInt = (n0_size : Int32).toInt + (2 : Int); first | with_reducible assumption | (omega)), ⟨fun hh => by first | exact rfl | (exfalso; omega), fun hh => by first | exact trivial | (exfalso; omega)⟩, by rw [ht]; exact hP9, va_K.moved hW.alike hK9, hD9⟩, hS.F ht⟩) hS.2.2 dX10_take_52
    · have t_5 : (n0_size + 1).toInt < 120 := kk_nle c_5
      refine lv_aload_n hx hb dX10_take_16 rfl (lv_at hl 1 rfl) ?_
      refine va_get (D := (dC, dI)) (ci := 10) (v := .ref h1) (C := RX10) (T := TX10) (N := 4) hx hb hts (fun _ h => List.mem_cons_of_mem _ (List.mem_append_right _ h)) hown hK hP 0 rfl rfl 0 (by decide) (hts (.fieldLink RX10 9 "KinkStreet$Tape" "bytes" "[I") (List.mem_of_getElem? (i := 2) rfl)) (fun _ h9 => h9) rfl dX10_take_17 ?_
      refine lv_aload_n hx hb dX10_take_20 rfl (lv_at hl 1 rfl) ?_
      refine lv_dup hx hb dX10_take_21 rfl ?_
      refine va_get (D := (dC, dI)) (ci := 10) (v := .int (n0_size + 1)) (C := RX10) (T := TX10) (N := 4) hx hb hts (fun _ h => List.mem_cons_of_mem _ (List.mem_append_right _ h)) hown hK hP 0 rfl rfl 1 (by decide) (hts (.fieldLink RX10 13 "KinkStreet$Tape" "size" "I") (List.mem_of_getElem? (i := 1) rfl)) (fun _ h9 => h9) rfl dX10_take_22 ?_
      refine lv_dup_x1 hx hb dX10_take_25 rfl rfl ?_
      refine lv_iconst (v := 1) hx hb dX10_take_26 kk_ic_1 ?_
      refine lv_iadd hx hb dX10_take_27 ?_
      refine va_put (D := (dC, dI)) (ci := 10) (v := .int ((n0_size + 1) + 1)) (ty := .int) (C := RX10) (T := TX10) (N := 4) hx hb hts (fun _ h => List.mem_cons_of_mem _ (List.mem_append_right _ h)) tyX10 tyX10_ok nmX10 hown hK hP hD hS 0 rfl rfl 1 (by decide) (hts (.fieldLink RX10 13 "KinkStreet$Tape" "size" "I") (List.mem_of_getElem? (i := 1) rfl)) (fun _ h9 => h9) rfl (by decide +kernel) rfl rfl (Nat.le_of_ble_eq_true rfl) dX10_take_28 (fun H locs hP hD hS => ?_)
      replace hP : va_P (dC, dI) vwCl [(h0, kO10v h1 ((n0_size + 1) + 1) n0_place (va_rf o0_law)), (h1, kAi cint 120 (upd f1 (n0_size : Int32).toNatClampNeg (kk_by p1 0)))] H := hP
      replace hD : va_D A [(h0, kO10v h1 ((n0_size + 1) + 1) n0_place (va_rf o0_law)), (h1, kAi cint 120 (upd f1 (n0_size : Int32).toNatClampNeg (kk_by p1 0)))] := hD
      refine lv_iload_n hx hb dX10_take_31 rfl (lv_at hl 3 rfl) ?_
      refine lv_bipush (v := 8) hx hb dX10_take_32 kk_bi_8 ?_
      refine lv_iload_n hx hb dX10_take_34 rfl (lv_at hl 0 rfl) ?_
      refine lv_imul hx hb dX10_take_35 ?_
      refine lv_topi (fun y_6 e_6 => ?_)
      obtain rfl : y_6 = 8 := e_6.trans (by decide)
      refine lv_iushr hx hb dX10_take_36 rfl ?_
      refine lv_sipush (v := 255) hx hb dX10_take_37 kk_si_255 ?_
      refine lv_iand hx hb dX10_take_40 ?_
      refine lv_topi (fun y_7 e_7 => ?_)
      obtain rfl : y_7 = (kk_by p1 8) := e_7.trans rfl
      have t_7 : 0 ≤ (kk_by p1 8).toInt ∧ (kk_by p1 8).toInt ≤ 255 := kk_by_b _ _
      have := kk_add2 (x := (n0_size + 1)) (y := 1) (a := (n0_size + 1).toInt) (b := 1) rfl rfl (by omega) (by omega)
      refine va_iast hx hb hK hP hD hS 1 0 rfl rfl (vp_in_iff.mpr ⟨by omega, by omega⟩) dX10_take_41 (fun H locs hP hD hS => ?_)
      have w_8 : ((upd (upd f1 (n0_size : Int32).toNatClampNeg (kk_by p1 0)) ((n0_size + 1) : Int32).toNatClampNeg (kk_by p1 8)) ((n0_size + 1) : Int32).toNatClampNeg).toInt = ((kk_by p1 8) : Int32).toInt := by rw [kk_ups]
      have b_8 := kk_upb (k := ((n0_size + 1) : Int32).toNatClampNeg) b_4 (show 0 ≤ ((kk_by p1 8) : Int32).toInt ∧ ((kk_by p1 8) : Int32).toInt ≤ 255 from by first | with_reducible assumption | decide | (constructor <;> (omega)))
      replace hP : va_P (dC, dI) vwCl [(h0, kO10v h1 ((n0_size + 1) + 1) n0_place (va_rf o0_law)), (h1, kAi cint 120 (upd (upd f1 (n0_size : Int32).toNatClampNeg (kk_by p1 0)) ((n0_size + 1) : Int32).toNatClampNeg (kk_by p1 8)))] H := hP
      replace hD : va_D A [(h0, kO10v h1 ((n0_size + 1) + 1) n0_place (va_rf o0_law)), (h1, kAi cint 120 (upd (upd f1 (n0_size : Int32).toNatClampNeg (kk_by p1 0)) ((n0_size + 1) : Int32).toNatClampNeg (kk_by p1 8)))] := hD
      refine lv_iinc (v := 2) hx hb dX10_take_42 hl (k := 0) rfl (by first | rfl | decide) (by decide) (rfl : _ = ([(3, .int 2), (0, .ref h0), (1, .int 2), (2, .int p1)] : List (Nat × Value))) (fun ls hl => ?_)
      refine lv_goto (tgt := 2) hx hb dX10_take_45 (by decide) ?_
      refine lv_iload_n hx hb dX10_take_2 rfl (lv_at hl 0 rfl) ?_
      refine lv_iload_n hx hb dX10_take_3 rfl (lv_at hl 2 rfl) ?_
      refine lv_icmp_ge (tgt := 48) hx hb dX10_take_4 (by decide) (fun _ => ?_) (fun c => absurd c (by decide))
      refine lv_aload_n hx hb dX10_take_48 rfl (lv_at hl 1 rfl) ?_
      refine va_get (D := (dC, dI)) (ci := 10) (v := .int ((n0_size + 1) + 1)) (C := RX10) (T := TX10) (N := 4) hx hb hts (fun _ h => List.mem_cons_of_mem _ (List.mem_append_right _ h)) hown hK hP 0 rfl rfl 1 (by decide) (hts (.fieldLink RX10 13 "KinkStreet$Tape" "size" "I") (List.mem_of_getElem? (i := 1) rfl)) (fun _ h9 => h9) rfl dX10_take_49 ?_
      obtain ⟨hP9, hD9⟩ := kk_leafout (wc := [(h0, kO10v h1 ((n0_size + 1) + 1) n0_place (va_rf o0_law)), (h1, kAi cint 120 (upd (upd f1 (n0_size : Int32).toNatClampNeg (kk_by p1 0)) ((n0_size + 1) : Int32).toNatClampNeg (kk_by p1 8)))]) hP hD [0, 1] (by decide) rfl
      have hK9 := kk_Ks (tq := []) hK [] rfl
      exact W.iret (v := ((n0_size + 1) + 1)) hx hb hr (fun t ht hW => ⟨⟨((n0_size + 1) + 1), (), rfl, ⟨(by show (((n0_size + 1) + 1) : Int32).toInt = (n0_size : Int32).toInt + (2 : Int); omega), (by show 2 ≤ (((n0_size + 1) + 1) : Int32).toInt ∧ (((n0_size + 1) + 1) : Int32).toInt ≤ 120; first | with_reducible assumption | (constructor <;> (omega)))⟩, ((n0_size + 1) + 1), (upd (upd f1 (n0_size : Int32).toNatClampNeg (kk_by p1 0)) ((n0_size + 1) : Int32).toNatClampNeg (kk_by p1 8)), (by show 2 ≤ (((n0_size + 1) + 1) : Int32).toInt ∧ (((n0_size + 1) + 1) : Int32).toInt ≤ 120; first | with_reducible assumption | (constructor <;> (omega))), b_8, (by show (((n0_size + 1) + 1) : Int32).toInt = (n0_size : Int32).toInt + (2 : Int); first | with_reducible assumption | (omega)), ⟨fun hh => by first | exact rfl | (exfalso; omega), fun hh => by first | exact trivial | (exfalso; omega)⟩, by rw [ht]; exact hP9, va_K.moved hW.alike hK9, hD9⟩, hS.F ht⟩) hS.2.2 dX10_take_52
set_option maxHeartbeats 4000000 in
set_option maxRecDepth 100000 in
theorem g_X10_take_3 (l : Launch) (dC : Nat → ClassId) (dI : Nat → Nat → Nat) (h0 : Nat) (h1 : Nat) (cint : ClassId) (sz : Nat) (p1 : Int32) (n0_size : Int32) (n0_place : Int32) (o0_law : Option Nat) (f1 : Nat → Int32) (tn0_size : 0 ≤ n0_size.toInt ∧ n0_size.toInt ≤ 120) (bf1 : ∀ j, j < 120 → 0 ≤ (f1 j).toInt ∧ (f1 j).toInt ≤ 255) (pr0 : (n0_size.toInt + (3 : Int) ≤ 120)) : Met l yX10_take wsX10_take ({ frames := 0, cells := 0, slots := 0, locals := 0 }) (va_Pc [.ref h0, .int 3, .int p1] (fun U => U.heap.size = sz ∧ va_P (dC, dI) vwCl [(h0, kO10v h1 n0_size n0_place (va_rf o0_law)), (h1, kAi cint 120 f1)] U.heap ∧ va_K (dC, dI) vwCl [(cint, .int)] U ∧ va_D (fun _ => True) [(h0, kO10v h1 n0_size n0_place (va_rf o0_law)), (h1, kAi cint 120 f1)])) (va_Qi (fun (r : Int32) (_ : Unit) => r.toInt = n0_size.toInt + (3 : Int) ∧ (3 ≤ r.toInt ∧ r.toInt ≤ 120)) (fun (_ : Unit) t => ∃ (m0_size : Int32) (g1 : Nat → Int32), (3 ≤ m0_size.toInt ∧ m0_size.toInt ≤ 120) ∧ (∀ j, j < 120 → 0 ≤ (g1 j).toInt ∧ (g1 j).toInt ≤ 255) ∧ (m0_size.toInt = n0_size.toInt + (3 : Int)) ∧ (((0 : Int) = 0 → g1 = (upd (upd (upd f1 (n0_size : Int32).toNatClampNeg (kk_by p1 0)) ((n0_size + 1) : Int32).toNatClampNeg (kk_by p1 8)) (((n0_size + 1) + 1) : Int32).toNatClampNeg (kk_by p1 16))) ∧ ((0 : Int) = 0 → True)) ∧ va_P (dC, dI) vwCl [(h0, kO10v h1 m0_size n0_place (va_rf o0_law)), (h1, kAi cint 120 g1)] t.heap ∧ va_K (dC, dI) vwCl [] t ∧ va_D (va_A [(h0, kO10v h1 n0_size n0_place (va_rf o0_law)), (h1, kAi cint 120 f1)] sz) [(h0, kO10v h1 m0_size n0_place (va_rf o0_law)), (h1, kAi cint 120 g1)]) (va_A [(h0, kO10v h1 n0_size n0_place (va_rf o0_law)), (h1, kAi cint 120 f1)] sz)) 0 0 (va_A [(h0, kO10v h1 n0_size n0_place (va_rf o0_law)), (h1, kAi cint 120 f1)] sz) := by
  refine Met.ofW (cc := cX10_take) (maxL := 4) (ret := (some .int)) (by decide) rfl ?_
  intro p e s m args below meth c s₁ B hml hv
  obtain ⟨rfl, hsz, hP, hK, hD0⟩ := hv
  have hx := B.exec
  have hb := B.bytes
  have hr := B.returns
  have hts := atoms_spec (ws := wsX10_take) B.pre
  have hown : s.vm.findClass RX10 = some m.cls := findClass_of_methodNamed B.named
  have hlocks := B.notSynchronized
  subst hsz
  have hD := hD0.self (sz := s.heap.size)
  generalize hAe : va_A [(h0, kO10v h1 n0_size n0_place (va_rf o0_law)), (h1, kAi cint 120 f1)] s.heap.size = A at hD ⊢
  have hA : ∀ q : Nat, s.heap.size ≤ q → A q := fun q h => by rw [← hAe]; exact Or.inr h
  have hS : va_S A s.heap s.heap [] := va_S.rf
  replace hP : va_P (dC, dI) vwCl [(h0, kO10v h1 n0_size n0_place (va_rf o0_law)), (h1, kAi cint 120 f1)] s.heap := hP
  have hl := lv_entry ([.ref h0, .int 3, .int p1]) (n := 4) (Nat.le_of_ble_eq_true rfl)
  rw [lg_entry_eq]
  generalize (lg_sl ([.ref h0, .int 3, .int p1]) ++ List.replicate (4 - (lg_sl ([.ref h0, .int 3, .int p1])).length) Slot.unset).toArray = ls at hl ⊢
  replace hl : lv_has ls 4 [(0, .ref h0), (1, .int 3), (2, .int p1)] := hl
  refine lv_iconst (v := 0) hx hb dX10_take_0 kk_ic_0 ?_
  refine lv_istore_n hx hb dX10_take_1 rfl hl (by decide) (rfl : _ = ([(3, .int 0), (0, .ref h0), (1, .int 3), (2, .int p1)] : List (Nat × Value))) (fun ls hl => ?_)
  refine lv_iload_n hx hb dX10_take_2 rfl (lv_at hl 0 rfl) ?_
  refine lv_iload_n hx hb dX10_take_3 rfl (lv_at hl 2 rfl) ?_
  refine lv_icmp_ge (tgt := 48) hx hb dX10_take_4 (by decide) (fun c => absurd c (by decide)) (fun _ => ?_)
  refine lv_aload_n hx hb dX10_take_7 rfl (lv_at hl 1 rfl) ?_
  refine va_get (D := (dC, dI)) (ci := 10) (v := .int n0_size) (C := RX10) (T := TX10) (N := 4) hx hb hts (fun _ h => List.mem_cons_of_mem _ (List.mem_append_right _ h)) hown hK hP 0 rfl rfl 1 (by decide) (hts (.fieldLink RX10 13 "KinkStreet$Tape" "size" "I") (List.mem_of_getElem? (i := 1) rfl)) (fun _ h9 => h9) rfl dX10_take_8 ?_
  refine lv_bipush (v := 120) hx hb dX10_take_11 kk_bi_120 ?_
  refine lv_icmp_ge (tgt := 48) hx hb dX10_take_13 (by decide) (fun c_1 => ?_) (fun c_1 => ?_)
  · have t_1 : 120 ≤ n0_size.toInt := kk_le c_1
    refine lv_aload_n hx hb dX10_take_48 rfl (lv_at hl 1 rfl) ?_
    refine va_get (D := (dC, dI)) (ci := 10) (v := .int n0_size) (C := RX10) (T := TX10) (N := 4) hx hb hts (fun _ h => List.mem_cons_of_mem _ (List.mem_append_right _ h)) hown hK hP 0 rfl rfl 1 (by decide) (hts (.fieldLink RX10 13 "KinkStreet$Tape" "size" "I") (List.mem_of_getElem? (i := 1) rfl)) (fun _ h9 => h9) rfl dX10_take_49 ?_
    obtain ⟨hP9, hD9⟩ := kk_leafout (wc := [(h0, kO10v h1 n0_size n0_place (va_rf o0_law)), (h1, kAi cint 120 f1)]) hP hD [0, 1] (by decide) rfl
    have hK9 := kk_Ks (tq := []) hK [] rfl
    have := kk_add2 (x := n0_size) (y := 1) (a := n0_size.toInt) (b := 1) rfl rfl (by omega) (by omega)
    have := kk_add2 (x := (n0_size + 1)) (y := 1) (a := (n0_size + 1).toInt) (b := 1) rfl rfl (by omega) (by omega)
    exact W.iret (v := n0_size) hx hb hr (fun t ht hW => ⟨⟨n0_size, (), rfl, ⟨(by show (n0_size : Int32).toInt = (n0_size : Int32).toInt + (3 : Int); omega), (by show 3 ≤ (n0_size : Int32).toInt ∧ (n0_size : Int32).toInt ≤ 120; first | with_reducible assumption | (constructor <;> (omega)))⟩, n0_size, f1, (by show 3 ≤ (n0_size : Int32).toInt ∧ (n0_size : Int32).toInt ≤ 120; first | with_reducible assumption | (constructor <;> (omega))), bf1, (by show (n0_size : Int32).toInt = (n0_size : Int32).toInt + (3 : Int); first | with_reducible assumption | (omega)), ⟨fun hh => by first | exact rfl | (exfalso; omega), fun hh => by first | exact trivial | (exfalso; omega)⟩, by rw [ht]; exact hP9, va_K.moved hW.alike hK9, hD9⟩, hS.F ht⟩) hS.2.2 dX10_take_52
  · have t_1 : n0_size.toInt < 120 := kk_nle c_1
    refine lv_aload_n hx hb dX10_take_16 rfl (lv_at hl 1 rfl) ?_
    refine va_get (D := (dC, dI)) (ci := 10) (v := .ref h1) (C := RX10) (T := TX10) (N := 4) hx hb hts (fun _ h => List.mem_cons_of_mem _ (List.mem_append_right _ h)) hown hK hP 0 rfl rfl 0 (by decide) (hts (.fieldLink RX10 9 "KinkStreet$Tape" "bytes" "[I") (List.mem_of_getElem? (i := 2) rfl)) (fun _ h9 => h9) rfl dX10_take_17 ?_
    refine lv_aload_n hx hb dX10_take_20 rfl (lv_at hl 1 rfl) ?_
    refine lv_dup hx hb dX10_take_21 rfl ?_
    refine va_get (D := (dC, dI)) (ci := 10) (v := .int n0_size) (C := RX10) (T := TX10) (N := 4) hx hb hts (fun _ h => List.mem_cons_of_mem _ (List.mem_append_right _ h)) hown hK hP 0 rfl rfl 1 (by decide) (hts (.fieldLink RX10 13 "KinkStreet$Tape" "size" "I") (List.mem_of_getElem? (i := 1) rfl)) (fun _ h9 => h9) rfl dX10_take_22 ?_
    refine lv_dup_x1 hx hb dX10_take_25 rfl rfl ?_
    refine lv_iconst (v := 1) hx hb dX10_take_26 kk_ic_1 ?_
    refine lv_iadd hx hb dX10_take_27 ?_
    refine va_put (D := (dC, dI)) (ci := 10) (v := .int (n0_size + 1)) (ty := .int) (C := RX10) (T := TX10) (N := 4) hx hb hts (fun _ h => List.mem_cons_of_mem _ (List.mem_append_right _ h)) tyX10 tyX10_ok nmX10 hown hK hP hD hS 0 rfl rfl 1 (by decide) (hts (.fieldLink RX10 13 "KinkStreet$Tape" "size" "I") (List.mem_of_getElem? (i := 1) rfl)) (fun _ h9 => h9) rfl (by decide +kernel) rfl rfl (Nat.le_of_ble_eq_true rfl) dX10_take_28 (fun H locs hP hD hS => ?_)
    replace hP : va_P (dC, dI) vwCl [(h0, kO10v h1 (n0_size + 1) n0_place (va_rf o0_law)), (h1, kAi cint 120 f1)] H := hP
    replace hD : va_D A [(h0, kO10v h1 (n0_size + 1) n0_place (va_rf o0_law)), (h1, kAi cint 120 f1)] := hD
    refine lv_iload_n hx hb dX10_take_31 rfl (lv_at hl 3 rfl) ?_
    refine lv_bipush (v := 8) hx hb dX10_take_32 kk_bi_8 ?_
    refine lv_iload_n hx hb dX10_take_34 rfl (lv_at hl 0 rfl) ?_
    refine lv_imul hx hb dX10_take_35 ?_
    refine lv_topi (fun y_2 e_2 => ?_)
    obtain rfl : y_2 = 0 := e_2.trans (by decide)
    refine lv_iushr hx hb dX10_take_36 rfl ?_
    refine lv_sipush (v := 255) hx hb dX10_take_37 kk_si_255 ?_
    refine lv_iand hx hb dX10_take_40 ?_
    refine lv_topi (fun y_3 e_3 => ?_)
    obtain rfl : y_3 = (kk_by p1 0) := e_3.trans rfl
    have t_3 : 0 ≤ (kk_by p1 0).toInt ∧ (kk_by p1 0).toInt ≤ 255 := kk_by_b _ _
    have := kk_add2 (x := n0_size) (y := 1) (a := n0_size.toInt) (b := 1) rfl rfl (by omega) (by omega)
    refine va_iast hx hb hK hP hD hS 1 0 rfl rfl (vp_in_iff.mpr ⟨by omega, by omega⟩) dX10_take_41 (fun H locs hP hD hS => ?_)
    have w_4 : ((upd f1 (n0_size : Int32).toNatClampNeg (kk_by p1 0)) (n0_size : Int32).toNatClampNeg).toInt = ((kk_by p1 0) : Int32).toInt := by rw [kk_ups]
    have b_4 := kk_upb (k := (n0_size : Int32).toNatClampNeg) bf1 (show 0 ≤ ((kk_by p1 0) : Int32).toInt ∧ ((kk_by p1 0) : Int32).toInt ≤ 255 from by first | with_reducible assumption | decide | (constructor <;> (omega)))
    replace hP : va_P (dC, dI) vwCl [(h0, kO10v h1 (n0_size + 1) n0_place (va_rf o0_law)), (h1, kAi cint 120 (upd f1 (n0_size : Int32).toNatClampNeg (kk_by p1 0)))] H := hP
    replace hD : va_D A [(h0, kO10v h1 (n0_size + 1) n0_place (va_rf o0_law)), (h1, kAi cint 120 (upd f1 (n0_size : Int32).toNatClampNeg (kk_by p1 0)))] := hD
    refine lv_iinc (v := 1) hx hb dX10_take_42 hl (k := 0) rfl (by first | rfl | decide) (by decide) (rfl : _ = ([(3, .int 1), (0, .ref h0), (1, .int 3), (2, .int p1)] : List (Nat × Value))) (fun ls hl => ?_)
    refine lv_goto (tgt := 2) hx hb dX10_take_45 (by decide) ?_
    refine lv_iload_n hx hb dX10_take_2 rfl (lv_at hl 0 rfl) ?_
    refine lv_iload_n hx hb dX10_take_3 rfl (lv_at hl 2 rfl) ?_
    refine lv_icmp_ge (tgt := 48) hx hb dX10_take_4 (by decide) (fun c => absurd c (by decide)) (fun _ => ?_)
    refine lv_aload_n hx hb dX10_take_7 rfl (lv_at hl 1 rfl) ?_
    refine va_get (D := (dC, dI)) (ci := 10) (v := .int (n0_size + 1)) (C := RX10) (T := TX10) (N := 4) hx hb hts (fun _ h => List.mem_cons_of_mem _ (List.mem_append_right _ h)) hown hK hP 0 rfl rfl 1 (by decide) (hts (.fieldLink RX10 13 "KinkStreet$Tape" "size" "I") (List.mem_of_getElem? (i := 1) rfl)) (fun _ h9 => h9) rfl dX10_take_8 ?_
    refine lv_bipush (v := 120) hx hb dX10_take_11 kk_bi_120 ?_
    refine lv_icmp_ge (tgt := 48) hx hb dX10_take_13 (by decide) (fun c_5 => ?_) (fun c_5 => ?_)
    · have t_5 : 120 ≤ (n0_size + 1).toInt := kk_le c_5
      refine lv_aload_n hx hb dX10_take_48 rfl (lv_at hl 1 rfl) ?_
      refine va_get (D := (dC, dI)) (ci := 10) (v := .int (n0_size + 1)) (C := RX10) (T := TX10) (N := 4) hx hb hts (fun _ h => List.mem_cons_of_mem _ (List.mem_append_right _ h)) hown hK hP 0 rfl rfl 1 (by decide) (hts (.fieldLink RX10 13 "KinkStreet$Tape" "size" "I") (List.mem_of_getElem? (i := 1) rfl)) (fun _ h9 => h9) rfl dX10_take_49 ?_
      obtain ⟨hP9, hD9⟩ := kk_leafout (wc := [(h0, kO10v h1 (n0_size + 1) n0_place (va_rf o0_law)), (h1, kAi cint 120 (upd f1 (n0_size : Int32).toNatClampNeg (kk_by p1 0)))]) hP hD [0, 1] (by decide) rfl
      have hK9 := kk_Ks (tq := []) hK [] rfl
      have := kk_add2 (x := (n0_size + 1)) (y := 1) (a := (n0_size + 1).toInt) (b := 1) rfl rfl (by omega) (by omega)
      exact W.iret (v := (n0_size + 1)) hx hb hr (fun t ht hW => ⟨⟨(n0_size + 1), (), rfl, ⟨(by show ((n0_size + 1) : Int32).toInt = (n0_size : Int32).toInt + (3 : Int); omega), (by show 3 ≤ ((n0_size + 1) : Int32).toInt ∧ ((n0_size + 1) : Int32).toInt ≤ 120; first | with_reducible assumption | (constructor <;> (omega)))⟩, (n0_size + 1), (upd f1 (n0_size : Int32).toNatClampNeg (kk_by p1 0)), (by show 3 ≤ ((n0_size + 1) : Int32).toInt ∧ ((n0_size + 1) : Int32).toInt ≤ 120; first | with_reducible assumption | (constructor <;> (omega))), b_4, (by show ((n0_size + 1) : Int32).toInt = (n0_size : Int32).toInt + (3 : Int); first | with_reducible assumption | (omega)), ⟨fun hh => by first | exact rfl | (exfalso; omega), fun hh => by first | exact trivial | (exfalso; omega)⟩, by rw [ht]; exact hP9, va_K.moved hW.alike hK9, hD9⟩, hS.F ht⟩) hS.2.2 dX10_take_52
    · have t_5 : (n0_size + 1).toInt < 120 := kk_nle c_5
      refine lv_aload_n hx hb dX10_take_16 rfl (lv_at hl 1 rfl) ?_
      refine va_get (D := (dC, dI)) (ci := 10) (v := .ref h1) (C := RX10) (T := TX10) (N := 4) hx hb hts (fun _ h => List.mem_cons_of_mem _ (List.mem_append_right _ h)) hown hK hP 0 rfl rfl 0 (by decide) (hts (.fieldLink RX10 9 "KinkStreet$Tape" "bytes" "[I") (List.mem_of_getElem? (i := 2) rfl)) (fun _ h9 => h9) rfl dX10_take_17 ?_
      refine lv_aload_n hx hb dX10_take_20 rfl (lv_at hl 1 rfl) ?_
      refine lv_dup hx hb dX10_take_21 rfl ?_
      refine va_get (D := (dC, dI)) (ci := 10) (v := .int (n0_size + 1)) (C := RX10) (T := TX10) (N := 4) hx hb hts (fun _ h => List.mem_cons_of_mem _ (List.mem_append_right _ h)) hown hK hP 0 rfl rfl 1 (by decide) (hts (.fieldLink RX10 13 "KinkStreet$Tape" "size" "I") (List.mem_of_getElem? (i := 1) rfl)) (fun _ h9 => h9) rfl dX10_take_22 ?_
      refine lv_dup_x1 hx hb dX10_take_25 rfl rfl ?_
      refine lv_iconst (v := 1) hx hb dX10_take_26 kk_ic_1 ?_
      refine lv_iadd hx hb dX10_take_27 ?_
      refine va_put (D := (dC, dI)) (ci := 10) (v := .int ((n0_size + 1) + 1)) (ty := .int) (C := RX10) (T := TX10) (N := 4) hx hb hts (fun _ h => List.mem_cons_of_mem _ (List.mem_append_right _ h)) tyX10 tyX10_ok nmX10 hown hK hP hD hS 0 rfl rfl 1 (by decide) (hts (.fieldLink RX10 13 "KinkStreet$Tape" "size" "I") (List.mem_of_getElem? (i := 1) rfl)) (fun _ h9 => h9) rfl (by decide +kernel) rfl rfl (Nat.le_of_ble_eq_true rfl) dX10_take_28 (fun H locs hP hD hS => ?_)
      replace hP : va_P (dC, dI) vwCl [(h0, kO10v h1 ((n0_size + 1) + 1) n0_place (va_rf o0_law)), (h1, kAi cint 120 (upd f1 (n0_size : Int32).toNatClampNeg (kk_by p1 0)))] H := hP
      replace hD : va_D A [(h0, kO10v h1 ((n0_size + 1) + 1) n0_place (va_rf o0_law)), (h1, kAi cint 120 (upd f1 (n0_size : Int32).toNatClampNeg (kk_by p1 0)))] := hD
      refine lv_iload_n hx hb dX10_take_31 rfl (lv_at hl 3 rfl) ?_
      refine lv_bipush (v := 8) hx hb dX10_take_32 kk_bi_8 ?_
      refine lv_iload_n hx hb dX10_take_34 rfl (lv_at hl 0 rfl) ?_
      refine lv_imul hx hb dX10_take_35 ?_
      refine lv_topi (fun y_6 e_6 => ?_)
      obtain rfl : y_6 = 8 := e_6.trans (by decide)
      refine lv_iushr hx hb dX10_take_36 rfl ?_
      refine lv_sipush (v := 255) hx hb dX10_take_37 kk_si_255 ?_
      refine lv_iand hx hb dX10_take_40 ?_
      refine lv_topi (fun y_7 e_7 => ?_)
      obtain rfl : y_7 = (kk_by p1 8) := e_7.trans rfl
      have t_7 : 0 ≤ (kk_by p1 8).toInt ∧ (kk_by p1 8).toInt ≤ 255 := kk_by_b _ _
      have := kk_add2 (x := (n0_size + 1)) (y := 1) (a := (n0_size + 1).toInt) (b := 1) rfl rfl (by omega) (by omega)
      refine va_iast hx hb hK hP hD hS 1 0 rfl rfl (vp_in_iff.mpr ⟨by omega, by omega⟩) dX10_take_41 (fun H locs hP hD hS => ?_)
      have w_8 : ((upd (upd f1 (n0_size : Int32).toNatClampNeg (kk_by p1 0)) ((n0_size + 1) : Int32).toNatClampNeg (kk_by p1 8)) ((n0_size + 1) : Int32).toNatClampNeg).toInt = ((kk_by p1 8) : Int32).toInt := by rw [kk_ups]
      have b_8 := kk_upb (k := ((n0_size + 1) : Int32).toNatClampNeg) b_4 (show 0 ≤ ((kk_by p1 8) : Int32).toInt ∧ ((kk_by p1 8) : Int32).toInt ≤ 255 from by first | with_reducible assumption | decide | (constructor <;> (omega)))
      replace hP : va_P (dC, dI) vwCl [(h0, kO10v h1 ((n0_size + 1) + 1) n0_place (va_rf o0_law)), (h1, kAi cint 120 (upd (upd f1 (n0_size : Int32).toNatClampNeg (kk_by p1 0)) ((n0_size + 1) : Int32).toNatClampNeg (kk_by p1 8)))] H := hP
      replace hD : va_D A [(h0, kO10v h1 ((n0_size + 1) + 1) n0_place (va_rf o0_law)), (h1, kAi cint 120 (upd (upd f1 (n0_size : Int32).toNatClampNeg (kk_by p1 0)) ((n0_size + 1) : Int32).toNatClampNeg (kk_by p1 8)))] := hD
      refine lv_iinc (v := 2) hx hb dX10_take_42 hl (k := 0) rfl (by first | rfl | decide) (by decide) (rfl : _ = ([(3, .int 2), (0, .ref h0), (1, .int 3), (2, .int p1)] : List (Nat × Value))) (fun ls hl => ?_)
      refine lv_goto (tgt := 2) hx hb dX10_take_45 (by decide) ?_
      refine lv_iload_n hx hb dX10_take_2 rfl (lv_at hl 0 rfl) ?_
      refine lv_iload_n hx hb dX10_take_3 rfl (lv_at hl 2 rfl) ?_
      refine lv_icmp_ge (tgt := 48) hx hb dX10_take_4 (by decide) (fun c => absurd c (by decide)) (fun _ => ?_)
      refine lv_aload_n hx hb dX10_take_7 rfl (lv_at hl 1 rfl) ?_
      refine va_get (D := (dC, dI)) (ci := 10) (v := .int ((n0_size + 1) + 1)) (C := RX10) (T := TX10) (N := 4) hx hb hts (fun _ h => List.mem_cons_of_mem _ (List.mem_append_right _ h)) hown hK hP 0 rfl rfl 1 (by decide) (hts (.fieldLink RX10 13 "KinkStreet$Tape" "size" "I") (List.mem_of_getElem? (i := 1) rfl)) (fun _ h9 => h9) rfl dX10_take_8 ?_
      refine lv_bipush (v := 120) hx hb dX10_take_11 kk_bi_120 ?_
      refine lv_icmp_ge (tgt := 48) hx hb dX10_take_13 (by decide) (fun c_9 => ?_) (fun c_9 => ?_)
      · have t_9 : 120 ≤ ((n0_size + 1) + 1).toInt := kk_le c_9
        refine lv_aload_n hx hb dX10_take_48 rfl (lv_at hl 1 rfl) ?_
        refine va_get (D := (dC, dI)) (ci := 10) (v := .int ((n0_size + 1) + 1)) (C := RX10) (T := TX10) (N := 4) hx hb hts (fun _ h => List.mem_cons_of_mem _ (List.mem_append_right _ h)) hown hK hP 0 rfl rfl 1 (by decide) (hts (.fieldLink RX10 13 "KinkStreet$Tape" "size" "I") (List.mem_of_getElem? (i := 1) rfl)) (fun _ h9 => h9) rfl dX10_take_49 ?_
        obtain ⟨hP9, hD9⟩ := kk_leafout (wc := [(h0, kO10v h1 ((n0_size + 1) + 1) n0_place (va_rf o0_law)), (h1, kAi cint 120 (upd (upd f1 (n0_size : Int32).toNatClampNeg (kk_by p1 0)) ((n0_size + 1) : Int32).toNatClampNeg (kk_by p1 8)))]) hP hD [0, 1] (by decide) rfl
        have hK9 := kk_Ks (tq := []) hK [] rfl
        exact W.iret (v := ((n0_size + 1) + 1)) hx hb hr (fun t ht hW => ⟨⟨((n0_size + 1) + 1), (), rfl, ⟨(by show (((n0_size + 1) + 1) : Int32).toInt = (n0_size : Int32).toInt + (3 : Int); omega), (by show 3 ≤ (((n0_size + 1) + 1) : Int32).toInt ∧ (((n0_size + 1) + 1) : Int32).toInt ≤ 120; first | with_reducible assumption | (constructor <;> (omega)))⟩, ((n0_size + 1) + 1), (upd (upd f1 (n0_size : Int32).toNatClampNeg (kk_by p1 0)) ((n0_size + 1) : Int32).toNatClampNeg (kk_by p1 8)), (by show 3 ≤ (((n0_size + 1) + 1) : Int32).toInt ∧ (((n0_size + 1) + 1) : Int32).toInt ≤ 120; first | with_reducible assumption | (constructor <;> (omega))), b_8, (by show (((n0_size + 1) + 1) : Int32).toInt = (n0_size : Int32).toInt + (3 : Int); first | with_reducible assumption | (omega)), ⟨fun hh => by first | exact rfl | (exfalso; omega), fun hh => by first | exact trivial | (exfalso; omega)⟩, by rw [ht]; exact hP9, va_K.moved hW.alike hK9, hD9⟩, hS.F ht⟩) hS.2.2 dX10_take_52
      · have t_9 : ((n0_size + 1) + 1).toInt < 120 := kk_nle c_9
        refine lv_aload_n hx hb dX10_take_16 rfl (lv_at hl 1 rfl) ?_
        refine va_get (D := (dC, dI)) (ci := 10) (v := .ref h1) (C := RX10) (T := TX10) (N := 4) hx hb hts (fun _ h => List.mem_cons_of_mem _ (List.mem_append_right _ h)) hown hK hP 0 rfl rfl 0 (by decide) (hts (.fieldLink RX10 9 "KinkStreet$Tape" "bytes" "[I") (List.mem_of_getElem? (i := 2) rfl)) (fun _ h9 => h9) rfl dX10_take_17 ?_
        refine lv_aload_n hx hb dX10_take_20 rfl (lv_at hl 1 rfl) ?_
        refine lv_dup hx hb dX10_take_21 rfl ?_
        refine va_get (D := (dC, dI)) (ci := 10) (v := .int ((n0_size + 1) + 1)) (C := RX10) (T := TX10) (N := 4) hx hb hts (fun _ h => List.mem_cons_of_mem _ (List.mem_append_right _ h)) hown hK hP 0 rfl rfl 1 (by decide) (hts (.fieldLink RX10 13 "KinkStreet$Tape" "size" "I") (List.mem_of_getElem? (i := 1) rfl)) (fun _ h9 => h9) rfl dX10_take_22 ?_
        refine lv_dup_x1 hx hb dX10_take_25 rfl rfl ?_
        refine lv_iconst (v := 1) hx hb dX10_take_26 kk_ic_1 ?_
        refine lv_iadd hx hb dX10_take_27 ?_
        refine va_put (D := (dC, dI)) (ci := 10) (v := .int (((n0_size + 1) + 1) + 1)) (ty := .int) (C := RX10) (T := TX10) (N := 4) hx hb hts (fun _ h => List.mem_cons_of_mem _ (List.mem_append_right _ h)) tyX10 tyX10_ok nmX10 hown hK hP hD hS 0 rfl rfl 1 (by decide) (hts (.fieldLink RX10 13 "KinkStreet$Tape" "size" "I") (List.mem_of_getElem? (i := 1) rfl)) (fun _ h9 => h9) rfl (by decide +kernel) rfl rfl (Nat.le_of_ble_eq_true rfl) dX10_take_28 (fun H locs hP hD hS => ?_)
        replace hP : va_P (dC, dI) vwCl [(h0, kO10v h1 (((n0_size + 1) + 1) + 1) n0_place (va_rf o0_law)), (h1, kAi cint 120 (upd (upd f1 (n0_size : Int32).toNatClampNeg (kk_by p1 0)) ((n0_size + 1) : Int32).toNatClampNeg (kk_by p1 8)))] H := hP
        replace hD : va_D A [(h0, kO10v h1 (((n0_size + 1) + 1) + 1) n0_place (va_rf o0_law)), (h1, kAi cint 120 (upd (upd f1 (n0_size : Int32).toNatClampNeg (kk_by p1 0)) ((n0_size + 1) : Int32).toNatClampNeg (kk_by p1 8)))] := hD
        refine lv_iload_n hx hb dX10_take_31 rfl (lv_at hl 3 rfl) ?_
        refine lv_bipush (v := 8) hx hb dX10_take_32 kk_bi_8 ?_
        refine lv_iload_n hx hb dX10_take_34 rfl (lv_at hl 0 rfl) ?_
        refine lv_imul hx hb dX10_take_35 ?_
        refine lv_topi (fun y_10 e_10 => ?_)
        obtain rfl : y_10 = 16 := e_10.trans (by decide)
        refine lv_iushr hx hb dX10_take_36 rfl ?_
        refine lv_sipush (v := 255) hx hb dX10_take_37 kk_si_255 ?_
        refine lv_iand hx hb dX10_take_40 ?_
        refine lv_topi (fun y_11 e_11 => ?_)
        obtain rfl : y_11 = (kk_by p1 16) := e_11.trans rfl
        have t_11 : 0 ≤ (kk_by p1 16).toInt ∧ (kk_by p1 16).toInt ≤ 255 := kk_by_b _ _
        have := kk_add2 (x := ((n0_size + 1) + 1)) (y := 1) (a := ((n0_size + 1) + 1).toInt) (b := 1) rfl rfl (by omega) (by omega)
        refine va_iast hx hb hK hP hD hS 1 0 rfl rfl (vp_in_iff.mpr ⟨by omega, by omega⟩) dX10_take_41 (fun H locs hP hD hS => ?_)
        have w_12 : ((upd (upd (upd f1 (n0_size : Int32).toNatClampNeg (kk_by p1 0)) ((n0_size + 1) : Int32).toNatClampNeg (kk_by p1 8)) (((n0_size + 1) + 1) : Int32).toNatClampNeg (kk_by p1 16)) (((n0_size + 1) + 1) : Int32).toNatClampNeg).toInt = ((kk_by p1 16) : Int32).toInt := by rw [kk_ups]
        have b_12 := kk_upb (k := (((n0_size + 1) + 1) : Int32).toNatClampNeg) b_8 (show 0 ≤ ((kk_by p1 16) : Int32).toInt ∧ ((kk_by p1 16) : Int32).toInt ≤ 255 from by first | with_reducible assumption | decide | (constructor <;> (omega)))
        replace hP : va_P (dC, dI) vwCl [(h0, kO10v h1 (((n0_size + 1) + 1) + 1) n0_place (va_rf o0_law)), (h1, kAi cint 120 (upd (upd (upd f1 (n0_size : Int32).toNatClampNeg (kk_by p1 0)) ((n0_size + 1) : Int32).toNatClampNeg (kk_by p1 8)) (((n0_size + 1) + 1) : Int32).toNatClampNeg (kk_by p1 16)))] H := hP
        replace hD : va_D A [(h0, kO10v h1 (((n0_size + 1) + 1) + 1) n0_place (va_rf o0_law)), (h1, kAi cint 120 (upd (upd (upd f1 (n0_size : Int32).toNatClampNeg (kk_by p1 0)) ((n0_size + 1) : Int32).toNatClampNeg (kk_by p1 8)) (((n0_size + 1) + 1) : Int32).toNatClampNeg (kk_by p1 16)))] := hD
        refine lv_iinc (v := 3) hx hb dX10_take_42 hl (k := 0) rfl (by first | rfl | decide) (by decide) (rfl : _ = ([(3, .int 3), (0, .ref h0), (1, .int 3), (2, .int p1)] : List (Nat × Value))) (fun ls hl => ?_)
        refine lv_goto (tgt := 2) hx hb dX10_take_45 (by decide) ?_
        refine lv_iload_n hx hb dX10_take_2 rfl (lv_at hl 0 rfl) ?_
        refine lv_iload_n hx hb dX10_take_3 rfl (lv_at hl 2 rfl) ?_
        refine lv_icmp_ge (tgt := 48) hx hb dX10_take_4 (by decide) (fun _ => ?_) (fun c => absurd c (by decide))
        refine lv_aload_n hx hb dX10_take_48 rfl (lv_at hl 1 rfl) ?_
        refine va_get (D := (dC, dI)) (ci := 10) (v := .int (((n0_size + 1) + 1) + 1)) (C := RX10) (T := TX10) (N := 4) hx hb hts (fun _ h => List.mem_cons_of_mem _ (List.mem_append_right _ h)) hown hK hP 0 rfl rfl 1 (by decide) (hts (.fieldLink RX10 13 "KinkStreet$Tape" "size" "I") (List.mem_of_getElem? (i := 1) rfl)) (fun _ h9 => h9) rfl dX10_take_49 ?_
        obtain ⟨hP9, hD9⟩ := kk_leafout (wc := [(h0, kO10v h1 (((n0_size + 1) + 1) + 1) n0_place (va_rf o0_law)), (h1, kAi cint 120 (upd (upd (upd f1 (n0_size : Int32).toNatClampNeg (kk_by p1 0)) ((n0_size + 1) : Int32).toNatClampNeg (kk_by p1 8)) (((n0_size + 1) + 1) : Int32).toNatClampNeg (kk_by p1 16)))]) hP hD [0, 1] (by decide) rfl
        have hK9 := kk_Ks (tq := []) hK [] rfl
        exact W.iret (v := (((n0_size + 1) + 1) + 1)) hx hb hr (fun t ht hW => ⟨⟨(((n0_size + 1) + 1) + 1), (), rfl, ⟨(by show ((((n0_size + 1) + 1) + 1) : Int32).toInt = (n0_size : Int32).toInt + (3 : Int); omega), (by show 3 ≤ ((((n0_size + 1) + 1) + 1) : Int32).toInt ∧ ((((n0_size + 1) + 1) + 1) : Int32).toInt ≤ 120; first | with_reducible assumption | decide | (constructor <;> (omega)))⟩, (((n0_size + 1) + 1) + 1), (upd (upd (upd f1 (n0_size : Int32).toNatClampNeg (kk_by p1 0)) ((n0_size + 1) : Int32).toNatClampNeg (kk_by p1 8)) (((n0_size + 1) + 1) : Int32).toNatClampNeg (kk_by p1 16)), (by show 3 ≤ ((((n0_size + 1) + 1) + 1) : Int32).toInt ∧ ((((n0_size + 1) + 1) + 1) : Int32).toInt ≤ 120; first | with_reducible assumption | decide | (constructor <;> (omega))), b_12, (by show ((((n0_size + 1) + 1) + 1) : Int32).toInt = (n0_size : Int32).toInt + (3 : Int); first | with_reducible assumption | (omega)), ⟨fun hh => by first | exact rfl | (exfalso; omega), fun hh => by first | exact trivial | (exfalso; omega)⟩, by rw [ht]; exact hP9, va_K.moved hW.alike hK9, hD9⟩, hS.F ht⟩) hS.2.2 dX10_take_52
set_option maxHeartbeats 4000000 in
set_option maxRecDepth 100000 in
theorem g_X10_take_4 (l : Launch) (dC : Nat → ClassId) (dI : Nat → Nat → Nat) (h0 : Nat) (h1 : Nat) (cint : ClassId) (sz : Nat) (p1 : Int32) (n0_size : Int32) (n0_place : Int32) (o0_law : Option Nat) (f1 : Nat → Int32) (tn0_size : 0 ≤ n0_size.toInt ∧ n0_size.toInt ≤ 120) (bf1 : ∀ j, j < 120 → 0 ≤ (f1 j).toInt ∧ (f1 j).toInt ≤ 255) (pr0 : (n0_size.toInt + (4 : Int) ≤ 120)) : Met l yX10_take wsX10_take ({ frames := 0, cells := 0, slots := 0, locals := 0 }) (va_Pc [.ref h0, .int 4, .int p1] (fun U => U.heap.size = sz ∧ va_P (dC, dI) vwCl [(h0, kO10v h1 n0_size n0_place (va_rf o0_law)), (h1, kAi cint 120 f1)] U.heap ∧ va_K (dC, dI) vwCl [(cint, .int)] U ∧ va_D (fun _ => True) [(h0, kO10v h1 n0_size n0_place (va_rf o0_law)), (h1, kAi cint 120 f1)])) (va_Qi (fun (r : Int32) (_ : Unit) => r.toInt = n0_size.toInt + (4 : Int) ∧ (4 ≤ r.toInt ∧ r.toInt ≤ 120)) (fun (_ : Unit) t => ∃ (m0_size : Int32) (g1 : Nat → Int32), (4 ≤ m0_size.toInt ∧ m0_size.toInt ≤ 120) ∧ (∀ j, j < 120 → 0 ≤ (g1 j).toInt ∧ (g1 j).toInt ≤ 255) ∧ (m0_size.toInt = n0_size.toInt + (4 : Int)) ∧ (((0 : Int) = 0 → g1 = (upd (upd (upd (upd f1 (n0_size : Int32).toNatClampNeg (kk_by p1 0)) ((n0_size + 1) : Int32).toNatClampNeg (kk_by p1 8)) (((n0_size + 1) + 1) : Int32).toNatClampNeg (kk_by p1 16)) ((((n0_size + 1) + 1) + 1) : Int32).toNatClampNeg (kk_by p1 24))) ∧ ((0 : Int) = 0 → True)) ∧ va_P (dC, dI) vwCl [(h0, kO10v h1 m0_size n0_place (va_rf o0_law)), (h1, kAi cint 120 g1)] t.heap ∧ va_K (dC, dI) vwCl [] t ∧ va_D (va_A [(h0, kO10v h1 n0_size n0_place (va_rf o0_law)), (h1, kAi cint 120 f1)] sz) [(h0, kO10v h1 m0_size n0_place (va_rf o0_law)), (h1, kAi cint 120 g1)]) (va_A [(h0, kO10v h1 n0_size n0_place (va_rf o0_law)), (h1, kAi cint 120 f1)] sz)) 0 0 (va_A [(h0, kO10v h1 n0_size n0_place (va_rf o0_law)), (h1, kAi cint 120 f1)] sz) := by
  refine Met.ofW (cc := cX10_take) (maxL := 4) (ret := (some .int)) (by decide) rfl ?_
  intro p e s m args below meth c s₁ B hml hv
  obtain ⟨rfl, hsz, hP, hK, hD0⟩ := hv
  have hx := B.exec
  have hb := B.bytes
  have hr := B.returns
  have hts := atoms_spec (ws := wsX10_take) B.pre
  have hown : s.vm.findClass RX10 = some m.cls := findClass_of_methodNamed B.named
  have hlocks := B.notSynchronized
  subst hsz
  have hD := hD0.self (sz := s.heap.size)
  generalize hAe : va_A [(h0, kO10v h1 n0_size n0_place (va_rf o0_law)), (h1, kAi cint 120 f1)] s.heap.size = A at hD ⊢
  have hA : ∀ q : Nat, s.heap.size ≤ q → A q := fun q h => by rw [← hAe]; exact Or.inr h
  have hS : va_S A s.heap s.heap [] := va_S.rf
  replace hP : va_P (dC, dI) vwCl [(h0, kO10v h1 n0_size n0_place (va_rf o0_law)), (h1, kAi cint 120 f1)] s.heap := hP
  have hl := lv_entry ([.ref h0, .int 4, .int p1]) (n := 4) (Nat.le_of_ble_eq_true rfl)
  rw [lg_entry_eq]
  generalize (lg_sl ([.ref h0, .int 4, .int p1]) ++ List.replicate (4 - (lg_sl ([.ref h0, .int 4, .int p1])).length) Slot.unset).toArray = ls at hl ⊢
  replace hl : lv_has ls 4 [(0, .ref h0), (1, .int 4), (2, .int p1)] := hl
  refine lv_iconst (v := 0) hx hb dX10_take_0 kk_ic_0 ?_
  refine lv_istore_n hx hb dX10_take_1 rfl hl (by decide) (rfl : _ = ([(3, .int 0), (0, .ref h0), (1, .int 4), (2, .int p1)] : List (Nat × Value))) (fun ls hl => ?_)
  refine lv_iload_n hx hb dX10_take_2 rfl (lv_at hl 0 rfl) ?_
  refine lv_iload_n hx hb dX10_take_3 rfl (lv_at hl 2 rfl) ?_
  refine lv_icmp_ge (tgt := 48) hx hb dX10_take_4 (by decide) (fun c => absurd c (by decide)) (fun _ => ?_)
  refine lv_aload_n hx hb dX10_take_7 rfl (lv_at hl 1 rfl) ?_
  refine va_get (D := (dC, dI)) (ci := 10) (v := .int n0_size) (C := RX10) (T := TX10) (N := 4) hx hb hts (fun _ h => List.mem_cons_of_mem _ (List.mem_append_right _ h)) hown hK hP 0 rfl rfl 1 (by decide) (hts (.fieldLink RX10 13 "KinkStreet$Tape" "size" "I") (List.mem_of_getElem? (i := 1) rfl)) (fun _ h9 => h9) rfl dX10_take_8 ?_
  refine lv_bipush (v := 120) hx hb dX10_take_11 kk_bi_120 ?_
  refine lv_icmp_ge (tgt := 48) hx hb dX10_take_13 (by decide) (fun c_1 => ?_) (fun c_1 => ?_)
  · have t_1 : 120 ≤ n0_size.toInt := kk_le c_1
    refine lv_aload_n hx hb dX10_take_48 rfl (lv_at hl 1 rfl) ?_
    refine va_get (D := (dC, dI)) (ci := 10) (v := .int n0_size) (C := RX10) (T := TX10) (N := 4) hx hb hts (fun _ h => List.mem_cons_of_mem _ (List.mem_append_right _ h)) hown hK hP 0 rfl rfl 1 (by decide) (hts (.fieldLink RX10 13 "KinkStreet$Tape" "size" "I") (List.mem_of_getElem? (i := 1) rfl)) (fun _ h9 => h9) rfl dX10_take_49 ?_
    obtain ⟨hP9, hD9⟩ := kk_leafout (wc := [(h0, kO10v h1 n0_size n0_place (va_rf o0_law)), (h1, kAi cint 120 f1)]) hP hD [0, 1] (by decide) rfl
    have hK9 := kk_Ks (tq := []) hK [] rfl
    have := kk_add2 (x := n0_size) (y := 1) (a := n0_size.toInt) (b := 1) rfl rfl (by omega) (by omega)
    have := kk_add2 (x := (n0_size + 1)) (y := 1) (a := (n0_size + 1).toInt) (b := 1) rfl rfl (by omega) (by omega)
    have := kk_add2 (x := ((n0_size + 1) + 1)) (y := 1) (a := ((n0_size + 1) + 1).toInt) (b := 1) rfl rfl (by omega) (by omega)
    exact W.iret (v := n0_size) hx hb hr (fun t ht hW => ⟨⟨n0_size, (), rfl, ⟨(by show (n0_size : Int32).toInt = (n0_size : Int32).toInt + (4 : Int); omega), (by show 4 ≤ (n0_size : Int32).toInt ∧ (n0_size : Int32).toInt ≤ 120; first | with_reducible assumption | (constructor <;> (omega)))⟩, n0_size, f1, (by show 4 ≤ (n0_size : Int32).toInt ∧ (n0_size : Int32).toInt ≤ 120; first | with_reducible assumption | (constructor <;> (omega))), bf1, (by show (n0_size : Int32).toInt = (n0_size : Int32).toInt + (4 : Int); first | with_reducible assumption | (omega)), ⟨fun hh => by first | exact rfl | (exfalso; omega), fun hh => by first | exact trivial | (exfalso; omega)⟩, by rw [ht]; exact hP9, va_K.moved hW.alike hK9, hD9⟩, hS.F ht⟩) hS.2.2 dX10_take_52
  · have t_1 : n0_size.toInt < 120 := kk_nle c_1
    refine lv_aload_n hx hb dX10_take_16 rfl (lv_at hl 1 rfl) ?_
    refine va_get (D := (dC, dI)) (ci := 10) (v := .ref h1) (C := RX10) (T := TX10) (N := 4) hx hb hts (fun _ h => List.mem_cons_of_mem _ (List.mem_append_right _ h)) hown hK hP 0 rfl rfl 0 (by decide) (hts (.fieldLink RX10 9 "KinkStreet$Tape" "bytes" "[I") (List.mem_of_getElem? (i := 2) rfl)) (fun _ h9 => h9) rfl dX10_take_17 ?_
    refine lv_aload_n hx hb dX10_take_20 rfl (lv_at hl 1 rfl) ?_
    refine lv_dup hx hb dX10_take_21 rfl ?_
    refine va_get (D := (dC, dI)) (ci := 10) (v := .int n0_size) (C := RX10) (T := TX10) (N := 4) hx hb hts (fun _ h => List.mem_cons_of_mem _ (List.mem_append_right _ h)) hown hK hP 0 rfl rfl 1 (by decide) (hts (.fieldLink RX10 13 "KinkStreet$Tape" "size" "I") (List.mem_of_getElem? (i := 1) rfl)) (fun _ h9 => h9) rfl dX10_take_22 ?_
    refine lv_dup_x1 hx hb dX10_take_25 rfl rfl ?_
    refine lv_iconst (v := 1) hx hb dX10_take_26 kk_ic_1 ?_
    refine lv_iadd hx hb dX10_take_27 ?_
    refine va_put (D := (dC, dI)) (ci := 10) (v := .int (n0_size + 1)) (ty := .int) (C := RX10) (T := TX10) (N := 4) hx hb hts (fun _ h => List.mem_cons_of_mem _ (List.mem_append_right _ h)) tyX10 tyX10_ok nmX10 hown hK hP hD hS 0 rfl rfl 1 (by decide) (hts (.fieldLink RX10 13 "KinkStreet$Tape" "size" "I") (List.mem_of_getElem? (i := 1) rfl)) (fun _ h9 => h9) rfl (by decide +kernel) rfl rfl (Nat.le_of_ble_eq_true rfl) dX10_take_28 (fun H locs hP hD hS => ?_)
    replace hP : va_P (dC, dI) vwCl [(h0, kO10v h1 (n0_size + 1) n0_place (va_rf o0_law)), (h1, kAi cint 120 f1)] H := hP
    replace hD : va_D A [(h0, kO10v h1 (n0_size + 1) n0_place (va_rf o0_law)), (h1, kAi cint 120 f1)] := hD
    refine lv_iload_n hx hb dX10_take_31 rfl (lv_at hl 3 rfl) ?_
    refine lv_bipush (v := 8) hx hb dX10_take_32 kk_bi_8 ?_
    refine lv_iload_n hx hb dX10_take_34 rfl (lv_at hl 0 rfl) ?_
    refine lv_imul hx hb dX10_take_35 ?_
    refine lv_topi (fun y_2 e_2 => ?_)
    obtain rfl : y_2 = 0 := e_2.trans (by decide)
    refine lv_iushr hx hb dX10_take_36 rfl ?_
    refine lv_sipush (v := 255) hx hb dX10_take_37 kk_si_255 ?_
    refine lv_iand hx hb dX10_take_40 ?_
    refine lv_topi (fun y_3 e_3 => ?_)
    obtain rfl : y_3 = (kk_by p1 0) := e_3.trans rfl
    have t_3 : 0 ≤ (kk_by p1 0).toInt ∧ (kk_by p1 0).toInt ≤ 255 := kk_by_b _ _
    have := kk_add2 (x := n0_size) (y := 1) (a := n0_size.toInt) (b := 1) rfl rfl (by omega) (by omega)
    refine va_iast hx hb hK hP hD hS 1 0 rfl rfl (vp_in_iff.mpr ⟨by omega, by omega⟩) dX10_take_41 (fun H locs hP hD hS => ?_)
    have w_4 : ((upd f1 (n0_size : Int32).toNatClampNeg (kk_by p1 0)) (n0_size : Int32).toNatClampNeg).toInt = ((kk_by p1 0) : Int32).toInt := by rw [kk_ups]
    have b_4 := kk_upb (k := (n0_size : Int32).toNatClampNeg) bf1 (show 0 ≤ ((kk_by p1 0) : Int32).toInt ∧ ((kk_by p1 0) : Int32).toInt ≤ 255 from by first | with_reducible assumption | decide | (constructor <;> (omega)))
    replace hP : va_P (dC, dI) vwCl [(h0, kO10v h1 (n0_size + 1) n0_place (va_rf o0_law)), (h1, kAi cint 120 (upd f1 (n0_size : Int32).toNatClampNeg (kk_by p1 0)))] H := hP
    replace hD : va_D A [(h0, kO10v h1 (n0_size + 1) n0_place (va_rf o0_law)), (h1, kAi cint 120 (upd f1 (n0_size : Int32).toNatClampNeg (kk_by p1 0)))] := hD
    refine lv_iinc (v := 1) hx hb dX10_take_42 hl (k := 0) rfl (by first | rfl | decide) (by decide) (rfl : _ = ([(3, .int 1), (0, .ref h0), (1, .int 4), (2, .int p1)] : List (Nat × Value))) (fun ls hl => ?_)
    refine lv_goto (tgt := 2) hx hb dX10_take_45 (by decide) ?_
    refine lv_iload_n hx hb dX10_take_2 rfl (lv_at hl 0 rfl) ?_
    refine lv_iload_n hx hb dX10_take_3 rfl (lv_at hl 2 rfl) ?_
    refine lv_icmp_ge (tgt := 48) hx hb dX10_take_4 (by decide) (fun c => absurd c (by decide)) (fun _ => ?_)
    refine lv_aload_n hx hb dX10_take_7 rfl (lv_at hl 1 rfl) ?_
    refine va_get (D := (dC, dI)) (ci := 10) (v := .int (n0_size + 1)) (C := RX10) (T := TX10) (N := 4) hx hb hts (fun _ h => List.mem_cons_of_mem _ (List.mem_append_right _ h)) hown hK hP 0 rfl rfl 1 (by decide) (hts (.fieldLink RX10 13 "KinkStreet$Tape" "size" "I") (List.mem_of_getElem? (i := 1) rfl)) (fun _ h9 => h9) rfl dX10_take_8 ?_
    refine lv_bipush (v := 120) hx hb dX10_take_11 kk_bi_120 ?_
    refine lv_icmp_ge (tgt := 48) hx hb dX10_take_13 (by decide) (fun c_5 => ?_) (fun c_5 => ?_)
    · have t_5 : 120 ≤ (n0_size + 1).toInt := kk_le c_5
      refine lv_aload_n hx hb dX10_take_48 rfl (lv_at hl 1 rfl) ?_
      refine va_get (D := (dC, dI)) (ci := 10) (v := .int (n0_size + 1)) (C := RX10) (T := TX10) (N := 4) hx hb hts (fun _ h => List.mem_cons_of_mem _ (List.mem_append_right _ h)) hown hK hP 0 rfl rfl 1 (by decide) (hts (.fieldLink RX10 13 "KinkStreet$Tape" "size" "I") (List.mem_of_getElem? (i := 1) rfl)) (fun _ h9 => h9) rfl dX10_take_49 ?_
      obtain ⟨hP9, hD9⟩ := kk_leafout (wc := [(h0, kO10v h1 (n0_size + 1) n0_place (va_rf o0_law)), (h1, kAi cint 120 (upd f1 (n0_size : Int32).toNatClampNeg (kk_by p1 0)))]) hP hD [0, 1] (by decide) rfl
      have hK9 := kk_Ks (tq := []) hK [] rfl
      have := kk_add2 (x := (n0_size + 1)) (y := 1) (a := (n0_size + 1).toInt) (b := 1) rfl rfl (by omega) (by omega)
      have := kk_add2 (x := ((n0_size + 1) + 1)) (y := 1) (a := ((n0_size + 1) + 1).toInt) (b := 1) rfl rfl (by omega) (by omega)
      exact W.iret (v := (n0_size + 1)) hx hb hr (fun t ht hW => ⟨⟨(n0_size + 1), (), rfl, ⟨(by show ((n0_size + 1) : Int32).toInt = (n0_size : Int32).toInt + (4 : Int); omega), (by show 4 ≤ ((n0_size + 1) : Int32).toInt ∧ ((n0_size + 1) : Int32).toInt ≤ 120; first | with_reducible assumption | (constructor <;> (omega)))⟩, (n0_size + 1), (upd f1 (n0_size : Int32).toNatClampNeg (kk_by p1 0)), (by show 4 ≤ ((n0_size + 1) : Int32).toInt ∧ ((n0_size + 1) : Int32).toInt ≤ 120; first | with_reducible assumption | (constructor <;> (omega))), b_4, (by show ((n0_size + 1) : Int32).toInt = (n0_size : Int32).toInt + (4 : Int); first | with_reducible assumption | (omega)), ⟨fun hh => by first | exact rfl | (exfalso; omega), fun hh => by first | exact trivial | (exfalso; omega)⟩, by rw [ht]; exact hP9, va_K.moved hW.alike hK9, hD9⟩, hS.F ht⟩) hS.2.2 dX10_take_52
    · have t_5 : (n0_size + 1).toInt < 120 := kk_nle c_5
      refine lv_aload_n hx hb dX10_take_16 rfl (lv_at hl 1 rfl) ?_
      refine va_get (D := (dC, dI)) (ci := 10) (v := .ref h1) (C := RX10) (T := TX10) (N := 4) hx hb hts (fun _ h => List.mem_cons_of_mem _ (List.mem_append_right _ h)) hown hK hP 0 rfl rfl 0 (by decide) (hts (.fieldLink RX10 9 "KinkStreet$Tape" "bytes" "[I") (List.mem_of_getElem? (i := 2) rfl)) (fun _ h9 => h9) rfl dX10_take_17 ?_
      refine lv_aload_n hx hb dX10_take_20 rfl (lv_at hl 1 rfl) ?_
      refine lv_dup hx hb dX10_take_21 rfl ?_
      refine va_get (D := (dC, dI)) (ci := 10) (v := .int (n0_size + 1)) (C := RX10) (T := TX10) (N := 4) hx hb hts (fun _ h => List.mem_cons_of_mem _ (List.mem_append_right _ h)) hown hK hP 0 rfl rfl 1 (by decide) (hts (.fieldLink RX10 13 "KinkStreet$Tape" "size" "I") (List.mem_of_getElem? (i := 1) rfl)) (fun _ h9 => h9) rfl dX10_take_22 ?_
      refine lv_dup_x1 hx hb dX10_take_25 rfl rfl ?_
      refine lv_iconst (v := 1) hx hb dX10_take_26 kk_ic_1 ?_
      refine lv_iadd hx hb dX10_take_27 ?_
      refine va_put (D := (dC, dI)) (ci := 10) (v := .int ((n0_size + 1) + 1)) (ty := .int) (C := RX10) (T := TX10) (N := 4) hx hb hts (fun _ h => List.mem_cons_of_mem _ (List.mem_append_right _ h)) tyX10 tyX10_ok nmX10 hown hK hP hD hS 0 rfl rfl 1 (by decide) (hts (.fieldLink RX10 13 "KinkStreet$Tape" "size" "I") (List.mem_of_getElem? (i := 1) rfl)) (fun _ h9 => h9) rfl (by decide +kernel) rfl rfl (Nat.le_of_ble_eq_true rfl) dX10_take_28 (fun H locs hP hD hS => ?_)
      replace hP : va_P (dC, dI) vwCl [(h0, kO10v h1 ((n0_size + 1) + 1) n0_place (va_rf o0_law)), (h1, kAi cint 120 (upd f1 (n0_size : Int32).toNatClampNeg (kk_by p1 0)))] H := hP
      replace hD : va_D A [(h0, kO10v h1 ((n0_size + 1) + 1) n0_place (va_rf o0_law)), (h1, kAi cint 120 (upd f1 (n0_size : Int32).toNatClampNeg (kk_by p1 0)))] := hD
      refine lv_iload_n hx hb dX10_take_31 rfl (lv_at hl 3 rfl) ?_
      refine lv_bipush (v := 8) hx hb dX10_take_32 kk_bi_8 ?_
      refine lv_iload_n hx hb dX10_take_34 rfl (lv_at hl 0 rfl) ?_
      refine lv_imul hx hb dX10_take_35 ?_
      refine lv_topi (fun y_6 e_6 => ?_)
      obtain rfl : y_6 = 8 := e_6.trans (by decide)
      refine lv_iushr hx hb dX10_take_36 rfl ?_
      refine lv_sipush (v := 255) hx hb dX10_take_37 kk_si_255 ?_
      refine lv_iand hx hb dX10_take_40 ?_
      refine lv_topi (fun y_7 e_7 => ?_)
      obtain rfl : y_7 = (kk_by p1 8) := e_7.trans rfl
      have t_7 : 0 ≤ (kk_by p1 8).toInt ∧ (kk_by p1 8).toInt ≤ 255 := kk_by_b _ _
      have := kk_add2 (x := (n0_size + 1)) (y := 1) (a := (n0_size + 1).toInt) (b := 1) rfl rfl (by omega) (by omega)
      refine va_iast hx hb hK hP hD hS 1 0 rfl rfl (vp_in_iff.mpr ⟨by omega, by omega⟩) dX10_take_41 (fun H locs hP hD hS => ?_)
      have w_8 : ((upd (upd f1 (n0_size : Int32).toNatClampNeg (kk_by p1 0)) ((n0_size + 1) : Int32).toNatClampNeg (kk_by p1 8)) ((n0_size + 1) : Int32).toNatClampNeg).toInt = ((kk_by p1 8) : Int32).toInt := by rw [kk_ups]
      have b_8 := kk_upb (k := ((n0_size + 1) : Int32).toNatClampNeg) b_4 (show 0 ≤ ((kk_by p1 8) : Int32).toInt ∧ ((kk_by p1 8) : Int32).toInt ≤ 255 from by first | with_reducible assumption | decide | (constructor <;> (omega)))
      replace hP : va_P (dC, dI) vwCl [(h0, kO10v h1 ((n0_size + 1) + 1) n0_place (va_rf o0_law)), (h1, kAi cint 120 (upd (upd f1 (n0_size : Int32).toNatClampNeg (kk_by p1 0)) ((n0_size + 1) : Int32).toNatClampNeg (kk_by p1 8)))] H := hP
      replace hD : va_D A [(h0, kO10v h1 ((n0_size + 1) + 1) n0_place (va_rf o0_law)), (h1, kAi cint 120 (upd (upd f1 (n0_size : Int32).toNatClampNeg (kk_by p1 0)) ((n0_size + 1) : Int32).toNatClampNeg (kk_by p1 8)))] := hD
      refine lv_iinc (v := 2) hx hb dX10_take_42 hl (k := 0) rfl (by first | rfl | decide) (by decide) (rfl : _ = ([(3, .int 2), (0, .ref h0), (1, .int 4), (2, .int p1)] : List (Nat × Value))) (fun ls hl => ?_)
      refine lv_goto (tgt := 2) hx hb dX10_take_45 (by decide) ?_
      refine lv_iload_n hx hb dX10_take_2 rfl (lv_at hl 0 rfl) ?_
      refine lv_iload_n hx hb dX10_take_3 rfl (lv_at hl 2 rfl) ?_
      refine lv_icmp_ge (tgt := 48) hx hb dX10_take_4 (by decide) (fun c => absurd c (by decide)) (fun _ => ?_)
      refine lv_aload_n hx hb dX10_take_7 rfl (lv_at hl 1 rfl) ?_
      refine va_get (D := (dC, dI)) (ci := 10) (v := .int ((n0_size + 1) + 1)) (C := RX10) (T := TX10) (N := 4) hx hb hts (fun _ h => List.mem_cons_of_mem _ (List.mem_append_right _ h)) hown hK hP 0 rfl rfl 1 (by decide) (hts (.fieldLink RX10 13 "KinkStreet$Tape" "size" "I") (List.mem_of_getElem? (i := 1) rfl)) (fun _ h9 => h9) rfl dX10_take_8 ?_
      refine lv_bipush (v := 120) hx hb dX10_take_11 kk_bi_120 ?_
      refine lv_icmp_ge (tgt := 48) hx hb dX10_take_13 (by decide) (fun c_9 => ?_) (fun c_9 => ?_)
      · have t_9 : 120 ≤ ((n0_size + 1) + 1).toInt := kk_le c_9
        refine lv_aload_n hx hb dX10_take_48 rfl (lv_at hl 1 rfl) ?_
        refine va_get (D := (dC, dI)) (ci := 10) (v := .int ((n0_size + 1) + 1)) (C := RX10) (T := TX10) (N := 4) hx hb hts (fun _ h => List.mem_cons_of_mem _ (List.mem_append_right _ h)) hown hK hP 0 rfl rfl 1 (by decide) (hts (.fieldLink RX10 13 "KinkStreet$Tape" "size" "I") (List.mem_of_getElem? (i := 1) rfl)) (fun _ h9 => h9) rfl dX10_take_49 ?_
        obtain ⟨hP9, hD9⟩ := kk_leafout (wc := [(h0, kO10v h1 ((n0_size + 1) + 1) n0_place (va_rf o0_law)), (h1, kAi cint 120 (upd (upd f1 (n0_size : Int32).toNatClampNeg (kk_by p1 0)) ((n0_size + 1) : Int32).toNatClampNeg (kk_by p1 8)))]) hP hD [0, 1] (by decide) rfl
        have hK9 := kk_Ks (tq := []) hK [] rfl
        have := kk_add2 (x := ((n0_size + 1) + 1)) (y := 1) (a := ((n0_size + 1) + 1).toInt) (b := 1) rfl rfl (by omega) (by omega)
        exact W.iret (v := ((n0_size + 1) + 1)) hx hb hr (fun t ht hW => ⟨⟨((n0_size + 1) + 1), (), rfl, ⟨(by show (((n0_size + 1) + 1) : Int32).toInt = (n0_size : Int32).toInt + (4 : Int); omega), (by show 4 ≤ (((n0_size + 1) + 1) : Int32).toInt ∧ (((n0_size + 1) + 1) : Int32).toInt ≤ 120; first | with_reducible assumption | (constructor <;> (omega)))⟩, ((n0_size + 1) + 1), (upd (upd f1 (n0_size : Int32).toNatClampNeg (kk_by p1 0)) ((n0_size + 1) : Int32).toNatClampNeg (kk_by p1 8)), (by show 4 ≤ (((n0_size + 1) + 1) : Int32).toInt ∧ (((n0_size + 1) + 1) : Int32).toInt ≤ 120; first | with_reducible assumption | (constructor <;> (omega))), b_8, (by show (((n0_size + 1) + 1) : Int32).toInt = (n0_size : Int32).toInt + (4 : Int); first | with_reducible assumption | (omega)), ⟨fun hh => by first | exact rfl | (exfalso; omega), fun hh => by first | exact trivial | (exfalso; omega)⟩, by rw [ht]; exact hP9, va_K.moved hW.alike hK9, hD9⟩, hS.F ht⟩) hS.2.2 dX10_take_52
      · have t_9 : ((n0_size + 1) + 1).toInt < 120 := kk_nle c_9
        refine lv_aload_n hx hb dX10_take_16 rfl (lv_at hl 1 rfl) ?_
        refine va_get (D := (dC, dI)) (ci := 10) (v := .ref h1) (C := RX10) (T := TX10) (N := 4) hx hb hts (fun _ h => List.mem_cons_of_mem _ (List.mem_append_right _ h)) hown hK hP 0 rfl rfl 0 (by decide) (hts (.fieldLink RX10 9 "KinkStreet$Tape" "bytes" "[I") (List.mem_of_getElem? (i := 2) rfl)) (fun _ h9 => h9) rfl dX10_take_17 ?_
        refine lv_aload_n hx hb dX10_take_20 rfl (lv_at hl 1 rfl) ?_
        refine lv_dup hx hb dX10_take_21 rfl ?_
        refine va_get (D := (dC, dI)) (ci := 10) (v := .int ((n0_size + 1) + 1)) (C := RX10) (T := TX10) (N := 4) hx hb hts (fun _ h => List.mem_cons_of_mem _ (List.mem_append_right _ h)) hown hK hP 0 rfl rfl 1 (by decide) (hts (.fieldLink RX10 13 "KinkStreet$Tape" "size" "I") (List.mem_of_getElem? (i := 1) rfl)) (fun _ h9 => h9) rfl dX10_take_22 ?_
        refine lv_dup_x1 hx hb dX10_take_25 rfl rfl ?_
        refine lv_iconst (v := 1) hx hb dX10_take_26 kk_ic_1 ?_
        refine lv_iadd hx hb dX10_take_27 ?_
        refine va_put (D := (dC, dI)) (ci := 10) (v := .int (((n0_size + 1) + 1) + 1)) (ty := .int) (C := RX10) (T := TX10) (N := 4) hx hb hts (fun _ h => List.mem_cons_of_mem _ (List.mem_append_right _ h)) tyX10 tyX10_ok nmX10 hown hK hP hD hS 0 rfl rfl 1 (by decide) (hts (.fieldLink RX10 13 "KinkStreet$Tape" "size" "I") (List.mem_of_getElem? (i := 1) rfl)) (fun _ h9 => h9) rfl (by decide +kernel) rfl rfl (Nat.le_of_ble_eq_true rfl) dX10_take_28 (fun H locs hP hD hS => ?_)
        replace hP : va_P (dC, dI) vwCl [(h0, kO10v h1 (((n0_size + 1) + 1) + 1) n0_place (va_rf o0_law)), (h1, kAi cint 120 (upd (upd f1 (n0_size : Int32).toNatClampNeg (kk_by p1 0)) ((n0_size + 1) : Int32).toNatClampNeg (kk_by p1 8)))] H := hP
        replace hD : va_D A [(h0, kO10v h1 (((n0_size + 1) + 1) + 1) n0_place (va_rf o0_law)), (h1, kAi cint 120 (upd (upd f1 (n0_size : Int32).toNatClampNeg (kk_by p1 0)) ((n0_size + 1) : Int32).toNatClampNeg (kk_by p1 8)))] := hD
        refine lv_iload_n hx hb dX10_take_31 rfl (lv_at hl 3 rfl) ?_
        refine lv_bipush (v := 8) hx hb dX10_take_32 kk_bi_8 ?_
        refine lv_iload_n hx hb dX10_take_34 rfl (lv_at hl 0 rfl) ?_
        refine lv_imul hx hb dX10_take_35 ?_
        refine lv_topi (fun y_10 e_10 => ?_)
        obtain rfl : y_10 = 16 := e_10.trans (by decide)
        refine lv_iushr hx hb dX10_take_36 rfl ?_
        refine lv_sipush (v := 255) hx hb dX10_take_37 kk_si_255 ?_
        refine lv_iand hx hb dX10_take_40 ?_
        refine lv_topi (fun y_11 e_11 => ?_)
        obtain rfl : y_11 = (kk_by p1 16) := e_11.trans rfl
        have t_11 : 0 ≤ (kk_by p1 16).toInt ∧ (kk_by p1 16).toInt ≤ 255 := kk_by_b _ _
        have := kk_add2 (x := ((n0_size + 1) + 1)) (y := 1) (a := ((n0_size + 1) + 1).toInt) (b := 1) rfl rfl (by omega) (by omega)
        refine va_iast hx hb hK hP hD hS 1 0 rfl rfl (vp_in_iff.mpr ⟨by omega, by omega⟩) dX10_take_41 (fun H locs hP hD hS => ?_)
        have w_12 : ((upd (upd (upd f1 (n0_size : Int32).toNatClampNeg (kk_by p1 0)) ((n0_size + 1) : Int32).toNatClampNeg (kk_by p1 8)) (((n0_size + 1) + 1) : Int32).toNatClampNeg (kk_by p1 16)) (((n0_size + 1) + 1) : Int32).toNatClampNeg).toInt = ((kk_by p1 16) : Int32).toInt := by rw [kk_ups]
        have b_12 := kk_upb (k := (((n0_size + 1) + 1) : Int32).toNatClampNeg) b_8 (show 0 ≤ ((kk_by p1 16) : Int32).toInt ∧ ((kk_by p1 16) : Int32).toInt ≤ 255 from by first | with_reducible assumption | decide | (constructor <;> (omega)))
        replace hP : va_P (dC, dI) vwCl [(h0, kO10v h1 (((n0_size + 1) + 1) + 1) n0_place (va_rf o0_law)), (h1, kAi cint 120 (upd (upd (upd f1 (n0_size : Int32).toNatClampNeg (kk_by p1 0)) ((n0_size + 1) : Int32).toNatClampNeg (kk_by p1 8)) (((n0_size + 1) + 1) : Int32).toNatClampNeg (kk_by p1 16)))] H := hP
        replace hD : va_D A [(h0, kO10v h1 (((n0_size + 1) + 1) + 1) n0_place (va_rf o0_law)), (h1, kAi cint 120 (upd (upd (upd f1 (n0_size : Int32).toNatClampNeg (kk_by p1 0)) ((n0_size + 1) : Int32).toNatClampNeg (kk_by p1 8)) (((n0_size + 1) + 1) : Int32).toNatClampNeg (kk_by p1 16)))] := hD
        refine lv_iinc (v := 3) hx hb dX10_take_42 hl (k := 0) rfl (by first | rfl | decide) (by decide) (rfl : _ = ([(3, .int 3), (0, .ref h0), (1, .int 4), (2, .int p1)] : List (Nat × Value))) (fun ls hl => ?_)
        refine lv_goto (tgt := 2) hx hb dX10_take_45 (by decide) ?_
        refine lv_iload_n hx hb dX10_take_2 rfl (lv_at hl 0 rfl) ?_
        refine lv_iload_n hx hb dX10_take_3 rfl (lv_at hl 2 rfl) ?_
        refine lv_icmp_ge (tgt := 48) hx hb dX10_take_4 (by decide) (fun c => absurd c (by decide)) (fun _ => ?_)
        refine lv_aload_n hx hb dX10_take_7 rfl (lv_at hl 1 rfl) ?_
        refine va_get (D := (dC, dI)) (ci := 10) (v := .int (((n0_size + 1) + 1) + 1)) (C := RX10) (T := TX10) (N := 4) hx hb hts (fun _ h => List.mem_cons_of_mem _ (List.mem_append_right _ h)) hown hK hP 0 rfl rfl 1 (by decide) (hts (.fieldLink RX10 13 "KinkStreet$Tape" "size" "I") (List.mem_of_getElem? (i := 1) rfl)) (fun _ h9 => h9) rfl dX10_take_8 ?_
        refine lv_bipush (v := 120) hx hb dX10_take_11 kk_bi_120 ?_
        refine lv_icmp_ge (tgt := 48) hx hb dX10_take_13 (by decide) (fun c_13 => ?_) (fun c_13 => ?_)
        · have t_13 : 120 ≤ (((n0_size + 1) + 1) + 1).toInt := kk_le c_13
          refine lv_aload_n hx hb dX10_take_48 rfl (lv_at hl 1 rfl) ?_
          refine va_get (D := (dC, dI)) (ci := 10) (v := .int (((n0_size + 1) + 1) + 1)) (C := RX10) (T := TX10) (N := 4) hx hb hts (fun _ h => List.mem_cons_of_mem _ (List.mem_append_right _ h)) hown hK hP 0 rfl rfl 1 (by decide) (hts (.fieldLink RX10 13 "KinkStreet$Tape" "size" "I") (List.mem_of_getElem? (i := 1) rfl)) (fun _ h9 => h9) rfl dX10_take_49 ?_
          obtain ⟨hP9, hD9⟩ := kk_leafout (wc := [(h0, kO10v h1 (((n0_size + 1) + 1) + 1) n0_place (va_rf o0_law)), (h1, kAi cint 120 (upd (upd (upd f1 (n0_size : Int32).toNatClampNeg (kk_by p1 0)) ((n0_size + 1) : Int32).toNatClampNeg (kk_by p1 8)) (((n0_size + 1) + 1) : Int32).toNatClampNeg (kk_by p1 16)))]) hP hD [0, 1] (by decide) rfl
          have hK9 := kk_Ks (tq := []) hK [] rfl
          exact W.iret (v := (((n0_size + 1) + 1) + 1)) hx hb hr (fun t ht hW => ⟨⟨(((n0_size + 1) + 1) + 1), (), rfl, ⟨(by show ((((n0_size + 1) + 1) + 1) : Int32).toInt = (n0_size : Int32).toInt + (4 : Int); omega), (by show 4 ≤ ((((n0_size + 1) + 1) + 1) : Int32).toInt ∧ ((((n0_size + 1) + 1) + 1) : Int32).toInt ≤ 120; first | with_reducible assumption | decide | (constructor <;> (omega)))⟩, (((n0_size + 1) + 1) + 1), (upd (upd (upd f1 (n0_size : Int32).toNatClampNeg (kk_by p1 0)) ((n0_size + 1) : Int32).toNatClampNeg (kk_by p1 8)) (((n0_size + 1) + 1) : Int32).toNatClampNeg (kk_by p1 16)), (by show 4 ≤ ((((n0_size + 1) + 1) + 1) : Int32).toInt ∧ ((((n0_size + 1) + 1) + 1) : Int32).toInt ≤ 120; first | with_reducible assumption | decide | (constructor <;> (omega))), b_12, (by show ((((n0_size + 1) + 1) + 1) : Int32).toInt = (n0_size : Int32).toInt + (4 : Int); first | with_reducible assumption | (omega)), ⟨fun hh => by first | exact rfl | (exfalso; omega), fun hh => by first | exact trivial | (exfalso; omega)⟩, by rw [ht]; exact hP9, va_K.moved hW.alike hK9, hD9⟩, hS.F ht⟩) hS.2.2 dX10_take_52
        · have t_13 : (((n0_size + 1) + 1) + 1).toInt < 120 := kk_nle c_13
          refine lv_aload_n hx hb dX10_take_16 rfl (lv_at hl 1 rfl) ?_
          refine va_get (D := (dC, dI)) (ci := 10) (v := .ref h1) (C := RX10) (T := TX10) (N := 4) hx hb hts (fun _ h => List.mem_cons_of_mem _ (List.mem_append_right _ h)) hown hK hP 0 rfl rfl 0 (by decide) (hts (.fieldLink RX10 9 "KinkStreet$Tape" "bytes" "[I") (List.mem_of_getElem? (i := 2) rfl)) (fun _ h9 => h9) rfl dX10_take_17 ?_
          refine lv_aload_n hx hb dX10_take_20 rfl (lv_at hl 1 rfl) ?_
          refine lv_dup hx hb dX10_take_21 rfl ?_
          refine va_get (D := (dC, dI)) (ci := 10) (v := .int (((n0_size + 1) + 1) + 1)) (C := RX10) (T := TX10) (N := 4) hx hb hts (fun _ h => List.mem_cons_of_mem _ (List.mem_append_right _ h)) hown hK hP 0 rfl rfl 1 (by decide) (hts (.fieldLink RX10 13 "KinkStreet$Tape" "size" "I") (List.mem_of_getElem? (i := 1) rfl)) (fun _ h9 => h9) rfl dX10_take_22 ?_
          refine lv_dup_x1 hx hb dX10_take_25 rfl rfl ?_
          refine lv_iconst (v := 1) hx hb dX10_take_26 kk_ic_1 ?_
          refine lv_iadd hx hb dX10_take_27 ?_
          refine va_put (D := (dC, dI)) (ci := 10) (v := .int ((((n0_size + 1) + 1) + 1) + 1)) (ty := .int) (C := RX10) (T := TX10) (N := 4) hx hb hts (fun _ h => List.mem_cons_of_mem _ (List.mem_append_right _ h)) tyX10 tyX10_ok nmX10 hown hK hP hD hS 0 rfl rfl 1 (by decide) (hts (.fieldLink RX10 13 "KinkStreet$Tape" "size" "I") (List.mem_of_getElem? (i := 1) rfl)) (fun _ h9 => h9) rfl (by decide +kernel) rfl rfl (Nat.le_of_ble_eq_true rfl) dX10_take_28 (fun H locs hP hD hS => ?_)
          replace hP : va_P (dC, dI) vwCl [(h0, kO10v h1 ((((n0_size + 1) + 1) + 1) + 1) n0_place (va_rf o0_law)), (h1, kAi cint 120 (upd (upd (upd f1 (n0_size : Int32).toNatClampNeg (kk_by p1 0)) ((n0_size + 1) : Int32).toNatClampNeg (kk_by p1 8)) (((n0_size + 1) + 1) : Int32).toNatClampNeg (kk_by p1 16)))] H := hP
          replace hD : va_D A [(h0, kO10v h1 ((((n0_size + 1) + 1) + 1) + 1) n0_place (va_rf o0_law)), (h1, kAi cint 120 (upd (upd (upd f1 (n0_size : Int32).toNatClampNeg (kk_by p1 0)) ((n0_size + 1) : Int32).toNatClampNeg (kk_by p1 8)) (((n0_size + 1) + 1) : Int32).toNatClampNeg (kk_by p1 16)))] := hD
          refine lv_iload_n hx hb dX10_take_31 rfl (lv_at hl 3 rfl) ?_
          refine lv_bipush (v := 8) hx hb dX10_take_32 kk_bi_8 ?_
          refine lv_iload_n hx hb dX10_take_34 rfl (lv_at hl 0 rfl) ?_
          refine lv_imul hx hb dX10_take_35 ?_
          refine lv_topi (fun y_14 e_14 => ?_)
          obtain rfl : y_14 = 24 := e_14.trans (by decide)
          refine lv_iushr hx hb dX10_take_36 rfl ?_
          refine lv_sipush (v := 255) hx hb dX10_take_37 kk_si_255 ?_
          refine lv_iand hx hb dX10_take_40 ?_
          refine lv_topi (fun y_15 e_15 => ?_)
          obtain rfl : y_15 = (kk_by p1 24) := e_15.trans rfl
          have t_15 : 0 ≤ (kk_by p1 24).toInt ∧ (kk_by p1 24).toInt ≤ 255 := kk_by_b _ _
          have := kk_add2 (x := (((n0_size + 1) + 1) + 1)) (y := 1) (a := (((n0_size + 1) + 1) + 1).toInt) (b := 1) rfl rfl (by omega) (by omega)
          refine va_iast hx hb hK hP hD hS 1 0 rfl rfl (vp_in_iff.mpr ⟨by omega, by omega⟩) dX10_take_41 (fun H locs hP hD hS => ?_)
          have w_16 : ((upd (upd (upd (upd f1 (n0_size : Int32).toNatClampNeg (kk_by p1 0)) ((n0_size + 1) : Int32).toNatClampNeg (kk_by p1 8)) (((n0_size + 1) + 1) : Int32).toNatClampNeg (kk_by p1 16)) ((((n0_size + 1) + 1) + 1) : Int32).toNatClampNeg (kk_by p1 24)) ((((n0_size + 1) + 1) + 1) : Int32).toNatClampNeg).toInt = ((kk_by p1 24) : Int32).toInt := by rw [kk_ups]
          have b_16 := kk_upb (k := ((((n0_size + 1) + 1) + 1) : Int32).toNatClampNeg) b_12 (show 0 ≤ ((kk_by p1 24) : Int32).toInt ∧ ((kk_by p1 24) : Int32).toInt ≤ 255 from by first | with_reducible assumption | decide | (constructor <;> (omega)))
          replace hP : va_P (dC, dI) vwCl [(h0, kO10v h1 ((((n0_size + 1) + 1) + 1) + 1) n0_place (va_rf o0_law)), (h1, kAi cint 120 (upd (upd (upd (upd f1 (n0_size : Int32).toNatClampNeg (kk_by p1 0)) ((n0_size + 1) : Int32).toNatClampNeg (kk_by p1 8)) (((n0_size + 1) + 1) : Int32).toNatClampNeg (kk_by p1 16)) ((((n0_size + 1) + 1) + 1) : Int32).toNatClampNeg (kk_by p1 24)))] H := hP
          replace hD : va_D A [(h0, kO10v h1 ((((n0_size + 1) + 1) + 1) + 1) n0_place (va_rf o0_law)), (h1, kAi cint 120 (upd (upd (upd (upd f1 (n0_size : Int32).toNatClampNeg (kk_by p1 0)) ((n0_size + 1) : Int32).toNatClampNeg (kk_by p1 8)) (((n0_size + 1) + 1) : Int32).toNatClampNeg (kk_by p1 16)) ((((n0_size + 1) + 1) + 1) : Int32).toNatClampNeg (kk_by p1 24)))] := hD
          refine lv_iinc (v := 4) hx hb dX10_take_42 hl (k := 0) rfl (by first | rfl | decide) (by decide) (rfl : _ = ([(3, .int 4), (0, .ref h0), (1, .int 4), (2, .int p1)] : List (Nat × Value))) (fun ls hl => ?_)
          refine lv_goto (tgt := 2) hx hb dX10_take_45 (by decide) ?_
          refine lv_iload_n hx hb dX10_take_2 rfl (lv_at hl 0 rfl) ?_
          refine lv_iload_n hx hb dX10_take_3 rfl (lv_at hl 2 rfl) ?_
          refine lv_icmp_ge (tgt := 48) hx hb dX10_take_4 (by decide) (fun _ => ?_) (fun c => absurd c (by decide))
          refine lv_aload_n hx hb dX10_take_48 rfl (lv_at hl 1 rfl) ?_
          refine va_get (D := (dC, dI)) (ci := 10) (v := .int ((((n0_size + 1) + 1) + 1) + 1)) (C := RX10) (T := TX10) (N := 4) hx hb hts (fun _ h => List.mem_cons_of_mem _ (List.mem_append_right _ h)) hown hK hP 0 rfl rfl 1 (by decide) (hts (.fieldLink RX10 13 "KinkStreet$Tape" "size" "I") (List.mem_of_getElem? (i := 1) rfl)) (fun _ h9 => h9) rfl dX10_take_49 ?_
          obtain ⟨hP9, hD9⟩ := kk_leafout (wc := [(h0, kO10v h1 ((((n0_size + 1) + 1) + 1) + 1) n0_place (va_rf o0_law)), (h1, kAi cint 120 (upd (upd (upd (upd f1 (n0_size : Int32).toNatClampNeg (kk_by p1 0)) ((n0_size + 1) : Int32).toNatClampNeg (kk_by p1 8)) (((n0_size + 1) + 1) : Int32).toNatClampNeg (kk_by p1 16)) ((((n0_size + 1) + 1) + 1) : Int32).toNatClampNeg (kk_by p1 24)))]) hP hD [0, 1] (by decide) rfl
          have hK9 := kk_Ks (tq := []) hK [] rfl
          exact W.iret (v := ((((n0_size + 1) + 1) + 1) + 1)) hx hb hr (fun t ht hW => ⟨⟨((((n0_size + 1) + 1) + 1) + 1), (), rfl, ⟨(by show (((((n0_size + 1) + 1) + 1) + 1) : Int32).toInt = (n0_size : Int32).toInt + (4 : Int); omega), (by show 4 ≤ (((((n0_size + 1) + 1) + 1) + 1) : Int32).toInt ∧ (((((n0_size + 1) + 1) + 1) + 1) : Int32).toInt ≤ 120; first | with_reducible assumption | decide | (constructor <;> (omega)))⟩, ((((n0_size + 1) + 1) + 1) + 1), (upd (upd (upd (upd f1 (n0_size : Int32).toNatClampNeg (kk_by p1 0)) ((n0_size + 1) : Int32).toNatClampNeg (kk_by p1 8)) (((n0_size + 1) + 1) : Int32).toNatClampNeg (kk_by p1 16)) ((((n0_size + 1) + 1) + 1) : Int32).toNatClampNeg (kk_by p1 24)), (by show 4 ≤ (((((n0_size + 1) + 1) + 1) + 1) : Int32).toInt ∧ (((((n0_size + 1) + 1) + 1) + 1) : Int32).toInt ≤ 120; first | with_reducible assumption | decide | (constructor <;> (omega))), b_16, (by show (((((n0_size + 1) + 1) + 1) + 1) : Int32).toInt = (n0_size : Int32).toInt + (4 : Int); first | with_reducible assumption | (omega)), ⟨fun hh => by first | exact rfl | (exfalso; omega), fun hh => by first | exact trivial | (exfalso; omega)⟩, by rw [ht]; exact hP9, va_K.moved hW.alike hK9, hD9⟩, hS.F ht⟩) hS.2.2 dX10_take_52
set_option maxHeartbeats 4000000 in
set_option maxRecDepth 100000 in
theorem g_X11_feed_1 (l : Launch) (dC : Nat → ClassId) (dI : Nat → Nat → Nat) (h0 : Nat) (h1 : Nat) (h2 : Nat) (h3 : Nat) (h4 : Nat) (h5 : Nat) (h6 : Nat) (h7 : Nat) (h8 : Nat) (h9 : Nat) (h10 : Nat) (h11 : Nat) (h12 : Nat) (h13 : Nat) (cint : ClassId) (sz : Nat) (p0 : Int32) (p1 : Int32) (n0_streetCount : Int32) (n0_lawCount : Int32) (n1_size : Int32) (n1_place : Int32) (o1_law : Option Nat) (f2 : Nat → Int32) (tn0_streetCount : kk_bx (0 ≤ n0_streetCount.toInt ∧ n0_streetCount.toInt ≤ 6)) (tn0_lawCount : kk_bx (0 ≤ n0_lawCount.toInt ∧ n0_lawCount.toInt ≤ 4)) (tn1_size : 0 ≤ n1_size.toInt ∧ n1_size.toInt ≤ 120) (bf2 : ∀ j, j < 120 → 0 ≤ (f2 j).toInt ∧ (f2 j).toInt ≤ 255) : Met l yX11_feed wsX11_feed ({ frames := 1, cells := 0, slots := 0, locals := 23 }) (va_Pc [.ref h0, .int p0, .int p1] (fun U => U.heap.size = sz ∧ va_P (dC, dI) vwCl [(h0, kO11 h3 n0_streetCount h4 h5 h6 h7 h8 h9 h10 h1 h11 n0_lawCount h12 h13), (h1, kO10v h2 n1_size n1_place (va_rf o1_law)), (h2, kAi cint 120 f2)] U.heap ∧ va_K (dC, dI) vwCl [(cint, .int)] U ∧ va_D (fun _ => True) [(h0, kO11 h3 n0_streetCount h4 h5 h6 h7 h8 h9 h10 h1 h11 n0_lawCount h12 h13), (h1, kO10v h2 n1_size n1_place (va_rf o1_law)), (h2, kAi cint 120 f2)])) (va_Qi (fun (r : Int32) (_ : Unit) => (((1 ≤ p0.toInt ∧ p0.toInt ≤ 4) → n1_size.toInt + p0.toInt ≤ 120 → r.toInt = n1_size.toInt + p0.toInt) ∧ ((1 ≤ p0.toInt ∧ p0.toInt ≤ 4) → 120 < n1_size.toInt + p0.toInt → r.toInt = -3) ∧ (¬ (1 ≤ p0.toInt ∧ p0.toInt ≤ 4) → r.toInt = -1)) ∧ ((-3) ≤ r.toInt ∧ r.toInt ≤ 120)) (fun (_ : Unit) t => ∃ (m1_size : Int32) (g2 : Nat → Int32), (0 ≤ m1_size.toInt ∧ m1_size.toInt ≤ 120) ∧ (∀ j, j < 120 → 0 ≤ (g2 j).toInt ∧ (g2 j).toInt ≤ 255) ∧ ((((1 ≤ p0.toInt ∧ p0.toInt ≤ 4) → n1_size.toInt + p0.toInt ≤ 120 → m1_size.toInt = n1_size.toInt + p0.toInt) ∧ ((1 ≤ p0.toInt ∧ p0.toInt ≤ 4) → 120 < n1_size.toInt + p0.toInt → m1_size.toInt = n1_size.toInt) ∧ (¬ (1 ≤ p0.toInt ∧ p0.toInt ≤ 4) → m1_size.toInt = n1_size.toInt))) ∧ ((p0.toInt = 1 ∧ n1_size.toInt + 1 ≤ 120 → g2 = (upd f2 (n1_size : Int32).toNatClampNeg (kk_by p1 0))) ∧ (p0.toInt = 2 ∧ n1_size.toInt + 2 ≤ 120 → g2 = (upd (upd f2 (n1_size : Int32).toNatClampNeg (kk_by p1 0)) ((n1_size + 1) : Int32).toNatClampNeg (kk_by p1 8))) ∧ (p0.toInt = 3 ∧ n1_size.toInt + 3 ≤ 120 → g2 = (upd (upd (upd f2 (n1_size : Int32).toNatClampNeg (kk_by p1 0)) ((n1_size + 1) : Int32).toNatClampNeg (kk_by p1 8)) (((n1_size + 1) + 1) : Int32).toNatClampNeg (kk_by p1 16))) ∧ (p0.toInt = 4 ∧ n1_size.toInt + 4 ≤ 120 → g2 = (upd (upd (upd (upd f2 (n1_size : Int32).toNatClampNeg (kk_by p1 0)) ((n1_size + 1) : Int32).toNatClampNeg (kk_by p1 8)) (((n1_size + 1) + 1) : Int32).toNatClampNeg (kk_by p1 16)) ((((n1_size + 1) + 1) + 1) : Int32).toNatClampNeg (kk_by p1 24))) ∧ (¬ ((1 ≤ p0.toInt ∧ p0.toInt ≤ 4) ∧ n1_size.toInt + p0.toInt ≤ 120) → g2 = f2)) ∧ va_P (dC, dI) vwCl [(h0, kO11 h3 n0_streetCount h4 h5 h6 h7 h8 h9 h10 h1 h11 n0_lawCount h12 h13), (h1, kO10v h2 m1_size n1_place (va_rf o1_law)), (h2, kAi cint 120 g2)] t.heap ∧ va_K (dC, dI) vwCl [] t ∧ va_D (va_A [(h0, kO11 h3 n0_streetCount h4 h5 h6 h7 h8 h9 h10 h1 h11 n0_lawCount h12 h13), (h1, kO10v h2 n1_size n1_place (va_rf o1_law)), (h2, kAi cint 120 f2)] sz) [(h0, kO11 h3 n0_streetCount h4 h5 h6 h7 h8 h9 h10 h1 h11 n0_lawCount h12 h13), (h1, kO10v h2 m1_size n1_place (va_rf o1_law)), (h2, kAi cint 120 g2)]) (va_A [(h0, kO11 h3 n0_streetCount h4 h5 h6 h7 h8 h9 h10 h1 h11 n0_lawCount h12 h13), (h1, kO10v h2 n1_size n1_place (va_rf o1_law)), (h2, kAi cint 120 f2)] sz)) 0 0 (va_A [(h0, kO11 h3 n0_streetCount h4 h5 h6 h7 h8 h9 h10 h1 h11 n0_lawCount h12 h13), (h1, kO10v h2 n1_size n1_place (va_rf o1_law)), (h2, kAi cint 120 f2)] sz) := by
  refine Met.ofW (cc := cX11_feed) (maxL := 3) (ret := (some .int)) (by decide) rfl ?_
  intro p e s m args below meth c s₁ B hml hv
  obtain ⟨rfl, hsz, hP, hK, hD0⟩ := hv
  have hx := B.exec
  have hb := B.bytes
  have hr := B.returns
  have hts := atoms_spec (ws := wsX11_feed) B.pre
  have hown : s.vm.findClass RX11 = some m.cls := findClass_of_methodNamed B.named
  have hlocks := B.notSynchronized
  subst hsz
  have hD := hD0.self (sz := s.heap.size)
  generalize hAe : va_A [(h0, kO11 h3 n0_streetCount h4 h5 h6 h7 h8 h9 h10 h1 h11 n0_lawCount h12 h13), (h1, kO10v h2 n1_size n1_place (va_rf o1_law)), (h2, kAi cint 120 f2)] s.heap.size = A at hD ⊢
  have hA : ∀ q : Nat, s.heap.size ≤ q → A q := fun q h => by rw [← hAe]; exact Or.inr h
  have hS : va_S A s.heap s.heap [] := va_S.rf
  replace hP : va_P (dC, dI) vwCl [(h0, kO11 h3 n0_streetCount h4 h5 h6 h7 h8 h9 h10 h1 h11 n0_lawCount h12 h13), (h1, kO10v h2 n1_size n1_place (va_rf o1_law)), (h2, kAi cint 120 f2)] s.heap := hP
  have hl := lv_entry ([.ref h0, .int p0, .int p1]) (n := 3) (Nat.le_of_ble_eq_true rfl)
  rw [lg_entry_eq]
  generalize (lg_sl ([.ref h0, .int p0, .int p1]) ++ List.replicate (3 - (lg_sl ([.ref h0, .int p0, .int p1])).length) Slot.unset).toArray = ls at hl ⊢
  replace hl : lv_has ls 3 [(0, .ref h0), (1, .int p0), (2, .int p1)] := hl
  refine lv_iload_n hx hb dX11_feed_0 rfl (lv_at hl 1 rfl) ?_
  refine lv_iconst (v := 1) hx hb dX11_feed_1 kk_ic_1 ?_
  refine lv_icmp_lt (tgt := 10) hx hb dX11_feed_2 (by decide) (fun c_1 => ?_) (fun c_1 => ?_)
  · have t_1 : p0.toInt < 1 := kk_lt c_1
    refine lv_iconst (v := (-1)) hx hb dX11_feed_10 kk_ic_m1 ?_
    obtain ⟨hP9, hD9⟩ := kk_leafout (wc := [(h0, kO11 h3 n0_streetCount h4 h5 h6 h7 h8 h9 h10 h1 h11 n0_lawCount h12 h13), (h1, kO10v h2 n1_size n1_place (va_rf o1_law)), (h2, kAi cint 120 f2)]) hP hD [0, 1, 2] (by decide) rfl
    have hK9 := kk_Ks (tq := []) hK [] rfl
    have := kk_rng p0
    have := kk_add2 (x := n1_size) (y := 1) (a := n1_size.toInt) (b := 1) rfl rfl (by omega) (by omega)
    have := kk_add2 (x := (n1_size + 1)) (y := 1) (a := (n1_size + 1).toInt) (b := 1) rfl rfl (by omega) (by omega)
    have := kk_add2 (x := ((n1_size + 1) + 1)) (y := 1) (a := ((n1_size + 1) + 1).toInt) (b := 1) rfl rfl (by omega) (by omega)
    exact W.iret (v := (-1)) hx hb hr (fun t ht hW => ⟨⟨(-1), (), rfl, ⟨(by show (((1 ≤ (p0 : Int32).toInt ∧ (p0 : Int32).toInt ≤ 4) → (n1_size : Int32).toInt + (p0 : Int32).toInt ≤ 120 → ((-1) : Int) = (n1_size : Int32).toInt + (p0 : Int32).toInt) ∧ ((1 ≤ (p0 : Int32).toInt ∧ (p0 : Int32).toInt ≤ 4) → 120 < (n1_size : Int32).toInt + (p0 : Int32).toInt → ((-1) : Int) = -3) ∧ (¬ (1 ≤ (p0 : Int32).toInt ∧ (p0 : Int32).toInt ≤ 4) → ((-1) : Int) = -1)); omega), (by show (-3) ≤ ((-1) : Int32).toInt ∧ ((-1) : Int32).toInt ≤ 120; first | with_reducible assumption | decide | (constructor <;> (omega)))⟩, n1_size, f2, tn1_size, bf2, (by show (((1 ≤ (p0 : Int32).toInt ∧ (p0 : Int32).toInt ≤ 4) → (n1_size : Int32).toInt + (p0 : Int32).toInt ≤ 120 → (n1_size : Int32).toInt = (n1_size : Int32).toInt + (p0 : Int32).toInt) ∧ ((1 ≤ (p0 : Int32).toInt ∧ (p0 : Int32).toInt ≤ 4) → 120 < (n1_size : Int32).toInt + (p0 : Int32).toInt → (n1_size : Int32).toInt = (n1_size : Int32).toInt) ∧ (¬ (1 ≤ (p0 : Int32).toInt ∧ (p0 : Int32).toInt ≤ 4) → (n1_size : Int32).toInt = (n1_size : Int32).toInt)); first | with_reducible assumption | (refine ⟨?_, ?_, ?_⟩ <;> (first | with_reducible assumption | (omega)))), ⟨fun hh => by first | exact rfl | (exfalso; omega), fun hh => by first | exact rfl | (exfalso; omega), fun hh => by first | exact rfl | (exfalso; omega), fun hh => by first | exact rfl | (exfalso; omega), fun hh => by first | exact rfl | (exfalso; omega)⟩, by rw [ht]; exact hP9, va_K.moved hW.alike hK9, hD9⟩, hS.F ht⟩) hS.2.2 dX11_feed_11
  · have t_1 : 1 ≤ p0.toInt := kk_nlt c_1
    refine lv_iload_n hx hb dX11_feed_5 rfl (lv_at hl 1 rfl) ?_
    refine lv_iconst (v := 4) hx hb dX11_feed_6 kk_ic_4 ?_
    refine lv_icmp_le (tgt := 12) hx hb dX11_feed_7 (by decide) (fun c_2 => ?_) (fun c_2 => ?_)
    · have t_2 : p0.toInt ≤ 4 := kk_le c_2
      rcases (show p0 = 1 ∨ p0 = 2 ∨ p0 = 3 ∨ p0 = 4 from by simp only [← Int32.toInt_inj]; simp; omega) with e_3 | e_3 | e_3 | e_3
      · have t_3 : p0.toInt = 1 := by rw [e_3]; rfl
        subst e_3
        refine lv_aload_n hx hb dX11_feed_12 rfl (lv_at hl 0 rfl) ?_
        refine va_get (D := (dC, dI)) (ci := 11) (v := .ref h1) (C := RX11) (T := TX11) (N := 14) hx hb hts (fun _ h => List.mem_cons_of_mem _ (List.mem_append_left _ (List.mem_append_right _ h))) hown hK hP 0 rfl rfl 9 (by decide) (hts (.fieldLink RX11 65 "KinkStreet" "tape" "LKinkStreet$Tape;") (List.mem_of_getElem? (i := 1) rfl)) (fun _ h9 => h9) rfl dX11_feed_13 ?_
        refine lv_iload_n hx hb dX11_feed_16 rfl (lv_at hl 1 rfl) ?_
        obtain ⟨hPc, hDc, hFc⟩ := kk_cutout (wc := [(h1, kO10v h2 n1_size n1_place (va_rf o1_law))]) hP hD hS hA [1] (by decide) rfl
        have hKc := kk_Ks (tq := []) hK [] rfl
        refine va_calli (va_runV (As := [.int 1]) (rest := []) ⟨hx, hb, hml, hown, hts⟩ (g_X10_hasRoomFor_1 l dC dI h1 h2 s.heap.size 1 n1_size n1_place o1_law tn1_size (by show 1 ≤ 1; first | decide | (omega)) (by show 1 ≤ 4; first | decide | (omega))) (cwV 1 hts gX11_feed_X10_hasRoomFor rfl rfl rfl ⟨rfl, kh_X10_hasRoomFor⟩ ⟨Nat.le_of_ble_eq_true rfl, Nat.le_of_ble_eq_true rfl⟩) ⟨fun a U g mk q => by obtain ⟨q0, q1, qP, qK, qD⟩ := q; exact ⟨q0, q1, qP, va_K.moved (u := U) (U := U.calling g mk a) (Vm.Alike.refl U.vm) qK, qD⟩, va_recv hKc hPc (ci := 10) (q0 := 0) rfl rfl, fun U hU hW => ⟨rfl, by rw [hU], by rw [hU]; exact hPc, va_K.moved hW.alike hKc, hDc.weaken (fun _ _ _ _ => trivial)⟩⟩ rfl rfl hl.1 rfl (lv_room (Nat.le_of_ble_eq_true rfl)) dX11_feed_17 ⟨Nat.le_of_ble_eq_true rfl, Nat.le_of_ble_eq_true rfl⟩) hS (fun q _ h => hFc q h) hFc (fun r_4 u t H1 locs ht hvm hw hB hz1 hk1 hS => ?_)
        obtain ⟨hP1, hK1, hD1⟩ := hB
        rw [ht] at hP1
        have hK1 := va_K.moved hvm.symm hK1
        obtain ⟨hP, hD⟩ := va_join (wr := [(h0, kO11 h3 n0_streetCount h4 h5 h6 h7 h8 h9 h10 h1 h11 n0_lawCount h12 h13), (h2, kAi cint 120 f2)]) (w1 := [(h1, kO10v h2 n1_size n1_place (va_rf o1_law))]) hP hD [1] [0, 2] rfl rfl (by decide) (by decide) hk1 hFc hP1 hD1
        generalize H1 = H at hP hS ⊢
        replace hP : va_P (dC, dI) vwCl [(h0, kO11 h3 n0_streetCount h4 h5 h6 h7 h8 h9 h10 h1 h11 n0_lawCount h12 h13), (h2, kAi cint 120 f2), (h1, kO10v h2 n1_size n1_place (va_rf o1_law))] H := hP
        replace hD : va_D A [(h0, kO11 h3 n0_streetCount h4 h5 h6 h7 h8 h9 h10 h1 h11 n0_lawCount h12 h13), (h2, kAi cint 120 f2), (h1, kO10v h2 n1_size n1_place (va_rf o1_law))] := hD
        rcases hw with ⟨t_4_0, t_4_any⟩
        · skip
          replace t_4_0 : ((r_4.toInt = 1 → n1_size.toInt + (1 : Int) ≤ 120) ∧ (r_4.toInt = 0 → 120 < n1_size.toInt + (1 : Int))) := t_4_0
          refine lv_if_eq (tgt := 35) hx hb dX11_feed_20 (by decide) (fun c_5 => ?_) (fun c_5 => ?_)
          · have t_5 : r_4.toInt = 0 := kk_eq c_5
            refine lv_bipush (v := (-3)) hx hb dX11_feed_35 kk_bi_m3 ?_
            obtain ⟨hP9, hD9⟩ := kk_leafout (wc := [(h0, kO11 h3 n0_streetCount h4 h5 h6 h7 h8 h9 h10 h1 h11 n0_lawCount h12 h13), (h1, kO10v h2 n1_size n1_place (va_rf o1_law)), (h2, kAi cint 120 f2)]) hP hD [0, 2, 1] (by decide) rfl
            have hK9 := kk_Ks (tq := []) hK [] rfl
            have := kk_add2 (x := n1_size) (y := 1) (a := n1_size.toInt) (b := 1) rfl rfl (by omega) (by omega)
            have := kk_add2 (x := (n1_size + 1)) (y := 1) (a := (n1_size + 1).toInt) (b := 1) rfl rfl (by omega) (by omega)
            have := kk_add2 (x := ((n1_size + 1) + 1)) (y := 1) (a := ((n1_size + 1) + 1).toInt) (b := 1) rfl rfl (by omega) (by omega)
            exact W.iret (v := (-3)) hx hb hr (fun t ht hW => ⟨⟨(-3), (), rfl, ⟨(by show (((1 ≤ (1 : Int) ∧ (1 : Int) ≤ 4) → (n1_size : Int32).toInt + (1 : Int) ≤ 120 → ((-3) : Int) = (n1_size : Int32).toInt + (1 : Int)) ∧ ((1 ≤ (1 : Int) ∧ (1 : Int) ≤ 4) → 120 < (n1_size : Int32).toInt + (1 : Int) → ((-3) : Int) = -3) ∧ (¬ (1 ≤ (1 : Int) ∧ (1 : Int) ≤ 4) → ((-3) : Int) = -1)); omega), (by show (-3) ≤ ((-3) : Int32).toInt ∧ ((-3) : Int32).toInt ≤ 120; first | with_reducible assumption | decide | (constructor <;> (omega)))⟩, n1_size, f2, tn1_size, bf2, (by show (((1 ≤ (1 : Int) ∧ (1 : Int) ≤ 4) → (n1_size : Int32).toInt + (1 : Int) ≤ 120 → (n1_size : Int32).toInt = (n1_size : Int32).toInt + (1 : Int)) ∧ ((1 ≤ (1 : Int) ∧ (1 : Int) ≤ 4) → 120 < (n1_size : Int32).toInt + (1 : Int) → (n1_size : Int32).toInt = (n1_size : Int32).toInt) ∧ (¬ (1 ≤ (1 : Int) ∧ (1 : Int) ≤ 4) → (n1_size : Int32).toInt = (n1_size : Int32).toInt)); first | with_reducible assumption | (refine ⟨?_, ?_, ?_⟩ <;> (first | with_reducible assumption | (omega)))), ⟨fun hh => by first | exact rfl | (exfalso; omega), fun hh => by first | exact rfl | (exfalso; omega), fun hh => by first | exact rfl | (exfalso; omega), fun hh => by first | exact rfl | (exfalso; omega), fun hh => by first | exact rfl | (exfalso; omega)⟩, by rw [ht]; exact hP9, va_K.moved hW.alike hK9, hD9⟩, hS.F ht⟩) hS.2.2 dX11_feed_37
          · have t_5 : r_4.toInt ≠ 0 := kk_ne c_5
            refine lv_aload_n hx hb dX11_feed_23 rfl (lv_at hl 0 rfl) ?_
            refine va_get (D := (dC, dI)) (ci := 11) (v := .ref h1) (C := RX11) (T := TX11) (N := 14) hx hb hts (fun _ h => List.mem_cons_of_mem _ (List.mem_append_left _ (List.mem_append_right _ h))) hown hK hP 0 rfl rfl 9 (by decide) (hts (.fieldLink RX11 65 "KinkStreet" "tape" "LKinkStreet$Tape;") (List.mem_of_getElem? (i := 1) rfl)) (fun _ h9 => h9) rfl dX11_feed_24 ?_
            refine lv_iload_n hx hb dX11_feed_27 rfl (lv_at hl 1 rfl) ?_
            refine lv_iload_n hx hb dX11_feed_28 rfl (lv_at hl 2 rfl) ?_
            obtain ⟨hPc, hDc, hFc⟩ := kk_cutout (wc := [(h1, kO10v h2 n1_size n1_place (va_rf o1_law)), (h2, kAi cint 120 f2)]) hP hD hS hA [2, 1] (by decide) rfl
            have hKc := kk_Ks (tq := [(cint, .int)]) hK [0] rfl
            refine va_calli (va_runV (As := [.int 1, .int p1]) (rest := []) ⟨hx, hb, hml, hown, hts⟩ (g_X10_take_1 l dC dI h1 h2 cint H.size p1 n1_size n1_place o1_law f2 tn1_size bf2 (by show ((n1_size : Int32).toInt + (1 : Int) ≤ 120); first | with_reducible assumption | (omega))) (cwV 2 hts gX11_feed_X10_take rfl rfl rfl ⟨rfl, kh_X10_take⟩ ⟨Nat.le_of_ble_eq_true rfl, Nat.le_of_ble_eq_true rfl⟩) ⟨fun a U g mk q => by obtain ⟨q0, q1, qP, qK, qD⟩ := q; exact ⟨q0, q1, qP, va_K.moved (u := U) (U := U.calling g mk a) (Vm.Alike.refl U.vm) qK, qD⟩, va_recv hKc hPc (ci := 10) (q0 := 0) rfl rfl, fun U hU hW => ⟨rfl, by rw [hU], by rw [hU]; exact hPc, va_K.moved hW.alike hKc, hDc.weaken (fun _ _ _ _ => trivial)⟩⟩ rfl rfl hl.1 rfl (lv_room (Nat.le_of_ble_eq_true rfl)) dX11_feed_29 ⟨Nat.le_of_ble_eq_true rfl, Nat.le_of_ble_eq_true rfl⟩) hS (fun q _ h => hFc q h) hFc (fun r_6 u t H1 locs ht hvm hw hB hz1 hk1 hS => ?_)
            obtain ⟨y_7, f_8, by_7, bf_8, v_8_0, hn_8_0, hP1, hK1, hD1⟩ := hB
            replace v_8_0 : y_7.toInt = n1_size.toInt + (1 : Int) := v_8_0
            replace hn_8_0 : ((0 : Int) = 0 → f_8 = (upd f2 (n1_size : Int32).toNatClampNeg (kk_by p1 0))) ∧ ((0 : Int) = 0 → True) := hn_8_0
            rw [ht] at hP1
            have hK1 := va_K.moved hvm.symm hK1
            obtain ⟨hP, hD⟩ := va_join (wr := [(h0, kO11 h3 n0_streetCount h4 h5 h6 h7 h8 h9 h10 h1 h11 n0_lawCount h12 h13)]) (w1 := [(h1, kO10v h2 y_7 n1_place (va_rf o1_law)), (h2, kAi cint 120 f_8)]) hP hD [2, 1] [0] rfl rfl (by decide) (by decide) hk1 hFc hP1 hD1
            generalize H1 = H at hP hS ⊢
            replace hP : va_P (dC, dI) vwCl [(h0, kO11 h3 n0_streetCount h4 h5 h6 h7 h8 h9 h10 h1 h11 n0_lawCount h12 h13), (h1, kO10v h2 y_7 n1_place (va_rf o1_law)), (h2, kAi cint 120 f_8)] H := hP
            replace hD : va_D A [(h0, kO11 h3 n0_streetCount h4 h5 h6 h7 h8 h9 h10 h1 h11 n0_lawCount h12 h13), (h1, kO10v h2 y_7 n1_place (va_rf o1_law)), (h2, kAi cint 120 f_8)] := hD
            rcases hw with ⟨t_6_0, t_6_any⟩
            · skip
              replace t_6_0 : r_6.toInt = n1_size.toInt + (1 : Int) := t_6_0
              refine lv_goto (tgt := 37) hx hb dX11_feed_32 (by decide) ?_
              obtain ⟨hP9, hD9⟩ := kk_leafout (wc := [(h0, kO11 h3 n0_streetCount h4 h5 h6 h7 h8 h9 h10 h1 h11 n0_lawCount h12 h13), (h1, kO10v h2 y_7 n1_place (va_rf o1_law)), (h2, kAi cint 120 f_8)]) hP hD [0, 1, 2] (by decide) rfl
              have hK9 := kk_Ks (tq := []) hK [] rfl
              have := kk_add2 (x := n1_size) (y := 1) (a := n1_size.toInt) (b := 1) rfl rfl (by omega) (by omega)
              have := kk_add2 (x := (n1_size + 1)) (y := 1) (a := (n1_size + 1).toInt) (b := 1) rfl rfl (by omega) (by omega)
              have := kk_add2 (x := ((n1_size + 1) + 1)) (y := 1) (a := ((n1_size + 1) + 1).toInt) (b := 1) rfl rfl (by omega) (by omega)
              exact W.iret (v := r_6) hx hb hr (fun t ht hW => ⟨⟨r_6, (), rfl, ⟨(by show (((1 ≤ (1 : Int) ∧ (1 : Int) ≤ 4) → (n1_size : Int32).toInt + (1 : Int) ≤ 120 → (r_6 : Int32).toInt = (n1_size : Int32).toInt + (1 : Int)) ∧ ((1 ≤ (1 : Int) ∧ (1 : Int) ≤ 4) → 120 < (n1_size : Int32).toInt + (1 : Int) → (r_6 : Int32).toInt = -3) ∧ (¬ (1 ≤ (1 : Int) ∧ (1 : Int) ≤ 4) → (r_6 : Int32).toInt = -1)); omega), (by show (-3) ≤ (r_6 : Int32).toInt ∧ (r_6 : Int32).toInt ≤ 120; first | with_reducible assumption | (constructor <;> (omega)))⟩, y_7, f_8, (by show 0 ≤ (y_7 : Int32).toInt ∧ (y_7 : Int32).toInt ≤ 120; first | with_reducible assumption | (constructor <;> (omega))), bf_8, (by show (((1 ≤ (1 : Int) ∧ (1 : Int) ≤ 4) → (n1_size : Int32).toInt + (1 : Int) ≤ 120 → (y_7 : Int32).toInt = (n1_size : Int32).toInt + (1 : Int)) ∧ ((1 ≤ (1 : Int) ∧ (1 : Int) ≤ 4) → 120 < (n1_size : Int32).toInt + (1 : Int) → (y_7 : Int32).toInt = (n1_size : Int32).toInt) ∧ (¬ (1 ≤ (1 : Int) ∧ (1 : Int) ≤ 4) → (y_7 : Int32).toInt = (n1_size : Int32).toInt)); first | with_reducible assumption | (refine ⟨?_, ?_, ?_⟩ <;> (first | with_reducible assumption | (omega)))), ⟨fun hh => by first | exact rfl | (exfalso; omega) | exact (hn_8_0.1 (by omega)) | exact (hn_8_0.2 (by omega)), fun hh => by first | exact rfl | (exfalso; omega) | exact (hn_8_0.1 (by omega)) | exact (hn_8_0.2 (by omega)), fun hh => by first | exact rfl | (exfalso; omega) | exact (hn_8_0.1 (by omega)) | exact (hn_8_0.2 (by omega)), fun hh => by first | exact rfl | (exfalso; omega) | exact (hn_8_0.1 (by omega)) | exact (hn_8_0.2 (by omega)), fun hh => by first | exact rfl | (exfalso; omega) | exact (hn_8_0.1 (by omega)) | exact (hn_8_0.2 (by omega))⟩, by rw [ht]; exact hP9, va_K.moved hW.alike hK9, hD9⟩, hS.F ht⟩) hS.2.2 dX11_feed_37
      · have t_3 : p0.toInt = 2 := by rw [e_3]; rfl
        subst e_3
        refine lv_aload_n hx hb dX11_feed_12 rfl (lv_at hl 0 rfl) ?_
        refine va_get (D := (dC, dI)) (ci := 11) (v := .ref h1) (C := RX11) (T := TX11) (N := 14) hx hb hts (fun _ h => List.mem_cons_of_mem _ (List.mem_append_left _ (List.mem_append_right _ h))) hown hK hP 0 rfl rfl 9 (by decide) (hts (.fieldLink RX11 65 "KinkStreet" "tape" "LKinkStreet$Tape;") (List.mem_of_getElem? (i := 1) rfl)) (fun _ h9 => h9) rfl dX11_feed_13 ?_
        refine lv_iload_n hx hb dX11_feed_16 rfl (lv_at hl 1 rfl) ?_
        obtain ⟨hPc, hDc, hFc⟩ := kk_cutout (wc := [(h1, kO10v h2 n1_size n1_place (va_rf o1_law))]) hP hD hS hA [1] (by decide) rfl
        have hKc := kk_Ks (tq := []) hK [] rfl
        refine va_calli (va_runV (As := [.int 2]) (rest := []) ⟨hx, hb, hml, hown, hts⟩ (g_X10_hasRoomFor_1 l dC dI h1 h2 s.heap.size 2 n1_size n1_place o1_law tn1_size (by show 1 ≤ 2; first | decide | (omega)) (by show 2 ≤ 4; first | decide | (omega))) (cwV 1 hts gX11_feed_X10_hasRoomFor rfl rfl rfl ⟨rfl, kh_X10_hasRoomFor⟩ ⟨Nat.le_of_ble_eq_true rfl, Nat.le_of_ble_eq_true rfl⟩) ⟨fun a U g mk q => by obtain ⟨q0, q1, qP, qK, qD⟩ := q; exact ⟨q0, q1, qP, va_K.moved (u := U) (U := U.calling g mk a) (Vm.Alike.refl U.vm) qK, qD⟩, va_recv hKc hPc (ci := 10) (q0 := 0) rfl rfl, fun U hU hW => ⟨rfl, by rw [hU], by rw [hU]; exact hPc, va_K.moved hW.alike hKc, hDc.weaken (fun _ _ _ _ => trivial)⟩⟩ rfl rfl hl.1 rfl (lv_room (Nat.le_of_ble_eq_true rfl)) dX11_feed_17 ⟨Nat.le_of_ble_eq_true rfl, Nat.le_of_ble_eq_true rfl⟩) hS (fun q _ h => hFc q h) hFc (fun r_9 u t H1 locs ht hvm hw hB hz1 hk1 hS => ?_)
        obtain ⟨hP1, hK1, hD1⟩ := hB
        rw [ht] at hP1
        have hK1 := va_K.moved hvm.symm hK1
        obtain ⟨hP, hD⟩ := va_join (wr := [(h0, kO11 h3 n0_streetCount h4 h5 h6 h7 h8 h9 h10 h1 h11 n0_lawCount h12 h13), (h2, kAi cint 120 f2)]) (w1 := [(h1, kO10v h2 n1_size n1_place (va_rf o1_law))]) hP hD [1] [0, 2] rfl rfl (by decide) (by decide) hk1 hFc hP1 hD1
        generalize H1 = H at hP hS ⊢
        replace hP : va_P (dC, dI) vwCl [(h0, kO11 h3 n0_streetCount h4 h5 h6 h7 h8 h9 h10 h1 h11 n0_lawCount h12 h13), (h2, kAi cint 120 f2), (h1, kO10v h2 n1_size n1_place (va_rf o1_law))] H := hP
        replace hD : va_D A [(h0, kO11 h3 n0_streetCount h4 h5 h6 h7 h8 h9 h10 h1 h11 n0_lawCount h12 h13), (h2, kAi cint 120 f2), (h1, kO10v h2 n1_size n1_place (va_rf o1_law))] := hD
        rcases hw with ⟨t_9_0, t_9_any⟩
        · skip
          replace t_9_0 : ((r_9.toInt = 1 → n1_size.toInt + (2 : Int) ≤ 120) ∧ (r_9.toInt = 0 → 120 < n1_size.toInt + (2 : Int))) := t_9_0
          refine lv_if_eq (tgt := 35) hx hb dX11_feed_20 (by decide) (fun c_10 => ?_) (fun c_10 => ?_)
          · have t_10 : r_9.toInt = 0 := kk_eq c_10
            refine lv_bipush (v := (-3)) hx hb dX11_feed_35 kk_bi_m3 ?_
            obtain ⟨hP9, hD9⟩ := kk_leafout (wc := [(h0, kO11 h3 n0_streetCount h4 h5 h6 h7 h8 h9 h10 h1 h11 n0_lawCount h12 h13), (h1, kO10v h2 n1_size n1_place (va_rf o1_law)), (h2, kAi cint 120 f2)]) hP hD [0, 2, 1] (by decide) rfl
            have hK9 := kk_Ks (tq := []) hK [] rfl
            have := kk_add2 (x := n1_size) (y := 1) (a := n1_size.toInt) (b := 1) rfl rfl (by omega) (by omega)
            have := kk_add2 (x := (n1_size + 1)) (y := 1) (a := (n1_size + 1).toInt) (b := 1) rfl rfl (by omega) (by omega)
            have := kk_add2 (x := ((n1_size + 1) + 1)) (y := 1) (a := ((n1_size + 1) + 1).toInt) (b := 1) rfl rfl (by omega) (by omega)
            exact W.iret (v := (-3)) hx hb hr (fun t ht hW => ⟨⟨(-3), (), rfl, ⟨(by show (((1 ≤ (2 : Int) ∧ (2 : Int) ≤ 4) → (n1_size : Int32).toInt + (2 : Int) ≤ 120 → ((-3) : Int) = (n1_size : Int32).toInt + (2 : Int)) ∧ ((1 ≤ (2 : Int) ∧ (2 : Int) ≤ 4) → 120 < (n1_size : Int32).toInt + (2 : Int) → ((-3) : Int) = -3) ∧ (¬ (1 ≤ (2 : Int) ∧ (2 : Int) ≤ 4) → ((-3) : Int) = -1)); omega), (by show (-3) ≤ ((-3) : Int32).toInt ∧ ((-3) : Int32).toInt ≤ 120; first | with_reducible assumption | decide | (constructor <;> (omega)))⟩, n1_size, f2, tn1_size, bf2, (by show (((1 ≤ (2 : Int) ∧ (2 : Int) ≤ 4) → (n1_size : Int32).toInt + (2 : Int) ≤ 120 → (n1_size : Int32).toInt = (n1_size : Int32).toInt + (2 : Int)) ∧ ((1 ≤ (2 : Int) ∧ (2 : Int) ≤ 4) → 120 < (n1_size : Int32).toInt + (2 : Int) → (n1_size : Int32).toInt = (n1_size : Int32).toInt) ∧ (¬ (1 ≤ (2 : Int) ∧ (2 : Int) ≤ 4) → (n1_size : Int32).toInt = (n1_size : Int32).toInt)); first | with_reducible assumption | (refine ⟨?_, ?_, ?_⟩ <;> (first | with_reducible assumption | (omega)))), ⟨fun hh => by first | exact rfl | (exfalso; omega), fun hh => by first | exact rfl | (exfalso; omega), fun hh => by first | exact rfl | (exfalso; omega), fun hh => by first | exact rfl | (exfalso; omega), fun hh => by first | exact rfl | (exfalso; omega)⟩, by rw [ht]; exact hP9, va_K.moved hW.alike hK9, hD9⟩, hS.F ht⟩) hS.2.2 dX11_feed_37
          · have t_10 : r_9.toInt ≠ 0 := kk_ne c_10
            refine lv_aload_n hx hb dX11_feed_23 rfl (lv_at hl 0 rfl) ?_
            refine va_get (D := (dC, dI)) (ci := 11) (v := .ref h1) (C := RX11) (T := TX11) (N := 14) hx hb hts (fun _ h => List.mem_cons_of_mem _ (List.mem_append_left _ (List.mem_append_right _ h))) hown hK hP 0 rfl rfl 9 (by decide) (hts (.fieldLink RX11 65 "KinkStreet" "tape" "LKinkStreet$Tape;") (List.mem_of_getElem? (i := 1) rfl)) (fun _ h9 => h9) rfl dX11_feed_24 ?_
            refine lv_iload_n hx hb dX11_feed_27 rfl (lv_at hl 1 rfl) ?_
            refine lv_iload_n hx hb dX11_feed_28 rfl (lv_at hl 2 rfl) ?_
            obtain ⟨hPc, hDc, hFc⟩ := kk_cutout (wc := [(h1, kO10v h2 n1_size n1_place (va_rf o1_law)), (h2, kAi cint 120 f2)]) hP hD hS hA [2, 1] (by decide) rfl
            have hKc := kk_Ks (tq := [(cint, .int)]) hK [0] rfl
            refine va_calli (va_runV (As := [.int 2, .int p1]) (rest := []) ⟨hx, hb, hml, hown, hts⟩ (g_X10_take_2 l dC dI h1 h2 cint H.size p1 n1_size n1_place o1_law f2 tn1_size bf2 (by show ((n1_size : Int32).toInt + (2 : Int) ≤ 120); first | with_reducible assumption | (omega))) (cwV 2 hts gX11_feed_X10_take rfl rfl rfl ⟨rfl, kh_X10_take⟩ ⟨Nat.le_of_ble_eq_true rfl, Nat.le_of_ble_eq_true rfl⟩) ⟨fun a U g mk q => by obtain ⟨q0, q1, qP, qK, qD⟩ := q; exact ⟨q0, q1, qP, va_K.moved (u := U) (U := U.calling g mk a) (Vm.Alike.refl U.vm) qK, qD⟩, va_recv hKc hPc (ci := 10) (q0 := 0) rfl rfl, fun U hU hW => ⟨rfl, by rw [hU], by rw [hU]; exact hPc, va_K.moved hW.alike hKc, hDc.weaken (fun _ _ _ _ => trivial)⟩⟩ rfl rfl hl.1 rfl (lv_room (Nat.le_of_ble_eq_true rfl)) dX11_feed_29 ⟨Nat.le_of_ble_eq_true rfl, Nat.le_of_ble_eq_true rfl⟩) hS (fun q _ h => hFc q h) hFc (fun r_11 u t H1 locs ht hvm hw hB hz1 hk1 hS => ?_)
            obtain ⟨y_12, f_13, by_12, bf_13, v_13_0, hn_13_0, hP1, hK1, hD1⟩ := hB
            replace v_13_0 : y_12.toInt = n1_size.toInt + (2 : Int) := v_13_0
            replace hn_13_0 : ((0 : Int) = 0 → f_13 = (upd (upd f2 (n1_size : Int32).toNatClampNeg (kk_by p1 0)) ((n1_size + 1) : Int32).toNatClampNeg (kk_by p1 8))) ∧ ((0 : Int) = 0 → True) := hn_13_0
            rw [ht] at hP1
            have hK1 := va_K.moved hvm.symm hK1
            obtain ⟨hP, hD⟩ := va_join (wr := [(h0, kO11 h3 n0_streetCount h4 h5 h6 h7 h8 h9 h10 h1 h11 n0_lawCount h12 h13)]) (w1 := [(h1, kO10v h2 y_12 n1_place (va_rf o1_law)), (h2, kAi cint 120 f_13)]) hP hD [2, 1] [0] rfl rfl (by decide) (by decide) hk1 hFc hP1 hD1
            generalize H1 = H at hP hS ⊢
            replace hP : va_P (dC, dI) vwCl [(h0, kO11 h3 n0_streetCount h4 h5 h6 h7 h8 h9 h10 h1 h11 n0_lawCount h12 h13), (h1, kO10v h2 y_12 n1_place (va_rf o1_law)), (h2, kAi cint 120 f_13)] H := hP
            replace hD : va_D A [(h0, kO11 h3 n0_streetCount h4 h5 h6 h7 h8 h9 h10 h1 h11 n0_lawCount h12 h13), (h1, kO10v h2 y_12 n1_place (va_rf o1_law)), (h2, kAi cint 120 f_13)] := hD
            rcases hw with ⟨t_11_0, t_11_any⟩
            · skip
              replace t_11_0 : r_11.toInt = n1_size.toInt + (2 : Int) := t_11_0
              refine lv_goto (tgt := 37) hx hb dX11_feed_32 (by decide) ?_
              obtain ⟨hP9, hD9⟩ := kk_leafout (wc := [(h0, kO11 h3 n0_streetCount h4 h5 h6 h7 h8 h9 h10 h1 h11 n0_lawCount h12 h13), (h1, kO10v h2 y_12 n1_place (va_rf o1_law)), (h2, kAi cint 120 f_13)]) hP hD [0, 1, 2] (by decide) rfl
              have hK9 := kk_Ks (tq := []) hK [] rfl
              have := kk_add2 (x := n1_size) (y := 1) (a := n1_size.toInt) (b := 1) rfl rfl (by omega) (by omega)
              have := kk_add2 (x := (n1_size + 1)) (y := 1) (a := (n1_size + 1).toInt) (b := 1) rfl rfl (by omega) (by omega)
              have := kk_add2 (x := ((n1_size + 1) + 1)) (y := 1) (a := ((n1_size + 1) + 1).toInt) (b := 1) rfl rfl (by omega) (by omega)
              exact W.iret (v := r_11) hx hb hr (fun t ht hW => ⟨⟨r_11, (), rfl, ⟨(by show (((1 ≤ (2 : Int) ∧ (2 : Int) ≤ 4) → (n1_size : Int32).toInt + (2 : Int) ≤ 120 → (r_11 : Int32).toInt = (n1_size : Int32).toInt + (2 : Int)) ∧ ((1 ≤ (2 : Int) ∧ (2 : Int) ≤ 4) → 120 < (n1_size : Int32).toInt + (2 : Int) → (r_11 : Int32).toInt = -3) ∧ (¬ (1 ≤ (2 : Int) ∧ (2 : Int) ≤ 4) → (r_11 : Int32).toInt = -1)); omega), (by show (-3) ≤ (r_11 : Int32).toInt ∧ (r_11 : Int32).toInt ≤ 120; first | with_reducible assumption | (constructor <;> (omega)))⟩, y_12, f_13, (by show 0 ≤ (y_12 : Int32).toInt ∧ (y_12 : Int32).toInt ≤ 120; first | with_reducible assumption | (constructor <;> (omega))), bf_13, (by show (((1 ≤ (2 : Int) ∧ (2 : Int) ≤ 4) → (n1_size : Int32).toInt + (2 : Int) ≤ 120 → (y_12 : Int32).toInt = (n1_size : Int32).toInt + (2 : Int)) ∧ ((1 ≤ (2 : Int) ∧ (2 : Int) ≤ 4) → 120 < (n1_size : Int32).toInt + (2 : Int) → (y_12 : Int32).toInt = (n1_size : Int32).toInt) ∧ (¬ (1 ≤ (2 : Int) ∧ (2 : Int) ≤ 4) → (y_12 : Int32).toInt = (n1_size : Int32).toInt)); first | with_reducible assumption | (refine ⟨?_, ?_, ?_⟩ <;> (first | with_reducible assumption | (omega)))), ⟨fun hh => by first | exact rfl | (exfalso; omega) | exact (hn_13_0.1 (by omega)) | exact (hn_13_0.2 (by omega)), fun hh => by first | exact rfl | (exfalso; omega) | exact (hn_13_0.1 (by omega)) | exact (hn_13_0.2 (by omega)), fun hh => by first | exact rfl | (exfalso; omega) | exact (hn_13_0.1 (by omega)) | exact (hn_13_0.2 (by omega)), fun hh => by first | exact rfl | (exfalso; omega) | exact (hn_13_0.1 (by omega)) | exact (hn_13_0.2 (by omega)), fun hh => by first | exact rfl | (exfalso; omega) | exact (hn_13_0.1 (by omega)) | exact (hn_13_0.2 (by omega))⟩, by rw [ht]; exact hP9, va_K.moved hW.alike hK9, hD9⟩, hS.F ht⟩) hS.2.2 dX11_feed_37
      · have t_3 : p0.toInt = 3 := by rw [e_3]; rfl
        subst e_3
        refine lv_aload_n hx hb dX11_feed_12 rfl (lv_at hl 0 rfl) ?_
        refine va_get (D := (dC, dI)) (ci := 11) (v := .ref h1) (C := RX11) (T := TX11) (N := 14) hx hb hts (fun _ h => List.mem_cons_of_mem _ (List.mem_append_left _ (List.mem_append_right _ h))) hown hK hP 0 rfl rfl 9 (by decide) (hts (.fieldLink RX11 65 "KinkStreet" "tape" "LKinkStreet$Tape;") (List.mem_of_getElem? (i := 1) rfl)) (fun _ h9 => h9) rfl dX11_feed_13 ?_
        refine lv_iload_n hx hb dX11_feed_16 rfl (lv_at hl 1 rfl) ?_
        obtain ⟨hPc, hDc, hFc⟩ := kk_cutout (wc := [(h1, kO10v h2 n1_size n1_place (va_rf o1_law))]) hP hD hS hA [1] (by decide) rfl
        have hKc := kk_Ks (tq := []) hK [] rfl
        refine va_calli (va_runV (As := [.int 3]) (rest := []) ⟨hx, hb, hml, hown, hts⟩ (g_X10_hasRoomFor_1 l dC dI h1 h2 s.heap.size 3 n1_size n1_place o1_law tn1_size (by show 1 ≤ 3; first | decide | (omega)) (by show 3 ≤ 4; first | decide | (omega))) (cwV 1 hts gX11_feed_X10_hasRoomFor rfl rfl rfl ⟨rfl, kh_X10_hasRoomFor⟩ ⟨Nat.le_of_ble_eq_true rfl, Nat.le_of_ble_eq_true rfl⟩) ⟨fun a U g mk q => by obtain ⟨q0, q1, qP, qK, qD⟩ := q; exact ⟨q0, q1, qP, va_K.moved (u := U) (U := U.calling g mk a) (Vm.Alike.refl U.vm) qK, qD⟩, va_recv hKc hPc (ci := 10) (q0 := 0) rfl rfl, fun U hU hW => ⟨rfl, by rw [hU], by rw [hU]; exact hPc, va_K.moved hW.alike hKc, hDc.weaken (fun _ _ _ _ => trivial)⟩⟩ rfl rfl hl.1 rfl (lv_room (Nat.le_of_ble_eq_true rfl)) dX11_feed_17 ⟨Nat.le_of_ble_eq_true rfl, Nat.le_of_ble_eq_true rfl⟩) hS (fun q _ h => hFc q h) hFc (fun r_14 u t H1 locs ht hvm hw hB hz1 hk1 hS => ?_)
        obtain ⟨hP1, hK1, hD1⟩ := hB
        rw [ht] at hP1
        have hK1 := va_K.moved hvm.symm hK1
        obtain ⟨hP, hD⟩ := va_join (wr := [(h0, kO11 h3 n0_streetCount h4 h5 h6 h7 h8 h9 h10 h1 h11 n0_lawCount h12 h13), (h2, kAi cint 120 f2)]) (w1 := [(h1, kO10v h2 n1_size n1_place (va_rf o1_law))]) hP hD [1] [0, 2] rfl rfl (by decide) (by decide) hk1 hFc hP1 hD1
        generalize H1 = H at hP hS ⊢
        replace hP : va_P (dC, dI) vwCl [(h0, kO11 h3 n0_streetCount h4 h5 h6 h7 h8 h9 h10 h1 h11 n0_lawCount h12 h13), (h2, kAi cint 120 f2), (h1, kO10v h2 n1_size n1_place (va_rf o1_law))] H := hP
        replace hD : va_D A [(h0, kO11 h3 n0_streetCount h4 h5 h6 h7 h8 h9 h10 h1 h11 n0_lawCount h12 h13), (h2, kAi cint 120 f2), (h1, kO10v h2 n1_size n1_place (va_rf o1_law))] := hD
        rcases hw with ⟨t_14_0, t_14_any⟩
        · skip
          replace t_14_0 : ((r_14.toInt = 1 → n1_size.toInt + (3 : Int) ≤ 120) ∧ (r_14.toInt = 0 → 120 < n1_size.toInt + (3 : Int))) := t_14_0
          refine lv_if_eq (tgt := 35) hx hb dX11_feed_20 (by decide) (fun c_15 => ?_) (fun c_15 => ?_)
          · have t_15 : r_14.toInt = 0 := kk_eq c_15
            refine lv_bipush (v := (-3)) hx hb dX11_feed_35 kk_bi_m3 ?_
            obtain ⟨hP9, hD9⟩ := kk_leafout (wc := [(h0, kO11 h3 n0_streetCount h4 h5 h6 h7 h8 h9 h10 h1 h11 n0_lawCount h12 h13), (h1, kO10v h2 n1_size n1_place (va_rf o1_law)), (h2, kAi cint 120 f2)]) hP hD [0, 2, 1] (by decide) rfl
            have hK9 := kk_Ks (tq := []) hK [] rfl
            have := kk_add2 (x := n1_size) (y := 1) (a := n1_size.toInt) (b := 1) rfl rfl (by omega) (by omega)
            have := kk_add2 (x := (n1_size + 1)) (y := 1) (a := (n1_size + 1).toInt) (b := 1) rfl rfl (by omega) (by omega)
            have := kk_add2 (x := ((n1_size + 1) + 1)) (y := 1) (a := ((n1_size + 1) + 1).toInt) (b := 1) rfl rfl (by omega) (by omega)
            exact W.iret (v := (-3)) hx hb hr (fun t ht hW => ⟨⟨(-3), (), rfl, ⟨(by show (((1 ≤ (3 : Int) ∧ (3 : Int) ≤ 4) → (n1_size : Int32).toInt + (3 : Int) ≤ 120 → ((-3) : Int) = (n1_size : Int32).toInt + (3 : Int)) ∧ ((1 ≤ (3 : Int) ∧ (3 : Int) ≤ 4) → 120 < (n1_size : Int32).toInt + (3 : Int) → ((-3) : Int) = -3) ∧ (¬ (1 ≤ (3 : Int) ∧ (3 : Int) ≤ 4) → ((-3) : Int) = -1)); omega), (by show (-3) ≤ ((-3) : Int32).toInt ∧ ((-3) : Int32).toInt ≤ 120; first | with_reducible assumption | decide | (constructor <;> (omega)))⟩, n1_size, f2, tn1_size, bf2, (by show (((1 ≤ (3 : Int) ∧ (3 : Int) ≤ 4) → (n1_size : Int32).toInt + (3 : Int) ≤ 120 → (n1_size : Int32).toInt = (n1_size : Int32).toInt + (3 : Int)) ∧ ((1 ≤ (3 : Int) ∧ (3 : Int) ≤ 4) → 120 < (n1_size : Int32).toInt + (3 : Int) → (n1_size : Int32).toInt = (n1_size : Int32).toInt) ∧ (¬ (1 ≤ (3 : Int) ∧ (3 : Int) ≤ 4) → (n1_size : Int32).toInt = (n1_size : Int32).toInt)); first | with_reducible assumption | (refine ⟨?_, ?_, ?_⟩ <;> (first | with_reducible assumption | (omega)))), ⟨fun hh => by first | exact rfl | (exfalso; omega), fun hh => by first | exact rfl | (exfalso; omega), fun hh => by first | exact rfl | (exfalso; omega), fun hh => by first | exact rfl | (exfalso; omega), fun hh => by first | exact rfl | (exfalso; omega)⟩, by rw [ht]; exact hP9, va_K.moved hW.alike hK9, hD9⟩, hS.F ht⟩) hS.2.2 dX11_feed_37
          · have t_15 : r_14.toInt ≠ 0 := kk_ne c_15
            refine lv_aload_n hx hb dX11_feed_23 rfl (lv_at hl 0 rfl) ?_
            refine va_get (D := (dC, dI)) (ci := 11) (v := .ref h1) (C := RX11) (T := TX11) (N := 14) hx hb hts (fun _ h => List.mem_cons_of_mem _ (List.mem_append_left _ (List.mem_append_right _ h))) hown hK hP 0 rfl rfl 9 (by decide) (hts (.fieldLink RX11 65 "KinkStreet" "tape" "LKinkStreet$Tape;") (List.mem_of_getElem? (i := 1) rfl)) (fun _ h9 => h9) rfl dX11_feed_24 ?_
            refine lv_iload_n hx hb dX11_feed_27 rfl (lv_at hl 1 rfl) ?_
            refine lv_iload_n hx hb dX11_feed_28 rfl (lv_at hl 2 rfl) ?_
            obtain ⟨hPc, hDc, hFc⟩ := kk_cutout (wc := [(h1, kO10v h2 n1_size n1_place (va_rf o1_law)), (h2, kAi cint 120 f2)]) hP hD hS hA [2, 1] (by decide) rfl
            have hKc := kk_Ks (tq := [(cint, .int)]) hK [0] rfl
            refine va_calli (va_runV (As := [.int 3, .int p1]) (rest := []) ⟨hx, hb, hml, hown, hts⟩ (g_X10_take_3 l dC dI h1 h2 cint H.size p1 n1_size n1_place o1_law f2 tn1_size bf2 (by show ((n1_size : Int32).toInt + (3 : Int) ≤ 120); first | with_reducible assumption | (omega))) (cwV 2 hts gX11_feed_X10_take rfl rfl rfl ⟨rfl, kh_X10_take⟩ ⟨Nat.le_of_ble_eq_true rfl, Nat.le_of_ble_eq_true rfl⟩) ⟨fun a U g mk q => by obtain ⟨q0, q1, qP, qK, qD⟩ := q; exact ⟨q0, q1, qP, va_K.moved (u := U) (U := U.calling g mk a) (Vm.Alike.refl U.vm) qK, qD⟩, va_recv hKc hPc (ci := 10) (q0 := 0) rfl rfl, fun U hU hW => ⟨rfl, by rw [hU], by rw [hU]; exact hPc, va_K.moved hW.alike hKc, hDc.weaken (fun _ _ _ _ => trivial)⟩⟩ rfl rfl hl.1 rfl (lv_room (Nat.le_of_ble_eq_true rfl)) dX11_feed_29 ⟨Nat.le_of_ble_eq_true rfl, Nat.le_of_ble_eq_true rfl⟩) hS (fun q _ h => hFc q h) hFc (fun r_16 u t H1 locs ht hvm hw hB hz1 hk1 hS => ?_)
            obtain ⟨y_17, f_18, by_17, bf_18, v_18_0, hn_18_0, hP1, hK1, hD1⟩ := hB
            replace v_18_0 : y_17.toInt = n1_size.toInt + (3 : Int) := v_18_0
            replace hn_18_0 : ((0 : Int) = 0 → f_18 = (upd (upd (upd f2 (n1_size : Int32).toNatClampNeg (kk_by p1 0)) ((n1_size + 1) : Int32).toNatClampNeg (kk_by p1 8)) (((n1_size + 1) + 1) : Int32).toNatClampNeg (kk_by p1 16))) ∧ ((0 : Int) = 0 → True) := hn_18_0
            rw [ht] at hP1
            have hK1 := va_K.moved hvm.symm hK1
            obtain ⟨hP, hD⟩ := va_join (wr := [(h0, kO11 h3 n0_streetCount h4 h5 h6 h7 h8 h9 h10 h1 h11 n0_lawCount h12 h13)]) (w1 := [(h1, kO10v h2 y_17 n1_place (va_rf o1_law)), (h2, kAi cint 120 f_18)]) hP hD [2, 1] [0] rfl rfl (by decide) (by decide) hk1 hFc hP1 hD1
            generalize H1 = H at hP hS ⊢
            replace hP : va_P (dC, dI) vwCl [(h0, kO11 h3 n0_streetCount h4 h5 h6 h7 h8 h9 h10 h1 h11 n0_lawCount h12 h13), (h1, kO10v h2 y_17 n1_place (va_rf o1_law)), (h2, kAi cint 120 f_18)] H := hP
            replace hD : va_D A [(h0, kO11 h3 n0_streetCount h4 h5 h6 h7 h8 h9 h10 h1 h11 n0_lawCount h12 h13), (h1, kO10v h2 y_17 n1_place (va_rf o1_law)), (h2, kAi cint 120 f_18)] := hD
            rcases hw with ⟨t_16_0, t_16_any⟩
            · skip
              replace t_16_0 : r_16.toInt = n1_size.toInt + (3 : Int) := t_16_0
              refine lv_goto (tgt := 37) hx hb dX11_feed_32 (by decide) ?_
              obtain ⟨hP9, hD9⟩ := kk_leafout (wc := [(h0, kO11 h3 n0_streetCount h4 h5 h6 h7 h8 h9 h10 h1 h11 n0_lawCount h12 h13), (h1, kO10v h2 y_17 n1_place (va_rf o1_law)), (h2, kAi cint 120 f_18)]) hP hD [0, 1, 2] (by decide) rfl
              have hK9 := kk_Ks (tq := []) hK [] rfl
              have := kk_add2 (x := n1_size) (y := 1) (a := n1_size.toInt) (b := 1) rfl rfl (by omega) (by omega)
              have := kk_add2 (x := (n1_size + 1)) (y := 1) (a := (n1_size + 1).toInt) (b := 1) rfl rfl (by omega) (by omega)
              have := kk_add2 (x := ((n1_size + 1) + 1)) (y := 1) (a := ((n1_size + 1) + 1).toInt) (b := 1) rfl rfl (by omega) (by omega)
              exact W.iret (v := r_16) hx hb hr (fun t ht hW => ⟨⟨r_16, (), rfl, ⟨(by show (((1 ≤ (3 : Int) ∧ (3 : Int) ≤ 4) → (n1_size : Int32).toInt + (3 : Int) ≤ 120 → (r_16 : Int32).toInt = (n1_size : Int32).toInt + (3 : Int)) ∧ ((1 ≤ (3 : Int) ∧ (3 : Int) ≤ 4) → 120 < (n1_size : Int32).toInt + (3 : Int) → (r_16 : Int32).toInt = -3) ∧ (¬ (1 ≤ (3 : Int) ∧ (3 : Int) ≤ 4) → (r_16 : Int32).toInt = -1)); omega), (by show (-3) ≤ (r_16 : Int32).toInt ∧ (r_16 : Int32).toInt ≤ 120; first | with_reducible assumption | (constructor <;> (omega)))⟩, y_17, f_18, (by show 0 ≤ (y_17 : Int32).toInt ∧ (y_17 : Int32).toInt ≤ 120; first | with_reducible assumption | (constructor <;> (omega))), bf_18, (by show (((1 ≤ (3 : Int) ∧ (3 : Int) ≤ 4) → (n1_size : Int32).toInt + (3 : Int) ≤ 120 → (y_17 : Int32).toInt = (n1_size : Int32).toInt + (3 : Int)) ∧ ((1 ≤ (3 : Int) ∧ (3 : Int) ≤ 4) → 120 < (n1_size : Int32).toInt + (3 : Int) → (y_17 : Int32).toInt = (n1_size : Int32).toInt) ∧ (¬ (1 ≤ (3 : Int) ∧ (3 : Int) ≤ 4) → (y_17 : Int32).toInt = (n1_size : Int32).toInt)); first | with_reducible assumption | (refine ⟨?_, ?_, ?_⟩ <;> (first | with_reducible assumption | (omega)))), ⟨fun hh => by first | exact rfl | (exfalso; omega) | exact (hn_18_0.1 (by omega)) | exact (hn_18_0.2 (by omega)), fun hh => by first | exact rfl | (exfalso; omega) | exact (hn_18_0.1 (by omega)) | exact (hn_18_0.2 (by omega)), fun hh => by first | exact rfl | (exfalso; omega) | exact (hn_18_0.1 (by omega)) | exact (hn_18_0.2 (by omega)), fun hh => by first | exact rfl | (exfalso; omega) | exact (hn_18_0.1 (by omega)) | exact (hn_18_0.2 (by omega)), fun hh => by first | exact rfl | (exfalso; omega) | exact (hn_18_0.1 (by omega)) | exact (hn_18_0.2 (by omega))⟩, by rw [ht]; exact hP9, va_K.moved hW.alike hK9, hD9⟩, hS.F ht⟩) hS.2.2 dX11_feed_37
      · have t_3 : p0.toInt = 4 := by rw [e_3]; rfl
        subst e_3
        refine lv_aload_n hx hb dX11_feed_12 rfl (lv_at hl 0 rfl) ?_
        refine va_get (D := (dC, dI)) (ci := 11) (v := .ref h1) (C := RX11) (T := TX11) (N := 14) hx hb hts (fun _ h => List.mem_cons_of_mem _ (List.mem_append_left _ (List.mem_append_right _ h))) hown hK hP 0 rfl rfl 9 (by decide) (hts (.fieldLink RX11 65 "KinkStreet" "tape" "LKinkStreet$Tape;") (List.mem_of_getElem? (i := 1) rfl)) (fun _ h9 => h9) rfl dX11_feed_13 ?_
        refine lv_iload_n hx hb dX11_feed_16 rfl (lv_at hl 1 rfl) ?_
        obtain ⟨hPc, hDc, hFc⟩ := kk_cutout (wc := [(h1, kO10v h2 n1_size n1_place (va_rf o1_law))]) hP hD hS hA [1] (by decide) rfl
        have hKc := kk_Ks (tq := []) hK [] rfl
        refine va_calli (va_runV (As := [.int 4]) (rest := []) ⟨hx, hb, hml, hown, hts⟩ (g_X10_hasRoomFor_1 l dC dI h1 h2 s.heap.size 4 n1_size n1_place o1_law tn1_size (by show 1 ≤ 4; first | decide | (omega)) (by show 4 ≤ 4; first | decide | (omega))) (cwV 1 hts gX11_feed_X10_hasRoomFor rfl rfl rfl ⟨rfl, kh_X10_hasRoomFor⟩ ⟨Nat.le_of_ble_eq_true rfl, Nat.le_of_ble_eq_true rfl⟩) ⟨fun a U g mk q => by obtain ⟨q0, q1, qP, qK, qD⟩ := q; exact ⟨q0, q1, qP, va_K.moved (u := U) (U := U.calling g mk a) (Vm.Alike.refl U.vm) qK, qD⟩, va_recv hKc hPc (ci := 10) (q0 := 0) rfl rfl, fun U hU hW => ⟨rfl, by rw [hU], by rw [hU]; exact hPc, va_K.moved hW.alike hKc, hDc.weaken (fun _ _ _ _ => trivial)⟩⟩ rfl rfl hl.1 rfl (lv_room (Nat.le_of_ble_eq_true rfl)) dX11_feed_17 ⟨Nat.le_of_ble_eq_true rfl, Nat.le_of_ble_eq_true rfl⟩) hS (fun q _ h => hFc q h) hFc (fun r_19 u t H1 locs ht hvm hw hB hz1 hk1 hS => ?_)
        obtain ⟨hP1, hK1, hD1⟩ := hB
        rw [ht] at hP1
        have hK1 := va_K.moved hvm.symm hK1
        obtain ⟨hP, hD⟩ := va_join (wr := [(h0, kO11 h3 n0_streetCount h4 h5 h6 h7 h8 h9 h10 h1 h11 n0_lawCount h12 h13), (h2, kAi cint 120 f2)]) (w1 := [(h1, kO10v h2 n1_size n1_place (va_rf o1_law))]) hP hD [1] [0, 2] rfl rfl (by decide) (by decide) hk1 hFc hP1 hD1
        generalize H1 = H at hP hS ⊢
        replace hP : va_P (dC, dI) vwCl [(h0, kO11 h3 n0_streetCount h4 h5 h6 h7 h8 h9 h10 h1 h11 n0_lawCount h12 h13), (h2, kAi cint 120 f2), (h1, kO10v h2 n1_size n1_place (va_rf o1_law))] H := hP
        replace hD : va_D A [(h0, kO11 h3 n0_streetCount h4 h5 h6 h7 h8 h9 h10 h1 h11 n0_lawCount h12 h13), (h2, kAi cint 120 f2), (h1, kO10v h2 n1_size n1_place (va_rf o1_law))] := hD
        rcases hw with ⟨t_19_0, t_19_any⟩
        · skip
          replace t_19_0 : ((r_19.toInt = 1 → n1_size.toInt + (4 : Int) ≤ 120) ∧ (r_19.toInt = 0 → 120 < n1_size.toInt + (4 : Int))) := t_19_0
          refine lv_if_eq (tgt := 35) hx hb dX11_feed_20 (by decide) (fun c_20 => ?_) (fun c_20 => ?_)
          · have t_20 : r_19.toInt = 0 := kk_eq c_20
            refine lv_bipush (v := (-3)) hx hb dX11_feed_35 kk_bi_m3 ?_
            obtain ⟨hP9, hD9⟩ := kk_leafout (wc := [(h0, kO11 h3 n0_streetCount h4 h5 h6 h7 h8 h9 h10 h1 h11 n0_lawCount h12 h13), (h1, kO10v h2 n1_size n1_place (va_rf o1_law)), (h2, kAi cint 120 f2)]) hP hD [0, 2, 1] (by decide) rfl
            have hK9 := kk_Ks (tq := []) hK [] rfl
            have := kk_add2 (x := n1_size) (y := 1) (a := n1_size.toInt) (b := 1) rfl rfl (by omega) (by omega)
            have := kk_add2 (x := (n1_size + 1)) (y := 1) (a := (n1_size + 1).toInt) (b := 1) rfl rfl (by omega) (by omega)
            have := kk_add2 (x := ((n1_size + 1) + 1)) (y := 1) (a := ((n1_size + 1) + 1).toInt) (b := 1) rfl rfl (by omega) (by omega)
            exact W.iret (v := (-3)) hx hb hr (fun t ht hW => ⟨⟨(-3), (), rfl, ⟨(by show (((1 ≤ (4 : Int) ∧ (4 : Int) ≤ 4) → (n1_size : Int32).toInt + (4 : Int) ≤ 120 → ((-3) : Int) = (n1_size : Int32).toInt + (4 : Int)) ∧ ((1 ≤ (4 : Int) ∧ (4 : Int) ≤ 4) → 120 < (n1_size : Int32).toInt + (4 : Int) → ((-3) : Int) = -3) ∧ (¬ (1 ≤ (4 : Int) ∧ (4 : Int) ≤ 4) → ((-3) : Int) = -1)); omega), (by show (-3) ≤ ((-3) : Int32).toInt ∧ ((-3) : Int32).toInt ≤ 120; first | with_reducible assumption | decide | (constructor <;> (omega)))⟩, n1_size, f2, tn1_size, bf2, (by show (((1 ≤ (4 : Int) ∧ (4 : Int) ≤ 4) → (n1_size : Int32).toInt + (4 : Int) ≤ 120 → (n1_size : Int32).toInt = (n1_size : Int32).toInt + (4 : Int)) ∧ ((1 ≤ (4 : Int) ∧ (4 : Int) ≤ 4) → 120 < (n1_size : Int32).toInt + (4 : Int) → (n1_size : Int32).toInt = (n1_size : Int32).toInt) ∧ (¬ (1 ≤ (4 : Int) ∧ (4 : Int) ≤ 4) → (n1_size : Int32).toInt = (n1_size : Int32).toInt)); first | with_reducible assumption | (refine ⟨?_, ?_, ?_⟩ <;> (first | with_reducible assumption | (omega)))), ⟨fun hh => by first | exact rfl | (exfalso; omega), fun hh => by first | exact rfl | (exfalso; omega), fun hh => by first | exact rfl | (exfalso; omega), fun hh => by first | exact rfl | (exfalso; omega), fun hh => by first | exact rfl | (exfalso; omega)⟩, by rw [ht]; exact hP9, va_K.moved hW.alike hK9, hD9⟩, hS.F ht⟩) hS.2.2 dX11_feed_37
          · have t_20 : r_19.toInt ≠ 0 := kk_ne c_20
            refine lv_aload_n hx hb dX11_feed_23 rfl (lv_at hl 0 rfl) ?_
            refine va_get (D := (dC, dI)) (ci := 11) (v := .ref h1) (C := RX11) (T := TX11) (N := 14) hx hb hts (fun _ h => List.mem_cons_of_mem _ (List.mem_append_left _ (List.mem_append_right _ h))) hown hK hP 0 rfl rfl 9 (by decide) (hts (.fieldLink RX11 65 "KinkStreet" "tape" "LKinkStreet$Tape;") (List.mem_of_getElem? (i := 1) rfl)) (fun _ h9 => h9) rfl dX11_feed_24 ?_
            refine lv_iload_n hx hb dX11_feed_27 rfl (lv_at hl 1 rfl) ?_
            refine lv_iload_n hx hb dX11_feed_28 rfl (lv_at hl 2 rfl) ?_
            obtain ⟨hPc, hDc, hFc⟩ := kk_cutout (wc := [(h1, kO10v h2 n1_size n1_place (va_rf o1_law)), (h2, kAi cint 120 f2)]) hP hD hS hA [2, 1] (by decide) rfl
            have hKc := kk_Ks (tq := [(cint, .int)]) hK [0] rfl
            refine va_calli (va_runV (As := [.int 4, .int p1]) (rest := []) ⟨hx, hb, hml, hown, hts⟩ (g_X10_take_4 l dC dI h1 h2 cint H.size p1 n1_size n1_place o1_law f2 tn1_size bf2 (by show ((n1_size : Int32).toInt + (4 : Int) ≤ 120); first | with_reducible assumption | (omega))) (cwV 2 hts gX11_feed_X10_take rfl rfl rfl ⟨rfl, kh_X10_take⟩ ⟨Nat.le_of_ble_eq_true rfl, Nat.le_of_ble_eq_true rfl⟩) ⟨fun a U g mk q => by obtain ⟨q0, q1, qP, qK, qD⟩ := q; exact ⟨q0, q1, qP, va_K.moved (u := U) (U := U.calling g mk a) (Vm.Alike.refl U.vm) qK, qD⟩, va_recv hKc hPc (ci := 10) (q0 := 0) rfl rfl, fun U hU hW => ⟨rfl, by rw [hU], by rw [hU]; exact hPc, va_K.moved hW.alike hKc, hDc.weaken (fun _ _ _ _ => trivial)⟩⟩ rfl rfl hl.1 rfl (lv_room (Nat.le_of_ble_eq_true rfl)) dX11_feed_29 ⟨Nat.le_of_ble_eq_true rfl, Nat.le_of_ble_eq_true rfl⟩) hS (fun q _ h => hFc q h) hFc (fun r_21 u t H1 locs ht hvm hw hB hz1 hk1 hS => ?_)
            obtain ⟨y_22, f_23, by_22, bf_23, v_23_0, hn_23_0, hP1, hK1, hD1⟩ := hB
            replace v_23_0 : y_22.toInt = n1_size.toInt + (4 : Int) := v_23_0
            replace hn_23_0 : ((0 : Int) = 0 → f_23 = (upd (upd (upd (upd f2 (n1_size : Int32).toNatClampNeg (kk_by p1 0)) ((n1_size + 1) : Int32).toNatClampNeg (kk_by p1 8)) (((n1_size + 1) + 1) : Int32).toNatClampNeg (kk_by p1 16)) ((((n1_size + 1) + 1) + 1) : Int32).toNatClampNeg (kk_by p1 24))) ∧ ((0 : Int) = 0 → True) := hn_23_0
            rw [ht] at hP1
            have hK1 := va_K.moved hvm.symm hK1
            obtain ⟨hP, hD⟩ := va_join (wr := [(h0, kO11 h3 n0_streetCount h4 h5 h6 h7 h8 h9 h10 h1 h11 n0_lawCount h12 h13)]) (w1 := [(h1, kO10v h2 y_22 n1_place (va_rf o1_law)), (h2, kAi cint 120 f_23)]) hP hD [2, 1] [0] rfl rfl (by decide) (by decide) hk1 hFc hP1 hD1
            generalize H1 = H at hP hS ⊢
            replace hP : va_P (dC, dI) vwCl [(h0, kO11 h3 n0_streetCount h4 h5 h6 h7 h8 h9 h10 h1 h11 n0_lawCount h12 h13), (h1, kO10v h2 y_22 n1_place (va_rf o1_law)), (h2, kAi cint 120 f_23)] H := hP
            replace hD : va_D A [(h0, kO11 h3 n0_streetCount h4 h5 h6 h7 h8 h9 h10 h1 h11 n0_lawCount h12 h13), (h1, kO10v h2 y_22 n1_place (va_rf o1_law)), (h2, kAi cint 120 f_23)] := hD
            rcases hw with ⟨t_21_0, t_21_any⟩
            · skip
              replace t_21_0 : r_21.toInt = n1_size.toInt + (4 : Int) := t_21_0
              refine lv_goto (tgt := 37) hx hb dX11_feed_32 (by decide) ?_
              obtain ⟨hP9, hD9⟩ := kk_leafout (wc := [(h0, kO11 h3 n0_streetCount h4 h5 h6 h7 h8 h9 h10 h1 h11 n0_lawCount h12 h13), (h1, kO10v h2 y_22 n1_place (va_rf o1_law)), (h2, kAi cint 120 f_23)]) hP hD [0, 1, 2] (by decide) rfl
              have hK9 := kk_Ks (tq := []) hK [] rfl
              have := kk_add2 (x := n1_size) (y := 1) (a := n1_size.toInt) (b := 1) rfl rfl (by omega) (by omega)
              have := kk_add2 (x := (n1_size + 1)) (y := 1) (a := (n1_size + 1).toInt) (b := 1) rfl rfl (by omega) (by omega)
              have := kk_add2 (x := ((n1_size + 1) + 1)) (y := 1) (a := ((n1_size + 1) + 1).toInt) (b := 1) rfl rfl (by omega) (by omega)
              exact W.iret (v := r_21) hx hb hr (fun t ht hW => ⟨⟨r_21, (), rfl, ⟨(by show (((1 ≤ (4 : Int) ∧ (4 : Int) ≤ 4) → (n1_size : Int32).toInt + (4 : Int) ≤ 120 → (r_21 : Int32).toInt = (n1_size : Int32).toInt + (4 : Int)) ∧ ((1 ≤ (4 : Int) ∧ (4 : Int) ≤ 4) → 120 < (n1_size : Int32).toInt + (4 : Int) → (r_21 : Int32).toInt = -3) ∧ (¬ (1 ≤ (4 : Int) ∧ (4 : Int) ≤ 4) → (r_21 : Int32).toInt = -1)); omega), (by show (-3) ≤ (r_21 : Int32).toInt ∧ (r_21 : Int32).toInt ≤ 120; first | with_reducible assumption | (constructor <;> (omega)))⟩, y_22, f_23, (by show 0 ≤ (y_22 : Int32).toInt ∧ (y_22 : Int32).toInt ≤ 120; first | with_reducible assumption | (constructor <;> (omega))), bf_23, (by show (((1 ≤ (4 : Int) ∧ (4 : Int) ≤ 4) → (n1_size : Int32).toInt + (4 : Int) ≤ 120 → (y_22 : Int32).toInt = (n1_size : Int32).toInt + (4 : Int)) ∧ ((1 ≤ (4 : Int) ∧ (4 : Int) ≤ 4) → 120 < (n1_size : Int32).toInt + (4 : Int) → (y_22 : Int32).toInt = (n1_size : Int32).toInt) ∧ (¬ (1 ≤ (4 : Int) ∧ (4 : Int) ≤ 4) → (y_22 : Int32).toInt = (n1_size : Int32).toInt)); first | with_reducible assumption | (refine ⟨?_, ?_, ?_⟩ <;> (first | with_reducible assumption | (omega)))), ⟨fun hh => by first | exact rfl | (exfalso; omega) | exact (hn_23_0.1 (by omega)) | exact (hn_23_0.2 (by omega)), fun hh => by first | exact rfl | (exfalso; omega) | exact (hn_23_0.1 (by omega)) | exact (hn_23_0.2 (by omega)), fun hh => by first | exact rfl | (exfalso; omega) | exact (hn_23_0.1 (by omega)) | exact (hn_23_0.2 (by omega)), fun hh => by first | exact rfl | (exfalso; omega) | exact (hn_23_0.1 (by omega)) | exact (hn_23_0.2 (by omega)), fun hh => by first | exact rfl | (exfalso; omega) | exact (hn_23_0.1 (by omega)) | exact (hn_23_0.2 (by omega))⟩, by rw [ht]; exact hP9, va_K.moved hW.alike hK9, hD9⟩, hS.F ht⟩) hS.2.2 dX11_feed_37
    · have t_2 : 4 < p0.toInt := kk_nle c_2
      refine lv_iconst (v := (-1)) hx hb dX11_feed_10 kk_ic_m1 ?_
      obtain ⟨hP9, hD9⟩ := kk_leafout (wc := [(h0, kO11 h3 n0_streetCount h4 h5 h6 h7 h8 h9 h10 h1 h11 n0_lawCount h12 h13), (h1, kO10v h2 n1_size n1_place (va_rf o1_law)), (h2, kAi cint 120 f2)]) hP hD [0, 1, 2] (by decide) rfl
      have hK9 := kk_Ks (tq := []) hK [] rfl
      have := kk_rng p0
      have := kk_add2 (x := n1_size) (y := 1) (a := n1_size.toInt) (b := 1) rfl rfl (by omega) (by omega)
      have := kk_add2 (x := (n1_size + 1)) (y := 1) (a := (n1_size + 1).toInt) (b := 1) rfl rfl (by omega) (by omega)
      have := kk_add2 (x := ((n1_size + 1) + 1)) (y := 1) (a := ((n1_size + 1) + 1).toInt) (b := 1) rfl rfl (by omega) (by omega)
      exact W.iret (v := (-1)) hx hb hr (fun t ht hW => ⟨⟨(-1), (), rfl, ⟨(by show (((1 ≤ (p0 : Int32).toInt ∧ (p0 : Int32).toInt ≤ 4) → (n1_size : Int32).toInt + (p0 : Int32).toInt ≤ 120 → ((-1) : Int) = (n1_size : Int32).toInt + (p0 : Int32).toInt) ∧ ((1 ≤ (p0 : Int32).toInt ∧ (p0 : Int32).toInt ≤ 4) → 120 < (n1_size : Int32).toInt + (p0 : Int32).toInt → ((-1) : Int) = -3) ∧ (¬ (1 ≤ (p0 : Int32).toInt ∧ (p0 : Int32).toInt ≤ 4) → ((-1) : Int) = -1)); omega), (by show (-3) ≤ ((-1) : Int32).toInt ∧ ((-1) : Int32).toInt ≤ 120; first | with_reducible assumption | decide | (constructor <;> (omega)))⟩, n1_size, f2, tn1_size, bf2, (by show (((1 ≤ (p0 : Int32).toInt ∧ (p0 : Int32).toInt ≤ 4) → (n1_size : Int32).toInt + (p0 : Int32).toInt ≤ 120 → (n1_size : Int32).toInt = (n1_size : Int32).toInt + (p0 : Int32).toInt) ∧ ((1 ≤ (p0 : Int32).toInt ∧ (p0 : Int32).toInt ≤ 4) → 120 < (n1_size : Int32).toInt + (p0 : Int32).toInt → (n1_size : Int32).toInt = (n1_size : Int32).toInt) ∧ (¬ (1 ≤ (p0 : Int32).toInt ∧ (p0 : Int32).toInt ≤ 4) → (n1_size : Int32).toInt = (n1_size : Int32).toInt)); first | with_reducible assumption | (refine ⟨?_, ?_, ?_⟩ <;> (first | with_reducible assumption | (omega)))), ⟨fun hh => by first | exact rfl | (exfalso; omega), fun hh => by first | exact rfl | (exfalso; omega), fun hh => by first | exact rfl | (exfalso; omega), fun hh => by first | exact rfl | (exfalso; omega), fun hh => by first | exact rfl | (exfalso; omega)⟩, by rw [ht]; exact hP9, va_K.moved hW.alike hK9, hD9⟩, hS.F ht⟩) hS.2.2 dX11_feed_11
set_option maxHeartbeats 4000000 in
set_option maxRecDepth 100000 in
theorem g_X4_clear_1 (l : Launch) (dC : Nat → ClassId) (dI : Nat → Nat → Nat) (h0 : Nat) (h1 : Nat) (h2 : Nat) (h3 : Nat) (sz : Nat) (n0_size : Int32) (n0_top : Int32) (tn0_size : kk_bx (0 ≤ n0_size.toInt ∧ n0_size.toInt ≤ 128)) (tn0_top : kk_bx (0 ≤ n0_top.toInt ∧ n0_top.toInt ≤ 64)) : Met l yX4_clear wsX4_clear ({ frames := 0, cells := 0, slots := 0, locals := 0 }) (va_Pc [.ref h0] (fun U => U.heap.size = sz ∧ va_P (dC, dI) vwCl [(h0, kO4 h1 n0_size h2 h3 n0_top)] U.heap ∧ va_K (dC, dI) vwCl [] U ∧ va_D (fun _ => True) [(h0, kO4 h1 n0_size h2 h3 n0_top)])) (va_Qv (fun (_ : Unit) => True) (fun (_ : Unit) t => ∃ (m0_size : Int32), (0 ≤ m0_size.toInt ∧ m0_size.toInt ≤ 0) ∧ va_P (dC, dI) vwCl [(h0, kO4 h1 m0_size h2 h3 n0_top)] t.heap ∧ va_K (dC, dI) vwCl [] t ∧ va_D (va_A [(h0, kO4 h1 n0_size h2 h3 n0_top)] sz) [(h0, kO4 h1 m0_size h2 h3 n0_top)]) (va_A [(h0, kO4 h1 n0_size h2 h3 n0_top)] sz)) 0 0 (va_A [(h0, kO4 h1 n0_size h2 h3 n0_top)] sz) := by
  refine Met.ofW (cc := cX4_clear) (maxL := 1) (ret := none) (by decide) rfl ?_
  intro p e s m args below meth c s₁ B hml hv
  obtain ⟨rfl, hsz, hP, hK, hD0⟩ := hv
  have hx := B.exec
  have hb := B.bytes
  have hr := B.returns
  have hts := atoms_spec (ws := wsX4_clear) B.pre
  have hown : s.vm.findClass RX4 = some m.cls := findClass_of_methodNamed B.named
  have hlocks := B.notSynchronized
  subst hsz
  have hD := hD0.self (sz := s.heap.size)
  generalize hAe : va_A [(h0, kO4 h1 n0_size h2 h3 n0_top)] s.heap.size = A at hD ⊢
  have hA : ∀ q : Nat, s.heap.size ≤ q → A q := fun q h => by rw [← hAe]; exact Or.inr h
  have hS : va_S A s.heap s.heap [] := va_S.rf
  replace hP : va_P (dC, dI) vwCl [(h0, kO4 h1 n0_size h2 h3 n0_top)] s.heap := hP
  have hl := lv_entry ([.ref h0]) (n := 1) (Nat.le_of_ble_eq_true rfl)
  rw [lg_entry_eq]
  generalize (lg_sl ([.ref h0]) ++ List.replicate (1 - (lg_sl ([.ref h0])).length) Slot.unset).toArray = ls at hl ⊢
  replace hl : lv_has ls 1 [(0, .ref h0)] := hl
  refine lv_aload_n hx hb dX4_clear_0 rfl (lv_at hl 0 rfl) ?_
  refine lv_iconst (v := 0) hx hb dX4_clear_1 kk_ic_0 ?_
  refine va_put (D := (dC, dI)) (ci := 4) (v := .int 0) (ty := .int) (C := RX4) (T := TX4) (N := 5) hx hb hts (fun _ h => List.mem_cons_of_mem _ (List.mem_append_right _ h)) tyX4 tyX4_ok nmX4 hown hK hP hD hS 0 rfl rfl 1 (by decide) (hts (.fieldLink RX4 25 "KinkStreet$Law" "size" "I") (List.mem_of_getElem? (i := 1) rfl)) (fun _ h9 => h9) rfl (by decide +kernel) rfl rfl (Nat.le_of_ble_eq_true rfl) dX4_clear_2 (fun H locs hP hD hS => ?_)
  replace hP : va_P (dC, dI) vwCl [(h0, kO4 h1 0 h2 h3 n0_top)] H := hP
  replace hD : va_D A [(h0, kO4 h1 0 h2 h3 n0_top)] := hD
  obtain ⟨hP9, hD9⟩ := kk_leafout (wc := [(h0, kO4 h1 0 h2 h3 n0_top)]) hP hD [0] (by decide) rfl
  have hK9 := kk_Ks (tq := []) hK [] rfl
  exact W.vret hx hb hr (fun t ht hW => ⟨⟨(), rfl, trivial, 0, (by show 0 ≤ (0 : Int32).toInt ∧ (0 : Int32).toInt ≤ 0; first | with_reducible assumption | decide | (constructor <;> (omega))), by rw [ht]; exact hP9, va_K.moved hW.alike hK9, hD9⟩, hS.F ht⟩) hS.2.2 dX4_clear_5
def ka_X10_readInnerv (l : Launch) (F L : Nat) (rk : Int) : Prop := ∀ (dC : Nat → ClassId) (dI : Nat → Nat → Nat) (h0 : Nat) (h1 : Nat) (h2 : Nat) (h3 : Nat) (h4 : Nat) (h5 : Nat) (cint : ClassId) (sz : Nat) (p0 : Int32) (tp0 : 0 ≤ p0.toInt ∧ p0.toInt ≤ 6) (n0_size : Int32) (n0_place : Int32) (f1 : Nat → Int32) (n2_size : Int32) (n2_top : Int32) (f3 : Nat → Int32) (tn0_size : 0 ≤ n0_size.toInt ∧ n0_size.toInt ≤ 120) (tn0_place : 0 ≤ n0_place.toInt ∧ n0_place.toInt ≤ 120) (bf1 : ∀ j, j < 120 → 0 ≤ (f1 j).toInt ∧ (f1 j).toInt ≤ 255) (tn2_size : 0 ≤ n2_size.toInt ∧ n2_size.toInt ≤ 128) (tn2_top : 0 ≤ n2_top.toInt ∧ n2_top.toInt ≤ 64) (pr0 : (6 ≤ p0.toInt + rk)) (pr1 : (0 ≤ n0_place.toInt ∧ n0_place.toInt ≤ n0_size.toInt)) (pr2 : n2_size.toInt ≤ n0_place.toInt) (aNAMES : Nat), Met l yX10_readInner wsX10_readInner ({ frames := F, cells := 0, slots := 0, locals := L }) (va_Pc [.ref h0, .int p0] (fun U => U.heap.size = sz ∧ va_P (dC, dI) vwCl [(h0, kO10 h1 n0_size n0_place h2), (h1, kAi cint 120 f1), (h2, kO4 h3 n2_size h4 h5 n2_top), (h3, kAi cint 128 f3)] U.heap ∧ va_K (dC, dI) vwCl [(cint, .int)] U ∧ va_D (fun _ => True) [(h0, kO10 h1 n0_size n0_place h2), (h1, kAi cint 120 f1), (h2, kO4 h3 n2_size h4 h5 n2_top), (h3, kAi cint 128 f3)] ∧ va_Z "KinkStreet$Law" "NAMES" "[C" (.ref aNAMES) (va_A [(h0, kO10 h1 n0_size n0_place h2), (h1, kAi cint 120 f1), (h2, kO4 h3 n2_size h4 h5 n2_top), (h3, kAi cint 128 f3)] sz) U U.heap ∧ va_T .char aNAMES 8 tb_NAMES (va_A [(h0, kO10 h1 n0_size n0_place h2), (h1, kAi cint 120 f1), (h2, kO4 h3 n2_size h4 h5 n2_top), (h3, kAi cint 128 f3)] sz) U U.heap)) (va_Qi (fun (r : Int32) (u_ : Int32) => u_ = r ∧ True) (fun (u_ : Int32) t => ∃ (m0_place : Int32) (m2_size : Int32) (g3 : Nat → Int32), (0 ≤ m0_place.toInt ∧ m0_place.toInt ≤ 120) ∧ (0 ≤ m2_size.toInt ∧ m2_size.toInt ≤ 128) ∧ ((((((ko_R (ko_at f1 n0_size.toInt) (0 : Int) p0.toInt n0_place.toInt) < 0 ∧ m0_place.toInt = -1 - (ko_R (ko_at f1 n0_size.toInt) (0 : Int) p0.toInt n0_place.toInt)) ∨ (0 ≤ (ko_R (ko_at f1 n0_size.toInt) (0 : Int) p0.toInt n0_place.toInt) ∧ ko_at f1 n0_size.toInt (ko_R (ko_at f1 n0_size.toInt) (0 : Int) p0.toInt n0_place.toInt) ≠ 41 ∧ m0_place.toInt = (ko_R (ko_at f1 n0_size.toInt) (0 : Int) p0.toInt n0_place.toInt))) ∧ 0 ≤ m0_place.toInt ∧ m0_place.toInt ≤ n0_size.toInt) ∧ u_ = (0 : Int32)) ∨ ((0 ≤ (ko_R (ko_at f1 n0_size.toInt) (0 : Int) p0.toInt n0_place.toInt) ∧ ko_at f1 n0_size.toInt (ko_R (ko_at f1 n0_size.toInt) (0 : Int) p0.toInt n0_place.toInt) = 41 ∧ m0_place.toInt = (ko_R (ko_at f1 n0_size.toInt) (0 : Int) p0.toInt n0_place.toInt) + 1 ∧ 0 ≤ m0_place.toInt ∧ m0_place.toInt ≤ n0_size.toInt) ∧ kg_sI g3 m2_size.toInt = kg_sI f3 n2_size.toInt ++ kq_R (ko_at f1 n0_size.toInt) (0 : Int) p0.toInt n0_place.toInt ∧ (m2_size.toInt + n0_place.toInt ≤ n2_size.toInt + m0_place.toInt) ∧ u_ = (1 : Int32))) ∧ va_P (dC, dI) vwCl [(h0, kO10 h1 n0_size m0_place h2), (h1, kAi cint 120 f1), (h2, kO4 h3 m2_size h4 h5 n2_top), (h3, kAi cint 128 g3)] t.heap ∧ va_K (dC, dI) vwCl [] t ∧ va_D (va_A [(h0, kO10 h1 n0_size n0_place h2), (h1, kAi cint 120 f1), (h2, kO4 h3 n2_size h4 h5 n2_top), (h3, kAi cint 128 f3)] sz) [(h0, kO10 h1 n0_size m0_place h2), (h1, kAi cint 120 f1), (h2, kO4 h3 m2_size h4 h5 n2_top), (h3, kAi cint 128 g3)]) (va_A [(h0, kO10 h1 n0_size n0_place h2), (h1, kAi cint 120 f1), (h2, kO4 h3 n2_size h4 h5 n2_top), (h3, kAi cint 128 f3)] sz)) 0 0 (va_A [(h0, kO10 h1 n0_size n0_place h2), (h1, kAi cint 120 f1), (h2, kO4 h3 n2_size h4 h5 n2_top), (h3, kAi cint 128 f3)] sz)
theorem i_X10_readInnerv_b (l : Launch) : ka_X10_readInnerv l 10 200 (-1) := by unfold ka_X10_readInnerv; intros; exfalso; omega
def ka_X10_readSignedv (l : Launch) (F L : Nat) (rk : Int) : Prop := ∀ (dC : Nat → ClassId) (dI : Nat → Nat → Nat) (h0 : Nat) (h1 : Nat) (h2 : Nat) (h3 : Nat) (h4 : Nat) (h5 : Nat) (cint : ClassId) (sz : Nat) (p0 : Int32) (p1 : Int32) (tp1 : 0 ≤ p1.toInt ∧ p1.toInt ≤ 6) (n0_size : Int32) (n0_place : Int32) (f1 : Nat → Int32) (n2_size : Int32) (n2_top : Int32) (f3 : Nat → Int32) (tn0_size : 0 ≤ n0_size.toInt ∧ n0_size.toInt ≤ 120) (tn0_place : 0 ≤ n0_place.toInt ∧ n0_place.toInt ≤ 120) (bf1 : ∀ j, j < 120 → 0 ≤ (f1 j).toInt ∧ (f1 j).toInt ≤ 255) (tn2_size : 0 ≤ n2_size.toInt ∧ n2_size.toInt ≤ 128) (tn2_top : 0 ≤ n2_top.toInt ∧ n2_top.toInt ≤ 64) (pr0 : (6 ≤ p1.toInt + rk)) (pr1 : (0 ≤ n0_place.toInt ∧ n0_place.toInt ≤ n0_size.toInt)) (pr2 : n2_size.toInt ≤ n0_place.toInt) (aNAMES : Nat), Met l yX10_readSigned wsX10_readSigned ({ frames := F, cells := 0, slots := 0, locals := L }) (va_Pc [.ref h0, .int p0, .int p1] (fun U => U.heap.size = sz ∧ va_P (dC, dI) vwCl [(h0, kO10 h1 n0_size n0_place h2), (h1, kAi cint 120 f1), (h2, kO4 h3 n2_size h4 h5 n2_top), (h3, kAi cint 128 f3)] U.heap ∧ va_K (dC, dI) vwCl [(cint, .int)] U ∧ va_D (fun _ => True) [(h0, kO10 h1 n0_size n0_place h2), (h1, kAi cint 120 f1), (h2, kO4 h3 n2_size h4 h5 n2_top), (h3, kAi cint 128 f3)] ∧ va_Z "KinkStreet$Law" "NAMES" "[C" (.ref aNAMES) (va_A [(h0, kO10 h1 n0_size n0_place h2), (h1, kAi cint 120 f1), (h2, kO4 h3 n2_size h4 h5 n2_top), (h3, kAi cint 128 f3)] sz) U U.heap ∧ va_T .char aNAMES 8 tb_NAMES (va_A [(h0, kO10 h1 n0_size n0_place h2), (h1, kAi cint 120 f1), (h2, kO4 h3 n2_size h4 h5 n2_top), (h3, kAi cint 128 f3)] sz) U U.heap)) (va_Qi (fun (r : Int32) (u_ : Int32) => u_ = r ∧ True) (fun (u_ : Int32) t => ∃ (m0_place : Int32) (m2_size : Int32) (g3 : Nat → Int32), (0 ≤ m0_place.toInt ∧ m0_place.toInt ≤ 120) ∧ (0 ≤ m2_size.toInt ∧ m2_size.toInt ≤ 128) ∧ (((ko_R (ko_at f1 n0_size.toInt) (5 : Int) p1.toInt n0_place.toInt = -1 - m0_place.toInt ∧ 0 ≤ m0_place.toInt ∧ m0_place.toInt ≤ n0_size.toInt) ∧ u_ = (0 : Int32)) ∨ ((ko_R (ko_at f1 n0_size.toInt) (5 : Int) p1.toInt n0_place.toInt = m0_place.toInt ∧ 0 ≤ m0_place.toInt ∧ m0_place.toInt ≤ n0_size.toInt) ∧ kg_sI g3 m2_size.toInt = kg_sI f3 n2_size.toInt ++ kq_R (ko_at f1 n0_size.toInt) (5 : Int) p1.toInt n0_place.toInt ++ [if p0.toInt = 33 then (33 : Int32) else 126] ∧ (m2_size.toInt + n0_place.toInt ≤ n2_size.toInt + m0_place.toInt + 1) ∧ u_ = (1 : Int32))) ∧ va_P (dC, dI) vwCl [(h0, kO10 h1 n0_size m0_place h2), (h1, kAi cint 120 f1), (h2, kO4 h3 m2_size h4 h5 n2_top), (h3, kAi cint 128 g3)] t.heap ∧ va_K (dC, dI) vwCl [] t ∧ va_D (va_A [(h0, kO10 h1 n0_size n0_place h2), (h1, kAi cint 120 f1), (h2, kO4 h3 n2_size h4 h5 n2_top), (h3, kAi cint 128 f3)] sz) [(h0, kO10 h1 n0_size m0_place h2), (h1, kAi cint 120 f1), (h2, kO4 h3 m2_size h4 h5 n2_top), (h3, kAi cint 128 g3)]) (va_A [(h0, kO10 h1 n0_size n0_place h2), (h1, kAi cint 120 f1), (h2, kO4 h3 n2_size h4 h5 n2_top), (h3, kAi cint 128 f3)] sz)) 0 0 (va_A [(h0, kO10 h1 n0_size n0_place h2), (h1, kAi cint 120 f1), (h2, kO4 h3 n2_size h4 h5 n2_top), (h3, kAi cint 128 f3)] sz)
theorem i_X10_readSignedv_b (l : Launch) : ka_X10_readSignedv l 10 200 (-1) := by unfold ka_X10_readSignedv; intros; exfalso; omega
def ka_X10_readOperandv (l : Launch) (F L : Nat) (rk : Int) : Prop := ∀ (dC : Nat → ClassId) (dI : Nat → Nat → Nat) (h0 : Nat) (h1 : Nat) (h2 : Nat) (h3 : Nat) (h4 : Nat) (h5 : Nat) (cint : ClassId) (sz : Nat) (p0 : Int32) (tp0 : 0 ≤ p0.toInt ∧ p0.toInt ≤ 6) (n0_size : Int32) (n0_place : Int32) (f1 : Nat → Int32) (n2_size : Int32) (n2_top : Int32) (f3 : Nat → Int32) (tn0_size : 0 ≤ n0_size.toInt ∧ n0_size.toInt ≤ 120) (tn0_place : 0 ≤ n0_place.toInt ∧ n0_place.toInt ≤ 120) (bf1 : ∀ j, j < 120 → 0 ≤ (f1 j).toInt ∧ (f1 j).toInt ≤ 255) (tn2_size : 0 ≤ n2_size.toInt ∧ n2_size.toInt ≤ 128) (tn2_top : 0 ≤ n2_top.toInt ∧ n2_top.toInt ≤ 64) (pr0 : (6 ≤ p0.toInt + rk)) (pr1 : (0 ≤ n0_place.toInt ∧ n0_place.toInt ≤ n0_size.toInt)) (pr2 : n2_size.toInt ≤ n0_place.toInt) (aNAMES : Nat), Met l yX10_readOperand wsX10_readOperand ({ frames := F, cells := 0, slots := 0, locals := L }) (va_Pc [.ref h0, .int p0] (fun U => U.heap.size = sz ∧ va_P (dC, dI) vwCl [(h0, kO10 h1 n0_size n0_place h2), (h1, kAi cint 120 f1), (h2, kO4 h3 n2_size h4 h5 n2_top), (h3, kAi cint 128 f3)] U.heap ∧ va_K (dC, dI) vwCl [(cint, .int)] U ∧ va_D (fun _ => True) [(h0, kO10 h1 n0_size n0_place h2), (h1, kAi cint 120 f1), (h2, kO4 h3 n2_size h4 h5 n2_top), (h3, kAi cint 128 f3)] ∧ va_Z "KinkStreet$Law" "NAMES" "[C" (.ref aNAMES) (va_A [(h0, kO10 h1 n0_size n0_place h2), (h1, kAi cint 120 f1), (h2, kO4 h3 n2_size h4 h5 n2_top), (h3, kAi cint 128 f3)] sz) U U.heap ∧ va_T .char aNAMES 8 tb_NAMES (va_A [(h0, kO10 h1 n0_size n0_place h2), (h1, kAi cint 120 f1), (h2, kO4 h3 n2_size h4 h5 n2_top), (h3, kAi cint 128 f3)] sz) U U.heap)) (va_Qi (fun (r : Int32) (u_ : Int32) => u_ = r ∧ True) (fun (u_ : Int32) t => ∃ (m0_place : Int32) (m2_size : Int32) (g3 : Nat → Int32), (0 ≤ m0_place.toInt ∧ m0_place.toInt ≤ 120) ∧ (0 ≤ m2_size.toInt ∧ m2_size.toInt ≤ 128) ∧ (((ko_R (ko_at f1 n0_size.toInt) (5 : Int) p0.toInt n0_place.toInt = -1 - m0_place.toInt ∧ 0 ≤ m0_place.toInt ∧ m0_place.toInt ≤ n0_size.toInt) ∧ u_ = (0 : Int32)) ∨ ((ko_R (ko_at f1 n0_size.toInt) (5 : Int) p0.toInt n0_place.toInt = m0_place.toInt ∧ 0 ≤ m0_place.toInt ∧ m0_place.toInt ≤ n0_size.toInt) ∧ kg_sI g3 m2_size.toInt = kg_sI f3 n2_size.toInt ++ kq_R (ko_at f1 n0_size.toInt) (5 : Int) p0.toInt n0_place.toInt ∧ (m2_size.toInt + n0_place.toInt ≤ n2_size.toInt + m0_place.toInt) ∧ u_ = (1 : Int32))) ∧ va_P (dC, dI) vwCl [(h0, kO10 h1 n0_size m0_place h2), (h1, kAi cint 120 f1), (h2, kO4 h3 m2_size h4 h5 n2_top), (h3, kAi cint 128 g3)] t.heap ∧ va_K (dC, dI) vwCl [] t ∧ va_D (va_A [(h0, kO10 h1 n0_size n0_place h2), (h1, kAi cint 120 f1), (h2, kO4 h3 n2_size h4 h5 n2_top), (h3, kAi cint 128 f3)] sz) [(h0, kO10 h1 n0_size m0_place h2), (h1, kAi cint 120 f1), (h2, kO4 h3 m2_size h4 h5 n2_top), (h3, kAi cint 128 g3)]) (va_A [(h0, kO10 h1 n0_size n0_place h2), (h1, kAi cint 120 f1), (h2, kO4 h3 n2_size h4 h5 n2_top), (h3, kAi cint 128 f3)] sz)) 0 0 (va_A [(h0, kO10 h1 n0_size n0_place h2), (h1, kAi cint 120 f1), (h2, kO4 h3 n2_size h4 h5 n2_top), (h3, kAi cint 128 f3)] sz)
set_option maxHeartbeats 4000000 in
set_option maxRecDepth 100000 in
theorem s_X10_readOperandv (l : Launch) (F L : Nat) (hF : 10 ≤ F) (hL : 200 ≤ L) (rk : Int) (Fq0 Lq0 : Nat) (hF0 : Fq0 ≤ F) (hL0 : Lq0 ≤ L) (ih0 : ka_X10_readInnerv l Fq0 Lq0 (rk - 1)) (Fq1 Lq1 : Nat) (hF1 : Fq1 ≤ F) (hL1 : Lq1 ≤ L) (ih1 : ka_X10_readSignedv l Fq1 Lq1 (rk - 1)) (dC : Nat → ClassId) (dI : Nat → Nat → Nat) (h0 : Nat) (h1 : Nat) (h2 : Nat) (h3 : Nat) (h4 : Nat) (h5 : Nat) (cint : ClassId) (sz : Nat) (p0 : Int32) (tp0 : 0 ≤ p0.toInt ∧ p0.toInt ≤ 6) (n0_size : Int32) (n0_place : Int32) (f1 : Nat → Int32) (n2_size : Int32) (n2_top : Int32) (f3 : Nat → Int32) (tn0_size : 0 ≤ n0_size.toInt ∧ n0_size.toInt ≤ 120) (tn0_place : 0 ≤ n0_place.toInt ∧ n0_place.toInt ≤ 120) (bf1 : ∀ j, j < 120 → 0 ≤ (f1 j).toInt ∧ (f1 j).toInt ≤ 255) (tn2_size : 0 ≤ n2_size.toInt ∧ n2_size.toInt ≤ 128) (tn2_top : kk_bx (0 ≤ n2_top.toInt ∧ n2_top.toInt ≤ 64)) (pr0 : (6 ≤ p0.toInt + rk)) (pr1 : (0 ≤ n0_place.toInt ∧ n0_place.toInt ≤ n0_size.toInt)) (pr2 : n2_size.toInt ≤ n0_place.toInt) (aNAMES : Nat) : Met l yX10_readOperand wsX10_readOperand ({ frames := F + 1, cells := 0, slots := 0, locals := L + 43 }) (va_Pc [.ref h0, .int p0] (fun U => U.heap.size = sz ∧ va_P (dC, dI) vwCl [(h0, kO10 h1 n0_size n0_place h2), (h1, kAi cint 120 f1), (h2, kO4 h3 n2_size h4 h5 n2_top), (h3, kAi cint 128 f3)] U.heap ∧ va_K (dC, dI) vwCl [(cint, .int)] U ∧ va_D (fun _ => True) [(h0, kO10 h1 n0_size n0_place h2), (h1, kAi cint 120 f1), (h2, kO4 h3 n2_size h4 h5 n2_top), (h3, kAi cint 128 f3)] ∧ va_Z "KinkStreet$Law" "NAMES" "[C" (.ref aNAMES) (va_A [(h0, kO10 h1 n0_size n0_place h2), (h1, kAi cint 120 f1), (h2, kO4 h3 n2_size h4 h5 n2_top), (h3, kAi cint 128 f3)] sz) U U.heap ∧ va_T .char aNAMES 8 tb_NAMES (va_A [(h0, kO10 h1 n0_size n0_place h2), (h1, kAi cint 120 f1), (h2, kO4 h3 n2_size h4 h5 n2_top), (h3, kAi cint 128 f3)] sz) U U.heap)) (va_Qi (fun (r : Int32) (u_ : Int32) => u_ = r ∧ True) (fun (u_ : Int32) t => ∃ (m0_place : Int32) (m2_size : Int32) (g3 : Nat → Int32), (0 ≤ m0_place.toInt ∧ m0_place.toInt ≤ 120) ∧ (0 ≤ m2_size.toInt ∧ m2_size.toInt ≤ 128) ∧ (((ko_R (ko_at f1 n0_size.toInt) (5 : Int) p0.toInt n0_place.toInt = -1 - m0_place.toInt ∧ 0 ≤ m0_place.toInt ∧ m0_place.toInt ≤ n0_size.toInt) ∧ u_ = (0 : Int32)) ∨ ((ko_R (ko_at f1 n0_size.toInt) (5 : Int) p0.toInt n0_place.toInt = m0_place.toInt ∧ 0 ≤ m0_place.toInt ∧ m0_place.toInt ≤ n0_size.toInt) ∧ kg_sI g3 m2_size.toInt = kg_sI f3 n2_size.toInt ++ kq_R (ko_at f1 n0_size.toInt) (5 : Int) p0.toInt n0_place.toInt ∧ (m2_size.toInt + n0_place.toInt ≤ n2_size.toInt + m0_place.toInt) ∧ u_ = (1 : Int32))) ∧ va_P (dC, dI) vwCl [(h0, kO10 h1 n0_size m0_place h2), (h1, kAi cint 120 f1), (h2, kO4 h3 m2_size h4 h5 n2_top), (h3, kAi cint 128 g3)] t.heap ∧ va_K (dC, dI) vwCl [] t ∧ va_D (va_A [(h0, kO10 h1 n0_size n0_place h2), (h1, kAi cint 120 f1), (h2, kO4 h3 n2_size h4 h5 n2_top), (h3, kAi cint 128 f3)] sz) [(h0, kO10 h1 n0_size m0_place h2), (h1, kAi cint 120 f1), (h2, kO4 h3 m2_size h4 h5 n2_top), (h3, kAi cint 128 g3)]) (va_A [(h0, kO10 h1 n0_size n0_place h2), (h1, kAi cint 120 f1), (h2, kO4 h3 n2_size h4 h5 n2_top), (h3, kAi cint 128 f3)] sz)) 0 0 (va_A [(h0, kO10 h1 n0_size n0_place h2), (h1, kAi cint 120 f1), (h2, kO4 h3 n2_size h4 h5 n2_top), (h3, kAi cint 128 f3)] sz) := by
  refine Met.ofW (cc := cX10_readOperand) (maxL := 4) (ret := (some .boolean)) (by decide) rfl ?_
  intro p e s m args below meth c s₁ B hml hv
  obtain ⟨rfl, hsz, hP, hK, hD0, hZNAMES, hTNAMES⟩ := hv
  have hx := B.exec
  have hb := B.bytes
  have hr := B.returns
  have hts := atoms_spec (ws := wsX10_readOperand) B.pre
  have hown : s.vm.findClass RX10 = some m.cls := findClass_of_methodNamed B.named
  have hlocks := B.notSynchronized
  subst hsz
  have hD := hD0.self (sz := s.heap.size)
  generalize hAe : va_A [(h0, kO10 h1 n0_size n0_place h2), (h1, kAi cint 120 f1), (h2, kO4 h3 n2_size h4 h5 n2_top), (h3, kAi cint 128 f3)] s.heap.size = A at hD hZNAMES hTNAMES ⊢
  have hA : ∀ q : Nat, s.heap.size ≤ q → A q := fun q h => by rw [← hAe]; exact Or.inr h
  have hS : va_S A s.heap s.heap [] := va_S.rf
  replace hP : va_P (dC, dI) vwCl [(h0, kO10 h1 n0_size n0_place h2), (h1, kAi cint 120 f1), (h2, kO4 h3 n2_size h4 h5 n2_top), (h3, kAi cint 128 f3)] s.heap := hP
  have hl := lv_entry ([.ref h0, .int p0]) (n := 4) (Nat.le_of_ble_eq_true rfl)
  rw [lg_entry_eq]
  generalize (lg_sl ([.ref h0, .int p0]) ++ List.replicate (4 - (lg_sl ([.ref h0, .int p0])).length) Slot.unset).toArray = ls at hl ⊢
  replace hl : lv_has ls 4 [(0, .ref h0), (1, .int p0)] := hl
  refine lv_aload_n hx hb dX10_readOperand_0 rfl (lv_at hl 0 rfl) ?_
  obtain ⟨hPc, hDc, hFc⟩ := kk_cutout (wc := [(h0, kO10 h1 n0_size n0_place h2), (h1, kAi cint 120 f1)]) hP hD hS hA [0, 1] (by decide) rfl
  have hKc := kk_Ks (tq := [(cint, .int)]) hK [0] rfl
  refine va_calli (va_runV (As := []) (rest := []) ⟨hx, hb, hml, hown, hts⟩ (g_X10_next_1 l dC dI h0 h1 h2 cint s.heap.size n0_size n0_place f1 tn0_size tn0_place bf1 (by show (0 ≤ (n0_place : Int32).toInt ∧ (n0_place : Int32).toInt ≤ (n0_size : Int32).toInt); first | with_reducible assumption | (refine ⟨?_, ?_⟩ <;> (first | with_reducible assumption | (omega))))) (cwV 0 hts gX10_readOperand_X10_next rfl rfl rfl ⟨rfl, kh_X10_next⟩ ⟨kk_rmF hF (Nat.le_of_ble_eq_true rfl), kk_rmM hL (Nat.le_of_ble_eq_true rfl)⟩) ⟨fun a U g mk q => by obtain ⟨q0, q1, qP, qK, qD⟩ := q; exact ⟨q0, q1, qP, va_K.moved (u := U) (U := U.calling g mk a) (Vm.Alike.refl U.vm) qK, qD⟩, va_recv hKc hPc (ci := 10) (q0 := 0) rfl rfl, fun U hU hW => ⟨rfl, by rw [hU], by rw [hU]; exact hPc, va_K.moved hW.alike hKc, hDc.weaken (fun _ _ _ _ => trivial)⟩⟩ rfl rfl hl.1 rfl (lv_room (Nat.le_of_ble_eq_true rfl)) dX10_readOperand_1 ⟨Nat.le_of_ble_eq_true rfl, Nat.le_of_ble_eq_true rfl⟩) hS (fun q _ h => hFc q h) hFc (fun r_1 u t H1 locs ht hvm hw hB hz1 hk1 hS => ?_)
  obtain ⟨hP1, hK1, hD1⟩ := hB
  rw [ht] at hP1
  have hK1 := va_K.moved hvm.symm hK1
  obtain ⟨hP, hD⟩ := va_join (wr := [(h2, kO4 h3 n2_size h4 h5 n2_top), (h3, kAi cint 128 f3)]) (w1 := [(h0, kO10 h1 n0_size n0_place h2), (h1, kAi cint 120 f1)]) hP hD [0, 1] [2, 3] rfl rfl (by decide) (by decide) hk1 hFc hP1 hD1
  generalize H1 = H at hP hS ⊢
  replace hP : va_P (dC, dI) vwCl [(h2, kO4 h3 n2_size h4 h5 n2_top), (h3, kAi cint 128 f3), (h0, kO10 h1 n0_size n0_place h2), (h1, kAi cint 120 f1)] H := hP
  replace hD : va_D A [(h2, kO4 h3 n2_size h4 h5 n2_top), (h3, kAi cint 128 f3), (h0, kO10 h1 n0_size n0_place h2), (h1, kAi cint 120 f1)] := hD
  rcases hw with ⟨t_1_0, t_1_any⟩
  · skip
    replace t_1_0 : (((n0_place.toInt < n0_size.toInt) → r_1.toInt = ko_at f1 n0_size.toInt n0_place.toInt ∧ 0 ≤ r_1.toInt) ∧ (n0_size.toInt ≤ n0_place.toInt → r_1.toInt = -1 ∧ ko_at f1 n0_size.toInt n0_place.toInt = 0)) := t_1_0
    have qb_1 := kd_bx t_1_0
    clear t_1_0
    refine lv_istore_n hx hb dX10_readOperand_4 rfl hl (by decide) (rfl : _ = ([(2, .int r_1), (0, .ref h0), (1, .int p0)] : List (Nat × Value))) (fun ls hl => ?_)
    refine lv_iload_n hx hb dX10_readOperand_5 rfl (lv_at hl 0 rfl) ?_
    obtain ⟨hPc, hDc, hFc⟩ := kk_cutout (wc := []) hP hD hS hA [] (by decide) rfl
    have hKc := kk_Ks (tq := []) hK [] rfl
    refine va_calli (va_runS (As := [.int r_1]) (rest := []) ⟨hx, hb, hml, hown, hts⟩ (g_X10_isDigit_1 l dC dI H.size r_1) (va_cwS 1 hts gX10_readOperand_X10_isDigit rfl rfl rfl kh_X10_isDigit ⟨kk_rmF hF (Nat.le_of_ble_eq_true rfl), kk_rmM hL (Nat.le_of_ble_eq_true rfl)⟩) ⟨fun a U g mk q => by obtain ⟨q0, q1, qP, qK, qD⟩ := q; exact ⟨q0, q1, qP, va_K.moved (u := U) (U := U.calling g mk a) (Vm.Alike.refl U.vm) qK, qD⟩, fun U hU hW => ⟨rfl, by rw [hU], by rw [hU]; exact hPc, va_K.moved hW.alike hKc, hDc.weaken (fun _ _ _ _ => trivial)⟩⟩ rfl rfl hl.1 rfl (lv_room (Nat.le_of_ble_eq_true rfl)) dX10_readOperand_6 ⟨Nat.le_of_ble_eq_true rfl, Nat.le_of_ble_eq_true rfl⟩) hS (fun q _ h => hFc q h) hFc (fun r_2 u t H1 locs ht hvm hw hB hz1 hk1 hS => ?_)
    obtain ⟨hP1, hK1, hD1⟩ := hB
    rw [ht] at hP1
    have hK1 := va_K.moved hvm.symm hK1
    obtain ⟨hP, hD⟩ := va_join (wr := [(h2, kO4 h3 n2_size h4 h5 n2_top), (h3, kAi cint 128 f3), (h0, kO10 h1 n0_size n0_place h2), (h1, kAi cint 120 f1)]) (w1 := []) hP hD [] [0, 1, 2, 3] rfl rfl (by decide) (by decide) hk1 hFc hP1 hD1
    generalize H1 = H at hP hS ⊢
    replace hP : va_P (dC, dI) vwCl [(h2, kO4 h3 n2_size h4 h5 n2_top), (h3, kAi cint 128 f3), (h0, kO10 h1 n0_size n0_place h2), (h1, kAi cint 120 f1)] H := hP
    replace hD : va_D A [(h2, kO4 h3 n2_size h4 h5 n2_top), (h3, kAi cint 128 f3), (h0, kO10 h1 n0_size n0_place h2), (h1, kAi cint 120 f1)] := hD
    rcases hw with ⟨t_2_0, rfl⟩ | ⟨t_2_0, t_2_1, t_2_2, rfl⟩
    · skip
      replace t_2_0 : (r_1.toInt < 48 ∨ 57 < r_1.toInt) := t_2_0
      have qd_2 := kd_nd (kd_ub qb_1) t_2_0
      clear t_2_0
      refine lv_if_eq (tgt := 18) hx hb dX10_readOperand_9 (by decide) (fun _ => ?_) (fun c => absurd c (by decide))
      refine lv_iload_n hx hb dX10_readOperand_18 rfl (lv_at hl 0 rfl) ?_
      obtain ⟨hPc, hDc, hFc⟩ := kk_cutout (wc := []) hP hD hS hA [] (by decide) rfl
      have hKc := kk_Ks (tq := []) hK [] rfl
      refine va_calli (va_runS (As := [.int r_1]) (rest := []) ⟨hx, hb, hml, hown, hts⟩ (g_X4_nameOf_1 l dC dI H.size r_1 aNAMES) (va_cwS 1 hts gX10_readOperand_X4_nameOf rfl rfl rfl kh_X4_nameOf ⟨kk_rmF hF (Nat.le_of_ble_eq_true rfl), kk_rmM hL (Nat.le_of_ble_eq_true rfl)⟩) ⟨fun a U g mk q => by obtain ⟨q0, q1, qP, qK, qD, qx0, qx1⟩ := q; exact ⟨q0, q1, qP, va_K.moved (u := U) (U := U.calling g mk a) (Vm.Alike.refl U.vm) qK, qD, va_Z.moved (u := U) (U := U.calling g mk a) (Vm.Alike.refl U.vm) qx0, va_T.moved (u := U) (U := U.calling g mk a) (Vm.Alike.refl U.vm) qx1⟩, fun U hU hW => ⟨rfl, by rw [hU], by rw [hU]; exact hPc, va_K.moved hW.alike hKc, hDc.weaken (fun _ _ _ _ => trivial), by rw [hU]; exact ((hZNAMES.kept (fun a h1 h2 => hS.2.1 a h1 h2)).narrow hFc).moved hW.alike, by rw [hU]; exact ((hTNAMES.kept (fun a h1 h2 => hS.2.1 a h1 h2)).narrow hFc).moved hW.alike⟩⟩ rfl rfl hl.1 rfl (lv_room (Nat.le_of_ble_eq_true rfl)) dX10_readOperand_19 ⟨Nat.le_of_ble_eq_true rfl, Nat.le_of_ble_eq_true rfl⟩) hS (fun q _ h => hFc q h) hFc (fun r_3 u t H1 locs ht hvm hw hB hz1 hk1 hS => ?_)
      obtain ⟨hP1, hK1, hD1⟩ := hB
      rw [ht] at hP1
      have hK1 := va_K.moved hvm.symm hK1
      obtain ⟨hP, hD⟩ := va_join (wr := [(h2, kO4 h3 n2_size h4 h5 n2_top), (h3, kAi cint 128 f3), (h0, kO10 h1 n0_size n0_place h2), (h1, kAi cint 120 f1)]) (w1 := []) hP hD [] [0, 1, 2, 3] rfl rfl (by decide) (by decide) hk1 hFc hP1 hD1
      generalize H1 = H at hP hS ⊢
      replace hP : va_P (dC, dI) vwCl [(h2, kO4 h3 n2_size h4 h5 n2_top), (h3, kAi cint 128 f3), (h0, kO10 h1 n0_size n0_place h2), (h1, kAi cint 120 f1)] H := hP
      replace hD : va_D A [(h2, kO4 h3 n2_size h4 h5 n2_top), (h3, kAi cint 128 f3), (h0, kO10 h1 n0_size n0_place h2), (h1, kAi cint 120 f1)] := hD
      rcases hw with ⟨t_3_0, t_3_1, t_3_any⟩
      · skip
        replace t_3_0 : ((0 ≤ r_3.toInt → (r_1.toInt = 119 ∨ r_1.toInt = 110 ∨ r_1.toInt = 100 ∨ r_1.toInt = 121 ∨ r_1.toInt = 122 ∨ r_1.toInt = 102 ∨ r_1.toInt = 105 ∨ r_1.toInt = 99)) ∧ (r_3.toInt < 0 → ¬ (r_1.toInt = 119 ∨ r_1.toInt = 110 ∨ r_1.toInt = 100 ∨ r_1.toInt = 121 ∨ r_1.toInt = 122 ∨ r_1.toInt = 102 ∨ r_1.toInt = 105 ∨ r_1.toInt = 99))) := t_3_0
        have qb_3 := kd_bx t_3_0
        clear t_3_0
        replace t_3_1 : (0 ≤ r_3.toInt → r_3.toInt = (kw_ix r_1.toInt : Int)) := t_3_1
        refine lv_istore_n hx hb dX10_readOperand_22 rfl hl (by decide) (rfl : _ = ([(3, .int r_3), (2, .int r_1), (0, .ref h0), (1, .int p0)] : List (Nat × Value))) (fun ls hl => ?_)
        refine lv_iload_n hx hb dX10_readOperand_23 rfl (lv_at hl 0 rfl) ?_
        refine lv_if_lt (tgt := 47) hx hb dX10_readOperand_24 (by decide) (fun c_4 => ?_) (fun c_4 => ?_)
        · have t_4 : r_3.toInt < 0 := kk_lt c_4
          have qn_4 := kd_nn (kd_ub qb_1) (kd_ub qb_3) t_4
          refine lv_iload_n hx hb dX10_readOperand_47 rfl (lv_at hl 3 rfl) ?_
          refine lv_bipush (v := 6) hx hb dX10_readOperand_48 kk_bi_6 ?_
          refine lv_icmp_ge (tgt := 71) hx hb dX10_readOperand_50 (by decide) (fun c_5 => ?_) (fun c_5 => ?_)
          · have t_5 : 6 ≤ p0.toInt := kk_le c_5
            have hk_6 : ko_R (ko_at f1 n0_size.toInt) (5 : Int) (p0.toInt : Int) n0_place.toInt = -1 - n0_place.toInt := ko_o_bad (by first | with_reducible assumption | exact Or.inl (by with_reducible assumption) | exact Or.inr (by with_reducible assumption) | omega) (by first | with_reducible assumption | exact Or.inl (by with_reducible assumption) | exact Or.inr (by with_reducible assumption) | omega) (by first | exact Or.inr ⟨by with_reducible assumption, by with_reducible assumption, by with_reducible assumption⟩ | exact Or.inl (by omega) | omega)
            refine lv_iconst (v := 0) hx hb dX10_readOperand_71 kk_ic_0 ?_
            obtain ⟨hP9, hD9⟩ := kk_leafout (wc := [(h0, kO10 h1 n0_size n0_place h2), (h1, kAi cint 120 f1), (h2, kO4 h3 n2_size h4 h5 n2_top), (h3, kAi cint 128 f3)]) hP hD [2, 3, 0, 1] (by decide) rfl
            have hK9 := kk_Ks (tq := []) hK [] rfl
            exact W.zret (v := 0) hx hb hr rfl (fun t ht hW => ⟨⟨0, 0, rfl, ⟨rfl, trivial⟩, n0_place, n2_size, f3, tn0_place, tn2_size, (Or.inl ⟨(by show (ko_R (ko_at f1 (n0_size : Int32).toInt) (5 : Int) (p0 : Int32).toInt (n0_place : Int32).toInt = -1 - (n0_place : Int32).toInt ∧ 0 ≤ (n0_place : Int32).toInt ∧ (n0_place : Int32).toInt ≤ (n0_size : Int32).toInt); first | with_reducible assumption | (refine ⟨?_, ?_, ?_⟩ <;> (first | with_reducible assumption | (omega)))), rfl⟩), by rw [ht]; exact hP9, va_K.moved hW.alike hK9, hD9⟩, hS.F ht⟩) hS.2.2 dX10_readOperand_72
          · have t_5 : p0.toInt < 6 := kk_nle c_5
            refine lv_iload_n hx hb dX10_readOperand_53 rfl (lv_at hl 1 rfl) ?_
            refine lv_bipush (v := 40) hx hb dX10_readOperand_54 kk_bi_40 ?_
            refine lv_icmp_eq (tgt := 73) hx hb dX10_readOperand_56 (by decide) (fun c_7 => ?_) (fun c_7 => ?_)
            · have t_7 : r_1.toInt = 40 := kk_eq c_7
              obtain ⟨qe_7, qi_7, qr_7⟩ := kd_k (kd_ub qb_1) t_7 (by decide)
              refine lv_aload_n hx hb dX10_readOperand_73 rfl (lv_at hl 2 rfl) ?_
              refine lv_dup hx hb dX10_readOperand_74 rfl ?_
              refine va_get (D := (dC, dI)) (ci := 10) (v := .int n0_place) (C := RX10) (T := TX10) (N := 4) hx hb hts (fun _ h => List.mem_cons_of_mem _ (List.mem_append_left _ (List.mem_append_right _ h))) hown hK hP 2 rfl rfl 2 (by decide) (hts (.fieldLink RX10 17 "KinkStreet$Tape" "place" "I") (List.mem_of_getElem? (i := 1) rfl)) (fun _ h9 => h9) rfl dX10_readOperand_75 ?_
              refine lv_iconst (v := 1) hx hb dX10_readOperand_78 kk_ic_1 ?_
              refine lv_iadd hx hb dX10_readOperand_79 ?_
              refine va_put (D := (dC, dI)) (ci := 10) (v := .int (n0_place + 1)) (ty := .int) (C := RX10) (T := TX10) (N := 4) hx hb hts (fun _ h => List.mem_cons_of_mem _ (List.mem_append_left _ (List.mem_append_right _ h))) tyX10 tyX10_ok nmX10 hown hK hP hD hS 2 rfl rfl 2 (by decide) (hts (.fieldLink RX10 17 "KinkStreet$Tape" "place" "I") (List.mem_of_getElem? (i := 1) rfl)) (fun _ h9 => h9) rfl (by decide +kernel) rfl rfl (Nat.le_of_ble_eq_true rfl) dX10_readOperand_80 (fun H locs hP hD hS => ?_)
              replace hP : va_P (dC, dI) vwCl [(h2, kO4 h3 n2_size h4 h5 n2_top), (h3, kAi cint 128 f3), (h0, kO10 h1 n0_size (n0_place + 1) h2), (h1, kAi cint 120 f1)] H := hP
              replace hD : va_D A [(h2, kO4 h3 n2_size h4 h5 n2_top), (h3, kAi cint 128 f3), (h0, kO10 h1 n0_size (n0_place + 1) h2), (h1, kAi cint 120 f1)] := hD
              refine lv_iload_n hx hb dX10_readOperand_83 rfl (lv_at hl 1 rfl) ?_
              refine lv_bipush (v := 40) hx hb dX10_readOperand_84 kk_bi_40 ?_
              refine lv_icmp_ne (tgt := 99) hx hb dX10_readOperand_86 (by decide) (fun c_8 => ?_) (fun c_8 => ?_)
              · have t_8 : r_1.toInt ≠ 40 := kk_ne c_8
                have qe_8 := kd_nk (kd_ub qb_1) t_8 (by decide)
                have := kk_add2 (x := n0_place) (y := 1) (a := n0_place.toInt) (b := 1) rfl rfl (by omega) (by omega)
                exfalso; omega
              · have t_8 : r_1.toInt = 40 := kk_eq c_8
                obtain ⟨qe_8, qi_8, qr_8⟩ := kd_k (kd_ub qb_1) t_8 (by decide)
                have := kk_add2 (x := n0_place) (y := 1) (a := n0_place.toInt) (b := 1) rfl rfl (by omega) (by omega)
                have := kk_add2 (x := p0) (y := 1) (a := p0.toInt) (b := 1) rfl rfl (by omega) (by omega)
                have hk_9 : 0 ≤ ko_R (ko_at f1 n0_size.toInt) (0 : Int) ((p0 + 1).toInt : Int) (n0_place + 1).toInt → ko_at f1 n0_size.toInt (ko_R (ko_at f1 n0_size.toInt) (0 : Int) ((p0 + 1).toInt : Int) (n0_place + 1).toInt) = 41 → ko_R (ko_at f1 n0_size.toInt) (5 : Int) (p0.toInt : Int) n0_place.toInt = ko_R (ko_at f1 n0_size.toInt) (0 : Int) ((p0 + 1).toInt : Int) (n0_place + 1).toInt + 1 := fun h0 h1 => ko_o_par (k' := ((p0 + 1).toInt : Int)) (p1 := (n0_place + 1).toInt) (by omega) (by omega) (by omega) (by omega) rfl h0 h1
                have hk_10 : 0 ≤ ko_R (ko_at f1 n0_size.toInt) (0 : Int) ((p0 + 1).toInt : Int) (n0_place + 1).toInt → ko_at f1 n0_size.toInt (ko_R (ko_at f1 n0_size.toInt) (0 : Int) ((p0 + 1).toInt : Int) (n0_place + 1).toInt) ≠ 41 → ko_R (ko_at f1 n0_size.toInt) (5 : Int) (p0.toInt : Int) n0_place.toInt = -1 - ko_R (ko_at f1 n0_size.toInt) (0 : Int) ((p0 + 1).toInt : Int) (n0_place + 1).toInt := fun h0 h1 => ko_o_pab (k' := ((p0 + 1).toInt : Int)) (p1 := (n0_place + 1).toInt) (by omega) (by omega) (by omega) (by omega) rfl h0 h1
                have hk_11 : ko_R (ko_at f1 n0_size.toInt) (0 : Int) ((p0 + 1).toInt : Int) (n0_place + 1).toInt < 0 → ko_R (ko_at f1 n0_size.toInt) (5 : Int) (p0.toInt : Int) n0_place.toInt = ko_R (ko_at f1 n0_size.toInt) (0 : Int) ((p0 + 1).toInt : Int) (n0_place + 1).toInt := fun h0 => ko_o_paf (k' := ((p0 + 1).toInt : Int)) (p1 := (n0_place + 1).toInt) (by omega) (by omega) (by omega) (by omega) rfl h0
                refine lv_aload_n hx hb dX10_readOperand_89 rfl (lv_at hl 2 rfl) ?_
                refine lv_iload_n hx hb dX10_readOperand_90 rfl (lv_at hl 3 rfl) ?_
                refine lv_iconst (v := 1) hx hb dX10_readOperand_91 kk_ic_1 ?_
                refine lv_iadd hx hb dX10_readOperand_92 ?_
                obtain ⟨hPc, hDc, hFc⟩ := kk_cutout (wc := [(h0, kO10 h1 n0_size (n0_place + 1) h2), (h1, kAi cint 120 f1), (h2, kO4 h3 n2_size h4 h5 n2_top), (h3, kAi cint 128 f3)]) hP hD hS hA [2, 3, 0, 1] (by decide) rfl
                have hKc := kk_Ks (tq := [(cint, .int)]) hK [0] rfl
                refine va_calli (va_runV (As := [.int (p0 + 1)]) (rest := []) ⟨hx, hb, hml, hown, hts⟩ (ih0 dC dI h0 h1 h2 h3 h4 h5 cint H.size (p0 + 1) (by show 0 ≤ ((p0 + 1) : Int32).toInt ∧ ((p0 + 1) : Int32).toInt ≤ 6; first | with_reducible assumption | (constructor <;> (omega))) n0_size (n0_place + 1) f1 n2_size n2_top f3 tn0_size (by show 0 ≤ ((n0_place + 1) : Int32).toInt ∧ ((n0_place + 1) : Int32).toInt ≤ 120; first | with_reducible assumption | (constructor <;> (omega))) bf1 tn2_size tn2_top (by show (6 ≤ ((p0 + 1) : Int32).toInt + (rk - 1)); first | with_reducible assumption | (omega)) (by show (0 ≤ ((n0_place + 1) : Int32).toInt ∧ ((n0_place + 1) : Int32).toInt ≤ (n0_size : Int32).toInt); first | with_reducible assumption | (refine ⟨?_, ?_⟩ <;> (first | with_reducible assumption | (omega)))) (by show (n2_size : Int32).toInt ≤ ((n0_place + 1) : Int32).toInt; first | with_reducible assumption | (omega)) aNAMES) (cwV 1 hts gX10_readOperand_X10_readInner rfl rfl rfl ⟨rfl, kh_X10_readInner⟩ ⟨Nat.add_le_add_right hF0 1, kk_rmL hL0 (Nat.le_of_ble_eq_true rfl)⟩) ⟨fun a U g mk q => by obtain ⟨q0, q1, qP, qK, qD, qx0, qx1⟩ := q; exact ⟨q0, q1, qP, va_K.moved (u := U) (U := U.calling g mk a) (Vm.Alike.refl U.vm) qK, qD, va_Z.moved (u := U) (U := U.calling g mk a) (Vm.Alike.refl U.vm) qx0, va_T.moved (u := U) (U := U.calling g mk a) (Vm.Alike.refl U.vm) qx1⟩, va_recv hKc hPc (ci := 10) (q0 := 0) rfl rfl, fun U hU hW => ⟨rfl, by rw [hU], by rw [hU]; exact hPc, va_K.moved hW.alike hKc, hDc.weaken (fun _ _ _ _ => trivial), by rw [hU]; exact ((hZNAMES.kept (fun a h1 h2 => hS.2.1 a h1 h2)).narrow hFc).moved hW.alike, by rw [hU]; exact ((hTNAMES.kept (fun a h1 h2 => hS.2.1 a h1 h2)).narrow hFc).moved hW.alike⟩⟩ rfl rfl hl.1 rfl (lv_room (Nat.le_of_ble_eq_true rfl)) dX10_readOperand_93 ⟨Nat.le_of_ble_eq_true rfl, Nat.le_of_ble_eq_true rfl⟩) hS (fun q _ h => hFc q h) hFc (fun r_12 ug_12 t H1 locs ht hvm hw hB hz1 hk1 hS => ?_)
                obtain ⟨hu_12, hw⟩ := hw
                subst ug_12
                obtain ⟨y_13, y_14, f_15, by_13, by_14, hcase_15, hP1, hK1, hD1⟩ := hB
                rw [ht] at hP1
                have hK1 := va_K.moved hvm.symm hK1
                obtain ⟨hP, hD⟩ := va_join (wr := []) (w1 := [(h0, kO10 h1 n0_size y_13 h2), (h1, kAi cint 120 f1), (h2, kO4 h3 y_14 h4 h5 n2_top), (h3, kAi cint 128 f_15)]) hP hD [2, 3, 0, 1] [] rfl rfl (by decide) (by decide) hk1 hFc hP1 hD1
                generalize H1 = H at hP hS ⊢
                replace hP : va_P (dC, dI) vwCl [(h0, kO10 h1 n0_size y_13 h2), (h1, kAi cint 120 f1), (h2, kO4 h3 y_14 h4 h5 n2_top), (h3, kAi cint 128 f_15)] H := hP
                replace hD : va_D A [(h0, kO10 h1 n0_size y_13 h2), (h1, kAi cint 120 f1), (h2, kO4 h3 y_14 h4 h5 n2_top), (h3, kAi cint 128 f_15)] := hD
                rcases hcase_15 with ⟨w_12_0_0, rfl⟩ | ⟨w_12_1_0, w_12_1_1, w_12_1_2, rfl⟩
                · skip
                  replace w_12_0_0 : ((((ko_R (ko_at f1 n0_size.toInt) (0 : Int) (p0 + 1).toInt (n0_place + 1).toInt) < 0 ∧ y_13.toInt = -1 - (ko_R (ko_at f1 n0_size.toInt) (0 : Int) (p0 + 1).toInt (n0_place + 1).toInt)) ∨ (0 ≤ (ko_R (ko_at f1 n0_size.toInt) (0 : Int) (p0 + 1).toInt (n0_place + 1).toInt) ∧ ko_at f1 n0_size.toInt (ko_R (ko_at f1 n0_size.toInt) (0 : Int) (p0 + 1).toInt (n0_place + 1).toInt) ≠ 41 ∧ y_13.toInt = (ko_R (ko_at f1 n0_size.toInt) (0 : Int) (p0 + 1).toInt (n0_place + 1).toInt))) ∧ 0 ≤ y_13.toInt ∧ y_13.toInt ≤ n0_size.toInt) := w_12_0_0
                  replace hP : va_P (dC, dI) vwCl [(h0, kO10 h1 n0_size y_13 h2), (h1, kAi cint 120 f1), (h2, kO4 h3 y_14 h4 h5 n2_top), (h3, kAi cint 128 f_15)] H := hP
                  replace hD : va_D A [(h0, kO10 h1 n0_size y_13 h2), (h1, kAi cint 120 f1), (h2, kO4 h3 y_14 h4 h5 n2_top), (h3, kAi cint 128 f_15)] := hD
                  refine W.eq (g2 := F0 m 96 ls [.int 0]) rfl ?_
                  refine lv_goto (tgt := 107) hx hb dX10_readOperand_96 (by decide) ?_
                  obtain ⟨hP9, hD9⟩ := kk_leafout (wc := [(h0, kO10 h1 n0_size y_13 h2), (h1, kAi cint 120 f1), (h2, kO4 h3 y_14 h4 h5 n2_top), (h3, kAi cint 128 f_15)]) hP hD [0, 1, 2, 3] (by decide) rfl
                  have hK9 := kk_Ks (tq := []) hK [] rfl
                  exact W.zret (v := 0) hx hb hr rfl (fun t ht hW => ⟨⟨0, 0, rfl, ⟨rfl, trivial⟩, y_13, y_14, f_15, (by show 0 ≤ (y_13 : Int32).toInt ∧ (y_13 : Int32).toInt ≤ 120; first | with_reducible assumption | (constructor <;> (omega))), (by show 0 ≤ (y_14 : Int32).toInt ∧ (y_14 : Int32).toInt ≤ 128; first | with_reducible assumption | (constructor <;> (omega))), (Or.inl ⟨(by show (ko_R (ko_at f1 (n0_size : Int32).toInt) (5 : Int) (p0 : Int32).toInt (n0_place : Int32).toInt = -1 - (y_13 : Int32).toInt ∧ 0 ≤ (y_13 : Int32).toInt ∧ (y_13 : Int32).toInt ≤ (n0_size : Int32).toInt); first | with_reducible assumption | (refine ⟨?_, ?_, ?_⟩ <;> (first | with_reducible assumption | (omega)))), rfl⟩), by rw [ht]; exact hP9, va_K.moved hW.alike hK9, hD9⟩, hS.F ht⟩) hS.2.2 dX10_readOperand_107
                · skip
                  replace w_12_1_0 : (0 ≤ (ko_R (ko_at f1 n0_size.toInt) (0 : Int) (p0 + 1).toInt (n0_place + 1).toInt) ∧ ko_at f1 n0_size.toInt (ko_R (ko_at f1 n0_size.toInt) (0 : Int) (p0 + 1).toInt (n0_place + 1).toInt) = 41 ∧ y_13.toInt = (ko_R (ko_at f1 n0_size.toInt) (0 : Int) (p0 + 1).toInt (n0_place + 1).toInt) + 1 ∧ 0 ≤ y_13.toInt ∧ y_13.toInt ≤ n0_size.toInt) := w_12_1_0
                  replace w_12_1_1 : kg_sI f_15 y_14.toInt = kg_sI f3 n2_size.toInt ++ kq_R (ko_at f1 n0_size.toInt) (0 : Int) (p0 + 1).toInt (n0_place + 1).toInt := w_12_1_1
                  replace w_12_1_2 : (y_14.toInt + (n0_place + 1).toInt ≤ n2_size.toInt + y_13.toInt) := w_12_1_2
                  replace hP : va_P (dC, dI) vwCl [(h0, kO10 h1 n0_size y_13 h2), (h1, kAi cint 120 f1), (h2, kO4 h3 y_14 h4 h5 n2_top), (h3, kAi cint 128 f_15)] H := hP
                  replace hD : va_D A [(h0, kO10 h1 n0_size y_13 h2), (h1, kAi cint 120 f1), (h2, kO4 h3 y_14 h4 h5 n2_top), (h3, kAi cint 128 f_15)] := hD
                  refine W.eq (g2 := F0 m 96 ls [.int 1]) rfl ?_
                  refine lv_goto (tgt := 107) hx hb dX10_readOperand_96 (by decide) ?_
                  have hk_16 : kg_sI f_15 y_14.toInt = kg_sI f3 n2_size.toInt ++ kq_R (ko_at f1 n0_size.toInt) (5 : Int) (p0.toInt : Int) n0_place.toInt := kq_o_par (k' := ((p0 + 1).toInt : Int)) (p1 := (n0_place + 1).toInt) (by first | with_reducible assumption | exact Or.inl (by with_reducible assumption) | exact Or.inr (by with_reducible assumption) | omega) (by first | with_reducible assumption | exact Or.inl (by with_reducible assumption) | exact Or.inr (by with_reducible assumption) | omega) (by first | with_reducible assumption | exact Or.inl (by with_reducible assumption) | exact Or.inr (by with_reducible assumption) | omega) (by first | with_reducible assumption | exact Or.inl (by with_reducible assumption) | exact Or.inr (by with_reducible assumption) | omega) (by with_reducible assumption)
                  obtain ⟨hP9, hD9⟩ := kk_leafout (wc := [(h0, kO10 h1 n0_size y_13 h2), (h1, kAi cint 120 f1), (h2, kO4 h3 y_14 h4 h5 n2_top), (h3, kAi cint 128 f_15)]) hP hD [0, 1, 2, 3] (by decide) rfl
                  have hK9 := kk_Ks (tq := []) hK [] rfl
                  exact W.zret (v := 1) hx hb hr rfl (fun t ht hW => ⟨⟨1, 1, rfl, ⟨rfl, trivial⟩, y_13, y_14, f_15, (by show 0 ≤ (y_13 : Int32).toInt ∧ (y_13 : Int32).toInt ≤ 120; first | with_reducible assumption | (constructor <;> (omega))), (by show 0 ≤ (y_14 : Int32).toInt ∧ (y_14 : Int32).toInt ≤ 128; first | with_reducible assumption | (constructor <;> (omega))), (Or.inr ⟨(by show (ko_R (ko_at f1 (n0_size : Int32).toInt) (5 : Int) (p0 : Int32).toInt (n0_place : Int32).toInt = (y_13 : Int32).toInt ∧ 0 ≤ (y_13 : Int32).toInt ∧ (y_13 : Int32).toInt ≤ (n0_size : Int32).toInt); first | with_reducible assumption | (refine ⟨?_, ?_, ?_⟩ <;> (first | with_reducible assumption | (omega)))), (by with_reducible assumption), (by show ((y_14 : Int32).toInt + (n0_place : Int32).toInt ≤ (n2_size : Int32).toInt + (y_13 : Int32).toInt); first | with_reducible assumption | (omega)), rfl⟩), by rw [ht]; exact hP9, va_K.moved hW.alike hK9, hD9⟩, hS.F ht⟩) hS.2.2 dX10_readOperand_107
            · have t_7 : r_1.toInt ≠ 40 := kk_ne c_7
              have qe_7 := kd_nk (kd_ub qb_1) t_7 (by decide)
              refine lv_iload_n hx hb dX10_readOperand_59 rfl (lv_at hl 1 rfl) ?_
              refine lv_bipush (v := 33) hx hb dX10_readOperand_60 kk_bi_33 ?_
              refine lv_icmp_eq (tgt := 73) hx hb dX10_readOperand_62 (by decide) (fun c_17 => ?_) (fun c_17 => ?_)
              · have t_17 : r_1.toInt = 33 := kk_eq c_17
                obtain ⟨qe_17, qi_17, qr_17⟩ := kd_k (kd_ub qb_1) t_17 (by decide)
                refine lv_aload_n hx hb dX10_readOperand_73 rfl (lv_at hl 2 rfl) ?_
                refine lv_dup hx hb dX10_readOperand_74 rfl ?_
                refine va_get (D := (dC, dI)) (ci := 10) (v := .int n0_place) (C := RX10) (T := TX10) (N := 4) hx hb hts (fun _ h => List.mem_cons_of_mem _ (List.mem_append_left _ (List.mem_append_right _ h))) hown hK hP 2 rfl rfl 2 (by decide) (hts (.fieldLink RX10 17 "KinkStreet$Tape" "place" "I") (List.mem_of_getElem? (i := 1) rfl)) (fun _ h9 => h9) rfl dX10_readOperand_75 ?_
                refine lv_iconst (v := 1) hx hb dX10_readOperand_78 kk_ic_1 ?_
                refine lv_iadd hx hb dX10_readOperand_79 ?_
                refine va_put (D := (dC, dI)) (ci := 10) (v := .int (n0_place + 1)) (ty := .int) (C := RX10) (T := TX10) (N := 4) hx hb hts (fun _ h => List.mem_cons_of_mem _ (List.mem_append_left _ (List.mem_append_right _ h))) tyX10 tyX10_ok nmX10 hown hK hP hD hS 2 rfl rfl 2 (by decide) (hts (.fieldLink RX10 17 "KinkStreet$Tape" "place" "I") (List.mem_of_getElem? (i := 1) rfl)) (fun _ h9 => h9) rfl (by decide +kernel) rfl rfl (Nat.le_of_ble_eq_true rfl) dX10_readOperand_80 (fun H locs hP hD hS => ?_)
                replace hP : va_P (dC, dI) vwCl [(h2, kO4 h3 n2_size h4 h5 n2_top), (h3, kAi cint 128 f3), (h0, kO10 h1 n0_size (n0_place + 1) h2), (h1, kAi cint 120 f1)] H := hP
                replace hD : va_D A [(h2, kO4 h3 n2_size h4 h5 n2_top), (h3, kAi cint 128 f3), (h0, kO10 h1 n0_size (n0_place + 1) h2), (h1, kAi cint 120 f1)] := hD
                refine lv_iload_n hx hb dX10_readOperand_83 rfl (lv_at hl 1 rfl) ?_
                refine lv_bipush (v := 40) hx hb dX10_readOperand_84 kk_bi_40 ?_
                refine lv_icmp_ne (tgt := 99) hx hb dX10_readOperand_86 (by decide) (fun c_18 => ?_) (fun c_18 => ?_)
                · have t_18 : r_1.toInt ≠ 40 := kk_ne c_18
                  have qe_18 := kd_nk (kd_ub qb_1) t_18 (by decide)
                  have := kk_add2 (x := n0_place) (y := 1) (a := n0_place.toInt) (b := 1) rfl rfl (by omega) (by omega)
                  have := kk_add2 (x := p0) (y := 1) (a := p0.toInt) (b := 1) rfl rfl (by omega) (by omega)
                  have hk_19 : ko_R (ko_at f1 n0_size.toInt) (5 : Int) (p0.toInt : Int) n0_place.toInt = ko_R (ko_at f1 n0_size.toInt) (5 : Int) ((p0 + 1).toInt : Int) (n0_place + 1).toInt := ko_o_sgn (k' := ((p0 + 1).toInt : Int)) (p1 := (n0_place + 1).toInt) (by first | with_reducible assumption | exact Or.inl (by with_reducible assumption) | exact Or.inr (by with_reducible assumption) | omega) (by first | with_reducible assumption | exact Or.inl (by with_reducible assumption) | exact Or.inr (by with_reducible assumption) | omega) (by first | with_reducible assumption | exact Or.inl (by with_reducible assumption) | exact Or.inr (by with_reducible assumption) | omega) (by first | with_reducible assumption | exact Or.inl (by with_reducible assumption) | exact Or.inr (by with_reducible assumption) | omega) rfl
                  refine lv_aload_n hx hb dX10_readOperand_99 rfl (lv_at hl 2 rfl) ?_
                  refine lv_iload_n hx hb dX10_readOperand_100 rfl (lv_at hl 1 rfl) ?_
                  refine lv_iload_n hx hb dX10_readOperand_101 rfl (lv_at hl 3 rfl) ?_
                  refine lv_iconst (v := 1) hx hb dX10_readOperand_102 kk_ic_1 ?_
                  refine lv_iadd hx hb dX10_readOperand_103 ?_
                  obtain ⟨hPc, hDc, hFc⟩ := kk_cutout (wc := [(h0, kO10 h1 n0_size (n0_place + 1) h2), (h1, kAi cint 120 f1), (h2, kO4 h3 n2_size h4 h5 n2_top), (h3, kAi cint 128 f3)]) hP hD hS hA [2, 3, 0, 1] (by decide) rfl
                  have hKc := kk_Ks (tq := [(cint, .int)]) hK [0] rfl
                  refine va_calli (va_runV (As := [.int r_1, .int (p0 + 1)]) (rest := []) ⟨hx, hb, hml, hown, hts⟩ (ih1 dC dI h0 h1 h2 h3 h4 h5 cint H.size r_1 (p0 + 1) (by show 0 ≤ ((p0 + 1) : Int32).toInt ∧ ((p0 + 1) : Int32).toInt ≤ 6; first | with_reducible assumption | (constructor <;> (omega))) n0_size (n0_place + 1) f1 n2_size n2_top f3 tn0_size (by show 0 ≤ ((n0_place + 1) : Int32).toInt ∧ ((n0_place + 1) : Int32).toInt ≤ 120; first | with_reducible assumption | (constructor <;> (omega))) bf1 tn2_size tn2_top (by show (6 ≤ ((p0 + 1) : Int32).toInt + (rk - 1)); first | with_reducible assumption | (omega)) (by show (0 ≤ ((n0_place + 1) : Int32).toInt ∧ ((n0_place + 1) : Int32).toInt ≤ (n0_size : Int32).toInt); first | with_reducible assumption | (refine ⟨?_, ?_⟩ <;> (first | with_reducible assumption | (omega)))) (by show (n2_size : Int32).toInt ≤ ((n0_place + 1) : Int32).toInt; first | with_reducible assumption | (omega)) aNAMES) (cwV 2 hts gX10_readOperand_X10_readSigned rfl rfl rfl ⟨rfl, kh_X10_readSigned⟩ ⟨Nat.add_le_add_right hF1 1, kk_rmL hL1 (Nat.le_of_ble_eq_true rfl)⟩) ⟨fun a U g mk q => by obtain ⟨q0, q1, qP, qK, qD, qx0, qx1⟩ := q; exact ⟨q0, q1, qP, va_K.moved (u := U) (U := U.calling g mk a) (Vm.Alike.refl U.vm) qK, qD, va_Z.moved (u := U) (U := U.calling g mk a) (Vm.Alike.refl U.vm) qx0, va_T.moved (u := U) (U := U.calling g mk a) (Vm.Alike.refl U.vm) qx1⟩, va_recv hKc hPc (ci := 10) (q0 := 0) rfl rfl, fun U hU hW => ⟨rfl, by rw [hU], by rw [hU]; exact hPc, va_K.moved hW.alike hKc, hDc.weaken (fun _ _ _ _ => trivial), by rw [hU]; exact ((hZNAMES.kept (fun a h1 h2 => hS.2.1 a h1 h2)).narrow hFc).moved hW.alike, by rw [hU]; exact ((hTNAMES.kept (fun a h1 h2 => hS.2.1 a h1 h2)).narrow hFc).moved hW.alike⟩⟩ rfl rfl hl.1 rfl (lv_room (Nat.le_of_ble_eq_true rfl)) dX10_readOperand_104 ⟨Nat.le_of_ble_eq_true rfl, Nat.le_of_ble_eq_true rfl⟩) hS (fun q _ h => hFc q h) hFc (fun r_20 ug_20 t H1 locs ht hvm hw hB hz1 hk1 hS => ?_)
                  obtain ⟨hu_20, hw⟩ := hw
                  subst ug_20
                  obtain ⟨y_21, y_22, f_23, by_21, by_22, hcase_23, hP1, hK1, hD1⟩ := hB
                  rw [ht] at hP1
                  have hK1 := va_K.moved hvm.symm hK1
                  obtain ⟨hP, hD⟩ := va_join (wr := []) (w1 := [(h0, kO10 h1 n0_size y_21 h2), (h1, kAi cint 120 f1), (h2, kO4 h3 y_22 h4 h5 n2_top), (h3, kAi cint 128 f_23)]) hP hD [2, 3, 0, 1] [] rfl rfl (by decide) (by decide) hk1 hFc hP1 hD1
                  generalize H1 = H at hP hS ⊢
                  replace hP : va_P (dC, dI) vwCl [(h0, kO10 h1 n0_size y_21 h2), (h1, kAi cint 120 f1), (h2, kO4 h3 y_22 h4 h5 n2_top), (h3, kAi cint 128 f_23)] H := hP
                  replace hD : va_D A [(h0, kO10 h1 n0_size y_21 h2), (h1, kAi cint 120 f1), (h2, kO4 h3 y_22 h4 h5 n2_top), (h3, kAi cint 128 f_23)] := hD
                  rcases hcase_23 with ⟨w_20_0_0, rfl⟩ | ⟨w_20_1_0, w_20_1_1, w_20_1_2, rfl⟩
                  · skip
                    replace w_20_0_0 : (ko_R (ko_at f1 n0_size.toInt) (5 : Int) (p0 + 1).toInt (n0_place + 1).toInt = -1 - y_21.toInt ∧ 0 ≤ y_21.toInt ∧ y_21.toInt ≤ n0_size.toInt) := w_20_0_0
                    replace hP : va_P (dC, dI) vwCl [(h0, kO10 h1 n0_size y_21 h2), (h1, kAi cint 120 f1), (h2, kO4 h3 y_22 h4 h5 n2_top), (h3, kAi cint 128 f_23)] H := hP
                    replace hD : va_D A [(h0, kO10 h1 n0_size y_21 h2), (h1, kAi cint 120 f1), (h2, kO4 h3 y_22 h4 h5 n2_top), (h3, kAi cint 128 f_23)] := hD
                    refine W.eq (g2 := F0 m 107 ls [.int 0]) rfl ?_
                    obtain ⟨hP9, hD9⟩ := kk_leafout (wc := [(h0, kO10 h1 n0_size y_21 h2), (h1, kAi cint 120 f1), (h2, kO4 h3 y_22 h4 h5 n2_top), (h3, kAi cint 128 f_23)]) hP hD [0, 1, 2, 3] (by decide) rfl
                    have hK9 := kk_Ks (tq := []) hK [] rfl
                    exact W.zret (v := 0) hx hb hr rfl (fun t ht hW => ⟨⟨0, 0, rfl, ⟨rfl, trivial⟩, y_21, y_22, f_23, (by show 0 ≤ (y_21 : Int32).toInt ∧ (y_21 : Int32).toInt ≤ 120; first | with_reducible assumption | (constructor <;> (omega))), (by show 0 ≤ (y_22 : Int32).toInt ∧ (y_22 : Int32).toInt ≤ 128; first | with_reducible assumption | (constructor <;> (omega))), (Or.inl ⟨(by show (ko_R (ko_at f1 (n0_size : Int32).toInt) (5 : Int) (p0 : Int32).toInt (n0_place : Int32).toInt = -1 - (y_21 : Int32).toInt ∧ 0 ≤ (y_21 : Int32).toInt ∧ (y_21 : Int32).toInt ≤ (n0_size : Int32).toInt); first | with_reducible assumption | (refine ⟨?_, ?_, ?_⟩ <;> (first | with_reducible assumption | (omega)))), rfl⟩), by rw [ht]; exact hP9, va_K.moved hW.alike hK9, hD9⟩, hS.F ht⟩) hS.2.2 dX10_readOperand_107
                  · skip
                    replace w_20_1_0 : (ko_R (ko_at f1 n0_size.toInt) (5 : Int) (p0 + 1).toInt (n0_place + 1).toInt = y_21.toInt ∧ 0 ≤ y_21.toInt ∧ y_21.toInt ≤ n0_size.toInt) := w_20_1_0
                    replace w_20_1_1 : kg_sI f_23 y_22.toInt = kg_sI f3 n2_size.toInt ++ kq_R (ko_at f1 n0_size.toInt) (5 : Int) (p0 + 1).toInt (n0_place + 1).toInt ++ [if r_1.toInt = 33 then (33 : Int32) else 126] := w_20_1_1
                    replace w_20_1_2 : (y_22.toInt + (n0_place + 1).toInt ≤ n2_size.toInt + y_21.toInt + 1) := w_20_1_2
                    replace hP : va_P (dC, dI) vwCl [(h0, kO10 h1 n0_size y_21 h2), (h1, kAi cint 120 f1), (h2, kO4 h3 y_22 h4 h5 n2_top), (h3, kAi cint 128 f_23)] H := hP
                    replace hD : va_D A [(h0, kO10 h1 n0_size y_21 h2), (h1, kAi cint 120 f1), (h2, kO4 h3 y_22 h4 h5 n2_top), (h3, kAi cint 128 f_23)] := hD
                    refine W.eq (g2 := F0 m 107 ls [.int 1]) rfl ?_
                    have hk_24 : (r_1.toInt = 33 ∧ (if r_1.toInt = 33 then (33 : Int32) else 126).toInt = 33) ∨ (r_1.toInt ≠ 33 ∧ (if r_1.toInt = 33 then (33 : Int32) else 126).toInt = 126) := by by_cases h : r_1.toInt = 33; exact Or.inl ⟨h, by rw [if_pos h]; rfl⟩; exact Or.inr ⟨h, by rw [if_neg h]; rfl⟩
                    have hk_25 : r_1.toInt = ko_at f1 n0_size.toInt n0_place.toInt := (by omega)
                    have hk_26 : kg_sI f_23 y_22.toInt = kg_sI f3 n2_size.toInt ++ kq_R (ko_at f1 n0_size.toInt) (5 : Int) (p0.toInt : Int) n0_place.toInt := kq_o_sg (k' := ((p0 + 1).toInt : Int)) (p1 := (n0_place + 1).toInt) (x := (if r_1.toInt = 33 then (33 : Int32) else 126)) (by first | with_reducible assumption | exact Or.inl (by with_reducible assumption) | exact Or.inr (by with_reducible assumption) | omega) (by first | with_reducible assumption | exact Or.inl (by with_reducible assumption) | exact Or.inr (by with_reducible assumption) | omega) (by first | with_reducible assumption | exact Or.inl (by with_reducible assumption) | exact Or.inr (by with_reducible assumption) | omega) (by first | with_reducible assumption | exact Or.inl (by with_reducible assumption) | exact Or.inr (by with_reducible assumption) | omega) rfl (by with_reducible assumption) (by first | with_reducible assumption | exact Or.inl (by with_reducible assumption) | exact Or.inr (by with_reducible assumption) | omega)
                    obtain ⟨hP9, hD9⟩ := kk_leafout (wc := [(h0, kO10 h1 n0_size y_21 h2), (h1, kAi cint 120 f1), (h2, kO4 h3 y_22 h4 h5 n2_top), (h3, kAi cint 128 f_23)]) hP hD [0, 1, 2, 3] (by decide) rfl
                    have hK9 := kk_Ks (tq := []) hK [] rfl
                    exact W.zret (v := 1) hx hb hr rfl (fun t ht hW => ⟨⟨1, 1, rfl, ⟨rfl, trivial⟩, y_21, y_22, f_23, (by show 0 ≤ (y_21 : Int32).toInt ∧ (y_21 : Int32).toInt ≤ 120; first | with_reducible assumption | (constructor <;> (omega))), (by show 0 ≤ (y_22 : Int32).toInt ∧ (y_22 : Int32).toInt ≤ 128; first | with_reducible assumption | (constructor <;> (omega))), (Or.inr ⟨(by show (ko_R (ko_at f1 (n0_size : Int32).toInt) (5 : Int) (p0 : Int32).toInt (n0_place : Int32).toInt = (y_21 : Int32).toInt ∧ 0 ≤ (y_21 : Int32).toInt ∧ (y_21 : Int32).toInt ≤ (n0_size : Int32).toInt); first | with_reducible assumption | (refine ⟨?_, ?_, ?_⟩ <;> (first | with_reducible assumption | (omega)))), (by with_reducible assumption), (by show ((y_22 : Int32).toInt + (n0_place : Int32).toInt ≤ (n2_size : Int32).toInt + (y_21 : Int32).toInt); first | with_reducible assumption | (omega)), rfl⟩), by rw [ht]; exact hP9, va_K.moved hW.alike hK9, hD9⟩, hS.F ht⟩) hS.2.2 dX10_readOperand_107
                · have t_18 : r_1.toInt = 40 := kk_eq c_18
                  obtain ⟨qe_18, qi_18, qr_18⟩ := kd_k (kd_ub qb_1) t_18 (by decide)
                  have := kk_add2 (x := n0_place) (y := 1) (a := n0_place.toInt) (b := 1) rfl rfl (by omega) (by omega)
                  exfalso; omega
              · have t_17 : r_1.toInt ≠ 33 := kk_ne c_17
                have qe_17 := kd_nk (kd_ub qb_1) t_17 (by decide)
                refine lv_iload_n hx hb dX10_readOperand_65 rfl (lv_at hl 1 rfl) ?_
                refine lv_bipush (v := 45) hx hb dX10_readOperand_66 kk_bi_45 ?_
                refine lv_icmp_eq (tgt := 73) hx hb dX10_readOperand_68 (by decide) (fun c_27 => ?_) (fun c_27 => ?_)
                · have t_27 : r_1.toInt = 45 := kk_eq c_27
                  obtain ⟨qe_27, qi_27, qr_27⟩ := kd_k (kd_ub qb_1) t_27 (by decide)
                  refine lv_aload_n hx hb dX10_readOperand_73 rfl (lv_at hl 2 rfl) ?_
                  refine lv_dup hx hb dX10_readOperand_74 rfl ?_
                  refine va_get (D := (dC, dI)) (ci := 10) (v := .int n0_place) (C := RX10) (T := TX10) (N := 4) hx hb hts (fun _ h => List.mem_cons_of_mem _ (List.mem_append_left _ (List.mem_append_right _ h))) hown hK hP 2 rfl rfl 2 (by decide) (hts (.fieldLink RX10 17 "KinkStreet$Tape" "place" "I") (List.mem_of_getElem? (i := 1) rfl)) (fun _ h9 => h9) rfl dX10_readOperand_75 ?_
                  refine lv_iconst (v := 1) hx hb dX10_readOperand_78 kk_ic_1 ?_
                  refine lv_iadd hx hb dX10_readOperand_79 ?_
                  refine va_put (D := (dC, dI)) (ci := 10) (v := .int (n0_place + 1)) (ty := .int) (C := RX10) (T := TX10) (N := 4) hx hb hts (fun _ h => List.mem_cons_of_mem _ (List.mem_append_left _ (List.mem_append_right _ h))) tyX10 tyX10_ok nmX10 hown hK hP hD hS 2 rfl rfl 2 (by decide) (hts (.fieldLink RX10 17 "KinkStreet$Tape" "place" "I") (List.mem_of_getElem? (i := 1) rfl)) (fun _ h9 => h9) rfl (by decide +kernel) rfl rfl (Nat.le_of_ble_eq_true rfl) dX10_readOperand_80 (fun H locs hP hD hS => ?_)
                  replace hP : va_P (dC, dI) vwCl [(h2, kO4 h3 n2_size h4 h5 n2_top), (h3, kAi cint 128 f3), (h0, kO10 h1 n0_size (n0_place + 1) h2), (h1, kAi cint 120 f1)] H := hP
                  replace hD : va_D A [(h2, kO4 h3 n2_size h4 h5 n2_top), (h3, kAi cint 128 f3), (h0, kO10 h1 n0_size (n0_place + 1) h2), (h1, kAi cint 120 f1)] := hD
                  refine lv_iload_n hx hb dX10_readOperand_83 rfl (lv_at hl 1 rfl) ?_
                  refine lv_bipush (v := 40) hx hb dX10_readOperand_84 kk_bi_40 ?_
                  refine lv_icmp_ne (tgt := 99) hx hb dX10_readOperand_86 (by decide) (fun c_28 => ?_) (fun c_28 => ?_)
                  · have t_28 : r_1.toInt ≠ 40 := kk_ne c_28
                    have qe_28 := kd_nk (kd_ub qb_1) t_28 (by decide)
                    have := kk_add2 (x := n0_place) (y := 1) (a := n0_place.toInt) (b := 1) rfl rfl (by omega) (by omega)
                    have := kk_add2 (x := p0) (y := 1) (a := p0.toInt) (b := 1) rfl rfl (by omega) (by omega)
                    have hk_29 : ko_R (ko_at f1 n0_size.toInt) (5 : Int) (p0.toInt : Int) n0_place.toInt = ko_R (ko_at f1 n0_size.toInt) (5 : Int) ((p0 + 1).toInt : Int) (n0_place + 1).toInt := ko_o_sgn (k' := ((p0 + 1).toInt : Int)) (p1 := (n0_place + 1).toInt) (by first | with_reducible assumption | exact Or.inl (by with_reducible assumption) | exact Or.inr (by with_reducible assumption) | omega) (by first | with_reducible assumption | exact Or.inl (by with_reducible assumption) | exact Or.inr (by with_reducible assumption) | omega) (by first | with_reducible assumption | exact Or.inl (by with_reducible assumption) | exact Or.inr (by with_reducible assumption) | omega) (by first | with_reducible assumption | exact Or.inl (by with_reducible assumption) | exact Or.inr (by with_reducible assumption) | omega) rfl
                    refine lv_aload_n hx hb dX10_readOperand_99 rfl (lv_at hl 2 rfl) ?_
                    refine lv_iload_n hx hb dX10_readOperand_100 rfl (lv_at hl 1 rfl) ?_
                    refine lv_iload_n hx hb dX10_readOperand_101 rfl (lv_at hl 3 rfl) ?_
                    refine lv_iconst (v := 1) hx hb dX10_readOperand_102 kk_ic_1 ?_
                    refine lv_iadd hx hb dX10_readOperand_103 ?_
                    obtain ⟨hPc, hDc, hFc⟩ := kk_cutout (wc := [(h0, kO10 h1 n0_size (n0_place + 1) h2), (h1, kAi cint 120 f1), (h2, kO4 h3 n2_size h4 h5 n2_top), (h3, kAi cint 128 f3)]) hP hD hS hA [2, 3, 0, 1] (by decide) rfl
                    have hKc := kk_Ks (tq := [(cint, .int)]) hK [0] rfl
                    refine va_calli (va_runV (As := [.int r_1, .int (p0 + 1)]) (rest := []) ⟨hx, hb, hml, hown, hts⟩ (ih1 dC dI h0 h1 h2 h3 h4 h5 cint H.size r_1 (p0 + 1) (by show 0 ≤ ((p0 + 1) : Int32).toInt ∧ ((p0 + 1) : Int32).toInt ≤ 6; first | with_reducible assumption | (constructor <;> (omega))) n0_size (n0_place + 1) f1 n2_size n2_top f3 tn0_size (by show 0 ≤ ((n0_place + 1) : Int32).toInt ∧ ((n0_place + 1) : Int32).toInt ≤ 120; first | with_reducible assumption | (constructor <;> (omega))) bf1 tn2_size tn2_top (by show (6 ≤ ((p0 + 1) : Int32).toInt + (rk - 1)); first | with_reducible assumption | (omega)) (by show (0 ≤ ((n0_place + 1) : Int32).toInt ∧ ((n0_place + 1) : Int32).toInt ≤ (n0_size : Int32).toInt); first | with_reducible assumption | (refine ⟨?_, ?_⟩ <;> (first | with_reducible assumption | (omega)))) (by show (n2_size : Int32).toInt ≤ ((n0_place + 1) : Int32).toInt; first | with_reducible assumption | (omega)) aNAMES) (cwV 2 hts gX10_readOperand_X10_readSigned rfl rfl rfl ⟨rfl, kh_X10_readSigned⟩ ⟨Nat.add_le_add_right hF1 1, kk_rmL hL1 (Nat.le_of_ble_eq_true rfl)⟩) ⟨fun a U g mk q => by obtain ⟨q0, q1, qP, qK, qD, qx0, qx1⟩ := q; exact ⟨q0, q1, qP, va_K.moved (u := U) (U := U.calling g mk a) (Vm.Alike.refl U.vm) qK, qD, va_Z.moved (u := U) (U := U.calling g mk a) (Vm.Alike.refl U.vm) qx0, va_T.moved (u := U) (U := U.calling g mk a) (Vm.Alike.refl U.vm) qx1⟩, va_recv hKc hPc (ci := 10) (q0 := 0) rfl rfl, fun U hU hW => ⟨rfl, by rw [hU], by rw [hU]; exact hPc, va_K.moved hW.alike hKc, hDc.weaken (fun _ _ _ _ => trivial), by rw [hU]; exact ((hZNAMES.kept (fun a h1 h2 => hS.2.1 a h1 h2)).narrow hFc).moved hW.alike, by rw [hU]; exact ((hTNAMES.kept (fun a h1 h2 => hS.2.1 a h1 h2)).narrow hFc).moved hW.alike⟩⟩ rfl rfl hl.1 rfl (lv_room (Nat.le_of_ble_eq_true rfl)) dX10_readOperand_104 ⟨Nat.le_of_ble_eq_true rfl, Nat.le_of_ble_eq_true rfl⟩) hS (fun q _ h => hFc q h) hFc (fun r_30 ug_30 t H1 locs ht hvm hw hB hz1 hk1 hS => ?_)
                    obtain ⟨hu_30, hw⟩ := hw
                    subst ug_30
                    obtain ⟨y_31, y_32, f_33, by_31, by_32, hcase_33, hP1, hK1, hD1⟩ := hB
                    rw [ht] at hP1
                    have hK1 := va_K.moved hvm.symm hK1
                    obtain ⟨hP, hD⟩ := va_join (wr := []) (w1 := [(h0, kO10 h1 n0_size y_31 h2), (h1, kAi cint 120 f1), (h2, kO4 h3 y_32 h4 h5 n2_top), (h3, kAi cint 128 f_33)]) hP hD [2, 3, 0, 1] [] rfl rfl (by decide) (by decide) hk1 hFc hP1 hD1
                    generalize H1 = H at hP hS ⊢
                    replace hP : va_P (dC, dI) vwCl [(h0, kO10 h1 n0_size y_31 h2), (h1, kAi cint 120 f1), (h2, kO4 h3 y_32 h4 h5 n2_top), (h3, kAi cint 128 f_33)] H := hP
                    replace hD : va_D A [(h0, kO10 h1 n0_size y_31 h2), (h1, kAi cint 120 f1), (h2, kO4 h3 y_32 h4 h5 n2_top), (h3, kAi cint 128 f_33)] := hD
                    rcases hcase_33 with ⟨w_30_0_0, rfl⟩ | ⟨w_30_1_0, w_30_1_1, w_30_1_2, rfl⟩
                    · skip
                      replace w_30_0_0 : (ko_R (ko_at f1 n0_size.toInt) (5 : Int) (p0 + 1).toInt (n0_place + 1).toInt = -1 - y_31.toInt ∧ 0 ≤ y_31.toInt ∧ y_31.toInt ≤ n0_size.toInt) := w_30_0_0
                      replace hP : va_P (dC, dI) vwCl [(h0, kO10 h1 n0_size y_31 h2), (h1, kAi cint 120 f1), (h2, kO4 h3 y_32 h4 h5 n2_top), (h3, kAi cint 128 f_33)] H := hP
                      replace hD : va_D A [(h0, kO10 h1 n0_size y_31 h2), (h1, kAi cint 120 f1), (h2, kO4 h3 y_32 h4 h5 n2_top), (h3, kAi cint 128 f_33)] := hD
                      refine W.eq (g2 := F0 m 107 ls [.int 0]) rfl ?_
                      obtain ⟨hP9, hD9⟩ := kk_leafout (wc := [(h0, kO10 h1 n0_size y_31 h2), (h1, kAi cint 120 f1), (h2, kO4 h3 y_32 h4 h5 n2_top), (h3, kAi cint 128 f_33)]) hP hD [0, 1, 2, 3] (by decide) rfl
                      have hK9 := kk_Ks (tq := []) hK [] rfl
                      exact W.zret (v := 0) hx hb hr rfl (fun t ht hW => ⟨⟨0, 0, rfl, ⟨rfl, trivial⟩, y_31, y_32, f_33, (by show 0 ≤ (y_31 : Int32).toInt ∧ (y_31 : Int32).toInt ≤ 120; first | with_reducible assumption | (constructor <;> (omega))), (by show 0 ≤ (y_32 : Int32).toInt ∧ (y_32 : Int32).toInt ≤ 128; first | with_reducible assumption | (constructor <;> (omega))), (Or.inl ⟨(by show (ko_R (ko_at f1 (n0_size : Int32).toInt) (5 : Int) (p0 : Int32).toInt (n0_place : Int32).toInt = -1 - (y_31 : Int32).toInt ∧ 0 ≤ (y_31 : Int32).toInt ∧ (y_31 : Int32).toInt ≤ (n0_size : Int32).toInt); first | with_reducible assumption | (refine ⟨?_, ?_, ?_⟩ <;> (first | with_reducible assumption | (omega)))), rfl⟩), by rw [ht]; exact hP9, va_K.moved hW.alike hK9, hD9⟩, hS.F ht⟩) hS.2.2 dX10_readOperand_107
                    · skip
                      replace w_30_1_0 : (ko_R (ko_at f1 n0_size.toInt) (5 : Int) (p0 + 1).toInt (n0_place + 1).toInt = y_31.toInt ∧ 0 ≤ y_31.toInt ∧ y_31.toInt ≤ n0_size.toInt) := w_30_1_0
                      replace w_30_1_1 : kg_sI f_33 y_32.toInt = kg_sI f3 n2_size.toInt ++ kq_R (ko_at f1 n0_size.toInt) (5 : Int) (p0 + 1).toInt (n0_place + 1).toInt ++ [if r_1.toInt = 33 then (33 : Int32) else 126] := w_30_1_1
                      replace w_30_1_2 : (y_32.toInt + (n0_place + 1).toInt ≤ n2_size.toInt + y_31.toInt + 1) := w_30_1_2
                      replace hP : va_P (dC, dI) vwCl [(h0, kO10 h1 n0_size y_31 h2), (h1, kAi cint 120 f1), (h2, kO4 h3 y_32 h4 h5 n2_top), (h3, kAi cint 128 f_33)] H := hP
                      replace hD : va_D A [(h0, kO10 h1 n0_size y_31 h2), (h1, kAi cint 120 f1), (h2, kO4 h3 y_32 h4 h5 n2_top), (h3, kAi cint 128 f_33)] := hD
                      refine W.eq (g2 := F0 m 107 ls [.int 1]) rfl ?_
                      have hk_34 : (r_1.toInt = 33 ∧ (if r_1.toInt = 33 then (33 : Int32) else 126).toInt = 33) ∨ (r_1.toInt ≠ 33 ∧ (if r_1.toInt = 33 then (33 : Int32) else 126).toInt = 126) := by by_cases h : r_1.toInt = 33; exact Or.inl ⟨h, by rw [if_pos h]; rfl⟩; exact Or.inr ⟨h, by rw [if_neg h]; rfl⟩
                      have hk_35 : r_1.toInt = ko_at f1 n0_size.toInt n0_place.toInt := (by omega)
                      have hk_36 : kg_sI f_33 y_32.toInt = kg_sI f3 n2_size.toInt ++ kq_R (ko_at f1 n0_size.toInt) (5 : Int) (p0.toInt : Int) n0_place.toInt := kq_o_sg (k' := ((p0 + 1).toInt : Int)) (p1 := (n0_place + 1).toInt) (x := (if r_1.toInt = 33 then (33 : Int32) else 126)) (by first | with_reducible assumption | exact Or.inl (by with_reducible assumption) | exact Or.inr (by with_reducible assumption) | omega) (by first | with_reducible assumption | exact Or.inl (by with_reducible assumption) | exact Or.inr (by with_reducible assumption) | omega) (by first | with_reducible assumption | exact Or.inl (by with_reducible assumption) | exact Or.inr (by with_reducible assumption) | omega) (by first | with_reducible assumption | exact Or.inl (by with_reducible assumption) | exact Or.inr (by with_reducible assumption) | omega) rfl (by with_reducible assumption) (by first | with_reducible assumption | exact Or.inl (by with_reducible assumption) | exact Or.inr (by with_reducible assumption) | omega)
                      obtain ⟨hP9, hD9⟩ := kk_leafout (wc := [(h0, kO10 h1 n0_size y_31 h2), (h1, kAi cint 120 f1), (h2, kO4 h3 y_32 h4 h5 n2_top), (h3, kAi cint 128 f_33)]) hP hD [0, 1, 2, 3] (by decide) rfl
                      have hK9 := kk_Ks (tq := []) hK [] rfl
                      exact W.zret (v := 1) hx hb hr rfl (fun t ht hW => ⟨⟨1, 1, rfl, ⟨rfl, trivial⟩, y_31, y_32, f_33, (by show 0 ≤ (y_31 : Int32).toInt ∧ (y_31 : Int32).toInt ≤ 120; first | with_reducible assumption | (constructor <;> (omega))), (by show 0 ≤ (y_32 : Int32).toInt ∧ (y_32 : Int32).toInt ≤ 128; first | with_reducible assumption | (constructor <;> (omega))), (Or.inr ⟨(by show (ko_R (ko_at f1 (n0_size : Int32).toInt) (5 : Int) (p0 : Int32).toInt (n0_place : Int32).toInt = (y_31 : Int32).toInt ∧ 0 ≤ (y_31 : Int32).toInt ∧ (y_31 : Int32).toInt ≤ (n0_size : Int32).toInt); first | with_reducible assumption | (refine ⟨?_, ?_, ?_⟩ <;> (first | with_reducible assumption | (omega)))), (by with_reducible assumption), (by show ((y_32 : Int32).toInt + (n0_place : Int32).toInt ≤ (n2_size : Int32).toInt + (y_31 : Int32).toInt); first | with_reducible assumption | (omega)), rfl⟩), by rw [ht]; exact hP9, va_K.moved hW.alike hK9, hD9⟩, hS.F ht⟩) hS.2.2 dX10_readOperand_107
                  · have t_28 : r_1.toInt = 40 := kk_eq c_28
                    obtain ⟨qe_28, qi_28, qr_28⟩ := kd_k (kd_ub qb_1) t_28 (by decide)
                    have := kk_add2 (x := n0_place) (y := 1) (a := n0_place.toInt) (b := 1) rfl rfl (by omega) (by omega)
                    exfalso; omega
                · have t_27 : r_1.toInt ≠ 45 := kk_ne c_27
                  have qe_27 := kd_nk (kd_ub qb_1) t_27 (by decide)
                  have hk_37 : ko_R (ko_at f1 n0_size.toInt) (5 : Int) (p0.toInt : Int) n0_place.toInt = -1 - n0_place.toInt := ko_o_bad (by first | with_reducible assumption | exact Or.inl (by with_reducible assumption) | exact Or.inr (by with_reducible assumption) | omega) (by first | with_reducible assumption | exact Or.inl (by with_reducible assumption) | exact Or.inr (by with_reducible assumption) | omega) (by first | exact Or.inr ⟨by with_reducible assumption, by with_reducible assumption, by with_reducible assumption⟩ | exact Or.inl (by omega) | omega)
                  refine lv_iconst (v := 0) hx hb dX10_readOperand_71 kk_ic_0 ?_
                  obtain ⟨hP9, hD9⟩ := kk_leafout (wc := [(h0, kO10 h1 n0_size n0_place h2), (h1, kAi cint 120 f1), (h2, kO4 h3 n2_size h4 h5 n2_top), (h3, kAi cint 128 f3)]) hP hD [2, 3, 0, 1] (by decide) rfl
                  have hK9 := kk_Ks (tq := []) hK [] rfl
                  exact W.zret (v := 0) hx hb hr rfl (fun t ht hW => ⟨⟨0, 0, rfl, ⟨rfl, trivial⟩, n0_place, n2_size, f3, tn0_place, tn2_size, (Or.inl ⟨(by show (ko_R (ko_at f1 (n0_size : Int32).toInt) (5 : Int) (p0 : Int32).toInt (n0_place : Int32).toInt = -1 - (n0_place : Int32).toInt ∧ 0 ≤ (n0_place : Int32).toInt ∧ (n0_place : Int32).toInt ≤ (n0_size : Int32).toInt); first | with_reducible assumption | (refine ⟨?_, ?_, ?_⟩ <;> (first | with_reducible assumption | (omega)))), rfl⟩), by rw [ht]; exact hP9, va_K.moved hW.alike hK9, hD9⟩, hS.F ht⟩) hS.2.2 dX10_readOperand_72
        · have t_4 : 0 ≤ r_3.toInt := kk_nlt c_4
          obtain ⟨qn_4, qi_4, qr_4⟩ := kd_nm (kd_ub qb_1) (kd_ub qb_3) t_4
          have hk_38 : ko_R (ko_at f1 n0_size.toInt) (5 : Int) (p0.toInt : Int) n0_place.toInt = n0_place.toInt + 1 := ko_o_nam (by first | with_reducible assumption | exact Or.inl (by with_reducible assumption) | exact Or.inr (by with_reducible assumption) | omega)
          refine lv_aload_n hx hb dX10_readOperand_27 rfl (lv_at hl 2 rfl) ?_
          refine lv_dup hx hb dX10_readOperand_28 rfl ?_
          refine va_get (D := (dC, dI)) (ci := 10) (v := .int n0_place) (C := RX10) (T := TX10) (N := 4) hx hb hts (fun _ h => List.mem_cons_of_mem _ (List.mem_append_left _ (List.mem_append_right _ h))) hown hK hP 2 rfl rfl 2 (by decide) (hts (.fieldLink RX10 17 "KinkStreet$Tape" "place" "I") (List.mem_of_getElem? (i := 1) rfl)) (fun _ h9 => h9) rfl dX10_readOperand_29 ?_
          refine lv_iconst (v := 1) hx hb dX10_readOperand_32 kk_ic_1 ?_
          refine lv_iadd hx hb dX10_readOperand_33 ?_
          refine va_put (D := (dC, dI)) (ci := 10) (v := .int (n0_place + 1)) (ty := .int) (C := RX10) (T := TX10) (N := 4) hx hb hts (fun _ h => List.mem_cons_of_mem _ (List.mem_append_left _ (List.mem_append_right _ h))) tyX10 tyX10_ok nmX10 hown hK hP hD hS 2 rfl rfl 2 (by decide) (hts (.fieldLink RX10 17 "KinkStreet$Tape" "place" "I") (List.mem_of_getElem? (i := 1) rfl)) (fun _ h9 => h9) rfl (by decide +kernel) rfl rfl (Nat.le_of_ble_eq_true rfl) dX10_readOperand_34 (fun H locs hP hD hS => ?_)
          replace hP : va_P (dC, dI) vwCl [(h2, kO4 h3 n2_size h4 h5 n2_top), (h3, kAi cint 128 f3), (h0, kO10 h1 n0_size (n0_place + 1) h2), (h1, kAi cint 120 f1)] H := hP
          replace hD : va_D A [(h2, kO4 h3 n2_size h4 h5 n2_top), (h3, kAi cint 128 f3), (h0, kO10 h1 n0_size (n0_place + 1) h2), (h1, kAi cint 120 f1)] := hD
          refine lv_aload_n hx hb dX10_readOperand_37 rfl (lv_at hl 2 rfl) ?_
          refine va_get (D := (dC, dI)) (ci := 10) (v := .ref h2) (C := RX10) (T := TX10) (N := 4) hx hb hts (fun _ h => List.mem_cons_of_mem _ (List.mem_append_left _ (List.mem_append_right _ h))) hown hK hP 2 rfl rfl 3 (by decide) (hts (.fieldLink RX10 20 "KinkStreet$Tape" "law" "LKinkStreet$Law;") (List.mem_of_getElem? (i := 2) rfl)) (fun _ h9 => h9) rfl dX10_readOperand_38 ?_
          refine lv_iload_n hx hb dX10_readOperand_41 rfl (lv_at hl 0 rfl) ?_
          obtain ⟨hPc, hDc, hFc⟩ := kk_cutout (wc := [(h2, kO4 h3 n2_size h4 h5 n2_top), (h3, kAi cint 128 f3)]) hP hD hS hA [0, 1] (by decide) rfl
          have hKc := kk_Ks (tq := [(cint, .int)]) hK [0] rfl
          refine va_callv (va_runV (As := [.int r_3]) (rest := []) ⟨hx, hb, hml, hown, hts⟩ (g_X4_append_1 l dC dI h2 h3 h4 h5 cint H.size r_3 n2_size n2_top f3 tn2_size tn2_top (by show (n2_size : Int32).toInt ≤ 127; first | with_reducible assumption | (have := kk_add2 (x := n0_place) (y := 1) (a := n0_place.toInt) (b := 1) rfl rfl (by omega) (by omega); omega))) (cwV 1 hts gX10_readOperand_X4_append rfl rfl rfl ⟨rfl, kh_X4_append⟩ ⟨kk_rmF hF (Nat.le_of_ble_eq_true rfl), kk_rmM hL (Nat.le_of_ble_eq_true rfl)⟩) ⟨fun a U g mk q => by obtain ⟨q0, q1, qP, qK, qD⟩ := q; exact ⟨q0, q1, qP, va_K.moved (u := U) (U := U.calling g mk a) (Vm.Alike.refl U.vm) qK, qD⟩, va_recv hKc hPc (ci := 4) (q0 := 0) rfl rfl, fun U hU hW => ⟨rfl, by rw [hU], by rw [hU]; exact hPc, va_K.moved hW.alike hKc, hDc.weaken (fun _ _ _ _ => trivial)⟩⟩ rfl rfl hl.1 rfl (lv_room (Nat.le_of_ble_eq_true rfl)) dX10_readOperand_42 ⟨Nat.le_of_ble_eq_true rfl, Nat.le_of_ble_eq_true rfl⟩) hS (fun q _ h => hFc q h) hFc (fun u t H1 locs ht hvm hw hB hz1 hk1 hS => ?_)
          obtain ⟨y_40, f_41, by_40, v_41_0, v_41_1, hP1, hK1, hD1⟩ := hB
          replace v_41_0 : kg_sI f_41 y_40.toInt = kg_sI f3 n2_size.toInt ++ [(r_3 : Int32)] := v_41_0
          replace v_41_1 : y_40.toInt = n2_size.toInt + 1 := v_41_1
          rw [ht] at hP1
          have hK1 := va_K.moved hvm.symm hK1
          obtain ⟨hP, hD⟩ := va_join (wr := [(h0, kO10 h1 n0_size (n0_place + 1) h2), (h1, kAi cint 120 f1)]) (w1 := [(h2, kO4 h3 y_40 h4 h5 n2_top), (h3, kAi cint 128 f_41)]) hP hD [0, 1] [2, 3] rfl rfl (by decide) (by decide) hk1 hFc hP1 hD1
          generalize H1 = H at hP hS ⊢
          replace hP : va_P (dC, dI) vwCl [(h0, kO10 h1 n0_size (n0_place + 1) h2), (h1, kAi cint 120 f1), (h2, kO4 h3 y_40 h4 h5 n2_top), (h3, kAi cint 128 f_41)] H := hP
          replace hD : va_D A [(h0, kO10 h1 n0_size (n0_place + 1) h2), (h1, kAi cint 120 f1), (h2, kO4 h3 y_40 h4 h5 n2_top), (h3, kAi cint 128 f_41)] := hD
          have := kk_add2 (x := n0_place) (y := 1) (a := n0_place.toInt) (b := 1) rfl rfl (by omega) (by omega)
          have hk_42 : kg_sI f_41 y_40.toInt = kg_sI f3 n2_size.toInt ++ kq_R (ko_at f1 n0_size.toInt) (5 : Int) (p0.toInt : Int) n0_place.toInt := kqo_o_nam (x := r_3) (by first | with_reducible assumption | exact Or.inl (by with_reducible assumption) | exact Or.inr (by with_reducible assumption) | omega) (show kg_sI f_41 y_40.toInt = kg_sI f3 n2_size.toInt ++ [r_3] from (by with_reducible assumption)) (((show (0 ≤ r_3.toInt → r_3.toInt = (kw_ix r_1.toInt : Int)) from (by with_reducible assumption)) (by first | with_reducible assumption | exact Or.inl (by with_reducible assumption) | exact Or.inr (by with_reducible assumption) | omega)).trans (congrArg (fun z_ : Int => ((kw_ix z_ : Nat) : Int)) (show r_1.toInt = (ko_at f1 n0_size.toInt) n0_place.toInt from (by first | with_reducible assumption | exact Or.inl (by with_reducible assumption) | exact Or.inr (by with_reducible assumption) | omega))))
          refine lv_iconst (v := 1) hx hb dX10_readOperand_45 kk_ic_1 ?_
          obtain ⟨hP9, hD9⟩ := kk_leafout (wc := [(h0, kO10 h1 n0_size (n0_place + 1) h2), (h1, kAi cint 120 f1), (h2, kO4 h3 y_40 h4 h5 n2_top), (h3, kAi cint 128 f_41)]) hP hD [0, 1, 2, 3] (by decide) rfl
          have hK9 := kk_Ks (tq := []) hK [] rfl
          exact W.zret (v := 1) hx hb hr rfl (fun t ht hW => ⟨⟨1, 1, rfl, ⟨rfl, trivial⟩, (n0_place + 1), y_40, f_41, (by show 0 ≤ ((n0_place + 1) : Int32).toInt ∧ ((n0_place + 1) : Int32).toInt ≤ 120; first | with_reducible assumption | (constructor <;> (omega))), (by show 0 ≤ (y_40 : Int32).toInt ∧ (y_40 : Int32).toInt ≤ 128; first | with_reducible assumption | (constructor <;> (omega))), (Or.inr ⟨(by show (ko_R (ko_at f1 (n0_size : Int32).toInt) (5 : Int) (p0 : Int32).toInt (n0_place : Int32).toInt = ((n0_place + 1) : Int32).toInt ∧ 0 ≤ ((n0_place + 1) : Int32).toInt ∧ ((n0_place + 1) : Int32).toInt ≤ (n0_size : Int32).toInt); first | with_reducible assumption | (refine ⟨?_, ?_, ?_⟩ <;> (first | with_reducible assumption | (omega)))), (by with_reducible assumption), (by show ((y_40 : Int32).toInt + (n0_place : Int32).toInt ≤ (n2_size : Int32).toInt + ((n0_place + 1) : Int32).toInt); first | with_reducible assumption | (omega)), rfl⟩), by rw [ht]; exact hP9, va_K.moved hW.alike hK9, hD9⟩, hS.F ht⟩) hS.2.2 dX10_readOperand_46
    · skip
      replace t_2_0 : (48 : Int) ≤ r_1.toInt := t_2_0
      replace t_2_1 : (r_1.toInt : Int) ≤ 57 := t_2_1
      replace t_2_2 : (48 ≤ r_1.toInt ∧ r_1.toInt ≤ 57) := t_2_2
      obtain ⟨qe_2, qi_2, qr_2⟩ := kd_dg (kd_ub qb_1) t_2_2
      refine lv_if_eq (tgt := 18) hx hb dX10_readOperand_9 (by decide) (fun c => absurd c (by decide)) (fun _ => ?_)
      refine lv_aload_n hx hb dX10_readOperand_12 rfl (lv_at hl 1 rfl) ?_
      obtain ⟨hPc, hDc, hFc⟩ := kk_cutout (wc := [(h0, kO10 h1 n0_size n0_place h2), (h1, kAi cint 120 f1), (h2, kO4 h3 n2_size h4 h5 n2_top), (h3, kAi cint 128 f3)]) hP hD hS hA [2, 3, 0, 1] (by decide) rfl
      have hKc := kk_Ks (tq := [(cint, .int)]) hK [0] rfl
      refine va_callv (va_runV (As := []) (rest := []) ⟨hx, hb, hml, hown, hts⟩ (g_X10_readNumber_1 l dC dI h0 h1 h2 h3 h4 h5 cint H.size n0_size n0_place f1 n2_size n2_top f3 tn0_size tn0_place bf1 tn2_size tn2_top (by show (0 ≤ (n0_place : Int32).toInt ∧ (n0_place : Int32).toInt ≤ (n0_size : Int32).toInt); first | with_reducible assumption | (refine ⟨?_, ?_⟩ <;> (first | with_reducible assumption | (omega)))) (by show (n2_size : Int32).toInt ≤ (n0_place : Int32).toInt; first | with_reducible assumption | (omega)) (by show (48 ≤ ko_at f1 (n0_size : Int32).toInt (n0_place : Int32).toInt ∧ ko_at f1 (n0_size : Int32).toInt (n0_place : Int32).toInt ≤ 57); first | with_reducible assumption | (refine ⟨?_, ?_⟩ <;> (first | with_reducible assumption | (omega))))) (cwV 0 hts gX10_readOperand_X10_readNumber rfl rfl rfl ⟨rfl, kh_X10_readNumber⟩ ⟨kk_rmF hF (Nat.le_of_ble_eq_true rfl), kk_rmM hL (Nat.le_of_ble_eq_true rfl)⟩) ⟨fun a U g mk q => by obtain ⟨q0, q1, qP, qK, qD⟩ := q; exact ⟨q0, q1, qP, va_K.moved (u := U) (U := U.calling g mk a) (Vm.Alike.refl U.vm) qK, qD⟩, va_recv hKc hPc (ci := 10) (q0 := 0) rfl rfl, fun U hU hW => ⟨rfl, by rw [hU], by rw [hU]; exact hPc, va_K.moved hW.alike hKc, hDc.weaken (fun _ _ _ _ => trivial)⟩⟩ rfl rfl hl.1 rfl (lv_room (Nat.le_of_ble_eq_true rfl)) dX10_readOperand_13 ⟨Nat.le_of_ble_eq_true rfl, Nat.le_of_ble_eq_true rfl⟩) hS (fun q _ h => hFc q h) hFc (fun u t H1 locs ht hvm hw hB hz1 hk1 hS => ?_)
      obtain ⟨y_44, y_45, f_46, by_44, by_45, v_46_0, v_46_1, v_46_2, hP1, hK1, hD1⟩ := hB
      replace v_46_0 : (y_44.toInt = ko_F (ko_at f1 n0_size.toInt) 4 n0_place.toInt ∧ n0_place.toInt ≤ y_44.toInt ∧ y_44.toInt ≤ n0_size.toInt) := v_46_0
      replace v_46_1 : kg_sI f_46 y_45.toInt = kg_sI f3 n2_size.toInt ++ [256 + kv_nm (ko_at f1 n0_size.toInt) 4 n0_place.toInt 0] := v_46_1
      replace v_46_2 : (y_45.toInt = n2_size.toInt + 1 ∧ n0_place.toInt < y_44.toInt) := v_46_2
      rw [ht] at hP1
      have hK1 := va_K.moved hvm.symm hK1
      obtain ⟨hP, hD⟩ := va_join (wr := []) (w1 := [(h0, kO10 h1 n0_size y_44 h2), (h1, kAi cint 120 f1), (h2, kO4 h3 y_45 h4 h5 n2_top), (h3, kAi cint 128 f_46)]) hP hD [2, 3, 0, 1] [] rfl rfl (by decide) (by decide) hk1 hFc hP1 hD1
      generalize H1 = H at hP hS ⊢
      replace hP : va_P (dC, dI) vwCl [(h0, kO10 h1 n0_size y_44 h2), (h1, kAi cint 120 f1), (h2, kO4 h3 y_45 h4 h5 n2_top), (h3, kAi cint 128 f_46)] H := hP
      replace hD : va_D A [(h0, kO10 h1 n0_size y_44 h2), (h1, kAi cint 120 f1), (h2, kO4 h3 y_45 h4 h5 n2_top), (h3, kAi cint 128 f_46)] := hD
      have hk_47 : ko_R (ko_at f1 n0_size.toInt) (5 : Int) (p0.toInt : Int) n0_place.toInt = ko_F (ko_at f1 n0_size.toInt) 4 n0_place.toInt := ko_o_num (by first | with_reducible assumption | exact Or.inl (by with_reducible assumption) | exact Or.inr (by with_reducible assumption) | omega)
      have hk_48 : kg_sI f_46 y_45.toInt = kg_sI f3 n2_size.toInt ++ kq_R (ko_at f1 n0_size.toInt) (5 : Int) (p0.toInt : Int) n0_place.toInt := kq_o_num (x := 256 + kv_nm (ko_at f1 n0_size.toInt) 4 n0_place.toInt 0) (v := kv_nm (ko_at f1 n0_size.toInt) 4 n0_place.toInt 0) (by first | with_reducible assumption | exact Or.inl (by with_reducible assumption) | exact Or.inr (by with_reducible assumption) | omega) (by with_reducible assumption) rfl rfl
      refine lv_iconst (v := 1) hx hb dX10_readOperand_16 kk_ic_1 ?_
      obtain ⟨hP9, hD9⟩ := kk_leafout (wc := [(h0, kO10 h1 n0_size y_44 h2), (h1, kAi cint 120 f1), (h2, kO4 h3 y_45 h4 h5 n2_top), (h3, kAi cint 128 f_46)]) hP hD [0, 1, 2, 3] (by decide) rfl
      have hK9 := kk_Ks (tq := []) hK [] rfl
      exact W.zret (v := 1) hx hb hr rfl (fun t ht hW => ⟨⟨1, 1, rfl, ⟨rfl, trivial⟩, y_44, y_45, f_46, (by show 0 ≤ (y_44 : Int32).toInt ∧ (y_44 : Int32).toInt ≤ 120; first | with_reducible assumption | (constructor <;> (omega))), (by show 0 ≤ (y_45 : Int32).toInt ∧ (y_45 : Int32).toInt ≤ 128; first | with_reducible assumption | (constructor <;> (omega))), (Or.inr ⟨(by show (ko_R (ko_at f1 (n0_size : Int32).toInt) (5 : Int) (p0 : Int32).toInt (n0_place : Int32).toInt = (y_44 : Int32).toInt ∧ 0 ≤ (y_44 : Int32).toInt ∧ (y_44 : Int32).toInt ≤ (n0_size : Int32).toInt); first | with_reducible assumption | (refine ⟨?_, ?_, ?_⟩ <;> (first | with_reducible assumption | (omega)))), (by with_reducible assumption), (by show ((y_45 : Int32).toInt + (n0_place : Int32).toInt ≤ (n2_size : Int32).toInt + (y_44 : Int32).toInt); first | with_reducible assumption | (omega)), rfl⟩), by rw [ht]; exact hP9, va_K.moved hW.alike hK9, hD9⟩, hS.F ht⟩) hS.2.2 dX10_readOperand_17
