set_option maxHeartbeats 4000000 in
set_option maxRecDepth 100000 in
theorem g_X10_joins_5 (l : Launch) (dC : Nat → ClassId) (dI : Nat → Nat → Nat) (sz : Nat) (p1 : Int32) : Met l yX10_joins wsX10_joins ({ frames := 0, cells := 0, slots := 0, locals := 0 }) (va_Pc [.int 4, .int p1] (fun U => U.heap.size = sz ∧ va_P (dC, dI) vwCl [] U.heap ∧ va_K (dC, dI) vwCl [] U ∧ va_D (fun _ => True) [])) (va_Qi (fun (r : Int32) (_ : Unit) => ((r.toInt = 1 → (p1.toInt = 42 ∨ p1.toInt = 47 ∨ p1.toInt = 37)) ∧ (r.toInt = 0 → ¬ (p1.toInt = 42 ∨ p1.toInt = 47 ∨ p1.toInt = 37))) ∧ (0 ≤ r.toInt ∧ r.toInt ≤ 1)) (fun (_ : Unit) t => va_P (dC, dI) vwCl [] t.heap ∧ va_K (dC, dI) vwCl [] t ∧ va_D (va_A [] sz) []) (va_A [] sz)) 0 0 (va_A [] sz) := by
  refine Met.ofW (cc := cX10_joins) (maxL := 2) (ret := (some .boolean)) (by decide) rfl ?_
  intro p e s m args below meth c s₁ B hml hv
  obtain ⟨rfl, hsz, hP, hK, hD0⟩ := hv
  have hx := B.exec
  have hb := B.bytes
  have hr := B.returns
  have hts := atoms_spec (ws := wsX10_joins) B.pre
  have hown : s.vm.findClass RX10 = some m.cls := findClass_of_methodNamed B.named
  have hlocks := B.notSynchronized
  subst hsz
  have hD := hD0.self (sz := s.heap.size)
  generalize hAe : va_A [] s.heap.size = A at hD ⊢
  have hA : ∀ q : Nat, s.heap.size ≤ q → A q := fun q h => by rw [← hAe]; exact Or.inr h
  have hS : va_S A s.heap s.heap [] := va_S.rf
  have hP : va_P (dC, dI) vwCl [] s.heap := hP
  have hl := lv_entry ([.int 4, .int p1]) (n := 2) (Nat.le_of_ble_eq_true rfl)
  rw [lg_entry_eq]
  generalize (lg_sl ([.int 4, .int p1]) ++ List.replicate (2 - (lg_sl ([.int 4, .int p1])).length) Slot.unset).toArray = ls at hl ⊢
  have hl : lv_has ls 2 [(0, .int 4), (1, .int p1)] := hl
  refine lv_iload_n hx hb dX10_joins_0 rfl (lv_at hl 0 rfl) ?_
  refine lv_tableOut (tgt := 98) hx hb dX10_joins_1 (by decide) (by decide) ?_
  refine lv_iload_n hx hb dX10_joins_98 rfl (lv_at hl 1 rfl) ?_
  refine lv_bipush (v := 42) hx hb dX10_joins_99 (by decide) ?_
  refine lv_icmp_eq (tgt := 116) hx hb dX10_joins_101 (by decide) (fun c_1 => ?_) (fun c_1 => ?_)
  · have t_1 : p1.toInt = 42 := kk_eq c_1
    refine lv_iconst (v := 1) hx hb dX10_joins_116 (by decide) ?_
    refine lv_goto (tgt := 121) hx hb dX10_joins_117 (by decide) ?_
    obtain ⟨hP9, hD9⟩ := kk_leafout (wc := []) hP hD [] (by decide) rfl
    have hK9 := hK.sub (tys' := []) [] rfl
    exact W.zret (v := 1) hx hb hr rfl (fun t ht hW => ⟨⟨1, (), rfl, ⟨(by show (((1 : Int) = 1 → ((p1 : Int32).toInt = 42 ∨ (p1 : Int32).toInt = 47 ∨ (p1 : Int32).toInt = 37)) ∧ ((1 : Int) = 0 → ¬ ((p1 : Int32).toInt = 42 ∨ (p1 : Int32).toInt = 47 ∨ (p1 : Int32).toInt = 37))); omega), (by show 0 ≤ (1 : Int32).toInt ∧ (1 : Int32).toInt ≤ 1; first | with_reducible assumption | decide | (constructor <;> (omega)))⟩, by rw [ht]; exact hP9, va_K.moved hW.alike hK9, hD9⟩, hS.F ht⟩) hS.2.2 dX10_joins_121
  · have t_1 : p1.toInt ≠ 42 := kk_ne c_1
    refine lv_iload_n hx hb dX10_joins_104 rfl (lv_at hl 1 rfl) ?_
    refine lv_bipush (v := 47) hx hb dX10_joins_105 (by decide) ?_
    refine lv_icmp_eq (tgt := 116) hx hb dX10_joins_107 (by decide) (fun c_2 => ?_) (fun c_2 => ?_)
    · have t_2 : p1.toInt = 47 := kk_eq c_2
      refine lv_iconst (v := 1) hx hb dX10_joins_116 (by decide) ?_
      refine lv_goto (tgt := 121) hx hb dX10_joins_117 (by decide) ?_
      obtain ⟨hP9, hD9⟩ := kk_leafout (wc := []) hP hD [] (by decide) rfl
      have hK9 := hK.sub (tys' := []) [] rfl
      exact W.zret (v := 1) hx hb hr rfl (fun t ht hW => ⟨⟨1, (), rfl, ⟨(by show (((1 : Int) = 1 → ((p1 : Int32).toInt = 42 ∨ (p1 : Int32).toInt = 47 ∨ (p1 : Int32).toInt = 37)) ∧ ((1 : Int) = 0 → ¬ ((p1 : Int32).toInt = 42 ∨ (p1 : Int32).toInt = 47 ∨ (p1 : Int32).toInt = 37))); omega), (by show 0 ≤ (1 : Int32).toInt ∧ (1 : Int32).toInt ≤ 1; first | with_reducible assumption | decide | (constructor <;> (omega)))⟩, by rw [ht]; exact hP9, va_K.moved hW.alike hK9, hD9⟩, hS.F ht⟩) hS.2.2 dX10_joins_121
    · have t_2 : p1.toInt ≠ 47 := kk_ne c_2
      refine lv_iload_n hx hb dX10_joins_110 rfl (lv_at hl 1 rfl) ?_
      refine lv_bipush (v := 37) hx hb dX10_joins_111 (by decide) ?_
      refine lv_icmp_ne (tgt := 120) hx hb dX10_joins_113 (by decide) (fun c_3 => ?_) (fun c_3 => ?_)
      · have t_3 : p1.toInt ≠ 37 := kk_ne c_3
        refine lv_iconst (v := 0) hx hb dX10_joins_120 (by decide) ?_
        obtain ⟨hP9, hD9⟩ := kk_leafout (wc := []) hP hD [] (by decide) rfl
        have hK9 := hK.sub (tys' := []) [] rfl
        exact W.zret (v := 0) hx hb hr rfl (fun t ht hW => ⟨⟨0, (), rfl, ⟨(by show (((0 : Int) = 1 → ((p1 : Int32).toInt = 42 ∨ (p1 : Int32).toInt = 47 ∨ (p1 : Int32).toInt = 37)) ∧ ((0 : Int) = 0 → ¬ ((p1 : Int32).toInt = 42 ∨ (p1 : Int32).toInt = 47 ∨ (p1 : Int32).toInt = 37))); omega), (by show 0 ≤ (0 : Int32).toInt ∧ (0 : Int32).toInt ≤ 1; first | with_reducible assumption | decide | (constructor <;> (omega)))⟩, by rw [ht]; exact hP9, va_K.moved hW.alike hK9, hD9⟩, hS.F ht⟩) hS.2.2 dX10_joins_121
      · have t_3 : p1.toInt = 37 := kk_eq c_3
        refine lv_iconst (v := 1) hx hb dX10_joins_116 (by decide) ?_
        refine lv_goto (tgt := 121) hx hb dX10_joins_117 (by decide) ?_
        obtain ⟨hP9, hD9⟩ := kk_leafout (wc := []) hP hD [] (by decide) rfl
        have hK9 := hK.sub (tys' := []) [] rfl
        exact W.zret (v := 1) hx hb hr rfl (fun t ht hW => ⟨⟨1, (), rfl, ⟨(by show (((1 : Int) = 1 → ((p1 : Int32).toInt = 42 ∨ (p1 : Int32).toInt = 47 ∨ (p1 : Int32).toInt = 37)) ∧ ((1 : Int) = 0 → ¬ ((p1 : Int32).toInt = 42 ∨ (p1 : Int32).toInt = 47 ∨ (p1 : Int32).toInt = 37))); omega), (by show 0 ≤ (1 : Int32).toInt ∧ (1 : Int32).toInt ≤ 1; first | with_reducible assumption | decide | (constructor <;> (omega)))⟩, by rw [ht]; exact hP9, va_K.moved hW.alike hK9, hD9⟩, hS.F ht⟩) hS.2.2 dX10_joins_121
