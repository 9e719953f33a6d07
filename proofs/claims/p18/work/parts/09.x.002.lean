set_option maxHeartbeats 4000000 in
set_option maxRecDepth 100000 in
theorem g_X12_nameOf_1 (l : Launch) (dC : Nat → ClassId) (dI : Nat → Nat → Nat) (sz : Nat) (p0 : Int32) : Met l yX12_nameOf wsX12_nameOf ({ frames := 0, cells := 0, slots := 0, locals := 0 }) (va_Pc [.int p0] (fun U => U.heap.size = sz ∧ va_P (dC, dI) vwCl [] U.heap ∧ va_K (dC, dI) vwCl [] U ∧ va_D (fun _ => True) [])) (va_Qi (fun (r : Int32) (_ : Unit) => (p0.toInt = 0 → r.toInt = -1) ∧ ((0 ≤ r.toInt → (p0.toInt = 119 ∨ p0.toInt = 110 ∨ p0.toInt = 100 ∨ p0.toInt = 121 ∨ p0.toInt = 122 ∨ p0.toInt = 102 ∨ p0.toInt = 105 ∨ p0.toInt = 99)) ∧ (r.toInt < 0 → ¬ (p0.toInt = 119 ∨ p0.toInt = 110 ∨ p0.toInt = 100 ∨ p0.toInt = 121 ∨ p0.toInt = 122 ∨ p0.toInt = 102 ∨ p0.toInt = 105 ∨ p0.toInt = 99))) ∧ ((-1) ≤ r.toInt ∧ r.toInt ≤ 7)) (fun (_ : Unit) t => va_P (dC, dI) vwCl [] t.heap ∧ va_K (dC, dI) vwCl [] t ∧ va_D (va_A [] sz) []) (va_A [] sz)) 0 0 (va_A [] sz) := by
  refine Met.ofW (cc := cX12_nameOf) (maxL := 1) (ret := (some .int)) (by decide) rfl ?_
  intro p e s m args below meth c s₁ B hml hv
  obtain ⟨rfl, hsz, hP, hK, hD0⟩ := hv
  have hx := B.exec
  have hb := B.bytes
  have hr := B.returns
  have hts := atoms_spec (ws := wsX12_nameOf) B.pre
  have hown : s.vm.findClass RX12 = some m.cls := findClass_of_methodNamed B.named
  have hlocks := B.notSynchronized
  subst hsz
  have hD := hD0.self (sz := s.heap.size)
  generalize hAe : va_A [] s.heap.size = A at hD ⊢
  have hA : ∀ q : Nat, s.heap.size ≤ q → A q := fun q h => by rw [← hAe]; exact Or.inr h
  have hS : va_S A s.heap s.heap [] := va_S.rf
  have hP : va_P (dC, dI) vwCl [] s.heap := hP
  have hl := lv_entry ([.int p0]) (n := 1) (Nat.le_of_ble_eq_true rfl)
  rw [lg_entry_eq]
  generalize (lg_sl ([.int p0]) ++ List.replicate (1 - (lg_sl ([.int p0])).length) Slot.unset).toArray = ls at hl ⊢
  have hl : lv_has ls 1 [(0, .int p0)] := hl
  refine lv_iload_n hx hb dX12_nameOf_0 rfl (lv_at hl 0 rfl) ?_
  rcases (show p0 = 99 ∨ p0 = 100 ∨ p0 = 101 ∨ p0 = 102 ∨ p0 = 103 ∨ p0 = 104 ∨ p0 = 105 ∨ p0 = 106 ∨ p0 = 107 ∨ p0 = 108 ∨ p0 = 109 ∨ p0 = 110 ∨ p0 = 111 ∨ p0 = 112 ∨ p0 = 113 ∨ p0 = 114 ∨ p0 = 115 ∨ p0 = 116 ∨ p0 = 117 ∨ p0 = 118 ∨ p0 = 119 ∨ p0 = 120 ∨ p0 = 121 ∨ p0 = 122 ∨ (p0.toInt < 99 ∨ 122 < p0.toInt) from by simp only [← Int32.toInt_inj]; simp; omega) with e_1 | e_1 | e_1 | e_1 | e_1 | e_1 | e_1 | e_1 | e_1 | e_1 | e_1 | e_1 | e_1 | e_1 | e_1 | e_1 | e_1 | e_1 | e_1 | e_1 | e_1 | e_1 | e_1 | e_1 | t_1
  · have t_1 : p0.toInt = 99 := by rw [e_1]; rfl
    refine lv_tableIn (tgt := 127) (off := 126) hx hb dX12_nameOf_1 (by omega) (by omega) (by rw [t_1]; rfl) (by decide) ?_
    refine lv_bipush (v := 7) hx hb dX12_nameOf_127 (by decide) ?_
    obtain ⟨hP9, hD9⟩ := kk_leafout (wc := []) hP hD [] (by decide) rfl
    have hK9 := hK.sub (tys' := []) [] rfl
    exact W.iret (v := 7) hx hb hr (fun t ht hW => ⟨⟨7, (), rfl, ⟨(by show ((p0 : Int32).toInt = 0 → (7 : Int) = -1); omega), (by show ((0 ≤ (7 : Int) → ((p0 : Int32).toInt = 119 ∨ (p0 : Int32).toInt = 110 ∨ (p0 : Int32).toInt = 100 ∨ (p0 : Int32).toInt = 121 ∨ (p0 : Int32).toInt = 122 ∨ (p0 : Int32).toInt = 102 ∨ (p0 : Int32).toInt = 105 ∨ (p0 : Int32).toInt = 99)) ∧ ((7 : Int) < 0 → ¬ ((p0 : Int32).toInt = 119 ∨ (p0 : Int32).toInt = 110 ∨ (p0 : Int32).toInt = 100 ∨ (p0 : Int32).toInt = 121 ∨ (p0 : Int32).toInt = 122 ∨ (p0 : Int32).toInt = 102 ∨ (p0 : Int32).toInt = 105 ∨ (p0 : Int32).toInt = 99))); omega), (by show (-1) ≤ (7 : Int32).toInt ∧ (7 : Int32).toInt ≤ 7; first | with_reducible assumption | decide | (constructor <;> (omega)))⟩, by rw [ht]; exact hP9, va_K.moved hW.alike hK9, hD9⟩, hS.F ht⟩) hS.2.2 dX12_nameOf_129
  · have t_1 : p0.toInt = 100 := by rw [e_1]; rfl
    refine lv_tableIn (tgt := 116) (off := 115) hx hb dX12_nameOf_1 (by omega) (by omega) (by rw [t_1]; rfl) (by decide) ?_
    refine lv_iconst (v := 2) hx hb dX12_nameOf_116 (by decide) ?_
    obtain ⟨hP9, hD9⟩ := kk_leafout (wc := []) hP hD [] (by decide) rfl
    have hK9 := hK.sub (tys' := []) [] rfl
    exact W.iret (v := 2) hx hb hr (fun t ht hW => ⟨⟨2, (), rfl, ⟨(by show ((p0 : Int32).toInt = 0 → (2 : Int) = -1); omega), (by show ((0 ≤ (2 : Int) → ((p0 : Int32).toInt = 119 ∨ (p0 : Int32).toInt = 110 ∨ (p0 : Int32).toInt = 100 ∨ (p0 : Int32).toInt = 121 ∨ (p0 : Int32).toInt = 122 ∨ (p0 : Int32).toInt = 102 ∨ (p0 : Int32).toInt = 105 ∨ (p0 : Int32).toInt = 99)) ∧ ((2 : Int) < 0 → ¬ ((p0 : Int32).toInt = 119 ∨ (p0 : Int32).toInt = 110 ∨ (p0 : Int32).toInt = 100 ∨ (p0 : Int32).toInt = 121 ∨ (p0 : Int32).toInt = 122 ∨ (p0 : Int32).toInt = 102 ∨ (p0 : Int32).toInt = 105 ∨ (p0 : Int32).toInt = 99))); omega), (by show (-1) ≤ (2 : Int32).toInt ∧ (2 : Int32).toInt ≤ 7; first | with_reducible assumption | decide | (constructor <;> (omega)))⟩, by rw [ht]; exact hP9, va_K.moved hW.alike hK9, hD9⟩, hS.F ht⟩) hS.2.2 dX12_nameOf_117
  · have t_1 : p0.toInt = 101 := by rw [e_1]; rfl
    refine lv_tableIn (tgt := 130) (off := 129) hx hb dX12_nameOf_1 (by omega) (by omega) (by rw [t_1]; rfl) (by decide) ?_
    refine lv_iconst (v := (-1)) hx hb dX12_nameOf_130 (by decide) ?_
    obtain ⟨hP9, hD9⟩ := kk_leafout (wc := []) hP hD [] (by decide) rfl
    have hK9 := hK.sub (tys' := []) [] rfl
    exact W.iret (v := (-1)) hx hb hr (fun t ht hW => ⟨⟨(-1), (), rfl, ⟨(by show ((p0 : Int32).toInt = 0 → ((-1) : Int) = -1); omega), (by show ((0 ≤ ((-1) : Int) → ((p0 : Int32).toInt = 119 ∨ (p0 : Int32).toInt = 110 ∨ (p0 : Int32).toInt = 100 ∨ (p0 : Int32).toInt = 121 ∨ (p0 : Int32).toInt = 122 ∨ (p0 : Int32).toInt = 102 ∨ (p0 : Int32).toInt = 105 ∨ (p0 : Int32).toInt = 99)) ∧ (((-1) : Int) < 0 → ¬ ((p0 : Int32).toInt = 119 ∨ (p0 : Int32).toInt = 110 ∨ (p0 : Int32).toInt = 100 ∨ (p0 : Int32).toInt = 121 ∨ (p0 : Int32).toInt = 122 ∨ (p0 : Int32).toInt = 102 ∨ (p0 : Int32).toInt = 105 ∨ (p0 : Int32).toInt = 99))); omega), (by show (-1) ≤ ((-1) : Int32).toInt ∧ ((-1) : Int32).toInt ≤ 7; first | with_reducible assumption | decide | (constructor <;> (omega)))⟩, by rw [ht]; exact hP9, va_K.moved hW.alike hK9, hD9⟩, hS.F ht⟩) hS.2.2 dX12_nameOf_131
  · have t_1 : p0.toInt = 102 := by rw [e_1]; rfl
    refine lv_tableIn (tgt := 122) (off := 121) hx hb dX12_nameOf_1 (by omega) (by omega) (by rw [t_1]; rfl) (by decide) ?_
    refine lv_iconst (v := 5) hx hb dX12_nameOf_122 (by decide) ?_
    obtain ⟨hP9, hD9⟩ := kk_leafout (wc := []) hP hD [] (by decide) rfl
    have hK9 := hK.sub (tys' := []) [] rfl
    exact W.iret (v := 5) hx hb hr (fun t ht hW => ⟨⟨5, (), rfl, ⟨(by show ((p0 : Int32).toInt = 0 → (5 : Int) = -1); omega), (by show ((0 ≤ (5 : Int) → ((p0 : Int32).toInt = 119 ∨ (p0 : Int32).toInt = 110 ∨ (p0 : Int32).toInt = 100 ∨ (p0 : Int32).toInt = 121 ∨ (p0 : Int32).toInt = 122 ∨ (p0 : Int32).toInt = 102 ∨ (p0 : Int32).toInt = 105 ∨ (p0 : Int32).toInt = 99)) ∧ ((5 : Int) < 0 → ¬ ((p0 : Int32).toInt = 119 ∨ (p0 : Int32).toInt = 110 ∨ (p0 : Int32).toInt = 100 ∨ (p0 : Int32).toInt = 121 ∨ (p0 : Int32).toInt = 122 ∨ (p0 : Int32).toInt = 102 ∨ (p0 : Int32).toInt = 105 ∨ (p0 : Int32).toInt = 99))); omega), (by show (-1) ≤ (5 : Int32).toInt ∧ (5 : Int32).toInt ≤ 7; first | with_reducible assumption | decide | (constructor <;> (omega)))⟩, by rw [ht]; exact hP9, va_K.moved hW.alike hK9, hD9⟩, hS.F ht⟩) hS.2.2 dX12_nameOf_123
  · have t_1 : p0.toInt = 103 := by rw [e_1]; rfl
    refine lv_tableIn (tgt := 130) (off := 129) hx hb dX12_nameOf_1 (by omega) (by omega) (by rw [t_1]; rfl) (by decide) ?_
    refine lv_iconst (v := (-1)) hx hb dX12_nameOf_130 (by decide) ?_
    obtain ⟨hP9, hD9⟩ := kk_leafout (wc := []) hP hD [] (by decide) rfl
    have hK9 := hK.sub (tys' := []) [] rfl
    exact W.iret (v := (-1)) hx hb hr (fun t ht hW => ⟨⟨(-1), (), rfl, ⟨(by show ((p0 : Int32).toInt = 0 → ((-1) : Int) = -1); omega), (by show ((0 ≤ ((-1) : Int) → ((p0 : Int32).toInt = 119 ∨ (p0 : Int32).toInt = 110 ∨ (p0 : Int32).toInt = 100 ∨ (p0 : Int32).toInt = 121 ∨ (p0 : Int32).toInt = 122 ∨ (p0 : Int32).toInt = 102 ∨ (p0 : Int32).toInt = 105 ∨ (p0 : Int32).toInt = 99)) ∧ (((-1) : Int) < 0 → ¬ ((p0 : Int32).toInt = 119 ∨ (p0 : Int32).toInt = 110 ∨ (p0 : Int32).toInt = 100 ∨ (p0 : Int32).toInt = 121 ∨ (p0 : Int32).toInt = 122 ∨ (p0 : Int32).toInt = 102 ∨ (p0 : Int32).toInt = 105 ∨ (p0 : Int32).toInt = 99))); omega), (by show (-1) ≤ ((-1) : Int32).toInt ∧ ((-1) : Int32).toInt ≤ 7; first | with_reducible assumption | decide | (constructor <;> (omega)))⟩, by rw [ht]; exact hP9, va_K.moved hW.alike hK9, hD9⟩, hS.F ht⟩) hS.2.2 dX12_nameOf_131
  · have t_1 : p0.toInt = 104 := by rw [e_1]; rfl
    refine lv_tableIn (tgt := 130) (off := 129) hx hb dX12_nameOf_1 (by omega) (by omega) (by rw [t_1]; rfl) (by decide) ?_
    refine lv_iconst (v := (-1)) hx hb dX12_nameOf_130 (by decide) ?_
    obtain ⟨hP9, hD9⟩ := kk_leafout (wc := []) hP hD [] (by decide) rfl
    have hK9 := hK.sub (tys' := []) [] rfl
    exact W.iret (v := (-1)) hx hb hr (fun t ht hW => ⟨⟨(-1), (), rfl, ⟨(by show ((p0 : Int32).toInt = 0 → ((-1) : Int) = -1); omega), (by show ((0 ≤ ((-1) : Int) → ((p0 : Int32).toInt = 119 ∨ (p0 : Int32).toInt = 110 ∨ (p0 : Int32).toInt = 100 ∨ (p0 : Int32).toInt = 121 ∨ (p0 : Int32).toInt = 122 ∨ (p0 : Int32).toInt = 102 ∨ (p0 : Int32).toInt = 105 ∨ (p0 : Int32).toInt = 99)) ∧ (((-1) : Int) < 0 → ¬ ((p0 : Int32).toInt = 119 ∨ (p0 : Int32).toInt = 110 ∨ (p0 : Int32).toInt = 100 ∨ (p0 : Int32).toInt = 121 ∨ (p0 : Int32).toInt = 122 ∨ (p0 : Int32).toInt = 102 ∨ (p0 : Int32).toInt = 105 ∨ (p0 : Int32).toInt = 99))); omega), (by show (-1) ≤ ((-1) : Int32).toInt ∧ ((-1) : Int32).toInt ≤ 7; first | with_reducible assumption | decide | (constructor <;> (omega)))⟩, by rw [ht]; exact hP9, va_K.moved hW.alike hK9, hD9⟩, hS.F ht⟩) hS.2.2 dX12_nameOf_131
  · have t_1 : p0.toInt = 105 := by rw [e_1]; rfl
    refine lv_tableIn (tgt := 124) (off := 123) hx hb dX12_nameOf_1 (by omega) (by omega) (by rw [t_1]; rfl) (by decide) ?_
    refine lv_bipush (v := 6) hx hb dX12_nameOf_124 (by decide) ?_
    obtain ⟨hP9, hD9⟩ := kk_leafout (wc := []) hP hD [] (by decide) rfl
    have hK9 := hK.sub (tys' := []) [] rfl
    exact W.iret (v := 6) hx hb hr (fun t ht hW => ⟨⟨6, (), rfl, ⟨(by show ((p0 : Int32).toInt = 0 → (6 : Int) = -1); omega), (by show ((0 ≤ (6 : Int) → ((p0 : Int32).toInt = 119 ∨ (p0 : Int32).toInt = 110 ∨ (p0 : Int32).toInt = 100 ∨ (p0 : Int32).toInt = 121 ∨ (p0 : Int32).toInt = 122 ∨ (p0 : Int32).toInt = 102 ∨ (p0 : Int32).toInt = 105 ∨ (p0 : Int32).toInt = 99)) ∧ ((6 : Int) < 0 → ¬ ((p0 : Int32).toInt = 119 ∨ (p0 : Int32).toInt = 110 ∨ (p0 : Int32).toInt = 100 ∨ (p0 : Int32).toInt = 121 ∨ (p0 : Int32).toInt = 122 ∨ (p0 : Int32).toInt = 102 ∨ (p0 : Int32).toInt = 105 ∨ (p0 : Int32).toInt = 99))); omega), (by show (-1) ≤ (6 : Int32).toInt ∧ (6 : Int32).toInt ≤ 7; first | with_reducible assumption | decide | (constructor <;> (omega)))⟩, by rw [ht]; exact hP9, va_K.moved hW.alike hK9, hD9⟩, hS.F ht⟩) hS.2.2 dX12_nameOf_126
  · have t_1 : p0.toInt = 106 := by rw [e_1]; rfl
    refine lv_tableIn (tgt := 130) (off := 129) hx hb dX12_nameOf_1 (by omega) (by omega) (by rw [t_1]; rfl) (by decide) ?_
    refine lv_iconst (v := (-1)) hx hb dX12_nameOf_130 (by decide) ?_
    obtain ⟨hP9, hD9⟩ := kk_leafout (wc := []) hP hD [] (by decide) rfl
    have hK9 := hK.sub (tys' := []) [] rfl
    exact W.iret (v := (-1)) hx hb hr (fun t ht hW => ⟨⟨(-1), (), rfl, ⟨(by show ((p0 : Int32).toInt = 0 → ((-1) : Int) = -1); omega), (by show ((0 ≤ ((-1) : Int) → ((p0 : Int32).toInt = 119 ∨ (p0 : Int32).toInt = 110 ∨ (p0 : Int32).toInt = 100 ∨ (p0 : Int32).toInt = 121 ∨ (p0 : Int32).toInt = 122 ∨ (p0 : Int32).toInt = 102 ∨ (p0 : Int32).toInt = 105 ∨ (p0 : Int32).toInt = 99)) ∧ (((-1) : Int) < 0 → ¬ ((p0 : Int32).toInt = 119 ∨ (p0 : Int32).toInt = 110 ∨ (p0 : Int32).toInt = 100 ∨ (p0 : Int32).toInt = 121 ∨ (p0 : Int32).toInt = 122 ∨ (p0 : Int32).toInt = 102 ∨ (p0 : Int32).toInt = 105 ∨ (p0 : Int32).toInt = 99))); omega), (by show (-1) ≤ ((-1) : Int32).toInt ∧ ((-1) : Int32).toInt ≤ 7; first | with_reducible assumption | decide | (constructor <;> (omega)))⟩, by rw [ht]; exact hP9, va_K.moved hW.alike hK9, hD9⟩, hS.F ht⟩) hS.2.2 dX12_nameOf_131
  · have t_1 : p0.toInt = 107 := by rw [e_1]; rfl
    refine lv_tableIn (tgt := 130) (off := 129) hx hb dX12_nameOf_1 (by omega) (by omega) (by rw [t_1]; rfl) (by decide) ?_
    refine lv_iconst (v := (-1)) hx hb dX12_nameOf_130 (by decide) ?_
    obtain ⟨hP9, hD9⟩ := kk_leafout (wc := []) hP hD [] (by decide) rfl
    have hK9 := hK.sub (tys' := []) [] rfl
    exact W.iret (v := (-1)) hx hb hr (fun t ht hW => ⟨⟨(-1), (), rfl, ⟨(by show ((p0 : Int32).toInt = 0 → ((-1) : Int) = -1); omega), (by show ((0 ≤ ((-1) : Int) → ((p0 : Int32).toInt = 119 ∨ (p0 : Int32).toInt = 110 ∨ (p0 : Int32).toInt = 100 ∨ (p0 : Int32).toInt = 121 ∨ (p0 : Int32).toInt = 122 ∨ (p0 : Int32).toInt = 102 ∨ (p0 : Int32).toInt = 105 ∨ (p0 : Int32).toInt = 99)) ∧ (((-1) : Int) < 0 → ¬ ((p0 : Int32).toInt = 119 ∨ (p0 : Int32).toInt = 110 ∨ (p0 : Int32).toInt = 100 ∨ (p0 : Int32).toInt = 121 ∨ (p0 : Int32).toInt = 122 ∨ (p0 : Int32).toInt = 102 ∨ (p0 : Int32).toInt = 105 ∨ (p0 : Int32).toInt = 99))); omega), (by show (-1) ≤ ((-1) : Int32).toInt ∧ ((-1) : Int32).toInt ≤ 7; first | with_reducible assumption | decide | (constructor <;> (omega)))⟩, by rw [ht]; exact hP9, va_K.moved hW.alike hK9, hD9⟩, hS.F ht⟩) hS.2.2 dX12_nameOf_131
  · have t_1 : p0.toInt = 108 := by rw [e_1]; rfl
    refine lv_tableIn (tgt := 130) (off := 129) hx hb dX12_nameOf_1 (by omega) (by omega) (by rw [t_1]; rfl) (by decide) ?_
    refine lv_iconst (v := (-1)) hx hb dX12_nameOf_130 (by decide) ?_
    obtain ⟨hP9, hD9⟩ := kk_leafout (wc := []) hP hD [] (by decide) rfl
    have hK9 := hK.sub (tys' := []) [] rfl
    exact W.iret (v := (-1)) hx hb hr (fun t ht hW => ⟨⟨(-1), (), rfl, ⟨(by show ((p0 : Int32).toInt = 0 → ((-1) : Int) = -1); omega), (by show ((0 ≤ ((-1) : Int) → ((p0 : Int32).toInt = 119 ∨ (p0 : Int32).toInt = 110 ∨ (p0 : Int32).toInt = 100 ∨ (p0 : Int32).toInt = 121 ∨ (p0 : Int32).toInt = 122 ∨ (p0 : Int32).toInt = 102 ∨ (p0 : Int32).toInt = 105 ∨ (p0 : Int32).toInt = 99)) ∧ (((-1) : Int) < 0 → ¬ ((p0 : Int32).toInt = 119 ∨ (p0 : Int32).toInt = 110 ∨ (p0 : Int32).toInt = 100 ∨ (p0 : Int32).toInt = 121 ∨ (p0 : Int32).toInt = 122 ∨ (p0 : Int32).toInt = 102 ∨ (p0 : Int32).toInt = 105 ∨ (p0 : Int32).toInt = 99))); omega), (by show (-1) ≤ ((-1) : Int32).toInt ∧ ((-1) : Int32).toInt ≤ 7; first | with_reducible assumption | decide | (constructor <;> (omega)))⟩, by rw [ht]; exact hP9, va_K.moved hW.alike hK9, hD9⟩, hS.F ht⟩) hS.2.2 dX12_nameOf_131
  · have t_1 : p0.toInt = 109 := by rw [e_1]; rfl
    refine lv_tableIn (tgt := 130) (off := 129) hx hb dX12_nameOf_1 (by omega) (by omega) (by rw [t_1]; rfl) (by decide) ?_
    refine lv_iconst (v := (-1)) hx hb dX12_nameOf_130 (by decide) ?_
    obtain ⟨hP9, hD9⟩ := kk_leafout (wc := []) hP hD [] (by decide) rfl
    have hK9 := hK.sub (tys' := []) [] rfl
    exact W.iret (v := (-1)) hx hb hr (fun t ht hW => ⟨⟨(-1), (), rfl, ⟨(by show ((p0 : Int32).toInt = 0 → ((-1) : Int) = -1); omega), (by show ((0 ≤ ((-1) : Int) → ((p0 : Int32).toInt = 119 ∨ (p0 : Int32).toInt = 110 ∨ (p0 : Int32).toInt = 100 ∨ (p0 : Int32).toInt = 121 ∨ (p0 : Int32).toInt = 122 ∨ (p0 : Int32).toInt = 102 ∨ (p0 : Int32).toInt = 105 ∨ (p0 : Int32).toInt = 99)) ∧ (((-1) : Int) < 0 → ¬ ((p0 : Int32).toInt = 119 ∨ (p0 : Int32).toInt = 110 ∨ (p0 : Int32).toInt = 100 ∨ (p0 : Int32).toInt = 121 ∨ (p0 : Int32).toInt = 122 ∨ (p0 : Int32).toInt = 102 ∨ (p0 : Int32).toInt = 105 ∨ (p0 : Int32).toInt = 99))); omega), (by show (-1) ≤ ((-1) : Int32).toInt ∧ ((-1) : Int32).toInt ≤ 7; first | with_reducible assumption | decide | (constructor <;> (omega)))⟩, by rw [ht]; exact hP9, va_K.moved hW.alike hK9, hD9⟩, hS.F ht⟩) hS.2.2 dX12_nameOf_131
  · have t_1 : p0.toInt = 110 := by rw [e_1]; rfl
    refine lv_tableIn (tgt := 114) (off := 113) hx hb dX12_nameOf_1 (by omega) (by omega) (by rw [t_1]; rfl) (by decide) ?_
    refine lv_iconst (v := 1) hx hb dX12_nameOf_114 (by decide) ?_
    obtain ⟨hP9, hD9⟩ := kk_leafout (wc := []) hP hD [] (by decide) rfl
    have hK9 := hK.sub (tys' := []) [] rfl
    exact W.iret (v := 1) hx hb hr (fun t ht hW => ⟨⟨1, (), rfl, ⟨(by show ((p0 : Int32).toInt = 0 → (1 : Int) = -1); omega), (by show ((0 ≤ (1 : Int) → ((p0 : Int32).toInt = 119 ∨ (p0 : Int32).toInt = 110 ∨ (p0 : Int32).toInt = 100 ∨ (p0 : Int32).toInt = 121 ∨ (p0 : Int32).toInt = 122 ∨ (p0 : Int32).toInt = 102 ∨ (p0 : Int32).toInt = 105 ∨ (p0 : Int32).toInt = 99)) ∧ ((1 : Int) < 0 → ¬ ((p0 : Int32).toInt = 119 ∨ (p0 : Int32).toInt = 110 ∨ (p0 : Int32).toInt = 100 ∨ (p0 : Int32).toInt = 121 ∨ (p0 : Int32).toInt = 122 ∨ (p0 : Int32).toInt = 102 ∨ (p0 : Int32).toInt = 105 ∨ (p0 : Int32).toInt = 99))); omega), (by show (-1) ≤ (1 : Int32).toInt ∧ (1 : Int32).toInt ≤ 7; first | with_reducible assumption | decide | (constructor <;> (omega)))⟩, by rw [ht]; exact hP9, va_K.moved hW.alike hK9, hD9⟩, hS.F ht⟩) hS.2.2 dX12_nameOf_115
  · have t_1 : p0.toInt = 111 := by rw [e_1]; rfl
    refine lv_tableIn (tgt := 130) (off := 129) hx hb dX12_nameOf_1 (by omega) (by omega) (by rw [t_1]; rfl) (by decide) ?_
    refine lv_iconst (v := (-1)) hx hb dX12_nameOf_130 (by decide) ?_
    obtain ⟨hP9, hD9⟩ := kk_leafout (wc := []) hP hD [] (by decide) rfl
    have hK9 := hK.sub (tys' := []) [] rfl
    exact W.iret (v := (-1)) hx hb hr (fun t ht hW => ⟨⟨(-1), (), rfl, ⟨(by show ((p0 : Int32).toInt = 0 → ((-1) : Int) = -1); omega), (by show ((0 ≤ ((-1) : Int) → ((p0 : Int32).toInt = 119 ∨ (p0 : Int32).toInt = 110 ∨ (p0 : Int32).toInt = 100 ∨ (p0 : Int32).toInt = 121 ∨ (p0 : Int32).toInt = 122 ∨ (p0 : Int32).toInt = 102 ∨ (p0 : Int32).toInt = 105 ∨ (p0 : Int32).toInt = 99)) ∧ (((-1) : Int) < 0 → ¬ ((p0 : Int32).toInt = 119 ∨ (p0 : Int32).toInt = 110 ∨ (p0 : Int32).toInt = 100 ∨ (p0 : Int32).toInt = 121 ∨ (p0 : Int32).toInt = 122 ∨ (p0 : Int32).toInt = 102 ∨ (p0 : Int32).toInt = 105 ∨ (p0 : Int32).toInt = 99))); omega), (by show (-1) ≤ ((-1) : Int32).toInt ∧ ((-1) : Int32).toInt ≤ 7; first | with_reducible assumption | decide | (constructor <;> (omega)))⟩, by rw [ht]; exact hP9, va_K.moved hW.alike hK9, hD9⟩, hS.F ht⟩) hS.2.2 dX12_nameOf_131
  · have t_1 : p0.toInt = 112 := by rw [e_1]; rfl
    refine lv_tableIn (tgt := 130) (off := 129) hx hb dX12_nameOf_1 (by omega) (by omega) (by rw [t_1]; rfl) (by decide) ?_
    refine lv_iconst (v := (-1)) hx hb dX12_nameOf_130 (by decide) ?_
    obtain ⟨hP9, hD9⟩ := kk_leafout (wc := []) hP hD [] (by decide) rfl
    have hK9 := hK.sub (tys' := []) [] rfl
    exact W.iret (v := (-1)) hx hb hr (fun t ht hW => ⟨⟨(-1), (), rfl, ⟨(by show ((p0 : Int32).toInt = 0 → ((-1) : Int) = -1); omega), (by show ((0 ≤ ((-1) : Int) → ((p0 : Int32).toInt = 119 ∨ (p0 : Int32).toInt = 110 ∨ (p0 : Int32).toInt = 100 ∨ (p0 : Int32).toInt = 121 ∨ (p0 : Int32).toInt = 122 ∨ (p0 : Int32).toInt = 102 ∨ (p0 : Int32).toInt = 105 ∨ (p0 : Int32).toInt = 99)) ∧ (((-1) : Int) < 0 → ¬ ((p0 : Int32).toInt = 119 ∨ (p0 : Int32).toInt = 110 ∨ (p0 : Int32).toInt = 100 ∨ (p0 : Int32).toInt = 121 ∨ (p0 : Int32).toInt = 122 ∨ (p0 : Int32).toInt = 102 ∨ (p0 : Int32).toInt = 105 ∨ (p0 : Int32).toInt = 99))); omega), (by show (-1) ≤ ((-1) : Int32).toInt ∧ ((-1) : Int32).toInt ≤ 7; first | with_reducible assumption | decide | (constructor <;> (omega)))⟩, by rw [ht]; exact hP9, va_K.moved hW.alike hK9, hD9⟩, hS.F ht⟩) hS.2.2 dX12_nameOf_131
  · have t_1 : p0.toInt = 113 := by rw [e_1]; rfl
    refine lv_tableIn (tgt := 130) (off := 129) hx hb dX12_nameOf_1 (by omega) (by omega) (by rw [t_1]; rfl) (by decide) ?_
    refine lv_iconst (v := (-1)) hx hb dX12_nameOf_130 (by decide) ?_
    obtain ⟨hP9, hD9⟩ := kk_leafout (wc := []) hP hD [] (by decide) rfl
    have hK9 := hK.sub (tys' := []) [] rfl
    exact W.iret (v := (-1)) hx hb hr (fun t ht hW => ⟨⟨(-1), (), rfl, ⟨(by show ((p0 : Int32).toInt = 0 → ((-1) : Int) = -1); omega), (by show ((0 ≤ ((-1) : Int) → ((p0 : Int32).toInt = 119 ∨ (p0 : Int32).toInt = 110 ∨ (p0 : Int32).toInt = 100 ∨ (p0 : Int32).toInt = 121 ∨ (p0 : Int32).toInt = 122 ∨ (p0 : Int32).toInt = 102 ∨ (p0 : Int32).toInt = 105 ∨ (p0 : Int32).toInt = 99)) ∧ (((-1) : Int) < 0 → ¬ ((p0 : Int32).toInt = 119 ∨ (p0 : Int32).toInt = 110 ∨ (p0 : Int32).toInt = 100 ∨ (p0 : Int32).toInt = 121 ∨ (p0 : Int32).toInt = 122 ∨ (p0 : Int32).toInt = 102 ∨ (p0 : Int32).toInt = 105 ∨ (p0 : Int32).toInt = 99))); omega), (by show (-1) ≤ ((-1) : Int32).toInt ∧ ((-1) : Int32).toInt ≤ 7; first | with_reducible assumption | decide | (constructor <;> (omega)))⟩, by rw [ht]; exact hP9, va_K.moved hW.alike hK9, hD9⟩, hS.F ht⟩) hS.2.2 dX12_nameOf_131
  · have t_1 : p0.toInt = 114 := by rw [e_1]; rfl
    refine lv_tableIn (tgt := 130) (off := 129) hx hb dX12_nameOf_1 (by omega) (by omega) (by rw [t_1]; rfl) (by decide) ?_
    refine lv_iconst (v := (-1)) hx hb dX12_nameOf_130 (by decide) ?_
    obtain ⟨hP9, hD9⟩ := kk_leafout (wc := []) hP hD [] (by decide) rfl
    have hK9 := hK.sub (tys' := []) [] rfl
    exact W.iret (v := (-1)) hx hb hr (fun t ht hW => ⟨⟨(-1), (), rfl, ⟨(by show ((p0 : Int32).toInt = 0 → ((-1) : Int) = -1); omega), (by show ((0 ≤ ((-1) : Int) → ((p0 : Int32).toInt = 119 ∨ (p0 : Int32).toInt = 110 ∨ (p0 : Int32).toInt = 100 ∨ (p0 : Int32).toInt = 121 ∨ (p0 : Int32).toInt = 122 ∨ (p0 : Int32).toInt = 102 ∨ (p0 : Int32).toInt = 105 ∨ (p0 : Int32).toInt = 99)) ∧ (((-1) : Int) < 0 → ¬ ((p0 : Int32).toInt = 119 ∨ (p0 : Int32).toInt = 110 ∨ (p0 : Int32).toInt = 100 ∨ (p0 : Int32).toInt = 121 ∨ (p0 : Int32).toInt = 122 ∨ (p0 : Int32).toInt = 102 ∨ (p0 : Int32).toInt = 105 ∨ (p0 : Int32).toInt = 99))); omega), (by show (-1) ≤ ((-1) : Int32).toInt ∧ ((-1) : Int32).toInt ≤ 7; first | with_reducible assumption | decide | (constructor <;> (omega)))⟩, by rw [ht]; exact hP9, va_K.moved hW.alike hK9, hD9⟩, hS.F ht⟩) hS.2.2 dX12_nameOf_131
  · have t_1 : p0.toInt = 115 := by rw [e_1]; rfl
    refine lv_tableIn (tgt := 130) (off := 129) hx hb dX12_nameOf_1 (by omega) (by omega) (by rw [t_1]; rfl) (by decide) ?_
    refine lv_iconst (v := (-1)) hx hb dX12_nameOf_130 (by decide) ?_
    obtain ⟨hP9, hD9⟩ := kk_leafout (wc := []) hP hD [] (by decide) rfl
    have hK9 := hK.sub (tys' := []) [] rfl
    exact W.iret (v := (-1)) hx hb hr (fun t ht hW => ⟨⟨(-1), (), rfl, ⟨(by show ((p0 : Int32).toInt = 0 → ((-1) : Int) = -1); omega), (by show ((0 ≤ ((-1) : Int) → ((p0 : Int32).toInt = 119 ∨ (p0 : Int32).toInt = 110 ∨ (p0 : Int32).toInt = 100 ∨ (p0 : Int32).toInt = 121 ∨ (p0 : Int32).toInt = 122 ∨ (p0 : Int32).toInt = 102 ∨ (p0 : Int32).toInt = 105 ∨ (p0 : Int32).toInt = 99)) ∧ (((-1) : Int) < 0 → ¬ ((p0 : Int32).toInt = 119 ∨ (p0 : Int32).toInt = 110 ∨ (p0 : Int32).toInt = 100 ∨ (p0 : Int32).toInt = 121 ∨ (p0 : Int32).toInt = 122 ∨ (p0 : Int32).toInt = 102 ∨ (p0 : Int32).toInt = 105 ∨ (p0 : Int32).toInt = 99))); omega), (by show (-1) ≤ ((-1) : Int32).toInt ∧ ((-1) : Int32).toInt ≤ 7; first | with_reducible assumption | decide | (constructor <;> (omega)))⟩, by rw [ht]; exact hP9, va_K.moved hW.alike hK9, hD9⟩, hS.F ht⟩) hS.2.2 dX12_nameOf_131
  · have t_1 : p0.toInt = 116 := by rw [e_1]; rfl
    refine lv_tableIn (tgt := 130) (off := 129) hx hb dX12_nameOf_1 (by omega) (by omega) (by rw [t_1]; rfl) (by decide) ?_
    refine lv_iconst (v := (-1)) hx hb dX12_nameOf_130 (by decide) ?_
    obtain ⟨hP9, hD9⟩ := kk_leafout (wc := []) hP hD [] (by decide) rfl
    have hK9 := hK.sub (tys' := []) [] rfl
    exact W.iret (v := (-1)) hx hb hr (fun t ht hW => ⟨⟨(-1), (), rfl, ⟨(by show ((p0 : Int32).toInt = 0 → ((-1) : Int) = -1); omega), (by show ((0 ≤ ((-1) : Int) → ((p0 : Int32).toInt = 119 ∨ (p0 : Int32).toInt = 110 ∨ (p0 : Int32).toInt = 100 ∨ (p0 : Int32).toInt = 121 ∨ (p0 : Int32).toInt = 122 ∨ (p0 : Int32).toInt = 102 ∨ (p0 : Int32).toInt = 105 ∨ (p0 : Int32).toInt = 99)) ∧ (((-1) : Int) < 0 → ¬ ((p0 : Int32).toInt = 119 ∨ (p0 : Int32).toInt = 110 ∨ (p0 : Int32).toInt = 100 ∨ (p0 : Int32).toInt = 121 ∨ (p0 : Int32).toInt = 122 ∨ (p0 : Int32).toInt = 102 ∨ (p0 : Int32).toInt = 105 ∨ (p0 : Int32).toInt = 99))); omega), (by show (-1) ≤ ((-1) : Int32).toInt ∧ ((-1) : Int32).toInt ≤ 7; first | with_reducible assumption | decide | (constructor <;> (omega)))⟩, by rw [ht]; exact hP9, va_K.moved hW.alike hK9, hD9⟩, hS.F ht⟩) hS.2.2 dX12_nameOf_131
  · have t_1 : p0.toInt = 117 := by rw [e_1]; rfl
    refine lv_tableIn (tgt := 130) (off := 129) hx hb dX12_nameOf_1 (by omega) (by omega) (by rw [t_1]; rfl) (by decide) ?_
    refine lv_iconst (v := (-1)) hx hb dX12_nameOf_130 (by decide) ?_
    obtain ⟨hP9, hD9⟩ := kk_leafout (wc := []) hP hD [] (by decide) rfl
    have hK9 := hK.sub (tys' := []) [] rfl
    exact W.iret (v := (-1)) hx hb hr (fun t ht hW => ⟨⟨(-1), (), rfl, ⟨(by show ((p0 : Int32).toInt = 0 → ((-1) : Int) = -1); omega), (by show ((0 ≤ ((-1) : Int) → ((p0 : Int32).toInt = 119 ∨ (p0 : Int32).toInt = 110 ∨ (p0 : Int32).toInt = 100 ∨ (p0 : Int32).toInt = 121 ∨ (p0 : Int32).toInt = 122 ∨ (p0 : Int32).toInt = 102 ∨ (p0 : Int32).toInt = 105 ∨ (p0 : Int32).toInt = 99)) ∧ (((-1) : Int) < 0 → ¬ ((p0 : Int32).toInt = 119 ∨ (p0 : Int32).toInt = 110 ∨ (p0 : Int32).toInt = 100 ∨ (p0 : Int32).toInt = 121 ∨ (p0 : Int32).toInt = 122 ∨ (p0 : Int32).toInt = 102 ∨ (p0 : Int32).toInt = 105 ∨ (p0 : Int32).toInt = 99))); omega), (by show (-1) ≤ ((-1) : Int32).toInt ∧ ((-1) : Int32).toInt ≤ 7; first | with_reducible assumption | decide | (constructor <;> (omega)))⟩, by rw [ht]; exact hP9, va_K.moved hW.alike hK9, hD9⟩, hS.F ht⟩) hS.2.2 dX12_nameOf_131
  · have t_1 : p0.toInt = 118 := by rw [e_1]; rfl
    refine lv_tableIn (tgt := 130) (off := 129) hx hb dX12_nameOf_1 (by omega) (by omega) (by rw [t_1]; rfl) (by decide) ?_
    refine lv_iconst (v := (-1)) hx hb dX12_nameOf_130 (by decide) ?_
    obtain ⟨hP9, hD9⟩ := kk_leafout (wc := []) hP hD [] (by decide) rfl
    have hK9 := hK.sub (tys' := []) [] rfl
    exact W.iret (v := (-1)) hx hb hr (fun t ht hW => ⟨⟨(-1), (), rfl, ⟨(by show ((p0 : Int32).toInt = 0 → ((-1) : Int) = -1); omega), (by show ((0 ≤ ((-1) : Int) → ((p0 : Int32).toInt = 119 ∨ (p0 : Int32).toInt = 110 ∨ (p0 : Int32).toInt = 100 ∨ (p0 : Int32).toInt = 121 ∨ (p0 : Int32).toInt = 122 ∨ (p0 : Int32).toInt = 102 ∨ (p0 : Int32).toInt = 105 ∨ (p0 : Int32).toInt = 99)) ∧ (((-1) : Int) < 0 → ¬ ((p0 : Int32).toInt = 119 ∨ (p0 : Int32).toInt = 110 ∨ (p0 : Int32).toInt = 100 ∨ (p0 : Int32).toInt = 121 ∨ (p0 : Int32).toInt = 122 ∨ (p0 : Int32).toInt = 102 ∨ (p0 : Int32).toInt = 105 ∨ (p0 : Int32).toInt = 99))); omega), (by show (-1) ≤ ((-1) : Int32).toInt ∧ ((-1) : Int32).toInt ≤ 7; first | with_reducible assumption | decide | (constructor <;> (omega)))⟩, by rw [ht]; exact hP9, va_K.moved hW.alike hK9, hD9⟩, hS.F ht⟩) hS.2.2 dX12_nameOf_131
  · have t_1 : p0.toInt = 119 := by rw [e_1]; rfl
    refine lv_tableIn (tgt := 112) (off := 111) hx hb dX12_nameOf_1 (by omega) (by omega) (by rw [t_1]; rfl) (by decide) ?_
    refine lv_iconst (v := 0) hx hb dX12_nameOf_112 (by decide) ?_
    obtain ⟨hP9, hD9⟩ := kk_leafout (wc := []) hP hD [] (by decide) rfl
    have hK9 := hK.sub (tys' := []) [] rfl
    exact W.iret (v := 0) hx hb hr (fun t ht hW => ⟨⟨0, (), rfl, ⟨(by show ((p0 : Int32).toInt = 0 → (0 : Int) = -1); omega), (by show ((0 ≤ (0 : Int) → ((p0 : Int32).toInt = 119 ∨ (p0 : Int32).toInt = 110 ∨ (p0 : Int32).toInt = 100 ∨ (p0 : Int32).toInt = 121 ∨ (p0 : Int32).toInt = 122 ∨ (p0 : Int32).toInt = 102 ∨ (p0 : Int32).toInt = 105 ∨ (p0 : Int32).toInt = 99)) ∧ ((0 : Int) < 0 → ¬ ((p0 : Int32).toInt = 119 ∨ (p0 : Int32).toInt = 110 ∨ (p0 : Int32).toInt = 100 ∨ (p0 : Int32).toInt = 121 ∨ (p0 : Int32).toInt = 122 ∨ (p0 : Int32).toInt = 102 ∨ (p0 : Int32).toInt = 105 ∨ (p0 : Int32).toInt = 99))); omega), (by show (-1) ≤ (0 : Int32).toInt ∧ (0 : Int32).toInt ≤ 7; first | with_reducible assumption | decide | (constructor <;> (omega)))⟩, by rw [ht]; exact hP9, va_K.moved hW.alike hK9, hD9⟩, hS.F ht⟩) hS.2.2 dX12_nameOf_113
  · have t_1 : p0.toInt = 120 := by rw [e_1]; rfl
    refine lv_tableIn (tgt := 130) (off := 129) hx hb dX12_nameOf_1 (by omega) (by omega) (by rw [t_1]; rfl) (by decide) ?_
    refine lv_iconst (v := (-1)) hx hb dX12_nameOf_130 (by decide) ?_
    obtain ⟨hP9, hD9⟩ := kk_leafout (wc := []) hP hD [] (by decide) rfl
    have hK9 := hK.sub (tys' := []) [] rfl
    exact W.iret (v := (-1)) hx hb hr (fun t ht hW => ⟨⟨(-1), (), rfl, ⟨(by show ((p0 : Int32).toInt = 0 → ((-1) : Int) = -1); omega), (by show ((0 ≤ ((-1) : Int) → ((p0 : Int32).toInt = 119 ∨ (p0 : Int32).toInt = 110 ∨ (p0 : Int32).toInt = 100 ∨ (p0 : Int32).toInt = 121 ∨ (p0 : Int32).toInt = 122 ∨ (p0 : Int32).toInt = 102 ∨ (p0 : Int32).toInt = 105 ∨ (p0 : Int32).toInt = 99)) ∧ (((-1) : Int) < 0 → ¬ ((p0 : Int32).toInt = 119 ∨ (p0 : Int32).toInt = 110 ∨ (p0 : Int32).toInt = 100 ∨ (p0 : Int32).toInt = 121 ∨ (p0 : Int32).toInt = 122 ∨ (p0 : Int32).toInt = 102 ∨ (p0 : Int32).toInt = 105 ∨ (p0 : Int32).toInt = 99))); omega), (by show (-1) ≤ ((-1) : Int32).toInt ∧ ((-1) : Int32).toInt ≤ 7; first | with_reducible assumption | decide | (constructor <;> (omega)))⟩, by rw [ht]; exact hP9, va_K.moved hW.alike hK9, hD9⟩, hS.F ht⟩) hS.2.2 dX12_nameOf_131
  · have t_1 : p0.toInt = 121 := by rw [e_1]; rfl
    refine lv_tableIn (tgt := 118) (off := 117) hx hb dX12_nameOf_1 (by omega) (by omega) (by rw [t_1]; rfl) (by decide) ?_
    refine lv_iconst (v := 3) hx hb dX12_nameOf_118 (by decide) ?_
    obtain ⟨hP9, hD9⟩ := kk_leafout (wc := []) hP hD [] (by decide) rfl
    have hK9 := hK.sub (tys' := []) [] rfl
    exact W.iret (v := 3) hx hb hr (fun t ht hW => ⟨⟨3, (), rfl, ⟨(by show ((p0 : Int32).toInt = 0 → (3 : Int) = -1); omega), (by show ((0 ≤ (3 : Int) → ((p0 : Int32).toInt = 119 ∨ (p0 : Int32).toInt = 110 ∨ (p0 : Int32).toInt = 100 ∨ (p0 : Int32).toInt = 121 ∨ (p0 : Int32).toInt = 122 ∨ (p0 : Int32).toInt = 102 ∨ (p0 : Int32).toInt = 105 ∨ (p0 : Int32).toInt = 99)) ∧ ((3 : Int) < 0 → ¬ ((p0 : Int32).toInt = 119 ∨ (p0 : Int32).toInt = 110 ∨ (p0 : Int32).toInt = 100 ∨ (p0 : Int32).toInt = 121 ∨ (p0 : Int32).toInt = 122 ∨ (p0 : Int32).toInt = 102 ∨ (p0 : Int32).toInt = 105 ∨ (p0 : Int32).toInt = 99))); omega), (by show (-1) ≤ (3 : Int32).toInt ∧ (3 : Int32).toInt ≤ 7; first | with_reducible assumption | decide | (constructor <;> (omega)))⟩, by rw [ht]; exact hP9, va_K.moved hW.alike hK9, hD9⟩, hS.F ht⟩) hS.2.2 dX12_nameOf_119
  · have t_1 : p0.toInt = 122 := by rw [e_1]; rfl
    refine lv_tableIn (tgt := 120) (off := 119) hx hb dX12_nameOf_1 (by omega) (by omega) (by rw [t_1]; rfl) (by decide) ?_
    refine lv_iconst (v := 4) hx hb dX12_nameOf_120 (by decide) ?_
    obtain ⟨hP9, hD9⟩ := kk_leafout (wc := []) hP hD [] (by decide) rfl
    have hK9 := hK.sub (tys' := []) [] rfl
    exact W.iret (v := 4) hx hb hr (fun t ht hW => ⟨⟨4, (), rfl, ⟨(by show ((p0 : Int32).toInt = 0 → (4 : Int) = -1); omega), (by show ((0 ≤ (4 : Int) → ((p0 : Int32).toInt = 119 ∨ (p0 : Int32).toInt = 110 ∨ (p0 : Int32).toInt = 100 ∨ (p0 : Int32).toInt = 121 ∨ (p0 : Int32).toInt = 122 ∨ (p0 : Int32).toInt = 102 ∨ (p0 : Int32).toInt = 105 ∨ (p0 : Int32).toInt = 99)) ∧ ((4 : Int) < 0 → ¬ ((p0 : Int32).toInt = 119 ∨ (p0 : Int32).toInt = 110 ∨ (p0 : Int32).toInt = 100 ∨ (p0 : Int32).toInt = 121 ∨ (p0 : Int32).toInt = 122 ∨ (p0 : Int32).toInt = 102 ∨ (p0 : Int32).toInt = 105 ∨ (p0 : Int32).toInt = 99))); omega), (by show (-1) ≤ (4 : Int32).toInt ∧ (4 : Int32).toInt ≤ 7; first | with_reducible assumption | decide | (constructor <;> (omega)))⟩, by rw [ht]; exact hP9, va_K.moved hW.alike hK9, hD9⟩, hS.F ht⟩) hS.2.2 dX12_nameOf_121
  · refine lv_tableOut (tgt := 130) hx hb dX12_nameOf_1 t_1 (by decide) ?_
    refine lv_iconst (v := (-1)) hx hb dX12_nameOf_130 (by decide) ?_
    obtain ⟨hP9, hD9⟩ := kk_leafout (wc := []) hP hD [] (by decide) rfl
    have hK9 := hK.sub (tys' := []) [] rfl
    exact W.iret (v := (-1)) hx hb hr (fun t ht hW => ⟨⟨(-1), (), rfl, ⟨(by show ((p0 : Int32).toInt = 0 → ((-1) : Int) = -1); omega), (by show ((0 ≤ ((-1) : Int) → ((p0 : Int32).toInt = 119 ∨ (p0 : Int32).toInt = 110 ∨ (p0 : Int32).toInt = 100 ∨ (p0 : Int32).toInt = 121 ∨ (p0 : Int32).toInt = 122 ∨ (p0 : Int32).toInt = 102 ∨ (p0 : Int32).toInt = 105 ∨ (p0 : Int32).toInt = 99)) ∧ (((-1) : Int) < 0 → ¬ ((p0 : Int32).toInt = 119 ∨ (p0 : Int32).toInt = 110 ∨ (p0 : Int32).toInt = 100 ∨ (p0 : Int32).toInt = 121 ∨ (p0 : Int32).toInt = 122 ∨ (p0 : Int32).toInt = 102 ∨ (p0 : Int32).toInt = 105 ∨ (p0 : Int32).toInt = 99))); omega), (by show (-1) ≤ ((-1) : Int32).toInt ∧ ((-1) : Int32).toInt ≤ 7; first | with_reducible assumption | decide | (constructor <;> (omega)))⟩, by rw [ht]; exact hP9, va_K.moved hW.alike hK9, hD9⟩, hS.F ht⟩) hS.2.2 dX12_nameOf_131
