set_option maxHeartbeats 4000000 in
set_option maxRecDepth 100000 in
theorem g_X12_above_1 (l : Launch) (dC : Nat → ClassId) (dI : Nat → Nat → Nat) (sz : Nat) (p0 : Int32) : Met l yX12_above wsX12_above ({ frames := 0, cells := 0, slots := 0, locals := 0 }) (va_Pc [.int p0] (fun U => U.heap.size = sz ∧ va_P (dC, dI) vwCl [] U.heap ∧ va_K (dC, dI) vwCl [] U ∧ va_D (fun _ => True) [])) (va_Qi (fun (r : Int32) (_ : Unit) => (1 ≤ p0.toInt → r.toInt < p0.toInt) ∧ (0 ≤ r.toInt ∧ r.toInt ≤ 3)) (fun (_ : Unit) t => va_P (dC, dI) vwCl [] t.heap ∧ va_K (dC, dI) vwCl [] t ∧ va_D (va_A [] sz) []) (va_A [] sz)) 0 0 (va_A [] sz) := by
  refine Met.ofW (cc := cX12_above) (maxL := 1) (ret := (some .int)) (by decide) rfl ?_
  intro p e s m args below meth c s₁ B hml hv
  obtain ⟨rfl, hsz, hP, hK, hD0⟩ := hv
  have hx := B.exec
  have hb := B.bytes
  have hr := B.returns
  have hts := atoms_spec (ws := wsX12_above) B.pre
  have hown : s.vm.findClass RX12 = some m.cls := findClass_of_methodNamed B.named
  have hlocks := B.notSynchronized
  subst hsz
  have hD := hD0.self (sz := s.heap.size)
  generalize hAe : va_A [] s.heap.size = A at hD ⊢
  have hA : ∀ q : Nat, s.heap.size ≤ q → A q := fun q h => by rw [← hAe]; exact Or.inr h
  have hS : va_S A s.heap s.heap [] := va_S.rf
  have hP : va_P (dC, dI) vwCl [] s.heap := hP
  have hl := lv_entry ([.int p0]) (n := 1) (Nat.le_of_ble_eq_true rfl)
  rw [lg_entry_eq]
  generalize (lg_sl ([.int p0]) ++ List.replicate (1 - (lg_sl ([.int p0])).length) Slot.unset).toArray = ls at hl ⊢
  have hl : lv_has ls 1 [(0, .int p0)] := hl
  refine lv_iload_n hx hb dX12_above_0 rfl (lv_at hl 0 rfl) ?_
  refine lv_iconst (v := 4) hx hb dX12_above_1 (by decide) ?_
  refine lv_icmp_ne (tgt := 9) hx hb dX12_above_2 (by decide) (fun c_1 => ?_) (fun c_1 => ?_)
  · have t_1 : p0.toInt ≠ 4 := kk_ne c_1
    refine lv_iload_n hx hb dX12_above_9 rfl (lv_at hl 0 rfl) ?_
    refine lv_iconst (v := 5) hx hb dX12_above_10 (by decide) ?_
    refine lv_icmp_eq (tgt := 20) hx hb dX12_above_11 (by decide) (fun c_2 => ?_) (fun c_2 => ?_)
    · have t_2 : p0.toInt = 5 := kk_eq c_2
      refine lv_iconst (v := 1) hx hb dX12_above_20 (by decide) ?_
      refine lv_goto (tgt := 25) hx hb dX12_above_21 (by decide) ?_
      obtain ⟨hP9, hD9⟩ := kk_leafout (wc := []) hP hD [] (by decide) rfl
      have hK9 := hK.sub (tys' := []) [] rfl
      exact W.iret (v := 1) hx hb hr (fun t ht hW => ⟨⟨1, (), rfl, ⟨(by show (1 ≤ (p0 : Int32).toInt → (1 : Int) < (p0 : Int32).toInt); omega), (by show 0 ≤ (1 : Int32).toInt ∧ (1 : Int32).toInt ≤ 3; first | with_reducible assumption | decide | (constructor <;> (omega)))⟩, by rw [ht]; exact hP9, va_K.moved hW.alike hK9, hD9⟩, hS.F ht⟩) hS.2.2 dX12_above_25
    · have t_2 : p0.toInt ≠ 5 := kk_ne c_2
      refine lv_iload_n hx hb dX12_above_14 rfl (lv_at hl 0 rfl) ?_
      refine lv_bipush (v := 7) hx hb dX12_above_15 (by decide) ?_
      refine lv_icmp_ne (tgt := 24) hx hb dX12_above_17 (by decide) (fun c_3 => ?_) (fun c_3 => ?_)
      · have t_3 : p0.toInt ≠ 7 := kk_ne c_3
        refine lv_iconst (v := 0) hx hb dX12_above_24 (by decide) ?_
        obtain ⟨hP9, hD9⟩ := kk_leafout (wc := []) hP hD [] (by decide) rfl
        have hK9 := hK.sub (tys' := []) [] rfl
        exact W.iret (v := 0) hx hb hr (fun t ht hW => ⟨⟨0, (), rfl, ⟨(by show (1 ≤ (p0 : Int32).toInt → (0 : Int) < (p0 : Int32).toInt); omega), (by show 0 ≤ (0 : Int32).toInt ∧ (0 : Int32).toInt ≤ 3; first | with_reducible assumption | decide | (constructor <;> (omega)))⟩, by rw [ht]; exact hP9, va_K.moved hW.alike hK9, hD9⟩, hS.F ht⟩) hS.2.2 dX12_above_25
      · have t_3 : p0.toInt = 7 := kk_eq c_3
        refine lv_iconst (v := 1) hx hb dX12_above_20 (by decide) ?_
        refine lv_goto (tgt := 25) hx hb dX12_above_21 (by decide) ?_
        obtain ⟨hP9, hD9⟩ := kk_leafout (wc := []) hP hD [] (by decide) rfl
        have hK9 := hK.sub (tys' := []) [] rfl
        exact W.iret (v := 1) hx hb hr (fun t ht hW => ⟨⟨1, (), rfl, ⟨(by show (1 ≤ (p0 : Int32).toInt → (1 : Int) < (p0 : Int32).toInt); omega), (by show 0 ≤ (1 : Int32).toInt ∧ (1 : Int32).toInt ≤ 3; first | with_reducible assumption | decide | (constructor <;> (omega)))⟩, by rw [ht]; exact hP9, va_K.moved hW.alike hK9, hD9⟩, hS.F ht⟩) hS.2.2 dX12_above_25
  · have t_1 : p0.toInt = 4 := kk_eq c_1
    refine lv_iconst (v := 3) hx hb dX12_above_5 (by decide) ?_
    refine lv_goto (tgt := 25) hx hb dX12_above_6 (by decide) ?_
    obtain ⟨hP9, hD9⟩ := kk_leafout (wc := []) hP hD [] (by decide) rfl
    have hK9 := hK.sub (tys' := []) [] rfl
    exact W.iret (v := 3) hx hb hr (fun t ht hW => ⟨⟨3, (), rfl, ⟨(by show (1 ≤ (p0 : Int32).toInt → (3 : Int) < (p0 : Int32).toInt); omega), (by show 0 ≤ (3 : Int32).toInt ∧ (3 : Int32).toInt ≤ 3; first | with_reducible assumption | decide | (constructor <;> (omega)))⟩, by rw [ht]; exact hP9, va_K.moved hW.alike hK9, hD9⟩, hS.F ht⟩) hS.2.2 dX12_above_25
