set_option maxHeartbeats 4000000 in
set_option maxRecDepth 100000 in
theorem k_X4_init_0 (l : Launch) (dC : Nat → ClassId) (dI : Nat → Nat → Nat) (h0 : Nat) (sz : Nat) (aNAMES : Nat) : Met l yX4_init wsX4_init ({ frames := 1, cells := 3, slots := 200, locals := 12 }) (va_Pc [.ref h0] (fun U => U.heap.size = sz ∧ va_P (dC, dI) vwCl [(h0, .inr (4, [.null, .int 0, .null, .null, .int 0]))] U.heap ∧ va_K (dC, dI) vwCl [] U ∧ va_D (fun _ => True) [(h0, .inr (4, [.null, .int 0, .null, .null, .int 0]))] ∧ va_Z "KinkStreet$Law" "NAMES" "[C" (.ref aNAMES) (va_A [(h0, .inr (4, [.null, .int 0, .null, .null, .int 0]))] sz) U U.heap ∧ va_T .char aNAMES 8 tb_NAMES (va_A [(h0, .inr (4, [.null, .int 0, .null, .null, .int 0]))] sz) U U.heap)) (va_Qv (fun (_ : Unit) => True) (fun (_ : Unit) t => ∃ (n0 : Nat) (n1 : Nat) (n2 : Nat) (cint : ClassId) , va_P (dC, dI) vwCl [(h0, .inr (4, [.ref n0, .int 0, .ref n1, .ref n2, .int 0])), (n0, .inl (cint, 128, .inl (fun _ => 0))), (n1, .inl (cint, 8, .inl (fun _ => 0))), (n2, .inl (cint, 64, .inl (fun _ => 0)))] t.heap ∧ va_K (dC, dI) vwCl [(cint, .int)] t ∧ va_D (va_A [(h0, .inr (4, [.null, .int 0, .null, .null, .int 0]))] sz) [(h0, .inr (4, [.ref n0, .int 0, .ref n1, .ref n2, .int 0])), (n0, .inl (cint, 128, .inl (fun _ => 0))), (n1, .inl (cint, 8, .inl (fun _ => 0))), (n2, .inl (cint, 64, .inl (fun _ => 0)))]) (va_A [(h0, .inr (4, [.null, .int 0, .null, .null, .int 0]))] sz)) 3 200 (va_A [(h0, .inr (4, [.null, .int 0, .null, .null, .int 0]))] sz) := by
  refine Met.ofW (cc := cX4_init) (maxL := 1) (ret := none) (by decide) rfl ?_
  intro p e s m args below meth c s₁ B hml hv
  obtain ⟨rfl, hsz, hP, hK, hD0, hZNAMES, hTNAMES⟩ := hv
  have hx := B.exec
  have hb := B.bytes
  have hr := B.returns
  have hts := atoms_spec (ws := wsX4_init) B.pre
  have hown : s.vm.findClass RX4 = some m.cls := findClass_of_methodNamed B.named
  have hlocks := B.notSynchronized
  have hin : meth.name = "<init>" := (name_of_methodNamed B.named B.method).1
  subst hsz
  have hD := hD0.self (sz := s.heap.size)
  generalize hAe : va_A [(h0, .inr (4, [.null, .int 0, .null, .null, .int 0]))] s.heap.size = A at hD hZNAMES hTNAMES ⊢
  have hA : ∀ q : Nat, s.heap.size ≤ q → A q := fun q h => by rw [← hAe]; exact Or.inr h
  have hS : va_S A s.heap s.heap [] := va_S.rf
  have hP : va_P (dC, dI) vwCl [(h0, .inr (4, [.null, .int 0, .null, .null, .int 0]))] s.heap := hP
  have hl := lv_entry ([.ref h0]) (n := 1) (Nat.le_of_ble_eq_true rfl)
  rw [lg_entry_eq]
  generalize (lg_sl ([.ref h0]) ++ List.replicate (1 - (lg_sl ([.ref h0])).length) Slot.unset).toArray = ls at hl ⊢
  have hl : lv_has ls 1 [(0, .ref h0)] := hl
  refine lv_aload_n hx hb dX4_init_0 rfl (lv_at hl 0 rfl) ?_
  refine W.objInit hx hb hown (hts (.methodLink RX4 3 objectInit) (List.mem_of_getElem? (i := 1) rfl)) (hts (.instanceMethod objectInit) (List.mem_of_getElem? (i := 2) rfl)) (hts (.code objectInit ⟨#[0xb1]⟩ 1 none) (List.mem_of_getElem? (i := 3) rfl)) rfl (by rw [hml]; exact hl.1) rfl dX4_init_1 (Nat.le_of_ble_eq_true rfl) (Nat.le_of_ble_eq_true rfl) ?_
  refine W.eq (g2 := F0 m 4 ls []) rfl ?_
  refine lv_aload_n hx hb dX4_init_4 rfl (lv_at hl 0 rfl) ?_
  refine lv_sipush (v := 128) hx hb dX4_init_5 (by decide) ?_
  refine va_newa (atype := .int) (ty := .int) (a0 := (128, .inl (fun _ => 0))) hx hb (hts (.arrayClass .int) (List.mem_of_getElem? (i := 4) rfl)) rfl hK hP hD hS hA (fun _ => rfl) (by decide) rfl (Nat.le_of_ble_eq_true rfl) (Nat.le_of_ble_eq_true rfl) (Nat.le_of_ble_eq_true rfl) dX4_init_8 (fun q1 cint H hK hP hD hS => ?_)
  have hK : va_K (dC, dI) vwCl [(cint, .int)] s := hK
  have hP : va_P (dC, dI) vwCl [(h0, .inr (4, [.null, .int 0, .null, .null, .int 0])), (q1, .inl (cint, 128, .inl (fun _ => 0)))] H := hP
  have hD : va_D A [(h0, .inr (4, [.null, .int 0, .null, .null, .int 0])), (q1, .inl (cint, 128, .inl (fun _ => 0)))] := hD
  refine va_putF (D := (dC, dI)) (ci := 4) (v := .ref q1) (ty := (.array .int)) (C := RX4) (T := TX4) (N := 5) hx hb hts (fun _ h => List.mem_cons_of_mem _ (List.mem_append_right _ h)) tyX4 tyX4_ok nmX4 hown hK hP hD hS 0 rfl rfl 0 (by decide) (hts (.fieldLink RX4 11 "KinkStreet$Law" "signs" "[I") (List.mem_of_getElem? (i := 5) rfl)) (fun _ h9 => h9) rfl hin rfl (by decide +kernel) rfl rfl (Nat.le_of_ble_eq_true rfl) dX4_init_10 (fun H locs hP hD hS => ?_)
  have hP : va_P (dC, dI) vwCl [(h0, .inr (4, [.ref q1, .int 0, .null, .null, .int 0])), (q1, .inl (cint, 128, .inl (fun _ => 0)))] H := hP
  have hD : va_D A [(h0, .inr (4, [.ref q1, .int 0, .null, .null, .int 0])), (q1, .inl (cint, 128, .inl (fun _ => 0)))] := hD
  refine lv_aload_n hx hb dX4_init_13 rfl (lv_at hl 0 rfl) ?_
  refine va_gets hx hb hZNAMES hS hown (hts (.fieldLink RX4 15 "KinkStreet$Law" "NAMES" "[C") (List.mem_of_getElem? (i := 6) rfl)) (fun _ h9 => h9) dX4_init_14 ?_
  refine va_tlen (v := 8) hx hb hTNAMES hS rfl dX4_init_17 ?_
  refine va_newa (atype := .int) (ty := .int) (a0 := (8, .inl (fun _ => 0))) hx hb (hts (.arrayClass .int) (List.mem_of_getElem? (i := 4) rfl)) rfl hK hP hD hS hA (fun _ => rfl) (by decide) rfl (Nat.le_of_ble_eq_true rfl) (Nat.le_of_ble_eq_true rfl) (Nat.le_of_ble_eq_true rfl) dX4_init_18 (fun q2 cint_n H hK hP hD hS => ?_)
  obtain rfl : cint = cint_n := kk_uni hK 0 1 rfl rfl
  have hK : va_K (dC, dI) vwCl [(cint, .int)] s := hK.sub [0] rfl
  have hP : va_P (dC, dI) vwCl [(h0, .inr (4, [.ref q1, .int 0, .null, .null, .int 0])), (q1, .inl (cint, 128, .inl (fun _ => 0))), (q2, .inl (cint, 8, .inl (fun _ => 0)))] H := hP
  have hD : va_D A [(h0, .inr (4, [.ref q1, .int 0, .null, .null, .int 0])), (q1, .inl (cint, 128, .inl (fun _ => 0))), (q2, .inl (cint, 8, .inl (fun _ => 0)))] := hD
  refine va_putF (D := (dC, dI)) (ci := 4) (v := .ref q2) (ty := (.array .int)) (C := RX4) (T := TX4) (N := 5) hx hb hts (fun _ h => List.mem_cons_of_mem _ (List.mem_append_right _ h)) tyX4 tyX4_ok nmX4 hown hK hP hD hS 0 rfl rfl 2 (by decide) (hts (.fieldLink RX4 19 "KinkStreet$Law" "known" "[I") (List.mem_of_getElem? (i := 7) rfl)) (fun _ h9 => h9) rfl hin rfl (by decide +kernel) rfl rfl (Nat.le_of_ble_eq_true rfl) dX4_init_20 (fun H locs hP hD hS => ?_)
  have hP : va_P (dC, dI) vwCl [(h0, .inr (4, [.ref q1, .int 0, .ref q2, .null, .int 0])), (q1, .inl (cint, 128, .inl (fun _ => 0))), (q2, .inl (cint, 8, .inl (fun _ => 0)))] H := hP
  have hD : va_D A [(h0, .inr (4, [.ref q1, .int 0, .ref q2, .null, .int 0])), (q1, .inl (cint, 128, .inl (fun _ => 0))), (q2, .inl (cint, 8, .inl (fun _ => 0)))] := hD
  refine lv_aload_n hx hb dX4_init_23 rfl (lv_at hl 0 rfl) ?_
  refine lv_bipush (v := 64) hx hb dX4_init_24 (by decide) ?_
  refine va_newa (atype := .int) (ty := .int) (a0 := (64, .inl (fun _ => 0))) hx hb (hts (.arrayClass .int) (List.mem_of_getElem? (i := 4) rfl)) rfl hK hP hD hS hA (fun _ => rfl) (by decide) rfl (Nat.le_of_ble_eq_true rfl) (Nat.le_of_ble_eq_true rfl) (Nat.le_of_ble_eq_true rfl) dX4_init_26 (fun q3 cint_n H hK hP hD hS => ?_)
  obtain rfl : cint = cint_n := kk_uni hK 0 1 rfl rfl
  have hK : va_K (dC, dI) vwCl [(cint, .int)] s := hK.sub [0] rfl
  have hP : va_P (dC, dI) vwCl [(h0, .inr (4, [.ref q1, .int 0, .ref q2, .null, .int 0])), (q1, .inl (cint, 128, .inl (fun _ => 0))), (q2, .inl (cint, 8, .inl (fun _ => 0))), (q3, .inl (cint, 64, .inl (fun _ => 0)))] H := hP
  have hD : va_D A [(h0, .inr (4, [.ref q1, .int 0, .ref q2, .null, .int 0])), (q1, .inl (cint, 128, .inl (fun _ => 0))), (q2, .inl (cint, 8, .inl (fun _ => 0))), (q3, .inl (cint, 64, .inl (fun _ => 0)))] := hD
  refine va_putF (D := (dC, dI)) (ci := 4) (v := .ref q3) (ty := (.array .int)) (C := RX4) (T := TX4) (N := 5) hx hb hts (fun _ h => List.mem_cons_of_mem _ (List.mem_append_right _ h)) tyX4 tyX4_ok nmX4 hown hK hP hD hS 0 rfl rfl 3 (by decide) (hts (.fieldLink RX4 22 "KinkStreet$Law" "operands" "[I") (List.mem_of_getElem? (i := 8) rfl)) (fun _ h9 => h9) rfl hin rfl (by decide +kernel) rfl rfl (Nat.le_of_ble_eq_true rfl) dX4_init_28 (fun H locs hP hD hS => ?_)
  have hP : va_P (dC, dI) vwCl [(h0, .inr (4, [.ref q1, .int 0, .ref q2, .ref q3, .int 0])), (q1, .inl (cint, 128, .inl (fun _ => 0))), (q2, .inl (cint, 8, .inl (fun _ => 0))), (q3, .inl (cint, 64, .inl (fun _ => 0)))] H := hP
  have hD : va_D A [(h0, .inr (4, [.ref q1, .int 0, .ref q2, .ref q3, .int 0])), (q1, .inl (cint, 128, .inl (fun _ => 0))), (q2, .inl (cint, 8, .inl (fun _ => 0))), (q3, .inl (cint, 64, .inl (fun _ => 0)))] := hD
  have hP9 : va_P (dC, dI) vwCl [(h0, .inr (4, [.ref q1, .int 0, .ref q2, .ref q3, .int 0])), (q1, .inl (cint, 128, .inl (fun _ => 0))), (q2, .inl (cint, 8, .inl (fun _ => 0))), (q3, .inl (cint, 64, .inl (fun _ => 0)))] H := hP.sub (ws' := [(h0, .inr (4, [.ref q1, .int 0, .ref q2, .ref q3, .int 0])), (q1, .inl (cint, 128, .inl (fun _ => 0))), (q2, .inl (cint, 8, .inl (fun _ => 0))), (q3, .inl (cint, 64, .inl (fun _ => 0)))]) [0, 1, 2, 3] rfl
  have hD9 : va_D A [(h0, .inr (4, [.ref q1, .int 0, .ref q2, .ref q3, .int 0])), (q1, .inl (cint, 128, .inl (fun _ => 0))), (q2, .inl (cint, 8, .inl (fun _ => 0))), (q3, .inl (cint, 64, .inl (fun _ => 0)))] := hD.sub (ws' := [(h0, .inr (4, [.ref q1, .int 0, .ref q2, .ref q3, .int 0])), (q1, .inl (cint, 128, .inl (fun _ => 0))), (q2, .inl (cint, 8, .inl (fun _ => 0))), (q3, .inl (cint, 64, .inl (fun _ => 0)))]) [0, 1, 2, 3] (by decide) rfl
  have hK9 := hK.sub (tys' := [(cint, .int)]) [0] rfl
  refine W.widen (k := 3) (n := 200) (Nat.le_of_ble_eq_true rfl) (Nat.le_of_ble_eq_true rfl) ?_
  exact W.vret hx hb hr (fun t ht hW => ⟨⟨(), rfl, trivial, q1, q2, q3, cint, by rw [ht]; exact hP9, va_K.moved hW.alike hK9, hD9⟩, hS.F ht⟩) hS.2.2 dX4_init_31
