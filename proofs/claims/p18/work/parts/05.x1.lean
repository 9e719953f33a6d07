set_option maxHeartbeats 4000000 in
set_option maxRecDepth 100000 in
theorem k_X2_init_0 (l : Launch) (dC : Nat → ClassId) (dI : Nat → Nat → Nat) (h0 : Nat) (sz : Nat)  : Met l yX2_init wsX2_init ({ frames := 1, cells := 39, slots := 1143, locals := 12 }) (va_Pc [.ref h0] (fun U => U.heap.size = sz ∧ va_P (dC, dI) vwCl [(h0, .inr (2, [.null, .null, .null, .int 0, .null, .int 0, .int 0, .null, .null, .null, .null, .null, .int 0]))] U.heap ∧ va_K (dC, dI) vwCl [] U ∧ va_D (fun _ => True) [(h0, .inr (2, [.null, .null, .null, .int 0, .null, .int 0, .int 0, .null, .null, .null, .null, .null, .int 0]))] ∧ va_AOA .long U)) (va_Qv (fun (_ : Unit) => True) (fun (_ : Unit) t => ∃ (n0 : Nat) (n1 : Nat) (n2 : Nat) (n3 : Nat) (n4 : Nat) (n5 : Nat) (n6 : Nat) (n7 : Nat) (n8 : Nat) (n9 : Nat → Nat) (n10 : Nat → Nat) (cint cAlong clong : ClassId) , va_P (dC, dI) vwCl (([(h0, .inr (2, [.ref n0, .ref n1, .ref n2, .int 0, .ref n3, .int 0, .int 0, .ref n4, .ref n5, .ref n6, .ref n7, .ref n8, .int 0])), (n0, .inl (cint, 10, .inl (fun _ => 0))), (n1, .inl (cint, 10, .inl (fun _ => 0))), (n2, .inl (cint, 10, .inl (fun _ => 0))), (n3, .inl (cint, 8, .inl (fun _ => 0))), (n4, .inl (cint, 40, .inl (fun _ => 0))), (n5, .inl (cAlong, 25, .inr (.inr (.inr (.inr (fun j => some (n9 j))))))), (n6, .inl (cAlong, 5, .inr (.inr (.inr (.inr (fun j => some (n10 j))))))), (n7, .inl (cint, 5, .inl (fun _ => 0))), (n8, .inl (cint, 5, .inl (fun _ => 0)))] : va_W) ++ (kk_rowsL n9 clong 40 (fun _ _ => 0) 25 ++ (kk_rowsL n10 clong 5 (fun _ _ => 0) 5))) t.heap ∧ va_K (dC, dI) vwCl [(cint, .int), (cAlong, .array .long), (clong, .long)] t ∧ va_D (va_A [(h0, .inr (2, [.null, .null, .null, .int 0, .null, .int 0, .int 0, .null, .null, .null, .null, .null, .int 0]))] sz) (([(h0, .inr (2, [.ref n0, .ref n1, .ref n2, .int 0, .ref n3, .int 0, .int 0, .ref n4, .ref n5, .ref n6, .ref n7, .ref n8, .int 0])), (n0, .inl (cint, 10, .inl (fun _ => 0))), (n1, .inl (cint, 10, .inl (fun _ => 0))), (n2, .inl (cint, 10, .inl (fun _ => 0))), (n3, .inl (cint, 8, .inl (fun _ => 0))), (n4, .inl (cint, 40, .inl (fun _ => 0))), (n5, .inl (cAlong, 25, .inr (.inr (.inr (.inr (fun j => some (n9 j))))))), (n6, .inl (cAlong, 5, .inr (.inr (.inr (.inr (fun j => some (n10 j))))))), (n7, .inl (cint, 5, .inl (fun _ => 0))), (n8, .inl (cint, 5, .inl (fun _ => 0)))] : va_W) ++ (kk_rowsL n9 clong 40 (fun _ _ => 0) 25 ++ (kk_rowsL n10 clong 5 (fun _ _ => 0) 5)))) (va_A [(h0, .inr (2, [.null, .null, .null, .int 0, .null, .int 0, .int 0, .null, .null, .null, .null, .null, .int 0]))] sz)) 39 1143 (va_A [(h0, .inr (2, [.null, .null, .null, .int 0, .null, .int 0, .int 0, .null, .null, .null, .null, .null, .int 0]))] sz) := by
  refine Met.ofW (cc := cX2_init) (maxL := 1) (ret := none) (by decide) rfl ?_
  intro p e s m args below meth c s₁ B hml hv
  obtain ⟨rfl, hsz, hP, hK, hD0, hAOAlong⟩ := hv
  have hx := B.exec
  have hb := B.bytes
  have hr := B.returns
  have hts := atoms_spec (ws := wsX2_init) B.pre
  have hown : s.vm.findClass RX2 = some m.cls := findClass_of_methodNamed B.named
  have hlocks := B.notSynchronized
  have hin : meth.name = "<init>" := (name_of_methodNamed B.named B.method).1
  subst hsz
  have hD := hD0.self (sz := s.heap.size)
  generalize hAe : va_A [(h0, .inr (2, [.null, .null, .null, .int 0, .null, .int 0, .int 0, .null, .null, .null, .null, .null, .int 0]))] s.heap.size = A at hD ⊢
  have hA : ∀ q : Nat, s.heap.size ≤ q → A q := fun q h => by rw [← hAe]; exact Or.inr h
  have hS : va_S A s.heap s.heap [] := va_S.rf
  have hP : va_P (dC, dI) vwCl [(h0, .inr (2, [.null, .null, .null, .int 0, .null, .int 0, .int 0, .null, .null, .null, .null, .null, .int 0]))] s.heap := hP
  have hl := lv_entry ([.ref h0]) (n := 1) (Nat.le_of_ble_eq_true rfl)
  rw [lg_entry_eq]
  generalize (lg_sl ([.ref h0]) ++ List.replicate (1 - (lg_sl ([.ref h0])).length) Slot.unset).toArray = ls at hl ⊢
  have hl : lv_has ls 1 [(0, .ref h0)] := hl
  refine lv_aload_n hx hb dX2_init_0 rfl (lv_at hl 0 rfl) ?_
  refine W.objInit hx hb hown (hts (.methodLink RX2 3 objectInit) (List.mem_of_getElem? (i := 1) rfl)) (hts (.instanceMethod objectInit) (List.mem_of_getElem? (i := 2) rfl)) (hts (.code objectInit ⟨#[0xb1]⟩ 1 none) (List.mem_of_getElem? (i := 3) rfl)) rfl (by rw [hml]; exact hl.1) rfl dX2_init_1 (Nat.le_of_ble_eq_true rfl) (Nat.le_of_ble_eq_true rfl) ?_
  refine W.eq (g2 := F0 m 4 ls []) rfl ?_
  refine lv_aload_n hx hb dX2_init_4 rfl (lv_at hl 0 rfl) ?_
  refine lv_bipush (v := 10) hx hb dX2_init_5 (by decide) ?_
  refine va_newa (atype := .int) (ty := .int) (a0 := (10, .inl (fun _ => 0))) hx hb (hts (.arrayClass .int) (List.mem_of_getElem? (i := 4) rfl)) rfl hK hP hD hS hA (fun _ => rfl) (by decide) rfl (Nat.le_of_ble_eq_true rfl) (Nat.le_of_ble_eq_true rfl) (Nat.le_of_ble_eq_true rfl) dX2_init_7 (fun q1 cint H hK hP hD hS => ?_)
  have hK : va_K (dC, dI) vwCl [(cint, .int)] s := hK
  have hP : va_P (dC, dI) vwCl [(h0, .inr (2, [.null, .null, .null, .int 0, .null, .int 0, .int 0, .null, .null, .null, .null, .null, .int 0])), (q1, .inl (cint, 10, .inl (fun _ => 0)))] H := hP
  have hD : va_D A [(h0, .inr (2, [.null, .null, .null, .int 0, .null, .int 0, .int 0, .null, .null, .null, .null, .null, .int 0])), (q1, .inl (cint, 10, .inl (fun _ => 0)))] := hD
  refine va_putF (D := (dC, dI)) (ci := 2) (v := .ref q1) (ty := (.array .int)) (C := RX2) (T := TX2) (N := 13) hx hb hts (fun _ h => List.mem_cons_of_mem _ (List.mem_append_right _ h)) tyX2 tyX2_ok nmX2 hown hK hP hD hS 0 rfl rfl 0 (by decide) (hts (.fieldLink RX2 11 "KinkStreet$Deeds" "ones" "[I") (List.mem_of_getElem? (i := 5) rfl)) (fun _ h9 => h9) rfl hin rfl (by decide +kernel) rfl rfl (Nat.le_of_ble_eq_true rfl) dX2_init_9 (fun H locs hP hD hS => ?_)
  have hP : va_P (dC, dI) vwCl [(h0, .inr (2, [.ref q1, .null, .null, .int 0, .null, .int 0, .int 0, .null, .null, .null, .null, .null, .int 0])), (q1, .inl (cint, 10, .inl (fun _ => 0)))] H := hP
  have hD : va_D A [(h0, .inr (2, [.ref q1, .null, .null, .int 0, .null, .int 0, .int 0, .null, .null, .null, .null, .null, .int 0])), (q1, .inl (cint, 10, .inl (fun _ => 0)))] := hD
  refine lv_aload_n hx hb dX2_init_12 rfl (lv_at hl 0 rfl) ?_
  refine lv_bipush (v := 10) hx hb dX2_init_13 (by decide) ?_
  refine va_newa (atype := .int) (ty := .int) (a0 := (10, .inl (fun _ => 0))) hx hb (hts (.arrayClass .int) (List.mem_of_getElem? (i := 4) rfl)) rfl hK hP hD hS hA (fun _ => rfl) (by decide) rfl (Nat.le_of_ble_eq_true rfl) (Nat.le_of_ble_eq_true rfl) (Nat.le_of_ble_eq_true rfl) dX2_init_15 (fun q2 cint_n H hK hP hD hS => ?_)
  obtain rfl : cint = cint_n := kk_uni hK 0 1 rfl rfl
  have hK : va_K (dC, dI) vwCl [(cint, .int)] s := hK.sub [0] rfl
  have hP : va_P (dC, dI) vwCl [(h0, .inr (2, [.ref q1, .null, .null, .int 0, .null, .int 0, .int 0, .null, .null, .null, .null, .null, .int 0])), (q1, .inl (cint, 10, .inl (fun _ => 0))), (q2, .inl (cint, 10, .inl (fun _ => 0)))] H := hP
  have hD : va_D A [(h0, .inr (2, [.ref q1, .null, .null, .int 0, .null, .int 0, .int 0, .null, .null, .null, .null, .null, .int 0])), (q1, .inl (cint, 10, .inl (fun _ => 0))), (q2, .inl (cint, 10, .inl (fun _ => 0)))] := hD
  refine va_putF (D := (dC, dI)) (ci := 2) (v := .ref q2) (ty := (.array .int)) (C := RX2) (T := TX2) (N := 13) hx hb hts (fun _ h => List.mem_cons_of_mem _ (List.mem_append_right _ h)) tyX2 tyX2_ok nmX2 hown hK hP hD hS 0 rfl rfl 1 (by decide) (hts (.fieldLink RX2 15 "KinkStreet$Deeds" "others" "[I") (List.mem_of_getElem? (i := 6) rfl)) (fun _ h9 => h9) rfl hin rfl (by decide +kernel) rfl rfl (Nat.le_of_ble_eq_true rfl) dX2_init_17 (fun H locs hP hD hS => ?_)
  have hP : va_P (dC, dI) vwCl [(h0, .inr (2, [.ref q1, .ref q2, .null, .int 0, .null, .int 0, .int 0, .null, .null, .null, .null, .null, .int 0])), (q1, .inl (cint, 10, .inl (fun _ => 0))), (q2, .inl (cint, 10, .inl (fun _ => 0)))] H := hP
  have hD : va_D A [(h0, .inr (2, [.ref q1, .ref q2, .null, .int 0, .null, .int 0, .int 0, .null, .null, .null, .null, .null, .int 0])), (q1, .inl (cint, 10, .inl (fun _ => 0))), (q2, .inl (cint, 10, .inl (fun _ => 0)))] := hD
  refine lv_aload_n hx hb dX2_init_20 rfl (lv_at hl 0 rfl) ?_
  refine lv_bipush (v := 10) hx hb dX2_init_21 (by decide) ?_
  refine va_newa (atype := .int) (ty := .int) (a0 := (10, .inl (fun _ => 0))) hx hb (hts (.arrayClass .int) (List.mem_of_getElem? (i := 4) rfl)) rfl hK hP hD hS hA (fun _ => rfl) (by decide) rfl (Nat.le_of_ble_eq_true rfl) (Nat.le_of_ble_eq_true rfl) (Nat.le_of_ble_eq_true rfl) dX2_init_23 (fun q3 cint_n H hK hP hD hS => ?_)
  obtain rfl : cint = cint_n := kk_uni hK 0 1 rfl rfl
  have hK : va_K (dC, dI) vwCl [(cint, .int)] s := hK.sub [0] rfl
  have hP : va_P (dC, dI) vwCl [(h0, .inr (2, [.ref q1, .ref q2, .null, .int 0, .null, .int 0, .int 0, .null, .null, .null, .null, .null, .int 0])), (q1, .inl (cint, 10, .inl (fun _ => 0))), (q2, .inl (cint, 10, .inl (fun _ => 0))), (q3, .inl (cint, 10, .inl (fun _ => 0)))] H := hP
  have hD : va_D A [(h0, .inr (2, [.ref q1, .ref q2, .null, .int 0, .null, .int 0, .int 0, .null, .null, .null, .null, .null, .int 0])), (q1, .inl (cint, 10, .inl (fun _ => 0))), (q2, .inl (cint, 10, .inl (fun _ => 0))), (q3, .inl (cint, 10, .inl (fun _ => 0)))] := hD
  refine va_putF (D := (dC, dI)) (ci := 2) (v := .ref q3) (ty := (.array .int)) (C := RX2) (T := TX2) (N := 13) hx hb hts (fun _ h => List.mem_cons_of_mem _ (List.mem_append_right _ h)) tyX2 tyX2_ok nmX2 hown hK hP hD hS 0 rfl rfl 2 (by decide) (hts (.fieldLink RX2 18 "KinkStreet$Deeds" "tolds" "[I") (List.mem_of_getElem? (i := 7) rfl)) (fun _ h9 => h9) rfl hin rfl (by decide +kernel) rfl rfl (Nat.le_of_ble_eq_true rfl) dX2_init_25 (fun H locs hP hD hS => ?_)
  have hP : va_P (dC, dI) vwCl [(h0, .inr (2, [.ref q1, .ref q2, .ref q3, .int 0, .null, .int 0, .int 0, .null, .null, .null, .null, .null, .int 0])), (q1, .inl (cint, 10, .inl (fun _ => 0))), (q2, .inl (cint, 10, .inl (fun _ => 0))), (q3, .inl (cint, 10, .inl (fun _ => 0)))] H := hP
  have hD : va_D A [(h0, .inr (2, [.ref q1, .ref q2, .ref q3, .int 0, .null, .int 0, .int 0, .null, .null, .null, .null, .null, .int 0])), (q1, .inl (cint, 10, .inl (fun _ => 0))), (q2, .inl (cint, 10, .inl (fun _ => 0))), (q3, .inl (cint, 10, .inl (fun _ => 0)))] := hD
  refine lv_aload_n hx hb dX2_init_28 rfl (lv_at hl 0 rfl) ?_
  refine lv_bipush (v := 8) hx hb dX2_init_29 (by decide) ?_
  refine va_newa (atype := .int) (ty := .int) (a0 := (8, .inl (fun _ => 0))) hx hb (hts (.arrayClass .int) (List.mem_of_getElem? (i := 4) rfl)) rfl hK hP hD hS hA (fun _ => rfl) (by decide) rfl (Nat.le_of_ble_eq_true rfl) (Nat.le_of_ble_eq_true rfl) (Nat.le_of_ble_eq_true rfl) dX2_init_31 (fun q4 cint_n H hK hP hD hS => ?_)
  obtain rfl : cint = cint_n := kk_uni hK 0 1 rfl rfl
  have hK : va_K (dC, dI) vwCl [(cint, .int)] s := hK.sub [0] rfl
  have hP : va_P (dC, dI) vwCl [(h0, .inr (2, [.ref q1, .ref q2, .ref q3, .int 0, .null, .int 0, .int 0, .null, .null, .null, .null, .null, .int 0])), (q1, .inl (cint, 10, .inl (fun _ => 0))), (q2, .inl (cint, 10, .inl (fun _ => 0))), (q3, .inl (cint, 10, .inl (fun _ => 0))), (q4, .inl (cint, 8, .inl (fun _ => 0)))] H := hP
  have hD : va_D A [(h0, .inr (2, [.ref q1, .ref q2, .ref q3, .int 0, .null, .int 0, .int 0, .null, .null, .null, .null, .null, .int 0])), (q1, .inl (cint, 10, .inl (fun _ => 0))), (q2, .inl (cint, 10, .inl (fun _ => 0))), (q3, .inl (cint, 10, .inl (fun _ => 0))), (q4, .inl (cint, 8, .inl (fun _ => 0)))] := hD
  refine va_putF (D := (dC, dI)) (ci := 2) (v := .ref q4) (ty := (.array .int)) (C := RX2) (T := TX2) (N := 13) hx hb hts (fun _ h => List.mem_cons_of_mem _ (List.mem_append_right _ h)) tyX2 tyX2_ok nmX2 hown hK hP hD hS 0 rfl rfl 4 (by decide) (hts (.fieldLink RX2 21 "KinkStreet$Deeds" "seats" "[I") (List.mem_of_getElem? (i := 8) rfl)) (fun _ h9 => h9) rfl hin rfl (by decide +kernel) rfl rfl (Nat.le_of_ble_eq_true rfl) dX2_init_33 (fun H locs hP hD hS => ?_)
  have hP : va_P (dC, dI) vwCl [(h0, .inr (2, [.ref q1, .ref q2, .ref q3, .int 0, .ref q4, .int 0, .int 0, .null, .null, .null, .null, .null, .int 0])), (q1, .inl (cint, 10, .inl (fun _ => 0))), (q2, .inl (cint, 10, .inl (fun _ => 0))), (q3, .inl (cint, 10, .inl (fun _ => 0))), (q4, .inl (cint, 8, .inl (fun _ => 0)))] H := hP
  have hD : va_D A [(h0, .inr (2, [.ref q1, .ref q2, .ref q3, .int 0, .ref q4, .int 0, .int 0, .null, .null, .null, .null, .null, .int 0])), (q1, .inl (cint, 10, .inl (fun _ => 0))), (q2, .inl (cint, 10, .inl (fun _ => 0))), (q3, .inl (cint, 10, .inl (fun _ => 0))), (q4, .inl (cint, 8, .inl (fun _ => 0)))] := hD
  refine lv_aload_n hx hb dX2_init_36 rfl (lv_at hl 0 rfl) ?_
  refine lv_bipush (v := 40) hx hb dX2_init_37 (by decide) ?_
  refine va_newa (atype := .int) (ty := .int) (a0 := (40, .inl (fun _ => 0))) hx hb (hts (.arrayClass .int) (List.mem_of_getElem? (i := 4) rfl)) rfl hK hP hD hS hA (fun _ => rfl) (by decide) rfl (Nat.le_of_ble_eq_true rfl) (Nat.le_of_ble_eq_true rfl) (Nat.le_of_ble_eq_true rfl) dX2_init_39 (fun q5 cint_n H hK hP hD hS => ?_)
  obtain rfl : cint = cint_n := kk_uni hK 0 1 rfl rfl
  have hK : va_K (dC, dI) vwCl [(cint, .int)] s := hK.sub [0] rfl
  have hP : va_P (dC, dI) vwCl [(h0, .inr (2, [.ref q1, .ref q2, .ref q3, .int 0, .ref q4, .int 0, .int 0, .null, .null, .null, .null, .null, .int 0])), (q1, .inl (cint, 10, .inl (fun _ => 0))), (q2, .inl (cint, 10, .inl (fun _ => 0))), (q3, .inl (cint, 10, .inl (fun _ => 0))), (q4, .inl (cint, 8, .inl (fun _ => 0))), (q5, .inl (cint, 40, .inl (fun _ => 0)))] H := hP
  have hD : va_D A [(h0, .inr (2, [.ref q1, .ref q2, .ref q3, .int 0, .ref q4, .int 0, .int 0, .null, .null, .null, .null, .null, .int 0])), (q1, .inl (cint, 10, .inl (fun _ => 0))), (q2, .inl (cint, 10, .inl (fun _ => 0))), (q3, .inl (cint, 10, .inl (fun _ => 0))), (q4, .inl (cint, 8, .inl (fun _ => 0))), (q5, .inl (cint, 40, .inl (fun _ => 0)))] := hD
  refine va_putF (D := (dC, dI)) (ci := 2) (v := .ref q5) (ty := (.array .int)) (C := RX2) (T := TX2) (N := 13) hx hb hts (fun _ h => List.mem_cons_of_mem _ (List.mem_append_right _ h)) tyX2 tyX2_ok nmX2 hown hK hP hD hS 0 rfl rfl 7 (by decide) (hts (.fieldLink RX2 24 "KinkStreet$Deeds" "begins" "[I") (List.mem_of_getElem? (i := 9) rfl)) (fun _ h9 => h9) rfl hin rfl (by decide +kernel) rfl rfl (Nat.le_of_ble_eq_true rfl) dX2_init_41 (fun H locs hP hD hS => ?_)
  have hP : va_P (dC, dI) vwCl [(h0, .inr (2, [.ref q1, .ref q2, .ref q3, .int 0, .ref q4, .int 0, .int 0, .ref q5, .null, .null, .null, .null, .int 0])), (q1, .inl (cint, 10, .inl (fun _ => 0))), (q2, .inl (cint, 10, .inl (fun _ => 0))), (q3, .inl (cint, 10, .inl (fun _ => 0))), (q4, .inl (cint, 8, .inl (fun _ => 0))), (q5, .inl (cint, 40, .inl (fun _ => 0)))] H := hP
  have hD : va_D A [(h0, .inr (2, [.ref q1, .ref q2, .ref q3, .int 0, .ref q4, .int 0, .int 0, .ref q5, .null, .null, .null, .null, .int 0])), (q1, .inl (cint, 10, .inl (fun _ => 0))), (q2, .inl (cint, 10, .inl (fun _ => 0))), (q3, .inl (cint, 10, .inl (fun _ => 0))), (q4, .inl (cint, 8, .inl (fun _ => 0))), (q5, .inl (cint, 40, .inl (fun _ => 0)))] := hD
  refine lv_aload_n hx hb dX2_init_44 rfl (lv_at hl 0 rfl) ?_
  refine lv_bipush (v := 25) hx hb dX2_init_45 (by decide) ?_
  refine lv_bipush (v := 40) hx hb dX2_init_47 (by decide) ?_
  obtain ⟨clong, hcy_6, hK⟩ := kk_acK (ty := .long) (hts (.arrayClass .long) (List.mem_of_getElem? (i := 11) rfl)) (fun _ h => h) hK
  have hK : va_K (dC, dI) vwCl [(cint, .int), (clong, .long)] s := hK
  refine va_mna (X := [(h0, .inr (2, [.ref q1, .ref q2, .ref q3, .int 0, .ref q4, .int 0, .int 0, .ref q5, .null, .null, .null, .null, .int 0])), (q1, .inl (cint, 10, .inl (fun _ => 0))), (q2, .inl (cint, 10, .inl (fun _ => 0))), (q3, .inl (cint, 10, .inl (fun _ => 0))), (q4, .inl (cint, 8, .inl (fun _ => 0))), (q5, .inl (cint, 40, .inl (fun _ => 0)))]) (L := []) (f := fun _ => .inr (0, [])) (ty := .long) (cy := clong) (z := (40, .inr (.inl (fun _ => 0)))) (N' := 25) (K' := 40) hx hb hown (hts (.classLink RX2 27 "[[J") (List.mem_of_getElem? (i := 10) rfl)) hAOAlong (hts (.arrayClass .long) (List.mem_of_getElem? (i := 11) rfl)) hcy_6 hK (by rw [show va_pl [] (fun _ => (.inr (0, []) : va_E)) = [] from rfl, List.append_nil]; exact hP) (by rw [show va_pl [] (fun _ => (.inr (0, []) : va_E)) = [] from rfl, List.append_nil]; exact hD) hS hA (by decide) (by decide) rfl rfl (Nat.le_of_ble_eq_true rfl) (Nat.le_of_ble_eq_true rfl) (Nat.le_of_ble_eq_true rfl) rfl rfl (Nat.le_of_ble_eq_true rfl) (Nat.le_of_ble_eq_true rfl) (fun _ => kk_innerlong _ _) dX2_init_49 (fun q7 r_6 cAlong H _ _ hK hP hD hS => ?_)
  have hK : va_K (dC, dI) vwCl [(cint, .int), (clong, .long), (cAlong, .array .long)] s := hK
  have hP := kk_mnaP hP
  have hD := kk_mnaD (g' := fun j => some (r_6 j)) hD
  have hP : va_P (dC, dI) vwCl (([(h0, .inr (2, [.ref q1, .ref q2, .ref q3, .int 0, .ref q4, .int 0, .int 0, .ref q5, .null, .null, .null, .null, .int 0])), (q1, .inl (cint, 10, .inl (fun _ => 0))), (q2, .inl (cint, 10, .inl (fun _ => 0))), (q3, .inl (cint, 10, .inl (fun _ => 0))), (q4, .inl (cint, 8, .inl (fun _ => 0))), (q5, .inl (cint, 40, .inl (fun _ => 0))), (q7, .inl (cAlong, 25, .inr (.inr (.inr (.inr (fun j => some (r_6 j)))))))] : va_W) ++ (kk_rowsL r_6 clong 40 (fun _ _ => 0) 25)) H := hP
  have hD : va_D A (([(h0, .inr (2, [.ref q1, .ref q2, .ref q3, .int 0, .ref q4, .int 0, .int 0, .ref q5, .null, .null, .null, .null, .int 0])), (q1, .inl (cint, 10, .inl (fun _ => 0))), (q2, .inl (cint, 10, .inl (fun _ => 0))), (q3, .inl (cint, 10, .inl (fun _ => 0))), (q4, .inl (cint, 8, .inl (fun _ => 0))), (q5, .inl (cint, 40, .inl (fun _ => 0))), (q7, .inl (cAlong, 25, .inr (.inr (.inr (.inr (fun j => some (r_6 j)))))))] : va_W) ++ (kk_rowsL r_6 clong 40 (fun _ _ => 0) 25)) := hD
  refine va_putF (D := (dC, dI)) (ci := 2) (v := .ref q7) (ty := (.array (.array .long))) (C := RX2) (T := TX2) (N := 13) hx hb hts (fun _ h => List.mem_cons_of_mem _ (List.mem_append_right _ h)) tyX2 tyX2_ok nmX2 hown hK hP hD hS 0 rfl rfl 8 (by decide) (hts (.fieldLink RX2 29 "KinkStreet$Deeds" "fits" "[[J") (List.mem_of_getElem? (i := 12) rfl)) (fun _ h9 => h9) rfl hin rfl (by decide +kernel) rfl rfl (Nat.le_of_ble_eq_true rfl) dX2_init_53 (fun H locs hP hD hS => ?_)
  have hP : va_P (dC, dI) vwCl (([(h0, .inr (2, [.ref q1, .ref q2, .ref q3, .int 0, .ref q4, .int 0, .int 0, .ref q5, .ref q7, .null, .null, .null, .int 0])), (q1, .inl (cint, 10, .inl (fun _ => 0))), (q2, .inl (cint, 10, .inl (fun _ => 0))), (q3, .inl (cint, 10, .inl (fun _ => 0))), (q4, .inl (cint, 8, .inl (fun _ => 0))), (q5, .inl (cint, 40, .inl (fun _ => 0))), (q7, .inl (cAlong, 25, .inr (.inr (.inr (.inr (fun j => some (r_6 j)))))))] : va_W) ++ (kk_rowsL r_6 clong 40 (fun _ _ => 0) 25)) H := hP
  have hD : va_D A (([(h0, .inr (2, [.ref q1, .ref q2, .ref q3, .int 0, .ref q4, .int 0, .int 0, .ref q5, .ref q7, .null, .null, .null, .int 0])), (q1, .inl (cint, 10, .inl (fun _ => 0))), (q2, .inl (cint, 10, .inl (fun _ => 0))), (q3, .inl (cint, 10, .inl (fun _ => 0))), (q4, .inl (cint, 8, .inl (fun _ => 0))), (q5, .inl (cint, 40, .inl (fun _ => 0))), (q7, .inl (cAlong, 25, .inr (.inr (.inr (.inr (fun j => some (r_6 j)))))))] : va_W) ++ (kk_rowsL r_6 clong 40 (fun _ _ => 0) 25)) := hD
  refine lv_aload_n hx hb dX2_init_56 rfl (lv_at hl 0 rfl) ?_
  refine lv_iconst (v := 5) hx hb dX2_init_57 (by decide) ?_
  refine lv_iconst (v := 5) hx hb dX2_init_58 (by decide) ?_
  obtain ⟨clong_n, hcy_8, hK⟩ := kk_acK (ty := .long) (hts (.arrayClass .long) (List.mem_of_getElem? (i := 11) rfl)) (fun _ h => h) hK
  obtain rfl : clong = clong_n := kk_uni hK 1 3 rfl rfl
  have hK : va_K (dC, dI) vwCl [(cint, .int), (clong, .long), (cAlong, .array .long)] s := hK.sub [0, 1, 2] rfl
  refine va_mna (X := (([(h0, .inr (2, [.ref q1, .ref q2, .ref q3, .int 0, .ref q4, .int 0, .int 0, .ref q5, .ref q7, .null, .null, .null, .int 0])), (q1, .inl (cint, 10, .inl (fun _ => 0))), (q2, .inl (cint, 10, .inl (fun _ => 0))), (q3, .inl (cint, 10, .inl (fun _ => 0))), (q4, .inl (cint, 8, .inl (fun _ => 0))), (q5, .inl (cint, 40, .inl (fun _ => 0))), (q7, .inl (cAlong, 25, .inr (.inr (.inr (.inr (fun j => some (r_6 j)))))))] : va_W) ++ (kk_rowsL r_6 clong 40 (fun _ _ => 0) 25))) (L := []) (f := fun _ => .inr (0, [])) (ty := .long) (cy := clong) (z := (5, .inr (.inl (fun _ => 0)))) (N' := 5) (K' := 5) hx hb hown (hts (.classLink RX2 27 "[[J") (List.mem_of_getElem? (i := 10) rfl)) hAOAlong (hts (.arrayClass .long) (List.mem_of_getElem? (i := 11) rfl)) hcy_8 hK (by rw [show va_pl [] (fun _ => (.inr (0, []) : va_E)) = [] from rfl, List.append_nil]; exact hP) (by rw [show va_pl [] (fun _ => (.inr (0, []) : va_E)) = [] from rfl, List.append_nil]; exact hD) hS hA (by decide) (by decide) rfl rfl (Nat.le_of_ble_eq_true rfl) (Nat.le_of_ble_eq_true rfl) (Nat.le_of_ble_eq_true rfl) rfl rfl (Nat.le_of_ble_eq_true rfl) (Nat.le_of_ble_eq_true rfl) (fun _ => kk_innerlong _ _) dX2_init_59 (fun q9 r_8 cAlong_n H _ _ hK hP hD hS => ?_)
  obtain rfl : cAlong = cAlong_n := kk_uni hK 2 3 rfl rfl
  have hK : va_K (dC, dI) vwCl [(cint, .int), (clong, .long), (cAlong, .array .long)] s := hK.sub [0, 1, 2] rfl
  have hP := kk_mnaP hP
  have hD := kk_mnaD (g' := fun j => some (r_8 j)) hD
  have hP := vr_lay hP
  have hD := vr_layD hD
  have hP : va_P (dC, dI) vwCl (([(h0, .inr (2, [.ref q1, .ref q2, .ref q3, .int 0, .ref q4, .int 0, .int 0, .ref q5, .ref q7, .null, .null, .null, .int 0])), (q1, .inl (cint, 10, .inl (fun _ => 0))), (q2, .inl (cint, 10, .inl (fun _ => 0))), (q3, .inl (cint, 10, .inl (fun _ => 0))), (q4, .inl (cint, 8, .inl (fun _ => 0))), (q5, .inl (cint, 40, .inl (fun _ => 0))), (q7, .inl (cAlong, 25, .inr (.inr (.inr (.inr (fun j => some (r_6 j))))))), (q9, .inl (cAlong, 5, .inr (.inr (.inr (.inr (fun j => some (r_8 j)))))))] : va_W) ++ (kk_rowsL r_6 clong 40 (fun _ _ => 0) 25 ++ (kk_rowsL r_8 clong 5 (fun _ _ => 0) 5))) H := hP
  have hD : va_D A (([(h0, .inr (2, [.ref q1, .ref q2, .ref q3, .int 0, .ref q4, .int 0, .int 0, .ref q5, .ref q7, .null, .null, .null, .int 0])), (q1, .inl (cint, 10, .inl (fun _ => 0))), (q2, .inl (cint, 10, .inl (fun _ => 0))), (q3, .inl (cint, 10, .inl (fun _ => 0))), (q4, .inl (cint, 8, .inl (fun _ => 0))), (q5, .inl (cint, 40, .inl (fun _ => 0))), (q7, .inl (cAlong, 25, .inr (.inr (.inr (.inr (fun j => some (r_6 j))))))), (q9, .inl (cAlong, 5, .inr (.inr (.inr (.inr (fun j => some (r_8 j)))))))] : va_W) ++ (kk_rowsL r_6 clong 40 (fun _ _ => 0) 25 ++ (kk_rowsL r_8 clong 5 (fun _ _ => 0) 5))) := hD
  refine va_putF (D := (dC, dI)) (ci := 2) (v := .ref q9) (ty := (.array (.array .long))) (C := RX2) (T := TX2) (N := 13) hx hb hts (fun _ h => List.mem_cons_of_mem _ (List.mem_append_right _ h)) tyX2 tyX2_ok nmX2 hown hK hP hD hS 0 rfl rfl 9 (by decide) (hts (.fieldLink RX2 32 "KinkStreet$Deeds" "open" "[[J") (List.mem_of_getElem? (i := 13) rfl)) (fun _ h9 => h9) rfl hin rfl (by decide +kernel) rfl rfl (Nat.le_of_ble_eq_true rfl) dX2_init_63 (fun H locs hP hD hS => ?_)
  have hP : va_P (dC, dI) vwCl (([(h0, .inr (2, [.ref q1, .ref q2, .ref q3, .int 0, .ref q4, .int 0, .int 0, .ref q5, .ref q7, .ref q9, .null, .null, .int 0])), (q1, .inl (cint, 10, .inl (fun _ => 0))), (q2, .inl (cint, 10, .inl (fun _ => 0))), (q3, .inl (cint, 10, .inl (fun _ => 0))), (q4, .inl (cint, 8, .inl (fun _ => 0))), (q5, .inl (cint, 40, .inl (fun _ => 0))), (q7, .inl (cAlong, 25, .inr (.inr (.inr (.inr (fun j => some (r_6 j))))))), (q9, .inl (cAlong, 5, .inr (.inr (.inr (.inr (fun j => some (r_8 j)))))))] : va_W) ++ (kk_rowsL r_6 clong 40 (fun _ _ => 0) 25 ++ (kk_rowsL r_8 clong 5 (fun _ _ => 0) 5))) H := hP
  have hD : va_D A (([(h0, .inr (2, [.ref q1, .ref q2, .ref q3, .int 0, .ref q4, .int 0, .int 0, .ref q5, .ref q7, .ref q9, .null, .null, .int 0])), (q1, .inl (cint, 10, .inl (fun _ => 0))), (q2, .inl (cint, 10, .inl (fun _ => 0))), (q3, .inl (cint, 10, .inl (fun _ => 0))), (q4, .inl (cint, 8, .inl (fun _ => 0))), (q5, .inl (cint, 40, .inl (fun _ => 0))), (q7, .inl (cAlong, 25, .inr (.inr (.inr (.inr (fun j => some (r_6 j))))))), (q9, .inl (cAlong, 5, .inr (.inr (.inr (.inr (fun j => some (r_8 j)))))))] : va_W) ++ (kk_rowsL r_6 clong 40 (fun _ _ => 0) 25 ++ (kk_rowsL r_8 clong 5 (fun _ _ => 0) 5))) := hD
  refine lv_aload_n hx hb dX2_init_66 rfl (lv_at hl 0 rfl) ?_
  refine lv_iconst (v := 5) hx hb dX2_init_67 (by decide) ?_
  refine va_newa (atype := .int) (ty := .int) (a0 := (5, .inl (fun _ => 0))) hx hb (hts (.arrayClass .int) (List.mem_of_getElem? (i := 4) rfl)) rfl hK hP hD hS hA (fun _ => rfl) (by decide) rfl (Nat.le_of_ble_eq_true rfl) (Nat.le_of_ble_eq_true rfl) (Nat.le_of_ble_eq_true rfl) dX2_init_68 (fun q10 cint_n H hK hP hD hS => ?_)
  obtain rfl : cint = cint_n := kk_uni hK 0 3 rfl rfl
  have hK : va_K (dC, dI) vwCl [(cint, .int), (clong, .long), (cAlong, .array .long)] s := hK.sub [0, 1, 2] rfl
  have hP := hP.swap
  have hD := hD.swap
  have hP : va_P (dC, dI) vwCl (([(h0, .inr (2, [.ref q1, .ref q2, .ref q3, .int 0, .ref q4, .int 0, .int 0, .ref q5, .ref q7, .ref q9, .null, .null, .int 0])), (q1, .inl (cint, 10, .inl (fun _ => 0))), (q2, .inl (cint, 10, .inl (fun _ => 0))), (q3, .inl (cint, 10, .inl (fun _ => 0))), (q4, .inl (cint, 8, .inl (fun _ => 0))), (q5, .inl (cint, 40, .inl (fun _ => 0))), (q7, .inl (cAlong, 25, .inr (.inr (.inr (.inr (fun j => some (r_6 j))))))), (q9, .inl (cAlong, 5, .inr (.inr (.inr (.inr (fun j => some (r_8 j))))))), (q10, .inl (cint, 5, .inl (fun _ => 0)))] : va_W) ++ (kk_rowsL r_6 clong 40 (fun _ _ => 0) 25 ++ (kk_rowsL r_8 clong 5 (fun _ _ => 0) 5))) H := hP
  have hD : va_D A (([(h0, .inr (2, [.ref q1, .ref q2, .ref q3, .int 0, .ref q4, .int 0, .int 0, .ref q5, .ref q7, .ref q9, .null, .null, .int 0])), (q1, .inl (cint, 10, .inl (fun _ => 0))), (q2, .inl (cint, 10, .inl (fun _ => 0))), (q3, .inl (cint, 10, .inl (fun _ => 0))), (q4, .inl (cint, 8, .inl (fun _ => 0))), (q5, .inl (cint, 40, .inl (fun _ => 0))), (q7, .inl (cAlong, 25, .inr (.inr (.inr (.inr (fun j => some (r_6 j))))))), (q9, .inl (cAlong, 5, .inr (.inr (.inr (.inr (fun j => some (r_8 j))))))), (q10, .inl (cint, 5, .inl (fun _ => 0)))] : va_W) ++ (kk_rowsL r_6 clong 40 (fun _ _ => 0) 25 ++ (kk_rowsL r_8 clong 5 (fun _ _ => 0) 5))) := hD
  refine va_putF (D := (dC, dI)) (ci := 2) (v := .ref q10) (ty := (.array .int)) (C := RX2) (T := TX2) (N := 13) hx hb hts (fun _ h => List.mem_cons_of_mem _ (List.mem_append_right _ h)) tyX2 tyX2_ok nmX2 hown hK hP hD hS 0 rfl rfl 10 (by decide) (hts (.fieldLink RX2 35 "KinkStreet$Deeds" "tried" "[I") (List.mem_of_getElem? (i := 14) rfl)) (fun _ h9 => h9) rfl hin rfl (by decide +kernel) rfl rfl (Nat.le_of_ble_eq_true rfl) dX2_init_70 (fun H locs hP hD hS => ?_)
  have hP : va_P (dC, dI) vwCl (([(h0, .inr (2, [.ref q1, .ref q2, .ref q3, .int 0, .ref q4, .int 0, .int 0, .ref q5, .ref q7, .ref q9, .ref q10, .null, .int 0])), (q1, .inl (cint, 10, .inl (fun _ => 0))), (q2, .inl (cint, 10, .inl (fun _ => 0))), (q3, .inl (cint, 10, .inl (fun _ => 0))), (q4, .inl (cint, 8, .inl (fun _ => 0))), (q5, .inl (cint, 40, .inl (fun _ => 0))), (q7, .inl (cAlong, 25, .inr (.inr (.inr (.inr (fun j => some (r_6 j))))))), (q9, .inl (cAlong, 5, .inr (.inr (.inr (.inr (fun j => some (r_8 j))))))), (q10, .inl (cint, 5, .inl (fun _ => 0)))] : va_W) ++ (kk_rowsL r_6 clong 40 (fun _ _ => 0) 25 ++ (kk_rowsL r_8 clong 5 (fun _ _ => 0) 5))) H := hP
  have hD : va_D A (([(h0, .inr (2, [.ref q1, .ref q2, .ref q3, .int 0, .ref q4, .int 0, .int 0, .ref q5, .ref q7, .ref q9, .ref q10, .null, .int 0])), (q1, .inl (cint, 10, .inl (fun _ => 0))), (q2, .inl (cint, 10, .inl (fun _ => 0))), (q3, .inl (cint, 10, .inl (fun _ => 0))), (q4, .inl (cint, 8, .inl (fun _ => 0))), (q5, .inl (cint, 40, .inl (fun _ => 0))), (q7, .inl (cAlong, 25, .inr (.inr (.inr (.inr (fun j => some (r_6 j))))))), (q9, .inl (cAlong, 5, .inr (.inr (.inr (.inr (fun j => some (r_8 j))))))), (q10, .inl (cint, 5, .inl (fun _ => 0)))] : va_W) ++ (kk_rowsL r_6 clong 40 (fun _ _ => 0) 25 ++ (kk_rowsL r_8 clong 5 (fun _ _ => 0) 5))) := hD
  refine lv_aload_n hx hb dX2_init_73 rfl (lv_at hl 0 rfl) ?_
  refine lv_iconst (v := 5) hx hb dX2_init_74 (by decide) ?_
  refine va_newa (atype := .int) (ty := .int) (a0 := (5, .inl (fun _ => 0))) hx hb (hts (.arrayClass .int) (List.mem_of_getElem? (i := 4) rfl)) rfl hK hP hD hS hA (fun _ => rfl) (by decide) rfl (Nat.le_of_ble_eq_true rfl) (Nat.le_of_ble_eq_true rfl) (Nat.le_of_ble_eq_true rfl) dX2_init_75 (fun q11 cint_n H hK hP hD hS => ?_)
  obtain rfl : cint = cint_n := kk_uni hK 0 3 rfl rfl
  have hK : va_K (dC, dI) vwCl [(cint, .int), (clong, .long), (cAlong, .array .long)] s := hK.sub [0, 1, 2] rfl
  have hP := hP.swap
  have hD := hD.swap
  have hP : va_P (dC, dI) vwCl (([(h0, .inr (2, [.ref q1, .ref q2, .ref q3, .int 0, .ref q4, .int 0, .int 0, .ref q5, .ref q7, .ref q9, .ref q10, .null, .int 0])), (q1, .inl (cint, 10, .inl (fun _ => 0))), (q2, .inl (cint, 10, .inl (fun _ => 0))), (q3, .inl (cint, 10, .inl (fun _ => 0))), (q4, .inl (cint, 8, .inl (fun _ => 0))), (q5, .inl (cint, 40, .inl (fun _ => 0))), (q7, .inl (cAlong, 25, .inr (.inr (.inr (.inr (fun j => some (r_6 j))))))), (q9, .inl (cAlong, 5, .inr (.inr (.inr (.inr (fun j => some (r_8 j))))))), (q10, .inl (cint, 5, .inl (fun _ => 0))), (q11, .inl (cint, 5, .inl (fun _ => 0)))] : va_W) ++ (kk_rowsL r_6 clong 40 (fun _ _ => 0) 25 ++ (kk_rowsL r_8 clong 5 (fun _ _ => 0) 5))) H := hP
  have hD : va_D A (([(h0, .inr (2, [.ref q1, .ref q2, .ref q3, .int 0, .ref q4, .int 0, .int 0, .ref q5, .ref q7, .ref q9, .ref q10, .null, .int 0])), (q1, .inl (cint, 10, .inl (fun _ => 0))), (q2, .inl (cint, 10, .inl (fun _ => 0))), (q3, .inl (cint, 10, .inl (fun _ => 0))), (q4, .inl (cint, 8, .inl (fun _ => 0))), (q5, .inl (cint, 40, .inl (fun _ => 0))), (q7, .inl (cAlong, 25, .inr (.inr (.inr (.inr (fun j => some (r_6 j))))))), (q9, .inl (cAlong, 5, .inr (.inr (.inr (.inr (fun j => some (r_8 j))))))), (q10, .inl (cint, 5, .inl (fun _ => 0))), (q11, .inl (cint, 5, .inl (fun _ => 0)))] : va_W) ++ (kk_rowsL r_6 clong 40 (fun _ _ => 0) 25 ++ (kk_rowsL r_8 clong 5 (fun _ _ => 0) 5))) := hD
  refine va_putF (D := (dC, dI)) (ci := 2) (v := .ref q11) (ty := (.array .int)) (C := RX2) (T := TX2) (N := 13) hx hb hts (fun _ h => List.mem_cons_of_mem _ (List.mem_append_right _ h)) tyX2 tyX2_ok nmX2 hown hK hP hD hS 0 rfl rfl 11 (by decide) (hts (.fieldLink RX2 38 "KinkStreet$Deeds" "found" "[I") (List.mem_of_getElem? (i := 15) rfl)) (fun _ h9 => h9) rfl hin rfl (by decide +kernel) rfl rfl (Nat.le_of_ble_eq_true rfl) dX2_init_77 (fun H locs hP hD hS => ?_)
  have hP : va_P (dC, dI) vwCl (([(h0, .inr (2, [.ref q1, .ref q2, .ref q3, .int 0, .ref q4, .int 0, .int 0, .ref q5, .ref q7, .ref q9, .ref q10, .ref q11, .int 0])), (q1, .inl (cint, 10, .inl (fun _ => 0))), (q2, .inl (cint, 10, .inl (fun _ => 0))), (q3, .inl (cint, 10, .inl (fun _ => 0))), (q4, .inl (cint, 8, .inl (fun _ => 0))), (q5, .inl (cint, 40, .inl (fun _ => 0))), (q7, .inl (cAlong, 25, .inr (.inr (.inr (.inr (fun j => some (r_6 j))))))), (q9, .inl (cAlong, 5, .inr (.inr (.inr (.inr (fun j => some (r_8 j))))))), (q10, .inl (cint, 5, .inl (fun _ => 0))), (q11, .inl (cint, 5, .inl (fun _ => 0)))] : va_W) ++ (kk_rowsL r_6 clong 40 (fun _ _ => 0) 25 ++ (kk_rowsL r_8 clong 5 (fun _ _ => 0) 5))) H := hP
  have hD : va_D A (([(h0, .inr (2, [.ref q1, .ref q2, .ref q3, .int 0, .ref q4, .int 0, .int 0, .ref q5, .ref q7, .ref q9, .ref q10, .ref q11, .int 0])), (q1, .inl (cint, 10, .inl (fun _ => 0))), (q2, .inl (cint, 10, .inl (fun _ => 0))), (q3, .inl (cint, 10, .inl (fun _ => 0))), (q4, .inl (cint, 8, .inl (fun _ => 0))), (q5, .inl (cint, 40, .inl (fun _ => 0))), (q7, .inl (cAlong, 25, .inr (.inr (.inr (.inr (fun j => some (r_6 j))))))), (q9, .inl (cAlong, 5, .inr (.inr (.inr (.inr (fun j => some (r_8 j))))))), (q10, .inl (cint, 5, .inl (fun _ => 0))), (q11, .inl (cint, 5, .inl (fun _ => 0)))] : va_W) ++ (kk_rowsL r_6 clong 40 (fun _ _ => 0) 25 ++ (kk_rowsL r_8 clong 5 (fun _ _ => 0) 5))) := hD
  have hP9 : va_P (dC, dI) vwCl (([(h0, .inr (2, [.ref q1, .ref q2, .ref q3, .int 0, .ref q4, .int 0, .int 0, .ref q5, .ref q7, .ref q9, .ref q10, .ref q11, .int 0])), (q1, .inl (cint, 10, .inl (fun _ => 0))), (q2, .inl (cint, 10, .inl (fun _ => 0))), (q3, .inl (cint, 10, .inl (fun _ => 0))), (q4, .inl (cint, 8, .inl (fun _ => 0))), (q5, .inl (cint, 40, .inl (fun _ => 0))), (q7, .inl (cAlong, 25, .inr (.inr (.inr (.inr (fun j => some (r_6 j))))))), (q9, .inl (cAlong, 5, .inr (.inr (.inr (.inr (fun j => some (r_8 j))))))), (q10, .inl (cint, 5, .inl (fun _ => 0))), (q11, .inl (cint, 5, .inl (fun _ => 0)))] : va_W) ++ (kk_rowsL r_6 clong 40 (fun _ _ => 0) 25 ++ (kk_rowsL r_8 clong 5 (fun _ _ => 0) 5))) H := hP.part (cx := [(h0, .inr (2, [.ref q1, .ref q2, .ref q3, .int 0, .ref q4, .int 0, .int 0, .ref q5, .ref q7, .ref q9, .ref q10, .ref q11, .int 0])), (q1, .inl (cint, 10, .inl (fun _ => 0))), (q2, .inl (cint, 10, .inl (fun _ => 0))), (q3, .inl (cint, 10, .inl (fun _ => 0))), (q4, .inl (cint, 8, .inl (fun _ => 0))), (q5, .inl (cint, 40, .inl (fun _ => 0))), (q7, .inl (cAlong, 25, .inr (.inr (.inr (.inr (fun j => some (r_6 j))))))), (q9, .inl (cAlong, 5, .inr (.inr (.inr (.inr (fun j => some (r_8 j))))))), (q10, .inl (cint, 5, .inl (fun _ => 0))), (q11, .inl (cint, 5, .inl (fun _ => 0)))]) [0, 1, 2, 3, 4, 5, 6, 7, 8, 9] rfl
  have hD9 : va_D A (([(h0, .inr (2, [.ref q1, .ref q2, .ref q3, .int 0, .ref q4, .int 0, .int 0, .ref q5, .ref q7, .ref q9, .ref q10, .ref q11, .int 0])), (q1, .inl (cint, 10, .inl (fun _ => 0))), (q2, .inl (cint, 10, .inl (fun _ => 0))), (q3, .inl (cint, 10, .inl (fun _ => 0))), (q4, .inl (cint, 8, .inl (fun _ => 0))), (q5, .inl (cint, 40, .inl (fun _ => 0))), (q7, .inl (cAlong, 25, .inr (.inr (.inr (.inr (fun j => some (r_6 j))))))), (q9, .inl (cAlong, 5, .inr (.inr (.inr (.inr (fun j => some (r_8 j))))))), (q10, .inl (cint, 5, .inl (fun _ => 0))), (q11, .inl (cint, 5, .inl (fun _ => 0)))] : va_W) ++ (kk_rowsL r_6 clong 40 (fun _ _ => 0) 25 ++ (kk_rowsL r_8 clong 5 (fun _ _ => 0) 5))) := hD.part (cx := [(h0, .inr (2, [.ref q1, .ref q2, .ref q3, .int 0, .ref q4, .int 0, .int 0, .ref q5, .ref q7, .ref q9, .ref q10, .ref q11, .int 0])), (q1, .inl (cint, 10, .inl (fun _ => 0))), (q2, .inl (cint, 10, .inl (fun _ => 0))), (q3, .inl (cint, 10, .inl (fun _ => 0))), (q4, .inl (cint, 8, .inl (fun _ => 0))), (q5, .inl (cint, 40, .inl (fun _ => 0))), (q7, .inl (cAlong, 25, .inr (.inr (.inr (.inr (fun j => some (r_6 j))))))), (q9, .inl (cAlong, 5, .inr (.inr (.inr (.inr (fun j => some (r_8 j))))))), (q10, .inl (cint, 5, .inl (fun _ => 0))), (q11, .inl (cint, 5, .inl (fun _ => 0)))]) [0, 1, 2, 3, 4, 5, 6, 7, 8, 9] (by decide) rfl
  have hK9 := hK.sub (tys' := [(cint, .int), (cAlong, .array .long), (clong, .long)]) [0, 2, 1] rfl
  refine W.widen (k := 39) (n := 1143) (Nat.le_of_ble_eq_true rfl) (Nat.le_of_ble_eq_true rfl) ?_
  exact W.vret hx hb hr (fun t ht hW => ⟨⟨(), rfl, trivial, q1, q2, q3, q4, q5, q7, q9, q10, q11, r_6, r_8, cint, cAlong, clong, by rw [ht]; exact hP9, va_K.moved hW.alike hK9, hD9⟩, hS.F ht⟩) hS.2.2 dX2_init_80
set_option maxHeartbeats 4000000 in
set_option maxRecDepth 100000 in
theorem k_X10_init_0 (l : Launch) (dC : Nat → ClassId) (dI : Nat → Nat → Nat) (h0 : Nat) (sz : Nat)  : Met l yX10_init wsX10_init ({ frames := 1, cells := 1, slots := 120, locals := 12 }) (va_Pc [.ref h0] (fun U => U.heap.size = sz ∧ va_P (dC, dI) vwCl [(h0, .inr (10, [.null, .int 0, .int 0, .null]))] U.heap ∧ va_K (dC, dI) vwCl [] U ∧ va_D (fun _ => True) [(h0, .inr (10, [.null, .int 0, .int 0, .null]))])) (va_Qv (fun (_ : Unit) => True) (fun (_ : Unit) t => ∃ (n0 : Nat) (cint : ClassId) , va_P (dC, dI) vwCl [(h0, .inr (10, [.ref n0, .int 0, .int 0, .null])), (n0, .inl (cint, 120, .inl (fun _ => 0)))] t.heap ∧ va_K (dC, dI) vwCl [(cint, .int)] t ∧ va_D (va_A [(h0, .inr (10, [.null, .int 0, .int 0, .null]))] sz) [(h0, .inr (10, [.ref n0, .int 0, .int 0, .null])), (n0, .inl (cint, 120, .inl (fun _ => 0)))]) (va_A [(h0, .inr (10, [.null, .int 0, .int 0, .null]))] sz)) 1 120 (va_A [(h0, .inr (10, [.null, .int 0, .int 0, .null]))] sz) := by
  refine Met.ofW (cc := cX10_init) (maxL := 1) (ret := none) (by decide) rfl ?_
  intro p e s m args below meth c s₁ B hml hv
  obtain ⟨rfl, hsz, hP, hK, hD0⟩ := hv
  have hx := B.exec
  have hb := B.bytes
  have hr := B.returns
  have hts := atoms_spec (ws := wsX10_init) B.pre
  have hown : s.vm.findClass RX10 = some m.cls := findClass_of_methodNamed B.named
  have hlocks := B.notSynchronized
  have hin : meth.name = "<init>" := (name_of_methodNamed B.named B.method).1
  subst hsz
  have hD := hD0.self (sz := s.heap.size)
  generalize hAe : va_A [(h0, .inr (10, [.null, .int 0, .int 0, .null]))] s.heap.size = A at hD ⊢
  have hA : ∀ q : Nat, s.heap.size ≤ q → A q := fun q h => by rw [← hAe]; exact Or.inr h
  have hS : va_S A s.heap s.heap [] := va_S.rf
  have hP : va_P (dC, dI) vwCl [(h0, .inr (10, [.null, .int 0, .int 0, .null]))] s.heap := hP
  have hl := lv_entry ([.ref h0]) (n := 1) (Nat.le_of_ble_eq_true rfl)
  rw [lg_entry_eq]
  generalize (lg_sl ([.ref h0]) ++ List.replicate (1 - (lg_sl ([.ref h0])).length) Slot.unset).toArray = ls at hl ⊢
  have hl : lv_has ls 1 [(0, .ref h0)] := hl
  refine lv_aload_n hx hb dX10_init_0 rfl (lv_at hl 0 rfl) ?_
  refine W.objInit hx hb hown (hts (.methodLink RX10 1 objectInit) (List.mem_of_getElem? (i := 1) rfl)) (hts (.instanceMethod objectInit) (List.mem_of_getElem? (i := 2) rfl)) (hts (.code objectInit ⟨#[0xb1]⟩ 1 none) (List.mem_of_getElem? (i := 3) rfl)) rfl (by rw [hml]; exact hl.1) rfl dX10_init_1 (Nat.le_of_ble_eq_true rfl) (Nat.le_of_ble_eq_true rfl) ?_
  refine W.eq (g2 := F0 m 4 ls []) rfl ?_
  refine lv_aload_n hx hb dX10_init_4 rfl (lv_at hl 0 rfl) ?_
  refine lv_bipush (v := 120) hx hb dX10_init_5 (by decide) ?_
  refine va_newa (atype := .int) (ty := .int) (a0 := (120, .inl (fun _ => 0))) hx hb (hts (.arrayClass .int) (List.mem_of_getElem? (i := 4) rfl)) rfl hK hP hD hS hA (fun _ => rfl) (by decide) rfl (Nat.le_of_ble_eq_true rfl) (Nat.le_of_ble_eq_true rfl) (Nat.le_of_ble_eq_true rfl) dX10_init_7 (fun q1 cint H hK hP hD hS => ?_)
  have hK : va_K (dC, dI) vwCl [(cint, .int)] s := hK
  have hP : va_P (dC, dI) vwCl [(h0, .inr (10, [.null, .int 0, .int 0, .null])), (q1, .inl (cint, 120, .inl (fun _ => 0)))] H := hP
  have hD : va_D A [(h0, .inr (10, [.null, .int 0, .int 0, .null])), (q1, .inl (cint, 120, .inl (fun _ => 0)))] := hD
  refine va_putF (D := (dC, dI)) (ci := 10) (v := .ref q1) (ty := (.array .int)) (C := RX10) (T := TX10) (N := 4) hx hb hts (fun _ h => List.mem_cons_of_mem _ (List.mem_append_right _ h)) tyX10 tyX10_ok nmX10 hown hK hP hD hS 0 rfl rfl 0 (by decide) (hts (.fieldLink RX10 9 "KinkStreet$Tape" "bytes" "[I") (List.mem_of_getElem? (i := 5) rfl)) (fun _ h9 => h9) rfl hin rfl (by decide +kernel) rfl rfl (Nat.le_of_ble_eq_true rfl) dX10_init_9 (fun H locs hP hD hS => ?_)
  have hP : va_P (dC, dI) vwCl [(h0, .inr (10, [.ref q1, .int 0, .int 0, .null])), (q1, .inl (cint, 120, .inl (fun _ => 0)))] H := hP
  have hD : va_D A [(h0, .inr (10, [.ref q1, .int 0, .int 0, .null])), (q1, .inl (cint, 120, .inl (fun _ => 0)))] := hD
  have hP9 : va_P (dC, dI) vwCl [(h0, .inr (10, [.ref q1, .int 0, .int 0, .null])), (q1, .inl (cint, 120, .inl (fun _ => 0)))] H := hP.sub (ws' := [(h0, .inr (10, [.ref q1, .int 0, .int 0, .null])), (q1, .inl (cint, 120, .inl (fun _ => 0)))]) [0, 1] rfl
  have hD9 : va_D A [(h0, .inr (10, [.ref q1, .int 0, .int 0, .null])), (q1, .inl (cint, 120, .inl (fun _ => 0)))] := hD.sub (ws' := [(h0, .inr (10, [.ref q1, .int 0, .int 0, .null])), (q1, .inl (cint, 120, .inl (fun _ => 0)))]) [0, 1] (by decide) rfl
  have hK9 := hK.sub (tys' := [(cint, .int)]) [0] rfl
  refine W.widen (k := 1) (n := 120) (Nat.le_of_ble_eq_true rfl) (Nat.le_of_ble_eq_true rfl) ?_
  exact W.vret hx hb hr (fun t ht hW => ⟨⟨(), rfl, trivial, q1, cint, by rw [ht]; exact hP9, va_K.moved hW.alike hK9, hD9⟩, hS.F ht⟩) hS.2.2 dX10_init_12
set_option maxHeartbeats 4000000 in
set_option maxRecDepth 100000 in
theorem k_X5_init_0 (l : Launch) (dC : Nat → ClassId) (dI : Nat → Nat → Nat) (h0 : Nat) (sz : Nat)  : Met l yX5_init wsX5_init ({ frames := 1, cells := 2, slots := 74, locals := 12 }) (va_Pc [.ref h0] (fun U => U.heap.size = sz ∧ va_P (dC, dI) vwCl [(h0, .inr (5, [.null, .int 0, .null, .int 0]))] U.heap ∧ va_K (dC, dI) vwCl [] U ∧ va_D (fun _ => True) [(h0, .inr (5, [.null, .int 0, .null, .int 0]))])) (va_Qv (fun (_ : Unit) => True) (fun (_ : Unit) t => ∃ (n0 : Nat) (n1 : Nat) (cint : ClassId) , va_P (dC, dI) vwCl [(h0, .inr (5, [.ref n0, .int 0, .ref n1, .int 0])), (n0, .inl (cint, 50, .inl (fun _ => 0))), (n1, .inl (cint, 24, .inl (fun _ => 0)))] t.heap ∧ va_K (dC, dI) vwCl [(cint, .int)] t ∧ va_D (va_A [(h0, .inr (5, [.null, .int 0, .null, .int 0]))] sz) [(h0, .inr (5, [.ref n0, .int 0, .ref n1, .int 0])), (n0, .inl (cint, 50, .inl (fun _ => 0))), (n1, .inl (cint, 24, .inl (fun _ => 0)))]) (va_A [(h0, .inr (5, [.null, .int 0, .null, .int 0]))] sz)) 2 74 (va_A [(h0, .inr (5, [.null, .int 0, .null, .int 0]))] sz) := by
  refine Met.ofW (cc := cX5_init) (maxL := 1) (ret := none) (by decide) rfl ?_
  intro p e s m args below meth c s₁ B hml hv
  obtain ⟨rfl, hsz, hP, hK, hD0⟩ := hv
  have hx := B.exec
  have hb := B.bytes
  have hr := B.returns
  have hts := atoms_spec (ws := wsX5_init) B.pre
  have hown : s.vm.findClass RX5 = some m.cls := findClass_of_methodNamed B.named
  have hlocks := B.notSynchronized
  have hin : meth.name = "<init>" := (name_of_methodNamed B.named B.method).1
  subst hsz
  have hD := hD0.self (sz := s.heap.size)
  generalize hAe : va_A [(h0, .inr (5, [.null, .int 0, .null, .int 0]))] s.heap.size = A at hD ⊢
  have hA : ∀ q : Nat, s.heap.size ≤ q → A q := fun q h => by rw [← hAe]; exact Or.inr h
  have hS : va_S A s.heap s.heap [] := va_S.rf
  have hP : va_P (dC, dI) vwCl [(h0, .inr (5, [.null, .int 0, .null, .int 0]))] s.heap := hP
  have hl := lv_entry ([.ref h0]) (n := 1) (Nat.le_of_ble_eq_true rfl)
  rw [lg_entry_eq]
  generalize (lg_sl ([.ref h0]) ++ List.replicate (1 - (lg_sl ([.ref h0])).length) Slot.unset).toArray = ls at hl ⊢
  have hl : lv_has ls 1 [(0, .ref h0)] := hl
  refine lv_aload_n hx hb dX5_init_0 rfl (lv_at hl 0 rfl) ?_
  refine W.objInit hx hb hown (hts (.methodLink RX5 3 objectInit) (List.mem_of_getElem? (i := 1) rfl)) (hts (.instanceMethod objectInit) (List.mem_of_getElem? (i := 2) rfl)) (hts (.code objectInit ⟨#[0xb1]⟩ 1 none) (List.mem_of_getElem? (i := 3) rfl)) rfl (by rw [hml]; exact hl.1) rfl dX5_init_1 (Nat.le_of_ble_eq_true rfl) (Nat.le_of_ble_eq_true rfl) ?_
  refine W.eq (g2 := F0 m 4 ls []) rfl ?_
  refine lv_aload_n hx hb dX5_init_4 rfl (lv_at hl 0 rfl) ?_
  refine lv_bipush (v := 50) hx hb dX5_init_5 (by decide) ?_
  refine va_newa (atype := .int) (ty := .int) (a0 := (50, .inl (fun _ => 0))) hx hb (hts (.arrayClass .int) (List.mem_of_getElem? (i := 4) rfl)) rfl hK hP hD hS hA (fun _ => rfl) (by decide) rfl (Nat.le_of_ble_eq_true rfl) (Nat.le_of_ble_eq_true rfl) (Nat.le_of_ble_eq_true rfl) dX5_init_7 (fun q1 cint H hK hP hD hS => ?_)
  have hK : va_K (dC, dI) vwCl [(cint, .int)] s := hK
  have hP : va_P (dC, dI) vwCl [(h0, .inr (5, [.null, .int 0, .null, .int 0])), (q1, .inl (cint, 50, .inl (fun _ => 0)))] H := hP
  have hD : va_D A [(h0, .inr (5, [.null, .int 0, .null, .int 0])), (q1, .inl (cint, 50, .inl (fun _ => 0)))] := hD
  refine va_putF (D := (dC, dI)) (ci := 5) (v := .ref q1) (ty := (.array .int)) (C := RX5) (T := TX5) (N := 4) hx hb hts (fun _ h => List.mem_cons_of_mem _ (List.mem_append_right _ h)) tyX5 tyX5_ok nmX5 hown hK hP hD hS 0 rfl rfl 0 (by decide) (hts (.fieldLink RX5 11 "KinkStreet$Lines" "kinds" "[I") (List.mem_of_getElem? (i := 5) rfl)) (fun _ h9 => h9) rfl hin rfl (by decide +kernel) rfl rfl (Nat.le_of_ble_eq_true rfl) dX5_init_9 (fun H locs hP hD hS => ?_)
  have hP : va_P (dC, dI) vwCl [(h0, .inr (5, [.ref q1, .int 0, .null, .int 0])), (q1, .inl (cint, 50, .inl (fun _ => 0)))] H := hP
  have hD : va_D A [(h0, .inr (5, [.ref q1, .int 0, .null, .int 0])), (q1, .inl (cint, 50, .inl (fun _ => 0)))] := hD
  refine lv_aload_n hx hb dX5_init_12 rfl (lv_at hl 0 rfl) ?_
  refine lv_bipush (v := 24) hx hb dX5_init_13 (by decide) ?_
  refine va_newa (atype := .int) (ty := .int) (a0 := (24, .inl (fun _ => 0))) hx hb (hts (.arrayClass .int) (List.mem_of_getElem? (i := 4) rfl)) rfl hK hP hD hS hA (fun _ => rfl) (by decide) rfl (Nat.le_of_ble_eq_true rfl) (Nat.le_of_ble_eq_true rfl) (Nat.le_of_ble_eq_true rfl) dX5_init_15 (fun q2 cint_n H hK hP hD hS => ?_)
  obtain rfl : cint = cint_n := kk_uni hK 0 1 rfl rfl
  have hK : va_K (dC, dI) vwCl [(cint, .int)] s := hK.sub [0] rfl
  have hP : va_P (dC, dI) vwCl [(h0, .inr (5, [.ref q1, .int 0, .null, .int 0])), (q1, .inl (cint, 50, .inl (fun _ => 0))), (q2, .inl (cint, 24, .inl (fun _ => 0)))] H := hP
  have hD : va_D A [(h0, .inr (5, [.ref q1, .int 0, .null, .int 0])), (q1, .inl (cint, 50, .inl (fun _ => 0))), (q2, .inl (cint, 24, .inl (fun _ => 0)))] := hD
  refine va_putF (D := (dC, dI)) (ci := 5) (v := .ref q2) (ty := (.array .int)) (C := RX5) (T := TX5) (N := 4) hx hb hts (fun _ h => List.mem_cons_of_mem _ (List.mem_append_right _ h)) tyX5 tyX5_ok nmX5 hown hK hP hD hS 0 rfl rfl 2 (by decide) (hts (.fieldLink RX5 15 "KinkStreet$Lines" "trace" "[I") (List.mem_of_getElem? (i := 6) rfl)) (fun _ h9 => h9) rfl hin rfl (by decide +kernel) rfl rfl (Nat.le_of_ble_eq_true rfl) dX5_init_17 (fun H locs hP hD hS => ?_)
  have hP : va_P (dC, dI) vwCl [(h0, .inr (5, [.ref q1, .int 0, .ref q2, .int 0])), (q1, .inl (cint, 50, .inl (fun _ => 0))), (q2, .inl (cint, 24, .inl (fun _ => 0)))] H := hP
  have hD : va_D A [(h0, .inr (5, [.ref q1, .int 0, .ref q2, .int 0])), (q1, .inl (cint, 50, .inl (fun _ => 0))), (q2, .inl (cint, 24, .inl (fun _ => 0)))] := hD
  have hP9 : va_P (dC, dI) vwCl [(h0, .inr (5, [.ref q1, .int 0, .ref q2, .int 0])), (q1, .inl (cint, 50, .inl (fun _ => 0))), (q2, .inl (cint, 24, .inl (fun _ => 0)))] H := hP.sub (ws' := [(h0, .inr (5, [.ref q1, .int 0, .ref q2, .int 0])), (q1, .inl (cint, 50, .inl (fun _ => 0))), (q2, .inl (cint, 24, .inl (fun _ => 0)))]) [0, 1, 2] rfl
  have hD9 : va_D A [(h0, .inr (5, [.ref q1, .int 0, .ref q2, .int 0])), (q1, .inl (cint, 50, .inl (fun _ => 0))), (q2, .inl (cint, 24, .inl (fun _ => 0)))] := hD.sub (ws' := [(h0, .inr (5, [.ref q1, .int 0, .ref q2, .int 0])), (q1, .inl (cint, 50, .inl (fun _ => 0))), (q2, .inl (cint, 24, .inl (fun _ => 0)))]) [0, 1, 2] (by decide) rfl
  have hK9 := hK.sub (tys' := [(cint, .int)]) [0] rfl
  refine W.widen (k := 2) (n := 74) (Nat.le_of_ble_eq_true rfl) (Nat.le_of_ble_eq_true rfl) ?_
  exact W.vret hx hb hr (fun t ht hW => ⟨⟨(), rfl, trivial, q1, q2, cint, by rw [ht]; exact hP9, va_K.moved hW.alike hK9, hD9⟩, hS.F ht⟩) hS.2.2 dX5_init_20
set_option maxHeartbeats 4000000 in
set_option maxRecDepth 100000 in
theorem k_X8_init_0 (l : Launch) (dC : Nat → ClassId) (dI : Nat → Nat → Nat) (h0 : Nat) (sz : Nat)  : Met l yX8_init wsX8_init ({ frames := 1, cells := 1, slots := 60, locals := 12 }) (va_Pc [.ref h0] (fun U => U.heap.size = sz ∧ va_P (dC, dI) vwCl [(h0, .inr (8, [.null, .int 0, .int 0, .int 0]))] U.heap ∧ va_K (dC, dI) vwCl [] U ∧ va_D (fun _ => True) [(h0, .inr (8, [.null, .int 0, .int 0, .int 0]))])) (va_Qv (fun (_ : Unit) => True) (fun (_ : Unit) t => ∃ (n0 : Nat) (clong : ClassId) , va_P (dC, dI) vwCl [(h0, .inr (8, [.ref n0, .int (-1), .int 0, .int 0])), (n0, .inl (clong, 60, .inr (.inl (fun _ => 0))))] t.heap ∧ va_K (dC, dI) vwCl [(clong, .long)] t ∧ va_D (va_A [(h0, .inr (8, [.null, .int 0, .int 0, .int 0]))] sz) [(h0, .inr (8, [.ref n0, .int (-1), .int 0, .int 0])), (n0, .inl (clong, 60, .inr (.inl (fun _ => 0))))]) (va_A [(h0, .inr (8, [.null, .int 0, .int 0, .int 0]))] sz)) 1 60 (va_A [(h0, .inr (8, [.null, .int 0, .int 0, .int 0]))] sz) := by
  refine Met.ofW (cc := cX8_init) (maxL := 1) (ret := none) (by decide) rfl ?_
  intro p e s m args below meth c s₁ B hml hv
  obtain ⟨rfl, hsz, hP, hK, hD0⟩ := hv
  have hx := B.exec
  have hb := B.bytes
  have hr := B.returns
  have hts := atoms_spec (ws := wsX8_init) B.pre
  have hown : s.vm.findClass RX8 = some m.cls := findClass_of_methodNamed B.named
  have hlocks := B.notSynchronized
  have hin : meth.name = "<init>" := (name_of_methodNamed B.named B.method).1
  subst hsz
  have hD := hD0.self (sz := s.heap.size)
  generalize hAe : va_A [(h0, .inr (8, [.null, .int 0, .int 0, .int 0]))] s.heap.size = A at hD ⊢
  have hA : ∀ q : Nat, s.heap.size ≤ q → A q := fun q h => by rw [← hAe]; exact Or.inr h
  have hS : va_S A s.heap s.heap [] := va_S.rf
  have hP : va_P (dC, dI) vwCl [(h0, .inr (8, [.null, .int 0, .int 0, .int 0]))] s.heap := hP
  have hl := lv_entry ([.ref h0]) (n := 1) (Nat.le_of_ble_eq_true rfl)
  rw [lg_entry_eq]
  generalize (lg_sl ([.ref h0]) ++ List.replicate (1 - (lg_sl ([.ref h0])).length) Slot.unset).toArray = ls at hl ⊢
  have hl : lv_has ls 1 [(0, .ref h0)] := hl
  refine lv_aload_n hx hb dX8_init_0 rfl (lv_at hl 0 rfl) ?_
  refine W.objInit hx hb hown (hts (.methodLink RX8 3 objectInit) (List.mem_of_getElem? (i := 1) rfl)) (hts (.instanceMethod objectInit) (List.mem_of_getElem? (i := 2) rfl)) (hts (.code objectInit ⟨#[0xb1]⟩ 1 none) (List.mem_of_getElem? (i := 3) rfl)) rfl (by rw [hml]; exact hl.1) rfl dX8_init_1 (Nat.le_of_ble_eq_true rfl) (Nat.le_of_ble_eq_true rfl) ?_
  refine W.eq (g2 := F0 m 4 ls []) rfl ?_
  refine lv_aload_n hx hb dX8_init_4 rfl (lv_at hl 0 rfl) ?_
  refine lv_bipush (v := 60) hx hb dX8_init_5 (by decide) ?_
  refine va_newa (atype := .long) (ty := .long) (a0 := (60, .inr (.inl (fun _ => 0)))) hx hb (hts (.arrayClass .long) (List.mem_of_getElem? (i := 4) rfl)) rfl hK hP hD hS hA (fun _ => rfl) (by decide) rfl (Nat.le_of_ble_eq_true rfl) (Nat.le_of_ble_eq_true rfl) (Nat.le_of_ble_eq_true rfl) dX8_init_7 (fun q1 clong H hK hP hD hS => ?_)
  have hK : va_K (dC, dI) vwCl [(clong, .long)] s := hK
  have hP : va_P (dC, dI) vwCl [(h0, .inr (8, [.null, .int 0, .int 0, .int 0])), (q1, .inl (clong, 60, .inr (.inl (fun _ => 0))))] H := hP
  have hD : va_D A [(h0, .inr (8, [.null, .int 0, .int 0, .int 0])), (q1, .inl (clong, 60, .inr (.inl (fun _ => 0))))] := hD
  refine va_putF (D := (dC, dI)) (ci := 8) (v := .ref q1) (ty := (.array .long)) (C := RX8) (T := TX8) (N := 4) hx hb hts (fun _ h => List.mem_cons_of_mem _ (List.mem_append_right _ h)) tyX8 tyX8_ok nmX8 hown hK hP hD hS 0 rfl rfl 0 (by decide) (hts (.fieldLink RX8 11 "KinkStreet$Shelf" "elements" "[J") (List.mem_of_getElem? (i := 5) rfl)) (fun _ h9 => h9) rfl hin rfl (by decide +kernel) rfl rfl (Nat.le_of_ble_eq_true rfl) dX8_init_9 (fun H locs hP hD hS => ?_)
  have hP : va_P (dC, dI) vwCl [(h0, .inr (8, [.ref q1, .int 0, .int 0, .int 0])), (q1, .inl (clong, 60, .inr (.inl (fun _ => 0))))] H := hP
  have hD : va_D A [(h0, .inr (8, [.ref q1, .int 0, .int 0, .int 0])), (q1, .inl (clong, 60, .inr (.inl (fun _ => 0))))] := hD
  refine lv_aload_n hx hb dX8_init_12 rfl (lv_at hl 0 rfl) ?_
  refine lv_iconst (v := (-1)) hx hb dX8_init_13 (by decide) ?_
  refine va_put (D := (dC, dI)) (ci := 8) (v := .int (-1)) (ty := .int) (C := RX8) (T := TX8) (N := 4) hx hb hts (fun _ h => List.mem_cons_of_mem _ (List.mem_append_right _ h)) tyX8 tyX8_ok nmX8 hown hK hP hD hS 0 rfl rfl 1 (by decide) (hts (.fieldLink RX8 15 "KinkStreet$Shelf" "holds" "I") (List.mem_of_getElem? (i := 6) rfl)) (fun _ h9 => h9) rfl (by decide +kernel) rfl rfl (Nat.le_of_ble_eq_true rfl) dX8_init_14 (fun H locs hP hD hS => ?_)
  have hP : va_P (dC, dI) vwCl [(h0, .inr (8, [.ref q1, .int (-1), .int 0, .int 0])), (q1, .inl (clong, 60, .inr (.inl (fun _ => 0))))] H := hP
  have hD : va_D A [(h0, .inr (8, [.ref q1, .int (-1), .int 0, .int 0])), (q1, .inl (clong, 60, .inr (.inl (fun _ => 0))))] := hD
  have hP9 : va_P (dC, dI) vwCl [(h0, .inr (8, [.ref q1, .int (-1), .int 0, .int 0])), (q1, .inl (clong, 60, .inr (.inl (fun _ => 0))))] H := hP.sub (ws' := [(h0, .inr (8, [.ref q1, .int (-1), .int 0, .int 0])), (q1, .inl (clong, 60, .inr (.inl (fun _ => 0))))]) [0, 1] rfl
  have hD9 : va_D A [(h0, .inr (8, [.ref q1, .int (-1), .int 0, .int 0])), (q1, .inl (clong, 60, .inr (.inl (fun _ => 0))))] := hD.sub (ws' := [(h0, .inr (8, [.ref q1, .int (-1), .int 0, .int 0])), (q1, .inl (clong, 60, .inr (.inl (fun _ => 0))))]) [0, 1] (by decide) rfl
  have hK9 := hK.sub (tys' := [(clong, .long)]) [0] rfl
  refine W.widen (k := 1) (n := 60) (Nat.le_of_ble_eq_true rfl) (Nat.le_of_ble_eq_true rfl) ?_
  exact W.vret hx hb hr (fun t ht hW => ⟨⟨(), rfl, trivial, q1, clong, by rw [ht]; exact hP9, va_K.moved hW.alike hK9, hD9⟩, hS.F ht⟩) hS.2.2 dX8_init_17
