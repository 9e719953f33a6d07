set_option maxHeartbeats 4000000 in
set_option maxRecDepth 100000 in
theorem k_X11_taken_0 (l : Launch) (dC : Nat → ClassId) (dI : Nat → Nat → Nat) (h0 h1 h2 h3 h4 h5 h6 h7 h8 h9 h10 h11 h12 h13 h14 h15 h16 h17 h18 h19 h20 h21 h22 h23 h24 : Nat) (cOShelf : ClassId) (sz : Nat) (p0 : Int32) (p1 : Int32) : Met l yX11_taken wsX11_taken ({ frames := 1, cells := 0, slots := 0, locals := 21 }) (va_Pc [.ref h0, .int p0, .int p1] (fun U => U.heap.size = sz ∧ va_P (dC, dI) vwCl [(h0, .inr (11, [.ref h8, .int 0, .ref h9, .ref h10, .ref h11, .ref h12, .ref h13, .ref h14, .ref h15, .ref h16, .ref h17, .int 0, .ref h18, .ref h1])), (h1, .inl (cOShelf, 6, .inr (.inr (.inr (.inr (va_up (va_up (va_up (va_up (va_up (va_up (fun _ => none) (0 : Int32).toNatClampNeg (some h2)) (1 : Int32).toNatClampNeg (some h3)) (2 : Int32).toNatClampNeg (some h4)) (3 : Int32).toNatClampNeg (some h5)) (4 : Int32).toNatClampNeg (some h6)) (5 : Int32).toNatClampNeg (some h7))))))), (h2, .inr (8, [.ref h19, .int (-1), .int 0, .int 0])), (h3, .inr (8, [.ref h20, .int (-1), .int 0, .int 0])), (h4, .inr (8, [.ref h21, .int (-1), .int 0, .int 0])), (h5, .inr (8, [.ref h22, .int (-1), .int 0, .int 0])), (h6, .inr (8, [.ref h23, .int (-1), .int 0, .int 0])), (h7, .inr (8, [.ref h24, .int (-1), .int 0, .int 0]))] U.heap ∧ va_K (dC, dI) vwCl [(cOShelf, .object "KinkStreet$Shelf")] U ∧ va_D (fun _ => True) [(h0, .inr (11, [.ref h8, .int 0, .ref h9, .ref h10, .ref h11, .ref h12, .ref h13, .ref h14, .ref h15, .ref h16, .ref h17, .int 0, .ref h18, .ref h1])), (h1, .inl (cOShelf, 6, .inr (.inr (.inr (.inr (va_up (va_up (va_up (va_up (va_up (va_up (fun _ => none) (0 : Int32).toNatClampNeg (some h2)) (1 : Int32).toNatClampNeg (some h3)) (2 : Int32).toNatClampNeg (some h4)) (3 : Int32).toNatClampNeg (some h5)) (4 : Int32).toNatClampNeg (some h6)) (5 : Int32).toNatClampNeg (some h7))))))), (h2, .inr (8, [.ref h19, .int (-1), .int 0, .int 0])), (h3, .inr (8, [.ref h20, .int (-1), .int 0, .int 0])), (h4, .inr (8, [.ref h21, .int (-1), .int 0, .int 0])), (h5, .inr (8, [.ref h22, .int (-1), .int 0, .int 0])), (h6, .inr (8, [.ref h23, .int (-1), .int 0, .int 0])), (h7, .inr (8, [.ref h24, .int (-1), .int 0, .int 0]))])) (va_Qi (fun (r : Int32) (_ : Unit) => r = if 0 ≤ p0.toInt ∧ p0.toInt < 6 ∧ 0 ≤ p1.toInt ∧ p1.toInt < 8 then (-11 : Int32) else -1) (fun (_ : Unit) t => va_P (dC, dI) vwCl [] t.heap ∧ va_K (dC, dI) vwCl [] t ∧ va_D (va_A [(h0, .inr (11, [.ref h8, .int 0, .ref h9, .ref h10, .ref h11, .ref h12, .ref h13, .ref h14, .ref h15, .ref h16, .ref h17, .int 0, .ref h18, .ref h1])), (h1, .inl (cOShelf, 6, .inr (.inr (.inr (.inr (va_up (va_up (va_up (va_up (va_up (va_up (fun _ => none) (0 : Int32).toNatClampNeg (some h2)) (1 : Int32).toNatClampNeg (some h3)) (2 : Int32).toNatClampNeg (some h4)) (3 : Int32).toNatClampNeg (some h5)) (4 : Int32).toNatClampNeg (some h6)) (5 : Int32).toNatClampNeg (some h7))))))), (h2, .inr (8, [.ref h19, .int (-1), .int 0, .int 0])), (h3, .inr (8, [.ref h20, .int (-1), .int 0, .int 0])), (h4, .inr (8, [.ref h21, .int (-1), .int 0, .int 0])), (h5, .inr (8, [.ref h22, .int (-1), .int 0, .int 0])), (h6, .inr (8, [.ref h23, .int (-1), .int 0, .int 0])), (h7, .inr (8, [.ref h24, .int (-1), .int 0, .int 0]))] sz) []) (va_A [(h0, .inr (11, [.ref h8, .int 0, .ref h9, .ref h10, .ref h11, .ref h12, .ref h13, .ref h14, .ref h15, .ref h16, .ref h17, .int 0, .ref h18, .ref h1])), (h1, .inl (cOShelf, 6, .inr (.inr (.inr (.inr (va_up (va_up (va_up (va_up (va_up (va_up (fun _ => none) (0 : Int32).toNatClampNeg (some h2)) (1 : Int32).toNatClampNeg (some h3)) (2 : Int32).toNatClampNeg (some h4)) (3 : Int32).toNatClampNeg (some h5)) (4 : Int32).toNatClampNeg (some h6)) (5 : Int32).toNatClampNeg (some h7))))))), (h2, .inr (8, [.ref h19, .int (-1), .int 0, .int 0])), (h3, .inr (8, [.ref h20, .int (-1), .int 0, .int 0])), (h4, .inr (8, [.ref h21, .int (-1), .int 0, .int 0])), (h5, .inr (8, [.ref h22, .int (-1), .int 0, .int 0])), (h6, .inr (8, [.ref h23, .int (-1), .int 0, .int 0])), (h7, .inr (8, [.ref h24, .int (-1), .int 0, .int 0]))] sz)) 0 0 (va_A [(h0, .inr (11, [.ref h8, .int 0, .ref h9, .ref h10, .ref h11, .ref h12, .ref h13, .ref h14, .ref h15, .ref h16, .ref h17, .int 0, .ref h18, .ref h1])), (h1, .inl (cOShelf, 6, .inr (.inr (.inr (.inr (va_up (va_up (va_up (va_up (va_up (va_up (fun _ => none) (0 : Int32).toNatClampNeg (some h2)) (1 : Int32).toNatClampNeg (some h3)) (2 : Int32).toNatClampNeg (some h4)) (3 : Int32).toNatClampNeg (some h5)) (4 : Int32).toNatClampNeg (some h6)) (5 : Int32).toNatClampNeg (some h7))))))), (h2, .inr (8, [.ref h19, .int (-1), .int 0, .int 0])), (h3, .inr (8, [.ref h20, .int (-1), .int 0, .int 0])), (h4, .inr (8, [.ref h21, .int (-1), .int 0, .int 0])), (h5, .inr (8, [.ref h22, .int (-1), .int 0, .int 0])), (h6, .inr (8, [.ref h23, .int (-1), .int 0, .int 0])), (h7, .inr (8, [.ref h24, .int (-1), .int 0, .int 0]))] sz) := by
  refine Met.ofW (cc := cX11_taken) (maxL := 5) (ret := (some .int)) (by decide) rfl ?_
  intro p e s m args below meth c s₁ B hml hv
  obtain ⟨rfl, hsz, hP, hK, hD0⟩ := hv
  have hx := B.exec
  have hb := B.bytes
  have hr := B.returns
  have hts := atoms_spec (ws := wsX11_taken) B.pre
  have hown : s.vm.findClass RX11 = some m.cls := findClass_of_methodNamed B.named
  have hlocks := B.notSynchronized
  subst hsz
  have hD := hD0.self (sz := s.heap.size)
  generalize hAe : va_A [(h0, .inr (11, [.ref h8, .int 0, .ref h9, .ref h10, .ref h11, .ref h12, .ref h13, .ref h14, .ref h15, .ref h16, .ref h17, .int 0, .ref h18, .ref h1])), (h1, .inl (cOShelf, 6, .inr (.inr (.inr (.inr (va_up (va_up (va_up (va_up (va_up (va_up (fun _ => none) (0 : Int32).toNatClampNeg (some h2)) (1 : Int32).toNatClampNeg (some h3)) (2 : Int32).toNatClampNeg (some h4)) (3 : Int32).toNatClampNeg (some h5)) (4 : Int32).toNatClampNeg (some h6)) (5 : Int32).toNatClampNeg (some h7))))))), (h2, .inr (8, [.ref h19, .int (-1), .int 0, .int 0])), (h3, .inr (8, [.ref h20, .int (-1), .int 0, .int 0])), (h4, .inr (8, [.ref h21, .int (-1), .int 0, .int 0])), (h5, .inr (8, [.ref h22, .int (-1), .int 0, .int 0])), (h6, .inr (8, [.ref h23, .int (-1), .int 0, .int 0])), (h7, .inr (8, [.ref h24, .int (-1), .int 0, .int 0]))] s.heap.size = A at hD ⊢
  have hA : ∀ q : Nat, s.heap.size ≤ q → A q := fun q h => by rw [← hAe]; exact Or.inr h
  have hS : va_S A s.heap s.heap [] := va_S.rf
  have hP : va_P (dC, dI) vwCl [(h0, .inr (11, [.ref h8, .int 0, .ref h9, .ref h10, .ref h11, .ref h12, .ref h13, .ref h14, .ref h15, .ref h16, .ref h17, .int 0, .ref h18, .ref h1])), (h1, .inl (cOShelf, 6, .inr (.inr (.inr (.inr (va_up (va_up (va_up (va_up (va_up (va_up (fun _ => none) (0 : Int32).toNatClampNeg (some h2)) (1 : Int32).toNatClampNeg (some h3)) (2 : Int32).toNatClampNeg (some h4)) (3 : Int32).toNatClampNeg (some h5)) (4 : Int32).toNatClampNeg (some h6)) (5 : Int32).toNatClampNeg (some h7))))))), (h2, .inr (8, [.ref h19, .int (-1), .int 0, .int 0])), (h3, .inr (8, [.ref h20, .int (-1), .int 0, .int 0])), (h4, .inr (8, [.ref h21, .int (-1), .int 0, .int 0])), (h5, .inr (8, [.ref h22, .int (-1), .int 0, .int 0])), (h6, .inr (8, [.ref h23, .int (-1), .int 0, .int 0])), (h7, .inr (8, [.ref h24, .int (-1), .int 0, .int 0]))] s.heap := hP
  have hl := lv_entry ([.ref h0, .int p0, .int p1]) (n := 5) (Nat.le_of_ble_eq_true rfl)
  rw [lg_entry_eq]
  generalize (lg_sl ([.ref h0, .int p0, .int p1]) ++ List.replicate (5 - (lg_sl ([.ref h0, .int p0, .int p1])).length) Slot.unset).toArray = ls at hl ⊢
  have hl : lv_has ls 5 [(0, .ref h0), (1, .int p0), (2, .int p1)] := hl
  refine lv_aload_n hx hb dX11_taken_0 rfl (lv_at hl 0 rfl) ?_
  refine lv_iload_n hx hb dX11_taken_1 rfl (lv_at hl 1 rfl) ?_
  have hPc := hP.sub (ws' := [(h0, .inr (11, [.ref h8, .int 0, .ref h9, .ref h10, .ref h11, .ref h12, .ref h13, .ref h14, .ref h15, .ref h16, .ref h17, .int 0, .ref h18, .ref h1])), (h1, .inl (cOShelf, 6, .inr (.inr (.inr (.inr (va_up (va_up (va_up (va_up (va_up (va_up (fun _ => none) (0 : Int32).toNatClampNeg (some h2)) (1 : Int32).toNatClampNeg (some h3)) (2 : Int32).toNatClampNeg (some h4)) (3 : Int32).toNatClampNeg (some h5)) (4 : Int32).toNatClampNeg (some h6)) (5 : Int32).toNatClampNeg (some h7)))))))]) [0, 1] rfl
  have hDc := hD.sub (ws' := [(h0, .inr (11, [.ref h8, .int 0, .ref h9, .ref h10, .ref h11, .ref h12, .ref h13, .ref h14, .ref h15, .ref h16, .ref h17, .int 0, .ref h18, .ref h1])), (h1, .inl (cOShelf, 6, .inr (.inr (.inr (.inr (va_up (va_up (va_up (va_up (va_up (va_up (fun _ => none) (0 : Int32).toNatClampNeg (some h2)) (1 : Int32).toNatClampNeg (some h3)) (2 : Int32).toNatClampNeg (some h4)) (3 : Int32).toNatClampNeg (some h5)) (4 : Int32).toNatClampNeg (some h6)) (5 : Int32).toNatClampNeg (some h7)))))))]) [0, 1] (by decide) rfl
  have hKc := hK.sub (tys' := [(cOShelf, .object "KinkStreet$Shelf")]) [0] rfl
  have hFc := va_free (wc := [(h0, .inr (11, [.ref h8, .int 0, .ref h9, .ref h10, .ref h11, .ref h12, .ref h13, .ref h14, .ref h15, .ref h16, .ref h17, .int 0, .ref h18, .ref h1])), (h1, .inl (cOShelf, 6, .inr (.inr (.inr (.inr (va_up (va_up (va_up (va_up (va_up (va_up (fun _ => none) (0 : Int32).toNatClampNeg (some h2)) (1 : Int32).toNatClampNeg (some h3)) (2 : Int32).toNatClampNeg (some h4)) (3 : Int32).toNatClampNeg (some h5)) (4 : Int32).toNatClampNeg (some h6)) (5 : Int32).toNatClampNeg (some h7)))))))]) hD hS hA [0, 1] rfl
  refine va_callq (va_runV (As := [.int p0]) (rest := []) ⟨hx, hb, hml, hown, hts⟩ (k_X11_knownShelf_0 l dC dI h0 h1 h8 h9 h10 h11 h12 h13 h14 h15 h16 h17 h18 h2 h3 h4 h5 h6 h7 cOShelf s.heap.size p0) (cwV 1 hts gX11_taken_X11_knownShelf rfl rfl rfl (by decide +kernel) ⟨Nat.le_of_ble_eq_true rfl, Nat.le_of_ble_eq_true rfl⟩) ⟨fun a U g mk q => by obtain ⟨q0, q1, qP, qK, qD⟩ := q; exact ⟨q0, q1, qP, va_K.moved (u := U) (U := U.calling g mk a) (Vm.Alike.refl U.vm) qK, qD⟩, va_recv hKc hPc (ci := 11) (q0 := 0) rfl rfl, fun U hU hW => ⟨rfl, by rw [hU], by rw [hU]; exact hPc, va_K.moved hW.alike hKc, hDc.weaken (fun _ _ _ _ => trivial)⟩⟩ rfl rfl hl.1 rfl (lv_room (Nat.le_of_ble_eq_true rfl)) dX11_taken_2 ⟨Nat.le_of_ble_eq_true rfl, Nat.le_of_ble_eq_true rfl⟩) hS (fun q _ h => hFc q h) hFc (fun r_1 u t H1 locs ht hvm hw hB hz1 hk1 hS => ?_)
  obtain ⟨hP1, hK1, hD1⟩ := hB
  rw [ht] at hP1
  have hK1 := va_K.moved hvm.symm hK1
  obtain ⟨hP, hD⟩ := va_join (wr := [(h2, .inr (8, [.ref h19, .int (-1), .int 0, .int 0])), (h3, .inr (8, [.ref h20, .int (-1), .int 0, .int 0])), (h4, .inr (8, [.ref h21, .int (-1), .int 0, .int 0])), (h5, .inr (8, [.ref h22, .int (-1), .int 0, .int 0])), (h6, .inr (8, [.ref h23, .int (-1), .int 0, .int 0])), (h7, .inr (8, [.ref h24, .int (-1), .int 0, .int 0]))]) (w1 := [(h0, .inr (11, [.ref h8, .int 0, .ref h9, .ref h10, .ref h11, .ref h12, .ref h13, .ref h14, .ref h15, .ref h16, .ref h17, .int 0, .ref h18, .ref h1])), (h1, .inl (cOShelf, 6, .inr (.inr (.inr (.inr (va_up (va_up (va_up (va_up (va_up (va_up (fun _ => none) (0 : Int32).toNatClampNeg (some h2)) (1 : Int32).toNatClampNeg (some h3)) (2 : Int32).toNatClampNeg (some h4)) (3 : Int32).toNatClampNeg (some h5)) (4 : Int32).toNatClampNeg (some h6)) (5 : Int32).toNatClampNeg (some h7)))))))]) hP hD [0, 1] [2, 3, 4, 5, 6, 7] rfl rfl (by decide) (by decide) hk1 hFc hP1 hD1
  generalize H1 = H at hP hS ⊢
  have hP : va_P (dC, dI) vwCl [(h2, .inr (8, [.ref h19, .int (-1), .int 0, .int 0])), (h3, .inr (8, [.ref h20, .int (-1), .int 0, .int 0])), (h4, .inr (8, [.ref h21, .int (-1), .int 0, .int 0])), (h5, .inr (8, [.ref h22, .int (-1), .int 0, .int 0])), (h6, .inr (8, [.ref h23, .int (-1), .int 0, .int 0])), (h7, .inr (8, [.ref h24, .int (-1), .int 0, .int 0])), (h0, .inr (11, [.ref h8, .int 0, .ref h9, .ref h10, .ref h11, .ref h12, .ref h13, .ref h14, .ref h15, .ref h16, .ref h17, .int 0, .ref h18, .ref h1])), (h1, .inl (cOShelf, 6, .inr (.inr (.inr (.inr (va_up (va_up (va_up (va_up (va_up (va_up (fun _ => none) (0 : Int32).toNatClampNeg (some h2)) (1 : Int32).toNatClampNeg (some h3)) (2 : Int32).toNatClampNeg (some h4)) (3 : Int32).toNatClampNeg (some h5)) (4 : Int32).toNatClampNeg (some h6)) (5 : Int32).toNatClampNeg (some h7)))))))] H := hP
  have hD : va_D A [(h2, .inr (8, [.ref h19, .int (-1), .int 0, .int 0])), (h3, .inr (8, [.ref h20, .int (-1), .int 0, .int 0])), (h4, .inr (8, [.ref h21, .int (-1), .int 0, .int 0])), (h5, .inr (8, [.ref h22, .int (-1), .int 0, .int 0])), (h6, .inr (8, [.ref h23, .int (-1), .int 0, .int 0])), (h7, .inr (8, [.ref h24, .int (-1), .int 0, .int 0])), (h0, .inr (11, [.ref h8, .int 0, .ref h9, .ref h10, .ref h11, .ref h12, .ref h13, .ref h14, .ref h15, .ref h16, .ref h17, .int 0, .ref h18, .ref h1])), (h1, .inl (cOShelf, 6, .inr (.inr (.inr (.inr (va_up (va_up (va_up (va_up (va_up (va_up (fun _ => none) (0 : Int32).toNatClampNeg (some h2)) (1 : Int32).toNatClampNeg (some h3)) (2 : Int32).toNatClampNeg (some h4)) (3 : Int32).toNatClampNeg (some h5)) (4 : Int32).toNatClampNeg (some h6)) (5 : Int32).toNatClampNeg (some h7)))))))] := hD
  rcases hw with ⟨t_1_0, rfl⟩ | ⟨t_1_0, t_1_1, rfl⟩ | ⟨t_1_0, t_1_1, t_1_2, rfl⟩ | ⟨t_1_0, t_1_1, t_1_2, rfl⟩ | ⟨t_1_0, t_1_1, t_1_2, rfl⟩ | ⟨t_1_0, t_1_1, t_1_2, rfl⟩ | ⟨t_1_0, t_1_1, t_1_2, rfl⟩ | ⟨t_1_0, t_1_1, t_1_2, rfl⟩
  · skip
    refine W.eq (g2 := F0 m 5 ls [.null]) rfl ?_
    refine lv_astore_nN (lv' := [(3, .null), (0, .ref h0), (1, .int p0), (2, .int p1)]) hx hb dX11_taken_5 rfl hl (by decide) rfl (fun ls hl => ?_)
    refine lv_aload_nN hx hb dX11_taken_6 rfl (lv_at hl 0 rfl) ?_
    refine lv_ifnullN (tgt := 17) hx hb dX11_taken_7 (by decide) ?_
    refine lv_iconst (v := (-1)) hx hb dX11_taken_17 (by decide) ?_
    have hP9 := hP.sub (ws' := []) [] rfl
    have hD9 := hD.sub (ws' := []) [] (by decide) rfl
    have hK9 := hK.sub (tys' := []) [] rfl
    exact W.iret (v := (-1)) hx hb hr (fun t ht hW => ⟨⟨(-1), (), rfl, by first | rfl | ((repeat' split) <;> first | rfl | (exfalso; omega) | (exact Int32.toInt_inj.mp (by show ((-1) : Int) = _; omega))), by rw [ht]; exact hP9, va_K.moved hW.alike hK9, hD9⟩, hS.F ht⟩) hS.2.2 dX11_taken_18
  · skip
    refine W.eq (g2 := F0 m 5 ls [.null]) rfl ?_
    refine lv_astore_nN (lv' := [(3, .null), (0, .ref h0), (1, .int p0), (2, .int p1)]) hx hb dX11_taken_5 rfl hl (by decide) rfl (fun ls hl => ?_)
    refine lv_aload_nN hx hb dX11_taken_6 rfl (lv_at hl 0 rfl) ?_
    refine lv_ifnullN (tgt := 17) hx hb dX11_taken_7 (by decide) ?_
    refine lv_iconst (v := (-1)) hx hb dX11_taken_17 (by decide) ?_
    have hP9 := hP.sub (ws' := []) [] rfl
    have hD9 := hD.sub (ws' := []) [] (by decide) rfl
    have hK9 := hK.sub (tys' := []) [] rfl
    exact W.iret (v := (-1)) hx hb hr (fun t ht hW => ⟨⟨(-1), (), rfl, by first | rfl | ((repeat' split) <;> first | rfl | (exfalso; omega) | (exact Int32.toInt_inj.mp (by show ((-1) : Int) = _; omega))), by rw [ht]; exact hP9, va_K.moved hW.alike hK9, hD9⟩, hS.F ht⟩) hS.2.2 dX11_taken_18
  · skip
    refine W.eq (g2 := F0 m 5 ls [.ref h2]) rfl ?_
    refine lv_astore_n (lv' := [(3, .ref h2), (0, .ref h0), (1, .int p0), (2, .int p1)]) hx hb dX11_taken_5 rfl hl (by decide) rfl (fun ls hl => ?_)
    refine lv_aload_n hx hb dX11_taken_6 rfl (lv_at hl 0 rfl) ?_
    refine lv_ifnull hx hb dX11_taken_7 ?_
    refine lv_iload_n hx hb dX11_taken_10 rfl (lv_at hl 3 rfl) ?_
    have hPc := hP.sub (ws' := []) [] rfl
    have hDc := hD.sub (ws' := []) [] (by decide) rfl
    have hKc := hK.sub (tys' := []) [] rfl
    have hFc := va_free (wc := []) hD hS hA [] rfl
    refine va_calli (va_runS (As := [.int p1]) (rest := []) ⟨hx, hb, hml, hown, hts⟩ (k_X5_isKind_0 l dC dI H.size p1) (va_cwS 1 hts gX11_taken_X5_isKind rfl rfl rfl (by decide +kernel) ⟨Nat.le_of_ble_eq_true rfl, Nat.le_of_ble_eq_true rfl⟩) ⟨fun a U g mk q => by obtain ⟨q0, q1, qP, qK, qD⟩ := q; exact ⟨q0, q1, qP, va_K.moved (u := U) (U := U.calling g mk a) (Vm.Alike.refl U.vm) qK, qD⟩, fun U hU hW => ⟨rfl, by rw [hU], by rw [hU]; exact hPc, va_K.moved hW.alike hKc, hDc.weaken (fun _ _ _ _ => trivial)⟩⟩ rfl rfl hl.1 rfl (lv_room (Nat.le_of_ble_eq_true rfl)) dX11_taken_11 ⟨Nat.le_of_ble_eq_true rfl, Nat.le_of_ble_eq_true rfl⟩) hS (fun q _ h => hFc q h) hFc (fun r_2 u t H1 locs ht hvm hw hB hz1 hk1 hS => ?_)
    obtain ⟨hP1, hK1, hD1⟩ := hB
    rw [ht] at hP1
    have hK1 := va_K.moved hvm.symm hK1
    obtain ⟨hP, hD⟩ := va_join (wr := [(h2, .inr (8, [.ref h19, .int (-1), .int 0, .int 0])), (h3, .inr (8, [.ref h20, .int (-1), .int 0, .int 0])), (h4, .inr (8, [.ref h21, .int (-1), .int 0, .int 0])), (h5, .inr (8, [.ref h22, .int (-1), .int 0, .int 0])), (h6, .inr (8, [.ref h23, .int (-1), .int 0, .int 0])), (h7, .inr (8, [.ref h24, .int (-1), .int 0, .int 0])), (h0, .inr (11, [.ref h8, .int 0, .ref h9, .ref h10, .ref h11, .ref h12, .ref h13, .ref h14, .ref h15, .ref h16, .ref h17, .int 0, .ref h18, .ref h1])), (h1, .inl (cOShelf, 6, .inr (.inr (.inr (.inr (va_up (va_up (va_up (va_up (va_up (va_up (fun _ => none) (0 : Int32).toNatClampNeg (some h2)) (1 : Int32).toNatClampNeg (some h3)) (2 : Int32).toNatClampNeg (some h4)) (3 : Int32).toNatClampNeg (some h5)) (4 : Int32).toNatClampNeg (some h6)) (5 : Int32).toNatClampNeg (some h7)))))))]) (w1 := []) hP hD [] [0, 1, 2, 3, 4, 5, 6, 7] rfl rfl (by decide) (by decide) hk1 hFc hP1 hD1
    generalize H1 = H at hP hS ⊢
    have hP : va_P (dC, dI) vwCl [(h2, .inr (8, [.ref h19, .int (-1), .int 0, .int 0])), (h3, .inr (8, [.ref h20, .int (-1), .int 0, .int 0])), (h4, .inr (8, [.ref h21, .int (-1), .int 0, .int 0])), (h5, .inr (8, [.ref h22, .int (-1), .int 0, .int 0])), (h6, .inr (8, [.ref h23, .int (-1), .int 0, .int 0])), (h7, .inr (8, [.ref h24, .int (-1), .int 0, .int 0])), (h0, .inr (11, [.ref h8, .int 0, .ref h9, .ref h10, .ref h11, .ref h12, .ref h13, .ref h14, .ref h15, .ref h16, .ref h17, .int 0, .ref h18, .ref h1])), (h1, .inl (cOShelf, 6, .inr (.inr (.inr (.inr (va_up (va_up (va_up (va_up (va_up (va_up (fun _ => none) (0 : Int32).toNatClampNeg (some h2)) (1 : Int32).toNatClampNeg (some h3)) (2 : Int32).toNatClampNeg (some h4)) (3 : Int32).toNatClampNeg (some h5)) (4 : Int32).toNatClampNeg (some h6)) (5 : Int32).toNatClampNeg (some h7)))))))] H := hP
    have hD : va_D A [(h2, .inr (8, [.ref h19, .int (-1), .int 0, .int 0])), (h3, .inr (8, [.ref h20, .int (-1), .int 0, .int 0])), (h4, .inr (8, [.ref h21, .int (-1), .int 0, .int 0])), (h5, .inr (8, [.ref h22, .int (-1), .int 0, .int 0])), (h6, .inr (8, [.ref h23, .int (-1), .int 0, .int 0])), (h7, .inr (8, [.ref h24, .int (-1), .int 0, .int 0])), (h0, .inr (11, [.ref h8, .int 0, .ref h9, .ref h10, .ref h11, .ref h12, .ref h13, .ref h14, .ref h15, .ref h16, .ref h17, .int 0, .ref h18, .ref h1])), (h1, .inl (cOShelf, 6, .inr (.inr (.inr (.inr (va_up (va_up (va_up (va_up (va_up (va_up (fun _ => none) (0 : Int32).toNatClampNeg (some h2)) (1 : Int32).toNatClampNeg (some h3)) (2 : Int32).toNatClampNeg (some h4)) (3 : Int32).toNatClampNeg (some h5)) (4 : Int32).toNatClampNeg (some h6)) (5 : Int32).toNatClampNeg (some h7)))))))] := hD
    rcases hw with ⟨t_2_0, rfl⟩ | ⟨t_2_0, t_2_1, rfl⟩ | ⟨t_2_0, t_2_1, rfl⟩
    · skip
      refine lv_if_ne (tgt := 19) hx hb dX11_taken_14 (by decide) (fun c => absurd c (by decide)) (fun _ => ?_)
      refine lv_iconst (v := (-1)) hx hb dX11_taken_17 (by decide) ?_
      have hP9 := hP.sub (ws' := []) [] rfl
      have hD9 := hD.sub (ws' := []) [] (by decide) rfl
      have hK9 := hK.sub (tys' := []) [] rfl
      exact W.iret (v := (-1)) hx hb hr (fun t ht hW => ⟨⟨(-1), (), rfl, by first | rfl | ((repeat' split) <;> first | rfl | (exfalso; omega) | (exact Int32.toInt_inj.mp (by show ((-1) : Int) = _; omega))), by rw [ht]; exact hP9, va_K.moved hW.alike hK9, hD9⟩, hS.F ht⟩) hS.2.2 dX11_taken_18
    · skip
      refine lv_if_ne (tgt := 19) hx hb dX11_taken_14 (by decide) (fun c => absurd c (by decide)) (fun _ => ?_)
      refine lv_iconst (v := (-1)) hx hb dX11_taken_17 (by decide) ?_
      have hP9 := hP.sub (ws' := []) [] rfl
      have hD9 := hD.sub (ws' := []) [] (by decide) rfl
      have hK9 := hK.sub (tys' := []) [] rfl
      exact W.iret (v := (-1)) hx hb hr (fun t ht hW => ⟨⟨(-1), (), rfl, by first | rfl | ((repeat' split) <;> first | rfl | (exfalso; omega) | (exact Int32.toInt_inj.mp (by show ((-1) : Int) = _; omega))), by rw [ht]; exact hP9, va_K.moved hW.alike hK9, hD9⟩, hS.F ht⟩) hS.2.2 dX11_taken_18
    · skip
      refine lv_if_ne (tgt := 19) hx hb dX11_taken_14 (by decide) (fun _ => ?_) (fun c => absurd c (by decide))
      refine lv_aload_n hx hb dX11_taken_19 rfl (lv_at hl 0 rfl) ?_
      have hPc := hP.sub (ws' := [(h2, .inr (8, [.ref h19, .int (-1), .int 0, .int 0]))]) [0] rfl
      have hDc := hD.sub (ws' := [(h2, .inr (8, [.ref h19, .int (-1), .int 0, .int 0]))]) [0] (by decide) rfl
      have hKc := hK.sub (tys' := []) [] rfl
      have hFc := va_free (wc := [(h2, .inr (8, [.ref h19, .int (-1), .int 0, .int 0]))]) hD hS hA [0] rfl
      refine va_calli (va_runV (As := []) (rest := []) ⟨hx, hb, hml, hown, hts⟩ (k_X8_isEmpty_0 l dC dI h2 h19 H.size) (cwV 0 hts gX11_taken_X8_isEmpty rfl rfl rfl (by decide +kernel) ⟨Nat.le_of_ble_eq_true rfl, Nat.le_of_ble_eq_true rfl⟩) ⟨fun a U g mk q => by obtain ⟨q0, q1, qP, qK, qD⟩ := q; exact ⟨q0, q1, qP, va_K.moved (u := U) (U := U.calling g mk a) (Vm.Alike.refl U.vm) qK, qD⟩, va_recv hKc hPc (ci := 8) (q0 := 0) rfl rfl, fun U hU hW => ⟨rfl, by rw [hU], by rw [hU]; exact hPc, va_K.moved hW.alike hKc, hDc.weaken (fun _ _ _ _ => trivial)⟩⟩ rfl rfl hl.1 rfl (lv_room (Nat.le_of_ble_eq_true rfl)) dX11_taken_20 ⟨Nat.le_of_ble_eq_true rfl, Nat.le_of_ble_eq_true rfl⟩) hS (fun q _ h => hFc q h) hFc (fun r_3 u t H1 locs ht hvm hw hB hz1 hk1 hS => ?_)
      obtain ⟨hP1, hK1, hD1⟩ := hB
      rw [ht] at hP1
      have hK1 := va_K.moved hvm.symm hK1
      obtain ⟨hP, hD⟩ := va_join (wr := [(h3, .inr (8, [.ref h20, .int (-1), .int 0, .int 0])), (h4, .inr (8, [.ref h21, .int (-1), .int 0, .int 0])), (h5, .inr (8, [.ref h22, .int (-1), .int 0, .int 0])), (h6, .inr (8, [.ref h23, .int (-1), .int 0, .int 0])), (h7, .inr (8, [.ref h24, .int (-1), .int 0, .int 0])), (h0, .inr (11, [.ref h8, .int 0, .ref h9, .ref h10, .ref h11, .ref h12, .ref h13, .ref h14, .ref h15, .ref h16, .ref h17, .int 0, .ref h18, .ref h1])), (h1, .inl (cOShelf, 6, .inr (.inr (.inr (.inr (va_up (va_up (va_up (va_up (va_up (va_up (fun _ => none) (0 : Int32).toNatClampNeg (some h2)) (1 : Int32).toNatClampNeg (some h3)) (2 : Int32).toNatClampNeg (some h4)) (3 : Int32).toNatClampNeg (some h5)) (4 : Int32).toNatClampNeg (some h6)) (5 : Int32).toNatClampNeg (some h7)))))))]) (w1 := [(h2, .inr (8, [.ref h19, .int (-1), .int 0, .int 0]))]) hP hD [0] [1, 2, 3, 4, 5, 6, 7] rfl rfl (by decide) (by decide) hk1 hFc hP1 hD1
      generalize H1 = H at hP hS ⊢
      have hP : va_P (dC, dI) vwCl [(h3, .inr (8, [.ref h20, .int (-1), .int 0, .int 0])), (h4, .inr (8, [.ref h21, .int (-1), .int 0, .int 0])), (h5, .inr (8, [.ref h22, .int (-1), .int 0, .int 0])), (h6, .inr (8, [.ref h23, .int (-1), .int 0, .int 0])), (h7, .inr (8, [.ref h24, .int (-1), .int 0, .int 0])), (h0, .inr (11, [.ref h8, .int 0, .ref h9, .ref h10, .ref h11, .ref h12, .ref h13, .ref h14, .ref h15, .ref h16, .ref h17, .int 0, .ref h18, .ref h1])), (h1, .inl (cOShelf, 6, .inr (.inr (.inr (.inr (va_up (va_up (va_up (va_up (va_up (va_up (fun _ => none) (0 : Int32).toNatClampNeg (some h2)) (1 : Int32).toNatClampNeg (some h3)) (2 : Int32).toNatClampNeg (some h4)) (3 : Int32).toNatClampNeg (some h5)) (4 : Int32).toNatClampNeg (some h6)) (5 : Int32).toNatClampNeg (some h7))))))), (h2, .inr (8, [.ref h19, .int (-1), .int 0, .int 0]))] H := hP
      have hD : va_D A [(h3, .inr (8, [.ref h20, .int (-1), .int 0, .int 0])), (h4, .inr (8, [.ref h21, .int (-1), .int 0, .int 0])), (h5, .inr (8, [.ref h22, .int (-1), .int 0, .int 0])), (h6, .inr (8, [.ref h23, .int (-1), .int 0, .int 0])), (h7, .inr (8, [.ref h24, .int (-1), .int 0, .int 0])), (h0, .inr (11, [.ref h8, .int 0, .ref h9, .ref h10, .ref h11, .ref h12, .ref h13, .ref h14, .ref h15, .ref h16, .ref h17, .int 0, .ref h18, .ref h1])), (h1, .inl (cOShelf, 6, .inr (.inr (.inr (.inr (va_up (va_up (va_up (va_up (va_up (va_up (fun _ => none) (0 : Int32).toNatClampNeg (some h2)) (1 : Int32).toNatClampNeg (some h3)) (2 : Int32).toNatClampNeg (some h4)) (3 : Int32).toNatClampNeg (some h5)) (4 : Int32).toNatClampNeg (some h6)) (5 : Int32).toNatClampNeg (some h7))))))), (h2, .inr (8, [.ref h19, .int (-1), .int 0, .int 0]))] := hD
      obtain rfl := hw
      refine lv_if_eq (tgt := 29) hx hb dX11_taken_23 (by decide) (fun c => absurd c (by decide)) (fun _ => ?_)
      refine lv_bipush (v := (-11)) hx hb dX11_taken_26 (by decide) ?_
      have hP9 := hP.sub (ws' := []) [] rfl
      have hD9 := hD.sub (ws' := []) [] (by decide) rfl
      have hK9 := hK.sub (tys' := []) [] rfl
      exact W.iret (v := (-11)) hx hb hr (fun t ht hW => ⟨⟨(-11), (), rfl, by first | rfl | ((repeat' split) <;> first | rfl | (exfalso; omega) | (exact Int32.toInt_inj.mp (by show ((-11) : Int) = _; omega))), by rw [ht]; exact hP9, va_K.moved hW.alike hK9, hD9⟩, hS.F ht⟩) hS.2.2 dX11_taken_28
  · skip
    refine W.eq (g2 := F0 m 5 ls [.ref h3]) rfl ?_
    refine lv_astore_n (lv' := [(3, .ref h3), (0, .ref h0), (1, .int p0), (2, .int p1)]) hx hb dX11_taken_5 rfl hl (by decide) rfl (fun ls hl => ?_)
    refine lv_aload_n hx hb dX11_taken_6 rfl (lv_at hl 0 rfl) ?_
    refine lv_ifnull hx hb dX11_taken_7 ?_
    refine lv_iload_n hx hb dX11_taken_10 rfl (lv_at hl 3 rfl) ?_
    have hPc := hP.sub (ws' := []) [] rfl
    have hDc := hD.sub (ws' := []) [] (by decide) rfl
    have hKc := hK.sub (tys' := []) [] rfl
    have hFc := va_free (wc := []) hD hS hA [] rfl
    refine va_calli (va_runS (As := [.int p1]) (rest := []) ⟨hx, hb, hml, hown, hts⟩ (k_X5_isKind_0 l dC dI H.size p1) (va_cwS 1 hts gX11_taken_X5_isKind rfl rfl rfl (by decide +kernel) ⟨Nat.le_of_ble_eq_true rfl, Nat.le_of_ble_eq_true rfl⟩) ⟨fun a U g mk q => by obtain ⟨q0, q1, qP, qK, qD⟩ := q; exact ⟨q0, q1, qP, va_K.moved (u := U) (U := U.calling g mk a) (Vm.Alike.refl U.vm) qK, qD⟩, fun U hU hW => ⟨rfl, by rw [hU], by rw [hU]; exact hPc, va_K.moved hW.alike hKc, hDc.weaken (fun _ _ _ _ => trivial)⟩⟩ rfl rfl hl.1 rfl (lv_room (Nat.le_of_ble_eq_true rfl)) dX11_taken_11 ⟨Nat.le_of_ble_eq_true rfl, Nat.le_of_ble_eq_true rfl⟩) hS (fun q _ h => hFc q h) hFc (fun r_4 u t H1 locs ht hvm hw hB hz1 hk1 hS => ?_)
    obtain ⟨hP1, hK1, hD1⟩ := hB
    rw [ht] at hP1
    have hK1 := va_K.moved hvm.symm hK1
    obtain ⟨hP, hD⟩ := va_join (wr := [(h2, .inr (8, [.ref h19, .int (-1), .int 0, .int 0])), (h3, .inr (8, [.ref h20, .int (-1), .int 0, .int 0])), (h4, .inr (8, [.ref h21, .int (-1), .int 0, .int 0])), (h5, .inr (8, [.ref h22, .int (-1), .int 0, .int 0])), (h6, .inr (8, [.ref h23, .int (-1), .int 0, .int 0])), (h7, .inr (8, [.ref h24, .int (-1), .int 0, .int 0])), (h0, .inr (11, [.ref h8, .int 0, .ref h9, .ref h10, .ref h11, .ref h12, .ref h13, .ref h14, .ref h15, .ref h16, .ref h17, .int 0, .ref h18, .ref h1])), (h1, .inl (cOShelf, 6, .inr (.inr (.inr (.inr (va_up (va_up (va_up (va_up (va_up (va_up (fun _ => none) (0 : Int32).toNatClampNeg (some h2)) (1 : Int32).toNatClampNeg (some h3)) (2 : Int32).toNatClampNeg (some h4)) (3 : Int32).toNatClampNeg (some h5)) (4 : Int32).toNatClampNeg (some h6)) (5 : Int32).toNatClampNeg (some h7)))))))]) (w1 := []) hP hD [] [0, 1, 2, 3, 4, 5, 6, 7] rfl rfl (by decide) (by decide) hk1 hFc hP1 hD1
    generalize H1 = H at hP hS ⊢
    have hP : va_P (dC, dI) vwCl [(h2, .inr (8, [.ref h19, .int (-1), .int 0, .int 0])), (h3, .inr (8, [.ref h20, .int (-1), .int 0, .int 0])), (h4, .inr (8, [.ref h21, .int (-1), .int 0, .int 0])), (h5, .inr (8, [.ref h22, .int (-1), .int 0, .int 0])), (h6, .inr (8, [.ref h23, .int (-1), .int 0, .int 0])), (h7, .inr (8, [.ref h24, .int (-1), .int 0, .int 0])), (h0, .inr (11, [.ref h8, .int 0, .ref h9, .ref h10, .ref h11, .ref h12, .ref h13, .ref h14, .ref h15, .ref h16, .ref h17, .int 0, .ref h18, .ref h1])), (h1, .inl (cOShelf, 6, .inr (.inr (.inr (.inr (va_up (va_up (va_up (va_up (va_up (va_up (fun _ => none) (0 : Int32).toNatClampNeg (some h2)) (1 : Int32).toNatClampNeg (some h3)) (2 : Int32).toNatClampNeg (some h4)) (3 : Int32).toNatClampNeg (some h5)) (4 : Int32).toNatClampNeg (some h6)) (5 : Int32).toNatClampNeg (some h7)))))))] H := hP
    have hD : va_D A [(h2, .inr (8, [.ref h19, .int (-1), .int 0, .int 0])), (h3, .inr (8, [.ref h20, .int (-1), .int 0, .int 0])), (h4, .inr (8, [.ref h21, .int (-1), .int 0, .int 0])), (h5, .inr (8, [.ref h22, .int (-1), .int 0, .int 0])), (h6, .inr (8, [.ref h23, .int (-1), .int 0, .int 0])), (h7, .inr (8, [.ref h24, .int (-1), .int 0, .int 0])), (h0, .inr (11, [.ref h8, .int 0, .ref h9, .ref h10, .ref h11, .ref h12, .ref h13, .ref h14, .ref h15, .ref h16, .ref h17, .int 0, .ref h18, .ref h1])), (h1, .inl (cOShelf, 6, .inr (.inr (.inr (.inr (va_up (va_up (va_up (va_up (va_up (va_up (fun _ => none) (0 : Int32).toNatClampNeg (some h2)) (1 : Int32).toNatClampNeg (some h3)) (2 : Int32).toNatClampNeg (some h4)) (3 : Int32).toNatClampNeg (some h5)) (4 : Int32).toNatClampNeg (some h6)) (5 : Int32).toNatClampNeg (some h7)))))))] := hD
    rcases hw with ⟨t_4_0, rfl⟩ | ⟨t_4_0, t_4_1, rfl⟩ | ⟨t_4_0, t_4_1, rfl⟩
    · skip
      refine lv_if_ne (tgt := 19) hx hb dX11_taken_14 (by decide) (fun c => absurd c (by decide)) (fun _ => ?_)
      refine lv_iconst (v := (-1)) hx hb dX11_taken_17 (by decide) ?_
      have hP9 := hP.sub (ws' := []) [] rfl
      have hD9 := hD.sub (ws' := []) [] (by decide) rfl
      have hK9 := hK.sub (tys' := []) [] rfl
      exact W.iret (v := (-1)) hx hb hr (fun t ht hW => ⟨⟨(-1), (), rfl, by first | rfl | ((repeat' split) <;> first | rfl | (exfalso; omega) | (exact Int32.toInt_inj.mp (by show ((-1) : Int) = _; omega))), by rw [ht]; exact hP9, va_K.moved hW.alike hK9, hD9⟩, hS.F ht⟩) hS.2.2 dX11_taken_18
    · skip
      refine lv_if_ne (tgt := 19) hx hb dX11_taken_14 (by decide) (fun c => absurd c (by decide)) (fun _ => ?_)
      refine lv_iconst (v := (-1)) hx hb dX11_taken_17 (by decide) ?_
      have hP9 := hP.sub (ws' := []) [] rfl
      have hD9 := hD.sub (ws' := []) [] (by decide) rfl
      have hK9 := hK.sub (tys' := []) [] rfl
      exact W.iret (v := (-1)) hx hb hr (fun t ht hW => ⟨⟨(-1), (), rfl, by first | rfl | ((repeat' split) <;> first | rfl | (exfalso; omega) | (exact Int32.toInt_inj.mp (by show ((-1) : Int) = _; omega))), by rw [ht]; exact hP9, va_K.moved hW.alike hK9, hD9⟩, hS.F ht⟩) hS.2.2 dX11_taken_18
    · skip
      refine lv_if_ne (tgt := 19) hx hb dX11_taken_14 (by decide) (fun _ => ?_) (fun c => absurd c (by decide))
      refine lv_aload_n hx hb dX11_taken_19 rfl (lv_at hl 0 rfl) ?_
      have hPc := hP.sub (ws' := [(h3, .inr (8, [.ref h20, .int (-1), .int 0, .int 0]))]) [1] rfl
      have hDc := hD.sub (ws' := [(h3, .inr (8, [.ref h20, .int (-1), .int 0, .int 0]))]) [1] (by decide) rfl
      have hKc := hK.sub (tys' := []) [] rfl
      have hFc := va_free (wc := [(h3, .inr (8, [.ref h20, .int (-1), .int 0, .int 0]))]) hD hS hA [1] rfl
      refine va_calli (va_runV (As := []) (rest := []) ⟨hx, hb, hml, hown, hts⟩ (k_X8_isEmpty_0 l dC dI h3 h20 H.size) (cwV 0 hts gX11_taken_X8_isEmpty rfl rfl rfl (by decide +kernel) ⟨Nat.le_of_ble_eq_true rfl, Nat.le_of_ble_eq_true rfl⟩) ⟨fun a U g mk q => by obtain ⟨q0, q1, qP, qK, qD⟩ := q; exact ⟨q0, q1, qP, va_K.moved (u := U) (U := U.calling g mk a) (Vm.Alike.refl U.vm) qK, qD⟩, va_recv hKc hPc (ci := 8) (q0 := 0) rfl rfl, fun U hU hW => ⟨rfl, by rw [hU], by rw [hU]; exact hPc, va_K.moved hW.alike hKc, hDc.weaken (fun _ _ _ _ => trivial)⟩⟩ rfl rfl hl.1 rfl (lv_room (Nat.le_of_ble_eq_true rfl)) dX11_taken_20 ⟨Nat.le_of_ble_eq_true rfl, Nat.le_of_ble_eq_true rfl⟩) hS (fun q _ h => hFc q h) hFc (fun r_5 u t H1 locs ht hvm hw hB hz1 hk1 hS => ?_)
      obtain ⟨hP1, hK1, hD1⟩ := hB
      rw [ht] at hP1
      have hK1 := va_K.moved hvm.symm hK1
      obtain ⟨hP, hD⟩ := va_join (wr := [(h2, .inr (8, [.ref h19, .int (-1), .int 0, .int 0])), (h4, .inr (8, [.ref h21, .int (-1), .int 0, .int 0])), (h5, .inr (8, [.ref h22, .int (-1), .int 0, .int 0])), (h6, .inr (8, [.ref h23, .int (-1), .int 0, .int 0])), (h7, .inr (8, [.ref h24, .int (-1), .int 0, .int 0])), (h0, .inr (11, [.ref h8, .int 0, .ref h9, .ref h10, .ref h11, .ref h12, .ref h13, .ref h14, .ref h15, .ref h16, .ref h17, .int 0, .ref h18, .ref h1])), (h1, .inl (cOShelf, 6, .inr (.inr (.inr (.inr (va_up (va_up (va_up (va_up (va_up (va_up (fun _ => none) (0 : Int32).toNatClampNeg (some h2)) (1 : Int32).toNatClampNeg (some h3)) (2 : Int32).toNatClampNeg (some h4)) (3 : Int32).toNatClampNeg (some h5)) (4 : Int32).toNatClampNeg (some h6)) (5 : Int32).toNatClampNeg (some h7)))))))]) (w1 := [(h3, .inr (8, [.ref h20, .int (-1), .int 0, .int 0]))]) hP hD [1] [0, 2, 3, 4, 5, 6, 7] rfl rfl (by decide) (by decide) hk1 hFc hP1 hD1
      generalize H1 = H at hP hS ⊢
      have hP : va_P (dC, dI) vwCl [(h2, .inr (8, [.ref h19, .int (-1), .int 0, .int 0])), (h4, .inr (8, [.ref h21, .int (-1), .int 0, .int 0])), (h5, .inr (8, [.ref h22, .int (-1), .int 0, .int 0])), (h6, .inr (8, [.ref h23, .int (-1), .int 0, .int 0])), (h7, .inr (8, [.ref h24, .int (-1), .int 0, .int 0])), (h0, .inr (11, [.ref h8, .int 0, .ref h9, .ref h10, .ref h11, .ref h12, .ref h13, .ref h14, .ref h15, .ref h16, .ref h17, .int 0, .ref h18, .ref h1])), (h1, .inl (cOShelf, 6, .inr (.inr (.inr (.inr (va_up (va_up (va_up (va_up (va_up (va_up (fun _ => none) (0 : Int32).toNatClampNeg (some h2)) (1 : Int32).toNatClampNeg (some h3)) (2 : Int32).toNatClampNeg (some h4)) (3 : Int32).toNatClampNeg (some h5)) (4 : Int32).toNatClampNeg (some h6)) (5 : Int32).toNatClampNeg (some h7))))))), (h3, .inr (8, [.ref h20, .int (-1), .int 0, .int 0]))] H := hP
      have hD : va_D A [(h2, .inr (8, [.ref h19, .int (-1), .int 0, .int 0])), (h4, .inr (8, [.ref h21, .int (-1), .int 0, .int 0])), (h5, .inr (8, [.ref h22, .int (-1), .int 0, .int 0])), (h6, .inr (8, [.ref h23, .int (-1), .int 0, .int 0])), (h7, .inr (8, [.ref h24, .int (-1), .int 0, .int 0])), (h0, .inr (11, [.ref h8, .int 0, .ref h9, .ref h10, .ref h11, .ref h12, .ref h13, .ref h14, .ref h15, .ref h16, .ref h17, .int 0, .ref h18, .ref h1])), (h1, .inl (cOShelf, 6, .inr (.inr (.inr (.inr (va_up (va_up (va_up (va_up (va_up (va_up (fun _ => none) (0 : Int32).toNatClampNeg (some h2)) (1 : Int32).toNatClampNeg (some h3)) (2 : Int32).toNatClampNeg (some h4)) (3 : Int32).toNatClampNeg (some h5)) (4 : Int32).toNatClampNeg (some h6)) (5 : Int32).toNatClampNeg (some h7))))))), (h3, .inr (8, [.ref h20, .int (-1), .int 0, .int 0]))] := hD
      obtain rfl := hw
      refine lv_if_eq (tgt := 29) hx hb dX11_taken_23 (by decide) (fun c => absurd c (by decide)) (fun _ => ?_)
      refine lv_bipush (v := (-11)) hx hb dX11_taken_26 (by decide) ?_
      have hP9 := hP.sub (ws' := []) [] rfl
      have hD9 := hD.sub (ws' := []) [] (by decide) rfl
      have hK9 := hK.sub (tys' := []) [] rfl
      exact W.iret (v := (-11)) hx hb hr (fun t ht hW => ⟨⟨(-11), (), rfl, by first | rfl | ((repeat' split) <;> first | rfl | (exfalso; omega) | (exact Int32.toInt_inj.mp (by show ((-11) : Int) = _; omega))), by rw [ht]; exact hP9, va_K.moved hW.alike hK9, hD9⟩, hS.F ht⟩) hS.2.2 dX11_taken_28
  · skip
    refine W.eq (g2 := F0 m 5 ls [.ref h4]) rfl ?_
    refine lv_astore_n (lv' := [(3, .ref h4), (0, .ref h0), (1, .int p0), (2, .int p1)]) hx hb dX11_taken_5 rfl hl (by decide) rfl (fun ls hl => ?_)
    refine lv_aload_n hx hb dX11_taken_6 rfl (lv_at hl 0 rfl) ?_
    refine lv_ifnull hx hb dX11_taken_7 ?_
    refine lv_iload_n hx hb dX11_taken_10 rfl (lv_at hl 3 rfl) ?_
    have hPc := hP.sub (ws' := []) [] rfl
    have hDc := hD.sub (ws' := []) [] (by decide) rfl
    have hKc := hK.sub (tys' := []) [] rfl
    have hFc := va_free (wc := []) hD hS hA [] rfl
    refine va_calli (va_runS (As := [.int p1]) (rest := []) ⟨hx, hb, hml, hown, hts⟩ (k_X5_isKind_0 l dC dI H.size p1) (va_cwS 1 hts gX11_taken_X5_isKind rfl rfl rfl (by decide +kernel) ⟨Nat.le_of_ble_eq_true rfl, Nat.le_of_ble_eq_true rfl⟩) ⟨fun a U g mk q => by obtain ⟨q0, q1, qP, qK, qD⟩ := q; exact ⟨q0, q1, qP, va_K.moved (u := U) (U := U.calling g mk a) (Vm.Alike.refl U.vm) qK, qD⟩, fun U hU hW => ⟨rfl, by rw [hU], by rw [hU]; exact hPc, va_K.moved hW.alike hKc, hDc.weaken (fun _ _ _ _ => trivial)⟩⟩ rfl rfl hl.1 rfl (lv_room (Nat.le_of_ble_eq_true rfl)) dX11_taken_11 ⟨Nat.le_of_ble_eq_true rfl, Nat.le_of_ble_eq_true rfl⟩) hS (fun q _ h => hFc q h) hFc (fun r_6 u t H1 locs ht hvm hw hB hz1 hk1 hS => ?_)
    obtain ⟨hP1, hK1, hD1⟩ := hB
    rw [ht] at hP1
    have hK1 := va_K.moved hvm.symm hK1
    obtain ⟨hP, hD⟩ := va_join (wr := [(h2, .inr (8, [.ref h19, .int (-1), .int 0, .int 0])), (h3, .inr (8, [.ref h20, .int (-1), .int 0, .int 0])), (h4, .inr (8, [.ref h21, .int (-1), .int 0, .int 0])), (h5, .inr (8, [.ref h22, .int (-1), .int 0, .int 0])), (h6, .inr (8, [.ref h23, .int (-1), .int 0, .int 0])), (h7, .inr (8, [.ref h24, .int (-1), .int 0, .int 0])), (h0, .inr (11, [.ref h8, .int 0, .ref h9, .ref h10, .ref h11, .ref h12, .ref h13, .ref h14, .ref h15, .ref h16, .ref h17, .int 0, .ref h18, .ref h1])), (h1, .inl (cOShelf, 6, .inr (.inr (.inr (.inr (va_up (va_up (va_up (va_up (va_up (va_up (fun _ => none) (0 : Int32).toNatClampNeg (some h2)) (1 : Int32).toNatClampNeg (some h3)) (2 : Int32).toNatClampNeg (some h4)) (3 : Int32).toNatClampNeg (some h5)) (4 : Int32).toNatClampNeg (some h6)) (5 : Int32).toNatClampNeg (some h7)))))))]) (w1 := []) hP hD [] [0, 1, 2, 3, 4, 5, 6, 7] rfl rfl (by decide) (by decide) hk1 hFc hP1 hD1
    generalize H1 = H at hP hS ⊢
    have hP : va_P (dC, dI) vwCl [(h2, .inr (8, [.ref h19, .int (-1), .int 0, .int 0])), (h3, .inr (8, [.ref h20, .int (-1), .int 0, .int 0])), (h4, .inr (8, [.ref h21, .int (-1), .int 0, .int 0])), (h5, .inr (8, [.ref h22, .int (-1), .int 0, .int 0])), (h6, .inr (8, [.ref h23, .int (-1), .int 0, .int 0])), (h7, .inr (8, [.ref h24, .int (-1), .int 0, .int 0])), (h0, .inr (11, [.ref h8, .int 0, .ref h9, .ref h10, .ref h11, .ref h12, .ref h13, .ref h14, .ref h15, .ref h16, .ref h17, .int 0, .ref h18, .ref h1])), (h1, .inl (cOShelf, 6, .inr (.inr (.inr (.inr (va_up (va_up (va_up (va_up (va_up (va_up (fun _ => none) (0 : Int32).toNatClampNeg (some h2)) (1 : Int32).toNatClampNeg (some h3)) (2 : Int32).toNatClampNeg (some h4)) (3 : Int32).toNatClampNeg (some h5)) (4 : Int32).toNatClampNeg (some h6)) (5 : Int32).toNatClampNeg (some h7)))))))] H := hP
    have hD : va_D A [(h2, .inr (8, [.ref h19, .int (-1), .int 0, .int 0])), (h3, .inr (8, [.ref h20, .int (-1), .int 0, .int 0])), (h4, .inr (8, [.ref h21, .int (-1), .int 0, .int 0])), (h5, .inr (8, [.ref h22, .int (-1), .int 0, .int 0])), (h6, .inr (8, [.ref h23, .int (-1), .int 0, .int 0])), (h7, .inr (8, [.ref h24, .int (-1), .int 0, .int 0])), (h0, .inr (11, [.ref h8, .int 0, .ref h9, .ref h10, .ref h11, .ref h12, .ref h13, .ref h14, .ref h15, .ref h16, .ref h17, .int 0, .ref h18, .ref h1])), (h1, .inl (cOShelf, 6, .inr (.inr (.inr (.inr (va_up (va_up (va_up (va_up (va_up (va_up (fun _ => none) (0 : Int32).toNatClampNeg (some h2)) (1 : Int32).toNatClampNeg (some h3)) (2 : Int32).toNatClampNeg (some h4)) (3 : Int32).toNatClampNeg (some h5)) (4 : Int32).toNatClampNeg (some h6)) (5 : Int32).toNatClampNeg (some h7)))))))] := hD
    rcases hw with ⟨t_6_0, rfl⟩ | ⟨t_6_0, t_6_1, rfl⟩ | ⟨t_6_0, t_6_1, rfl⟩
    · skip
      refine lv_if_ne (tgt := 19) hx hb dX11_taken_14 (by decide) (fun c => absurd c (by decide)) (fun _ => ?_)
      refine lv_iconst (v := (-1)) hx hb dX11_taken_17 (by decide) ?_
      have hP9 := hP.sub (ws' := []) [] rfl
      have hD9 := hD.sub (ws' := []) [] (by decide) rfl
      have hK9 := hK.sub (tys' := []) [] rfl
      exact W.iret (v := (-1)) hx hb hr (fun t ht hW => ⟨⟨(-1), (), rfl, by first | rfl | ((repeat' split) <;> first | rfl | (exfalso; omega) | (exact Int32.toInt_inj.mp (by show ((-1) : Int) = _; omega))), by rw [ht]; exact hP9, va_K.moved hW.alike hK9, hD9⟩, hS.F ht⟩) hS.2.2 dX11_taken_18
    · skip
      refine lv_if_ne (tgt := 19) hx hb dX11_taken_14 (by decide) (fun c => absurd c (by decide)) (fun _ => ?_)
      refine lv_iconst (v := (-1)) hx hb dX11_taken_17 (by decide) ?_
      have hP9 := hP.sub (ws' := []) [] rfl
      have hD9 := hD.sub (ws' := []) [] (by decide) rfl
      have hK9 := hK.sub (tys' := []) [] rfl
      exact W.iret (v := (-1)) hx hb hr (fun t ht hW => ⟨⟨(-1), (), rfl, by first | rfl | ((repeat' split) <;> first | rfl | (exfalso; omega) | (exact Int32.toInt_inj.mp (by show ((-1) : Int) = _; omega))), by rw [ht]; exact hP9, va_K.moved hW.alike hK9, hD9⟩, hS.F ht⟩) hS.2.2 dX11_taken_18
    · skip
      refine lv_if_ne (tgt := 19) hx hb dX11_taken_14 (by decide) (fun _ => ?_) (fun c => absurd c (by decide))
      refine lv_aload_n hx hb dX11_taken_19 rfl (lv_at hl 0 rfl) ?_
      have hPc := hP.sub (ws' := [(h4, .inr (8, [.ref h21, .int (-1), .int 0, .int 0]))]) [2] rfl
      have hDc := hD.sub (ws' := [(h4, .inr (8, [.ref h21, .int (-1), .int 0, .int 0]))]) [2] (by decide) rfl
      have hKc := hK.sub (tys' := []) [] rfl
      have hFc := va_free (wc := [(h4, .inr (8, [.ref h21, .int (-1), .int 0, .int 0]))]) hD hS hA [2] rfl
      refine va_calli (va_runV (As := []) (rest := []) ⟨hx, hb, hml, hown, hts⟩ (k_X8_isEmpty_0 l dC dI h4 h21 H.size) (cwV 0 hts gX11_taken_X8_isEmpty rfl rfl rfl (by decide +kernel) ⟨Nat.le_of_ble_eq_true rfl, Nat.le_of_ble_eq_true rfl⟩) ⟨fun a U g mk q => by obtain ⟨q0, q1, qP, qK, qD⟩ := q; exact ⟨q0, q1, qP, va_K.moved (u := U) (U := U.calling g mk a) (Vm.Alike.refl U.vm) qK, qD⟩, va_recv hKc hPc (ci := 8) (q0 := 0) rfl rfl, fun U hU hW => ⟨rfl, by rw [hU], by rw [hU]; exact hPc, va_K.moved hW.alike hKc, hDc.weaken (fun _ _ _ _ => trivial)⟩⟩ rfl rfl hl.1 rfl (lv_room (Nat.le_of_ble_eq_true rfl)) dX11_taken_20 ⟨Nat.le_of_ble_eq_true rfl, Nat.le_of_ble_eq_true rfl⟩) hS (fun q _ h => hFc q h) hFc (fun r_7 u t H1 locs ht hvm hw hB hz1 hk1 hS => ?_)
      obtain ⟨hP1, hK1, hD1⟩ := hB
      rw [ht] at hP1
      have hK1 := va_K.moved hvm.symm hK1
      obtain ⟨hP, hD⟩ := va_join (wr := [(h2, .inr (8, [.ref h19, .int (-1), .int 0, .int 0])), (h3, .inr (8, [.ref h20, .int (-1), .int 0, .int 0])), (h5, .inr (8, [.ref h22, .int (-1), .int 0, .int 0])), (h6, .inr (8, [.ref h23, .int (-1), .int 0, .int 0])), (h7, .inr (8, [.ref h24, .int (-1), .int 0, .int 0])), (h0, .inr (11, [.ref h8, .int 0, .ref h9, .ref h10, .ref h11, .ref h12, .ref h13, .ref h14, .ref h15, .ref h16, .ref h17, .int 0, .ref h18, .ref h1])), (h1, .inl (cOShelf, 6, .inr (.inr (.inr (.inr (va_up (va_up (va_up (va_up (va_up (va_up (fun _ => none) (0 : Int32).toNatClampNeg (some h2)) (1 : Int32).toNatClampNeg (some h3)) (2 : Int32).toNatClampNeg (some h4)) (3 : Int32).toNatClampNeg (some h5)) (4 : Int32).toNatClampNeg (some h6)) (5 : Int32).toNatClampNeg (some h7)))))))]) (w1 := [(h4, .inr (8, [.ref h21, .int (-1), .int 0, .int 0]))]) hP hD [2] [0, 1, 3, 4, 5, 6, 7] rfl rfl (by decide) (by decide) hk1 hFc hP1 hD1
      generalize H1 = H at hP hS ⊢
      have hP : va_P (dC, dI) vwCl [(h2, .inr (8, [.ref h19, .int (-1), .int 0, .int 0])), (h3, .inr (8, [.ref h20, .int (-1), .int 0, .int 0])), (h5, .inr (8, [.ref h22, .int (-1), .int 0, .int 0])), (h6, .inr (8, [.ref h23, .int (-1), .int 0, .int 0])), (h7, .inr (8, [.ref h24, .int (-1), .int 0, .int 0])), (h0, .inr (11, [.ref h8, .int 0, .ref h9, .ref h10, .ref h11, .ref h12, .ref h13, .ref h14, .ref h15, .ref h16, .ref h17, .int 0, .ref h18, .ref h1])), (h1, .inl (cOShelf, 6, .inr (.inr (.inr (.inr (va_up (va_up (va_up (va_up (va_up (va_up (fun _ => none) (0 : Int32).toNatClampNeg (some h2)) (1 : Int32).toNatClampNeg (some h3)) (2 : Int32).toNatClampNeg (some h4)) (3 : Int32).toNatClampNeg (some h5)) (4 : Int32).toNatClampNeg (some h6)) (5 : Int32).toNatClampNeg (some h7))))))), (h4, .inr (8, [.ref h21, .int (-1), .int 0, .int 0]))] H := hP
      have hD : va_D A [(h2, .inr (8, [.ref h19, .int (-1), .int 0, .int 0])), (h3, .inr (8, [.ref h20, .int (-1), .int 0, .int 0])), (h5, .inr (8, [.ref h22, .int (-1), .int 0, .int 0])), (h6, .inr (8, [.ref h23, .int (-1), .int 0, .int 0])), (h7, .inr (8, [.ref h24, .int (-1), .int 0, .int 0])), (h0, .inr (11, [.ref h8, .int 0, .ref h9, .ref h10, .ref h11, .ref h12, .ref h13, .ref h14, .ref h15, .ref h16, .ref h17, .int 0, .ref h18, .ref h1])), (h1, .inl (cOShelf, 6, .inr (.inr (.inr (.inr (va_up (va_up (va_up (va_up (va_up (va_up (fun _ => none) (0 : Int32).toNatClampNeg (some h2)) (1 : Int32).toNatClampNeg (some h3)) (2 : Int32).toNatClampNeg (some h4)) (3 : Int32).toNatClampNeg (some h5)) (4 : Int32).toNatClampNeg (some h6)) (5 : Int32).toNatClampNeg (some h7))))))), (h4, .inr (8, [.ref h21, .int (-1), .int 0, .int 0]))] := hD
      obtain rfl := hw
      refine lv_if_eq (tgt := 29) hx hb dX11_taken_23 (by decide) (fun c => absurd c (by decide)) (fun _ => ?_)
      refine lv_bipush (v := (-11)) hx hb dX11_taken_26 (by decide) ?_
      have hP9 := hP.sub (ws' := []) [] rfl
      have hD9 := hD.sub (ws' := []) [] (by decide) rfl
      have hK9 := hK.sub (tys' := []) [] rfl
      exact W.iret (v := (-11)) hx hb hr (fun t ht hW => ⟨⟨(-11), (), rfl, by first | rfl | ((repeat' split) <;> first | rfl | (exfalso; omega) | (exact Int32.toInt_inj.mp (by show ((-11) : Int) = _; omega))), by rw [ht]; exact hP9, va_K.moved hW.alike hK9, hD9⟩, hS.F ht⟩) hS.2.2 dX11_taken_28
  · skip
    refine W.eq (g2 := F0 m 5 ls [.ref h5]) rfl ?_
    refine lv_astore_n (lv' := [(3, .ref h5), (0, .ref h0), (1, .int p0), (2, .int p1)]) hx hb dX11_taken_5 rfl hl (by decide) rfl (fun ls hl => ?_)
    refine lv_aload_n hx hb dX11_taken_6 rfl (lv_at hl 0 rfl) ?_
    refine lv_ifnull hx hb dX11_taken_7 ?_
    refine lv_iload_n hx hb dX11_taken_10 rfl (lv_at hl 3 rfl) ?_
    have hPc := hP.sub (ws' := []) [] rfl
    have hDc := hD.sub (ws' := []) [] (by decide) rfl
    have hKc := hK.sub (tys' := []) [] rfl
    have hFc := va_free (wc := []) hD hS hA [] rfl
    refine va_calli (va_runS (As := [.int p1]) (rest := []) ⟨hx, hb, hml, hown, hts⟩ (k_X5_isKind_0 l dC dI H.size p1) (va_cwS 1 hts gX11_taken_X5_isKind rfl rfl rfl (by decide +kernel) ⟨Nat.le_of_ble_eq_true rfl, Nat.le_of_ble_eq_true rfl⟩) ⟨fun a U g mk q => by obtain ⟨q0, q1, qP, qK, qD⟩ := q; exact ⟨q0, q1, qP, va_K.moved (u := U) (U := U.calling g mk a) (Vm.Alike.refl U.vm) qK, qD⟩, fun U hU hW => ⟨rfl, by rw [hU], by rw [hU]; exact hPc, va_K.moved hW.alike hKc, hDc.weaken (fun _ _ _ _ => trivial)⟩⟩ rfl rfl hl.1 rfl (lv_room (Nat.le_of_ble_eq_true rfl)) dX11_taken_11 ⟨Nat.le_of_ble_eq_true rfl, Nat.le_of_ble_eq_true rfl⟩) hS (fun q _ h => hFc q h) hFc (fun r_8 u t H1 locs ht hvm hw hB hz1 hk1 hS => ?_)
    obtain ⟨hP1, hK1, hD1⟩ := hB
    rw [ht] at hP1
    have hK1 := va_K.moved hvm.symm hK1
    obtain ⟨hP, hD⟩ := va_join (wr := [(h2, .inr (8, [.ref h19, .int (-1), .int 0, .int 0])), (h3, .inr (8, [.ref h20, .int (-1), .int 0, .int 0])), (h4, .inr (8, [.ref h21, .int (-1), .int 0, .int 0])), (h5, .inr (8, [.ref h22, .int (-1), .int 0, .int 0])), (h6, .inr (8, [.ref h23, .int (-1), .int 0, .int 0])), (h7, .inr (8, [.ref h24, .int (-1), .int 0, .int 0])), (h0, .inr (11, [.ref h8, .int 0, .ref h9, .ref h10, .ref h11, .ref h12, .ref h13, .ref h14, .ref h15, .ref h16, .ref h17, .int 0, .ref h18, .ref h1])), (h1, .inl (cOShelf, 6, .inr (.inr (.inr (.inr (va_up (va_up (va_up (va_up (va_up (va_up (fun _ => none) (0 : Int32).toNatClampNeg (some h2)) (1 : Int32).toNatClampNeg (some h3)) (2 : Int32).toNatClampNeg (some h4)) (3 : Int32).toNatClampNeg (some h5)) (4 : Int32).toNatClampNeg (some h6)) (5 : Int32).toNatClampNeg (some h7)))))))]) (w1 := []) hP hD [] [0, 1, 2, 3, 4, 5, 6, 7] rfl rfl (by decide) (by decide) hk1 hFc hP1 hD1
    generalize H1 = H at hP hS ⊢
    have hP : va_P (dC, dI) vwCl [(h2, .inr (8, [.ref h19, .int (-1), .int 0, .int 0])), (h3, .inr (8, [.ref h20, .int (-1), .int 0, .int 0])), (h4, .inr (8, [.ref h21, .int (-1), .int 0, .int 0])), (h5, .inr (8, [.ref h22, .int (-1), .int 0, .int 0])), (h6, .inr (8, [.ref h23, .int (-1), .int 0, .int 0])), (h7, .inr (8, [.ref h24, .int (-1), .int 0, .int 0])), (h0, .inr (11, [.ref h8, .int 0, .ref h9, .ref h10, .ref h11, .ref h12, .ref h13, .ref h14, .ref h15, .ref h16, .ref h17, .int 0, .ref h18, .ref h1])), (h1, .inl (cOShelf, 6, .inr (.inr (.inr (.inr (va_up (va_up (va_up (va_up (va_up (va_up (fun _ => none) (0 : Int32).toNatClampNeg (some h2)) (1 : Int32).toNatClampNeg (some h3)) (2 : Int32).toNatClampNeg (some h4)) (3 : Int32).toNatClampNeg (some h5)) (4 : Int32).toNatClampNeg (some h6)) (5 : Int32).toNatClampNeg (some h7)))))))] H := hP
    have hD : va_D A [(h2, .inr (8, [.ref h19, .int (-1), .int 0, .int 0])), (h3, .inr (8, [.ref h20, .int (-1), .int 0, .int 0])), (h4, .inr (8, [.ref h21, .int (-1), .int 0, .int 0])), (h5, .inr (8, [.ref h22, .int (-1), .int 0, .int 0])), (h6, .inr (8, [.ref h23, .int (-1), .int 0, .int 0])), (h7, .inr (8, [.ref h24, .int (-1), .int 0, .int 0])), (h0, .inr (11, [.ref h8, .int 0, .ref h9, .ref h10, .ref h11, .ref h12, .ref h13, .ref h14, .ref h15, .ref h16, .ref h17, .int 0, .ref h18, .ref h1])), (h1, .inl (cOShelf, 6, .inr (.inr (.inr (.inr (va_up (va_up (va_up (va_up (va_up (va_up (fun _ => none) (0 : Int32).toNatClampNeg (some h2)) (1 : Int32).toNatClampNeg (some h3)) (2 : Int32).toNatClampNeg (some h4)) (3 : Int32).toNatClampNeg (some h5)) (4 : Int32).toNatClampNeg (some h6)) (5 : Int32).toNatClampNeg (some h7)))))))] := hD
    rcases hw with ⟨t_8_0, rfl⟩ | ⟨t_8_0, t_8_1, rfl⟩ | ⟨t_8_0, t_8_1, rfl⟩
    · skip
      refine lv_if_ne (tgt := 19) hx hb dX11_taken_14 (by decide) (fun c => absurd c (by decide)) (fun _ => ?_)
      refine lv_iconst (v := (-1)) hx hb dX11_taken_17 (by decide) ?_
      have hP9 := hP.sub (ws' := []) [] rfl
      have hD9 := hD.sub (ws' := []) [] (by decide) rfl
      have hK9 := hK.sub (tys' := []) [] rfl
      exact W.iret (v := (-1)) hx hb hr (fun t ht hW => ⟨⟨(-1), (), rfl, by first | rfl | ((repeat' split) <;> first | rfl | (exfalso; omega) | (exact Int32.toInt_inj.mp (by show ((-1) : Int) = _; omega))), by rw [ht]; exact hP9, va_K.moved hW.alike hK9, hD9⟩, hS.F ht⟩) hS.2.2 dX11_taken_18
    · skip
      refine lv_if_ne (tgt := 19) hx hb dX11_taken_14 (by decide) (fun c => absurd c (by decide)) (fun _ => ?_)
      refine lv_iconst (v := (-1)) hx hb dX11_taken_17 (by decide) ?_
      have hP9 := hP.sub (ws' := []) [] rfl
      have hD9 := hD.sub (ws' := []) [] (by decide) rfl
      have hK9 := hK.sub (tys' := []) [] rfl
      exact W.iret (v := (-1)) hx hb hr (fun t ht hW => ⟨⟨(-1), (), rfl, by first | rfl | ((repeat' split) <;> first | rfl | (exfalso; omega) | (exact Int32.toInt_inj.mp (by show ((-1) : Int) = _; omega))), by rw [ht]; exact hP9, va_K.moved hW.alike hK9, hD9⟩, hS.F ht⟩) hS.2.2 dX11_taken_18
    · skip
      refine lv_if_ne (tgt := 19) hx hb dX11_taken_14 (by decide) (fun _ => ?_) (fun c => absurd c (by decide))
      refine lv_aload_n hx hb dX11_taken_19 rfl (lv_at hl 0 rfl) ?_
      have hPc := hP.sub (ws' := [(h5, .inr (8, [.ref h22, .int (-1), .int 0, .int 0]))]) [3] rfl
      have hDc := hD.sub (ws' := [(h5, .inr (8, [.ref h22, .int (-1), .int 0, .int 0]))]) [3] (by decide) rfl
      have hKc := hK.sub (tys' := []) [] rfl
      have hFc := va_free (wc := [(h5, .inr (8, [.ref h22, .int (-1), .int 0, .int 0]))]) hD hS hA [3] rfl
      refine va_calli (va_runV (As := []) (rest := []) ⟨hx, hb, hml, hown, hts⟩ (k_X8_isEmpty_0 l dC dI h5 h22 H.size) (cwV 0 hts gX11_taken_X8_isEmpty rfl rfl rfl (by decide +kernel) ⟨Nat.le_of_ble_eq_true rfl, Nat.le_of_ble_eq_true rfl⟩) ⟨fun a U g mk q => by obtain ⟨q0, q1, qP, qK, qD⟩ := q; exact ⟨q0, q1, qP, va_K.moved (u := U) (U := U.calling g mk a) (Vm.Alike.refl U.vm) qK, qD⟩, va_recv hKc hPc (ci := 8) (q0 := 0) rfl rfl, fun U hU hW => ⟨rfl, by rw [hU], by rw [hU]; exact hPc, va_K.moved hW.alike hKc, hDc.weaken (fun _ _ _ _ => trivial)⟩⟩ rfl rfl hl.1 rfl (lv_room (Nat.le_of_ble_eq_true rfl)) dX11_taken_20 ⟨Nat.le_of_ble_eq_true rfl, Nat.le_of_ble_eq_true rfl⟩) hS (fun q _ h => hFc q h) hFc (fun r_9 u t H1 locs ht hvm hw hB hz1 hk1 hS => ?_)
      obtain ⟨hP1, hK1, hD1⟩ := hB
      rw [ht] at hP1
      have hK1 := va_K.moved hvm.symm hK1
      obtain ⟨hP, hD⟩ := va_join (wr := [(h2, .inr (8, [.ref h19, .int (-1), .int 0, .int 0])), (h3, .inr (8, [.ref h20, .int (-1), .int 0, .int 0])), (h4, .inr (8, [.ref h21, .int (-1), .int 0, .int 0])), (h6, .inr (8, [.ref h23, .int (-1), .int 0, .int 0])), (h7, .inr (8, [.ref h24, .int (-1), .int 0, .int 0])), (h0, .inr (11, [.ref h8, .int 0, .ref h9, .ref h10, .ref h11, .ref h12, .ref h13, .ref h14, .ref h15, .ref h16, .ref h17, .int 0, .ref h18, .ref h1])), (h1, .inl (cOShelf, 6, .inr (.inr (.inr (.inr (va_up (va_up (va_up (va_up (va_up (va_up (fun _ => none) (0 : Int32).toNatClampNeg (some h2)) (1 : Int32).toNatClampNeg (some h3)) (2 : Int32).toNatClampNeg (some h4)) (3 : Int32).toNatClampNeg (some h5)) (4 : Int32).toNatClampNeg (some h6)) (5 : Int32).toNatClampNeg (some h7)))))))]) (w1 := [(h5, .inr (8, [.ref h22, .int (-1), .int 0, .int 0]))]) hP hD [3] [0, 1, 2, 4, 5, 6, 7] rfl rfl (by decide) (by decide) hk1 hFc hP1 hD1
      generalize H1 = H at hP hS ⊢
      have hP : va_P (dC, dI) vwCl [(h2, .inr (8, [.ref h19, .int (-1), .int 0, .int 0])), (h3, .inr (8, [.ref h20, .int (-1), .int 0, .int 0])), (h4, .inr (8, [.ref h21, .int (-1), .int 0, .int 0])), (h6, .inr (8, [.ref h23, .int (-1), .int 0, .int 0])), (h7, .inr (8, [.ref h24, .int (-1), .int 0, .int 0])), (h0, .inr (11, [.ref h8, .int 0, .ref h9, .ref h10, .ref h11, .ref h12, .ref h13, .ref h14, .ref h15, .ref h16, .ref h17, .int 0, .ref h18, .ref h1])), (h1, .inl (cOShelf, 6, .inr (.inr (.inr (.inr (va_up (va_up (va_up (va_up (va_up (va_up (fun _ => none) (0 : Int32).toNatClampNeg (some h2)) (1 : Int32).toNatClampNeg (some h3)) (2 : Int32).toNatClampNeg (some h4)) (3 : Int32).toNatClampNeg (some h5)) (4 : Int32).toNatClampNeg (some h6)) (5 : Int32).toNatClampNeg (some h7))))))), (h5, .inr (8, [.ref h22, .int (-1), .int 0, .int 0]))] H := hP
      have hD : va_D A [(h2, .inr (8, [.ref h19, .int (-1), .int 0, .int 0])), (h3, .inr (8, [.ref h20, .int (-1), .int 0, .int 0])), (h4, .inr (8, [.ref h21, .int (-1), .int 0, .int 0])), (h6, .inr (8, [.ref h23, .int (-1), .int 0, .int 0])), (h7, .inr (8, [.ref h24, .int (-1), .int 0, .int 0])), (h0, .inr (11, [.ref h8, .int 0, .ref h9, .ref h10, .ref h11, .ref h12, .ref h13, .ref h14, .ref h15, .ref h16, .ref h17, .int 0, .ref h18, .ref h1])), (h1, .inl (cOShelf, 6, .inr (.inr (.inr (.inr (va_up (va_up (va_up (va_up (va_up (va_up (fun _ => none) (0 : Int32).toNatClampNeg (some h2)) (1 : Int32).toNatClampNeg (some h3)) (2 : Int32).toNatClampNeg (some h4)) (3 : Int32).toNatClampNeg (some h5)) (4 : Int32).toNatClampNeg (some h6)) (5 : Int32).toNatClampNeg (some h7))))))), (h5, .inr (8, [.ref h22, .int (-1), .int 0, .int 0]))] := hD
      obtain rfl := hw
      refine lv_if_eq (tgt := 29) hx hb dX11_taken_23 (by decide) (fun c => absurd c (by decide)) (fun _ => ?_)
      refine lv_bipush (v := (-11)) hx hb dX11_taken_26 (by decide) ?_
      have hP9 := hP.sub (ws' := []) [] rfl
      have hD9 := hD.sub (ws' := []) [] (by decide) rfl
      have hK9 := hK.sub (tys' := []) [] rfl
      exact W.iret (v := (-11)) hx hb hr (fun t ht hW => ⟨⟨(-11), (), rfl, by first | rfl | ((repeat' split) <;> first | rfl | (exfalso; omega) | (exact Int32.toInt_inj.mp (by show ((-11) : Int) = _; omega))), by rw [ht]; exact hP9, va_K.moved hW.alike hK9, hD9⟩, hS.F ht⟩) hS.2.2 dX11_taken_28
  · skip
    refine W.eq (g2 := F0 m 5 ls [.ref h6]) rfl ?_
    refine lv_astore_n (lv' := [(3, .ref h6), (0, .ref h0), (1, .int p0), (2, .int p1)]) hx hb dX11_taken_5 rfl hl (by decide) rfl (fun ls hl => ?_)
    refine lv_aload_n hx hb dX11_taken_6 rfl (lv_at hl 0 rfl) ?_
    refine lv_ifnull hx hb dX11_taken_7 ?_
    refine lv_iload_n hx hb dX11_taken_10 rfl (lv_at hl 3 rfl) ?_
    have hPc := hP.sub (ws' := []) [] rfl
    have hDc := hD.sub (ws' := []) [] (by decide) rfl
    have hKc := hK.sub (tys' := []) [] rfl
    have hFc := va_free (wc := []) hD hS hA [] rfl
    refine va_calli (va_runS (As := [.int p1]) (rest := []) ⟨hx, hb, hml, hown, hts⟩ (k_X5_isKind_0 l dC dI H.size p1) (va_cwS 1 hts gX11_taken_X5_isKind rfl rfl rfl (by decide +kernel) ⟨Nat.le_of_ble_eq_true rfl, Nat.le_of_ble_eq_true rfl⟩) ⟨fun a U g mk q => by obtain ⟨q0, q1, qP, qK, qD⟩ := q; exact ⟨q0, q1, qP, va_K.moved (u := U) (U := U.calling g mk a) (Vm.Alike.refl U.vm) qK, qD⟩, fun U hU hW => ⟨rfl, by rw [hU], by rw [hU]; exact hPc, va_K.moved hW.alike hKc, hDc.weaken (fun _ _ _ _ => trivial)⟩⟩ rfl rfl hl.1 rfl (lv_room (Nat.le_of_ble_eq_true rfl)) dX11_taken_11 ⟨Nat.le_of_ble_eq_true rfl, Nat.le_of_ble_eq_true rfl⟩) hS (fun q _ h => hFc q h) hFc (fun r_10 u t H1 locs ht hvm hw hB hz1 hk1 hS => ?_)
    obtain ⟨hP1, hK1, hD1⟩ := hB
    rw [ht] at hP1
    have hK1 := va_K.moved hvm.symm hK1
    obtain ⟨hP, hD⟩ := va_join (wr := [(h2, .inr (8, [.ref h19, .int (-1), .int 0, .int 0])), (h3, .inr (8, [.ref h20, .int (-1), .int 0, .int 0])), (h4, .inr (8, [.ref h21, .int (-1), .int 0, .int 0])), (h5, .inr (8, [.ref h22, .int (-1), .int 0, .int 0])), (h6, .inr (8, [.ref h23, .int (-1), .int 0, .int 0])), (h7, .inr (8, [.ref h24, .int (-1), .int 0, .int 0])), (h0, .inr (11, [.ref h8, .int 0, .ref h9, .ref h10, .ref h11, .ref h12, .ref h13, .ref h14, .ref h15, .ref h16, .ref h17, .int 0, .ref h18, .ref h1])), (h1, .inl (cOShelf, 6, .inr (.inr (.inr (.inr (va_up (va_up (va_up (va_up (va_up (va_up (fun _ => none) (0 : Int32).toNatClampNeg (some h2)) (1 : Int32).toNatClampNeg (some h3)) (2 : Int32).toNatClampNeg (some h4)) (3 : Int32).toNatClampNeg (some h5)) (4 : Int32).toNatClampNeg (some h6)) (5 : Int32).toNatClampNeg (some h7)))))))]) (w1 := []) hP hD [] [0, 1, 2, 3, 4, 5, 6, 7] rfl rfl (by decide) (by decide) hk1 hFc hP1 hD1
    generalize H1 = H at hP hS ⊢
    have hP : va_P (dC, dI) vwCl [(h2, .inr (8, [.ref h19, .int (-1), .int 0, .int 0])), (h3, .inr (8, [.ref h20, .int (-1), .int 0, .int 0])), (h4, .inr (8, [.ref h21, .int (-1), .int 0, .int 0])), (h5, .inr (8, [.ref h22, .int (-1), .int 0, .int 0])), (h6, .inr (8, [.ref h23, .int (-1), .int 0, .int 0])), (h7, .inr (8, [.ref h24, .int (-1), .int 0, .int 0])), (h0, .inr (11, [.ref h8, .int 0, .ref h9, .ref h10, .ref h11, .ref h12, .ref h13, .ref h14, .ref h15, .ref h16, .ref h17, .int 0, .ref h18, .ref h1])), (h1, .inl (cOShelf, 6, .inr (.inr (.inr (.inr (va_up (va_up (va_up (va_up (va_up (va_up (fun _ => none) (0 : Int32).toNatClampNeg (some h2)) (1 : Int32).toNatClampNeg (some h3)) (2 : Int32).toNatClampNeg (some h4)) (3 : Int32).toNatClampNeg (some h5)) (4 : Int32).toNatClampNeg (some h6)) (5 : Int32).toNatClampNeg (some h7)))))))] H := hP
    have hD : va_D A [(h2, .inr (8, [.ref h19, .int (-1), .int 0, .int 0])), (h3, .inr (8, [.ref h20, .int (-1), .int 0, .int 0])), (h4, .inr (8, [.ref h21, .int (-1), .int 0, .int 0])), (h5, .inr (8, [.ref h22, .int (-1), .int 0, .int 0])), (h6, .inr (8, [.ref h23, .int (-1), .int 0, .int 0])), (h7, .inr (8, [.ref h24, .int (-1), .int 0, .int 0])), (h0, .inr (11, [.ref h8, .int 0, .ref h9, .ref h10, .ref h11, .ref h12, .ref h13, .ref h14, .ref h15, .ref h16, .ref h17, .int 0, .ref h18, .ref h1])), (h1, .inl (cOShelf, 6, .inr (.inr (.inr (.inr (va_up (va_up (va_up (va_up (va_up (va_up (fun _ => none) (0 : Int32).toNatClampNeg (some h2)) (1 : Int32).toNatClampNeg (some h3)) (2 : Int32).toNatClampNeg (some h4)) (3 : Int32).toNatClampNeg (some h5)) (4 : Int32).toNatClampNeg (some h6)) (5 : Int32).toNatClampNeg (some h7)))))))] := hD
    rcases hw with ⟨t_10_0, rfl⟩ | ⟨t_10_0, t_10_1, rfl⟩ | ⟨t_10_0, t_10_1, rfl⟩
    · skip
      refine lv_if_ne (tgt := 19) hx hb dX11_taken_14 (by decide) (fun c => absurd c (by decide)) (fun _ => ?_)
      refine lv_iconst (v := (-1)) hx hb dX11_taken_17 (by decide) ?_
      have hP9 := hP.sub (ws' := []) [] rfl
      have hD9 := hD.sub (ws' := []) [] (by decide) rfl
      have hK9 := hK.sub (tys' := []) [] rfl
      exact W.iret (v := (-1)) hx hb hr (fun t ht hW => ⟨⟨(-1), (), rfl, by first | rfl | ((repeat' split) <;> first | rfl | (exfalso; omega) | (exact Int32.toInt_inj.mp (by show ((-1) : Int) = _; omega))), by rw [ht]; exact hP9, va_K.moved hW.alike hK9, hD9⟩, hS.F ht⟩) hS.2.2 dX11_taken_18
    · skip
      refine lv_if_ne (tgt := 19) hx hb dX11_taken_14 (by decide) (fun c => absurd c (by decide)) (fun _ => ?_)
      refine lv_iconst (v := (-1)) hx hb dX11_taken_17 (by decide) ?_
      have hP9 := hP.sub (ws' := []) [] rfl
      have hD9 := hD.sub (ws' := []) [] (by decide) rfl
      have hK9 := hK.sub (tys' := []) [] rfl
      exact W.iret (v := (-1)) hx hb hr (fun t ht hW => ⟨⟨(-1), (), rfl, by first | rfl | ((repeat' split) <;> first | rfl | (exfalso; omega) | (exact Int32.toInt_inj.mp (by show ((-1) : Int) = _; omega))), by rw [ht]; exact hP9, va_K.moved hW.alike hK9, hD9⟩, hS.F ht⟩) hS.2.2 dX11_taken_18
    · skip
      refine lv_if_ne (tgt := 19) hx hb dX11_taken_14 (by decide) (fun _ => ?_) (fun c => absurd c (by decide))
      refine lv_aload_n hx hb dX11_taken_19 rfl (lv_at hl 0 rfl) ?_
      have hPc := hP.sub (ws' := [(h6, .inr (8, [.ref h23, .int (-1), .int 0, .int 0]))]) [4] rfl
      have hDc := hD.sub (ws' := [(h6, .inr (8, [.ref h23, .int (-1), .int 0, .int 0]))]) [4] (by decide) rfl
      have hKc := hK.sub (tys' := []) [] rfl
      have hFc := va_free (wc := [(h6, .inr (8, [.ref h23, .int (-1), .int 0, .int 0]))]) hD hS hA [4] rfl
      refine va_calli (va_runV (As := []) (rest := []) ⟨hx, hb, hml, hown, hts⟩ (k_X8_isEmpty_0 l dC dI h6 h23 H.size) (cwV 0 hts gX11_taken_X8_isEmpty rfl rfl rfl (by decide +kernel) ⟨Nat.le_of_ble_eq_true rfl, Nat.le_of_ble_eq_true rfl⟩) ⟨fun a U g mk q => by obtain ⟨q0, q1, qP, qK, qD⟩ := q; exact ⟨q0, q1, qP, va_K.moved (u := U) (U := U.calling g mk a) (Vm.Alike.refl U.vm) qK, qD⟩, va_recv hKc hPc (ci := 8) (q0 := 0) rfl rfl, fun U hU hW => ⟨rfl, by rw [hU], by rw [hU]; exact hPc, va_K.moved hW.alike hKc, hDc.weaken (fun _ _ _ _ => trivial)⟩⟩ rfl rfl hl.1 rfl (lv_room (Nat.le_of_ble_eq_true rfl)) dX11_taken_20 ⟨Nat.le_of_ble_eq_true rfl, Nat.le_of_ble_eq_true rfl⟩) hS (fun q _ h => hFc q h) hFc (fun r_11 u t H1 locs ht hvm hw hB hz1 hk1 hS => ?_)
      obtain ⟨hP1, hK1, hD1⟩ := hB
      rw [ht] at hP1
      have hK1 := va_K.moved hvm.symm hK1
      obtain ⟨hP, hD⟩ := va_join (wr := [(h2, .inr (8, [.ref h19, .int (-1), .int 0, .int 0])), (h3, .inr (8, [.ref h20, .int (-1), .int 0, .int 0])), (h4, .inr (8, [.ref h21, .int (-1), .int 0, .int 0])), (h5, .inr (8, [.ref h22, .int (-1), .int 0, .int 0])), (h7, .inr (8, [.ref h24, .int (-1), .int 0, .int 0])), (h0, .inr (11, [.ref h8, .int 0, .ref h9, .ref h10, .ref h11, .ref h12, .ref h13, .ref h14, .ref h15, .ref h16, .ref h17, .int 0, .ref h18, .ref h1])), (h1, .inl (cOShelf, 6, .inr (.inr (.inr (.inr (va_up (va_up (va_up (va_up (va_up (va_up (fun _ => none) (0 : Int32).toNatClampNeg (some h2)) (1 : Int32).toNatClampNeg (some h3)) (2 : Int32).toNatClampNeg (some h4)) (3 : Int32).toNatClampNeg (some h5)) (4 : Int32).toNatClampNeg (some h6)) (5 : Int32).toNatClampNeg (some h7)))))))]) (w1 := [(h6, .inr (8, [.ref h23, .int (-1), .int 0, .int 0]))]) hP hD [4] [0, 1, 2, 3, 5, 6, 7] rfl rfl (by decide) (by decide) hk1 hFc hP1 hD1
      generalize H1 = H at hP hS ⊢
      have hP : va_P (dC, dI) vwCl [(h2, .inr (8, [.ref h19, .int (-1), .int 0, .int 0])), (h3, .inr (8, [.ref h20, .int (-1), .int 0, .int 0])), (h4, .inr (8, [.ref h21, .int (-1), .int 0, .int 0])), (h5, .inr (8, [.ref h22, .int (-1), .int 0, .int 0])), (h7, .inr (8, [.ref h24, .int (-1), .int 0, .int 0])), (h0, .inr (11, [.ref h8, .int 0, .ref h9, .ref h10, .ref h11, .ref h12, .ref h13, .ref h14, .ref h15, .ref h16, .ref h17, .int 0, .ref h18, .ref h1])), (h1, .inl (cOShelf, 6, .inr (.inr (.inr (.inr (va_up (va_up (va_up (va_up (va_up (va_up (fun _ => none) (0 : Int32).toNatClampNeg (some h2)) (1 : Int32).toNatClampNeg (some h3)) (2 : Int32).toNatClampNeg (some h4)) (3 : Int32).toNatClampNeg (some h5)) (4 : Int32).toNatClampNeg (some h6)) (5 : Int32).toNatClampNeg (some h7))))))), (h6, .inr (8, [.ref h23, .int (-1), .int 0, .int 0]))] H := hP
      have hD : va_D A [(h2, .inr (8, [.ref h19, .int (-1), .int 0, .int 0])), (h3, .inr (8, [.ref h20, .int (-1), .int 0, .int 0])), (h4, .inr (8, [.ref h21, .int (-1), .int 0, .int 0])), (h5, .inr (8, [.ref h22, .int (-1), .int 0, .int 0])), (h7, .inr (8, [.ref h24, .int (-1), .int 0, .int 0])), (h0, .inr (11, [.ref h8, .int 0, .ref h9, .ref h10, .ref h11, .ref h12, .ref h13, .ref h14, .ref h15, .ref h16, .ref h17, .int 0, .ref h18, .ref h1])), (h1, .inl (cOShelf, 6, .inr (.inr (.inr (.inr (va_up (va_up (va_up (va_up (va_up (va_up (fun _ => none) (0 : Int32).toNatClampNeg (some h2)) (1 : Int32).toNatClampNeg (some h3)) (2 : Int32).toNatClampNeg (some h4)) (3 : Int32).toNatClampNeg (some h5)) (4 : Int32).toNatClampNeg (some h6)) (5 : Int32).toNatClampNeg (some h7))))))), (h6, .inr (8, [.ref h23, .int (-1), .int 0, .int 0]))] := hD
      obtain rfl := hw
      refine lv_if_eq (tgt := 29) hx hb dX11_taken_23 (by decide) (fun c => absurd c (by decide)) (fun _ => ?_)
      refine lv_bipush (v := (-11)) hx hb dX11_taken_26 (by decide) ?_
      have hP9 := hP.sub (ws' := []) [] rfl
      have hD9 := hD.sub (ws' := []) [] (by decide) rfl
      have hK9 := hK.sub (tys' := []) [] rfl
      exact W.iret (v := (-11)) hx hb hr (fun t ht hW => ⟨⟨(-11), (), rfl, by first | rfl | ((repeat' split) <;> first | rfl | (exfalso; omega) | (exact Int32.toInt_inj.mp (by show ((-11) : Int) = _; omega))), by rw [ht]; exact hP9, va_K.moved hW.alike hK9, hD9⟩, hS.F ht⟩) hS.2.2 dX11_taken_28
  · skip
    refine W.eq (g2 := F0 m 5 ls [.ref h7]) rfl ?_
    refine lv_astore_n (lv' := [(3, .ref h7), (0, .ref h0), (1, .int p0), (2, .int p1)]) hx hb dX11_taken_5 rfl hl (by decide) rfl (fun ls hl => ?_)
    refine lv_aload_n hx hb dX11_taken_6 rfl (lv_at hl 0 rfl) ?_
    refine lv_ifnull hx hb dX11_taken_7 ?_
    refine lv_iload_n hx hb dX11_taken_10 rfl (lv_at hl 3 rfl) ?_
    have hPc := hP.sub (ws' := []) [] rfl
    have hDc := hD.sub (ws' := []) [] (by decide) rfl
    have hKc := hK.sub (tys' := []) [] rfl
    have hFc := va_free (wc := []) hD hS hA [] rfl
    refine va_calli (va_runS (As := [.int p1]) (rest := []) ⟨hx, hb, hml, hown, hts⟩ (k_X5_isKind_0 l dC dI H.size p1) (va_cwS 1 hts gX11_taken_X5_isKind rfl rfl rfl (by decide +kernel) ⟨Nat.le_of_ble_eq_true rfl, Nat.le_of_ble_eq_true rfl⟩) ⟨fun a U g mk q => by obtain ⟨q0, q1, qP, qK, qD⟩ := q; exact ⟨q0, q1, qP, va_K.moved (u := U) (U := U.calling g mk a) (Vm.Alike.refl U.vm) qK, qD⟩, fun U hU hW => ⟨rfl, by rw [hU], by rw [hU]; exact hPc, va_K.moved hW.alike hKc, hDc.weaken (fun _ _ _ _ => trivial)⟩⟩ rfl rfl hl.1 rfl (lv_room (Nat.le_of_ble_eq_true rfl)) dX11_taken_11 ⟨Nat.le_of_ble_eq_true rfl, Nat.le_of_ble_eq_true rfl⟩) hS (fun q _ h => hFc q h) hFc (fun r_12 u t H1 locs ht hvm hw hB hz1 hk1 hS => ?_)
    obtain ⟨hP1, hK1, hD1⟩ := hB
    rw [ht] at hP1
    have hK1 := va_K.moved hvm.symm hK1
    obtain ⟨hP, hD⟩ := va_join (wr := [(h2, .inr (8, [.ref h19, .int (-1), .int 0, .int 0])), (h3, .inr (8, [.ref h20, .int (-1), .int 0, .int 0])), (h4, .inr (8, [.ref h21, .int (-1), .int 0, .int 0])), (h5, .inr (8, [.ref h22, .int (-1), .int 0, .int 0])), (h6, .inr (8, [.ref h23, .int (-1), .int 0, .int 0])), (h7, .inr (8, [.ref h24, .int (-1), .int 0, .int 0])), (h0, .inr (11, [.ref h8, .int 0, .ref h9, .ref h10, .ref h11, .ref h12, .ref h13, .ref h14, .ref h15, .ref h16, .ref h17, .int 0, .ref h18, .ref h1])), (h1, .inl (cOShelf, 6, .inr (.inr (.inr (.inr (va_up (va_up (va_up (va_up (va_up (va_up (fun _ => none) (0 : Int32).toNatClampNeg (some h2)) (1 : Int32).toNatClampNeg (some h3)) (2 : Int32).toNatClampNeg (some h4)) (3 : Int32).toNatClampNeg (some h5)) (4 : Int32).toNatClampNeg (some h6)) (5 : Int32).toNatClampNeg (some h7)))))))]) (w1 := []) hP hD [] [0, 1, 2, 3, 4, 5, 6, 7] rfl rfl (by decide) (by decide) hk1 hFc hP1 hD1
    generalize H1 = H at hP hS ⊢
    have hP : va_P (dC, dI) vwCl [(h2, .inr (8, [.ref h19, .int (-1), .int 0, .int 0])), (h3, .inr (8, [.ref h20, .int (-1), .int 0, .int 0])), (h4, .inr (8, [.ref h21, .int (-1), .int 0, .int 0])), (h5, .inr (8, [.ref h22, .int (-1), .int 0, .int 0])), (h6, .inr (8, [.ref h23, .int (-1), .int 0, .int 0])), (h7, .inr (8, [.ref h24, .int (-1), .int 0, .int 0])), (h0, .inr (11, [.ref h8, .int 0, .ref h9, .ref h10, .ref h11, .ref h12, .ref h13, .ref h14, .ref h15, .ref h16, .ref h17, .int 0, .ref h18, .ref h1])), (h1, .inl (cOShelf, 6, .inr (.inr (.inr (.inr (va_up (va_up (va_up (va_up (va_up (va_up (fun _ => none) (0 : Int32).toNatClampNeg (some h2)) (1 : Int32).toNatClampNeg (some h3)) (2 : Int32).toNatClampNeg (some h4)) (3 : Int32).toNatClampNeg (some h5)) (4 : Int32).toNatClampNeg (some h6)) (5 : Int32).toNatClampNeg (some h7)))))))] H := hP
    have hD : va_D A [(h2, .inr (8, [.ref h19, .int (-1), .int 0, .int 0])), (h3, .inr (8, [.ref h20, .int (-1), .int 0, .int 0])), (h4, .inr (8, [.ref h21, .int (-1), .int 0, .int 0])), (h5, .inr (8, [.ref h22, .int (-1), .int 0, .int 0])), (h6, .inr (8, [.ref h23, .int (-1), .int 0, .int 0])), (h7, .inr (8, [.ref h24, .int (-1), .int 0, .int 0])), (h0, .inr (11, [.ref h8, .int 0, .ref h9, .ref h10, .ref h11, .ref h12, .ref h13, .ref h14, .ref h15, .ref h16, .ref h17, .int 0, .ref h18, .ref h1])), (h1, .inl (cOShelf, 6, .inr (.inr (.inr (.inr (va_up (va_up (va_up (va_up (va_up (va_up (fun _ => none) (0 : Int32).toNatClampNeg (some h2)) (1 : Int32).toNatClampNeg (some h3)) (2 : Int32).toNatClampNeg (some h4)) (3 : Int32).toNatClampNeg (some h5)) (4 : Int32).toNatClampNeg (some h6)) (5 : Int32).toNatClampNeg (some h7)))))))] := hD
    rcases hw with ⟨t_12_0, rfl⟩ | ⟨t_12_0, t_12_1, rfl⟩ | ⟨t_12_0, t_12_1, rfl⟩
    · skip
      refine lv_if_ne (tgt := 19) hx hb dX11_taken_14 (by decide) (fun c => absurd c (by decide)) (fun _ => ?_)
      refine lv_iconst (v := (-1)) hx hb dX11_taken_17 (by decide) ?_
      have hP9 := hP.sub (ws' := []) [] rfl
      have hD9 := hD.sub (ws' := []) [] (by decide) rfl
      have hK9 := hK.sub (tys' := []) [] rfl
      exact W.iret (v := (-1)) hx hb hr (fun t ht hW => ⟨⟨(-1), (), rfl, by first | rfl | ((repeat' split) <;> first | rfl | (exfalso; omega) | (exact Int32.toInt_inj.mp (by show ((-1) : Int) = _; omega))), by rw [ht]; exact hP9, va_K.moved hW.alike hK9, hD9⟩, hS.F ht⟩) hS.2.2 dX11_taken_18
    · skip
      refine lv_if_ne (tgt := 19) hx hb dX11_taken_14 (by decide) (fun c => absurd c (by decide)) (fun _ => ?_)
      refine lv_iconst (v := (-1)) hx hb dX11_taken_17 (by decide) ?_
      have hP9 := hP.sub (ws' := []) [] rfl
      have hD9 := hD.sub (ws' := []) [] (by decide) rfl
      have hK9 := hK.sub (tys' := []) [] rfl
      exact W.iret (v := (-1)) hx hb hr (fun t ht hW => ⟨⟨(-1), (), rfl, by first | rfl | ((repeat' split) <;> first | rfl | (exfalso; omega) | (exact Int32.toInt_inj.mp (by show ((-1) : Int) = _; omega))), by rw [ht]; exact hP9, va_K.moved hW.alike hK9, hD9⟩, hS.F ht⟩) hS.2.2 dX11_taken_18
    · skip
      refine lv_if_ne (tgt := 19) hx hb dX11_taken_14 (by decide) (fun _ => ?_) (fun c => absurd c (by decide))
      refine lv_aload_n hx hb dX11_taken_19 rfl (lv_at hl 0 rfl) ?_
      have hPc := hP.sub (ws' := [(h7, .inr (8, [.ref h24, .int (-1), .int 0, .int 0]))]) [5] rfl
      have hDc := hD.sub (ws' := [(h7, .inr (8, [.ref h24, .int (-1), .int 0, .int 0]))]) [5] (by decide) rfl
      have hKc := hK.sub (tys' := []) [] rfl
      have hFc := va_free (wc := [(h7, .inr (8, [.ref h24, .int (-1), .int 0, .int 0]))]) hD hS hA [5] rfl
      refine va_calli (va_runV (As := []) (rest := []) ⟨hx, hb, hml, hown, hts⟩ (k_X8_isEmpty_0 l dC dI h7 h24 H.size) (cwV 0 hts gX11_taken_X8_isEmpty rfl rfl rfl (by decide +kernel) ⟨Nat.le_of_ble_eq_true rfl, Nat.le_of_ble_eq_true rfl⟩) ⟨fun a U g mk q => by obtain ⟨q0, q1, qP, qK, qD⟩ := q; exact ⟨q0, q1, qP, va_K.moved (u := U) (U := U.calling g mk a) (Vm.Alike.refl U.vm) qK, qD⟩, va_recv hKc hPc (ci := 8) (q0 := 0) rfl rfl, fun U hU hW => ⟨rfl, by rw [hU], by rw [hU]; exact hPc, va_K.moved hW.alike hKc, hDc.weaken (fun _ _ _ _ => trivial)⟩⟩ rfl rfl hl.1 rfl (lv_room (Nat.le_of_ble_eq_true rfl)) dX11_taken_20 ⟨Nat.le_of_ble_eq_true rfl, Nat.le_of_ble_eq_true rfl⟩) hS (fun q _ h => hFc q h) hFc (fun r_13 u t H1 locs ht hvm hw hB hz1 hk1 hS => ?_)
      obtain ⟨hP1, hK1, hD1⟩ := hB
      rw [ht] at hP1
      have hK1 := va_K.moved hvm.symm hK1
      obtain ⟨hP, hD⟩ := va_join (wr := [(h2, .inr (8, [.ref h19, .int (-1), .int 0, .int 0])), (h3, .inr (8, [.ref h20, .int (-1), .int 0, .int 0])), (h4, .inr (8, [.ref h21, .int (-1), .int 0, .int 0])), (h5, .inr (8, [.ref h22, .int (-1), .int 0, .int 0])), (h6, .inr (8, [.ref h23, .int (-1), .int 0, .int 0])), (h0, .inr (11, [.ref h8, .int 0, .ref h9, .ref h10, .ref h11, .ref h12, .ref h13, .ref h14, .ref h15, .ref h16, .ref h17, .int 0, .ref h18, .ref h1])), (h1, .inl (cOShelf, 6, .inr (.inr (.inr (.inr (va_up (va_up (va_up (va_up (va_up (va_up (fun _ => none) (0 : Int32).toNatClampNeg (some h2)) (1 : Int32).toNatClampNeg (some h3)) (2 : Int32).toNatClampNeg (some h4)) (3 : Int32).toNatClampNeg (some h5)) (4 : Int32).toNatClampNeg (some h6)) (5 : Int32).toNatClampNeg (some h7)))))))]) (w1 := [(h7, .inr (8, [.ref h24, .int (-1), .int 0, .int 0]))]) hP hD [5] [0, 1, 2, 3, 4, 6, 7] rfl rfl (by decide) (by decide) hk1 hFc hP1 hD1
      generalize H1 = H at hP hS ⊢
      have hP : va_P (dC, dI) vwCl [(h2, .inr (8, [.ref h19, .int (-1), .int 0, .int 0])), (h3, .inr (8, [.ref h20, .int (-1), .int 0, .int 0])), (h4, .inr (8, [.ref h21, .int (-1), .int 0, .int 0])), (h5, .inr (8, [.ref h22, .int (-1), .int 0, .int 0])), (h6, .inr (8, [.ref h23, .int (-1), .int 0, .int 0])), (h0, .inr (11, [.ref h8, .int 0, .ref h9, .ref h10, .ref h11, .ref h12, .ref h13, .ref h14, .ref h15, .ref h16, .ref h17, .int 0, .ref h18, .ref h1])), (h1, .inl (cOShelf, 6, .inr (.inr (.inr (.inr (va_up (va_up (va_up (va_up (va_up (va_up (fun _ => none) (0 : Int32).toNatClampNeg (some h2)) (1 : Int32).toNatClampNeg (some h3)) (2 : Int32).toNatClampNeg (some h4)) (3 : Int32).toNatClampNeg (some h5)) (4 : Int32).toNatClampNeg (some h6)) (5 : Int32).toNatClampNeg (some h7))))))), (h7, .inr (8, [.ref h24, .int (-1), .int 0, .int 0]))] H := hP
      have hD : va_D A [(h2, .inr (8, [.ref h19, .int (-1), .int 0, .int 0])), (h3, .inr (8, [.ref h20, .int (-1), .int 0, .int 0])), (h4, .inr (8, [.ref h21, .int (-1), .int 0, .int 0])), (h5, .inr (8, [.ref h22, .int (-1), .int 0, .int 0])), (h6, .inr (8, [.ref h23, .int (-1), .int 0, .int 0])), (h0, .inr (11, [.ref h8, .int 0, .ref h9, .ref h10, .ref h11, .ref h12, .ref h13, .ref h14, .ref h15, .ref h16, .ref h17, .int 0, .ref h18, .ref h1])), (h1, .inl (cOShelf, 6, .inr (.inr (.inr (.inr (va_up (va_up (va_up (va_up (va_up (va_up (fun _ => none) (0 : Int32).toNatClampNeg (some h2)) (1 : Int32).toNatClampNeg (some h3)) (2 : Int32).toNatClampNeg (some h4)) (3 : Int32).toNatClampNeg (some h5)) (4 : Int32).toNatClampNeg (some h6)) (5 : Int32).toNatClampNeg (some h7))))))), (h7, .inr (8, [.ref h24, .int (-1), .int 0, .int 0]))] := hD
      obtain rfl := hw
      refine lv_if_eq (tgt := 29) hx hb dX11_taken_23 (by decide) (fun c => absurd c (by decide)) (fun _ => ?_)
      refine lv_bipush (v := (-11)) hx hb dX11_taken_26 (by decide) ?_
      have hP9 := hP.sub (ws' := []) [] rfl
      have hD9 := hD.sub (ws' := []) [] (by decide) rfl
      have hK9 := hK.sub (tys' := []) [] rfl
      exact W.iret (v := (-11)) hx hb hr (fun t ht hW => ⟨⟨(-11), (), rfl, by first | rfl | ((repeat' split) <;> first | rfl | (exfalso; omega) | (exact Int32.toInt_inj.mp (by show ((-11) : Int) = _; omega))), by rw [ht]; exact hP9, va_K.moved hW.alike hK9, hD9⟩, hS.F ht⟩) hS.2.2 dX11_taken_28
set_option maxHeartbeats 4000000 in
set_option maxRecDepth 100000 in
theorem k_X2_size_0 (l : Launch) (dC : Nat → ClassId) (dI : Nat → Nat → Nat) (h0 h1 h2 h3 h4 h5 h6 h7 h8 h9 : Nat) (sz : Nat)  : Met l yX2_size wsX2_size ({ frames := 0, cells := 0, slots := 0, locals := 0 }) (va_Pc [.ref h0] (fun U => U.heap.size = sz ∧ va_P (dC, dI) vwCl [(h0, .inr (2, [.ref h1, .ref h2, .ref h3, .int 0, .ref h4, .int 0, .int 0, .ref h5, .ref h6, .ref h7, .ref h8, .ref h9, .int 0]))] U.heap ∧ va_K (dC, dI) vwCl [] U ∧ va_D (fun _ => True) [(h0, .inr (2, [.ref h1, .ref h2, .ref h3, .int 0, .ref h4, .int 0, .int 0, .ref h5, .ref h6, .ref h7, .ref h8, .ref h9, .int 0]))])) (va_Qi (fun (r : Int32) (_ : Unit) => r = 0) (fun (_ : Unit) t => va_P (dC, dI) vwCl [(h0, .inr (2, [.ref h1, .ref h2, .ref h3, .int 0, .ref h4, .int 0, .int 0, .ref h5, .ref h6, .ref h7, .ref h8, .ref h9, .int 0]))] t.heap ∧ va_K (dC, dI) vwCl [] t ∧ va_D (va_A [(h0, .inr (2, [.ref h1, .ref h2, .ref h3, .int 0, .ref h4, .int 0, .int 0, .ref h5, .ref h6, .ref h7, .ref h8, .ref h9, .int 0]))] sz) [(h0, .inr (2, [.ref h1, .ref h2, .ref h3, .int 0, .ref h4, .int 0, .int 0, .ref h5, .ref h6, .ref h7, .ref h8, .ref h9, .int 0]))]) (va_A [(h0, .inr (2, [.ref h1, .ref h2, .ref h3, .int 0, .ref h4, .int 0, .int 0, .ref h5, .ref h6, .ref h7, .ref h8, .ref h9, .int 0]))] sz)) 0 0 (va_A [(h0, .inr (2, [.ref h1, .ref h2, .ref h3, .int 0, .ref h4, .int 0, .int 0, .ref h5, .ref h6, .ref h7, .ref h8, .ref h9, .int 0]))] sz) := by
  refine Met.ofW (cc := cX2_size) (maxL := 1) (ret := (some .int)) (by decide) rfl ?_
  intro p e s m args below meth c s₁ B hml hv
  obtain ⟨rfl, hsz, hP, hK, hD0⟩ := hv
  have hx := B.exec
  have hb := B.bytes
  have hr := B.returns
  have hts := atoms_spec (ws := wsX2_size) B.pre
  have hown : s.vm.findClass RX2 = some m.cls := findClass_of_methodNamed B.named
  have hlocks := B.notSynchronized
  subst hsz
  have hD := hD0.self (sz := s.heap.size)
  generalize hAe : va_A [(h0, .inr (2, [.ref h1, .ref h2, .ref h3, .int 0, .ref h4, .int 0, .int 0, .ref h5, .ref h6, .ref h7, .ref h8, .ref h9, .int 0]))] s.heap.size = A at hD ⊢
  have hA : ∀ q : Nat, s.heap.size ≤ q → A q := fun q h => by rw [← hAe]; exact Or.inr h
  have hS : va_S A s.heap s.heap [] := va_S.rf
  have hP : va_P (dC, dI) vwCl [(h0, .inr (2, [.ref h1, .ref h2, .ref h3, .int 0, .ref h4, .int 0, .int 0, .ref h5, .ref h6, .ref h7, .ref h8, .ref h9, .int 0]))] s.heap := hP
  have hl := lv_entry ([.ref h0]) (n := 1) (Nat.le_of_ble_eq_true rfl)
  rw [lg_entry_eq]
  generalize (lg_sl ([.ref h0]) ++ List.replicate (1 - (lg_sl ([.ref h0])).length) Slot.unset).toArray = ls at hl ⊢
  have hl : lv_has ls 1 [(0, .ref h0)] := hl
  refine lv_aload_n hx hb dX2_size_0 rfl (lv_at hl 0 rfl) ?_
  refine va_get (D := (dC, dI)) (ci := 2) (v := .int 0) (C := RX2) (T := TX2) (N := 13) hx hb hts (fun _ h => List.mem_cons_of_mem _ (List.mem_append_right _ h)) hown hK hP 0 rfl rfl 3 (by decide) (hts (.fieldLink RX2 41 "KinkStreet$Deeds" "size" "I") (List.mem_of_getElem? (i := 1) rfl)) (fun _ h9 => h9) rfl dX2_size_1 ?_
  have hP9 := hP.sub (ws' := [(h0, .inr (2, [.ref h1, .ref h2, .ref h3, .int 0, .ref h4, .int 0, .int 0, .ref h5, .ref h6, .ref h7, .ref h8, .ref h9, .int 0]))]) [0] rfl
  have hD9 := hD.sub (ws' := [(h0, .inr (2, [.ref h1, .ref h2, .ref h3, .int 0, .ref h4, .int 0, .int 0, .ref h5, .ref h6, .ref h7, .ref h8, .ref h9, .int 0]))]) [0] (by decide) rfl
  have hK9 := hK.sub (tys' := []) [] rfl
  exact W.iret (v := 0) hx hb hr (fun t ht hW => ⟨⟨0, (), rfl, rfl, by rw [ht]; exact hP9, va_K.moved hW.alike hK9, hD9⟩, hS.F ht⟩) hS.2.2 dX2_size_4
set_option maxHeartbeats 4000000 in
set_option maxRecDepth 100000 in
theorem k_X10_size_0 (l : Launch) (dC : Nat → ClassId) (dI : Nat → Nat → Nat) (h0 h1 : Nat) (sz : Nat)  : Met l yX10_size wsX10_size ({ frames := 0, cells := 0, slots := 0, locals := 0 }) (va_Pc [.ref h0] (fun U => U.heap.size = sz ∧ va_P (dC, dI) vwCl [(h0, .inr (10, [.ref h1, .int 0, .int 0, .null]))] U.heap ∧ va_K (dC, dI) vwCl [] U ∧ va_D (fun _ => True) [(h0, .inr (10, [.ref h1, .int 0, .int 0, .null]))])) (va_Qi (fun (r : Int32) (_ : Unit) => r = 0) (fun (_ : Unit) t => va_P (dC, dI) vwCl [(h0, .inr (10, [.ref h1, .int 0, .int 0, .null]))] t.heap ∧ va_K (dC, dI) vwCl [] t ∧ va_D (va_A [(h0, .inr (10, [.ref h1, .int 0, .int 0, .null]))] sz) [(h0, .inr (10, [.ref h1, .int 0, .int 0, .null]))]) (va_A [(h0, .inr (10, [.ref h1, .int 0, .int 0, .null]))] sz)) 0 0 (va_A [(h0, .inr (10, [.ref h1, .int 0, .int 0, .null]))] sz) := by
  refine Met.ofW (cc := cX10_size) (maxL := 1) (ret := (some .int)) (by decide) rfl ?_
  intro p e s m args below meth c s₁ B hml hv
  obtain ⟨rfl, hsz, hP, hK, hD0⟩ := hv
  have hx := B.exec
  have hb := B.bytes
  have hr := B.returns
  have hts := atoms_spec (ws := wsX10_size) B.pre
  have hown : s.vm.findClass RX10 = some m.cls := findClass_of_methodNamed B.named
  have hlocks := B.notSynchronized
  subst hsz
  have hD := hD0.self (sz := s.heap.size)
  generalize hAe : va_A [(h0, .inr (10, [.ref h1, .int 0, .int 0, .null]))] s.heap.size = A at hD ⊢
  have hA : ∀ q : Nat, s.heap.size ≤ q → A q := fun q h => by rw [← hAe]; exact Or.inr h
  have hS : va_S A s.heap s.heap [] := va_S.rf
  have hP : va_P (dC, dI) vwCl [(h0, .inr (10, [.ref h1, .int 0, .int 0, .null]))] s.heap := hP
  have hl := lv_entry ([.ref h0]) (n := 1) (Nat.le_of_ble_eq_true rfl)
  rw [lg_entry_eq]
  generalize (lg_sl ([.ref h0]) ++ List.replicate (1 - (lg_sl ([.ref h0])).length) Slot.unset).toArray = ls at hl ⊢
  have hl : lv_has ls 1 [(0, .ref h0)] := hl
  refine lv_aload_n hx hb dX10_size_0 rfl (lv_at hl 0 rfl) ?_
  refine va_get (D := (dC, dI)) (ci := 10) (v := .int 0) (C := RX10) (T := TX10) (N := 4) hx hb hts (fun _ h => List.mem_cons_of_mem _ (List.mem_append_right _ h)) hown hK hP 0 rfl rfl 1 (by decide) (hts (.fieldLink RX10 13 "KinkStreet$Tape" "size" "I") (List.mem_of_getElem? (i := 1) rfl)) (fun _ h9 => h9) rfl dX10_size_1 ?_
  have hP9 := hP.sub (ws' := [(h0, .inr (10, [.ref h1, .int 0, .int 0, .null]))]) [0] rfl
  have hD9 := hD.sub (ws' := [(h0, .inr (10, [.ref h1, .int 0, .int 0, .null]))]) [0] (by decide) rfl
  have hK9 := hK.sub (tys' := []) [] rfl
  exact W.iret (v := 0) hx hb hr (fun t ht hW => ⟨⟨0, (), rfl, rfl, by rw [ht]; exact hP9, va_K.moved hW.alike hK9, hD9⟩, hS.F ht⟩) hS.2.2 dX10_size_4
set_option maxHeartbeats 4000000 in
set_option maxRecDepth 100000 in
theorem k_X0_size_0 (l : Launch) (dC : Nat → ClassId) (dI : Nat → Nat → Nat) (h0 h1 : Nat) (sz : Nat)  : Met l yX0_size wsX0_size ({ frames := 0, cells := 0, slots := 0, locals := 0 }) (va_Pc [.ref h0] (fun U => U.heap.size = sz ∧ va_P (dC, dI) vwCl [(h0, .inr (0, [.ref h1, .int 0]))] U.heap ∧ va_K (dC, dI) vwCl [] U ∧ va_D (fun _ => True) [(h0, .inr (0, [.ref h1, .int 0]))])) (va_Qi (fun (r : Int32) (_ : Unit) => r = 0) (fun (_ : Unit) t => va_P (dC, dI) vwCl [(h0, .inr (0, [.ref h1, .int 0]))] t.heap ∧ va_K (dC, dI) vwCl [] t ∧ va_D (va_A [(h0, .inr (0, [.ref h1, .int 0]))] sz) [(h0, .inr (0, [.ref h1, .int 0]))]) (va_A [(h0, .inr (0, [.ref h1, .int 0]))] sz)) 0 0 (va_A [(h0, .inr (0, [.ref h1, .int 0]))] sz) := by
  refine Met.ofW (cc := cX0_size) (maxL := 1) (ret := (some .int)) (by decide) rfl ?_
  intro p e s m args below meth c s₁ B hml hv
  obtain ⟨rfl, hsz, hP, hK, hD0⟩ := hv
  have hx := B.exec
  have hb := B.bytes
  have hr := B.returns
  have hts := atoms_spec (ws := wsX0_size) B.pre
  have hown : s.vm.findClass RX0 = some m.cls := findClass_of_methodNamed B.named
  have hlocks := B.notSynchronized
  subst hsz
  have hD := hD0.self (sz := s.heap.size)
  generalize hAe : va_A [(h0, .inr (0, [.ref h1, .int 0]))] s.heap.size = A at hD ⊢
  have hA : ∀ q : Nat, s.heap.size ≤ q → A q := fun q h => by rw [← hAe]; exact Or.inr h
  have hS : va_S A s.heap s.heap [] := va_S.rf
  have hP : va_P (dC, dI) vwCl [(h0, .inr (0, [.ref h1, .int 0]))] s.heap := hP
  have hl := lv_entry ([.ref h0]) (n := 1) (Nat.le_of_ble_eq_true rfl)
  rw [lg_entry_eq]
  generalize (lg_sl ([.ref h0]) ++ List.replicate (1 - (lg_sl ([.ref h0])).length) Slot.unset).toArray = ls at hl ⊢
  have hl : lv_has ls 1 [(0, .ref h0)] := hl
  refine lv_aload_n hx hb dX0_size_0 rfl (lv_at hl 0 rfl) ?_
  refine va_get (D := (dC, dI)) (ci := 0) (v := .int 0) (C := RX0) (T := TX0) (N := 2) hx hb hts (fun _ h => List.mem_cons_of_mem _ (List.mem_append_right _ h)) hown hK hP 0 rfl rfl 1 (by decide) (hts (.fieldLink RX0 15 "KinkStreet$Bends" "size" "I") (List.mem_of_getElem? (i := 1) rfl)) (fun _ h9 => h9) rfl dX0_size_1 ?_
  have hP9 := hP.sub (ws' := [(h0, .inr (0, [.ref h1, .int 0]))]) [0] rfl
  have hD9 := hD.sub (ws' := [(h0, .inr (0, [.ref h1, .int 0]))]) [0] (by decide) rfl
  have hK9 := hK.sub (tys' := []) [] rfl
  exact W.iret (v := 0) hx hb hr (fun t ht hW => ⟨⟨0, (), rfl, rfl, by rw [ht]; exact hP9, va_K.moved hW.alike hK9, hD9⟩, hS.F ht⟩) hS.2.2 dX0_size_4
set_option maxHeartbeats 4000000 in
set_option maxRecDepth 100000 in
theorem k_X5_size_0 (l : Launch) (dC : Nat → ClassId) (dI : Nat → Nat → Nat) (h0 h1 h2 : Nat) (sz : Nat)  : Met l yX5_size wsX5_size ({ frames := 0, cells := 0, slots := 0, locals := 0 }) (va_Pc [.ref h0] (fun U => U.heap.size = sz ∧ va_P (dC, dI) vwCl [(h0, .inr (5, [.ref h1, .int 0, .ref h2, .int 0]))] U.heap ∧ va_K (dC, dI) vwCl [] U ∧ va_D (fun _ => True) [(h0, .inr (5, [.ref h1, .int 0, .ref h2, .int 0]))])) (va_Qi (fun (r : Int32) (_ : Unit) => r = 0) (fun (_ : Unit) t => va_P (dC, dI) vwCl [(h0, .inr (5, [.ref h1, .int 0, .ref h2, .int 0]))] t.heap ∧ va_K (dC, dI) vwCl [] t ∧ va_D (va_A [(h0, .inr (5, [.ref h1, .int 0, .ref h2, .int 0]))] sz) [(h0, .inr (5, [.ref h1, .int 0, .ref h2, .int 0]))]) (va_A [(h0, .inr (5, [.ref h1, .int 0, .ref h2, .int 0]))] sz)) 0 0 (va_A [(h0, .inr (5, [.ref h1, .int 0, .ref h2, .int 0]))] sz) := by
  refine Met.ofW (cc := cX5_size) (maxL := 1) (ret := (some .int)) (by decide) rfl ?_
  intro p e s m args below meth c s₁ B hml hv
  obtain ⟨rfl, hsz, hP, hK, hD0⟩ := hv
  have hx := B.exec
  have hb := B.bytes
  have hr := B.returns
  have hts := atoms_spec (ws := wsX5_size) B.pre
  have hown : s.vm.findClass RX5 = some m.cls := findClass_of_methodNamed B.named
  have hlocks := B.notSynchronized
  subst hsz
  have hD := hD0.self (sz := s.heap.size)
  generalize hAe : va_A [(h0, .inr (5, [.ref h1, .int 0, .ref h2, .int 0]))] s.heap.size = A at hD ⊢
  have hA : ∀ q : Nat, s.heap.size ≤ q → A q := fun q h => by rw [← hAe]; exact Or.inr h
  have hS : va_S A s.heap s.heap [] := va_S.rf
  have hP : va_P (dC, dI) vwCl [(h0, .inr (5, [.ref h1, .int 0, .ref h2, .int 0]))] s.heap := hP
  have hl := lv_entry ([.ref h0]) (n := 1) (Nat.le_of_ble_eq_true rfl)
  rw [lg_entry_eq]
  generalize (lg_sl ([.ref h0]) ++ List.replicate (1 - (lg_sl ([.ref h0])).length) Slot.unset).toArray = ls at hl ⊢
  have hl : lv_has ls 1 [(0, .ref h0)] := hl
  refine lv_aload_n hx hb dX5_size_0 rfl (lv_at hl 0 rfl) ?_
  refine va_get (D := (dC, dI)) (ci := 5) (v := .int 0) (C := RX5) (T := TX5) (N := 4) hx hb hts (fun _ h => List.mem_cons_of_mem _ (List.mem_append_right _ h)) hown hK hP 0 rfl rfl 1 (by decide) (hts (.fieldLink RX5 25 "KinkStreet$Lines" "size" "I") (List.mem_of_getElem? (i := 1) rfl)) (fun _ h9 => h9) rfl dX5_size_1 ?_
  have hP9 := hP.sub (ws' := [(h0, .inr (5, [.ref h1, .int 0, .ref h2, .int 0]))]) [0] rfl
  have hD9 := hD.sub (ws' := [(h0, .inr (5, [.ref h1, .int 0, .ref h2, .int 0]))]) [0] (by decide) rfl
  have hK9 := hK.sub (tys' := []) [] rfl
  exact W.iret (v := 0) hx hb hr (fun t ht hW => ⟨⟨0, (), rfl, rfl, by rw [ht]; exact hP9, va_K.moved hW.alike hK9, hD9⟩, hS.F ht⟩) hS.2.2 dX5_size_4
set_option maxHeartbeats 4000000 in
set_option maxRecDepth 100000 in
theorem k_X5_bodiesThatRan_0 (l : Launch) (dC : Nat → ClassId) (dI : Nat → Nat → Nat) (h0 h1 h2 : Nat) (sz : Nat)  : Met l yX5_bodiesThatRan wsX5_bodiesThatRan ({ frames := 0, cells := 0, slots := 0, locals := 0 }) (va_Pc [.ref h0] (fun U => U.heap.size = sz ∧ va_P (dC, dI) vwCl [(h0, .inr (5, [.ref h1, .int 0, .ref h2, .int 0]))] U.heap ∧ va_K (dC, dI) vwCl [] U ∧ va_D (fun _ => True) [(h0, .inr (5, [.ref h1, .int 0, .ref h2, .int 0]))])) (va_Qi (fun (r : Int32) (_ : Unit) => r = 0) (fun (_ : Unit) t => va_P (dC, dI) vwCl [(h0, .inr (5, [.ref h1, .int 0, .ref h2, .int 0]))] t.heap ∧ va_K (dC, dI) vwCl [] t ∧ va_D (va_A [(h0, .inr (5, [.ref h1, .int 0, .ref h2, .int 0]))] sz) [(h0, .inr (5, [.ref h1, .int 0, .ref h2, .int 0]))]) (va_A [(h0, .inr (5, [.ref h1, .int 0, .ref h2, .int 0]))] sz)) 0 0 (va_A [(h0, .inr (5, [.ref h1, .int 0, .ref h2, .int 0]))] sz) := by
  refine Met.ofW (cc := cX5_bodiesThatRan) (maxL := 1) (ret := (some .int)) (by decide) rfl ?_
  intro p e s m args below meth c s₁ B hml hv
  obtain ⟨rfl, hsz, hP, hK, hD0⟩ := hv
  have hx := B.exec
  have hb := B.bytes
  have hr := B.returns
  have hts := atoms_spec (ws := wsX5_bodiesThatRan) B.pre
  have hown : s.vm.findClass RX5 = some m.cls := findClass_of_methodNamed B.named
  have hlocks := B.notSynchronized
  subst hsz
  have hD := hD0.self (sz := s.heap.size)
  generalize hAe : va_A [(h0, .inr (5, [.ref h1, .int 0, .ref h2, .int 0]))] s.heap.size = A at hD ⊢
  have hA : ∀ q : Nat, s.heap.size ≤ q → A q := fun q h => by rw [← hAe]; exact Or.inr h
  have hS : va_S A s.heap s.heap [] := va_S.rf
  have hP : va_P (dC, dI) vwCl [(h0, .inr (5, [.ref h1, .int 0, .ref h2, .int 0]))] s.heap := hP
  have hl := lv_entry ([.ref h0]) (n := 1) (Nat.le_of_ble_eq_true rfl)
  rw [lg_entry_eq]
  generalize (lg_sl ([.ref h0]) ++ List.replicate (1 - (lg_sl ([.ref h0])).length) Slot.unset).toArray = ls at hl ⊢
  have hl : lv_has ls 1 [(0, .ref h0)] := hl
  refine lv_aload_n hx hb dX5_bodiesThatRan_0 rfl (lv_at hl 0 rfl) ?_
  refine va_get (D := (dC, dI)) (ci := 5) (v := .int 0) (C := RX5) (T := TX5) (N := 4) hx hb hts (fun _ h => List.mem_cons_of_mem _ (List.mem_append_right _ h)) hown hK hP 0 rfl rfl 3 (by decide) (hts (.fieldLink RX5 36 "KinkStreet$Lines" "ran" "I") (List.mem_of_getElem? (i := 1) rfl)) (fun _ h9 => h9) rfl dX5_bodiesThatRan_1 ?_
  have hP9 := hP.sub (ws' := [(h0, .inr (5, [.ref h1, .int 0, .ref h2, .int 0]))]) [0] rfl
  have hD9 := hD.sub (ws' := [(h0, .inr (5, [.ref h1, .int 0, .ref h2, .int 0]))]) [0] (by decide) rfl
  have hK9 := hK.sub (tys' := []) [] rfl
  exact W.iret (v := 0) hx hb hr (fun t ht hW => ⟨⟨0, (), rfl, rfl, by rw [ht]; exact hP9, va_K.moved hW.alike hK9, hD9⟩, hS.F ht⟩) hS.2.2 dX5_bodiesThatRan_4
set_option maxHeartbeats 4000000 in
set_option maxRecDepth 100000 in
theorem k_X11_count_0 (l : Launch) (dC : Nat → ClassId) (dI : Nat → Nat → Nat) (h0 h1 h2 h3 h4 h5 h6 h7 h8 h9 h10 h11 h12 h13 h14 h15 h16 h17 h18 h19 h20 h21 h22 h23 h24 h25 h26 h27 h28 h29 : Nat) (sz : Nat) (p0 : Int32) : Met l yX11_count wsX11_count ({ frames := 1, cells := 0, slots := 0, locals := 20 }) (va_Pc [.ref h0, .int p0] (fun U => U.heap.size = sz ∧ va_P (dC, dI) vwCl [(h0, .inr (11, [.ref h6, .int 0, .ref h7, .ref h1, .ref h8, .ref h9, .ref h10, .ref h2, .ref h3, .ref h4, .ref h11, .int 0, .ref h5, .ref h12])), (h1, .inr (1, [.ref h13, .ref h14, .ref h15, .ref h16, .int 0, .int 0])), (h2, .inr (0, [.ref h17, .int 0])), (h3, .inr (2, [.ref h18, .ref h19, .ref h20, .int 0, .ref h21, .int 0, .int 0, .ref h22, .ref h23, .ref h24, .ref h25, .ref h26, .int 0])), (h4, .inr (10, [.ref h27, .int 0, .int 0, .null])), (h5, .inr (5, [.ref h28, .int 0, .ref h29, .int 0]))] U.heap ∧ va_K (dC, dI) vwCl [] U ∧ va_D (fun _ => True) [(h0, .inr (11, [.ref h6, .int 0, .ref h7, .ref h1, .ref h8, .ref h9, .ref h10, .ref h2, .ref h3, .ref h4, .ref h11, .int 0, .ref h5, .ref h12])), (h1, .inr (1, [.ref h13, .ref h14, .ref h15, .ref h16, .int 0, .int 0])), (h2, .inr (0, [.ref h17, .int 0])), (h3, .inr (2, [.ref h18, .ref h19, .ref h20, .int 0, .ref h21, .int 0, .int 0, .ref h22, .ref h23, .ref h24, .ref h25, .ref h26, .int 0])), (h4, .inr (10, [.ref h27, .int 0, .int 0, .null])), (h5, .inr (5, [.ref h28, .int 0, .ref h29, .int 0]))])) (va_Qi (fun (r : Int32) (_ : Unit) => r = if 0 ≤ p0.toInt ∧ p0.toInt ≤ 7 then (0 : Int32) else -1) (fun (_ : Unit) t => va_P (dC, dI) vwCl [] t.heap ∧ va_K (dC, dI) vwCl [] t ∧ va_D (va_A [(h0, .inr (11, [.ref h6, .int 0, .ref h7, .ref h1, .ref h8, .ref h9, .ref h10, .ref h2, .ref h3, .ref h4, .ref h11, .int 0, .ref h5, .ref h12])), (h1, .inr (1, [.ref h13, .ref h14, .ref h15, .ref h16, .int 0, .int 0])), (h2, .inr (0, [.ref h17, .int 0])), (h3, .inr (2, [.ref h18, .ref h19, .ref h20, .int 0, .ref h21, .int 0, .int 0, .ref h22, .ref h23, .ref h24, .ref h25, .ref h26, .int 0])), (h4, .inr (10, [.ref h27, .int 0, .int 0, .null])), (h5, .inr (5, [.ref h28, .int 0, .ref h29, .int 0]))] sz) []) (va_A [(h0, .inr (11, [.ref h6, .int 0, .ref h7, .ref h1, .ref h8, .ref h9, .ref h10, .ref h2, .ref h3, .ref h4, .ref h11, .int 0, .ref h5, .ref h12])), (h1, .inr (1, [.ref h13, .ref h14, .ref h15, .ref h16, .int 0, .int 0])), (h2, .inr (0, [.ref h17, .int 0])), (h3, .inr (2, [.ref h18, .ref h19, .ref h20, .int 0, .ref h21, .int 0, .int 0, .ref h22, .ref h23, .ref h24, .ref h25, .ref h26, .int 0])), (h4, .inr (10, [.ref h27, .int 0, .int 0, .null])), (h5, .inr (5, [.ref h28, .int 0, .ref h29, .int 0]))] sz)) 0 0 (va_A [(h0, .inr (11, [.ref h6, .int 0, .ref h7, .ref h1, .ref h8, .ref h9, .ref h10, .ref h2, .ref h3, .ref h4, .ref h11, .int 0, .ref h5, .ref h12])), (h1, .inr (1, [.ref h13, .ref h14, .ref h15, .ref h16, .int 0, .int 0])), (h2, .inr (0, [.ref h17, .int 0])), (h3, .inr (2, [.ref h18, .ref h19, .ref h20, .int 0, .ref h21, .int 0, .int 0, .ref h22, .ref h23, .ref h24, .ref h25, .ref h26, .int 0])), (h4, .inr (10, [.ref h27, .int 0, .int 0, .null])), (h5, .inr (5, [.ref h28, .int 0, .ref h29, .int 0]))] sz) := by
  refine Met.ofW (cc := cX11_count) (maxL := 2) (ret := (some .int)) (by decide) rfl ?_
  intro p e s m args below meth c s₁ B hml hv
  obtain ⟨rfl, hsz, hP, hK, hD0⟩ := hv
  have hx := B.exec
  have hb := B.bytes
  have hr := B.returns
  have hts := atoms_spec (ws := wsX11_count) B.pre
  have hown : s.vm.findClass RX11 = some m.cls := findClass_of_methodNamed B.named
  have hlocks := B.notSynchronized
  subst hsz
  have hD := hD0.self (sz := s.heap.size)
  generalize hAe : va_A [(h0, .inr (11, [.ref h6, .int 0, .ref h7, .ref h1, .ref h8, .ref h9, .ref h10, .ref h2, .ref h3, .ref h4, .ref h11, .int 0, .ref h5, .ref h12])), (h1, .inr (1, [.ref h13, .ref h14, .ref h15, .ref h16, .int 0, .int 0])), (h2, .inr (0, [.ref h17, .int 0])), (h3, .inr (2, [.ref h18, .ref h19, .ref h20, .int 0, .ref h21, .int 0, .int 0, .ref h22, .ref h23, .ref h24, .ref h25, .ref h26, .int 0])), (h4, .inr (10, [.ref h27, .int 0, .int 0, .null])), (h5, .inr (5, [.ref h28, .int 0, .ref h29, .int 0]))] s.heap.size = A at hD ⊢
  have hA : ∀ q : Nat, s.heap.size ≤ q → A q := fun q h => by rw [← hAe]; exact Or.inr h
  have hS : va_S A s.heap s.heap [] := va_S.rf
  have hP : va_P (dC, dI) vwCl [(h0, .inr (11, [.ref h6, .int 0, .ref h7, .ref h1, .ref h8, .ref h9, .ref h10, .ref h2, .ref h3, .ref h4, .ref h11, .int 0, .ref h5, .ref h12])), (h1, .inr (1, [.ref h13, .ref h14, .ref h15, .ref h16, .int 0, .int 0])), (h2, .inr (0, [.ref h17, .int 0])), (h3, .inr (2, [.ref h18, .ref h19, .ref h20, .int 0, .ref h21, .int 0, .int 0, .ref h22, .ref h23, .ref h24, .ref h25, .ref h26, .int 0])), (h4, .inr (10, [.ref h27, .int 0, .int 0, .null])), (h5, .inr (5, [.ref h28, .int 0, .ref h29, .int 0]))] s.heap := hP
  have hl := lv_entry ([.ref h0, .int p0]) (n := 2) (Nat.le_of_ble_eq_true rfl)
  rw [lg_entry_eq]
  generalize (lg_sl ([.ref h0, .int p0]) ++ List.replicate (2 - (lg_sl ([.ref h0, .int p0])).length) Slot.unset).toArray = ls at hl ⊢
  have hl : lv_has ls 2 [(0, .ref h0), (1, .int p0)] := hl
  refine lv_iload_n hx hb dX11_count_0 rfl (lv_at hl 1 rfl) ?_
  rcases (show p0 = 0 ∨ p0 = 1 ∨ p0 = 2 ∨ p0 = 3 ∨ p0 = 4 ∨ p0 = 5 ∨ p0 = 6 ∨ p0 = 7 ∨ (p0.toInt < 0 ∨ 7 < p0.toInt) from by simp only [← Int32.toInt_inj]; simp; omega) with e_1 | e_1 | e_1 | e_1 | e_1 | e_1 | e_1 | e_1 | t_1
  · have t_1 : p0.toInt = 0 := by rw [e_1]; rfl
    refine lv_tableIn (tgt := 48) (off := 47) hx hb dX11_count_1 (by omega) (by omega) (by rw [t_1]; rfl) (by decide) ?_
    refine lv_aload_n hx hb dX11_count_48 rfl (lv_at hl 0 rfl) ?_
    refine va_get (D := (dC, dI)) (ci := 11) (v := .int 0) (C := RX11) (T := TX11) (N := 14) hx hb hts (fun _ h => List.mem_cons_of_mem _ (List.mem_append_left _ (List.mem_append_left _ (List.mem_append_left _ (List.mem_append_left _ (List.mem_append_left _ (List.mem_append_right _ h))))))) hown hK hP 0 rfl rfl 1 (by decide) (hts (.fieldLink RX11 90 "KinkStreet" "streetCount" "I") (List.mem_of_getElem? (i := 1) rfl)) (fun _ h9 => h9) rfl dX11_count_49 ?_
    have hP9 := hP.sub (ws' := []) [] rfl
    have hD9 := hD.sub (ws' := []) [] (by decide) rfl
    have hK9 := hK.sub (tys' := []) [] rfl
    exact W.iret (v := 0) hx hb hr (fun t ht hW => ⟨⟨0, (), rfl, by first | rfl | ((repeat' split) <;> first | rfl | (exfalso; omega) | (exact Int32.toInt_inj.mp (by show (0 : Int) = _; omega))), by rw [ht]; exact hP9, va_K.moved hW.alike hK9, hD9⟩, hS.F ht⟩) hS.2.2 dX11_count_52
  · have t_1 : p0.toInt = 1 := by rw [e_1]; rfl
    refine lv_tableIn (tgt := 53) (off := 52) hx hb dX11_count_1 (by omega) (by omega) (by rw [t_1]; rfl) (by decide) ?_
    refine lv_aload_n hx hb dX11_count_53 rfl (lv_at hl 0 rfl) ?_
    refine va_get (D := (dC, dI)) (ci := 11) (v := .ref h3) (C := RX11) (T := TX11) (N := 14) hx hb hts (fun _ h => List.mem_cons_of_mem _ (List.mem_append_left _ (List.mem_append_left _ (List.mem_append_left _ (List.mem_append_left _ (List.mem_append_left _ (List.mem_append_right _ h))))))) hown hK hP 0 rfl rfl 8 (by decide) (hts (.fieldLink RX11 58 "KinkStreet" "deeds" "LKinkStreet$Deeds;") (List.mem_of_getElem? (i := 2) rfl)) (fun _ h9 => h9) rfl dX11_count_54 ?_
    have hPc := hP.sub (ws' := [(h3, .inr (2, [.ref h18, .ref h19, .ref h20, .int 0, .ref h21, .int 0, .int 0, .ref h22, .ref h23, .ref h24, .ref h25, .ref h26, .int 0]))]) [3] rfl
    have hDc := hD.sub (ws' := [(h3, .inr (2, [.ref h18, .ref h19, .ref h20, .int 0, .ref h21, .int 0, .int 0, .ref h22, .ref h23, .ref h24, .ref h25, .ref h26, .int 0]))]) [3] (by decide) rfl
    have hKc := hK.sub (tys' := []) [] rfl
    have hFc := va_free (wc := [(h3, .inr (2, [.ref h18, .ref h19, .ref h20, .int 0, .ref h21, .int 0, .int 0, .ref h22, .ref h23, .ref h24, .ref h25, .ref h26, .int 0]))]) hD hS hA [3] rfl
    refine va_calli (va_runV (As := []) (rest := []) ⟨hx, hb, hml, hown, hts⟩ (k_X2_size_0 l dC dI h3 h18 h19 h20 h21 h22 h23 h24 h25 h26 s.heap.size) (cwV 0 hts gX11_count_X2_size rfl rfl rfl (by decide +kernel) ⟨Nat.le_of_ble_eq_true rfl, Nat.le_of_ble_eq_true rfl⟩) ⟨fun a U g mk q => by obtain ⟨q0, q1, qP, qK, qD⟩ := q; exact ⟨q0, q1, qP, va_K.moved (u := U) (U := U.calling g mk a) (Vm.Alike.refl U.vm) qK, qD⟩, va_recv hKc hPc (ci := 2) (q0 := 0) rfl rfl, fun U hU hW => ⟨rfl, by rw [hU], by rw [hU]; exact hPc, va_K.moved hW.alike hKc, hDc.weaken (fun _ _ _ _ => trivial)⟩⟩ rfl rfl hl.1 rfl (lv_room (Nat.le_of_ble_eq_true rfl)) dX11_count_57 ⟨Nat.le_of_ble_eq_true rfl, Nat.le_of_ble_eq_true rfl⟩) hS (fun q _ h => hFc q h) hFc (fun r_2 u t H1 locs ht hvm hw hB hz1 hk1 hS => ?_)
    obtain ⟨hP1, hK1, hD1⟩ := hB
    rw [ht] at hP1
    have hK1 := va_K.moved hvm.symm hK1
    obtain ⟨hP, hD⟩ := va_join (wr := [(h0, .inr (11, [.ref h6, .int 0, .ref h7, .ref h1, .ref h8, .ref h9, .ref h10, .ref h2, .ref h3, .ref h4, .ref h11, .int 0, .ref h5, .ref h12])), (h1, .inr (1, [.ref h13, .ref h14, .ref h15, .ref h16, .int 0, .int 0])), (h2, .inr (0, [.ref h17, .int 0])), (h4, .inr (10, [.ref h27, .int 0, .int 0, .null])), (h5, .inr (5, [.ref h28, .int 0, .ref h29, .int 0]))]) (w1 := [(h3, .inr (2, [.ref h18, .ref h19, .ref h20, .int 0, .ref h21, .int 0, .int 0, .ref h22, .ref h23, .ref h24, .ref h25, .ref h26, .int 0]))]) hP hD [3] [0, 1, 2, 4, 5] rfl rfl (by decide) (by decide) hk1 hFc hP1 hD1
    generalize H1 = H at hP hS ⊢
    have hP : va_P (dC, dI) vwCl [(h0, .inr (11, [.ref h6, .int 0, .ref h7, .ref h1, .ref h8, .ref h9, .ref h10, .ref h2, .ref h3, .ref h4, .ref h11, .int 0, .ref h5, .ref h12])), (h1, .inr (1, [.ref h13, .ref h14, .ref h15, .ref h16, .int 0, .int 0])), (h2, .inr (0, [.ref h17, .int 0])), (h4, .inr (10, [.ref h27, .int 0, .int 0, .null])), (h5, .inr (5, [.ref h28, .int 0, .ref h29, .int 0])), (h3, .inr (2, [.ref h18, .ref h19, .ref h20, .int 0, .ref h21, .int 0, .int 0, .ref h22, .ref h23, .ref h24, .ref h25, .ref h26, .int 0]))] H := hP
    have hD : va_D A [(h0, .inr (11, [.ref h6, .int 0, .ref h7, .ref h1, .ref h8, .ref h9, .ref h10, .ref h2, .ref h3, .ref h4, .ref h11, .int 0, .ref h5, .ref h12])), (h1, .inr (1, [.ref h13, .ref h14, .ref h15, .ref h16, .int 0, .int 0])), (h2, .inr (0, [.ref h17, .int 0])), (h4, .inr (10, [.ref h27, .int 0, .int 0, .null])), (h5, .inr (5, [.ref h28, .int 0, .ref h29, .int 0])), (h3, .inr (2, [.ref h18, .ref h19, .ref h20, .int 0, .ref h21, .int 0, .int 0, .ref h22, .ref h23, .ref h24, .ref h25, .ref h26, .int 0]))] := hD
    obtain rfl := hw
    have hP9 := hP.sub (ws' := []) [] rfl
    have hD9 := hD.sub (ws' := []) [] (by decide) rfl
    have hK9 := hK.sub (tys' := []) [] rfl
    exact W.iret (v := 0) hx hb hr (fun t ht hW => ⟨⟨0, (), rfl, by first | rfl | ((repeat' split) <;> first | rfl | (exfalso; omega) | (exact Int32.toInt_inj.mp (by show (0 : Int) = _; omega))), by rw [ht]; exact hP9, va_K.moved hW.alike hK9, hD9⟩, hS.F ht⟩) hS.2.2 dX11_count_60
  · have t_1 : p0.toInt = 2 := by rw [e_1]; rfl
    refine lv_tableIn (tgt := 61) (off := 60) hx hb dX11_count_1 (by omega) (by omega) (by rw [t_1]; rfl) (by decide) ?_
    refine lv_aload_n hx hb dX11_count_61 rfl (lv_at hl 0 rfl) ?_
    refine va_get (D := (dC, dI)) (ci := 11) (v := .int 0) (C := RX11) (T := TX11) (N := 14) hx hb hts (fun _ h => List.mem_cons_of_mem _ (List.mem_append_left _ (List.mem_append_left _ (List.mem_append_left _ (List.mem_append_left _ (List.mem_append_left _ (List.mem_append_right _ h))))))) hown hK hP 0 rfl rfl 11 (by decide) (hts (.fieldLink RX11 259 "KinkStreet" "lawCount" "I") (List.mem_of_getElem? (i := 3) rfl)) (fun _ h9 => h9) rfl dX11_count_62 ?_
    have hP9 := hP.sub (ws' := []) [] rfl
    have hD9 := hD.sub (ws' := []) [] (by decide) rfl
    have hK9 := hK.sub (tys' := []) [] rfl
    exact W.iret (v := 0) hx hb hr (fun t ht hW => ⟨⟨0, (), rfl, by first | rfl | ((repeat' split) <;> first | rfl | (exfalso; omega) | (exact Int32.toInt_inj.mp (by show (0 : Int) = _; omega))), by rw [ht]; exact hP9, va_K.moved hW.alike hK9, hD9⟩, hS.F ht⟩) hS.2.2 dX11_count_65
  · have t_1 : p0.toInt = 3 := by rw [e_1]; rfl
    refine lv_tableIn (tgt := 66) (off := 65) hx hb dX11_count_1 (by omega) (by omega) (by rw [t_1]; rfl) (by decide) ?_
    refine lv_aload_n hx hb dX11_count_66 rfl (lv_at hl 0 rfl) ?_
    refine va_get (D := (dC, dI)) (ci := 11) (v := .ref h4) (C := RX11) (T := TX11) (N := 14) hx hb hts (fun _ h => List.mem_cons_of_mem _ (List.mem_append_left _ (List.mem_append_left _ (List.mem_append_left _ (List.mem_append_left _ (List.mem_append_left _ (List.mem_append_right _ h))))))) hown hK hP 0 rfl rfl 9 (by decide) (hts (.fieldLink RX11 65 "KinkStreet" "tape" "LKinkStreet$Tape;") (List.mem_of_getElem? (i := 4) rfl)) (fun _ h9 => h9) rfl dX11_count_67 ?_
    have hPc := hP.sub (ws' := [(h4, .inr (10, [.ref h27, .int 0, .int 0, .null]))]) [4] rfl
    have hDc := hD.sub (ws' := [(h4, .inr (10, [.ref h27, .int 0, .int 0, .null]))]) [4] (by decide) rfl
    have hKc := hK.sub (tys' := []) [] rfl
    have hFc := va_free (wc := [(h4, .inr (10, [.ref h27, .int 0, .int 0, .null]))]) hD hS hA [4] rfl
    refine va_calli (va_runV (As := []) (rest := []) ⟨hx, hb, hml, hown, hts⟩ (k_X10_size_0 l dC dI h4 h27 s.heap.size) (cwV 0 hts gX11_count_X10_size rfl rfl rfl (by decide +kernel) ⟨Nat.le_of_ble_eq_true rfl, Nat.le_of_ble_eq_true rfl⟩) ⟨fun a U g mk q => by obtain ⟨q0, q1, qP, qK, qD⟩ := q; exact ⟨q0, q1, qP, va_K.moved (u := U) (U := U.calling g mk a) (Vm.Alike.refl U.vm) qK, qD⟩, va_recv hKc hPc (ci := 10) (q0 := 0) rfl rfl, fun U hU hW => ⟨rfl, by rw [hU], by rw [hU]; exact hPc, va_K.moved hW.alike hKc, hDc.weaken (fun _ _ _ _ => trivial)⟩⟩ rfl rfl hl.1 rfl (lv_room (Nat.le_of_ble_eq_true rfl)) dX11_count_70 ⟨Nat.le_of_ble_eq_true rfl, Nat.le_of_ble_eq_true rfl⟩) hS (fun q _ h => hFc q h) hFc (fun r_3 u t H1 locs ht hvm hw hB hz1 hk1 hS => ?_)
    obtain ⟨hP1, hK1, hD1⟩ := hB
    rw [ht] at hP1
    have hK1 := va_K.moved hvm.symm hK1
    obtain ⟨hP, hD⟩ := va_join (wr := [(h0, .inr (11, [.ref h6, .int 0, .ref h7, .ref h1, .ref h8, .ref h9, .ref h10, .ref h2, .ref h3, .ref h4, .ref h11, .int 0, .ref h5, .ref h12])), (h1, .inr (1, [.ref h13, .ref h14, .ref h15, .ref h16, .int 0, .int 0])), (h2, .inr (0, [.ref h17, .int 0])), (h3, .inr (2, [.ref h18, .ref h19, .ref h20, .int 0, .ref h21, .int 0, .int 0, .ref h22, .ref h23, .ref h24, .ref h25, .ref h26, .int 0])), (h5, .inr (5, [.ref h28, .int 0, .ref h29, .int 0]))]) (w1 := [(h4, .inr (10, [.ref h27, .int 0, .int 0, .null]))]) hP hD [4] [0, 1, 2, 3, 5] rfl rfl (by decide) (by decide) hk1 hFc hP1 hD1
    generalize H1 = H at hP hS ⊢
    have hP : va_P (dC, dI) vwCl [(h0, .inr (11, [.ref h6, .int 0, .ref h7, .ref h1, .ref h8, .ref h9, .ref h10, .ref h2, .ref h3, .ref h4, .ref h11, .int 0, .ref h5, .ref h12])), (h1, .inr (1, [.ref h13, .ref h14, .ref h15, .ref h16, .int 0, .int 0])), (h2, .inr (0, [.ref h17, .int 0])), (h3, .inr (2, [.ref h18, .ref h19, .ref h20, .int 0, .ref h21, .int 0, .int 0, .ref h22, .ref h23, .ref h24, .ref h25, .ref h26, .int 0])), (h5, .inr (5, [.ref h28, .int 0, .ref h29, .int 0])), (h4, .inr (10, [.ref h27, .int 0, .int 0, .null]))] H := hP
    have hD : va_D A [(h0, .inr (11, [.ref h6, .int 0, .ref h7, .ref h1, .ref h8, .ref h9, .ref h10, .ref h2, .ref h3, .ref h4, .ref h11, .int 0, .ref h5, .ref h12])), (h1, .inr (1, [.ref h13, .ref h14, .ref h15, .ref h16, .int 0, .int 0])), (h2, .inr (0, [.ref h17, .int 0])), (h3, .inr (2, [.ref h18, .ref h19, .ref h20, .int 0, .ref h21, .int 0, .int 0, .ref h22, .ref h23, .ref h24, .ref h25, .ref h26, .int 0])), (h5, .inr (5, [.ref h28, .int 0, .ref h29, .int 0])), (h4, .inr (10, [.ref h27, .int 0, .int 0, .null]))] := hD
    obtain rfl := hw
    have hP9 := hP.sub (ws' := []) [] rfl
    have hD9 := hD.sub (ws' := []) [] (by decide) rfl
    have hK9 := hK.sub (tys' := []) [] rfl
    exact W.iret (v := 0) hx hb hr (fun t ht hW => ⟨⟨0, (), rfl, by first | rfl | ((repeat' split) <;> first | rfl | (exfalso; omega) | (exact Int32.toInt_inj.mp (by show (0 : Int) = _; omega))), by rw [ht]; exact hP9, va_K.moved hW.alike hK9, hD9⟩, hS.F ht⟩) hS.2.2 dX11_count_73
  · have t_1 : p0.toInt = 4 := by rw [e_1]; rfl
    refine lv_tableIn (tgt := 74) (off := 73) hx hb dX11_count_1 (by omega) (by omega) (by rw [t_1]; rfl) (by decide) ?_
    refine lv_aload_n hx hb dX11_count_74 rfl (lv_at hl 0 rfl) ?_
    refine va_get (D := (dC, dI)) (ci := 11) (v := .ref h2) (C := RX11) (T := TX11) (N := 14) hx hb hts (fun _ h => List.mem_cons_of_mem _ (List.mem_append_left _ (List.mem_append_left _ (List.mem_append_left _ (List.mem_append_left _ (List.mem_append_left _ (List.mem_append_right _ h))))))) hown hK hP 0 rfl rfl 7 (by decide) (hts (.fieldLink RX11 51 "KinkStreet" "bends" "LKinkStreet$Bends;") (List.mem_of_getElem? (i := 5) rfl)) (fun _ h9 => h9) rfl dX11_count_75 ?_
    have hPc := hP.sub (ws' := [(h2, .inr (0, [.ref h17, .int 0]))]) [2] rfl
    have hDc := hD.sub (ws' := [(h2, .inr (0, [.ref h17, .int 0]))]) [2] (by decide) rfl
    have hKc := hK.sub (tys' := []) [] rfl
    have hFc := va_free (wc := [(h2, .inr (0, [.ref h17, .int 0]))]) hD hS hA [2] rfl
    refine va_calli (va_runV (As := []) (rest := []) ⟨hx, hb, hml, hown, hts⟩ (k_X0_size_0 l dC dI h2 h17 s.heap.size) (cwV 0 hts gX11_count_X0_size rfl rfl rfl (by decide +kernel) ⟨Nat.le_of_ble_eq_true rfl, Nat.le_of_ble_eq_true rfl⟩) ⟨fun a U g mk q => by obtain ⟨q0, q1, qP, qK, qD⟩ := q; exact ⟨q0, q1, qP, va_K.moved (u := U) (U := U.calling g mk a) (Vm.Alike.refl U.vm) qK, qD⟩, va_recv hKc hPc (ci := 0) (q0 := 0) rfl rfl, fun U hU hW => ⟨rfl, by rw [hU], by rw [hU]; exact hPc, va_K.moved hW.alike hKc, hDc.weaken (fun _ _ _ _ => trivial)⟩⟩ rfl rfl hl.1 rfl (lv_room (Nat.le_of_ble_eq_true rfl)) dX11_count_78 ⟨Nat.le_of_ble_eq_true rfl, Nat.le_of_ble_eq_true rfl⟩) hS (fun q _ h => hFc q h) hFc (fun r_4 u t H1 locs ht hvm hw hB hz1 hk1 hS => ?_)
    obtain ⟨hP1, hK1, hD1⟩ := hB
    rw [ht] at hP1
    have hK1 := va_K.moved hvm.symm hK1
    obtain ⟨hP, hD⟩ := va_join (wr := [(h0, .inr (11, [.ref h6, .int 0, .ref h7, .ref h1, .ref h8, .ref h9, .ref h10, .ref h2, .ref h3, .ref h4, .ref h11, .int 0, .ref h5, .ref h12])), (h1, .inr (1, [.ref h13, .ref h14, .ref h15, .ref h16, .int 0, .int 0])), (h3, .inr (2, [.ref h18, .ref h19, .ref h20, .int 0, .ref h21, .int 0, .int 0, .ref h22, .ref h23, .ref h24, .ref h25, .ref h26, .int 0])), (h4, .inr (10, [.ref h27, .int 0, .int 0, .null])), (h5, .inr (5, [.ref h28, .int 0, .ref h29, .int 0]))]) (w1 := [(h2, .inr (0, [.ref h17, .int 0]))]) hP hD [2] [0, 1, 3, 4, 5] rfl rfl (by decide) (by decide) hk1 hFc hP1 hD1
    generalize H1 = H at hP hS ⊢
    have hP : va_P (dC, dI) vwCl [(h0, .inr (11, [.ref h6, .int 0, .ref h7, .ref h1, .ref h8, .ref h9, .ref h10, .ref h2, .ref h3, .ref h4, .ref h11, .int 0, .ref h5, .ref h12])), (h1, .inr (1, [.ref h13, .ref h14, .ref h15, .ref h16, .int 0, .int 0])), (h3, .inr (2, [.ref h18, .ref h19, .ref h20, .int 0, .ref h21, .int 0, .int 0, .ref h22, .ref h23, .ref h24, .ref h25, .ref h26, .int 0])), (h4, .inr (10, [.ref h27, .int 0, .int 0, .null])), (h5, .inr (5, [.ref h28, .int 0, .ref h29, .int 0])), (h2, .inr (0, [.ref h17, .int 0]))] H := hP
    have hD : va_D A [(h0, .inr (11, [.ref h6, .int 0, .ref h7, .ref h1, .ref h8, .ref h9, .ref h10, .ref h2, .ref h3, .ref h4, .ref h11, .int 0, .ref h5, .ref h12])), (h1, .inr (1, [.ref h13, .ref h14, .ref h15, .ref h16, .int 0, .int 0])), (h3, .inr (2, [.ref h18, .ref h19, .ref h20, .int 0, .ref h21, .int 0, .int 0, .ref h22, .ref h23, .ref h24, .ref h25, .ref h26, .int 0])), (h4, .inr (10, [.ref h27, .int 0, .int 0, .null])), (h5, .inr (5, [.ref h28, .int 0, .ref h29, .int 0])), (h2, .inr (0, [.ref h17, .int 0]))] := hD
    obtain rfl := hw
    have hP9 := hP.sub (ws' := []) [] rfl
    have hD9 := hD.sub (ws' := []) [] (by decide) rfl
    have hK9 := hK.sub (tys' := []) [] rfl
    exact W.iret (v := 0) hx hb hr (fun t ht hW => ⟨⟨0, (), rfl, by first | rfl | ((repeat' split) <;> first | rfl | (exfalso; omega) | (exact Int32.toInt_inj.mp (by show (0 : Int) = _; omega))), by rw [ht]; exact hP9, va_K.moved hW.alike hK9, hD9⟩, hS.F ht⟩) hS.2.2 dX11_count_81
  · have t_1 : p0.toInt = 5 := by rw [e_1]; rfl
    refine lv_tableIn (tgt := 82) (off := 81) hx hb dX11_count_1 (by omega) (by omega) (by rw [t_1]; rfl) (by decide) ?_
    refine lv_aload_n hx hb dX11_count_82 rfl (lv_at hl 0 rfl) ?_
    refine va_get (D := (dC, dI)) (ci := 11) (v := .ref h1) (C := RX11) (T := TX11) (N := 14) hx hb hts (fun _ h => List.mem_cons_of_mem _ (List.mem_append_left _ (List.mem_append_left _ (List.mem_append_left _ (List.mem_append_left _ (List.mem_append_left _ (List.mem_append_right _ h))))))) hown hK hP 0 rfl rfl 3 (by decide) (hts (.fieldLink RX11 23 "KinkStreet" "changes" "LKinkStreet$Changes;") (List.mem_of_getElem? (i := 6) rfl)) (fun _ h9 => h9) rfl dX11_count_83 ?_
    have hPc := hP.sub (ws' := [(h1, .inr (1, [.ref h13, .ref h14, .ref h15, .ref h16, .int 0, .int 0]))]) [1] rfl
    have hDc := hD.sub (ws' := [(h1, .inr (1, [.ref h13, .ref h14, .ref h15, .ref h16, .int 0, .int 0]))]) [1] (by decide) rfl
    have hKc := hK.sub (tys' := []) [] rfl
    have hFc := va_free (wc := [(h1, .inr (1, [.ref h13, .ref h14, .ref h15, .ref h16, .int 0, .int 0]))]) hD hS hA [1] rfl
    refine va_calli (va_runV (As := []) (rest := []) ⟨hx, hb, hml, hown, hts⟩ (k_X1_undoable_0 l dC dI h1 h13 h14 h15 h16 s.heap.size) (cwV 0 hts gX11_count_X1_undoable rfl rfl rfl (by decide +kernel) ⟨Nat.le_of_ble_eq_true rfl, Nat.le_of_ble_eq_true rfl⟩) ⟨fun a U g mk q => by obtain ⟨q0, q1, qP, qK, qD⟩ := q; exact ⟨q0, q1, qP, va_K.moved (u := U) (U := U.calling g mk a) (Vm.Alike.refl U.vm) qK, qD⟩, va_recv hKc hPc (ci := 1) (q0 := 0) rfl rfl, fun U hU hW => ⟨rfl, by rw [hU], by rw [hU]; exact hPc, va_K.moved hW.alike hKc, hDc.weaken (fun _ _ _ _ => trivial)⟩⟩ rfl rfl hl.1 rfl (lv_room (Nat.le_of_ble_eq_true rfl)) dX11_count_86 ⟨Nat.le_of_ble_eq_true rfl, Nat.le_of_ble_eq_true rfl⟩) hS (fun q _ h => hFc q h) hFc (fun r_5 u t H1 locs ht hvm hw hB hz1 hk1 hS => ?_)
    obtain ⟨hP1, hK1, hD1⟩ := hB
    rw [ht] at hP1
    have hK1 := va_K.moved hvm.symm hK1
    obtain ⟨hP, hD⟩ := va_join (wr := [(h0, .inr (11, [.ref h6, .int 0, .ref h7, .ref h1, .ref h8, .ref h9, .ref h10, .ref h2, .ref h3, .ref h4, .ref h11, .int 0, .ref h5, .ref h12])), (h2, .inr (0, [.ref h17, .int 0])), (h3, .inr (2, [.ref h18, .ref h19, .ref h20, .int 0, .ref h21, .int 0, .int 0, .ref h22, .ref h23, .ref h24, .ref h25, .ref h26, .int 0])), (h4, .inr (10, [.ref h27, .int 0, .int 0, .null])), (h5, .inr (5, [.ref h28, .int 0, .ref h29, .int 0]))]) (w1 := [(h1, .inr (1, [.ref h13, .ref h14, .ref h15, .ref h16, .int 0, .int 0]))]) hP hD [1] [0, 2, 3, 4, 5] rfl rfl (by decide) (by decide) hk1 hFc hP1 hD1
    generalize H1 = H at hP hS ⊢
    have hP : va_P (dC, dI) vwCl [(h0, .inr (11, [.ref h6, .int 0, .ref h7, .ref h1, .ref h8, .ref h9, .ref h10, .ref h2, .ref h3, .ref h4, .ref h11, .int 0, .ref h5, .ref h12])), (h2, .inr (0, [.ref h17, .int 0])), (h3, .inr (2, [.ref h18, .ref h19, .ref h20, .int 0, .ref h21, .int 0, .int 0, .ref h22, .ref h23, .ref h24, .ref h25, .ref h26, .int 0])), (h4, .inr (10, [.ref h27, .int 0, .int 0, .null])), (h5, .inr (5, [.ref h28, .int 0, .ref h29, .int 0])), (h1, .inr (1, [.ref h13, .ref h14, .ref h15, .ref h16, .int 0, .int 0]))] H := hP
    have hD : va_D A [(h0, .inr (11, [.ref h6, .int 0, .ref h7, .ref h1, .ref h8, .ref h9, .ref h10, .ref h2, .ref h3, .ref h4, .ref h11, .int 0, .ref h5, .ref h12])), (h2, .inr (0, [.ref h17, .int 0])), (h3, .inr (2, [.ref h18, .ref h19, .ref h20, .int 0, .ref h21, .int 0, .int 0, .ref h22, .ref h23, .ref h24, .ref h25, .ref h26, .int 0])), (h4, .inr (10, [.ref h27, .int 0, .int 0, .null])), (h5, .inr (5, [.ref h28, .int 0, .ref h29, .int 0])), (h1, .inr (1, [.ref h13, .ref h14, .ref h15, .ref h16, .int 0, .int 0]))] := hD
    obtain rfl := hw
    have hP9 := hP.sub (ws' := []) [] rfl
    have hD9 := hD.sub (ws' := []) [] (by decide) rfl
    have hK9 := hK.sub (tys' := []) [] rfl
    exact W.iret (v := 0) hx hb hr (fun t ht hW => ⟨⟨0, (), rfl, by first | rfl | ((repeat' split) <;> first | rfl | (exfalso; omega) | (exact Int32.toInt_inj.mp (by show (0 : Int) = _; omega))), by rw [ht]; exact hP9, va_K.moved hW.alike hK9, hD9⟩, hS.F ht⟩) hS.2.2 dX11_count_89
  · have t_1 : p0.toInt = 6 := by rw [e_1]; rfl
    refine lv_tableIn (tgt := 90) (off := 89) hx hb dX11_count_1 (by omega) (by omega) (by rw [t_1]; rfl) (by decide) ?_
    refine lv_aload_n hx hb dX11_count_90 rfl (lv_at hl 0 rfl) ?_
    refine va_get (D := (dC, dI)) (ci := 11) (v := .ref h5) (C := RX11) (T := TX11) (N := 14) hx hb hts (fun _ h => List.mem_cons_of_mem _ (List.mem_append_left _ (List.mem_append_left _ (List.mem_append_left _ (List.mem_append_left _ (List.mem_append_left _ (List.mem_append_right _ h))))))) hown hK hP 0 rfl rfl 12 (by decide) (hts (.fieldLink RX11 78 "KinkStreet" "lines" "LKinkStreet$Lines;") (List.mem_of_getElem? (i := 7) rfl)) (fun _ h9 => h9) rfl dX11_count_91 ?_
    have hPc := hP.sub (ws' := [(h5, .inr (5, [.ref h28, .int 0, .ref h29, .int 0]))]) [5] rfl
    have hDc := hD.sub (ws' := [(h5, .inr (5, [.ref h28, .int 0, .ref h29, .int 0]))]) [5] (by decide) rfl
    have hKc := hK.sub (tys' := []) [] rfl
    have hFc := va_free (wc := [(h5, .inr (5, [.ref h28, .int 0, .ref h29, .int 0]))]) hD hS hA [5] rfl
    refine va_calli (va_runV (As := []) (rest := []) ⟨hx, hb, hml, hown, hts⟩ (k_X5_size_0 l dC dI h5 h28 h29 s.heap.size) (cwV 0 hts gX11_count_X5_size rfl rfl rfl (by decide +kernel) ⟨Nat.le_of_ble_eq_true rfl, Nat.le_of_ble_eq_true rfl⟩) ⟨fun a U g mk q => by obtain ⟨q0, q1, qP, qK, qD⟩ := q; exact ⟨q0, q1, qP, va_K.moved (u := U) (U := U.calling g mk a) (Vm.Alike.refl U.vm) qK, qD⟩, va_recv hKc hPc (ci := 5) (q0 := 0) rfl rfl, fun U hU hW => ⟨rfl, by rw [hU], by rw [hU]; exact hPc, va_K.moved hW.alike hKc, hDc.weaken (fun _ _ _ _ => trivial)⟩⟩ rfl rfl hl.1 rfl (lv_room (Nat.le_of_ble_eq_true rfl)) dX11_count_94 ⟨Nat.le_of_ble_eq_true rfl, Nat.le_of_ble_eq_true rfl⟩) hS (fun q _ h => hFc q h) hFc (fun r_6 u t H1 locs ht hvm hw hB hz1 hk1 hS => ?_)
    obtain ⟨hP1, hK1, hD1⟩ := hB
    rw [ht] at hP1
    have hK1 := va_K.moved hvm.symm hK1
    obtain ⟨hP, hD⟩ := va_join (wr := [(h0, .inr (11, [.ref h6, .int 0, .ref h7, .ref h1, .ref h8, .ref h9, .ref h10, .ref h2, .ref h3, .ref h4, .ref h11, .int 0, .ref h5, .ref h12])), (h1, .inr (1, [.ref h13, .ref h14, .ref h15, .ref h16, .int 0, .int 0])), (h2, .inr (0, [.ref h17, .int 0])), (h3, .inr (2, [.ref h18, .ref h19, .ref h20, .int 0, .ref h21, .int 0, .int 0, .ref h22, .ref h23, .ref h24, .ref h25, .ref h26, .int 0])), (h4, .inr (10, [.ref h27, .int 0, .int 0, .null]))]) (w1 := [(h5, .inr (5, [.ref h28, .int 0, .ref h29, .int 0]))]) hP hD [5] [0, 1, 2, 3, 4] rfl rfl (by decide) (by decide) hk1 hFc hP1 hD1
    generalize H1 = H at hP hS ⊢
    have hP : va_P (dC, dI) vwCl [(h0, .inr (11, [.ref h6, .int 0, .ref h7, .ref h1, .ref h8, .ref h9, .ref h10, .ref h2, .ref h3, .ref h4, .ref h11, .int 0, .ref h5, .ref h12])), (h1, .inr (1, [.ref h13, .ref h14, .ref h15, .ref h16, .int 0, .int 0])), (h2, .inr (0, [.ref h17, .int 0])), (h3, .inr (2, [.ref h18, .ref h19, .ref h20, .int 0, .ref h21, .int 0, .int 0, .ref h22, .ref h23, .ref h24, .ref h25, .ref h26, .int 0])), (h4, .inr (10, [.ref h27, .int 0, .int 0, .null])), (h5, .inr (5, [.ref h28, .int 0, .ref h29, .int 0]))] H := hP
    have hD : va_D A [(h0, .inr (11, [.ref h6, .int 0, .ref h7, .ref h1, .ref h8, .ref h9, .ref h10, .ref h2, .ref h3, .ref h4, .ref h11, .int 0, .ref h5, .ref h12])), (h1, .inr (1, [.ref h13, .ref h14, .ref h15, .ref h16, .int 0, .int 0])), (h2, .inr (0, [.ref h17, .int 0])), (h3, .inr (2, [.ref h18, .ref h19, .ref h20, .int 0, .ref h21, .int 0, .int 0, .ref h22, .ref h23, .ref h24, .ref h25, .ref h26, .int 0])), (h4, .inr (10, [.ref h27, .int 0, .int 0, .null])), (h5, .inr (5, [.ref h28, .int 0, .ref h29, .int 0]))] := hD
    obtain rfl := hw
    have hP9 := hP.sub (ws' := []) [] rfl
    have hD9 := hD.sub (ws' := []) [] (by decide) rfl
    have hK9 := hK.sub (tys' := []) [] rfl
    exact W.iret (v := 0) hx hb hr (fun t ht hW => ⟨⟨0, (), rfl, by first | rfl | ((repeat' split) <;> first | rfl | (exfalso; omega) | (exact Int32.toInt_inj.mp (by show (0 : Int) = _; omega))), by rw [ht]; exact hP9, va_K.moved hW.alike hK9, hD9⟩, hS.F ht⟩) hS.2.2 dX11_count_97
  · have t_1 : p0.toInt = 7 := by rw [e_1]; rfl
    refine lv_tableIn (tgt := 98) (off := 97) hx hb dX11_count_1 (by omega) (by omega) (by rw [t_1]; rfl) (by decide) ?_
    refine lv_aload_n hx hb dX11_count_98 rfl (lv_at hl 0 rfl) ?_
    refine va_get (D := (dC, dI)) (ci := 11) (v := .ref h5) (C := RX11) (T := TX11) (N := 14) hx hb hts (fun _ h => List.mem_cons_of_mem _ (List.mem_append_left _ (List.mem_append_left _ (List.mem_append_left _ (List.mem_append_left _ (List.mem_append_left _ (List.mem_append_right _ h))))))) hown hK hP 0 rfl rfl 12 (by decide) (hts (.fieldLink RX11 78 "KinkStreet" "lines" "LKinkStreet$Lines;") (List.mem_of_getElem? (i := 7) rfl)) (fun _ h9 => h9) rfl dX11_count_99 ?_
    have hPc := hP.sub (ws' := [(h5, .inr (5, [.ref h28, .int 0, .ref h29, .int 0]))]) [5] rfl
    have hDc := hD.sub (ws' := [(h5, .inr (5, [.ref h28, .int 0, .ref h29, .int 0]))]) [5] (by decide) rfl
    have hKc := hK.sub (tys' := []) [] rfl
    have hFc := va_free (wc := [(h5, .inr (5, [.ref h28, .int 0, .ref h29, .int 0]))]) hD hS hA [5] rfl
    refine va_calli (va_runV (As := []) (rest := []) ⟨hx, hb, hml, hown, hts⟩ (k_X5_bodiesThatRan_0 l dC dI h5 h28 h29 s.heap.size) (cwV 0 hts gX11_count_X5_bodiesThatRan rfl rfl rfl (by decide +kernel) ⟨Nat.le_of_ble_eq_true rfl, Nat.le_of_ble_eq_true rfl⟩) ⟨fun a U g mk q => by obtain ⟨q0, q1, qP, qK, qD⟩ := q; exact ⟨q0, q1, qP, va_K.moved (u := U) (U := U.calling g mk a) (Vm.Alike.refl U.vm) qK, qD⟩, va_recv hKc hPc (ci := 5) (q0 := 0) rfl rfl, fun U hU hW => ⟨rfl, by rw [hU], by rw [hU]; exact hPc, va_K.moved hW.alike hKc, hDc.weaken (fun _ _ _ _ => trivial)⟩⟩ rfl rfl hl.1 rfl (lv_room (Nat.le_of_ble_eq_true rfl)) dX11_count_102 ⟨Nat.le_of_ble_eq_true rfl, Nat.le_of_ble_eq_true rfl⟩) hS (fun q _ h => hFc q h) hFc (fun r_7 u t H1 locs ht hvm hw hB hz1 hk1 hS => ?_)
    obtain ⟨hP1, hK1, hD1⟩ := hB
    rw [ht] at hP1
    have hK1 := va_K.moved hvm.symm hK1
    obtain ⟨hP, hD⟩ := va_join (wr := [(h0, .inr (11, [.ref h6, .int 0, .ref h7, .ref h1, .ref h8, .ref h9, .ref h10, .ref h2, .ref h3, .ref h4, .ref h11, .int 0, .ref h5, .ref h12])), (h1, .inr (1, [.ref h13, .ref h14, .ref h15, .ref h16, .int 0, .int 0])), (h2, .inr (0, [.ref h17, .int 0])), (h3, .inr (2, [.ref h18, .ref h19, .ref h20, .int 0, .ref h21, .int 0, .int 0, .ref h22, .ref h23, .ref h24, .ref h25, .ref h26, .int 0])), (h4, .inr (10, [.ref h27, .int 0, .int 0, .null]))]) (w1 := [(h5, .inr (5, [.ref h28, .int 0, .ref h29, .int 0]))]) hP hD [5] [0, 1, 2, 3, 4] rfl rfl (by decide) (by decide) hk1 hFc hP1 hD1
    generalize H1 = H at hP hS ⊢
    have hP : va_P (dC, dI) vwCl [(h0, .inr (11, [.ref h6, .int 0, .ref h7, .ref h1, .ref h8, .ref h9, .ref h10, .ref h2, .ref h3, .ref h4, .ref h11, .int 0, .ref h5, .ref h12])), (h1, .inr (1, [.ref h13, .ref h14, .ref h15, .ref h16, .int 0, .int 0])), (h2, .inr (0, [.ref h17, .int 0])), (h3, .inr (2, [.ref h18, .ref h19, .ref h20, .int 0, .ref h21, .int 0, .int 0, .ref h22, .ref h23, .ref h24, .ref h25, .ref h26, .int 0])), (h4, .inr (10, [.ref h27, .int 0, .int 0, .null])), (h5, .inr (5, [.ref h28, .int 0, .ref h29, .int 0]))] H := hP
    have hD : va_D A [(h0, .inr (11, [.ref h6, .int 0, .ref h7, .ref h1, .ref h8, .ref h9, .ref h10, .ref h2, .ref h3, .ref h4, .ref h11, .int 0, .ref h5, .ref h12])), (h1, .inr (1, [.ref h13, .ref h14, .ref h15, .ref h16, .int 0, .int 0])), (h2, .inr (0, [.ref h17, .int 0])), (h3, .inr (2, [.ref h18, .ref h19, .ref h20, .int 0, .ref h21, .int 0, .int 0, .ref h22, .ref h23, .ref h24, .ref h25, .ref h26, .int 0])), (h4, .inr (10, [.ref h27, .int 0, .int 0, .null])), (h5, .inr (5, [.ref h28, .int 0, .ref h29, .int 0]))] := hD
    obtain rfl := hw
    have hP9 := hP.sub (ws' := []) [] rfl
    have hD9 := hD.sub (ws' := []) [] (by decide) rfl
    have hK9 := hK.sub (tys' := []) [] rfl
    exact W.iret (v := 0) hx hb hr (fun t ht hW => ⟨⟨0, (), rfl, by first | rfl | ((repeat' split) <;> first | rfl | (exfalso; omega) | (exact Int32.toInt_inj.mp (by show (0 : Int) = _; omega))), by rw [ht]; exact hP9, va_K.moved hW.alike hK9, hD9⟩, hS.F ht⟩) hS.2.2 dX11_count_105
  · refine lv_tableOut (tgt := 106) hx hb dX11_count_1 t_1 (by decide) ?_
    refine lv_iconst (v := (-1)) hx hb dX11_count_106 (by decide) ?_
    have hP9 := hP.sub (ws' := []) [] rfl
    have hD9 := hD.sub (ws' := []) [] (by decide) rfl
    have hK9 := hK.sub (tys' := []) [] rfl
    exact W.iret (v := (-1)) hx hb hr (fun t ht hW => ⟨⟨(-1), (), rfl, by first | rfl | ((repeat' split) <;> first | rfl | (exfalso; omega) | (exact Int32.toInt_inj.mp (by show ((-1) : Int) = _; omega))), by rw [ht]; exact hP9, va_K.moved hW.alike hK9, hD9⟩, hS.F ht⟩) hS.2.2 dX11_count_107
set_option maxHeartbeats 4000000 in
set_option maxRecDepth 100000 in
theorem k_X12_street_0 (l : Launch) (dC : Nat → ClassId) (dI : Nat → Nat → Nat) (h0 h1 h2 h3 h4 h5 h6 h7 h8 h9 h10 h11 h12 h13 h14 h15 h16 h17 h18 h19 h20 h21 h22 h23 h24 h25 h26 h27 h28 h29 : Nat) (cint : ClassId) (sz : Nat)  : Met l yX12_street wsX12_street ({ frames := 0, cells := 0, slots := 0, locals := 0 }) (va_Pc [.ref h0] (fun U => U.heap.size = sz ∧ va_P (dC, dI) vwCl [(h0, .inr (12, [.int 0, .ref h1, .ref h2, .ref h3, .ref h4, .ref h5, .int 0, .int 0, .ref h6, .int 0, .int 0, .ref h7, .ref h8, .ref h9, .ref h10, .ref h11, .ref h12, .ref h13, .int 0, .int 0, .ref h14, .ref h15, .ref h16, .ref h17, .int 0, .ref h18, .ref h19, .int 0, .ref h20, .int 0, .int 0, .ref h21, .ref h22, .int 0, .int 0, .int 0, .int 0, .int 0, .ref h23, .int 0, .ref h24, .ref h25, .int 0, .int 0, .int 0, .ref h26, .ref h27, .ref h28, .ref h29])), (h1, .inl (cint, 7, .inl (fun _ => 0)))] U.heap ∧ va_K (dC, dI) vwCl [(cint, .int)] U ∧ va_D (fun _ => True) [(h0, .inr (12, [.int 0, .ref h1, .ref h2, .ref h3, .ref h4, .ref h5, .int 0, .int 0, .ref h6, .int 0, .int 0, .ref h7, .ref h8, .ref h9, .ref h10, .ref h11, .ref h12, .ref h13, .int 0, .int 0, .ref h14, .ref h15, .ref h16, .ref h17, .int 0, .ref h18, .ref h19, .int 0, .ref h20, .int 0, .int 0, .ref h21, .ref h22, .int 0, .int 0, .int 0, .int 0, .int 0, .ref h23, .int 0, .ref h24, .ref h25, .int 0, .int 0, .int 0, .ref h26, .ref h27, .ref h28, .ref h29])), (h1, .inl (cint, 7, .inl (fun _ => 0)))])) (va_Qi (fun (r : Int32) (_ : Unit) => r = 0) (fun (_ : Unit) t => va_P (dC, dI) vwCl [] t.heap ∧ va_K (dC, dI) vwCl [] t ∧ va_D (va_A [(h0, .inr (12, [.int 0, .ref h1, .ref h2, .ref h3, .ref h4, .ref h5, .int 0, .int 0, .ref h6, .int 0, .int 0, .ref h7, .ref h8, .ref h9, .ref h10, .ref h11, .ref h12, .ref h13, .int 0, .int 0, .ref h14, .ref h15, .ref h16, .ref h17, .int 0, .ref h18, .ref h19, .int 0, .ref h20, .int 0, .int 0, .ref h21, .ref h22, .int 0, .int 0, .int 0, .int 0, .int 0, .ref h23, .int 0, .ref h24, .ref h25, .int 0, .int 0, .int 0, .ref h26, .ref h27, .ref h28, .ref h29])), (h1, .inl (cint, 7, .inl (fun _ => 0)))] sz) []) (va_A [(h0, .inr (12, [.int 0, .ref h1, .ref h2, .ref h3, .ref h4, .ref h5, .int 0, .int 0, .ref h6, .int 0, .int 0, .ref h7, .ref h8, .ref h9, .ref h10, .ref h11, .ref h12, .ref h13, .int 0, .int 0, .ref h14, .ref h15, .ref h16, .ref h17, .int 0, .ref h18, .ref h19, .int 0, .ref h20, .int 0, .int 0, .ref h21, .ref h22, .int 0, .int 0, .int 0, .int 0, .int 0, .ref h23, .int 0, .ref h24, .ref h25, .int 0, .int 0, .int 0, .ref h26, .ref h27, .ref h28, .ref h29])), (h1, .inl (cint, 7, .inl (fun _ => 0)))] sz)) 0 0 (va_A [(h0, .inr (12, [.int 0, .ref h1, .ref h2, .ref h3, .ref h4, .ref h5, .int 0, .int 0, .ref h6, .int 0, .int 0, .ref h7, .ref h8, .ref h9, .ref h10, .ref h11, .ref h12, .ref h13, .int 0, .int 0, .ref h14, .ref h15, .ref h16, .ref h17, .int 0, .ref h18, .ref h19, .int 0, .ref h20, .int 0, .int 0, .ref h21, .ref h22, .int 0, .int 0, .int 0, .int 0, .int 0, .ref h23, .int 0, .ref h24, .ref h25, .int 0, .int 0, .int 0, .ref h26, .ref h27, .ref h28, .ref h29])), (h1, .inl (cint, 7, .inl (fun _ => 0)))] sz) := by
  refine Met.ofW (cc := cX12_street) (maxL := 1) (ret := (some .int)) (by decide) rfl ?_
  intro p e s m args below meth c s₁ B hml hv
  obtain ⟨rfl, hsz, hP, hK, hD0⟩ := hv
  have hx := B.exec
  have hb := B.bytes
  have hr := B.returns
  have hts := atoms_spec (ws := wsX12_street) B.pre
  have hown : s.vm.findClass RX12 = some m.cls := findClass_of_methodNamed B.named
  have hlocks := B.notSynchronized
  subst hsz
  have hD := hD0.self (sz := s.heap.size)
  generalize hAe : va_A [(h0, .inr (12, [.int 0, .ref h1, .ref h2, .ref h3, .ref h4, .ref h5, .int 0, .int 0, .ref h6, .int 0, .int 0, .ref h7, .ref h8, .ref h9, .ref h10, .ref h11, .ref h12, .ref h13, .int 0, .int 0, .ref h14, .ref h15, .ref h16, .ref h17, .int 0, .ref h18, .ref h19, .int 0, .ref h20, .int 0, .int 0, .ref h21, .ref h22, .int 0, .int 0, .int 0, .int 0, .int 0, .ref h23, .int 0, .ref h24, .ref h25, .int 0, .int 0, .int 0, .ref h26, .ref h27, .ref h28, .ref h29])), (h1, .inl (cint, 7, .inl (fun _ => 0)))] s.heap.size = A at hD ⊢
  have hA : ∀ q : Nat, s.heap.size ≤ q → A q := fun q h => by rw [← hAe]; exact Or.inr h
  have hS : va_S A s.heap s.heap [] := va_S.rf
  have hP : va_P (dC, dI) vwCl [(h0, .inr (12, [.int 0, .ref h1, .ref h2, .ref h3, .ref h4, .ref h5, .int 0, .int 0, .ref h6, .int 0, .int 0, .ref h7, .ref h8, .ref h9, .ref h10, .ref h11, .ref h12, .ref h13, .int 0, .int 0, .ref h14, .ref h15, .ref h16, .ref h17, .int 0, .ref h18, .ref h19, .int 0, .ref h20, .int 0, .int 0, .ref h21, .ref h22, .int 0, .int 0, .int 0, .int 0, .int 0, .ref h23, .int 0, .ref h24, .ref h25, .int 0, .int 0, .int 0, .ref h26, .ref h27, .ref h28, .ref h29])), (h1, .inl (cint, 7, .inl (fun _ => 0)))] s.heap := hP
  have hl := lv_entry ([.ref h0]) (n := 1) (Nat.le_of_ble_eq_true rfl)
  rw [lg_entry_eq]
  generalize (lg_sl ([.ref h0]) ++ List.replicate (1 - (lg_sl ([.ref h0])).length) Slot.unset).toArray = ls at hl ⊢
  have hl : lv_has ls 1 [(0, .ref h0)] := hl
  refine lv_aload_n hx hb dX12_street_0 rfl (lv_at hl 0 rfl) ?_
  refine va_get (D := (dC, dI)) (ci := 12) (v := .int 0) (C := RX12) (T := TX12) (N := 49) hx hb hts (fun _ h => List.mem_cons_of_mem _ (List.mem_append_right _ h)) hown hK hP 0 rfl rfl 0 (by decide) (hts (.fieldLink RX12 106 "KinkStreetModel" "streets" "I") (List.mem_of_getElem? (i := 1) rfl)) (fun _ h9 => h9) rfl dX12_street_1 ?_
  refine lv_bipush (v := 6) hx hb dX12_street_4 (by decide) ?_
  refine lv_icmp_ne (tgt := 12) hx hb dX12_street_6 (by decide) (fun _ => ?_) (fun c => absurd c (by decide))
  refine lv_aload_n hx hb dX12_street_12 rfl (lv_at hl 0 rfl) ?_
  refine va_get (D := (dC, dI)) (ci := 12) (v := .ref h1) (C := RX12) (T := TX12) (N := 49) hx hb hts (fun _ h => List.mem_cons_of_mem _ (List.mem_append_right _ h)) hown hK hP 0 rfl rfl 1 (by decide) (hts (.fieldLink RX12 9 "KinkStreetModel" "plots" "[I") (List.mem_of_getElem? (i := 2) rfl)) (fun _ h9 => h9) rfl dX12_street_13 ?_
  refine lv_aload_n hx hb dX12_street_16 rfl (lv_at hl 0 rfl) ?_
  refine va_get (D := (dC, dI)) (ci := 12) (v := .int 0) (C := RX12) (T := TX12) (N := 49) hx hb hts (fun _ h => List.mem_cons_of_mem _ (List.mem_append_right _ h)) hown hK hP 0 rfl rfl 0 (by decide) (hts (.fieldLink RX12 106 "KinkStreetModel" "streets" "I") (List.mem_of_getElem? (i := 1) rfl)) (fun _ h9 => h9) rfl dX12_street_17 ?_
  refine lv_iconst (v := 0) hx hb dX12_street_20 (by decide) ?_
  refine va_iast hx hb hK hP hD hS 1 0 rfl rfl (by unfold vp_in; decide) dX12_street_21 (fun H locs hP hD hS => ?_)
  have hP : va_P (dC, dI) vwCl [(h0, .inr (12, [.int 0, .ref h1, .ref h2, .ref h3, .ref h4, .ref h5, .int 0, .int 0, .ref h6, .int 0, .int 0, .ref h7, .ref h8, .ref h9, .ref h10, .ref h11, .ref h12, .ref h13, .int 0, .int 0, .ref h14, .ref h15, .ref h16, .ref h17, .int 0, .ref h18, .ref h19, .int 0, .ref h20, .int 0, .int 0, .ref h21, .ref h22, .int 0, .int 0, .int 0, .int 0, .int 0, .ref h23, .int 0, .ref h24, .ref h25, .int 0, .int 0, .int 0, .ref h26, .ref h27, .ref h28, .ref h29])), (h1, .inl (cint, 7, .inl (upd (fun _ => 0) (0 : Int32).toNatClampNeg 0)))] H := hP
  have hD : va_D A [(h0, .inr (12, [.int 0, .ref h1, .ref h2, .ref h3, .ref h4, .ref h5, .int 0, .int 0, .ref h6, .int 0, .int 0, .ref h7, .ref h8, .ref h9, .ref h10, .ref h11, .ref h12, .ref h13, .int 0, .int 0, .ref h14, .ref h15, .ref h16, .ref h17, .int 0, .ref h18, .ref h19, .int 0, .ref h20, .int 0, .int 0, .ref h21, .ref h22, .int 0, .int 0, .int 0, .int 0, .int 0, .ref h23, .int 0, .ref h24, .ref h25, .int 0, .int 0, .int 0, .ref h26, .ref h27, .ref h28, .ref h29])), (h1, .inl (cint, 7, .inl (upd (fun _ => 0) (0 : Int32).toNatClampNeg 0)))] := hD
  refine lv_aload_n hx hb dX12_street_22 rfl (lv_at hl 0 rfl) ?_
  refine lv_dup hx hb dX12_street_23 rfl ?_
  refine va_get (D := (dC, dI)) (ci := 12) (v := .int 0) (C := RX12) (T := TX12) (N := 49) hx hb hts (fun _ h => List.mem_cons_of_mem _ (List.mem_append_right _ h)) hown hK hP 0 rfl rfl 0 (by decide) (hts (.fieldLink RX12 106 "KinkStreetModel" "streets" "I") (List.mem_of_getElem? (i := 1) rfl)) (fun _ h9 => h9) rfl dX12_street_24 ?_
  refine lv_iconst (v := 1) hx hb dX12_street_27 (by decide) ?_
  refine lv_iadd hx hb dX12_street_28 ?_
  refine lv_topi (fun y_1 e_1 => ?_)
  obtain rfl : y_1 = 1 := e_1.trans (by decide)
  refine va_put (D := (dC, dI)) (ci := 12) (v := .int 1) (ty := .int) (C := RX12) (T := TX12) (N := 49) hx hb hts (fun _ h => List.mem_cons_of_mem _ (List.mem_append_right _ h)) tyX12 tyX12_ok nmX12 hown hK hP hD hS 0 rfl rfl 0 (by decide) (hts (.fieldLink RX12 106 "KinkStreetModel" "streets" "I") (List.mem_of_getElem? (i := 1) rfl)) (fun _ h9 => h9) rfl (by decide +kernel) rfl rfl (Nat.le_of_ble_eq_true rfl) dX12_street_29 (fun H locs hP hD hS => ?_)
  have hP : va_P (dC, dI) vwCl [(h0, .inr (12, [.int 1, .ref h1, .ref h2, .ref h3, .ref h4, .ref h5, .int 0, .int 0, .ref h6, .int 0, .int 0, .ref h7, .ref h8, .ref h9, .ref h10, .ref h11, .ref h12, .ref h13, .int 0, .int 0, .ref h14, .ref h15, .ref h16, .ref h17, .int 0, .ref h18, .ref h19, .int 0, .ref h20, .int 0, .int 0, .ref h21, .ref h22, .int 0, .int 0, .int 0, .int 0, .int 0, .ref h23, .int 0, .ref h24, .ref h25, .int 0, .int 0, .int 0, .ref h26, .ref h27, .ref h28, .ref h29])), (h1, .inl (cint, 7, .inl (upd (fun _ => 0) (0 : Int32).toNatClampNeg 0)))] H := hP
  have hD : va_D A [(h0, .inr (12, [.int 1, .ref h1, .ref h2, .ref h3, .ref h4, .ref h5, .int 0, .int 0, .ref h6, .int 0, .int 0, .ref h7, .ref h8, .ref h9, .ref h10, .ref h11, .ref h12, .ref h13, .int 0, .int 0, .ref h14, .ref h15, .ref h16, .ref h17, .int 0, .ref h18, .ref h19, .int 0, .ref h20, .int 0, .int 0, .ref h21, .ref h22, .int 0, .int 0, .int 0, .int 0, .int 0, .ref h23, .int 0, .ref h24, .ref h25, .int 0, .int 0, .int 0, .ref h26, .ref h27, .ref h28, .ref h29])), (h1, .inl (cint, 7, .inl (upd (fun _ => 0) (0 : Int32).toNatClampNeg 0)))] := hD
  refine lv_aload_n hx hb dX12_street_32 rfl (lv_at hl 0 rfl) ?_
  refine va_get (D := (dC, dI)) (ci := 12) (v := .int 1) (C := RX12) (T := TX12) (N := 49) hx hb hts (fun _ h => List.mem_cons_of_mem _ (List.mem_append_right _ h)) hown hK hP 0 rfl rfl 0 (by decide) (hts (.fieldLink RX12 106 "KinkStreetModel" "streets" "I") (List.mem_of_getElem? (i := 1) rfl)) (fun _ h9 => h9) rfl dX12_street_33 ?_
  refine lv_iconst (v := 1) hx hb dX12_street_36 (by decide) ?_
  refine lv_isub hx hb dX12_street_37 ?_
  refine lv_topi (fun y_2 e_2 => ?_)
  obtain rfl : y_2 = 0 := e_2.trans (by decide)
  have hP9 := hP.sub (ws' := []) [] rfl
  have hD9 := hD.sub (ws' := []) [] (by decide) rfl
  have hK9 := hK.sub (tys' := []) [] rfl
  exact W.iret (v := 0) hx hb hr (fun t ht hW => ⟨⟨0, (), rfl, by first | rfl | ((repeat' split) <;> first | rfl | (exfalso; omega) | (exact Int32.toInt_inj.mp (by show (0 : Int) = _; omega))), by rw [ht]; exact hP9, va_K.moved hW.alike hK9, hD9⟩, hS.F ht⟩) hS.2.2 dX12_street_38
set_option maxHeartbeats 4000000 in
set_option maxRecDepth 100000 in
theorem k_X12_within_0 (l : Launch) (dC : Nat → ClassId) (dI : Nat → Nat → Nat) (sz : Nat) (v0 : Int64) (xv0 : Int) (exv0 : v0.toInt = xv0) : Met l yX12_within wsX12_within ({ frames := 0, cells := 0, slots := 0, locals := 0 }) (va_Pc [.long v0, .long 0, .long (-1)] (fun U => U.heap.size = sz ∧ va_P (dC, dI) vwCl [] U.heap ∧ va_K (dC, dI) vwCl [] U ∧ va_D (fun _ => True) [])) (va_Qi (fun (r : Int32) (_ : Unit) => (xv0 < 0 ∧ r = 0) ∨ (0 ≤ xv0 ∧ (-1) < xv0 ∧ r = 0) ∨ (0 ≤ xv0 ∧ xv0 ≤ (-1) ∧ r = 1)) (fun (_ : Unit) t => va_P (dC, dI) vwCl [] t.heap ∧ va_K (dC, dI) vwCl [] t ∧ va_D (va_A [] sz) []) (va_A [] sz)) 0 0 (va_A [] sz) := by
  refine Met.ofW (cc := cX12_within) (maxL := 6) (ret := (some .boolean)) (by decide) rfl ?_
  intro p e s m args below meth c s₁ B hml hv
  obtain ⟨rfl, hsz, hP, hK, hD0⟩ := hv
  have hx := B.exec
  have hb := B.bytes
  have hr := B.returns
  have hts := atoms_spec (ws := wsX12_within) B.pre
  have hown : s.vm.findClass RX12 = some m.cls := findClass_of_methodNamed B.named
  have hlocks := B.notSynchronized
  subst hsz
  have hD := hD0.self (sz := s.heap.size)
  generalize hAe : va_A [] s.heap.size = A at hD ⊢
  have hA : ∀ q : Nat, s.heap.size ≤ q → A q := fun q h => by rw [← hAe]; exact Or.inr h
  have hS : va_S A s.heap s.heap [] := va_S.rf
  have hP : va_P (dC, dI) vwCl [] s.heap := hP
  have hl := lv_entry ([.long v0, .long 0, .long (-1)]) (n := 6) (Nat.le_of_ble_eq_true rfl)
  rw [lg_entry_eq]
  generalize (lg_sl ([.long v0, .long 0, .long (-1)]) ++ List.replicate (6 - (lg_sl ([.long v0, .long 0, .long (-1)])).length) Slot.unset).toArray = ls at hl ⊢
  have hl : lv_has ls 6 [(0, .long v0), (2, .long 0), (4, .long (-1))] := hl
  refine lv_lload_n hx hb dX12_within_0 rfl (lv_at hl 0 rfl) ?_
  refine lv_lload_n hx hb dX12_within_1 rfl (lv_at hl 1 rfl) ?_
  refine W.lcmp hx hb dX12_within_2 ?_
  refine lv_if_lt (tgt := 17) hx hb dX12_within_3 (by decide) (fun c_1 => ?_) (fun c_1 => ?_)
  · have t_1 : xv0 < 0 := by have h := kk_Lt c_1; have e1 : (0 : Int64).toInt = 0 := (by decide); omega
    refine lv_iconst (v := 0) hx hb dX12_within_17 (by decide) ?_
    have hP9 := hP.sub (ws' := []) [] rfl
    have hD9 := hD.sub (ws' := []) [] (by decide) rfl
    have hK9 := hK.sub (tys' := []) [] rfl
    exact W.zret (v := 0) hx hb hr rfl (fun t ht hW => ⟨⟨0, (), rfl, Or.inl ⟨by first | assumption | omega, rfl⟩, by rw [ht]; exact hP9, va_K.moved hW.alike hK9, hD9⟩, hS.F ht⟩) hS.2.2 dX12_within_18
  · have t_1 : 0 ≤ xv0 := by have h := kk_nLt c_1; have e1 : (0 : Int64).toInt = 0 := (by decide); omega
    refine lv_lload_n hx hb dX12_within_6 rfl (lv_at hl 0 rfl) ?_
    refine lv_lload hx hb dX12_within_7 (lv_at hl 2 rfl) ?_
    refine W.lcmp hx hb dX12_within_9 ?_
    refine lv_if_gt (tgt := 17) hx hb dX12_within_10 (by decide) (fun c_2 => ?_) (fun c_2 => ?_)
    · have t_2 : (-1) < xv0 := by have h := kk_Gt c_2; have e1 : ((-1) : Int64).toInt = (-1) := (by decide); omega
      refine lv_iconst (v := 0) hx hb dX12_within_17 (by decide) ?_
      have hP9 := hP.sub (ws' := []) [] rfl
      have hD9 := hD.sub (ws' := []) [] (by decide) rfl
      have hK9 := hK.sub (tys' := []) [] rfl
      exact W.zret (v := 0) hx hb hr rfl (fun t ht hW => ⟨⟨0, (), rfl, Or.inr (Or.inl ⟨by first | assumption | omega, by first | assumption | omega, rfl⟩), by rw [ht]; exact hP9, va_K.moved hW.alike hK9, hD9⟩, hS.F ht⟩) hS.2.2 dX12_within_18
    · have t_2 : xv0 ≤ (-1) := by have h := kk_nGt c_2; have e1 : ((-1) : Int64).toInt = (-1) := (by decide); omega
      refine lv_iconst (v := 1) hx hb dX12_within_13 (by decide) ?_
      refine lv_goto (tgt := 18) hx hb dX12_within_14 (by decide) ?_
      have hP9 := hP.sub (ws' := []) [] rfl
      have hD9 := hD.sub (ws' := []) [] (by decide) rfl
      have hK9 := hK.sub (tys' := []) [] rfl
      exact W.zret (v := 1) hx hb hr rfl (fun t ht hW => ⟨⟨1, (), rfl, Or.inr (Or.inr (⟨by first | assumption | omega, by first | assumption | omega, rfl⟩)), by rw [ht]; exact hP9, va_K.moved hW.alike hK9, hD9⟩, hS.F ht⟩) hS.2.2 dX12_within_18
set_option maxHeartbeats 4000000 in
set_option maxRecDepth 100000 in
theorem k_X12_isStreet_0 (l : Launch) (dC : Nat → ClassId) (dI : Nat → Nat → Nat) (h0 h1 h2 h3 h4 h5 h6 h7 h8 h9 h10 h11 h12 h13 h14 h15 h16 h17 h18 h19 h20 h21 h22 h23 h24 h25 h26 h27 h28 h29 : Nat) (sz : Nat) (p0 : Int32) : Met l yX12_isStreet wsX12_isStreet ({ frames := 1, cells := 0, slots := 0, locals := 25 }) (va_Pc [.ref h0, .int p0] (fun U => U.heap.size = sz ∧ va_P (dC, dI) vwCl [(h0, .inr (12, [.int 0, .ref h1, .ref h2, .ref h3, .ref h4, .ref h5, .int 0, .int 0, .ref h6, .int 0, .int 0, .ref h7, .ref h8, .ref h9, .ref h10, .ref h11, .ref h12, .ref h13, .int 0, .int 0, .ref h14, .ref h15, .ref h16, .ref h17, .int 0, .ref h18, .ref h19, .int 0, .ref h20, .int 0, .int 0, .ref h21, .ref h22, .int 0, .int 0, .int 0, .int 0, .int 0, .ref h23, .int 0, .ref h24, .ref h25, .int 0, .int 0, .int 0, .ref h26, .ref h27, .ref h28, .ref h29]))] U.heap ∧ va_K (dC, dI) vwCl [] U ∧ va_D (fun _ => True) [(h0, .inr (12, [.int 0, .ref h1, .ref h2, .ref h3, .ref h4, .ref h5, .int 0, .int 0, .ref h6, .int 0, .int 0, .ref h7, .ref h8, .ref h9, .ref h10, .ref h11, .ref h12, .ref h13, .int 0, .int 0, .ref h14, .ref h15, .ref h16, .ref h17, .int 0, .ref h18, .ref h19, .int 0, .ref h20, .int 0, .int 0, .ref h21, .ref h22, .int 0, .int 0, .int 0, .int 0, .int 0, .ref h23, .int 0, .ref h24, .ref h25, .int 0, .int 0, .int 0, .ref h26, .ref h27, .ref h28, .ref h29]))])) (va_Qi (fun (r : Int32) (_ : Unit) => r = 0) (fun (_ : Unit) t => va_P (dC, dI) vwCl [(h0, .inr (12, [.int 0, .ref h1, .ref h2, .ref h3, .ref h4, .ref h5, .int 0, .int 0, .ref h6, .int 0, .int 0, .ref h7, .ref h8, .ref h9, .ref h10, .ref h11, .ref h12, .ref h13, .int 0, .int 0, .ref h14, .ref h15, .ref h16, .ref h17, .int 0, .ref h18, .ref h19, .int 0, .ref h20, .int 0, .int 0, .ref h21, .ref h22, .int 0, .int 0, .int 0, .int 0, .int 0, .ref h23, .int 0, .ref h24, .ref h25, .int 0, .int 0, .int 0, .ref h26, .ref h27, .ref h28, .ref h29]))] t.heap ∧ va_K (dC, dI) vwCl [] t ∧ va_D (va_A [(h0, .inr (12, [.int 0, .ref h1, .ref h2, .ref h3, .ref h4, .ref h5, .int 0, .int 0, .ref h6, .int 0, .int 0, .ref h7, .ref h8, .ref h9, .ref h10, .ref h11, .ref h12, .ref h13, .int 0, .int 0, .ref h14, .ref h15, .ref h16, .ref h17, .int 0, .ref h18, .ref h19, .int 0, .ref h20, .int 0, .int 0, .ref h21, .ref h22, .int 0, .int 0, .int 0, .int 0, .int 0, .ref h23, .int 0, .ref h24, .ref h25, .int 0, .int 0, .int 0, .ref h26, .ref h27, .ref h28, .ref h29]))] sz) [(h0, .inr (12, [.int 0, .ref h1, .ref h2, .ref h3, .ref h4, .ref h5, .int 0, .int 0, .ref h6, .int 0, .int 0, .ref h7, .ref h8, .ref h9, .ref h10, .ref h11, .ref h12, .ref h13, .int 0, .int 0, .ref h14, .ref h15, .ref h16, .ref h17, .int 0, .ref h18, .ref h19, .int 0, .ref h20, .int 0, .int 0, .ref h21, .ref h22, .int 0, .int 0, .int 0, .int 0, .int 0, .ref h23, .int 0, .ref h24, .ref h25, .int 0, .int 0, .int 0, .ref h26, .ref h27, .ref h28, .ref h29]))]) (va_A [(h0, .inr (12, [.int 0, .ref h1, .ref h2, .ref h3, .ref h4, .ref h5, .int 0, .int 0, .ref h6, .int 0, .int 0, .ref h7, .ref h8, .ref h9, .ref h10, .ref h11, .ref h12, .ref h13, .int 0, .int 0, .ref h14, .ref h15, .ref h16, .ref h17, .int 0, .ref h18, .ref h19, .int 0, .ref h20, .int 0, .int 0, .ref h21, .ref h22, .int 0, .int 0, .int 0, .int 0, .int 0, .ref h23, .int 0, .ref h24, .ref h25, .int 0, .int 0, .int 0, .ref h26, .ref h27, .ref h28, .ref h29]))] sz)) 0 0 (va_A [(h0, .inr (12, [.int 0, .ref h1, .ref h2, .ref h3, .ref h4, .ref h5, .int 0, .int 0, .ref h6, .int 0, .int 0, .ref h7, .ref h8, .ref h9, .ref h10, .ref h11, .ref h12, .ref h13, .int 0, .int 0, .ref h14, .ref h15, .ref h16, .ref h17, .int 0, .ref h18, .ref h19, .int 0, .ref h20, .int 0, .int 0, .ref h21, .ref h22, .int 0, .int 0, .int 0, .int 0, .int 0, .ref h23, .int 0, .ref h24, .ref h25, .int 0, .int 0, .int 0, .ref h26, .ref h27, .ref h28, .ref h29]))] sz) := by
  refine Met.ofW (cc := cX12_isStreet) (maxL := 2) (ret := (some .boolean)) (by decide) rfl ?_
  intro p e s m args below meth c s₁ B hml hv
  obtain ⟨rfl, hsz, hP, hK, hD0⟩ := hv
  have hx := B.exec
  have hb := B.bytes
  have hr := B.returns
  have hts := atoms_spec (ws := wsX12_isStreet) B.pre
  have hown : s.vm.findClass RX12 = some m.cls := findClass_of_methodNamed B.named
  have hlocks := B.notSynchronized
  subst hsz
  have hD := hD0.self (sz := s.heap.size)
  generalize hAe : va_A [(h0, .inr (12, [.int 0, .ref h1, .ref h2, .ref h3, .ref h4, .ref h5, .int 0, .int 0, .ref h6, .int 0, .int 0, .ref h7, .ref h8, .ref h9, .ref h10, .ref h11, .ref h12, .ref h13, .int 0, .int 0, .ref h14, .ref h15, .ref h16, .ref h17, .int 0, .ref h18, .ref h19, .int 0, .ref h20, .int 0, .int 0, .ref h21, .ref h22, .int 0, .int 0, .int 0, .int 0, .int 0, .ref h23, .int 0, .ref h24, .ref h25, .int 0, .int 0, .int 0, .ref h26, .ref h27, .ref h28, .ref h29]))] s.heap.size = A at hD ⊢
  have hA : ∀ q : Nat, s.heap.size ≤ q → A q := fun q h => by rw [← hAe]; exact Or.inr h
  have hS : va_S A s.heap s.heap [] := va_S.rf
  have hP : va_P (dC, dI) vwCl [(h0, .inr (12, [.int 0, .ref h1, .ref h2, .ref h3, .ref h4, .ref h5, .int 0, .int 0, .ref h6, .int 0, .int 0, .ref h7, .ref h8, .ref h9, .ref h10, .ref h11, .ref h12, .ref h13, .int 0, .int 0, .ref h14, .ref h15, .ref h16, .ref h17, .int 0, .ref h18, .ref h19, .int 0, .ref h20, .int 0, .int 0, .ref h21, .ref h22, .int 0, .int 0, .int 0, .int 0, .int 0, .ref h23, .int 0, .ref h24, .ref h25, .int 0, .int 0, .int 0, .ref h26, .ref h27, .ref h28, .ref h29]))] s.heap := hP
  have hl := lv_entry ([.ref h0, .int p0]) (n := 2) (Nat.le_of_ble_eq_true rfl)
  rw [lg_entry_eq]
  generalize (lg_sl ([.ref h0, .int p0]) ++ List.replicate (2 - (lg_sl ([.ref h0, .int p0])).length) Slot.unset).toArray = ls at hl ⊢
  have hl : lv_has ls 2 [(0, .ref h0), (1, .int p0)] := hl
  refine lv_iload_n hx hb dX12_isStreet_0 rfl (lv_at hl 1 rfl) ?_
  refine lv_i2l (v := (p0).toInt64) hx hb dX12_isStreet_1 (by first | rfl | decide) ?_
  refine lv_lconst (v := 0) hx hb dX12_isStreet_2 (by decide) ?_
  refine lv_aload_n hx hb dX12_isStreet_3 rfl (lv_at hl 0 rfl) ?_
  refine va_get (D := (dC, dI)) (ci := 12) (v := .int 0) (C := RX12) (T := TX12) (N := 49) hx hb hts (fun _ h => List.mem_cons_of_mem _ (List.mem_append_right _ h)) hown hK hP 0 rfl rfl 0 (by decide) (hts (.fieldLink RX12 106 "KinkStreetModel" "streets" "I") (List.mem_of_getElem? (i := 1) rfl)) (fun _ h9 => h9) rfl dX12_isStreet_4 ?_
  refine lv_iconst (v := 1) hx hb dX12_isStreet_7 (by decide) ?_
  refine lv_isub hx hb dX12_isStreet_8 ?_
  refine lv_topi (fun y_1 e_1 => ?_)
  obtain rfl : y_1 = (-1) := e_1.trans (by decide)
  refine lv_i2l (v := (-1)) hx hb dX12_isStreet_9 (by first | rfl | decide) ?_
  have hPc := hP.sub (ws' := []) [] rfl
  have hDc := hD.sub (ws' := []) [] (by decide) rfl
  have hKc := hK.sub (tys' := []) [] rfl
  have hFc := va_free (wc := []) hD hS hA [] rfl
  refine va_calli (va_runS (As := [.long (p0).toInt64, .long 0, .long (-1)]) (rest := []) ⟨hx, hb, hml, hown, hts⟩ (k_X12_within_0 l dC dI s.heap.size (p0).toInt64 (p0.toInt) (kk_64 _)) (va_cwS 3 hts gX12_isStreet_X12_within rfl rfl rfl (by decide +kernel) ⟨Nat.le_of_ble_eq_true rfl, Nat.le_of_ble_eq_true rfl⟩) ⟨fun a U g mk q => by obtain ⟨q0, q1, qP, qK, qD⟩ := q; exact ⟨q0, q1, qP, va_K.moved (u := U) (U := U.calling g mk a) (Vm.Alike.refl U.vm) qK, qD⟩, fun U hU hW => ⟨rfl, by rw [hU], by rw [hU]; exact hPc, va_K.moved hW.alike hKc, hDc.weaken (fun _ _ _ _ => trivial)⟩⟩ rfl rfl hl.1 rfl (lv_room (Nat.le_of_ble_eq_true rfl)) dX12_isStreet_10 ⟨Nat.le_of_ble_eq_true rfl, Nat.le_of_ble_eq_true rfl⟩) hS (fun q _ h => hFc q h) hFc (fun r_2 u t H1 locs ht hvm hw hB hz1 hk1 hS => ?_)
  obtain ⟨hP1, hK1, hD1⟩ := hB
  rw [ht] at hP1
  have hK1 := va_K.moved hvm.symm hK1
  obtain ⟨hP, hD⟩ := va_join (wr := [(h0, .inr (12, [.int 0, .ref h1, .ref h2, .ref h3, .ref h4, .ref h5, .int 0, .int 0, .ref h6, .int 0, .int 0, .ref h7, .ref h8, .ref h9, .ref h10, .ref h11, .ref h12, .ref h13, .int 0, .int 0, .ref h14, .ref h15, .ref h16, .ref h17, .int 0, .ref h18, .ref h19, .int 0, .ref h20, .int 0, .int 0, .ref h21, .ref h22, .int 0, .int 0, .int 0, .int 0, .int 0, .ref h23, .int 0, .ref h24, .ref h25, .int 0, .int 0, .int 0, .ref h26, .ref h27, .ref h28, .ref h29]))]) (w1 := []) hP hD [] [0] rfl rfl (by decide) (by decide) hk1 hFc hP1 hD1
  generalize H1 = H at hP hS ⊢
  have hP : va_P (dC, dI) vwCl [(h0, .inr (12, [.int 0, .ref h1, .ref h2, .ref h3, .ref h4, .ref h5, .int 0, .int 0, .ref h6, .int 0, .int 0, .ref h7, .ref h8, .ref h9, .ref h10, .ref h11, .ref h12, .ref h13, .int 0, .int 0, .ref h14, .ref h15, .ref h16, .ref h17, .int 0, .ref h18, .ref h19, .int 0, .ref h20, .int 0, .int 0, .ref h21, .ref h22, .int 0, .int 0, .int 0, .int 0, .int 0, .ref h23, .int 0, .ref h24, .ref h25, .int 0, .int 0, .int 0, .ref h26, .ref h27, .ref h28, .ref h29]))] H := hP
  have hD : va_D A [(h0, .inr (12, [.int 0, .ref h1, .ref h2, .ref h3, .ref h4, .ref h5, .int 0, .int 0, .ref h6, .int 0, .int 0, .ref h7, .ref h8, .ref h9, .ref h10, .ref h11, .ref h12, .ref h13, .int 0, .int 0, .ref h14, .ref h15, .ref h16, .ref h17, .int 0, .ref h18, .ref h19, .int 0, .ref h20, .int 0, .int 0, .ref h21, .ref h22, .int 0, .int 0, .int 0, .int 0, .int 0, .ref h23, .int 0, .ref h24, .ref h25, .int 0, .int 0, .int 0, .ref h26, .ref h27, .ref h28, .ref h29]))] := hD
  rcases hw with ⟨t_2_0, rfl⟩ | ⟨t_2_0, t_2_1, rfl⟩ | ⟨t_2_0, t_2_1, rfl⟩
  · skip
    have hP9 := hP.sub (ws' := [(h0, .inr (12, [.int 0, .ref h1, .ref h2, .ref h3, .ref h4, .ref h5, .int 0, .int 0, .ref h6, .int 0, .int 0, .ref h7, .ref h8, .ref h9, .ref h10, .ref h11, .ref h12, .ref h13, .int 0, .int 0, .ref h14, .ref h15, .ref h16, .ref h17, .int 0, .ref h18, .ref h19, .int 0, .ref h20, .int 0, .int 0, .ref h21, .ref h22, .int 0, .int 0, .int 0, .int 0, .int 0, .ref h23, .int 0, .ref h24, .ref h25, .int 0, .int 0, .int 0, .ref h26, .ref h27, .ref h28, .ref h29]))]) [0] rfl
    have hD9 := hD.sub (ws' := [(h0, .inr (12, [.int 0, .ref h1, .ref h2, .ref h3, .ref h4, .ref h5, .int 0, .int 0, .ref h6, .int 0, .int 0, .ref h7, .ref h8, .ref h9, .ref h10, .ref h11, .ref h12, .ref h13, .int 0, .int 0, .ref h14, .ref h15, .ref h16, .ref h17, .int 0, .ref h18, .ref h19, .int 0, .ref h20, .int 0, .int 0, .ref h21, .ref h22, .int 0, .int 0, .int 0, .int 0, .int 0, .ref h23, .int 0, .ref h24, .ref h25, .int 0, .int 0, .int 0, .ref h26, .ref h27, .ref h28, .ref h29]))]) [0] (by decide) rfl
    have hK9 := hK.sub (tys' := []) [] rfl
    exact W.zret (v := 0) hx hb hr rfl (fun t ht hW => ⟨⟨0, (), rfl, rfl, by rw [ht]; exact hP9, va_K.moved hW.alike hK9, hD9⟩, hS.F ht⟩) hS.2.2 dX12_isStreet_13
  · skip
    have hP9 := hP.sub (ws' := [(h0, .inr (12, [.int 0, .ref h1, .ref h2, .ref h3, .ref h4, .ref h5, .int 0, .int 0, .ref h6, .int 0, .int 0, .ref h7, .ref h8, .ref h9, .ref h10, .ref h11, .ref h12, .ref h13, .int 0, .int 0, .ref h14, .ref h15, .ref h16, .ref h17, .int 0, .ref h18, .ref h19, .int 0, .ref h20, .int 0, .int 0, .ref h21, .ref h22, .int 0, .int 0, .int 0, .int 0, .int 0, .ref h23, .int 0, .ref h24, .ref h25, .int 0, .int 0, .int 0, .ref h26, .ref h27, .ref h28, .ref h29]))]) [0] rfl
    have hD9 := hD.sub (ws' := [(h0, .inr (12, [.int 0, .ref h1, .ref h2, .ref h3, .ref h4, .ref h5, .int 0, .int 0, .ref h6, .int 0, .int 0, .ref h7, .ref h8, .ref h9, .ref h10, .ref h11, .ref h12, .ref h13, .int 0, .int 0, .ref h14, .ref h15, .ref h16, .ref h17, .int 0, .ref h18, .ref h19, .int 0, .ref h20, .int 0, .int 0, .ref h21, .ref h22, .int 0, .int 0, .int 0, .int 0, .int 0, .ref h23, .int 0, .ref h24, .ref h25, .int 0, .int 0, .int 0, .ref h26, .ref h27, .ref h28, .ref h29]))]) [0] (by decide) rfl
    have hK9 := hK.sub (tys' := []) [] rfl
    exact W.zret (v := 0) hx hb hr rfl (fun t ht hW => ⟨⟨0, (), rfl, rfl, by rw [ht]; exact hP9, va_K.moved hW.alike hK9, hD9⟩, hS.F ht⟩) hS.2.2 dX12_isStreet_13
  · exfalso; omega
set_option maxHeartbeats 4000000 in
set_option maxRecDepth 100000 in
theorem k_X12_plot_0 (l : Launch) (dC : Nat → ClassId) (dI : Nat → Nat → Nat) (h0 h1 h2 h3 h4 h5 h6 h7 h8 h9 h10 h11 h12 h13 h14 h15 h16 h17 h18 h19 h20 h21 h22 h23 h24 h25 h26 h27 h28 h29 : Nat) (sz : Nat) (p0 : Int32) (p1 : Int32) (p2 : Int32) : Met l yX12_plot wsX12_plot ({ frames := 2, cells := 0, slots := 0, locals := 46 }) (va_Pc [.ref h0, .int p0, .int p1, .int p2] (fun U => U.heap.size = sz ∧ va_P (dC, dI) vwCl [(h0, .inr (12, [.int 0, .ref h1, .ref h2, .ref h3, .ref h4, .ref h5, .int 0, .int 0, .ref h6, .int 0, .int 0, .ref h7, .ref h8, .ref h9, .ref h10, .ref h11, .ref h12, .ref h13, .int 0, .int 0, .ref h14, .ref h15, .ref h16, .ref h17, .int 0, .ref h18, .ref h19, .int 0, .ref h20, .int 0, .int 0, .ref h21, .ref h22, .int 0, .int 0, .int 0, .int 0, .int 0, .ref h23, .int 0, .ref h24, .ref h25, .int 0, .int 0, .int 0, .ref h26, .ref h27, .ref h28, .ref h29]))] U.heap ∧ va_K (dC, dI) vwCl [] U ∧ va_D (fun _ => True) [(h0, .inr (12, [.int 0, .ref h1, .ref h2, .ref h3, .ref h4, .ref h5, .int 0, .int 0, .ref h6, .int 0, .int 0, .ref h7, .ref h8, .ref h9, .ref h10, .ref h11, .ref h12, .ref h13, .int 0, .int 0, .ref h14, .ref h15, .ref h16, .ref h17, .int 0, .ref h18, .ref h19, .int 0, .ref h20, .int 0, .int 0, .ref h21, .ref h22, .int 0, .int 0, .int 0, .int 0, .int 0, .ref h23, .int 0, .ref h24, .ref h25, .int 0, .int 0, .int 0, .ref h26, .ref h27, .ref h28, .ref h29]))])) (va_Qi (fun (r : Int32) (_ : Unit) => r = -1) (fun (_ : Unit) t => va_P (dC, dI) vwCl [] t.heap ∧ va_K (dC, dI) vwCl [] t ∧ va_D (va_A [(h0, .inr (12, [.int 0, .ref h1, .ref h2, .ref h3, .ref h4, .ref h5, .int 0, .int 0, .ref h6, .int 0, .int 0, .ref h7, .ref h8, .ref h9, .ref h10, .ref h11, .ref h12, .ref h13, .int 0, .int 0, .ref h14, .ref h15, .ref h16, .ref h17, .int 0, .ref h18, .ref h19, .int 0, .ref h20, .int 0, .int 0, .ref h21, .ref h22, .int 0, .int 0, .int 0, .int 0, .int 0, .ref h23, .int 0, .ref h24, .ref h25, .int 0, .int 0, .int 0, .ref h26, .ref h27, .ref h28, .ref h29]))] sz) []) (va_A [(h0, .inr (12, [.int 0, .ref h1, .ref h2, .ref h3, .ref h4, .ref h5, .int 0, .int 0, .ref h6, .int 0, .int 0, .ref h7, .ref h8, .ref h9, .ref h10, .ref h11, .ref h12, .ref h13, .int 0, .int 0, .ref h14, .ref h15, .ref h16, .ref h17, .int 0, .ref h18, .ref h19, .int 0, .ref h20, .int 0, .int 0, .ref h21, .ref h22, .int 0, .int 0, .int 0, .int 0, .int 0, .ref h23, .int 0, .ref h24, .ref h25, .int 0, .int 0, .int 0, .ref h26, .ref h27, .ref h28, .ref h29]))] sz)) 0 0 (va_A [(h0, .inr (12, [.int 0, .ref h1, .ref h2, .ref h3, .ref h4, .ref h5, .int 0, .int 0, .ref h6, .int 0, .int 0, .ref h7, .ref h8, .ref h9, .ref h10, .ref h11, .ref h12, .ref h13, .int 0, .int 0, .ref h14, .ref h15, .ref h16, .ref h17, .int 0, .ref h18, .ref h19, .int 0, .ref h20, .int 0, .int 0, .ref h21, .ref h22, .int 0, .int 0, .int 0, .int 0, .int 0, .ref h23, .int 0, .ref h24, .ref h25, .int 0, .int 0, .int 0, .ref h26, .ref h27, .ref h28, .ref h29]))] sz) := by
  refine Met.ofW (cc := cX12_plot) (maxL := 4) (ret := (some .int)) (by decide) rfl ?_
  intro p e s m args below meth c s₁ B hml hv
  obtain ⟨rfl, hsz, hP, hK, hD0⟩ := hv
  have hx := B.exec
  have hb := B.bytes
  have hr := B.returns
  have hts := atoms_spec (ws := wsX12_plot) B.pre
  have hown : s.vm.findClass RX12 = some m.cls := findClass_of_methodNamed B.named
  have hlocks := B.notSynchronized
  subst hsz
  have hD := hD0.self (sz := s.heap.size)
  generalize hAe : va_A [(h0, .inr (12, [.int 0, .ref h1, .ref h2, .ref h3, .ref h4, .ref h5, .int 0, .int 0, .ref h6, .int 0, .int 0, .ref h7, .ref h8, .ref h9, .ref h10, .ref h11, .ref h12, .ref h13, .int 0, .int 0, .ref h14, .ref h15, .ref h16, .ref h17, .int 0, .ref h18, .ref h19, .int 0, .ref h20, .int 0, .int 0, .ref h21, .ref h22, .int 0, .int 0, .int 0, .int 0, .int 0, .ref h23, .int 0, .ref h24, .ref h25, .int 0, .int 0, .int 0, .ref h26, .ref h27, .ref h28, .ref h29]))] s.heap.size = A at hD ⊢
  have hA : ∀ q : Nat, s.heap.size ≤ q → A q := fun q h => by rw [← hAe]; exact Or.inr h
  have hS : va_S A s.heap s.heap [] := va_S.rf
  have hP : va_P (dC, dI) vwCl [(h0, .inr (12, [.int 0, .ref h1, .ref h2, .ref h3, .ref h4, .ref h5, .int 0, .int 0, .ref h6, .int 0, .int 0, .ref h7, .ref h8, .ref h9, .ref h10, .ref h11, .ref h12, .ref h13, .int 0, .int 0, .ref h14, .ref h15, .ref h16, .ref h17, .int 0, .ref h18, .ref h19, .int 0, .ref h20, .int 0, .int 0, .ref h21, .ref h22, .int 0, .int 0, .int 0, .int 0, .int 0, .ref h23, .int 0, .ref h24, .ref h25, .int 0, .int 0, .int 0, .ref h26, .ref h27, .ref h28, .ref h29]))] s.heap := hP
  have hl := lv_entry ([.ref h0, .int p0, .int p1, .int p2]) (n := 4) (Nat.le_of_ble_eq_true rfl)
  rw [lg_entry_eq]
  generalize (lg_sl ([.ref h0, .int p0, .int p1, .int p2]) ++ List.replicate (4 - (lg_sl ([.ref h0, .int p0, .int p1, .int p2])).length) Slot.unset).toArray = ls at hl ⊢
  have hl : lv_has ls 4 [(0, .ref h0), (1, .int p0), (2, .int p1), (3, .int p2)] := hl
  refine lv_aload_n hx hb dX12_plot_0 rfl (lv_at hl 0 rfl) ?_
  refine lv_iload_n hx hb dX12_plot_1 rfl (lv_at hl 1 rfl) ?_
  have hPc := hP.sub (ws' := [(h0, .inr (12, [.int 0, .ref h1, .ref h2, .ref h3, .ref h4, .ref h5, .int 0, .int 0, .ref h6, .int 0, .int 0, .ref h7, .ref h8, .ref h9, .ref h10, .ref h11, .ref h12, .ref h13, .int 0, .int 0, .ref h14, .ref h15, .ref h16, .ref h17, .int 0, .ref h18, .ref h19, .int 0, .ref h20, .int 0, .int 0, .ref h21, .ref h22, .int 0, .int 0, .int 0, .int 0, .int 0, .ref h23, .int 0, .ref h24, .ref h25, .int 0, .int 0, .int 0, .ref h26, .ref h27, .ref h28, .ref h29]))]) [0] rfl
  have hDc := hD.sub (ws' := [(h0, .inr (12, [.int 0, .ref h1, .ref h2, .ref h3, .ref h4, .ref h5, .int 0, .int 0, .ref h6, .int 0, .int 0, .ref h7, .ref h8, .ref h9, .ref h10, .ref h11, .ref h12, .ref h13, .int 0, .int 0, .ref h14, .ref h15, .ref h16, .ref h17, .int 0, .ref h18, .ref h19, .int 0, .ref h20, .int 0, .int 0, .ref h21, .ref h22, .int 0, .int 0, .int 0, .int 0, .int 0, .ref h23, .int 0, .ref h24, .ref h25, .int 0, .int 0, .int 0, .ref h26, .ref h27, .ref h28, .ref h29]))]) [0] (by decide) rfl
  have hKc := hK.sub (tys' := []) [] rfl
  have hFc := va_free (wc := [(h0, .inr (12, [.int 0, .ref h1, .ref h2, .ref h3, .ref h4, .ref h5, .int 0, .int 0, .ref h6, .int 0, .int 0, .ref h7, .ref h8, .ref h9, .ref h10, .ref h11, .ref h12, .ref h13, .int 0, .int 0, .ref h14, .ref h15, .ref h16, .ref h17, .int 0, .ref h18, .ref h19, .int 0, .ref h20, .int 0, .int 0, .ref h21, .ref h22, .int 0, .int 0, .int 0, .int 0, .int 0, .ref h23, .int 0, .ref h24, .ref h25, .int 0, .int 0, .int 0, .ref h26, .ref h27, .ref h28, .ref h29]))]) hD hS hA [0] rfl
  refine va_calli (va_runV (As := [.int p0]) (rest := []) ⟨hx, hb, hml, hown, hts⟩ (k_X12_isStreet_0 l dC dI h0 h1 h2 h3 h4 h5 h6 h7 h8 h9 h10 h11 h12 h13 h14 h15 h16 h17 h18 h19 h20 h21 h22 h23 h24 h25 h26 h27 h28 h29 s.heap.size p0) (cwV 1 hts gX12_plot_X12_isStreet rfl rfl rfl (by decide +kernel) ⟨Nat.le_of_ble_eq_true rfl, Nat.le_of_ble_eq_true rfl⟩) ⟨fun a U g mk q => by obtain ⟨q0, q1, qP, qK, qD⟩ := q; exact ⟨q0, q1, qP, va_K.moved (u := U) (U := U.calling g mk a) (Vm.Alike.refl U.vm) qK, qD⟩, va_recv hKc hPc (ci := 12) (q0 := 0) rfl rfl, fun U hU hW => ⟨rfl, by rw [hU], by rw [hU]; exact hPc, va_K.moved hW.alike hKc, hDc.weaken (fun _ _ _ _ => trivial)⟩⟩ rfl rfl hl.1 rfl (lv_room (Nat.le_of_ble_eq_true rfl)) dX12_plot_2 ⟨Nat.le_of_ble_eq_true rfl, Nat.le_of_ble_eq_true rfl⟩) hS (fun q _ h => hFc q h) hFc (fun r_1 u t H1 locs ht hvm hw hB hz1 hk1 hS => ?_)
  obtain ⟨hP1, hK1, hD1⟩ := hB
  rw [ht] at hP1
  have hK1 := va_K.moved hvm.symm hK1
  obtain ⟨hP, hD⟩ := va_join (wr := []) (w1 := [(h0, .inr (12, [.int 0, .ref h1, .ref h2, .ref h3, .ref h4, .ref h5, .int 0, .int 0, .ref h6, .int 0, .int 0, .ref h7, .ref h8, .ref h9, .ref h10, .ref h11, .ref h12, .ref h13, .int 0, .int 0, .ref h14, .ref h15, .ref h16, .ref h17, .int 0, .ref h18, .ref h19, .int 0, .ref h20, .int 0, .int 0, .ref h21, .ref h22, .int 0, .int 0, .int 0, .int 0, .int 0, .ref h23, .int 0, .ref h24, .ref h25, .int 0, .int 0, .int 0, .ref h26, .ref h27, .ref h28, .ref h29]))]) hP hD [0] [] rfl rfl (by decide) (by decide) hk1 hFc hP1 hD1
  generalize H1 = H at hP hS ⊢
  have hP : va_P (dC, dI) vwCl [(h0, .inr (12, [.int 0, .ref h1, .ref h2, .ref h3, .ref h4, .ref h5, .int 0, .int 0, .ref h6, .int 0, .int 0, .ref h7, .ref h8, .ref h9, .ref h10, .ref h11, .ref h12, .ref h13, .int 0, .int 0, .ref h14, .ref h15, .ref h16, .ref h17, .int 0, .ref h18, .ref h19, .int 0, .ref h20, .int 0, .int 0, .ref h21, .ref h22, .int 0, .int 0, .int 0, .int 0, .int 0, .ref h23, .int 0, .ref h24, .ref h25, .int 0, .int 0, .int 0, .ref h26, .ref h27, .ref h28, .ref h29]))] H := hP
  have hD : va_D A [(h0, .inr (12, [.int 0, .ref h1, .ref h2, .ref h3, .ref h4, .ref h5, .int 0, .int 0, .ref h6, .int 0, .int 0, .ref h7, .ref h8, .ref h9, .ref h10, .ref h11, .ref h12, .ref h13, .int 0, .int 0, .ref h14, .ref h15, .ref h16, .ref h17, .int 0, .ref h18, .ref h19, .int 0, .ref h20, .int 0, .int 0, .ref h21, .ref h22, .int 0, .int 0, .int 0, .int 0, .int 0, .ref h23, .int 0, .ref h24, .ref h25, .int 0, .int 0, .int 0, .ref h26, .ref h27, .ref h28, .ref h29]))] := hD
  obtain rfl := hw
  refine lv_if_eq (tgt := 34) hx hb dX12_plot_5 (by decide) (fun _ => ?_) (fun c => absurd c (by decide))
  refine lv_iconst (v := (-1)) hx hb dX12_plot_34 (by decide) ?_
  have hP9 := hP.sub (ws' := []) [] rfl
  have hD9 := hD.sub (ws' := []) [] (by decide) rfl
  have hK9 := hK.sub (tys' := []) [] rfl
  exact W.iret (v := (-1)) hx hb hr (fun t ht hW => ⟨⟨(-1), (), rfl, by first | rfl | ((repeat' split) <;> first | rfl | (exfalso; omega) | (exact Int32.toInt_inj.mp (by show ((-1) : Int) = _; omega))), by rw [ht]; exact hP9, va_K.moved hW.alike hK9, hD9⟩, hS.F ht⟩) hS.2.2 dX12_plot_35
set_option maxHeartbeats 4000000 in
set_option maxRecDepth 100000 in
theorem k_X12_plots_0 (l : Launch) (dC : Nat → ClassId) (dI : Nat → Nat → Nat) (h0 h1 h2 h3 h4 h5 h6 h7 h8 h9 h10 h11 h12 h13 h14 h15 h16 h17 h18 h19 h20 h21 h22 h23 h24 h25 h26 h27 h28 h29 : Nat) (sz : Nat) (p0 : Int32) (p1 : Int32) (p2 : Int32) (p3 : Int32) : Met l yX12_plots wsX12_plots ({ frames := 2, cells := 0, slots := 0, locals := 46 }) (va_Pc [.ref h0, .int p0, .int p1, .int p2, .int p3] (fun U => U.heap.size = sz ∧ va_P (dC, dI) vwCl [(h0, .inr (12, [.int 0, .ref h1, .ref h2, .ref h3, .ref h4, .ref h5, .int 0, .int 0, .ref h6, .int 0, .int 0, .ref h7, .ref h8, .ref h9, .ref h10, .ref h11, .ref h12, .ref h13, .int 0, .int 0, .ref h14, .ref h15, .ref h16, .ref h17, .int 0, .ref h18, .ref h19, .int 0, .ref h20, .int 0, .int 0, .ref h21, .ref h22, .int 0, .int 0, .int 0, .int 0, .int 0, .ref h23, .int 0, .ref h24, .ref h25, .int 0, .int 0, .int 0, .ref h26, .ref h27, .ref h28, .ref h29]))] U.heap ∧ va_K (dC, dI) vwCl [] U ∧ va_D (fun _ => True) [(h0, .inr (12, [.int 0, .ref h1, .ref h2, .ref h3, .ref h4, .ref h5, .int 0, .int 0, .ref h6, .int 0, .int 0, .ref h7, .ref h8, .ref h9, .ref h10, .ref h11, .ref h12, .ref h13, .int 0, .int 0, .ref h14, .ref h15, .ref h16, .ref h17, .int 0, .ref h18, .ref h19, .int 0, .ref h20, .int 0, .int 0, .ref h21, .ref h22, .int 0, .int 0, .int 0, .int 0, .int 0, .ref h23, .int 0, .ref h24, .ref h25, .int 0, .int 0, .int 0, .ref h26, .ref h27, .ref h28, .ref h29]))])) (va_Qi (fun (r : Int32) (_ : Unit) => r = -1) (fun (_ : Unit) t => va_P (dC, dI) vwCl [] t.heap ∧ va_K (dC, dI) vwCl [] t ∧ va_D (va_A [(h0, .inr (12, [.int 0, .ref h1, .ref h2, .ref h3, .ref h4, .ref h5, .int 0, .int 0, .ref h6, .int 0, .int 0, .ref h7, .ref h8, .ref h9, .ref h10, .ref h11, .ref h12, .ref h13, .int 0, .int 0, .ref h14, .ref h15, .ref h16, .ref h17, .int 0, .ref h18, .ref h19, .int 0, .ref h20, .int 0, .int 0, .ref h21, .ref h22, .int 0, .int 0, .int 0, .int 0, .int 0, .ref h23, .int 0, .ref h24, .ref h25, .int 0, .int 0, .int 0, .ref h26, .ref h27, .ref h28, .ref h29]))] sz) []) (va_A [(h0, .inr (12, [.int 0, .ref h1, .ref h2, .ref h3, .ref h4, .ref h5, .int 0, .int 0, .ref h6, .int 0, .int 0, .ref h7, .ref h8, .ref h9, .ref h10, .ref h11, .ref h12, .ref h13, .int 0, .int 0, .ref h14, .ref h15, .ref h16, .ref h17, .int 0, .ref h18, .ref h19, .int 0, .ref h20, .int 0, .int 0, .ref h21, .ref h22, .int 0, .int 0, .int 0, .int 0, .int 0, .ref h23, .int 0, .ref h24, .ref h25, .int 0, .int 0, .int 0, .ref h26, .ref h27, .ref h28, .ref h29]))] sz)) 0 0 (va_A [(h0, .inr (12, [.int 0, .ref h1, .ref h2, .ref h3, .ref h4, .ref h5, .int 0, .int 0, .ref h6, .int 0, .int 0, .ref h7, .ref h8, .ref h9, .ref h10, .ref h11, .ref h12, .ref h13, .int 0, .int 0, .ref h14, .ref h15, .ref h16, .ref h17, .int 0, .ref h18, .ref h19, .int 0, .ref h20, .int 0, .int 0, .ref h21, .ref h22, .int 0, .int 0, .int 0, .int 0, .int 0, .ref h23, .int 0, .ref h24, .ref h25, .int 0, .int 0, .int 0, .ref h26, .ref h27, .ref h28, .ref h29]))] sz) := by
  refine Met.ofW (cc := cX12_plots) (maxL := 8) (ret := (some .int)) (by decide) rfl ?_
  intro p e s m args below meth c s₁ B hml hv
  obtain ⟨rfl, hsz, hP, hK, hD0⟩ := hv
  have hx := B.exec
  have hb := B.bytes
  have hr := B.returns
  have hts := atoms_spec (ws := wsX12_plots) B.pre
  have hown : s.vm.findClass RX12 = some m.cls := findClass_of_methodNamed B.named
  have hlocks := B.notSynchronized
  subst hsz
  have hD := hD0.self (sz := s.heap.size)
  generalize hAe : va_A [(h0, .inr (12, [.int 0, .ref h1, .ref h2, .ref h3, .ref h4, .ref h5, .int 0, .int 0, .ref h6, .int 0, .int 0, .ref h7, .ref h8, .ref h9, .ref h10, .ref h11, .ref h12, .ref h13, .int 0, .int 0, .ref h14, .ref h15, .ref h16, .ref h17, .int 0, .ref h18, .ref h19, .int 0, .ref h20, .int 0, .int 0, .ref h21, .ref h22, .int 0, .int 0, .int 0, .int 0, .int 0, .ref h23, .int 0, .ref h24, .ref h25, .int 0, .int 0, .int 0, .ref h26, .ref h27, .ref h28, .ref h29]))] s.heap.size = A at hD ⊢
  have hA : ∀ q : Nat, s.heap.size ≤ q → A q := fun q h => by rw [← hAe]; exact Or.inr h
  have hS : va_S A s.heap s.heap [] := va_S.rf
  have hP : va_P (dC, dI) vwCl [(h0, .inr (12, [.int 0, .ref h1, .ref h2, .ref h3, .ref h4, .ref h5, .int 0, .int 0, .ref h6, .int 0, .int 0, .ref h7, .ref h8, .ref h9, .ref h10, .ref h11, .ref h12, .ref h13, .int 0, .int 0, .ref h14, .ref h15, .ref h16, .ref h17, .int 0, .ref h18, .ref h19, .int 0, .ref h20, .int 0, .int 0, .ref h21, .ref h22, .int 0, .int 0, .int 0, .int 0, .int 0, .ref h23, .int 0, .ref h24, .ref h25, .int 0, .int 0, .int 0, .ref h26, .ref h27, .ref h28, .ref h29]))] s.heap := hP
  have hl := lv_entry ([.ref h0, .int p0, .int p1, .int p2, .int p3]) (n := 8) (Nat.le_of_ble_eq_true rfl)
  rw [lg_entry_eq]
  generalize (lg_sl ([.ref h0, .int p0, .int p1, .int p2, .int p3]) ++ List.replicate (8 - (lg_sl ([.ref h0, .int p0, .int p1, .int p2, .int p3])).length) Slot.unset).toArray = ls at hl ⊢
  have hl : lv_has ls 8 [(0, .ref h0), (1, .int p0), (2, .int p1), (3, .int p2), (4, .int p3)] := hl
  refine lv_aload_n hx hb dX12_plots_0 rfl (lv_at hl 0 rfl) ?_
  refine lv_iload_n hx hb dX12_plots_1 rfl (lv_at hl 1 rfl) ?_
  have hPc := hP.sub (ws' := [(h0, .inr (12, [.int 0, .ref h1, .ref h2, .ref h3, .ref h4, .ref h5, .int 0, .int 0, .ref h6, .int 0, .int 0, .ref h7, .ref h8, .ref h9, .ref h10, .ref h11, .ref h12, .ref h13, .int 0, .int 0, .ref h14, .ref h15, .ref h16, .ref h17, .int 0, .ref h18, .ref h19, .int 0, .ref h20, .int 0, .int 0, .ref h21, .ref h22, .int 0, .int 0, .int 0, .int 0, .int 0, .ref h23, .int 0, .ref h24, .ref h25, .int 0, .int 0, .int 0, .ref h26, .ref h27, .ref h28, .ref h29]))]) [0] rfl
  have hDc := hD.sub (ws' := [(h0, .inr (12, [.int 0, .ref h1, .ref h2, .ref h3, .ref h4, .ref h5, .int 0, .int 0, .ref h6, .int 0, .int 0, .ref h7, .ref h8, .ref h9, .ref h10, .ref h11, .ref h12, .ref h13, .int 0, .int 0, .ref h14, .ref h15, .ref h16, .ref h17, .int 0, .ref h18, .ref h19, .int 0, .ref h20, .int 0, .int 0, .ref h21, .ref h22, .int 0, .int 0, .int 0, .int 0, .int 0, .ref h23, .int 0, .ref h24, .ref h25, .int 0, .int 0, .int 0, .ref h26, .ref h27, .ref h28, .ref h29]))]) [0] (by decide) rfl
  have hKc := hK.sub (tys' := []) [] rfl
  have hFc := va_free (wc := [(h0, .inr (12, [.int 0, .ref h1, .ref h2, .ref h3, .ref h4, .ref h5, .int 0, .int 0, .ref h6, .int 0, .int 0, .ref h7, .ref h8, .ref h9, .ref h10, .ref h11, .ref h12, .ref h13, .int 0, .int 0, .ref h14, .ref h15, .ref h16, .ref h17, .int 0, .ref h18, .ref h19, .int 0, .ref h20, .int 0, .int 0, .ref h21, .ref h22, .int 0, .int 0, .int 0, .int 0, .int 0, .ref h23, .int 0, .ref h24, .ref h25, .int 0, .int 0, .int 0, .ref h26, .ref h27, .ref h28, .ref h29]))]) hD hS hA [0] rfl
  refine va_calli (va_runV (As := [.int p0]) (rest := []) ⟨hx, hb, hml, hown, hts⟩ (k_X12_isStreet_0 l dC dI h0 h1 h2 h3 h4 h5 h6 h7 h8 h9 h10 h11 h12 h13 h14 h15 h16 h17 h18 h19 h20 h21 h22 h23 h24 h25 h26 h27 h28 h29 s.heap.size p0) (cwV 1 hts gX12_plots_X12_isStreet rfl rfl rfl (by decide +kernel) ⟨Nat.le_of_ble_eq_true rfl, Nat.le_of_ble_eq_true rfl⟩) ⟨fun a U g mk q => by obtain ⟨q0, q1, qP, qK, qD⟩ := q; exact ⟨q0, q1, qP, va_K.moved (u := U) (U := U.calling g mk a) (Vm.Alike.refl U.vm) qK, qD⟩, va_recv hKc hPc (ci := 12) (q0 := 0) rfl rfl, fun U hU hW => ⟨rfl, by rw [hU], by rw [hU]; exact hPc, va_K.moved hW.alike hKc, hDc.weaken (fun _ _ _ _ => trivial)⟩⟩ rfl rfl hl.1 rfl (lv_room (Nat.le_of_ble_eq_true rfl)) dX12_plots_2 ⟨Nat.le_of_ble_eq_true rfl, Nat.le_of_ble_eq_true rfl⟩) hS (fun q _ h => hFc q h) hFc (fun r_1 u t H1 locs ht hvm hw hB hz1 hk1 hS => ?_)
  obtain ⟨hP1, hK1, hD1⟩ := hB
  rw [ht] at hP1
  have hK1 := va_K.moved hvm.symm hK1
  obtain ⟨hP, hD⟩ := va_join (wr := []) (w1 := [(h0, .inr (12, [.int 0, .ref h1, .ref h2, .ref h3, .ref h4, .ref h5, .int 0, .int 0, .ref h6, .int 0, .int 0, .ref h7, .ref h8, .ref h9, .ref h10, .ref h11, .ref h12, .ref h13, .int 0, .int 0, .ref h14, .ref h15, .ref h16, .ref h17, .int 0, .ref h18, .ref h19, .int 0, .ref h20, .int 0, .int 0, .ref h21, .ref h22, .int 0, .int 0, .int 0, .int 0, .int 0, .ref h23, .int 0, .ref h24, .ref h25, .int 0, .int 0, .int 0, .ref h26, .ref h27, .ref h28, .ref h29]))]) hP hD [0] [] rfl rfl (by decide) (by decide) hk1 hFc hP1 hD1
  generalize H1 = H at hP hS ⊢
  have hP : va_P (dC, dI) vwCl [(h0, .inr (12, [.int 0, .ref h1, .ref h2, .ref h3, .ref h4, .ref h5, .int 0, .int 0, .ref h6, .int 0, .int 0, .ref h7, .ref h8, .ref h9, .ref h10, .ref h11, .ref h12, .ref h13, .int 0, .int 0, .ref h14, .ref h15, .ref h16, .ref h17, .int 0, .ref h18, .ref h19, .int 0, .ref h20, .int 0, .int 0, .ref h21, .ref h22, .int 0, .int 0, .int 0, .int 0, .int 0, .ref h23, .int 0, .ref h24, .ref h25, .int 0, .int 0, .int 0, .ref h26, .ref h27, .ref h28, .ref h29]))] H := hP
  have hD : va_D A [(h0, .inr (12, [.int 0, .ref h1, .ref h2, .ref h3, .ref h4, .ref h5, .int 0, .int 0, .ref h6, .int 0, .int 0, .ref h7, .ref h8, .ref h9, .ref h10, .ref h11, .ref h12, .ref h13, .int 0, .int 0, .ref h14, .ref h15, .ref h16, .ref h17, .int 0, .ref h18, .ref h19, .int 0, .ref h20, .int 0, .int 0, .ref h21, .ref h22, .int 0, .int 0, .int 0, .int 0, .int 0, .ref h23, .int 0, .ref h24, .ref h25, .int 0, .int 0, .int 0, .ref h26, .ref h27, .ref h28, .ref h29]))] := hD
  obtain rfl := hw
  refine lv_if_eq (tgt := 28) hx hb dX12_plots_5 (by decide) (fun _ => ?_) (fun c => absurd c (by decide))
  refine lv_iconst (v := (-1)) hx hb dX12_plots_28 (by decide) ?_
  have hP9 := hP.sub (ws' := []) [] rfl
  have hD9 := hD.sub (ws' := []) [] (by decide) rfl
  have hK9 := hK.sub (tys' := []) [] rfl
  exact W.iret (v := (-1)) hx hb hr (fun t ht hW => ⟨⟨(-1), (), rfl, by first | rfl | ((repeat' split) <;> first | rfl | (exfalso; omega) | (exact Int32.toInt_inj.mp (by show ((-1) : Int) = _; omega))), by rw [ht]; exact hP9, va_K.moved hW.alike hK9, hD9⟩, hS.F ht⟩) hS.2.2 dX12_plots_29
set_option maxHeartbeats 4000000 in
set_option maxRecDepth 100000 in
theorem k_X12_isPlot_0 (l : Launch) (dC : Nat → ClassId) (dI : Nat → Nat → Nat) (h0 h1 h2 h3 h4 h5 h6 h7 h8 h9 h10 h11 h12 h13 h14 h15 h16 h17 h18 h19 h20 h21 h22 h23 h24 h25 h26 h27 h28 h29 : Nat) (sz : Nat) (p0 : Int32) (p1 : Int32) : Met l yX12_isPlot wsX12_isPlot ({ frames := 2, cells := 0, slots := 0, locals := 46 }) (va_Pc [.ref h0, .int p0, .int p1] (fun U => U.heap.size = sz ∧ va_P (dC, dI) vwCl [(h0, .inr (12, [.int 0, .ref h1, .ref h2, .ref h3, .ref h4, .ref h5, .int 0, .int 0, .ref h6, .int 0, .int 0, .ref h7, .ref h8, .ref h9, .ref h10, .ref h11, .ref h12, .ref h13, .int 0, .int 0, .ref h14, .ref h15, .ref h16, .ref h17, .int 0, .ref h18, .ref h19, .int 0, .ref h20, .int 0, .int 0, .ref h21, .ref h22, .int 0, .int 0, .int 0, .int 0, .int 0, .ref h23, .int 0, .ref h24, .ref h25, .int 0, .int 0, .int 0, .ref h26, .ref h27, .ref h28, .ref h29]))] U.heap ∧ va_K (dC, dI) vwCl [] U ∧ va_D (fun _ => True) [(h0, .inr (12, [.int 0, .ref h1, .ref h2, .ref h3, .ref h4, .ref h5, .int 0, .int 0, .ref h6, .int 0, .int 0, .ref h7, .ref h8, .ref h9, .ref h10, .ref h11, .ref h12, .ref h13, .int 0, .int 0, .ref h14, .ref h15, .ref h16, .ref h17, .int 0, .ref h18, .ref h19, .int 0, .ref h20, .int 0, .int 0, .ref h21, .ref h22, .int 0, .int 0, .int 0, .int 0, .int 0, .ref h23, .int 0, .ref h24, .ref h25, .int 0, .int 0, .int 0, .ref h26, .ref h27, .ref h28, .ref h29]))])) (va_Qi (fun (r : Int32) (_ : Unit) => r = 0) (fun (_ : Unit) t => va_P (dC, dI) vwCl [(h0, .inr (12, [.int 0, .ref h1, .ref h2, .ref h3, .ref h4, .ref h5, .int 0, .int 0, .ref h6, .int 0, .int 0, .ref h7, .ref h8, .ref h9, .ref h10, .ref h11, .ref h12, .ref h13, .int 0, .int 0, .ref h14, .ref h15, .ref h16, .ref h17, .int 0, .ref h18, .ref h19, .int 0, .ref h20, .int 0, .int 0, .ref h21, .ref h22, .int 0, .int 0, .int 0, .int 0, .int 0, .ref h23, .int 0, .ref h24, .ref h25, .int 0, .int 0, .int 0, .ref h26, .ref h27, .ref h28, .ref h29]))] t.heap ∧ va_K (dC, dI) vwCl [] t ∧ va_D (va_A [(h0, .inr (12, [.int 0, .ref h1, .ref h2, .ref h3, .ref h4, .ref h5, .int 0, .int 0, .ref h6, .int 0, .int 0, .ref h7, .ref h8, .ref h9, .ref h10, .ref h11, .ref h12, .ref h13, .int 0, .int 0, .ref h14, .ref h15, .ref h16, .ref h17, .int 0, .ref h18, .ref h19, .int 0, .ref h20, .int 0, .int 0, .ref h21, .ref h22, .int 0, .int 0, .int 0, .int 0, .int 0, .ref h23, .int 0, .ref h24, .ref h25, .int 0, .int 0, .int 0, .ref h26, .ref h27, .ref h28, .ref h29]))] sz) [(h0, .inr (12, [.int 0, .ref h1, .ref h2, .ref h3, .ref h4, .ref h5, .int 0, .int 0, .ref h6, .int 0, .int 0, .ref h7, .ref h8, .ref h9, .ref h10, .ref h11, .ref h12, .ref h13, .int 0, .int 0, .ref h14, .ref h15, .ref h16, .ref h17, .int 0, .ref h18, .ref h19, .int 0, .ref h20, .int 0, .int 0, .ref h21, .ref h22, .int 0, .int 0, .int 0, .int 0, .int 0, .ref h23, .int 0, .ref h24, .ref h25, .int 0, .int 0, .int 0, .ref h26, .ref h27, .ref h28, .ref h29]))]) (va_A [(h0, .inr (12, [.int 0, .ref h1, .ref h2, .ref h3, .ref h4, .ref h5, .int 0, .int 0, .ref h6, .int 0, .int 0, .ref h7, .ref h8, .ref h9, .ref h10, .ref h11, .ref h12, .ref h13, .int 0, .int 0, .ref h14, .ref h15, .ref h16, .ref h17, .int 0, .ref h18, .ref h19, .int 0, .ref h20, .int 0, .int 0, .ref h21, .ref h22, .int 0, .int 0, .int 0, .int 0, .int 0, .ref h23, .int 0, .ref h24, .ref h25, .int 0, .int 0, .int 0, .ref h26, .ref h27, .ref h28, .ref h29]))] sz)) 0 0 (va_A [(h0, .inr (12, [.int 0, .ref h1, .ref h2, .ref h3, .ref h4, .ref h5, .int 0, .int 0, .ref h6, .int 0, .int 0, .ref h7, .ref h8, .ref h9, .ref h10, .ref h11, .ref h12, .ref h13, .int 0, .int 0, .ref h14, .ref h15, .ref h16, .ref h17, .int 0, .ref h18, .ref h19, .int 0, .ref h20, .int 0, .int 0, .ref h21, .ref h22, .int 0, .int 0, .int 0, .int 0, .int 0, .ref h23, .int 0, .ref h24, .ref h25, .int 0, .int 0, .int 0, .ref h26, .ref h27, .ref h28, .ref h29]))] sz) := by
  refine Met.ofW (cc := cX12_isPlot) (maxL := 3) (ret := (some .boolean)) (by decide) rfl ?_
  intro p e s m args below meth c s₁ B hml hv
  obtain ⟨rfl, hsz, hP, hK, hD0⟩ := hv
  have hx := B.exec
  have hb := B.bytes
  have hr := B.returns
  have hts := atoms_spec (ws := wsX12_isPlot) B.pre
  have hown : s.vm.findClass RX12 = some m.cls := findClass_of_methodNamed B.named
  have hlocks := B.notSynchronized
  subst hsz
  have hD := hD0.self (sz := s.heap.size)
  generalize hAe : va_A [(h0, .inr (12, [.int 0, .ref h1, .ref h2, .ref h3, .ref h4, .ref h5, .int 0, .int 0, .ref h6, .int 0, .int 0, .ref h7, .ref h8, .ref h9, .ref h10, .ref h11, .ref h12, .ref h13, .int 0, .int 0, .ref h14, .ref h15, .ref h16, .ref h17, .int 0, .ref h18, .ref h19, .int 0, .ref h20, .int 0, .int 0, .ref h21, .ref h22, .int 0, .int 0, .int 0, .int 0, .int 0, .ref h23, .int 0, .ref h24, .ref h25, .int 0, .int 0, .int 0, .ref h26, .ref h27, .ref h28, .ref h29]))] s.heap.size = A at hD ⊢
  have hA : ∀ q : Nat, s.heap.size ≤ q → A q := fun q h => by rw [← hAe]; exact Or.inr h
  have hS : va_S A s.heap s.heap [] := va_S.rf
  have hP : va_P (dC, dI) vwCl [(h0, .inr (12, [.int 0, .ref h1, .ref h2, .ref h3, .ref h4, .ref h5, .int 0, .int 0, .ref h6, .int 0, .int 0, .ref h7, .ref h8, .ref h9, .ref h10, .ref h11, .ref h12, .ref h13, .int 0, .int 0, .ref h14, .ref h15, .ref h16, .ref h17, .int 0, .ref h18, .ref h19, .int 0, .ref h20, .int 0, .int 0, .ref h21, .ref h22, .int 0, .int 0, .int 0, .int 0, .int 0, .ref h23, .int 0, .ref h24, .ref h25, .int 0, .int 0, .int 0, .ref h26, .ref h27, .ref h28, .ref h29]))] s.heap := hP
  have hl := lv_entry ([.ref h0, .int p0, .int p1]) (n := 3) (Nat.le_of_ble_eq_true rfl)
  rw [lg_entry_eq]
  generalize (lg_sl ([.ref h0, .int p0, .int p1]) ++ List.replicate (3 - (lg_sl ([.ref h0, .int p0, .int p1])).length) Slot.unset).toArray = ls at hl ⊢
  have hl : lv_has ls 3 [(0, .ref h0), (1, .int p0), (2, .int p1)] := hl
  refine lv_aload_n hx hb dX12_isPlot_0 rfl (lv_at hl 0 rfl) ?_
  refine lv_iload_n hx hb dX12_isPlot_1 rfl (lv_at hl 1 rfl) ?_
  have hPc := hP.sub (ws' := [(h0, .inr (12, [.int 0, .ref h1, .ref h2, .ref h3, .ref h4, .ref h5, .int 0, .int 0, .ref h6, .int 0, .int 0, .ref h7, .ref h8, .ref h9, .ref h10, .ref h11, .ref h12, .ref h13, .int 0, .int 0, .ref h14, .ref h15, .ref h16, .ref h17, .int 0, .ref h18, .ref h19, .int 0, .ref h20, .int 0, .int 0, .ref h21, .ref h22, .int 0, .int 0, .int 0, .int 0, .int 0, .ref h23, .int 0, .ref h24, .ref h25, .int 0, .int 0, .int 0, .ref h26, .ref h27, .ref h28, .ref h29]))]) [0] rfl
  have hDc := hD.sub (ws' := [(h0, .inr (12, [.int 0, .ref h1, .ref h2, .ref h3, .ref h4, .ref h5, .int 0, .int 0, .ref h6, .int 0, .int 0, .ref h7, .ref h8, .ref h9, .ref h10, .ref h11, .ref h12, .ref h13, .int 0, .int 0, .ref h14, .ref h15, .ref h16, .ref h17, .int 0, .ref h18, .ref h19, .int 0, .ref h20, .int 0, .int 0, .ref h21, .ref h22, .int 0, .int 0, .int 0, .int 0, .int 0, .ref h23, .int 0, .ref h24, .ref h25, .int 0, .int 0, .int 0, .ref h26, .ref h27, .ref h28, .ref h29]))]) [0] (by decide) rfl
  have hKc := hK.sub (tys' := []) [] rfl
  have hFc := va_free (wc := [(h0, .inr (12, [.int 0, .ref h1, .ref h2, .ref h3, .ref h4, .ref h5, .int 0, .int 0, .ref h6, .int 0, .int 0, .ref h7, .ref h8, .ref h9, .ref h10, .ref h11, .ref h12, .ref h13, .int 0, .int 0, .ref h14, .ref h15, .ref h16, .ref h17, .int 0, .ref h18, .ref h19, .int 0, .ref h20, .int 0, .int 0, .ref h21, .ref h22, .int 0, .int 0, .int 0, .int 0, .int 0, .ref h23, .int 0, .ref h24, .ref h25, .int 0, .int 0, .int 0, .ref h26, .ref h27, .ref h28, .ref h29]))]) hD hS hA [0] rfl
  refine va_calli (va_runV (As := [.int p0]) (rest := []) ⟨hx, hb, hml, hown, hts⟩ (k_X12_isStreet_0 l dC dI h0 h1 h2 h3 h4 h5 h6 h7 h8 h9 h10 h11 h12 h13 h14 h15 h16 h17 h18 h19 h20 h21 h22 h23 h24 h25 h26 h27 h28 h29 s.heap.size p0) (cwV 1 hts gX12_isPlot_X12_isStreet rfl rfl rfl (by decide +kernel) ⟨Nat.le_of_ble_eq_true rfl, Nat.le_of_ble_eq_true rfl⟩) ⟨fun a U g mk q => by obtain ⟨q0, q1, qP, qK, qD⟩ := q; exact ⟨q0, q1, qP, va_K.moved (u := U) (U := U.calling g mk a) (Vm.Alike.refl U.vm) qK, qD⟩, va_recv hKc hPc (ci := 12) (q0 := 0) rfl rfl, fun U hU hW => ⟨rfl, by rw [hU], by rw [hU]; exact hPc, va_K.moved hW.alike hKc, hDc.weaken (fun _ _ _ _ => trivial)⟩⟩ rfl rfl hl.1 rfl (lv_room (Nat.le_of_ble_eq_true rfl)) dX12_isPlot_2 ⟨Nat.le_of_ble_eq_true rfl, Nat.le_of_ble_eq_true rfl⟩) hS (fun q _ h => hFc q h) hFc (fun r_1 u t H1 locs ht hvm hw hB hz1 hk1 hS => ?_)
  obtain ⟨hP1, hK1, hD1⟩ := hB
  rw [ht] at hP1
  have hK1 := va_K.moved hvm.symm hK1
  obtain ⟨hP, hD⟩ := va_join (wr := []) (w1 := [(h0, .inr (12, [.int 0, .ref h1, .ref h2, .ref h3, .ref h4, .ref h5, .int 0, .int 0, .ref h6, .int 0, .int 0, .ref h7, .ref h8, .ref h9, .ref h10, .ref h11, .ref h12, .ref h13, .int 0, .int 0, .ref h14, .ref h15, .ref h16, .ref h17, .int 0, .ref h18, .ref h19, .int 0, .ref h20, .int 0, .int 0, .ref h21, .ref h22, .int 0, .int 0, .int 0, .int 0, .int 0, .ref h23, .int 0, .ref h24, .ref h25, .int 0, .int 0, .int 0, .ref h26, .ref h27, .ref h28, .ref h29]))]) hP hD [0] [] rfl rfl (by decide) (by decide) hk1 hFc hP1 hD1
  generalize H1 = H at hP hS ⊢
  have hP : va_P (dC, dI) vwCl [(h0, .inr (12, [.int 0, .ref h1, .ref h2, .ref h3, .ref h4, .ref h5, .int 0, .int 0, .ref h6, .int 0, .int 0, .ref h7, .ref h8, .ref h9, .ref h10, .ref h11, .ref h12, .ref h13, .int 0, .int 0, .ref h14, .ref h15, .ref h16, .ref h17, .int 0, .ref h18, .ref h19, .int 0, .ref h20, .int 0, .int 0, .ref h21, .ref h22, .int 0, .int 0, .int 0, .int 0, .int 0, .ref h23, .int 0, .ref h24, .ref h25, .int 0, .int 0, .int 0, .ref h26, .ref h27, .ref h28, .ref h29]))] H := hP
  have hD : va_D A [(h0, .inr (12, [.int 0, .ref h1, .ref h2, .ref h3, .ref h4, .ref h5, .int 0, .int 0, .ref h6, .int 0, .int 0, .ref h7, .ref h8, .ref h9, .ref h10, .ref h11, .ref h12, .ref h13, .int 0, .int 0, .ref h14, .ref h15, .ref h16, .ref h17, .int 0, .ref h18, .ref h19, .int 0, .ref h20, .int 0, .int 0, .ref h21, .ref h22, .int 0, .int 0, .int 0, .int 0, .int 0, .ref h23, .int 0, .ref h24, .ref h25, .int 0, .int 0, .int 0, .ref h26, .ref h27, .ref h28, .ref h29]))] := hD
  obtain rfl := hw
  refine lv_if_eq (tgt := 30) hx hb dX12_isPlot_5 (by decide) (fun _ => ?_) (fun c => absurd c (by decide))
  refine lv_iconst (v := 0) hx hb dX12_isPlot_30 (by decide) ?_
  have hP9 := hP.sub (ws' := [(h0, .inr (12, [.int 0, .ref h1, .ref h2, .ref h3, .ref h4, .ref h5, .int 0, .int 0, .ref h6, .int 0, .int 0, .ref h7, .ref h8, .ref h9, .ref h10, .ref h11, .ref h12, .ref h13, .int 0, .int 0, .ref h14, .ref h15, .ref h16, .ref h17, .int 0, .ref h18, .ref h19, .int 0, .ref h20, .int 0, .int 0, .ref h21, .ref h22, .int 0, .int 0, .int 0, .int 0, .int 0, .ref h23, .int 0, .ref h24, .ref h25, .int 0, .int 0, .int 0, .ref h26, .ref h27, .ref h28, .ref h29]))]) [0] rfl
  have hD9 := hD.sub (ws' := [(h0, .inr (12, [.int 0, .ref h1, .ref h2, .ref h3, .ref h4, .ref h5, .int 0, .int 0, .ref h6, .int 0, .int 0, .ref h7, .ref h8, .ref h9, .ref h10, .ref h11, .ref h12, .ref h13, .int 0, .int 0, .ref h14, .ref h15, .ref h16, .ref h17, .int 0, .ref h18, .ref h19, .int 0, .ref h20, .int 0, .int 0, .ref h21, .ref h22, .int 0, .int 0, .int 0, .int 0, .int 0, .ref h23, .int 0, .ref h24, .ref h25, .int 0, .int 0, .int 0, .ref h26, .ref h27, .ref h28, .ref h29]))]) [0] (by decide) rfl
  have hK9 := hK.sub (tys' := []) [] rfl
  exact W.zret (v := 0) hx hb hr rfl (fun t ht hW => ⟨⟨0, (), rfl, rfl, by rw [ht]; exact hP9, va_K.moved hW.alike hK9, hD9⟩, hS.F ht⟩) hS.2.2 dX12_isPlot_31
set_option maxHeartbeats 4000000 in
set_option maxRecDepth 100000 in
theorem k_X12_mend_0 (l : Launch) (dC : Nat → ClassId) (dI : Nat → Nat → Nat) (h0 h1 h2 h3 h4 h5 h6 h7 h8 h9 h10 h11 h12 h13 h14 h15 h16 h17 h18 h19 h20 h21 h22 h23 h24 h25 h26 h27 h28 h29 : Nat) (sz : Nat) (p0 : Int32) (p1 : Int32) (p2 : Int32) : Met l yX12_mend wsX12_mend ({ frames := 3, cells := 0, slots := 0, locals := 68 }) (va_Pc [.ref h0, .int p0, .int p1, .int p2] (fun U => U.heap.size = sz ∧ va_P (dC, dI) vwCl [(h0, .inr (12, [.int 0, .ref h1, .ref h2, .ref h3, .ref h4, .ref h5, .int 0, .int 0, .ref h6, .int 0, .int 0, .ref h7, .ref h8, .ref h9, .ref h10, .ref h11, .ref h12, .ref h13, .int 0, .int 0, .ref h14, .ref h15, .ref h16, .ref h17, .int 0, .ref h18, .ref h19, .int 0, .ref h20, .int 0, .int 0, .ref h21, .ref h22, .int 0, .int 0, .int 0, .int 0, .int 0, .ref h23, .int 0, .ref h24, .ref h25, .int 0, .int 0, .int 0, .ref h26, .ref h27, .ref h28, .ref h29]))] U.heap ∧ va_K (dC, dI) vwCl [] U ∧ va_D (fun _ => True) [(h0, .inr (12, [.int 0, .ref h1, .ref h2, .ref h3, .ref h4, .ref h5, .int 0, .int 0, .ref h6, .int 0, .int 0, .ref h7, .ref h8, .ref h9, .ref h10, .ref h11, .ref h12, .ref h13, .int 0, .int 0, .ref h14, .ref h15, .ref h16, .ref h17, .int 0, .ref h18, .ref h19, .int 0, .ref h20, .int 0, .int 0, .ref h21, .ref h22, .int 0, .int 0, .int 0, .int 0, .int 0, .ref h23, .int 0, .ref h24, .ref h25, .int 0, .int 0, .int 0, .ref h26, .ref h27, .ref h28, .ref h29]))])) (va_Qi (fun (r : Int32) (_ : Unit) => r = -2000000000) (fun (_ : Unit) t => va_P (dC, dI) vwCl [] t.heap ∧ va_K (dC, dI) vwCl [] t ∧ va_D (va_A [(h0, .inr (12, [.int 0, .ref h1, .ref h2, .ref h3, .ref h4, .ref h5, .int 0, .int 0, .ref h6, .int 0, .int 0, .ref h7, .ref h8, .ref h9, .ref h10, .ref h11, .ref h12, .ref h13, .int 0, .int 0, .ref h14, .ref h15, .ref h16, .ref h17, .int 0, .ref h18, .ref h19, .int 0, .ref h20, .int 0, .int 0, .ref h21, .ref h22, .int 0, .int 0, .int 0, .int 0, .int 0, .ref h23, .int 0, .ref h24, .ref h25, .int 0, .int 0, .int 0, .ref h26, .ref h27, .ref h28, .ref h29]))] sz) []) (va_A [(h0, .inr (12, [.int 0, .ref h1, .ref h2, .ref h3, .ref h4, .ref h5, .int 0, .int 0, .ref h6, .int 0, .int 0, .ref h7, .ref h8, .ref h9, .ref h10, .ref h11, .ref h12, .ref h13, .int 0, .int 0, .ref h14, .ref h15, .ref h16, .ref h17, .int 0, .ref h18, .ref h19, .int 0, .ref h20, .int 0, .int 0, .ref h21, .ref h22, .int 0, .int 0, .int 0, .int 0, .int 0, .ref h23, .int 0, .ref h24, .ref h25, .int 0, .int 0, .int 0, .ref h26, .ref h27, .ref h28, .ref h29]))] sz)) 0 0 (va_A [(h0, .inr (12, [.int 0, .ref h1, .ref h2, .ref h3, .ref h4, .ref h5, .int 0, .int 0, .ref h6, .int 0, .int 0, .ref h7, .ref h8, .ref h9, .ref h10, .ref h11, .ref h12, .ref h13, .int 0, .int 0, .ref h14, .ref h15, .ref h16, .ref h17, .int 0, .ref h18, .ref h19, .int 0, .ref h20, .int 0, .int 0, .ref h21, .ref h22, .int 0, .int 0, .int 0, .int 0, .int 0, .ref h23, .int 0, .ref h24, .ref h25, .int 0, .int 0, .int 0, .ref h26, .ref h27, .ref h28, .ref h29]))] sz) := by
  refine Met.ofW (cc := cX12_mend) (maxL := 6) (ret := (some .int)) (by decide) rfl ?_
  intro p e s m args below meth c s₁ B hml hv
  obtain ⟨rfl, hsz, hP, hK, hD0⟩ := hv
  have hx := B.exec
  have hb := B.bytes
  have hr := B.returns
  have hts := atoms_spec (ws := wsX12_mend) B.pre
  have hown : s.vm.findClass RX12 = some m.cls := findClass_of_methodNamed B.named
  have hlocks := B.notSynchronized
  subst hsz
  have hD := hD0.self (sz := s.heap.size)
  generalize hAe : va_A [(h0, .inr (12, [.int 0, .ref h1, .ref h2, .ref h3, .ref h4, .ref h5, .int 0, .int 0, .ref h6, .int 0, .int 0, .ref h7, .ref h8, .ref h9, .ref h10, .ref h11, .ref h12, .ref h13, .int 0, .int 0, .ref h14, .ref h15, .ref h16, .ref h17, .int 0, .ref h18, .ref h19, .int 0, .ref h20, .int 0, .int 0, .ref h21, .ref h22, .int 0, .int 0, .int 0, .int 0, .int 0, .ref h23, .int 0, .ref h24, .ref h25, .int 0, .int 0, .int 0, .ref h26, .ref h27, .ref h28, .ref h29]))] s.heap.size = A at hD ⊢
  have hA : ∀ q : Nat, s.heap.size ≤ q → A q := fun q h => by rw [← hAe]; exact Or.inr h
  have hS : va_S A s.heap s.heap [] := va_S.rf
  have hP : va_P (dC, dI) vwCl [(h0, .inr (12, [.int 0, .ref h1, .ref h2, .ref h3, .ref h4, .ref h5, .int 0, .int 0, .ref h6, .int 0, .int 0, .ref h7, .ref h8, .ref h9, .ref h10, .ref h11, .ref h12, .ref h13, .int 0, .int 0, .ref h14, .ref h15, .ref h16, .ref h17, .int 0, .ref h18, .ref h19, .int 0, .ref h20, .int 0, .int 0, .ref h21, .ref h22, .int 0, .int 0, .int 0, .int 0, .int 0, .ref h23, .int 0, .ref h24, .ref h25, .int 0, .int 0, .int 0, .ref h26, .ref h27, .ref h28, .ref h29]))] s.heap := hP
  have hl := lv_entry ([.ref h0, .int p0, .int p1, .int p2]) (n := 6) (Nat.le_of_ble_eq_true rfl)
  rw [lg_entry_eq]
  generalize (lg_sl ([.ref h0, .int p0, .int p1, .int p2]) ++ List.replicate (6 - (lg_sl ([.ref h0, .int p0, .int p1, .int p2])).length) Slot.unset).toArray = ls at hl ⊢
  have hl : lv_has ls 6 [(0, .ref h0), (1, .int p0), (2, .int p1), (3, .int p2)] := hl
  refine lv_iload_n hx hb dX12_mend_0 rfl (lv_at hl 1 rfl) ?_
  refine lv_if_lt (tgt := 31) hx hb dX12_mend_1 (by decide) (fun c_1 => ?_) (fun c_1 => ?_)
  · have t_1 : p0.toInt < 0 := kk_lt c_1
    refine lv_ldc hx hb hown (hts _ (List.mem_of_getElem? (i := 2) rfl)) dX12_mend_31 ?_
    have hP9 := hP.sub (ws' := []) [] rfl
    have hD9 := hD.sub (ws' := []) [] (by decide) rfl
    have hK9 := hK.sub (tys' := []) [] rfl
    exact W.iret (v := (-2000000000)) hx hb hr (fun t ht hW => ⟨⟨(-2000000000), (), rfl, by first | rfl | ((repeat' split) <;> first | rfl | (exfalso; omega) | (exact Int32.toInt_inj.mp (by show ((-2000000000) : Int) = _; omega))), by rw [ht]; exact hP9, va_K.moved hW.alike hK9, hD9⟩, hS.F ht⟩) hS.2.2 dX12_mend_33
  · have t_1 : 0 ≤ p0.toInt := kk_nlt c_1
    refine lv_aload_n hx hb dX12_mend_4 rfl (lv_at hl 0 rfl) ?_
    refine lv_iload_n hx hb dX12_mend_5 rfl (lv_at hl 1 rfl) ?_
    refine lv_bipush (v := 100) hx hb dX12_mend_6 (by decide) ?_
    refine lv_idiv hx hb dX12_mend_8 (by decide) ?_
    refine lv_iload_n hx hb dX12_mend_9 rfl (lv_at hl 1 rfl) ?_
    refine lv_bipush (v := 100) hx hb dX12_mend_10 (by decide) ?_
    refine lv_irem hx hb dX12_mend_12 (by decide) ?_
    have hPc := hP.sub (ws' := [(h0, .inr (12, [.int 0, .ref h1, .ref h2, .ref h3, .ref h4, .ref h5, .int 0, .int 0, .ref h6, .int 0, .int 0, .ref h7, .ref h8, .ref h9, .ref h10, .ref h11, .ref h12, .ref h13, .int 0, .int 0, .ref h14, .ref h15, .ref h16, .ref h17, .int 0, .ref h18, .ref h19, .int 0, .ref h20, .int 0, .int 0, .ref h21, .ref h22, .int 0, .int 0, .int 0, .int 0, .int 0, .ref h23, .int 0, .ref h24, .ref h25, .int 0, .int 0, .int 0, .ref h26, .ref h27, .ref h28, .ref h29]))]) [0] rfl
    have hDc := hD.sub (ws' := [(h0, .inr (12, [.int 0, .ref h1, .ref h2, .ref h3, .ref h4, .ref h5, .int 0, .int 0, .ref h6, .int 0, .int 0, .ref h7, .ref h8, .ref h9, .ref h10, .ref h11, .ref h12, .ref h13, .int 0, .int 0, .ref h14, .ref h15, .ref h16, .ref h17, .int 0, .ref h18, .ref h19, .int 0, .ref h20, .int 0, .int 0, .ref h21, .ref h22, .int 0, .int 0, .int 0, .int 0, .int 0, .ref h23, .int 0, .ref h24, .ref h25, .int 0, .int 0, .int 0, .ref h26, .ref h27, .ref h28, .ref h29]))]) [0] (by decide) rfl
    have hKc := hK.sub (tys' := []) [] rfl
    have hFc := va_free (wc := [(h0, .inr (12, [.int 0, .ref h1, .ref h2, .ref h3, .ref h4, .ref h5, .int 0, .int 0, .ref h6, .int 0, .int 0, .ref h7, .ref h8, .ref h9, .ref h10, .ref h11, .ref h12, .ref h13, .int 0, .int 0, .ref h14, .ref h15, .ref h16, .ref h17, .int 0, .ref h18, .ref h19, .int 0, .ref h20, .int 0, .int 0, .ref h21, .ref h22, .int 0, .int 0, .int 0, .int 0, .int 0, .ref h23, .int 0, .ref h24, .ref h25, .int 0, .int 0, .int 0, .ref h26, .ref h27, .ref h28, .ref h29]))]) hD hS hA [0] rfl
    refine va_calli (va_runV (As := [.int (p0 / 100), .int (p0 - p0 / 100 * 100)]) (rest := []) ⟨hx, hb, hml, hown, hts⟩ (k_X12_isPlot_0 l dC dI h0 h1 h2 h3 h4 h5 h6 h7 h8 h9 h10 h11 h12 h13 h14 h15 h16 h17 h18 h19 h20 h21 h22 h23 h24 h25 h26 h27 h28 h29 s.heap.size (p0 / 100) (p0 - p0 / 100 * 100)) (cwV 2 hts gX12_mend_X12_isPlot rfl rfl rfl (by decide +kernel) ⟨Nat.le_of_ble_eq_true rfl, Nat.le_of_ble_eq_true rfl⟩) ⟨fun a U g mk q => by obtain ⟨q0, q1, qP, qK, qD⟩ := q; exact ⟨q0, q1, qP, va_K.moved (u := U) (U := U.calling g mk a) (Vm.Alike.refl U.vm) qK, qD⟩, va_recv hKc hPc (ci := 12) (q0 := 0) rfl rfl, fun U hU hW => ⟨rfl, by rw [hU], by rw [hU]; exact hPc, va_K.moved hW.alike hKc, hDc.weaken (fun _ _ _ _ => trivial)⟩⟩ rfl rfl hl.1 rfl (lv_room (Nat.le_of_ble_eq_true rfl)) dX12_mend_13 ⟨Nat.le_of_ble_eq_true rfl, Nat.le_of_ble_eq_true rfl⟩) hS (fun q _ h => hFc q h) hFc (fun r_2 u t H1 locs ht hvm hw hB hz1 hk1 hS => ?_)
    obtain ⟨hP1, hK1, hD1⟩ := hB
    rw [ht] at hP1
    have hK1 := va_K.moved hvm.symm hK1
    obtain ⟨hP, hD⟩ := va_join (wr := []) (w1 := [(h0, .inr (12, [.int 0, .ref h1, .ref h2, .ref h3, .ref h4, .ref h5, .int 0, .int 0, .ref h6, .int 0, .int 0, .ref h7, .ref h8, .ref h9, .ref h10, .ref h11, .ref h12, .ref h13, .int 0, .int 0, .ref h14, .ref h15, .ref h16, .ref h17, .int 0, .ref h18, .ref h19, .int 0, .ref h20, .int 0, .int 0, .ref h21, .ref h22, .int 0, .int 0, .int 0, .int 0, .int 0, .ref h23, .int 0, .ref h24, .ref h25, .int 0, .int 0, .int 0, .ref h26, .ref h27, .ref h28, .ref h29]))]) hP hD [0] [] rfl rfl (by decide) (by decide) hk1 hFc hP1 hD1
    generalize H1 = H at hP hS ⊢
    have hP : va_P (dC, dI) vwCl [(h0, .inr (12, [.int 0, .ref h1, .ref h2, .ref h3, .ref h4, .ref h5, .int 0, .int 0, .ref h6, .int 0, .int 0, .ref h7, .ref h8, .ref h9, .ref h10, .ref h11, .ref h12, .ref h13, .int 0, .int 0, .ref h14, .ref h15, .ref h16, .ref h17, .int 0, .ref h18, .ref h19, .int 0, .ref h20, .int 0, .int 0, .ref h21, .ref h22, .int 0, .int 0, .int 0, .int 0, .int 0, .ref h23, .int 0, .ref h24, .ref h25, .int 0, .int 0, .int 0, .ref h26, .ref h27, .ref h28, .ref h29]))] H := hP
    have hD : va_D A [(h0, .inr (12, [.int 0, .ref h1, .ref h2, .ref h3, .ref h4, .ref h5, .int 0, .int 0, .ref h6, .int 0, .int 0, .ref h7, .ref h8, .ref h9, .ref h10, .ref h11, .ref h12, .ref h13, .int 0, .int 0, .ref h14, .ref h15, .ref h16, .ref h17, .int 0, .ref h18, .ref h19, .int 0, .ref h20, .int 0, .int 0, .ref h21, .ref h22, .int 0, .int 0, .int 0, .int 0, .int 0, .ref h23, .int 0, .ref h24, .ref h25, .int 0, .int 0, .int 0, .ref h26, .ref h27, .ref h28, .ref h29]))] := hD
    obtain rfl := hw
    refine lv_if_eq (tgt := 31) hx hb dX12_mend_16 (by decide) (fun _ => ?_) (fun c => absurd c (by decide))
    refine lv_ldc hx hb hown (hts _ (List.mem_of_getElem? (i := 2) rfl)) dX12_mend_31 ?_
    have hP9 := hP.sub (ws' := []) [] rfl
    have hD9 := hD.sub (ws' := []) [] (by decide) rfl
    have hK9 := hK.sub (tys' := []) [] rfl
    exact W.iret (v := (-2000000000)) hx hb hr (fun t ht hW => ⟨⟨(-2000000000), (), rfl, by first | rfl | ((repeat' split) <;> first | rfl | (exfalso; have := kk_div (x := p0) (k := 100) (n := 100) rfl (by decide) (by omega); have := kk_rem (x := p0) (k := 100) (n := 100) rfl (by decide) (by omega); omega) | (exact Int32.toInt_inj.mp (by show ((-2000000000) : Int) = _; omega))), by rw [ht]; exact hP9, va_K.moved hW.alike hK9, hD9⟩, hS.F ht⟩) hS.2.2 dX12_mend_33
set_option maxHeartbeats 4000000 in
set_option maxRecDepth 100000 in
theorem k_X12_of_0 (l : Launch) (dC : Nat → ClassId) (dI : Nat → Nat → Nat) (h0 h1 h2 h3 h4 h5 h6 h7 h8 h9 h10 h11 h12 h13 h14 h15 h16 h17 h18 h19 h20 h21 h22 h23 h24 h25 h26 h27 h28 h29 : Nat) (sz : Nat) (p0 : Int32) (p1 : Int32) : Met l yX12_of wsX12_of ({ frames := 2, cells := 0, slots := 0, locals := 46 }) (va_Pc [.ref h0, .int p0, .int p1] (fun U => U.heap.size = sz ∧ va_P (dC, dI) vwCl [(h0, .inr (12, [.int 0, .ref h1, .ref h2, .ref h3, .ref h4, .ref h5, .int 0, .int 0, .ref h6, .int 0, .int 0, .ref h7, .ref h8, .ref h9, .ref h10, .ref h11, .ref h12, .ref h13, .int 0, .int 0, .ref h14, .ref h15, .ref h16, .ref h17, .int 0, .ref h18, .ref h19, .int 0, .ref h20, .int 0, .int 0, .ref h21, .ref h22, .int 0, .int 0, .int 0, .int 0, .int 0, .ref h23, .int 0, .ref h24, .ref h25, .int 0, .int 0, .int 0, .ref h26, .ref h27, .ref h28, .ref h29]))] U.heap ∧ va_K (dC, dI) vwCl [] U ∧ va_D (fun _ => True) [(h0, .inr (12, [.int 0, .ref h1, .ref h2, .ref h3, .ref h4, .ref h5, .int 0, .int 0, .ref h6, .int 0, .int 0, .ref h7, .ref h8, .ref h9, .ref h10, .ref h11, .ref h12, .ref h13, .int 0, .int 0, .ref h14, .ref h15, .ref h16, .ref h17, .int 0, .ref h18, .ref h19, .int 0, .ref h20, .int 0, .int 0, .ref h21, .ref h22, .int 0, .int 0, .int 0, .int 0, .int 0, .ref h23, .int 0, .ref h24, .ref h25, .int 0, .int 0, .int 0, .ref h26, .ref h27, .ref h28, .ref h29]))])) (va_Qi (fun (r : Int32) (_ : Unit) => r = -2000000000) (fun (_ : Unit) t => va_P (dC, dI) vwCl [] t.heap ∧ va_K (dC, dI) vwCl [] t ∧ va_D (va_A [(h0, .inr (12, [.int 0, .ref h1, .ref h2, .ref h3, .ref h4, .ref h5, .int 0, .int 0, .ref h6, .int 0, .int 0, .ref h7, .ref h8, .ref h9, .ref h10, .ref h11, .ref h12, .ref h13, .int 0, .int 0, .ref h14, .ref h15, .ref h16, .ref h17, .int 0, .ref h18, .ref h19, .int 0, .ref h20, .int 0, .int 0, .ref h21, .ref h22, .int 0, .int 0, .int 0, .int 0, .int 0, .ref h23, .int 0, .ref h24, .ref h25, .int 0, .int 0, .int 0, .ref h26, .ref h27, .ref h28, .ref h29]))] sz) []) (va_A [(h0, .inr (12, [.int 0, .ref h1, .ref h2, .ref h3, .ref h4, .ref h5, .int 0, .int 0, .ref h6, .int 0, .int 0, .ref h7, .ref h8, .ref h9, .ref h10, .ref h11, .ref h12, .ref h13, .int 0, .int 0, .ref h14, .ref h15, .ref h16, .ref h17, .int 0, .ref h18, .ref h19, .int 0, .ref h20, .int 0, .int 0, .ref h21, .ref h22, .int 0, .int 0, .int 0, .int 0, .int 0, .ref h23, .int 0, .ref h24, .ref h25, .int 0, .int 0, .int 0, .ref h26, .ref h27, .ref h28, .ref h29]))] sz)) 0 0 (va_A [(h0, .inr (12, [.int 0, .ref h1, .ref h2, .ref h3, .ref h4, .ref h5, .int 0, .int 0, .ref h6, .int 0, .int 0, .ref h7, .ref h8, .ref h9, .ref h10, .ref h11, .ref h12, .ref h13, .int 0, .int 0, .ref h14, .ref h15, .ref h16, .ref h17, .int 0, .ref h18, .ref h19, .int 0, .ref h20, .int 0, .int 0, .ref h21, .ref h22, .int 0, .int 0, .int 0, .int 0, .int 0, .ref h23, .int 0, .ref h24, .ref h25, .int 0, .int 0, .int 0, .ref h26, .ref h27, .ref h28, .ref h29]))] sz) := by
  refine Met.ofW (cc := cX12_of) (maxL := 4) (ret := (some .int)) (by decide) rfl ?_
  intro p e s m args below meth c s₁ B hml hv
  obtain ⟨rfl, hsz, hP, hK, hD0⟩ := hv
  have hx := B.exec
  have hb := B.bytes
  have hr := B.returns
  have hts := atoms_spec (ws := wsX12_of) B.pre
  have hown : s.vm.findClass RX12 = some m.cls := findClass_of_methodNamed B.named
  have hlocks := B.notSynchronized
  subst hsz
  have hD := hD0.self (sz := s.heap.size)
  generalize hAe : va_A [(h0, .inr (12, [.int 0, .ref h1, .ref h2, .ref h3, .ref h4, .ref h5, .int 0, .int 0, .ref h6, .int 0, .int 0, .ref h7, .ref h8, .ref h9, .ref h10, .ref h11, .ref h12, .ref h13, .int 0, .int 0, .ref h14, .ref h15, .ref h16, .ref h17, .int 0, .ref h18, .ref h19, .int 0, .ref h20, .int 0, .int 0, .ref h21, .ref h22, .int 0, .int 0, .int 0, .int 0, .int 0, .ref h23, .int 0, .ref h24, .ref h25, .int 0, .int 0, .int 0, .ref h26, .ref h27, .ref h28, .ref h29]))] s.heap.size = A at hD ⊢
  have hA : ∀ q : Nat, s.heap.size ≤ q → A q := fun q h => by rw [← hAe]; exact Or.inr h
  have hS : va_S A s.heap s.heap [] := va_S.rf
  have hP : va_P (dC, dI) vwCl [(h0, .inr (12, [.int 0, .ref h1, .ref h2, .ref h3, .ref h4, .ref h5, .int 0, .int 0, .ref h6, .int 0, .int 0, .ref h7, .ref h8, .ref h9, .ref h10, .ref h11, .ref h12, .ref h13, .int 0, .int 0, .ref h14, .ref h15, .ref h16, .ref h17, .int 0, .ref h18, .ref h19, .int 0, .ref h20, .int 0, .int 0, .ref h21, .ref h22, .int 0, .int 0, .int 0, .int 0, .int 0, .ref h23, .int 0, .ref h24, .ref h25, .int 0, .int 0, .int 0, .ref h26, .ref h27, .ref h28, .ref h29]))] s.heap := hP
  have hl := lv_entry ([.ref h0, .int p0, .int p1]) (n := 4) (Nat.le_of_ble_eq_true rfl)
  rw [lg_entry_eq]
  generalize (lg_sl ([.ref h0, .int p0, .int p1]) ++ List.replicate (4 - (lg_sl ([.ref h0, .int p0, .int p1])).length) Slot.unset).toArray = ls at hl ⊢
  have hl : lv_has ls 4 [(0, .ref h0), (1, .int p0), (2, .int p1)] := hl
  refine lv_aload_n hx hb dX12_of_0 rfl (lv_at hl 0 rfl) ?_
  refine lv_iload_n hx hb dX12_of_1 rfl (lv_at hl 1 rfl) ?_
  have hPc := hP.sub (ws' := [(h0, .inr (12, [.int 0, .ref h1, .ref h2, .ref h3, .ref h4, .ref h5, .int 0, .int 0, .ref h6, .int 0, .int 0, .ref h7, .ref h8, .ref h9, .ref h10, .ref h11, .ref h12, .ref h13, .int 0, .int 0, .ref h14, .ref h15, .ref h16, .ref h17, .int 0, .ref h18, .ref h19, .int 0, .ref h20, .int 0, .int 0, .ref h21, .ref h22, .int 0, .int 0, .int 0, .int 0, .int 0, .ref h23, .int 0, .ref h24, .ref h25, .int 0, .int 0, .int 0, .ref h26, .ref h27, .ref h28, .ref h29]))]) [0] rfl
  have hDc := hD.sub (ws' := [(h0, .inr (12, [.int 0, .ref h1, .ref h2, .ref h3, .ref h4, .ref h5, .int 0, .int 0, .ref h6, .int 0, .int 0, .ref h7, .ref h8, .ref h9, .ref h10, .ref h11, .ref h12, .ref h13, .int 0, .int 0, .ref h14, .ref h15, .ref h16, .ref h17, .int 0, .ref h18, .ref h19, .int 0, .ref h20, .int 0, .int 0, .ref h21, .ref h22, .int 0, .int 0, .int 0, .int 0, .int 0, .ref h23, .int 0, .ref h24, .ref h25, .int 0, .int 0, .int 0, .ref h26, .ref h27, .ref h28, .ref h29]))]) [0] (by decide) rfl
  have hKc := hK.sub (tys' := []) [] rfl
  have hFc := va_free (wc := [(h0, .inr (12, [.int 0, .ref h1, .ref h2, .ref h3, .ref h4, .ref h5, .int 0, .int 0, .ref h6, .int 0, .int 0, .ref h7, .ref h8, .ref h9, .ref h10, .ref h11, .ref h12, .ref h13, .int 0, .int 0, .ref h14, .ref h15, .ref h16, .ref h17, .int 0, .ref h18, .ref h19, .int 0, .ref h20, .int 0, .int 0, .ref h21, .ref h22, .int 0, .int 0, .int 0, .int 0, .int 0, .ref h23, .int 0, .ref h24, .ref h25, .int 0, .int 0, .int 0, .ref h26, .ref h27, .ref h28, .ref h29]))]) hD hS hA [0] rfl
  refine va_calli (va_runV (As := [.int p0]) (rest := []) ⟨hx, hb, hml, hown, hts⟩ (k_X12_isStreet_0 l dC dI h0 h1 h2 h3 h4 h5 h6 h7 h8 h9 h10 h11 h12 h13 h14 h15 h16 h17 h18 h19 h20 h21 h22 h23 h24 h25 h26 h27 h28 h29 s.heap.size p0) (cwV 1 hts gX12_of_X12_isStreet rfl rfl rfl (by decide +kernel) ⟨Nat.le_of_ble_eq_true rfl, Nat.le_of_ble_eq_true rfl⟩) ⟨fun a U g mk q => by obtain ⟨q0, q1, qP, qK, qD⟩ := q; exact ⟨q0, q1, qP, va_K.moved (u := U) (U := U.calling g mk a) (Vm.Alike.refl U.vm) qK, qD⟩, va_recv hKc hPc (ci := 12) (q0 := 0) rfl rfl, fun U hU hW => ⟨rfl, by rw [hU], by rw [hU]; exact hPc, va_K.moved hW.alike hKc, hDc.weaken (fun _ _ _ _ => trivial)⟩⟩ rfl rfl hl.1 rfl (lv_room (Nat.le_of_ble_eq_true rfl)) dX12_of_2 ⟨Nat.le_of_ble_eq_true rfl, Nat.le_of_ble_eq_true rfl⟩) hS (fun q _ h => hFc q h) hFc (fun r_1 u t H1 locs ht hvm hw hB hz1 hk1 hS => ?_)
  obtain ⟨hP1, hK1, hD1⟩ := hB
  rw [ht] at hP1
  have hK1 := va_K.moved hvm.symm hK1
  obtain ⟨hP, hD⟩ := va_join (wr := []) (w1 := [(h0, .inr (12, [.int 0, .ref h1, .ref h2, .ref h3, .ref h4, .ref h5, .int 0, .int 0, .ref h6, .int 0, .int 0, .ref h7, .ref h8, .ref h9, .ref h10, .ref h11, .ref h12, .ref h13, .int 0, .int 0, .ref h14, .ref h15, .ref h16, .ref h17, .int 0, .ref h18, .ref h19, .int 0, .ref h20, .int 0, .int 0, .ref h21, .ref h22, .int 0, .int 0, .int 0, .int 0, .int 0, .ref h23, .int 0, .ref h24, .ref h25, .int 0, .int 0, .int 0, .ref h26, .ref h27, .ref h28, .ref h29]))]) hP hD [0] [] rfl rfl (by decide) (by decide) hk1 hFc hP1 hD1
  generalize H1 = H at hP hS ⊢
  have hP : va_P (dC, dI) vwCl [(h0, .inr (12, [.int 0, .ref h1, .ref h2, .ref h3, .ref h4, .ref h5, .int 0, .int 0, .ref h6, .int 0, .int 0, .ref h7, .ref h8, .ref h9, .ref h10, .ref h11, .ref h12, .ref h13, .int 0, .int 0, .ref h14, .ref h15, .ref h16, .ref h17, .int 0, .ref h18, .ref h19, .int 0, .ref h20, .int 0, .int 0, .ref h21, .ref h22, .int 0, .int 0, .int 0, .int 0, .int 0, .ref h23, .int 0, .ref h24, .ref h25, .int 0, .int 0, .int 0, .ref h26, .ref h27, .ref h28, .ref h29]))] H := hP
  have hD : va_D A [(h0, .inr (12, [.int 0, .ref h1, .ref h2, .ref h3, .ref h4, .ref h5, .int 0, .int 0, .ref h6, .int 0, .int 0, .ref h7, .ref h8, .ref h9, .ref h10, .ref h11, .ref h12, .ref h13, .int 0, .int 0, .ref h14, .ref h15, .ref h16, .ref h17, .int 0, .ref h18, .ref h19, .int 0, .ref h20, .int 0, .int 0, .ref h21, .ref h22, .int 0, .int 0, .int 0, .int 0, .int 0, .ref h23, .int 0, .ref h24, .ref h25, .int 0, .int 0, .int 0, .ref h26, .ref h27, .ref h28, .ref h29]))] := hD
  obtain rfl := hw
  refine lv_if_ne (tgt := 11) hx hb dX12_of_5 (by decide) (fun c => absurd c (by decide)) (fun _ => ?_)
  refine lv_ldc hx hb hown (hts _ (List.mem_of_getElem? (i := 1) rfl)) dX12_of_8 ?_
  have hP9 := hP.sub (ws' := []) [] rfl
  have hD9 := hD.sub (ws' := []) [] (by decide) rfl
  have hK9 := hK.sub (tys' := []) [] rfl
  exact W.iret (v := (-2000000000)) hx hb hr (fun t ht hW => ⟨⟨(-2000000000), (), rfl, by first | rfl | ((repeat' split) <;> first | rfl | (exfalso; omega) | (exact Int32.toInt_inj.mp (by show ((-2000000000) : Int) = _; omega))), by rw [ht]; exact hP9, va_K.moved hW.alike hK9, hD9⟩, hS.F ht⟩) hS.2.2 dX12_of_10
set_option maxHeartbeats 4000000 in
set_option maxRecDepth 100000 in
theorem k_X12_looks_0 (l : Launch) (dC : Nat → ClassId) (dI : Nat → Nat → Nat) (h0 h1 h2 h3 h4 h5 h6 h7 h8 h9 h10 h11 h12 h13 h14 h15 h16 h17 h18 h19 h20 h21 h22 h23 h24 h25 h26 h27 h28 h29 : Nat) (sz : Nat) (p0 : Int32) (p1 : Int32) : Met l yX12_looks wsX12_looks ({ frames := 2, cells := 0, slots := 0, locals := 46 }) (va_Pc [.ref h0, .int p0, .int p1] (fun U => U.heap.size = sz ∧ va_P (dC, dI) vwCl [(h0, .inr (12, [.int 0, .ref h1, .ref h2, .ref h3, .ref h4, .ref h5, .int 0, .int 0, .ref h6, .int 0, .int 0, .ref h7, .ref h8, .ref h9, .ref h10, .ref h11, .ref h12, .ref h13, .int 0, .int 0, .ref h14, .ref h15, .ref h16, .ref h17, .int 0, .ref h18, .ref h19, .int 0, .ref h20, .int 0, .int 0, .ref h21, .ref h22, .int 0, .int 0, .int 0, .int 0, .int 0, .ref h23, .int 0, .ref h24, .ref h25, .int 0, .int 0, .int 0, .ref h26, .ref h27, .ref h28, .ref h29]))] U.heap ∧ va_K (dC, dI) vwCl [] U ∧ va_D (fun _ => True) [(h0, .inr (12, [.int 0, .ref h1, .ref h2, .ref h3, .ref h4, .ref h5, .int 0, .int 0, .ref h6, .int 0, .int 0, .ref h7, .ref h8, .ref h9, .ref h10, .ref h11, .ref h12, .ref h13, .int 0, .int 0, .ref h14, .ref h15, .ref h16, .ref h17, .int 0, .ref h18, .ref h19, .int 0, .ref h20, .int 0, .int 0, .ref h21, .ref h22, .int 0, .int 0, .int 0, .int 0, .int 0, .ref h23, .int 0, .ref h24, .ref h25, .int 0, .int 0, .int 0, .ref h26, .ref h27, .ref h28, .ref h29]))])) (va_Qi (fun (r : Int32) (_ : Unit) => r = 0) (fun (_ : Unit) t => va_P (dC, dI) vwCl [(h0, .inr (12, [.int 0, .ref h1, .ref h2, .ref h3, .ref h4, .ref h5, .int 0, .int 0, .ref h6, .int 0, .int 0, .ref h7, .ref h8, .ref h9, .ref h10, .ref h11, .ref h12, .ref h13, .int 0, .int 0, .ref h14, .ref h15, .ref h16, .ref h17, .int 0, .ref h18, .ref h19, .int 0, .ref h20, .int 0, .int 0, .ref h21, .ref h22, .int 0, .int 0, .int 0, .int 0, .int 0, .ref h23, .int 0, .ref h24, .ref h25, .int 0, .int 0, .int 0, .ref h26, .ref h27, .ref h28, .ref h29]))] t.heap ∧ va_K (dC, dI) vwCl [] t ∧ va_D (va_A [(h0, .inr (12, [.int 0, .ref h1, .ref h2, .ref h3, .ref h4, .ref h5, .int 0, .int 0, .ref h6, .int 0, .int 0, .ref h7, .ref h8, .ref h9, .ref h10, .ref h11, .ref h12, .ref h13, .int 0, .int 0, .ref h14, .ref h15, .ref h16, .ref h17, .int 0, .ref h18, .ref h19, .int 0, .ref h20, .int 0, .int 0, .ref h21, .ref h22, .int 0, .int 0, .int 0, .int 0, .int 0, .ref h23, .int 0, .ref h24, .ref h25, .int 0, .int 0, .int 0, .ref h26, .ref h27, .ref h28, .ref h29]))] sz) [(h0, .inr (12, [.int 0, .ref h1, .ref h2, .ref h3, .ref h4, .ref h5, .int 0, .int 0, .ref h6, .int 0, .int 0, .ref h7, .ref h8, .ref h9, .ref h10, .ref h11, .ref h12, .ref h13, .int 0, .int 0, .ref h14, .ref h15, .ref h16, .ref h17, .int 0, .ref h18, .ref h19, .int 0, .ref h20, .int 0, .int 0, .ref h21, .ref h22, .int 0, .int 0, .int 0, .int 0, .int 0, .ref h23, .int 0, .ref h24, .ref h25, .int 0, .int 0, .int 0, .ref h26, .ref h27, .ref h28, .ref h29]))]) (va_A [(h0, .inr (12, [.int 0, .ref h1, .ref h2, .ref h3, .ref h4, .ref h5, .int 0, .int 0, .ref h6, .int 0, .int 0, .ref h7, .ref h8, .ref h9, .ref h10, .ref h11, .ref h12, .ref h13, .int 0, .int 0, .ref h14, .ref h15, .ref h16, .ref h17, .int 0, .ref h18, .ref h19, .int 0, .ref h20, .int 0, .int 0, .ref h21, .ref h22, .int 0, .int 0, .int 0, .int 0, .int 0, .ref h23, .int 0, .ref h24, .ref h25, .int 0, .int 0, .int 0, .ref h26, .ref h27, .ref h28, .ref h29]))] sz)) 0 0 (va_A [(h0, .inr (12, [.int 0, .ref h1, .ref h2, .ref h3, .ref h4, .ref h5, .int 0, .int 0, .ref h6, .int 0, .int 0, .ref h7, .ref h8, .ref h9, .ref h10, .ref h11, .ref h12, .ref h13, .int 0, .int 0, .ref h14, .ref h15, .ref h16, .ref h17, .int 0, .ref h18, .ref h19, .int 0, .ref h20, .int 0, .int 0, .ref h21, .ref h22, .int 0, .int 0, .int 0, .int 0, .int 0, .ref h23, .int 0, .ref h24, .ref h25, .int 0, .int 0, .int 0, .ref h26, .ref h27, .ref h28, .ref h29]))] sz) := by
  refine Met.ofW (cc := cX12_looks) (maxL := 4) (ret := (some .boolean)) (by decide) rfl ?_
  intro p e s m args below meth c s₁ B hml hv
  obtain ⟨rfl, hsz, hP, hK, hD0⟩ := hv
  have hx := B.exec
  have hb := B.bytes
  have hr := B.returns
  have hts := atoms_spec (ws := wsX12_looks) B.pre
  have hown : s.vm.findClass RX12 = some m.cls := findClass_of_methodNamed B.named
  have hlocks := B.notSynchronized
  subst hsz
  have hD := hD0.self (sz := s.heap.size)
  generalize hAe : va_A [(h0, .inr (12, [.int 0, .ref h1, .ref h2, .ref h3, .ref h4, .ref h5, .int 0, .int 0, .ref h6, .int 0, .int 0, .ref h7, .ref h8, .ref h9, .ref h10, .ref h11, .ref h12, .ref h13, .int 0, .int 0, .ref h14, .ref h15, .ref h16, .ref h17, .int 0, .ref h18, .ref h19, .int 0, .ref h20, .int 0, .int 0, .ref h21, .ref h22, .int 0, .int 0, .int 0, .int 0, .int 0, .ref h23, .int 0, .ref h24, .ref h25, .int 0, .int 0, .int 0, .ref h26, .ref h27, .ref h28, .ref h29]))] s.heap.size = A at hD ⊢
  have hA : ∀ q : Nat, s.heap.size ≤ q → A q := fun q h => by rw [← hAe]; exact Or.inr h
  have hS : va_S A s.heap s.heap [] := va_S.rf
  have hP : va_P (dC, dI) vwCl [(h0, .inr (12, [.int 0, .ref h1, .ref h2, .ref h3, .ref h4, .ref h5, .int 0, .int 0, .ref h6, .int 0, .int 0, .ref h7, .ref h8, .ref h9, .ref h10, .ref h11, .ref h12, .ref h13, .int 0, .int 0, .ref h14, .ref h15, .ref h16, .ref h17, .int 0, .ref h18, .ref h19, .int 0, .ref h20, .int 0, .int 0, .ref h21, .ref h22, .int 0, .int 0, .int 0, .int 0, .int 0, .ref h23, .int 0, .ref h24, .ref h25, .int 0, .int 0, .int 0, .ref h26, .ref h27, .ref h28, .ref h29]))] s.heap := hP
  have hl := lv_entry ([.ref h0, .int p0, .int p1]) (n := 4) (Nat.le_of_ble_eq_true rfl)
  rw [lg_entry_eq]
  generalize (lg_sl ([.ref h0, .int p0, .int p1]) ++ List.replicate (4 - (lg_sl ([.ref h0, .int p0, .int p1])).length) Slot.unset).toArray = ls at hl ⊢
  have hl : lv_has ls 4 [(0, .ref h0), (1, .int p0), (2, .int p1)] := hl
  refine lv_aload_n hx hb dX12_looks_0 rfl (lv_at hl 0 rfl) ?_
  refine lv_iload_n hx hb dX12_looks_1 rfl (lv_at hl 1 rfl) ?_
  have hPc := hP.sub (ws' := [(h0, .inr (12, [.int 0, .ref h1, .ref h2, .ref h3, .ref h4, .ref h5, .int 0, .int 0, .ref h6, .int 0, .int 0, .ref h7, .ref h8, .ref h9, .ref h10, .ref h11, .ref h12, .ref h13, .int 0, .int 0, .ref h14, .ref h15, .ref h16, .ref h17, .int 0, .ref h18, .ref h19, .int 0, .ref h20, .int 0, .int 0, .ref h21, .ref h22, .int 0, .int 0, .int 0, .int 0, .int 0, .ref h23, .int 0, .ref h24, .ref h25, .int 0, .int 0, .int 0, .ref h26, .ref h27, .ref h28, .ref h29]))]) [0] rfl
  have hDc := hD.sub (ws' := [(h0, .inr (12, [.int 0, .ref h1, .ref h2, .ref h3, .ref h4, .ref h5, .int 0, .int 0, .ref h6, .int 0, .int 0, .ref h7, .ref h8, .ref h9, .ref h10, .ref h11, .ref h12, .ref h13, .int 0, .int 0, .ref h14, .ref h15, .ref h16, .ref h17, .int 0, .ref h18, .ref h19, .int 0, .ref h20, .int 0, .int 0, .ref h21, .ref h22, .int 0, .int 0, .int 0, .int 0, .int 0, .ref h23, .int 0, .ref h24, .ref h25, .int 0, .int 0, .int 0, .ref h26, .ref h27, .ref h28, .ref h29]))]) [0] (by decide) rfl
  have hKc := hK.sub (tys' := []) [] rfl
  have hFc := va_free (wc := [(h0, .inr (12, [.int 0, .ref h1, .ref h2, .ref h3, .ref h4, .ref h5, .int 0, .int 0, .ref h6, .int 0, .int 0, .ref h7, .ref h8, .ref h9, .ref h10, .ref h11, .ref h12, .ref h13, .int 0, .int 0, .ref h14, .ref h15, .ref h16, .ref h17, .int 0, .ref h18, .ref h19, .int 0, .ref h20, .int 0, .int 0, .ref h21, .ref h22, .int 0, .int 0, .int 0, .int 0, .int 0, .ref h23, .int 0, .ref h24, .ref h25, .int 0, .int 0, .int 0, .ref h26, .ref h27, .ref h28, .ref h29]))]) hD hS hA [0] rfl
  refine va_calli (va_runV (As := [.int p0]) (rest := []) ⟨hx, hb, hml, hown, hts⟩ (k_X12_isStreet_0 l dC dI h0 h1 h2 h3 h4 h5 h6 h7 h8 h9 h10 h11 h12 h13 h14 h15 h16 h17 h18 h19 h20 h21 h22 h23 h24 h25 h26 h27 h28 h29 s.heap.size p0) (cwV 1 hts gX12_looks_X12_isStreet rfl rfl rfl (by decide +kernel) ⟨Nat.le_of_ble_eq_true rfl, Nat.le_of_ble_eq_true rfl⟩) ⟨fun a U g mk q => by obtain ⟨q0, q1, qP, qK, qD⟩ := q; exact ⟨q0, q1, qP, va_K.moved (u := U) (U := U.calling g mk a) (Vm.Alike.refl U.vm) qK, qD⟩, va_recv hKc hPc (ci := 12) (q0 := 0) rfl rfl, fun U hU hW => ⟨rfl, by rw [hU], by rw [hU]; exact hPc, va_K.moved hW.alike hKc, hDc.weaken (fun _ _ _ _ => trivial)⟩⟩ rfl rfl hl.1 rfl (lv_room (Nat.le_of_ble_eq_true rfl)) dX12_looks_2 ⟨Nat.le_of_ble_eq_true rfl, Nat.le_of_ble_eq_true rfl⟩) hS (fun q _ h => hFc q h) hFc (fun r_1 u t H1 locs ht hvm hw hB hz1 hk1 hS => ?_)
  obtain ⟨hP1, hK1, hD1⟩ := hB
  rw [ht] at hP1
  have hK1 := va_K.moved hvm.symm hK1
  obtain ⟨hP, hD⟩ := va_join (wr := []) (w1 := [(h0, .inr (12, [.int 0, .ref h1, .ref h2, .ref h3, .ref h4, .ref h5, .int 0, .int 0, .ref h6, .int 0, .int 0, .ref h7, .ref h8, .ref h9, .ref h10, .ref h11, .ref h12, .ref h13, .int 0, .int 0, .ref h14, .ref h15, .ref h16, .ref h17, .int 0, .ref h18, .ref h19, .int 0, .ref h20, .int 0, .int 0, .ref h21, .ref h22, .int 0, .int 0, .int 0, .int 0, .int 0, .ref h23, .int 0, .ref h24, .ref h25, .int 0, .int 0, .int 0, .ref h26, .ref h27, .ref h28, .ref h29]))]) hP hD [0] [] rfl rfl (by decide) (by decide) hk1 hFc hP1 hD1
  generalize H1 = H at hP hS ⊢
  have hP : va_P (dC, dI) vwCl [(h0, .inr (12, [.int 0, .ref h1, .ref h2, .ref h3, .ref h4, .ref h5, .int 0, .int 0, .ref h6, .int 0, .int 0, .ref h7, .ref h8, .ref h9, .ref h10, .ref h11, .ref h12, .ref h13, .int 0, .int 0, .ref h14, .ref h15, .ref h16, .ref h17, .int 0, .ref h18, .ref h19, .int 0, .ref h20, .int 0, .int 0, .ref h21, .ref h22, .int 0, .int 0, .int 0, .int 0, .int 0, .ref h23, .int 0, .ref h24, .ref h25, .int 0, .int 0, .int 0, .ref h26, .ref h27, .ref h28, .ref h29]))] H := hP
  have hD : va_D A [(h0, .inr (12, [.int 0, .ref h1, .ref h2, .ref h3, .ref h4, .ref h5, .int 0, .int 0, .ref h6, .int 0, .int 0, .ref h7, .ref h8, .ref h9, .ref h10, .ref h11, .ref h12, .ref h13, .int 0, .int 0, .ref h14, .ref h15, .ref h16, .ref h17, .int 0, .ref h18, .ref h19, .int 0, .ref h20, .int 0, .int 0, .ref h21, .ref h22, .int 0, .int 0, .int 0, .int 0, .int 0, .ref h23, .int 0, .ref h24, .ref h25, .int 0, .int 0, .int 0, .ref h26, .ref h27, .ref h28, .ref h29]))] := hD
  obtain rfl := hw
  refine lv_if_eq (tgt := 36) hx hb dX12_looks_5 (by decide) (fun _ => ?_) (fun c => absurd c (by decide))
  refine lv_iconst (v := 0) hx hb dX12_looks_36 (by decide) ?_
  have hP9 := hP.sub (ws' := [(h0, .inr (12, [.int 0, .ref h1, .ref h2, .ref h3, .ref h4, .ref h5, .int 0, .int 0, .ref h6, .int 0, .int 0, .ref h7, .ref h8, .ref h9, .ref h10, .ref h11, .ref h12, .ref h13, .int 0, .int 0, .ref h14, .ref h15, .ref h16, .ref h17, .int 0, .ref h18, .ref h19, .int 0, .ref h20, .int 0, .int 0, .ref h21, .ref h22, .int 0, .int 0, .int 0, .int 0, .int 0, .ref h23, .int 0, .ref h24, .ref h25, .int 0, .int 0, .int 0, .ref h26, .ref h27, .ref h28, .ref h29]))]) [0] rfl
  have hD9 := hD.sub (ws' := [(h0, .inr (12, [.int 0, .ref h1, .ref h2, .ref h3, .ref h4, .ref h5, .int 0, .int 0, .ref h6, .int 0, .int 0, .ref h7, .ref h8, .ref h9, .ref h10, .ref h11, .ref h12, .ref h13, .int 0, .int 0, .ref h14, .ref h15, .ref h16, .ref h17, .int 0, .ref h18, .ref h19, .int 0, .ref h20, .int 0, .int 0, .ref h21, .ref h22, .int 0, .int 0, .int 0, .int 0, .int 0, .ref h23, .int 0, .ref h24, .ref h25, .int 0, .int 0, .int 0, .ref h26, .ref h27, .ref h28, .ref h29]))]) [0] (by decide) rfl
  have hK9 := hK.sub (tys' := []) [] rfl
  exact W.zret (v := 0) hx hb hr rfl (fun t ht hW => ⟨⟨0, (), rfl, rfl, by rw [ht]; exact hP9, va_K.moved hW.alike hK9, hD9⟩, hS.F ht⟩) hS.2.2 dX12_looks_37
set_option maxHeartbeats 4000000 in
set_option maxRecDepth 100000 in
theorem k_X12_misfit_0 (l : Launch) (dC : Nat → ClassId) (dI : Nat → Nat → Nat) (h0 h1 h2 h3 h4 h5 h6 h7 h8 h9 h10 h11 h12 h13 h14 h15 h16 h17 h18 h19 h20 h21 h22 h23 h24 h25 h26 h27 h28 h29 : Nat) (sz : Nat) (p0 : Int32) (p1 : Int32) (p2 : Int32) : Met l yX12_misfit wsX12_misfit ({ frames := 3, cells := 0, slots := 0, locals := 69 }) (va_Pc [.ref h0, .int p0, .int p1, .int p2] (fun U => U.heap.size = sz ∧ va_P (dC, dI) vwCl [(h0, .inr (12, [.int 0, .ref h1, .ref h2, .ref h3, .ref h4, .ref h5, .int 0, .int 0, .ref h6, .int 0, .int 0, .ref h7, .ref h8, .ref h9, .ref h10, .ref h11, .ref h12, .ref h13, .int 0, .int 0, .ref h14, .ref h15, .ref h16, .ref h17, .int 0, .ref h18, .ref h19, .int 0, .ref h20, .int 0, .int 0, .ref h21, .ref h22, .int 0, .int 0, .int 0, .int 0, .int 0, .ref h23, .int 0, .ref h24, .ref h25, .int 0, .int 0, .int 0, .ref h26, .ref h27, .ref h28, .ref h29]))] U.heap ∧ va_K (dC, dI) vwCl [] U ∧ va_D (fun _ => True) [(h0, .inr (12, [.int 0, .ref h1, .ref h2, .ref h3, .ref h4, .ref h5, .int 0, .int 0, .ref h6, .int 0, .int 0, .ref h7, .ref h8, .ref h9, .ref h10, .ref h11, .ref h12, .ref h13, .int 0, .int 0, .ref h14, .ref h15, .ref h16, .ref h17, .int 0, .ref h18, .ref h19, .int 0, .ref h20, .int 0, .int 0, .ref h21, .ref h22, .int 0, .int 0, .int 0, .int 0, .int 0, .ref h23, .int 0, .ref h24, .ref h25, .int 0, .int 0, .int 0, .ref h26, .ref h27, .ref h28, .ref h29]))])) (va_Qi (fun (r : Int32) (_ : Unit) => r = -1) (fun (_ : Unit) t => va_P (dC, dI) vwCl [] t.heap ∧ va_K (dC, dI) vwCl [] t ∧ va_D (va_A [(h0, .inr (12, [.int 0, .ref h1, .ref h2, .ref h3, .ref h4, .ref h5, .int 0, .int 0, .ref h6, .int 0, .int 0, .ref h7, .ref h8, .ref h9, .ref h10, .ref h11, .ref h12, .ref h13, .int 0, .int 0, .ref h14, .ref h15, .ref h16, .ref h17, .int 0, .ref h18, .ref h19, .int 0, .ref h20, .int 0, .int 0, .ref h21, .ref h22, .int 0, .int 0, .int 0, .int 0, .int 0, .ref h23, .int 0, .ref h24, .ref h25, .int 0, .int 0, .int 0, .ref h26, .ref h27, .ref h28, .ref h29]))] sz) []) (va_A [(h0, .inr (12, [.int 0, .ref h1, .ref h2, .ref h3, .ref h4, .ref h5, .int 0, .int 0, .ref h6, .int 0, .int 0, .ref h7, .ref h8, .ref h9, .ref h10, .ref h11, .ref h12, .ref h13, .int 0, .int 0, .ref h14, .ref h15, .ref h16, .ref h17, .int 0, .ref h18, .ref h19, .int 0, .ref h20, .int 0, .int 0, .ref h21, .ref h22, .int 0, .int 0, .int 0, .int 0, .int 0, .ref h23, .int 0, .ref h24, .ref h25, .int 0, .int 0, .int 0, .ref h26, .ref h27, .ref h28, .ref h29]))] sz)) 0 0 (va_A [(h0, .inr (12, [.int 0, .ref h1, .ref h2, .ref h3, .ref h4, .ref h5, .int 0, .int 0, .ref h6, .int 0, .int 0, .ref h7, .ref h8, .ref h9, .ref h10, .ref h11, .ref h12, .ref h13, .int 0, .int 0, .ref h14, .ref h15, .ref h16, .ref h17, .int 0, .ref h18, .ref h19, .int 0, .ref h20, .int 0, .int 0, .ref h21, .ref h22, .int 0, .int 0, .int 0, .int 0, .int 0, .ref h23, .int 0, .ref h24, .ref h25, .int 0, .int 0, .int 0, .ref h26, .ref h27, .ref h28, .ref h29]))] sz) := by
  refine Met.ofW (cc := cX12_misfit) (maxL := 4) (ret := (some .int)) (by decide) rfl ?_
  intro p e s m args below meth c s₁ B hml hv
  obtain ⟨rfl, hsz, hP, hK, hD0⟩ := hv
  have hx := B.exec
  have hb := B.bytes
  have hr := B.returns
  have hts := atoms_spec (ws := wsX12_misfit) B.pre
  have hown : s.vm.findClass RX12 = some m.cls := findClass_of_methodNamed B.named
  have hlocks := B.notSynchronized
  subst hsz
  have hD := hD0.self (sz := s.heap.size)
  generalize hAe : va_A [(h0, .inr (12, [.int 0, .ref h1, .ref h2, .ref h3, .ref h4, .ref h5, .int 0, .int 0, .ref h6, .int 0, .int 0, .ref h7, .ref h8, .ref h9, .ref h10, .ref h11, .ref h12, .ref h13, .int 0, .int 0, .ref h14, .ref h15, .ref h16, .ref h17, .int 0, .ref h18, .ref h19, .int 0, .ref h20, .int 0, .int 0, .ref h21, .ref h22, .int 0, .int 0, .int 0, .int 0, .int 0, .ref h23, .int 0, .ref h24, .ref h25, .int 0, .int 0, .int 0, .ref h26, .ref h27, .ref h28, .ref h29]))] s.heap.size = A at hD ⊢
  have hA : ∀ q : Nat, s.heap.size ≤ q → A q := fun q h => by rw [← hAe]; exact Or.inr h
  have hS : va_S A s.heap s.heap [] := va_S.rf
  have hP : va_P (dC, dI) vwCl [(h0, .inr (12, [.int 0, .ref h1, .ref h2, .ref h3, .ref h4, .ref h5, .int 0, .int 0, .ref h6, .int 0, .int 0, .ref h7, .ref h8, .ref h9, .ref h10, .ref h11, .ref h12, .ref h13, .int 0, .int 0, .ref h14, .ref h15, .ref h16, .ref h17, .int 0, .ref h18, .ref h19, .int 0, .ref h20, .int 0, .int 0, .ref h21, .ref h22, .int 0, .int 0, .int 0, .int 0, .int 0, .ref h23, .int 0, .ref h24, .ref h25, .int 0, .int 0, .int 0, .ref h26, .ref h27, .ref h28, .ref h29]))] s.heap := hP
  have hl := lv_entry ([.ref h0, .int p0, .int p1, .int p2]) (n := 4) (Nat.le_of_ble_eq_true rfl)
  rw [lg_entry_eq]
  generalize (lg_sl ([.ref h0, .int p0, .int p1, .int p2]) ++ List.replicate (4 - (lg_sl ([.ref h0, .int p0, .int p1, .int p2])).length) Slot.unset).toArray = ls at hl ⊢
  have hl : lv_has ls 4 [(0, .ref h0), (1, .int p0), (2, .int p1), (3, .int p2)] := hl
  refine lv_aload_n hx hb dX12_misfit_0 rfl (lv_at hl 0 rfl) ?_
  refine lv_iload_n hx hb dX12_misfit_1 rfl (lv_at hl 1 rfl) ?_
  refine lv_iload_n hx hb dX12_misfit_2 rfl (lv_at hl 2 rfl) ?_
  have hPc := hP.sub (ws' := [(h0, .inr (12, [.int 0, .ref h1, .ref h2, .ref h3, .ref h4, .ref h5, .int 0, .int 0, .ref h6, .int 0, .int 0, .ref h7, .ref h8, .ref h9, .ref h10, .ref h11, .ref h12, .ref h13, .int 0, .int 0, .ref h14, .ref h15, .ref h16, .ref h17, .int 0, .ref h18, .ref h19, .int 0, .ref h20, .int 0, .int 0, .ref h21, .ref h22, .int 0, .int 0, .int 0, .int 0, .int 0, .ref h23, .int 0, .ref h24, .ref h25, .int 0, .int 0, .int 0, .ref h26, .ref h27, .ref h28, .ref h29]))]) [0] rfl
  have hDc := hD.sub (ws' := [(h0, .inr (12, [.int 0, .ref h1, .ref h2, .ref h3, .ref h4, .ref h5, .int 0, .int 0, .ref h6, .int 0, .int 0, .ref h7, .ref h8, .ref h9, .ref h10, .ref h11, .ref h12, .ref h13, .int 0, .int 0, .ref h14, .ref h15, .ref h16, .ref h17, .int 0, .ref h18, .ref h19, .int 0, .ref h20, .int 0, .int 0, .ref h21, .ref h22, .int 0, .int 0, .int 0, .int 0, .int 0, .ref h23, .int 0, .ref h24, .ref h25, .int 0, .int 0, .int 0, .ref h26, .ref h27, .ref h28, .ref h29]))]) [0] (by decide) rfl
  have hKc := hK.sub (tys' := []) [] rfl
  have hFc := va_free (wc := [(h0, .inr (12, [.int 0, .ref h1, .ref h2, .ref h3, .ref h4, .ref h5, .int 0, .int 0, .ref h6, .int 0, .int 0, .ref h7, .ref h8, .ref h9, .ref h10, .ref h11, .ref h12, .ref h13, .int 0, .int 0, .ref h14, .ref h15, .ref h16, .ref h17, .int 0, .ref h18, .ref h19, .int 0, .ref h20, .int 0, .int 0, .ref h21, .ref h22, .int 0, .int 0, .int 0, .int 0, .int 0, .ref h23, .int 0, .ref h24, .ref h25, .int 0, .int 0, .int 0, .ref h26, .ref h27, .ref h28, .ref h29]))]) hD hS hA [0] rfl
  refine va_calli (va_runV (As := [.int p0, .int p1]) (rest := []) ⟨hx, hb, hml, hown, hts⟩ (k_X12_looks_0 l dC dI h0 h1 h2 h3 h4 h5 h6 h7 h8 h9 h10 h11 h12 h13 h14 h15 h16 h17 h18 h19 h20 h21 h22 h23 h24 h25 h26 h27 h28 h29 s.heap.size p0 p1) (cwV 2 hts gX12_misfit_X12_looks rfl rfl rfl (by decide +kernel) ⟨Nat.le_of_ble_eq_true rfl, Nat.le_of_ble_eq_true rfl⟩) ⟨fun a U g mk q => by obtain ⟨q0, q1, qP, qK, qD⟩ := q; exact ⟨q0, q1, qP, va_K.moved (u := U) (U := U.calling g mk a) (Vm.Alike.refl U.vm) qK, qD⟩, va_recv hKc hPc (ci := 12) (q0 := 0) rfl rfl, fun U hU hW => ⟨rfl, by rw [hU], by rw [hU]; exact hPc, va_K.moved hW.alike hKc, hDc.weaken (fun _ _ _ _ => trivial)⟩⟩ rfl rfl hl.1 rfl (lv_room (Nat.le_of_ble_eq_true rfl)) dX12_misfit_3 ⟨Nat.le_of_ble_eq_true rfl, Nat.le_of_ble_eq_true rfl⟩) hS (fun q _ h => hFc q h) hFc (fun r_1 u t H1 locs ht hvm hw hB hz1 hk1 hS => ?_)
  obtain ⟨hP1, hK1, hD1⟩ := hB
  rw [ht] at hP1
  have hK1 := va_K.moved hvm.symm hK1
  obtain ⟨hP, hD⟩ := va_join (wr := []) (w1 := [(h0, .inr (12, [.int 0, .ref h1, .ref h2, .ref h3, .ref h4, .ref h5, .int 0, .int 0, .ref h6, .int 0, .int 0, .ref h7, .ref h8, .ref h9, .ref h10, .ref h11, .ref h12, .ref h13, .int 0, .int 0, .ref h14, .ref h15, .ref h16, .ref h17, .int 0, .ref h18, .ref h19, .int 0, .ref h20, .int 0, .int 0, .ref h21, .ref h22, .int 0, .int 0, .int 0, .int 0, .int 0, .ref h23, .int 0, .ref h24, .ref h25, .int 0, .int 0, .int 0, .ref h26, .ref h27, .ref h28, .ref h29]))]) hP hD [0] [] rfl rfl (by decide) (by decide) hk1 hFc hP1 hD1
  generalize H1 = H at hP hS ⊢
  have hP : va_P (dC, dI) vwCl [(h0, .inr (12, [.int 0, .ref h1, .ref h2, .ref h3, .ref h4, .ref h5, .int 0, .int 0, .ref h6, .int 0, .int 0, .ref h7, .ref h8, .ref h9, .ref h10, .ref h11, .ref h12, .ref h13, .int 0, .int 0, .ref h14, .ref h15, .ref h16, .ref h17, .int 0, .ref h18, .ref h19, .int 0, .ref h20, .int 0, .int 0, .ref h21, .ref h22, .int 0, .int 0, .int 0, .int 0, .int 0, .ref h23, .int 0, .ref h24, .ref h25, .int 0, .int 0, .int 0, .ref h26, .ref h27, .ref h28, .ref h29]))] H := hP
  have hD : va_D A [(h0, .inr (12, [.int 0, .ref h1, .ref h2, .ref h3, .ref h4, .ref h5, .int 0, .int 0, .ref h6, .int 0, .int 0, .ref h7, .ref h8, .ref h9, .ref h10, .ref h11, .ref h12, .ref h13, .int 0, .int 0, .ref h14, .ref h15, .ref h16, .ref h17, .int 0, .ref h18, .ref h19, .int 0, .ref h20, .int 0, .int 0, .ref h21, .ref h22, .int 0, .int 0, .int 0, .int 0, .int 0, .ref h23, .int 0, .ref h24, .ref h25, .int 0, .int 0, .int 0, .ref h26, .ref h27, .ref h28, .ref h29]))] := hD
  obtain rfl := hw
  refine lv_if_eq (tgt := 38) hx hb dX12_misfit_6 (by decide) (fun _ => ?_) (fun c => absurd c (by decide))
  refine lv_iconst (v := (-1)) hx hb dX12_misfit_38 (by decide) ?_
  have hP9 := hP.sub (ws' := []) [] rfl
  have hD9 := hD.sub (ws' := []) [] (by decide) rfl
  have hK9 := hK.sub (tys' := []) [] rfl
  exact W.iret (v := (-1)) hx hb hr (fun t ht hW => ⟨⟨(-1), (), rfl, by first | rfl | ((repeat' split) <;> first | rfl | (exfalso; omega) | (exact Int32.toInt_inj.mp (by show ((-1) : Int) = _; omega))), by rw [ht]; exact hP9, va_K.moved hW.alike hK9, hD9⟩, hS.F ht⟩) hS.2.2 dX12_misfit_39
set_option maxHeartbeats 4000000 in
set_option maxRecDepth 100000 in
theorem k_X12_rod_0 (l : Launch) (dC : Nat → ClassId) (dI : Nat → Nat → Nat) (h0 h1 h2 h3 h4 h5 h6 h7 h8 h9 h10 h11 h12 h13 h14 h15 h16 h17 h18 h19 h20 h21 h22 h23 h24 h25 h26 h27 h28 h29 : Nat) (sz : Nat) (p0 : Int32) (p1 : Int32) (p2 : Int32) (p3 : Int32) : Met l yX12_rod wsX12_rod ({ frames := 3, cells := 0, slots := 0, locals := 69 }) (va_Pc [.ref h0, .int p0, .int p1, .int p2, .int p3] (fun U => U.heap.size = sz ∧ va_P (dC, dI) vwCl [(h0, .inr (12, [.int 0, .ref h1, .ref h2, .ref h3, .ref h4, .ref h5, .int 0, .int 0, .ref h6, .int 0, .int 0, .ref h7, .ref h8, .ref h9, .ref h10, .ref h11, .ref h12, .ref h13, .int 0, .int 0, .ref h14, .ref h15, .ref h16, .ref h17, .int 0, .ref h18, .ref h19, .int 0, .ref h20, .int 0, .int 0, .ref h21, .ref h22, .int 0, .int 0, .int 0, .int 0, .int 0, .ref h23, .int 0, .ref h24, .ref h25, .int 0, .int 0, .int 0, .ref h26, .ref h27, .ref h28, .ref h29]))] U.heap ∧ va_K (dC, dI) vwCl [] U ∧ va_D (fun _ => True) [(h0, .inr (12, [.int 0, .ref h1, .ref h2, .ref h3, .ref h4, .ref h5, .int 0, .int 0, .ref h6, .int 0, .int 0, .ref h7, .ref h8, .ref h9, .ref h10, .ref h11, .ref h12, .ref h13, .int 0, .int 0, .ref h14, .ref h15, .ref h16, .ref h17, .int 0, .ref h18, .ref h19, .int 0, .ref h20, .int 0, .int 0, .ref h21, .ref h22, .int 0, .int 0, .int 0, .int 0, .int 0, .ref h23, .int 0, .ref h24, .ref h25, .int 0, .int 0, .int 0, .ref h26, .ref h27, .ref h28, .ref h29]))])) (va_Qi (fun (r : Int32) (_ : Unit) => r = -1) (fun (_ : Unit) t => va_P (dC, dI) vwCl [] t.heap ∧ va_K (dC, dI) vwCl [] t ∧ va_D (va_A [(h0, .inr (12, [.int 0, .ref h1, .ref h2, .ref h3, .ref h4, .ref h5, .int 0, .int 0, .ref h6, .int 0, .int 0, .ref h7, .ref h8, .ref h9, .ref h10, .ref h11, .ref h12, .ref h13, .int 0, .int 0, .ref h14, .ref h15, .ref h16, .ref h17, .int 0, .ref h18, .ref h19, .int 0, .ref h20, .int 0, .int 0, .ref h21, .ref h22, .int 0, .int 0, .int 0, .int 0, .int 0, .ref h23, .int 0, .ref h24, .ref h25, .int 0, .int 0, .int 0, .ref h26, .ref h27, .ref h28, .ref h29]))] sz) []) (va_A [(h0, .inr (12, [.int 0, .ref h1, .ref h2, .ref h3, .ref h4, .ref h5, .int 0, .int 0, .ref h6, .int 0, .int 0, .ref h7, .ref h8, .ref h9, .ref h10, .ref h11, .ref h12, .ref h13, .int 0, .int 0, .ref h14, .ref h15, .ref h16, .ref h17, .int 0, .ref h18, .ref h19, .int 0, .ref h20, .int 0, .int 0, .ref h21, .ref h22, .int 0, .int 0, .int 0, .int 0, .int 0, .ref h23, .int 0, .ref h24, .ref h25, .int 0, .int 0, .int 0, .ref h26, .ref h27, .ref h28, .ref h29]))] sz)) 0 0 (va_A [(h0, .inr (12, [.int 0, .ref h1, .ref h2, .ref h3, .ref h4, .ref h5, .int 0, .int 0, .ref h6, .int 0, .int 0, .ref h7, .ref h8, .ref h9, .ref h10, .ref h11, .ref h12, .ref h13, .int 0, .int 0, .ref h14, .ref h15, .ref h16, .ref h17, .int 0, .ref h18, .ref h19, .int 0, .ref h20, .int 0, .int 0, .ref h21, .ref h22, .int 0, .int 0, .int 0, .int 0, .int 0, .ref h23, .int 0, .ref h24, .ref h25, .int 0, .int 0, .int 0, .ref h26, .ref h27, .ref h28, .ref h29]))] sz) := by
  refine Met.ofW (cc := cX12_rod) (maxL := 6) (ret := (some .int)) (by decide) rfl ?_
  intro p e s m args below meth c s₁ B hml hv
  obtain ⟨rfl, hsz, hP, hK, hD0⟩ := hv
  have hx := B.exec
  have hb := B.bytes
  have hr := B.returns
  have hts := atoms_spec (ws := wsX12_rod) B.pre
  have hown : s.vm.findClass RX12 = some m.cls := findClass_of_methodNamed B.named
  have hlocks := B.notSynchronized
  subst hsz
  have hD := hD0.self (sz := s.heap.size)
  generalize hAe : va_A [(h0, .inr (12, [.int 0, .ref h1, .ref h2, .ref h3, .ref h4, .ref h5, .int 0, .int 0, .ref h6, .int 0, .int 0, .ref h7, .ref h8, .ref h9, .ref h10, .ref h11, .ref h12, .ref h13, .int 0, .int 0, .ref h14, .ref h15, .ref h16, .ref h17, .int 0, .ref h18, .ref h19, .int 0, .ref h20, .int 0, .int 0, .ref h21, .ref h22, .int 0, .int 0, .int 0, .int 0, .int 0, .ref h23, .int 0, .ref h24, .ref h25, .int 0, .int 0, .int 0, .ref h26, .ref h27, .ref h28, .ref h29]))] s.heap.size = A at hD ⊢
  have hA : ∀ q : Nat, s.heap.size ≤ q → A q := fun q h => by rw [← hAe]; exact Or.inr h
  have hS : va_S A s.heap s.heap [] := va_S.rf
  have hP : va_P (dC, dI) vwCl [(h0, .inr (12, [.int 0, .ref h1, .ref h2, .ref h3, .ref h4, .ref h5, .int 0, .int 0, .ref h6, .int 0, .int 0, .ref h7, .ref h8, .ref h9, .ref h10, .ref h11, .ref h12, .ref h13, .int 0, .int 0, .ref h14, .ref h15, .ref h16, .ref h17, .int 0, .ref h18, .ref h19, .int 0, .ref h20, .int 0, .int 0, .ref h21, .ref h22, .int 0, .int 0, .int 0, .int 0, .int 0, .ref h23, .int 0, .ref h24, .ref h25, .int 0, .int 0, .int 0, .ref h26, .ref h27, .ref h28, .ref h29]))] s.heap := hP
  have hl := lv_entry ([.ref h0, .int p0, .int p1, .int p2, .int p3]) (n := 6) (Nat.le_of_ble_eq_true rfl)
  rw [lg_entry_eq]
  generalize (lg_sl ([.ref h0, .int p0, .int p1, .int p2, .int p3]) ++ List.replicate (6 - (lg_sl ([.ref h0, .int p0, .int p1, .int p2, .int p3])).length) Slot.unset).toArray = ls at hl ⊢
  have hl : lv_has ls 6 [(0, .ref h0), (1, .int p0), (2, .int p1), (3, .int p2), (4, .int p3)] := hl
  refine lv_aload_n hx hb dX12_rod_0 rfl (lv_at hl 0 rfl) ?_
  refine lv_iload_n hx hb dX12_rod_1 rfl (lv_at hl 1 rfl) ?_
  refine lv_iload_n hx hb dX12_rod_2 rfl (lv_at hl 2 rfl) ?_
  have hPc := hP.sub (ws' := [(h0, .inr (12, [.int 0, .ref h1, .ref h2, .ref h3, .ref h4, .ref h5, .int 0, .int 0, .ref h6, .int 0, .int 0, .ref h7, .ref h8, .ref h9, .ref h10, .ref h11, .ref h12, .ref h13, .int 0, .int 0, .ref h14, .ref h15, .ref h16, .ref h17, .int 0, .ref h18, .ref h19, .int 0, .ref h20, .int 0, .int 0, .ref h21, .ref h22, .int 0, .int 0, .int 0, .int 0, .int 0, .ref h23, .int 0, .ref h24, .ref h25, .int 0, .int 0, .int 0, .ref h26, .ref h27, .ref h28, .ref h29]))]) [0] rfl
  have hDc := hD.sub (ws' := [(h0, .inr (12, [.int 0, .ref h1, .ref h2, .ref h3, .ref h4, .ref h5, .int 0, .int 0, .ref h6, .int 0, .int 0, .ref h7, .ref h8, .ref h9, .ref h10, .ref h11, .ref h12, .ref h13, .int 0, .int 0, .ref h14, .ref h15, .ref h16, .ref h17, .int 0, .ref h18, .ref h19, .int 0, .ref h20, .int 0, .int 0, .ref h21, .ref h22, .int 0, .int 0, .int 0, .int 0, .int 0, .ref h23, .int 0, .ref h24, .ref h25, .int 0, .int 0, .int 0, .ref h26, .ref h27, .ref h28, .ref h29]))]) [0] (by decide) rfl
  have hKc := hK.sub (tys' := []) [] rfl
  have hFc := va_free (wc := [(h0, .inr (12, [.int 0, .ref h1, .ref h2, .ref h3, .ref h4, .ref h5, .int 0, .int 0, .ref h6, .int 0, .int 0, .ref h7, .ref h8, .ref h9, .ref h10, .ref h11, .ref h12, .ref h13, .int 0, .int 0, .ref h14, .ref h15, .ref h16, .ref h17, .int 0, .ref h18, .ref h19, .int 0, .ref h20, .int 0, .int 0, .ref h21, .ref h22, .int 0, .int 0, .int 0, .int 0, .int 0, .ref h23, .int 0, .ref h24, .ref h25, .int 0, .int 0, .int 0, .ref h26, .ref h27, .ref h28, .ref h29]))]) hD hS hA [0] rfl
  refine va_calli (va_runV (As := [.int p0, .int p1]) (rest := []) ⟨hx, hb, hml, hown, hts⟩ (k_X12_looks_0 l dC dI h0 h1 h2 h3 h4 h5 h6 h7 h8 h9 h10 h11 h12 h13 h14 h15 h16 h17 h18 h19 h20 h21 h22 h23 h24 h25 h26 h27 h28 h29 s.heap.size p0 p1) (cwV 2 hts gX12_rod_X12_looks rfl rfl rfl (by decide +kernel) ⟨Nat.le_of_ble_eq_true rfl, Nat.le_of_ble_eq_true rfl⟩) ⟨fun a U g mk q => by obtain ⟨q0, q1, qP, qK, qD⟩ := q; exact ⟨q0, q1, qP, va_K.moved (u := U) (U := U.calling g mk a) (Vm.Alike.refl U.vm) qK, qD⟩, va_recv hKc hPc (ci := 12) (q0 := 0) rfl rfl, fun U hU hW => ⟨rfl, by rw [hU], by rw [hU]; exact hPc, va_K.moved hW.alike hKc, hDc.weaken (fun _ _ _ _ => trivial)⟩⟩ rfl rfl hl.1 rfl (lv_room (Nat.le_of_ble_eq_true rfl)) dX12_rod_3 ⟨Nat.le_of_ble_eq_true rfl, Nat.le_of_ble_eq_true rfl⟩) hS (fun q _ h => hFc q h) hFc (fun r_1 u t H1 locs ht hvm hw hB hz1 hk1 hS => ?_)
  obtain ⟨hP1, hK1, hD1⟩ := hB
  rw [ht] at hP1
  have hK1 := va_K.moved hvm.symm hK1
  obtain ⟨hP, hD⟩ := va_join (wr := []) (w1 := [(h0, .inr (12, [.int 0, .ref h1, .ref h2, .ref h3, .ref h4, .ref h5, .int 0, .int 0, .ref h6, .int 0, .int 0, .ref h7, .ref h8, .ref h9, .ref h10, .ref h11, .ref h12, .ref h13, .int 0, .int 0, .ref h14, .ref h15, .ref h16, .ref h17, .int 0, .ref h18, .ref h19, .int 0, .ref h20, .int 0, .int 0, .ref h21, .ref h22, .int 0, .int 0, .int 0, .int 0, .int 0, .ref h23, .int 0, .ref h24, .ref h25, .int 0, .int 0, .int 0, .ref h26, .ref h27, .ref h28, .ref h29]))]) hP hD [0] [] rfl rfl (by decide) (by decide) hk1 hFc hP1 hD1
  generalize H1 = H at hP hS ⊢
  have hP : va_P (dC, dI) vwCl [(h0, .inr (12, [.int 0, .ref h1, .ref h2, .ref h3, .ref h4, .ref h5, .int 0, .int 0, .ref h6, .int 0, .int 0, .ref h7, .ref h8, .ref h9, .ref h10, .ref h11, .ref h12, .ref h13, .int 0, .int 0, .ref h14, .ref h15, .ref h16, .ref h17, .int 0, .ref h18, .ref h19, .int 0, .ref h20, .int 0, .int 0, .ref h21, .ref h22, .int 0, .int 0, .int 0, .int 0, .int 0, .ref h23, .int 0, .ref h24, .ref h25, .int 0, .int 0, .int 0, .ref h26, .ref h27, .ref h28, .ref h29]))] H := hP
  have hD : va_D A [(h0, .inr (12, [.int 0, .ref h1, .ref h2, .ref h3, .ref h4, .ref h5, .int 0, .int 0, .ref h6, .int 0, .int 0, .ref h7, .ref h8, .ref h9, .ref h10, .ref h11, .ref h12, .ref h13, .int 0, .int 0, .ref h14, .ref h15, .ref h16, .ref h17, .int 0, .ref h18, .ref h19, .int 0, .ref h20, .int 0, .int 0, .ref h21, .ref h22, .int 0, .int 0, .int 0, .int 0, .int 0, .ref h23, .int 0, .ref h24, .ref h25, .int 0, .int 0, .int 0, .ref h26, .ref h27, .ref h28, .ref h29]))] := hD
  obtain rfl := hw
  refine lv_if_eq (tgt := 32) hx hb dX12_rod_6 (by decide) (fun _ => ?_) (fun c => absurd c (by decide))
  refine lv_iconst (v := (-1)) hx hb dX12_rod_32 (by decide) ?_
  have hP9 := hP.sub (ws' := []) [] rfl
  have hD9 := hD.sub (ws' := []) [] (by decide) rfl
  have hK9 := hK.sub (tys' := []) [] rfl
  exact W.iret (v := (-1)) hx hb hr (fun t ht hW => ⟨⟨(-1), (), rfl, by first | rfl | ((repeat' split) <;> first | rfl | (exfalso; omega) | (exact Int32.toInt_inj.mp (by show ((-1) : Int) = _; omega))), by rw [ht]; exact hP9, va_K.moved hW.alike hK9, hD9⟩, hS.F ht⟩) hS.2.2 dX12_rod_33
set_option maxHeartbeats 4000000 in
set_option maxRecDepth 100000 in
theorem k_X12_chance_0 (l : Launch) (dC : Nat → ClassId) (dI : Nat → Nat → Nat) (h0 h1 h2 h3 h4 h5 h6 h7 h8 h9 h10 h11 h12 h13 h14 h15 h16 h17 h18 h19 h20 h21 h22 h23 h24 h25 h26 h27 h28 h29 : Nat) (sz : Nat) (p0 : Int32) (p1 : Int32) (p2 : Int32) (p3 : Int32) : Met l yX12_chance wsX12_chance ({ frames := 3, cells := 0, slots := 0, locals := 69 }) (va_Pc [.ref h0, .int p0, .int p1, .int p2, .int p3] (fun U => U.heap.size = sz ∧ va_P (dC, dI) vwCl [(h0, .inr (12, [.int 0, .ref h1, .ref h2, .ref h3, .ref h4, .ref h5, .int 0, .int 0, .ref h6, .int 0, .int 0, .ref h7, .ref h8, .ref h9, .ref h10, .ref h11, .ref h12, .ref h13, .int 0, .int 0, .ref h14, .ref h15, .ref h16, .ref h17, .int 0, .ref h18, .ref h19, .int 0, .ref h20, .int 0, .int 0, .ref h21, .ref h22, .int 0, .int 0, .int 0, .int 0, .int 0, .ref h23, .int 0, .ref h24, .ref h25, .int 0, .int 0, .int 0, .ref h26, .ref h27, .ref h28, .ref h29]))] U.heap ∧ va_K (dC, dI) vwCl [] U ∧ va_D (fun _ => True) [(h0, .inr (12, [.int 0, .ref h1, .ref h2, .ref h3, .ref h4, .ref h5, .int 0, .int 0, .ref h6, .int 0, .int 0, .ref h7, .ref h8, .ref h9, .ref h10, .ref h11, .ref h12, .ref h13, .int 0, .int 0, .ref h14, .ref h15, .ref h16, .ref h17, .int 0, .ref h18, .ref h19, .int 0, .ref h20, .int 0, .int 0, .ref h21, .ref h22, .int 0, .int 0, .int 0, .int 0, .int 0, .ref h23, .int 0, .ref h24, .ref h25, .int 0, .int 0, .int 0, .ref h26, .ref h27, .ref h28, .ref h29]))])) (va_Qi (fun (r : Int32) (_ : Unit) => r = -1) (fun (_ : Unit) t => va_P (dC, dI) vwCl [] t.heap ∧ va_K (dC, dI) vwCl [] t ∧ va_D (va_A [(h0, .inr (12, [.int 0, .ref h1, .ref h2, .ref h3, .ref h4, .ref h5, .int 0, .int 0, .ref h6, .int 0, .int 0, .ref h7, .ref h8, .ref h9, .ref h10, .ref h11, .ref h12, .ref h13, .int 0, .int 0, .ref h14, .ref h15, .ref h16, .ref h17, .int 0, .ref h18, .ref h19, .int 0, .ref h20, .int 0, .int 0, .ref h21, .ref h22, .int 0, .int 0, .int 0, .int 0, .int 0, .ref h23, .int 0, .ref h24, .ref h25, .int 0, .int 0, .int 0, .ref h26, .ref h27, .ref h28, .ref h29]))] sz) []) (va_A [(h0, .inr (12, [.int 0, .ref h1, .ref h2, .ref h3, .ref h4, .ref h5, .int 0, .int 0, .ref h6, .int 0, .int 0, .ref h7, .ref h8, .ref h9, .ref h10, .ref h11, .ref h12, .ref h13, .int 0, .int 0, .ref h14, .ref h15, .ref h16, .ref h17, .int 0, .ref h18, .ref h19, .int 0, .ref h20, .int 0, .int 0, .ref h21, .ref h22, .int 0, .int 0, .int 0, .int 0, .int 0, .ref h23, .int 0, .ref h24, .ref h25, .int 0, .int 0, .int 0, .ref h26, .ref h27, .ref h28, .ref h29]))] sz)) 0 0 (va_A [(h0, .inr (12, [.int 0, .ref h1, .ref h2, .ref h3, .ref h4, .ref h5, .int 0, .int 0, .ref h6, .int 0, .int 0, .ref h7, .ref h8, .ref h9, .ref h10, .ref h11, .ref h12, .ref h13, .int 0, .int 0, .ref h14, .ref h15, .ref h16, .ref h17, .int 0, .ref h18, .ref h19, .int 0, .ref h20, .int 0, .int 0, .ref h21, .ref h22, .int 0, .int 0, .int 0, .int 0, .int 0, .ref h23, .int 0, .ref h24, .ref h25, .int 0, .int 0, .int 0, .ref h26, .ref h27, .ref h28, .ref h29]))] sz) := by
  refine Met.ofW (cc := cX12_chance) (maxL := 13) (ret := (some .int)) (by decide) rfl ?_
  intro p e s m args below meth c s₁ B hml hv
  obtain ⟨rfl, hsz, hP, hK, hD0⟩ := hv
  have hx := B.exec
  have hb := B.bytes
  have hr := B.returns
  have hts := atoms_spec (ws := wsX12_chance) B.pre
  have hown : s.vm.findClass RX12 = some m.cls := findClass_of_methodNamed B.named
  have hlocks := B.notSynchronized
  subst hsz
  have hD := hD0.self (sz := s.heap.size)
  generalize hAe : va_A [(h0, .inr (12, [.int 0, .ref h1, .ref h2, .ref h3, .ref h4, .ref h5, .int 0, .int 0, .ref h6, .int 0, .int 0, .ref h7, .ref h8, .ref h9, .ref h10, .ref h11, .ref h12, .ref h13, .int 0, .int 0, .ref h14, .ref h15, .ref h16, .ref h17, .int 0, .ref h18, .ref h19, .int 0, .ref h20, .int 0, .int 0, .ref h21, .ref h22, .int 0, .int 0, .int 0, .int 0, .int 0, .ref h23, .int 0, .ref h24, .ref h25, .int 0, .int 0, .int 0, .ref h26, .ref h27, .ref h28, .ref h29]))] s.heap.size = A at hD ⊢
  have hA : ∀ q : Nat, s.heap.size ≤ q → A q := fun q h => by rw [← hAe]; exact Or.inr h
  have hS : va_S A s.heap s.heap [] := va_S.rf
  have hP : va_P (dC, dI) vwCl [(h0, .inr (12, [.int 0, .ref h1, .ref h2, .ref h3, .ref h4, .ref h5, .int 0, .int 0, .ref h6, .int 0, .int 0, .ref h7, .ref h8, .ref h9, .ref h10, .ref h11, .ref h12, .ref h13, .int 0, .int 0, .ref h14, .ref h15, .ref h16, .ref h17, .int 0, .ref h18, .ref h19, .int 0, .ref h20, .int 0, .int 0, .ref h21, .ref h22, .int 0, .int 0, .int 0, .int 0, .int 0, .ref h23, .int 0, .ref h24, .ref h25, .int 0, .int 0, .int 0, .ref h26, .ref h27, .ref h28, .ref h29]))] s.heap := hP
  have hl := lv_entry ([.ref h0, .int p0, .int p1, .int p2, .int p3]) (n := 13) (Nat.le_of_ble_eq_true rfl)
  rw [lg_entry_eq]
  generalize (lg_sl ([.ref h0, .int p0, .int p1, .int p2, .int p3]) ++ List.replicate (13 - (lg_sl ([.ref h0, .int p0, .int p1, .int p2, .int p3])).length) Slot.unset).toArray = ls at hl ⊢
  have hl : lv_has ls 13 [(0, .ref h0), (1, .int p0), (2, .int p1), (3, .int p2), (4, .int p3)] := hl
  refine lv_aload_n hx hb dX12_chance_0 rfl (lv_at hl 0 rfl) ?_
  refine lv_iload_n hx hb dX12_chance_1 rfl (lv_at hl 1 rfl) ?_
  refine lv_iload_n hx hb dX12_chance_2 rfl (lv_at hl 2 rfl) ?_
  have hPc := hP.sub (ws' := [(h0, .inr (12, [.int 0, .ref h1, .ref h2, .ref h3, .ref h4, .ref h5, .int 0, .int 0, .ref h6, .int 0, .int 0, .ref h7, .ref h8, .ref h9, .ref h10, .ref h11, .ref h12, .ref h13, .int 0, .int 0, .ref h14, .ref h15, .ref h16, .ref h17, .int 0, .ref h18, .ref h19, .int 0, .ref h20, .int 0, .int 0, .ref h21, .ref h22, .int 0, .int 0, .int 0, .int 0, .int 0, .ref h23, .int 0, .ref h24, .ref h25, .int 0, .int 0, .int 0, .ref h26, .ref h27, .ref h28, .ref h29]))]) [0] rfl
  have hDc := hD.sub (ws' := [(h0, .inr (12, [.int 0, .ref h1, .ref h2, .ref h3, .ref h4, .ref h5, .int 0, .int 0, .ref h6, .int 0, .int 0, .ref h7, .ref h8, .ref h9, .ref h10, .ref h11, .ref h12, .ref h13, .int 0, .int 0, .ref h14, .ref h15, .ref h16, .ref h17, .int 0, .ref h18, .ref h19, .int 0, .ref h20, .int 0, .int 0, .ref h21, .ref h22, .int 0, .int 0, .int 0, .int 0, .int 0, .ref h23, .int 0, .ref h24, .ref h25, .int 0, .int 0, .int 0, .ref h26, .ref h27, .ref h28, .ref h29]))]) [0] (by decide) rfl
  have hKc := hK.sub (tys' := []) [] rfl
  have hFc := va_free (wc := [(h0, .inr (12, [.int 0, .ref h1, .ref h2, .ref h3, .ref h4, .ref h5, .int 0, .int 0, .ref h6, .int 0, .int 0, .ref h7, .ref h8, .ref h9, .ref h10, .ref h11, .ref h12, .ref h13, .int 0, .int 0, .ref h14, .ref h15, .ref h16, .ref h17, .int 0, .ref h18, .ref h19, .int 0, .ref h20, .int 0, .int 0, .ref h21, .ref h22, .int 0, .int 0, .int 0, .int 0, .int 0, .ref h23, .int 0, .ref h24, .ref h25, .int 0, .int 0, .int 0, .ref h26, .ref h27, .ref h28, .ref h29]))]) hD hS hA [0] rfl
  refine va_calli (va_runV (As := [.int p0, .int p1]) (rest := []) ⟨hx, hb, hml, hown, hts⟩ (k_X12_looks_0 l dC dI h0 h1 h2 h3 h4 h5 h6 h7 h8 h9 h10 h11 h12 h13 h14 h15 h16 h17 h18 h19 h20 h21 h22 h23 h24 h25 h26 h27 h28 h29 s.heap.size p0 p1) (cwV 2 hts gX12_chance_X12_looks rfl rfl rfl (by decide +kernel) ⟨Nat.le_of_ble_eq_true rfl, Nat.le_of_ble_eq_true rfl⟩) ⟨fun a U g mk q => by obtain ⟨q0, q1, qP, qK, qD⟩ := q; exact ⟨q0, q1, qP, va_K.moved (u := U) (U := U.calling g mk a) (Vm.Alike.refl U.vm) qK, qD⟩, va_recv hKc hPc (ci := 12) (q0 := 0) rfl rfl, fun U hU hW => ⟨rfl, by rw [hU], by rw [hU]; exact hPc, va_K.moved hW.alike hKc, hDc.weaken (fun _ _ _ _ => trivial)⟩⟩ rfl rfl hl.1 rfl (lv_room (Nat.le_of_ble_eq_true rfl)) dX12_chance_3 ⟨Nat.le_of_ble_eq_true rfl, Nat.le_of_ble_eq_true rfl⟩) hS (fun q _ h => hFc q h) hFc (fun r_1 u t H1 locs ht hvm hw hB hz1 hk1 hS => ?_)
  obtain ⟨hP1, hK1, hD1⟩ := hB
  rw [ht] at hP1
  have hK1 := va_K.moved hvm.symm hK1
  obtain ⟨hP, hD⟩ := va_join (wr := []) (w1 := [(h0, .inr (12, [.int 0, .ref h1, .ref h2, .ref h3, .ref h4, .ref h5, .int 0, .int 0, .ref h6, .int 0, .int 0, .ref h7, .ref h8, .ref h9, .ref h10, .ref h11, .ref h12, .ref h13, .int 0, .int 0, .ref h14, .ref h15, .ref h16, .ref h17, .int 0, .ref h18, .ref h19, .int 0, .ref h20, .int 0, .int 0, .ref h21, .ref h22, .int 0, .int 0, .int 0, .int 0, .int 0, .ref h23, .int 0, .ref h24, .ref h25, .int 0, .int 0, .int 0, .ref h26, .ref h27, .ref h28, .ref h29]))]) hP hD [0] [] rfl rfl (by decide) (by decide) hk1 hFc hP1 hD1
  generalize H1 = H at hP hS ⊢
  have hP : va_P (dC, dI) vwCl [(h0, .inr (12, [.int 0, .ref h1, .ref h2, .ref h3, .ref h4, .ref h5, .int 0, .int 0, .ref h6, .int 0, .int 0, .ref h7, .ref h8, .ref h9, .ref h10, .ref h11, .ref h12, .ref h13, .int 0, .int 0, .ref h14, .ref h15, .ref h16, .ref h17, .int 0, .ref h18, .ref h19, .int 0, .ref h20, .int 0, .int 0, .ref h21, .ref h22, .int 0, .int 0, .int 0, .int 0, .int 0, .ref h23, .int 0, .ref h24, .ref h25, .int 0, .int 0, .int 0, .ref h26, .ref h27, .ref h28, .ref h29]))] H := hP
  have hD : va_D A [(h0, .inr (12, [.int 0, .ref h1, .ref h2, .ref h3, .ref h4, .ref h5, .int 0, .int 0, .ref h6, .int 0, .int 0, .ref h7, .ref h8, .ref h9, .ref h10, .ref h11, .ref h12, .ref h13, .int 0, .int 0, .ref h14, .ref h15, .ref h16, .ref h17, .int 0, .ref h18, .ref h19, .int 0, .ref h20, .int 0, .int 0, .ref h21, .ref h22, .int 0, .int 0, .int 0, .int 0, .int 0, .ref h23, .int 0, .ref h24, .ref h25, .int 0, .int 0, .int 0, .ref h26, .ref h27, .ref h28, .ref h29]))] := hD
  obtain rfl := hw
  refine lv_if_eq (tgt := 38) hx hb dX12_chance_6 (by decide) (fun _ => ?_) (fun c => absurd c (by decide))
  refine lv_iconst (v := (-1)) hx hb dX12_chance_38 (by decide) ?_
  have hP9 := hP.sub (ws' := []) [] rfl
  have hD9 := hD.sub (ws' := []) [] (by decide) rfl
  have hK9 := hK.sub (tys' := []) [] rfl
  exact W.iret (v := (-1)) hx hb hr (fun t ht hW => ⟨⟨(-1), (), rfl, by first | rfl | ((repeat' split) <;> first | rfl | (exfalso; omega) | (exact Int32.toInt_inj.mp (by show ((-1) : Int) = _; omega))), by rw [ht]; exact hP9, va_K.moved hW.alike hK9, hD9⟩, hS.F ht⟩) hS.2.2 dX12_chance_39
set_option maxHeartbeats 4000000 in
set_option maxRecDepth 100000 in
theorem k_X12_first_0 (l : Launch) (dC : Nat → ClassId) (dI : Nat → Nat → Nat) (h0 h1 h2 h3 h4 h5 h6 h7 h8 h9 h10 h11 h12 h13 h14 h15 h16 h17 h18 h19 h20 h21 h22 h23 h24 h25 h26 h27 h28 h29 : Nat) (sz : Nat) (p0 : Int32) (p1 : Int32) (p2 : Int32) : Met l yX12_first wsX12_first ({ frames := 2, cells := 0, slots := 0, locals := 46 }) (va_Pc [.ref h0, .int p0, .int p1, .int p2] (fun U => U.heap.size = sz ∧ va_P (dC, dI) vwCl [(h0, .inr (12, [.int 0, .ref h1, .ref h2, .ref h3, .ref h4, .ref h5, .int 0, .int 0, .ref h6, .int 0, .int 0, .ref h7, .ref h8, .ref h9, .ref h10, .ref h11, .ref h12, .ref h13, .int 0, .int 0, .ref h14, .ref h15, .ref h16, .ref h17, .int 0, .ref h18, .ref h19, .int 0, .ref h20, .int 0, .int 0, .ref h21, .ref h22, .int 0, .int 0, .int 0, .int 0, .int 0, .ref h23, .int 0, .ref h24, .ref h25, .int 0, .int 0, .int 0, .ref h26, .ref h27, .ref h28, .ref h29]))] U.heap ∧ va_K (dC, dI) vwCl [] U ∧ va_D (fun _ => True) [(h0, .inr (12, [.int 0, .ref h1, .ref h2, .ref h3, .ref h4, .ref h5, .int 0, .int 0, .ref h6, .int 0, .int 0, .ref h7, .ref h8, .ref h9, .ref h10, .ref h11, .ref h12, .ref h13, .int 0, .int 0, .ref h14, .ref h15, .ref h16, .ref h17, .int 0, .ref h18, .ref h19, .int 0, .ref h20, .int 0, .int 0, .ref h21, .ref h22, .int 0, .int 0, .int 0, .int 0, .int 0, .ref h23, .int 0, .ref h24, .ref h25, .int 0, .int 0, .int 0, .ref h26, .ref h27, .ref h28, .ref h29]))])) (va_Qi (fun (r : Int32) (_ : Unit) => r = -1) (fun (_ : Unit) t => va_P (dC, dI) vwCl [] t.heap ∧ va_K (dC, dI) vwCl [] t ∧ va_D (va_A [(h0, .inr (12, [.int 0, .ref h1, .ref h2, .ref h3, .ref h4, .ref h5, .int 0, .int 0, .ref h6, .int 0, .int 0, .ref h7, .ref h8, .ref h9, .ref h10, .ref h11, .ref h12, .ref h13, .int 0, .int 0, .ref h14, .ref h15, .ref h16, .ref h17, .int 0, .ref h18, .ref h19, .int 0, .ref h20, .int 0, .int 0, .ref h21, .ref h22, .int 0, .int 0, .int 0, .int 0, .int 0, .ref h23, .int 0, .ref h24, .ref h25, .int 0, .int 0, .int 0, .ref h26, .ref h27, .ref h28, .ref h29]))] sz) []) (va_A [(h0, .inr (12, [.int 0, .ref h1, .ref h2, .ref h3, .ref h4, .ref h5, .int 0, .int 0, .ref h6, .int 0, .int 0, .ref h7, .ref h8, .ref h9, .ref h10, .ref h11, .ref h12, .ref h13, .int 0, .int 0, .ref h14, .ref h15, .ref h16, .ref h17, .int 0, .ref h18, .ref h19, .int 0, .ref h20, .int 0, .int 0, .ref h21, .ref h22, .int 0, .int 0, .int 0, .int 0, .int 0, .ref h23, .int 0, .ref h24, .ref h25, .int 0, .int 0, .int 0, .ref h26, .ref h27, .ref h28, .ref h29]))] sz)) 0 0 (va_A [(h0, .inr (12, [.int 0, .ref h1, .ref h2, .ref h3, .ref h4, .ref h5, .int 0, .int 0, .ref h6, .int 0, .int 0, .ref h7, .ref h8, .ref h9, .ref h10, .ref h11, .ref h12, .ref h13, .int 0, .int 0, .ref h14, .ref h15, .ref h16, .ref h17, .int 0, .ref h18, .ref h19, .int 0, .ref h20, .int 0, .int 0, .ref h21, .ref h22, .int 0, .int 0, .int 0, .int 0, .int 0, .ref h23, .int 0, .ref h24, .ref h25, .int 0, .int 0, .int 0, .ref h26, .ref h27, .ref h28, .ref h29]))] sz) := by
  refine Met.ofW (cc := cX12_first) (maxL := 6) (ret := (some .int)) (by decide) rfl ?_
  intro p e s m args below meth c s₁ B hml hv
  obtain ⟨rfl, hsz, hP, hK, hD0⟩ := hv
  have hx := B.exec
  have hb := B.bytes
  have hr := B.returns
  have hts := atoms_spec (ws := wsX12_first) B.pre
  have hown : s.vm.findClass RX12 = some m.cls := findClass_of_methodNamed B.named
  have hlocks := B.notSynchronized
  subst hsz
  have hD := hD0.self (sz := s.heap.size)
  generalize hAe : va_A [(h0, .inr (12, [.int 0, .ref h1, .ref h2, .ref h3, .ref h4, .ref h5, .int 0, .int 0, .ref h6, .int 0, .int 0, .ref h7, .ref h8, .ref h9, .ref h10, .ref h11, .ref h12, .ref h13, .int 0, .int 0, .ref h14, .ref h15, .ref h16, .ref h17, .int 0, .ref h18, .ref h19, .int 0, .ref h20, .int 0, .int 0, .ref h21, .ref h22, .int 0, .int 0, .int 0, .int 0, .int 0, .ref h23, .int 0, .ref h24, .ref h25, .int 0, .int 0, .int 0, .ref h26, .ref h27, .ref h28, .ref h29]))] s.heap.size = A at hD ⊢
  have hA : ∀ q : Nat, s.heap.size ≤ q → A q := fun q h => by rw [← hAe]; exact Or.inr h
  have hS : va_S A s.heap s.heap [] := va_S.rf
  have hP : va_P (dC, dI) vwCl [(h0, .inr (12, [.int 0, .ref h1, .ref h2, .ref h3, .ref h4, .ref h5, .int 0, .int 0, .ref h6, .int 0, .int 0, .ref h7, .ref h8, .ref h9, .ref h10, .ref h11, .ref h12, .ref h13, .int 0, .int 0, .ref h14, .ref h15, .ref h16, .ref h17, .int 0, .ref h18, .ref h19, .int 0, .ref h20, .int 0, .int 0, .ref h21, .ref h22, .int 0, .int 0, .int 0, .int 0, .int 0, .ref h23, .int 0, .ref h24, .ref h25, .int 0, .int 0, .int 0, .ref h26, .ref h27, .ref h28, .ref h29]))] s.heap := hP
  have hl := lv_entry ([.ref h0, .int p0, .int p1, .int p2]) (n := 6) (Nat.le_of_ble_eq_true rfl)
  rw [lg_entry_eq]
  generalize (lg_sl ([.ref h0, .int p0, .int p1, .int p2]) ++ List.replicate (6 - (lg_sl ([.ref h0, .int p0, .int p1, .int p2])).length) Slot.unset).toArray = ls at hl ⊢
  have hl : lv_has ls 6 [(0, .ref h0), (1, .int p0), (2, .int p1), (3, .int p2)] := hl
  refine lv_aload_n hx hb dX12_first_0 rfl (lv_at hl 0 rfl) ?_
  refine lv_iload_n hx hb dX12_first_1 rfl (lv_at hl 1 rfl) ?_
  have hPc := hP.sub (ws' := [(h0, .inr (12, [.int 0, .ref h1, .ref h2, .ref h3, .ref h4, .ref h5, .int 0, .int 0, .ref h6, .int 0, .int 0, .ref h7, .ref h8, .ref h9, .ref h10, .ref h11, .ref h12, .ref h13, .int 0, .int 0, .ref h14, .ref h15, .ref h16, .ref h17, .int 0, .ref h18, .ref h19, .int 0, .ref h20, .int 0, .int 0, .ref h21, .ref h22, .int 0, .int 0, .int 0, .int 0, .int 0, .ref h23, .int 0, .ref h24, .ref h25, .int 0, .int 0, .int 0, .ref h26, .ref h27, .ref h28, .ref h29]))]) [0] rfl
  have hDc := hD.sub (ws' := [(h0, .inr (12, [.int 0, .ref h1, .ref h2, .ref h3, .ref h4, .ref h5, .int 0, .int 0, .ref h6, .int 0, .int 0, .ref h7, .ref h8, .ref h9, .ref h10, .ref h11, .ref h12, .ref h13, .int 0, .int 0, .ref h14, .ref h15, .ref h16, .ref h17, .int 0, .ref h18, .ref h19, .int 0, .ref h20, .int 0, .int 0, .ref h21, .ref h22, .int 0, .int 0, .int 0, .int 0, .int 0, .ref h23, .int 0, .ref h24, .ref h25, .int 0, .int 0, .int 0, .ref h26, .ref h27, .ref h28, .ref h29]))]) [0] (by decide) rfl
  have hKc := hK.sub (tys' := []) [] rfl
  have hFc := va_free (wc := [(h0, .inr (12, [.int 0, .ref h1, .ref h2, .ref h3, .ref h4, .ref h5, .int 0, .int 0, .ref h6, .int 0, .int 0, .ref h7, .ref h8, .ref h9, .ref h10, .ref h11, .ref h12, .ref h13, .int 0, .int 0, .ref h14, .ref h15, .ref h16, .ref h17, .int 0, .ref h18, .ref h19, .int 0, .ref h20, .int 0, .int 0, .ref h21, .ref h22, .int 0, .int 0, .int 0, .int 0, .int 0, .ref h23, .int 0, .ref h24, .ref h25, .int 0, .int 0, .int 0, .ref h26, .ref h27, .ref h28, .ref h29]))]) hD hS hA [0] rfl
  refine va_calli (va_runV (As := [.int p0]) (rest := []) ⟨hx, hb, hml, hown, hts⟩ (k_X12_isStreet_0 l dC dI h0 h1 h2 h3 h4 h5 h6 h7 h8 h9 h10 h11 h12 h13 h14 h15 h16 h17 h18 h19 h20 h21 h22 h23 h24 h25 h26 h27 h28 h29 s.heap.size p0) (cwV 1 hts gX12_first_X12_isStreet rfl rfl rfl (by decide +kernel) ⟨Nat.le_of_ble_eq_true rfl, Nat.le_of_ble_eq_true rfl⟩) ⟨fun a U g mk q => by obtain ⟨q0, q1, qP, qK, qD⟩ := q; exact ⟨q0, q1, qP, va_K.moved (u := U) (U := U.calling g mk a) (Vm.Alike.refl U.vm) qK, qD⟩, va_recv hKc hPc (ci := 12) (q0 := 0) rfl rfl, fun U hU hW => ⟨rfl, by rw [hU], by rw [hU]; exact hPc, va_K.moved hW.alike hKc, hDc.weaken (fun _ _ _ _ => trivial)⟩⟩ rfl rfl hl.1 rfl (lv_room (Nat.le_of_ble_eq_true rfl)) dX12_first_2 ⟨Nat.le_of_ble_eq_true rfl, Nat.le_of_ble_eq_true rfl⟩) hS (fun q _ h => hFc q h) hFc (fun r_1 u t H1 locs ht hvm hw hB hz1 hk1 hS => ?_)
  obtain ⟨hP1, hK1, hD1⟩ := hB
  rw [ht] at hP1
  have hK1 := va_K.moved hvm.symm hK1
  obtain ⟨hP, hD⟩ := va_join (wr := []) (w1 := [(h0, .inr (12, [.int 0, .ref h1, .ref h2, .ref h3, .ref h4, .ref h5, .int 0, .int 0, .ref h6, .int 0, .int 0, .ref h7, .ref h8, .ref h9, .ref h10, .ref h11, .ref h12, .ref h13, .int 0, .int 0, .ref h14, .ref h15, .ref h16, .ref h17, .int 0, .ref h18, .ref h19, .int 0, .ref h20, .int 0, .int 0, .ref h21, .ref h22, .int 0, .int 0, .int 0, .int 0, .int 0, .ref h23, .int 0, .ref h24, .ref h25, .int 0, .int 0, .int 0, .ref h26, .ref h27, .ref h28, .ref h29]))]) hP hD [0] [] rfl rfl (by decide) (by decide) hk1 hFc hP1 hD1
  generalize H1 = H at hP hS ⊢
  have hP : va_P (dC, dI) vwCl [(h0, .inr (12, [.int 0, .ref h1, .ref h2, .ref h3, .ref h4, .ref h5, .int 0, .int 0, .ref h6, .int 0, .int 0, .ref h7, .ref h8, .ref h9, .ref h10, .ref h11, .ref h12, .ref h13, .int 0, .int 0, .ref h14, .ref h15, .ref h16, .ref h17, .int 0, .ref h18, .ref h19, .int 0, .ref h20, .int 0, .int 0, .ref h21, .ref h22, .int 0, .int 0, .int 0, .int 0, .int 0, .ref h23, .int 0, .ref h24, .ref h25, .int 0, .int 0, .int 0, .ref h26, .ref h27, .ref h28, .ref h29]))] H := hP
  have hD : va_D A [(h0, .inr (12, [.int 0, .ref h1, .ref h2, .ref h3, .ref h4, .ref h5, .int 0, .int 0, .ref h6, .int 0, .int 0, .ref h7, .ref h8, .ref h9, .ref h10, .ref h11, .ref h12, .ref h13, .int 0, .int 0, .ref h14, .ref h15, .ref h16, .ref h17, .int 0, .ref h18, .ref h19, .int 0, .ref h20, .int 0, .int 0, .ref h21, .ref h22, .int 0, .int 0, .int 0, .int 0, .int 0, .ref h23, .int 0, .ref h24, .ref h25, .int 0, .int 0, .int 0, .ref h26, .ref h27, .ref h28, .ref h29]))] := hD
  obtain rfl := hw
  refine lv_if_eq (tgt := 27) hx hb dX12_first_5 (by decide) (fun _ => ?_) (fun c => absurd c (by decide))
  refine lv_iconst (v := (-1)) hx hb dX12_first_27 (by decide) ?_
  have hP9 := hP.sub (ws' := []) [] rfl
  have hD9 := hD.sub (ws' := []) [] (by decide) rfl
  have hK9 := hK.sub (tys' := []) [] rfl
  exact W.iret (v := (-1)) hx hb hr (fun t ht hW => ⟨⟨(-1), (), rfl, by first | rfl | ((repeat' split) <;> first | rfl | (exfalso; omega) | (exact Int32.toInt_inj.mp (by show ((-1) : Int) = _; omega))), by rw [ht]; exact hP9, va_K.moved hW.alike hK9, hD9⟩, hS.F ht⟩) hS.2.2 dX12_first_28
