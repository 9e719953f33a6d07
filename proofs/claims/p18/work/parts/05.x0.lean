def gw_D (a_D_0 : Nat) (a_D_1 : Nat) (a_D_2 : Nat) (a_D_3 : Nat) (a_D_4 : Nat) (a_D_5 : Nat) (a_D_6 : Nat) (a_D_7 : Nat) (a_D_8 : Nat) (a_D_9 : Nat) (r_D_0 : Nat → Nat) (r_D_1 : Nat → Nat) (cint : ClassId) (cAlong : ClassId) (clong : ClassId) (v_D_size : Int32) (v_D_names : Int32) (v_D_plots : Int32) (v_D_ways : Int32) (c_D_1 : Nat → Int32) (c_D_2 : Nat → Int32) (c_D_3 : Nat → Int32) (c_D_4 : Nat → Int32) (c_D_5 : Nat → Int32) (c_D_8 : Nat → Int32) (c_D_9 : Nat → Int32) (d_D_0 : Nat → Nat → Int64) (d_D_1 : Nat → Nat → Int64) : va_W := (([(a_D_0, .inr (2, [.ref a_D_1, .ref a_D_2, .ref a_D_3, .int v_D_size, .ref a_D_4, .int v_D_names, .int v_D_plots, .ref a_D_5, .ref a_D_6, .ref a_D_7, .ref a_D_8, .ref a_D_9, .int v_D_ways])), (a_D_1, .inl (cint, 10, .inl c_D_1)), (a_D_2, .inl (cint, 10, .inl c_D_2)), (a_D_3, .inl (cint, 10, .inl c_D_3)), (a_D_4, .inl (cint, 8, .inl c_D_4)), (a_D_5, .inl (cint, 40, .inl c_D_5)), (a_D_6, .inl (cAlong, 25, .inr (.inr (.inr (.inr (fun j => some (r_D_0 j))))))), (a_D_7, .inl (cAlong, 5, .inr (.inr (.inr (.inr (fun j => some (r_D_1 j))))))), (a_D_8, .inl (cint, 5, .inl c_D_8)), (a_D_9, .inl (cint, 5, .inl c_D_9))] : va_W) ++ (kk_rowsL r_D_0 clong 40 d_D_0 25 ++ (kk_rowsL r_D_1 clong 5 d_D_1 5)))
def gw_T (a_T_0 : Nat) (a_T_1 : Nat) (cint : ClassId) (v_T_size : Int32) (v_T_place : Int32) (o_T_law : Option Nat) (c_T_1 : Nat → Int32) : va_W := [(a_T_0, .inr (10, [.ref a_T_1, .int v_T_size, .int v_T_place, va_rf o_T_law])), (a_T_1, .inl (cint, 120, .inl c_T_1))]
def gw_N (a_N_0 : Nat) (a_N_1 : Nat) (a_N_2 : Nat) (cint : ClassId) (v_N_size : Int32) (v_N_ran : Int32) (c_N_1 : Nat → Int32) (c_N_2 : Nat → Int32) : va_W := [(a_N_0, .inr (5, [.ref a_N_1, .int v_N_size, .ref a_N_2, .int v_N_ran])), (a_N_1, .inl (cint, 50, .inl c_N_1)), (a_N_2, .inl (cint, 24, .inl c_N_2))]
def gw_M (a_M_0 : Nat) (a_M_1 : Nat) (a_M_2 : Nat) (a_M_3 : Nat) (a_M_4 : Nat) (a_M_5 : Nat) (a_M_6 : Nat) (a_M_7 : Nat) (a_M_8 : Nat) (a_M_9 : Nat) (a_M_10 : Nat) (a_M_11 : Nat) (a_M_12 : Nat) (a_M_13 : Nat) (a_M_14 : Nat) (a_M_15 : Nat) (a_M_16 : Nat) (a_M_17 : Nat) (a_M_18 : Nat) (a_M_19 : Nat) (a_M_20 : Nat) (a_M_21 : Nat) (a_M_22 : Nat) (a_M_23 : Nat) (a_M_24 : Nat) (a_M_25 : Nat) (a_M_26 : Nat) (a_M_27 : Nat) (a_M_28 : Nat) (a_M_29 : Nat) (cint : ClassId) (cboolean : ClassId) (clong : ClassId) (v_M_streets : Int32) (v_M_keptMany : Int32) (v_M_done : Int32) (v_M_lookedMany : Int32) (v_M_bestMisfit : Int32) (v_M_bendMany : Int32) (v_M_deeds : Int32) (v_M_namedMany : Int32) (v_M_ways : Int32) (v_M_tapeMany : Int32) (v_M_laws : Int32) (v_M_base : Int32) (v_M_at : Int32) (v_M_ends : Int32) (v_M_fault : Int32) (v_M_opened : Int32) (v_M_bodies : Int32) (v_M_ran : Int32) (v_M_ownKind : Int32) (v_M_ownNumber : Int32) (c_M_1 : Nat → Int32) (c_M_2 : Nat → Int32) (c_M_3 : Nat → Int32) (c_M_4 : Nat → Int32) (c_M_5 : Nat → Int32) (c_M_6 : Nat → Int32) (c_M_7 : Nat → Int32) (c_M_8 : Nat → Int32) (c_M_9 : Nat → Int32) (c_M_10 : Nat → Int32) (c_M_11 : Nat → Int32) (c_M_12 : Nat → Int32) (c_M_13 : Nat → Int32) (c_M_14 : Nat → Int32) (c_M_15 : Nat → Int32) (c_M_16 : Nat → Int32) (c_M_17 : Nat → Int32) (c_M_18 : Nat → Int32) (c_M_19 : Nat → Int32) (c_M_20 : Nat → Int32) (c_M_21 : Nat → Int32) (c_M_22 : Nat → Int32) (c_M_23 : Nat → Int32) (c_M_24 : Nat → Int32) (c_M_25 : Nat → Int32) (c_M_26 : Nat → Int32) (c_M_27 : Nat → Int32) (c_M_28 : Nat → Int64) (c_M_29 : Nat → Int64) : va_W := [(a_M_0, .inr (12, [.int v_M_streets, .ref a_M_1, .ref a_M_2, .ref a_M_3, .ref a_M_4, .ref a_M_5, .int v_M_keptMany, .int v_M_done, .ref a_M_6, .int v_M_lookedMany, .int v_M_bestMisfit, .ref a_M_7, .ref a_M_8, .ref a_M_9, .ref a_M_10, .ref a_M_11, .ref a_M_12, .ref a_M_13, .int v_M_bendMany, .int v_M_deeds, .ref a_M_14, .ref a_M_15, .ref a_M_16, .ref a_M_17, .int v_M_namedMany, .ref a_M_18, .ref a_M_19, .int v_M_ways, .ref a_M_20, .int v_M_tapeMany, .int v_M_laws, .ref a_M_21, .ref a_M_22, .int v_M_base, .int v_M_at, .int v_M_ends, .int v_M_fault, .int v_M_opened, .ref a_M_23, .int v_M_bodies, .ref a_M_24, .ref a_M_25, .int v_M_ran, .int v_M_ownKind, .int v_M_ownNumber, .ref a_M_26, .ref a_M_27, .ref a_M_28, .ref a_M_29])), (a_M_1, .inl (cint, 7, .inl c_M_1)), (a_M_2, .inl (cint, 840, .inl c_M_2)), (a_M_3, .inl (cint, 40, .inl c_M_3)), (a_M_4, .inl (cint, 40, .inl c_M_4)), (a_M_5, .inl (cint, 40, .inl c_M_5)), (a_M_6, .inl (cint, 40, .inl c_M_6)), (a_M_7, .inl (cint, 41, .inl c_M_7)), (a_M_8, .inl (cint, 41, .inl c_M_8)), (a_M_9, .inl (cint, 40, .inl c_M_9)), (a_M_10, .inl (cint, 40, .inl c_M_10)), (a_M_11, .inl (cint, 40, .inl c_M_11)), (a_M_12, .inl (cint, 246, .inl c_M_12)), (a_M_13, .inl (cboolean, 36, .inl c_M_13)), (a_M_14, .inl (cint, 10, .inl c_M_14)), (a_M_15, .inl (cint, 10, .inl c_M_15)), (a_M_16, .inl (cint, 10, .inl c_M_16)), (a_M_17, .inl (cint, 8, .inl c_M_17)), (a_M_18, .inl (cint, 8, .inl c_M_18)), (a_M_19, .inl (cint, 8, .inl c_M_19)), (a_M_20, .inl (cint, 120, .inl c_M_20)), (a_M_21, .inl (cint, 480, .inl c_M_21)), (a_M_22, .inl (cint, 4, .inl c_M_22)), (a_M_23, .inl (cint, 8, .inl c_M_23)), (a_M_24, .inl (cint, 50, .inl c_M_24)), (a_M_25, .inl (cint, 24, .inl c_M_25)), (a_M_26, .inl (cint, 6, .inl c_M_26)), (a_M_27, .inl (cint, 6, .inl c_M_27)), (a_M_28, .inl (clong, 360, .inr (.inl c_M_28))), (a_M_29, .inl (clong, 60, .inr (.inl c_M_29)))]
theorem gk_pick {N k : Nat} (hk : k < N) (g : Nat → va_W) {Ls : List va_W} : (kk_fam N g :: Ls).flatten.Perm (g k :: kk_famx N k g :: Ls).flatten := by
  rw [List.flatten_cons, List.flatten_cons, List.flatten_cons, ← List.append_assoc]
  exact (kk_pick hk g).append_right _
theorem gk_pick2 {N k j : Nat} (hj : j < N) (hjk : j ≠ k) (g : Nat → va_W) {Ls : List va_W} : (kk_famx N k g :: Ls).flatten.Perm (g j :: kk_famy N k j g :: Ls).flatten := by
  rw [List.flatten_cons, List.flatten_cons, List.flatten_cons, ← List.append_assoc]
  exact (kk_pick2 hj hjk g).append_right _
theorem gk_glue {a b c : va_W} {Ls : List va_W} : (a :: b :: c :: Ls).flatten = ((a ++ (b ++ c)) :: Ls).flatten := by simp [List.append_assoc]
theorem gk_all4 (g : Nat → va_W) {Ls : List va_W} : (kk_fam 4 g :: Ls).flatten = (g 0 :: g 1 :: g 2 :: g 3 :: Ls).flatten := by
  simp [kk_fam, List.range, List.range.loop, List.flatMap_cons, List.append_assoc]
def pk4 {α : Type} (x0 x1 x2 x3 : α) : Nat → α := fun j => match j with | 0 => x0 | 1 => x1 | 2 => x2 | _ => x3
theorem gk_all6 (g : Nat → va_W) {Ls : List va_W} : (kk_fam 6 g :: Ls).flatten = (g 0 :: g 1 :: g 2 :: g 3 :: g 4 :: g 5 :: Ls).flatten := by
  simp [kk_fam, List.range, List.range.loop, List.flatMap_cons, List.append_assoc]
def pk6 {α : Type} (x0 x1 x2 x3 x4 x5 : α) : Nat → α := fun j => match j with | 0 => x0 | 1 => x1 | 2 => x2 | 3 => x3 | 4 => x4 | _ => x5
theorem gk_choose (N : Nat) (hN : 0 < N) (s : Nat → Nat) (x : Int32) : ∃ k : Nat, k < N ∧ (0 ≤ x.toInt → x.toInt < (N : Int) → some (s x.toNatClampNeg) = some (s k)) := by
  by_cases h : 0 ≤ x.toInt ∧ x.toInt < (N : Int)
  · exact ⟨x.toNatClampNeg, by have := kk_tn h.1; omega, fun _ _ => rfl⟩
  · exact ⟨0, hN, fun a b => absurd ⟨a, b⟩ h⟩
theorem gk_choose2 (N : Nat) (hN : 1 < N) (s : Nat → Nat) (x y : Int32) : ∃ k j : Nat, k < N ∧ j < N ∧ (0 ≤ x.toInt → x.toInt < (N : Int) → some (s x.toNatClampNeg) = some (s k)) ∧ (0 ≤ y.toInt → y.toInt < (N : Int) → some (s y.toNatClampNeg) = some (s j)) := by
  obtain ⟨k, h1, h2⟩ := gk_choose N (by omega) s x
  obtain ⟨j, h3, h4⟩ := gk_choose N (by omega) s y
  exact ⟨k, j, h1, h3, h2, h4⟩
theorem gk_fb {N k : Nat} {n : Nat → Int32} {m : Int32} {lo hi : Int} (h : ∀ j, j < N → lo ≤ (n j).toInt ∧ (n j).toInt ≤ hi) (hm : lo ≤ m.toInt ∧ m.toInt ≤ hi) : ∀ j, j < N → lo ≤ (va_up n k m j).toInt ∧ (va_up n k m j).toInt ≤ hi := by
  intro j hj
  by_cases c : j = k
  · rw [c, va_up_self]
    exact hm
  · rw [va_up_ne _ _ c]
    exact h j hj
theorem kk_cutX {A0 : Nat → Prop} {D : va_G} {cl : List vw_C} {C R : va_W} {H0 H : Heap} {locs : List Loc} (hP : va_P D cl (C ++ R) H) (hD : va_D A0 (C ++ R)) (hS : va_S A0 H0 H locs) (hA : ∀ q, H0.size ≤ q → A0 q) : va_P D cl C H ∧ va_D A0 C ∧ ∀ q, va_A C H.size q → A0 q := by
  have hm : ∀ (k : Nat) (q : Nat × va_E), C[k]? = some q → (C ++ R)[k]? = some q := fun k q h => by
    rw [List.getElem?_append_left (List.getElem?_eq_some_iff.mp h).1]
    exact h
  refine ⟨fun k q h => hP k q (hm k q h), ⟨fun i j p q hi hj e => hD.1 i j p q (hm i p hi) (hm j q hj) e, fun k q h => hD.2 k q (hm k q h)⟩, fun q hq => ?_⟩
  rcases hq with ⟨k, e, h⟩ | h
  · exact hD.2 k _ (hm k _ h)
  · exact hA q (Nat.le_trans hS.1 h)
theorem kk_joinX {A0 : Nat → Prop} {D : va_G} {cl : List vw_C} {C R C1 : va_W} {H H1 : Heap} (hP : va_P D cl (C ++ R) H) (hD : va_D A0 (C ++ R)) (hk : ∀ q : Nat, q < H.size → ¬ va_A C H.size q → H1[q]? = H[q]?) (hF : ∀ q, va_A C H.size q → A0 q) (hP1 : va_P D cl C1 H1) (hD1 : va_D (va_A C H.size) C1) : va_P D cl (C1 ++ R) H1 ∧ va_D A0 (C1 ++ R) := by
  have h := va_joinQ (X := C) (cx := C) (wr := []) (w1 := C1) (pl := R) hP hD (List.range C.length) [] (kk_rangemap C) rfl rfl (fun i h => by cases h) hk hF hP1 hD1
  rw [List.nil_append] at h
  exact h
theorem kk_mvB {C M B R : va_W} : ((C ++ M) ++ (B ++ R)).Perm ((C ++ B) ++ (M ++ R)) := by
  rw [List.append_assoc, List.append_assoc]
  refine List.Perm.append_left C ?_
  rw [← List.append_assoc, ← List.append_assoc]
  exact List.perm_append_comm.append_right R
set_option maxHeartbeats 4000000 in
set_option maxRecDepth 100000 in
theorem k_X9_init_0 (l : Launch) (dC : Nat → ClassId) (dI : Nat → Nat → Nat) (h0 : Nat) (sz : Nat)  : Met l yX9_init wsX9_init ({ frames := 1, cells := 3, slots := 120, locals := 12 }) (va_Pc [.ref h0] (fun U => U.heap.size = sz ∧ va_P (dC, dI) vwCl [(h0, .inr (9, [.null, .null, .null, .int 0]))] U.heap ∧ va_K (dC, dI) vwCl [] U ∧ va_D (fun _ => True) [(h0, .inr (9, [.null, .null, .null, .int 0]))])) (va_Qv (fun (_ : Unit) => True) (fun (_ : Unit) t => ∃ (n0 : Nat) (n1 : Nat) (n2 : Nat) (cint : ClassId) , va_P (dC, dI) vwCl [(h0, .inr (9, [.ref n0, .ref n1, .ref n2, .int 0])), (n0, .inl (cint, 40, .inl (fun _ => 0))), (n1, .inl (cint, 40, .inl (fun _ => 0))), (n2, .inl (cint, 40, .inl (fun _ => 0)))] t.heap ∧ va_K (dC, dI) vwCl [(cint, .int)] t ∧ va_D (va_A [(h0, .inr (9, [.null, .null, .null, .int 0]))] sz) [(h0, .inr (9, [.ref n0, .ref n1, .ref n2, .int 0])), (n0, .inl (cint, 40, .inl (fun _ => 0))), (n1, .inl (cint, 40, .inl (fun _ => 0))), (n2, .inl (cint, 40, .inl (fun _ => 0)))]) (va_A [(h0, .inr (9, [.null, .null, .null, .int 0]))] sz)) 3 120 (va_A [(h0, .inr (9, [.null, .null, .null, .int 0]))] sz) := by
  refine Met.ofW (cc := cX9_init) (maxL := 1) (ret := none) (by decide) rfl ?_
  intro p e s m args below meth c s₁ B hml hv
  obtain ⟨rfl, hsz, hP, hK, hD0⟩ := hv
  have hx := B.exec
  have hb := B.bytes
  have hr := B.returns
  have hts := atoms_spec (ws := wsX9_init) B.pre
  have hown : s.vm.findClass RX9 = some m.cls := findClass_of_methodNamed B.named
  have hlocks := B.notSynchronized
  have hin : meth.name = "<init>" := (name_of_methodNamed B.named B.method).1
  subst hsz
  have hD := hD0.self (sz := s.heap.size)
  generalize hAe : va_A [(h0, .inr (9, [.null, .null, .null, .int 0]))] s.heap.size = A at hD ⊢
  have hA : ∀ q : Nat, s.heap.size ≤ q → A q := fun q h => by rw [← hAe]; exact Or.inr h
  have hS : va_S A s.heap s.heap [] := va_S.rf
  have hP : va_P (dC, dI) vwCl [(h0, .inr (9, [.null, .null, .null, .int 0]))] s.heap := hP
  have hl := lv_entry ([.ref h0]) (n := 1) (Nat.le_of_ble_eq_true rfl)
  rw [lg_entry_eq]
  generalize (lg_sl ([.ref h0]) ++ List.replicate (1 - (lg_sl ([.ref h0])).length) Slot.unset).toArray = ls at hl ⊢
  have hl : lv_has ls 1 [(0, .ref h0)] := hl
  refine lv_aload_n hx hb dX9_init_0 rfl (lv_at hl 0 rfl) ?_
  refine W.objInit hx hb hown (hts (.methodLink RX9 3 objectInit) (List.mem_of_getElem? (i := 1) rfl)) (hts (.instanceMethod objectInit) (List.mem_of_getElem? (i := 2) rfl)) (hts (.code objectInit ⟨#[0xb1]⟩ 1 none) (List.mem_of_getElem? (i := 3) rfl)) rfl (by rw [hml]; exact hl.1) rfl dX9_init_1 (Nat.le_of_ble_eq_true rfl) (Nat.le_of_ble_eq_true rfl) ?_
  refine W.eq (g2 := F0 m 4 ls []) rfl ?_
  refine lv_aload_n hx hb dX9_init_4 rfl (lv_at hl 0 rfl) ?_
  refine lv_bipush (v := 40) hx hb dX9_init_5 (by decide) ?_
  refine va_newa (atype := .int) (ty := .int) (a0 := (40, .inl (fun _ => 0))) hx hb (hts (.arrayClass .int) (List.mem_of_getElem? (i := 4) rfl)) rfl hK hP hD hS hA (fun _ => rfl) (by decide) rfl (Nat.le_of_ble_eq_true rfl) (Nat.le_of_ble_eq_true rfl) (Nat.le_of_ble_eq_true rfl) dX9_init_7 (fun q1 cint H hK hP hD hS => ?_)
  have hK : va_K (dC, dI) vwCl [(cint, .int)] s := hK
  have hP : va_P (dC, dI) vwCl [(h0, .inr (9, [.null, .null, .null, .int 0])), (q1, .inl (cint, 40, .inl (fun _ => 0)))] H := hP
  have hD : va_D A [(h0, .inr (9, [.null, .null, .null, .int 0])), (q1, .inl (cint, 40, .inl (fun _ => 0)))] := hD
  refine va_putF (D := (dC, dI)) (ci := 9) (v := .ref q1) (ty := (.array .int)) (C := RX9) (T := TX9) (N := 4) hx hb hts (fun _ h => List.mem_cons_of_mem _ (List.mem_append_right _ h)) tyX9 tyX9_ok nmX9 hown hK hP hD hS 0 rfl rfl 0 (by decide) (hts (.fieldLink RX9 9 "KinkStreet$Street" "widths" "[I") (List.mem_of_getElem? (i := 5) rfl)) (fun _ h9 => h9) rfl hin rfl (by decide +kernel) rfl rfl (Nat.le_of_ble_eq_true rfl) dX9_init_9 (fun H locs hP hD hS => ?_)
  have hP : va_P (dC, dI) vwCl [(h0, .inr (9, [.ref q1, .null, .null, .int 0])), (q1, .inl (cint, 40, .inl (fun _ => 0)))] H := hP
  have hD : va_D A [(h0, .inr (9, [.ref q1, .null, .null, .int 0])), (q1, .inl (cint, 40, .inl (fun _ => 0)))] := hD
  refine lv_aload_n hx hb dX9_init_12 rfl (lv_at hl 0 rfl) ?_
  refine lv_bipush (v := 40) hx hb dX9_init_13 (by decide) ?_
  refine va_newa (atype := .int) (ty := .int) (a0 := (40, .inl (fun _ => 0))) hx hb (hts (.arrayClass .int) (List.mem_of_getElem? (i := 4) rfl)) rfl hK hP hD hS hA (fun _ => rfl) (by decide) rfl (Nat.le_of_ble_eq_true rfl) (Nat.le_of_ble_eq_true rfl) (Nat.le_of_ble_eq_true rfl) dX9_init_15 (fun q2 cint_n H hK hP hD hS => ?_)
  obtain rfl : cint = cint_n := kk_uni hK 0 1 rfl rfl
  have hK : va_K (dC, dI) vwCl [(cint, .int)] s := hK.sub [0] rfl
  have hP : va_P (dC, dI) vwCl [(h0, .inr (9, [.ref q1, .null, .null, .int 0])), (q1, .inl (cint, 40, .inl (fun _ => 0))), (q2, .inl (cint, 40, .inl (fun _ => 0)))] H := hP
  have hD : va_D A [(h0, .inr (9, [.ref q1, .null, .null, .int 0])), (q1, .inl (cint, 40, .inl (fun _ => 0))), (q2, .inl (cint, 40, .inl (fun _ => 0)))] := hD
  refine va_putF (D := (dC, dI)) (ci := 9) (v := .ref q2) (ty := (.array .int)) (C := RX9) (T := TX9) (N := 4) hx hb hts (fun _ h => List.mem_cons_of_mem _ (List.mem_append_right _ h)) tyX9 tyX9_ok nmX9 hown hK hP hD hS 0 rfl rfl 1 (by decide) (hts (.fieldLink RX9 15 "KinkStreet$Street" "depths" "[I") (List.mem_of_getElem? (i := 6) rfl)) (fun _ h9 => h9) rfl hin rfl (by decide +kernel) rfl rfl (Nat.le_of_ble_eq_true rfl) dX9_init_17 (fun H locs hP hD hS => ?_)
  have hP : va_P (dC, dI) vwCl [(h0, .inr (9, [.ref q1, .ref q2, .null, .int 0])), (q1, .inl (cint, 40, .inl (fun _ => 0))), (q2, .inl (cint, 40, .inl (fun _ => 0)))] H := hP
  have hD : va_D A [(h0, .inr (9, [.ref q1, .ref q2, .null, .int 0])), (q1, .inl (cint, 40, .inl (fun _ => 0))), (q2, .inl (cint, 40, .inl (fun _ => 0)))] := hD
  refine lv_aload_n hx hb dX9_init_20 rfl (lv_at hl 0 rfl) ?_
  refine lv_bipush (v := 40) hx hb dX9_init_21 (by decide) ?_
  refine va_newa (atype := .int) (ty := .int) (a0 := (40, .inl (fun _ => 0))) hx hb (hts (.arrayClass .int) (List.mem_of_getElem? (i := 4) rfl)) rfl hK hP hD hS hA (fun _ => rfl) (by decide) rfl (Nat.le_of_ble_eq_true rfl) (Nat.le_of_ble_eq_true rfl) (Nat.le_of_ble_eq_true rfl) dX9_init_23 (fun q3 cint_n H hK hP hD hS => ?_)
  obtain rfl : cint = cint_n := kk_uni hK 0 1 rfl rfl
  have hK : va_K (dC, dI) vwCl [(cint, .int)] s := hK.sub [0] rfl
  have hP : va_P (dC, dI) vwCl [(h0, .inr (9, [.ref q1, .ref q2, .null, .int 0])), (q1, .inl (cint, 40, .inl (fun _ => 0))), (q2, .inl (cint, 40, .inl (fun _ => 0))), (q3, .inl (cint, 40, .inl (fun _ => 0)))] H := hP
  have hD : va_D A [(h0, .inr (9, [.ref q1, .ref q2, .null, .int 0])), (q1, .inl (cint, 40, .inl (fun _ => 0))), (q2, .inl (cint, 40, .inl (fun _ => 0))), (q3, .inl (cint, 40, .inl (fun _ => 0)))] := hD
  refine va_putF (D := (dC, dI)) (ci := 9) (v := .ref q3) (ty := (.array .int)) (C := RX9) (T := TX9) (N := 4) hx hb hts (fun _ h => List.mem_cons_of_mem _ (List.mem_append_right _ h)) tyX9 tyX9_ok nmX9 hown hK hP hD hS 0 rfl rfl 2 (by decide) (hts (.fieldLink RX9 18 "KinkStreet$Street" "asides" "[I") (List.mem_of_getElem? (i := 7) rfl)) (fun _ h9 => h9) rfl hin rfl (by decide +kernel) rfl rfl (Nat.le_of_ble_eq_true rfl) dX9_init_25 (fun H locs hP hD hS => ?_)
  have hP : va_P (dC, dI) vwCl [(h0, .inr (9, [.ref q1, .ref q2, .ref q3, .int 0])), (q1, .inl (cint, 40, .inl (fun _ => 0))), (q2, .inl (cint, 40, .inl (fun _ => 0))), (q3, .inl (cint, 40, .inl (fun _ => 0)))] H := hP
  have hD : va_D A [(h0, .inr (9, [.ref q1, .ref q2, .ref q3, .int 0])), (q1, .inl (cint, 40, .inl (fun _ => 0))), (q2, .inl (cint, 40, .inl (fun _ => 0))), (q3, .inl (cint, 40, .inl (fun _ => 0)))] := hD
  have hP9 : va_P (dC, dI) vwCl [(h0, .inr (9, [.ref q1, .ref q2, .ref q3, .int 0])), (q1, .inl (cint, 40, .inl (fun _ => 0))), (q2, .inl (cint, 40, .inl (fun _ => 0))), (q3, .inl (cint, 40, .inl (fun _ => 0)))] H := hP.sub (ws' := [(h0, .inr (9, [.ref q1, .ref q2, .ref q3, .int 0])), (q1, .inl (cint, 40, .inl (fun _ => 0))), (q2, .inl (cint, 40, .inl (fun _ => 0))), (q3, .inl (cint, 40, .inl (fun _ => 0)))]) [0, 1, 2, 3] rfl
  have hD9 : va_D A [(h0, .inr (9, [.ref q1, .ref q2, .ref q3, .int 0])), (q1, .inl (cint, 40, .inl (fun _ => 0))), (q2, .inl (cint, 40, .inl (fun _ => 0))), (q3, .inl (cint, 40, .inl (fun _ => 0)))] := hD.sub (ws' := [(h0, .inr (9, [.ref q1, .ref q2, .ref q3, .int 0])), (q1, .inl (cint, 40, .inl (fun _ => 0))), (q2, .inl (cint, 40, .inl (fun _ => 0))), (q3, .inl (cint, 40, .inl (fun _ => 0)))]) [0, 1, 2, 3] (by decide) rfl
  have hK9 := hK.sub (tys' := [(cint, .int)]) [0] rfl
  refine W.widen (k := 3) (n := 120) (Nat.le_of_ble_eq_true rfl) (Nat.le_of_ble_eq_true rfl) ?_
  exact W.vret hx hb hr (fun t ht hW => ⟨⟨(), rfl, trivial, q1, q2, q3, cint, by rw [ht]; exact hP9, va_K.moved hW.alike hK9, hD9⟩, hS.F ht⟩) hS.2.2 dX9_init_28
set_option maxHeartbeats 4000000 in
set_option maxRecDepth 100000 in
theorem k_X1_init_0 (l : Launch) (dC : Nat → ClassId) (dI : Nat → Nat → Nat) (h0 : Nat) (sz : Nat)  : Met l yX1_init wsX1_init ({ frames := 1, cells := 4, slots := 160, locals := 12 }) (va_Pc [.ref h0] (fun U => U.heap.size = sz ∧ va_P (dC, dI) vwCl [(h0, .inr (1, [.null, .null, .null, .null, .int 0, .int 0]))] U.heap ∧ va_K (dC, dI) vwCl [] U ∧ va_D (fun _ => True) [(h0, .inr (1, [.null, .null, .null, .null, .int 0, .int 0]))])) (va_Qv (fun (_ : Unit) => True) (fun (_ : Unit) t => ∃ (n0 : Nat) (n1 : Nat) (n2 : Nat) (n3 : Nat) (cint : ClassId) , va_P (dC, dI) vwCl [(h0, .inr (1, [.ref n0, .ref n1, .ref n2, .ref n3, .int 0, .int 0])), (n0, .inl (cint, 40, .inl (fun _ => 0))), (n1, .inl (cint, 40, .inl (fun _ => 0))), (n2, .inl (cint, 40, .inl (fun _ => 0))), (n3, .inl (cint, 40, .inl (fun _ => 0)))] t.heap ∧ va_K (dC, dI) vwCl [(cint, .int)] t ∧ va_D (va_A [(h0, .inr (1, [.null, .null, .null, .null, .int 0, .int 0]))] sz) [(h0, .inr (1, [.ref n0, .ref n1, .ref n2, .ref n3, .int 0, .int 0])), (n0, .inl (cint, 40, .inl (fun _ => 0))), (n1, .inl (cint, 40, .inl (fun _ => 0))), (n2, .inl (cint, 40, .inl (fun _ => 0))), (n3, .inl (cint, 40, .inl (fun _ => 0)))]) (va_A [(h0, .inr (1, [.null, .null, .null, .null, .int 0, .int 0]))] sz)) 4 160 (va_A [(h0, .inr (1, [.null, .null, .null, .null, .int 0, .int 0]))] sz) := by
  refine Met.ofW (cc := cX1_init) (maxL := 1) (ret := none) (by decide) rfl ?_
  intro p e s m args below meth c s₁ B hml hv
  obtain ⟨rfl, hsz, hP, hK, hD0⟩ := hv
  have hx := B.exec
  have hb := B.bytes
  have hr := B.returns
  have hts := atoms_spec (ws := wsX1_init) B.pre
  have hown : s.vm.findClass RX1 = some m.cls := findClass_of_methodNamed B.named
  have hlocks := B.notSynchronized
  have hin : meth.name = "<init>" := (name_of_methodNamed B.named B.method).1
  subst hsz
  have hD := hD0.self (sz := s.heap.size)
  generalize hAe : va_A [(h0, .inr (1, [.null, .null, .null, .null, .int 0, .int 0]))] s.heap.size = A at hD ⊢
  have hA : ∀ q : Nat, s.heap.size ≤ q → A q := fun q h => by rw [← hAe]; exact Or.inr h
  have hS : va_S A s.heap s.heap [] := va_S.rf
  have hP : va_P (dC, dI) vwCl [(h0, .inr (1, [.null, .null, .null, .null, .int 0, .int 0]))] s.heap := hP
  have hl := lv_entry ([.ref h0]) (n := 1) (Nat.le_of_ble_eq_true rfl)
  rw [lg_entry_eq]
  generalize (lg_sl ([.ref h0]) ++ List.replicate (1 - (lg_sl ([.ref h0])).length) Slot.unset).toArray = ls at hl ⊢
  have hl : lv_has ls 1 [(0, .ref h0)] := hl
  refine lv_aload_n hx hb dX1_init_0 rfl (lv_at hl 0 rfl) ?_
  refine W.objInit hx hb hown (hts (.methodLink RX1 1 objectInit) (List.mem_of_getElem? (i := 1) rfl)) (hts (.instanceMethod objectInit) (List.mem_of_getElem? (i := 2) rfl)) (hts (.code objectInit ⟨#[0xb1]⟩ 1 none) (List.mem_of_getElem? (i := 3) rfl)) rfl (by rw [hml]; exact hl.1) rfl dX1_init_1 (Nat.le_of_ble_eq_true rfl) (Nat.le_of_ble_eq_true rfl) ?_
  refine W.eq (g2 := F0 m 4 ls []) rfl ?_
  refine lv_aload_n hx hb dX1_init_4 rfl (lv_at hl 0 rfl) ?_
  refine lv_bipush (v := 40) hx hb dX1_init_5 (by decide) ?_
  refine va_newa (atype := .int) (ty := .int) (a0 := (40, .inl (fun _ => 0))) hx hb (hts (.arrayClass .int) (List.mem_of_getElem? (i := 4) rfl)) rfl hK hP hD hS hA (fun _ => rfl) (by decide) rfl (Nat.le_of_ble_eq_true rfl) (Nat.le_of_ble_eq_true rfl) (Nat.le_of_ble_eq_true rfl) dX1_init_7 (fun q1 cint H hK hP hD hS => ?_)
  have hK : va_K (dC, dI) vwCl [(cint, .int)] s := hK
  have hP : va_P (dC, dI) vwCl [(h0, .inr (1, [.null, .null, .null, .null, .int 0, .int 0])), (q1, .inl (cint, 40, .inl (fun _ => 0)))] H := hP
  have hD : va_D A [(h0, .inr (1, [.null, .null, .null, .null, .int 0, .int 0])), (q1, .inl (cint, 40, .inl (fun _ => 0)))] := hD
  refine va_putF (D := (dC, dI)) (ci := 1) (v := .ref q1) (ty := (.array .int)) (C := RX1) (T := TX1) (N := 6) hx hb hts (fun _ h => List.mem_cons_of_mem _ (List.mem_append_right _ h)) tyX1 tyX1_ok nmX1 hown hK hP hD hS 0 rfl rfl 0 (by decide) (hts (.fieldLink RX1 9 "KinkStreet$Changes" "plots" "[I") (List.mem_of_getElem? (i := 5) rfl)) (fun _ h9 => h9) rfl hin rfl (by decide +kernel) rfl rfl (Nat.le_of_ble_eq_true rfl) dX1_init_9 (fun H locs hP hD hS => ?_)
  have hP : va_P (dC, dI) vwCl [(h0, .inr (1, [.ref q1, .null, .null, .null, .int 0, .int 0])), (q1, .inl (cint, 40, .inl (fun _ => 0)))] H := hP
  have hD : va_D A [(h0, .inr (1, [.ref q1, .null, .null, .null, .int 0, .int 0])), (q1, .inl (cint, 40, .inl (fun _ => 0)))] := hD
  refine lv_aload_n hx hb dX1_init_12 rfl (lv_at hl 0 rfl) ?_
  refine lv_bipush (v := 40) hx hb dX1_init_13 (by decide) ?_
  refine va_newa (atype := .int) (ty := .int) (a0 := (40, .inl (fun _ => 0))) hx hb (hts (.arrayClass .int) (List.mem_of_getElem? (i := 4) rfl)) rfl hK hP hD hS hA (fun _ => rfl) (by decide) rfl (Nat.le_of_ble_eq_true rfl) (Nat.le_of_ble_eq_true rfl) (Nat.le_of_ble_eq_true rfl) dX1_init_15 (fun q2 cint_n H hK hP hD hS => ?_)
  obtain rfl : cint = cint_n := kk_uni hK 0 1 rfl rfl
  have hK : va_K (dC, dI) vwCl [(cint, .int)] s := hK.sub [0] rfl
  have hP : va_P (dC, dI) vwCl [(h0, .inr (1, [.ref q1, .null, .null, .null, .int 0, .int 0])), (q1, .inl (cint, 40, .inl (fun _ => 0))), (q2, .inl (cint, 40, .inl (fun _ => 0)))] H := hP
  have hD : va_D A [(h0, .inr (1, [.ref q1, .null, .null, .null, .int 0, .int 0])), (q1, .inl (cint, 40, .inl (fun _ => 0))), (q2, .inl (cint, 40, .inl (fun _ => 0)))] := hD
  refine va_putF (D := (dC, dI)) (ci := 1) (v := .ref q2) (ty := (.array .int)) (C := RX1) (T := TX1) (N := 6) hx hb hts (fun _ h => List.mem_cons_of_mem _ (List.mem_append_right _ h)) tyX1 tyX1_ok nmX1 hown hK hP hD hS 0 rfl rfl 1 (by decide) (hts (.fieldLink RX1 13 "KinkStreet$Changes" "whats" "[I") (List.mem_of_getElem? (i := 6) rfl)) (fun _ h9 => h9) rfl hin rfl (by decide +kernel) rfl rfl (Nat.le_of_ble_eq_true rfl) dX1_init_17 (fun H locs hP hD hS => ?_)
  have hP : va_P (dC, dI) vwCl [(h0, .inr (1, [.ref q1, .ref q2, .null, .null, .int 0, .int 0])), (q1, .inl (cint, 40, .inl (fun _ => 0))), (q2, .inl (cint, 40, .inl (fun _ => 0)))] H := hP
  have hD : va_D A [(h0, .inr (1, [.ref q1, .ref q2, .null, .null, .int 0, .int 0])), (q1, .inl (cint, 40, .inl (fun _ => 0))), (q2, .inl (cint, 40, .inl (fun _ => 0)))] := hD
  refine lv_aload_n hx hb dX1_init_20 rfl (lv_at hl 0 rfl) ?_
  refine lv_bipush (v := 40) hx hb dX1_init_21 (by decide) ?_
  refine va_newa (atype := .int) (ty := .int) (a0 := (40, .inl (fun _ => 0))) hx hb (hts (.arrayClass .int) (List.mem_of_getElem? (i := 4) rfl)) rfl hK hP hD hS hA (fun _ => rfl) (by decide) rfl (Nat.le_of_ble_eq_true rfl) (Nat.le_of_ble_eq_true rfl) (Nat.le_of_ble_eq_true rfl) dX1_init_23 (fun q3 cint_n H hK hP hD hS => ?_)
  obtain rfl : cint = cint_n := kk_uni hK 0 1 rfl rfl
  have hK : va_K (dC, dI) vwCl [(cint, .int)] s := hK.sub [0] rfl
  have hP : va_P (dC, dI) vwCl [(h0, .inr (1, [.ref q1, .ref q2, .null, .null, .int 0, .int 0])), (q1, .inl (cint, 40, .inl (fun _ => 0))), (q2, .inl (cint, 40, .inl (fun _ => 0))), (q3, .inl (cint, 40, .inl (fun _ => 0)))] H := hP
  have hD : va_D A [(h0, .inr (1, [.ref q1, .ref q2, .null, .null, .int 0, .int 0])), (q1, .inl (cint, 40, .inl (fun _ => 0))), (q2, .inl (cint, 40, .inl (fun _ => 0))), (q3, .inl (cint, 40, .inl (fun _ => 0)))] := hD
  refine va_putF (D := (dC, dI)) (ci := 1) (v := .ref q3) (ty := (.array .int)) (C := RX1) (T := TX1) (N := 6) hx hb hts (fun _ h => List.mem_cons_of_mem _ (List.mem_append_right _ h)) tyX1 tyX1_ok nmX1 hown hK hP hD hS 0 rfl rfl 2 (by decide) (hts (.fieldLink RX1 16 "KinkStreet$Changes" "befores" "[I") (List.mem_of_getElem? (i := 7) rfl)) (fun _ h9 => h9) rfl hin rfl (by decide +kernel) rfl rfl (Nat.le_of_ble_eq_true rfl) dX1_init_25 (fun H locs hP hD hS => ?_)
  have hP : va_P (dC, dI) vwCl [(h0, .inr (1, [.ref q1, .ref q2, .ref q3, .null, .int 0, .int 0])), (q1, .inl (cint, 40, .inl (fun _ => 0))), (q2, .inl (cint, 40, .inl (fun _ => 0))), (q3, .inl (cint, 40, .inl (fun _ => 0)))] H := hP
  have hD : va_D A [(h0, .inr (1, [.ref q1, .ref q2, .ref q3, .null, .int 0, .int 0])), (q1, .inl (cint, 40, .inl (fun _ => 0))), (q2, .inl (cint, 40, .inl (fun _ => 0))), (q3, .inl (cint, 40, .inl (fun _ => 0)))] := hD
  refine lv_aload_n hx hb dX1_init_28 rfl (lv_at hl 0 rfl) ?_
  refine lv_bipush (v := 40) hx hb dX1_init_29 (by decide) ?_
  refine va_newa (atype := .int) (ty := .int) (a0 := (40, .inl (fun _ => 0))) hx hb (hts (.arrayClass .int) (List.mem_of_getElem? (i := 4) rfl)) rfl hK hP hD hS hA (fun _ => rfl) (by decide) rfl (Nat.le_of_ble_eq_true rfl) (Nat.le_of_ble_eq_true rfl) (Nat.le_of_ble_eq_true rfl) dX1_init_31 (fun q4 cint_n H hK hP hD hS => ?_)
  obtain rfl : cint = cint_n := kk_uni hK 0 1 rfl rfl
  have hK : va_K (dC, dI) vwCl [(cint, .int)] s := hK.sub [0] rfl
  have hP : va_P (dC, dI) vwCl [(h0, .inr (1, [.ref q1, .ref q2, .ref q3, .null, .int 0, .int 0])), (q1, .inl (cint, 40, .inl (fun _ => 0))), (q2, .inl (cint, 40, .inl (fun _ => 0))), (q3, .inl (cint, 40, .inl (fun _ => 0))), (q4, .inl (cint, 40, .inl (fun _ => 0)))] H := hP
  have hD : va_D A [(h0, .inr (1, [.ref q1, .ref q2, .ref q3, .null, .int 0, .int 0])), (q1, .inl (cint, 40, .inl (fun _ => 0))), (q2, .inl (cint, 40, .inl (fun _ => 0))), (q3, .inl (cint, 40, .inl (fun _ => 0))), (q4, .inl (cint, 40, .inl (fun _ => 0)))] := hD
  refine va_putF (D := (dC, dI)) (ci := 1) (v := .ref q4) (ty := (.array .int)) (C := RX1) (T := TX1) (N := 6) hx hb hts (fun _ h => List.mem_cons_of_mem _ (List.mem_append_right _ h)) tyX1 tyX1_ok nmX1 hown hK hP hD hS 0 rfl rfl 3 (by decide) (hts (.fieldLink RX1 19 "KinkStreet$Changes" "afters" "[I") (List.mem_of_getElem? (i := 8) rfl)) (fun _ h9 => h9) rfl hin rfl (by decide +kernel) rfl rfl (Nat.le_of_ble_eq_true rfl) dX1_init_33 (fun H locs hP hD hS => ?_)
  have hP : va_P (dC, dI) vwCl [(h0, .inr (1, [.ref q1, .ref q2, .ref q3, .ref q4, .int 0, .int 0])), (q1, .inl (cint, 40, .inl (fun _ => 0))), (q2, .inl (cint, 40, .inl (fun _ => 0))), (q3, .inl (cint, 40, .inl (fun _ => 0))), (q4, .inl (cint, 40, .inl (fun _ => 0)))] H := hP
  have hD : va_D A [(h0, .inr (1, [.ref q1, .ref q2, .ref q3, .ref q4, .int 0, .int 0])), (q1, .inl (cint, 40, .inl (fun _ => 0))), (q2, .inl (cint, 40, .inl (fun _ => 0))), (q3, .inl (cint, 40, .inl (fun _ => 0))), (q4, .inl (cint, 40, .inl (fun _ => 0)))] := hD
  have hP9 : va_P (dC, dI) vwCl [(h0, .inr (1, [.ref q1, .ref q2, .ref q3, .ref q4, .int 0, .int 0])), (q1, .inl (cint, 40, .inl (fun _ => 0))), (q2, .inl (cint, 40, .inl (fun _ => 0))), (q3, .inl (cint, 40, .inl (fun _ => 0))), (q4, .inl (cint, 40, .inl (fun _ => 0)))] H := hP.sub (ws' := [(h0, .inr (1, [.ref q1, .ref q2, .ref q3, .ref q4, .int 0, .int 0])), (q1, .inl (cint, 40, .inl (fun _ => 0))), (q2, .inl (cint, 40, .inl (fun _ => 0))), (q3, .inl (cint, 40, .inl (fun _ => 0))), (q4, .inl (cint, 40, .inl (fun _ => 0)))]) [0, 1, 2, 3, 4] rfl
  have hD9 : va_D A [(h0, .inr (1, [.ref q1, .ref q2, .ref q3, .ref q4, .int 0, .int 0])), (q1, .inl (cint, 40, .inl (fun _ => 0))), (q2, .inl (cint, 40, .inl (fun _ => 0))), (q3, .inl (cint, 40, .inl (fun _ => 0))), (q4, .inl (cint, 40, .inl (fun _ => 0)))] := hD.sub (ws' := [(h0, .inr (1, [.ref q1, .ref q2, .ref q3, .ref q4, .int 0, .int 0])), (q1, .inl (cint, 40, .inl (fun _ => 0))), (q2, .inl (cint, 40, .inl (fun _ => 0))), (q3, .inl (cint, 40, .inl (fun _ => 0))), (q4, .inl (cint, 40, .inl (fun _ => 0)))]) [0, 1, 2, 3, 4] (by decide) rfl
  have hK9 := hK.sub (tys' := [(cint, .int)]) [0] rfl
  refine W.widen (k := 4) (n := 160) (Nat.le_of_ble_eq_true rfl) (Nat.le_of_ble_eq_true rfl) ?_
  exact W.vret hx hb hr (fun t ht hW => ⟨⟨(), rfl, trivial, q1, q2, q3, q4, cint, by rw [ht]; exact hP9, va_K.moved hW.alike hK9, hD9⟩, hS.F ht⟩) hS.2.2 dX1_init_36
set_option maxHeartbeats 4000000 in
set_option maxRecDepth 100000 in
theorem k_X7_init_0 (l : Launch) (dC : Nat → ClassId) (dI : Nat → Nat → Nat) (h0 : Nat) (sz : Nat)  : Met l yX7_init wsX7_init ({ frames := 1, cells := 1, slots := 40, locals := 12 }) (va_Pc [.ref h0] (fun U => U.heap.size = sz ∧ va_P (dC, dI) vwCl [(h0, .inr (7, [.null, .int 0]))] U.heap ∧ va_K (dC, dI) vwCl [] U ∧ va_D (fun _ => True) [(h0, .inr (7, [.null, .int 0]))])) (va_Qv (fun (_ : Unit) => True) (fun (_ : Unit) t => ∃ (n0 : Nat) (cint : ClassId) , va_P (dC, dI) vwCl [(h0, .inr (7, [.ref n0, .int 0])), (n0, .inl (cint, 40, .inl (fun _ => 0)))] t.heap ∧ va_K (dC, dI) vwCl [(cint, .int)] t ∧ va_D (va_A [(h0, .inr (7, [.null, .int 0]))] sz) [(h0, .inr (7, [.ref n0, .int 0])), (n0, .inl (cint, 40, .inl (fun _ => 0)))]) (va_A [(h0, .inr (7, [.null, .int 0]))] sz)) 1 40 (va_A [(h0, .inr (7, [.null, .int 0]))] sz) := by
  refine Met.ofW (cc := cX7_init) (maxL := 1) (ret := none) (by decide) rfl ?_
  intro p e s m args below meth c s₁ B hml hv
  obtain ⟨rfl, hsz, hP, hK, hD0⟩ := hv
  have hx := B.exec
  have hb := B.bytes
  have hr := B.returns
  have hts := atoms_spec (ws := wsX7_init) B.pre
  have hown : s.vm.findClass RX7 = some m.cls := findClass_of_methodNamed B.named
  have hlocks := B.notSynchronized
  have hin : meth.name = "<init>" := (name_of_methodNamed B.named B.method).1
  subst hsz
  have hD := hD0.self (sz := s.heap.size)
  generalize hAe : va_A [(h0, .inr (7, [.null, .int 0]))] s.heap.size = A at hD ⊢
  have hA : ∀ q : Nat, s.heap.size ≤ q → A q := fun q h => by rw [← hAe]; exact Or.inr h
  have hS : va_S A s.heap s.heap [] := va_S.rf
  have hP : va_P (dC, dI) vwCl [(h0, .inr (7, [.null, .int 0]))] s.heap := hP
  have hl := lv_entry ([.ref h0]) (n := 1) (Nat.le_of_ble_eq_true rfl)
  rw [lg_entry_eq]
  generalize (lg_sl ([.ref h0]) ++ List.replicate (1 - (lg_sl ([.ref h0])).length) Slot.unset).toArray = ls at hl ⊢
  have hl : lv_has ls 1 [(0, .ref h0)] := hl
  refine lv_aload_n hx hb dX7_init_0 rfl (lv_at hl 0 rfl) ?_
  refine W.objInit hx hb hown (hts (.methodLink RX7 3 objectInit) (List.mem_of_getElem? (i := 1) rfl)) (hts (.instanceMethod objectInit) (List.mem_of_getElem? (i := 2) rfl)) (hts (.code objectInit ⟨#[0xb1]⟩ 1 none) (List.mem_of_getElem? (i := 3) rfl)) rfl (by rw [hml]; exact hl.1) rfl dX7_init_1 (Nat.le_of_ble_eq_true rfl) (Nat.le_of_ble_eq_true rfl) ?_
  refine W.eq (g2 := F0 m 4 ls []) rfl ?_
  refine lv_aload_n hx hb dX7_init_4 rfl (lv_at hl 0 rfl) ?_
  refine lv_bipush (v := 40) hx hb dX7_init_5 (by decide) ?_
  refine va_newa (atype := .int) (ty := .int) (a0 := (40, .inl (fun _ => 0))) hx hb (hts (.arrayClass .int) (List.mem_of_getElem? (i := 4) rfl)) rfl hK hP hD hS hA (fun _ => rfl) (by decide) rfl (Nat.le_of_ble_eq_true rfl) (Nat.le_of_ble_eq_true rfl) (Nat.le_of_ble_eq_true rfl) dX7_init_7 (fun q1 cint H hK hP hD hS => ?_)
  have hK : va_K (dC, dI) vwCl [(cint, .int)] s := hK
  have hP : va_P (dC, dI) vwCl [(h0, .inr (7, [.null, .int 0])), (q1, .inl (cint, 40, .inl (fun _ => 0)))] H := hP
  have hD : va_D A [(h0, .inr (7, [.null, .int 0])), (q1, .inl (cint, 40, .inl (fun _ => 0)))] := hD
  refine va_putF (D := (dC, dI)) (ci := 7) (v := .ref q1) (ty := (.array .int)) (C := RX7) (T := TX7) (N := 2) hx hb hts (fun _ h => List.mem_cons_of_mem _ (List.mem_append_right _ h)) tyX7 tyX7_ok nmX7 hown hK hP hD hS 0 rfl rfl 0 (by decide) (hts (.fieldLink RX7 9 "KinkStreet$Rods" "widths" "[I") (List.mem_of_getElem? (i := 5) rfl)) (fun _ h9 => h9) rfl hin rfl (by decide +kernel) rfl rfl (Nat.le_of_ble_eq_true rfl) dX7_init_9 (fun H locs hP hD hS => ?_)
  have hP : va_P (dC, dI) vwCl [(h0, .inr (7, [.ref q1, .int 0])), (q1, .inl (cint, 40, .inl (fun _ => 0)))] H := hP
  have hD : va_D A [(h0, .inr (7, [.ref q1, .int 0])), (q1, .inl (cint, 40, .inl (fun _ => 0)))] := hD
  have hP9 : va_P (dC, dI) vwCl [(h0, .inr (7, [.ref q1, .int 0])), (q1, .inl (cint, 40, .inl (fun _ => 0)))] H := hP.sub (ws' := [(h0, .inr (7, [.ref q1, .int 0])), (q1, .inl (cint, 40, .inl (fun _ => 0)))]) [0, 1] rfl
  have hD9 : va_D A [(h0, .inr (7, [.ref q1, .int 0])), (q1, .inl (cint, 40, .inl (fun _ => 0)))] := hD.sub (ws' := [(h0, .inr (7, [.ref q1, .int 0])), (q1, .inl (cint, 40, .inl (fun _ => 0)))]) [0, 1] (by decide) rfl
  have hK9 := hK.sub (tys' := [(cint, .int)]) [0] rfl
  refine W.widen (k := 1) (n := 40) (Nat.le_of_ble_eq_true rfl) (Nat.le_of_ble_eq_true rfl) ?_
  exact W.vret hx hb hr (fun t ht hW => ⟨⟨(), rfl, trivial, q1, cint, by rw [ht]; exact hP9, va_K.moved hW.alike hK9, hD9⟩, hS.F ht⟩) hS.2.2 dX7_init_12
set_option maxHeartbeats 4000000 in
set_option maxRecDepth 100000 in
theorem k_X3_init_0 (l : Launch) (dC : Nat → ClassId) (dI : Nat → Nat → Nat) (h0 : Nat) (sz : Nat)  : Met l yX3_init wsX3_init ({ frames := 1, cells := 4, slots := 164, locals := 12 }) (va_Pc [.ref h0] (fun U => U.heap.size = sz ∧ va_P (dC, dI) vwCl [(h0, .inr (3, [.null, .null, .null, .null]))] U.heap ∧ va_K (dC, dI) vwCl [] U ∧ va_D (fun _ => True) [(h0, .inr (3, [.null, .null, .null, .null]))])) (va_Qv (fun (_ : Unit) => True) (fun (_ : Unit) t => ∃ (n0 : Nat) (n1 : Nat) (n2 : Nat) (n3 : Nat) (cint : ClassId) , va_P (dC, dI) vwCl [(h0, .inr (3, [.ref n0, .ref n1, .ref n2, .ref n3])), (n0, .inl (cint, 41, .inl (fun _ => 0))), (n1, .inl (cint, 41, .inl (fun _ => 0))), (n2, .inl (cint, 41, .inl (fun _ => 0))), (n3, .inl (cint, 41, .inl (fun _ => 0)))] t.heap ∧ va_K (dC, dI) vwCl [(cint, .int)] t ∧ va_D (va_A [(h0, .inr (3, [.null, .null, .null, .null]))] sz) [(h0, .inr (3, [.ref n0, .ref n1, .ref n2, .ref n3])), (n0, .inl (cint, 41, .inl (fun _ => 0))), (n1, .inl (cint, 41, .inl (fun _ => 0))), (n2, .inl (cint, 41, .inl (fun _ => 0))), (n3, .inl (cint, 41, .inl (fun _ => 0)))]) (va_A [(h0, .inr (3, [.null, .null, .null, .null]))] sz)) 4 164 (va_A [(h0, .inr (3, [.null, .null, .null, .null]))] sz) := by
  refine Met.ofW (cc := cX3_init) (maxL := 1) (ret := none) (by decide) rfl ?_
  intro p e s m args below meth c s₁ B hml hv
  obtain ⟨rfl, hsz, hP, hK, hD0⟩ := hv
  have hx := B.exec
  have hb := B.bytes
  have hr := B.returns
  have hts := atoms_spec (ws := wsX3_init) B.pre
  have hown : s.vm.findClass RX3 = some m.cls := findClass_of_methodNamed B.named
  have hlocks := B.notSynchronized
  have hin : meth.name = "<init>" := (name_of_methodNamed B.named B.method).1
  subst hsz
  have hD := hD0.self (sz := s.heap.size)
  generalize hAe : va_A [(h0, .inr (3, [.null, .null, .null, .null]))] s.heap.size = A at hD ⊢
  have hA : ∀ q : Nat, s.heap.size ≤ q → A q := fun q h => by rw [← hAe]; exact Or.inr h
  have hS : va_S A s.heap s.heap [] := va_S.rf
  have hP : va_P (dC, dI) vwCl [(h0, .inr (3, [.null, .null, .null, .null]))] s.heap := hP
  have hl := lv_entry ([.ref h0]) (n := 1) (Nat.le_of_ble_eq_true rfl)
  rw [lg_entry_eq]
  generalize (lg_sl ([.ref h0]) ++ List.replicate (1 - (lg_sl ([.ref h0])).length) Slot.unset).toArray = ls at hl ⊢
  have hl : lv_has ls 1 [(0, .ref h0)] := hl
  refine lv_aload_n hx hb dX3_init_0 rfl (lv_at hl 0 rfl) ?_
  refine W.objInit hx hb hown (hts (.methodLink RX3 3 objectInit) (List.mem_of_getElem? (i := 1) rfl)) (hts (.instanceMethod objectInit) (List.mem_of_getElem? (i := 2) rfl)) (hts (.code objectInit ⟨#[0xb1]⟩ 1 none) (List.mem_of_getElem? (i := 3) rfl)) rfl (by rw [hml]; exact hl.1) rfl dX3_init_1 (Nat.le_of_ble_eq_true rfl) (Nat.le_of_ble_eq_true rfl) ?_
  refine W.eq (g2 := F0 m 4 ls []) rfl ?_
  refine lv_aload_n hx hb dX3_init_4 rfl (lv_at hl 0 rfl) ?_
  refine lv_bipush (v := 41) hx hb dX3_init_5 (by decide) ?_
  refine va_newa (atype := .int) (ty := .int) (a0 := (41, .inl (fun _ => 0))) hx hb (hts (.arrayClass .int) (List.mem_of_getElem? (i := 4) rfl)) rfl hK hP hD hS hA (fun _ => rfl) (by decide) rfl (Nat.le_of_ble_eq_true rfl) (Nat.le_of_ble_eq_true rfl) (Nat.le_of_ble_eq_true rfl) dX3_init_7 (fun q1 cint H hK hP hD hS => ?_)
  have hK : va_K (dC, dI) vwCl [(cint, .int)] s := hK
  have hP : va_P (dC, dI) vwCl [(h0, .inr (3, [.null, .null, .null, .null])), (q1, .inl (cint, 41, .inl (fun _ => 0)))] H := hP
  have hD : va_D A [(h0, .inr (3, [.null, .null, .null, .null])), (q1, .inl (cint, 41, .inl (fun _ => 0)))] := hD
  refine va_putF (D := (dC, dI)) (ci := 3) (v := .ref q1) (ty := (.array .int)) (C := RX3) (T := TX3) (N := 4) hx hb hts (fun _ h => List.mem_cons_of_mem _ (List.mem_append_right _ h)) tyX3 tyX3_ok nmX3 hown hK hP hD hS 0 rfl rfl 0 (by decide) (hts (.fieldLink RX3 9 "KinkStreet$FirstPlots" "costs" "[I") (List.mem_of_getElem? (i := 5) rfl)) (fun _ h9 => h9) rfl hin rfl (by decide +kernel) rfl rfl (Nat.le_of_ble_eq_true rfl) dX3_init_9 (fun H locs hP hD hS => ?_)
  have hP : va_P (dC, dI) vwCl [(h0, .inr (3, [.ref q1, .null, .null, .null])), (q1, .inl (cint, 41, .inl (fun _ => 0)))] H := hP
  have hD : va_D A [(h0, .inr (3, [.ref q1, .null, .null, .null])), (q1, .inl (cint, 41, .inl (fun _ => 0)))] := hD
  refine lv_aload_n hx hb dX3_init_12 rfl (lv_at hl 0 rfl) ?_
  refine lv_bipush (v := 41) hx hb dX3_init_13 (by decide) ?_
  refine va_newa (atype := .int) (ty := .int) (a0 := (41, .inl (fun _ => 0))) hx hb (hts (.arrayClass .int) (List.mem_of_getElem? (i := 4) rfl)) rfl hK hP hD hS hA (fun _ => rfl) (by decide) rfl (Nat.le_of_ble_eq_true rfl) (Nat.le_of_ble_eq_true rfl) (Nat.le_of_ble_eq_true rfl) dX3_init_15 (fun q2 cint_n H hK hP hD hS => ?_)
  obtain rfl : cint = cint_n := kk_uni hK 0 1 rfl rfl
  have hK : va_K (dC, dI) vwCl [(cint, .int)] s := hK.sub [0] rfl
  have hP : va_P (dC, dI) vwCl [(h0, .inr (3, [.ref q1, .null, .null, .null])), (q1, .inl (cint, 41, .inl (fun _ => 0))), (q2, .inl (cint, 41, .inl (fun _ => 0)))] H := hP
  have hD : va_D A [(h0, .inr (3, [.ref q1, .null, .null, .null])), (q1, .inl (cint, 41, .inl (fun _ => 0))), (q2, .inl (cint, 41, .inl (fun _ => 0)))] := hD
  refine va_putF (D := (dC, dI)) (ci := 3) (v := .ref q2) (ty := (.array .int)) (C := RX3) (T := TX3) (N := 4) hx hb hts (fun _ h => List.mem_cons_of_mem _ (List.mem_append_right _ h)) tyX3 tyX3_ok nmX3 hown hK hP hD hS 0 rfl rfl 1 (by decide) (hts (.fieldLink RX3 15 "KinkStreet$FirstPlots" "groupCounts" "[I") (List.mem_of_getElem? (i := 6) rfl)) (fun _ h9 => h9) rfl hin rfl (by decide +kernel) rfl rfl (Nat.le_of_ble_eq_true rfl) dX3_init_17 (fun H locs hP hD hS => ?_)
  have hP : va_P (dC, dI) vwCl [(h0, .inr (3, [.ref q1, .ref q2, .null, .null])), (q1, .inl (cint, 41, .inl (fun _ => 0))), (q2, .inl (cint, 41, .inl (fun _ => 0)))] H := hP
  have hD : va_D A [(h0, .inr (3, [.ref q1, .ref q2, .null, .null])), (q1, .inl (cint, 41, .inl (fun _ => 0))), (q2, .inl (cint, 41, .inl (fun _ => 0)))] := hD
  refine lv_aload_n hx hb dX3_init_20 rfl (lv_at hl 0 rfl) ?_
  refine lv_bipush (v := 41) hx hb dX3_init_21 (by decide) ?_
  refine va_newa (atype := .int) (ty := .int) (a0 := (41, .inl (fun _ => 0))) hx hb (hts (.arrayClass .int) (List.mem_of_getElem? (i := 4) rfl)) rfl hK hP hD hS hA (fun _ => rfl) (by decide) rfl (Nat.le_of_ble_eq_true rfl) (Nat.le_of_ble_eq_true rfl) (Nat.le_of_ble_eq_true rfl) dX3_init_23 (fun q3 cint_n H hK hP hD hS => ?_)
  obtain rfl : cint = cint_n := kk_uni hK 0 1 rfl rfl
  have hK : va_K (dC, dI) vwCl [(cint, .int)] s := hK.sub [0] rfl
  have hP : va_P (dC, dI) vwCl [(h0, .inr (3, [.ref q1, .ref q2, .null, .null])), (q1, .inl (cint, 41, .inl (fun _ => 0))), (q2, .inl (cint, 41, .inl (fun _ => 0))), (q3, .inl (cint, 41, .inl (fun _ => 0)))] H := hP
  have hD : va_D A [(h0, .inr (3, [.ref q1, .ref q2, .null, .null])), (q1, .inl (cint, 41, .inl (fun _ => 0))), (q2, .inl (cint, 41, .inl (fun _ => 0))), (q3, .inl (cint, 41, .inl (fun _ => 0)))] := hD
  refine va_putF (D := (dC, dI)) (ci := 3) (v := .ref q3) (ty := (.array .int)) (C := RX3) (T := TX3) (N := 4) hx hb hts (fun _ h => List.mem_cons_of_mem _ (List.mem_append_right _ h)) tyX3 tyX3_ok nmX3 hown hK hP hD hS 0 rfl rfl 2 (by decide) (hts (.fieldLink RX3 18 "KinkStreet$FirstPlots" "groupPlots" "[I") (List.mem_of_getElem? (i := 7) rfl)) (fun _ h9 => h9) rfl hin rfl (by decide +kernel) rfl rfl (Nat.le_of_ble_eq_true rfl) dX3_init_25 (fun H locs hP hD hS => ?_)
  have hP : va_P (dC, dI) vwCl [(h0, .inr (3, [.ref q1, .ref q2, .ref q3, .null])), (q1, .inl (cint, 41, .inl (fun _ => 0))), (q2, .inl (cint, 41, .inl (fun _ => 0))), (q3, .inl (cint, 41, .inl (fun _ => 0)))] H := hP
  have hD : va_D A [(h0, .inr (3, [.ref q1, .ref q2, .ref q3, .null])), (q1, .inl (cint, 41, .inl (fun _ => 0))), (q2, .inl (cint, 41, .inl (fun _ => 0))), (q3, .inl (cint, 41, .inl (fun _ => 0)))] := hD
  refine lv_aload_n hx hb dX3_init_28 rfl (lv_at hl 0 rfl) ?_
  refine lv_bipush (v := 41) hx hb dX3_init_29 (by decide) ?_
  refine va_newa (atype := .int) (ty := .int) (a0 := (41, .inl (fun _ => 0))) hx hb (hts (.arrayClass .int) (List.mem_of_getElem? (i := 4) rfl)) rfl hK hP hD hS hA (fun _ => rfl) (by decide) rfl (Nat.le_of_ble_eq_true rfl) (Nat.le_of_ble_eq_true rfl) (Nat.le_of_ble_eq_true rfl) dX3_init_31 (fun q4 cint_n H hK hP hD hS => ?_)
  obtain rfl : cint = cint_n := kk_uni hK 0 1 rfl rfl
  have hK : va_K (dC, dI) vwCl [(cint, .int)] s := hK.sub [0] rfl
  have hP : va_P (dC, dI) vwCl [(h0, .inr (3, [.ref q1, .ref q2, .ref q3, .null])), (q1, .inl (cint, 41, .inl (fun _ => 0))), (q2, .inl (cint, 41, .inl (fun _ => 0))), (q3, .inl (cint, 41, .inl (fun _ => 0))), (q4, .inl (cint, 41, .inl (fun _ => 0)))] H := hP
  have hD : va_D A [(h0, .inr (3, [.ref q1, .ref q2, .ref q3, .null])), (q1, .inl (cint, 41, .inl (fun _ => 0))), (q2, .inl (cint, 41, .inl (fun _ => 0))), (q3, .inl (cint, 41, .inl (fun _ => 0))), (q4, .inl (cint, 41, .inl (fun _ => 0)))] := hD
  refine va_putF (D := (dC, dI)) (ci := 3) (v := .ref q4) (ty := (.array .int)) (C := RX3) (T := TX3) (N := 4) hx hb hts (fun _ h => List.mem_cons_of_mem _ (List.mem_append_right _ h)) tyX3 tyX3_ok nmX3 hown hK hP hD hS 0 rfl rfl 3 (by decide) (hts (.fieldLink RX3 21 "KinkStreet$FirstPlots" "groupFirstOnes" "[I") (List.mem_of_getElem? (i := 8) rfl)) (fun _ h9 => h9) rfl hin rfl (by decide +kernel) rfl rfl (Nat.le_of_ble_eq_true rfl) dX3_init_33 (fun H locs hP hD hS => ?_)
  have hP : va_P (dC, dI) vwCl [(h0, .inr (3, [.ref q1, .ref q2, .ref q3, .ref q4])), (q1, .inl (cint, 41, .inl (fun _ => 0))), (q2, .inl (cint, 41, .inl (fun _ => 0))), (q3, .inl (cint, 41, .inl (fun _ => 0))), (q4, .inl (cint, 41, .inl (fun _ => 0)))] H := hP
  have hD : va_D A [(h0, .inr (3, [.ref q1, .ref q2, .ref q3, .ref q4])), (q1, .inl (cint, 41, .inl (fun _ => 0))), (q2, .inl (cint, 41, .inl (fun _ => 0))), (q3, .inl (cint, 41, .inl (fun _ => 0))), (q4, .inl (cint, 41, .inl (fun _ => 0)))] := hD
  have hP9 : va_P (dC, dI) vwCl [(h0, .inr (3, [.ref q1, .ref q2, .ref q3, .ref q4])), (q1, .inl (cint, 41, .inl (fun _ => 0))), (q2, .inl (cint, 41, .inl (fun _ => 0))), (q3, .inl (cint, 41, .inl (fun _ => 0))), (q4, .inl (cint, 41, .inl (fun _ => 0)))] H := hP.sub (ws' := [(h0, .inr (3, [.ref q1, .ref q2, .ref q3, .ref q4])), (q1, .inl (cint, 41, .inl (fun _ => 0))), (q2, .inl (cint, 41, .inl (fun _ => 0))), (q3, .inl (cint, 41, .inl (fun _ => 0))), (q4, .inl (cint, 41, .inl (fun _ => 0)))]) [0, 1, 2, 3, 4] rfl
  have hD9 : va_D A [(h0, .inr (3, [.ref q1, .ref q2, .ref q3, .ref q4])), (q1, .inl (cint, 41, .inl (fun _ => 0))), (q2, .inl (cint, 41, .inl (fun _ => 0))), (q3, .inl (cint, 41, .inl (fun _ => 0))), (q4, .inl (cint, 41, .inl (fun _ => 0)))] := hD.sub (ws' := [(h0, .inr (3, [.ref q1, .ref q2, .ref q3, .ref q4])), (q1, .inl (cint, 41, .inl (fun _ => 0))), (q2, .inl (cint, 41, .inl (fun _ => 0))), (q3, .inl (cint, 41, .inl (fun _ => 0))), (q4, .inl (cint, 41, .inl (fun _ => 0)))]) [0, 1, 2, 3, 4] (by decide) rfl
  have hK9 := hK.sub (tys' := [(cint, .int)]) [0] rfl
  refine W.widen (k := 4) (n := 164) (Nat.le_of_ble_eq_true rfl) (Nat.le_of_ble_eq_true rfl) ?_
  exact W.vret hx hb hr (fun t ht hW => ⟨⟨(), rfl, trivial, q1, q2, q3, q4, cint, by rw [ht]; exact hP9, va_K.moved hW.alike hK9, hD9⟩, hS.F ht⟩) hS.2.2 dX3_init_36
set_option maxHeartbeats 4000000 in
set_option maxRecDepth 100000 in
theorem k_X6_init_0 (l : Launch) (dC : Nat → ClassId) (dI : Nat → Nat → Nat) (h0 : Nat) (sz : Nat)  : Met l yX6_init wsX6_init ({ frames := 1, cells := 50, slots := 1977, locals := 12 }) (va_Pc [.ref h0] (fun U => U.heap.size = sz ∧ va_P (dC, dI) vwCl [(h0, .inr (6, [.null, .null, .null, .null, .int 0]))] U.heap ∧ va_K (dC, dI) vwCl [] U ∧ va_D (fun _ => True) [(h0, .inr (6, [.null, .null, .null, .null, .int 0]))] ∧ va_AOA .int U)) (va_Qv (fun (_ : Unit) => True) (fun (_ : Unit) t => ∃ (n0 : Nat) (n1 : Nat) (n2 : Nat) (n3 : Nat) (n4 : Nat → Nat) (n5 : Nat → Nat) (cAint cint : ClassId) , va_P (dC, dI) vwCl (([(h0, .inr (6, [.ref n0, .ref n1, .ref n2, .ref n3, .int 0])), (n0, .inl (cAint, 40, .inr (.inr (.inr (.inr (fun j => some (n4 j))))))), (n1, .inl (cAint, 6, .inr (.inr (.inr (.inr (fun j => some (n5 j))))))), (n2, .inl (cint, 40, .inl (fun _ => 0))), (n3, .inl (cint, 5, .inl (fun _ => 0)))] : va_W) ++ (kk_rowsI n4 cint 41 (fun _ _ => 0) 40 ++ (kk_rowsI n5 cint 41 (fun _ _ => 0) 6))) t.heap ∧ va_K (dC, dI) vwCl [(cAint, .array .int), (cint, .int)] t ∧ va_D (va_A [(h0, .inr (6, [.null, .null, .null, .null, .int 0]))] sz) (([(h0, .inr (6, [.ref n0, .ref n1, .ref n2, .ref n3, .int 0])), (n0, .inl (cAint, 40, .inr (.inr (.inr (.inr (fun j => some (n4 j))))))), (n1, .inl (cAint, 6, .inr (.inr (.inr (.inr (fun j => some (n5 j))))))), (n2, .inl (cint, 40, .inl (fun _ => 0))), (n3, .inl (cint, 5, .inl (fun _ => 0)))] : va_W) ++ (kk_rowsI n4 cint 41 (fun _ _ => 0) 40 ++ (kk_rowsI n5 cint 41 (fun _ _ => 0) 6)))) (va_A [(h0, .inr (6, [.null, .null, .null, .null, .int 0]))] sz)) 50 1977 (va_A [(h0, .inr (6, [.null, .null, .null, .null, .int 0]))] sz) := by
  refine Met.ofW (cc := cX6_init) (maxL := 1) (ret := none) (by decide) rfl ?_
  intro p e s m args below meth c s₁ B hml hv
  obtain ⟨rfl, hsz, hP, hK, hD0, hAOAint⟩ := hv
  have hx := B.exec
  have hb := B.bytes
  have hr := B.returns
  have hts := atoms_spec (ws := wsX6_init) B.pre
  have hown : s.vm.findClass RX6 = some m.cls := findClass_of_methodNamed B.named
  have hlocks := B.notSynchronized
  have hin : meth.name = "<init>" := (name_of_methodNamed B.named B.method).1
  subst hsz
  have hD := hD0.self (sz := s.heap.size)
  generalize hAe : va_A [(h0, .inr (6, [.null, .null, .null, .null, .int 0]))] s.heap.size = A at hD ⊢
  have hA : ∀ q : Nat, s.heap.size ≤ q → A q := fun q h => by rw [← hAe]; exact Or.inr h
  have hS : va_S A s.heap s.heap [] := va_S.rf
  have hP : va_P (dC, dI) vwCl [(h0, .inr (6, [.null, .null, .null, .null, .int 0]))] s.heap := hP
  have hl := lv_entry ([.ref h0]) (n := 1) (Nat.le_of_ble_eq_true rfl)
  rw [lg_entry_eq]
  generalize (lg_sl ([.ref h0]) ++ List.replicate (1 - (lg_sl ([.ref h0])).length) Slot.unset).toArray = ls at hl ⊢
  have hl : lv_has ls 1 [(0, .ref h0)] := hl
  refine lv_aload_n hx hb dX6_init_0 rfl (lv_at hl 0 rfl) ?_
  refine W.objInit hx hb hown (hts (.methodLink RX6 3 objectInit) (List.mem_of_getElem? (i := 1) rfl)) (hts (.instanceMethod objectInit) (List.mem_of_getElem? (i := 2) rfl)) (hts (.code objectInit ⟨#[0xb1]⟩ 1 none) (List.mem_of_getElem? (i := 3) rfl)) rfl (by rw [hml]; exact hl.1) rfl dX6_init_1 (Nat.le_of_ble_eq_true rfl) (Nat.le_of_ble_eq_true rfl) ?_
  refine W.eq (g2 := F0 m 4 ls []) rfl ?_
  refine lv_aload_n hx hb dX6_init_4 rfl (lv_at hl 0 rfl) ?_
  refine lv_bipush (v := 40) hx hb dX6_init_5 (by decide) ?_
  refine lv_bipush (v := 41) hx hb dX6_init_7 (by decide) ?_
  obtain ⟨cint, hcy_1, hK⟩ := kk_acK (ty := .int) (hts (.arrayClass .int) (List.mem_of_getElem? (i := 5) rfl)) (fun _ h => h) hK
  have hK : va_K (dC, dI) vwCl [(cint, .int)] s := hK
  refine va_mna (X := [(h0, .inr (6, [.null, .null, .null, .null, .int 0]))]) (L := []) (f := fun _ => .inr (0, [])) (ty := .int) (cy := cint) (z := (41, .inl (fun _ => 0))) (N' := 40) (K' := 41) hx hb hown (hts (.classLink RX6 9 "[[I") (List.mem_of_getElem? (i := 4) rfl)) hAOAint (hts (.arrayClass .int) (List.mem_of_getElem? (i := 5) rfl)) hcy_1 hK (by rw [show va_pl [] (fun _ => (.inr (0, []) : va_E)) = [] from rfl, List.append_nil]; exact hP) (by rw [show va_pl [] (fun _ => (.inr (0, []) : va_E)) = [] from rfl, List.append_nil]; exact hD) hS hA (by decide) (by decide) rfl rfl (Nat.le_of_ble_eq_true rfl) (Nat.le_of_ble_eq_true rfl) (Nat.le_of_ble_eq_true rfl) rfl rfl (Nat.le_of_ble_eq_true rfl) (Nat.le_of_ble_eq_true rfl) (fun _ => kk_innerint _ _) dX6_init_9 (fun q2 r_1 cAint H _ _ hK hP hD hS => ?_)
  have hK : va_K (dC, dI) vwCl [(cint, .int), (cAint, .array .int)] s := hK
  have hP := kk_mnaP hP
  have hD := kk_mnaD (g' := fun j => some (r_1 j)) hD
  have hP : va_P (dC, dI) vwCl (([(h0, .inr (6, [.null, .null, .null, .null, .int 0])), (q2, .inl (cAint, 40, .inr (.inr (.inr (.inr (fun j => some (r_1 j)))))))] : va_W) ++ (kk_rowsI r_1 cint 41 (fun _ _ => 0) 40)) H := hP
  have hD : va_D A (([(h0, .inr (6, [.null, .null, .null, .null, .int 0])), (q2, .inl (cAint, 40, .inr (.inr (.inr (.inr (fun j => some (r_1 j)))))))] : va_W) ++ (kk_rowsI r_1 cint 41 (fun _ _ => 0) 40)) := hD
  refine va_putF (D := (dC, dI)) (ci := 6) (v := .ref q2) (ty := (.array (.array .int))) (C := RX6) (T := TX6) (N := 5) hx hb hts (fun _ h => List.mem_cons_of_mem _ (List.mem_append_right _ h)) tyX6 tyX6_ok nmX6 hown hK hP hD hS 0 rfl rfl 0 (by decide) (hts (.fieldLink RX6 11 "KinkStreet$Pieces" "spreads" "[[I") (List.mem_of_getElem? (i := 6) rfl)) (fun _ h9 => h9) rfl hin rfl (by decide +kernel) rfl rfl (Nat.le_of_ble_eq_true rfl) dX6_init_13 (fun H locs hP hD hS => ?_)
  have hP : va_P (dC, dI) vwCl (([(h0, .inr (6, [.ref q2, .null, .null, .null, .int 0])), (q2, .inl (cAint, 40, .inr (.inr (.inr (.inr (fun j => some (r_1 j)))))))] : va_W) ++ (kk_rowsI r_1 cint 41 (fun _ _ => 0) 40)) H := hP
  have hD : va_D A (([(h0, .inr (6, [.ref q2, .null, .null, .null, .int 0])), (q2, .inl (cAint, 40, .inr (.inr (.inr (.inr (fun j => some (r_1 j)))))))] : va_W) ++ (kk_rowsI r_1 cint 41 (fun _ _ => 0) 40)) := hD
  refine lv_aload_n hx hb dX6_init_16 rfl (lv_at hl 0 rfl) ?_
  refine lv_bipush (v := 6) hx hb dX6_init_17 (by decide) ?_
  refine lv_bipush (v := 41) hx hb dX6_init_19 (by decide) ?_
  obtain ⟨cint_n, hcy_3, hK⟩ := kk_acK (ty := .int) (hts (.arrayClass .int) (List.mem_of_getElem? (i := 5) rfl)) (fun _ h => h) hK
  obtain rfl : cint = cint_n := kk_uni hK 0 2 rfl rfl
  have hK : va_K (dC, dI) vwCl [(cint, .int), (cAint, .array .int)] s := hK.sub [0, 1] rfl
  refine va_mna (X := (([(h0, .inr (6, [.ref q2, .null, .null, .null, .int 0])), (q2, .inl (cAint, 40, .inr (.inr (.inr (.inr (fun j => some (r_1 j)))))))] : va_W) ++ (kk_rowsI r_1 cint 41 (fun _ _ => 0) 40))) (L := []) (f := fun _ => .inr (0, [])) (ty := .int) (cy := cint) (z := (41, .inl (fun _ => 0))) (N' := 6) (K' := 41) hx hb hown (hts (.classLink RX6 9 "[[I") (List.mem_of_getElem? (i := 4) rfl)) hAOAint (hts (.arrayClass .int) (List.mem_of_getElem? (i := 5) rfl)) hcy_3 hK (by rw [show va_pl [] (fun _ => (.inr (0, []) : va_E)) = [] from rfl, List.append_nil]; exact hP) (by rw [show va_pl [] (fun _ => (.inr (0, []) : va_E)) = [] from rfl, List.append_nil]; exact hD) hS hA (by decide) (by decide) rfl rfl (Nat.le_of_ble_eq_true rfl) (Nat.le_of_ble_eq_true rfl) (Nat.le_of_ble_eq_true rfl) rfl rfl (Nat.le_of_ble_eq_true rfl) (Nat.le_of_ble_eq_true rfl) (fun _ => kk_innerint _ _) dX6_init_21 (fun q4 r_3 cAint_n H _ _ hK hP hD hS => ?_)
  obtain rfl : cAint = cAint_n := kk_uni hK 1 2 rfl rfl
  have hK : va_K (dC, dI) vwCl [(cint, .int), (cAint, .array .int)] s := hK.sub [0, 1] rfl
  have hP := kk_mnaP hP
  have hD := kk_mnaD (g' := fun j => some (r_3 j)) hD
  have hP := vr_lay hP
  have hD := vr_layD hD
  have hP : va_P (dC, dI) vwCl (([(h0, .inr (6, [.ref q2, .null, .null, .null, .int 0])), (q2, .inl (cAint, 40, .inr (.inr (.inr (.inr (fun j => some (r_1 j))))))), (q4, .inl (cAint, 6, .inr (.inr (.inr (.inr (fun j => some (r_3 j)))))))] : va_W) ++ (kk_rowsI r_1 cint 41 (fun _ _ => 0) 40 ++ (kk_rowsI r_3 cint 41 (fun _ _ => 0) 6))) H := hP
  have hD : va_D A (([(h0, .inr (6, [.ref q2, .null, .null, .null, .int 0])), (q2, .inl (cAint, 40, .inr (.inr (.inr (.inr (fun j => some (r_1 j))))))), (q4, .inl (cAint, 6, .inr (.inr (.inr (.inr (fun j => some (r_3 j)))))))] : va_W) ++ (kk_rowsI r_1 cint 41 (fun _ _ => 0) 40 ++ (kk_rowsI r_3 cint 41 (fun _ _ => 0) 6))) := hD
  refine va_putF (D := (dC, dI)) (ci := 6) (v := .ref q4) (ty := (.array (.array .int))) (C := RX6) (T := TX6) (N := 5) hx hb hts (fun _ h => List.mem_cons_of_mem _ (List.mem_append_right _ h)) tyX6 tyX6_ok nmX6 hown hK hP hD hS 0 rfl rfl 1 (by decide) (hts (.fieldLink RX6 16 "KinkStreet$Pieces" "sums" "[[I") (List.mem_of_getElem? (i := 7) rfl)) (fun _ h9 => h9) rfl hin rfl (by decide +kernel) rfl rfl (Nat.le_of_ble_eq_true rfl) dX6_init_25 (fun H locs hP hD hS => ?_)
  have hP : va_P (dC, dI) vwCl (([(h0, .inr (6, [.ref q2, .ref q4, .null, .null, .int 0])), (q2, .inl (cAint, 40, .inr (.inr (.inr (.inr (fun j => some (r_1 j))))))), (q4, .inl (cAint, 6, .inr (.inr (.inr (.inr (fun j => some (r_3 j)))))))] : va_W) ++ (kk_rowsI r_1 cint 41 (fun _ _ => 0) 40 ++ (kk_rowsI r_3 cint 41 (fun _ _ => 0) 6))) H := hP
  have hD : va_D A (([(h0, .inr (6, [.ref q2, .ref q4, .null, .null, .int 0])), (q2, .inl (cAint, 40, .inr (.inr (.inr (.inr (fun j => some (r_1 j))))))), (q4, .inl (cAint, 6, .inr (.inr (.inr (.inr (fun j => some (r_3 j)))))))] : va_W) ++ (kk_rowsI r_1 cint 41 (fun _ _ => 0) 40 ++ (kk_rowsI r_3 cint 41 (fun _ _ => 0) 6))) := hD
  refine lv_aload_n hx hb dX6_init_28 rfl (lv_at hl 0 rfl) ?_
  refine lv_bipush (v := 40) hx hb dX6_init_29 (by decide) ?_
  refine va_newa (atype := .int) (ty := .int) (a0 := (40, .inl (fun _ => 0))) hx hb (hts (.arrayClass .int) (List.mem_of_getElem? (i := 5) rfl)) rfl hK hP hD hS hA (fun _ => rfl) (by decide) rfl (Nat.le_of_ble_eq_true rfl) (Nat.le_of_ble_eq_true rfl) (Nat.le_of_ble_eq_true rfl) dX6_init_31 (fun q5 cint_n H hK hP hD hS => ?_)
  obtain rfl : cint = cint_n := kk_uni hK 0 2 rfl rfl
  have hK : va_K (dC, dI) vwCl [(cint, .int), (cAint, .array .int)] s := hK.sub [0, 1] rfl
  have hP := hP.swap
  have hD := hD.swap
  have hP : va_P (dC, dI) vwCl (([(h0, .inr (6, [.ref q2, .ref q4, .null, .null, .int 0])), (q2, .inl (cAint, 40, .inr (.inr (.inr (.inr (fun j => some (r_1 j))))))), (q4, .inl (cAint, 6, .inr (.inr (.inr (.inr (fun j => some (r_3 j))))))), (q5, .inl (cint, 40, .inl (fun _ => 0)))] : va_W) ++ (kk_rowsI r_1 cint 41 (fun _ _ => 0) 40 ++ (kk_rowsI r_3 cint 41 (fun _ _ => 0) 6))) H := hP
  have hD : va_D A (([(h0, .inr (6, [.ref q2, .ref q4, .null, .null, .int 0])), (q2, .inl (cAint, 40, .inr (.inr (.inr (.inr (fun j => some (r_1 j))))))), (q4, .inl (cAint, 6, .inr (.inr (.inr (.inr (fun j => some (r_3 j))))))), (q5, .inl (cint, 40, .inl (fun _ => 0)))] : va_W) ++ (kk_rowsI r_1 cint 41 (fun _ _ => 0) 40 ++ (kk_rowsI r_3 cint 41 (fun _ _ => 0) 6))) := hD
  refine va_putF (D := (dC, dI)) (ci := 6) (v := .ref q5) (ty := (.array .int)) (C := RX6) (T := TX6) (N := 5) hx hb hts (fun _ h => List.mem_cons_of_mem _ (List.mem_append_right _ h)) tyX6 tyX6_ok nmX6 hown hK hP hD hS 0 rfl rfl 2 (by decide) (hts (.fieldLink RX6 19 "KinkStreet$Pieces" "sorted" "[I") (List.mem_of_getElem? (i := 8) rfl)) (fun _ h9 => h9) rfl hin rfl (by decide +kernel) rfl rfl (Nat.le_of_ble_eq_true rfl) dX6_init_33 (fun H locs hP hD hS => ?_)
  have hP : va_P (dC, dI) vwCl (([(h0, .inr (6, [.ref q2, .ref q4, .ref q5, .null, .int 0])), (q2, .inl (cAint, 40, .inr (.inr (.inr (.inr (fun j => some (r_1 j))))))), (q4, .inl (cAint, 6, .inr (.inr (.inr (.inr (fun j => some (r_3 j))))))), (q5, .inl (cint, 40, .inl (fun _ => 0)))] : va_W) ++ (kk_rowsI r_1 cint 41 (fun _ _ => 0) 40 ++ (kk_rowsI r_3 cint 41 (fun _ _ => 0) 6))) H := hP
  have hD : va_D A (([(h0, .inr (6, [.ref q2, .ref q4, .ref q5, .null, .int 0])), (q2, .inl (cAint, 40, .inr (.inr (.inr (.inr (fun j => some (r_1 j))))))), (q4, .inl (cAint, 6, .inr (.inr (.inr (.inr (fun j => some (r_3 j))))))), (q5, .inl (cint, 40, .inl (fun _ => 0)))] : va_W) ++ (kk_rowsI r_1 cint 41 (fun _ _ => 0) 40 ++ (kk_rowsI r_3 cint 41 (fun _ _ => 0) 6))) := hD
  refine lv_aload_n hx hb dX6_init_36 rfl (lv_at hl 0 rfl) ?_
  refine lv_iconst (v := 5) hx hb dX6_init_37 (by decide) ?_
  refine va_newa (atype := .int) (ty := .int) (a0 := (5, .inl (fun _ => 0))) hx hb (hts (.arrayClass .int) (List.mem_of_getElem? (i := 5) rfl)) rfl hK hP hD hS hA (fun _ => rfl) (by decide) rfl (Nat.le_of_ble_eq_true rfl) (Nat.le_of_ble_eq_true rfl) (Nat.le_of_ble_eq_true rfl) dX6_init_38 (fun q6 cint_n H hK hP hD hS => ?_)
  obtain rfl : cint = cint_n := kk_uni hK 0 2 rfl rfl
  have hK : va_K (dC, dI) vwCl [(cint, .int), (cAint, .array .int)] s := hK.sub [0, 1] rfl
  have hP := hP.swap
  have hD := hD.swap
  have hP : va_P (dC, dI) vwCl (([(h0, .inr (6, [.ref q2, .ref q4, .ref q5, .null, .int 0])), (q2, .inl (cAint, 40, .inr (.inr (.inr (.inr (fun j => some (r_1 j))))))), (q4, .inl (cAint, 6, .inr (.inr (.inr (.inr (fun j => some (r_3 j))))))), (q5, .inl (cint, 40, .inl (fun _ => 0))), (q6, .inl (cint, 5, .inl (fun _ => 0)))] : va_W) ++ (kk_rowsI r_1 cint 41 (fun _ _ => 0) 40 ++ (kk_rowsI r_3 cint 41 (fun _ _ => 0) 6))) H := hP
  have hD : va_D A (([(h0, .inr (6, [.ref q2, .ref q4, .ref q5, .null, .int 0])), (q2, .inl (cAint, 40, .inr (.inr (.inr (.inr (fun j => some (r_1 j))))))), (q4, .inl (cAint, 6, .inr (.inr (.inr (.inr (fun j => some (r_3 j))))))), (q5, .inl (cint, 40, .inl (fun _ => 0))), (q6, .inl (cint, 5, .inl (fun _ => 0)))] : va_W) ++ (kk_rowsI r_1 cint 41 (fun _ _ => 0) 40 ++ (kk_rowsI r_3 cint 41 (fun _ _ => 0) 6))) := hD
  refine va_putF (D := (dC, dI)) (ci := 6) (v := .ref q6) (ty := (.array .int)) (C := RX6) (T := TX6) (N := 5) hx hb hts (fun _ h => List.mem_cons_of_mem _ (List.mem_append_right _ h)) tyX6 tyX6_ok nmX6 hown hK hP hD hS 0 rfl rfl 3 (by decide) (hts (.fieldLink RX6 23 "KinkStreet$Pieces" "begins" "[I") (List.mem_of_getElem? (i := 9) rfl)) (fun _ h9 => h9) rfl hin rfl (by decide +kernel) rfl rfl (Nat.le_of_ble_eq_true rfl) dX6_init_40 (fun H locs hP hD hS => ?_)
  have hP : va_P (dC, dI) vwCl (([(h0, .inr (6, [.ref q2, .ref q4, .ref q5, .ref q6, .int 0])), (q2, .inl (cAint, 40, .inr (.inr (.inr (.inr (fun j => some (r_1 j))))))), (q4, .inl (cAint, 6, .inr (.inr (.inr (.inr (fun j => some (r_3 j))))))), (q5, .inl (cint, 40, .inl (fun _ => 0))), (q6, .inl (cint, 5, .inl (fun _ => 0)))] : va_W) ++ (kk_rowsI r_1 cint 41 (fun _ _ => 0) 40 ++ (kk_rowsI r_3 cint 41 (fun _ _ => 0) 6))) H := hP
  have hD : va_D A (([(h0, .inr (6, [.ref q2, .ref q4, .ref q5, .ref q6, .int 0])), (q2, .inl (cAint, 40, .inr (.inr (.inr (.inr (fun j => some (r_1 j))))))), (q4, .inl (cAint, 6, .inr (.inr (.inr (.inr (fun j => some (r_3 j))))))), (q5, .inl (cint, 40, .inl (fun _ => 0))), (q6, .inl (cint, 5, .inl (fun _ => 0)))] : va_W) ++ (kk_rowsI r_1 cint 41 (fun _ _ => 0) 40 ++ (kk_rowsI r_3 cint 41 (fun _ _ => 0) 6))) := hD
  have hP9 : va_P (dC, dI) vwCl (([(h0, .inr (6, [.ref q2, .ref q4, .ref q5, .ref q6, .int 0])), (q2, .inl (cAint, 40, .inr (.inr (.inr (.inr (fun j => some (r_1 j))))))), (q4, .inl (cAint, 6, .inr (.inr (.inr (.inr (fun j => some (r_3 j))))))), (q5, .inl (cint, 40, .inl (fun _ => 0))), (q6, .inl (cint, 5, .inl (fun _ => 0)))] : va_W) ++ (kk_rowsI r_1 cint 41 (fun _ _ => 0) 40 ++ (kk_rowsI r_3 cint 41 (fun _ _ => 0) 6))) H := hP.part (cx := [(h0, .inr (6, [.ref q2, .ref q4, .ref q5, .ref q6, .int 0])), (q2, .inl (cAint, 40, .inr (.inr (.inr (.inr (fun j => some (r_1 j))))))), (q4, .inl (cAint, 6, .inr (.inr (.inr (.inr (fun j => some (r_3 j))))))), (q5, .inl (cint, 40, .inl (fun _ => 0))), (q6, .inl (cint, 5, .inl (fun _ => 0)))]) [0, 1, 2, 3, 4] rfl
  have hD9 : va_D A (([(h0, .inr (6, [.ref q2, .ref q4, .ref q5, .ref q6, .int 0])), (q2, .inl (cAint, 40, .inr (.inr (.inr (.inr (fun j => some (r_1 j))))))), (q4, .inl (cAint, 6, .inr (.inr (.inr (.inr (fun j => some (r_3 j))))))), (q5, .inl (cint, 40, .inl (fun _ => 0))), (q6, .inl (cint, 5, .inl (fun _ => 0)))] : va_W) ++ (kk_rowsI r_1 cint 41 (fun _ _ => 0) 40 ++ (kk_rowsI r_3 cint 41 (fun _ _ => 0) 6))) := hD.part (cx := [(h0, .inr (6, [.ref q2, .ref q4, .ref q5, .ref q6, .int 0])), (q2, .inl (cAint, 40, .inr (.inr (.inr (.inr (fun j => some (r_1 j))))))), (q4, .inl (cAint, 6, .inr (.inr (.inr (.inr (fun j => some (r_3 j))))))), (q5, .inl (cint, 40, .inl (fun _ => 0))), (q6, .inl (cint, 5, .inl (fun _ => 0)))]) [0, 1, 2, 3, 4] (by decide) rfl
  have hK9 := hK.sub (tys' := [(cAint, .array .int), (cint, .int)]) [1, 0] rfl
  refine W.widen (k := 50) (n := 1977) (Nat.le_of_ble_eq_true rfl) (Nat.le_of_ble_eq_true rfl) ?_
  exact W.vret hx hb hr (fun t ht hW => ⟨⟨(), rfl, trivial, q2, q4, q5, q6, r_1, r_3, cAint, cint, by rw [ht]; exact hP9, va_K.moved hW.alike hK9, hD9⟩, hS.F ht⟩) hS.2.2 dX6_init_43
set_option maxHeartbeats 4000000 in
set_option maxRecDepth 100000 in
theorem k_X0_init_0 (l : Launch) (dC : Nat → ClassId) (dI : Nat → Nat → Nat) (h0 : Nat) (sz : Nat)  : Met l yX0_init wsX0_init ({ frames := 1, cells := 1, slots := 6, locals := 12 }) (va_Pc [.ref h0] (fun U => U.heap.size = sz ∧ va_P (dC, dI) vwCl [(h0, .inr (0, [.null, .int 0]))] U.heap ∧ va_K (dC, dI) vwCl [] U ∧ va_D (fun _ => True) [(h0, .inr (0, [.null, .int 0]))])) (va_Qv (fun (_ : Unit) => True) (fun (_ : Unit) t => ∃ (n0 : Nat) (cint : ClassId) , va_P (dC, dI) vwCl [(h0, .inr (0, [.ref n0, .int 0])), (n0, .inl (cint, 6, .inl (fun _ => 0)))] t.heap ∧ va_K (dC, dI) vwCl [(cint, .int)] t ∧ va_D (va_A [(h0, .inr (0, [.null, .int 0]))] sz) [(h0, .inr (0, [.ref n0, .int 0])), (n0, .inl (cint, 6, .inl (fun _ => 0)))]) (va_A [(h0, .inr (0, [.null, .int 0]))] sz)) 1 6 (va_A [(h0, .inr (0, [.null, .int 0]))] sz) := by
  refine Met.ofW (cc := cX0_init) (maxL := 1) (ret := none) (by decide) rfl ?_
  intro p e s m args below meth c s₁ B hml hv
  obtain ⟨rfl, hsz, hP, hK, hD0⟩ := hv
  have hx := B.exec
  have hb := B.bytes
  have hr := B.returns
  have hts := atoms_spec (ws := wsX0_init) B.pre
  have hown : s.vm.findClass RX0 = some m.cls := findClass_of_methodNamed B.named
  have hlocks := B.notSynchronized
  have hin : meth.name = "<init>" := (name_of_methodNamed B.named B.method).1
  subst hsz
  have hD := hD0.self (sz := s.heap.size)
  generalize hAe : va_A [(h0, .inr (0, [.null, .int 0]))] s.heap.size = A at hD ⊢
  have hA : ∀ q : Nat, s.heap.size ≤ q → A q := fun q h => by rw [← hAe]; exact Or.inr h
  have hS : va_S A s.heap s.heap [] := va_S.rf
  have hP : va_P (dC, dI) vwCl [(h0, .inr (0, [.null, .int 0]))] s.heap := hP
  have hl := lv_entry ([.ref h0]) (n := 1) (Nat.le_of_ble_eq_true rfl)
  rw [lg_entry_eq]
  generalize (lg_sl ([.ref h0]) ++ List.replicate (1 - (lg_sl ([.ref h0])).length) Slot.unset).toArray = ls at hl ⊢
  have hl : lv_has ls 1 [(0, .ref h0)] := hl
  refine lv_aload_n hx hb dX0_init_0 rfl (lv_at hl 0 rfl) ?_
  refine W.objInit hx hb hown (hts (.methodLink RX0 3 objectInit) (List.mem_of_getElem? (i := 1) rfl)) (hts (.instanceMethod objectInit) (List.mem_of_getElem? (i := 2) rfl)) (hts (.code objectInit ⟨#[0xb1]⟩ 1 none) (List.mem_of_getElem? (i := 3) rfl)) rfl (by rw [hml]; exact hl.1) rfl dX0_init_1 (Nat.le_of_ble_eq_true rfl) (Nat.le_of_ble_eq_true rfl) ?_
  refine W.eq (g2 := F0 m 4 ls []) rfl ?_
  refine lv_aload_n hx hb dX0_init_4 rfl (lv_at hl 0 rfl) ?_
  refine lv_bipush (v := 6) hx hb dX0_init_5 (by decide) ?_
  refine va_newa (atype := .int) (ty := .int) (a0 := (6, .inl (fun _ => 0))) hx hb (hts (.arrayClass .int) (List.mem_of_getElem? (i := 4) rfl)) rfl hK hP hD hS hA (fun _ => rfl) (by decide) rfl (Nat.le_of_ble_eq_true rfl) (Nat.le_of_ble_eq_true rfl) (Nat.le_of_ble_eq_true rfl) dX0_init_7 (fun q1 cint H hK hP hD hS => ?_)
  have hK : va_K (dC, dI) vwCl [(cint, .int)] s := hK
  have hP : va_P (dC, dI) vwCl [(h0, .inr (0, [.null, .int 0])), (q1, .inl (cint, 6, .inl (fun _ => 0)))] H := hP
  have hD : va_D A [(h0, .inr (0, [.null, .int 0])), (q1, .inl (cint, 6, .inl (fun _ => 0)))] := hD
  refine va_putF (D := (dC, dI)) (ci := 0) (v := .ref q1) (ty := (.array .int)) (C := RX0) (T := TX0) (N := 2) hx hb hts (fun _ h => List.mem_cons_of_mem _ (List.mem_append_right _ h)) tyX0 tyX0_ok nmX0 hown hK hP hD hS 0 rfl rfl 0 (by decide) (hts (.fieldLink RX0 9 "KinkStreet$Bends" "bendsTo" "[I") (List.mem_of_getElem? (i := 5) rfl)) (fun _ h9 => h9) rfl hin rfl (by decide +kernel) rfl rfl (Nat.le_of_ble_eq_true rfl) dX0_init_9 (fun H locs hP hD hS => ?_)
  have hP : va_P (dC, dI) vwCl [(h0, .inr (0, [.ref q1, .int 0])), (q1, .inl (cint, 6, .inl (fun _ => 0)))] H := hP
  have hD : va_D A [(h0, .inr (0, [.ref q1, .int 0])), (q1, .inl (cint, 6, .inl (fun _ => 0)))] := hD
  have hP9 : va_P (dC, dI) vwCl [(h0, .inr (0, [.ref q1, .int 0])), (q1, .inl (cint, 6, .inl (fun _ => 0)))] H := hP.sub (ws' := [(h0, .inr (0, [.ref q1, .int 0])), (q1, .inl (cint, 6, .inl (fun _ => 0)))]) [0, 1] rfl
  have hD9 : va_D A [(h0, .inr (0, [.ref q1, .int 0])), (q1, .inl (cint, 6, .inl (fun _ => 0)))] := hD.sub (ws' := [(h0, .inr (0, [.ref q1, .int 0])), (q1, .inl (cint, 6, .inl (fun _ => 0)))]) [0, 1] (by decide) rfl
  have hK9 := hK.sub (tys' := [(cint, .int)]) [0] rfl
  refine W.widen (k := 1) (n := 6) (Nat.le_of_ble_eq_true rfl) (Nat.le_of_ble_eq_true rfl) ?_
  exact W.vret hx hb hr (fun t ht hW => ⟨⟨(), rfl, trivial, q1, cint, by rw [ht]; exact hP9, va_K.moved hW.alike hK9, hD9⟩, hS.F ht⟩) hS.2.2 dX0_init_12
