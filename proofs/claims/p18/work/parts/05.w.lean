theorem kk_Dnd {A : Nat → Prop} {ws : va_W} : va_D A ws ↔ (ws.map Prod.fst).Nodup ∧ ∀ q ∈ ws, A q.1 := by
  constructor
  · intro h
    refine ⟨?_, fun q hq => ?_⟩
    · rw [List.nodup_iff_pairwise_ne, List.pairwise_iff_getElem]
      intro i j hi hj hij e
      rw [List.length_map] at hi hj
      rw [List.getElem_map, List.getElem_map] at e
      have := h.1 i j _ _ (List.getElem?_eq_getElem hi) (List.getElem?_eq_getElem hj) e
      omega
    · obtain ⟨k, hk⟩ := List.getElem?_of_mem hq
      exact h.2 k q hk
  · rintro ⟨h1, h2⟩
    rw [List.nodup_iff_pairwise_ne, List.pairwise_iff_getElem] at h1
    refine ⟨fun i j p q hi hj e => ?_, fun k q hk => h2 q (List.mem_of_getElem? hk)⟩
    obtain ⟨li, ei⟩ := List.getElem?_eq_some_iff.mp hi
    obtain ⟨lj, ej⟩ := List.getElem?_eq_some_iff.mp hj
    rcases Nat.lt_trichotomy i j with h | h | h
    · exact absurd (by rw [List.getElem_map, List.getElem_map, ei, ej, e]) (h1 i j (by rw [List.length_map]; exact li) (by rw [List.length_map]; exact lj) h)
    · exact h
    · exact absurd (by rw [List.getElem_map, List.getElem_map, ei, ej, e]) (h1 j i (by rw [List.length_map]; exact lj) (by rw [List.length_map]; exact li) h)
theorem kk_Pp {D : va_G} {cl : List vw_C} {ws ws' : va_W} {H : Heap} (h : va_P D cl ws H) (p : ws.Perm ws') : va_P D cl ws' H := fun k q hk => by
  obtain ⟨i, hi⟩ := List.getElem?_of_mem (p.mem_iff.mpr (List.mem_of_getElem? hk))
  exact h i q hi
theorem kk_Dp {A : Nat → Prop} {ws ws' : va_W} (h : va_D A ws) (p : ws.Perm ws') : va_D A ws' := kk_Dnd.mpr ⟨(p.map _).nodup_iff.mp (kk_Dnd.mp h).1, fun q hq => (kk_Dnd.mp h).2 q (p.mem_iff.mpr hq)⟩
theorem kk_Dmap {A : Nat → Prop} {ws ws' : va_W} (h : va_D A ws) (e : ws.map Prod.fst = ws'.map Prod.fst) : va_D A ws' := by
  rw [kk_Dnd] at h ⊢
  refine ⟨e ▸ h.1, fun q hq => ?_⟩
  have h1 : q.1 ∈ ws.map Prod.fst := e ▸ List.mem_map.mpr ⟨q, hq, rfl⟩
  obtain ⟨x, hx, hx2⟩ := List.mem_map.mp h1
  rw [← hx2]
  exact h.2 x hx
theorem kk_rangemap {α : Type} (l : List α) : (List.range l.length).map (fun i => l[i]?) = l.map some := by
  apply List.ext_getElem?
  intro i
  simp only [List.getElem?_map]
  by_cases h : i < l.length
  · simp [h]
  · simp [Nat.not_lt.mp h]
theorem kk_fl {Ls Ms : List va_W} (is : List Nat) (n : Nat) (hl : Ls.length = n) (hp : is.Perm (List.range n)) (hm : is.map (fun i => Ls[i]?) = Ms.map some) : Ls.flatten.Perm Ms.flatten := by
  subst hl
  have h1 := hp.map (fun i => Ls[i]?)
  rw [hm, kk_rangemap] at h1
  have h2 := h1.filterMap id
  rw [List.filterMap_map, List.filterMap_map] at h2
  have e : (id ∘ some : va_W → Option va_W) = some := rfl
  rw [e, List.filterMap_some, List.filterMap_some] at h2
  exact h2.symm.flatten
def kk_fam (N : Nat) (g : Nat → va_W) : va_W := (List.range N).flatMap g
def kk_famx (N k : Nat) (g : Nat → va_W) : va_W := ((List.range N).erase k).flatMap g
def kk_famy (N k j : Nat) (g : Nat → va_W) : va_W := (((List.range N).erase k).erase j).flatMap g
theorem kk_pick {N k : Nat} (hk : k < N) (g : Nat → va_W) : (kk_fam N g).Perm (g k ++ kk_famx N k g) := by
  have h := (List.perm_cons_erase (List.mem_range.mpr hk)).flatMap_right g
  rw [List.flatMap_cons] at h
  exact h
theorem kk_pick2 {N k j : Nat} (hj : j < N) (hjk : j ≠ k) (g : Nat → va_W) : (kk_famx N k g).Perm (g j ++ kk_famy N k j g) := by
  have hm : j ∈ (List.range N).erase k := (List.Nodup.mem_erase_iff List.nodup_range).mpr ⟨hjk, List.mem_range.mpr hj⟩
  have h := (List.perm_cons_erase hm).flatMap_right g
  rw [List.flatMap_cons] at h
  exact h
theorem kk_fmc {l : List Nat} {f g : Nat → va_W} (h : ∀ a ∈ l, f a = g a) : l.flatMap f = l.flatMap g := by
  induction l with
  | nil => rfl
  | cons a l ih => rw [List.flatMap_cons, List.flatMap_cons, h a List.mem_cons_self, ih (fun b hb => h b (List.mem_cons_of_mem _ hb))]
theorem kk_famx_c {N k : Nat} {f g : Nat → va_W} (h : ∀ j, j ≠ k → f j = g j) : kk_famx N k f = kk_famx N k g := kk_fmc (fun a ha => h a ((List.Nodup.mem_erase_iff List.nodup_range).mp ha).1)
theorem kk_famy_c {N k j : Nat} {f g : Nat → va_W} (h : ∀ i, i ≠ k → i ≠ j → f i = g i) : kk_famy N k j f = kk_famy N k j g := kk_fmc (fun a ha => by
  have h1 := (List.Nodup.mem_erase_iff (List.nodup_range.erase k)).mp ha
  exact h a ((List.Nodup.mem_erase_iff List.nodup_range).mp h1.2).1 h1.1)
-- a class of arrays of ints (longs), by its word
theorem kk_acK {D : va_G} {cl : List vw_C} {tys : List (ClassId × FieldType)} {args : Array Value} {s : State} {ty : FieldType} (h : (Cond.arrayClass ty).before args s = true) (hra : ∀ c : ClassId, s.vm.findClass ("[" ++ ty.toString) = some c → va_RA s c ty) (hK : va_K D cl tys s) : ∃ c : ClassId, s.vm.findClass (FieldType.array ty).toString = some c ∧ va_K D cl (tys ++ [(c, ty)]) s := by
  obtain ⟨c, kA, comp, h1, h2, h3⟩ := Cond.arrayClass_spec h
  refine ⟨c, h1, hK.app ⟨hK.1, fun k q hk => ?_⟩⟩
  have hz : k < 1 := (List.getElem?_eq_some_iff.mp hk).1
  rw [show k = 0 by omega] at hk
  cases hk
  exact ⟨fun n z => ⟨fun k h => (by cases h), kA, h2, comp, h3⟩, hra c h1⟩
theorem kk_rowsE {r : Nat → Nat} {cy : ClassId} {z : vp_A} {f : Nat → va_E} {N : Nat} : va_pl ([] ++ (List.range N).map r) (vr_up f ((List.range N).map r) (.inl (cy, z))) = (List.range N).map fun k => (r k, .inl (cy, z)) := by
  unfold va_pl
  rw [List.nil_append, List.map_map]
  apply List.map_congr_left
  intro a ha
  show (r a, vr_up f ((List.range N).map r) (.inl (cy, z)) (r a)) = _
  rw [vr_up_in (List.mem_map.mpr ⟨a, ha, rfl⟩)]
theorem kk_cellq {cA : ClassId} {n : Nat} {f g : Nat → Option Nat} (h : ∀ j, j < n → f j = g j) : vp_cell cA (n, .inr (.inr (.inr (.inr f)))) = vp_cell cA (n, .inr (.inr (.inr (.inr g)))) := by
  rw [vp_cell_q, vp_cell_q]
  unfold arrV
  congr 1
  apply congrArg
  funext j
  show va_rf (f j.1) = va_rf (g j.1)
  rw [h j.1 j.2]
theorem kk_arq {D : va_G} {cl : List vw_C} {ws : va_W} {H : Heap} (hP : va_P D cl ws H) (p : Nat) {a : Nat} {cA : ClassId} {n : Nat} {f g : Nat → Option Nat} (hp : ws[p]? = some (a, .inl (cA, n, .inr (.inr (.inr (.inr f)))))) (h : ∀ j, j < n → f j = g j) : va_P D cl (ws.set p (a, .inl (cA, n, .inr (.inr (.inr (.inr g)))))) H := by
  have hl := (List.getElem?_eq_some_iff.mp hp).1
  have e := kk_cellq (cA := cA) h
  intro k q hk
  by_cases hkp : k = p
  · subst hkp
    rw [List.getElem?_set_self hl] at hk
    cases hk
    show H[a]? = some (vp_cell cA (n, .inr (.inr (.inr (.inr g)))))
    rw [← e]
    exact hP _ _ hp
  · rw [List.getElem?_set_ne (Ne.symm hkp)] at hk
    exact hP k q hk
theorem kk_mnaP {D : va_G} {cl : List vw_C} {X : va_W} {q : Nat} {cA cy : ClassId} {N : Nat} {r : Nat → Nat} {z : vp_A} {f : Nat → va_E} {H : Heap} (h : va_P D cl ((X ++ [(q, .inl (cA, N, .inr (.inr (.inr (.inr (fun i => if i < N then some (r i) else none))))))]) ++ va_pl ([] ++ (List.range N).map r) (vr_up f ((List.range N).map r) (.inl (cy, z)))) H) : va_P D cl ((X ++ [(q, .inl (cA, N, .inr (.inr (.inr (.inr (fun j => some (r j)))))))]) ++ (List.range N).map fun k => (r k, .inl (cy, z))) H := by
  rw [kk_rowsE] at h
  have h2 := kk_arq h X.length (a := q) (cA := cA) (n := N) (f := fun i => if i < N then some (r i) else none) (g := fun j => some (r j)) (by
    rw [List.append_assoc, List.getElem?_append_right (Nat.le_refl _), Nat.sub_self]
    rfl) (fun j hj => if_pos hj)
  rw [List.append_assoc, List.set_append_right _ _ (Nat.le_refl _), Nat.sub_self] at h2
  rw [List.append_assoc]
  exact h2
theorem kk_mnaD {A : Nat → Prop} {X : va_W} {q : Nat} {cA cy : ClassId} {N : Nat} {r : Nat → Nat} {z : vp_A} {f : Nat → va_E} {g g' : Nat → Option Nat} (h : va_D A ((X ++ [(q, .inl (cA, N, .inr (.inr (.inr (.inr g)))))]) ++ va_pl ([] ++ (List.range N).map r) (vr_up f ((List.range N).map r) (.inl (cy, z))))) : va_D A ((X ++ [(q, .inl (cA, N, .inr (.inr (.inr (.inr g')))))]) ++ (List.range N).map fun k => (r k, .inl (cy, z))) := by
  rw [kk_rowsE] at h
  refine kk_Dmap h ?_
  simp only [List.map_append, List.map_cons]
theorem kk_as {W F B P : va_W} : (W ++ (F ++ B)) ++ P = (W ++ F) ++ (B ++ P) := by simp only [List.append_assoc]
theorem kk_as2 {W B C P : va_W} : W ++ ((B ++ C) ++ P) = W ++ (B ++ (C ++ P)) := by simp only [List.append_assoc]
-- the cells of both objects, in groups
def gw_T0 (a_T0_0 : Nat) (a_T0_1 : Nat) (a_T0_2 : Nat) (a_T0_3 : Nat) (a_ST_0 : Nat) (a_C_0 : Nat) (a_R_0 : Nat) (a_F_0 : Nat) (a_P_0 : Nat) (a_B_0 : Nat) (a_D_0 : Nat) (a_T_0 : Nat) (a_N_0 : Nat) (a_S_0 a_L_0 a_H_0 : Nat → Nat) (cOStreet : ClassId) (cOLaw : ClassId) (cOShelf : ClassId) (v_T0_streetCount : Int32) (v_T0_lawCount : Int32) : va_W := [(a_T0_0, .inr (11, [.ref a_T0_1, .int v_T0_streetCount, .ref a_ST_0, .ref a_C_0, .ref a_R_0, .ref a_F_0, .ref a_P_0, .ref a_B_0, .ref a_D_0, .ref a_T_0, .ref a_T0_2, .int v_T0_lawCount, .ref a_N_0, .ref a_T0_3])), (a_T0_1, .inl (cOStreet, 6, .inr (.inr (.inr (.inr (fun j => some (a_S_0 j))))))), (a_T0_2, .inl (cOLaw, 4, .inr (.inr (.inr (.inr (fun j => some (a_L_0 j))))))), (a_T0_3, .inl (cOShelf, 6, .inr (.inr (.inr (.inr (fun j => some (a_H_0 j)))))))]
def gw_S (a_S_0 : Nat) (a_S_1 : Nat) (a_S_2 : Nat) (a_S_3 : Nat) (cint : ClassId) (v_S_size : Int32) (c_S_1 : Nat → Int32) (c_S_2 : Nat → Int32) (c_S_3 : Nat → Int32) : va_W := [(a_S_0, .inr (9, [.ref a_S_1, .ref a_S_2, .ref a_S_3, .int v_S_size])), (a_S_1, .inl (cint, 40, .inl c_S_1)), (a_S_2, .inl (cint, 40, .inl c_S_2)), (a_S_3, .inl (cint, 40, .inl c_S_3))]
def gf_S (a_S_0 : Nat → Nat) (a_S_1 : Nat → Nat) (a_S_2 : Nat → Nat) (a_S_3 : Nat → Nat) (cint : ClassId) (v_S_size : Nat → Int32) (c_S_1 : Nat → Nat → Int32) (c_S_2 : Nat → Nat → Int32) (c_S_3 : Nat → Nat → Int32) : Nat → va_W := fun k => gw_S (a_S_0 k) (a_S_1 k) (a_S_2 k) (a_S_3 k) cint (v_S_size k) (c_S_1 k) (c_S_2 k) (c_S_3 k)
theorem gp_S {a_S_0 a_S_1 a_S_2 a_S_3 : Nat → Nat} {cint : ClassId} {v_S_size : Nat → Int32} {c_S_1 : Nat → Nat → Int32} {c_S_2 : Nat → Nat → Int32} {c_S_3 : Nat → Nat → Int32} {k : Nat} (hk : k < 6) {u0 : Int32} {u1 : Nat → Int32} {u2 : Nat → Int32} {u3 : Nat → Int32} {Ls : List va_W} : (gw_S (a_S_0 k) (a_S_1 k) (a_S_2 k) (a_S_3 k) cint u0 u1 u2 u3 :: kk_famx 6 k (gf_S a_S_0 a_S_1 a_S_2 a_S_3 cint v_S_size c_S_1 c_S_2 c_S_3) :: Ls).flatten.Perm (kk_fam 6 (gf_S a_S_0 a_S_1 a_S_2 a_S_3 cint (va_up v_S_size k u0) (va_up c_S_1 k u1) (va_up c_S_2 k u2) (va_up c_S_3 k u3)) :: Ls).flatten := by
  have e1 : (gf_S a_S_0 a_S_1 a_S_2 a_S_3 cint (va_up v_S_size k u0) (va_up c_S_1 k u1) (va_up c_S_2 k u2) (va_up c_S_3 k u3)) k = gw_S (a_S_0 k) (a_S_1 k) (a_S_2 k) (a_S_3 k) cint u0 u1 u2 u3 := by simp only [gf_S, va_up_self]
  have e2 : kk_famx 6 k (gf_S a_S_0 a_S_1 a_S_2 a_S_3 cint v_S_size c_S_1 c_S_2 c_S_3) = kk_famx 6 k (gf_S a_S_0 a_S_1 a_S_2 a_S_3 cint (va_up v_S_size k u0) (va_up c_S_1 k u1) (va_up c_S_2 k u2) (va_up c_S_3 k u3)) := kk_famx_c (fun j hj => by simp only [gf_S, va_up_ne _ _ hj])
  rw [List.flatten_cons, List.flatten_cons, List.flatten_cons, ← e1, e2, ← List.append_assoc]
  exact (kk_pick hk _).symm.append_right _
theorem gq_S {a_S_0 a_S_1 a_S_2 a_S_3 : Nat → Nat} {cint : ClassId} {v_S_size : Nat → Int32} {c_S_1 : Nat → Nat → Int32} {c_S_2 : Nat → Nat → Int32} {c_S_3 : Nat → Nat → Int32} {k j : Nat} (hk : k < 6) (hj : j < 6) (hjk : j ≠ k) {u0 : Int32} {u1 : Nat → Int32} {u2 : Nat → Int32} {u3 : Nat → Int32} {Ls : List va_W} : (gw_S (a_S_0 k) (a_S_1 k) (a_S_2 k) (a_S_3 k) cint (v_S_size k) (c_S_1 k) (c_S_2 k) (c_S_3 k) :: gw_S (a_S_0 j) (a_S_1 j) (a_S_2 j) (a_S_3 j) cint u0 u1 u2 u3 :: kk_famy 6 k j (gf_S a_S_0 a_S_1 a_S_2 a_S_3 cint v_S_size c_S_1 c_S_2 c_S_3) :: Ls).flatten.Perm (kk_fam 6 (gf_S a_S_0 a_S_1 a_S_2 a_S_3 cint (va_up v_S_size j u0) (va_up c_S_1 j u1) (va_up c_S_2 j u2) (va_up c_S_3 j u3)) :: Ls).flatten := by
  have e1 : (gf_S a_S_0 a_S_1 a_S_2 a_S_3 cint (va_up v_S_size j u0) (va_up c_S_1 j u1) (va_up c_S_2 j u2) (va_up c_S_3 j u3)) j = gw_S (a_S_0 j) (a_S_1 j) (a_S_2 j) (a_S_3 j) cint u0 u1 u2 u3 := by simp only [gf_S, va_up_self]
  have e0 : (gf_S a_S_0 a_S_1 a_S_2 a_S_3 cint (va_up v_S_size j u0) (va_up c_S_1 j u1) (va_up c_S_2 j u2) (va_up c_S_3 j u3)) k = gw_S (a_S_0 k) (a_S_1 k) (a_S_2 k) (a_S_3 k) cint (v_S_size k) (c_S_1 k) (c_S_2 k) (c_S_3 k) := by simp only [gf_S, va_up_ne _ _ hjk.symm]
  have e2 : kk_famy 6 k j (gf_S a_S_0 a_S_1 a_S_2 a_S_3 cint v_S_size c_S_1 c_S_2 c_S_3) = kk_famy 6 k j (gf_S a_S_0 a_S_1 a_S_2 a_S_3 cint (va_up v_S_size j u0) (va_up c_S_1 j u1) (va_up c_S_2 j u2) (va_up c_S_3 j u3)) := kk_famy_c (fun i _ hi => by simp only [gf_S, va_up_ne _ _ hi])
  rw [List.flatten_cons, List.flatten_cons, List.flatten_cons, List.flatten_cons, ← e0, ← e1, e2, ← List.append_assoc ((gf_S a_S_0 a_S_1 a_S_2 a_S_3 cint (va_up v_S_size j u0) (va_up c_S_1 j u1) (va_up c_S_2 j u2) (va_up c_S_3 j u3)) j)]
  exact (((kk_pick2 hj hjk _).symm.append_right Ls.flatten).append_left _).trans (by rw [← List.append_assoc]; exact (kk_pick hk _).symm.append_right _)
def gw_L (a_L_0 : Nat) (a_L_1 : Nat) (a_L_2 : Nat) (a_L_3 : Nat) (cint : ClassId) (v_L_size : Int32) (v_L_top : Int32) (c_L_1 : Nat → Int32) (c_L_2 : Nat → Int32) (c_L_3 : Nat → Int32) : va_W := [(a_L_0, .inr (4, [.ref a_L_1, .int v_L_size, .ref a_L_2, .ref a_L_3, .int v_L_top])), (a_L_1, .inl (cint, 128, .inl c_L_1)), (a_L_2, .inl (cint, 8, .inl c_L_2)), (a_L_3, .inl (cint, 64, .inl c_L_3))]
def gf_L (a_L_0 : Nat → Nat) (a_L_1 : Nat → Nat) (a_L_2 : Nat → Nat) (a_L_3 : Nat → Nat) (cint : ClassId) (v_L_size : Nat → Int32) (v_L_top : Nat → Int32) (c_L_1 : Nat → Nat → Int32) (c_L_2 : Nat → Nat → Int32) (c_L_3 : Nat → Nat → Int32) : Nat → va_W := fun k => gw_L (a_L_0 k) (a_L_1 k) (a_L_2 k) (a_L_3 k) cint (v_L_size k) (v_L_top k) (c_L_1 k) (c_L_2 k) (c_L_3 k)
theorem gp_L {a_L_0 a_L_1 a_L_2 a_L_3 : Nat → Nat} {cint : ClassId} {v_L_size : Nat → Int32} {v_L_top : Nat → Int32} {c_L_1 : Nat → Nat → Int32} {c_L_2 : Nat → Nat → Int32} {c_L_3 : Nat → Nat → Int32} {k : Nat} (hk : k < 4) {u0 : Int32} {u1 : Int32} {u2 : Nat → Int32} {u3 : Nat → Int32} {u4 : Nat → Int32} {Ls : List va_W} : (gw_L (a_L_0 k) (a_L_1 k) (a_L_2 k) (a_L_3 k) cint u0 u1 u2 u3 u4 :: kk_famx 4 k (gf_L a_L_0 a_L_1 a_L_2 a_L_3 cint v_L_size v_L_top c_L_1 c_L_2 c_L_3) :: Ls).flatten.Perm (kk_fam 4 (gf_L a_L_0 a_L_1 a_L_2 a_L_3 cint (va_up v_L_size k u0) (va_up v_L_top k u1) (va_up c_L_1 k u2) (va_up c_L_2 k u3) (va_up c_L_3 k u4)) :: Ls).flatten := by
  have e1 : (gf_L a_L_0 a_L_1 a_L_2 a_L_3 cint (va_up v_L_size k u0) (va_up v_L_top k u1) (va_up c_L_1 k u2) (va_up c_L_2 k u3) (va_up c_L_3 k u4)) k = gw_L (a_L_0 k) (a_L_1 k) (a_L_2 k) (a_L_3 k) cint u0 u1 u2 u3 u4 := by simp only [gf_L, va_up_self]
  have e2 : kk_famx 4 k (gf_L a_L_0 a_L_1 a_L_2 a_L_3 cint v_L_size v_L_top c_L_1 c_L_2 c_L_3) = kk_famx 4 k (gf_L a_L_0 a_L_1 a_L_2 a_L_3 cint (va_up v_L_size k u0) (va_up v_L_top k u1) (va_up c_L_1 k u2) (va_up c_L_2 k u3) (va_up c_L_3 k u4)) := kk_famx_c (fun j hj => by simp only [gf_L, va_up_ne _ _ hj])
  rw [List.flatten_cons, List.flatten_cons, List.flatten_cons, ← e1, e2, ← List.append_assoc]
  exact (kk_pick hk _).symm.append_right _
theorem gq_L {a_L_0 a_L_1 a_L_2 a_L_3 : Nat → Nat} {cint : ClassId} {v_L_size : Nat → Int32} {v_L_top : Nat → Int32} {c_L_1 : Nat → Nat → Int32} {c_L_2 : Nat → Nat → Int32} {c_L_3 : Nat → Nat → Int32} {k j : Nat} (hk : k < 4) (hj : j < 4) (hjk : j ≠ k) {u0 : Int32} {u1 : Int32} {u2 : Nat → Int32} {u3 : Nat → Int32} {u4 : Nat → Int32} {Ls : List va_W} : (gw_L (a_L_0 k) (a_L_1 k) (a_L_2 k) (a_L_3 k) cint (v_L_size k) (v_L_top k) (c_L_1 k) (c_L_2 k) (c_L_3 k) :: gw_L (a_L_0 j) (a_L_1 j) (a_L_2 j) (a_L_3 j) cint u0 u1 u2 u3 u4 :: kk_famy 4 k j (gf_L a_L_0 a_L_1 a_L_2 a_L_3 cint v_L_size v_L_top c_L_1 c_L_2 c_L_3) :: Ls).flatten.Perm (kk_fam 4 (gf_L a_L_0 a_L_1 a_L_2 a_L_3 cint (va_up v_L_size j u0) (va_up v_L_top j u1) (va_up c_L_1 j u2) (va_up c_L_2 j u3) (va_up c_L_3 j u4)) :: Ls).flatten := by
  have e1 : (gf_L a_L_0 a_L_1 a_L_2 a_L_3 cint (va_up v_L_size j u0) (va_up v_L_top j u1) (va_up c_L_1 j u2) (va_up c_L_2 j u3) (va_up c_L_3 j u4)) j = gw_L (a_L_0 j) (a_L_1 j) (a_L_2 j) (a_L_3 j) cint u0 u1 u2 u3 u4 := by simp only [gf_L, va_up_self]
  have e0 : (gf_L a_L_0 a_L_1 a_L_2 a_L_3 cint (va_up v_L_size j u0) (va_up v_L_top j u1) (va_up c_L_1 j u2) (va_up c_L_2 j u3) (va_up c_L_3 j u4)) k = gw_L (a_L_0 k) (a_L_1 k) (a_L_2 k) (a_L_3 k) cint (v_L_size k) (v_L_top k) (c_L_1 k) (c_L_2 k) (c_L_3 k) := by simp only [gf_L, va_up_ne _ _ hjk.symm]
  have e2 : kk_famy 4 k j (gf_L a_L_0 a_L_1 a_L_2 a_L_3 cint v_L_size v_L_top c_L_1 c_L_2 c_L_3) = kk_famy 4 k j (gf_L a_L_0 a_L_1 a_L_2 a_L_3 cint (va_up v_L_size j u0) (va_up v_L_top j u1) (va_up c_L_1 j u2) (va_up c_L_2 j u3) (va_up c_L_3 j u4)) := kk_famy_c (fun i _ hi => by simp only [gf_L, va_up_ne _ _ hi])
  rw [List.flatten_cons, List.flatten_cons, List.flatten_cons, List.flatten_cons, ← e0, ← e1, e2, ← List.append_assoc ((gf_L a_L_0 a_L_1 a_L_2 a_L_3 cint (va_up v_L_size j u0) (va_up v_L_top j u1) (va_up c_L_1 j u2) (va_up c_L_2 j u3) (va_up c_L_3 j u4)) j)]
  exact (((kk_pick2 hj hjk _).symm.append_right Ls.flatten).append_left _).trans (by rw [← List.append_assoc]; exact (kk_pick hk _).symm.append_right _)
def gw_H (a_H_0 : Nat) (a_H_1 : Nat) (clong : ClassId) (v_H_holds : Int32) (v_H_size : Int32) (v_H_line : Int32) (c_H_1 : Nat → Int64) : va_W := [(a_H_0, .inr (8, [.ref a_H_1, .int v_H_holds, .int v_H_size, .int v_H_line])), (a_H_1, .inl (clong, 60, .inr (.inl c_H_1)))]
def gf_H (a_H_0 : Nat → Nat) (a_H_1 : Nat → Nat) (clong : ClassId) (v_H_holds : Nat → Int32) (v_H_size : Nat → Int32) (v_H_line : Nat → Int32) (c_H_1 : Nat → Nat → Int64) : Nat → va_W := fun k => gw_H (a_H_0 k) (a_H_1 k) clong (v_H_holds k) (v_H_size k) (v_H_line k) (c_H_1 k)
theorem gp_H {a_H_0 a_H_1 : Nat → Nat} {clong : ClassId} {v_H_holds : Nat → Int32} {v_H_size : Nat → Int32} {v_H_line : Nat → Int32} {c_H_1 : Nat → Nat → Int64} {k : Nat} (hk : k < 6) {u0 : Int32} {u1 : Int32} {u2 : Int32} {u3 : Nat → Int64} {Ls : List va_W} : (gw_H (a_H_0 k) (a_H_1 k) clong u0 u1 u2 u3 :: kk_famx 6 k (gf_H a_H_0 a_H_1 clong v_H_holds v_H_size v_H_line c_H_1) :: Ls).flatten.Perm (kk_fam 6 (gf_H a_H_0 a_H_1 clong (va_up v_H_holds k u0) (va_up v_H_size k u1) (va_up v_H_line k u2) (va_up c_H_1 k u3)) :: Ls).flatten := by
  have e1 : (gf_H a_H_0 a_H_1 clong (va_up v_H_holds k u0) (va_up v_H_size k u1) (va_up v_H_line k u2) (va_up c_H_1 k u3)) k = gw_H (a_H_0 k) (a_H_1 k) clong u0 u1 u2 u3 := by simp only [gf_H, va_up_self]
  have e2 : kk_famx 6 k (gf_H a_H_0 a_H_1 clong v_H_holds v_H_size v_H_line c_H_1) = kk_famx 6 k (gf_H a_H_0 a_H_1 clong (va_up v_H_holds k u0) (va_up v_H_size k u1) (va_up v_H_line k u2) (va_up c_H_1 k u3)) := kk_famx_c (fun j hj => by simp only [gf_H, va_up_ne _ _ hj])
  rw [List.flatten_cons, List.flatten_cons, List.flatten_cons, ← e1, e2, ← List.append_assoc]
  exact (kk_pick hk _).symm.append_right _
theorem gq_H {a_H_0 a_H_1 : Nat → Nat} {clong : ClassId} {v_H_holds : Nat → Int32} {v_H_size : Nat → Int32} {v_H_line : Nat → Int32} {c_H_1 : Nat → Nat → Int64} {k j : Nat} (hk : k < 6) (hj : j < 6) (hjk : j ≠ k) {u0 : Int32} {u1 : Int32} {u2 : Int32} {u3 : Nat → Int64} {Ls : List va_W} : (gw_H (a_H_0 k) (a_H_1 k) clong (v_H_holds k) (v_H_size k) (v_H_line k) (c_H_1 k) :: gw_H (a_H_0 j) (a_H_1 j) clong u0 u1 u2 u3 :: kk_famy 6 k j (gf_H a_H_0 a_H_1 clong v_H_holds v_H_size v_H_line c_H_1) :: Ls).flatten.Perm (kk_fam 6 (gf_H a_H_0 a_H_1 clong (va_up v_H_holds j u0) (va_up v_H_size j u1) (va_up v_H_line j u2) (va_up c_H_1 j u3)) :: Ls).flatten := by
  have e1 : (gf_H a_H_0 a_H_1 clong (va_up v_H_holds j u0) (va_up v_H_size j u1) (va_up v_H_line j u2) (va_up c_H_1 j u3)) j = gw_H (a_H_0 j) (a_H_1 j) clong u0 u1 u2 u3 := by simp only [gf_H, va_up_self]
  have e0 : (gf_H a_H_0 a_H_1 clong (va_up v_H_holds j u0) (va_up v_H_size j u1) (va_up v_H_line j u2) (va_up c_H_1 j u3)) k = gw_H (a_H_0 k) (a_H_1 k) clong (v_H_holds k) (v_H_size k) (v_H_line k) (c_H_1 k) := by simp only [gf_H, va_up_ne _ _ hjk.symm]
  have e2 : kk_famy 6 k j (gf_H a_H_0 a_H_1 clong v_H_holds v_H_size v_H_line c_H_1) = kk_famy 6 k j (gf_H a_H_0 a_H_1 clong (va_up v_H_holds j u0) (va_up v_H_size j u1) (va_up v_H_line j u2) (va_up c_H_1 j u3)) := kk_famy_c (fun i _ hi => by simp only [gf_H, va_up_ne _ _ hi])
  rw [List.flatten_cons, List.flatten_cons, List.flatten_cons, List.flatten_cons, ← e0, ← e1, e2, ← List.append_assoc ((gf_H a_H_0 a_H_1 clong (va_up v_H_holds j u0) (va_up v_H_size j u1) (va_up v_H_line j u2) (va_up c_H_1 j u3)) j)]
  exact (((kk_pick2 hj hjk _).symm.append_right Ls.flatten).append_left _).trans (by rw [← List.append_assoc]; exact (kk_pick hk _).symm.append_right _)
def gw_ST (a_ST_0 : Nat) (a_ST_1 : Nat) (a_ST_2 : Nat) (a_ST_3 : Nat) (cint : ClassId) (v_ST_size : Int32) (c_ST_1 : Nat → Int32) (c_ST_2 : Nat → Int32) (c_ST_3 : Nat → Int32) : va_W := [(a_ST_0, .inr (9, [.ref a_ST_1, .ref a_ST_2, .ref a_ST_3, .int v_ST_size])), (a_ST_1, .inl (cint, 40, .inl c_ST_1)), (a_ST_2, .inl (cint, 40, .inl c_ST_2)), (a_ST_3, .inl (cint, 40, .inl c_ST_3))]
def gw_C (a_C_0 : Nat) (a_C_1 : Nat) (a_C_2 : Nat) (a_C_3 : Nat) (a_C_4 : Nat) (cint : ClassId) (v_C_done : Int32) (v_C_kept : Int32) (c_C_1 : Nat → Int32) (c_C_2 : Nat → Int32) (c_C_3 : Nat → Int32) (c_C_4 : Nat → Int32) : va_W := [(a_C_0, .inr (1, [.ref a_C_1, .ref a_C_2, .ref a_C_3, .ref a_C_4, .int v_C_done, .int v_C_kept])), (a_C_1, .inl (cint, 40, .inl c_C_1)), (a_C_2, .inl (cint, 40, .inl c_C_2)), (a_C_3, .inl (cint, 40, .inl c_C_3)), (a_C_4, .inl (cint, 40, .inl c_C_4))]
def gw_R (a_R_0 : Nat) (a_R_1 : Nat) (cint : ClassId) (v_R_many : Int32) (c_R_1 : Nat → Int32) : va_W := [(a_R_0, .inr (7, [.ref a_R_1, .int v_R_many])), (a_R_1, .inl (cint, 40, .inl c_R_1))]
def gw_F (a_F_0 : Nat) (a_F_1 : Nat) (a_F_2 : Nat) (a_F_3 : Nat) (a_F_4 : Nat) (cint : ClassId) (c_F_1 : Nat → Int32) (c_F_2 : Nat → Int32) (c_F_3 : Nat → Int32) (c_F_4 : Nat → Int32) : va_W := [(a_F_0, .inr (3, [.ref a_F_1, .ref a_F_2, .ref a_F_3, .ref a_F_4])), (a_F_1, .inl (cint, 41, .inl c_F_1)), (a_F_2, .inl (cint, 41, .inl c_F_2)), (a_F_3, .inl (cint, 41, .inl c_F_3)), (a_F_4, .inl (cint, 41, .inl c_F_4))]
def gw_P (a_P_0 : Nat) (a_P_1 : Nat) (a_P_2 : Nat) (a_P_3 : Nat) (a_P_4 : Nat) (r_P_0 : Nat → Nat) (r_P_1 : Nat → Nat) (cAint : ClassId) (cint : ClassId) (v_P_pieceCount : Int32) (c_P_3 : Nat → Int32) (c_P_4 : Nat → Int32) (d_P_0 : Nat → Nat → Int32) (d_P_1 : Nat → Nat → Int32) : va_W := (([(a_P_0, .inr (6, [.ref a_P_1, .ref a_P_2, .ref a_P_3, .ref a_P_4, .int v_P_pieceCount])), (a_P_1, .inl (cAint, 40, .inr (.inr (.inr (.inr (fun j => some (r_P_0 j))))))), (a_P_2, .inl (cAint, 6, .inr (.inr (.inr (.inr (fun j => some (r_P_1 j))))))), (a_P_3, .inl (cint, 40, .inl c_P_3)), (a_P_4, .inl (cint, 5, .inl c_P_4))] : va_W) ++ (kk_rowsI r_P_0 cint 41 d_P_0 40 ++ (kk_rowsI r_P_1 cint 41 d_P_1 6)))
def gw_B (a_B_0 : Nat) (a_B_1 : Nat) (cint : ClassId) (v_B_size : Int32) (c_B_1 : Nat → Int32) : va_W := [(a_B_0, .inr (0, [.ref a_B_1, .int v_B_size])), (a_B_1, .inl (cint, 6, .inl c_B_1))]
