-- a row out of an array of rows
theorem kk_aald {p : Program} {l : Launch} {e : Env} {R : Room} {s : State} {m : MethodId} {args : Array Value} {below : List Frame} {meth : Method} {c : Code} {H : Heap} {locs : List Loc} {cells slots : Nat} {Q : State → Prop} {cc : ByteArray} {D : va_G} {cl : List vw_C} {tys : List (ClassId × FieldType)} {ws : va_W} {a : Nat} {pc : Nat} {ls : Array Slot} {rest : List Value} (hexec : p.tables.exec = Jvm.exec) (hb : c.code = cc) (hK : va_K D cl tys s) (hP : va_P D cl ws H) (q0 t0 : Nat) {cA : ClassId} {T : FieldType} {n : Nat} {f : Nat → Option Nat} (ha : ws[q0]? = some (a, .inl (cA, n, .inr (.inr (.inr (.inr f)))))) (ht : tys[t0]? = some (cA, .array T)) {i : Int32} (hin : vp_in i n) (hdg : decode cc pc = .ok (.aaload, 1))
    (kk : W p l e R s m args below meth c H locs cells slots Q (F0 m (pc + 1) ls (va_rf (f i.toNatClampNeg) :: rest))) : W p l e R s m args below meth c H locs cells slots Q (F0 m pc ls (.int i :: .ref a :: rest)) := by
  have hlt : i.toNatClampNeg < n := Nat.not_le.mp fun q => hin (Or.inr q)
  exact W.aald (v := va_rf (f i.toNatClampNeg)) (ty := .array T) hexec hb (hP q0 _ ha) ((hK.2 t0 _ ht).1 n (fun j => va_rf (f j))) rfl (fun q => by cases q) (by show ¬ (i < 0 ∨ (arrV _ _ _).slots.size ≤ _); rw [arrV_size]; exact hin) (by show (arrV _ _ _).slots[_]? = _; rw [arrV_read _ _ hlt]) rfl rfl hdg kk
theorem kk_cutout {D : va_G} {cl : List vw_C} {ws wc : va_W} {H : Heap} {A0 : Nat → Prop} {H0 : Heap} {locs : List Loc} (hP : va_P D cl ws H) (hD : va_D A0 ws) (hS : va_S A0 H0 H locs) (hA : ∀ q, H0.size ≤ q → A0 q) (is : List Nat) (hn : va_nd is = true) (h : is.map (fun i => ws[i]?) = wc.map some) : va_P D cl wc H ∧ va_D A0 wc ∧ (∀ q, va_A wc H.size q → A0 q) := by
  refine ⟨fun k q hk => ?_, hD.sub is hn h, va_free hD hS hA is h⟩
  have h1 : (is.map (fun i => ws[i]?))[k]? = some (some q) := by rw [h, List.getElem?_map, hk]; rfl
  rw [List.getElem?_map] at h1
  cases hi : is[k]? with
  | none =>
    rw [hi] at h1
    cases h1
  | some i =>
    rw [hi] at h1
    exact hP i q (by simpa using h1)
theorem kk_leafout {D : va_G} {cl : List vw_C} {ws wc : va_W} {H : Heap} {A0 : Nat → Prop} (hP : va_P D cl ws H) (hD : va_D A0 ws) (is : List Nat) (hn : va_nd is = true) (h : is.map (fun i => ws[i]?) = wc.map some) : va_P D cl wc H ∧ va_D A0 wc := by
  refine ⟨fun k q hk => ?_, hD.sub is hn h⟩
  have h1 : (is.map (fun i => ws[i]?))[k]? = some (some q) := by rw [h, List.getElem?_map, hk]; rfl
  rw [List.getElem?_map] at h1
  cases hi : is[k]? with
  | none =>
    rw [hi] at h1
    cases h1
  | some i =>
    rw [hi] at h1
    exact hP i q (by simpa using h1)
theorem kk_getr {α : Type} {P B : List α} {k : Nat} {q : α} (h : B[k]? = some q) : (P ++ B)[P.length + k]? = some q := by
  rw [List.getElem?_append_right (Nat.le_add_right _ _), Nat.add_sub_cancel_left]
  exact h
theorem kk_rowL {r : Nat → Nat} {c : ClassId} {n : Nat} {F : Nat → Nat → Int64} {N k : Nat} (hk : k < N) : (kk_rowsL r c n F N)[k]? = some (r k, .inl (c, n, .inr (.inl (F k)))) := by simp [kk_rowsL, hk]
theorem kk_rowI {r : Nat → Nat} {c : ClassId} {n : Nat} {F : Nat → Nat → Int32} {N k : Nat} (hk : k < N) : (kk_rowsI r c n F N)[k]? = some (r k, .inl (c, n, .inl (F k))) := by simp [kk_rowsI, hk]
theorem kk_setr {α : Type} {P B : List α} {k : Nat} {q : α} : (P ++ B).set (P.length + k) q = P ++ B.set k q := by
  rw [List.set_append_right _ _ (Nat.le_add_right _ _), Nat.add_sub_cancel_left]
theorem kk_rowsL_set {r : Nat → Nat} {c : ClassId} {n : Nat} {F : Nat → Nat → Int64} {N k : Nat} (hk : k < N) {g : Nat → Int64} : (kk_rowsL r c n F N).set k (r k, .inl (c, n, .inr (.inl g))) = kk_rowsL r c n (kk_upF F k g) N := by
  unfold kk_rowsL
  exact kk_rset (α := Nat) _ _ hk (by simp [kk_upF]) (fun j hj => by simp [kk_upF, hj])
theorem kk_rowsI_set {r : Nat → Nat} {c : ClassId} {n : Nat} {F : Nat → Nat → Int32} {N k : Nat} (hk : k < N) {g : Nat → Int32} : (kk_rowsI r c n F N).set k (r k, .inl (c, n, .inl g)) = kk_rowsI r c n (kk_upF F k g) N := by
  unfold kk_rowsI
  exact kk_rset (α := Nat) _ _ hk (by simp [kk_upF]) (fun j hj => by simp [kk_upF, hj])
