-- decode reads a few bytes behind pc alone: a row of decode by a window of six bytes (the whole method's size isn't worked out in each row)
def kd_ag (C W : ByteArray) (k : Nat) : Prop := ∀ i, (h : i < W.size) → ∃ g : k + i < C.size, C[k + i]'g = W[i]'h
def kd_L {α : Type} (r s : Decoder α) : Prop := ∀ (C W : ByteArray) (k q : Nat) (x : α) (z : Nat), kd_ag C W k → Reader.runAt r W q = .ok (x, z) → Reader.runAt s C (k + q) = .ok (x, k + z)
theorem kd_pure {α : Type} (a : α) : kd_L (pure a : Decoder α) (pure a) := fun C W k q x z _ h => by
  have h1 : (Except.ok (a, q) : Except DecodeError (α × Nat)) = .ok (x, z) := h
  cases h1
  rfl
theorem kd_throw {α : Type} (e : DecodeError) (s : Decoder α) : kd_L (throw e : Decoder α) s := fun C W k q x z _ h => by
  have h1 : (Except.error e : Except DecodeError (α × Nat)) = .ok (x, z) := h
  cases h1
theorem kd_be {α β : Type} (r : Decoder α) (f : α → Decoder β) (B : ByteArray) (q : Nat) : Reader.runAt (r >>= f) B q = Except.bind (Reader.runAt r B q) (fun p => Reader.runAt (f p.1) B p.2) := rfl
theorem kd_me {α β : Type} (r : Decoder α) (f : α → β) (B : ByteArray) (q : Nat) : Reader.runAt (f <$> r) B q = Except.bind (Reader.runAt r B q) (fun p => Except.ok (f p.1, p.2)) := rfl
theorem kd_bind {α β : Type} {r s : Decoder α} {f g : α → Decoder β} (h1 : kd_L r s) (h2 : ∀ a, kd_L (f a) (g a)) : kd_L (r >>= f) (s >>= g) := fun C W k q x z hag h => by
  rw [kd_be] at h ⊢
  cases hr : Reader.runAt r W q with
  | error e =>
    rw [hr] at h
    have h3 : (Except.error e : Except DecodeError (β × Nat)) = .ok (x, z) := h
    cases h3
  | ok p =>
    obtain ⟨a, q1⟩ := p
    rw [hr] at h
    rw [h1 C W k q a q1 hag hr]
    exact h2 a C W k q1 x z hag h
theorem kd_map {α β : Type} {r : Decoder α} (f : α → β) (h1 : kd_L r r) : kd_L (f <$> r) (f <$> r) := fun C W k q x z hag h => by
  rw [kd_me] at h ⊢
  cases hr : Reader.runAt r W q with
  | error e =>
    rw [hr] at h
    have h3 : (Except.error e : Except DecodeError (β × Nat)) = .ok (x, z) := h
    cases h3
  | ok p =>
    obtain ⟨a, q1⟩ := p
    rw [hr] at h
    have h3 : (Except.ok (f a, q1) : Except DecodeError (β × Nat)) = .ok (x, z) := h
    rw [h1 C W k q a q1 hag hr]
    cases h3
    rfl
theorem kd_u1e (B : ByteArray) (q : Nat) : Reader.runAt (Reader.u1 : Decoder Nat) B q = if h : q < B.size then .ok ((B[q]'h).toNat, q + 1) else .error (HasTruncated.truncated q) := by
  have e : Reader.runAt (Reader.u1 : Decoder Nat) B q = (dite (q < B.size) (fun h => (do set (q + 1); pure (B[q]'h).toNat : Decoder Nat)) (fun _ => throw (HasTruncated.truncated q))) B q := rfl
  rw [e]
  by_cases h : q < B.size
  · rw [dif_pos h, dif_pos h]
    rfl
  · rw [dif_neg h, dif_neg h]
    rfl
theorem kd_u1 : kd_L (Reader.u1 : Decoder Nat) Reader.u1 := fun C W k q x z hag h => by
  rw [kd_u1e] at h ⊢
  by_cases hq : q < W.size
  · rw [dif_pos hq] at h
    obtain ⟨g, e⟩ := hag q hq
    rw [dif_pos g, e]
    cases h
    rfl
  · rw [dif_neg hq] at h
    cases h
theorem kd_u2 : kd_L (Reader.u2 : Decoder Nat) Reader.u2 := by
  unfold Reader.u2
  exact kd_bind kd_u1 fun _ => kd_bind kd_u1 fun _ => kd_pure _
theorem kd_u4 : kd_L (Reader.u4 : Decoder Nat) Reader.u4 := by
  unfold Reader.u4
  exact kd_bind kd_u2 fun _ => kd_bind kd_u2 fun _ => kd_pure _
theorem kd_s1 : kd_L (Reader.s1 : Decoder Int) Reader.s1 := kd_map _ kd_u1
theorem kd_s2 : kd_L (Reader.s2 : Decoder Int) Reader.s2 := kd_map _ kd_u2
theorem kd_s4 : kd_L (Reader.s4 : Decoder Int) Reader.s4 := kd_map _ kd_u4
theorem kd_na (pc : Nat) : kd_L (Decoder.newarray 0) (Decoder.newarray pc) := by
  unfold Decoder.newarray
  refine kd_bind kd_u1 fun a => ?_
  split <;> first | exact kd_pure _ | exact kd_throw _ _
def kd_easy (n : Nat) : Bool := !(n == 170 || n == 171 || n == 185 || n == 186 || n == 196 || n == 197)
set_option maxHeartbeats 8000000 in
set_option maxRecDepth 100000 in
theorem kd_in (pc : Nat) : ∃ M : Nat → Nat → Decoder Instr, (∀ p, Decoder.instr p = Reader.u1 >>= M p) ∧ ∀ op, kd_easy op = true → kd_L (M 0 op) (M pc op) := by
  refine ⟨_, fun p => rfl, fun op => ?_⟩
  split <;> first
    | exact fun _ => kd_pure _
    | exact fun _ => kd_bind kd_u2 fun _ => kd_pure _
    | exact fun _ => kd_bind kd_s2 fun _ => kd_pure _
    | exact fun _ => kd_bind kd_u1 fun _ => kd_pure _
    | exact fun _ => kd_bind kd_s1 fun _ => kd_pure _
    | exact fun _ => kd_bind kd_s4 fun _ => kd_pure _
    | exact fun _ => kd_bind kd_u1 fun _ => kd_bind kd_s1 fun _ => kd_pure _
    | exact fun _ => kd_na pc
    | exact fun _ => kd_throw _ _
    | exact fun h => absurd h (by decide)
def kd_ok (c : ByteArray) (pc : Nat) (i : Instr) (l : Nat) : Bool :=
  match (c.data.toList.drop pc).take 6 with
  | [] => false
  | b :: t => kd_easy b.toNat && decide (decode ⟨⟨b :: t⟩⟩ 0 = .ok (i, l))
theorem kd_wag (c : ByteArray) (pc : Nat) (T : List UInt8) (e : (c.data.toList.drop pc).take 6 = T) : kd_ag c ⟨⟨T⟩⟩ pc := by
  subst e
  obtain ⟨⟨L⟩⟩ := c
  intro i h
  have h1 : i < ((L.drop pc).take 6).length := h
  have h2 : pc + i < L.length := by
    rw [List.length_take, List.length_drop] at h1
    omega
  refine ⟨h2, ?_⟩
  show L[pc + i] = ((L.drop pc).take 6)[i]
  rw [List.getElem_take, List.getElem_drop]
theorem kd_dd {c : ByteArray} {pc : Nat} {i : Instr} {l : Nat} (h : kd_ok c pc i l = true) : decode c pc = .ok (i, l) := by
  unfold kd_ok at h
  split at h
  · cases h
  · rename_i b t e
    rw [Bool.and_eq_true, decide_eq_true_eq] at h
    obtain ⟨h1, h2⟩ := h
    obtain ⟨M, hM, hL⟩ := kd_in pc
    have hW := kd_wag c pc _ e
    have d : ∀ c pc, decode c pc = Except.bind (Reader.runAt (Decoder.instr pc) c pc) (fun p => Except.ok (p.1, p.2 - pc)) := fun _ _ => rfl
    rw [d, hM, kd_be] at h2
    rw [d, hM, kd_be]
    have hu : Reader.runAt (Reader.u1 : Decoder Nat) ⟨⟨b :: t⟩⟩ 0 = .ok (b.toNat, 1) := rfl
    have hv : Reader.runAt (Reader.u1 : Decoder Nat) c pc = .ok (b.toNat, pc + 1) := kd_u1 c _ pc 0 _ _ hW hu
    rw [hu] at h2
    rw [hv]
    cases hr : Reader.runAt (M 0 b.toNat) ⟨⟨b :: t⟩⟩ 1 with
    | error e =>
      have h3 : Except.bind (Reader.runAt (M 0 b.toNat) ⟨⟨b :: t⟩⟩ 1) (fun p => Except.ok (p.1, p.2 - 0)) = (.ok (i, l) : Except DecodeError (Instr × Nat)) := h2
      rw [hr] at h3
      have h4 : (Except.error e : Except DecodeError (Instr × Nat)) = .ok (i, l) := h3
      cases h4
    | ok p =>
      obtain ⟨x, z⟩ := p
      have h3 : Except.bind (Reader.runAt (M 0 b.toNat) ⟨⟨b :: t⟩⟩ 1) (fun p => Except.ok (p.1, p.2 - 0)) = (.ok (i, l) : Except DecodeError (Instr × Nat)) := h2
      rw [hr] at h3
      have h4 : (Except.ok (x, z - 0) : Except DecodeError (Instr × Nat)) = .ok (i, l) := h3
      have key := hL b.toNat h1 c _ pc 1 x z hW hr
      show Except.bind (Reader.runAt (M pc b.toNat) c (pc + 1)) (fun p => Except.ok (p.1, p.2 - pc)) = .ok (i, l)
      rw [key]
      have h5 : x = i ∧ z - 0 = l := by
        injection h4 with h6
        injection h6 with a b
        exact ⟨a, b⟩
      show (Except.ok (x, pc + z - pc) : Except DecodeError (Instr × Nat)) = .ok (i, l)
      rw [Nat.add_sub_cancel_left, ← h5.2, h5.1, Nat.sub_zero]
theorem kk_Ks {D : va_G} {cl : List vw_C} {tys : List (ClassId × FieldType)} {U : State} (tq : List (ClassId × FieldType)) (h : va_K D cl tys U) (is : List Nat) (hs : is.filterMap (fun i => tys[i]?) = tq) : va_K D cl tq U := h.sub is hs
theorem kk_Ps {D : va_G} {cl : List vw_C} {ws : va_W} {H : Heap} (wq : va_W) (h : va_P D cl ws H) (is : List Nat) (hs : is.filterMap (fun i => ws[i]?) = wq) : va_P D cl wq H := h.sub is hs
theorem kk_Ds {A : Nat → Prop} {ws : va_W} (wq : va_W) (hD : va_D A ws) (is : List Nat) (hn : va_nd is = true) (hs : is.map (fun i => ws[i]?) = wq.map some) : va_D A wq := hD.sub is hn hs
