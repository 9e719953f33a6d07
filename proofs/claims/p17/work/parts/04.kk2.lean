theorem kk_watch {f : Nat → Int32} {i w x : Int32} (hi : 0 ≤ i.toInt) (hw : 0 ≤ w.toInt) : (w.toInt = i.toInt → (upd f i.toNatClampNeg x w.toNatClampNeg).toInt = x.toInt) ∧ (w.toInt ≠ i.toInt → (upd f i.toNatClampNeg x w.toNatClampNeg).toInt = (f w.toNatClampNeg).toInt) := by
  constructor
  · intro h
    have e : w = i := Int32.toInt_inj.mp h
    rw [e, show upd f i.toNatClampNeg x i.toNatClampNeg = x from if_pos rfl]
  · intro h
    have e : ¬ w.toNatClampNeg = i.toNatClampNeg := by
      intro q
      have a : w.toInt.toNat = i.toInt.toNat := q
      omega
    rw [show upd f i.toNatClampNeg x w.toNatClampNeg = f w.toNatClampNeg from if_neg e]
theorem kk_w0 {f : Nat → Int32} {s i : Int32} : i.toInt = 0 → 1 ≤ (f (40 * s : Int32).toNatClampNeg).toInt → 1 ≤ (f (40 * s + i : Int32).toNatClampNeg).toInt := by
  intro h q
  have e : i = 0 := Int32.toInt_inj.mp h
  subst e
  rw [show (40 * s + 0 : Int32) = 40 * s by simp]
  exact q
theorem kk_mu {a b : Int} (h : a < b) (h0 : 0 < b) : a.toNat < b.toNat := by omega
theorem kk_ups {f : Nat → Int32} {k : Nat} {x : Int32} : upd f k x k = x := if_pos rfl
theorem kk_upbz {f : Nat → Int32} {n k : Nat} {x : Int32} {lo hi z : Int} {m : Int} (h : ∀ j : Nat, j < n → lo ≤ (f j).toInt ∧ (f j).toInt ≤ hi ∧ ((j : Int) < m → z ≤ (f j).toInt)) (hx : lo ≤ x.toInt ∧ x.toInt ≤ hi ∧ ((k : Int) < m → z ≤ x.toInt)) : ∀ j : Nat, j < n → lo ≤ (upd f k x j).toInt ∧ (upd f k x j).toInt ≤ hi ∧ ((j : Int) < m → z ≤ (upd f k x j).toInt) := by
  intro j hj
  unfold upd
  split
  · rename_i e
    subst e
    exact hx
  · exact h j hj
def kk_pm (f g : Nat → Int32) : Prop := ∀ s : Nat, s < 7 → 1 ≤ (f (40 * s)).toInt → 1 ≤ (g (40 * s)).toInt
theorem kk_pm_refl (f : Nat → Int32) : kk_pm f f := fun _ _ h => h
theorem kk_pm_trans {f g h : Nat → Int32} (a : kk_pm f g) (b : kk_pm g h) : kk_pm f h := fun s hs q => b s hs (a s hs q)
theorem kk_pm_upd {f g : Nat → Int32} {k : Nat} {x : Int32} (a : kk_pm f g) (h : ∀ s : Nat, s < 7 → k = 40 * s → 1 ≤ x.toInt) : kk_pm f (upd g k x) := by
  intro s hs q
  unfold upd
  split
  · rename_i e
    exact h s hs e.symm
  · exact a s hs q
theorem kk_pm_at {f g : Nat → Int32} {s : Int32} (a : kk_pm f g) (h1 : 0 ≤ s.toInt) (h2 : s.toInt ≤ 6) : 1 ≤ (f (40 * s : Int32).toNatClampNeg).toInt → 1 ≤ (g (40 * s : Int32).toNatClampNeg).toInt := by
  have e : (40 * s : Int32).toNatClampNeg = 40 * s.toInt.toNat := by
    show (40 * s : Int32).toInt.toNat = _
    have := kk_mul2 (x := 40) (y := s) (a := 40) (b := s.toInt) rfl rfl (by omega) (by omega)
    omega
  rw [e]
  exact a _ (by omega)
theorem kk_mulb {x y : Int32} {la ha lb hb : Int} (h1 : 0 ≤ la) (h2 : 0 ≤ lb) (h3 : ha * hb ≤ 2147483647) (x1 : la ≤ x.toInt) (x2 : x.toInt ≤ ha) (y1 : lb ≤ y.toInt) (y2 : y.toInt ≤ hb) : la * lb ≤ (x * y).toInt ∧ (x * y).toInt ≤ ha * hb := by
  have q1 := Int.mul_le_mul x1 y1 h2 (Int.le_trans h1 x1)
  have q2 := Int.mul_le_mul x2 y2 (Int.le_trans h2 y1) (Int.le_trans h1 (Int.le_trans x1 x2))
  have q3 := Int.mul_nonneg h1 h2
  rw [kk_mul2 rfl rfl (by omega) (by omega)]
  exact ⟨q1, q2⟩
theorem kk_tn {x : Int32} (h : 0 ≤ x.toInt) : (x.toNatClampNeg : Int) = x.toInt := by
  show (x.toInt.toNat : Int) = x.toInt
  omega
theorem kk_upbl {f : Nat → Int32} {n k : Nat} {x : Int32} {lo hi c : Int} (h : ∀ j : Nat, j < n → lo ≤ (f j).toInt ∧ (f j).toInt ≤ hi + c * (j : Int)) (hx : lo ≤ x.toInt ∧ x.toInt ≤ hi + c * (k : Int)) : ∀ j : Nat, j < n → lo ≤ (upd f k x j).toInt ∧ (upd f k x j).toInt ≤ hi + c * (j : Int) := by
  intro j hj
  unfold upd
  split
  · rename_i e
    subst e
    exact hx
  · exact h j hj
noncomputable def kk_rowsL (r : Nat → Nat) (c : ClassId) (n : Nat) (F : Nat → Nat → Int64) (N : Nat) : va_W := (List.range N).map fun k => (r k, .inl (c, n, .inr (.inl (F k))))
noncomputable def kk_rowsI (r : Nat → Nat) (c : ClassId) (n : Nat) (F : Nat → Nat → Int32) (N : Nat) : va_W := (List.range N).map fun k => (r k, .inl (c, n, .inl (F k)))
noncomputable def kk_upF {α : Type} (F : Nat → Nat → α) (k : Nat) (g : Nat → α) : Nat → Nat → α := fun j => if j = k then g else F j
theorem kk_getl {α : Type} {X S : List α} {k : Nat} {q : α} (h : X[k]? = some q) : (X ++ S)[k]? = some q := by
  rw [List.getElem?_append_left (by
    rw [List.getElem?_eq_some_iff] at h
    exact h.1)]
  exact h
theorem kk_rset {α β : Type} (f : Nat → β) (g : Nat → β) {N k : Nat} (hk : k < N) {q : β} (hq : g k = q) (hr : ∀ j, j ≠ k → g j = f j) : ((List.range N).map f).set k q = (List.range N).map g := by
  apply List.ext_getElem?
  intro j
  by_cases e : k = j
  · subst e
    rw [List.getElem?_set_self (by simpa using hk)]
    simp [hk, hq]
  · rw [List.getElem?_set_ne e]
    simp only [List.getElem?_map]
    cases h : (List.range N)[j]? with
    | none => rfl
    | some z =>
      have hz : z = j := by
        have := List.getElem?_eq_some_iff.mp h
        obtain ⟨h1, h2⟩ := this
        simp at h2
        exact h2.symm
      subst hz
      simp [hr z (fun w => e w.symm)]
theorem kk_setl {α : Type} {X S : List α} {k : Nat} {q z : α} (h : X[k]? = some z) : (X ++ S).set k q = X.set k q ++ S := by
  rw [List.set_append_left _ _ (by
    rw [List.getElem?_eq_some_iff] at h
    exact h.1)]
theorem kk_cn {x n : Int32} {N : Nat} (h1 : 0 ≤ x.toInt) (h2 : 0 ≤ n.toInt) (h : x.toInt + n.toInt ≤ (N : Int)) : x.toNatClampNeg + n.toNatClampNeg ≤ N := by
  show x.toInt.toNat + n.toInt.toNat ≤ N
  omega
theorem kk_cut {p : Program} {l : Launch} {e : Env} {R : Room} {s : State} {m : MethodId} {args : Array Value} {below : List Frame} {meth : Method} {c : Code} {cu su : Nat} {Q : State → Prop} {pc' : Nat} {σ : Type} (I : σ → Heap → List Loc → Array Slot → Prop) {H0 : Heap} {locs0 : List Loc} {g : JFrame}
    (hc : ∀ (x : σ) (H : Heap) (locs : List Loc) (ls : Array Slot), I x H locs ls → W p l e R s m args below meth c H locs cu su Q (F0 m pc' ls []))
    (k : (∀ (x : σ) (H : Heap) (locs : List Loc) (ls : Array Slot), I x H locs ls → W p l e R s m args below meth c H locs cu su Q (F0 m pc' ls [])) → W p l e R s m args below meth c H0 locs0 cu su Q g) : W p l e R s m args below meth c H0 locs0 cu su Q g := k hc
-- general contracts: elements of arrays, shifts and masks, tables
theorem kk_upb {f : Nat → Int32} {n k : Nat} {x : Int32} {lo hi : Int} (h : ∀ j, j < n → lo ≤ (f j).toInt ∧ (f j).toInt ≤ hi) (hx : lo ≤ x.toInt ∧ x.toInt ≤ hi) : ∀ j, j < n → lo ≤ (upd f k x j).toInt ∧ (upd f k x j).toInt ≤ hi := by
  intro j hj
  unfold upd
  split
  · exact hx
  · exact h j hj
theorem kk_min (x y : Int32) : (if y < x then y else x).toInt ≤ x.toInt ∧ (if y < x then y else x).toInt ≤ y.toInt ∧ ((if y < x then y else x).toInt = x.toInt ∨ (if y < x then y else x).toInt = y.toInt) := by
  split
  · have h := kk_lt ‹_›
    omega
  · have h := kk_nlt ‹_›
    omega
theorem kk_succ0 {x : Int32} (h : 0 ≤ x.toInt) : ¬ x + 1 = 0 := by
  intro q
  have e : x = -1 := by
    have := congrArg (fun z => z - 1) q
    simpa using this
  rw [e] at h
  exact absurd h (by decide)
theorem kk_td0 {x n : Int} (hn : 0 < n) (hx : 0 ≤ x) : 0 ≤ x.tdiv n ∧ x.tdiv n ≤ x ∧ 0 ≤ x - x.tdiv n * n ∧ x - x.tdiv n * n < n := by
  rw [Int.tdiv_eq_ediv_of_nonneg hx]
  have h1 := Int.ediv_nonneg hx (Int.le_of_lt hn)
  have h2 := Int.emod_nonneg x (Int.ne_of_gt hn)
  have h3 := Int.emod_lt_of_pos x hn
  have h4 := Int.emod_def x n
  have h5 : x / n * n = n * (x / n) := Int.mul_comm _ _
  have h6 : x / n ≤ x := by first | exact Int.ediv_le_self n hx | exact Int.ediv_le_self x hx
  rw [h5]
  rw [h4] at h2 h3
  exact ⟨h1, h6, h2, h3⟩
theorem kk_tdiv {x n : Int} (hn : 0 < n) : (0 ≤ x → 0 ≤ x.tdiv n ∧ x.tdiv n ≤ x ∧ 0 ≤ x - x.tdiv n * n ∧ x - x.tdiv n * n < n) ∧ (x ≤ 0 → x ≤ x.tdiv n ∧ x.tdiv n ≤ 0 ∧ -n < x - x.tdiv n * n ∧ x - x.tdiv n * n ≤ 0) := by
  refine ⟨fun h => kk_td0 hn h, fun h => ?_⟩
  have e : x.tdiv n = -((-x).tdiv n) := by rw [Int.neg_tdiv, Int.neg_neg]
  have q := kk_td0 hn (show 0 ≤ -x by omega)
  rw [e]
  generalize (-x).tdiv n = d at q
  have e2 : -d * n = -(d * n) := Int.neg_mul d n
  rw [e2]
  generalize d * n = w at q
  omega
theorem kk_dv {x k : Int32} {n : Int} (hk : k.toInt = n) (hn : 0 < n) : (x / k).toInt = x.toInt.tdiv n := by
  rw [Int32.toInt_div, hk]
  have h := kk_tdiv (x := x.toInt) hn
  have l1 := Int32.le_toInt x
  have l2 := Int32.toInt_lt x
  generalize x.toInt.tdiv n = t at h
  rcases Int.le_total 0 x.toInt with q | q
  · have h := h.1 q
    exact kk_bm (by omega) (by omega)
  · have h := h.2 q
    exact kk_bm (by omega) (by omega)
theorem kk_rng (x : Int32) : -2147483648 ≤ x.toInt ∧ x.toInt ≤ 2147483647 := by
  have l1 := Int32.le_toInt x
  have l2 := Int32.toInt_lt x
  omega
theorem kk_divb {x k : Int32} {n : Int} (hk : k.toInt = n) (hn : 0 < n) : (0 ≤ x.toInt → 0 ≤ (x / k).toInt ∧ n * (x / k).toInt ≤ x.toInt) ∧ (x.toInt ≤ 0 → x.toInt ≤ n * (x / k).toInt ∧ (x / k).toInt ≤ 0) ∧ -2147483648 ≤ n * (x / k).toInt ∧ n * (x / k).toInt ≤ 2147483647 := by
  rw [kk_dv hk hn]
  have h := kk_tdiv (x := x.toInt) hn
  have r := kk_rng x
  rw [Int.mul_comm n]
  generalize x.toInt.tdiv n = t at h
  have a5 : 0 ≤ t → 0 ≤ t * n := fun q => Int.mul_nonneg q (Int.le_of_lt hn)
  have a6 : t ≤ 0 → t * n ≤ 0 := fun q => by
    have z := Int.mul_nonneg (show 0 ≤ -t by omega) (Int.le_of_lt hn)
    rw [Int.neg_mul] at z
    omega
  generalize t * n = w at h a5 a6
  omega
theorem kk_remb {x k : Int32} {n : Int} (hk : k.toInt = n) (hn : 0 < n) : -n < (x - x / k * k).toInt ∧ (x - x / k * k).toInt < n := by
  have h := kk_tdiv (x := x.toInt) hn
  have l1 := Int32.le_toInt x
  have l2 := Int32.toInt_lt x
  rw [Int32.toInt_sub, Int32.toInt_mul, kk_dv hk hn, hk]
  generalize x.toInt.tdiv n = t at h
  rcases Int.le_total 0 x.toInt with q | q
  · obtain ⟨a1, a2, a3, a4⟩ := h.1 q
    have a5 := Int.mul_nonneg a1 (Int.le_of_lt hn)
    generalize t * n = w at a3 a4 a5 ⊢
    rw [kk_bm (z := w) (by omega) (by omega), kk_bm (by omega) (by omega)]
    omega
  · obtain ⟨a1, a2, a3, a4⟩ := h.2 q
    have a5 := Int.mul_nonneg (show 0 ≤ -t by omega) (Int.le_of_lt hn)
    rw [Int.neg_mul] at a5
    generalize t * n = w at a3 a4 a5 ⊢
    rw [kk_bm (z := w) (by omega) (by omega), kk_bm (by omega) (by omega)]
    omega
theorem kk_and_1 (x : Int32) : 0 ≤ (x &&& 1).toInt ∧ (x &&& 1).toInt ≤ 1 := by
  rw [pk_and x 1 (by decide)]
  have h := Nat.mod_lt x.toBitVec.toNat (show 0 < 2 ^ 1 by decide)
  rw [nI_toInt (by omega)]
  omega
theorem kk_and_255 (x : Int32) : 0 ≤ (x &&& 255).toInt ∧ (x &&& 255).toInt ≤ 255 := by
  rw [pk_and x 8 (by decide)]
  have h := Nat.mod_lt x.toBitVec.toNat (show 0 < 2 ^ 8 by decide)
  rw [nI_toInt (by omega)]
  omega
theorem kk_ushr8 (x : Int32) : 0 ≤ (x.toUInt32 >>> ((8 : Int32).toUInt32 &&& Int32.toUInt32 31)).toInt32.toInt ∧ (x.toUInt32 >>> ((8 : Int32).toUInt32 &&& Int32.toUInt32 31)).toInt32.toInt ≤ 16777215 := by
  have h := pk_ushr x 8 8 (by decide)
  have hx := x.toBitVec.isLt
  generalize (x.toUInt32 >>> ((8 : Int32).toUInt32 &&& Int32.toUInt32 31)).toInt32 = v at h ⊢
  show 0 ≤ v.toBitVec.toInt ∧ v.toBitVec.toInt ≤ 16777215
  rw [BitVec.toInt_eq_toNat_of_lt (by omega)]
  omega
theorem kk_ushr31 (x : Int32) : 0 ≤ (x.toUInt32 >>> ((31 : Int32).toUInt32 &&& Int32.toUInt32 31)).toInt32.toInt ∧ (x.toUInt32 >>> ((31 : Int32).toUInt32 &&& Int32.toUInt32 31)).toInt32.toInt ≤ 1 := by
  have h := pk_ushr x 31 31 (by decide)
  have hx := x.toBitVec.isLt
  generalize (x.toUInt32 >>> ((31 : Int32).toUInt32 &&& Int32.toUInt32 31)).toInt32 = v at h ⊢
  show 0 ≤ v.toBitVec.toInt ∧ v.toBitVec.toInt ≤ 1
  rw [BitVec.toInt_eq_toNat_of_lt (by omega)]
  omega
noncomputable def tb_ABOVE : Nat → Value := fun j => .int (match j with | 0 => -1 | 1 => 0 | 2 => 0 | 3 => 0 | 4 => 3 | 5 => 1 | 6 => 0 | _ => 1)
noncomputable def tb_OWN_BODIES : Nat → Value := fun j => .int (match j with | 0 => 1 | 1 => 10 | 2 => 11 | 3 => 2 | 4 => 20 | 9 => 30 | 14 => 40 | 18 => 50 | 19 => 51 | 21 => 60 | 24 => 70 | 28 => 80 | 30 => 81 | _ => 0)
theorem tb_ABOVE_b : ∀ j, j < 8 → ∃ y : Int32, tb_ABOVE j = .int y ∧ -1 ≤ y.toInt ∧ y.toInt ≤ 3 := by
  intro j hj
  rcases (show j = 0 ∨ j = 1 ∨ j = 2 ∨ j = 3 ∨ j = 4 ∨ j = 5 ∨ j = 6 ∨ j = 7 by omega) with rfl | rfl | rfl | rfl | rfl | rfl | rfl | rfl <;> exact ⟨_, rfl, by decide, by decide⟩
