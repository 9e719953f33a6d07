-- what a TEXT is worth (kv_), what is written down of it (kq_), how that is worked off (kg_)
noncomputable def kv_ix (x : Int) : Nat := if x = 119 then 0 else if x = 110 then 1 else if x = 100 then 2 else if x = 121 then 3 else if x = 122 then 4 else if x = 102 then 5 else if x = 105 then 6 else 7
theorem kv_ix_lt (x : Int) : kv_ix x < 8 := by
  unfold kv_ix
  (repeat' split) <;> decide
noncomputable def kv_no (v : Int32) : Int32 := if v = 0 then 1 else 0
noncomputable def kv_jn (x : Int) (v w : Int32) : Int32 :=
  if x = 124 then (if v = 0 ∧ w = 0 then 0 else 1)
  else if x = 38 then (if v = 0 ∨ w = 0 then 0 else 1)
  else if x = 60 then (if v.toInt < w.toInt then 1 else 0)
  else if x = 61 then (if v.toInt = w.toInt then 1 else 0)
  else if x = 62 then (if w.toInt < v.toInt then 1 else 0)
  else if x = 43 then v + w
  else if x = 45 then v - w
  else if x = 42 then v * w
  else if w = 0 then 0
  else if x = 47 then v / w
  else if x = 37 then v - v / w * w
  else 0
noncomputable def kv_nm (c : Int → Int) : Nat → Int → Int32 → Int32
  | 0, _, a => a
  | f + 1, q, a => if kr_D (c q) = true then kv_nm c f (q + 1) (10 * a + Int32.ofInt (c q) - 48) else a
theorem kv_of {x : Int} (h1 : -2147483648 ≤ x) (h2 : x ≤ 2147483647) : (Int32.ofInt x).toInt = x := by
  rw [Int32.toInt_ofInt]
  exact kk_bm h1 h2
theorem kv_on {n : Nat} (h : n ≤ 1000) : (Int32.ofNat n).toInt = (n : Int) := by
  rw [show Int32.ofNat n = Int32.ofInt (n : Int) from (Int32.ofInt_eq_ofNat).symm]
  exact kv_of (by omega) (by omega)
theorem kv_st {a : Int32} {x n : Int} (h1 : 48 ≤ x ∧ x ≤ 57) (h2 : 0 ≤ a.toInt) (h3 : a.toInt < n) (h4 : n ≤ 1000) : 0 ≤ (10 * a + Int32.ofInt x - 48).toInt ∧ (10 * a + Int32.ofInt x - 48).toInt < 10 * n := by
  have e := kv_of (x := x) (by omega) (by omega)
  have m := kk_mul2 (x := 10) (y := a) (a := 10) (b := a.toInt) rfl rfl (by omega) (by omega)
  have p := kk_add2 (x := 10 * a) (y := Int32.ofInt x) m e (by omega) (by omega)
  have q := kk_sub2 (x := 10 * a + Int32.ofInt x) (y := 48) (b := 48) p rfl (by omega) (by omega)
  omega
noncomputable def kv_pw : Nat → Int
  | 0 => 10000
  | 1 => 1000
  | 2 => 100
  | 3 => 10
  | _ => 1
theorem kv_nm_b (c : Int → Int) : ∀ (f : Nat), f ≤ 4 → ∀ (q : Int) (a : Int32), 0 ≤ a.toInt → a.toInt < kv_pw f → 0 ≤ (kv_nm c f q a).toInt ∧ (kv_nm c f q a).toInt < 10000 := by
  intro f
  induction f with
  | zero => exact fun _ q a h0 h1 => ⟨h0, h1⟩
  | succ g ih =>
    intro hg q a h0 h1
    have hp : kv_pw (g + 1) ≤ 1000 ∧ 10 * kv_pw (g + 1) ≤ kv_pw g ∧ kv_pw g ≤ 10000 := by
      rcases (show g = 0 ∨ g = 1 ∨ g = 2 ∨ g = 3 by omega) with rfl | rfl | rfl | rfl <;> decide
    have hlt : kv_pw g ≤ 10000 := hp.2.2
    by_cases hD : kr_D (c q) = true
    · have hd : 48 ≤ c q ∧ c q ≤ 57 := by unfold kr_D at hD; rw [decide_eq_true_eq] at hD; exact hD
      have hs := kv_st hd h0 h1 hp.1
      have e : kv_nm c (g + 1) q a = kv_nm c g (q + 1) (10 * a + Int32.ofInt (c q) - 48) := by
        show (if kr_D (c q) = true then _ else a) = _
        rw [if_pos hD]
      rw [e]
      exact ih (by omega) _ _ hs.1 (by omega)
    · have e : kv_nm c (g + 1) q a = a := by
        show (if kr_D (c q) = true then _ else a) = _
        rw [if_neg hD]
      rw [e]
      exact ⟨h0, by omega⟩
theorem kv_nm_4 (c : Int → Int) (p : Int) : 0 ≤ (kv_nm c 4 p 0).toInt ∧ (kv_nm c 4 p 0).toInt < 10000 := kv_nm_b c 4 (by decide) p 0 (by decide) (by decide)
noncomputable def kv_loop (c : Int → Int) (l : Int) (X : Int → Int) (Y : Int → Int32) : Nat → Int → Int32 → Int32
  | 0, _, v => v
  | f + 1, q, v => if kr_J l (c q) = true then (if l = 2 then kv_jn (c q) v (Y (q + 1)) else kv_loop c l X Y f (X (q + 1)) (kv_jn (c q) v (Y (q + 1)))) else v
noncomputable def kv_lv (c : Int → Int) (X : Int → Int) (Y : Int → Int32) : Nat → Int → Int32
  | 0 => Y
  | d + 1 => fun p => kv_loop c (4 - (d : Int)) (kr_lv c X d) (kv_lv c X Y d) 120 (kr_lv c X d p) (kv_lv c X Y d p)
noncomputable def kv_opr (c : Int → Int) (nm : Nat → Int32) : Nat → Int → Int32
  | 0 => fun p => if kr_D (c p) = true then kv_nm c 4 p 0 else nm (kv_ix (c p))
  | k + 1 => fun p => if kr_D (c p) = true then kv_nm c 4 p 0 else if kr_N (c p) = true then nm (kv_ix (c p)) else if c p = 40 then kv_lv c (kr_opr c k) (kv_opr c nm k) 5 (p + 1) else if c p = 33 then kv_no (kv_opr c nm k (p + 1)) else -(kv_opr c nm k (p + 1))
noncomputable def kv_R (c : Int → Int) (nm : Nat → Int32) (l k p : Int) : Int32 := kv_lv c (kr_opr c (6 - k).toNat) (kv_opr c nm (6 - k).toNat) (5 - l).toNat p
noncomputable def kq_loop (c : Int → Int) (l : Int) (X : Int → Int) (Q : Int → List Int32) : Nat → Int → List Int32
  | 0, _ => []
  | f + 1, q => if kr_J l (c q) = true then Q (q + 1) ++ (Int32.ofInt (c q) :: (if l = 2 then [] else kq_loop c l X Q f (X (q + 1)))) else []
noncomputable def kq_lv (c : Int → Int) (X : Int → Int) (Q : Int → List Int32) : Nat → Int → List Int32
  | 0 => Q
  | d + 1 => fun p => kq_lv c X Q d p ++ kq_loop c (4 - (d : Int)) (kr_lv c X d) (kq_lv c X Q d) 120 (kr_lv c X d p)
noncomputable def kq_opr (c : Int → Int) : Nat → Int → List Int32
  | 0 => fun p => if kr_D (c p) = true then [256 + kv_nm c 4 p 0] else [Int32.ofNat (kv_ix (c p))]
  | k + 1 => fun p => if kr_D (c p) = true then [256 + kv_nm c 4 p 0] else if kr_N (c p) = true then [Int32.ofNat (kv_ix (c p))] else if c p = 40 then kq_lv c (kr_opr c k) (kq_opr c k) 5 (p + 1) else if c p = 33 then kq_opr c k (p + 1) ++ [33] else kq_opr c k (p + 1) ++ [126]
noncomputable def kq_R (c : Int → Int) (l k p : Int) : List Int32 := kq_lv c (kr_opr c (6 - k).toNat) (kq_opr c (6 - k).toNat) (5 - l).toNat p
-- how it is worked off
noncomputable def kg_pop : List Int32 → Int32
  | [] => 0
  | x :: _ => x
noncomputable def kg_tl : List Int32 → List Int32
  | [] => []
  | _ :: t => t
noncomputable def kg_push (v : Int32) (s : List Int32) : List Int32 := if s.length < 64 then v :: s else s
noncomputable def kg_work (nm : Nat → Int32) (x : Int32) (s : List Int32) : List Int32 :=
  if 256 ≤ x.toInt then kg_push (x - 256) s
  else if 0 ≤ x.toInt ∧ x.toInt < 8 then kg_push (nm x.toNatClampNeg) s
  else if x.toInt = 33 then kg_push (kv_no (kg_pop s)) (kg_tl s)
  else if x.toInt = 126 then kg_push (-(kg_pop s)) (kg_tl s)
  else kg_push (kv_jn x.toInt (kg_pop (kg_tl s)) (kg_pop s)) (kg_tl (kg_tl s))
noncomputable def kg_run (nm : Nat → Int32) : List Int32 → Bool → List Int32 → Int32
  | [], _, _ => 0
  | x :: t, true, s => kg_run nm t (decide (x.toInt ≠ 59)) s
  | x :: t, false, s => if x.toInt = 59 then kg_pop s else if x.toInt = 63 then kg_run nm t (decide ((kg_pop s).toInt = 0)) (kg_tl s) else kg_run nm t false (kg_work nm x s)
theorem kg_step {nm : Nat → Int32} {x : Int32} {t s : List Int32} (h1 : x.toInt ≠ 59) (h2 : x.toInt ≠ 63) : kg_run nm (x :: t) false s = kg_run nm t false (kg_work nm x s) := by
  show (if x.toInt = 59 then _ else if x.toInt = 63 then _ else kg_run nm t false (kg_work nm x s)) = _
  rw [if_neg h1, if_neg h2]
theorem kg_push_s {v : Int32} {s : List Int32} (h : s.length < 64) : kg_push v s = v :: s := by
  unfold kg_push
  rw [if_pos h]
theorem kg_num {nm : Nat → Int32} {v : Int32} {t s : List Int32} (h0 : 0 ≤ v.toInt) (h1 : v.toInt < 10000) (hs : s.length < 64) : kg_run nm ((256 + v) :: t) false s = kg_run nm t false (v :: s) := by
  have e := kk_add2 (x := 256) (y := v) (a := 256) (b := v.toInt) rfl rfl (by omega) (by omega)
  have e2 : 256 + v - 256 = v := Int32.toInt_inj.mp (by
    have := kk_sub2 (x := 256 + v) (y := 256) (b := 256) e rfl (by omega) (by omega)
    omega)
  rw [kg_step (by omega) (by omega)]
  unfold kg_work
  rw [if_pos (by omega), e2, kg_push_s hs]
theorem kg_nam {nm : Nat → Int32} {x : Int} {t s : List Int32} (hs : s.length < 64) : kg_run nm (Int32.ofNat (kv_ix x) :: t) false s = kg_run nm t false (nm (kv_ix x) :: s) := by
  have h := kv_ix_lt x
  have e := kv_on (n := kv_ix x) (by omega)
  have e2 : (Int32.ofNat (kv_ix x)).toNatClampNeg = kv_ix x := by
    show (Int32.ofNat (kv_ix x)).toInt.toNat = kv_ix x
    omega
  rw [kg_step (by omega) (by omega)]
  unfold kg_work
  rw [if_neg (by omega), if_pos (by omega), e2, kg_push_s hs]
theorem kg_nots {nm : Nat → Int32} {v : Int32} {t s : List Int32} (hs : s.length < 64) : kg_run nm (33 :: t) false (v :: s) = kg_run nm t false (kv_no v :: s) := by
  rw [kg_step (by decide) (by decide)]
  unfold kg_work
  rw [if_neg (by decide), if_neg (by decide), if_pos (by decide)]
  show kg_run nm t false (kg_push (kv_no v) s) = _
  rw [kg_push_s hs]
theorem kg_negs {nm : Nat → Int32} {v : Int32} {t s : List Int32} (hs : s.length < 64) : kg_run nm (126 :: t) false (v :: s) = kg_run nm t false (-v :: s) := by
  rw [kg_step (by decide) (by decide)]
  unfold kg_work
  rw [if_neg (by decide), if_neg (by decide), if_neg (by decide), if_pos (by decide)]
  show kg_run nm t false (kg_push (-v) s) = _
  rw [kg_push_s hs]
theorem kg_Jx {l x : Int} (h : kr_J l x = true) : x = 124 ∨ x = 38 ∨ (60 ≤ x ∧ x ≤ 62) ∨ x = 43 ∨ x = 45 ∨ x = 42 ∨ x = 47 ∨ x = 37 := by
  unfold kr_J at h
  rw [decide_eq_true_eq] at h
  omega
theorem kg_sg {nm : Nat → Int32} {l x : Int} (h : kr_J l x = true) (t s : List Int32) (v w : Int32) (hs : s.length < 64) : kg_run nm (Int32.ofInt x :: t) false (w :: v :: s) = kg_run nm t false (kv_jn x v w :: s) := by
  have hx := kg_Jx h
  have e := kv_of (x := x) (by omega) (by omega)
  rw [kg_step (by omega) (by omega)]
  unfold kg_work
  rw [if_neg (by omega), if_neg (by omega), if_neg (by omega), if_neg (by omega), e]
  show kg_run nm t false (kg_push (kv_jn x v w) s) = _
  rw [kg_push_s hs]
def kg_ok (nm : Nat → Int32) (need : Nat) (X : Int → Int) (Q : Int → List Int32) (Y : Int → Int32) : Prop := ∀ p : Int, 0 ≤ p → 0 ≤ X p → ∀ t s : List Int32, s.length + need ≤ 64 → kg_run nm (Q p ++ t) false s = kg_run nm t false (Y p :: s)
theorem kg_loop {c : Int → Int} {nm : Nat → Int32} {l : Int} {X : Int → Int} {Q : Int → List Int32} {Y : Int → Int32} {need : Nat} (ih : kg_ok nm need X Q Y) : ∀ (f : Nat) (q : Int) (v : Int32), 0 ≤ q → 0 ≤ kr_loop c l X f q → ∀ t s : List Int32, s.length + 1 + need ≤ 64 → kg_run nm (kq_loop c l X Q f q ++ t) false (v :: s) = kg_run nm t false (kv_loop c l X Y f q v :: s) := by
  intro f
  induction f with
  | zero => intro q v _ _ t s _; rfl
  | succ g ih2 =>
    intro q v hq h t s hs
    have h' : 0 ≤ (if kr_J l (c q) = true then (if X (q + 1) < 0 then X (q + 1) else if l = 2 then X (q + 1) else kr_loop c l X g (X (q + 1))) else q) := h
    by_cases hJ : kr_J l (c q) = true
    · rw [if_pos hJ] at h'
      have hX : ¬ X (q + 1) < 0 := fun c0 => by rw [if_pos c0] at h'; omega
      rw [if_neg hX] at h'
      have e1 : kq_loop c l X Q (g + 1) q = Q (q + 1) ++ (Int32.ofInt (c q) :: (if l = 2 then [] else kq_loop c l X Q g (X (q + 1)))) := by
        show (if kr_J l (c q) = true then _ else []) = _
        rw [if_pos hJ]
      have e2 : kv_loop c l X Y (g + 1) q v = (if l = 2 then kv_jn (c q) v (Y (q + 1)) else kv_loop c l X Y g (X (q + 1)) (kv_jn (c q) v (Y (q + 1)))) := by
        show (if kr_J l (c q) = true then _ else v) = _
        rw [if_pos hJ]
      rw [e1, e2, List.append_assoc, List.cons_append, ih (q + 1) (by omega) (by omega) _ (v :: s) (by show s.length + 1 + need ≤ 64; exact hs), kg_sg hJ _ s v (Y (q + 1)) (by omega)]
      by_cases l2 : l = 2
      · rw [if_pos l2, if_pos l2]
        rfl
      · rw [if_neg l2] at h'
        rw [if_neg l2, if_neg l2]
        exact ih2 (X (q + 1)) _ (by omega) h' t s hs
    · have e1 : kq_loop c l X Q (g + 1) q = [] := by
        show (if kr_J l (c q) = true then _ else []) = _
        rw [if_neg hJ]
      have e2 : kv_loop c l X Y (g + 1) q v = v := by
        show (if kr_J l (c q) = true then _ else v) = _
        rw [if_neg hJ]
      rw [e1, e2]
      rfl
theorem kg_lv {c : Int → Int} {nm : Nat → Int32} {X : Int → Int} {Q : Int → List Int32} {Y : Int → Int32} {need : Nat} (h0 : kg_ok nm need X Q Y) : ∀ d : Nat, kg_ok nm (need + d) (kr_lv c X d) (kq_lv c X Q d) (kv_lv c X Y d) := by
  intro d
  induction d with
  | zero => exact h0
  | succ d ih =>
    intro p hp hx t s hs
    have hx' : 0 ≤ (if kr_lv c X d p < 0 then kr_lv c X d p else kr_loop c (4 - (d : Int)) (kr_lv c X d) 120 (kr_lv c X d p)) := hx
    have h1 : ¬ kr_lv c X d p < 0 := fun c0 => by rw [if_pos c0] at hx'; omega
    rw [if_neg h1] at hx'
    show kg_run nm ((kq_lv c X Q d p ++ kq_loop c (4 - (d : Int)) (kr_lv c X d) (kq_lv c X Q d) 120 (kr_lv c X d p)) ++ t) false s = kg_run nm t false (kv_loop c (4 - (d : Int)) (kr_lv c X d) (kv_lv c X Y d) 120 (kr_lv c X d p) (kv_lv c X Y d p) :: s)
    rw [List.append_assoc, ih p hp (by omega) _ s (by omega)]
    exact kg_loop ih 120 _ _ (by omega) hx' t s (by omega)
theorem kg_opr (c : Int → Int) (nm : Nat → Int32) : ∀ k : Nat, kg_ok nm (5 * k + 1) (kr_opr c k) (kq_opr c k) (kv_opr c nm k) := by
  intro k
  induction k with
  | zero =>
    intro p hp hx t s hs
    have hx' : 0 ≤ (if kr_D (c p) = true then kr_nm c 4 p else if kr_N (c p) = true then p + 1 else -1 - p) := hx
    show kg_run nm ((if kr_D (c p) = true then [256 + kv_nm c 4 p 0] else [Int32.ofNat (kv_ix (c p))]) ++ t) false s = kg_run nm t false ((if kr_D (c p) = true then kv_nm c 4 p 0 else nm (kv_ix (c p))) :: s)
    by_cases hD : kr_D (c p) = true
    · rw [if_pos hD, if_pos hD]
      exact kg_num (kv_nm_4 c p).1 (kv_nm_4 c p).2 (by omega)
    · rw [if_neg hD, if_neg hD]
      exact kg_nam (by omega)
  | succ k ih =>
    intro p hp hx t s hs
    have hx' : 0 ≤ (if kr_D (c p) = true then kr_nm c 4 p else if kr_N (c p) = true then p + 1 else if c p = 40 then (if kr_lv c (kr_opr c k) 5 (p + 1) < 0 then kr_lv c (kr_opr c k) 5 (p + 1) else if c (kr_lv c (kr_opr c k) 5 (p + 1)) = 41 then kr_lv c (kr_opr c k) 5 (p + 1) + 1 else -1 - kr_lv c (kr_opr c k) 5 (p + 1)) else if c p = 33 ∨ c p = 45 then kr_opr c k (p + 1) else -1 - p) := hx
    show kg_run nm ((if kr_D (c p) = true then [256 + kv_nm c 4 p 0] else if kr_N (c p) = true then [Int32.ofNat (kv_ix (c p))] else if c p = 40 then kq_lv c (kr_opr c k) (kq_opr c k) 5 (p + 1) else if c p = 33 then kq_opr c k (p + 1) ++ [33] else kq_opr c k (p + 1) ++ [126]) ++ t) false s = kg_run nm t false ((if kr_D (c p) = true then kv_nm c 4 p 0 else if kr_N (c p) = true then nm (kv_ix (c p)) else if c p = 40 then kv_lv c (kr_opr c k) (kv_opr c nm k) 5 (p + 1) else if c p = 33 then kv_no (kv_opr c nm k (p + 1)) else -(kv_opr c nm k (p + 1))) :: s)
    by_cases hD : kr_D (c p) = true
    · rw [if_pos hD, if_pos hD]
      exact kg_num (kv_nm_4 c p).1 (kv_nm_4 c p).2 (by omega)
    · rw [if_neg hD] at hx'
      rw [if_neg hD, if_neg hD]
      by_cases hN : kr_N (c p) = true
      · rw [if_pos hN, if_pos hN]
        exact kg_nam (by omega)
      · rw [if_neg hN] at hx'
        rw [if_neg hN, if_neg hN]
        by_cases h40 : c p = 40
        · rw [if_pos h40] at hx'
          rw [if_pos h40, if_pos h40]
          have h1 : 0 ≤ kr_lv c (kr_opr c k) 5 (p + 1) := by
            by_cases c0 : kr_lv c (kr_opr c k) 5 (p + 1) < 0
            · rw [if_pos c0] at hx'; omega
            · omega
          exact kg_lv ih 5 (p + 1) (by omega) h1 t s (by omega)
        · rw [if_neg h40] at hx'
          rw [if_neg h40, if_neg h40]
          by_cases h33 : c p = 33
          · rw [if_pos (Or.inl h33)] at hx'
            rw [if_pos h33, if_pos h33, List.append_assoc, ih (p + 1) (by omega) hx' _ s (by omega)]
            exact kg_nots (by omega)
          · by_cases h45 : c p = 45
            · rw [if_pos (Or.inr h45)] at hx'
              rw [if_neg h33, if_neg h33, List.append_assoc, ih (p + 1) (by omega) hx' _ s (by omega)]
              exact kg_negs (by omega)
            · rw [if_neg (by omega)] at hx'
              omega
theorem kg_E {c : Int → Int} {nm : Nat → Int32} {p : Int} (hp : 0 ≤ p) (hx : 0 ≤ kr_R c 0 0 p) (t : List Int32) : kg_run nm (kq_R c 0 0 p ++ t) false [] = kg_run nm t false [kv_R c nm 0 0 p] := kg_lv (kg_opr c nm 6) 5 p hp hx t [] (by decide)
-- no sign of it ends a LINE
def kg_no (L : List Int32) : Prop := ∀ x, x ∈ L → x.toInt ≠ 59
theorem kg_no_app {L M : List Int32} (h1 : kg_no L) (h2 : kg_no M) : kg_no (L ++ M) := fun x hx => by
  rcases List.mem_append.mp hx with h | h
  · exact h1 x h
  · exact h2 x h
theorem kg_no_one {x : Int32} (h : x.toInt ≠ 59) : kg_no [x] := fun y hy => by
  rw [List.mem_singleton] at hy
  rw [hy]
  exact h
theorem kg_no_cons {x : Int32} {L : List Int32} (h : x.toInt ≠ 59) (h2 : kg_no L) : kg_no (x :: L) := kg_no_app (L := [x]) (kg_no_one h) h2
theorem kg_no_nil : kg_no [] := fun x hx => by cases hx
theorem kg_no_loop {c : Int → Int} {l : Int} {X : Int → Int} {Q : Int → List Int32} (h : ∀ p, kg_no (Q p)) : ∀ (f : Nat) (q : Int), kg_no (kq_loop c l X Q f q) := by
  intro f
  induction f with
  | zero => exact fun q => kg_no_nil
  | succ g ih =>
    intro q
    show kg_no (if kr_J l (c q) = true then Q (q + 1) ++ (Int32.ofInt (c q) :: (if l = 2 then [] else kq_loop c l X Q g (X (q + 1)))) else [])
    by_cases hJ : kr_J l (c q) = true
    · rw [if_pos hJ]
      have hx := kg_Jx hJ
      have e := kv_of (x := c q) (by omega) (by omega)
      refine kg_no_app (h _) (kg_no_cons (by omega) ?_)
      by_cases l2 : l = 2
      · rw [if_pos l2]; exact kg_no_nil
      · rw [if_neg l2]; exact ih _
    · rw [if_neg hJ]; exact kg_no_nil
theorem kg_no_lv {c : Int → Int} {X : Int → Int} {Q : Int → List Int32} (h : ∀ p, kg_no (Q p)) : ∀ (d : Nat) (p : Int), kg_no (kq_lv c X Q d p) := by
  intro d
  induction d with
  | zero => exact h
  | succ d ih => exact fun p => kg_no_app (ih p) (kg_no_loop ih 120 _)
theorem kg_no_num (c : Int → Int) (p : Int) : kg_no [256 + kv_nm c 4 p 0] := by
  have h := kv_nm_4 c p
  have e := kk_add2 (x := 256) (y := kv_nm c 4 p 0) (a := 256) rfl rfl (by omega) (by omega)
  exact kg_no_one (by omega)
theorem kg_no_nam (x : Int) : kg_no [Int32.ofNat (kv_ix x)] := by
  have h := kv_ix_lt x
  have e := kv_on (n := kv_ix x) (by omega)
  exact kg_no_one (by omega)
theorem kg_no_opr (c : Int → Int) : ∀ (k : Nat) (p : Int), kg_no (kq_opr c k p) := by
  intro k
  induction k with
  | zero =>
    intro p
    show kg_no (if kr_D (c p) = true then [256 + kv_nm c 4 p 0] else [Int32.ofNat (kv_ix (c p))])
    split
    · exact kg_no_num c p
    · exact kg_no_nam (c p)
  | succ k ih =>
    intro p
    show kg_no (if kr_D (c p) = true then [256 + kv_nm c 4 p 0] else if kr_N (c p) = true then [Int32.ofNat (kv_ix (c p))] else if c p = 40 then kq_lv c (kr_opr c k) (kq_opr c k) 5 (p + 1) else if c p = 33 then kq_opr c k (p + 1) ++ [33] else kq_opr c k (p + 1) ++ [126])
    split
    · exact kg_no_num c p
    · split
      · exact kg_no_nam (c p)
      · split
        · exact kg_no_lv ih 5 (p + 1)
        · split
          · exact kg_no_app (ih (p + 1)) (kg_no_one (by decide))
          · exact kg_no_app (ih (p + 1)) (kg_no_one (by decide))
theorem kg_no_R (c : Int → Int) (l k p : Int) : kg_no (kq_R c l k p) := kg_no_lv (kg_no_opr c _) _ p
theorem kg_pass {nm : Nat → Int32} {t s : List Int32} : ∀ {L : List Int32}, kg_no L → kg_run nm (L ++ (59 :: t)) true s = kg_run nm t false s := by
  intro L
  induction L with
  | nil =>
    intro _
    show kg_run nm t (decide ((59 : Int32).toInt ≠ 59)) s = _
    rw [show decide ((59 : Int32).toInt ≠ 59) = false from by decide]
  | cons x L ih =>
    intro h
    show kg_run nm (L ++ (59 :: t)) (decide (x.toInt ≠ 59)) s = _
    rw [show decide (x.toInt ≠ 59) = true from decide_eq_true (h x (List.mem_cons_self))]
    exact ih (fun y hy => h y (List.mem_cons_of_mem _ hy))
-- lines
noncomputable def kq_line (c : Int → Int) (p : Int) : List Int32 := kq_R c 0 0 p ++ ((if c (kr_R c 0 0 p) = 63 then (63 : Int32) :: kq_R c 0 0 (kr_R c 0 0 p + 1) else []) ++ [59])
noncomputable def kq_txt (c : Int → Int) (n : Int) : Nat → Int → List Int32
  | 0, _ => []
  | f + 1, p => kq_line c p ++ (if n ≤ kr_line c p then [] else kq_txt c n f (kr_line c p + 1))
noncomputable def kv_txt (c : Int → Int) (nm : Nat → Int32) (n : Int) : Nat → Int → Int32
  | 0, _ => 0
  | f + 1, p => if c (kr_R c 0 0 p) = 63 then (if (kv_R c nm 0 0 p).toInt = 0 then (if n ≤ kr_line c p then 0 else kv_txt c nm n f (kr_line c p + 1)) else kv_R c nm 0 0 (kr_R c 0 0 p + 1)) else kv_R c nm 0 0 p
noncomputable def kq_T (c : Int → Int) (n f p : Int) : List Int32 := kq_txt c n f.toNat p
noncomputable def kv_T (c : Int → Int) (nm : Nat → Int32) (n f p : Int) : Int32 := kv_txt c nm n f.toNat p
theorem kg_txt {c : Int → Int} {nm : Nat → Int32} {n : Int} : ∀ (f : Nat) (p : Int), 0 ≤ p → kr_txt c n f p = -1 → kg_run nm (kq_txt c n f p) false [] = kv_txt c nm n f p := by
  intro f
  induction f with
  | zero => intro p hp h; have h' : p = -1 := h; omega
  | succ g ih =>
    intro p hp h
    have h' : (if kr_line c p < 0 then -1 - kr_line c p else if n ≤ kr_line c p then -1 else if c (kr_line c p) = 59 then kr_txt c n g (kr_line c p + 1) else kr_line c p) = -1 := h
    have hl : ¬ kr_line c p < 0 := fun c0 => by rw [if_pos c0] at h'; omega
    rw [if_neg hl] at h'
    have hR : 0 ≤ kr_R c 0 0 p := by
      have hl2 := hl
      unfold kr_line at hl2
      by_cases c0 : kr_R c 0 0 p < 0
      · rw [if_pos c0] at hl2; omega
      · omega
    have hgo : kg_run nm (if n ≤ kr_line c p then [] else kq_txt c n g (kr_line c p + 1)) false [] = (if n ≤ kr_line c p then 0 else kv_txt c nm n g (kr_line c p + 1)) := by
      by_cases hn : n ≤ kr_line c p
      · rw [if_pos hn, if_pos hn]
        rfl
      · rw [if_neg hn] at h'
        rw [if_neg hn, if_neg hn]
        by_cases h59 : c (kr_line c p) = 59
        · rw [if_pos h59] at h'
          exact ih _ (by omega) h'
        · rw [if_neg h59] at h'
          omega
    show kg_run nm ((kq_R c 0 0 p ++ ((if c (kr_R c 0 0 p) = 63 then (63 : Int32) :: kq_R c 0 0 (kr_R c 0 0 p + 1) else []) ++ [59])) ++ (if n ≤ kr_line c p then [] else kq_txt c n g (kr_line c p + 1))) false [] = (if c (kr_R c 0 0 p) = 63 then (if (kv_R c nm 0 0 p).toInt = 0 then (if n ≤ kr_line c p then 0 else kv_txt c nm n g (kr_line c p + 1)) else kv_R c nm 0 0 (kr_R c 0 0 p + 1)) else kv_R c nm 0 0 p)
    rw [List.append_assoc, kg_E hp hR]
    by_cases h63 : c (kr_R c 0 0 p) = 63
    · rw [if_pos h63, if_pos h63]
      have hl2 : kr_line c p = kr_R c 0 0 (kr_R c 0 0 p + 1) := by
        unfold kr_line
        rw [if_neg (by omega), if_pos h63]
      have e63 : ∀ (t : List Int32) (v : Int32), kg_run nm ((63 : Int32) :: t) false [v] = kg_run nm t (decide (v.toInt = 0)) [] := fun t v => by
        show (if (63 : Int32).toInt = 59 then _ else if (63 : Int32).toInt = 63 then kg_run nm t (decide ((kg_pop [v]).toInt = 0)) (kg_tl [v]) else _) = _
        rw [if_neg (by decide), if_pos (by decide)]
        rfl
      rw [List.append_assoc, List.cons_append, e63]
      by_cases hz : (kv_R c nm 0 0 p).toInt = 0
      · rw [if_pos hz, show decide ((kv_R c nm 0 0 p).toInt = 0) = true from decide_eq_true hz]
        show kg_run nm (kq_R c 0 0 (kr_R c 0 0 p + 1) ++ (59 :: (if n ≤ kr_line c p then [] else kq_txt c n g (kr_line c p + 1)))) true [] = _
        rw [kg_pass (kg_no_R c 0 0 _)]
        exact hgo
      · rw [if_neg hz, show decide ((kv_R c nm 0 0 p).toInt = 0) = false from decide_eq_false hz, kg_E (by omega) (by omega)]
        rfl
    · rw [if_neg h63, if_neg h63]
      rfl
theorem kg_T {c : Int → Int} {nm : Nat → Int32} {n f : Int} (h : kr_T c n f 0 = -1) : kg_run nm (kq_T c n f 0) false [] = kv_T c nm n f 0 := kg_txt _ 0 (by decide) h
-- signs and operands as arrays
noncomputable def kg_sl (f : Nat → Int32) : Nat → List Int32
  | 0 => []
  | n + 1 => kg_sl f n ++ [f n]
noncomputable def kg_st (f : Nat → Int32) : Nat → List Int32
  | 0 => []
  | n + 1 => f n :: kg_st f n
theorem kg_st_len (f : Nat → Int32) : ∀ n : Nat, (kg_st f n).length = n := by
  intro n
  induction n with
  | zero => rfl
  | succ n ih => show (kg_st f n).length + 1 = n + 1; rw [ih]
theorem kg_sl_w {f g : Nat → Int32} : ∀ {n : Nat}, (∀ j, j < n → f j = g j) → kg_sl f n = kg_sl g n := by
  intro n
  induction n with
  | zero => exact fun _ => rfl
  | succ n ih =>
    intro h
    show kg_sl f n ++ [f n] = kg_sl g n ++ [g n]
    rw [ih (fun j hj => h j (by omega)), h n (by omega)]
theorem kg_st_w {f g : Nat → Int32} : ∀ {n : Nat}, (∀ j, j < n → f j = g j) → kg_st f n = kg_st g n := by
  intro n
  induction n with
  | zero => exact fun _ => rfl
  | succ n ih =>
    intro h
    show f n :: kg_st f n = g n :: kg_st g n
    rw [ih (fun j hj => h j (by omega)), h n (by omega)]
theorem kg_sl_app {f : Nat → Int32} {n : Nat} {x : Int32} : kg_sl (upd f n x) (n + 1) = kg_sl f n ++ [x] := by
  show kg_sl (upd f n x) n ++ [upd f n x n] = _
  rw [kg_sl_w (g := f) (fun j hj => by unfold upd; rw [if_neg (by omega)])]
  unfold upd
  rw [if_pos rfl]
theorem kg_st_push {f : Nat → Int32} {n : Nat} {x : Int32} : kg_st (upd f n x) (n + 1) = x :: kg_st f n := by
  show upd f n x n :: kg_st (upd f n x) n = _
  rw [kg_st_w (g := f) (fun j hj => by unfold upd; rw [if_neg (by omega)])]
  unfold upd
  rw [if_pos rfl]
-- values and codes, step by step
noncomputable def kr_sh (f : Nat → Int32) (b : Int) : Nat → Int32 := fun j => f (b.toNat + j)
theorem kr_sh_in {f : Nat → Int32} {n : Int} {b x : Int32} (hb : 0 ≤ b.toInt) (h0 : 0 ≤ x.toInt) (h1 : x.toInt < n) (hs : (b + x).toInt = b.toInt + x.toInt) : kr_at (kr_sh f b.toInt) n x.toInt = (f (b + x).toNatClampNeg).toInt := by
  rw [kr_at_in h0 h1]
  show (f (b.toInt.toNat + x.toInt.toNat)).toInt = (f (b + x).toInt.toNat).toInt
  rw [hs, show (b.toInt + x.toInt).toNat = b.toInt.toNat + x.toInt.toNat from by omega]
noncomputable def kv_L (c : Int → Int) (nm : Nat → Int32) (l k f q : Int) (v : Int32) : Int32 := kv_loop c l (kr_R c (l + 1) k) (kv_R c nm (l + 1) k) f.toNat q v
theorem kv_R_lv {c : Int → Int} {nm : Nat → Int32} {l k p : Int} (hl : 0 ≤ l ∧ l ≤ 4) : kv_R c nm l k p = kv_L c nm l k 120 (kr_R c (l + 1) k p) (kv_R c nm (l + 1) k p) := by
  obtain ⟨d, hd⟩ : ∃ d : Nat, (5 - l).toNat = d + 1 := ⟨(5 - l).toNat - 1, by omega⟩
  have hd' : (5 - (l + 1)).toNat = d := by omega
  have h4 : 4 - (d : Int) = l := by omega
  have e : kr_R c (l + 1) k = kr_lv c (kr_opr c (6 - k).toNat) d := by
    funext x
    unfold kr_R
    rw [hd']
  have e2 : kv_R c nm (l + 1) k = kv_lv c (kr_opr c (6 - k).toNat) (kv_opr c nm (6 - k).toNat) d := by
    funext x
    unfold kv_R
    rw [hd']
  unfold kv_L
  rw [e, e2]
  unfold kv_R
  rw [hd]
  show kv_loop c (4 - (d : Int)) _ _ 120 _ _ = _
  rw [h4]
  rfl
theorem kv_c0 {c : Int → Int} {nm : Nat → Int32} {l l' k p q : Int} {v : Int32} (hl : 0 ≤ l ∧ l ≤ 4) (hl' : l' = l + 1) (h : kr_R c l' k p = q) (hv : (kv_R c nm l' k p).toInt = v.toInt) : (kv_L c nm l k 120 q v).toInt = (kv_R c nm l k p).toInt := by
  subst hl' h
  rw [kv_R_lv hl, Int32.toInt_inj.mp hv]
theorem kv_L_no {c : Int → Int} {nm : Nat → Int32} {l k f q : Int} {v : Int32} (h : ¬ ((l = 0 ∧ c q = 124) ∨ (l = 1 ∧ c q = 38) ∨ (l = 2 ∧ 60 ≤ c q ∧ c q ≤ 62) ∨ (l = 3 ∧ (c q = 43 ∨ c q = 45)) ∨ (l = 4 ∧ (c q = 42 ∨ c q = 47 ∨ c q = 37)))) : (kv_L c nm l k f q v).toInt = v.toInt := by
  unfold kv_L
  cases hf : f.toNat with
  | zero => rfl
  | succ g =>
    have hd : ¬ kr_J l (c q) = true := by
      unfold kr_J
      rw [decide_eq_true_eq]
      exact h
    show (if kr_J l (c q) = true then _ else v).toInt = _
    rw [if_neg hd]
theorem kv_L_u {c : Int → Int} {nm : Nat → Int32} {l k f q : Int} {v : Int32} (hf : 0 < f) (h : (l = 0 ∧ c q = 124) ∨ (l = 1 ∧ c q = 38) ∨ (l = 2 ∧ 60 ≤ c q ∧ c q ≤ 62) ∨ (l = 3 ∧ (c q = 43 ∨ c q = 45)) ∨ (l = 4 ∧ (c q = 42 ∨ c q = 47 ∨ c q = 37))) : kv_L c nm l k f q v = (if l = 2 then kv_jn (c q) v (kv_R c nm (l + 1) k (q + 1)) else kv_L c nm l k (f - 1) (kr_R c (l + 1) k (q + 1)) (kv_jn (c q) v (kv_R c nm (l + 1) k (q + 1)))) := by
  obtain ⟨g, hg⟩ : ∃ g : Nat, f.toNat = g + 1 := ⟨f.toNat - 1, by omega⟩
  have hg' : (f - 1).toNat = g := by omega
  unfold kv_L
  rw [hg, hg']
  have hJ : kr_J l (c q) = true := decide_eq_true h
  show (if kr_J l (c q) = true then (if l = 2 then kv_jn (c q) v (kv_R c nm (l + 1) k (q + 1)) else kv_loop c l (kr_R c (l + 1) k) (kv_R c nm (l + 1) k) g (kr_R c (l + 1) k (q + 1)) (kv_jn (c q) v (kv_R c nm (l + 1) k (q + 1)))) else v) = _
  rw [if_pos hJ]
theorem kv_L_2 {c : Int → Int} {nm : Nat → Int32} {l l' k q q1 : Int} {v w u : Int32} (h : 60 ≤ c q ∧ c q ≤ 62) (hl2 : l = 2) (hl' : l' = l + 1) (hq1 : q1 = q + 1) (hw : (kv_R c nm l' k q1).toInt = w.toInt) (hu : (kv_jn (c q) v w).toInt = u.toInt) : (kv_L c nm l k 120 q v).toInt = u.toInt := by
  subst hl' hq1
  rw [kv_L_u (by decide) (by omega), if_pos hl2, Int32.toInt_inj.mp hw, hu]
theorem kv_loop_fuel {c : Int → Int} {l : Int} {X : Int → Int} {Y : Int → Int32} {n : Int} (hc : ∀ p, p < 0 ∨ n ≤ p → c p = 0) (hX : ∀ p, 0 ≤ p → X p < 0 ∨ p < X p) : ∀ (f g : Nat) (q : Int) (v : Int32), 0 ≤ q → n - q ≤ (f : Int) → n - q ≤ (g : Int) → kv_loop c l X Y f q v = kv_loop c l X Y g q v := by
  have hz : ∀ (g : Nat) (q : Int) (v : Int32), kr_J l (c q) = false → kv_loop c l X Y g q v = v := by
    intro g q v h
    cases g with
    | zero => rfl
    | succ g => show (if kr_J l (c q) = true then _ else v) = v; rw [h]; rfl
  have h0 : ∀ q, q < 0 ∨ n ≤ q → kr_J l (c q) = false := by
    intro q h
    rw [hc q h]
    unfold kr_J
    exact decide_eq_false (by omega)
  intro f
  induction f with
  | zero => intro g q v hq h1 h2; rw [hz g q v (h0 q (Or.inr (by omega)))]; rfl
  | succ f ih =>
    intro g q v hq h1 h2
    cases hJ : kr_J l (c q) with
    | false => rw [hz _ q v hJ, hz _ q v hJ]
    | true =>
      have hn : q < n := by
        rcases Int.lt_or_le q n with h | h
        · exact h
        · rw [h0 q (Or.inr h)] at hJ; cases hJ
      obtain ⟨g', hg⟩ : ∃ g' : Nat, g = g' + 1 := ⟨g - 1, by omega⟩
      subst hg
      show (if kr_J l (c q) = true then (if l = 2 then kv_jn (c q) v (Y (q + 1)) else kv_loop c l X Y f (X (q + 1)) (kv_jn (c q) v (Y (q + 1)))) else v) = (if kr_J l (c q) = true then (if l = 2 then kv_jn (c q) v (Y (q + 1)) else kv_loop c l X Y g' (X (q + 1)) (kv_jn (c q) v (Y (q + 1)))) else v)
      rw [if_pos hJ, if_pos hJ]
      have h3 := hX (q + 1) (by omega)
      by_cases l2 : l = 2
      · rw [if_pos l2, if_pos l2]
      · rw [if_neg l2, if_neg l2]
        by_cases c0 : X (q + 1) < 0
        · rw [hz f _ _ (h0 _ (Or.inl c0)), hz g' _ _ (h0 _ (Or.inl c0))]
        · exact ih g' (X (q + 1)) _ (by omega) (by omega) (by omega)
theorem kv_L_S {c : Int → Int} {nm : Nat → Int32} {n l l' k q q1 e : Int} {v w u : Int32} (hc : ∀ p, p < 0 ∨ n ≤ p → c p = 0) (hn : n ≤ 120) (hq : 0 ≤ q) (h : (l = 0 ∧ c q = 124) ∨ (l = 1 ∧ c q = 38) ∨ (l = 2 ∧ 60 ≤ c q ∧ c q ≤ 62) ∨ (l = 3 ∧ (c q = 43 ∨ c q = 45)) ∨ (l = 4 ∧ (c q = 42 ∨ c q = 47 ∨ c q = 37))) (hl2 : l ≠ 2) (hl' : l' = l + 1) (hq1 : q1 = q + 1) (he : kr_R c l' k q1 = e) (h0 : 0 ≤ e) (hw : (kv_R c nm l' k q1).toInt = w.toInt) (hu : (kv_jn (c q) v w).toInt = u.toInt) : (kv_L c nm l k 120 q v).toInt = (kv_L c nm l k 120 e u).toInt := by
  subst hl' hq1
  have hg := kr_R_gt c (l + 1) k (q + 1) (by omega)
  rw [kv_L_u (by decide) h, if_neg hl2, Int32.toInt_inj.mp hw, he, Int32.toInt_inj.mp hu]
  unfold kv_L
  rw [show ((120 : Int) - 1).toNat = 119 from rfl, show (120 : Int).toNat = 120 from rfl, kv_loop_fuel hc (fun p hp => kr_R_gt c _ k p hp) 119 120 e _ h0 (by omega) (by omega)]
-- operators
theorem kv_or1 {x : Int} {v w : Int32} (hx : x = 124) (h : v.toInt ≠ 0 ∨ w.toInt ≠ 0) : (kv_jn x v w).toInt = 1 := by
  subst hx
  unfold kv_jn
  rw [if_pos rfl, if_neg (fun hh => by rcases hh with ⟨h1, h2⟩; rw [h1, h2] at h; exact absurd h (by decide))]
  rfl
theorem kv_or0 {x : Int} {v w : Int32} (hx : x = 124) (h1 : v.toInt = 0) (h2 : w.toInt = 0) : (kv_jn x v w).toInt = 0 := by
  subst hx
  unfold kv_jn
  rw [if_pos rfl, if_pos ⟨Int32.toInt_inj.mp h1, Int32.toInt_inj.mp h2⟩]
  rfl
theorem kv_an1 {x : Int} {v w : Int32} (hx : x = 38) (h1 : v.toInt ≠ 0) (h2 : w.toInt ≠ 0) : (kv_jn x v w).toInt = 1 := by
  subst hx
  unfold kv_jn
  rw [if_neg (by decide), if_pos rfl, if_neg (fun hh => hh.elim (fun h => h1 (by rw [h]; rfl)) (fun h => h2 (by rw [h]; rfl)))]
  rfl
theorem kv_an0 {x : Int} {v w : Int32} (hx : x = 38) (h : v.toInt = 0 ∨ w.toInt = 0) : (kv_jn x v w).toInt = 0 := by
  subst hx
  unfold kv_jn
  rw [if_neg (by decide), if_pos rfl, if_pos (h.imp (fun q => Int32.toInt_inj.mp q) (fun q => Int32.toInt_inj.mp q))]
  rfl
theorem kv_cm1 {x : Int} {v w : Int32} (hx : 60 ≤ x ∧ x ≤ 62) (h : (x = 60 ∧ v.toInt < w.toInt) ∨ (x = 61 ∧ v.toInt = w.toInt) ∨ (x = 62 ∧ w.toInt < v.toInt)) : (kv_jn x v w).toInt = 1 := by
  unfold kv_jn
  rw [if_neg (by omega), if_neg (by omega)]
  rcases h with ⟨h1, h2⟩ | ⟨h1, h2⟩ | ⟨h1, h2⟩
  · rw [if_pos h1, if_pos h2]; rfl
  · rw [if_neg (by omega), if_pos h1, if_pos h2]; rfl
  · rw [if_neg (by omega), if_neg (by omega), if_pos h1, if_pos h2]; rfl
theorem kv_cm0 {x : Int} {v w : Int32} (hx : 60 ≤ x ∧ x ≤ 62) (h : ¬ ((x = 60 ∧ v.toInt < w.toInt) ∨ (x = 61 ∧ v.toInt = w.toInt) ∨ (x = 62 ∧ w.toInt < v.toInt))) : (kv_jn x v w).toInt = 0 := by
  unfold kv_jn
  rw [if_neg (by omega), if_neg (by omega)]
  by_cases h1 : x = 60
  · rw [if_pos h1, if_neg (by omega)]; rfl
  · by_cases h2 : x = 61
    · rw [if_neg h1, if_pos h2, if_neg (by omega)]; rfl
    · rw [if_neg h1, if_neg h2, if_pos (by omega), if_neg (by omega)]; rfl
theorem kv_ad {x : Int} {v w : Int32} (hx : x = 43) : (kv_jn x v w).toInt = (v + w).toInt := by
  subst hx
  rfl
theorem kv_sb {x : Int} {v w : Int32} (hx : x = 45) : (kv_jn x v w).toInt = (v - w).toInt := by
  subst hx
  rfl
theorem kv_mu {x : Int} {v w : Int32} (hx : x = 42) : (kv_jn x v w).toInt = (v * w).toInt := by
  subst hx
  rfl
theorem kv_dv0 {x : Int} {v w : Int32} (hx : x = 47 ∨ x = 37) (h : w.toInt = 0) : (kv_jn x v w).toInt = 0 := by
  have e : w = 0 := Int32.toInt_inj.mp h
  rcases hx with rfl | rfl <;> (subst e; rfl)
theorem kv_dv {x : Int} {v w : Int32} (hx : x = 47) (h : w.toInt ≠ 0) : (kv_jn x v w).toInt = (v / w).toInt := by
  subst hx
  have e : ¬ w = 0 := fun q => by rw [q] at h; exact h rfl
  show (if w = 0 then 0 else v / w).toInt = _
  rw [if_neg e]
theorem kv_rm {x : Int} {v w : Int32} (hx : x = 37) (h : w.toInt ≠ 0) : (kv_jn x v w).toInt = (v - v / w * w).toInt := by
  subst hx
  have e : ¬ w = 0 := fun q => by rw [q] at h; exact h rfl
  show (if w = 0 then 0 else v - v / w * w).toInt = _
  rw [if_neg e]
-- operands
theorem kv_o_u {c : Int → Int} {nm : Nat → Int32} {k p : Int} : kv_R c nm 5 k p = kv_opr c nm (6 - k).toNat p := rfl
theorem kv_o_num {c : Int → Int} {nm : Nat → Int32} {k p : Int} (h : 48 ≤ c p ∧ c p ≤ 57) : kv_R c nm 5 k p = kv_nm c 4 p 0 := by
  have hD : kr_D (c p) = true := decide_eq_true h
  rw [kv_o_u]
  cases (6 - k).toNat with
  | zero => show (if kr_D (c p) = true then _ else _) = _; rw [if_pos hD]
  | succ g => show (if kr_D (c p) = true then _ else _) = _; rw [if_pos hD]
theorem kv_ix0 {x : Int} (h : x = 119) : (0 : Int) = (kv_ix x : Int) := by subst h; rfl
theorem kv_ix1 {x : Int} (h : x = 110) : (1 : Int) = (kv_ix x : Int) := by subst h; rfl
theorem kv_ix2 {x : Int} (h : x = 100) : (2 : Int) = (kv_ix x : Int) := by subst h; rfl
theorem kv_ix3 {x : Int} (h : x = 121) : (3 : Int) = (kv_ix x : Int) := by subst h; rfl
theorem kv_ix4 {x : Int} (h : x = 122) : (4 : Int) = (kv_ix x : Int) := by subst h; rfl
theorem kv_ix5 {x : Int} (h : x = 102) : (5 : Int) = (kv_ix x : Int) := by subst h; rfl
theorem kv_ix6 {x : Int} (h : x = 105) : (6 : Int) = (kv_ix x : Int) := by subst h; rfl
theorem kv_ix7 {x : Int} (h : x = 99) : (7 : Int) = (kv_ix x : Int) := by subst h; rfl
theorem kv_o_nam {c : Int → Int} {nm : Nat → Int32} {k p : Int} (h : c p = 119 ∨ c p = 110 ∨ c p = 100 ∨ c p = 121 ∨ c p = 122 ∨ c p = 102 ∨ c p = 105 ∨ c p = 99) : kv_R c nm 5 k p = nm (kv_ix (c p)) := by
  have hD : ¬ kr_D (c p) = true := by unfold kr_D; rw [decide_eq_true_eq]; omega
  have hN : kr_N (c p) = true := decide_eq_true h
  rw [kv_o_u]
  cases (6 - k).toNat with
  | zero => show (if kr_D (c p) = true then _ else nm (kv_ix (c p))) = _; rw [if_neg hD]
  | succ g => show (if kr_D (c p) = true then _ else if kr_N (c p) = true then nm (kv_ix (c p)) else _) = _; rw [if_neg hD, if_pos hN]
theorem kv_o_in {c : Int → Int} {nm : Nat → Int32} {k k' p p1 : Int} (hk : k < 6) (h : c p = 40 ∨ c p = 33 ∨ c p = 45) (hk' : k' = k + 1) (hp1 : p1 = p + 1) : kv_R c nm 5 k p = (if c p = 40 then kv_R c nm 0 k' p1 else if c p = 33 then kv_no (kv_R c nm 5 k' p1) else -(kv_R c nm 5 k' p1)) := by
  subst hk' hp1
  have hD : ¬ kr_D (c p) = true := by unfold kr_D; rw [decide_eq_true_eq]; omega
  have hN : ¬ kr_N (c p) = true := by unfold kr_N; rw [decide_eq_true_eq]; omega
  obtain ⟨g, hg⟩ : ∃ g : Nat, (6 - k).toNat = g + 1 := ⟨(6 - k).toNat - 1, by omega⟩
  have hg' : (6 - (k + 1)).toNat = g := by omega
  have e : kv_R c nm 0 (k + 1) (p + 1) = kv_lv c (kr_opr c g) (kv_opr c nm g) 5 (p + 1) := by unfold kv_R; rw [hg']; rfl
  have e5 : kv_R c nm 5 (k + 1) (p + 1) = kv_opr c nm g (p + 1) := by rw [kv_o_u, hg']
  rw [kv_o_u, hg, e, e5]
  show (if kr_D (c p) = true then _ else if kr_N (c p) = true then _ else if c p = 40 then kv_lv c (kr_opr c g) (kv_opr c nm g) 5 (p + 1) else if c p = 33 then kv_no (kv_opr c nm g (p + 1)) else -(kv_opr c nm g (p + 1))) = _
  rw [if_neg hD, if_neg hN]
theorem kv_o_par {c : Int → Int} {nm : Nat → Int32} {k k' p p1 : Int} {v : Int32} (hk : k < 6) (h : c p = 40) (hk' : k' = k + 1) (hp1 : p1 = p + 1) (hv : (kv_R c nm 0 k' p1).toInt = v.toInt) : (kv_R c nm 5 k p).toInt = v.toInt := by
  rw [kv_o_in hk (Or.inl h) hk' hp1, if_pos h, hv]
theorem kv_o_not {c : Int → Int} {nm : Nat → Int32} {k k' p p1 : Int} {v : Int32} (hk : k < 6) (h : c p = 33) (hk' : k' = k + 1) (hp1 : p1 = p + 1) (hv : (kv_R c nm 5 k' p1).toInt = v.toInt) : (kv_R c nm 5 k p).toInt = (kv_no v).toInt := by
  rw [kv_o_in hk (Or.inr (Or.inl h)) hk' hp1, if_neg (by omega), if_pos h, Int32.toInt_inj.mp hv]
theorem kv_o_neg {c : Int → Int} {nm : Nat → Int32} {k k' p p1 : Int} {v : Int32} (hk : k < 6) (h : c p = 45) (hk' : k' = k + 1) (hp1 : p1 = p + 1) (hv : (kv_R c nm 5 k' p1).toInt = v.toInt) : (kv_R c nm 5 k p).toInt = (-v).toInt := by
  rw [kv_o_in hk (Or.inr (Or.inr h)) hk' hp1, if_neg (by omega), if_neg (by omega), Int32.toInt_inj.mp hv]
theorem kv_no1 {v : Int32} (h : v.toInt = 0) : (kv_no v).toInt = 1 := by
  unfold kv_no
  rw [if_pos (Int32.toInt_inj.mp h)]
  rfl
theorem kv_no0 {v : Int32} (h : v.toInt ≠ 0) : (kv_no v).toInt = 0 := by
  unfold kv_no
  rw [if_neg (fun q => by rw [q] at h; exact h rfl)]
  rfl
-- numbers, digit by digit
noncomputable def kv_F (c : Int → Int) (f q : Int) (a : Int32) : Int32 := kv_nm c f.toNat q a
theorem kv_F_no {c : Int → Int} {f q : Int} {a : Int32} (h : f ≤ 0 ∨ c q < 48 ∨ 57 < c q) : (kv_F c f q a).toInt = a.toInt := by
  unfold kv_F
  cases hf : f.toNat with
  | zero => rfl
  | succ g =>
    have hd : ¬ kr_D (c q) = true := by unfold kr_D; rw [decide_eq_true_eq]; omega
    show (if kr_D (c q) = true then _ else a).toInt = _
    rw [if_neg hd]
theorem kv_F_s {c : Int → Int} {f q f' q' : Int} {a b : Int32} (hf : 0 < f) (hd : 48 ≤ c q ∧ c q ≤ 57) (hf' : f' = f - 1) (hq' : q' = q + 1) (hb : b.toInt = 10 * a.toInt + c q - 48) (ha : 0 ≤ a.toInt ∧ a.toInt ≤ 1000) : (kv_F c f q a).toInt = (kv_F c f' q' b).toInt := by
  subst hf' hq'
  unfold kv_F
  obtain ⟨g, hg⟩ : ∃ g : Nat, f.toNat = g + 1 := ⟨f.toNat - 1, by omega⟩
  have hg' : (f - 1).toNat = g := by omega
  rw [hg, hg']
  have hD : kr_D (c q) = true := decide_eq_true hd
  show (if kr_D (c q) = true then kv_nm c g (q + 1) (10 * a + Int32.ofInt (c q) - 48) else a).toInt = _
  rw [if_pos hD]
  have e := kv_of (x := c q) (by omega) (by omega)
  have m := kk_mul2 (x := 10) (y := a) (a := 10) (b := a.toInt) rfl rfl (by omega) (by omega)
  have p := kk_add2 (x := 10 * a) (y := Int32.ofInt (c q)) m e (by omega) (by omega)
  have r := kk_sub2 (x := 10 * a + Int32.ofInt (c q)) (y := 48) (b := 48) p rfl (by omega) (by omega)
  rw [show 10 * a + Int32.ofInt (c q) - 48 = b from Int32.toInt_inj.mp (by omega)]
-- the same of ints
noncomputable def kv_RI (c : Int → Int) (nm : Nat → Int32) (l k p : Int) : Int := (kv_R c nm l k p).toInt
noncomputable def kv_LI (c : Int → Int) (nm : Nat → Int32) (l k f q v : Int) : Int := (kv_L c nm l k f q (Int32.ofInt v)).toInt
noncomputable def kv_FI (c : Int → Int) (f q a : Int) : Int := (kv_F c f q (Int32.ofInt a)).toInt
theorem kv_LI_e {c : Int → Int} {nm : Nat → Int32} {l k f q : Int} (v : Int32) : kv_LI c nm l k f q v.toInt = (kv_L c nm l k f q v).toInt := by
  unfold kv_LI
  rw [Int32.ofInt_toInt]
theorem kv_FI_e {c : Int → Int} {f q : Int} (a : Int32) : kv_FI c f q a.toInt = (kv_F c f q a).toInt := by
  unfold kv_FI
  rw [Int32.ofInt_toInt]
theorem kv_c0I {c : Int → Int} {nm : Nat → Int32} {l l' k p q : Int} {v : Int32} (hl : 0 ≤ l ∧ l ≤ 4) (hl' : l' = l + 1) (h : kr_R c l' k p = q) (hv : kv_RI c nm l' k p = v.toInt) : kv_LI c nm l k 120 q v.toInt = kv_RI c nm l k p := (kv_LI_e v).trans (kv_c0 hl hl' h hv)
theorem kv_LnI {c : Int → Int} {nm : Nat → Int32} {l k q : Int} {v : Int32} (h : ¬ ((l = 0 ∧ c q = 124) ∨ (l = 1 ∧ c q = 38) ∨ (l = 2 ∧ 60 ≤ c q ∧ c q ≤ 62) ∨ (l = 3 ∧ (c q = 43 ∨ c q = 45)) ∨ (l = 4 ∧ (c q = 42 ∨ c q = 47 ∨ c q = 37)))) : kv_LI c nm l k 120 q v.toInt = v.toInt := (kv_LI_e v).trans (kv_L_no h)
theorem kv_L2I {c : Int → Int} {nm : Nat → Int32} {l l' k q q1 : Int} {v w u : Int32} (h : 60 ≤ c q ∧ c q ≤ 62) (hl2 : l = 2) (hl' : l' = l + 1) (hq1 : q1 = q + 1) (hw : kv_RI c nm l' k q1 = w.toInt) (hu : (kv_jn (c q) v w).toInt = u.toInt) : kv_LI c nm l k 120 q v.toInt = u.toInt := (kv_LI_e v).trans (kv_L_2 h hl2 hl' hq1 hw hu)
theorem kv_LSI {c : Int → Int} {nm : Nat → Int32} {n l l' k q q1 e : Int} {v w u : Int32} (hc : ∀ p, p < 0 ∨ n ≤ p → c p = 0) (hn : n ≤ 120) (hq : 0 ≤ q) (h : (l = 0 ∧ c q = 124) ∨ (l = 1 ∧ c q = 38) ∨ (l = 2 ∧ 60 ≤ c q ∧ c q ≤ 62) ∨ (l = 3 ∧ (c q = 43 ∨ c q = 45)) ∨ (l = 4 ∧ (c q = 42 ∨ c q = 47 ∨ c q = 37))) (hl2 : l ≠ 2) (hl' : l' = l + 1) (hq1 : q1 = q + 1) (he : kr_R c l' k q1 = e) (h0 : 0 ≤ e) (hw : kv_RI c nm l' k q1 = w.toInt) (hu : (kv_jn (c q) v w).toInt = u.toInt) : kv_LI c nm l k 120 q v.toInt = kv_LI c nm l k 120 e u.toInt := (kv_LI_e v).trans ((kv_L_S hc hn hq h hl2 hl' hq1 he h0 hw hu).trans (kv_LI_e u).symm)
theorem kv_F0I {c : Int → Int} {k p : Int} {nm : Nat → Int32} (h : 48 ≤ c p ∧ c p ≤ 57) : kv_RI c nm 5 k p = kv_FI c 4 p 0 := congrArg Int32.toInt (kv_o_num h)
theorem kv_FnI {c : Int → Int} {f q : Int} {a : Int32} (h : f ≤ 0 ∨ c q < 48 ∨ 57 < c q) : kv_FI c f q a.toInt = a.toInt := (kv_FI_e a).trans (kv_F_no h)
theorem kv_FsI {c : Int → Int} {f q f' q' : Int} {a b : Int32} (hf : 0 < f) (hd : 48 ≤ c q ∧ c q ≤ 57) (hf' : f' = f - 1) (hq' : q' = q + 1) (hb : b.toInt = 10 * a.toInt + c q - 48) (ha : 0 ≤ a.toInt ∧ a.toInt ≤ 1000) : kv_FI c f q a.toInt = kv_FI c f' q' b.toInt := (kv_FI_e a).trans ((kv_F_s hf hd hf' hq' hb ha).trans (kv_FI_e b).symm)
theorem kv_dg {a b : Int32} (ha : 0 ≤ a.toInt ∧ a.toInt ≤ 999) (hb : 48 ≤ b.toInt ∧ b.toInt ≤ 57) : (10 * a + b - 48).toInt = 10 * a.toInt + b.toInt - 48 := by
  have m := kk_mul2 (x := 10) (y := a) (a := 10) (b := a.toInt) rfl rfl (by omega) (by omega)
  have p := kk_add2 (x := 10 * a) (y := b) m rfl (by omega) (by omega)
  exact kk_sub2 (x := 10 * a + b) (y := 48) (b := 48) p rfl (by omega) (by omega)
theorem kv_onI {c : Int → Int} {nm : Nat → Int32} {k p : Int} {x : Int32} (h : c p = 119 ∨ c p = 110 ∨ c p = 100 ∨ c p = 121 ∨ c p = 122 ∨ c p = 102 ∨ c p = 105 ∨ c p = 99) (hx : x.toInt = (kv_ix (c p) : Int)) : kv_RI c nm 5 k p = (nm x.toNatClampNeg).toInt := by
  unfold kv_RI
  rw [kv_o_nam h, show x.toNatClampNeg = kv_ix (c p) from by show x.toInt.toNat = _; omega]
theorem kv_opI {c : Int → Int} {nm : Nat → Int32} {k k' p p1 : Int} {v : Int32} (hk : k < 6) (h : c p = 40) (hk' : k' = k + 1) (hp1 : p1 = p + 1) (hv : kv_RI c nm 0 k' p1 = v.toInt) : kv_RI c nm 5 k p = v.toInt := kv_o_par hk h hk' hp1 hv
theorem kv_otI {c : Int → Int} {nm : Nat → Int32} {k k' p p1 : Int} {v u : Int32} (hk : k < 6) (h : c p = 33) (hk' : k' = k + 1) (hp1 : p1 = p + 1) (hv : kv_RI c nm 5 k' p1 = v.toInt) (hu : (v.toInt = 0 ∧ u.toInt = 1) ∨ (v.toInt ≠ 0 ∧ u.toInt = 0)) : kv_RI c nm 5 k p = u.toInt := by
  have e := kv_o_not (v := v) hk h hk' hp1 hv
  rcases hu with ⟨h1, h2⟩ | ⟨h1, h2⟩
  · exact e.trans ((kv_no1 h1).trans h2.symm)
  · exact e.trans ((kv_no0 h1).trans h2.symm)
theorem kv_ogI {c : Int → Int} {nm : Nat → Int32} {k k' p p1 : Int} {v : Int32} (hk : k < 6) (h : c p = 45) (hk' : k' = k + 1) (hp1 : p1 = p + 1) (hv : kv_RI c nm 5 k' p1 = v.toInt) : kv_RI c nm 5 k p = (-v).toInt := kv_o_neg hk h hk' hp1 hv
-- the whole TEXT
noncomputable def kv_TI (c : Int → Int) (nm : Nat → Int32) (n f p : Int) : Int := (kv_T c nm n f p).toInt
theorem kv_TI_u {c : Int → Int} {nm : Nat → Int32} {n f p : Int} (hf : 0 < f) : kv_TI c nm n f p = (if c (kr_R c 0 0 p) = 63 then (if kv_RI c nm 0 0 p = 0 then (if n ≤ kr_line c p then 0 else kv_TI c nm n (f - 1) (kr_line c p + 1)) else kv_RI c nm 0 0 (kr_R c 0 0 p + 1)) else kv_RI c nm 0 0 p) := by
  obtain ⟨g, hg⟩ : ∃ g : Nat, f.toNat = g + 1 := ⟨f.toNat - 1, by omega⟩
  have hg' : (f - 1).toNat = g := by omega
  unfold kv_TI kv_T
  rw [hg, hg']
  show (if c (kr_R c 0 0 p) = 63 then (if (kv_R c nm 0 0 p).toInt = 0 then (if n ≤ kr_line c p then 0 else kv_txt c nm n g (kr_line c p + 1)) else kv_R c nm 0 0 (kr_R c 0 0 p + 1)) else kv_R c nm 0 0 p).toInt = _
  (repeat' split) <;> first | rfl | (exfalso; simp_all [kv_RI])
-- what is written down, step by step: S what stands there, T what there was and the whole of the TEXT's
noncomputable def kg_sI (f : Nat → Int32) (n : Int) : List Int32 := kg_sl f n.toNat
theorem kg_sI_app {f : Nat → Int32} {n : Int32} {m : Int} {x : Int32} (h0 : 0 ≤ n.toInt) (hm : m = n.toInt + 1) : kg_sI (upd f n.toNatClampNeg x) m = kg_sI f n.toInt ++ [x] := by
  subst hm
  unfold kg_sI
  have e : n.toNatClampNeg = n.toInt.toNat := rfl
  rw [e, show (n.toInt + 1).toNat = n.toInt.toNat + 1 from by omega]
  exact kg_sl_app
noncomputable def kq_L (c : Int → Int) (l k f q : Int) : List Int32 := kq_loop c l (kr_R c (l + 1) k) (kq_R c (l + 1) k) f.toNat q
theorem kq_R_lv {c : Int → Int} {l k p : Int} (hl : 0 ≤ l ∧ l ≤ 4) : kq_R c l k p = kq_R c (l + 1) k p ++ kq_L c l k 120 (kr_R c (l + 1) k p) := by
  obtain ⟨d, hd⟩ : ∃ d : Nat, (5 - l).toNat = d + 1 := ⟨(5 - l).toNat - 1, by omega⟩
  have hd' : (5 - (l + 1)).toNat = d := by omega
  have h4 : 4 - (d : Int) = l := by omega
  have e : kr_R c (l + 1) k = kr_lv c (kr_opr c (6 - k).toNat) d := by
    funext x
    unfold kr_R
    rw [hd']
  have e2 : kq_R c (l + 1) k = kq_lv c (kr_opr c (6 - k).toNat) (kq_opr c (6 - k).toNat) d := by
    funext x
    unfold kq_R
    rw [hd']
  unfold kq_L
  rw [e, e2]
  unfold kq_R
  rw [hd]
  show kq_lv c _ _ d p ++ kq_loop c (4 - (d : Int)) _ _ 120 _ = _
  rw [h4]
  rfl
theorem kq_c0 {c : Int → Int} {l l' k p q f : Int} {S T : List Int32} (hl : 0 ≤ l ∧ l ≤ 4) (hl' : l' = l + 1) (h : kr_R c l' k p = q) (hs : S = T ++ kq_R c l' k p) (hf : f = 120) : S ++ kq_L c l k f q = T ++ kq_R c l k p := by
  subst hl' h hs hf
  rw [kq_R_lv hl, List.append_assoc]
theorem kq_L_no {c : Int → Int} {l k f q : Int} (h : f ≤ 0 ∨ ¬ ((l = 0 ∧ c q = 124) ∨ (l = 1 ∧ c q = 38) ∨ (l = 2 ∧ 60 ≤ c q ∧ c q ≤ 62) ∨ (l = 3 ∧ (c q = 43 ∨ c q = 45)) ∨ (l = 4 ∧ (c q = 42 ∨ c q = 47 ∨ c q = 37)))) : kq_L c l k f q = [] := by
  unfold kq_L
  cases hf : f.toNat with
  | zero => rfl
  | succ g =>
    have hd : ¬ kr_J l (c q) = true := by
      unfold kr_J
      rw [decide_eq_true_eq]
      omega
    show (if kr_J l (c q) = true then _ else []) = []
    rw [if_neg hd]
theorem kq_L_u {c : Int → Int} {l k f q : Int} (hf : 0 < f) (h : (l = 0 ∧ c q = 124) ∨ (l = 1 ∧ c q = 38) ∨ (l = 2 ∧ 60 ≤ c q ∧ c q ≤ 62) ∨ (l = 3 ∧ (c q = 43 ∨ c q = 45)) ∨ (l = 4 ∧ (c q = 42 ∨ c q = 47 ∨ c q = 37))) : kq_L c l k f q = kq_R c (l + 1) k (q + 1) ++ (Int32.ofInt (c q) :: (if l = 2 then [] else kq_L c l k (f - 1) (kr_R c (l + 1) k (q + 1)))) := by
  obtain ⟨g, hg⟩ : ∃ g : Nat, f.toNat = g + 1 := ⟨f.toNat - 1, by omega⟩
  have hg' : (f - 1).toNat = g := by omega
  unfold kq_L
  rw [hg, hg']
  have hJ : kr_J l (c q) = true := decide_eq_true h
  show (if kr_J l (c q) = true then kq_R c (l + 1) k (q + 1) ++ (Int32.ofInt (c q) :: (if l = 2 then [] else kq_loop c l (kr_R c (l + 1) k) (kq_R c (l + 1) k) g (kr_R c (l + 1) k (q + 1)))) else []) = _
  rw [if_pos hJ]
theorem kq_x {x : Int32} {c : Int → Int} {q : Int} (hx : x.toInt = c q) : Int32.ofInt (c q) = x := by
  rw [← hx]
  exact Int32.ofInt_toInt x
theorem kq_L_S {c : Int → Int} {l l' k f f' q q1 e : Int} {S S1 S2 T : List Int32} {x : Int32} (hi : S ++ kq_L c l k f q = T) (hf : 0 < f) (h : (l = 0 ∧ c q = 124) ∨ (l = 1 ∧ c q = 38) ∨ (l = 2 ∧ 60 ≤ c q ∧ c q ≤ 62) ∨ (l = 3 ∧ (c q = 43 ∨ c q = 45)) ∨ (l = 4 ∧ (c q = 42 ∨ c q = 47 ∨ c q = 37))) (hl2 : l ≠ 2) (hl' : l' = l + 1) (hq1 : q1 = q + 1) (he : kr_R c l' k q1 = e) (hs1 : S1 = S ++ kq_R c l' k q1) (hs2 : S2 = S1 ++ [x]) (hx : x.toInt = c q) (hf' : f' = f - 1) : S2 ++ kq_L c l k f' e = T := by
  subst hl' hq1 he hs1 hs2 hf'
  rw [kq_L_u hf h, if_neg hl2, kq_x hx] at hi
  rw [← hi, List.append_assoc, List.append_assoc]
  rfl
theorem kq_L_2 {c : Int → Int} {l l' k f q q1 : Int} {S S1 S2 T : List Int32} {x : Int32} (hi : S ++ kq_L c l k f q = T) (hf : 0 < f) (h : 60 ≤ c q ∧ c q ≤ 62) (hl2 : l = 2) (hl' : l' = l + 1) (hq1 : q1 = q + 1) (hs1 : S1 = S ++ kq_R c l' k q1) (hs2 : S2 = S1 ++ [x]) (hx : x.toInt = c q) : S2 = T := by
  subst hl' hq1 hs1 hs2
  rw [kq_L_u hf (by omega), if_pos hl2, kq_x hx] at hi
  rw [← hi, List.append_assoc]
theorem kq_L_e {c : Int → Int} {l k f q : Int} {S T : List Int32} (hi : S ++ kq_L c l k f q = T) (h : f ≤ 0 ∨ ¬ ((l = 0 ∧ c q = 124) ∨ (l = 1 ∧ c q = 38) ∨ (l = 2 ∧ 60 ≤ c q ∧ c q ≤ 62) ∨ (l = 3 ∧ (c q = 43 ∨ c q = 45)) ∨ (l = 4 ∧ (c q = 42 ∨ c q = 47 ∨ c q = 37)))) : S = T := by
  rw [kq_L_no h, List.append_nil] at hi
  exact hi
theorem kq_o_u {c : Int → Int} {k p : Int} : kq_R c 5 k p = kq_opr c (6 - k).toNat p := rfl
theorem kq_o_num {c : Int → Int} {k p : Int} {S S1 : List Int32} {x v : Int32} (h : 48 ≤ c p ∧ c p ≤ 57) (hs : S1 = S ++ [x]) (hx : x = 256 + v) (hv : (kv_nm c 4 p 0).toInt = v.toInt) : S1 = S ++ kq_R c 5 k p := by
  have hD : kr_D (c p) = true := decide_eq_true h
  have e : kq_R c 5 k p = [256 + kv_nm c 4 p 0] := by
    rw [kq_o_u]
    cases (6 - k).toNat with
    | zero => show (if kr_D (c p) = true then _ else _) = _; rw [if_pos hD]
    | succ g => show (if kr_D (c p) = true then _ else _) = _; rw [if_pos hD]
  rw [hs, hx, e, Int32.toInt_inj.mp hv]
theorem kq_o_nam {c : Int → Int} {k p : Int} {S S1 : List Int32} {x : Int32} (h : c p = 119 ∨ c p = 110 ∨ c p = 100 ∨ c p = 121 ∨ c p = 122 ∨ c p = 102 ∨ c p = 105 ∨ c p = 99) (hs : S1 = S ++ [x]) (hx : x.toInt = (kv_ix (c p) : Int)) : S1 = S ++ kq_R c 5 k p := by
  have hD : ¬ kr_D (c p) = true := by unfold kr_D; rw [decide_eq_true_eq]; omega
  have hN : kr_N (c p) = true := decide_eq_true h
  have hb := kv_ix_lt (c p)
  have e : kq_R c 5 k p = [Int32.ofNat (kv_ix (c p))] := by
    rw [kq_o_u]
    cases (6 - k).toNat with
    | zero => show (if kr_D (c p) = true then _ else [Int32.ofNat (kv_ix (c p))]) = _; rw [if_neg hD]
    | succ g => show (if kr_D (c p) = true then _ else if kr_N (c p) = true then [Int32.ofNat (kv_ix (c p))] else _) = _; rw [if_neg hD, if_pos hN]
  have ex : x = Int32.ofNat (kv_ix (c p)) := Int32.toInt_inj.mp (by
    have := kv_on (n := kv_ix (c p)) (by omega)
    omega)
  rw [hs, e, ex]
theorem kq_o_in {c : Int → Int} {k k' p p1 : Int} (hk : k < 6) (h : c p = 40 ∨ c p = 33 ∨ c p = 45) (hk' : k' = k + 1) (hp1 : p1 = p + 1) : kq_R c 5 k p = (if c p = 40 then kq_R c 0 k' p1 else if c p = 33 then kq_R c 5 k' p1 ++ [33] else kq_R c 5 k' p1 ++ [126]) := by
  subst hk' hp1
  have hD : ¬ kr_D (c p) = true := by unfold kr_D; rw [decide_eq_true_eq]; omega
  have hN : ¬ kr_N (c p) = true := by unfold kr_N; rw [decide_eq_true_eq]; omega
  obtain ⟨g, hg⟩ : ∃ g : Nat, (6 - k).toNat = g + 1 := ⟨(6 - k).toNat - 1, by omega⟩
  have hg' : (6 - (k + 1)).toNat = g := by omega
  have e : kq_R c 0 (k + 1) (p + 1) = kq_lv c (kr_opr c g) (kq_opr c g) 5 (p + 1) := by unfold kq_R; rw [hg']; rfl
  have e5 : kq_R c 5 (k + 1) (p + 1) = kq_opr c g (p + 1) := by rw [kq_o_u, hg']
  rw [kq_o_u, hg, e, e5]
  show (if kr_D (c p) = true then _ else if kr_N (c p) = true then _ else if c p = 40 then kq_lv c (kr_opr c g) (kq_opr c g) 5 (p + 1) else if c p = 33 then kq_opr c g (p + 1) ++ [33] else kq_opr c g (p + 1) ++ [126]) = _
  rw [if_neg hD, if_neg hN]
theorem kq_o_par {c : Int → Int} {k k' p p1 : Int} {S S1 : List Int32} (hk : k < 6) (h : c p = 40) (hk' : k' = k + 1) (hp1 : p1 = p + 1) (hs : S1 = S ++ kq_R c 0 k' p1) : S1 = S ++ kq_R c 5 k p := by
  rw [kq_o_in hk (Or.inl h) hk' hp1, if_pos h, hs]
theorem kq_o_not {c : Int → Int} {k k' p p1 : Int} {S S1 S2 : List Int32} {x : Int32} (hk : k < 6) (h : c p = 33) (hk' : k' = k + 1) (hp1 : p1 = p + 1) (hs : S1 = S ++ kq_R c 5 k' p1) (hs2 : S2 = S1 ++ [x]) (hx : x = 33) : S2 = S ++ kq_R c 5 k p := by
  rw [kq_o_in hk (Or.inr (Or.inl h)) hk' hp1, if_neg (by omega), if_pos h, hs2, hs, hx, List.append_assoc]
theorem kq_o_neg {c : Int → Int} {k k' p p1 : Int} {S S1 S2 : List Int32} {x : Int32} (hk : k < 6) (h : c p = 45) (hk' : k' = k + 1) (hp1 : p1 = p + 1) (hs : S1 = S ++ kq_R c 5 k' p1) (hs2 : S2 = S1 ++ [x]) (hx : x = 126) : S2 = S ++ kq_R c 5 k p := by
  rw [kq_o_in hk (Or.inr (Or.inr h)) hk' hp1, if_neg (by omega), if_neg (by omega), hs2, hs, hx, List.append_assoc]
-- lines
theorem kq_l_no {c : Int → Int} {p e : Int} {S S1 S2 : List Int32} {x : Int32} (h : kr_R c 0 0 p = e) (h1 : c e ≠ 63) (hs : S1 = S ++ kq_R c 0 0 p) (hs2 : S2 = S1 ++ [x]) (hx : x = 59) : S2 = S ++ kq_line c p := by
  unfold kq_line
  rw [h, if_neg h1, hs2, hs, hx, List.append_assoc]
  rfl
theorem kq_l_if {c : Int → Int} {p e p1 : Int} {S S1 S2 S3 S4 : List Int32} {x y : Int32} (h : kr_R c 0 0 p = e) (h1 : c e = 63) (hp1 : p1 = e + 1) (hs : S1 = S ++ kq_R c 0 0 p) (hs2 : S2 = S1 ++ [x]) (hx : x = 63) (hs3 : S3 = S2 ++ kq_R c 0 0 p1) (hs4 : S4 = S3 ++ [y]) (hy : y = 59) : S4 = S ++ kq_line c p := by
  subst hp1
  unfold kq_line
  rw [h, if_pos h1, hs4, hs3, hs2, hs, hx, hy]
  simp only [List.append_assoc, List.cons_append, List.nil_append]
theorem kq_T_u {c : Int → Int} {n f p : Int} (hf : 0 < f) : kq_T c n f p = kq_line c p ++ (if n ≤ kr_line c p then [] else kq_T c n (f - 1) (kr_line c p + 1)) := by
  obtain ⟨g, hg⟩ : ∃ g : Nat, f.toNat = g + 1 := ⟨f.toNat - 1, by omega⟩
  have hg' : (f - 1).toNat = g := by omega
  unfold kq_T
  rw [hg, hg']
  rfl
theorem kq_T_e {c : Int → Int} {n f p e : Int} {S S1 T : List Int32} (hi : S ++ kq_T c n f p = T) (hf : 0 < f) (h : kr_line c p = e) (h1 : n ≤ e) (hs : S1 = S ++ kq_line c p) : S1 = T := by
  rw [kq_T_u hf, h, if_pos h1, List.append_nil] at hi
  rw [hs, hi]
theorem kq_T_s {c : Int → Int} {n f p e f' p' : Int} {S S1 T : List Int32} (hi : S ++ kq_T c n f p = T) (hf : 0 < f) (h : kr_line c p = e) (h1 : e < n) (hs : S1 = S ++ kq_line c p) (hf' : f' = f - 1) (hp' : p' = e + 1) : S1 ++ kq_T c n f' p' = T := by
  subst hf' hp'
  rw [kq_T_u hf, h, if_neg (by omega)] at hi
  rw [hs, ← hi, List.append_assoc]
-- codes: numbers as the class reads them
noncomputable def kv_p10 (d : Int) : Int := 10 ^ d.toNat
theorem kv_p10_s {d e : Int} (h : 0 ≤ d) (he : e = d + 1) : kv_p10 e = 10 * kv_p10 d := by
  subst he
  unfold kv_p10
  rw [show (d + 1).toNat = d.toNat + 1 from by omega, Int.pow_succ, Int.mul_comm]
theorem kv_p10_b {d : Int} (h0 : 0 ≤ d) (h : d ≤ 3) : 1 ≤ kv_p10 d ∧ kv_p10 d ≤ 1000 := by
  rcases (show d = 0 ∨ d = 1 ∨ d = 2 ∨ d = 3 by omega) with rfl | rfl | rfl | rfl <;> decide
theorem kv_p10_0 : kv_p10 0 = 1 := rfl
theorem kv_dg2 {a b : Int32} (ha : 0 ≤ a.toInt ∧ a.toInt ≤ 999) (hb : 48 ≤ b.toInt ∧ b.toInt ≤ 57) : (a * 10 + b - 48).toInt = 10 * a.toInt + b.toInt - 48 := by
  have m := kk_mul2 (x := a) (y := 10) (a := a.toInt) (b := 10) rfl rfl (by omega) (by omega)
  have p := kk_add2 (x := a * 10) (y := b) m rfl (by omega) (by omega)
  have q := kk_sub2 (x := a * 10 + b) (y := 48) (b := 48) p rfl (by omega) (by omega)
  omega
theorem kv_F00 {c : Int → Int} {p : Int} : kv_FI c 4 p 0 = (kv_nm c 4 p 0).toInt := rfl
-- what a reader leaves: a list more
theorem kq_o_sg {c : Int → Int} {k k' p p1 : Int} {S S1 S2 : List Int32} {x : Int32} (hk : k < 6) (h : c p = 33 ∨ c p = 45) (hk' : k' = k + 1) (hp1 : p1 = p + 1) (hs : S1 = S ++ kq_R c 5 k' p1) (hs2 : S2 = S1 ++ [x]) (hx : (c p = 33 ∧ x.toInt = 33) ∨ (c p ≠ 33 ∧ x.toInt = 126)) : S2 = S ++ kq_R c 5 k p := by
  rcases h with h | h
  · exact kq_o_not hk h hk' hp1 hs hs2 (Int32.toInt_inj.mp (by show x.toInt = 33; omega))
  · exact kq_o_neg hk h hk' hp1 hs hs2 (Int32.toInt_inj.mp (by show x.toInt = 126; omega))
-- towns: how many PLOTS; of those that are there their WIDTHS, DEPTHS, ASIDES (0 behind)
noncomputable abbrev kt_S := Int32 × (Nat → Int32) × (Nat → Int32) × (Nat → Int32)
noncomputable def kt_tr (n : Int32) (f : Nat → Int32) : Nat → Int32 := fun j => if (j : Int) < n.toInt then f j else 0
noncomputable def kt_st (n : Int32) (W D A : Nat → Int32) : kt_S := (n, kt_tr n W, kt_tr n D, kt_tr n A)
theorem kt_tr_e {n : Int32} {f g : Nat → Int32} (h : ∀ j : Nat, (j : Int) < n.toInt → f j = g j) : kt_tr n f = kt_tr n g := by
  funext j
  unfold kt_tr
  by_cases hj : (j : Int) < n.toInt
  · rw [if_pos hj, if_pos hj, h j hj]
  · rw [if_neg hj, if_neg hj]
theorem kt_tr_i {n : Int32} {f g : Nat → Int32} (h : kt_tr n f = kt_tr n g) : ∀ j : Nat, (j : Int) < n.toInt → f j = g j := by
  intro j hj
  have h1 := congrFun h j
  unfold kt_tr at h1
  rw [if_pos hj, if_pos hj] at h1
  exact h1
theorem kt_tr_v {n : Int32} {f : Nat → Int32} {j : Nat} (h : (j : Int) < n.toInt) : kt_tr n f j = f j := if_pos h
theorem kt_tr_0 {n : Int32} {f : Nat → Int32} {j : Nat} (h : n.toInt ≤ (j : Int)) : kt_tr n f j = 0 := if_neg (by omega)
theorem kt_st_e {n m : Int32} {W D A W' D' A' : Nat → Int32} (hn : n = m) (h1 : ∀ j : Nat, (j : Int) < n.toInt → W j = W' j) (h2 : ∀ j : Nat, (j : Int) < n.toInt → D j = D' j) (h3 : ∀ j : Nat, (j : Int) < n.toInt → A j = A' j) : kt_st n W D A = kt_st m W' D' A' := by
  subst hn
  unfold kt_st
  rw [kt_tr_e h1, kt_tr_e h2, kt_tr_e h3]
theorem kt_st_i {n m : Int32} {W D A W' D' A' : Nat → Int32} (h : kt_st n W D A = kt_st m W' D' A') : n = m ∧ ∀ j : Nat, (j : Int) < n.toInt → W j = W' j ∧ D j = D' j ∧ A j = A' j := by
  unfold kt_st at h
  have hn : n = m := congrArg Prod.fst h
  subst hn
  have h1 : kt_tr n W = kt_tr n W' := congrArg (fun x => x.2.1) h
  have h2 : kt_tr n D = kt_tr n D' := congrArg (fun x => x.2.2.1) h
  have h3 : kt_tr n A = kt_tr n A' := congrArg (fun x => x.2.2.2) h
  exact ⟨rfl, fun j hj => ⟨kt_tr_i h1 j hj, kt_tr_i h2 j hj, kt_tr_i h3 j hj⟩⟩
-- joined, parted, aside
noncomputable def kt_join (i : Int32) (S : kt_S) : kt_S :=
  if i.toInt + 1 < S.1.toInt ∧ (S.2.1 i.toNatClampNeg + S.2.1 (i.toNatClampNeg + 1)).toInt ≤ 999 then
    kt_st (S.1 - 1) (fun j => if (j : Int) < i.toInt then S.2.1 j else if (j : Int) = i.toInt then S.2.1 i.toNatClampNeg + S.2.1 (i.toNatClampNeg + 1) else S.2.1 (j + 1)) (fun j => if (j : Int) ≤ i.toInt then S.2.2.1 j else S.2.2.1 (j + 1)) (fun j => if (j : Int) ≤ i.toInt then S.2.2.2 j else S.2.2.2 (j + 1))
  else S
noncomputable def kt_part (i : Int32) (S : kt_S) : kt_S :=
  if 1 < (S.2.1 i.toNatClampNeg).toInt ∧ S.1.toInt < 40 then
    kt_st (S.1 + 1) (fun j => if (j : Int) < i.toInt then S.2.1 j else if (j : Int) = i.toInt then S.2.1 i.toNatClampNeg / 2 else if (j : Int) = i.toInt + 1 then S.2.1 i.toNatClampNeg - S.2.1 i.toNatClampNeg / 2 else S.2.1 (j - 1)) (fun j => if (j : Int) ≤ i.toInt then S.2.2.1 j else S.2.2.1 (j - 1)) (fun j => if (j : Int) ≤ i.toInt then S.2.2.2 j else if (j : Int) = i.toInt + 1 then 0 else S.2.2.2 (j - 1))
  else S
noncomputable def kt_asd (i : Int32) (S : kt_S) : kt_S :=
  if 0 < i.toInt then kt_st S.1 S.2.1 S.2.2.1 (fun j => if (j : Int) = i.toInt then (if (S.2.2.2 j + 5).toInt ≤ 99 then S.2.2.2 j + 5 else 99) else S.2.2.2 j) else S
theorem kt_join_y {n i m : Int32} {W D A W' D' A' : Nat → Int32} (hi : 0 ≤ i.toInt) (h1 : i.toInt + 1 < n.toInt) (hw : (W i.toNatClampNeg + W (i.toNatClampNeg + 1)).toInt ≤ 999) (hm : m = n - 1) (hmi : m.toInt = n.toInt - 1)
    (eW : ∀ j : Nat, (j : Int) < n.toInt - 1 → W' j = (if (j : Int) < i.toInt then W j else if (j : Int) = i.toInt then W i.toNatClampNeg + W (i.toNatClampNeg + 1) else W (j + 1)))
    (eD : ∀ j : Nat, (j : Int) < n.toInt - 1 → D' j = (if (j : Int) ≤ i.toInt then D j else D (j + 1)))
    (eA : ∀ j : Nat, (j : Int) < n.toInt - 1 → A' j = (if (j : Int) ≤ i.toInt then A j else A (j + 1))) : kt_st m W' D' A' = kt_join i (kt_st n W D A) := by
  have hk : (i.toNatClampNeg : Int) = i.toInt := kk_tn hi
  have v0 : kt_tr n W i.toNatClampNeg = W i.toNatClampNeg := kt_tr_v (by omega)
  have v1 : kt_tr n W (i.toNatClampNeg + 1) = W (i.toNatClampNeg + 1) := kt_tr_v (by omega)
  show _ = if i.toInt + 1 < n.toInt ∧ (kt_tr n W i.toNatClampNeg + kt_tr n W (i.toNatClampNeg + 1)).toInt ≤ 999 then kt_st (n - 1) (fun j => if (j : Int) < i.toInt then kt_tr n W j else if (j : Int) = i.toInt then kt_tr n W i.toNatClampNeg + kt_tr n W (i.toNatClampNeg + 1) else kt_tr n W (j + 1)) (fun j => if (j : Int) ≤ i.toInt then kt_tr n D j else kt_tr n D (j + 1)) (fun j => if (j : Int) ≤ i.toInt then kt_tr n A j else kt_tr n A (j + 1)) else _
  rw [v0, v1, if_pos ⟨h1, hw⟩]
  refine kt_st_e hm (fun j hj => ?_) (fun j hj => ?_) (fun j hj => ?_)
  · rw [eW j (by omega), kt_tr_v (j := j) (by omega), kt_tr_v (j := j + 1) (by omega)]
  · rw [eD j (by omega), kt_tr_v (j := j) (by omega), kt_tr_v (j := j + 1) (by omega)]
  · rw [eA j (by omega), kt_tr_v (j := j) (by omega), kt_tr_v (j := j + 1) (by omega)]
theorem kt_join_n {n i : Int32} {W D A : Nat → Int32} (hi : 0 ≤ i.toInt) (h : n.toInt ≤ i.toInt + 1 ∨ 999 < (W i.toNatClampNeg + W (i.toNatClampNeg + 1)).toInt) : kt_st n W D A = kt_join i (kt_st n W D A) := by
  have hk : (i.toNatClampNeg : Int) = i.toInt := kk_tn hi
  refine (if_neg ?_).symm
  rintro ⟨h1, h2⟩
  have h1 : i.toInt + 1 < n.toInt := h1
  have h2 : (kt_tr n W i.toNatClampNeg + kt_tr n W (i.toNatClampNeg + 1)).toInt ≤ 999 := h2
  rw [kt_tr_v (by omega), kt_tr_v (by omega)] at h2
  omega
theorem kt_part_y {n i m : Int32} {W D A W' D' A' : Nat → Int32} (hi : 0 ≤ i.toInt) (h1 : i.toInt < n.toInt) (hw : 1 < (W i.toNatClampNeg).toInt) (hn : n.toInt < 40) (hm : m = n + 1) (hmi : m.toInt = n.toInt + 1)
    (eW : ∀ j : Nat, (j : Int) < n.toInt + 1 → W' j = (if (j : Int) < i.toInt then W j else if (j : Int) = i.toInt then W i.toNatClampNeg / 2 else if (j : Int) = i.toInt + 1 then W i.toNatClampNeg - W i.toNatClampNeg / 2 else W (j - 1)))
    (eD : ∀ j : Nat, (j : Int) < n.toInt + 1 → D' j = (if (j : Int) ≤ i.toInt then D j else D (j - 1)))
    (eA : ∀ j : Nat, (j : Int) < n.toInt + 1 → A' j = (if (j : Int) ≤ i.toInt then A j else if (j : Int) = i.toInt + 1 then 0 else A (j - 1))) : kt_st m W' D' A' = kt_part i (kt_st n W D A) := by
  have hk : (i.toNatClampNeg : Int) = i.toInt := kk_tn hi
  have v0 : kt_tr n W i.toNatClampNeg = W i.toNatClampNeg := kt_tr_v (by omega)
  show _ = if 1 < (kt_tr n W i.toNatClampNeg).toInt ∧ n.toInt < 40 then kt_st (n + 1) (fun j => if (j : Int) < i.toInt then kt_tr n W j else if (j : Int) = i.toInt then kt_tr n W i.toNatClampNeg / 2 else if (j : Int) = i.toInt + 1 then kt_tr n W i.toNatClampNeg - kt_tr n W i.toNatClampNeg / 2 else kt_tr n W (j - 1)) (fun j => if (j : Int) ≤ i.toInt then kt_tr n D j else kt_tr n D (j - 1)) (fun j => if (j : Int) ≤ i.toInt then kt_tr n A j else if (j : Int) = i.toInt + 1 then 0 else kt_tr n A (j - 1)) else _
  rw [v0, if_pos ⟨hw, hn⟩]
  refine kt_st_e hm (fun j hj => ?_) (fun j hj => ?_) (fun j hj => ?_)
  · rw [eW j (by omega)]
    show _ = if (j : Int) < i.toInt then kt_tr n W j else if (j : Int) = i.toInt then W i.toNatClampNeg / 2 else if (j : Int) = i.toInt + 1 then W i.toNatClampNeg - W i.toNatClampNeg / 2 else kt_tr n W (j - 1)
    by_cases c1 : (j : Int) < i.toInt
    · rw [if_pos c1, if_pos c1, kt_tr_v (by omega)]
    · rw [if_neg c1, if_neg c1]
      by_cases c2 : (j : Int) = i.toInt
      · rw [if_pos c2, if_pos c2]
      · rw [if_neg c2, if_neg c2]
        by_cases c3 : (j : Int) = i.toInt + 1
        · rw [if_pos c3, if_pos c3]
        · rw [if_neg c3, if_neg c3, kt_tr_v (by omega)]
  · rw [eD j (by omega)]
    show _ = if (j : Int) ≤ i.toInt then kt_tr n D j else kt_tr n D (j - 1)
    by_cases c1 : (j : Int) ≤ i.toInt
    · rw [if_pos c1, if_pos c1, kt_tr_v (by omega)]
    · rw [if_neg c1, if_neg c1, kt_tr_v (by omega)]
  · rw [eA j (by omega)]
    show _ = if (j : Int) ≤ i.toInt then kt_tr n A j else if (j : Int) = i.toInt + 1 then 0 else kt_tr n A (j - 1)
    by_cases c1 : (j : Int) ≤ i.toInt
    · rw [if_pos c1, if_pos c1, kt_tr_v (by omega)]
    · rw [if_neg c1, if_neg c1]
      by_cases c3 : (j : Int) = i.toInt + 1
      · rw [if_pos c3, if_pos c3]
      · rw [if_neg c3, if_neg c3, kt_tr_v (by omega)]
theorem kt_part_n {n i : Int32} {W D A : Nat → Int32} (hi : 0 ≤ i.toInt) (h1 : i.toInt < n.toInt) (h : (W i.toNatClampNeg).toInt ≤ 1 ∨ 40 ≤ n.toInt) : kt_st n W D A = kt_part i (kt_st n W D A) := by
  have hk : (i.toNatClampNeg : Int) = i.toInt := kk_tn hi
  refine (if_neg ?_).symm
  rintro ⟨h2, h3⟩
  have h3 : n.toInt < 40 := h3
  have h2 : 1 < (kt_tr n W i.toNatClampNeg).toInt := h2
  rw [kt_tr_v (by omega)] at h2
  omega
theorem kt_asd_y {n i v : Int32} {W D A W' D' A' : Nat → Int32} (hi : 0 < i.toInt) (h1 : i.toInt < n.toInt) (hv : ((A i.toNatClampNeg + 5).toInt ≤ 99 ∧ v.toInt = (A i.toNatClampNeg + 5).toInt) ∨ (99 < (A i.toNatClampNeg + 5).toInt ∧ v.toInt = 99))
    (eW : ∀ j : Nat, (j : Int) < n.toInt → W' j = W j) (eD : ∀ j : Nat, (j : Int) < n.toInt → D' j = D j)
    (eA : ∀ j : Nat, (j : Int) < n.toInt → A' j = (if (j : Int) = i.toInt then v else A j)) : kt_st n W' D' A' = kt_asd i (kt_st n W D A) := by
  have hk : (i.toNatClampNeg : Int) = i.toInt := kk_tn (by omega)
  show _ = if 0 < i.toInt then kt_st n (kt_tr n W) (kt_tr n D) (fun j => if (j : Int) = i.toInt then (if (kt_tr n A j + 5).toInt ≤ 99 then kt_tr n A j + 5 else 99) else kt_tr n A j) else _
  rw [if_pos hi]
  refine kt_st_e rfl (fun j hj => ?_) (fun j hj => ?_) (fun j hj => ?_)
  · rw [eW j hj, kt_tr_v hj]
  · rw [eD j hj, kt_tr_v hj]
  · rw [eA j hj]
    show _ = if (j : Int) = i.toInt then (if (kt_tr n A j + 5).toInt ≤ 99 then kt_tr n A j + 5 else 99) else kt_tr n A j
    rw [kt_tr_v hj]
    by_cases c : (j : Int) = i.toInt
    · rw [if_pos c, if_pos c]
      have ej : j = i.toNatClampNeg := by omega
      subst ej
      rcases hv with ⟨a, b⟩ | ⟨a, b⟩
      · rw [if_pos a]; exact Int32.toInt_inj.mp b
      · rw [if_neg (by omega)]; exact Int32.toInt_inj.mp b
    · rw [if_neg c, if_neg c]
theorem kt_asd_n {n i : Int32} {W D A : Nat → Int32} (hi : i.toInt ≤ 0) : kt_st n W D A = kt_asd i (kt_st n W D A) := (if_neg (by omega)).symm
-- a year: what is drawn, what the LAW is told, what becomes
noncomputable def kt_z (z : Int32) : Int32 := z * 1103515245 + 12345
noncomputable def kt_u8 (z : Int32) : Int32 := (z.toUInt32 >>> ((8 : Int32).toUInt32 &&& Int32.toUInt32 31)).toInt32
noncomputable def kt_pk (z n : Int32) : Int32 := kt_u8 z - kt_u8 z / n * n
noncomputable def kt_nm (S : kt_S) (i y d w : Int32) : Nat → Int32
  | 0 => S.2.1 i.toNatClampNeg
  | 1 => S.2.1 (i.toNatClampNeg + 1)
  | 2 => S.2.2.1 i.toNatClampNeg
  | 3 => y
  | 4 => d
  | 5 => S.2.1 i.toNatClampNeg / w
  | 6 => i
  | _ => S.1
noncomputable def kt_chg (v i : Int32) (S : kt_S) : kt_S := if v.toInt = 1 then kt_join i S else if v.toInt = 2 then kt_part i S else if v.toInt = 3 then kt_asd i S else S
noncomputable def kt_yr (V : (Nat → Int32) → Int32) (w y z : Int32) (S : kt_S) : kt_S := kt_chg (V (kt_nm S (kt_pk (kt_z z) S.1) y (kt_pk (kt_z (kt_z z)) 100) w)) (kt_pk (kt_z z) S.1) S
noncomputable def kt_run (V : (Nat → Int32) → Int32) (w : Int32) : Nat → Int32 → Int32 → kt_S → kt_S
  | 0, _, _, S => S
  | f + 1, y, z, S => kt_run V w f (y + 1) (kt_z (kt_z z)) (kt_yr V w y z S)
noncomputable def kt_lay (V : (Nat → Int32) → Int32) (n w years seed : Int32) : kt_S := kt_run V w years.toNatClampNeg 0 seed (kt_st n (fun _ => w) (fun _ => 100) (fun _ => 0))
theorem kt_run_0 {V : (Nat → Int32) → Int32} {w y z Y : Int32} {S : kt_S} (h : Y.toInt ≤ y.toInt) : kt_run V w (Y.toInt - y.toInt).toNat y z S = S := by
  rw [show (Y.toInt - y.toInt).toNat = 0 from by omega]
  rfl
theorem kt_run_s {V : (Nat → Int32) → Int32} {w y y' z z' Y : Int32} {S S' : kt_S} (h : y.toInt < Y.toInt) (hy : y' = y + 1) (hyi : y'.toInt = y.toInt + 1) (hz : z' = kt_z (kt_z z)) (hS : S' = kt_yr V w y z S) : kt_run V w (Y.toInt - y.toInt).toNat y z S = kt_run V w (Y.toInt - y'.toInt).toNat y' z' S' := by
  subst hz hS
  obtain ⟨g, hg⟩ : ∃ g : Nat, (Y.toInt - y.toInt).toNat = g + 1 := ⟨(Y.toInt - y.toInt).toNat - 1, by omega⟩
  have hg' : (Y.toInt - y'.toInt).toNat = g := by omega
  rw [hg, hg', hy]
  rfl
theorem kt_yr_e {V : (Nat → Int32) → Int32} {w y z z1 i d v : Int32} {S S' : kt_S} {nm : Nat → Int32} (hz1 : z1 = kt_z z) (hi : i = kt_pk z1 S.1) (hd : d = kt_pk (kt_z z1) 100) (hV : ∀ a b : Nat → Int32, (∀ k, k < 8 → a k = b k) → V a = V b) (hn : ∀ k, k < 8 → nm k = kt_nm S i y d w k) (hv : v = V nm) (hS : S' = kt_chg v i S) : S' = kt_yr V w y z S := by
  subst hz1 hi hd hv hS
  unfold kt_yr
  rw [hV _ _ hn]
-- what a LAW is worth hangs on eight NAMES alone
theorem kv_opr_w {c : Int → Int} {a b : Nat → Int32} (h : ∀ k, k < 8 → a k = b k) : ∀ k : Nat, kv_opr c a k = kv_opr c b k := by
  intro k
  induction k with
  | zero =>
    funext p
    show (if kr_D (c p) = true then kv_nm c 4 p 0 else a (kv_ix (c p))) = (if kr_D (c p) = true then kv_nm c 4 p 0 else b (kv_ix (c p)))
    rw [h _ (kv_ix_lt _)]
  | succ k ih =>
    funext p
    show (if kr_D (c p) = true then kv_nm c 4 p 0 else if kr_N (c p) = true then a (kv_ix (c p)) else if c p = 40 then kv_lv c (kr_opr c k) (kv_opr c a k) 5 (p + 1) else if c p = 33 then kv_no (kv_opr c a k (p + 1)) else -(kv_opr c a k (p + 1))) = (if kr_D (c p) = true then kv_nm c 4 p 0 else if kr_N (c p) = true then b (kv_ix (c p)) else if c p = 40 then kv_lv c (kr_opr c k) (kv_opr c b k) 5 (p + 1) else if c p = 33 then kv_no (kv_opr c b k (p + 1)) else -(kv_opr c b k (p + 1)))
    rw [h _ (kv_ix_lt _), ih]
theorem kv_R_w {c : Int → Int} {a b : Nat → Int32} (h : ∀ k, k < 8 → a k = b k) (l k p : Int) : kv_R c a l k p = kv_R c b l k p := by
  unfold kv_R
  rw [kv_opr_w h]
theorem kv_txt_w {c : Int → Int} {n : Int} {a b : Nat → Int32} (h : ∀ k, k < 8 → a k = b k) : ∀ (f : Nat) (p : Int), kv_txt c a n f p = kv_txt c b n f p := by
  intro f
  induction f with
  | zero => exact fun p => rfl
  | succ f ih =>
    intro p
    show (if c (kr_R c 0 0 p) = 63 then (if (kv_R c a 0 0 p).toInt = 0 then (if n ≤ kr_line c p then 0 else kv_txt c a n f (kr_line c p + 1)) else kv_R c a 0 0 (kr_R c 0 0 p + 1)) else kv_R c a 0 0 p) = (if c (kr_R c 0 0 p) = 63 then (if (kv_R c b 0 0 p).toInt = 0 then (if n ≤ kr_line c p then 0 else kv_txt c b n f (kr_line c p + 1)) else kv_R c b 0 0 (kr_R c 0 0 p + 1)) else kv_R c b 0 0 p)
    rw [kv_R_w h, kv_R_w h, ih]
theorem kv_T_w {c : Int → Int} {n f p : Int} (a b : Nat → Int32) (h : ∀ k, k < 8 → a k = b k) : kv_T c a n f p = kv_T c b n f p := kv_txt_w h _ p
theorem kg_run_w {a b : Nat → Int32} (h : ∀ k, k < 8 → a k = b k) : ∀ (L : List Int32) (q : Bool) (s : List Int32), kg_run a L q s = kg_run b L q s := by
  have hw : ∀ (x : Int32) (s : List Int32), kg_work a x s = kg_work b x s := by
    intro x s
    unfold kg_work
    by_cases c1 : 256 ≤ x.toInt
    · rw [if_pos c1, if_pos c1]
    · rw [if_neg c1, if_neg c1]
      by_cases c2 : 0 ≤ x.toInt ∧ x.toInt < 8
      · rw [if_pos c2, if_pos c2, h _ (by have := kk_tn (x := x) c2.1; omega)]
      · rw [if_neg c2, if_neg c2]
  intro L
  induction L with
  | nil => exact fun q s => rfl
  | cons x t ih =>
    intro q s
    cases q with
    | true => exact ih _ s
    | false =>
      show (if x.toInt = 59 then kg_pop s else if x.toInt = 63 then kg_run a t (decide ((kg_pop s).toInt = 0)) (kg_tl s) else kg_run a t false (kg_work a x s)) = (if x.toInt = 59 then kg_pop s else if x.toInt = 63 then kg_run b t (decide ((kg_pop s).toInt = 0)) (kg_tl s) else kg_run b t false (kg_work b x s))
      rw [ih, ih, hw]
-- lines, as the reference goes through them
theorem kv_txt_fuel {c : Int → Int} {nm : Nat → Int32} {n : Int} : ∀ (f g : Nat) (p : Int), 0 ≤ p → n - p < (f : Int) → 0 < f → n - p < (g : Int) → 0 < g → kr_txt c n f p = -1 → kv_txt c nm n f p = kv_txt c nm n g p := by
  intro f
  induction f with
  | zero => intro g p _ _ h _ _ _; omega
  | succ f ih =>
    intro g p hp h1 _ h2 hg hv
    obtain ⟨g', rfl⟩ : ∃ g' : Nat, g = g' + 1 := ⟨g - 1, by omega⟩
    have hv' : (if kr_line c p < 0 then -1 - kr_line c p else if n ≤ kr_line c p then -1 else if c (kr_line c p) = 59 then kr_txt c n f (kr_line c p + 1) else kr_line c p) = -1 := hv
    have h3 := kr_line_gt c p hp
    have hl : ¬ kr_line c p < 0 := fun c0 => by rw [if_pos c0] at hv'; omega
    rw [if_neg hl] at hv'
    show (if c (kr_R c 0 0 p) = 63 then (if (kv_R c nm 0 0 p).toInt = 0 then (if n ≤ kr_line c p then 0 else kv_txt c nm n f (kr_line c p + 1)) else kv_R c nm 0 0 (kr_R c 0 0 p + 1)) else kv_R c nm 0 0 p) = (if c (kr_R c 0 0 p) = 63 then (if (kv_R c nm 0 0 p).toInt = 0 then (if n ≤ kr_line c p then 0 else kv_txt c nm n g' (kr_line c p + 1)) else kv_R c nm 0 0 (kr_R c 0 0 p + 1)) else kv_R c nm 0 0 p)
    by_cases hn : n ≤ kr_line c p
    · rw [if_pos hn, if_pos hn]
    · rw [if_neg hn] at hv'
      by_cases h9 : c (kr_line c p) = 59
      · rw [if_pos h9] at hv'
        rw [if_neg hn, if_neg hn, ih g' (kr_line c p + 1) (by omega) (by omega) (by omega) (by omega) (by omega) hv']
      · rw [if_neg h9] at hv'
        omega
def kv_wk (c : Int → Int) (nm : Nat → Int32) (n p gi ge : Int) : Prop := kr_T c n (n + 1) 0 = -1 → (gi = 0 ∧ ge = 0 ∧ kr_T c n (n + 1) p = -1 ∧ kv_TI c nm n (n + 1) p = kv_TI c nm n (n + 1) 0) ∨ (gi = 1 ∧ ge = kv_TI c nm n (n + 1) 0)
def kv_wl (c : Int → Int) (nm : Nat → Int32) (n p e gi ge : Int) : Prop := kr_T c n (n + 1) 0 = -1 → (gi = 0 ∧ ge = 0 ∧ kr_T c n (n + 1) p = -1 ∧ kv_TI c nm n (n + 1) p = (if n ≤ e then 0 else kv_TI c nm n n (e + 1)) ∧ kv_TI c nm n (n + 1) p = kv_TI c nm n (n + 1) 0) ∨ (gi = 1 ∧ ge = kv_TI c nm n (n + 1) 0)
def kv_rs (c : Int → Int) (nm : Nat → Int32) (n r : Int) : Prop := kr_T c n (n + 1) 0 = -1 → r = kv_TI c nm n (n + 1) 0
theorem kv_wk_0 {c : Int → Int} {nm : Nat → Int32} {n : Int} : kv_wk c nm n 0 0 0 := fun h => Or.inl ⟨rfl, rfl, h, rfl⟩
theorem kv_w_C {c : Int → Int} {nm : Nat → Int32} {n p e gi ge : Int} (h : kv_wk c nm n p gi ge) (hg : gi ≠ 0) : kv_wl c nm n p e gi ge := fun hv => by
  rcases h hv with ⟨a, _⟩ | b
  · exact absurd a hg
  · exact Or.inr b
theorem kv_w_D1 {c : Int → Int} {nm : Nat → Int32} {n p e e1 gi ge v g1 : Int} (h : kv_wk c nm n p gi ge) (hn : 0 ≤ n) (hg : gi = 0) (hR : kr_R c 0 0 p = e1) (h63 : c e1 ≠ 63) (hv : kv_RI c nm 0 0 p = v) (hg1 : g1 = 1) : kv_wl c nm n p e g1 v := fun ht => by
  rcases h ht with ⟨_, _, _, b⟩ | ⟨b, _⟩
  · refine Or.inr ⟨hg1, ?_⟩
    rw [← b, kv_TI_u (by omega), hR, if_neg h63]
    exact hv.symm
  · omega
theorem kv_w_D2 {c : Int → Int} {nm : Nat → Int32} {n p p1 e e1 gi ge v1 v g1 : Int} (h : kv_wk c nm n p gi ge) (hn : 0 ≤ n) (hg : gi = 0) (hR : kr_R c 0 0 p = e1) (h63 : c e1 = 63) (hp1 : p1 = e1 + 1) (hv1 : kv_RI c nm 0 0 p = v1) (h0 : v1 ≠ 0) (hv : kv_RI c nm 0 0 p1 = v) (hg1 : g1 = 1) : kv_wl c nm n p e g1 v := fun ht => by
  subst hp1
  rcases h ht with ⟨_, _, _, b⟩ | ⟨b, _⟩
  · refine Or.inr ⟨hg1, ?_⟩
    rw [← b, kv_TI_u (by omega), hR, if_pos h63, hv1, if_neg h0]
    exact hv.symm
  · omega
theorem kv_w_B {c : Int → Int} {nm : Nat → Int32} {n p e e1 gi ge v1 : Int} (h : kv_wk c nm n p gi ge) (hn : 0 ≤ n) (hR : kr_R c 0 0 p = e1) (h63 : c e1 = 63) (hv1 : kv_RI c nm 0 0 p = v1) (h0 : v1 = 0) (hl : kr_line c p = e) : kv_wl c nm n p e gi ge := fun ht => by
  subst hl
  rcases h ht with ⟨a, a2, a3, b⟩ | b
  · refine Or.inl ⟨a, a2, a3, ?_, b⟩
    rw [kv_TI_u (by omega), hR, if_pos h63, hv1, if_pos h0, show n + 1 - 1 = n from by omega]
  · exact Or.inr b
theorem kv_w_on {c : Int → Int} {nm : Nat → Int32} {n p p' e gi ge : Int} (h : kv_wl c nm n p e gi ge) (hc : ∀ p, n ≤ p → c p = 0) (hn : 0 ≤ n) (hp : 0 ≤ p) (hl : kr_line c p = e) (h0 : 0 ≤ e) (h59 : c e = 59) (hp' : p' = e + 1) : kv_wk c nm n p' gi ge := fun ht => by
  rcases h ht with ⟨a, a2, a3, a4, b⟩ | b
  · refine Or.inl ⟨a, a2, ?_, ?_⟩
    · rw [← kr_T_S hc hn hp hl h0 h59 hp']
      exact a3
    · have hlt : e < n := by
        rcases Int.lt_or_le e n with h | h
        · exact h
        · rw [hc e h] at h59; cases h59
      have hg := kr_line_gt c p hp
      have h9 : kr_T c n n (e + 1) = -1 := by
        rw [kr_T_s (by omega) hl h0 hlt h59 rfl rfl, show n + 1 - 1 = n from by omega] at a3
        exact a3
      rw [← b, a4, if_neg (by omega), hp']
      unfold kv_TI kv_T
      rw [kv_txt_fuel (n.toNat) ((n + 1).toNat) (e + 1) (by omega) (by omega) (by omega) (by omega) (by omega) h9]
  · exact Or.inr b
theorem kv_w_end {c : Int → Int} {nm : Nat → Int32} {n p e gi ge : Int} (h : kv_wl c nm n p e gi ge) (he : n ≤ e) : kv_rs c nm n ge := fun ht => by
  rcases h ht with ⟨_, a2, _, a4, b⟩ | ⟨_, b⟩
  · rw [if_pos he] at a4
    omega
  · exact b
theorem kv_w_f {c : Int → Int} {nm : Nat → Int32} {n r x : Int} (h : kr_T c n (n + 1) 0 = x) (h0 : x ≠ -1) : kv_rs c nm n r := fun ht => absurd (h.symm.trans ht) h0
-- the class works off what it wrote down: operands as a list, signs from a place on
noncomputable def kg_sT (f : Nat → Int32) (n : Int) : List Int32 := kg_st f n.toNat
noncomputable def kv_q (v w : Int32) : Int32 := if w = 0 then 0 else v / w
theorem kg_pu1 {f : Nat → Int32} {n x : Int32} {m : Int} (h0 : 0 ≤ n.toInt) (h1 : n.toInt < 64) (hm : m = n.toInt + 1) : kg_sT (upd f n.toNatClampNeg x) m = kg_push x (kg_sT f n.toInt) := by
  subst hm
  unfold kg_sT
  have e : n.toNatClampNeg = n.toInt.toNat := rfl
  rw [e, show (n.toInt + 1).toNat = n.toInt.toNat + 1 from by omega, kg_st_push]
  unfold kg_push
  rw [if_pos (by rw [kg_st_len]; omega)]
theorem kg_pu2 {f : Nat → Int32} {n : Int} {x : Int32} (h1 : 64 ≤ n) : kg_sT f n = kg_push x (kg_sT f n) := by
  unfold kg_push kg_sT
  rw [if_neg (by rw [kg_st_len]; omega)]
theorem kg_po1 {f : Nat → Int32} {y : Int32} {n : Int} (h0 : 0 < n) (hy : y.toInt = n - 1) : (f y.toNatClampNeg).toInt = (kg_pop (kg_sT f n)).toInt := by
  unfold kg_sT
  have e : y.toNatClampNeg = y.toInt.toNat := rfl
  obtain ⟨g, hg⟩ : ∃ g : Nat, n.toNat = g + 1 := ⟨n.toNat - 1, by omega⟩
  rw [hg, e, show y.toInt.toNat = g from by omega]
  rfl
theorem kg_po2 {f : Nat → Int32} {n : Int} (h0 : n ≤ 0) : (0 : Int) = (kg_pop (kg_sT f n)).toInt := by
  unfold kg_sT
  rw [show n.toNat = 0 from by omega]
  rfl
theorem kg_tl1 {f : Nat → Int32} {n m : Int} (h0 : 0 < n) (hm : m = n - 1) : kg_sT f m = kg_tl (kg_sT f n) := by
  subst hm
  unfold kg_sT
  obtain ⟨g, hg⟩ : ∃ g : Nat, n.toNat = g + 1 := ⟨n.toNat - 1, by omega⟩
  rw [hg, show (n - 1).toNat = g from by omega]
  rfl
theorem kg_tl2 {f : Nat → Int32} {n : Int} (h0 : n ≤ 0) : kg_sT f n = kg_tl (kg_sT f n) := by
  unfold kg_sT
  rw [show n.toNat = 0 from by omega]
  rfl
-- join
theorem kv_qt0 {v w : Int32} (h : w.toInt = 0) : (0 : Int) = (kv_q v w).toInt := by
  have e : w = 0 := Int32.toInt_inj.mp h
  subst e
  rfl
theorem kv_qt1 {v w : Int32} (h : w.toInt ≠ 0) : (v / w).toInt = (kv_q v w).toInt := by
  unfold kv_q
  rw [if_neg (fun e => h (by rw [e]; rfl))]
theorem kv_jq {x : Int} {v w : Int32} {r : Int} (hx : x = 47) (h : r = (kv_q v w).toInt) : r = (kv_jn x v w).toInt := by
  rw [h]
  by_cases c : w.toInt = 0
  · rw [kv_dv0 (Or.inl hx) c]
    exact (kv_qt0 c).symm
  · rw [kv_dv hx c]
    exact (kv_qt1 c).symm
theorem kv_jdf {x : Int} {v w : Int32} (h : x ≠ 124 ∧ x ≠ 38 ∧ x ≠ 60 ∧ x ≠ 61 ∧ x ≠ 62 ∧ x ≠ 43 ∧ x ≠ 45 ∧ x ≠ 42 ∧ x ≠ 47 ∧ x ≠ 37) : (0 : Int) = (kv_jn x v w).toInt := by
  unfold kv_jn
  rw [if_neg h.1, if_neg h.2.1, if_neg h.2.2.1, if_neg h.2.2.2.1, if_neg h.2.2.2.2.1, if_neg h.2.2.2.2.2.1, if_neg h.2.2.2.2.2.2.1, if_neg h.2.2.2.2.2.2.2.1, if_neg h.2.2.2.2.2.2.2.2.1, if_neg h.2.2.2.2.2.2.2.2.2]
  by_cases c : w = 0
  · rw [if_pos c]; rfl
  · rw [if_neg c]; rfl
-- a sign
theorem kg_w1 {nm : Nat → Int32} {x y : Int32} {S S2 : List Int32} (h : 256 ≤ x.toInt) (hy : y.toInt = x.toInt - 256) (h2 : S2 = kg_push y S) : S2 = kg_work nm x S := by
  have e : x - 256 = y := Int32.toInt_inj.mp (by
    have := kk_rng x
    have := kk_sub2 (x := x) (y := 256) (b := 256) rfl rfl (by omega) (by omega)
    omega)
  subst h2
  unfold kg_work
  rw [if_pos h, e]
theorem kg_w2 {nm : Nat → Int32} {x : Int32} {S S2 : List Int32} (h0 : 0 ≤ x.toInt) (h1 : x.toInt < 8) (h2 : S2 = kg_push (nm x.toNatClampNeg) S) : S2 = kg_work nm x S := by
  subst h2
  unfold kg_work
  rw [if_neg (by omega), if_pos ⟨h0, h1⟩]
theorem kg_w3 {nm : Nat → Int32} {x t : Int32} {r : Int} {S S1 S2 : List Int32} (h : x.toInt = 33) (hr : r = (kg_pop S).toInt) (ht : (r = 0 ∧ t.toInt = 1) ∨ (r ≠ 0 ∧ t.toInt = 0)) (h1 : S1 = kg_tl S) (h2 : S2 = kg_push t S1) : S2 = kg_work nm x S := by
  subst h2 h1
  unfold kg_work
  rw [if_neg (by omega), if_neg (by omega), if_pos h]
  have e : t = kv_no (kg_pop S) := Int32.toInt_inj.mp (by
    rcases ht with ⟨a, b⟩ | ⟨a, b⟩
    · rw [kv_no1 (by omega)]; exact b
    · rw [kv_no0 (by omega)]; exact b)
  rw [e]
theorem kg_w4 {nm : Nat → Int32} {x y : Int32} {S S1 S2 : List Int32} (h : x.toInt = 126) (hr : y.toInt = (kg_pop S).toInt) (h1 : S1 = kg_tl S) (h2 : S2 = kg_push (-y) S1) : S2 = kg_work nm x S := by
  subst h2 h1
  unfold kg_work
  rw [if_neg (by omega), if_neg (by omega), if_neg (by omega), if_pos h, Int32.toInt_inj.mp hr]
theorem kg_w5 {nm : Nat → Int32} {x y z j : Int32} {S S1 S2 S3 : List Int32} (h : x.toInt < 256 ∧ ¬ (0 ≤ x.toInt ∧ x.toInt < 8) ∧ x.toInt ≠ 33 ∧ x.toInt ≠ 126) (hr : y.toInt = (kg_pop S).toInt) (h1 : S1 = kg_tl S) (hz : z.toInt = (kg_pop S1).toInt) (h2 : S2 = kg_tl S1) (hj : j.toInt = (kv_jn x.toInt z y).toInt) (h3 : S3 = kg_push j S2) : S3 = kg_work nm x S := by
  subst h3 h2 h1
  unfold kg_work
  rw [if_neg (by omega), if_neg h.2.1, if_neg h.2.2.1, if_neg h.2.2.2, Int32.toInt_inj.mp hj, Int32.toInt_inj.mp hr, Int32.toInt_inj.mp hz]
-- all of them
noncomputable def kg_dl (f : Nat → Int32) : Nat → Nat → List Int32
  | _, 0 => []
  | a, m + 1 => f a :: kg_dl f (a + 1) m
noncomputable def kg_dI (f : Nat → Int32) (a m : Int) : List Int32 := kg_dl f a.toNat m.toNat
theorem kg_dl_s (f : Nat → Int32) : ∀ (m a : Nat), kg_dl f a (m + 1) = kg_dl f a m ++ [f (a + m)] := by
  intro m
  induction m with
  | zero => exact fun a => rfl
  | succ m ih =>
    intro a
    show f a :: kg_dl f (a + 1) (m + 1) = f a :: (kg_dl f (a + 1) m ++ [f (a + (m + 1))])
    rw [ih (a + 1), show a + 1 + m = a + (m + 1) from by omega]
theorem kg_dl_sl (f : Nat → Int32) : ∀ m : Nat, kg_dl f 0 m = kg_sl f m := by
  intro m
  induction m with
  | zero => rfl
  | succ m ih =>
    rw [kg_dl_s, ih, show 0 + m = m from by omega]
    rfl
theorem kg_dI_s {f : Nat → Int32} {a : Int32} {n a' : Int} (h0 : 0 ≤ a.toInt) (h1 : a.toInt < n) (ha : a' = a.toInt + 1) : kg_dI f a.toInt (n - a.toInt) = f a.toNatClampNeg :: kg_dI f a' (n - a') := by
  subst ha
  unfold kg_dI
  obtain ⟨g, hg⟩ : ∃ g : Nat, (n - a.toInt).toNat = g + 1 := ⟨(n - a.toInt).toNat - 1, by omega⟩
  rw [hg, show (n - (a.toInt + 1)).toNat = g from by omega, show (a.toInt + 1).toNat = a.toInt.toNat + 1 from by omega]
  rfl
theorem kg_g0 {nm f g : Nat → Int32} {n : Int} : kg_run nm (kg_dI f (0 : Int) (n - (0 : Int))) (decide ((0 : Int) ≠ 0)) (kg_sT g (0 : Int)) = kg_run nm (kg_sI f n) false [] := by
  unfold kg_dI kg_sI
  rw [Int.sub_zero, show (0 : Int).toNat = 0 from rfl, kg_dl_sl]
  rfl
theorem kg_gp {nm f : Nat → Int32} {a : Int32} {n a' p p' : Int} {S : List Int32} {X : Int32} (hi : kg_run nm (kg_dI f a.toInt (n - a.toInt)) (decide (p ≠ 0)) S = X) (h0 : 0 ≤ a.toInt) (h1 : a.toInt < n) (ha : a' = a.toInt + 1) (hp : p ≠ 0) (hp' : (p' = 1 ∧ (f a.toNatClampNeg).toInt ≠ 59) ∨ (p' = 0 ∧ (f a.toNatClampNeg).toInt = 59)) : kg_run nm (kg_dI f a' (n - a')) (decide (p' ≠ 0)) S = X := by
  rw [kg_dI_s h0 h1 ha, decide_eq_true hp] at hi
  have hi : kg_run nm (kg_dI f a' (n - a')) (decide ((f a.toNatClampNeg).toInt ≠ 59)) S = X := hi
  rcases hp' with ⟨h, h9⟩ | ⟨h, h9⟩
  · rw [decide_eq_true h9] at hi
    rw [decide_eq_true (by omega)]
    exact hi
  · rw [decide_eq_false (fun q => q h9)] at hi
    rw [decide_eq_false (by omega)]
    exact hi
theorem kg_gi {nm f : Nat → Int32} {a : Int32} {n a' p p' r : Int} {S S1 : List Int32} {X : Int32} (hi : kg_run nm (kg_dI f a.toInt (n - a.toInt)) (decide (p ≠ 0)) S = X) (h0 : 0 ≤ a.toInt) (h1 : a.toInt < n) (ha : a' = a.toInt + 1) (hp : p = 0) (hx : (f a.toNatClampNeg).toInt = 63) (hr : r = (kg_pop S).toInt) (hS : S1 = kg_tl S) (hp' : (p' = 1 ∧ r = 0) ∨ (p' = 0 ∧ r ≠ 0)) : kg_run nm (kg_dI f a' (n - a')) (decide (p' ≠ 0)) S1 = X := by
  subst hr hS
  rw [kg_dI_s h0 h1 ha, decide_eq_false (by omega)] at hi
  have hi : (if (f a.toNatClampNeg).toInt = 59 then kg_pop S else if (f a.toNatClampNeg).toInt = 63 then kg_run nm (kg_dI f a' (n - a')) (decide ((kg_pop S).toInt = 0)) (kg_tl S) else kg_run nm (kg_dI f a' (n - a')) false (kg_work nm (f a.toNatClampNeg) S)) = X := hi
  rw [if_neg (by omega), if_pos hx] at hi
  rcases hp' with ⟨h, h9⟩ | ⟨h, h9⟩
  · rw [decide_eq_true h9] at hi
    rw [decide_eq_true (by omega)]
    exact hi
  · rw [decide_eq_false h9] at hi
    rw [decide_eq_false (by omega)]
    exact hi
theorem kg_gw {nm f : Nat → Int32} {a : Int32} {n a' p p' : Int} {S S1 : List Int32} {X : Int32} (hi : kg_run nm (kg_dI f a.toInt (n - a.toInt)) (decide (p ≠ 0)) S = X) (h0 : 0 ≤ a.toInt) (h1 : a.toInt < n) (ha : a' = a.toInt + 1) (hp : p = 0) (hx : (f a.toNatClampNeg).toInt ≠ 59) (hx2 : (f a.toNatClampNeg).toInt ≠ 63) (hS : S1 = kg_work nm (f a.toNatClampNeg) S) (hp' : p' = 0) : kg_run nm (kg_dI f a' (n - a')) (decide (p' ≠ 0)) S1 = X := by
  subst hS
  rw [kg_dI_s h0 h1 ha, decide_eq_false (by omega), kg_step hx hx2] at hi
  rw [decide_eq_false (by omega)]
  exact hi
theorem kg_ge {nm f : Nat → Int32} {a : Int32} {n p r : Int} {S : List Int32} {X : Int32} (hi : kg_run nm (kg_dI f a.toInt (n - a.toInt)) (decide (p ≠ 0)) S = X) (h0 : 0 ≤ a.toInt) (h1 : a.toInt < n) (hp : p = 0) (hx : (f a.toNatClampNeg).toInt = 59) (hr : r = (kg_pop S).toInt) : r = X.toInt := by
  subst hr
  rw [kg_dI_s h0 h1 rfl, decide_eq_false (by omega)] at hi
  have hi : (if (f a.toNatClampNeg).toInt = 59 then kg_pop S else _) = X := hi
  rw [if_pos hx] at hi
  rw [hi]
theorem kg_gn {nm f : Nat → Int32} {a n p : Int} {S : List Int32} {X : Int32} (hi : kg_run nm (kg_dI f a (n - a)) (decide (p ≠ 0)) S = X) (h1 : n ≤ a) : (0 : Int) = X.toInt := by
  have e : kg_dI f a (n - a) = [] := by
    unfold kg_dI
    rw [show (n - a).toNat = 0 from by omega]
    rfl
  rw [e] at hi
  rw [← hi]
  cases decide (p ≠ 0) <;> rfl
-- rows of PLOTS in arrays: put in, taken out
def kt_upw (f g : Nat → Int32) (p n : Int) : Prop := ∀ j : Nat, (j : Int) ≤ n → f j = (if p < (j : Int) then g (j - 1) else g j)
def kt_dnw (f g : Nat → Int32) (q p : Int) : Prop := ∀ j : Nat, f j = (if q ≤ (j : Int) ∧ (j : Int) + 1 < p then g (j + 1) else g j)
def kt_in (g f : Nat → Int32) (p n : Int) (x : Int32) : Prop := ∀ j : Nat, (j : Int) ≤ n → f j = (if (j : Int) < p then g j else if (j : Int) = p then x else g (j - 1))
def kt_rm (g f : Nat → Int32) (q n : Int) : Prop := ∀ j : Nat, (j : Int) < n - 1 → f j = (if (j : Int) < q then g j else g (j + 1))
def kt_all (f : Nat → Int32) (n : Int) (x : Int32) : Prop := ∀ j : Nat, (j : Int) < n → f j = x
theorem kt_upw_0 {f : Nat → Int32} {n : Int} : kt_upw f f n n := fun j hj => (if_neg (by omega)).symm
theorem kt_upw_s {f g : Nat → Int32} {p q : Int32} {p' n : Int} (h : kt_upw f g p.toInt n) (h0 : 0 < p.toInt) (hn : p.toInt ≤ n) (hq : q.toInt = p.toInt - 1) (hp : p' = p.toInt - 1) : kt_upw (upd f p.toNatClampNeg (f q.toNatClampNeg)) g p' n := by
  subst hp
  intro j hj
  have e1 : (p.toNatClampNeg : Int) = p.toInt := kk_tn (by omega)
  have e2 : (q.toNatClampNeg : Int) = q.toInt := kk_tn (by omega)
  unfold upd
  by_cases c : j = p.toNatClampNeg
  · rw [if_pos c, h _ (by omega), if_neg (by omega), if_pos (by omega), show q.toNatClampNeg = j - 1 from by omega]
  · rw [if_neg c, h j hj]
    by_cases c2 : p.toInt < (j : Int)
    · rw [if_pos c2, if_pos (by omega)]
    · rw [if_neg c2, if_neg (by omega)]
theorem kt_in_e {f g : Nat → Int32} {p x : Int32} {n q : Int} (h : kt_upw f g q n) (h0 : 0 ≤ p.toInt) (hq : q = p.toInt) : kt_in g (upd f p.toNatClampNeg x) p.toInt n x := by
  subst hq
  intro j hj
  have e1 : (p.toNatClampNeg : Int) = p.toInt := kk_tn h0
  unfold upd
  by_cases c : j = p.toNatClampNeg
  · rw [if_pos c, if_neg (by omega), if_pos (by omega)]
  · rw [if_neg c, h j hj]
    by_cases c2 : p.toInt < (j : Int)
    · rw [if_pos c2, if_neg (by omega), if_neg (by omega)]
    · rw [if_neg c2, if_pos (by omega)]
theorem kt_dnw_0 {f : Nat → Int32} {q p : Int} (h : p = q + 1) : kt_dnw f f q p := fun j => (if_neg (by omega)).symm
theorem kt_dnw_s {f g : Nat → Int32} {p r : Int32} {q p' : Int} (h : kt_dnw f g q p.toInt) (h0 : 0 ≤ q) (h1 : q < p.toInt) (hr : r.toInt = p.toInt - 1) (hp : p' = p.toInt + 1) : kt_dnw (upd f r.toNatClampNeg (f p.toNatClampNeg)) g q p' := by
  subst hp
  intro j
  have e1 : (p.toNatClampNeg : Int) = p.toInt := kk_tn (by omega)
  have e2 : (r.toNatClampNeg : Int) = r.toInt := kk_tn (by omega)
  unfold upd
  by_cases c : j = r.toNatClampNeg
  · rw [if_pos c, h _, if_neg (by omega), if_pos (by omega), show p.toNatClampNeg = j + 1 from by omega]
  · rw [if_neg c, h j]
    by_cases c2 : q ≤ (j : Int) ∧ (j : Int) + 1 < p.toInt
    · rw [if_pos c2, if_pos (by omega)]
    · rw [if_neg c2, if_neg (by omega)]
theorem kt_rm_e {f g : Nat → Int32} {q p n : Int} (h : kt_dnw f g q p) (hp : n ≤ p) : kt_rm g f q n := by
  intro j hj
  rw [h j]
  by_cases c : (j : Int) < q
  · rw [if_pos c, if_neg (by omega)]
  · rw [if_neg c, if_pos (by omega)]
theorem kt_all_0 {f : Nat → Int32} {x : Int32} {n : Int} (h : n ≤ 0) : kt_all f n x := fun j hj => absurd hj (by omega)
theorem kt_all_s {g f : Nat → Int32} {p n n' : Int} {x : Int32} (h : kt_all g n x) (h1 : kt_in g f p n x) (hp : p = n) (hn : n' = n + 1) : kt_all f n' x := by
  subst hp hn
  intro j hj
  rw [h1 j (by omega)]
  by_cases c : (j : Int) < p
  · rw [if_pos c, h j c]
  · rw [if_neg c, if_pos (by omega)]
theorem kt_all_e {n m x y z : Int32} {W D A : Nat → Int32} (hn : n = m) (h1 : kt_all W n.toInt x) (h2 : kt_all D n.toInt y) (h3 : kt_all A n.toInt z) : kt_st n W D A = kt_st m (fun _ => x) (fun _ => y) (fun _ => z) := kt_st_e hn h1 h2 h3
-- join, part, stepAside of the class
theorem kt_cl_n {x : Int32} (h0 : 0 ≤ x.toInt) {y : Int32} (hy : y.toInt = x.toInt + 1) : y.toNatClampNeg = x.toNatClampNeg + 1 := by
  have := kk_tn (x := x) h0
  have := kk_tn (x := y) (by omega)
  omega
theorem kt_join_c {n i q m a b : Int32} {W D A W1 W' D' A' : Nat → Int32} (hi : 0 ≤ i.toInt) (h1 : i.toInt + 1 < n.toInt) (hq : q.toInt = i.toInt + 1) (ha : a.toInt = (W i.toNatClampNeg).toInt) (hb : b.toInt = (W q.toNatClampNeg).toInt) (hw : (a + b).toInt ≤ 999) (hm : m = n - 1) (hmi : m.toInt = n.toInt - 1) (e1 : W1 = upd W i.toNatClampNeg (a + b)) (rW : kt_rm W1 W' q.toInt n.toInt) (rD : kt_rm D D' q.toInt n.toInt) (rA : kt_rm A A' q.toInt n.toInt) : kt_st m W' D' A' = kt_join i (kt_st n W D A) := by
  have eq : q.toNatClampNeg = i.toNatClampNeg + 1 := kt_cl_n hi hq
  have ei : (i.toNatClampNeg : Int) = i.toInt := kk_tn hi
  rw [eq] at hb
  have ha := Int32.toInt_inj.mp ha
  have hb := Int32.toInt_inj.mp hb
  subst ha hb e1
  refine kt_join_y hi h1 hw hm hmi (fun j hj => ?_) (fun j hj => ?_) (fun j hj => ?_)
  · rw [rW j hj]
    unfold upd
    by_cases c1 : (j : Int) < i.toInt
    · rw [if_pos c1, if_pos (by omega), if_neg (by omega)]
    · rw [if_neg c1]
      by_cases c2 : (j : Int) = i.toInt
      · rw [if_pos c2, if_pos (by omega), if_pos (by omega)]
      · rw [if_neg c2, if_neg (by omega), if_neg (by omega)]
  · rw [rD j hj]
    by_cases c1 : (j : Int) ≤ i.toInt
    · rw [if_pos c1, if_pos (by omega)]
    · rw [if_neg c1, if_neg (by omega)]
  · rw [rA j hj]
    by_cases c1 : (j : Int) ≤ i.toInt
    · rw [if_pos c1, if_pos (by omega)]
    · rw [if_neg c1, if_neg (by omega)]
theorem kt_join_n2 {n i q a b : Int32} {W D A : Nat → Int32} (hi : 0 ≤ i.toInt) (h1 : i.toInt < n.toInt) (hq : q.toInt = i.toInt + 1) (ha : a.toInt = (W i.toNatClampNeg).toInt) (hb : n.toInt ≤ q.toInt ∨ (b.toInt = (W q.toNatClampNeg).toInt ∧ 999 < (a + b).toInt)) : kt_st n W D A = kt_join i (kt_st n W D A) := by
  refine kt_join_n hi ?_
  rcases hb with hb | ⟨hb, hw⟩
  · exact Or.inl (by omega)
  · rw [kt_cl_n hi hq] at hb
    have ha := Int32.toInt_inj.mp ha
    have hb := Int32.toInt_inj.mp hb
    rw [ha, hb] at hw
    exact Or.inr hw
theorem kt_part_c {n i q m h d x a z : Int32} {W D A W1 W' D' A' : Nat → Int32} (hi : 0 ≤ i.toInt) (h1 : i.toInt < n.toInt) (ha : a.toInt = (W i.toNatClampNeg).toInt) (hw : 1 < a.toInt) (hn : n.toInt < 40) (hq : q.toInt = i.toInt + 1) (hm : m = n + 1) (hmi : m.toInt = n.toInt + 1) (hh : h = a / 2) (hx : x = a - a / 2) (hd : d.toInt = (D i.toNatClampNeg).toInt) (hz : z = 0) (e1 : W1 = upd W i.toNatClampNeg h) (rW : kt_in W1 W' q.toInt n.toInt x) (rD : kt_in D D' q.toInt n.toInt d) (rA : kt_in A A' q.toInt n.toInt z) : kt_st m W' D' A' = kt_part i (kt_st n W D A) := by
  have eq : q.toNatClampNeg = i.toNatClampNeg + 1 := kt_cl_n hi hq
  have ei : (i.toNatClampNeg : Int) = i.toInt := kk_tn hi
  have ha := Int32.toInt_inj.mp ha
  have hd := Int32.toInt_inj.mp hd
  subst ha
  subst hh hx hd hz e1
  refine kt_part_y hi h1 hw hn hm hmi (fun j hj => ?_) (fun j hj => ?_) (fun j hj => ?_)
  · rw [rW j (by omega)]
    unfold upd
    by_cases c1 : (j : Int) < i.toInt
    · rw [if_pos c1, if_pos (by omega), if_neg (by omega)]
    · rw [if_neg c1]
      by_cases c2 : (j : Int) = i.toInt
      · rw [if_pos c2, if_pos (by omega), if_pos (by omega)]
      · rw [if_neg c2, if_neg (by omega)]
        by_cases c3 : (j : Int) = i.toInt + 1
        · rw [if_pos c3, if_pos (by omega)]
        · rw [if_neg c3, if_neg (by omega), if_neg (by omega)]
  · rw [rD j (by omega)]
    by_cases c1 : (j : Int) ≤ i.toInt
    · rw [if_pos c1, if_pos (by omega)]
    · rw [if_neg c1, if_neg (by omega)]
      by_cases c3 : (j : Int) = i.toInt + 1
      · rw [if_pos (by omega), show j - 1 = i.toNatClampNeg from by omega]
      · rw [if_neg (by omega)]
  · rw [rA j (by omega)]
    by_cases c1 : (j : Int) ≤ i.toInt
    · rw [if_pos c1, if_pos (by omega)]
    · rw [if_neg c1, if_neg (by omega)]
      by_cases c3 : (j : Int) = i.toInt + 1
      · rw [if_pos (by omega), if_pos (by omega)]
      · rw [if_neg (by omega), if_neg (by omega)]
theorem kt_part_n2 {n i a : Int32} {W D A : Nat → Int32} (hi : 0 ≤ i.toInt) (h1 : i.toInt < n.toInt) (ha : a.toInt = (W i.toNatClampNeg).toInt) (h : a.toInt ≤ 1 ∨ 40 ≤ n.toInt) : kt_st n W D A = kt_part i (kt_st n W D A) := kt_part_n hi h1 (by omega)
theorem kt_asd_c {n i v a : Int32} {W D A A' : Nat → Int32} (hi : 0 < i.toInt) (h1 : i.toInt < n.toInt) (ha : a.toInt = (A i.toNatClampNeg).toInt) (hv : ((a + 5).toInt ≤ 99 ∧ v.toInt = (a + 5).toInt) ∨ (99 < (a + 5).toInt ∧ v.toInt = 99)) (e1 : A' = upd A i.toNatClampNeg v) : kt_st n W D A' = kt_asd i (kt_st n W D A) := by
  have ei : (i.toNatClampNeg : Int) = i.toInt := kk_tn (by omega)
  have ha := Int32.toInt_inj.mp ha
  rw [ha] at hv
  subst e1
  refine kt_asd_y hi h1 hv (fun j hj => rfl) (fun j hj => rfl) (fun j hj => ?_)
  unfold upd
  by_cases c : (j : Int) = i.toInt
  · rw [if_pos c, if_pos (by omega)]
  · rw [if_neg c, if_neg (by omega)]
theorem kt_chg1 {v i : Int32} {S S' : kt_S} (h : v.toInt = 1) (e : S' = kt_join i S) : S' = kt_chg v i S := by
  rw [e]; exact (if_pos h).symm
theorem kt_chg2 {v i : Int32} {S S' : kt_S} (h : v.toInt = 2) (e : S' = kt_part i S) : S' = kt_chg v i S := by
  rw [e]; unfold kt_chg; rw [if_neg (by omega), if_pos h]
theorem kt_chg3 {v i : Int32} {S S' : kt_S} (h : v.toInt = 3) (e : S' = kt_asd i S) : S' = kt_chg v i S := by
  rw [e]; unfold kt_chg; rw [if_neg (by omega), if_neg (by omega), if_pos h]
theorem kt_chg0 {v i : Int32} {S : kt_S} (h : v.toInt ≠ 1 ∧ v.toInt ≠ 2 ∧ v.toInt ≠ 3) : S = kt_chg v i S := by
  unfold kt_chg; rw [if_neg h.1, if_neg h.2.1, if_neg h.2.2]
-- what the LAW is told
def kt_kn (f : Nat → Int32) (S : kt_S) (i y d w : Int32) : Prop := ∀ k, k < 8 → f k = kt_nm S i y d w k
theorem kt_kn_e {f : Nat → Int32} {n i y d w a0 a1 a2 a5 : Int32} {W D A : Nat → Int32} {q : Int32} (hi : 0 ≤ i.toInt) (h1 : i.toInt < n.toInt) (hq : q.toInt = i.toInt + 1) (h0 : a0.toInt = (W i.toNatClampNeg).toInt) (hb : (q.toInt < n.toInt ∧ a1.toInt = (W q.toNatClampNeg).toInt) ∨ (n.toInt ≤ q.toInt ∧ a1.toInt = 0)) (h2 : a2.toInt = (D i.toNatClampNeg).toInt) (hw : w.toInt ≠ 0) (h5 : a5.toInt = (kv_q (W i.toNatClampNeg) w).toInt)
    (hf : f 0 = a0 ∧ f 1 = a1 ∧ f 2 = a2 ∧ f 3 = y ∧ f 4 = d ∧ f 5 = a5 ∧ f 6 = i ∧ f 7 = n) : kt_kn f (kt_st n W D A) i y d w := by
  have eq : q.toNatClampNeg = i.toNatClampNeg + 1 := kt_cl_n hi hq
  have ei : (i.toNatClampNeg : Int) = i.toInt := kk_tn hi
  obtain ⟨f0, f1, f2, f3, f4, f5, f6, f7⟩ := hf
  intro k hk
  rcases (show k = 0 ∨ k = 1 ∨ k = 2 ∨ k = 3 ∨ k = 4 ∨ k = 5 ∨ k = 6 ∨ k = 7 from by omega) with rfl | rfl | rfl | rfl | rfl | rfl | rfl | rfl
  · rw [f0]
    show a0 = kt_tr n W i.toNatClampNeg
    rw [kt_tr_v (by omega)]
    exact Int32.toInt_inj.mp h0
  · rw [f1]
    show a1 = kt_tr n W (i.toNatClampNeg + 1)
    rcases hb with ⟨c, e⟩ | ⟨c, e⟩
    · rw [kt_tr_v (by omega), ← eq]
      exact Int32.toInt_inj.mp e
    · rw [kt_tr_0 (by omega)]
      exact Int32.toInt_inj.mp e
  · rw [f2]
    show a2 = kt_tr n D i.toNatClampNeg
    rw [kt_tr_v (by omega)]
    exact Int32.toInt_inj.mp h2
  · exact f3
  · exact f4
  · rw [f5]
    show a5 = kt_tr n W i.toNatClampNeg / w
    rw [kt_tr_v (by omega)]
    have e : kv_q (W i.toNatClampNeg) w = W i.toNatClampNeg / w := if_neg (fun e => hw (by rw [e]; rfl))
    rw [← e]
    exact Int32.toInt_inj.mp h5
  · exact f6
  · exact f7
theorem kt_i1 {n m : Int32} (h : m.toInt = (n - 1).toInt) : m = n - 1 := Int32.toInt_inj.mp h
theorem kt_i2 {n m : Int32} (h : m.toInt = (n + 1).toInt) : m = n + 1 := Int32.toInt_inj.mp h
theorem kt_lay_i {V : (Nat → Int32) → Int32} {n w Y z : Int32} {S : kt_S} (h : S = kt_st n (fun _ => w) (fun _ => 100) (fun _ => 0)) : kt_run V w (Y.toInt - (0 : Int)).toNat (0 : Int32) z S = kt_lay V n w Y z := by
  unfold kt_lay
  rw [h, Int.sub_zero]
  exact congrArg (fun q : Nat => kt_run V w q 0 z (kt_st n (fun _ => w) (fun _ => 100) (fun _ => 0))) (rfl : Y.toInt.toNat = Y.toNatClampNeg)
theorem kv_rs_g {c : Int → Int} {nm : Nat → Int32} {n : Int} {r : Int32} (h : kv_rs c nm n r.toInt) (e : kr_T c n (n + 1) 0 = -1) : r = kv_T c nm n (n + 1) 0 := Int32.toInt_inj.mp (h e)
-- the reference's PLOTS: one array, WIDTHS from 0, DEPTHS from 280, ASIDES from 560 on, 40 a STREET
noncomputable def kt_w (m : Nat → Int32) (t : Int) : Nat → Int32 := fun j => m (40 * t.toNat + j)
noncomputable def kt_d (m : Nat → Int32) (t : Int) : Nat → Int32 := fun j => m (280 + 40 * t.toNat + j)
noncomputable def kt_a (m : Nat → Int32) (t : Int) : Nat → Int32 := fun j => m (560 + 40 * t.toNat + j)
def kt_set (m m' : Nat → Int32) (s i : Int) (w d a : Int32) : Prop := ∀ t : Int, 0 ≤ t → t < 7 → ∀ j : Nat, j < 40 → kt_w m' t j = (if t = s ∧ (j : Int) = i then w else kt_w m t j) ∧ kt_d m' t j = (if t = s ∧ (j : Int) = i then d else kt_d m t j) ∧ kt_a m' t j = (if t = s ∧ (j : Int) = i then a else kt_a m t j)
def kt_oth (m m' : Nat → Int32) (s : Int) : Prop := ∀ t : Int, 0 ≤ t → t < 7 → t ≠ s → ∀ j : Nat, j < 40 → kt_w m' t j = kt_w m t j ∧ kt_d m' t j = kt_d m t j ∧ kt_a m' t j = kt_a m t j
theorem kt_oth_r {m : Nat → Int32} {s : Int} : kt_oth m m s := fun t _ _ _ j _ => ⟨rfl, rfl, rfl⟩
theorem kt_oth_t {m m1 m2 : Nat → Int32} {s : Int} (h1 : kt_oth m m1 s) (h2 : kt_oth m1 m2 s) : kt_oth m m2 s := fun t a b c j hj => by
  have e1 := h1 t a b c j hj
  have e2 := h2 t a b c j hj
  exact ⟨e2.1.trans e1.1, e2.2.1.trans e1.2.1, e2.2.2.trans e1.2.2⟩
theorem kt_set_o {m m' : Nat → Int32} {s i : Int} {w d a : Int32} (h : kt_set m m' s i w d a) : kt_oth m m' s := fun t ha hb hc j hj => by
  have e := h t ha hb j hj
  rw [if_neg (fun q => hc q.1), if_neg (fun q => hc q.1), if_neg (fun q => hc q.1)] at e
  exact e
theorem kt_w_e {f : Nat → Int32} {x : Int32} {s i : Int32} (hs : 0 ≤ s.toInt) (hi : 0 ≤ i.toInt) (hx : x.toInt = 40 * s.toInt + i.toInt) : (f x.toNatClampNeg).toInt = (kt_w f s.toInt i.toNatClampNeg).toInt := by
  show _ = (f (40 * s.toInt.toNat + i.toInt.toNat)).toInt
  rw [show 40 * s.toInt.toNat + i.toInt.toNat = x.toNatClampNeg from by show _ = x.toInt.toNat; omega]
theorem kt_d_e {f : Nat → Int32} {x : Int32} {s i : Int32} (hs : 0 ≤ s.toInt) (hi : 0 ≤ i.toInt) (hx : x.toInt = 280 + 40 * s.toInt + i.toInt) : (f x.toNatClampNeg).toInt = (kt_d f s.toInt i.toNatClampNeg).toInt := by
  show _ = (f (280 + 40 * s.toInt.toNat + i.toInt.toNat)).toInt
  rw [show 280 + 40 * s.toInt.toNat + i.toInt.toNat = x.toNatClampNeg from by show _ = x.toInt.toNat; omega]
theorem kt_a_e {f : Nat → Int32} {x : Int32} {s i : Int32} (hs : 0 ≤ s.toInt) (hi : 0 ≤ i.toInt) (hx : x.toInt = 560 + 40 * s.toInt + i.toInt) : (f x.toNatClampNeg).toInt = (kt_a f s.toInt i.toNatClampNeg).toInt := by
  show _ = (f (560 + 40 * s.toInt.toNat + i.toInt.toNat)).toInt
  rw [show 560 + 40 * s.toInt.toNat + i.toInt.toNat = x.toNatClampNeg from by show _ = x.toInt.toNat; omega]
theorem kt_set_e {m m1 m2 m3 : Nat → Int32} {x y z w d a : Int32} {s i : Int} (h1 : upd m x.toNatClampNeg w = m1) (h2 : upd m1 y.toNatClampNeg d = m2) (h3 : upd m2 z.toNatClampNeg a = m3) (hs : 0 ≤ s ∧ s ≤ 6) (hi : 0 ≤ i ∧ i ≤ 39) (hx : x.toInt = 40 * s + i) (hy : y.toInt = 280 + 40 * s + i) (hz : z.toInt = 560 + 40 * s + i) : kt_set m m3 s i w d a := by
  subst h1 h2 h3
  have ex : (x.toNatClampNeg : Int) = x.toInt := kk_tn (by omega)
  have ey : (y.toNatClampNeg : Int) = y.toInt := kk_tn (by omega)
  have ez : (z.toNatClampNeg : Int) = z.toInt := kk_tn (by omega)
  intro t ht0 ht j hj
  unfold kt_w kt_d kt_a upd
  refine ⟨?_, ?_, ?_⟩
  · rw [if_neg (by omega), if_neg (by omega)]
    by_cases c : t = s ∧ (j : Int) = i
    · rw [if_pos c, if_pos (by omega)]
    · rw [if_neg c, if_neg (by omega)]
  · rw [if_neg (by omega)]
    by_cases c : t = s ∧ (j : Int) = i
    · rw [if_pos c, if_pos (by omega)]
    · rw [if_neg c, if_neg (by omega), if_neg (by omega)]
  · by_cases c : t = s ∧ (j : Int) = i
    · rw [if_pos c, if_pos (by omega)]
    · rw [if_neg c, if_neg (by omega), if_neg (by omega), if_neg (by omega)]
-- JOINS: shifted down from behind i
def kt_jl (m0 m : Nat → Int32) (s i k : Int) : Prop := kt_oth m0 m s ∧ ∀ j : Nat, j < 40 → kt_w m s j = (if (j : Int) < i then kt_w m0 s j else if (j : Int) = i then kt_w m0 s i.toNat + kt_w m0 s (i.toNat + 1) else if (j : Int) < k then kt_w m0 s (j + 1) else kt_w m0 s j) ∧ kt_d m s j = (if i < (j : Int) ∧ (j : Int) < k then kt_d m0 s (j + 1) else kt_d m0 s j) ∧ kt_a m s j = (if i < (j : Int) ∧ (j : Int) < k then kt_a m0 s (j + 1) else kt_a m0 s j)
theorem kt_jl_0 {m0 m : Nat → Int32} {s k : Int} {i q a b d e : Int32} (hs : 0 ≤ s ∧ s ≤ 6) (hi : 0 ≤ i.toInt ∧ i.toInt ≤ 39) (hq : q.toInt = i.toInt + 1) (h : kt_set m0 m s i.toInt (a + b) d e) (ha : a.toInt = (kt_w m0 s i.toNatClampNeg).toInt) (hb : b.toInt = (kt_w m0 s q.toNatClampNeg).toInt) (hd : d.toInt = (kt_d m0 s i.toNatClampNeg).toInt) (he : e.toInt = (kt_a m0 s i.toNatClampNeg).toInt) (hk : k = i.toInt + 1) : kt_jl m0 m s i.toInt k := by
  have ei : i.toNatClampNeg = i.toInt.toNat := rfl
  have eq : q.toNatClampNeg = i.toInt.toNat + 1 := kt_cl_n hi.1 hq
  rw [ei] at ha hd he
  rw [eq] at hb
  have ha := Int32.toInt_inj.mp ha
  have hb := Int32.toInt_inj.mp hb
  have hd := Int32.toInt_inj.mp hd
  have he := Int32.toInt_inj.mp he
  subst ha hb hd he hk
  refine ⟨kt_set_o h, fun j hj => ?_⟩
  have e := h s hs.1 (by omega) j hj
  by_cases c : (j : Int) = i.toInt
  · have ej : j = i.toInt.toNat := by omega
    rw [if_pos ⟨rfl, c⟩, if_pos ⟨rfl, c⟩, if_pos ⟨rfl, c⟩] at e
    rw [e.1, e.2.1, e.2.2, if_neg (by omega), if_pos c, if_neg (by omega), if_neg (by omega), ej]
    exact ⟨rfl, rfl, rfl⟩
  · rw [if_neg (fun q => c q.2), if_neg (fun q => c q.2), if_neg (fun q => c q.2)] at e
    rw [e.1, e.2.1, e.2.2]
    refine ⟨?_, ?_, ?_⟩ <;> ((repeat any_goals split) <;> first | rfl | (exfalso; omega))
theorem kt_jl_s {m0 m m' : Nat → Int32} {s i k' : Int} {k q a d e : Int32} (h : kt_jl m0 m s i k.toInt) (hs : 0 ≤ s ∧ s ≤ 6) (hi : 0 ≤ i) (hk : i < k.toInt) (hk2 : k.toInt ≤ 38) (hq : q.toInt = k.toInt + 1) (hc : kt_set m m' s k.toInt a d e) (ha : a.toInt = (kt_w m s q.toNatClampNeg).toInt) (hd : d.toInt = (kt_d m s q.toNatClampNeg).toInt) (he : e.toInt = (kt_a m s q.toNatClampNeg).toInt) (hk' : k' = k.toInt + 1) : kt_jl m0 m' s i k' := by
  have eq : (q.toNatClampNeg : Int) = q.toInt := kk_tn (by omega)
  have ha := Int32.toInt_inj.mp ha
  have hd := Int32.toInt_inj.mp hd
  have he := Int32.toInt_inj.mp he
  subst ha hd he hk'
  refine ⟨kt_oth_t h.1 (kt_set_o hc), fun j hj => ?_⟩
  have e := hc s hs.1 (by omega) j hj
  have hq2 := h.2 q.toNatClampNeg (by omega)
  rw [if_neg (by omega), if_neg (by omega), if_neg (by omega), if_neg (by omega), if_neg (by omega)] at hq2
  have hj2 := h.2 j hj
  by_cases c : (j : Int) = k.toInt
  · have ej : q.toNatClampNeg = j + 1 := by omega
    rw [if_pos ⟨rfl, c⟩, if_pos ⟨rfl, c⟩, if_pos ⟨rfl, c⟩] at e
    rw [e.1, e.2.1, e.2.2, hq2.1, hq2.2.1, hq2.2.2, ej, if_neg (by omega), if_neg (by omega), if_pos (by omega), if_pos (by omega), if_pos (by omega)]
    exact ⟨rfl, rfl, rfl⟩
  · rw [if_neg (fun q => c q.2), if_neg (fun q => c q.2), if_neg (fun q => c q.2)] at e
    rw [e.1, e.2.1, e.2.2, hj2.1, hj2.2.1, hj2.2.2]
    refine ⟨?_, ?_, ?_⟩ <;> ((repeat any_goals split) <;> first | rfl | (exfalso; omega))
theorem kt_jl_e {m0 m : Nat → Int32} {s k : Int} {i q n n' a b : Int32} (h : kt_jl m0 m s i.toInt k) (hi : 0 ≤ i.toInt) (h1 : i.toInt + 1 < n.toInt) (hn : n.toInt ≤ 40) (hq : q.toInt = i.toInt + 1) (ha : a.toInt = (kt_w m0 s i.toNatClampNeg).toInt) (hb : b.toInt = (kt_w m0 s q.toNatClampNeg).toInt) (hw : (a + b).toInt ≤ 999) (hk : n.toInt ≤ k + 1) (hk2 : k + 1 ≤ n.toInt) (hm : n'.toInt = (n - 1).toInt) (hmi : n'.toInt = n.toInt - 1) : kt_st n' (kt_w m s) (kt_d m s) (kt_a m s) = kt_join i (kt_st n (kt_w m0 s) (kt_d m0 s) (kt_a m0 s)) := by
  have eq : q.toNatClampNeg = i.toNatClampNeg + 1 := kt_cl_n hi hq
  rw [eq] at hb
  have ha := Int32.toInt_inj.mp ha
  have hb := Int32.toInt_inj.mp hb
  subst ha hb
  have ei : i.toNatClampNeg = i.toInt.toNat := rfl
  refine kt_join_y hi h1 hw (kt_i1 hm) hmi (fun j hj => ?_) (fun j hj => ?_) (fun j hj => ?_)
  · rw [(h.2 j (by omega)).1]
    by_cases c1 : (j : Int) < i.toInt
    · rw [if_pos c1, if_pos c1]
    · rw [if_neg c1, if_neg c1]
      by_cases c2 : (j : Int) = i.toInt
      · rw [if_pos c2, if_pos c2]
        rfl
      · rw [if_neg c2, if_neg c2, if_pos (by omega)]
  · rw [(h.2 j (by omega)).2.1]
    by_cases c1 : (j : Int) ≤ i.toInt
    · rw [if_pos c1, if_neg (by omega)]
    · rw [if_neg c1, if_pos (by omega)]
  · rw [(h.2 j (by omega)).2.2]
    by_cases c1 : (j : Int) ≤ i.toInt
    · rw [if_pos c1, if_neg (by omega)]
    · rw [if_neg c1, if_pos (by omega)]
-- PARTS: shifted up from behind i
def kt_pl (m0 m : Nat → Int32) (s k n : Int) : Prop := kt_oth m0 m s ∧ ∀ j : Nat, j < 40 → (j : Int) ≤ n → kt_w m s j = (if k < (j : Int) then kt_w m0 s (j - 1) else kt_w m0 s j) ∧ kt_d m s j = (if k < (j : Int) then kt_d m0 s (j - 1) else kt_d m0 s j) ∧ kt_a m s j = (if k < (j : Int) then kt_a m0 s (j - 1) else kt_a m0 s j)
theorem kt_pl_0 {m : Nat → Int32} {s k n : Int} (hk : k = n) : kt_pl m m s k n := ⟨kt_oth_r, fun j hj hn => by rw [if_neg (by omega), if_neg (by omega), if_neg (by omega)]; exact ⟨rfl, rfl, rfl⟩⟩
theorem kt_pl_s {m0 m m' : Nat → Int32} {s n k' : Int} {k q a d e : Int32} (h : kt_pl m0 m s k.toInt n) (hs : 0 ≤ s ∧ s ≤ 6) (h0 : 0 < k.toInt) (hk : k.toInt ≤ n) (hk2 : k.toInt ≤ 39) (hq : q.toInt = k.toInt - 1) (hc : kt_set m m' s k.toInt a d e) (ha : a.toInt = (kt_w m s q.toNatClampNeg).toInt) (hd : d.toInt = (kt_d m s q.toNatClampNeg).toInt) (he : e.toInt = (kt_a m s q.toNatClampNeg).toInt) (hk' : k' = k.toInt - 1) : kt_pl m0 m' s k' n := by
  have eq : (q.toNatClampNeg : Int) = q.toInt := kk_tn (by omega)
  have ha := Int32.toInt_inj.mp ha
  have hd := Int32.toInt_inj.mp hd
  have he := Int32.toInt_inj.mp he
  subst ha hd he hk'
  refine ⟨kt_oth_t h.1 (kt_set_o hc), fun j hj hn => ?_⟩
  have e := hc s hs.1 (by omega) j hj
  have hq2 := h.2 q.toNatClampNeg (by omega) (by omega)
  rw [if_neg (by omega), if_neg (by omega), if_neg (by omega)] at hq2
  have hj2 := h.2 j hj hn
  by_cases c : (j : Int) = k.toInt
  · have ej : q.toNatClampNeg = j - 1 := by omega
    rw [if_pos ⟨rfl, c⟩, if_pos ⟨rfl, c⟩, if_pos ⟨rfl, c⟩] at e
    rw [e.1, e.2.1, e.2.2, hq2.1, hq2.2.1, hq2.2.2, ej, if_pos (by omega), if_pos (by omega), if_pos (by omega)]
    exact ⟨rfl, rfl, rfl⟩
  · rw [if_neg (fun q => c q.2), if_neg (fun q => c q.2), if_neg (fun q => c q.2)] at e
    rw [e.1, e.2.1, e.2.2, hj2.1, hj2.2.1, hj2.2.2]
    by_cases c3 : k.toInt < (j : Int)
    · rw [if_pos c3, if_pos c3, if_pos c3, if_pos (by omega), if_pos (by omega), if_pos (by omega)]
      exact ⟨rfl, rfl, rfl⟩
    · rw [if_neg c3, if_neg c3, if_neg c3, if_neg (by omega), if_neg (by omega), if_neg (by omega)]
      exact ⟨rfl, rfl, rfl⟩
theorem kt_pl_w {m0 m : Nat → Int32} {s k n : Int} {i a : Int32} (h : kt_pl m0 m s k n) (hi : 0 ≤ i.toInt) (h1 : i.toInt ≤ n) (h2 : i.toInt < 40) (hk : i.toInt ≤ k) (ha : a.toInt = (kt_w m s i.toNatClampNeg).toInt) : a.toInt = (kt_w m0 s i.toNatClampNeg).toInt := by
  have ei : (i.toNatClampNeg : Int) = i.toInt := kk_tn hi
  have g := h.2 i.toNatClampNeg (by omega) (by omega)
  rw [if_neg (by omega)] at g
  rw [ha, g.1]
theorem kt_pl_e {m0 m m1 m2 : Nat → Int32} {s k : Int} {i q n n' a d e d2 h2 x z : Int32} (h : kt_pl m0 m s k n.toInt) (hs : 0 ≤ s ∧ s ≤ 6) (hi : 0 ≤ i.toInt) (h1 : i.toInt < n.toInt) (hn : n.toInt < 40) (hq : q.toInt = i.toInt + 1) (hk : k = i.toInt + 1) (ha : a.toInt = (kt_w m s i.toNatClampNeg).toInt) (hw : 1 < a.toInt) (hd : d.toInt = (kt_d m s i.toNatClampNeg).toInt) (he : e.toInt = (kt_a m s i.toNatClampNeg).toInt) (hh : h2 = a / 2) (hx : x = a - a / 2) (hz : z = 0) (e1 : kt_set m m1 s i.toInt h2 d e) (hd2 : d2.toInt = (kt_d m1 s i.toNatClampNeg).toInt) (e2 : kt_set m1 m2 s q.toInt x d2 z) (hm : n'.toInt = (n + 1).toInt) (hmi : n'.toInt = n.toInt + 1) : kt_oth m0 m2 s ∧ kt_st n' (kt_w m2 s) (kt_d m2 s) (kt_a m2 s) = kt_part i (kt_st n (kt_w m0 s) (kt_d m0 s) (kt_a m0 s)) := by
  have ei : (i.toNatClampNeg : Int) = i.toInt := kk_tn hi
  have g := h.2 i.toNatClampNeg (by omega) (by omega)
  rw [if_neg (by omega), if_neg (by omega), if_neg (by omega)] at g
  rw [g.1] at ha
  rw [g.2.1] at hd
  rw [g.2.2] at he
  have g1 := (e1 s hs.1 (by omega) i.toNatClampNeg (by omega)).2.1
  rw [if_pos ⟨rfl, ei⟩] at g1
  rw [g1] at hd2
  have ha := Int32.toInt_inj.mp ha
  have hd := Int32.toInt_inj.mp hd
  have he := Int32.toInt_inj.mp he
  have hd2 := Int32.toInt_inj.mp hd2
  subst hd2
  subst ha
  subst hd he hh hx hz
  refine ⟨kt_oth_t h.1 (kt_oth_t (kt_set_o e1) (kt_set_o e2)), ?_⟩
  have hall : ∀ j : Nat, (j : Int) < n.toInt + 1 → kt_w m2 s j = (if (j : Int) = q.toInt then kt_w m0 s i.toNatClampNeg - kt_w m0 s i.toNatClampNeg / 2 else if (j : Int) = i.toInt then kt_w m0 s i.toNatClampNeg / 2 else if k < (j : Int) then kt_w m0 s (j - 1) else kt_w m0 s j) ∧ kt_d m2 s j = (if (j : Int) = q.toInt then kt_d m0 s i.toNatClampNeg else if (j : Int) = i.toInt then kt_d m0 s i.toNatClampNeg else if k < (j : Int) then kt_d m0 s (j - 1) else kt_d m0 s j) ∧ kt_a m2 s j = (if (j : Int) = q.toInt then 0 else if (j : Int) = i.toInt then kt_a m0 s i.toNatClampNeg else if k < (j : Int) then kt_a m0 s (j - 1) else kt_a m0 s j) := by
    intro j hj
    have u2 := e2 s hs.1 (by omega) j (by omega)
    have u1 := e1 s hs.1 (by omega) j (by omega)
    have u0 := h.2 j (by omega) (by omega)
    by_cases c : (j : Int) = q.toInt
    · rw [if_pos ⟨rfl, c⟩, if_pos ⟨rfl, c⟩, if_pos ⟨rfl, c⟩] at u2
      rw [u2.1, u2.2.1, u2.2.2, if_pos c, if_pos c, if_pos c]
      exact ⟨rfl, rfl, rfl⟩
    · rw [if_neg (fun q => c q.2), if_neg (fun q => c q.2), if_neg (fun q => c q.2)] at u2
      rw [u2.1, u2.2.1, u2.2.2, if_neg c, if_neg c, if_neg c]
      by_cases c2 : (j : Int) = i.toInt
      · rw [if_pos ⟨rfl, c2⟩, if_pos ⟨rfl, c2⟩, if_pos ⟨rfl, c2⟩] at u1
        rw [u1.1, u1.2.1, u1.2.2, if_pos c2, if_pos c2, if_pos c2]
        exact ⟨rfl, rfl, rfl⟩
      · rw [if_neg (fun q => c2 q.2), if_neg (fun q => c2 q.2), if_neg (fun q => c2 q.2)] at u1
        rw [u1.1, u1.2.1, u1.2.2, if_neg c2, if_neg c2, if_neg c2]
        exact u0
  refine kt_part_y hi h1 hw hn (kt_i2 hm) hmi (fun j hj => ?_) (fun j hj => ?_) (fun j hj => ?_)
  · rw [(hall j hj).1]
    (repeat any_goals split) <;> first | rfl | (exfalso; omega)
  · rw [(hall j hj).2.1]
    by_cases c1 : (j : Int) ≤ i.toInt
    · rw [if_pos c1, if_neg (by omega)]
      by_cases c2 : (j : Int) = i.toInt
      · rw [if_pos c2, show i.toNatClampNeg = j from by omega]
      · rw [if_neg c2, if_neg (by omega)]
    · rw [if_neg c1]
      by_cases c3 : (j : Int) = i.toInt + 1
      · rw [if_pos (by omega), show i.toNatClampNeg = j - 1 from by omega]
      · rw [if_neg (by omega), if_neg (by omega), if_pos (by omega)]
  · rw [(hall j hj).2.2]
    by_cases c1 : (j : Int) ≤ i.toInt
    · rw [if_pos c1, if_neg (by omega)]
      by_cases c2 : (j : Int) = i.toInt
      · rw [if_pos c2, show i.toNatClampNeg = j from by omega]
      · rw [if_neg c2, if_neg (by omega)]
    · rw [if_neg c1]
      by_cases c3 : (j : Int) = i.toInt + 1
      · rw [if_pos (by omega), if_pos c3]
      · rw [if_neg (by omega), if_neg (by omega), if_pos (by omega), if_neg c3]
theorem kt_set_asd {m m' : Nat → Int32} {s : Int} {n i w d v a : Int32} (h : kt_set m m' s i.toInt w d v) (hs : 0 ≤ s ∧ s ≤ 6) (hi : 0 < i.toInt) (h1 : i.toInt < n.toInt) (hn : n.toInt ≤ 40) (hw : w.toInt = (kt_w m s i.toNatClampNeg).toInt) (hd : d.toInt = (kt_d m s i.toNatClampNeg).toInt) (ha : a.toInt = (kt_a m s i.toNatClampNeg).toInt) (hv : ((a + 5).toInt ≤ 99 ∧ v.toInt = (a + 5).toInt) ∨ (99 < (a + 5).toInt ∧ v.toInt = 99)) : kt_st n (kt_w m' s) (kt_d m' s) (kt_a m' s) = kt_asd i (kt_st n (kt_w m s) (kt_d m s) (kt_a m s)) := by
  have ei : (i.toNatClampNeg : Int) = i.toInt := kk_tn (by omega)
  have hw := Int32.toInt_inj.mp hw
  have hd := Int32.toInt_inj.mp hd
  have ha := Int32.toInt_inj.mp ha
  subst hw hd ha
  refine kt_asd_y hi h1 hv (fun j hj => ?_) (fun j hj => ?_) (fun j hj => ?_)
  · rw [(h s hs.1 (by omega) j (by omega)).1]
    by_cases c : (j : Int) = i.toInt
    · rw [if_pos ⟨rfl, c⟩, show i.toNatClampNeg = j from by omega]
    · rw [if_neg (fun q => c q.2)]
  · rw [(h s hs.1 (by omega) j (by omega)).2.1]
    by_cases c : (j : Int) = i.toInt
    · rw [if_pos ⟨rfl, c⟩, show i.toNatClampNeg = j from by omega]
    · rw [if_neg (fun q => c q.2)]
  · rw [(h s hs.1 (by omega) j (by omega)).2.2]
    by_cases c : (j : Int) = i.toInt
    · rw [if_pos ⟨rfl, c⟩, if_pos c]
    · rw [if_neg (fun q => c q.2), if_neg c]
-- a new TOWN
def kt_new (m : Nat → Int32) (s k : Int) (x y z : Int32) : Prop := ∀ j : Nat, (j : Int) < k → kt_w m s j = x ∧ kt_d m s j = y ∧ kt_a m s j = z
theorem kt_new_0 {m : Nat → Int32} {s k : Int} {x y z : Int32} (h : k ≤ 0) : kt_new m s k x y z := fun j hj => absurd hj (by omega)
theorem kt_new_s {m m' : Nat → Int32} {s k k' : Int} {x y z : Int32} (h : kt_new m s k x y z) (hs : 0 ≤ s ∧ s ≤ 6) (hk : 0 ≤ k ∧ k ≤ 39) (hc : kt_set m m' s k x y z) (hk' : k' = k + 1) : kt_new m' s k' x y z := by
  subst hk'
  intro j hj
  have e := hc s hs.1 (by omega) j (by omega)
  by_cases c : (j : Int) = k
  · rw [if_pos ⟨rfl, c⟩, if_pos ⟨rfl, c⟩, if_pos ⟨rfl, c⟩] at e
    exact e
  · rw [if_neg (fun q => c q.2), if_neg (fun q => c q.2), if_neg (fun q => c q.2)] at e
    rw [e.1, e.2.1, e.2.2]
    exact h j (by omega)
theorem kt_new_e {m : Nat → Int32} {s : Int} {n n' x y z : Int32} (h : kt_new m s n.toInt x y z) (hn : n.toInt = n'.toInt) : kt_st n (kt_w m s) (kt_d m s) (kt_a m s) = kt_st n' (fun _ => x) (fun _ => y) (fun _ => z) := kt_st_e (Int32.toInt_inj.mp hn) (fun j hj => (h j hj).1) (fun j hj => (h j hj).2.1) (fun j hj => (h j hj).2.2)
-- the LAWS that are kept are TEXTS
def kt_lv (text many : Nat → Int32) (n : Int) : Prop := ∀ l : Nat, (l : Int) < n → kr_T (kr_at (kr_sh text (120 * (l : Int))) (many l).toInt) (many l).toInt ((many l).toInt + 1) 0 = -1
theorem kt_lv_at {text many : Nat → Int32} {n b : Int} {l : Int32} (h : kt_lv text many n) (h0 : 0 ≤ l.toInt) (h1 : l.toInt < n) (hb : b = 120 * l.toInt) : kr_T (kr_at (kr_sh text b) (many l.toNatClampNeg).toInt) (many l.toNatClampNeg).toInt ((many l.toNatClampNeg).toInt + 1) 0 = -1 := by
  have e := h l.toNatClampNeg (by have := kk_tn h0; omega)
  rw [kk_tn h0, ← hb] at e
  exact e
-- a TEXT becomes a LAW: copied behind those that are there
def kt_cp (f g t : Nat → Int32) (b k : Int) : Prop := ∀ j : Nat, g j = (if b ≤ (j : Int) ∧ (j : Int) < b + k then t ((j : Int) - b).toNat else f j)
theorem kt_cp_0 {f t : Nat → Int32} {b k : Int} (h : k ≤ 0) : kt_cp f f t b k := fun j => (if_neg (by omega)).symm
theorem kt_cp_s {f g t : Nat → Int32} {b k' : Int} {x k : Int32} (h : kt_cp f g t b k.toInt) (hb : 0 ≤ b) (hk : 0 ≤ k.toInt) (hx : x.toInt = b + k.toInt) (hk' : k' = k.toInt + 1) : kt_cp f (upd g x.toNatClampNeg (t k.toNatClampNeg)) t b k' := by
  subst hk'
  have ex : (x.toNatClampNeg : Int) = x.toInt := kk_tn (by omega)
  have ek : (k.toNatClampNeg : Int) = k.toInt := kk_tn hk
  intro j
  unfold upd
  by_cases c : j = x.toNatClampNeg
  · rw [if_pos c, if_pos (by omega), show k.toNatClampNeg = ((j : Int) - b).toNat from by omega]
  · rw [if_neg c, h j]
    by_cases d : b ≤ (j : Int) ∧ (j : Int) < b + k.toInt
    · rw [if_pos d, if_pos (by omega)]
    · rw [if_neg d, if_neg (by omega)]
theorem kt_cp_w {f g t : Nat → Int32} {b k k' : Int} (h : kt_cp f g t b k) (e : k = k') : kt_cp f g t b k' := e ▸ h
-- what ties the LAWS of both
def kt_cv (n : Int) (SG : Nat → Nat → Int32) (SZ : Nat → Int32) (text many : Nat → Int32) : Prop := ∀ l : Nat, l < 4 → (l : Int) < n → (0 ≤ (many l).toInt ∧ (many l).toInt ≤ 120) ∧ kr_T (kr_at (kr_sh text (120 * (l : Int))) (many l).toInt) (many l).toInt ((many l).toInt + 1) 0 = -1 ∧ kg_sI (SG l) (SZ l).toInt = kq_T (kr_at (kr_sh text (120 * (l : Int))) (many l).toInt) (many l).toInt ((many l).toInt + 1) 0
theorem kt_cv_lv {n : Int} {SG : Nat → Nat → Int32} {SZ text many : Nat → Int32} (h : kt_cv n SG SZ text many) (hn : n ≤ 4) : kt_lv text many n := fun l hl => (h l (by omega) hl).2.1
theorem kt_cv_V {n : Int} {SG : Nat → Nat → Int32} {SZ text many : Nat → Int32} {l : Int32} {k : Nat} {b : Int} (h : kt_cv n SG SZ text many) (h0 : 0 ≤ l.toInt) (h1 : l.toInt < n) (hn : n ≤ 4) (hk : (k : Int) = l.toInt) (hb : b = 120 * l.toInt) : (fun nm_ => kg_run nm_ (kg_sI (SG k) (SZ k).toInt) false []) = (fun nm_ => kv_T (kr_at (kr_sh text b) (many l.toNatClampNeg).toInt) nm_ (many l.toNatClampNeg).toInt ((many l.toNatClampNeg).toInt + 1) 0) := by
  have el : l.toNatClampNeg = k := by have := kk_tn h0; omega
  obtain ⟨_, h2, h3⟩ := h k (by omega) (by omega)
  rw [el, hb, ← hk]
  funext nm
  rw [h3]
  exact kg_T h2
theorem kt_cv_set {n n' m : Int} {SG : Nat → Nat → Int32} {SZ text text' many tape sg : Nat → Int32} {u v sz : Int32} {k : Nat} (h : kt_cv n SG SZ text many) (hu : u.toInt = n) (h0 : 0 ≤ n) (hn : n ≤ 3) (hn' : n' = n + 1) (hk : (k : Int) = n) (hc : kt_cp text text' tape (120 * n) m) (hv : v.toInt = m) (hm : 0 ≤ m ∧ m ≤ 120) (ht : kr_T (kr_at tape m) m (m + 1) 0 = -1) (hs : kg_sI sg sz.toInt = kq_T (kr_at tape m) m (m + 1) 0) : kt_cv n' (va_up SG k sg) (va_up SZ k sz) text' (upd many u.toNatClampNeg v) := by
  have eu : u.toNatClampNeg = k := by have := kk_tn (x := u) (by omega); omega
  rw [eu]
  intro l hl hln
  unfold upd
  by_cases c : l = k
  · rw [c, va_up_self, va_up_self, if_pos rfl, hv]
    have e : kr_at (kr_sh text' (120 * (k : Int))) m = kr_at tape m := by
      refine kr_at_eq (fun j hj => ?_)
      show text' ((120 * (k : Int)).toNat + j) = tape j
      rw [hc ((120 * (k : Int)).toNat + j), if_pos (by omega)]
      congr 1
      omega
    rw [e]
    exact ⟨hm, ht, hs⟩
  · rw [va_up_ne _ _ c, va_up_ne _ _ c, if_neg c]
    obtain ⟨a1, a2, a3⟩ := h l hl (by omega)
    have e : kr_at (kr_sh text' (120 * (l : Int))) (many l).toInt = kr_at (kr_sh text (120 * (l : Int))) (many l).toInt := by
      refine kr_at_eq (fun j hj => ?_)
      show text' ((120 * (l : Int)).toNat + j) = text ((120 * (l : Int)).toNat + j)
      rw [hc ((120 * (l : Int)).toNat + j), if_neg (by omega)]
    rw [e]
    exact ⟨a1, a2, a3⟩
theorem kt_cv_n {n : Int} {SG : Nat → Nat → Int32} {SZ text many sg : Nat → Int32} {sz : Int32} {k : Nat} (h : kt_cv n SG SZ text many) (hk : n ≤ (k : Int) ∨ (sg = SG k ∧ sz = SZ k)) : kt_cv n (va_up SG k sg) (va_up SZ k sz) text many := by
  intro l hl hln
  by_cases c : l = k
  · subst c
    rcases hk with hk | ⟨h1, h2⟩
    · omega
    · rw [va_up_self, va_up_self, h1, h2]
      exact h l hl hln
  · rw [va_up_ne _ _ c, va_up_ne _ _ c]
    exact h l hl hln
-- what ties the STREETS of both
def kt_cw (n : Int) (SZ : Nat → Int32) (W D A : Nat → Nat → Int32) (plots may : Nat → Int32) : Prop := ∀ s : Nat, s < 6 → ((s : Int) < n → kt_st (SZ s) (W s) (D s) (A s) = kt_st (plots s) (kt_w may (s : Int)) (kt_d may (s : Int)) (kt_a may (s : Int))) ∧ (n ≤ (s : Int) → (SZ s).toInt = 0)
theorem kt_cw_at {n : Int} {SZ : Nat → Int32} {W D A : Nat → Nat → Int32} {plots may : Nat → Int32} {s : Int32} {k : Nat} (h : kt_cw n SZ W D A plots may) (h0 : 0 ≤ s.toInt) (h1 : s.toInt < n) (h6 : s.toInt < 6) (hk : (k : Int) = s.toInt) : kt_st (SZ k) (W k) (D k) (A k) = kt_st (plots s.toNatClampNeg) (kt_w may s.toInt) (kt_d may s.toInt) (kt_a may s.toInt) := by
  have el : s.toNatClampNeg = k := by have := kk_tn h0; omega
  rw [el, ← hk]
  exact (h k (by omega)).1 (by omega)
theorem kt_oth_st {m m' plots plots' : Nat → Int32} {s t : Int} {j : Nat} (h : kt_oth m m' s) (hp : plots' j = plots j) (ht : 0 ≤ t ∧ t < 7) (hts : t ≠ s) (hn : (plots j).toInt ≤ 40) : kt_st (plots' j) (kt_w m' t) (kt_d m' t) (kt_a m' t) = kt_st (plots j) (kt_w m t) (kt_d m t) (kt_a m t) := by
  rw [hp]
  refine kt_st_e rfl (fun q hq => ?_) (fun q hq => ?_) (fun q hq => ?_)
  · exact (h t ht.1 ht.2 hts q (by omega)).1
  · exact (h t ht.1 ht.2 hts q (by omega)).2.1
  · exact (h t ht.1 ht.2 hts q (by omega)).2.2
theorem kt_cw_set {n n' : Int} {SZ : Nat → Int32} {W D A : Nat → Nat → Int32} {plots plots' may may' w d a : Nat → Int32} {k : Nat} {sz s : Int32} (h : kt_cw n SZ W D A plots may) (hb : ∀ j : Nat, j < 7 → 0 ≤ (plots j).toInt ∧ (plots j).toInt ≤ 40) (h0 : 0 ≤ s.toInt) (h6 : s.toInt < 6) (hk : (k : Int) = s.toInt) (ho : kt_oth may may' s.toInt) (hp : kk_ps s.toInt plots plots') (hn : n' = n ∧ s.toInt < n ∨ n' = n + 1 ∧ s.toInt = n) (e : kt_st sz w d a = kt_st (plots' s.toNatClampNeg) (kt_w may' s.toInt) (kt_d may' s.toInt) (kt_a may' s.toInt)) : kt_cw n' (va_up SZ k sz) (va_up W k w) (va_up D k d) (va_up A k a) plots' may' := by
  have el : s.toNatClampNeg = k := by have := kk_tn h0; omega
  rw [el, ← hk] at e
  intro j hj
  by_cases c : j = k
  · subst c
    rw [va_up_self, va_up_self, va_up_self, va_up_self]
    exact ⟨fun _ => e, fun q => by omega⟩
  · rw [va_up_ne _ _ c, va_up_ne _ _ c, va_up_ne _ _ c, va_up_ne _ _ c]
    obtain ⟨h1, h2⟩ := h j hj
    refine ⟨fun q => ?_, fun q => h2 (by omega)⟩
    rw [h1 (by omega)]
    exact (kt_oth_st ho (hp j (by omega) (by omega)) (by omega) (by omega) (hb j (by omega)).2).symm
theorem kt_cw_n {n : Int} {SZ : Nat → Int32} {W D A : Nat → Nat → Int32} {plots plots' may may' w d a : Nat → Int32} {k : Nat} {sz : Int32} {s : Int} (h : kt_cw n SZ W D A plots may) (hb : ∀ j : Nat, j < 7 → 0 ≤ (plots j).toInt ∧ (plots j).toInt ≤ 40) (e : kt_st sz w d a = kt_st (SZ k) (W k) (D k) (A k)) (hs : n ≤ s ∨ (plots' = plots ∧ may' = may)) (ho : kt_oth may may' s) (hp : kk_ps s plots plots') : kt_cw n (va_up SZ k sz) (va_up W k w) (va_up D k d) (va_up A k a) plots' may' := by
  have key : ∀ j : Nat, j < 6 → (j : Int) < n → kt_st (plots' j) (kt_w may' (j : Int)) (kt_d may' (j : Int)) (kt_a may' (j : Int)) = kt_st (plots j) (kt_w may (j : Int)) (kt_d may (j : Int)) (kt_a may (j : Int)) := fun j hj hjn => by
    rcases hs with hs | ⟨h1, h2⟩
    · exact kt_oth_st ho (hp j (by omega) (by omega)) (by omega) (by omega) (hb j (by omega)).2
    · rw [h1, h2]
  intro j hj
  obtain ⟨h1, h2⟩ := h j hj
  by_cases c : j = k
  · subst c
    rw [va_up_self, va_up_self, va_up_self, va_up_self]
    refine ⟨fun q => ?_, fun q => ?_⟩
    · rw [e, h1 q, key j hj q]
    · have e1 : sz = SZ j := (kt_st_i e).1
      rw [e1]
      exact h2 q
  · rw [va_up_ne _ _ c, va_up_ne _ _ c, va_up_ne _ _ c, va_up_ne _ _ c]
    exact ⟨fun q => by rw [h1 q, key j hj q], h2⟩
theorem kt_cw_str {n n' : Int} {SZ : Nat → Int32} {W D A : Nat → Nat → Int32} {plots plots' may : Nat → Int32} {s : Int32} (h : kt_cw n SZ W D A plots may) (hs : s.toInt = n) (h0 : 0 ≤ n) (h6 : n < 6) (hn : n' = n + 1) (hp : kk_ps s.toInt plots plots') (e : (plots' s.toNatClampNeg).toInt = 0) : kt_cw n' SZ W D A plots' may := by
  have el : (s.toNatClampNeg : Int) = n := by have := kk_tn (x := s) (by omega); omega
  intro j hj
  obtain ⟨h1, h2⟩ := h j hj
  refine ⟨fun q => ?_, fun q => h2 (by omega)⟩
  by_cases c : (j : Int) = n
  · have e1 : (SZ j).toInt = 0 := h2 (by omega)
    have ej : s.toNatClampNeg = j := by omega
    rw [ej] at e
    refine kt_st_e (Int32.toInt_inj.mp (e1.trans e.symm)) (fun q hq => ?_) (fun q hq => ?_) (fun q hq => ?_) <;> omega
  · rw [h1 (by omega), hp j (by omega) (by omega)]
theorem kt_cw_ps {n n' : Int} {SZ : Nat → Int32} {W D A : Nat → Nat → Int32} {plots plots' may : Nat → Int32} {s : Int} (h : kt_cw n SZ W D A plots may) (hn : n' = n) (hp : kk_ps s plots plots') (hs : n ≤ s) : kt_cw n' SZ W D A plots' may := by
  subst hn
  intro j hj
  obtain ⟨h1, h2⟩ := h j hj
  refine ⟨fun q => ?_, h2⟩
  rw [h1 q, hp j (by omega) (by omega)]
-- a PLOT comes
noncomputable def kt_app (w d a : Int32) (S : kt_S) : kt_S := kt_st (S.1 + 1) (fun j => if (j : Int) = S.1.toInt then w else S.2.1 j) (fun j => if (j : Int) = S.1.toInt then d else S.2.2.1 j) (fun j => if (j : Int) = S.1.toInt then a else S.2.2.2 j)
theorem kt_app_y {n m w d a : Int32} {W D A W' D' A' : Nat → Int32} (hm : m.toInt = (n + 1).toInt) (hmi : m.toInt = n.toInt + 1) (eW : ∀ j : Nat, (j : Int) ≤ n.toInt → W' j = (if (j : Int) = n.toInt then w else W j)) (eD : ∀ j : Nat, (j : Int) ≤ n.toInt → D' j = (if (j : Int) = n.toInt then d else D j)) (eA : ∀ j : Nat, (j : Int) ≤ n.toInt → A' j = (if (j : Int) = n.toInt then a else A j)) : kt_st m W' D' A' = kt_app w d a (kt_st n W D A) := by
  show _ = kt_st (n + 1) (fun j => if (j : Int) = n.toInt then w else kt_tr n W j) (fun j => if (j : Int) = n.toInt then d else kt_tr n D j) (fun j => if (j : Int) = n.toInt then a else kt_tr n A j)
  refine kt_st_e (kt_i2 hm) (fun j hj => ?_) (fun j hj => ?_) (fun j hj => ?_)
  · rw [eW j (by omega)]
    by_cases c : (j : Int) = n.toInt
    · rw [if_pos c, if_pos c]
    · rw [if_neg c, if_neg c, kt_tr_v (by omega)]
  · rw [eD j (by omega)]
    by_cases c : (j : Int) = n.toInt
    · rw [if_pos c, if_pos c]
    · rw [if_neg c, if_neg c, kt_tr_v (by omega)]
  · rw [eA j (by omega)]
    by_cases c : (j : Int) = n.toInt
    · rw [if_pos c, if_pos c]
    · rw [if_neg c, if_neg c, kt_tr_v (by omega)]
theorem kt_app_c {n m w d a : Int32} {W D A W' D' A' : Nat → Int32} (hm : m.toInt = (n + 1).toInt) (hmi : m.toInt = n.toInt + 1) (rW : kt_in W W' n.toInt n.toInt w) (rD : kt_in D D' n.toInt n.toInt d) (rA : kt_in A A' n.toInt n.toInt a) : kt_st m W' D' A' = kt_app w d a (kt_st n W D A) := by
  refine kt_app_y hm hmi (fun j hj => ?_) (fun j hj => ?_) (fun j hj => ?_)
  · rw [rW j hj]
    (repeat any_goals split) <;> first | rfl | (exfalso; omega)
  · rw [rD j hj]
    (repeat any_goals split) <;> first | rfl | (exfalso; omega)
  · rw [rA j hj]
    (repeat any_goals split) <;> first | rfl | (exfalso; omega)
theorem kt_app_r {n n' w d a i : Int32} {m m' : Nat → Int32} {s : Int} (hs : 0 ≤ s ∧ s ≤ 6) (h0 : 0 ≤ n.toInt ∧ n.toInt ≤ 39) (hi : i.toInt = n.toInt) (h : kt_set m m' s i.toInt w d a) (hm : n'.toInt = (n + 1).toInt) (hmi : n'.toInt = n.toInt + 1) : kt_st n' (kt_w m' s) (kt_d m' s) (kt_a m' s) = kt_app w d a (kt_st n (kt_w m s) (kt_d m s) (kt_a m s)) := by
  rw [hi] at h
  refine kt_app_y hm hmi (fun j hj => ?_) (fun j hj => ?_) (fun j hj => ?_)
  · rw [(h s hs.1 (by omega) j (by omega)).1]
    (repeat any_goals split) <;> first | rfl | (exfalso; omega)
  · rw [(h s hs.1 (by omega) j (by omega)).2.1]
    (repeat any_goals split) <;> first | rfl | (exfalso; omega)
  · rw [(h s hs.1 (by omega) j (by omega)).2.2]
    (repeat any_goals split) <;> first | rfl | (exfalso; omega)
-- PLOTS out of a ROW: what comes, as long as it may
def kt_can (e : Nat → Int64) (sz p : Int) (S : kt_S) : Prop := S.1.toInt < 40 ∧ 0 ≤ p ∧ p + 3 ≤ sz ∧ 1 ≤ (e p.toNat).toInt32.toInt ∧ (e p.toNat).toInt32.toInt ≤ 999 ∧ 0 ≤ (e (p.toNat + 1)).toInt32.toInt ∧ (e (p.toNat + 1)).toInt32.toInt ≤ 999 ∧ ((S.1.toInt = 0 ∧ (e (p.toNat + 2)).toInt32.toInt = 0) ∨ (S.1.toInt ≠ 0 ∧ -99 ≤ (e (p.toNat + 2)).toInt32.toInt ∧ (e (p.toNat + 2)).toInt32.toInt ≤ 99))
noncomputable def kt_put (e : Nat → Int64) (p : Int) (S : kt_S) : kt_S := kt_app (e p.toNat).toInt32 (e (p.toNat + 1)).toInt32 (e (p.toNat + 2)).toInt32 S
noncomputable def kt_pls (e : Nat → Int64) (sz i : Int) : Nat → Int → kt_S → Int × kt_S
  | 0, c, S => (c, S)
  | f + 1, c, S => @ite (Int × kt_S) (kt_can e sz (i + 3 * c) S) (Classical.propDecidable _) (kt_pls e sz i f (c + 1) (kt_put e (i + 3 * c) S)) (c, S)
theorem kt_pls_1 {e : Nat → Int64} {sz i n c c' p : Int} {S S' : kt_S} (h : c < n) (hp : p = i + 3 * c) (hc : kt_can e sz p S) (hS : S' = kt_put e p S) (hc' : c' = c + 1) : kt_pls e sz i (n - c).toNat c S = kt_pls e sz i (n - c').toNat c' S' := by
  subst hp hS hc'
  obtain ⟨g, hg⟩ : ∃ g : Nat, (n - c).toNat = g + 1 := ⟨(n - c).toNat - 1, by omega⟩
  rw [hg, show (n - (c + 1)).toNat = g from by omega]
  show @ite (Int × kt_S) (kt_can e sz (i + 3 * c) S) (Classical.propDecidable _) (kt_pls e sz i g (c + 1) (kt_put e (i + 3 * c) S)) (c, S) = _
  rw [if_pos hc]
theorem kt_pls_0 {e : Nat → Int64} {sz i n c p : Int} {S : kt_S} (hp : p = i + 3 * c) (hc : n ≤ c ∨ ¬ kt_can e sz p S) : kt_pls e sz i (n - c).toNat c S = (c, S) := by
  subst hp
  cases hg : (n - c).toNat with
  | zero => rfl
  | succ g =>
    show @ite (Int × kt_S) (kt_can e sz (i + 3 * c) S) (Classical.propDecidable _) (kt_pls e sz i g (c + 1) (kt_put e (i + 3 * c) S)) (c, S) = _
    rw [if_neg (by rcases hc with hc | hc; exact absurd hg (by omega); exact hc)]
theorem kt_pls_w {e e' : Nat → Int64} {sz i : Int} (h : ∀ j : Nat, (j : Int) < sz → e j = e' j) : ∀ (f : Nat) (c : Int) (S : kt_S), kt_pls e sz i f c S = kt_pls e' sz i f c S := by
  have hc : ∀ (p : Int) (S : kt_S), kt_can e sz p S ↔ kt_can e' sz p S := fun p S => by
    unfold kt_can
    by_cases hp : 0 ≤ p ∧ p + 3 ≤ sz
    · rw [h p.toNat (by omega), h (p.toNat + 1) (by omega), h (p.toNat + 2) (by omega)]
    · exact ⟨fun q => absurd ⟨q.2.1, q.2.2.1⟩ hp, fun q => absurd ⟨q.2.1, q.2.2.1⟩ hp⟩
  intro f
  induction f with
  | zero => exact fun c S => rfl
  | succ f ih =>
    intro c S
    show @ite (Int × kt_S) (kt_can e sz (i + 3 * c) S) (Classical.propDecidable _) (kt_pls e sz i f (c + 1) (kt_put e (i + 3 * c) S)) (c, S) = @ite (Int × kt_S) (kt_can e' sz (i + 3 * c) S) (Classical.propDecidable _) (kt_pls e' sz i f (c + 1) (kt_put e' (i + 3 * c) S)) (c, S)
    by_cases q : kt_can e sz (i + 3 * c) S
    · rw [if_pos q, if_pos ((hc _ _).mp q), ih]
      have q2 := q
      unfold kt_can at q2
      unfold kt_put
      rw [h (i + 3 * c).toNat (by omega), h ((i + 3 * c).toNat + 1) (by omega), h ((i + 3 * c).toNat + 2) (by omega)]
    · rw [if_neg q, if_neg (fun q2 => q ((hc _ _).mpr q2))]
theorem kt_can_n {e : Nat → Int64} {sz p : Int} {n : Int32} {W D A : Nat → Int32} (h : 40 ≤ n.toInt ∨ p < 0 ∨ sz < p + 3) : ¬ kt_can e sz p (kt_st n W D A) := fun q => by
  have q1 : n.toInt < 40 := q.1
  have q2 := q.2.1
  have q3 := q.2.2.1
  omega
theorem kt_can_i {e : Nat → Int64} {sz : Int} {p x y : Int32} {n : Int32} {W D A : Nat → Int32} {a b c : Int64} (hp : 0 ≤ p.toInt) (hx : x.toInt = p.toInt + 1) (hy : y.toInt = p.toInt + 2) (ha : a = e p.toNatClampNeg) (hb : b = e x.toNatClampNeg) (hc : c = e y.toNatClampNeg) : kt_can e sz p.toInt (kt_st n W D A) ↔ (n.toInt < 40 ∧ 0 ≤ p.toInt ∧ p.toInt + 3 ≤ sz ∧ 1 ≤ a.toInt32.toInt ∧ a.toInt32.toInt ≤ 999 ∧ 0 ≤ b.toInt32.toInt ∧ b.toInt32.toInt ≤ 999 ∧ ((n.toInt = 0 ∧ c.toInt32.toInt = 0) ∨ (n.toInt ≠ 0 ∧ -99 ≤ c.toInt32.toInt ∧ c.toInt32.toInt ≤ 99))) := by
  have e1 : x.toNatClampNeg = p.toInt.toNat + 1 := kt_cl_n hp hx
  have e2 : y.toNatClampNeg = p.toInt.toNat + 2 := by
    have h2 : y.toInt.toNat = p.toInt.toNat + 2 := by omega
    exact h2
  have e0 : p.toNatClampNeg = p.toInt.toNat := rfl
  rw [e0] at ha
  rw [e1] at hb
  rw [e2] at hc
  subst ha hb hc
  exact Iff.rfl
theorem kt_put_i {e : Nat → Int64} {p x y : Int32} {S : kt_S} {a b c : Int64} (hp : 0 ≤ p.toInt) (hx : x.toInt = p.toInt + 1) (hy : y.toInt = p.toInt + 2) (ha : a = e p.toNatClampNeg) (hb : b = e x.toNatClampNeg) (hc : c = e y.toNatClampNeg) : kt_put e p.toInt S = kt_app a.toInt32 b.toInt32 c.toInt32 S := by
  have e1 : x.toNatClampNeg = p.toInt.toNat + 1 := kt_cl_n hp hx
  have e2 : y.toNatClampNeg = p.toInt.toNat + 2 := by
    have h2 : y.toInt.toNat = p.toInt.toNat + 2 := by omega
    exact h2
  have e0 : p.toNatClampNeg = p.toInt.toNat := rfl
  rw [e0] at ha
  rw [e1] at hb
  rw [e2] at hc
  subst ha hb hc
  rfl
theorem kt_i3 {i c : Int32} (h0 : 0 ≤ c.toInt) (h1 : c.toInt ≤ 20) (h : c.toInt = 0 ∨ (0 ≤ i.toInt ∧ i.toInt + 3 * c.toInt ≤ 60)) : (i + 3 * c).toInt = i.toInt + 3 * c.toInt := by
  have m := kk_mul2 (x := 3) (y := c) (a := 3) (b := c.toInt) rfl rfl (by omega) (by omega)
  have r := kk_rng i
  exact kk_add2 (x := i) (y := 3 * c) (a := i.toInt) (b := 3 * c.toInt) rfl m (by omega) (by omega)
-- the reference's elements: 60 a SHELF; its loop
noncomputable def kt_el (it : Nat → Int64) (d : Int) : Nat → Int64 := fun j => it (60 * d.toNat + j)
theorem kt_el_e {it : Nat → Int64} {x j : Int32} {d : Int} (hd : 0 ≤ d) (hj : 0 ≤ j.toInt) (hx : x.toInt = 60 * d + j.toInt) : it x.toNatClampNeg = kt_el it d j.toNatClampNeg := by
  show it x.toInt.toNat = it (60 * d.toNat + j.toInt.toNat)
  rw [show x.toInt.toNat = 60 * d.toNat + j.toInt.toNat from by omega]
theorem kt_sz {n m : Int32} {W D A W' D' A' : Nat → Int32} (h : kt_st n W D A = kt_st m W' D' A') : n = m := (kt_st_i h).1
theorem kt_el_row {C : Nat → Nat → Int64} {it : Nat → Int64} {k : Nat} {w : Int32} {z : Int} (h : kk_el C it) (hk : k < 6) (hw : (k : Int) = w.toInt) (hz : z ≤ 60) : ∀ j : Nat, (j : Int) < z → C k j = kt_el it w.toInt j := fun j hj => by
  rw [h k j hk (by omega)]
  show it (60 * k + j) = it (60 * w.toInt.toNat + j)
  rw [show w.toInt.toNat = k from by omega]
theorem kr_T_m1 {c : Int → Int} {n : Int} (hn : 0 ≤ n) : -1 ≤ kr_T c n (n + 1) 0 := by
  have key : ∀ (f : Nat) (p : Int), 0 ≤ p → -1 ≤ kr_txt c n f p := by
    intro f
    induction f with
    | zero => intro p hp; show -1 ≤ p; omega
    | succ f ih =>
      intro p hp
      show -1 ≤ (if kr_line c p < 0 then -1 - kr_line c p else if n ≤ kr_line c p then -1 else if c (kr_line c p) = 59 then kr_txt c n f (kr_line c p + 1) else kr_line c p)
      by_cases h1 : kr_line c p < 0
      · rw [if_pos h1]; omega
      · rw [if_neg h1]
        by_cases h2 : n ≤ kr_line c p
        · rw [if_pos h2]; omega
        · rw [if_neg h2]
          by_cases h3 : c (kr_line c p) = 59
          · rw [if_pos h3]; exact ih _ (by omega)
          · rw [if_neg h3]; omega
  exact key _ 0 (by decide)
-- a PLOT is mended
noncomputable def kt_mnd (w : Int) (i v : Int32) (S : kt_S) : kt_S := (S.1, (fun j => if w = 0 ∧ (j : Int) = i.toInt then v else S.2.1 j), (fun j => if w = 1 ∧ (j : Int) = i.toInt then v else S.2.2.1 j), (fun j => if w = 2 ∧ (j : Int) = i.toInt then v else S.2.2.2 j))
noncomputable def kt_fa (w : Int) (S : kt_S) (i : Int32) : Int32 := if w = 0 then S.2.1 i.toNatClampNeg else if w = 1 then S.2.2.1 i.toNatClampNeg else S.2.2.2 i.toNatClampNeg
theorem kt_trm {n i v : Int32} {f g : Nat → Int32} {c : Prop} [Decidable c] (hi : 0 ≤ i.toInt ∧ i.toInt < n.toInt) (h : ∀ j : Nat, (j : Int) < n.toInt → g j = (if c ∧ (j : Int) = i.toInt then v else f j)) : kt_tr n g = fun j : Nat => if c ∧ (j : Int) = i.toInt then v else kt_tr n f j := by
  funext j
  unfold kt_tr
  by_cases hj : (j : Int) < n.toInt
  · rw [if_pos hj, h j hj, if_pos hj]
  · rw [if_neg hj, if_neg hj, if_neg (by omega)]
theorem kt_mnd_e {w : Int} {n i v : Int32} {W D A W' D' A' : Nat → Int32} (hi : 0 ≤ i.toInt ∧ i.toInt < n.toInt) (hW : ∀ j : Nat, (j : Int) < n.toInt → W' j = (if w = 0 ∧ (j : Int) = i.toInt then v else W j)) (hD : ∀ j : Nat, (j : Int) < n.toInt → D' j = (if w = 1 ∧ (j : Int) = i.toInt then v else D j)) (hA : ∀ j : Nat, (j : Int) < n.toInt → A' j = (if w = 2 ∧ (j : Int) = i.toInt then v else A j)) : kt_st n W' D' A' = kt_mnd w i v (kt_st n W D A) := by
  unfold kt_st kt_mnd
  rw [kt_trm hi hW, kt_trm hi hD, kt_trm hi hA]
theorem kt_upi {f : Nat → Int32} {i v : Int32} (h : 0 ≤ i.toInt) (j : Nat) : upd f i.toNatClampNeg v j = (if (j : Int) = i.toInt then v else f j) := by
  have := kk_tn h
  unfold upd
  by_cases c : j = i.toNatClampNeg
  · rw [if_pos c, if_pos (by omega)]
  · rw [if_neg c, if_neg (by omega)]
theorem kt_mnd_0 {n i v : Int32} {W D A W' : Nat → Int32} (hi : 0 ≤ i.toInt ∧ i.toInt < n.toInt) (e : W' = upd W i.toNatClampNeg v) : kt_st n W' D A = kt_mnd 0 i v (kt_st n W D A) := by
  subst e
  refine kt_mnd_e hi (fun j hj => ?_) (fun j hj => ?_) (fun j hj => ?_)
  · rw [kt_upi hi.1]
    by_cases c : (j : Int) = i.toInt
    · rw [if_pos c, if_pos ⟨rfl, c⟩]
    · rw [if_neg c, if_neg (fun q => c q.2)]
  · rw [if_neg (fun q => absurd q.1 (by decide))]
  · rw [if_neg (fun q => absurd q.1 (by decide))]
theorem kt_mnd_1 {n i v : Int32} {W D A D' : Nat → Int32} (hi : 0 ≤ i.toInt ∧ i.toInt < n.toInt) (e : D' = upd D i.toNatClampNeg v) : kt_st n W D' A = kt_mnd 1 i v (kt_st n W D A) := by
  subst e
  refine kt_mnd_e hi (fun j hj => ?_) (fun j hj => ?_) (fun j hj => ?_)
  · rw [if_neg (fun q => absurd q.1 (by decide))]
  · rw [kt_upi hi.1]
    by_cases c : (j : Int) = i.toInt
    · rw [if_pos c, if_pos ⟨rfl, c⟩]
    · rw [if_neg c, if_neg (fun q => c q.2)]
  · rw [if_neg (fun q => absurd q.1 (by decide))]
theorem kt_mnd_2 {n i v : Int32} {W D A A' : Nat → Int32} (hi : 0 ≤ i.toInt ∧ i.toInt < n.toInt) (e : A' = upd A i.toNatClampNeg v) : kt_st n W D A' = kt_mnd 2 i v (kt_st n W D A) := by
  subst e
  refine kt_mnd_e hi (fun j hj => ?_) (fun j hj => ?_) (fun j hj => ?_)
  · rw [if_neg (fun q => absurd q.1 (by decide))]
  · rw [if_neg (fun q => absurd q.1 (by decide))]
  · rw [kt_upi hi.1]
    by_cases c : (j : Int) = i.toInt
    · rw [if_pos c, if_pos ⟨rfl, c⟩]
    · rw [if_neg c, if_neg (fun q => c q.2)]
-- the reference: the place of it in the one array
theorem kt_mnd_r {n i v x : Int32} {m m' : Nat → Int32} {s w : Int} (hs : 0 ≤ s ∧ s ≤ 6) (hw : 0 ≤ w ∧ w ≤ 2) (hi : 0 ≤ i.toInt ∧ i.toInt < n.toInt) (hn : n.toInt ≤ 40) (hx : x.toInt = 280 * w + 40 * s + i.toInt) (e : m' = upd m x.toNatClampNeg v) : kt_st n (kt_w m' s) (kt_d m' s) (kt_a m' s) = kt_mnd w i v (kt_st n (kt_w m s) (kt_d m s) (kt_a m s)) := by
  subst e
  have ex : (x.toNatClampNeg : Int) = x.toInt := kk_tn (by omega)
  refine kt_mnd_e hi (fun j hj => ?_) (fun j hj => ?_) (fun j hj => ?_)
  · show upd m x.toNatClampNeg v (40 * s.toNat + j) = if w = 0 ∧ (j : Int) = i.toInt then v else m (40 * s.toNat + j)
    unfold upd
    by_cases c : w = 0 ∧ (j : Int) = i.toInt
    · rw [if_pos c, if_pos (by omega)]
    · rw [if_neg c, if_neg (by omega)]
  · show upd m x.toNatClampNeg v (280 + 40 * s.toNat + j) = if w = 1 ∧ (j : Int) = i.toInt then v else m (280 + 40 * s.toNat + j)
    unfold upd
    by_cases c : w = 1 ∧ (j : Int) = i.toInt
    · rw [if_pos c, if_pos (by omega)]
    · rw [if_neg c, if_neg (by omega)]
  · show upd m x.toNatClampNeg v (560 + 40 * s.toNat + j) = if w = 2 ∧ (j : Int) = i.toInt then v else m (560 + 40 * s.toNat + j)
    unfold upd
    by_cases c : w = 2 ∧ (j : Int) = i.toInt
    · rw [if_pos c, if_pos (by omega)]
    · rw [if_neg c, if_neg (by omega)]
theorem kt_mnd_o {v x : Int32} {m m' : Nat → Int32} {s w i : Int} (hs : 0 ≤ s ∧ s ≤ 6) (hw : 0 ≤ w ∧ w ≤ 2) (hi : 0 ≤ i ∧ i < 40) (hx : x.toInt = 280 * w + 40 * s + i) (e : m' = upd m x.toNatClampNeg v) : kt_oth m m' s := by
  subst e
  have ex : (x.toNatClampNeg : Int) = x.toInt := kk_tn (by omega)
  intro t h0 h1 h2 j hj
  unfold kt_w kt_d kt_a upd
  refine ⟨?_, ?_, ?_⟩ <;> exact if_neg (by omega)
theorem kt_fa_0 {n i : Int32} {W D A : Nat → Int32} {r : Int} (hi : 0 ≤ i.toInt ∧ i.toInt < n.toInt) (h : r = (W i.toNatClampNeg).toInt) : r = (kt_fa 0 (kt_st n W D A) i).toInt := by
  have := kk_tn hi.1
  show _ = (kt_tr n W i.toNatClampNeg).toInt
  rw [kt_tr_v (by omega)]
  exact h
theorem kt_fa_1 {n i : Int32} {W D A : Nat → Int32} {r : Int} (hi : 0 ≤ i.toInt ∧ i.toInt < n.toInt) (h : r = (D i.toNatClampNeg).toInt) : r = (kt_fa 1 (kt_st n W D A) i).toInt := by
  have := kk_tn hi.1
  show _ = (kt_tr n D i.toNatClampNeg).toInt
  rw [kt_tr_v (by omega)]
  exact h
theorem kt_fa_2 {n i : Int32} {W D A : Nat → Int32} {r : Int} (hi : 0 ≤ i.toInt ∧ i.toInt < n.toInt) (h : r = (A i.toNatClampNeg).toInt) : r = (kt_fa 2 (kt_st n W D A) i).toInt := by
  have := kk_tn hi.1
  show _ = (kt_tr n A i.toNatClampNeg).toInt
  rw [kt_tr_v (by omega)]
  exact h
theorem kt_fa_r {n i x : Int32} {m : Nat → Int32} {s w r : Int} (hs : 0 ≤ s ∧ s ≤ 6) (hw : 0 ≤ w ∧ w ≤ 2) (hi : 0 ≤ i.toInt ∧ i.toInt < n.toInt) (hx : x.toInt = 280 * w + 40 * s + i.toInt) (h : r = (m x.toNatClampNeg).toInt) : r = (kt_fa w (kt_st n (kt_w m s) (kt_d m s) (kt_a m s)) i).toInt := by
  have ei := kk_tn hi.1
  have ex : x.toNatClampNeg = x.toInt.toNat := rfl
  have ei2 : i.toNatClampNeg = i.toInt.toNat := rfl
  rcases (show w = 0 ∨ w = 1 ∨ w = 2 from by omega) with rfl | rfl | rfl
  · refine kt_fa_0 hi (h.trans ?_)
    show _ = (m (40 * s.toNat + i.toNatClampNeg)).toInt
    rw [ex, ei2, show x.toInt.toNat = 40 * s.toNat + i.toInt.toNat from by omega]
  · refine kt_fa_1 hi (h.trans ?_)
    show _ = (m (280 + 40 * s.toNat + i.toNatClampNeg)).toInt
    rw [ex, ei2, show x.toInt.toNat = 280 + 40 * s.toNat + i.toInt.toNat from by omega]
  · refine kt_fa_2 hi (h.trans ?_)
    show _ = (m (560 + 40 * s.toNat + i.toNatClampNeg)).toInt
    rw [ex, ei2, show x.toInt.toNat = 560 + 40 * s.toNat + i.toInt.toNat from by omega]
-- changes: which are kept, how many of them stand
noncomputable abbrev kz_S := Int32 × Int32 × (Nat → Int × Int32 × Int32)
noncomputable def kz_tr (n : Int) (f : Nat → Int × Int32 × Int32) : Nat → Int × Int32 × Int32 := fun k => if (k : Int) < n then f k else (0, 0, 0)
noncomputable def kz_at (p w : Int32) : Int := 280 * w.toInt + 40 * (p.toInt / 100) + p.toInt % 100
noncomputable def kz_c (done kept : Int32) (P H B A : Nat → Int32) : kz_S := (done, kept, kz_tr kept.toInt (fun k => (kz_at (P k) (H k), B k, A k)))
noncomputable def kz_r (done kept : Int32) (C B A : Nat → Int32) : kz_S := (done, kept, kz_tr kept.toInt (fun k => ((C k).toInt, B k, A k)))
noncomputable def kz_rem (at_ : Int) (b a : Int32) (Z : kz_S) : kz_S :=
  if Z.1.toInt = 40 then (40, 40, kz_tr 40 (fun k => if (k : Int) = 39 then (at_, b, a) else Z.2.2 (k + 1)))
  else (Z.1 + 1, Z.1 + 1, kz_tr (Z.1.toInt + 1) (fun k => if (k : Int) = Z.1.toInt then (at_, b, a) else Z.2.2 k))
def kz_dn (f g : Nat → Int32) (p : Int) : Prop := ∀ j : Nat, j < 40 → f j = (if (j : Int) + 1 < p then g (j + 1) else g j)
theorem kz_dn_0 {f : Nat → Int32} {p : Int} (h : p ≤ 1) : kz_dn f f p := fun j _ => (if_neg (by omega)).symm
theorem kz_dn_s {f g : Nat → Int32} {p r : Int32} {p' : Int} (h : kz_dn f g p.toInt) (h0 : 1 ≤ p.toInt ∧ p.toInt < 40) (hr : r.toInt = p.toInt - 1) (hp : p' = p.toInt + 1) : kz_dn (upd f r.toNatClampNeg (f p.toNatClampNeg)) g p' := by
  subst hp
  intro j hj
  have e1 : (p.toNatClampNeg : Int) = p.toInt := kk_tn (by omega)
  have e2 : (r.toNatClampNeg : Int) = r.toInt := kk_tn (by omega)
  unfold upd
  by_cases c : j = r.toNatClampNeg
  · rw [if_pos c, h _ (by omega), if_neg (by omega), if_pos (by omega), show p.toNatClampNeg = j + 1 from by omega]
  · rw [if_neg c, h j hj]
    by_cases c2 : (j : Int) + 1 < p.toInt
    · rw [if_pos c2, if_pos (by omega)]
    · rw [if_neg c2, if_neg (by omega)]
theorem kz_tr_e {n : Int} {f g : Nat → Int × Int32 × Int32} (h : ∀ k : Nat, (k : Int) < n → f k = g k) : kz_tr n f = kz_tr n g := by
  funext k
  unfold kz_tr
  by_cases c : (k : Int) < n
  · rw [if_pos c, if_pos c, h k c]
  · rw [if_neg c, if_neg c]
theorem kz_tr_v {n : Int} {f : Nat → Int × Int32 × Int32} {k : Nat} (h : (k : Int) < n) : kz_tr n f k = f k := if_pos h
-- remembered: by the class, by the reference
theorem kz_rem_c {d d1 d2 k p w b a : Int32} {P H B A P0 H0 B0 A0 : Nat → Int32} {at_ : Int} (hd : 0 ≤ d.toInt ∧ d.toInt ≤ 40) (hk : d.toInt ≤ k.toInt) (hat : at_ = kz_at p w)
    (h : (d.toInt = 40 ∧ d1.toInt = 39 ∧ kz_dn P P0 40 ∧ kz_dn H H0 40 ∧ kz_dn B B0 40 ∧ kz_dn A A0 40) ∨ (d.toInt < 40 ∧ d1.toInt = d.toInt ∧ P = P0 ∧ H = H0 ∧ B = B0 ∧ A = A0)) (hd2 : d2.toInt = d1.toInt + 1) : kz_c d2 d2 (upd P d1.toNatClampNeg p) (upd H d1.toNatClampNeg w) (upd B d1.toNatClampNeg b) (upd A d1.toNatClampNeg a) = kz_rem at_ b a (kz_c d k P0 H0 B0 A0) := by
  subst hat
  rcases h with ⟨h1, h2, hP, hH, hB, hA⟩ | ⟨h1, h2, rfl, rfl, rfl, rfl⟩
  · have e2 : d2 = 40 := Int32.toInt_inj.mp (by show d2.toInt = 40; omega)
    subst e2
    unfold kz_rem
    rw [if_pos (show (kz_c d k P0 H0 B0 A0).1.toInt = 40 from h1)]
    unfold kz_c
    congr 2
    refine kz_tr_e (fun q hq => ?_)
    have hq : (q : Int) < 40 := hq
    have u := fun (f : Nat → Int32) (v : Int32) => kt_upi (f := f) (i := d1) (v := v) (by omega) q
    rw [u, u, u, u]
    by_cases c : (q : Int) = 39
    · rw [if_pos (by omega), if_pos (by omega), if_pos (by omega), if_pos (by omega), if_pos c]
    · rw [if_neg (by omega), if_neg (by omega), if_neg (by omega), if_neg (by omega), if_neg c]
      have e := kz_tr_v (n := k.toInt) (f := fun k => (kz_at (P0 k) (H0 k), B0 k, A0 k)) (k := q + 1) (by omega)
      show _ = kz_tr k.toInt (fun k => (kz_at (P0 k) (H0 k), B0 k, A0 k)) (q + 1)
      rw [e, hP q (by omega), hH q (by omega), hB q (by omega), hA q (by omega), if_pos (by omega), if_pos (by omega), if_pos (by omega), if_pos (by omega)]
  · have e2 : d2 = d + 1 := Int32.toInt_inj.mp (by have := kk_add2 (x := d) (y := 1) (a := d.toInt) (b := 1) rfl rfl (by omega) (by omega); omega)
    have e3 : d2.toInt = d.toInt + 1 := by omega
    unfold kz_rem
    rw [if_neg (show ¬ (kz_c d k P H B A).1.toInt = 40 from by show ¬ d.toInt = 40; omega)]
    show (d2, d2, kz_tr d2.toInt _) = (d + 1, d + 1, kz_tr (d.toInt + 1) _)
    rw [e3, e2]
    congr 2
    refine kz_tr_e (fun q hq => ?_)
    have u := fun (f : Nat → Int32) (v : Int32) => kt_upi (f := f) (i := d1) (v := v) (by omega) q
    rw [u, u, u, u]
    by_cases c : (q : Int) = d.toInt
    · rw [if_pos (by omega), if_pos (by omega), if_pos (by omega), if_pos (by omega), if_pos (show (q : Int) = (kz_c d k P H B A).1.toInt from c)]
    · rw [if_neg (by omega), if_neg (by omega), if_neg (by omega), if_neg (by omega), if_neg (show ¬ (q : Int) = (kz_c d k P H B A).1.toInt from c)]
      show _ = kz_tr k.toInt (fun k => (kz_at (P k) (H k), B k, A k)) q
      exact (kz_tr_v (n := k.toInt) (f := fun k => (kz_at (P k) (H k), B k, A k)) (k := q) (by omega)).symm
theorem kz_rem_r {d d1 d2 k x b a : Int32} {C B A C0 B0 A0 : Nat → Int32} {at_ : Int} (hd : 0 ≤ d.toInt ∧ d.toInt ≤ 40) (hk : d.toInt ≤ k.toInt) (hat : at_ = x.toInt)
    (h : (d.toInt = 40 ∧ d1.toInt = 39 ∧ kz_dn C C0 40 ∧ kz_dn B B0 40 ∧ kz_dn A A0 40) ∨ (d.toInt < 40 ∧ d1.toInt = d.toInt ∧ C = C0 ∧ B = B0 ∧ A = A0)) (hd2 : d2.toInt = d1.toInt + 1) : kz_r d2 d2 (upd C d1.toNatClampNeg x) (upd B d1.toNatClampNeg b) (upd A d1.toNatClampNeg a) = kz_rem at_ b a (kz_r d k C0 B0 A0) := by
  subst hat
  rcases h with ⟨h1, h2, hC, hB, hA⟩ | ⟨h1, h2, rfl, rfl, rfl⟩
  · have e2 : d2 = 40 := Int32.toInt_inj.mp (by show d2.toInt = 40; omega)
    subst e2
    unfold kz_rem
    rw [if_pos (show (kz_r d k C0 B0 A0).1.toInt = 40 from h1)]
    unfold kz_r
    congr 2
    refine kz_tr_e (fun q hq => ?_)
    have hq : (q : Int) < 40 := hq
    have u := fun (f : Nat → Int32) (v : Int32) => kt_upi (f := f) (i := d1) (v := v) (by omega) q
    rw [u, u, u]
    by_cases c : (q : Int) = 39
    · rw [if_pos (by omega), if_pos (by omega), if_pos (by omega), if_pos c]
    · rw [if_neg (by omega), if_neg (by omega), if_neg (by omega), if_neg c]
      have e := kz_tr_v (n := k.toInt) (f := fun k => ((C0 k).toInt, B0 k, A0 k)) (k := q + 1) (by omega)
      show _ = kz_tr k.toInt (fun k => ((C0 k).toInt, B0 k, A0 k)) (q + 1)
      rw [e, hC q (by omega), hB q (by omega), hA q (by omega), if_pos (by omega), if_pos (by omega), if_pos (by omega)]
  · have e2 : d2 = d + 1 := Int32.toInt_inj.mp (by have := kk_add2 (x := d) (y := 1) (a := d.toInt) (b := 1) rfl rfl (by omega) (by omega); omega)
    have e3 : d2.toInt = d.toInt + 1 := by omega
    unfold kz_rem
    rw [if_neg (show ¬ (kz_r d k C B A).1.toInt = 40 from by show ¬ d.toInt = 40; omega)]
    show (d2, d2, kz_tr d2.toInt _) = (d + 1, d + 1, kz_tr (d.toInt + 1) _)
    rw [e3, e2]
    congr 2
    refine kz_tr_e (fun q hq => ?_)
    have u := fun (f : Nat → Int32) (v : Int32) => kt_upi (f := f) (i := d1) (v := v) (by omega) q
    rw [u, u, u]
    by_cases c : (q : Int) = d.toInt
    · rw [if_pos (by omega), if_pos (by omega), if_pos (by omega), if_pos (show (q : Int) = (kz_r d k C B A).1.toInt from c)]
    · rw [if_neg (by omega), if_neg (by omega), if_neg (by omega), if_neg (show ¬ (q : Int) = (kz_r d k C B A).1.toInt from c)]
      show _ = kz_tr k.toInt (fun k => ((C k).toInt, B k, A k)) q
      exact (kz_tr_v (n := k.toInt) (f := fun k => ((C k).toInt, B k, A k)) (k := q) (by omega)).symm
-- mended, undone: what changes of a STREET and of the CHANGES
theorem kz_dn_w {f g : Nat → Int32} {p q : Int} (h : kz_dn f g p) (e : p = q) : kz_dn f g q := e ▸ h
theorem kt_mnd_s {w : Int} {i v : Int32} {S : kt_S} (hw : 0 ≤ w ∧ w ≤ 2) (hi : 0 ≤ i.toInt) (h : (kt_fa w S i).toInt = v.toInt) : kt_mnd w i v S = S := by
  have e : kt_fa w S i = v := Int32.toInt_inj.mp h
  subst e
  obtain ⟨n, W, D, A⟩ := S
  have hk := kk_tn hi
  have key : ∀ (c : Int) (f : Nat → Int32), (w = c → f i.toNatClampNeg = kt_fa w (n, W, D, A) i) → (fun j : Nat => if w = c ∧ (j : Int) = i.toInt then kt_fa w (n, W, D, A) i else f j) = f := fun c f hf => by
    funext j
    by_cases q : w = c ∧ (j : Int) = i.toInt
    · rw [if_pos q, ← hf q.1, show i.toNatClampNeg = j from by omega]
    · rw [if_neg q]
  unfold kt_mnd
  have k0 := key 0 W (fun q => by unfold kt_fa; rw [if_pos q])
  have k1 := key 1 D (fun q => by unfold kt_fa; rw [if_neg (by omega), if_pos q])
  have k2 := key 2 A (fun q => by unfold kt_fa; rw [if_neg (by omega), if_neg (by omega)])
  show (n, _, _, _) = (n, W, D, A)
  rw [k0, k1, k2]
noncomputable def kz_md (w at_ : Int) (i v : Int32) (S : kt_S) (Z : kz_S) : kz_S := if (kt_fa w S i).toInt = v.toInt then Z else kz_rem at_ (kt_fa w S i) v Z
theorem kz_md_s {w at_ : Int} {i v : Int32} {S : kt_S} {Z : kz_S} (h : (kt_fa w S i).toInt = v.toInt) : Z = kz_md w at_ i v S Z := (if_pos h).symm
theorem kz_md_n {w at_ : Int} {i v x : Int32} {S : kt_S} {Z Z1 : kz_S} (h : (kt_fa w S i).toInt ≠ v.toInt) (hx : x.toInt = (kt_fa w S i).toInt) (e : Z1 = kz_rem at_ x v Z) : Z1 = kz_md w at_ i v S Z := by
  have ex : x = kt_fa w S i := Int32.toInt_inj.mp hx
  subst ex
  exact e.trans (if_neg h).symm
-- which are kept: the new one, or some that were
def kz_sub (P1 H1 P H : Nat → Int32) (p w : Int32) (d k1 : Int) : Prop := ∀ k : Nat, (k : Int) < k1 → (P1 k = p ∧ H1 k = w) ∨ ∃ j : Nat, (j : Int) < d ∧ P1 k = P j ∧ H1 k = H j
theorem kz_sub_c {d d1 d2 p w : Int32} {P H P0 H0 : Nat → Int32} (hd : 0 ≤ d.toInt ∧ d.toInt ≤ 40) (h : (d.toInt = 40 ∧ d1.toInt = 39 ∧ kz_dn P P0 40 ∧ kz_dn H H0 40) ∨ (d.toInt < 40 ∧ d1.toInt = d.toInt ∧ P = P0 ∧ H = H0)) (hd2 : d2.toInt = d1.toInt + 1) : kz_sub (upd P d1.toNatClampNeg p) (upd H d1.toNatClampNeg w) P0 H0 p w d.toInt d2.toInt := by
  intro k hk
  have u := fun (f : Nat → Int32) (v : Int32) => kt_upi (f := f) (i := d1) (v := v) (by omega) k
  rw [u, u]
  by_cases c : (k : Int) = d1.toInt
  · exact Or.inl ⟨by rw [if_pos c], by rw [if_pos c]⟩
  · rw [if_neg c, if_neg c]
    rcases h with ⟨h1, h2, hP, hH⟩ | ⟨h1, h2, rfl, rfl⟩
    · refine Or.inr ⟨k + 1, by omega, ?_, ?_⟩
      · rw [hP k (by omega), if_pos (by omega)]
      · rw [hH k (by omega), if_pos (by omega)]
    · exact Or.inr ⟨k, by omega, rfl, rfl⟩
def kz_ok (n : Int) (SZ : Nat → Int32) (kept : Int) (P H : Nat → Int32) : Prop := ∀ k : Nat, (k : Int) < kept → 0 ≤ (P k).toInt ∧ (P k).toInt / 100 < n ∧ (P k).toInt % 100 < (SZ ((P k).toInt / 100).toNat).toInt ∧ 0 ≤ (H k).toInt ∧ (H k).toInt ≤ 2
-- what ties the CHANGES of both
def kz_cz (n : Int) (SZ : Nat → Int32) (d k : Int32) (P H B A : Nat → Int32) (d1 k1 : Int32) (C B1 A1 : Nat → Int32) : Prop := kz_c d k P H B A = kz_r d1 k1 C B1 A1 ∧ kz_ok n SZ k.toInt P H ∧ d.toInt ≤ k.toInt
theorem kz_cz_0 {n : Int} {SZ : Nat → Int32} {P H B A C B1 A1 : Nat → Int32} : kz_cz n SZ 0 0 P H B A 0 0 C B1 A1 := by
  refine ⟨?_, fun k hk => absurd hk (by show ¬ ((k : Int) < 0); omega), Int.le_refl _⟩
  show ((0 : Int32), (0 : Int32), _) = ((0 : Int32), (0 : Int32), _)
  congr 2
  all_goals exact kz_tr_e (fun k hk => absurd hk (by show ¬ ((k : Int) < 0); omega))
theorem kz_e {d k d1 k1 : Int32} {P H B A C B1 A1 : Nat → Int32} (h : kz_c d k P H B A = kz_r d1 k1 C B1 A1) : d = d1 ∧ k = k1 ∧ ∀ q : Nat, (q : Int) < k.toInt → kz_at (P q) (H q) = (C q).toInt ∧ B q = B1 q ∧ A q = A1 q := by
  have h1 : d = d1 := congrArg Prod.fst h
  have h2 : k = k1 := congrArg (fun z : kz_S => z.2.1) h
  refine ⟨h1, h2, fun q hq => ?_⟩
  have h3 := congrFun (congrArg (fun z : kz_S => z.2.2) h) q
  have h4 : kz_tr k.toInt (fun k => (kz_at (P k) (H k), B k, A k)) q = kz_tr k1.toInt (fun k => ((C k).toInt, B1 k, A1 k)) q := h3
  rw [kz_tr_v hq, kz_tr_v (by rw [← h2]; exact hq)] at h4
  exact ⟨congrArg Prod.fst h4, congrArg (fun z : Int × Int32 × Int32 => z.2.1) h4, congrArg (fun z : Int × Int32 × Int32 => z.2.2) h4⟩
-- which CHANGES are valid holds on where streets grow
theorem kz_ok_g {n n' k : Int} {SZ SZ' : Nat → Int32} {P H : Nat → Int32} (h : kz_ok n SZ k P H) (hn : n ≤ n') (hs : ∀ s : Nat, (s : Int) < n → (SZ s).toInt ≤ (SZ' s).toInt) : kz_ok n' SZ' k P H := fun q hq => by
  obtain ⟨a, b, c, e, f⟩ := h q hq
  have := hs ((P q).toInt / 100).toNat (by omega)
  exact ⟨a, by omega, by omega, e, f⟩
theorem kz_cz_g {n n' : Int} {SZ SZ' : Nat → Int32} {d k d1 k1 : Int32} {P H B A C B1 A1 : Nat → Int32} (h : kz_cz n SZ d k P H B A d1 k1 C B1 A1) (hn : n ≤ n') (hs : ∀ s : Nat, (s : Int) < n → (SZ s).toInt ≤ (SZ' s).toInt) : kz_cz n' SZ' d k P H B A d1 k1 C B1 A1 := ⟨h.1, kz_ok_g h.2.1 hn hs, h.2.2⟩
theorem kz_up {SZ : Nat → Int32} {k : Nat} {z : Int32} {n : Int} (h : n ≤ (k : Int) ∨ (SZ k).toInt ≤ z.toInt) : ∀ s : Nat, (s : Int) < n → (SZ s).toInt ≤ (va_up SZ k z s).toInt := fun s hs => by
  by_cases c : s = k
  · subst c
    rw [va_up_self]
    omega
  · rw [va_up_ne _ _ c]
    exact Int.le_refl _
-- mended: both sides
theorem kz_cz_m {n : Int} {SZ : Nat → Int32} {d k d1 k1 e f e1 f1 p w v : Int32} {P H B A C B1 A1 P' H' B' A' C' B1' A1' : Nat → Int32} {S S1 : kt_S} {i : Int32} (h : kz_cz n SZ d k P H B A d1 k1 C B1 A1) (hp : 0 ≤ p.toInt ∧ p.toInt / 100 < n ∧ p.toInt % 100 < (SZ (p.toInt / 100).toNat).toInt ∧ 0 ≤ w.toInt ∧ w.toInt ≤ 2) (hS : S = S1)
    (h1 : kz_c e f P' H' B' A' = kz_md w.toInt (kz_at p w) i v S (kz_c d k P H B A)) (h2 : kz_r e1 f1 C' B1' A1' = kz_md w.toInt (kz_at p w) i v S1 (kz_r d1 k1 C B1 A1)) (hs : kz_sub P' H' P H p w k.toInt f.toInt) (he : e.toInt ≤ f.toInt) : kz_cz n SZ e f P' H' B' A' e1 f1 C' B1' A1' := by
  subst hS
  refine ⟨h1.trans ((congrArg _ h.1).trans h2.symm), fun q hq => ?_, he⟩
  rcases hs q hq with ⟨a, b⟩ | ⟨j, hj, a, b⟩
  · rw [a, b]
    exact hp
  · rw [a, b]
    exact h.2.1 j hj
-- undone, done again: the same place of both
theorem kz_cz_u {n : Int} {SZ : Nat → Int32} {d k d1 k1 e e1 : Int32} {P H B A C B1 A1 : Nat → Int32} (h : kz_cz n SZ d k P H B A d1 k1 C B1 A1) (he : e = e1) (hk : e.toInt ≤ k.toInt) : kz_cz n SZ e k P H B A e1 k1 C B1 A1 := by
  subst he
  refine ⟨?_, h.2.1, hk⟩
  have h2 := (kz_e h.1).2.1
  show (e, k, _) = (e, k1, _)
  rw [h2]
  have h3 := congrArg (fun z : kz_S => z.2.2) h.1
  have h4 : kz_tr k.toInt (fun k => (kz_at (P k) (H k), B k, A k)) = kz_tr k1.toInt (fun k => ((C k).toInt, B1 k, A1 k)) := h3
  rw [h2] at h4
  rw [h4]
theorem kz_cz_at {n : Int} {SZ : Nat → Int32} {d k d1 k1 x : Int32} {P H B A C B1 A1 : Nat → Int32} (h : kz_cz n SZ d k P H B A d1 k1 C B1 A1) (h0 : 0 ≤ x.toInt) (h1 : x.toInt < k.toInt) : (C x.toNatClampNeg).toInt = kz_at (P x.toNatClampNeg) (H x.toNatClampNeg) ∧ B x.toNatClampNeg = B1 x.toNatClampNeg ∧ A x.toNatClampNeg = A1 x.toNatClampNeg ∧ 0 ≤ (P x.toNatClampNeg).toInt ∧ (P x.toNatClampNeg).toInt / 100 < n ∧ (P x.toNatClampNeg).toInt % 100 < (SZ ((P x.toNatClampNeg).toInt / 100).toNat).toInt ∧ 0 ≤ (H x.toNatClampNeg).toInt ∧ (H x.toNatClampNeg).toInt ≤ 2 := by
  have hk := kk_tn h0
  obtain ⟨_, _, h3⟩ := kz_e h.1
  obtain ⟨a, b, c⟩ := h3 x.toNatClampNeg (by omega)
  exact ⟨a.symm, b, c, h.2.1 x.toNatClampNeg (by omega)⟩
-- PLOTS out of a ROW: never fewer
theorem kt_pls_ge {e : Nat → Int64} {sz i : Int} : ∀ (f : Nat) (c : Int) (S : kt_S), S.1.toInt ≤ 40 → S.1.toInt ≤ (kt_pls e sz i f c S).2.1.toInt ∧ (kt_pls e sz i f c S).2.1.toInt ≤ 40 := by
  intro f
  induction f with
  | zero => exact fun c S h => ⟨Int.le_refl _, h⟩
  | succ f ih =>
    intro c S h
    by_cases hc : kt_can e sz (i + 3 * c) S
    · have e1 : kt_pls e sz i (f + 1) c S = kt_pls e sz i f (c + 1) (kt_put e (i + 3 * c) S) := if_pos hc
      have h40 : S.1.toInt < 40 := hc.1
      have e2 : (kt_put e (i + 3 * c) S).1 = S.1 + 1 := rfl
      have hr := kk_rng S.1
      have e3 : (S.1 + 1).toInt = S.1.toInt + 1 := by
        have h0 : S.1.toInt < 40 := h40
        exact kk_add2 (x := S.1) (y := 1) (a := S.1.toInt) (b := 1) rfl rfl (by omega) (by omega)
      have := ih (c + 1) (kt_put e (i + 3 * c) S) (by rw [e2]; omega)
      rw [e1]
      rw [e2, e3] at this
      exact ⟨by omega, this.2⟩
    · have e1 : kt_pls e sz i (f + 1) c S = (c, S) := if_neg hc
      rw [e1]
      exact ⟨Int.le_refl _, h⟩
theorem kz_sub_r {P H : Nat → Int32} {p w : Int32} {k : Int} : kz_sub P H P H p w k k := fun q hq => Or.inr ⟨q, hq, rfl, rfl⟩
theorem kz_sub_w {P1 H1 P H : Nat → Int32} {p w : Int32} {d d' k : Int} (h : kz_sub P1 H1 P H p w d k) (hd : d ≤ d') : kz_sub P1 H1 P H p w d' k := fun q hq => (h q hq).elim Or.inl (fun ⟨j, hj, a, b⟩ => Or.inr ⟨j, by omega, a, b⟩)
theorem kz_at_i {x p w s i : Int32} (hx : x.toInt = 280 * w.toInt + 40 * s.toInt + i.toInt) (hs : s.toInt = p.toInt / 100) (hi : i.toInt = p.toInt % 100) : x.toInt = kz_at p w := by
  unfold kz_at
  omega
-- mended by the reference
theorem kz_me_r {w s : Int} {n i v x : Int32} {M M' : Nat → Int32} {Z Z' : kz_S} {at_ : Int} (hs : 0 ≤ s ∧ s ≤ 6) (hw : 0 ≤ w ∧ w ≤ 2) (hi : 0 ≤ i.toInt ∧ i.toInt < n.toInt) (hn : n.toInt ≤ 40) (hx : x.toInt = 280 * w + 40 * s + i.toInt) (hf : (M x.toNatClampNeg).toInt = (kt_fa w (kt_st n (kt_w M s) (kt_d M s) (kt_a M s)) i).toInt) (hat : x.toInt = at_)
    (h : ((M x.toNatClampNeg).toInt = v.toInt → M' = M ∧ Z' = Z) ∧ ((M x.toNatClampNeg).toInt ≠ v.toInt → M' = upd M x.toNatClampNeg v ∧ Z' = kz_rem x.toInt (M x.toNatClampNeg) v Z)) : kt_st n (kt_w M' s) (kt_d M' s) (kt_a M' s) = kt_mnd w i v (kt_st n (kt_w M s) (kt_d M s) (kt_a M s)) ∧ Z' = kz_md w at_ i v (kt_st n (kt_w M s) (kt_d M s) (kt_a M s)) Z ∧ kt_oth M M' s := by
  by_cases c : (M x.toNatClampNeg).toInt = v.toInt
  · obtain ⟨e1, e2⟩ := h.1 c
    have c2 : (kt_fa w (kt_st n (kt_w M s) (kt_d M s) (kt_a M s)) i).toInt = v.toInt := by omega
    refine ⟨?_, ?_, ?_⟩
    · rw [e1]
      exact (kt_mnd_s hw hi.1 c2).symm
    · rw [e2]
      exact kz_md_s c2
    · rw [e1]
      exact kt_oth_r
  · obtain ⟨e1, e2⟩ := h.2 c
    refine ⟨kt_mnd_r hs hw hi hn hx e1, ?_, kt_mnd_o hs hw ⟨hi.1, by omega⟩ hx e1⟩
    rw [hat] at e2
    exact kz_md_n (by omega) hf e2
-- nothing of the CHANGES has changed
theorem kz_cz_n {n : Int} {SZ : Nat → Int32} {d k d1 k1 e f e1 f1 : Int32} {P H B A C B1 A1 P' H' B' A' C' B1' A1' : Nat → Int32} (h : kz_cz n SZ d k P H B A d1 k1 C B1 A1) (h1 : kz_c e f P' H' B' A' = kz_c d k P H B A) (h2 : kz_r e1 f1 C' B1' A1' = kz_r d1 k1 C B1 A1) (hP : P' = P) (hH : H' = H) : kz_cz n SZ e f P' H' B' A' e1 f1 C' B1' A1' := by
  have a : e = d := congrArg Prod.fst h1
  have b : f = k := congrArg (fun z : kz_S => z.2.1) h1
  exact ⟨h1.trans (h.1.trans h2.symm), by rw [b, hP, hH]; exact h.2.1, by rw [a, b]; exact h.2.2⟩
theorem kz_cz_same {n : Int} {SZ : Nat → Int32} {d k d1 k1 : Int32} {P H B A C B1 A1 : Nat → Int32} {j : Nat} (h : kz_cz n SZ d k P H B A d1 k1 C B1 A1) : kz_cz n (va_up SZ j (SZ j)) d k P H B A d1 k1 C B1 A1 := kz_cz_g h (Int.le_refl _) (kz_up (Or.inr (Int.le_refl _)))
-- where the latest CHANGE stands
theorem kz_pre {n : Int} {SZ : Nat → Int32} {d k d1 k1 x : Int32} {P H B A C B1 A1 : Nat → Int32} {j : Nat} (h : kz_cz n SZ d k P H B A d1 k1 C B1 A1) (h0 : 0 ≤ x.toInt) (h1 : x.toInt < k.toInt) (hn : n ≤ 6) (hs : 0 ≤ ((P x.toNatClampNeg) / 100 : Int32).toInt → ((P x.toNatClampNeg) / 100 : Int32).toInt < 6 → (j : Int) = ((P x.toNatClampNeg) / 100 : Int32).toInt) : 0 ≤ (P x.toNatClampNeg).toInt ∧ ((P x.toNatClampNeg) / 100 : Int32).toInt < n ∧ ((P x.toNatClampNeg) - (P x.toNatClampNeg) / 100 * 100 : Int32).toInt < (SZ j).toInt ∧ 0 ≤ (H x.toNatClampNeg).toInt ∧ (H x.toNatClampNeg).toInt ≤ 2 ∧ 0 ≤ ((P x.toNatClampNeg) / 100 : Int32).toInt ∧ (j : Int) = ((P x.toNatClampNeg) / 100 : Int32).toInt ∧ (C x.toNatClampNeg).toInt = 280 * (H x.toNatClampNeg).toInt + 40 * ((P x.toNatClampNeg) / 100 : Int32).toInt + ((P x.toNatClampNeg) - (P x.toNatClampNeg) / 100 * 100 : Int32).toInt ∧ 0 ≤ ((P x.toNatClampNeg) - (P x.toNatClampNeg) / 100 * 100 : Int32).toInt := by
  obtain ⟨a1, a2, a3, a4, a5, a6, a7, a8⟩ := kz_cz_at h h0 h1
  have e1 := kk_div (x := P x.toNatClampNeg) (k := 100) (n := 100) rfl (by decide) a4
  have e2 := kk_rem (x := P x.toNatClampNeg) (k := 100) (n := 100) rfl (by decide) a4
  have hq := hs (by omega) (by omega)
  unfold kz_at at a1
  have e3 : ((P x.toNatClampNeg).toInt / 100).toNat = j := by omega
  rw [e3] at a6
  exact ⟨a4, by omega, by omega, a7, a8, by omega, hq, by omega, by omega⟩
theorem kt_cw_un {n : Int} {SZ : Nat → Int32} {W D A : Nat → Nat → Int32} {plots may may' w d a P H B Aa C B1 A1 : Nat → Int32} {dd kk d1 k1 x v v1 sz : Int32} {j : Nat} (h : kt_cw n SZ W D A plots may) (hb : ∀ j : Nat, j < 7 → 0 ≤ (plots j).toInt ∧ (plots j).toInt ≤ 40) (hz : kz_cz n SZ dd kk P H B Aa d1 k1 C B1 A1) (h0 : 0 ≤ x.toInt) (h1 : x.toInt < kk.toInt) (hn : n ≤ 6) (hs : 0 ≤ ((P x.toNatClampNeg) / 100 : Int32).toInt → ((P x.toNatClampNeg) / 100 : Int32).toInt < 6 → (j : Int) = ((P x.toNatClampNeg) / 100 : Int32).toInt) (hv : v = v1)
    (e1 : kt_st sz w d a = kt_mnd (H x.toNatClampNeg).toInt ((P x.toNatClampNeg) - (P x.toNatClampNeg) / 100 * 100) v (kt_st (SZ j) (W j) (D j) (A j))) (e2 : may' = upd may (C x.toNatClampNeg).toNatClampNeg v1) : kt_cw n (va_up SZ j sz) (va_up W j w) (va_up D j d) (va_up A j a) plots may' := by
  subst hv
  obtain ⟨a1, a2, a3, a4, a5, a6, a7, a8, a9⟩ := kz_pre hz h0 h1 hn hs
  have eS := kt_cw_at h a6 a2 (by omega) a7
  have hj := kk_tn a6
  have hsz : SZ j = plots ((P x.toNatClampNeg) / 100 : Int32).toNatClampNeg := (kt_st_i eS).1
  have hb1 := hb ((P x.toNatClampNeg) / 100 : Int32).toNatClampNeg (by omega)
  refine kt_cw_set h hb a6 (by omega) a7 (kt_mnd_o ⟨a6, by omega⟩ ⟨a4, a5⟩ ⟨a9, by rw [hsz] at a3; omega⟩ a8 e2) kk_ps_refl (Or.inl ⟨rfl, a2⟩) (e1.trans ?_)
  rw [eS]
  exact (kt_mnd_r ⟨a6, by omega⟩ ⟨a4, a5⟩ ⟨a9, by rw [← hsz]; exact a3⟩ (by omega) a8 e2).symm
theorem kt_cw_same {n : Int} {SZ : Nat → Int32} {W D A : Nat → Nat → Int32} {plots may : Nat → Int32} {k : Nat} (h : kt_cw n SZ W D A plots may) : kt_cw n (va_up SZ k (SZ k)) (va_up W k (W k)) (va_up D k (D k)) (va_up A k (A k)) plots may := by
  intro j hj
  by_cases c : j = k
  · subst c
    rw [va_up_self, va_up_self, va_up_self, va_up_self]
    exact h j hj
  · rw [va_up_ne _ _ c, va_up_ne _ _ c, va_up_ne _ _ c, va_up_ne _ _ c]
    exact h j hj
theorem kt_cw_oth {n s : Int} {SZ : Nat → Int32} {W D A : Nat → Nat → Int32} {plots plots' may may' : Nat → Int32} (h : kt_cw n SZ W D A plots may) (hb : ∀ j : Nat, j < 7 → 0 ≤ (plots j).toInt ∧ (plots j).toInt ≤ 40) (hs : n ≤ s) (ho : kt_oth may may' s) (hp : kk_ps s plots plots') : kt_cw n SZ W D A plots' may' := by
  intro j hj
  obtain ⟨h1, h2⟩ := h j hj
  refine ⟨fun q => ?_, h2⟩
  rw [h1 q]
  exact (kt_oth_st ho (hp j (by omega) (by omega)) (by omega) (by omega) (hb j (by omega)).2).symm
theorem kt_cw_sz {n : Int} {SZ : Nat → Int32} {W D A : Nat → Nat → Int32} {plots may : Nat → Int32} {s : Int32} {k : Nat} (h : kt_cw n SZ W D A plots may) (h0 : 0 ≤ s.toInt) (h1 : s.toInt < n) (hk6 : k < 6) (hk : (k : Int) = s.toInt) : (SZ k).toInt = (plots s.toNatClampNeg).toInt := by
  rw [(kt_st_i (kt_cw_at h h0 h1 (by omega) hk)).1]
theorem kt_pls_full {e f : Nat → Int64} {z y i : Int} {n : Nat} {c : Int} {S T : kt_S} (hz : z = y) (he : ∀ j : Nat, (j : Int) < z → e j = f j) (hS : S = T) : kt_pls e z i n c S = kt_pls f y i n c T := by
  subst hz hS
  exact kt_pls_w he n c S
theorem kt_szle {n m : Int32} {W D A : Nat → Int32} {w d a : Int32} {W' D' A' : Nat → Int32} (h : kt_st m W' D' A' = kt_app w d a (kt_st n W D A)) (h40 : 0 ≤ n.toInt ∧ n.toInt < 40) : n.toInt ≤ m.toInt := by
  have e : m = n + 1 := kt_sz h
  have := kk_add2 (x := n) (y := 1) (a := n.toInt) (b := 1) rfl rfl (by omega) (by omega)
  rw [e]
  omega
theorem kt_plsle {e : Nat → Int64} {z i : Int} {k : Nat} {n m : Int32} {W D A W' D' A' : Nat → Int32} (h : kt_st m W' D' A' = (kt_pls e z i k 0 (kt_st n W D A)).2) (h40 : n.toInt ≤ 40) : n.toInt ≤ m.toInt := by
  have e1 := (kt_pls_ge (e := e) (sz := z) (i := i) k 0 (kt_st n W D A) h40).1
  have e2 : m = (kt_pls e z i k 0 (kt_st n W D A)).2.1 := congrArg (fun q : kt_S => q.1) h
  rw [e2]
  exact e1
-- what is asked of a STREET alone: sums, KINKS, turns, shares
-- sums go as an int goes (the cells of the first STREETs carry no bounds between calls): both sides add the same, and so nothing need be known of them
noncomputable def kx_sw (f : Nat → Int32) : Nat → Int32
  | 0 => 0
  | k + 1 => kx_sw f k + f k
noncomputable def kx_sum (f : Nat → Int32) (k : Nat) : Int := (kx_sw f k).toInt
noncomputable def kx_cw (f : Nat → Int32) : Nat → Int32
  | 0 => 0
  | k + 1 => if (f k).toInt = 0 then kx_cw f k else kx_cw f k + 1
noncomputable def kx_cnt (f : Nat → Int32) (k : Nat) : Int := (kx_cw f k).toInt
theorem kx_sum_e {f g : Nat → Int32} : ∀ k : Nat, (∀ j : Nat, j < k → f j = g j) → kx_sum f k = kx_sum g k := by
  intro k h
  refine congrArg Int32.toInt ?_
  induction k with
  | zero => rfl
  | succ k ih =>
    show kx_sw f k + f k = kx_sw g k + g k
    rw [ih (fun j hj => h j (by omega)), h k (by omega)]
theorem kx_sum_0 {f : Nat → Int32} {z : Int} (h : z = 0) : kx_sum f z.toNat = 0 := by
  rw [h]
  rfl
theorem kx_sum_s {f : Nat → Int32} {p p' s s' : Int32} (h : s.toInt = kx_sum f p.toInt.toNat) (h0 : 0 ≤ p.toInt) (hp : p'.toInt = p.toInt + 1) (hs : s' = s + f p.toNatClampNeg) : s'.toInt = kx_sum f p'.toInt.toNat := by
  have e : p'.toInt.toNat = p.toInt.toNat + 1 := by omega
  rw [e, hs, Int32.toInt_inj.mp h]
  rfl
theorem kx_sum_t {f : Nat → Int32} {p p' s y : Int32} (h : s.toInt = kx_sum f p.toInt.toNat) (h0 : 0 ≤ p.toInt) (hp : p'.toInt = p.toInt + 1) (hs : y.toInt = (f p.toNatClampNeg).toInt) : (s + y).toInt = kx_sum f p'.toInt.toNat :=
  kx_sum_s h h0 hp (by rw [Int32.toInt_inj.mp hs])
theorem kx_cnt_s {f : Nat → Int32} {p p' s s' : Int32} (h : s.toInt = kx_cnt f p.toInt.toNat) (h0 : 0 ≤ p.toInt) (hp : p'.toInt = p.toInt + 1) (hs : ((f p.toNatClampNeg).toInt = 0 ∧ s' = s) ∨ ((f p.toNatClampNeg).toInt ≠ 0 ∧ s' = s + 1)) : s'.toInt = kx_cnt f p'.toInt.toNat := by
  have e : p'.toInt.toNat = p.toInt.toNat + 1 := by omega
  have e2 : kx_cw f (p.toInt.toNat + 1) = if (f p.toNatClampNeg).toInt = 0 then kx_cw f p.toInt.toNat else kx_cw f p.toInt.toNat + 1 := rfl
  have hw : s = kx_cw f p.toInt.toNat := Int32.toInt_inj.mp h
  refine congrArg Int32.toInt ?_
  rw [e, e2, ← hw]
  rcases hs with ⟨a, b⟩ | ⟨a, b⟩
  · rw [if_pos a]
    exact b
  · rw [if_neg a]
    exact b
-- AT of a place of a STREET, KINKS of a STREET
noncomputable def kx_at (S : kt_S) (i : Int) : Int := kx_sum S.2.1 i.toNat
theorem kx_at_i {n : Int32} {W D A : Nat → Int32} {i r : Int} (h : r = kx_sum W i.toNat) (hi : i ≤ n.toInt) : r = kx_at (kt_st n W D A) i := by
  unfold kx_at
  rw [h]
  exact kx_sum_e _ (fun j hj => (kt_tr_v (by omega)).symm)
noncomputable def kx_mk (S : kt_S) (ab : Int) : Int := @ite Int (0 ≤ ab ∧ ab / 100 ≤ ab % 100 ∧ ab % 100 < S.1.toInt ∧ 0 < kx_at S S.1.toInt) (Classical.propDecidable _) ((((kx_sw S.2.1 (ab % 100 + 1).toNat - kx_sw S.2.1 (ab / 100).toNat) * 1000) / kx_sw S.2.1 S.1.toInt.toNat : Int32).toInt) (-1)
theorem kx_mk_n {n : Int32} {W D A : Nat → Int32} {ab r : Int} (h : ab < 0 ∨ ab % 100 < ab / 100 ∨ n.toInt ≤ ab % 100 ∨ kx_at (kt_st n W D A) n.toInt ≤ 0) (e : r = -1) : r = kx_mk (kt_st n W D A) ab := by
  unfold kx_mk
  have hn : (kt_st n W D A).1 = n := rfl
  rw [if_neg (by rw [hn]; omega)]
  exact e
theorem kx_len {f : Nat → Int32} {x y : Int32} {a b b1 : Int} (h1 : x.toInt = kx_sum f b1.toNat) (h2 : y.toInt = kx_sum f a.toNat) (e : b1 = b + 1) : (x - y : Int32).toInt = (kx_sw f (b + 1).toNat - kx_sw f a.toNat).toInt := by
  subst e
  rw [Int32.toInt_inj.mp h1, Int32.toInt_inj.mp h2]
theorem kx_sw_tr {n : Int32} {W : Nat → Int32} {k : Nat} (h : (k : Int) ≤ n.toInt) : kx_sw (kt_tr n W) k = kx_sw W k :=
  Int32.toInt_inj.mp (kx_sum_e (f := kt_tr n W) (g := W) k (fun j hj => kt_tr_v (by omega)))
theorem kx_mk_v {n q wh : Int32} {W D A : Nat → Int32} {ab : Int} (h : 0 ≤ ab ∧ ab / 100 ≤ ab % 100 ∧ ab % 100 < n.toInt) (hq : q = (kx_sw W (ab % 100 + 1).toNat - kx_sw W (ab / 100).toNat) * 1000) (hz : wh = kx_sw W n.toInt.toNat) (h0 : 0 < wh.toInt) : (q / wh : Int32).toInt = kx_mk (kt_st n W D A) ab := by
  have e1 : kx_sw (kt_tr n W) (ab % 100 + 1).toNat = kx_sw W (ab % 100 + 1).toNat := kx_sw_tr (by omega)
  have e2 : kx_sw (kt_tr n W) (ab / 100).toNat = kx_sw W (ab / 100).toNat := kx_sw_tr (by omega)
  have e3 : kx_sw (kt_tr n W) n.toInt.toNat = kx_sw W n.toInt.toNat := kx_sw_tr (by omega)
  have e4 : kx_at (kt_st n W D A) n.toInt = wh.toInt := congrArg Int32.toInt (e3.trans hz.symm)
  have hn : (kt_st n W D A).1 = n := rfl
  have hw : (kt_st n W D A).2.1 = kt_tr n W := rfl
  unfold kx_mk
  rw [if_pos (by rw [hn, e4]; exact ⟨h.1, h.2.1, h.2.2, h0⟩), hw, hn, e1, e2, e3, ← hz, ← hq]
theorem kx_mk_y {n ln wh : Int32} {W D A : Nat → Int32} {ab : Int} (h : 0 ≤ ab ∧ ab / 100 ≤ ab % 100 ∧ ab % 100 < n.toInt) (hl : ln.toInt = (kx_sw W (ab % 100 + 1).toNat - kx_sw W (ab / 100).toNat).toInt) (hz : wh.toInt = kx_at (kt_st n W D A) n.toInt) (h0 : 0 < wh.toInt) : ((ln * 1000) / wh : Int32).toInt = kx_mk (kt_st n W D A) ab := by
  have e3 : kx_sw (kt_tr n W) n.toInt.toNat = kx_sw W n.toInt.toNat := kx_sw_tr (by omega)
  exact kx_mk_v h (by rw [Int32.toInt_inj.mp hl]) ((Int32.toInt_inj.mp hz).trans e3) h0
theorem kx_mk_r {n x y z : Int32} {W D A : Nat → Int32} {ab : Int} (h : 0 ≤ ab ∧ ab / 100 ≤ ab % 100 ∧ ab % 100 < n.toInt) (hx : x.toInt = kx_sum W (ab % 100 + 1).toNat) (hy : y.toInt = kx_sum W (ab / 100).toNat) (hz : z.toInt = kx_sum W n.toInt.toNat) (h0 : 0 < z.toInt) : ((1000 * (x - y)) / z : Int32).toInt = kx_mk (kt_st n W D A) ab := by
  exact kx_mk_v h (by rw [Int32.mul_comm, Int32.toInt_inj.mp hx, Int32.toInt_inj.mp hy]) (Int32.toInt_inj.mp hz) h0
-- opaque versions (laid by opq2.py)
theorem kw_RI_x : ∃ F : (Int → Int) → (Nat → Int32) → Int → Int → Int → Int, F = kv_RI := ⟨_, rfl⟩
noncomputable def kw_RI : (Int → Int) → (Nat → Int32) → Int → Int → Int → Int := Classical.choose kw_RI_x
theorem kw_RI_eqn : kw_RI = kv_RI := Classical.choose_spec kw_RI_x
theorem kw_LI_x : ∃ F : (Int → Int) → (Nat → Int32) → Int → Int → Int → Int → Int → Int, F = kv_LI := ⟨_, rfl⟩
noncomputable def kw_LI : (Int → Int) → (Nat → Int32) → Int → Int → Int → Int → Int → Int := Classical.choose kw_LI_x
theorem kw_LI_eqn : kw_LI = kv_LI := Classical.choose_spec kw_LI_x
theorem kw_FI_x : ∃ F : (Int → Int) → Int → Int → Int → Int, F = kv_FI := ⟨_, rfl⟩
noncomputable def kw_FI : (Int → Int) → Int → Int → Int → Int := Classical.choose kw_FI_x
theorem kw_FI_eqn : kw_FI = kv_FI := Classical.choose_spec kw_FI_x
theorem kw_ix_x : ∃ F : Int → Nat, F = kv_ix := ⟨_, rfl⟩
noncomputable def kw_ix : Int → Nat := Classical.choose kw_ix_x
theorem kw_ix_eqn : kw_ix = kv_ix := Classical.choose_spec kw_ix_x
theorem kqo_L_S {c : Int → Int} {l l' k f f' q q1 e : Int} {S S1 S2 T : List Int32} {x : Int32} (hi : S ++ kq_L c l k f q = T) (hf : 0 < f) (h : (l = 0 ∧ c q = 124) ∨ (l = 1 ∧ c q = 38) ∨ (l = 2 ∧ 60 ≤ c q ∧ c q ≤ 62) ∨ (l = 3 ∧ (c q = 43 ∨ c q = 45)) ∨ (l = 4 ∧ (c q = 42 ∨ c q = 47 ∨ c q = 37))) (hl2 : l ≠ 2) (hl' : l' = l + 1) (hq1 : q1 = q + 1) (he : ko_R c l' k q1 = e) (hs1 : S1 = S ++ kq_R c l' k q1) (hs2 : S2 = S1 ++ [x]) (hx : x.toInt = c q) (hf' : f' = f - 1) : S2 ++ kq_L c l k f' e = T := by
  have key : ∀ (q_R : (Int → Int) → Int → Int → Int → Int), q_R = kr_R → ∀ {c : Int → Int} {l l' k f f' q q1 e : Int} {S S1 S2 T : List Int32} {x : Int32} (hi : S ++ kq_L c l k f q = T) (hf : 0 < f) (h : (l = 0 ∧ c q = 124) ∨ (l = 1 ∧ c q = 38) ∨ (l = 2 ∧ 60 ≤ c q ∧ c q ≤ 62) ∨ (l = 3 ∧ (c q = 43 ∨ c q = 45)) ∨ (l = 4 ∧ (c q = 42 ∨ c q = 47 ∨ c q = 37))) (hl2 : l ≠ 2) (hl' : l' = l + 1) (hq1 : q1 = q + 1) (he : q_R c l' k q1 = e) (hs1 : S1 = S ++ kq_R c l' k q1) (hs2 : S2 = S1 ++ [x]) (hx : x.toInt = c q) (hf' : f' = f - 1), S2 ++ kq_L c l k f' e = T := by
    intro q_R h_q_R
    subst h_q_R
    exact @kq_L_S
  exact key _ ko_R_eqn hi hf h hl2 hl' hq1 he hs1 hs2 hx hf'
theorem kqo_T_e {c : Int → Int} {n f p e : Int} {S S1 T : List Int32} (hi : S ++ kq_T c n f p = T) (hf : 0 < f) (h : ko_line c p = e) (h1 : n ≤ e) (hs : S1 = S ++ kq_line c p) : S1 = T := by
  have key : ∀ (q_line : (Int → Int) → Int → Int), q_line = kr_line → ∀ {c : Int → Int} {n f p e : Int} {S S1 T : List Int32} (hi : S ++ kq_T c n f p = T) (hf : 0 < f) (h : q_line c p = e) (h1 : n ≤ e) (hs : S1 = S ++ kq_line c p), S1 = T := by
    intro q_line h_q_line
    subst h_q_line
    exact @kq_T_e
  exact key _ ko_line_eqn hi hf h h1 hs
theorem kqo_T_s {c : Int → Int} {n f p e f' p' : Int} {S S1 T : List Int32} (hi : S ++ kq_T c n f p = T) (hf : 0 < f) (h : ko_line c p = e) (h1 : e < n) (hs : S1 = S ++ kq_line c p) (hf' : f' = f - 1) (hp' : p' = e + 1) : S1 ++ kq_T c n f' p' = T := by
  have key : ∀ (q_line : (Int → Int) → Int → Int), q_line = kr_line → ∀ {c : Int → Int} {n f p e f' p' : Int} {S S1 T : List Int32} (hi : S ++ kq_T c n f p = T) (hf : 0 < f) (h : q_line c p = e) (h1 : e < n) (hs : S1 = S ++ kq_line c p) (hf' : f' = f - 1) (hp' : p' = e + 1), S1 ++ kq_T c n f' p' = T := by
    intro q_line h_q_line
    subst h_q_line
    exact @kq_T_s
  exact key _ ko_line_eqn hi hf h h1 hs hf' hp'
theorem kqo_c0 {c : Int → Int} {l l' k p q f : Int} {S T : List Int32} (hl : 0 ≤ l ∧ l ≤ 4) (hl' : l' = l + 1) (h : ko_R c l' k p = q) (hs : S = T ++ kq_R c l' k p) (hf : f = 120) : S ++ kq_L c l k f q = T ++ kq_R c l k p := by
  have key : ∀ (q_R : (Int → Int) → Int → Int → Int → Int), q_R = kr_R → ∀ {c : Int → Int} {l l' k p q f : Int} {S T : List Int32} (hl : 0 ≤ l ∧ l ≤ 4) (hl' : l' = l + 1) (h : q_R c l' k p = q) (hs : S = T ++ kq_R c l' k p) (hf : f = 120), S ++ kq_L c l k f q = T ++ kq_R c l k p := by
    intro q_R h_q_R
    subst h_q_R
    exact @kq_c0
  exact key _ ko_R_eqn hl hl' h hs hf
theorem kqo_l_if {c : Int → Int} {p e p1 : Int} {S S1 S2 S3 S4 : List Int32} {x y : Int32} (h : ko_R c 0 0 p = e) (h1 : c e = 63) (hp1 : p1 = e + 1) (hs : S1 = S ++ kq_R c 0 0 p) (hs2 : S2 = S1 ++ [x]) (hx : x = 63) (hs3 : S3 = S2 ++ kq_R c 0 0 p1) (hs4 : S4 = S3 ++ [y]) (hy : y = 59) : S4 = S ++ kq_line c p := by
  have key : ∀ (q_R : (Int → Int) → Int → Int → Int → Int), q_R = kr_R → ∀ {c : Int → Int} {p e p1 : Int} {S S1 S2 S3 S4 : List Int32} {x y : Int32} (h : q_R c 0 0 p = e) (h1 : c e = 63) (hp1 : p1 = e + 1) (hs : S1 = S ++ kq_R c 0 0 p) (hs2 : S2 = S1 ++ [x]) (hx : x = 63) (hs3 : S3 = S2 ++ kq_R c 0 0 p1) (hs4 : S4 = S3 ++ [y]) (hy : y = 59), S4 = S ++ kq_line c p := by
    intro q_R h_q_R
    subst h_q_R
    exact @kq_l_if
  exact key _ ko_R_eqn h h1 hp1 hs hs2 hx hs3 hs4 hy
theorem kqo_l_no {c : Int → Int} {p e : Int} {S S1 S2 : List Int32} {x : Int32} (h : ko_R c 0 0 p = e) (h1 : c e ≠ 63) (hs : S1 = S ++ kq_R c 0 0 p) (hs2 : S2 = S1 ++ [x]) (hx : x = 59) : S2 = S ++ kq_line c p := by
  have key : ∀ (q_R : (Int → Int) → Int → Int → Int → Int), q_R = kr_R → ∀ {c : Int → Int} {p e : Int} {S S1 S2 : List Int32} {x : Int32} (h : q_R c 0 0 p = e) (h1 : c e ≠ 63) (hs : S1 = S ++ kq_R c 0 0 p) (hs2 : S2 = S1 ++ [x]) (hx : x = 59), S2 = S ++ kq_line c p := by
    intro q_R h_q_R
    subst h_q_R
    exact @kq_l_no
  exact key _ ko_R_eqn h h1 hs hs2 hx
theorem kqo_o_nam {c : Int → Int} {k p : Int} {S S1 : List Int32} {x : Int32} (h : c p = 119 ∨ c p = 110 ∨ c p = 100 ∨ c p = 121 ∨ c p = 122 ∨ c p = 102 ∨ c p = 105 ∨ c p = 99) (hs : S1 = S ++ [x]) (hx : x.toInt = (kw_ix (c p) : Int)) : S1 = S ++ kq_R c 5 k p := by
  have key : ∀ (w_ix : Int → Nat), w_ix = kv_ix → ∀ {c : Int → Int} {k p : Int} {S S1 : List Int32} {x : Int32} (h : c p = 119 ∨ c p = 110 ∨ c p = 100 ∨ c p = 121 ∨ c p = 122 ∨ c p = 102 ∨ c p = 105 ∨ c p = 99) (hs : S1 = S ++ [x]) (hx : x.toInt = (w_ix (c p) : Int)), S1 = S ++ kq_R c 5 k p := by
    intro w_ix h_w_ix
    subst h_w_ix
    exact @kq_o_nam
  exact key _ kw_ix_eqn h hs hx
theorem ko_T_m1 {c : Int → Int} {n : Int} (hn : 0 ≤ n) : -1 ≤ ko_T c n (n + 1) 0 := by
  have key : ∀ (q_T : (Int → Int) → Int → Int → Int → Int), q_T = kr_T → ∀ {c : Int → Int} {n : Int} (hn : 0 ≤ n), -1 ≤ q_T c n (n + 1) 0 := by
    intro q_T h_q_T
    subst h_q_T
    exact @kr_T_m1
  exact key _ ko_T_eqn hn
theorem ko_sh_in {f : Nat → Int32} {n : Int} {b x : Int32} (hb : 0 ≤ b.toInt) (h0 : 0 ≤ x.toInt) (h1 : x.toInt < n) (hs : (b + x).toInt = b.toInt + x.toInt) : ko_at (kr_sh f b.toInt) n x.toInt = (f (b + x).toNatClampNeg).toInt := by
  have key : ∀ (q_at : (Nat → Int32) → Int → Int → Int), q_at = kr_at → ∀ {f : Nat → Int32} {n : Int} {b x : Int32} (hb : 0 ≤ b.toInt) (h0 : 0 ≤ x.toInt) (h1 : x.toInt < n) (hs : (b + x).toInt = b.toInt + x.toInt), q_at (kr_sh f b.toInt) n x.toInt = (f (b + x).toNatClampNeg).toInt := by
    intro q_at h_q_at
    subst h_q_at
    exact @kr_sh_in
  exact key _ ko_at_eqn hb h0 h1 hs
theorem kto_cv_V {n : Int} {SG : Nat → Nat → Int32} {SZ text many : Nat → Int32} {l : Int32} {k : Nat} {b : Int} (h : kt_cv n SG SZ text many) (h0 : 0 ≤ l.toInt) (h1 : l.toInt < n) (hn : n ≤ 4) (hk : (k : Int) = l.toInt) (hb : b = 120 * l.toInt) : (fun nm_ => kg_run nm_ (kg_sI (SG k) (SZ k).toInt) false []) = (fun nm_ => kv_T (ko_at (kr_sh text b) (many l.toNatClampNeg).toInt) nm_ (many l.toNatClampNeg).toInt ((many l.toNatClampNeg).toInt + 1) 0) := by
  have key : ∀ (q_at : (Nat → Int32) → Int → Int → Int), q_at = kr_at → ∀ {n : Int} {SG : Nat → Nat → Int32} {SZ text many : Nat → Int32} {l : Int32} {k : Nat} {b : Int} (h : kt_cv n SG SZ text many) (h0 : 0 ≤ l.toInt) (h1 : l.toInt < n) (hn : n ≤ 4) (hk : (k : Int) = l.toInt) (hb : b = 120 * l.toInt), (fun nm_ => kg_run nm_ (kg_sI (SG k) (SZ k).toInt) false []) = (fun nm_ => kv_T (q_at (kr_sh text b) (many l.toNatClampNeg).toInt) nm_ (many l.toNatClampNeg).toInt ((many l.toNatClampNeg).toInt + 1) 0) := by
    intro q_at h_q_at
    subst h_q_at
    exact @kt_cv_V
  exact key _ ko_at_eqn h h0 h1 hn hk hb
theorem kto_cv_set {n n' m : Int} {SG : Nat → Nat → Int32} {SZ text text' many tape sg : Nat → Int32} {u v sz : Int32} {k : Nat} (h : kt_cv n SG SZ text many) (hu : u.toInt = n) (h0 : 0 ≤ n) (hn : n ≤ 3) (hn' : n' = n + 1) (hk : (k : Int) = n) (hc : kt_cp text text' tape (120 * n) m) (hv : v.toInt = m) (hm : 0 ≤ m ∧ m ≤ 120) (ht : ko_T (ko_at tape m) m (m + 1) 0 = -1) (hs : kg_sI sg sz.toInt = kq_T (ko_at tape m) m (m + 1) 0) : kt_cv n' (va_up SG k sg) (va_up SZ k sz) text' (upd many u.toNatClampNeg v) := by
  have key : ∀ (q_at : (Nat → Int32) → Int → Int → Int) (q_T : (Int → Int) → Int → Int → Int → Int), q_at = kr_at → q_T = kr_T → ∀ {n n' m : Int} {SG : Nat → Nat → Int32} {SZ text text' many tape sg : Nat → Int32} {u v sz : Int32} {k : Nat} (h : kt_cv n SG SZ text many) (hu : u.toInt = n) (h0 : 0 ≤ n) (hn : n ≤ 3) (hn' : n' = n + 1) (hk : (k : Int) = n) (hc : kt_cp text text' tape (120 * n) m) (hv : v.toInt = m) (hm : 0 ≤ m ∧ m ≤ 120) (ht : q_T (q_at tape m) m (m + 1) 0 = -1) (hs : kg_sI sg sz.toInt = kq_T (q_at tape m) m (m + 1) 0), kt_cv n' (va_up SG k sg) (va_up SZ k sz) text' (upd many u.toNatClampNeg v) := by
    intro q_at q_T h_q_at h_q_T
    subst h_q_at h_q_T
    exact @kt_cv_set
  exact key _ _ ko_at_eqn ko_T_eqn h hu h0 hn hn' hk hc hv hm ht hs
theorem kto_lv_at {text many : Nat → Int32} {n b : Int} {l : Int32} (h : kt_lv text many n) (h0 : 0 ≤ l.toInt) (h1 : l.toInt < n) (hb : b = 120 * l.toInt) : ko_T (ko_at (kr_sh text b) (many l.toNatClampNeg).toInt) (many l.toNatClampNeg).toInt ((many l.toNatClampNeg).toInt + 1) 0 = -1 := by
  have key : ∀ (q_at : (Nat → Int32) → Int → Int → Int) (q_T : (Int → Int) → Int → Int → Int → Int), q_at = kr_at → q_T = kr_T → ∀ {text many : Nat → Int32} {n b : Int} {l : Int32} (h : kt_lv text many n) (h0 : 0 ≤ l.toInt) (h1 : l.toInt < n) (hb : b = 120 * l.toInt), q_T (q_at (kr_sh text b) (many l.toNatClampNeg).toInt) (many l.toNatClampNeg).toInt ((many l.toNatClampNeg).toInt + 1) 0 = -1 := by
    intro q_at q_T h_q_at h_q_T
    subst h_q_at h_q_T
    exact @kt_lv_at
  exact key _ _ ko_at_eqn ko_T_eqn h h0 h1 hb
theorem kw_F00 {c : Int → Int} {p : Int} : kw_FI c 4 p 0 = (kv_nm c 4 p 0).toInt := by
  have key : ∀ (w_FI : (Int → Int) → Int → Int → Int → Int), w_FI = kv_FI → ∀ {c : Int → Int} {p : Int}, w_FI c 4 p 0 = (kv_nm c 4 p 0).toInt := by
    intro w_FI h_w_FI
    subst h_w_FI
    exact @kv_F00
  exact key _ kw_FI_eqn 
theorem kw_F0I {c : Int → Int} {k p : Int} {nm : Nat → Int32} (h : 48 ≤ c p ∧ c p ≤ 57) : kw_RI c nm 5 k p = kw_FI c 4 p 0 := by
  have key : ∀ (w_RI : (Int → Int) → (Nat → Int32) → Int → Int → Int → Int) (w_FI : (Int → Int) → Int → Int → Int → Int), w_RI = kv_RI → w_FI = kv_FI → ∀ {c : Int → Int} {k p : Int} {nm : Nat → Int32} (h : 48 ≤ c p ∧ c p ≤ 57), w_RI c nm 5 k p = w_FI c 4 p 0 := by
    intro w_RI w_FI h_w_RI h_w_FI
    subst h_w_RI h_w_FI
    exact @kv_F0I
  exact key _ _ kw_RI_eqn kw_FI_eqn h
theorem kw_FnI {c : Int → Int} {f q : Int} {a : Int32} (h : f ≤ 0 ∨ c q < 48 ∨ 57 < c q) : kw_FI c f q a.toInt = a.toInt := by
  have key : ∀ (w_FI : (Int → Int) → Int → Int → Int → Int), w_FI = kv_FI → ∀ {c : Int → Int} {f q : Int} {a : Int32} (h : f ≤ 0 ∨ c q < 48 ∨ 57 < c q), w_FI c f q a.toInt = a.toInt := by
    intro w_FI h_w_FI
    subst h_w_FI
    exact @kv_FnI
  exact key _ kw_FI_eqn h
theorem kw_FsI {c : Int → Int} {f q f' q' : Int} {a b : Int32} (hf : 0 < f) (hd : 48 ≤ c q ∧ c q ≤ 57) (hf' : f' = f - 1) (hq' : q' = q + 1) (hb : b.toInt = 10 * a.toInt + c q - 48) (ha : 0 ≤ a.toInt ∧ a.toInt ≤ 1000) : kw_FI c f q a.toInt = kw_FI c f' q' b.toInt := by
  have key : ∀ (w_FI : (Int → Int) → Int → Int → Int → Int), w_FI = kv_FI → ∀ {c : Int → Int} {f q f' q' : Int} {a b : Int32} (hf : 0 < f) (hd : 48 ≤ c q ∧ c q ≤ 57) (hf' : f' = f - 1) (hq' : q' = q + 1) (hb : b.toInt = 10 * a.toInt + c q - 48) (ha : 0 ≤ a.toInt ∧ a.toInt ≤ 1000), w_FI c f q a.toInt = w_FI c f' q' b.toInt := by
    intro w_FI h_w_FI
    subst h_w_FI
    exact @kv_FsI
  exact key _ kw_FI_eqn hf hd hf' hq' hb ha
theorem kw_L2I {c : Int → Int} {nm : Nat → Int32} {l l' k q q1 : Int} {v w u : Int32} (h : 60 ≤ c q ∧ c q ≤ 62) (hl2 : l = 2) (hl' : l' = l + 1) (hq1 : q1 = q + 1) (hw : kw_RI c nm l' k q1 = w.toInt) (hu : (kv_jn (c q) v w).toInt = u.toInt) : kw_LI c nm l k 120 q v.toInt = u.toInt := by
  have key : ∀ (w_RI : (Int → Int) → (Nat → Int32) → Int → Int → Int → Int) (w_LI : (Int → Int) → (Nat → Int32) → Int → Int → Int → Int → Int → Int), w_RI = kv_RI → w_LI = kv_LI → ∀ {c : Int → Int} {nm : Nat → Int32} {l l' k q q1 : Int} {v w u : Int32} (h : 60 ≤ c q ∧ c q ≤ 62) (hl2 : l = 2) (hl' : l' = l + 1) (hq1 : q1 = q + 1) (hw : w_RI c nm l' k q1 = w.toInt) (hu : (kv_jn (c q) v w).toInt = u.toInt), w_LI c nm l k 120 q v.toInt = u.toInt := by
    intro w_RI w_LI h_w_RI h_w_LI
    subst h_w_RI h_w_LI
    exact @kv_L2I
  exact key _ _ kw_RI_eqn kw_LI_eqn h hl2 hl' hq1 hw hu
theorem kw_LSI {c : Int → Int} {nm : Nat → Int32} {n l l' k q q1 e : Int} {v w u : Int32} (hc : ∀ p, p < 0 ∨ n ≤ p → c p = 0) (hn : n ≤ 120) (hq : 0 ≤ q) (h : (l = 0 ∧ c q = 124) ∨ (l = 1 ∧ c q = 38) ∨ (l = 2 ∧ 60 ≤ c q ∧ c q ≤ 62) ∨ (l = 3 ∧ (c q = 43 ∨ c q = 45)) ∨ (l = 4 ∧ (c q = 42 ∨ c q = 47 ∨ c q = 37))) (hl2 : l ≠ 2) (hl' : l' = l + 1) (hq1 : q1 = q + 1) (he : ko_R c l' k q1 = e) (h0 : 0 ≤ e) (hw : kw_RI c nm l' k q1 = w.toInt) (hu : (kv_jn (c q) v w).toInt = u.toInt) : kw_LI c nm l k 120 q v.toInt = kw_LI c nm l k 120 e u.toInt := by
  have key : ∀ (q_R : (Int → Int) → Int → Int → Int → Int) (w_RI : (Int → Int) → (Nat → Int32) → Int → Int → Int → Int) (w_LI : (Int → Int) → (Nat → Int32) → Int → Int → Int → Int → Int → Int), q_R = kr_R → w_RI = kv_RI → w_LI = kv_LI → ∀ {c : Int → Int} {nm : Nat → Int32} {n l l' k q q1 e : Int} {v w u : Int32} (hc : ∀ p, p < 0 ∨ n ≤ p → c p = 0) (hn : n ≤ 120) (hq : 0 ≤ q) (h : (l = 0 ∧ c q = 124) ∨ (l = 1 ∧ c q = 38) ∨ (l = 2 ∧ 60 ≤ c q ∧ c q ≤ 62) ∨ (l = 3 ∧ (c q = 43 ∨ c q = 45)) ∨ (l = 4 ∧ (c q = 42 ∨ c q = 47 ∨ c q = 37))) (hl2 : l ≠ 2) (hl' : l' = l + 1) (hq1 : q1 = q + 1) (he : q_R c l' k q1 = e) (h0 : 0 ≤ e) (hw : w_RI c nm l' k q1 = w.toInt) (hu : (kv_jn (c q) v w).toInt = u.toInt), w_LI c nm l k 120 q v.toInt = w_LI c nm l k 120 e u.toInt := by
    intro q_R w_RI w_LI h_q_R h_w_RI h_w_LI
    subst h_q_R h_w_RI h_w_LI
    exact @kv_LSI
  exact key _ _ _ ko_R_eqn kw_RI_eqn kw_LI_eqn hc hn hq h hl2 hl' hq1 he h0 hw hu
theorem kw_LnI {c : Int → Int} {nm : Nat → Int32} {l k q : Int} {v : Int32} (h : ¬ ((l = 0 ∧ c q = 124) ∨ (l = 1 ∧ c q = 38) ∨ (l = 2 ∧ 60 ≤ c q ∧ c q ≤ 62) ∨ (l = 3 ∧ (c q = 43 ∨ c q = 45)) ∨ (l = 4 ∧ (c q = 42 ∨ c q = 47 ∨ c q = 37)))) : kw_LI c nm l k 120 q v.toInt = v.toInt := by
  have key : ∀ (w_LI : (Int → Int) → (Nat → Int32) → Int → Int → Int → Int → Int → Int), w_LI = kv_LI → ∀ {c : Int → Int} {nm : Nat → Int32} {l k q : Int} {v : Int32} (h : ¬ ((l = 0 ∧ c q = 124) ∨ (l = 1 ∧ c q = 38) ∨ (l = 2 ∧ 60 ≤ c q ∧ c q ≤ 62) ∨ (l = 3 ∧ (c q = 43 ∨ c q = 45)) ∨ (l = 4 ∧ (c q = 42 ∨ c q = 47 ∨ c q = 37)))), w_LI c nm l k 120 q v.toInt = v.toInt := by
    intro w_LI h_w_LI
    subst h_w_LI
    exact @kv_LnI
  exact key _ kw_LI_eqn h
theorem kw_c0I {c : Int → Int} {nm : Nat → Int32} {l l' k p q : Int} {v : Int32} (hl : 0 ≤ l ∧ l ≤ 4) (hl' : l' = l + 1) (h : ko_R c l' k p = q) (hv : kw_RI c nm l' k p = v.toInt) : kw_LI c nm l k 120 q v.toInt = kw_RI c nm l k p := by
  have key : ∀ (q_R : (Int → Int) → Int → Int → Int → Int) (w_RI : (Int → Int) → (Nat → Int32) → Int → Int → Int → Int) (w_LI : (Int → Int) → (Nat → Int32) → Int → Int → Int → Int → Int → Int), q_R = kr_R → w_RI = kv_RI → w_LI = kv_LI → ∀ {c : Int → Int} {nm : Nat → Int32} {l l' k p q : Int} {v : Int32} (hl : 0 ≤ l ∧ l ≤ 4) (hl' : l' = l + 1) (h : q_R c l' k p = q) (hv : w_RI c nm l' k p = v.toInt), w_LI c nm l k 120 q v.toInt = w_RI c nm l k p := by
    intro q_R w_RI w_LI h_q_R h_w_RI h_w_LI
    subst h_q_R h_w_RI h_w_LI
    exact @kv_c0I
  exact key _ _ _ ko_R_eqn kw_RI_eqn kw_LI_eqn hl hl' h hv
theorem kw_ix0 {x : Int} (h : x = 119) : (0 : Int) = (kw_ix x : Int) := by
  have key : ∀ (w_ix : Int → Nat), w_ix = kv_ix → ∀ {x : Int} (h : x = 119), (0 : Int) = (w_ix x : Int) := by
    intro w_ix h_w_ix
    subst h_w_ix
    exact @kv_ix0
  exact key _ kw_ix_eqn h
theorem kw_ix1 {x : Int} (h : x = 110) : (1 : Int) = (kw_ix x : Int) := by
  have key : ∀ (w_ix : Int → Nat), w_ix = kv_ix → ∀ {x : Int} (h : x = 110), (1 : Int) = (w_ix x : Int) := by
    intro w_ix h_w_ix
    subst h_w_ix
    exact @kv_ix1
  exact key _ kw_ix_eqn h
theorem kw_ix2 {x : Int} (h : x = 100) : (2 : Int) = (kw_ix x : Int) := by
  have key : ∀ (w_ix : Int → Nat), w_ix = kv_ix → ∀ {x : Int} (h : x = 100), (2 : Int) = (w_ix x : Int) := by
    intro w_ix h_w_ix
    subst h_w_ix
    exact @kv_ix2
  exact key _ kw_ix_eqn h
theorem kw_ix3 {x : Int} (h : x = 121) : (3 : Int) = (kw_ix x : Int) := by
  have key : ∀ (w_ix : Int → Nat), w_ix = kv_ix → ∀ {x : Int} (h : x = 121), (3 : Int) = (w_ix x : Int) := by
    intro w_ix h_w_ix
    subst h_w_ix
    exact @kv_ix3
  exact key _ kw_ix_eqn h
theorem kw_ix4 {x : Int} (h : x = 122) : (4 : Int) = (kw_ix x : Int) := by
  have key : ∀ (w_ix : Int → Nat), w_ix = kv_ix → ∀ {x : Int} (h : x = 122), (4 : Int) = (w_ix x : Int) := by
    intro w_ix h_w_ix
    subst h_w_ix
    exact @kv_ix4
  exact key _ kw_ix_eqn h
theorem kw_ix5 {x : Int} (h : x = 102) : (5 : Int) = (kw_ix x : Int) := by
  have key : ∀ (w_ix : Int → Nat), w_ix = kv_ix → ∀ {x : Int} (h : x = 102), (5 : Int) = (w_ix x : Int) := by
    intro w_ix h_w_ix
    subst h_w_ix
    exact @kv_ix5
  exact key _ kw_ix_eqn h
theorem kw_ix6 {x : Int} (h : x = 105) : (6 : Int) = (kw_ix x : Int) := by
  have key : ∀ (w_ix : Int → Nat), w_ix = kv_ix → ∀ {x : Int} (h : x = 105), (6 : Int) = (w_ix x : Int) := by
    intro w_ix h_w_ix
    subst h_w_ix
    exact @kv_ix6
  exact key _ kw_ix_eqn h
theorem kw_ix7 {x : Int} (h : x = 99) : (7 : Int) = (kw_ix x : Int) := by
  have key : ∀ (w_ix : Int → Nat), w_ix = kv_ix → ∀ {x : Int} (h : x = 99), (7 : Int) = (w_ix x : Int) := by
    intro w_ix h_w_ix
    subst h_w_ix
    exact @kv_ix7
  exact key _ kw_ix_eqn h
theorem kw_ogI {c : Int → Int} {nm : Nat → Int32} {k k' p p1 : Int} {v : Int32} (hk : k < 6) (h : c p = 45) (hk' : k' = k + 1) (hp1 : p1 = p + 1) (hv : kw_RI c nm 5 k' p1 = v.toInt) : kw_RI c nm 5 k p = (-v).toInt := by
  have key : ∀ (w_RI : (Int → Int) → (Nat → Int32) → Int → Int → Int → Int), w_RI = kv_RI → ∀ {c : Int → Int} {nm : Nat → Int32} {k k' p p1 : Int} {v : Int32} (hk : k < 6) (h : c p = 45) (hk' : k' = k + 1) (hp1 : p1 = p + 1) (hv : w_RI c nm 5 k' p1 = v.toInt), w_RI c nm 5 k p = (-v).toInt := by
    intro w_RI h_w_RI
    subst h_w_RI
    exact @kv_ogI
  exact key _ kw_RI_eqn hk h hk' hp1 hv
theorem kw_onI {c : Int → Int} {nm : Nat → Int32} {k p : Int} {x : Int32} (h : c p = 119 ∨ c p = 110 ∨ c p = 100 ∨ c p = 121 ∨ c p = 122 ∨ c p = 102 ∨ c p = 105 ∨ c p = 99) (hx : x.toInt = (kw_ix (c p) : Int)) : kw_RI c nm 5 k p = (nm x.toNatClampNeg).toInt := by
  have key : ∀ (w_RI : (Int → Int) → (Nat → Int32) → Int → Int → Int → Int) (w_ix : Int → Nat), w_RI = kv_RI → w_ix = kv_ix → ∀ {c : Int → Int} {nm : Nat → Int32} {k p : Int} {x : Int32} (h : c p = 119 ∨ c p = 110 ∨ c p = 100 ∨ c p = 121 ∨ c p = 122 ∨ c p = 102 ∨ c p = 105 ∨ c p = 99) (hx : x.toInt = (w_ix (c p) : Int)), w_RI c nm 5 k p = (nm x.toNatClampNeg).toInt := by
    intro w_RI w_ix h_w_RI h_w_ix
    subst h_w_RI h_w_ix
    exact @kv_onI
  exact key _ _ kw_RI_eqn kw_ix_eqn h hx
theorem kw_opI {c : Int → Int} {nm : Nat → Int32} {k k' p p1 : Int} {v : Int32} (hk : k < 6) (h : c p = 40) (hk' : k' = k + 1) (hp1 : p1 = p + 1) (hv : kw_RI c nm 0 k' p1 = v.toInt) : kw_RI c nm 5 k p = v.toInt := by
  have key : ∀ (w_RI : (Int → Int) → (Nat → Int32) → Int → Int → Int → Int), w_RI = kv_RI → ∀ {c : Int → Int} {nm : Nat → Int32} {k k' p p1 : Int} {v : Int32} (hk : k < 6) (h : c p = 40) (hk' : k' = k + 1) (hp1 : p1 = p + 1) (hv : w_RI c nm 0 k' p1 = v.toInt), w_RI c nm 5 k p = v.toInt := by
    intro w_RI h_w_RI
    subst h_w_RI
    exact @kv_opI
  exact key _ kw_RI_eqn hk h hk' hp1 hv
theorem kw_otI {c : Int → Int} {nm : Nat → Int32} {k k' p p1 : Int} {v u : Int32} (hk : k < 6) (h : c p = 33) (hk' : k' = k + 1) (hp1 : p1 = p + 1) (hv : kw_RI c nm 5 k' p1 = v.toInt) (hu : (v.toInt = 0 ∧ u.toInt = 1) ∨ (v.toInt ≠ 0 ∧ u.toInt = 0)) : kw_RI c nm 5 k p = u.toInt := by
  have key : ∀ (w_RI : (Int → Int) → (Nat → Int32) → Int → Int → Int → Int), w_RI = kv_RI → ∀ {c : Int → Int} {nm : Nat → Int32} {k k' p p1 : Int} {v u : Int32} (hk : k < 6) (h : c p = 33) (hk' : k' = k + 1) (hp1 : p1 = p + 1) (hv : w_RI c nm 5 k' p1 = v.toInt) (hu : (v.toInt = 0 ∧ u.toInt = 1) ∨ (v.toInt ≠ 0 ∧ u.toInt = 0)), w_RI c nm 5 k p = u.toInt := by
    intro w_RI h_w_RI
    subst h_w_RI
    exact @kv_otI
  exact key _ kw_RI_eqn hk h hk' hp1 hv hu
theorem kw_rs_g {c : Int → Int} {nm : Nat → Int32} {n : Int} {r : Int32} (h : kv_rs c nm n r.toInt) (e : ko_T c n (n + 1) 0 = -1) : r = kv_T c nm n (n + 1) 0 := by
  have key : ∀ (q_T : (Int → Int) → Int → Int → Int → Int), q_T = kr_T → ∀ {c : Int → Int} {nm : Nat → Int32} {n : Int} {r : Int32} (h : kv_rs c nm n r.toInt) (e : q_T c n (n + 1) 0 = -1), r = kv_T c nm n (n + 1) 0 := by
    intro q_T h_q_T
    subst h_q_T
    exact @kv_rs_g
  exact key _ ko_T_eqn h e
theorem kw_w_B {c : Int → Int} {nm : Nat → Int32} {n p e e1 gi ge v1 : Int} (h : kv_wk c nm n p gi ge) (hn : 0 ≤ n) (hR : ko_R c 0 0 p = e1) (h63 : c e1 = 63) (hv1 : kw_RI c nm 0 0 p = v1) (h0 : v1 = 0) (hl : ko_line c p = e) : kv_wl c nm n p e gi ge := by
  have key : ∀ (q_R : (Int → Int) → Int → Int → Int → Int) (q_line : (Int → Int) → Int → Int) (w_RI : (Int → Int) → (Nat → Int32) → Int → Int → Int → Int), q_R = kr_R → q_line = kr_line → w_RI = kv_RI → ∀ {c : Int → Int} {nm : Nat → Int32} {n p e e1 gi ge v1 : Int} (h : kv_wk c nm n p gi ge) (hn : 0 ≤ n) (hR : q_R c 0 0 p = e1) (h63 : c e1 = 63) (hv1 : w_RI c nm 0 0 p = v1) (h0 : v1 = 0) (hl : q_line c p = e), kv_wl c nm n p e gi ge := by
    intro q_R q_line w_RI h_q_R h_q_line h_w_RI
    subst h_q_R h_q_line h_w_RI
    exact @kv_w_B
  exact key _ _ _ ko_R_eqn ko_line_eqn kw_RI_eqn h hn hR h63 hv1 h0 hl
theorem kw_w_D1 {c : Int → Int} {nm : Nat → Int32} {n p e e1 gi ge v g1 : Int} (h : kv_wk c nm n p gi ge) (hn : 0 ≤ n) (hg : gi = 0) (hR : ko_R c 0 0 p = e1) (h63 : c e1 ≠ 63) (hv : kw_RI c nm 0 0 p = v) (hg1 : g1 = 1) : kv_wl c nm n p e g1 v := by
  have key : ∀ (q_R : (Int → Int) → Int → Int → Int → Int) (w_RI : (Int → Int) → (Nat → Int32) → Int → Int → Int → Int), q_R = kr_R → w_RI = kv_RI → ∀ {c : Int → Int} {nm : Nat → Int32} {n p e e1 gi ge v g1 : Int} (h : kv_wk c nm n p gi ge) (hn : 0 ≤ n) (hg : gi = 0) (hR : q_R c 0 0 p = e1) (h63 : c e1 ≠ 63) (hv : w_RI c nm 0 0 p = v) (hg1 : g1 = 1), kv_wl c nm n p e g1 v := by
    intro q_R w_RI h_q_R h_w_RI
    subst h_q_R h_w_RI
    exact @kv_w_D1
  exact key _ _ ko_R_eqn kw_RI_eqn h hn hg hR h63 hv hg1
theorem kw_w_D2 {c : Int → Int} {nm : Nat → Int32} {n p p1 e e1 gi ge v1 v g1 : Int} (h : kv_wk c nm n p gi ge) (hn : 0 ≤ n) (hg : gi = 0) (hR : ko_R c 0 0 p = e1) (h63 : c e1 = 63) (hp1 : p1 = e1 + 1) (hv1 : kw_RI c nm 0 0 p = v1) (h0 : v1 ≠ 0) (hv : kw_RI c nm 0 0 p1 = v) (hg1 : g1 = 1) : kv_wl c nm n p e g1 v := by
  have key : ∀ (q_R : (Int → Int) → Int → Int → Int → Int) (w_RI : (Int → Int) → (Nat → Int32) → Int → Int → Int → Int), q_R = kr_R → w_RI = kv_RI → ∀ {c : Int → Int} {nm : Nat → Int32} {n p p1 e e1 gi ge v1 v g1 : Int} (h : kv_wk c nm n p gi ge) (hn : 0 ≤ n) (hg : gi = 0) (hR : q_R c 0 0 p = e1) (h63 : c e1 = 63) (hp1 : p1 = e1 + 1) (hv1 : w_RI c nm 0 0 p = v1) (h0 : v1 ≠ 0) (hv : w_RI c nm 0 0 p1 = v) (hg1 : g1 = 1), kv_wl c nm n p e g1 v := by
    intro q_R w_RI h_q_R h_w_RI
    subst h_q_R h_w_RI
    exact @kv_w_D2
  exact key _ _ ko_R_eqn kw_RI_eqn h hn hg hR h63 hp1 hv1 h0 hv hg1
theorem kw_w_f {c : Int → Int} {nm : Nat → Int32} {n r x : Int} (h : ko_T c n (n + 1) 0 = x) (h0 : x ≠ -1) : kv_rs c nm n r := by
  have key : ∀ (q_T : (Int → Int) → Int → Int → Int → Int), q_T = kr_T → ∀ {c : Int → Int} {nm : Nat → Int32} {n r x : Int} (h : q_T c n (n + 1) 0 = x) (h0 : x ≠ -1), kv_rs c nm n r := by
    intro q_T h_q_T
    subst h_q_T
    exact @kv_w_f
  exact key _ ko_T_eqn h h0
theorem kw_w_on {c : Int → Int} {nm : Nat → Int32} {n p p' e gi ge : Int} (h : kv_wl c nm n p e gi ge) (hc : ∀ p, n ≤ p → c p = 0) (hn : 0 ≤ n) (hp : 0 ≤ p) (hl : ko_line c p = e) (h0 : 0 ≤ e) (h59 : c e = 59) (hp' : p' = e + 1) : kv_wk c nm n p' gi ge := by
  have key : ∀ (q_line : (Int → Int) → Int → Int), q_line = kr_line → ∀ {c : Int → Int} {nm : Nat → Int32} {n p p' e gi ge : Int} (h : kv_wl c nm n p e gi ge) (hc : ∀ p, n ≤ p → c p = 0) (hn : 0 ≤ n) (hp : 0 ≤ p) (hl : q_line c p = e) (h0 : 0 ≤ e) (h59 : c e = 59) (hp' : p' = e + 1), kv_wk c nm n p' gi ge := by
    intro q_line h_q_line
    subst h_q_line
    exact @kv_w_on
  exact key _ ko_line_eqn h hc hn hp hl h0 h59 hp'
set_option maxHeartbeats 4000000 in
set_option maxRecDepth 100000 in
theorem g_X10_next_1 (l : Launch) (dC : Nat → ClassId) (dI : Nat → Nat → Nat) (h0 : Nat) (h1 : Nat) (h2 : Nat) (cint : ClassId) (sz : Nat) (n0_size : Int32) (n0_place : Int32) (f1 : Nat → Int32) (tn0_size : 0 ≤ n0_size.toInt ∧ n0_size.toInt ≤ 120) (tn0_place : 0 ≤ n0_place.toInt ∧ n0_place.toInt ≤ 120) (bf1 : ∀ j, j < 120 → 0 ≤ (f1 j).toInt ∧ (f1 j).toInt ≤ 255) (pr0 : (0 ≤ n0_place.toInt ∧ n0_place.toInt ≤ n0_size.toInt)) : Met l yX10_next wsX10_next ({ frames := 0, cells := 0, slots := 0, locals := 0 }) (va_Pc [.ref h0] (fun U => U.heap.size = sz ∧ va_P (dC, dI) vwCl [(h0, kO10 h1 n0_size n0_place h2), (h1, kAi cint 120 f1)] U.heap ∧ va_K (dC, dI) vwCl [(cint, .int)] U ∧ va_D (fun _ => True) [(h0, kO10 h1 n0_size n0_place h2), (h1, kAi cint 120 f1)])) (va_Qi (fun (r : Int32) (_ : Unit) => (((n0_place.toInt < n0_size.toInt) → r.toInt = ko_at f1 n0_size.toInt n0_place.toInt ∧ 0 ≤ r.toInt) ∧ (n0_size.toInt ≤ n0_place.toInt → r.toInt = -1 ∧ ko_at f1 n0_size.toInt n0_place.toInt = 0)) ∧ ((-1) ≤ r.toInt ∧ r.toInt ≤ 255)) (fun (_ : Unit) t => va_P (dC, dI) vwCl [(h0, kO10 h1 n0_size n0_place h2), (h1, kAi cint 120 f1)] t.heap ∧ va_K (dC, dI) vwCl [] t ∧ va_D (va_A [(h0, kO10 h1 n0_size n0_place h2), (h1, kAi cint 120 f1)] sz) [(h0, kO10 h1 n0_size n0_place h2), (h1, kAi cint 120 f1)]) (va_A [(h0, kO10 h1 n0_size n0_place h2), (h1, kAi cint 120 f1)] sz)) 0 0 (va_A [(h0, kO10 h1 n0_size n0_place h2), (h1, kAi cint 120 f1)] sz) := by
  refine Met.ofW (cc := cX10_next) (maxL := 1) (ret := (some .int)) (by decide) rfl ?_
  intro p e s m args below meth c s₁ B hml hv
  obtain ⟨rfl, hsz, hP, hK, hD0⟩ := hv
  have hx := B.exec
  have hb := B.bytes
  have hr := B.returns
  have hts := atoms_spec (ws := wsX10_next) B.pre
  have hown : s.vm.findClass RX10 = some m.cls := findClass_of_methodNamed B.named
  have hlocks := B.notSynchronized
  subst hsz
  have hD := hD0.self (sz := s.heap.size)
  generalize hAe : va_A [(h0, kO10 h1 n0_size n0_place h2), (h1, kAi cint 120 f1)] s.heap.size = A at hD ⊢
  have hA : ∀ q : Nat, s.heap.size ≤ q → A q := fun q h => by rw [← hAe]; exact Or.inr h
  have hS : va_S A s.heap s.heap [] := va_S.rf
  have hP : va_P (dC, dI) vwCl [(h0, kO10 h1 n0_size n0_place h2), (h1, kAi cint 120 f1)] s.heap := hP
  have hl := lv_entry ([.ref h0]) (n := 1) (Nat.le_of_ble_eq_true rfl)
  rw [lg_entry_eq]
  generalize (lg_sl ([.ref h0]) ++ List.replicate (1 - (lg_sl ([.ref h0])).length) Slot.unset).toArray = ls at hl ⊢
  have hl : lv_has ls 1 [(0, .ref h0)] := hl
  refine lv_aload_n hx hb dX10_next_0 rfl (lv_at hl 0 rfl) ?_
  refine va_get (D := (dC, dI)) (ci := 10) (v := .int n0_place) (C := RX10) (T := TX10) (N := 4) hx hb hts (fun _ h => List.mem_cons_of_mem _ (List.mem_append_right _ h)) hown hK hP 0 rfl rfl 2 (by decide) (hts (.fieldLink RX10 17 "KinkStreet$Tape" "place" "I") (List.mem_of_getElem? (i := 1) rfl)) (fun _ h9 => h9) rfl dX10_next_1 ?_
  refine lv_if_lt (tgt := 30) hx hb dX10_next_4 (by decide) (fun c_1 => ?_) (fun c_1 => ?_)
  · have t_1 : n0_place.toInt < 0 := kk_lt c_1
    exfalso; omega
  · have t_1 : 0 ≤ n0_place.toInt := kk_nlt c_1
    refine lv_aload_n hx hb dX10_next_7 rfl (lv_at hl 0 rfl) ?_
    refine va_get (D := (dC, dI)) (ci := 10) (v := .int n0_place) (C := RX10) (T := TX10) (N := 4) hx hb hts (fun _ h => List.mem_cons_of_mem _ (List.mem_append_right _ h)) hown hK hP 0 rfl rfl 2 (by decide) (hts (.fieldLink RX10 17 "KinkStreet$Tape" "place" "I") (List.mem_of_getElem? (i := 1) rfl)) (fun _ h9 => h9) rfl dX10_next_8 ?_
    refine lv_aload_n hx hb dX10_next_11 rfl (lv_at hl 0 rfl) ?_
    refine va_get (D := (dC, dI)) (ci := 10) (v := .int n0_size) (C := RX10) (T := TX10) (N := 4) hx hb hts (fun _ h => List.mem_cons_of_mem _ (List.mem_append_right _ h)) hown hK hP 0 rfl rfl 1 (by decide) (hts (.fieldLink RX10 13 "KinkStreet$Tape" "size" "I") (List.mem_of_getElem? (i := 2) rfl)) (fun _ h9 => h9) rfl dX10_next_12 ?_
    refine lv_icmp_ge (tgt := 30) hx hb dX10_next_15 (by decide) (fun c_2 => ?_) (fun c_2 => ?_)
    · have t_2 : n0_size.toInt ≤ n0_place.toInt := kk_le c_2
      have hk_3 : ko_at f1 n0_size.toInt n0_place.toInt = 0 := ko_at_out (by omega)
      refine lv_iconst (v := (-1)) hx hb dX10_next_30 kk_ic_m1 ?_
      obtain ⟨hP9, hD9⟩ := kk_leafout (wc := [(h0, kO10 h1 n0_size n0_place h2), (h1, kAi cint 120 f1)]) hP hD [0, 1] (by decide) rfl
      have hK9 := kk_Ks (tq := []) hK [] rfl
      exact W.iret (v := (-1)) hx hb hr (fun t ht hW => ⟨⟨(-1), (), rfl, ⟨(by show ((((n0_place : Int32).toInt < (n0_size : Int32).toInt) → ((-1) : Int) = ko_at f1 (n0_size : Int32).toInt (n0_place : Int32).toInt ∧ 0 ≤ ((-1) : Int)) ∧ ((n0_size : Int32).toInt ≤ (n0_place : Int32).toInt → ((-1) : Int) = -1 ∧ ko_at f1 (n0_size : Int32).toInt (n0_place : Int32).toInt = 0)); omega), (by show (-1) ≤ ((-1) : Int32).toInt ∧ ((-1) : Int32).toInt ≤ 255; first | with_reducible assumption | decide | (constructor <;> (omega)))⟩, by rw [ht]; exact hP9, va_K.moved hW.alike hK9, hD9⟩, hS.F ht⟩) hS.2.2 dX10_next_31
    · have t_2 : n0_place.toInt < n0_size.toInt := kk_nle c_2
      have hk_4 : ko_at f1 n0_size.toInt n0_place.toInt = (f1 (n0_place : Int32).toNatClampNeg).toInt := ko_at_in (by omega) (by omega)
      refine lv_aload_n hx hb dX10_next_18 rfl (lv_at hl 0 rfl) ?_
      refine va_get (D := (dC, dI)) (ci := 10) (v := .ref h1) (C := RX10) (T := TX10) (N := 4) hx hb hts (fun _ h => List.mem_cons_of_mem _ (List.mem_append_right _ h)) hown hK hP 0 rfl rfl 0 (by decide) (hts (.fieldLink RX10 9 "KinkStreet$Tape" "bytes" "[I") (List.mem_of_getElem? (i := 3) rfl)) (fun _ h9 => h9) rfl dX10_next_19 ?_
      refine lv_aload_n hx hb dX10_next_22 rfl (lv_at hl 0 rfl) ?_
      refine va_get (D := (dC, dI)) (ci := 10) (v := .int n0_place) (C := RX10) (T := TX10) (N := 4) hx hb hts (fun _ h => List.mem_cons_of_mem _ (List.mem_append_right _ h)) hown hK hP 0 rfl rfl 2 (by decide) (hts (.fieldLink RX10 17 "KinkStreet$Tape" "place" "I") (List.mem_of_getElem? (i := 1) rfl)) (fun _ h9 => h9) rfl dX10_next_23 ?_
      have hi_5 : vp_in n0_place 120 := (vp_in_iff.mpr ⟨by omega, by omega⟩)
      refine va_iald hx hb hK hP 1 0 rfl rfl hi_5 dX10_next_26 ?_
      refine lv_topi (fun y_5 e_5 => ?_)
      obtain rfl : y_5 = (f1 (n0_place : Int32).toNatClampNeg) := e_5
      have t_5 : 0 ≤ (f1 (n0_place : Int32).toNatClampNeg).toInt ∧ (f1 (n0_place : Int32).toNatClampNeg).toInt ≤ 255 := bf1 _ (Nat.not_le.mp fun q => hi_5 (Or.inr q))
      refine lv_goto (tgt := 31) hx hb dX10_next_27 (by decide) ?_
      obtain ⟨hP9, hD9⟩ := kk_leafout (wc := [(h0, kO10 h1 n0_size n0_place h2), (h1, kAi cint 120 f1)]) hP hD [0, 1] (by decide) rfl
      have hK9 := kk_Ks (tq := []) hK [] rfl
      exact W.iret (v := (f1 (n0_place : Int32).toNatClampNeg)) hx hb hr (fun t ht hW => ⟨⟨(f1 (n0_place : Int32).toNatClampNeg), (), rfl, ⟨(by show ((((n0_place : Int32).toInt < (n0_size : Int32).toInt) → ((f1 (n0_place : Int32).toNatClampNeg) : Int32).toInt = ko_at f1 (n0_size : Int32).toInt (n0_place : Int32).toInt ∧ 0 ≤ ((f1 (n0_place : Int32).toNatClampNeg) : Int32).toInt) ∧ ((n0_size : Int32).toInt ≤ (n0_place : Int32).toInt → ((f1 (n0_place : Int32).toNatClampNeg) : Int32).toInt = -1 ∧ ko_at f1 (n0_size : Int32).toInt (n0_place : Int32).toInt = 0)); omega), (by show (-1) ≤ ((f1 (n0_place : Int32).toNatClampNeg) : Int32).toInt ∧ ((f1 (n0_place : Int32).toNatClampNeg) : Int32).toInt ≤ 255; first | with_reducible assumption | (constructor <;> (omega)))⟩, by rw [ht]; exact hP9, va_K.moved hW.alike hK9, hD9⟩, hS.F ht⟩) hS.2.2 dX10_next_31
set_option maxHeartbeats 4000000 in
set_option maxRecDepth 100000 in
theorem g_X10_isDigit_1 (l : Launch) (dC : Nat → ClassId) (dI : Nat → Nat → Nat) (sz : Nat) (p0 : Int32) : Met l yX10_isDigit wsX10_isDigit ({ frames := 0, cells := 0, slots := 0, locals := 0 }) (va_Pc [.int p0] (fun U => U.heap.size = sz ∧ va_P (dC, dI) vwCl [] U.heap ∧ va_K (dC, dI) vwCl [] U ∧ va_D (fun _ => True) [])) (va_Qi (fun (r : Int32) (_ : Unit) => ((p0.toInt < 48 ∨ 57 < p0.toInt) ∧ (0 : Int32) = r) ∨ (48 ≤ p0.toInt ∧ p0.toInt ≤ 57 ∧ (48 ≤ p0.toInt ∧ p0.toInt ≤ 57) ∧ (1 : Int32) = r)) (fun (_ : Unit) t => va_P (dC, dI) vwCl [] t.heap ∧ va_K (dC, dI) vwCl [] t ∧ va_D (va_A [] sz) []) (va_A [] sz)) 0 0 (va_A [] sz) := by
  refine Met.ofW (cc := cX10_isDigit) (maxL := 1) (ret := (some .boolean)) (by decide) rfl ?_
  intro p e s m args below meth c s₁ B hml hv
  obtain ⟨rfl, hsz, hP, hK, hD0⟩ := hv
  have hx := B.exec
  have hb := B.bytes
  have hr := B.returns
  have hts := atoms_spec (ws := wsX10_isDigit) B.pre
  have hown : s.vm.findClass RX10 = some m.cls := findClass_of_methodNamed B.named
  have hlocks := B.notSynchronized
  subst hsz
  have hD := hD0.self (sz := s.heap.size)
  generalize hAe : va_A [] s.heap.size = A at hD ⊢
  have hA : ∀ q : Nat, s.heap.size ≤ q → A q := fun q h => by rw [← hAe]; exact Or.inr h
  have hS : va_S A s.heap s.heap [] := va_S.rf
  have hP : va_P (dC, dI) vwCl [] s.heap := hP
  have hl := lv_entry ([.int p0]) (n := 1) (Nat.le_of_ble_eq_true rfl)
  rw [lg_entry_eq]
  generalize (lg_sl ([.int p0]) ++ List.replicate (1 - (lg_sl ([.int p0])).length) Slot.unset).toArray = ls at hl ⊢
  have hl : lv_has ls 1 [(0, .int p0)] := hl
  refine lv_iload_n hx hb dX10_isDigit_0 rfl (lv_at hl 0 rfl) ?_
  refine lv_bipush (v := 48) hx hb dX10_isDigit_1 kk_bi_48 ?_
  refine lv_icmp_lt (tgt := 16) hx hb dX10_isDigit_3 (by decide) (fun c_1 => ?_) (fun c_1 => ?_)
  · have t_1 : p0.toInt < 48 := kk_lt c_1
    refine lv_iconst (v := 0) hx hb dX10_isDigit_16 kk_ic_0 ?_
    obtain ⟨hP9, hD9⟩ := kk_leafout (wc := []) hP hD [] (by decide) rfl
    have hK9 := kk_Ks (tq := []) hK [] rfl
    exact W.zret (v := 0) hx hb hr rfl (fun t ht hW => ⟨⟨0, (), rfl, Or.inl ⟨(by show ((p0 : Int32).toInt < 48 ∨ 57 < (p0 : Int32).toInt); have := kk_rng p0; omega), rfl⟩, by rw [ht]; exact hP9, va_K.moved hW.alike hK9, hD9⟩, hS.F ht⟩) hS.2.2 dX10_isDigit_17
  · have t_1 : 48 ≤ p0.toInt := kk_nlt c_1
    refine lv_iload_n hx hb dX10_isDigit_6 rfl (lv_at hl 0 rfl) ?_
    refine lv_bipush (v := 57) hx hb dX10_isDigit_7 kk_bi_57 ?_
    refine lv_icmp_gt (tgt := 16) hx hb dX10_isDigit_9 (by decide) (fun c_2 => ?_) (fun c_2 => ?_)
    · have t_2 : 57 < p0.toInt := kk_lt c_2
      refine lv_iconst (v := 0) hx hb dX10_isDigit_16 kk_ic_0 ?_
      obtain ⟨hP9, hD9⟩ := kk_leafout (wc := []) hP hD [] (by decide) rfl
      have hK9 := kk_Ks (tq := []) hK [] rfl
      exact W.zret (v := 0) hx hb hr rfl (fun t ht hW => ⟨⟨0, (), rfl, Or.inl ⟨(by show ((p0 : Int32).toInt < 48 ∨ 57 < (p0 : Int32).toInt); have := kk_rng p0; omega), rfl⟩, by rw [ht]; exact hP9, va_K.moved hW.alike hK9, hD9⟩, hS.F ht⟩) hS.2.2 dX10_isDigit_17
    · have t_2 : p0.toInt ≤ 57 := kk_nlt c_2
      refine lv_iconst (v := 1) hx hb dX10_isDigit_12 kk_ic_1 ?_
      refine lv_goto (tgt := 17) hx hb dX10_isDigit_13 (by decide) ?_
      obtain ⟨hP9, hD9⟩ := kk_leafout (wc := []) hP hD [] (by decide) rfl
      have hK9 := kk_Ks (tq := []) hK [] rfl
      exact W.zret (v := 1) hx hb hr rfl (fun t ht hW => ⟨⟨1, (), rfl, Or.inr (⟨by first | with_reducible assumption | (omega), by first | with_reducible assumption | (omega), (by show (48 ≤ (p0 : Int32).toInt ∧ (p0 : Int32).toInt ≤ 57); omega), rfl⟩), by rw [ht]; exact hP9, va_K.moved hW.alike hK9, hD9⟩, hS.F ht⟩) hS.2.2 dX10_isDigit_17
set_option maxHeartbeats 4000000 in
set_option maxRecDepth 100000 in
theorem g_X4_nameOf_1 (l : Launch) (dC : Nat → ClassId) (dI : Nat → Nat → Nat) (sz : Nat) (p0 : Int32) (aNAMES : Nat) : Met l yX4_nameOf wsX4_nameOf ({ frames := 0, cells := 0, slots := 0, locals := 0 }) (va_Pc [.int p0] (fun U => U.heap.size = sz ∧ va_P (dC, dI) vwCl [] U.heap ∧ va_K (dC, dI) vwCl [] U ∧ va_D (fun _ => True) [] ∧ va_Z "KinkStreet$Law" "NAMES" "[C" (.ref aNAMES) (va_A [] sz) U U.heap ∧ va_T .char aNAMES 8 tb_NAMES (va_A [] sz) U U.heap)) (va_Qi (fun (r : Int32) (_ : Unit) => ((0 ≤ r.toInt → (p0.toInt = 119 ∨ p0.toInt = 110 ∨ p0.toInt = 100 ∨ p0.toInt = 121 ∨ p0.toInt = 122 ∨ p0.toInt = 102 ∨ p0.toInt = 105 ∨ p0.toInt = 99)) ∧ (r.toInt < 0 → ¬ (p0.toInt = 119 ∨ p0.toInt = 110 ∨ p0.toInt = 100 ∨ p0.toInt = 121 ∨ p0.toInt = 122 ∨ p0.toInt = 102 ∨ p0.toInt = 105 ∨ p0.toInt = 99))) ∧ (0 ≤ r.toInt → r.toInt = (kw_ix p0.toInt : Int)) ∧ ((-2) ≤ r.toInt ∧ r.toInt ≤ 7)) (fun (_ : Unit) t => va_P (dC, dI) vwCl [] t.heap ∧ va_K (dC, dI) vwCl [] t ∧ va_D (va_A [] sz) []) (va_A [] sz)) 0 0 (va_A [] sz) := by
  refine Met.ofW (cc := cX4_nameOf) (maxL := 2) (ret := (some .int)) (by decide) rfl ?_
  intro p e s m args below meth c s₁ B hml hv
  obtain ⟨rfl, hsz, hP, hK, hD0, hZNAMES, hTNAMES⟩ := hv
  have hx := B.exec
  have hb := B.bytes
  have hr := B.returns
  have hts := atoms_spec (ws := wsX4_nameOf) B.pre
  have hown : s.vm.findClass RX4 = some m.cls := findClass_of_methodNamed B.named
  have hlocks := B.notSynchronized
  subst hsz
  have hD := hD0.self (sz := s.heap.size)
  generalize hAe : va_A [] s.heap.size = A at hD hZNAMES hTNAMES ⊢
  have hA : ∀ q : Nat, s.heap.size ≤ q → A q := fun q h => by rw [← hAe]; exact Or.inr h
  have hS : va_S A s.heap s.heap [] := va_S.rf
  have hP : va_P (dC, dI) vwCl [] s.heap := hP
  have hl := lv_entry ([.int p0]) (n := 2) (Nat.le_of_ble_eq_true rfl)
  rw [lg_entry_eq]
  generalize (lg_sl ([.int p0]) ++ List.replicate (2 - (lg_sl ([.int p0])).length) Slot.unset).toArray = ls at hl ⊢
  have hl : lv_has ls 2 [(0, .int p0)] := hl
  refine lv_iconst (v := 0) hx hb dX4_nameOf_0 kk_ic_0 ?_
  refine lv_istore_n hx hb dX4_nameOf_1 rfl hl (by decide) (rfl : _ = ([(1, .int 0), (0, .int p0)] : List (Nat × Value))) (fun ls hl => ?_)
  refine lv_iload_n hx hb dX4_nameOf_2 rfl (lv_at hl 0 rfl) ?_
  refine va_gets hx hb hZNAMES hS hown (hts (.fieldLink RX4 15 "KinkStreet$Law" "NAMES" "[C") (List.mem_of_getElem? (i := 1) rfl)) (fun _ h9 => h9) dX4_nameOf_3 ?_
  refine va_tlen (v := 8) hx hb hTNAMES hS rfl dX4_nameOf_6 ?_
  refine lv_icmp_ge (tgt := 27) hx hb dX4_nameOf_7 (by decide) (fun c => absurd c (by decide)) (fun _ => ?_)
  refine va_gets hx hb hZNAMES hS hown (hts (.fieldLink RX4 15 "KinkStreet$Law" "NAMES" "[C") (List.mem_of_getElem? (i := 1) rfl)) (fun _ h9 => h9) dX4_nameOf_10 ?_
  refine lv_iload_n hx hb dX4_nameOf_13 rfl (lv_at hl 0 rfl) ?_
  refine va_tc (v := .int 119) hx hb hTNAMES hS (by unfold vp_in; decide) rfl dX4_nameOf_14 ?_
  refine lv_iload_n hx hb dX4_nameOf_15 rfl (lv_at hl 1 rfl) ?_
  refine lv_icmp_ne (tgt := 21) hx hb dX4_nameOf_16 (by decide) (fun c_1 => ?_) (fun c_1 => ?_)
  · have t_1 : 119 ≠ p0.toInt := kk_ne c_1
    refine lv_iinc (v := 1) hx hb dX4_nameOf_21 hl (k := 0) rfl (by first | rfl | decide) (by decide) (rfl : _ = ([(1, .int 1), (0, .int p0)] : List (Nat × Value))) (fun ls hl => ?_)
    refine lv_goto (tgt := 2) hx hb dX4_nameOf_24 (by decide) ?_
    refine lv_iload_n hx hb dX4_nameOf_2 rfl (lv_at hl 0 rfl) ?_
    refine va_gets hx hb hZNAMES hS hown (hts (.fieldLink RX4 15 "KinkStreet$Law" "NAMES" "[C") (List.mem_of_getElem? (i := 1) rfl)) (fun _ h9 => h9) dX4_nameOf_3 ?_
    refine va_tlen (v := 8) hx hb hTNAMES hS rfl dX4_nameOf_6 ?_
    refine lv_icmp_ge (tgt := 27) hx hb dX4_nameOf_7 (by decide) (fun c => absurd c (by decide)) (fun _ => ?_)
    refine va_gets hx hb hZNAMES hS hown (hts (.fieldLink RX4 15 "KinkStreet$Law" "NAMES" "[C") (List.mem_of_getElem? (i := 1) rfl)) (fun _ h9 => h9) dX4_nameOf_10 ?_
    refine lv_iload_n hx hb dX4_nameOf_13 rfl (lv_at hl 0 rfl) ?_
    refine va_tc (v := .int 110) hx hb hTNAMES hS (by unfold vp_in; decide) rfl dX4_nameOf_14 ?_
    refine lv_iload_n hx hb dX4_nameOf_15 rfl (lv_at hl 1 rfl) ?_
    refine lv_icmp_ne (tgt := 21) hx hb dX4_nameOf_16 (by decide) (fun c_2 => ?_) (fun c_2 => ?_)
    · have t_2 : 110 ≠ p0.toInt := kk_ne c_2
      refine lv_iinc (v := 2) hx hb dX4_nameOf_21 hl (k := 0) rfl (by first | rfl | decide) (by decide) (rfl : _ = ([(1, .int 2), (0, .int p0)] : List (Nat × Value))) (fun ls hl => ?_)
      refine lv_goto (tgt := 2) hx hb dX4_nameOf_24 (by decide) ?_
      refine lv_iload_n hx hb dX4_nameOf_2 rfl (lv_at hl 0 rfl) ?_
      refine va_gets hx hb hZNAMES hS hown (hts (.fieldLink RX4 15 "KinkStreet$Law" "NAMES" "[C") (List.mem_of_getElem? (i := 1) rfl)) (fun _ h9 => h9) dX4_nameOf_3 ?_
      refine va_tlen (v := 8) hx hb hTNAMES hS rfl dX4_nameOf_6 ?_
      refine lv_icmp_ge (tgt := 27) hx hb dX4_nameOf_7 (by decide) (fun c => absurd c (by decide)) (fun _ => ?_)
      refine va_gets hx hb hZNAMES hS hown (hts (.fieldLink RX4 15 "KinkStreet$Law" "NAMES" "[C") (List.mem_of_getElem? (i := 1) rfl)) (fun _ h9 => h9) dX4_nameOf_10 ?_
      refine lv_iload_n hx hb dX4_nameOf_13 rfl (lv_at hl 0 rfl) ?_
      refine va_tc (v := .int 100) hx hb hTNAMES hS (by unfold vp_in; decide) rfl dX4_nameOf_14 ?_
      refine lv_iload_n hx hb dX4_nameOf_15 rfl (lv_at hl 1 rfl) ?_
      refine lv_icmp_ne (tgt := 21) hx hb dX4_nameOf_16 (by decide) (fun c_3 => ?_) (fun c_3 => ?_)
      · have t_3 : 100 ≠ p0.toInt := kk_ne c_3
        refine lv_iinc (v := 3) hx hb dX4_nameOf_21 hl (k := 0) rfl (by first | rfl | decide) (by decide) (rfl : _ = ([(1, .int 3), (0, .int p0)] : List (Nat × Value))) (fun ls hl => ?_)
        refine lv_goto (tgt := 2) hx hb dX4_nameOf_24 (by decide) ?_
        refine lv_iload_n hx hb dX4_nameOf_2 rfl (lv_at hl 0 rfl) ?_
        refine va_gets hx hb hZNAMES hS hown (hts (.fieldLink RX4 15 "KinkStreet$Law" "NAMES" "[C") (List.mem_of_getElem? (i := 1) rfl)) (fun _ h9 => h9) dX4_nameOf_3 ?_
        refine va_tlen (v := 8) hx hb hTNAMES hS rfl dX4_nameOf_6 ?_
        refine lv_icmp_ge (tgt := 27) hx hb dX4_nameOf_7 (by decide) (fun c => absurd c (by decide)) (fun _ => ?_)
        refine va_gets hx hb hZNAMES hS hown (hts (.fieldLink RX4 15 "KinkStreet$Law" "NAMES" "[C") (List.mem_of_getElem? (i := 1) rfl)) (fun _ h9 => h9) dX4_nameOf_10 ?_
        refine lv_iload_n hx hb dX4_nameOf_13 rfl (lv_at hl 0 rfl) ?_
        refine va_tc (v := .int 121) hx hb hTNAMES hS (by unfold vp_in; decide) rfl dX4_nameOf_14 ?_
        refine lv_iload_n hx hb dX4_nameOf_15 rfl (lv_at hl 1 rfl) ?_
        refine lv_icmp_ne (tgt := 21) hx hb dX4_nameOf_16 (by decide) (fun c_4 => ?_) (fun c_4 => ?_)
        · have t_4 : 121 ≠ p0.toInt := kk_ne c_4
          refine lv_iinc (v := 4) hx hb dX4_nameOf_21 hl (k := 0) rfl (by first | rfl | decide) (by decide) (rfl : _ = ([(1, .int 4), (0, .int p0)] : List (Nat × Value))) (fun ls hl => ?_)
          refine lv_goto (tgt := 2) hx hb dX4_nameOf_24 (by decide) ?_
          refine lv_iload_n hx hb dX4_nameOf_2 rfl (lv_at hl 0 rfl) ?_
          refine va_gets hx hb hZNAMES hS hown (hts (.fieldLink RX4 15 "KinkStreet$Law" "NAMES" "[C") (List.mem_of_getElem? (i := 1) rfl)) (fun _ h9 => h9) dX4_nameOf_3 ?_
          refine va_tlen (v := 8) hx hb hTNAMES hS rfl dX4_nameOf_6 ?_
          refine lv_icmp_ge (tgt := 27) hx hb dX4_nameOf_7 (by decide) (fun c => absurd c (by decide)) (fun _ => ?_)
          refine va_gets hx hb hZNAMES hS hown (hts (.fieldLink RX4 15 "KinkStreet$Law" "NAMES" "[C") (List.mem_of_getElem? (i := 1) rfl)) (fun _ h9 => h9) dX4_nameOf_10 ?_
          refine lv_iload_n hx hb dX4_nameOf_13 rfl (lv_at hl 0 rfl) ?_
          refine va_tc (v := .int 122) hx hb hTNAMES hS (by unfold vp_in; decide) rfl dX4_nameOf_14 ?_
          refine lv_iload_n hx hb dX4_nameOf_15 rfl (lv_at hl 1 rfl) ?_
          refine lv_icmp_ne (tgt := 21) hx hb dX4_nameOf_16 (by decide) (fun c_5 => ?_) (fun c_5 => ?_)
          · have t_5 : 122 ≠ p0.toInt := kk_ne c_5
            refine lv_iinc (v := 5) hx hb dX4_nameOf_21 hl (k := 0) rfl (by first | rfl | decide) (by decide) (rfl : _ = ([(1, .int 5), (0, .int p0)] : List (Nat × Value))) (fun ls hl => ?_)
            refine lv_goto (tgt := 2) hx hb dX4_nameOf_24 (by decide) ?_
            refine lv_iload_n hx hb dX4_nameOf_2 rfl (lv_at hl 0 rfl) ?_
            refine va_gets hx hb hZNAMES hS hown (hts (.fieldLink RX4 15 "KinkStreet$Law" "NAMES" "[C") (List.mem_of_getElem? (i := 1) rfl)) (fun _ h9 => h9) dX4_nameOf_3 ?_
            refine va_tlen (v := 8) hx hb hTNAMES hS rfl dX4_nameOf_6 ?_
            refine lv_icmp_ge (tgt := 27) hx hb dX4_nameOf_7 (by decide) (fun c => absurd c (by decide)) (fun _ => ?_)
            refine va_gets hx hb hZNAMES hS hown (hts (.fieldLink RX4 15 "KinkStreet$Law" "NAMES" "[C") (List.mem_of_getElem? (i := 1) rfl)) (fun _ h9 => h9) dX4_nameOf_10 ?_
            refine lv_iload_n hx hb dX4_nameOf_13 rfl (lv_at hl 0 rfl) ?_
            refine va_tc (v := .int 102) hx hb hTNAMES hS (by unfold vp_in; decide) rfl dX4_nameOf_14 ?_
            refine lv_iload_n hx hb dX4_nameOf_15 rfl (lv_at hl 1 rfl) ?_
            refine lv_icmp_ne (tgt := 21) hx hb dX4_nameOf_16 (by decide) (fun c_6 => ?_) (fun c_6 => ?_)
            · have t_6 : 102 ≠ p0.toInt := kk_ne c_6
              refine lv_iinc (v := 6) hx hb dX4_nameOf_21 hl (k := 0) rfl (by first | rfl | decide) (by decide) (rfl : _ = ([(1, .int 6), (0, .int p0)] : List (Nat × Value))) (fun ls hl => ?_)
              refine lv_goto (tgt := 2) hx hb dX4_nameOf_24 (by decide) ?_
              refine lv_iload_n hx hb dX4_nameOf_2 rfl (lv_at hl 0 rfl) ?_
              refine va_gets hx hb hZNAMES hS hown (hts (.fieldLink RX4 15 "KinkStreet$Law" "NAMES" "[C") (List.mem_of_getElem? (i := 1) rfl)) (fun _ h9 => h9) dX4_nameOf_3 ?_
              refine va_tlen (v := 8) hx hb hTNAMES hS rfl dX4_nameOf_6 ?_
              refine lv_icmp_ge (tgt := 27) hx hb dX4_nameOf_7 (by decide) (fun c => absurd c (by decide)) (fun _ => ?_)
              refine va_gets hx hb hZNAMES hS hown (hts (.fieldLink RX4 15 "KinkStreet$Law" "NAMES" "[C") (List.mem_of_getElem? (i := 1) rfl)) (fun _ h9 => h9) dX4_nameOf_10 ?_
              refine lv_iload_n hx hb dX4_nameOf_13 rfl (lv_at hl 0 rfl) ?_
              refine va_tc (v := .int 105) hx hb hTNAMES hS (by unfold vp_in; decide) rfl dX4_nameOf_14 ?_
              refine lv_iload_n hx hb dX4_nameOf_15 rfl (lv_at hl 1 rfl) ?_
              refine lv_icmp_ne (tgt := 21) hx hb dX4_nameOf_16 (by decide) (fun c_7 => ?_) (fun c_7 => ?_)
              · have t_7 : 105 ≠ p0.toInt := kk_ne c_7
                refine lv_iinc (v := 7) hx hb dX4_nameOf_21 hl (k := 0) rfl (by first | rfl | decide) (by decide) (rfl : _ = ([(1, .int 7), (0, .int p0)] : List (Nat × Value))) (fun ls hl => ?_)
                refine lv_goto (tgt := 2) hx hb dX4_nameOf_24 (by decide) ?_
                refine lv_iload_n hx hb dX4_nameOf_2 rfl (lv_at hl 0 rfl) ?_
                refine va_gets hx hb hZNAMES hS hown (hts (.fieldLink RX4 15 "KinkStreet$Law" "NAMES" "[C") (List.mem_of_getElem? (i := 1) rfl)) (fun _ h9 => h9) dX4_nameOf_3 ?_
                refine va_tlen (v := 8) hx hb hTNAMES hS rfl dX4_nameOf_6 ?_
                refine lv_icmp_ge (tgt := 27) hx hb dX4_nameOf_7 (by decide) (fun c => absurd c (by decide)) (fun _ => ?_)
                refine va_gets hx hb hZNAMES hS hown (hts (.fieldLink RX4 15 "KinkStreet$Law" "NAMES" "[C") (List.mem_of_getElem? (i := 1) rfl)) (fun _ h9 => h9) dX4_nameOf_10 ?_
                refine lv_iload_n hx hb dX4_nameOf_13 rfl (lv_at hl 0 rfl) ?_
                refine va_tc (v := .int 99) hx hb hTNAMES hS (by unfold vp_in; decide) rfl dX4_nameOf_14 ?_
                refine lv_iload_n hx hb dX4_nameOf_15 rfl (lv_at hl 1 rfl) ?_
                refine lv_icmp_ne (tgt := 21) hx hb dX4_nameOf_16 (by decide) (fun c_8 => ?_) (fun c_8 => ?_)
                · have t_8 : 99 ≠ p0.toInt := kk_ne c_8
                  refine lv_iinc (v := 8) hx hb dX4_nameOf_21 hl (k := 0) rfl (by first | rfl | decide) (by decide) (rfl : _ = ([(1, .int 8), (0, .int p0)] : List (Nat × Value))) (fun ls hl => ?_)
                  refine lv_goto (tgt := 2) hx hb dX4_nameOf_24 (by decide) ?_
                  refine lv_iload_n hx hb dX4_nameOf_2 rfl (lv_at hl 0 rfl) ?_
                  refine va_gets hx hb hZNAMES hS hown (hts (.fieldLink RX4 15 "KinkStreet$Law" "NAMES" "[C") (List.mem_of_getElem? (i := 1) rfl)) (fun _ h9 => h9) dX4_nameOf_3 ?_
                  refine va_tlen (v := 8) hx hb hTNAMES hS rfl dX4_nameOf_6 ?_
                  refine lv_icmp_ge (tgt := 27) hx hb dX4_nameOf_7 (by decide) (fun _ => ?_) (fun c => absurd c (by decide))
                  refine lv_bipush (v := (-2)) hx hb dX4_nameOf_27 kk_bi_m2 ?_
                  obtain ⟨hP9, hD9⟩ := kk_leafout (wc := []) hP hD [] (by decide) rfl
                  have hK9 := kk_Ks (tq := []) hK [] rfl
                  exact W.iret (v := (-2)) hx hb hr (fun t ht hW => ⟨⟨(-2), (), rfl, ⟨(by show ((0 ≤ ((-2) : Int) → ((p0 : Int32).toInt = 119 ∨ (p0 : Int32).toInt = 110 ∨ (p0 : Int32).toInt = 100 ∨ (p0 : Int32).toInt = 121 ∨ (p0 : Int32).toInt = 122 ∨ (p0 : Int32).toInt = 102 ∨ (p0 : Int32).toInt = 105 ∨ (p0 : Int32).toInt = 99)) ∧ (((-2) : Int) < 0 → ¬ ((p0 : Int32).toInt = 119 ∨ (p0 : Int32).toInt = 110 ∨ (p0 : Int32).toInt = 100 ∨ (p0 : Int32).toInt = 121 ∨ (p0 : Int32).toInt = 122 ∨ (p0 : Int32).toInt = 102 ∨ (p0 : Int32).toInt = 105 ∨ (p0 : Int32).toInt = 99))); omega), (by show (0 ≤ ((-2) : Int) → ((-2) : Int) = (kw_ix (p0 : Int32).toInt : Int)); omega), (by show (-2) ≤ ((-2) : Int32).toInt ∧ ((-2) : Int32).toInt ≤ 7; first | with_reducible assumption | decide | (constructor <;> (omega)))⟩, by rw [ht]; exact hP9, va_K.moved hW.alike hK9, hD9⟩, hS.F ht⟩) hS.2.2 dX4_nameOf_29
                · have t_8 : 99 = p0.toInt := kk_eq c_8
                  refine lv_iload_n hx hb dX4_nameOf_19 rfl (lv_at hl 0 rfl) ?_
                  have hk_9 : (7 : Int) = (kw_ix p0.toInt : Int) := kw_ix7 (by omega)
                  obtain ⟨hP9, hD9⟩ := kk_leafout (wc := []) hP hD [] (by decide) rfl
                  have hK9 := kk_Ks (tq := []) hK [] rfl
                  exact W.iret (v := 7) hx hb hr (fun t ht hW => ⟨⟨7, (), rfl, ⟨(by show ((0 ≤ (7 : Int) → ((p0 : Int32).toInt = 119 ∨ (p0 : Int32).toInt = 110 ∨ (p0 : Int32).toInt = 100 ∨ (p0 : Int32).toInt = 121 ∨ (p0 : Int32).toInt = 122 ∨ (p0 : Int32).toInt = 102 ∨ (p0 : Int32).toInt = 105 ∨ (p0 : Int32).toInt = 99)) ∧ ((7 : Int) < 0 → ¬ ((p0 : Int32).toInt = 119 ∨ (p0 : Int32).toInt = 110 ∨ (p0 : Int32).toInt = 100 ∨ (p0 : Int32).toInt = 121 ∨ (p0 : Int32).toInt = 122 ∨ (p0 : Int32).toInt = 102 ∨ (p0 : Int32).toInt = 105 ∨ (p0 : Int32).toInt = 99))); omega), (by show (0 ≤ (7 : Int) → (7 : Int) = (kw_ix (p0 : Int32).toInt : Int)); omega), (by show (-2) ≤ (7 : Int32).toInt ∧ (7 : Int32).toInt ≤ 7; first | with_reducible assumption | decide | (constructor <;> (omega)))⟩, by rw [ht]; exact hP9, va_K.moved hW.alike hK9, hD9⟩, hS.F ht⟩) hS.2.2 dX4_nameOf_20
              · have t_7 : 105 = p0.toInt := kk_eq c_7
                refine lv_iload_n hx hb dX4_nameOf_19 rfl (lv_at hl 0 rfl) ?_
                have hk_10 : (6 : Int) = (kw_ix p0.toInt : Int) := kw_ix6 (by omega)
                obtain ⟨hP9, hD9⟩ := kk_leafout (wc := []) hP hD [] (by decide) rfl
                have hK9 := kk_Ks (tq := []) hK [] rfl
                exact W.iret (v := 6) hx hb hr (fun t ht hW => ⟨⟨6, (), rfl, ⟨(by show ((0 ≤ (6 : Int) → ((p0 : Int32).toInt = 119 ∨ (p0 : Int32).toInt = 110 ∨ (p0 : Int32).toInt = 100 ∨ (p0 : Int32).toInt = 121 ∨ (p0 : Int32).toInt = 122 ∨ (p0 : Int32).toInt = 102 ∨ (p0 : Int32).toInt = 105 ∨ (p0 : Int32).toInt = 99)) ∧ ((6 : Int) < 0 → ¬ ((p0 : Int32).toInt = 119 ∨ (p0 : Int32).toInt = 110 ∨ (p0 : Int32).toInt = 100 ∨ (p0 : Int32).toInt = 121 ∨ (p0 : Int32).toInt = 122 ∨ (p0 : Int32).toInt = 102 ∨ (p0 : Int32).toInt = 105 ∨ (p0 : Int32).toInt = 99))); omega), (by show (0 ≤ (6 : Int) → (6 : Int) = (kw_ix (p0 : Int32).toInt : Int)); omega), (by show (-2) ≤ (6 : Int32).toInt ∧ (6 : Int32).toInt ≤ 7; first | with_reducible assumption | decide | (constructor <;> (omega)))⟩, by rw [ht]; exact hP9, va_K.moved hW.alike hK9, hD9⟩, hS.F ht⟩) hS.2.2 dX4_nameOf_20
            · have t_6 : 102 = p0.toInt := kk_eq c_6
              refine lv_iload_n hx hb dX4_nameOf_19 rfl (lv_at hl 0 rfl) ?_
              have hk_11 : (5 : Int) = (kw_ix p0.toInt : Int) := kw_ix5 (by omega)
              obtain ⟨hP9, hD9⟩ := kk_leafout (wc := []) hP hD [] (by decide) rfl
              have hK9 := kk_Ks (tq := []) hK [] rfl
              exact W.iret (v := 5) hx hb hr (fun t ht hW => ⟨⟨5, (), rfl, ⟨(by show ((0 ≤ (5 : Int) → ((p0 : Int32).toInt = 119 ∨ (p0 : Int32).toInt = 110 ∨ (p0 : Int32).toInt = 100 ∨ (p0 : Int32).toInt = 121 ∨ (p0 : Int32).toInt = 122 ∨ (p0 : Int32).toInt = 102 ∨ (p0 : Int32).toInt = 105 ∨ (p0 : Int32).toInt = 99)) ∧ ((5 : Int) < 0 → ¬ ((p0 : Int32).toInt = 119 ∨ (p0 : Int32).toInt = 110 ∨ (p0 : Int32).toInt = 100 ∨ (p0 : Int32).toInt = 121 ∨ (p0 : Int32).toInt = 122 ∨ (p0 : Int32).toInt = 102 ∨ (p0 : Int32).toInt = 105 ∨ (p0 : Int32).toInt = 99))); omega), (by show (0 ≤ (5 : Int) → (5 : Int) = (kw_ix (p0 : Int32).toInt : Int)); omega), (by show (-2) ≤ (5 : Int32).toInt ∧ (5 : Int32).toInt ≤ 7; first | with_reducible assumption | decide | (constructor <;> (omega)))⟩, by rw [ht]; exact hP9, va_K.moved hW.alike hK9, hD9⟩, hS.F ht⟩) hS.2.2 dX4_nameOf_20
          · have t_5 : 122 = p0.toInt := kk_eq c_5
            refine lv_iload_n hx hb dX4_nameOf_19 rfl (lv_at hl 0 rfl) ?_
            have hk_12 : (4 : Int) = (kw_ix p0.toInt : Int) := kw_ix4 (by omega)
            obtain ⟨hP9, hD9⟩ := kk_leafout (wc := []) hP hD [] (by decide) rfl
            have hK9 := kk_Ks (tq := []) hK [] rfl
            exact W.iret (v := 4) hx hb hr (fun t ht hW => ⟨⟨4, (), rfl, ⟨(by show ((0 ≤ (4 : Int) → ((p0 : Int32).toInt = 119 ∨ (p0 : Int32).toInt = 110 ∨ (p0 : Int32).toInt = 100 ∨ (p0 : Int32).toInt = 121 ∨ (p0 : Int32).toInt = 122 ∨ (p0 : Int32).toInt = 102 ∨ (p0 : Int32).toInt = 105 ∨ (p0 : Int32).toInt = 99)) ∧ ((4 : Int) < 0 → ¬ ((p0 : Int32).toInt = 119 ∨ (p0 : Int32).toInt = 110 ∨ (p0 : Int32).toInt = 100 ∨ (p0 : Int32).toInt = 121 ∨ (p0 : Int32).toInt = 122 ∨ (p0 : Int32).toInt = 102 ∨ (p0 : Int32).toInt = 105 ∨ (p0 : Int32).toInt = 99))); omega), (by show (0 ≤ (4 : Int) → (4 : Int) = (kw_ix (p0 : Int32).toInt : Int)); omega), (by show (-2) ≤ (4 : Int32).toInt ∧ (4 : Int32).toInt ≤ 7; first | with_reducible assumption | decide | (constructor <;> (omega)))⟩, by rw [ht]; exact hP9, va_K.moved hW.alike hK9, hD9⟩, hS.F ht⟩) hS.2.2 dX4_nameOf_20
        · have t_4 : 121 = p0.toInt := kk_eq c_4
          refine lv_iload_n hx hb dX4_nameOf_19 rfl (lv_at hl 0 rfl) ?_
          have hk_13 : (3 : Int) = (kw_ix p0.toInt : Int) := kw_ix3 (by omega)
          obtain ⟨hP9, hD9⟩ := kk_leafout (wc := []) hP hD [] (by decide) rfl
          have hK9 := kk_Ks (tq := []) hK [] rfl
          exact W.iret (v := 3) hx hb hr (fun t ht hW => ⟨⟨3, (), rfl, ⟨(by show ((0 ≤ (3 : Int) → ((p0 : Int32).toInt = 119 ∨ (p0 : Int32).toInt = 110 ∨ (p0 : Int32).toInt = 100 ∨ (p0 : Int32).toInt = 121 ∨ (p0 : Int32).toInt = 122 ∨ (p0 : Int32).toInt = 102 ∨ (p0 : Int32).toInt = 105 ∨ (p0 : Int32).toInt = 99)) ∧ ((3 : Int) < 0 → ¬ ((p0 : Int32).toInt = 119 ∨ (p0 : Int32).toInt = 110 ∨ (p0 : Int32).toInt = 100 ∨ (p0 : Int32).toInt = 121 ∨ (p0 : Int32).toInt = 122 ∨ (p0 : Int32).toInt = 102 ∨ (p0 : Int32).toInt = 105 ∨ (p0 : Int32).toInt = 99))); omega), (by show (0 ≤ (3 : Int) → (3 : Int) = (kw_ix (p0 : Int32).toInt : Int)); omega), (by show (-2) ≤ (3 : Int32).toInt ∧ (3 : Int32).toInt ≤ 7; first | with_reducible assumption | decide | (constructor <;> (omega)))⟩, by rw [ht]; exact hP9, va_K.moved hW.alike hK9, hD9⟩, hS.F ht⟩) hS.2.2 dX4_nameOf_20
      · have t_3 : 100 = p0.toInt := kk_eq c_3
        refine lv_iload_n hx hb dX4_nameOf_19 rfl (lv_at hl 0 rfl) ?_
        have hk_14 : (2 : Int) = (kw_ix p0.toInt : Int) := kw_ix2 (by omega)
        obtain ⟨hP9, hD9⟩ := kk_leafout (wc := []) hP hD [] (by decide) rfl
        have hK9 := kk_Ks (tq := []) hK [] rfl
        exact W.iret (v := 2) hx hb hr (fun t ht hW => ⟨⟨2, (), rfl, ⟨(by show ((0 ≤ (2 : Int) → ((p0 : Int32).toInt = 119 ∨ (p0 : Int32).toInt = 110 ∨ (p0 : Int32).toInt = 100 ∨ (p0 : Int32).toInt = 121 ∨ (p0 : Int32).toInt = 122 ∨ (p0 : Int32).toInt = 102 ∨ (p0 : Int32).toInt = 105 ∨ (p0 : Int32).toInt = 99)) ∧ ((2 : Int) < 0 → ¬ ((p0 : Int32).toInt = 119 ∨ (p0 : Int32).toInt = 110 ∨ (p0 : Int32).toInt = 100 ∨ (p0 : Int32).toInt = 121 ∨ (p0 : Int32).toInt = 122 ∨ (p0 : Int32).toInt = 102 ∨ (p0 : Int32).toInt = 105 ∨ (p0 : Int32).toInt = 99))); omega), (by show (0 ≤ (2 : Int) → (2 : Int) = (kw_ix (p0 : Int32).toInt : Int)); omega), (by show (-2) ≤ (2 : Int32).toInt ∧ (2 : Int32).toInt ≤ 7; first | with_reducible assumption | decide | (constructor <;> (omega)))⟩, by rw [ht]; exact hP9, va_K.moved hW.alike hK9, hD9⟩, hS.F ht⟩) hS.2.2 dX4_nameOf_20
    · have t_2 : 110 = p0.toInt := kk_eq c_2
      refine lv_iload_n hx hb dX4_nameOf_19 rfl (lv_at hl 0 rfl) ?_
      have hk_15 : (1 : Int) = (kw_ix p0.toInt : Int) := kw_ix1 (by omega)
      obtain ⟨hP9, hD9⟩ := kk_leafout (wc := []) hP hD [] (by decide) rfl
      have hK9 := kk_Ks (tq := []) hK [] rfl
      exact W.iret (v := 1) hx hb hr (fun t ht hW => ⟨⟨1, (), rfl, ⟨(by show ((0 ≤ (1 : Int) → ((p0 : Int32).toInt = 119 ∨ (p0 : Int32).toInt = 110 ∨ (p0 : Int32).toInt = 100 ∨ (p0 : Int32).toInt = 121 ∨ (p0 : Int32).toInt = 122 ∨ (p0 : Int32).toInt = 102 ∨ (p0 : Int32).toInt = 105 ∨ (p0 : Int32).toInt = 99)) ∧ ((1 : Int) < 0 → ¬ ((p0 : Int32).toInt = 119 ∨ (p0 : Int32).toInt = 110 ∨ (p0 : Int32).toInt = 100 ∨ (p0 : Int32).toInt = 121 ∨ (p0 : Int32).toInt = 122 ∨ (p0 : Int32).toInt = 102 ∨ (p0 : Int32).toInt = 105 ∨ (p0 : Int32).toInt = 99))); omega), (by show (0 ≤ (1 : Int) → (1 : Int) = (kw_ix (p0 : Int32).toInt : Int)); omega), (by show (-2) ≤ (1 : Int32).toInt ∧ (1 : Int32).toInt ≤ 7; first | with_reducible assumption | decide | (constructor <;> (omega)))⟩, by rw [ht]; exact hP9, va_K.moved hW.alike hK9, hD9⟩, hS.F ht⟩) hS.2.2 dX4_nameOf_20
  · have t_1 : 119 = p0.toInt := kk_eq c_1
    refine lv_iload_n hx hb dX4_nameOf_19 rfl (lv_at hl 0 rfl) ?_
    have hk_16 : (0 : Int) = (kw_ix p0.toInt : Int) := kw_ix0 (by omega)
    obtain ⟨hP9, hD9⟩ := kk_leafout (wc := []) hP hD [] (by decide) rfl
    have hK9 := kk_Ks (tq := []) hK [] rfl
    exact W.iret (v := 0) hx hb hr (fun t ht hW => ⟨⟨0, (), rfl, ⟨(by show ((0 ≤ (0 : Int) → ((p0 : Int32).toInt = 119 ∨ (p0 : Int32).toInt = 110 ∨ (p0 : Int32).toInt = 100 ∨ (p0 : Int32).toInt = 121 ∨ (p0 : Int32).toInt = 122 ∨ (p0 : Int32).toInt = 102 ∨ (p0 : Int32).toInt = 105 ∨ (p0 : Int32).toInt = 99)) ∧ ((0 : Int) < 0 → ¬ ((p0 : Int32).toInt = 119 ∨ (p0 : Int32).toInt = 110 ∨ (p0 : Int32).toInt = 100 ∨ (p0 : Int32).toInt = 121 ∨ (p0 : Int32).toInt = 122 ∨ (p0 : Int32).toInt = 102 ∨ (p0 : Int32).toInt = 105 ∨ (p0 : Int32).toInt = 99))); omega), (by show (0 ≤ (0 : Int) → (0 : Int) = (kw_ix (p0 : Int32).toInt : Int)); omega), (by show (-2) ≤ (0 : Int32).toInt ∧ (0 : Int32).toInt ≤ 7; first | with_reducible assumption | decide | (constructor <;> (omega)))⟩, by rw [ht]; exact hP9, va_K.moved hW.alike hK9, hD9⟩, hS.F ht⟩) hS.2.2 dX4_nameOf_20
set_option maxHeartbeats 4000000 in
set_option maxRecDepth 100000 in
theorem g_X4_append_1 (l : Launch) (dC : Nat → ClassId) (dI : Nat → Nat → Nat) (h0 : Nat) (h1 : Nat) (h2 : Nat) (h3 : Nat) (cint : ClassId) (sz : Nat) (p0 : Int32) (n0_size : Int32) (n0_top : Int32) (f1 : Nat → Int32) (tn0_size : 0 ≤ n0_size.toInt ∧ n0_size.toInt ≤ 128) (tn0_top : kk_bx (0 ≤ n0_top.toInt ∧ n0_top.toInt ≤ 64)) (pr0 : n0_size.toInt ≤ 127) : Met l yX4_append wsX4_append ({ frames := 0, cells := 0, slots := 0, locals := 0 }) (va_Pc [.ref h0, .int p0] (fun U => U.heap.size = sz ∧ va_P (dC, dI) vwCl [(h0, kO4 h1 n0_size h2 h3 n0_top), (h1, kAi cint 128 f1)] U.heap ∧ va_K (dC, dI) vwCl [(cint, .int)] U ∧ va_D (fun _ => True) [(h0, kO4 h1 n0_size h2 h3 n0_top), (h1, kAi cint 128 f1)])) (va_Qv (fun (_ : Unit) => True) (fun (_ : Unit) t => ∃ (m0_size : Int32) (g1 : Nat → Int32), (1 ≤ m0_size.toInt ∧ m0_size.toInt ≤ 128) ∧ (kg_sI g1 m0_size.toInt = kg_sI f1 n0_size.toInt ++ [(p0 : Int32)]) ∧ (m0_size.toInt = n0_size.toInt + 1) ∧ va_P (dC, dI) vwCl [(h0, kO4 h1 m0_size h2 h3 n0_top), (h1, kAi cint 128 g1)] t.heap ∧ va_K (dC, dI) vwCl [] t ∧ va_D (va_A [(h0, kO4 h1 n0_size h2 h3 n0_top), (h1, kAi cint 128 f1)] sz) [(h0, kO4 h1 m0_size h2 h3 n0_top), (h1, kAi cint 128 g1)]) (va_A [(h0, kO4 h1 n0_size h2 h3 n0_top), (h1, kAi cint 128 f1)] sz)) 0 0 (va_A [(h0, kO4 h1 n0_size h2 h3 n0_top), (h1, kAi cint 128 f1)] sz) := by
  refine Met.ofW (cc := cX4_append) (maxL := 2) (ret := none) (by decide) rfl ?_
  intro p e s m args below meth c s₁ B hml hv
  obtain ⟨rfl, hsz, hP, hK, hD0⟩ := hv
  have hx := B.exec
  have hb := B.bytes
  have hr := B.returns
  have hts := atoms_spec (ws := wsX4_append) B.pre
  have hown : s.vm.findClass RX4 = some m.cls := findClass_of_methodNamed B.named
  have hlocks := B.notSynchronized
  subst hsz
  have hD := hD0.self (sz := s.heap.size)
  generalize hAe : va_A [(h0, kO4 h1 n0_size h2 h3 n0_top), (h1, kAi cint 128 f1)] s.heap.size = A at hD ⊢
  have hA : ∀ q : Nat, s.heap.size ≤ q → A q := fun q h => by rw [← hAe]; exact Or.inr h
  have hS : va_S A s.heap s.heap [] := va_S.rf
  have hP : va_P (dC, dI) vwCl [(h0, kO4 h1 n0_size h2 h3 n0_top), (h1, kAi cint 128 f1)] s.heap := hP
  have hl := lv_entry ([.ref h0, .int p0]) (n := 2) (Nat.le_of_ble_eq_true rfl)
  rw [lg_entry_eq]
  generalize (lg_sl ([.ref h0, .int p0]) ++ List.replicate (2 - (lg_sl ([.ref h0, .int p0])).length) Slot.unset).toArray = ls at hl ⊢
  have hl : lv_has ls 2 [(0, .ref h0), (1, .int p0)] := hl
  refine lv_aload_n hx hb dX4_append_0 rfl (lv_at hl 0 rfl) ?_
  refine va_get (D := (dC, dI)) (ci := 4) (v := .int n0_size) (C := RX4) (T := TX4) (N := 5) hx hb hts (fun _ h => List.mem_cons_of_mem _ (List.mem_append_right _ h)) hown hK hP 0 rfl rfl 1 (by decide) (hts (.fieldLink RX4 25 "KinkStreet$Law" "size" "I") (List.mem_of_getElem? (i := 1) rfl)) (fun _ h9 => h9) rfl dX4_append_1 ?_
  refine lv_sipush (v := 128) hx hb dX4_append_4 kk_si_128 ?_
  refine lv_icmp_ge (tgt := 27) hx hb dX4_append_7 (by decide) (fun c_1 => ?_) (fun c_1 => ?_)
  · have t_1 : 128 ≤ n0_size.toInt := kk_le c_1
    exfalso; omega
  · have t_1 : n0_size.toInt < 128 := kk_nle c_1
    refine lv_aload_n hx hb dX4_append_10 rfl (lv_at hl 0 rfl) ?_
    refine va_get (D := (dC, dI)) (ci := 4) (v := .ref h1) (C := RX4) (T := TX4) (N := 5) hx hb hts (fun _ h => List.mem_cons_of_mem _ (List.mem_append_right _ h)) hown hK hP 0 rfl rfl 0 (by decide) (hts (.fieldLink RX4 11 "KinkStreet$Law" "signs" "[I") (List.mem_of_getElem? (i := 2) rfl)) (fun _ h9 => h9) rfl dX4_append_11 ?_
    refine lv_aload_n hx hb dX4_append_14 rfl (lv_at hl 0 rfl) ?_
    refine lv_dup hx hb dX4_append_15 rfl ?_
    refine va_get (D := (dC, dI)) (ci := 4) (v := .int n0_size) (C := RX4) (T := TX4) (N := 5) hx hb hts (fun _ h => List.mem_cons_of_mem _ (List.mem_append_right _ h)) hown hK hP 0 rfl rfl 1 (by decide) (hts (.fieldLink RX4 25 "KinkStreet$Law" "size" "I") (List.mem_of_getElem? (i := 1) rfl)) (fun _ h9 => h9) rfl dX4_append_16 ?_
    refine lv_dup_x1 hx hb dX4_append_19 rfl rfl ?_
    refine lv_iconst (v := 1) hx hb dX4_append_20 kk_ic_1 ?_
    refine lv_iadd hx hb dX4_append_21 ?_
    refine va_put (D := (dC, dI)) (ci := 4) (v := .int (n0_size + 1)) (ty := .int) (C := RX4) (T := TX4) (N := 5) hx hb hts (fun _ h => List.mem_cons_of_mem _ (List.mem_append_right _ h)) tyX4 tyX4_ok nmX4 hown hK hP hD hS 0 rfl rfl 1 (by decide) (hts (.fieldLink RX4 25 "KinkStreet$Law" "size" "I") (List.mem_of_getElem? (i := 1) rfl)) (fun _ h9 => h9) rfl (by decide +kernel) rfl rfl (Nat.le_of_ble_eq_true rfl) dX4_append_22 (fun H locs hP hD hS => ?_)
    have hP : va_P (dC, dI) vwCl [(h0, kO4 h1 (n0_size + 1) h2 h3 n0_top), (h1, kAi cint 128 f1)] H := hP
    have hD : va_D A [(h0, kO4 h1 (n0_size + 1) h2 h3 n0_top), (h1, kAi cint 128 f1)] := hD
    refine lv_iload_n hx hb dX4_append_25 rfl (lv_at hl 1 rfl) ?_
    refine va_iast hx hb hK hP hD hS 1 0 rfl rfl (vp_in_iff.mpr ⟨by have := kk_add2 (x := n0_size) (y := 1) (a := n0_size.toInt) (b := 1) rfl rfl (by omega) (by omega); omega, by have := kk_add2 (x := n0_size) (y := 1) (a := n0_size.toInt) (b := 1) rfl rfl (by omega) (by omega); omega⟩) dX4_append_26 (fun H locs hP hD hS => ?_)
    have w_2 : ((upd f1 (n0_size : Int32).toNatClampNeg p0) (n0_size : Int32).toNatClampNeg).toInt = (p0 : Int32).toInt := by rw [kk_ups]
    have hP : va_P (dC, dI) vwCl [(h0, kO4 h1 (n0_size + 1) h2 h3 n0_top), (h1, kAi cint 128 (upd f1 (n0_size : Int32).toNatClampNeg p0))] H := hP
    have hD : va_D A [(h0, kO4 h1 (n0_size + 1) h2 h3 n0_top), (h1, kAi cint 128 (upd f1 (n0_size : Int32).toNatClampNeg p0))] := hD
    obtain ⟨hP9, hD9⟩ := kk_leafout (wc := [(h0, kO4 h1 (n0_size + 1) h2 h3 n0_top), (h1, kAi cint 128 (upd f1 (n0_size : Int32).toNatClampNeg p0))]) hP hD [0, 1] (by decide) rfl
    have hK9 := kk_Ks (tq := []) hK [] rfl
    exact W.vret hx hb hr (fun t ht hW => ⟨⟨(), rfl, trivial, (n0_size + 1), (upd f1 (n0_size : Int32).toNatClampNeg p0), (by show 1 ≤ ((n0_size + 1) : Int32).toInt ∧ ((n0_size + 1) : Int32).toInt ≤ 128; first | with_reducible assumption | (constructor <;> (have := kk_add2 (x := n0_size) (y := 1) (a := n0_size.toInt) (b := 1) rfl rfl (by omega) (by omega); omega))), (by first | exact kg_sI_app (by have := kk_add2 (x := n0_size) (y := 1) (a := n0_size.toInt) (b := 1) rfl rfl (by omega) (by omega); omega) (by have := kk_add2 (x := n0_size) (y := 1) (a := n0_size.toInt) (b := 1) rfl rfl (by omega) (by omega); omega) | (exfalso; have := kk_add2 (x := n0_size) (y := 1) (a := n0_size.toInt) (b := 1) rfl rfl (by omega) (by omega); omega)), (by show ((n0_size + 1) : Int32).toInt = (n0_size : Int32).toInt + 1; first | with_reducible assumption | (have := kk_add2 (x := n0_size) (y := 1) (a := n0_size.toInt) (b := 1) rfl rfl (by omega) (by omega); omega)), by rw [ht]; exact hP9, va_K.moved hW.alike hK9, hD9⟩, hS.F ht⟩) hS.2.2 dX4_append_27
set_option maxHeartbeats 4000000 in
set_option maxRecDepth 100000 in
theorem g_X10_readNumber_1 (l : Launch) (dC : Nat → ClassId) (dI : Nat → Nat → Nat) (h0 : Nat) (h1 : Nat) (h2 : Nat) (h3 : Nat) (h4 : Nat) (h5 : Nat) (cint : ClassId) (sz : Nat) (n0_size : Int32) (n0_place : Int32) (f1 : Nat → Int32) (n2_size : Int32) (n2_top : Int32) (f3 : Nat → Int32) (tn0_size : 0 ≤ n0_size.toInt ∧ n0_size.toInt ≤ 120) (tn0_place : 0 ≤ n0_place.toInt ∧ n0_place.toInt ≤ 120) (bf1 : ∀ j, j < 120 → 0 ≤ (f1 j).toInt ∧ (f1 j).toInt ≤ 255) (tn2_size : 0 ≤ n2_size.toInt ∧ n2_size.toInt ≤ 128) (tn2_top : kk_bx (0 ≤ n2_top.toInt ∧ n2_top.toInt ≤ 64)) (pr0 : (0 ≤ n0_place.toInt ∧ n0_place.toInt ≤ n0_size.toInt)) (pr1 : n2_size.toInt ≤ n0_place.toInt) (pr2 : (48 ≤ ko_at f1 n0_size.toInt n0_place.toInt ∧ ko_at f1 n0_size.toInt n0_place.toInt ≤ 57)) : Met l yX10_readNumber wsX10_readNumber ({ frames := 1, cells := 0, slots := 0, locals := 21 }) (va_Pc [.ref h0] (fun U => U.heap.size = sz ∧ va_P (dC, dI) vwCl [(h0, kO10 h1 n0_size n0_place h2), (h1, kAi cint 120 f1), (h2, kO4 h3 n2_size h4 h5 n2_top), (h3, kAi cint 128 f3)] U.heap ∧ va_K (dC, dI) vwCl [(cint, .int)] U ∧ va_D (fun _ => True) [(h0, kO10 h1 n0_size n0_place h2), (h1, kAi cint 120 f1), (h2, kO4 h3 n2_size h4 h5 n2_top), (h3, kAi cint 128 f3)])) (va_Qv (fun (_ : Unit) => True) (fun (_ : Unit) t => ∃ (m0_place : Int32) (m2_size : Int32) (g3 : Nat → Int32), (0 ≤ m0_place.toInt ∧ m0_place.toInt ≤ 120) ∧ (1 ≤ m2_size.toInt ∧ m2_size.toInt ≤ 128) ∧ ((m0_place.toInt = ko_F (ko_at f1 n0_size.toInt) 4 n0_place.toInt ∧ n0_place.toInt ≤ m0_place.toInt ∧ m0_place.toInt ≤ n0_size.toInt)) ∧ (kg_sI g3 m2_size.toInt = kg_sI f3 n2_size.toInt ++ [256 + kv_nm (ko_at f1 n0_size.toInt) 4 n0_place.toInt 0]) ∧ ((m2_size.toInt = n2_size.toInt + 1 ∧ n0_place.toInt < m0_place.toInt)) ∧ va_P (dC, dI) vwCl [(h0, kO10 h1 n0_size m0_place h2), (h1, kAi cint 120 f1), (h2, kO4 h3 m2_size h4 h5 n2_top), (h3, kAi cint 128 g3)] t.heap ∧ va_K (dC, dI) vwCl [] t ∧ va_D (va_A [(h0, kO10 h1 n0_size n0_place h2), (h1, kAi cint 120 f1), (h2, kO4 h3 n2_size h4 h5 n2_top), (h3, kAi cint 128 f3)] sz) [(h0, kO10 h1 n0_size m0_place h2), (h1, kAi cint 120 f1), (h2, kO4 h3 m2_size h4 h5 n2_top), (h3, kAi cint 128 g3)]) (va_A [(h0, kO10 h1 n0_size n0_place h2), (h1, kAi cint 120 f1), (h2, kO4 h3 n2_size h4 h5 n2_top), (h3, kAi cint 128 f3)] sz)) 0 0 (va_A [(h0, kO10 h1 n0_size n0_place h2), (h1, kAi cint 120 f1), (h2, kO4 h3 n2_size h4 h5 n2_top), (h3, kAi cint 128 f3)] sz) := by
  refine Met.ofW (cc := cX10_readNumber) (maxL := 3) (ret := none) (by decide) rfl ?_
  intro p e s m args below meth c s₁ B hml hv
  obtain ⟨rfl, hsz, hP, hK, hD0⟩ := hv
  have hx := B.exec
  have hb := B.bytes
  have hr := B.returns
  have hts := atoms_spec (ws := wsX10_readNumber) B.pre
  have hown : s.vm.findClass RX10 = some m.cls := findClass_of_methodNamed B.named
  have hlocks := B.notSynchronized
  subst hsz
  have hD := hD0.self (sz := s.heap.size)
  generalize hAe : va_A [(h0, kO10 h1 n0_size n0_place h2), (h1, kAi cint 120 f1), (h2, kO4 h3 n2_size h4 h5 n2_top), (h3, kAi cint 128 f3)] s.heap.size = A at hD ⊢
  have hA : ∀ q : Nat, s.heap.size ≤ q → A q := fun q h => by rw [← hAe]; exact Or.inr h
  have hS : va_S A s.heap s.heap [] := va_S.rf
  have hP : va_P (dC, dI) vwCl [(h0, kO10 h1 n0_size n0_place h2), (h1, kAi cint 120 f1), (h2, kO4 h3 n2_size h4 h5 n2_top), (h3, kAi cint 128 f3)] s.heap := hP
  have hl := lv_entry ([.ref h0]) (n := 3) (Nat.le_of_ble_eq_true rfl)
  rw [lg_entry_eq]
  generalize (lg_sl ([.ref h0]) ++ List.replicate (3 - (lg_sl ([.ref h0])).length) Slot.unset).toArray = ls at hl ⊢
  have hl : lv_has ls 3 [(0, .ref h0)] := hl
  refine lv_iconst (v := 0) hx hb dX10_readNumber_0 kk_ic_0 ?_
  refine lv_istore_n hx hb dX10_readNumber_1 rfl hl (by decide) (rfl : _ = ([(1, .int 0), (0, .ref h0)] : List (Nat × Value))) (fun ls hl => ?_)
  refine lv_iconst (v := 0) hx hb dX10_readNumber_2 kk_ic_0 ?_
  have hk_1 : ko_F (ko_at f1 n0_size.toInt) (4 - (0 : Int)) n0_place.toInt = ko_F (ko_at f1 n0_size.toInt) 4 n0_place.toInt := rfl
  have hk_2 : kw_FI (ko_at f1 n0_size.toInt) (4 - (0 : Int)) n0_place.toInt (0 : Int) = kw_FI (ko_at f1 n0_size.toInt) 4 n0_place.toInt 0 := rfl
  have hk_3 : kv_p10 (0 : Int) = 1 := kv_p10_0
  refine lv_istore_n hx hb dX10_readNumber_3 rfl hl (by decide) (rfl : _ = ([(2, .int 0), (1, .int 0), (0, .ref h0)] : List (Nat × Value))) (fun ls hl => ?_)
  refine kk_loop (σ := Int32 × Int32 × Int32) (fun x H locs ls => (0 ≤ x.1.toInt ∧ x.1.toInt ≤ 4) ∧ 0 ≤ x.2.2.toInt ∧ x.2.2.toInt ≤ 120 ∧ (ko_F (ko_at f1 n0_size.toInt) (4 - x.1.toInt) x.2.2.toInt = ko_F (ko_at f1 n0_size.toInt) 4 n0_place.toInt ∧ n0_place.toInt ≤ x.2.2.toInt ∧ x.2.2.toInt ≤ n0_size.toInt) ∧ (kw_FI (ko_at f1 n0_size.toInt) (4 - x.1.toInt) x.2.2.toInt x.2.1.toInt = kw_FI (ko_at f1 n0_size.toInt) 4 n0_place.toInt 0 ∧ 0 ≤ x.2.1.toInt ∧ x.2.1.toInt < kv_p10 x.1.toInt) ∧ ((x.1.toInt = 0 ∧ x.2.2.toInt = n0_place.toInt ∧ ko_at f1 n0_size.toInt x.2.2.toInt = ko_at f1 n0_size.toInt n0_place.toInt) ∨ n0_place.toInt < x.2.2.toInt) ∧ va_P (dC, dI) vwCl [(h0, kO10 h1 n0_size x.2.2 h2), (h1, kAi cint 120 f1), (h2, kO4 h3 n2_size h4 h5 n2_top), (h3, kAi cint 128 f3)] H ∧ va_D A [(h0, kO10 h1 n0_size x.2.2 h2), (h1, kAi cint 120 f1), (h2, kO4 h3 n2_size h4 h5 n2_top), (h3, kAi cint 128 f3)] ∧ va_S A s.heap H locs ∧ lv_has ls 3 [(2, .int x.1), (1, .int x.2.1), (0, .ref h0)]) (fun x => ((4 : Int) - x.1.toInt).toNat) ?_ (0, 0, n0_place) _ _ _ ⟨(by show 0 ≤ (0 : Int32).toInt ∧ (0 : Int32).toInt ≤ 4; first | with_reducible assumption | decide | (constructor <;> (omega))), (by show 0 ≤ (n0_place : Int32).toInt; first | with_reducible assumption | (omega)), (by show (n0_place : Int32).toInt ≤ 120; first | with_reducible assumption | (omega)), (by show (ko_F (ko_at f1 (n0_size : Int32).toInt) (4 - (0 : Int)) (n0_place : Int32).toInt = ko_F (ko_at f1 (n0_size : Int32).toInt) 4 (n0_place : Int32).toInt ∧ (n0_place : Int32).toInt ≤ (n0_place : Int32).toInt ∧ (n0_place : Int32).toInt ≤ (n0_size : Int32).toInt); first | with_reducible assumption | (omega)), (by show (kw_FI (ko_at f1 (n0_size : Int32).toInt) (4 - (0 : Int)) (n0_place : Int32).toInt (0 : Int) = kw_FI (ko_at f1 (n0_size : Int32).toInt) 4 (n0_place : Int32).toInt 0 ∧ 0 ≤ (0 : Int) ∧ (0 : Int) < kv_p10 (0 : Int)); first | with_reducible assumption | (omega)), (by show (((0 : Int) = 0 ∧ (n0_place : Int32).toInt = (n0_place : Int32).toInt ∧ ko_at f1 (n0_size : Int32).toInt (n0_place : Int32).toInt = ko_at f1 (n0_size : Int32).toInt (n0_place : Int32).toInt) ∨ (n0_place : Int32).toInt < (n0_place : Int32).toInt); first | with_reducible assumption | (omega)), hP, hD, hS, hl⟩
  rintro ⟨i_4_0, i_4_1, i_4_2⟩ H locs ls ⟨t_4_0, z_4_0, z_4_1, z_4_2, z_4_3, z_4_4, hP, hD, hS, hl⟩ ih_4
  have t_4_0 : (0 ≤ i_4_0.toInt ∧ i_4_0.toInt ≤ 4) := t_4_0
  have z_4_0 : 0 ≤ i_4_2.toInt := z_4_0
  have z_4_1 : i_4_2.toInt ≤ 120 := z_4_1
  have z_4_2 : (ko_F (ko_at f1 n0_size.toInt) (4 - i_4_0.toInt) i_4_2.toInt = ko_F (ko_at f1 n0_size.toInt) 4 n0_place.toInt ∧ n0_place.toInt ≤ i_4_2.toInt ∧ i_4_2.toInt ≤ n0_size.toInt) := z_4_2
  have z_4_3 : (kw_FI (ko_at f1 n0_size.toInt) (4 - i_4_0.toInt) i_4_2.toInt i_4_1.toInt = kw_FI (ko_at f1 n0_size.toInt) 4 n0_place.toInt 0 ∧ 0 ≤ i_4_1.toInt ∧ i_4_1.toInt < kv_p10 i_4_0.toInt) := z_4_3
  have z_4_4 : ((i_4_0.toInt = 0 ∧ i_4_2.toInt = n0_place.toInt ∧ ko_at f1 n0_size.toInt i_4_2.toInt = ko_at f1 n0_size.toInt n0_place.toInt) ∨ n0_place.toInt < i_4_2.toInt) := z_4_4
  have hl : lv_has ls 3 [(2, .int i_4_0), (1, .int i_4_1), (0, .ref h0)] := hl
  have hP : va_P (dC, dI) vwCl [(h0, kO10 h1 n0_size i_4_2 h2), (h1, kAi cint 120 f1), (h2, kO4 h3 n2_size h4 h5 n2_top), (h3, kAi cint 128 f3)] H := hP
  have hD : va_D A [(h0, kO10 h1 n0_size i_4_2 h2), (h1, kAi cint 120 f1), (h2, kO4 h3 n2_size h4 h5 n2_top), (h3, kAi cint 128 f3)] := hD
  refine lv_iload_n hx hb dX10_readNumber_4 rfl (lv_at hl 0 rfl) ?_
  refine lv_iconst (v := 4) hx hb dX10_readNumber_5 kk_ic_4 ?_
  refine lv_icmp_ge (tgt := 48) hx hb dX10_readNumber_6 (by decide) (fun c_5 => ?_) (fun c_5 => ?_)
  · have t_5 : 4 ≤ i_4_0.toInt := kk_le c_5
    have hk_6 : ko_F (ko_at f1 n0_size.toInt) (4 - i_4_0.toInt) i_4_2.toInt = i_4_2.toInt := ko_F_no (by omega)
    have hk_7 : kw_FI (ko_at f1 n0_size.toInt) (4 - i_4_0.toInt) i_4_2.toInt i_4_1.toInt = i_4_1.toInt := kw_FnI (a := i_4_1) (by omega)
    refine lv_aload_n hx hb dX10_readNumber_48 rfl (lv_at hl 2 rfl) ?_
    refine va_get (D := (dC, dI)) (ci := 10) (v := .ref h2) (C := RX10) (T := TX10) (N := 4) hx hb hts (fun _ h => List.mem_cons_of_mem _ (List.mem_append_left _ (List.mem_append_right _ h))) hown hK hP 0 rfl rfl 3 (by decide) (hts (.fieldLink RX10 20 "KinkStreet$Tape" "law" "LKinkStreet$Law;") (List.mem_of_getElem? (i := 2) rfl)) (fun _ h9 => h9) rfl dX10_readNumber_49 ?_
    refine lv_sipush (v := 256) hx hb dX10_readNumber_52 kk_si_256 ?_
    refine lv_iload_n hx hb dX10_readNumber_55 rfl (lv_at hl 1 rfl) ?_
    refine lv_iadd hx hb dX10_readNumber_56 ?_
    obtain ⟨hPc, hDc, hFc⟩ := kk_cutout (wc := [(h2, kO4 h3 n2_size h4 h5 n2_top), (h3, kAi cint 128 f3)]) hP hD hS hA [2, 3] (by decide) rfl
    have hKc := kk_Ks (tq := [(cint, .int)]) hK [0] rfl
    refine va_callv (va_runV (As := [.int (256 + i_4_1)]) (rest := []) ⟨hx, hb, hml, hown, hts⟩ (g_X4_append_1 l dC dI h2 h3 h4 h5 cint H.size (256 + i_4_1) n2_size n2_top f3 tn2_size tn2_top (by show (n2_size : Int32).toInt ≤ 127; first | with_reducible assumption | (omega))) (cwV 1 hts gX10_readNumber_X4_append rfl rfl rfl ⟨rfl, kh_X4_append⟩ ⟨Nat.le_of_ble_eq_true rfl, Nat.le_of_ble_eq_true rfl⟩) ⟨fun a U g mk q => by obtain ⟨q0, q1, qP, qK, qD⟩ := q; exact ⟨q0, q1, qP, va_K.moved (u := U) (U := U.calling g mk a) (Vm.Alike.refl U.vm) qK, qD⟩, va_recv hKc hPc (ci := 4) (q0 := 0) rfl rfl, fun U hU hW => ⟨rfl, by rw [hU], by rw [hU]; exact hPc, va_K.moved hW.alike hKc, hDc.weaken (fun _ _ _ _ => trivial)⟩⟩ rfl rfl hl.1 rfl (lv_room (Nat.le_of_ble_eq_true rfl)) dX10_readNumber_57 ⟨Nat.le_of_ble_eq_true rfl, Nat.le_of_ble_eq_true rfl⟩) hS (fun q _ h => hFc q h) hFc (fun u t H1 locs ht hvm hw hB hz1 hk1 hS => ?_)
    obtain ⟨y_9, f_10, by_9, v_10_0, v_10_1, hP1, hK1, hD1⟩ := hB
    have v_10_0 : kg_sI f_10 y_9.toInt = kg_sI f3 n2_size.toInt ++ [((256 + i_4_1) : Int32)] := v_10_0
    have v_10_1 : y_9.toInt = n2_size.toInt + 1 := v_10_1
    rw [ht] at hP1
    have hK1 := va_K.moved hvm.symm hK1
    obtain ⟨hP, hD⟩ := va_join (wr := [(h0, kO10 h1 n0_size i_4_2 h2), (h1, kAi cint 120 f1)]) (w1 := [(h2, kO4 h3 y_9 h4 h5 n2_top), (h3, kAi cint 128 f_10)]) hP hD [2, 3] [0, 1] rfl rfl (by decide) (by decide) hk1 hFc hP1 hD1
    generalize H1 = H at hP hS ⊢
    have hP : va_P (dC, dI) vwCl [(h0, kO10 h1 n0_size i_4_2 h2), (h1, kAi cint 120 f1), (h2, kO4 h3 y_9 h4 h5 n2_top), (h3, kAi cint 128 f_10)] H := hP
    have hD : va_D A [(h0, kO10 h1 n0_size i_4_2 h2), (h1, kAi cint 120 f1), (h2, kO4 h3 y_9 h4 h5 n2_top), (h3, kAi cint 128 f_10)] := hD
    have hk_11 : kw_FI (ko_at f1 n0_size.toInt) 4 n0_place.toInt 0 = (kv_nm (ko_at f1 n0_size.toInt) 4 n0_place.toInt 0).toInt := kw_F00
    have hk_12 : kg_sI f_10 y_9.toInt = kg_sI f3 n2_size.toInt ++ [256 + kv_nm (ko_at f1 n0_size.toInt) 4 n0_place.toInt 0] := by rw [Int32.toInt_inj.mp (show (kv_nm (ko_at f1 n0_size.toInt) 4 n0_place.toInt 0).toInt = i_4_1.toInt from (by omega))]; with_reducible assumption
    obtain ⟨hP9, hD9⟩ := kk_leafout (wc := [(h0, kO10 h1 n0_size i_4_2 h2), (h1, kAi cint 120 f1), (h2, kO4 h3 y_9 h4 h5 n2_top), (h3, kAi cint 128 f_10)]) hP hD [0, 1, 2, 3] (by decide) rfl
    have hK9 := kk_Ks (tq := []) hK [] rfl
    exact W.vret hx hb hr (fun t ht hW => ⟨⟨(), rfl, trivial, i_4_2, y_9, f_10, (by show 0 ≤ (i_4_2 : Int32).toInt ∧ (i_4_2 : Int32).toInt ≤ 120; first | with_reducible assumption | (constructor <;> (omega))), (by show 1 ≤ (y_9 : Int32).toInt ∧ (y_9 : Int32).toInt ≤ 128; first | with_reducible assumption | (constructor <;> (omega))), (by show ((i_4_2 : Int32).toInt = ko_F (ko_at f1 (n0_size : Int32).toInt) 4 (n0_place : Int32).toInt ∧ (n0_place : Int32).toInt ≤ (i_4_2 : Int32).toInt ∧ (i_4_2 : Int32).toInt ≤ (n0_size : Int32).toInt); first | with_reducible assumption | (omega)), (by with_reducible assumption), (by show ((y_9 : Int32).toInt = (n2_size : Int32).toInt + 1 ∧ (n0_place : Int32).toInt < (i_4_2 : Int32).toInt); first | with_reducible assumption | (omega)), by rw [ht]; exact hP9, va_K.moved hW.alike hK9, hD9⟩, hS.F ht⟩) hS.2.2 dX10_readNumber_60
  · have t_5 : i_4_0.toInt < 4 := kk_nle c_5
    refine lv_aload_n hx hb dX10_readNumber_9 rfl (lv_at hl 2 rfl) ?_
    obtain ⟨hPc, hDc, hFc⟩ := kk_cutout (wc := [(h0, kO10 h1 n0_size i_4_2 h2), (h1, kAi cint 120 f1)]) hP hD hS hA [0, 1] (by decide) rfl
    have hKc := kk_Ks (tq := [(cint, .int)]) hK [0] rfl
    refine va_calli (va_runV (As := []) (rest := []) ⟨hx, hb, hml, hown, hts⟩ (g_X10_next_1 l dC dI h0 h1 h2 cint H.size n0_size i_4_2 f1 tn0_size (by show 0 ≤ (i_4_2 : Int32).toInt ∧ (i_4_2 : Int32).toInt ≤ 120; first | with_reducible assumption | (constructor <;> (omega))) bf1 (by show (0 ≤ (i_4_2 : Int32).toInt ∧ (i_4_2 : Int32).toInt ≤ (n0_size : Int32).toInt); first | with_reducible assumption | (omega))) (cwV 0 hts gX10_readNumber_X10_next rfl rfl rfl ⟨rfl, kh_X10_next⟩ ⟨Nat.le_of_ble_eq_true rfl, Nat.le_of_ble_eq_true rfl⟩) ⟨fun a U g mk q => by obtain ⟨q0, q1, qP, qK, qD⟩ := q; exact ⟨q0, q1, qP, va_K.moved (u := U) (U := U.calling g mk a) (Vm.Alike.refl U.vm) qK, qD⟩, va_recv hKc hPc (ci := 10) (q0 := 0) rfl rfl, fun U hU hW => ⟨rfl, by rw [hU], by rw [hU]; exact hPc, va_K.moved hW.alike hKc, hDc.weaken (fun _ _ _ _ => trivial)⟩⟩ rfl rfl hl.1 rfl (lv_room (Nat.le_of_ble_eq_true rfl)) dX10_readNumber_10 ⟨Nat.le_of_ble_eq_true rfl, Nat.le_of_ble_eq_true rfl⟩) hS (fun q _ h => hFc q h) hFc (fun r_13 u t H1 locs ht hvm hw hB hz1 hk1 hS => ?_)
    obtain ⟨hP1, hK1, hD1⟩ := hB
    rw [ht] at hP1
    have hK1 := va_K.moved hvm.symm hK1
    obtain ⟨hP, hD⟩ := va_join (wr := [(h2, kO4 h3 n2_size h4 h5 n2_top), (h3, kAi cint 128 f3)]) (w1 := [(h0, kO10 h1 n0_size i_4_2 h2), (h1, kAi cint 120 f1)]) hP hD [0, 1] [2, 3] rfl rfl (by decide) (by decide) hk1 hFc hP1 hD1
    generalize H1 = H at hP hS ⊢
    have hP : va_P (dC, dI) vwCl [(h2, kO4 h3 n2_size h4 h5 n2_top), (h3, kAi cint 128 f3), (h0, kO10 h1 n0_size i_4_2 h2), (h1, kAi cint 120 f1)] H := hP
    have hD : va_D A [(h2, kO4 h3 n2_size h4 h5 n2_top), (h3, kAi cint 128 f3), (h0, kO10 h1 n0_size i_4_2 h2), (h1, kAi cint 120 f1)] := hD
    rcases hw with ⟨t_13_0, t_13_any⟩
    · skip
      have t_13_0 : (((i_4_2.toInt < n0_size.toInt) → r_13.toInt = ko_at f1 n0_size.toInt i_4_2.toInt ∧ 0 ≤ r_13.toInt) ∧ (n0_size.toInt ≤ i_4_2.toInt → r_13.toInt = -1 ∧ ko_at f1 n0_size.toInt i_4_2.toInt = 0)) := t_13_0
      obtain ⟨hPc, hDc, hFc⟩ := kk_cutout (wc := []) hP hD hS hA [] (by decide) rfl
      have hKc := kk_Ks (tq := []) hK [] rfl
      refine va_calli (va_runS (As := [.int r_13]) (rest := []) ⟨hx, hb, hml, hown, hts⟩ (g_X10_isDigit_1 l dC dI H.size r_13) (va_cwS 1 hts gX10_readNumber_X10_isDigit rfl rfl rfl kh_X10_isDigit ⟨Nat.le_of_ble_eq_true rfl, Nat.le_of_ble_eq_true rfl⟩) ⟨fun a U g mk q => by obtain ⟨q0, q1, qP, qK, qD⟩ := q; exact ⟨q0, q1, qP, va_K.moved (u := U) (U := U.calling g mk a) (Vm.Alike.refl U.vm) qK, qD⟩, fun U hU hW => ⟨rfl, by rw [hU], by rw [hU]; exact hPc, va_K.moved hW.alike hKc, hDc.weaken (fun _ _ _ _ => trivial)⟩⟩ rfl rfl hl.1 rfl (lv_room (Nat.le_of_ble_eq_true rfl)) dX10_readNumber_13 ⟨Nat.le_of_ble_eq_true rfl, Nat.le_of_ble_eq_true rfl⟩) hS (fun q _ h => hFc q h) hFc (fun r_14 u t H1 locs ht hvm hw hB hz1 hk1 hS => ?_)
      obtain ⟨hP1, hK1, hD1⟩ := hB
      rw [ht] at hP1
      have hK1 := va_K.moved hvm.symm hK1
      obtain ⟨hP, hD⟩ := va_join (wr := [(h2, kO4 h3 n2_size h4 h5 n2_top), (h3, kAi cint 128 f3), (h0, kO10 h1 n0_size i_4_2 h2), (h1, kAi cint 120 f1)]) (w1 := []) hP hD [] [0, 1, 2, 3] rfl rfl (by decide) (by decide) hk1 hFc hP1 hD1
      generalize H1 = H at hP hS ⊢
      have hP : va_P (dC, dI) vwCl [(h2, kO4 h3 n2_size h4 h5 n2_top), (h3, kAi cint 128 f3), (h0, kO10 h1 n0_size i_4_2 h2), (h1, kAi cint 120 f1)] H := hP
      have hD : va_D A [(h2, kO4 h3 n2_size h4 h5 n2_top), (h3, kAi cint 128 f3), (h0, kO10 h1 n0_size i_4_2 h2), (h1, kAi cint 120 f1)] := hD
      rcases hw with ⟨t_14_0, rfl⟩ | ⟨t_14_0, t_14_1, t_14_2, rfl⟩
      · skip
        have t_14_0 : (r_13.toInt < 48 ∨ 57 < r_13.toInt) := t_14_0
        refine lv_if_eq (tgt := 48) hx hb dX10_readNumber_16 (by decide) (fun _ => ?_) (fun c => absurd c (by decide))
        have hk_15 : ko_F (ko_at f1 n0_size.toInt) (4 - i_4_0.toInt) i_4_2.toInt = i_4_2.toInt := ko_F_no (by omega)
        have hk_16 : kw_FI (ko_at f1 n0_size.toInt) (4 - i_4_0.toInt) i_4_2.toInt i_4_1.toInt = i_4_1.toInt := kw_FnI (a := i_4_1) (by omega)
        refine lv_aload_n hx hb dX10_readNumber_48 rfl (lv_at hl 2 rfl) ?_
        refine va_get (D := (dC, dI)) (ci := 10) (v := .ref h2) (C := RX10) (T := TX10) (N := 4) hx hb hts (fun _ h => List.mem_cons_of_mem _ (List.mem_append_left _ (List.mem_append_right _ h))) hown hK hP 2 rfl rfl 3 (by decide) (hts (.fieldLink RX10 20 "KinkStreet$Tape" "law" "LKinkStreet$Law;") (List.mem_of_getElem? (i := 2) rfl)) (fun _ h9 => h9) rfl dX10_readNumber_49 ?_
        refine lv_sipush (v := 256) hx hb dX10_readNumber_52 kk_si_256 ?_
        refine lv_iload_n hx hb dX10_readNumber_55 rfl (lv_at hl 1 rfl) ?_
        refine lv_iadd hx hb dX10_readNumber_56 ?_
        obtain ⟨hPc, hDc, hFc⟩ := kk_cutout (wc := [(h2, kO4 h3 n2_size h4 h5 n2_top), (h3, kAi cint 128 f3)]) hP hD hS hA [0, 1] (by decide) rfl
        have hKc := kk_Ks (tq := [(cint, .int)]) hK [0] rfl
        refine va_callv (va_runV (As := [.int (256 + i_4_1)]) (rest := []) ⟨hx, hb, hml, hown, hts⟩ (g_X4_append_1 l dC dI h2 h3 h4 h5 cint H.size (256 + i_4_1) n2_size n2_top f3 tn2_size tn2_top (by show (n2_size : Int32).toInt ≤ 127; first | with_reducible assumption | (omega))) (cwV 1 hts gX10_readNumber_X4_append rfl rfl rfl ⟨rfl, kh_X4_append⟩ ⟨Nat.le_of_ble_eq_true rfl, Nat.le_of_ble_eq_true rfl⟩) ⟨fun a U g mk q => by obtain ⟨q0, q1, qP, qK, qD⟩ := q; exact ⟨q0, q1, qP, va_K.moved (u := U) (U := U.calling g mk a) (Vm.Alike.refl U.vm) qK, qD⟩, va_recv hKc hPc (ci := 4) (q0 := 0) rfl rfl, fun U hU hW => ⟨rfl, by rw [hU], by rw [hU]; exact hPc, va_K.moved hW.alike hKc, hDc.weaken (fun _ _ _ _ => trivial)⟩⟩ rfl rfl hl.1 rfl (lv_room (Nat.le_of_ble_eq_true rfl)) dX10_readNumber_57 ⟨Nat.le_of_ble_eq_true rfl, Nat.le_of_ble_eq_true rfl⟩) hS (fun q _ h => hFc q h) hFc (fun u t H1 locs ht hvm hw hB hz1 hk1 hS => ?_)
        obtain ⟨y_18, f_19, by_18, v_19_0, v_19_1, hP1, hK1, hD1⟩ := hB
        have v_19_0 : kg_sI f_19 y_18.toInt = kg_sI f3 n2_size.toInt ++ [((256 + i_4_1) : Int32)] := v_19_0
        have v_19_1 : y_18.toInt = n2_size.toInt + 1 := v_19_1
        rw [ht] at hP1
        have hK1 := va_K.moved hvm.symm hK1
        obtain ⟨hP, hD⟩ := va_join (wr := [(h0, kO10 h1 n0_size i_4_2 h2), (h1, kAi cint 120 f1)]) (w1 := [(h2, kO4 h3 y_18 h4 h5 n2_top), (h3, kAi cint 128 f_19)]) hP hD [0, 1] [2, 3] rfl rfl (by decide) (by decide) hk1 hFc hP1 hD1
        generalize H1 = H at hP hS ⊢
        have hP : va_P (dC, dI) vwCl [(h0, kO10 h1 n0_size i_4_2 h2), (h1, kAi cint 120 f1), (h2, kO4 h3 y_18 h4 h5 n2_top), (h3, kAi cint 128 f_19)] H := hP
        have hD : va_D A [(h0, kO10 h1 n0_size i_4_2 h2), (h1, kAi cint 120 f1), (h2, kO4 h3 y_18 h4 h5 n2_top), (h3, kAi cint 128 f_19)] := hD
        have hk_20 : kw_FI (ko_at f1 n0_size.toInt) 4 n0_place.toInt 0 = (kv_nm (ko_at f1 n0_size.toInt) 4 n0_place.toInt 0).toInt := kw_F00
        have hk_21 : kg_sI f_19 y_18.toInt = kg_sI f3 n2_size.toInt ++ [256 + kv_nm (ko_at f1 n0_size.toInt) 4 n0_place.toInt 0] := by rw [Int32.toInt_inj.mp (show (kv_nm (ko_at f1 n0_size.toInt) 4 n0_place.toInt 0).toInt = i_4_1.toInt from (by omega))]; with_reducible assumption
        obtain ⟨hP9, hD9⟩ := kk_leafout (wc := [(h0, kO10 h1 n0_size i_4_2 h2), (h1, kAi cint 120 f1), (h2, kO4 h3 y_18 h4 h5 n2_top), (h3, kAi cint 128 f_19)]) hP hD [0, 1, 2, 3] (by decide) rfl
        have hK9 := kk_Ks (tq := []) hK [] rfl
        exact W.vret hx hb hr (fun t ht hW => ⟨⟨(), rfl, trivial, i_4_2, y_18, f_19, (by show 0 ≤ (i_4_2 : Int32).toInt ∧ (i_4_2 : Int32).toInt ≤ 120; first | with_reducible assumption | (constructor <;> (omega))), (by show 1 ≤ (y_18 : Int32).toInt ∧ (y_18 : Int32).toInt ≤ 128; first | with_reducible assumption | (constructor <;> (omega))), (by show ((i_4_2 : Int32).toInt = ko_F (ko_at f1 (n0_size : Int32).toInt) 4 (n0_place : Int32).toInt ∧ (n0_place : Int32).toInt ≤ (i_4_2 : Int32).toInt ∧ (i_4_2 : Int32).toInt ≤ (n0_size : Int32).toInt); first | with_reducible assumption | (omega)), (by with_reducible assumption), (by show ((y_18 : Int32).toInt = (n2_size : Int32).toInt + 1 ∧ (n0_place : Int32).toInt < (i_4_2 : Int32).toInt); first | with_reducible assumption | (omega)), by rw [ht]; exact hP9, va_K.moved hW.alike hK9, hD9⟩, hS.F ht⟩) hS.2.2 dX10_readNumber_60
      · skip
        have t_14_0 : (48 : Int) ≤ r_13.toInt := t_14_0
        have t_14_1 : (r_13.toInt : Int) ≤ 57 := t_14_1
        have t_14_2 : (48 ≤ r_13.toInt ∧ r_13.toInt ≤ 57) := t_14_2
        refine lv_if_eq (tgt := 48) hx hb dX10_readNumber_16 (by decide) (fun c => absurd c (by decide)) (fun _ => ?_)
        refine lv_iload_n hx hb dX10_readNumber_19 rfl (lv_at hl 1 rfl) ?_
        refine lv_bipush (v := 10) hx hb dX10_readNumber_20 kk_bi_10 ?_
        refine lv_imul hx hb dX10_readNumber_22 ?_
        refine lv_aload_n hx hb dX10_readNumber_23 rfl (lv_at hl 2 rfl) ?_
        obtain ⟨hPc, hDc, hFc⟩ := kk_cutout (wc := [(h0, kO10 h1 n0_size i_4_2 h2), (h1, kAi cint 120 f1)]) hP hD hS hA [2, 3] (by decide) rfl
        have hKc := kk_Ks (tq := [(cint, .int)]) hK [0] rfl
        refine va_calli (va_runV (As := []) (rest := [.int (i_4_1 * 10)]) ⟨hx, hb, hml, hown, hts⟩ (g_X10_next_1 l dC dI h0 h1 h2 cint H.size n0_size i_4_2 f1 tn0_size (by show 0 ≤ (i_4_2 : Int32).toInt ∧ (i_4_2 : Int32).toInt ≤ 120; first | with_reducible assumption | (constructor <;> (omega))) bf1 (by show (0 ≤ (i_4_2 : Int32).toInt ∧ (i_4_2 : Int32).toInt ≤ (n0_size : Int32).toInt); first | with_reducible assumption | (omega))) (cwV 0 hts gX10_readNumber_X10_next rfl rfl rfl ⟨rfl, kh_X10_next⟩ ⟨Nat.le_of_ble_eq_true rfl, Nat.le_of_ble_eq_true rfl⟩) ⟨fun a U g mk q => by obtain ⟨q0, q1, qP, qK, qD⟩ := q; exact ⟨q0, q1, qP, va_K.moved (u := U) (U := U.calling g mk a) (Vm.Alike.refl U.vm) qK, qD⟩, va_recv hKc hPc (ci := 10) (q0 := 0) rfl rfl, fun U hU hW => ⟨rfl, by rw [hU], by rw [hU]; exact hPc, va_K.moved hW.alike hKc, hDc.weaken (fun _ _ _ _ => trivial)⟩⟩ rfl rfl hl.1 rfl (lv_room (Nat.le_of_ble_eq_true rfl)) dX10_readNumber_24 ⟨Nat.le_of_ble_eq_true rfl, Nat.le_of_ble_eq_true rfl⟩) hS (fun q _ h => hFc q h) hFc (fun r_22 u t H1 locs ht hvm hw hB hz1 hk1 hS => ?_)
        obtain ⟨hP1, hK1, hD1⟩ := hB
        rw [ht] at hP1
        have hK1 := va_K.moved hvm.symm hK1
        obtain ⟨hP, hD⟩ := va_join (wr := [(h2, kO4 h3 n2_size h4 h5 n2_top), (h3, kAi cint 128 f3)]) (w1 := [(h0, kO10 h1 n0_size i_4_2 h2), (h1, kAi cint 120 f1)]) hP hD [2, 3] [0, 1] rfl rfl (by decide) (by decide) hk1 hFc hP1 hD1
        generalize H1 = H at hP hS ⊢
        have hP : va_P (dC, dI) vwCl [(h2, kO4 h3 n2_size h4 h5 n2_top), (h3, kAi cint 128 f3), (h0, kO10 h1 n0_size i_4_2 h2), (h1, kAi cint 120 f1)] H := hP
        have hD : va_D A [(h2, kO4 h3 n2_size h4 h5 n2_top), (h3, kAi cint 128 f3), (h0, kO10 h1 n0_size i_4_2 h2), (h1, kAi cint 120 f1)] := hD
        rcases hw with ⟨t_22_0, t_22_any⟩
        · skip
          have t_22_0 : (((i_4_2.toInt < n0_size.toInt) → r_22.toInt = ko_at f1 n0_size.toInt i_4_2.toInt ∧ 0 ≤ r_22.toInt) ∧ (n0_size.toInt ≤ i_4_2.toInt → r_22.toInt = -1 ∧ ko_at f1 n0_size.toInt i_4_2.toInt = 0)) := t_22_0
          refine lv_iadd hx hb dX10_readNumber_27 ?_
          refine lv_bipush (v := 48) hx hb dX10_readNumber_28 kk_bi_48 ?_
          refine lv_isub hx hb dX10_readNumber_30 ?_
          refine lv_istore_n hx hb dX10_readNumber_31 rfl hl (by decide) (rfl : _ = ([(1, .int (((i_4_1 * 10) + r_22) - 48)), (2, .int i_4_0), (0, .ref h0)] : List (Nat × Value))) (fun ls hl => ?_)
          refine lv_aload_n hx hb dX10_readNumber_32 rfl (lv_at hl 2 rfl) ?_
          refine lv_dup hx hb dX10_readNumber_33 rfl ?_
          refine va_get (D := (dC, dI)) (ci := 10) (v := .int i_4_2) (C := RX10) (T := TX10) (N := 4) hx hb hts (fun _ h => List.mem_cons_of_mem _ (List.mem_append_left _ (List.mem_append_right _ h))) hown hK hP 2 rfl rfl 2 (by decide) (hts (.fieldLink RX10 17 "KinkStreet$Tape" "place" "I") (List.mem_of_getElem? (i := 1) rfl)) (fun _ h9 => h9) rfl dX10_readNumber_34 ?_
          refine lv_iconst (v := 1) hx hb dX10_readNumber_37 kk_ic_1 ?_
          refine lv_iadd hx hb dX10_readNumber_38 ?_
          refine va_put (D := (dC, dI)) (ci := 10) (v := .int (i_4_2 + 1)) (ty := .int) (C := RX10) (T := TX10) (N := 4) hx hb hts (fun _ h => List.mem_cons_of_mem _ (List.mem_append_left _ (List.mem_append_right _ h))) tyX10 tyX10_ok nmX10 hown hK hP hD hS 2 rfl rfl 2 (by decide) (hts (.fieldLink RX10 17 "KinkStreet$Tape" "place" "I") (List.mem_of_getElem? (i := 1) rfl)) (fun _ h9 => h9) rfl (by decide +kernel) rfl rfl (Nat.le_of_ble_eq_true rfl) dX10_readNumber_39 (fun H locs hP hD hS => ?_)
          have hP : va_P (dC, dI) vwCl [(h2, kO4 h3 n2_size h4 h5 n2_top), (h3, kAi cint 128 f3), (h0, kO10 h1 n0_size (i_4_2 + 1) h2), (h1, kAi cint 120 f1)] H := hP
          have hD : va_D A [(h2, kO4 h3 n2_size h4 h5 n2_top), (h3, kAi cint 128 f3), (h0, kO10 h1 n0_size (i_4_2 + 1) h2), (h1, kAi cint 120 f1)] := hD
          have hk_23 : ko_F (ko_at f1 n0_size.toInt) (4 - i_4_0.toInt) i_4_2.toInt = ko_F (ko_at f1 n0_size.toInt) (4 - (i_4_0 + 1).toInt) (i_4_2 + 1).toInt := ko_F_s (by have := kk_add2 (x := i_4_2) (y := 1) (a := i_4_2.toInt) (b := 1) rfl rfl (by omega) (by omega); have := kk_add2 (x := i_4_0) (y := 1) (a := i_4_0.toInt) (b := 1) rfl rfl (by omega) (by omega); omega) (by have := kk_add2 (x := i_4_2) (y := 1) (a := i_4_2.toInt) (b := 1) rfl rfl (by omega) (by omega); have := kk_add2 (x := i_4_0) (y := 1) (a := i_4_0.toInt) (b := 1) rfl rfl (by omega) (by omega); omega) (by have := kk_add2 (x := i_4_2) (y := 1) (a := i_4_2.toInt) (b := 1) rfl rfl (by omega) (by omega); have := kk_add2 (x := i_4_0) (y := 1) (a := i_4_0.toInt) (b := 1) rfl rfl (by omega) (by omega); omega) (by have := kk_add2 (x := i_4_2) (y := 1) (a := i_4_2.toInt) (b := 1) rfl rfl (by omega) (by omega); have := kk_add2 (x := i_4_0) (y := 1) (a := i_4_0.toInt) (b := 1) rfl rfl (by omega) (by omega); omega)
          have hk_24 : 1 ≤ kv_p10 i_4_0.toInt ∧ kv_p10 i_4_0.toInt ≤ 1000 := kv_p10_b (by have := kk_add2 (x := i_4_2) (y := 1) (a := i_4_2.toInt) (b := 1) rfl rfl (by omega) (by omega); have := kk_add2 (x := i_4_0) (y := 1) (a := i_4_0.toInt) (b := 1) rfl rfl (by omega) (by omega); omega) (by have := kk_add2 (x := i_4_2) (y := 1) (a := i_4_2.toInt) (b := 1) rfl rfl (by omega) (by omega); have := kk_add2 (x := i_4_0) (y := 1) (a := i_4_0.toInt) (b := 1) rfl rfl (by omega) (by omega); omega)
          have hk_25 : kv_p10 (i_4_0 + 1).toInt = 10 * kv_p10 i_4_0.toInt := kv_p10_s (by have := kk_add2 (x := i_4_2) (y := 1) (a := i_4_2.toInt) (b := 1) rfl rfl (by omega) (by omega); have := kk_add2 (x := i_4_0) (y := 1) (a := i_4_0.toInt) (b := 1) rfl rfl (by omega) (by omega); omega) (by have := kk_add2 (x := i_4_2) (y := 1) (a := i_4_2.toInt) (b := 1) rfl rfl (by omega) (by omega); have := kk_add2 (x := i_4_0) (y := 1) (a := i_4_0.toInt) (b := 1) rfl rfl (by omega) (by omega); omega)
          have hk_26 : (((i_4_1 * 10) + r_22) - 48).toInt = 10 * i_4_1.toInt + r_22.toInt - 48 := kv_dg2 (a := i_4_1) (b := r_22) ⟨(by have := kk_add2 (x := i_4_2) (y := 1) (a := i_4_2.toInt) (b := 1) rfl rfl (by omega) (by omega); have := kk_add2 (x := i_4_0) (y := 1) (a := i_4_0.toInt) (b := 1) rfl rfl (by omega) (by omega); omega), (by have := kk_add2 (x := i_4_2) (y := 1) (a := i_4_2.toInt) (b := 1) rfl rfl (by omega) (by omega); have := kk_add2 (x := i_4_0) (y := 1) (a := i_4_0.toInt) (b := 1) rfl rfl (by omega) (by omega); omega)⟩ ⟨(by have := kk_add2 (x := i_4_2) (y := 1) (a := i_4_2.toInt) (b := 1) rfl rfl (by omega) (by omega); have := kk_add2 (x := i_4_0) (y := 1) (a := i_4_0.toInt) (b := 1) rfl rfl (by omega) (by omega); omega), (by have := kk_add2 (x := i_4_2) (y := 1) (a := i_4_2.toInt) (b := 1) rfl rfl (by omega) (by omega); have := kk_add2 (x := i_4_0) (y := 1) (a := i_4_0.toInt) (b := 1) rfl rfl (by omega) (by omega); omega)⟩
          have hk_27 : kw_FI (ko_at f1 n0_size.toInt) (4 - i_4_0.toInt) i_4_2.toInt i_4_1.toInt = kw_FI (ko_at f1 n0_size.toInt) (4 - (i_4_0 + 1).toInt) (i_4_2 + 1).toInt (((i_4_1 * 10) + r_22) - 48).toInt := kw_FsI (a := i_4_1) (b := (((i_4_1 * 10) + r_22) - 48)) (by have := kk_add2 (x := i_4_2) (y := 1) (a := i_4_2.toInt) (b := 1) rfl rfl (by omega) (by omega); have := kk_add2 (x := i_4_0) (y := 1) (a := i_4_0.toInt) (b := 1) rfl rfl (by omega) (by omega); omega) ⟨(by have := kk_add2 (x := i_4_2) (y := 1) (a := i_4_2.toInt) (b := 1) rfl rfl (by omega) (by omega); have := kk_add2 (x := i_4_0) (y := 1) (a := i_4_0.toInt) (b := 1) rfl rfl (by omega) (by omega); omega), (by have := kk_add2 (x := i_4_2) (y := 1) (a := i_4_2.toInt) (b := 1) rfl rfl (by omega) (by omega); have := kk_add2 (x := i_4_0) (y := 1) (a := i_4_0.toInt) (b := 1) rfl rfl (by omega) (by omega); omega)⟩ (by have := kk_add2 (x := i_4_2) (y := 1) (a := i_4_2.toInt) (b := 1) rfl rfl (by omega) (by omega); have := kk_add2 (x := i_4_0) (y := 1) (a := i_4_0.toInt) (b := 1) rfl rfl (by omega) (by omega); omega) (by have := kk_add2 (x := i_4_2) (y := 1) (a := i_4_2.toInt) (b := 1) rfl rfl (by omega) (by omega); have := kk_add2 (x := i_4_0) (y := 1) (a := i_4_0.toInt) (b := 1) rfl rfl (by omega) (by omega); omega) (by have := kk_add2 (x := i_4_2) (y := 1) (a := i_4_2.toInt) (b := 1) rfl rfl (by omega) (by omega); have := kk_add2 (x := i_4_0) (y := 1) (a := i_4_0.toInt) (b := 1) rfl rfl (by omega) (by omega); omega) ⟨(by have := kk_add2 (x := i_4_2) (y := 1) (a := i_4_2.toInt) (b := 1) rfl rfl (by omega) (by omega); have := kk_add2 (x := i_4_0) (y := 1) (a := i_4_0.toInt) (b := 1) rfl rfl (by omega) (by omega); omega), (by have := kk_add2 (x := i_4_2) (y := 1) (a := i_4_2.toInt) (b := 1) rfl rfl (by omega) (by omega); have := kk_add2 (x := i_4_0) (y := 1) (a := i_4_0.toInt) (b := 1) rfl rfl (by omega) (by omega); omega)⟩
          refine lv_iinc (v := (i_4_0 + 1)) hx hb dX10_readNumber_42 hl (k := 1) rfl (by first | rfl | decide) (by decide) (rfl : _ = ([(2, .int (i_4_0 + 1)), (1, .int (((i_4_1 * 10) + r_22) - 48)), (0, .ref h0)] : List (Nat × Value))) (fun ls hl => ?_)
          refine lv_goto (tgt := 4) hx hb dX10_readNumber_45 (by decide) ?_
          exact ih_4 ((i_4_0 + 1), (((i_4_1 * 10) + r_22) - 48), (i_4_2 + 1)) _ _ _ (by show ((4 : Int) - ((i_4_0 + 1) : Int32).toInt).toNat < ((4 : Int) - i_4_0.toInt).toNat; have := kk_add2 (x := i_4_2) (y := 1) (a := i_4_2.toInt) (b := 1) rfl rfl (by omega) (by omega); have := kk_add2 (x := i_4_0) (y := 1) (a := i_4_0.toInt) (b := 1) rfl rfl (by omega) (by omega); exact kk_mu (by omega) (by omega)) ⟨(by show 0 ≤ ((i_4_0 + 1) : Int32).toInt ∧ ((i_4_0 + 1) : Int32).toInt ≤ 4; first | with_reducible assumption | (constructor <;> (have := kk_add2 (x := i_4_2) (y := 1) (a := i_4_2.toInt) (b := 1) rfl rfl (by omega) (by omega); have := kk_add2 (x := i_4_0) (y := 1) (a := i_4_0.toInt) (b := 1) rfl rfl (by omega) (by omega); omega))), (by show 0 ≤ ((i_4_2 + 1) : Int32).toInt; first | with_reducible assumption | (have := kk_add2 (x := i_4_2) (y := 1) (a := i_4_2.toInt) (b := 1) rfl rfl (by omega) (by omega); have := kk_add2 (x := i_4_0) (y := 1) (a := i_4_0.toInt) (b := 1) rfl rfl (by omega) (by omega); omega)), (by show ((i_4_2 + 1) : Int32).toInt ≤ 120; first | with_reducible assumption | (have := kk_add2 (x := i_4_2) (y := 1) (a := i_4_2.toInt) (b := 1) rfl rfl (by omega) (by omega); have := kk_add2 (x := i_4_0) (y := 1) (a := i_4_0.toInt) (b := 1) rfl rfl (by omega) (by omega); omega)), (by show (ko_F (ko_at f1 (n0_size : Int32).toInt) (4 - ((i_4_0 + 1) : Int32).toInt) ((i_4_2 + 1) : Int32).toInt = ko_F (ko_at f1 (n0_size : Int32).toInt) 4 (n0_place : Int32).toInt ∧ (n0_place : Int32).toInt ≤ ((i_4_2 + 1) : Int32).toInt ∧ ((i_4_2 + 1) : Int32).toInt ≤ (n0_size : Int32).toInt); first | with_reducible assumption | (have := kk_add2 (x := i_4_2) (y := 1) (a := i_4_2.toInt) (b := 1) rfl rfl (by omega) (by omega); have := kk_add2 (x := i_4_0) (y := 1) (a := i_4_0.toInt) (b := 1) rfl rfl (by omega) (by omega); omega)), (by show (kw_FI (ko_at f1 (n0_size : Int32).toInt) (4 - ((i_4_0 + 1) : Int32).toInt) ((i_4_2 + 1) : Int32).toInt ((((i_4_1 * 10) + r_22) - 48) : Int32).toInt = kw_FI (ko_at f1 (n0_size : Int32).toInt) 4 (n0_place : Int32).toInt 0 ∧ 0 ≤ ((((i_4_1 * 10) + r_22) - 48) : Int32).toInt ∧ ((((i_4_1 * 10) + r_22) - 48) : Int32).toInt < kv_p10 ((i_4_0 + 1) : Int32).toInt); first | with_reducible assumption | (have := kk_add2 (x := i_4_2) (y := 1) (a := i_4_2.toInt) (b := 1) rfl rfl (by omega) (by omega); have := kk_add2 (x := i_4_0) (y := 1) (a := i_4_0.toInt) (b := 1) rfl rfl (by omega) (by omega); omega)), (by show ((((i_4_0 + 1) : Int32).toInt = 0 ∧ ((i_4_2 + 1) : Int32).toInt = (n0_place : Int32).toInt ∧ ko_at f1 (n0_size : Int32).toInt ((i_4_2 + 1) : Int32).toInt = ko_at f1 (n0_size : Int32).toInt (n0_place : Int32).toInt) ∨ (n0_place : Int32).toInt < ((i_4_2 + 1) : Int32).toInt); first | with_reducible assumption | (have := kk_add2 (x := i_4_2) (y := 1) (a := i_4_2.toInt) (b := 1) rfl rfl (by omega) (by omega); have := kk_add2 (x := i_4_0) (y := 1) (a := i_4_0.toInt) (b := 1) rfl rfl (by omega) (by omega); omega)), hP.sub [2, 3, 0, 1] rfl, hD.sub [2, 3, 0, 1] (by decide) rfl, hS, lv_sub hl [0, 1, 2] rfl⟩
