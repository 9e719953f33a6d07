-- what a TEXT is worth (kv_), what is written down of it (kq_), how that is worked off (kg_)
noncomputable def kv_ix (x : Int) : Nat := if x = 119 then 0 else if x = 110 then 1 else if x = 100 then 2 else if x = 121 then 3 else if x = 122 then 4 else if x = 102 then 5 else if x = 105 then 6 else 7
theorem kv_ix_lt (x : Int) : kv_ix x < 8 := by
  unfold kv_ix
  (repeat' split) <;> decide
noncomputable def kv_no (v : Int32) : Int32 := if v = 0 then 1 else 0
noncomputable def kv_jn (x : Int) (v w : Int32) : Int32 :=
  if x = 124 then (if v = 0 ∧ w = 0 then 0 else 1)
  else if x = 38 then (if v = 0 ∨ w = 0 then 0 else 1)
  else if x = 60 then (if v.toInt < w.toInt then 1 else 0)
  else if x = 61 then (if v.toInt = w.toInt then 1 else 0)
  else if x = 62 then (if w.toInt < v.toInt then 1 else 0)
  else if x = 43 then v + w
  else if x = 45 then v - w
  else if x = 42 then v * w
  else if w = 0 then 0
  else if x = 47 then v / w
  else if x = 37 then v - v / w * w
  else 0
noncomputable def kv_nm (c : Int → Int) : Nat → Int → Int32 → Int32
  | 0, _, a => a
  | f + 1, q, a => if kr_D (c q) = true then kv_nm c f (q + 1) (10 * a + Int32.ofInt (c q) - 48) else a
theorem kv_of {x : Int} (h1 : -2147483648 ≤ x) (h2 : x ≤ 2147483647) : (Int32.ofInt x).toInt = x := by
  rw [Int32.toInt_ofInt]
  exact kk_bm h1 h2
theorem kv_on {n : Nat} (h : n ≤ 1000) : (Int32.ofNat n).toInt = (n : Int) := by
  rw [show Int32.ofNat n = Int32.ofInt (n : Int) from (Int32.ofInt_eq_ofNat).symm]
  exact kv_of (by omega) (by omega)
theorem kv_st {a : Int32} {x n : Int} (h1 : 48 ≤ x ∧ x ≤ 57) (h2 : 0 ≤ a.toInt) (h3 : a.toInt < n) (h4 : n ≤ 1000) : 0 ≤ (10 * a + Int32.ofInt x - 48).toInt ∧ (10 * a + Int32.ofInt x - 48).toInt < 10 * n := by
  have e := kv_of (x := x) (by omega) (by omega)
  have m := kk_mul2 (x := 10) (y := a) (a := 10) (b := a.toInt) rfl rfl (by omega) (by omega)
  have p := kk_add2 (x := 10 * a) (y := Int32.ofInt x) m e (by omega) (by omega)
  have q := kk_sub2 (x := 10 * a + Int32.ofInt x) (y := 48) (b := 48) p rfl (by omega) (by omega)
  omega
noncomputable def kv_pw : Nat → Int
  | 0 => 10000
  | 1 => 1000
  | 2 => 100
  | 3 => 10
  | _ => 1
theorem kv_nm_b (c : Int → Int) : ∀ (f : Nat), f ≤ 4 → ∀ (q : Int) (a : Int32), 0 ≤ a.toInt → a.toInt < kv_pw f → 0 ≤ (kv_nm c f q a).toInt ∧ (kv_nm c f q a).toInt < 10000 := by
  intro f
  induction f with
  | zero => exact fun _ q a h0 h1 => ⟨h0, h1⟩
  | succ g ih =>
    intro hg q a h0 h1
    have hp : kv_pw (g + 1) ≤ 1000 ∧ 10 * kv_pw (g + 1) ≤ kv_pw g ∧ kv_pw g ≤ 10000 := by
      rcases (show g = 0 ∨ g = 1 ∨ g = 2 ∨ g = 3 by omega) with rfl | rfl | rfl | rfl <;> decide
    have hlt : kv_pw g ≤ 10000 := hp.2.2
    by_cases hD : kr_D (c q) = true
    · have hd : 48 ≤ c q ∧ c q ≤ 57 := by unfold kr_D at hD; rw [decide_eq_true_eq] at hD; exact hD
      have hs := kv_st hd h0 h1 hp.1
      have e : kv_nm c (g + 1) q a = kv_nm c g (q + 1) (10 * a + Int32.ofInt (c q) - 48) := by
        show (if kr_D (c q) = true then _ else a) = _
        rw [if_pos hD]
      rw [e]
      exact ih (by omega) _ _ hs.1 (by omega)
    · have e : kv_nm c (g + 1) q a = a := by
        show (if kr_D (c q) = true then _ else a) = _
        rw [if_neg hD]
      rw [e]
      exact ⟨h0, by omega⟩
theorem kv_nm_4 (c : Int → Int) (p : Int) : 0 ≤ (kv_nm c 4 p 0).toInt ∧ (kv_nm c 4 p 0).toInt < 10000 := kv_nm_b c 4 (by decide) p 0 (by decide) (by decide)
noncomputable def kv_loop (c : Int → Int) (l : Int) (X : Int → Int) (Y : Int → Int32) : Nat → Int → Int32 → Int32
  | 0, _, v => v
  | f + 1, q, v => if kr_J l (c q) = true then (if l = 2 then kv_jn (c q) v (Y (q + 1)) else kv_loop c l X Y f (X (q + 1)) (kv_jn (c q) v (Y (q + 1)))) else v
noncomputable def kv_lv (c : Int → Int) (X : Int → Int) (Y : Int → Int32) : Nat → Int → Int32
  | 0 => Y
  | d + 1 => fun p => kv_loop c (4 - (d : Int)) (kr_lv c X d) (kv_lv c X Y d) 120 (kr_lv c X d p) (kv_lv c X Y d p)
noncomputable def kv_opr (c : Int → Int) (nm : Nat → Int32) : Nat → Int → Int32
  | 0 => fun p => if kr_D (c p) = true then kv_nm c 4 p 0 else nm (kv_ix (c p))
  | k + 1 => fun p => if kr_D (c p) = true then kv_nm c 4 p 0 else if kr_N (c p) = true then nm (kv_ix (c p)) else if c p = 40 then kv_lv c (kr_opr c k) (kv_opr c nm k) 5 (p + 1) else if c p = 33 then kv_no (kv_opr c nm k (p + 1)) else -(kv_opr c nm k (p + 1))
noncomputable def kv_R (c : Int → Int) (nm : Nat → Int32) (l k p : Int) : Int32 := kv_lv c (kr_opr c (6 - k).toNat) (kv_opr c nm (6 - k).toNat) (5 - l).toNat p
noncomputable def kq_loop (c : Int → Int) (l : Int) (X : Int → Int) (Q : Int → List Int32) : Nat → Int → List Int32
  | 0, _ => []
  | f + 1, q => if kr_J l (c q) = true then Q (q + 1) ++ (Int32.ofInt (c q) :: (if l = 2 then [] else kq_loop c l X Q f (X (q + 1)))) else []
noncomputable def kq_lv (c : Int → Int) (X : Int → Int) (Q : Int → List Int32) : Nat → Int → List Int32
  | 0 => Q
  | d + 1 => fun p => kq_lv c X Q d p ++ kq_loop c (4 - (d : Int)) (kr_lv c X d) (kq_lv c X Q d) 120 (kr_lv c X d p)
noncomputable def kq_opr (c : Int → Int) : Nat → Int → List Int32
  | 0 => fun p => if kr_D (c p) = true then [256 + kv_nm c 4 p 0] else [Int32.ofNat (kv_ix (c p))]
  | k + 1 => fun p => if kr_D (c p) = true then [256 + kv_nm c 4 p 0] else if kr_N (c p) = true then [Int32.ofNat (kv_ix (c p))] else if c p = 40 then kq_lv c (kr_opr c k) (kq_opr c k) 5 (p + 1) else if c p = 33 then kq_opr c k (p + 1) ++ [33] else kq_opr c k (p + 1) ++ [126]
noncomputable def kq_R (c : Int → Int) (l k p : Int) : List Int32 := kq_lv c (kr_opr c (6 - k).toNat) (kq_opr c (6 - k).toNat) (5 - l).toNat p
-- how it is worked off
noncomputable def kg_pop : List Int32 → Int32
  | [] => 0
  | x :: _ => x
noncomputable def kg_tl : List Int32 → List Int32
  | [] => []
  | _ :: t => t
noncomputable def kg_push (v : Int32) (s : List Int32) : List Int32 := if s.length < 64 then v :: s else s
noncomputable def kg_work (nm : Nat → Int32) (x : Int32) (s : List Int32) : List Int32 :=
  if 256 ≤ x.toInt then kg_push (x - 256) s
  else if 0 ≤ x.toInt ∧ x.toInt < 8 then kg_push (nm x.toNatClampNeg) s
  else if x.toInt = 33 then kg_push (kv_no (kg_pop s)) (kg_tl s)
  else if x.toInt = 126 then kg_push (-(kg_pop s)) (kg_tl s)
  else kg_push (kv_jn x.toInt (kg_pop (kg_tl s)) (kg_pop s)) (kg_tl (kg_tl s))
noncomputable def kg_run (nm : Nat → Int32) : List Int32 → Bool → List Int32 → Int32
  | [], _, _ => 0
  | x :: t, true, s => kg_run nm t (decide (x.toInt ≠ 59)) s
  | x :: t, false, s => if x.toInt = 59 then kg_pop s else if x.toInt = 63 then kg_run nm t (decide ((kg_pop s).toInt = 0)) (kg_tl s) else kg_run nm t false (kg_work nm x s)
theorem kg_step {nm : Nat → Int32} {x : Int32} {t s : List Int32} (h1 : x.toInt ≠ 59) (h2 : x.toInt ≠ 63) : kg_run nm (x :: t) false s = kg_run nm t false (kg_work nm x s) := by
  show (if x.toInt = 59 then _ else if x.toInt = 63 then _ else kg_run nm t false (kg_work nm x s)) = _
  rw [if_neg h1, if_neg h2]
theorem kg_push_s {v : Int32} {s : List Int32} (h : s.length < 64) : kg_push v s = v :: s := by
  unfold kg_push
  rw [if_pos h]
theorem kg_num {nm : Nat → Int32} {v : Int32} {t s : List Int32} (h0 : 0 ≤ v.toInt) (h1 : v.toInt < 10000) (hs : s.length < 64) : kg_run nm ((256 + v) :: t) false s = kg_run nm t false (v :: s) := by
  have e := kk_add2 (x := 256) (y := v) (a := 256) (b := v.toInt) rfl rfl (by omega) (by omega)
  have e2 : 256 + v - 256 = v := Int32.toInt_inj.mp (by
    have := kk_sub2 (x := 256 + v) (y := 256) (b := 256) e rfl (by omega) (by omega)
    omega)
  rw [kg_step (by omega) (by omega)]
  unfold kg_work
  rw [if_pos (by omega), e2, kg_push_s hs]
theorem kg_nam {nm : Nat → Int32} {x : Int} {t s : List Int32} (hs : s.length < 64) : kg_run nm (Int32.ofNat (kv_ix x) :: t) false s = kg_run nm t false (nm (kv_ix x) :: s) := by
  have h := kv_ix_lt x
  have e := kv_on (n := kv_ix x) (by omega)
  have e2 : (Int32.ofNat (kv_ix x)).toNatClampNeg = kv_ix x := by
    show (Int32.ofNat (kv_ix x)).toInt.toNat = kv_ix x
    omega
  rw [kg_step (by omega) (by omega)]
  unfold kg_work
  rw [if_neg (by omega), if_pos (by omega), e2, kg_push_s hs]
theorem kg_nots {nm : Nat → Int32} {v : Int32} {t s : List Int32} (hs : s.length < 64) : kg_run nm (33 :: t) false (v :: s) = kg_run nm t false (kv_no v :: s) := by
  rw [kg_step (by decide) (by decide)]
  unfold kg_work
  rw [if_neg (by decide), if_neg (by decide), if_pos (by decide)]
  show kg_run nm t false (kg_push (kv_no v) s) = _
  rw [kg_push_s hs]
theorem kg_negs {nm : Nat → Int32} {v : Int32} {t s : List Int32} (hs : s.length < 64) : kg_run nm (126 :: t) false (v :: s) = kg_run nm t false (-v :: s) := by
  rw [kg_step (by decide) (by decide)]
  unfold kg_work
  rw [if_neg (by decide), if_neg (by decide), if_neg (by decide), if_pos (by decide)]
  show kg_run nm t false (kg_push (-v) s) = _
  rw [kg_push_s hs]
theorem kg_Jx {l x : Int} (h : kr_J l x = true) : x = 124 ∨ x = 38 ∨ (60 ≤ x ∧ x ≤ 62) ∨ x = 43 ∨ x = 45 ∨ x = 42 ∨ x = 47 ∨ x = 37 := by
  unfold kr_J at h
  rw [decide_eq_true_eq] at h
  omega
theorem kg_sg {nm : Nat → Int32} {l x : Int} (h : kr_J l x = true) (t s : List Int32) (v w : Int32) (hs : s.length < 64) : kg_run nm (Int32.ofInt x :: t) false (w :: v :: s) = kg_run nm t false (kv_jn x v w :: s) := by
  have hx := kg_Jx h
  have e := kv_of (x := x) (by omega) (by omega)
  rw [kg_step (by omega) (by omega)]
  unfold kg_work
  rw [if_neg (by omega), if_neg (by omega), if_neg (by omega), if_neg (by omega), e]
  show kg_run nm t false (kg_push (kv_jn x v w) s) = _
  rw [kg_push_s hs]
def kg_ok (nm : Nat → Int32) (need : Nat) (X : Int → Int) (Q : Int → List Int32) (Y : Int → Int32) : Prop := ∀ p : Int, 0 ≤ p → 0 ≤ X p → ∀ t s : List Int32, s.length + need ≤ 64 → kg_run nm (Q p ++ t) false s = kg_run nm t false (Y p :: s)
theorem kg_loop {c : Int → Int} {nm : Nat → Int32} {l : Int} {X : Int → Int} {Q : Int → List Int32} {Y : Int → Int32} {need : Nat} (ih : kg_ok nm need X Q Y) : ∀ (f : Nat) (q : Int) (v : Int32), 0 ≤ q → 0 ≤ kr_loop c l X f q → ∀ t s : List Int32, s.length + 1 + need ≤ 64 → kg_run nm (kq_loop c l X Q f q ++ t) false (v :: s) = kg_run nm t false (kv_loop c l X Y f q v :: s) := by
  intro f
  induction f with
  | zero => intro q v _ _ t s _; rfl
  | succ g ih2 =>
    intro q v hq h t s hs
    have h' : 0 ≤ (if kr_J l (c q) = true then (if X (q + 1) < 0 then X (q + 1) else if l = 2 then X (q + 1) else kr_loop c l X g (X (q + 1))) else q) := h
    by_cases hJ : kr_J l (c q) = true
    · rw [if_pos hJ] at h'
      have hX : ¬ X (q + 1) < 0 := fun c0 => by rw [if_pos c0] at h'; omega
      rw [if_neg hX] at h'
      have e1 : kq_loop c l X Q (g + 1) q = Q (q + 1) ++ (Int32.ofInt (c q) :: (if l = 2 then [] else kq_loop c l X Q g (X (q + 1)))) := by
        show (if kr_J l (c q) = true then _ else []) = _
        rw [if_pos hJ]
      have e2 : kv_loop c l X Y (g + 1) q v = (if l = 2 then kv_jn (c q) v (Y (q + 1)) else kv_loop c l X Y g (X (q + 1)) (kv_jn (c q) v (Y (q + 1)))) := by
        show (if kr_J l (c q) = true then _ else v) = _
        rw [if_pos hJ]
      rw [e1, e2, List.append_assoc, List.cons_append, ih (q + 1) (by omega) (by omega) _ (v :: s) (by show s.length + 1 + need ≤ 64; exact hs), kg_sg hJ _ s v (Y (q + 1)) (by omega)]
      by_cases l2 : l = 2
      · rw [if_pos l2, if_pos l2]
        rfl
      · rw [if_neg l2] at h'
        rw [if_neg l2, if_neg l2]
        exact ih2 (X (q + 1)) _ (by omega) h' t s hs
    · have e1 : kq_loop c l X Q (g + 1) q = [] := by
        show (if kr_J l (c q) = true then _ else []) = _
        rw [if_neg hJ]
      have e2 : kv_loop c l X Y (g + 1) q v = v := by
        show (if kr_J l (c q) = true then _ else v) = _
        rw [if_neg hJ]
      rw [e1, e2]
      rfl
theorem kg_lv {c : Int → Int} {nm : Nat → Int32} {X : Int → Int} {Q : Int → List Int32} {Y : Int → Int32} {need : Nat} (h0 : kg_ok nm need X Q Y) : ∀ d : Nat, kg_ok nm (need + d) (kr_lv c X d) (kq_lv c X Q d) (kv_lv c X Y d) := by
  intro d
  induction d with
  | zero => exact h0
  | succ d ih =>
    intro p hp hx t s hs
    have hx' : 0 ≤ (if kr_lv c X d p < 0 then kr_lv c X d p else kr_loop c (4 - (d : Int)) (kr_lv c X d) 120 (kr_lv c X d p)) := hx
    have h1 : ¬ kr_lv c X d p < 0 := fun c0 => by rw [if_pos c0] at hx'; omega
    rw [if_neg h1] at hx'
    show kg_run nm ((kq_lv c X Q d p ++ kq_loop c (4 - (d : Int)) (kr_lv c X d) (kq_lv c X Q d) 120 (kr_lv c X d p)) ++ t) false s = kg_run nm t false (kv_loop c (4 - (d : Int)) (kr_lv c X d) (kv_lv c X Y d) 120 (kr_lv c X d p) (kv_lv c X Y d p) :: s)
    rw [List.append_assoc, ih p hp (by omega) _ s (by omega)]
    exact kg_loop ih 120 _ _ (by omega) hx' t s (by omega)
theorem kg_opr (c : Int → Int) (nm : Nat → Int32) : ∀ k : Nat, kg_ok nm (5 * k + 1) (kr_opr c k) (kq_opr c k) (kv_opr c nm k) := by
  intro k
  induction k with
  | zero =>
    intro p hp hx t s hs
    have hx' : 0 ≤ (if kr_D (c p) = true then kr_nm c 4 p else if kr_N (c p) = true then p + 1 else -1 - p) := hx
    show kg_run nm ((if kr_D (c p) = true then [256 + kv_nm c 4 p 0] else [Int32.ofNat (kv_ix (c p))]) ++ t) false s = kg_run nm t false ((if kr_D (c p) = true then kv_nm c 4 p 0 else nm (kv_ix (c p))) :: s)
    by_cases hD : kr_D (c p) = true
    · rw [if_pos hD, if_pos hD]
      exact kg_num (kv_nm_4 c p).1 (kv_nm_4 c p).2 (by omega)
    · rw [if_neg hD, if_neg hD]
      exact kg_nam (by omega)
  | succ k ih =>
    intro p hp hx t s hs
    have hx' : 0 ≤ (if kr_D (c p) = true then kr_nm c 4 p else if kr_N (c p) = true then p + 1 else if c p = 40 then (if kr_lv c (kr_opr c k) 5 (p + 1) < 0 then kr_lv c (kr_opr c k) 5 (p + 1) else if c (kr_lv c (kr_opr c k) 5 (p + 1)) = 41 then kr_lv c (kr_opr c k) 5 (p + 1) + 1 else -1 - kr_lv c (kr_opr c k) 5 (p + 1)) else if c p = 33 ∨ c p = 45 then kr_opr c k (p + 1) else -1 - p) := hx
    show kg_run nm ((if kr_D (c p) = true then [256 + kv_nm c 4 p 0] else if kr_N (c p) = true then [Int32.ofNat (kv_ix (c p))] else if c p = 40 then kq_lv c (kr_opr c k) (kq_opr c k) 5 (p + 1) else if c p = 33 then kq_opr c k (p + 1) ++ [33] else kq_opr c k (p + 1) ++ [126]) ++ t) false s = kg_run nm t false ((if kr_D (c p) = true then kv_nm c 4 p 0 else if kr_N (c p) = true then nm (kv_ix (c p)) else if c p = 40 then kv_lv c (kr_opr c k) (kv_opr c nm k) 5 (p + 1) else if c p = 33 then kv_no (kv_opr c nm k (p + 1)) else -(kv_opr c nm k (p + 1))) :: s)
    by_cases hD : kr_D (c p) = true
    · rw [if_pos hD, if_pos hD]
      exact kg_num (kv_nm_4 c p).1 (kv_nm_4 c p).2 (by omega)
    · rw [if_neg hD] at hx'
      rw [if_neg hD, if_neg hD]
      by_cases hN : kr_N (c p) = true
      · rw [if_pos hN, if_pos hN]
        exact kg_nam (by omega)
      · rw [if_neg hN] at hx'
        rw [if_neg hN, if_neg hN]
        by_cases h40 : c p = 40
        · rw [if_pos h40] at hx'
          rw [if_pos h40, if_pos h40]
          have h1 : 0 ≤ kr_lv c (kr_opr c k) 5 (p + 1) := by
            by_cases c0 : kr_lv c (kr_opr c k) 5 (p + 1) < 0
            · rw [if_pos c0] at hx'; omega
            · omega
          exact kg_lv ih 5 (p + 1) (by omega) h1 t s (by omega)
        · rw [if_neg h40] at hx'
          rw [if_neg h40, if_neg h40]
          by_cases h33 : c p = 33
          · rw [if_pos (Or.inl h33)] at hx'
            rw [if_pos h33, if_pos h33, List.append_assoc, ih (p + 1) (by omega) hx' _ s (by omega)]
            exact kg_nots (by omega)
          · by_cases h45 : c p = 45
            · rw [if_pos (Or.inr h45)] at hx'
              rw [if_neg h33, if_neg h33, List.append_assoc, ih (p + 1) (by omega) hx' _ s (by omega)]
              exact kg_negs (by omega)
            · rw [if_neg (by omega)] at hx'
              omega
theorem kg_E {c : Int → Int} {nm : Nat → Int32} {p : Int} (hp : 0 ≤ p) (hx : 0 ≤ kr_R c 0 0 p) (t : List Int32) : kg_run nm (kq_R c 0 0 p ++ t) false [] = kg_run nm t false [kv_R c nm 0 0 p] := kg_lv (kg_opr c nm 6) 5 p hp hx t [] (by decide)
-- no sign of it ends a LINE
def kg_no (L : List Int32) : Prop := ∀ x, x ∈ L → x.toInt ≠ 59
theorem kg_no_app {L M : List Int32} (h1 : kg_no L) (h2 : kg_no M) : kg_no (L ++ M) := fun x hx => by
  rcases List.mem_append.mp hx with h | h
  · exact h1 x h
  · exact h2 x h
theorem kg_no_one {x : Int32} (h : x.toInt ≠ 59) : kg_no [x] := fun y hy => by
  rw [List.mem_singleton] at hy
  rw [hy]
  exact h
theorem kg_no_cons {x : Int32} {L : List Int32} (h : x.toInt ≠ 59) (h2 : kg_no L) : kg_no (x :: L) := kg_no_app (L := [x]) (kg_no_one h) h2
theorem kg_no_nil : kg_no [] := fun x hx => by cases hx
theorem kg_no_loop {c : Int → Int} {l : Int} {X : Int → Int} {Q : Int → List Int32} (h : ∀ p, kg_no (Q p)) : ∀ (f : Nat) (q : Int), kg_no (kq_loop c l X Q f q) := by
  intro f
  induction f with
  | zero => exact fun q => kg_no_nil
  | succ g ih =>
    intro q
    show kg_no (if kr_J l (c q) = true then Q (q + 1) ++ (Int32.ofInt (c q) :: (if l = 2 then [] else kq_loop c l X Q g (X (q + 1)))) else [])
    by_cases hJ : kr_J l (c q) = true
    · rw [if_pos hJ]
      have hx := kg_Jx hJ
      have e := kv_of (x := c q) (by omega) (by omega)
      refine kg_no_app (h _) (kg_no_cons (by omega) ?_)
      by_cases l2 : l = 2
      · rw [if_pos l2]; exact kg_no_nil
      · rw [if_neg l2]; exact ih _
    · rw [if_neg hJ]; exact kg_no_nil
theorem kg_no_lv {c : Int → Int} {X : Int → Int} {Q : Int → List Int32} (h : ∀ p, kg_no (Q p)) : ∀ (d : Nat) (p : Int), kg_no (kq_lv c X Q d p) := by
  intro d
  induction d with
  | zero => exact h
  | succ d ih => exact fun p => kg_no_app (ih p) (kg_no_loop ih 120 _)
theorem kg_no_num (c : Int → Int) (p : Int) : kg_no [256 + kv_nm c 4 p 0] := by
  have h := kv_nm_4 c p
  have e := kk_add2 (x := 256) (y := kv_nm c 4 p 0) (a := 256) rfl rfl (by omega) (by omega)
  exact kg_no_one (by omega)
theorem kg_no_nam (x : Int) : kg_no [Int32.ofNat (kv_ix x)] := by
  have h := kv_ix_lt x
  have e := kv_on (n := kv_ix x) (by omega)
  exact kg_no_one (by omega)
theorem kg_no_opr (c : Int → Int) : ∀ (k : Nat) (p : Int), kg_no (kq_opr c k p) := by
  intro k
  induction k with
  | zero =>
    intro p
    show kg_no (if kr_D (c p) = true then [256 + kv_nm c 4 p 0] else [Int32.ofNat (kv_ix (c p))])
    split
    · exact kg_no_num c p
    · exact kg_no_nam (c p)
  | succ k ih =>
    intro p
    show kg_no (if kr_D (c p) = true then [256 + kv_nm c 4 p 0] else if kr_N (c p) = true then [Int32.ofNat (kv_ix (c p))] else if c p = 40 then kq_lv c (kr_opr c k) (kq_opr c k) 5 (p + 1) else if c p = 33 then kq_opr c k (p + 1) ++ [33] else kq_opr c k (p + 1) ++ [126])
    split
    · exact kg_no_num c p
    · split
      · exact kg_no_nam (c p)
      · split
        · exact kg_no_lv ih 5 (p + 1)
        · split
          · exact kg_no_app (ih (p + 1)) (kg_no_one (by decide))
          · exact kg_no_app (ih (p + 1)) (kg_no_one (by decide))
theorem kg_no_R (c : Int → Int) (l k p : Int) : kg_no (kq_R c l k p) := kg_no_lv (kg_no_opr c _) _ p
theorem kg_pass {nm : Nat → Int32} {t s : List Int32} : ∀ {L : List Int32}, kg_no L → kg_run nm (L ++ (59 :: t)) true s = kg_run nm t false s := by
  intro L
  induction L with
  | nil =>
    intro _
    show kg_run nm t (decide ((59 : Int32).toInt ≠ 59)) s = _
    rw [show decide ((59 : Int32).toInt ≠ 59) = false from by decide]
  | cons x L ih =>
    intro h
    show kg_run nm (L ++ (59 :: t)) (decide (x.toInt ≠ 59)) s = _
    rw [show decide (x.toInt ≠ 59) = true from decide_eq_true (h x (List.mem_cons_self))]
    exact ih (fun y hy => h y (List.mem_cons_of_mem _ hy))
-- lines
noncomputable def kq_line (c : Int → Int) (p : Int) : List Int32 := kq_R c 0 0 p ++ ((if c (kr_R c 0 0 p) = 63 then (63 : Int32) :: kq_R c 0 0 (kr_R c 0 0 p + 1) else []) ++ [59])
noncomputable def kq_txt (c : Int → Int) (n : Int) : Nat → Int → List Int32
  | 0, _ => []
  | f + 1, p => kq_line c p ++ (if n ≤ kr_line c p then [] else kq_txt c n f (kr_line c p + 1))
noncomputable def kv_txt (c : Int → Int) (nm : Nat → Int32) (n : Int) : Nat → Int → Int32
  | 0, _ => 0
  | f + 1, p => if c (kr_R c 0 0 p) = 63 then (if (kv_R c nm 0 0 p).toInt = 0 then (if n ≤ kr_line c p then 0 else kv_txt c nm n f (kr_line c p + 1)) else kv_R c nm 0 0 (kr_R c 0 0 p + 1)) else kv_R c nm 0 0 p
noncomputable def kq_T (c : Int → Int) (n f p : Int) : List Int32 := kq_txt c n f.toNat p
noncomputable def kv_T (c : Int → Int) (nm : Nat → Int32) (n f p : Int) : Int32 := kv_txt c nm n f.toNat p
theorem kg_txt {c : Int → Int} {nm : Nat → Int32} {n : Int} : ∀ (f : Nat) (p : Int), 0 ≤ p → kr_txt c n f p = -1 → kg_run nm (kq_txt c n f p) false [] = kv_txt c nm n f p := by
  intro f
  induction f with
  | zero => intro p hp h; have h' : p = -1 := h; omega
  | succ g ih =>
    intro p hp h
    have h' : (if kr_line c p < 0 then -1 - kr_line c p else if n ≤ kr_line c p then -1 else if c (kr_line c p) = 59 then kr_txt c n g (kr_line c p + 1) else kr_line c p) = -1 := h
    have hl : ¬ kr_line c p < 0 := fun c0 => by rw [if_pos c0] at h'; omega
    rw [if_neg hl] at h'
    have hR : 0 ≤ kr_R c 0 0 p := by
      have hl2 := hl
      unfold kr_line at hl2
      by_cases c0 : kr_R c 0 0 p < 0
      · rw [if_pos c0] at hl2; omega
      · omega
    have hgo : kg_run nm (if n ≤ kr_line c p then [] else kq_txt c n g (kr_line c p + 1)) false [] = (if n ≤ kr_line c p then 0 else kv_txt c nm n g (kr_line c p + 1)) := by
      by_cases hn : n ≤ kr_line c p
      · rw [if_pos hn, if_pos hn]
        rfl
      · rw [if_neg hn] at h'
        rw [if_neg hn, if_neg hn]
        by_cases h59 : c (kr_line c p) = 59
        · rw [if_pos h59] at h'
          exact ih _ (by omega) h'
        · rw [if_neg h59] at h'
          omega
    show kg_run nm ((kq_R c 0 0 p ++ ((if c (kr_R c 0 0 p) = 63 then (63 : Int32) :: kq_R c 0 0 (kr_R c 0 0 p + 1) else []) ++ [59])) ++ (if n ≤ kr_line c p then [] else kq_txt c n g (kr_line c p + 1))) false [] = (if c (kr_R c 0 0 p) = 63 then (if (kv_R c nm 0 0 p).toInt = 0 then (if n ≤ kr_line c p then 0 else kv_txt c nm n g (kr_line c p + 1)) else kv_R c nm 0 0 (kr_R c 0 0 p + 1)) else kv_R c nm 0 0 p)
    rw [List.append_assoc, kg_E hp hR]
    by_cases h63 : c (kr_R c 0 0 p) = 63
    · rw [if_pos h63, if_pos h63]
      have hl2 : kr_line c p = kr_R c 0 0 (kr_R c 0 0 p + 1) := by
        unfold kr_line
        rw [if_neg (by omega), if_pos h63]
      have e63 : ∀ (t : List Int32) (v : Int32), kg_run nm ((63 : Int32) :: t) false [v] = kg_run nm t (decide (v.toInt = 0)) [] := fun t v => by
        show (if (63 : Int32).toInt = 59 then _ else if (63 : Int32).toInt = 63 then kg_run nm t (decide ((kg_pop [v]).toInt = 0)) (kg_tl [v]) else _) = _
        rw [if_neg (by decide), if_pos (by decide)]
        rfl
      rw [List.append_assoc, List.cons_append, e63]
      by_cases hz : (kv_R c nm 0 0 p).toInt = 0
      · rw [if_pos hz, show decide ((kv_R c nm 0 0 p).toInt = 0) = true from decide_eq_true hz]
        show kg_run nm (kq_R c 0 0 (kr_R c 0 0 p + 1) ++ (59 :: (if n ≤ kr_line c p then [] else kq_txt c n g (kr_line c p + 1)))) true [] = _
        rw [kg_pass (kg_no_R c 0 0 _)]
        exact hgo
      · rw [if_neg hz, show decide ((kv_R c nm 0 0 p).toInt = 0) = false from decide_eq_false hz, kg_E (by omega) (by omega)]
        rfl
    · rw [if_neg h63, if_neg h63]
      rfl
theorem kg_T {c : Int → Int} {nm : Nat → Int32} {n f : Int} (h : kr_T c n f 0 = -1) : kg_run nm (kq_T c n f 0) false [] = kv_T c nm n f 0 := kg_txt _ 0 (by decide) h
-- signs and operands as arrays
noncomputable def kg_sl (f : Nat → Int32) : Nat → List Int32
  | 0 => []
  | n + 1 => kg_sl f n ++ [f n]
noncomputable def kg_st (f : Nat → Int32) : Nat → List Int32
  | 0 => []
  | n + 1 => f n :: kg_st f n
theorem kg_st_len (f : Nat → Int32) : ∀ n : Nat, (kg_st f n).length = n := by
  intro n
  induction n with
  | zero => rfl
  | succ n ih => show (kg_st f n).length + 1 = n + 1; rw [ih]
theorem kg_sl_len (f : Nat → Int32) : ∀ n : Nat, (kg_sl f n).length = n := by
  intro n
  induction n with
  | zero => rfl
  | succ n ih => show (kg_sl f n ++ [f n]).length = n + 1; rw [List.length_append, ih]; rfl
theorem kg_sl_w {f g : Nat → Int32} : ∀ {n : Nat}, (∀ j, j < n → f j = g j) → kg_sl f n = kg_sl g n := by
  intro n
  induction n with
  | zero => exact fun _ => rfl
  | succ n ih =>
    intro h
    show kg_sl f n ++ [f n] = kg_sl g n ++ [g n]
    rw [ih (fun j hj => h j (by omega)), h n (by omega)]
theorem kg_st_w {f g : Nat → Int32} : ∀ {n : Nat}, (∀ j, j < n → f j = g j) → kg_st f n = kg_st g n := by
  intro n
  induction n with
  | zero => exact fun _ => rfl
  | succ n ih =>
    intro h
    show f n :: kg_st f n = g n :: kg_st g n
    rw [ih (fun j hj => h j (by omega)), h n (by omega)]
theorem kg_sl_app {f : Nat → Int32} {n : Nat} {x : Int32} : kg_sl (upd f n x) (n + 1) = kg_sl f n ++ [x] := by
  show kg_sl (upd f n x) n ++ [upd f n x n] = _
  rw [kg_sl_w (g := f) (fun j hj => by unfold upd; rw [if_neg (by omega)])]
  unfold upd
  rw [if_pos rfl]
theorem kg_st_push {f : Nat → Int32} {n : Nat} {x : Int32} : kg_st (upd f n x) (n + 1) = x :: kg_st f n := by
  show upd f n x n :: kg_st (upd f n x) n = _
  rw [kg_st_w (g := f) (fun j hj => by unfold upd; rw [if_neg (by omega)])]
  unfold upd
  rw [if_pos rfl]
-- values and codes, step by step
noncomputable def kr_sh (f : Nat → Int32) (b : Int) : Nat → Int32 := fun j => f (b.toNat + j)
theorem kr_sh_in {f : Nat → Int32} {n : Int} {b x : Int32} (hb : 0 ≤ b.toInt) (h0 : 0 ≤ x.toInt) (h1 : x.toInt < n) (hs : (b + x).toInt = b.toInt + x.toInt) : kr_at (kr_sh f b.toInt) n x.toInt = (f (b + x).toNatClampNeg).toInt := by
  rw [kr_at_in h0 h1]
  show (f (b.toInt.toNat + x.toInt.toNat)).toInt = (f (b + x).toInt.toNat).toInt
  rw [hs, show (b.toInt + x.toInt).toNat = b.toInt.toNat + x.toInt.toNat from by omega]
noncomputable def kv_L (c : Int → Int) (nm : Nat → Int32) (l k f q : Int) (v : Int32) : Int32 := kv_loop c l (kr_R c (l + 1) k) (kv_R c nm (l + 1) k) f.toNat q v
theorem kv_R_lv {c : Int → Int} {nm : Nat → Int32} {l k p : Int} (hl : 0 ≤ l ∧ l ≤ 4) : kv_R c nm l k p = kv_L c nm l k 120 (kr_R c (l + 1) k p) (kv_R c nm (l + 1) k p) := by
  obtain ⟨d, hd⟩ : ∃ d : Nat, (5 - l).toNat = d + 1 := ⟨(5 - l).toNat - 1, by omega⟩
  have hd' : (5 - (l + 1)).toNat = d := by omega
  have h4 : 4 - (d : Int) = l := by omega
  have e : kr_R c (l + 1) k = kr_lv c (kr_opr c (6 - k).toNat) d := by
    funext x
    unfold kr_R
    rw [hd']
  have e2 : kv_R c nm (l + 1) k = kv_lv c (kr_opr c (6 - k).toNat) (kv_opr c nm (6 - k).toNat) d := by
    funext x
    unfold kv_R
    rw [hd']
  unfold kv_L
  rw [e, e2]
  unfold kv_R
  rw [hd]
  show kv_loop c (4 - (d : Int)) _ _ 120 _ _ = _
  rw [h4]
  rfl
theorem kv_c0 {c : Int → Int} {nm : Nat → Int32} {l l' k p q : Int} {v : Int32} (hl : 0 ≤ l ∧ l ≤ 4) (hl' : l' = l + 1) (h : kr_R c l' k p = q) (hv : (kv_R c nm l' k p).toInt = v.toInt) : (kv_L c nm l k 120 q v).toInt = (kv_R c nm l k p).toInt := by
  subst hl' h
  rw [kv_R_lv hl, Int32.toInt_inj.mp hv]
theorem kv_L_no {c : Int → Int} {nm : Nat → Int32} {l k f q : Int} {v : Int32} (h : ¬ ((l = 0 ∧ c q = 124) ∨ (l = 1 ∧ c q = 38) ∨ (l = 2 ∧ 60 ≤ c q ∧ c q ≤ 62) ∨ (l = 3 ∧ (c q = 43 ∨ c q = 45)) ∨ (l = 4 ∧ (c q = 42 ∨ c q = 47 ∨ c q = 37)))) : (kv_L c nm l k f q v).toInt = v.toInt := by
  unfold kv_L
  cases hf : f.toNat with
  | zero => rfl
  | succ g =>
    have hd : ¬ kr_J l (c q) = true := by
      unfold kr_J
      rw [decide_eq_true_eq]
      exact h
    show (if kr_J l (c q) = true then _ else v).toInt = _
    rw [if_neg hd]
theorem kv_L_u {c : Int → Int} {nm : Nat → Int32} {l k f q : Int} {v : Int32} (hf : 0 < f) (h : (l = 0 ∧ c q = 124) ∨ (l = 1 ∧ c q = 38) ∨ (l = 2 ∧ 60 ≤ c q ∧ c q ≤ 62) ∨ (l = 3 ∧ (c q = 43 ∨ c q = 45)) ∨ (l = 4 ∧ (c q = 42 ∨ c q = 47 ∨ c q = 37))) : kv_L c nm l k f q v = (if l = 2 then kv_jn (c q) v (kv_R c nm (l + 1) k (q + 1)) else kv_L c nm l k (f - 1) (kr_R c (l + 1) k (q + 1)) (kv_jn (c q) v (kv_R c nm (l + 1) k (q + 1)))) := by
  obtain ⟨g, hg⟩ : ∃ g : Nat, f.toNat = g + 1 := ⟨f.toNat - 1, by omega⟩
  have hg' : (f - 1).toNat = g := by omega
  unfold kv_L
  rw [hg, hg']
  have hJ : kr_J l (c q) = true := decide_eq_true h
  show (if kr_J l (c q) = true then (if l = 2 then kv_jn (c q) v (kv_R c nm (l + 1) k (q + 1)) else kv_loop c l (kr_R c (l + 1) k) (kv_R c nm (l + 1) k) g (kr_R c (l + 1) k (q + 1)) (kv_jn (c q) v (kv_R c nm (l + 1) k (q + 1)))) else v) = _
  rw [if_pos hJ]
theorem kv_L_2 {c : Int → Int} {nm : Nat → Int32} {l l' k q q1 : Int} {v w u : Int32} (h : 60 ≤ c q ∧ c q ≤ 62) (hl2 : l = 2) (hl' : l' = l + 1) (hq1 : q1 = q + 1) (hw : (kv_R c nm l' k q1).toInt = w.toInt) (hu : (kv_jn (c q) v w).toInt = u.toInt) : (kv_L c nm l k 120 q v).toInt = u.toInt := by
  subst hl' hq1
  rw [kv_L_u (by decide) (by omega), if_pos hl2, Int32.toInt_inj.mp hw, hu]
theorem kv_loop_fuel {c : Int → Int} {l : Int} {X : Int → Int} {Y : Int → Int32} {n : Int} (hc : ∀ p, p < 0 ∨ n ≤ p → c p = 0) (hX : ∀ p, 0 ≤ p → X p < 0 ∨ p < X p) : ∀ (f g : Nat) (q : Int) (v : Int32), 0 ≤ q → n - q ≤ (f : Int) → n - q ≤ (g : Int) → kv_loop c l X Y f q v = kv_loop c l X Y g q v := by
  have hz : ∀ (g : Nat) (q : Int) (v : Int32), kr_J l (c q) = false → kv_loop c l X Y g q v = v := by
    intro g q v h
    cases g with
    | zero => rfl
    | succ g => show (if kr_J l (c q) = true then _ else v) = v; rw [h]; rfl
  have h0 : ∀ q, q < 0 ∨ n ≤ q → kr_J l (c q) = false := by
    intro q h
    rw [hc q h]
    unfold kr_J
    exact decide_eq_false (by omega)
  intro f
  induction f with
  | zero => intro g q v hq h1 h2; rw [hz g q v (h0 q (Or.inr (by omega)))]; rfl
  | succ f ih =>
    intro g q v hq h1 h2
    cases hJ : kr_J l (c q) with
    | false => rw [hz _ q v hJ, hz _ q v hJ]
    | true =>
      have hn : q < n := by
        rcases Int.lt_or_le q n with h | h
        · exact h
        · rw [h0 q (Or.inr h)] at hJ; cases hJ
      obtain ⟨g', hg⟩ : ∃ g' : Nat, g = g' + 1 := ⟨g - 1, by omega⟩
      subst hg
      show (if kr_J l (c q) = true then (if l = 2 then kv_jn (c q) v (Y (q + 1)) else kv_loop c l X Y f (X (q + 1)) (kv_jn (c q) v (Y (q + 1)))) else v) = (if kr_J l (c q) = true then (if l = 2 then kv_jn (c q) v (Y (q + 1)) else kv_loop c l X Y g' (X (q + 1)) (kv_jn (c q) v (Y (q + 1)))) else v)
      rw [if_pos hJ, if_pos hJ]
      have h3 := hX (q + 1) (by omega)
      by_cases l2 : l = 2
      · rw [if_pos l2, if_pos l2]
      · rw [if_neg l2, if_neg l2]
        by_cases c0 : X (q + 1) < 0
        · rw [hz f _ _ (h0 _ (Or.inl c0)), hz g' _ _ (h0 _ (Or.inl c0))]
        · exact ih g' (X (q + 1)) _ (by omega) (by omega) (by omega)
theorem kv_L_S {c : Int → Int} {nm : Nat → Int32} {n l l' k q q1 e : Int} {v w u : Int32} (hc : ∀ p, p < 0 ∨ n ≤ p → c p = 0) (hn : n ≤ 120) (hq : 0 ≤ q) (h : (l = 0 ∧ c q = 124) ∨ (l = 1 ∧ c q = 38) ∨ (l = 2 ∧ 60 ≤ c q ∧ c q ≤ 62) ∨ (l = 3 ∧ (c q = 43 ∨ c q = 45)) ∨ (l = 4 ∧ (c q = 42 ∨ c q = 47 ∨ c q = 37))) (hl2 : l ≠ 2) (hl' : l' = l + 1) (hq1 : q1 = q + 1) (he : kr_R c l' k q1 = e) (h0 : 0 ≤ e) (hw : (kv_R c nm l' k q1).toInt = w.toInt) (hu : (kv_jn (c q) v w).toInt = u.toInt) : (kv_L c nm l k 120 q v).toInt = (kv_L c nm l k 120 e u).toInt := by
  subst hl' hq1
  have hg := kr_R_gt c (l + 1) k (q + 1) (by omega)
  rw [kv_L_u (by decide) h, if_neg hl2, Int32.toInt_inj.mp hw, he, Int32.toInt_inj.mp hu]
  unfold kv_L
  rw [show ((120 : Int) - 1).toNat = 119 from rfl, show (120 : Int).toNat = 120 from rfl, kv_loop_fuel hc (fun p hp => kr_R_gt c _ k p hp) 119 120 e _ h0 (by omega) (by omega)]
-- operators
theorem kv_or1 {x : Int} {v w : Int32} (hx : x = 124) (h : v.toInt ≠ 0 ∨ w.toInt ≠ 0) : (kv_jn x v w).toInt = 1 := by
  subst hx
  unfold kv_jn
  rw [if_pos rfl, if_neg (fun hh => by rcases hh with ⟨h1, h2⟩; rw [h1, h2] at h; exact absurd h (by decide))]
  rfl
theorem kv_or0 {x : Int} {v w : Int32} (hx : x = 124) (h1 : v.toInt = 0) (h2 : w.toInt = 0) : (kv_jn x v w).toInt = 0 := by
  subst hx
  unfold kv_jn
  rw [if_pos rfl, if_pos ⟨Int32.toInt_inj.mp h1, Int32.toInt_inj.mp h2⟩]
  rfl
theorem kv_an1 {x : Int} {v w : Int32} (hx : x = 38) (h1 : v.toInt ≠ 0) (h2 : w.toInt ≠ 0) : (kv_jn x v w).toInt = 1 := by
  subst hx
  unfold kv_jn
  rw [if_neg (by decide), if_pos rfl, if_neg (fun hh => hh.elim (fun h => h1 (by rw [h]; rfl)) (fun h => h2 (by rw [h]; rfl)))]
  rfl
theorem kv_an0 {x : Int} {v w : Int32} (hx : x = 38) (h : v.toInt = 0 ∨ w.toInt = 0) : (kv_jn x v w).toInt = 0 := by
  subst hx
  unfold kv_jn
  rw [if_neg (by decide), if_pos rfl, if_pos (h.imp (fun q => Int32.toInt_inj.mp q) (fun q => Int32.toInt_inj.mp q))]
  rfl
theorem kv_cm1 {x : Int} {v w : Int32} (hx : 60 ≤ x ∧ x ≤ 62) (h : (x = 60 ∧ v.toInt < w.toInt) ∨ (x = 61 ∧ v.toInt = w.toInt) ∨ (x = 62 ∧ w.toInt < v.toInt)) : (kv_jn x v w).toInt = 1 := by
  unfold kv_jn
  rw [if_neg (by omega), if_neg (by omega)]
  rcases h with ⟨h1, h2⟩ | ⟨h1, h2⟩ | ⟨h1, h2⟩
  · rw [if_pos h1, if_pos h2]; rfl
  · rw [if_neg (by omega), if_pos h1, if_pos h2]; rfl
  · rw [if_neg (by omega), if_neg (by omega), if_pos h1, if_pos h2]; rfl
theorem kv_cm0 {x : Int} {v w : Int32} (hx : 60 ≤ x ∧ x ≤ 62) (h : ¬ ((x = 60 ∧ v.toInt < w.toInt) ∨ (x = 61 ∧ v.toInt = w.toInt) ∨ (x = 62 ∧ w.toInt < v.toInt))) : (kv_jn x v w).toInt = 0 := by
  unfold kv_jn
  rw [if_neg (by omega), if_neg (by omega)]
  by_cases h1 : x = 60
  · rw [if_pos h1, if_neg (by omega)]; rfl
  · by_cases h2 : x = 61
    · rw [if_neg h1, if_pos h2, if_neg (by omega)]; rfl
    · rw [if_neg h1, if_neg h2, if_pos (by omega), if_neg (by omega)]; rfl
theorem kv_ad {x : Int} {v w : Int32} (hx : x = 43) : (kv_jn x v w).toInt = (v + w).toInt := by
  subst hx
  rfl
theorem kv_sb {x : Int} {v w : Int32} (hx : x = 45) : (kv_jn x v w).toInt = (v - w).toInt := by
  subst hx
  rfl
theorem kv_mu {x : Int} {v w : Int32} (hx : x = 42) : (kv_jn x v w).toInt = (v * w).toInt := by
  subst hx
  rfl
theorem kv_dv0 {x : Int} {v w : Int32} (hx : x = 47 ∨ x = 37) (h : w.toInt = 0) : (kv_jn x v w).toInt = 0 := by
  have e : w = 0 := Int32.toInt_inj.mp h
  rcases hx with rfl | rfl <;> (subst e; rfl)
theorem kv_dv {x : Int} {v w : Int32} (hx : x = 47) (h : w.toInt ≠ 0) : (kv_jn x v w).toInt = (v / w).toInt := by
  subst hx
  have e : ¬ w = 0 := fun q => by rw [q] at h; exact h rfl
  show (if w = 0 then 0 else v / w).toInt = _
  rw [if_neg e]
theorem kv_rm {x : Int} {v w : Int32} (hx : x = 37) (h : w.toInt ≠ 0) : (kv_jn x v w).toInt = (v - v / w * w).toInt := by
  subst hx
  have e : ¬ w = 0 := fun q => by rw [q] at h; exact h rfl
  show (if w = 0 then 0 else v - v / w * w).toInt = _
  rw [if_neg e]
-- operands
theorem kv_o_u {c : Int → Int} {nm : Nat → Int32} {k p : Int} : kv_R c nm 5 k p = kv_opr c nm (6 - k).toNat p := rfl
theorem kv_o_num {c : Int → Int} {nm : Nat → Int32} {k p : Int} (h : 48 ≤ c p ∧ c p ≤ 57) : kv_R c nm 5 k p = kv_nm c 4 p 0 := by
  have hD : kr_D (c p) = true := decide_eq_true h
  rw [kv_o_u]
  cases (6 - k).toNat with
  | zero => show (if kr_D (c p) = true then _ else _) = _; rw [if_pos hD]
  | succ g => show (if kr_D (c p) = true then _ else _) = _; rw [if_pos hD]
theorem kv_o_nam {c : Int → Int} {nm : Nat → Int32} {k p : Int} (h : c p = 119 ∨ c p = 110 ∨ c p = 100 ∨ c p = 121 ∨ c p = 122 ∨ c p = 102 ∨ c p = 105 ∨ c p = 99) : kv_R c nm 5 k p = nm (kv_ix (c p)) := by
  have hD : ¬ kr_D (c p) = true := by unfold kr_D; rw [decide_eq_true_eq]; omega
  have hN : kr_N (c p) = true := decide_eq_true h
  rw [kv_o_u]
  cases (6 - k).toNat with
  | zero => show (if kr_D (c p) = true then _ else nm (kv_ix (c p))) = _; rw [if_neg hD]
  | succ g => show (if kr_D (c p) = true then _ else if kr_N (c p) = true then nm (kv_ix (c p)) else _) = _; rw [if_neg hD, if_pos hN]
theorem kv_o_in {c : Int → Int} {nm : Nat → Int32} {k k' p p1 : Int} (hk : k < 6) (h : c p = 40 ∨ c p = 33 ∨ c p = 45) (hk' : k' = k + 1) (hp1 : p1 = p + 1) : kv_R c nm 5 k p = (if c p = 40 then kv_R c nm 0 k' p1 else if c p = 33 then kv_no (kv_R c nm 5 k' p1) else -(kv_R c nm 5 k' p1)) := by
  subst hk' hp1
  have hD : ¬ kr_D (c p) = true := by unfold kr_D; rw [decide_eq_true_eq]; omega
  have hN : ¬ kr_N (c p) = true := by unfold kr_N; rw [decide_eq_true_eq]; omega
  obtain ⟨g, hg⟩ : ∃ g : Nat, (6 - k).toNat = g + 1 := ⟨(6 - k).toNat - 1, by omega⟩
  have hg' : (6 - (k + 1)).toNat = g := by omega
  have e : kv_R c nm 0 (k + 1) (p + 1) = kv_lv c (kr_opr c g) (kv_opr c nm g) 5 (p + 1) := by unfold kv_R; rw [hg']; rfl
  have e5 : kv_R c nm 5 (k + 1) (p + 1) = kv_opr c nm g (p + 1) := by rw [kv_o_u, hg']
  rw [kv_o_u, hg, e, e5]
  show (if kr_D (c p) = true then _ else if kr_N (c p) = true then _ else if c p = 40 then kv_lv c (kr_opr c g) (kv_opr c nm g) 5 (p + 1) else if c p = 33 then kv_no (kv_opr c nm g (p + 1)) else -(kv_opr c nm g (p + 1))) = _
  rw [if_neg hD, if_neg hN]
theorem kv_o_par {c : Int → Int} {nm : Nat → Int32} {k k' p p1 : Int} {v : Int32} (hk : k < 6) (h : c p = 40) (hk' : k' = k + 1) (hp1 : p1 = p + 1) (hv : (kv_R c nm 0 k' p1).toInt = v.toInt) : (kv_R c nm 5 k p).toInt = v.toInt := by
  rw [kv_o_in hk (Or.inl h) hk' hp1, if_pos h, hv]
theorem kv_o_not {c : Int → Int} {nm : Nat → Int32} {k k' p p1 : Int} {v : Int32} (hk : k < 6) (h : c p = 33) (hk' : k' = k + 1) (hp1 : p1 = p + 1) (hv : (kv_R c nm 5 k' p1).toInt = v.toInt) : (kv_R c nm 5 k p).toInt = (kv_no v).toInt := by
  rw [kv_o_in hk (Or.inr (Or.inl h)) hk' hp1, if_neg (by omega), if_pos h, Int32.toInt_inj.mp hv]
theorem kv_o_neg {c : Int → Int} {nm : Nat → Int32} {k k' p p1 : Int} {v : Int32} (hk : k < 6) (h : c p = 45) (hk' : k' = k + 1) (hp1 : p1 = p + 1) (hv : (kv_R c nm 5 k' p1).toInt = v.toInt) : (kv_R c nm 5 k p).toInt = (-v).toInt := by
  rw [kv_o_in hk (Or.inr (Or.inr h)) hk' hp1, if_neg (by omega), if_neg (by omega), Int32.toInt_inj.mp hv]
theorem kv_no1 {v : Int32} (h : v.toInt = 0) : (kv_no v).toInt = 1 := by
  unfold kv_no
  rw [if_pos (Int32.toInt_inj.mp h)]
  rfl
theorem kv_no0 {v : Int32} (h : v.toInt ≠ 0) : (kv_no v).toInt = 0 := by
  unfold kv_no
  rw [if_neg (fun q => by rw [q] at h; exact h rfl)]
  rfl
-- numbers, digit by digit
noncomputable def kv_F (c : Int → Int) (f q : Int) (a : Int32) : Int32 := kv_nm c f.toNat q a
theorem kv_F_no {c : Int → Int} {f q : Int} {a : Int32} (h : f ≤ 0 ∨ c q < 48 ∨ 57 < c q) : (kv_F c f q a).toInt = a.toInt := by
  unfold kv_F
  cases hf : f.toNat with
  | zero => rfl
  | succ g =>
    have hd : ¬ kr_D (c q) = true := by unfold kr_D; rw [decide_eq_true_eq]; omega
    show (if kr_D (c q) = true then _ else a).toInt = _
    rw [if_neg hd]
theorem kv_F_s {c : Int → Int} {f q f' q' : Int} {a b : Int32} (hf : 0 < f) (hd : 48 ≤ c q ∧ c q ≤ 57) (hf' : f' = f - 1) (hq' : q' = q + 1) (hb : b.toInt = 10 * a.toInt + c q - 48) (ha : 0 ≤ a.toInt ∧ a.toInt ≤ 1000) : (kv_F c f q a).toInt = (kv_F c f' q' b).toInt := by
  subst hf' hq'
  unfold kv_F
  obtain ⟨g, hg⟩ : ∃ g : Nat, f.toNat = g + 1 := ⟨f.toNat - 1, by omega⟩
  have hg' : (f - 1).toNat = g := by omega
  rw [hg, hg']
  have hD : kr_D (c q) = true := decide_eq_true hd
  show (if kr_D (c q) = true then kv_nm c g (q + 1) (10 * a + Int32.ofInt (c q) - 48) else a).toInt = _
  rw [if_pos hD]
  have e := kv_of (x := c q) (by omega) (by omega)
  have m := kk_mul2 (x := 10) (y := a) (a := 10) (b := a.toInt) rfl rfl (by omega) (by omega)
  have p := kk_add2 (x := 10 * a) (y := Int32.ofInt (c q)) m e (by omega) (by omega)
  have r := kk_sub2 (x := 10 * a + Int32.ofInt (c q)) (y := 48) (b := 48) p rfl (by omega) (by omega)
  rw [show 10 * a + Int32.ofInt (c q) - 48 = b from Int32.toInt_inj.mp (by omega)]
-- the same of ints
noncomputable def kv_RI (c : Int → Int) (nm : Nat → Int32) (l k p : Int) : Int := (kv_R c nm l k p).toInt
noncomputable def kv_LI (c : Int → Int) (nm : Nat → Int32) (l k f q v : Int) : Int := (kv_L c nm l k f q (Int32.ofInt v)).toInt
noncomputable def kv_FI (c : Int → Int) (f q a : Int) : Int := (kv_F c f q (Int32.ofInt a)).toInt
theorem kv_LI_e {c : Int → Int} {nm : Nat → Int32} {l k f q : Int} (v : Int32) : kv_LI c nm l k f q v.toInt = (kv_L c nm l k f q v).toInt := by
  unfold kv_LI
  rw [Int32.ofInt_toInt]
theorem kv_FI_e {c : Int → Int} {f q : Int} (a : Int32) : kv_FI c f q a.toInt = (kv_F c f q a).toInt := by
  unfold kv_FI
  rw [Int32.ofInt_toInt]
theorem kv_c0I {c : Int → Int} {nm : Nat → Int32} {l l' k p q : Int} {v : Int32} (hl : 0 ≤ l ∧ l ≤ 4) (hl' : l' = l + 1) (h : kr_R c l' k p = q) (hv : kv_RI c nm l' k p = v.toInt) : kv_LI c nm l k 120 q v.toInt = kv_RI c nm l k p := (kv_LI_e v).trans (kv_c0 hl hl' h hv)
theorem kv_LnI {c : Int → Int} {nm : Nat → Int32} {l k q : Int} {v : Int32} (h : ¬ ((l = 0 ∧ c q = 124) ∨ (l = 1 ∧ c q = 38) ∨ (l = 2 ∧ 60 ≤ c q ∧ c q ≤ 62) ∨ (l = 3 ∧ (c q = 43 ∨ c q = 45)) ∨ (l = 4 ∧ (c q = 42 ∨ c q = 47 ∨ c q = 37)))) : kv_LI c nm l k 120 q v.toInt = v.toInt := (kv_LI_e v).trans (kv_L_no h)
theorem kv_L2I {c : Int → Int} {nm : Nat → Int32} {l l' k q q1 : Int} {v w u : Int32} (h : 60 ≤ c q ∧ c q ≤ 62) (hl2 : l = 2) (hl' : l' = l + 1) (hq1 : q1 = q + 1) (hw : kv_RI c nm l' k q1 = w.toInt) (hu : (kv_jn (c q) v w).toInt = u.toInt) : kv_LI c nm l k 120 q v.toInt = u.toInt := (kv_LI_e v).trans (kv_L_2 h hl2 hl' hq1 hw hu)
theorem kv_LSI {c : Int → Int} {nm : Nat → Int32} {n l l' k q q1 e : Int} {v w u : Int32} (hc : ∀ p, p < 0 ∨ n ≤ p → c p = 0) (hn : n ≤ 120) (hq : 0 ≤ q) (h : (l = 0 ∧ c q = 124) ∨ (l = 1 ∧ c q = 38) ∨ (l = 2 ∧ 60 ≤ c q ∧ c q ≤ 62) ∨ (l = 3 ∧ (c q = 43 ∨ c q = 45)) ∨ (l = 4 ∧ (c q = 42 ∨ c q = 47 ∨ c q = 37))) (hl2 : l ≠ 2) (hl' : l' = l + 1) (hq1 : q1 = q + 1) (he : kr_R c l' k q1 = e) (h0 : 0 ≤ e) (hw : kv_RI c nm l' k q1 = w.toInt) (hu : (kv_jn (c q) v w).toInt = u.toInt) : kv_LI c nm l k 120 q v.toInt = kv_LI c nm l k 120 e u.toInt := (kv_LI_e v).trans ((kv_L_S hc hn hq h hl2 hl' hq1 he h0 hw hu).trans (kv_LI_e u).symm)
theorem kv_F0I {c : Int → Int} {k p : Int} {nm : Nat → Int32} (h : 48 ≤ c p ∧ c p ≤ 57) : kv_RI c nm 5 k p = kv_FI c 4 p 0 := congrArg Int32.toInt (kv_o_num h)
theorem kv_FnI {c : Int → Int} {f q : Int} {a : Int32} (h : f ≤ 0 ∨ c q < 48 ∨ 57 < c q) : kv_FI c f q a.toInt = a.toInt := (kv_FI_e a).trans (kv_F_no h)
theorem kv_FsI {c : Int → Int} {f q f' q' : Int} {a b : Int32} (hf : 0 < f) (hd : 48 ≤ c q ∧ c q ≤ 57) (hf' : f' = f - 1) (hq' : q' = q + 1) (hb : b.toInt = 10 * a.toInt + c q - 48) (ha : 0 ≤ a.toInt ∧ a.toInt ≤ 1000) : kv_FI c f q a.toInt = kv_FI c f' q' b.toInt := (kv_FI_e a).trans ((kv_F_s hf hd hf' hq' hb ha).trans (kv_FI_e b).symm)
theorem kv_dg {a b : Int32} (ha : 0 ≤ a.toInt ∧ a.toInt ≤ 999) (hb : 48 ≤ b.toInt ∧ b.toInt ≤ 57) : (10 * a + b - 48).toInt = 10 * a.toInt + b.toInt - 48 := by
  have m := kk_mul2 (x := 10) (y := a) (a := 10) (b := a.toInt) rfl rfl (by omega) (by omega)
  have p := kk_add2 (x := 10 * a) (y := b) m rfl (by omega) (by omega)
  exact kk_sub2 (x := 10 * a + b) (y := 48) (b := 48) p rfl (by omega) (by omega)
theorem kv_onI {c : Int → Int} {nm : Nat → Int32} {k p : Int} {x : Int32} (h : c p = 119 ∨ c p = 110 ∨ c p = 100 ∨ c p = 121 ∨ c p = 122 ∨ c p = 102 ∨ c p = 105 ∨ c p = 99) (hx : x.toInt = (kv_ix (c p) : Int)) : kv_RI c nm 5 k p = (nm x.toNatClampNeg).toInt := by
  unfold kv_RI
  rw [kv_o_nam h, show x.toNatClampNeg = kv_ix (c p) from by show x.toInt.toNat = _; omega]
theorem kv_opI {c : Int → Int} {nm : Nat → Int32} {k k' p p1 : Int} {v : Int32} (hk : k < 6) (h : c p = 40) (hk' : k' = k + 1) (hp1 : p1 = p + 1) (hv : kv_RI c nm 0 k' p1 = v.toInt) : kv_RI c nm 5 k p = v.toInt := kv_o_par hk h hk' hp1 hv
theorem kv_otI {c : Int → Int} {nm : Nat → Int32} {k k' p p1 : Int} {v u : Int32} (hk : k < 6) (h : c p = 33) (hk' : k' = k + 1) (hp1 : p1 = p + 1) (hv : kv_RI c nm 5 k' p1 = v.toInt) (hu : (v.toInt = 0 ∧ u.toInt = 1) ∨ (v.toInt ≠ 0 ∧ u.toInt = 0)) : kv_RI c nm 5 k p = u.toInt := by
  have e := kv_o_not (v := v) hk h hk' hp1 hv
  rcases hu with ⟨h1, h2⟩ | ⟨h1, h2⟩
  · exact e.trans ((kv_no1 h1).trans h2.symm)
  · exact e.trans ((kv_no0 h1).trans h2.symm)
theorem kv_ogI {c : Int → Int} {nm : Nat → Int32} {k k' p p1 : Int} {v : Int32} (hk : k < 6) (h : c p = 45) (hk' : k' = k + 1) (hp1 : p1 = p + 1) (hv : kv_RI c nm 5 k' p1 = v.toInt) : kv_RI c nm 5 k p = (-v).toInt := kv_o_neg hk h hk' hp1 hv
-- the whole TEXT
noncomputable def kv_TI (c : Int → Int) (nm : Nat → Int32) (n f p : Int) : Int := (kv_T c nm n f p).toInt
theorem kv_TI_u {c : Int → Int} {nm : Nat → Int32} {n f p : Int} (hf : 0 < f) : kv_TI c nm n f p = (if c (kr_R c 0 0 p) = 63 then (if kv_RI c nm 0 0 p = 0 then (if n ≤ kr_line c p then 0 else kv_TI c nm n (f - 1) (kr_line c p + 1)) else kv_RI c nm 0 0 (kr_R c 0 0 p + 1)) else kv_RI c nm 0 0 p) := by
  obtain ⟨g, hg⟩ : ∃ g : Nat, f.toNat = g + 1 := ⟨f.toNat - 1, by omega⟩
  have hg' : (f - 1).toNat = g := by omega
  unfold kv_TI kv_T
  rw [hg, hg']
  show (if c (kr_R c 0 0 p) = 63 then (if (kv_R c nm 0 0 p).toInt = 0 then (if n ≤ kr_line c p then 0 else kv_txt c nm n g (kr_line c p + 1)) else kv_R c nm 0 0 (kr_R c 0 0 p + 1)) else kv_R c nm 0 0 p).toInt = _
  (repeat' split) <;> first | rfl | (exfalso; simp_all [kv_RI])
-- what is written down, step by step: S what stands there, T what there was and the whole of the TEXT's
noncomputable def kg_sI (f : Nat → Int32) (n : Int) : List Int32 := kg_sl f n.toNat
theorem kg_sI_app {f : Nat → Int32} {n : Int32} {m : Int} {x : Int32} (h0 : 0 ≤ n.toInt) (hm : m = n.toInt + 1) : kg_sI (upd f n.toNatClampNeg x) m = kg_sI f n.toInt ++ [x] := by
  subst hm
  unfold kg_sI
  have e : n.toNatClampNeg = n.toInt.toNat := rfl
  rw [e, show (n.toInt + 1).toNat = n.toInt.toNat + 1 from by omega]
  exact kg_sl_app
noncomputable def kq_L (c : Int → Int) (l k f q : Int) : List Int32 := kq_loop c l (kr_R c (l + 1) k) (kq_R c (l + 1) k) f.toNat q
theorem kq_R_lv {c : Int → Int} {l k p : Int} (hl : 0 ≤ l ∧ l ≤ 4) : kq_R c l k p = kq_R c (l + 1) k p ++ kq_L c l k 120 (kr_R c (l + 1) k p) := by
  obtain ⟨d, hd⟩ : ∃ d : Nat, (5 - l).toNat = d + 1 := ⟨(5 - l).toNat - 1, by omega⟩
  have hd' : (5 - (l + 1)).toNat = d := by omega
  have h4 : 4 - (d : Int) = l := by omega
  have e : kr_R c (l + 1) k = kr_lv c (kr_opr c (6 - k).toNat) d := by
    funext x
    unfold kr_R
    rw [hd']
  have e2 : kq_R c (l + 1) k = kq_lv c (kr_opr c (6 - k).toNat) (kq_opr c (6 - k).toNat) d := by
    funext x
    unfold kq_R
    rw [hd']
  unfold kq_L
  rw [e, e2]
  unfold kq_R
  rw [hd]
  show kq_lv c _ _ d p ++ kq_loop c (4 - (d : Int)) _ _ 120 _ = _
  rw [h4]
  rfl
theorem kq_c0 {c : Int → Int} {l l' k p q f : Int} {S T : List Int32} (hl : 0 ≤ l ∧ l ≤ 4) (hl' : l' = l + 1) (h : kr_R c l' k p = q) (hs : S = T ++ kq_R c l' k p) (hf : f = 120) : S ++ kq_L c l k f q = T ++ kq_R c l k p := by
  subst hl' h hs hf
  rw [kq_R_lv hl, List.append_assoc]
theorem kq_L_no {c : Int → Int} {l k f q : Int} (h : f ≤ 0 ∨ ¬ ((l = 0 ∧ c q = 124) ∨ (l = 1 ∧ c q = 38) ∨ (l = 2 ∧ 60 ≤ c q ∧ c q ≤ 62) ∨ (l = 3 ∧ (c q = 43 ∨ c q = 45)) ∨ (l = 4 ∧ (c q = 42 ∨ c q = 47 ∨ c q = 37)))) : kq_L c l k f q = [] := by
  unfold kq_L
  cases hf : f.toNat with
  | zero => rfl
  | succ g =>
    have hd : ¬ kr_J l (c q) = true := by
      unfold kr_J
      rw [decide_eq_true_eq]
      omega
    show (if kr_J l (c q) = true then _ else []) = []
    rw [if_neg hd]
theorem kq_L_u {c : Int → Int} {l k f q : Int} (hf : 0 < f) (h : (l = 0 ∧ c q = 124) ∨ (l = 1 ∧ c q = 38) ∨ (l = 2 ∧ 60 ≤ c q ∧ c q ≤ 62) ∨ (l = 3 ∧ (c q = 43 ∨ c q = 45)) ∨ (l = 4 ∧ (c q = 42 ∨ c q = 47 ∨ c q = 37))) : kq_L c l k f q = kq_R c (l + 1) k (q + 1) ++ (Int32.ofInt (c q) :: (if l = 2 then [] else kq_L c l k (f - 1) (kr_R c (l + 1) k (q + 1)))) := by
  obtain ⟨g, hg⟩ : ∃ g : Nat, f.toNat = g + 1 := ⟨f.toNat - 1, by omega⟩
  have hg' : (f - 1).toNat = g := by omega
  unfold kq_L
  rw [hg, hg']
  have hJ : kr_J l (c q) = true := decide_eq_true h
  show (if kr_J l (c q) = true then kq_R c (l + 1) k (q + 1) ++ (Int32.ofInt (c q) :: (if l = 2 then [] else kq_loop c l (kr_R c (l + 1) k) (kq_R c (l + 1) k) g (kr_R c (l + 1) k (q + 1)))) else []) = _
  rw [if_pos hJ]
theorem kq_x {x : Int32} {c : Int → Int} {q : Int} (hx : x.toInt = c q) : Int32.ofInt (c q) = x := by
  rw [← hx]
  exact Int32.ofInt_toInt x
theorem kq_L_S {c : Int → Int} {l l' k f f' q q1 e : Int} {S S1 S2 T : List Int32} {x : Int32} (hi : S ++ kq_L c l k f q = T) (hf : 0 < f) (h : (l = 0 ∧ c q = 124) ∨ (l = 1 ∧ c q = 38) ∨ (l = 2 ∧ 60 ≤ c q ∧ c q ≤ 62) ∨ (l = 3 ∧ (c q = 43 ∨ c q = 45)) ∨ (l = 4 ∧ (c q = 42 ∨ c q = 47 ∨ c q = 37))) (hl2 : l ≠ 2) (hl' : l' = l + 1) (hq1 : q1 = q + 1) (he : kr_R c l' k q1 = e) (hs1 : S1 = S ++ kq_R c l' k q1) (hs2 : S2 = S1 ++ [x]) (hx : x.toInt = c q) (hf' : f' = f - 1) : S2 ++ kq_L c l k f' e = T := by
  subst hl' hq1 he hs1 hs2 hf'
  rw [kq_L_u hf h, if_neg hl2, kq_x hx] at hi
  rw [← hi, List.append_assoc, List.append_assoc]
  rfl
theorem kq_L_2 {c : Int → Int} {l l' k f q q1 : Int} {S S1 S2 T : List Int32} {x : Int32} (hi : S ++ kq_L c l k f q = T) (hf : 0 < f) (h : 60 ≤ c q ∧ c q ≤ 62) (hl2 : l = 2) (hl' : l' = l + 1) (hq1 : q1 = q + 1) (hs1 : S1 = S ++ kq_R c l' k q1) (hs2 : S2 = S1 ++ [x]) (hx : x.toInt = c q) : S2 = T := by
  subst hl' hq1 hs1 hs2
  rw [kq_L_u hf (by omega), if_pos hl2, kq_x hx] at hi
  rw [← hi, List.append_assoc]
theorem kq_L_e {c : Int → Int} {l k f q : Int} {S T : List Int32} (hi : S ++ kq_L c l k f q = T) (h : f ≤ 0 ∨ ¬ ((l = 0 ∧ c q = 124) ∨ (l = 1 ∧ c q = 38) ∨ (l = 2 ∧ 60 ≤ c q ∧ c q ≤ 62) ∨ (l = 3 ∧ (c q = 43 ∨ c q = 45)) ∨ (l = 4 ∧ (c q = 42 ∨ c q = 47 ∨ c q = 37)))) : S = T := by
  rw [kq_L_no h, List.append_nil] at hi
  exact hi
theorem kq_o_u {c : Int → Int} {k p : Int} : kq_R c 5 k p = kq_opr c (6 - k).toNat p := rfl
theorem kq_o_num {c : Int → Int} {k p : Int} {S S1 : List Int32} {x v : Int32} (h : 48 ≤ c p ∧ c p ≤ 57) (hs : S1 = S ++ [x]) (hx : x = 256 + v) (hv : (kv_nm c 4 p 0).toInt = v.toInt) : S1 = S ++ kq_R c 5 k p := by
  have hD : kr_D (c p) = true := decide_eq_true h
  have e : kq_R c 5 k p = [256 + kv_nm c 4 p 0] := by
    rw [kq_o_u]
    cases (6 - k).toNat with
    | zero => show (if kr_D (c p) = true then _ else _) = _; rw [if_pos hD]
    | succ g => show (if kr_D (c p) = true then _ else _) = _; rw [if_pos hD]
  rw [hs, hx, e, Int32.toInt_inj.mp hv]
theorem kq_o_nam {c : Int → Int} {k p : Int} {S S1 : List Int32} {x : Int32} (h : c p = 119 ∨ c p = 110 ∨ c p = 100 ∨ c p = 121 ∨ c p = 122 ∨ c p = 102 ∨ c p = 105 ∨ c p = 99) (hs : S1 = S ++ [x]) (hx : x.toInt = (kv_ix (c p) : Int)) : S1 = S ++ kq_R c 5 k p := by
  have hD : ¬ kr_D (c p) = true := by unfold kr_D; rw [decide_eq_true_eq]; omega
  have hN : kr_N (c p) = true := decide_eq_true h
  have hb := kv_ix_lt (c p)
  have e : kq_R c 5 k p = [Int32.ofNat (kv_ix (c p))] := by
    rw [kq_o_u]
    cases (6 - k).toNat with
    | zero => show (if kr_D (c p) = true then _ else [Int32.ofNat (kv_ix (c p))]) = _; rw [if_neg hD]
    | succ g => show (if kr_D (c p) = true then _ else if kr_N (c p) = true then [Int32.ofNat (kv_ix (c p))] else _) = _; rw [if_neg hD, if_pos hN]
  have ex : x = Int32.ofNat (kv_ix (c p)) := Int32.toInt_inj.mp (by
    have := kv_on (n := kv_ix (c p)) (by omega)
    omega)
  rw [hs, e, ex]
theorem kq_o_in {c : Int → Int} {k k' p p1 : Int} (hk : k < 6) (h : c p = 40 ∨ c p = 33 ∨ c p = 45) (hk' : k' = k + 1) (hp1 : p1 = p + 1) : kq_R c 5 k p = (if c p = 40 then kq_R c 0 k' p1 else if c p = 33 then kq_R c 5 k' p1 ++ [33] else kq_R c 5 k' p1 ++ [126]) := by
  subst hk' hp1
  have hD : ¬ kr_D (c p) = true := by unfold kr_D; rw [decide_eq_true_eq]; omega
  have hN : ¬ kr_N (c p) = true := by unfold kr_N; rw [decide_eq_true_eq]; omega
  obtain ⟨g, hg⟩ : ∃ g : Nat, (6 - k).toNat = g + 1 := ⟨(6 - k).toNat - 1, by omega⟩
  have hg' : (6 - (k + 1)).toNat = g := by omega
  have e : kq_R c 0 (k + 1) (p + 1) = kq_lv c (kr_opr c g) (kq_opr c g) 5 (p + 1) := by unfold kq_R; rw [hg']; rfl
  have e5 : kq_R c 5 (k + 1) (p + 1) = kq_opr c g (p + 1) := by rw [kq_o_u, hg']
  rw [kq_o_u, hg, e, e5]
  show (if kr_D (c p) = true then _ else if kr_N (c p) = true then _ else if c p = 40 then kq_lv c (kr_opr c g) (kq_opr c g) 5 (p + 1) else if c p = 33 then kq_opr c g (p + 1) ++ [33] else kq_opr c g (p + 1) ++ [126]) = _
  rw [if_neg hD, if_neg hN]
theorem kq_o_par {c : Int → Int} {k k' p p1 : Int} {S S1 : List Int32} (hk : k < 6) (h : c p = 40) (hk' : k' = k + 1) (hp1 : p1 = p + 1) (hs : S1 = S ++ kq_R c 0 k' p1) : S1 = S ++ kq_R c 5 k p := by
  rw [kq_o_in hk (Or.inl h) hk' hp1, if_pos h, hs]
theorem kq_o_not {c : Int → Int} {k k' p p1 : Int} {S S1 S2 : List Int32} {x : Int32} (hk : k < 6) (h : c p = 33) (hk' : k' = k + 1) (hp1 : p1 = p + 1) (hs : S1 = S ++ kq_R c 5 k' p1) (hs2 : S2 = S1 ++ [x]) (hx : x = 33) : S2 = S ++ kq_R c 5 k p := by
  rw [kq_o_in hk (Or.inr (Or.inl h)) hk' hp1, if_neg (by omega), if_pos h, hs2, hs, hx, List.append_assoc]
theorem kq_o_neg {c : Int → Int} {k k' p p1 : Int} {S S1 S2 : List Int32} {x : Int32} (hk : k < 6) (h : c p = 45) (hk' : k' = k + 1) (hp1 : p1 = p + 1) (hs : S1 = S ++ kq_R c 5 k' p1) (hs2 : S2 = S1 ++ [x]) (hx : x = 126) : S2 = S ++ kq_R c 5 k p := by
  rw [kq_o_in hk (Or.inr (Or.inr h)) hk' hp1, if_neg (by omega), if_neg (by omega), hs2, hs, hx, List.append_assoc]
-- lines
theorem kq_l_no {c : Int → Int} {p e : Int} {S S1 S2 : List Int32} {x : Int32} (h : kr_R c 0 0 p = e) (h1 : c e ≠ 63) (hs : S1 = S ++ kq_R c 0 0 p) (hs2 : S2 = S1 ++ [x]) (hx : x = 59) : S2 = S ++ kq_line c p := by
  unfold kq_line
  rw [h, if_neg h1, hs2, hs, hx, List.append_assoc]
  rfl
theorem kq_l_if {c : Int → Int} {p e p1 : Int} {S S1 S2 S3 S4 : List Int32} {x y : Int32} (h : kr_R c 0 0 p = e) (h1 : c e = 63) (hp1 : p1 = e + 1) (hs : S1 = S ++ kq_R c 0 0 p) (hs2 : S2 = S1 ++ [x]) (hx : x = 63) (hs3 : S3 = S2 ++ kq_R c 0 0 p1) (hs4 : S4 = S3 ++ [y]) (hy : y = 59) : S4 = S ++ kq_line c p := by
  subst hp1
  unfold kq_line
  rw [h, if_pos h1, hs4, hs3, hs2, hs, hx, hy]
  simp only [List.append_assoc, List.cons_append, List.nil_append]
theorem kq_T_u {c : Int → Int} {n f p : Int} (hf : 0 < f) : kq_T c n f p = kq_line c p ++ (if n ≤ kr_line c p then [] else kq_T c n (f - 1) (kr_line c p + 1)) := by
  obtain ⟨g, hg⟩ : ∃ g : Nat, f.toNat = g + 1 := ⟨f.toNat - 1, by omega⟩
  have hg' : (f - 1).toNat = g := by omega
  unfold kq_T
  rw [hg, hg']
  rfl
theorem kq_T_e {c : Int → Int} {n f p e : Int} {S S1 T : List Int32} (hi : S ++ kq_T c n f p = T) (hf : 0 < f) (h : kr_line c p = e) (h1 : n ≤ e) (hs : S1 = S ++ kq_line c p) : S1 = T := by
  rw [kq_T_u hf, h, if_pos h1, List.append_nil] at hi
  rw [hs, hi]
theorem kq_T_s {c : Int → Int} {n f p e f' p' : Int} {S S1 T : List Int32} (hi : S ++ kq_T c n f p = T) (hf : 0 < f) (h : kr_line c p = e) (h1 : e < n) (hs : S1 = S ++ kq_line c p) (hf' : f' = f - 1) (hp' : p' = e + 1) : S1 ++ kq_T c n f' p' = T := by
  subst hf' hp'
  rw [kq_T_u hf, h, if_neg (by omega)] at hi
  rw [hs, ← hi, List.append_assoc]
-- codes: numbers as the class reads them
noncomputable def kv_p10 (d : Int) : Int := 10 ^ d.toNat
theorem kv_p10_s {d e : Int} (h : 0 ≤ d) (he : e = d + 1) : kv_p10 e = 10 * kv_p10 d := by
  subst he
  unfold kv_p10
  rw [show (d + 1).toNat = d.toNat + 1 from by omega, Int.pow_succ, Int.mul_comm]
theorem kv_p10_b {d : Int} (h0 : 0 ≤ d) (h : d ≤ 3) : 1 ≤ kv_p10 d ∧ kv_p10 d ≤ 1000 := by
  rcases (show d = 0 ∨ d = 1 ∨ d = 2 ∨ d = 3 by omega) with rfl | rfl | rfl | rfl <;> decide
theorem kv_p10_0 : kv_p10 0 = 1 := rfl
theorem kv_p10_t {d : Int} (h0 : 0 ≤ d) (h : d ≤ 4) : kv_p10 d ≤ 10000 := by
  rcases (show d = 0 ∨ d = 1 ∨ d = 2 ∨ d = 3 ∨ d = 4 by omega) with rfl | rfl | rfl | rfl | rfl <;> decide
theorem kv_dg2 {a b : Int32} (ha : 0 ≤ a.toInt ∧ a.toInt ≤ 999) (hb : 48 ≤ b.toInt ∧ b.toInt ≤ 57) : (a * 10 + b - 48).toInt = 10 * a.toInt + b.toInt - 48 := by
  have m := kk_mul2 (x := a) (y := 10) (a := a.toInt) (b := 10) rfl rfl (by omega) (by omega)
  have p := kk_add2 (x := a * 10) (y := b) m rfl (by omega) (by omega)
  have q := kk_sub2 (x := a * 10 + b) (y := 48) (b := 48) p rfl (by omega) (by omega)
  omega
theorem kv_F00 {c : Int → Int} {p : Int} : kv_FI c 4 p 0 = (kv_nm c 4 p 0).toInt := rfl
-- what a reader leaves: a list more
theorem kq_o_sg {c : Int → Int} {k k' p p1 : Int} {S S1 S2 : List Int32} {x : Int32} (hk : k < 6) (h : c p = 33 ∨ c p = 45) (hk' : k' = k + 1) (hp1 : p1 = p + 1) (hs : S1 = S ++ kq_R c 5 k' p1) (hs2 : S2 = S1 ++ [x]) (hx : (c p = 33 ∧ x.toInt = 33) ∨ (c p ≠ 33 ∧ x.toInt = 126)) : S2 = S ++ kq_R c 5 k p := by
  rcases h with h | h
  · exact kq_o_not hk h hk' hp1 hs hs2 (Int32.toInt_inj.mp (by show x.toInt = 33; omega))
  · exact kq_o_neg hk h hk' hp1 hs hs2 (Int32.toInt_inj.mp (by show x.toInt = 126; omega))
