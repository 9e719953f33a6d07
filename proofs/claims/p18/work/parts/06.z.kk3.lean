-- further lemmas: bits below 64, remainders
theorem kk_ne0 {x : Int32} (h : 1 ≤ x.toInt) : ¬ x = 0 := by
  intro e
  rw [e] at h
  exact absurd h (by decide)
theorem kk_remv {x y : Int32} (hx : 0 ≤ x.toInt) (hy : 1 ≤ y.toInt) : 0 ≤ (x - x / y * y).toInt ∧ (x - x / y * y).toInt < y.toInt := by
  have r1 := kk_rng x
  have r2 := kk_rng y
  have e := kk_dv (x := x) (k := y) (n := y.toInt) rfl (by omega)
  have h := kk_td0 (x := x.toInt) (n := y.toInt) (by omega) hx
  have a5 := Int.mul_nonneg h.1 (show 0 ≤ y.toInt by omega)
  rw [Int32.toInt_sub, Int32.toInt_mul, e]
  generalize x.toInt.tdiv y.toInt = t at h a5
  generalize t * y.toInt = w at h a5
  rw [kk_bm (z := w) (by omega) (by omega), kk_bm (by omega) (by omega)]
  omega
theorem kk_i63 {x : Int32} (h0 : 0 ≤ x.toInt) (h1 : x.toInt ≤ 63) : ∃ a : Fin 64, x = Int32.ofNat a.val := by
  refine ⟨⟨x.toInt.toNat, by omega⟩, ?_⟩
  apply Int32.toInt_inj.mp
  show x.toInt = (Int32.ofNat x.toInt.toNat).toInt
  rw [Int32.toInt_ofNat_of_lt (by omega)]
  omega
theorem kk_or63f : ∀ a b : Fin 64, 0 ≤ (Int32.ofNat a.val ||| Int32.ofNat b.val).toInt ∧ (Int32.ofNat a.val ||| Int32.ofNat b.val).toInt ≤ 63 := by decide +kernel
theorem kk_or63 {x y : Int32} (h0 : 0 ≤ x.toInt) (h1 : x.toInt ≤ 63) (h2 : 0 ≤ y.toInt) (h3 : y.toInt ≤ 63) : 0 ≤ (x ||| y).toInt ∧ (x ||| y).toInt ≤ 63 := by
  obtain ⟨a, rfl⟩ := kk_i63 h0 h1
  obtain ⟨b, rfl⟩ := kk_i63 h2 h3
  exact kk_or63f a b
theorem kk_shr63f : ∀ a : Fin 64, ∀ b : Fin 32, 0 ≤ (Int32.ofNat a.val >>> (Int32.ofNat b.val &&& 31)).toInt ∧ (Int32.ofNat a.val >>> (Int32.ofNat b.val &&& 31)).toInt ≤ 63 ∧ (6 ≤ b.val → (Int32.ofNat a.val >>> (Int32.ofNat b.val &&& 31)).toInt = 0) := by decide +kernel
theorem kk_shr63 {x y : Int32} (h0 : 0 ≤ x.toInt) (h1 : x.toInt ≤ 63) (h2 : 0 ≤ y.toInt) (h3 : y.toInt ≤ 31) : 0 ≤ (x >>> (y &&& 31)).toInt ∧ (x >>> (y &&& 31)).toInt ≤ 63 ∧ (6 ≤ y.toInt → (x >>> (y &&& 31)).toInt = 0) := by
  obtain ⟨a, rfl⟩ := kk_i63 h0 h1
  obtain ⟨b, rfl⟩ := kk_i63 h2 (by omega)
  rw [Int32.toInt_ofNat_of_lt (show b.val < 2 ^ 31 by have := b.isLt; omega)] at h3 ⊢
  have h := kk_shr63f a ⟨b.val, by omega⟩
  exact ⟨h.1, h.2.1, fun q => h.2.2 (by show 6 ≤ b.val; omega)⟩
theorem kk_shl1 {y : Int32} (h0 : 0 ≤ y.toInt) (h1 : y.toInt ≤ 5) : 0 ≤ ((1 : Int32) <<< (y &&& 31)).toInt ∧ ((1 : Int32) <<< (y &&& 31)).toInt ≤ 63 := by
  have e : y = 0 ∨ y = 1 ∨ y = 2 ∨ y = 3 ∨ y = 4 ∨ y = 5 := by
    simp only [← Int32.toInt_inj]
    simp
    omega
  rcases e with rfl | rfl | rfl | rfl | rfl | rfl <;> decide
theorem kk_and0 {x : Int32} (h : x.toInt = 0) : (x &&& 1).toInt = 0 := by
  have e : x = 0 := Int32.toInt_inj.mp h
  subst e
  decide
def kk_fc (m n : Int) (fc fp : Nat → Int32) : Prop := ∀ i : Nat, m ≤ (i : Int) → (i : Int) < n → (fc i).toInt < 1000000000 → 1 ≤ (fp i).toInt ∧ (i : Int) + (fp i).toInt ≤ n ∧ (fc (i + (fp i).toInt.toNat)).toInt < 1000000000
theorem kk_fc_w {m m' n : Int} {fc fp : Nat → Int32} (h : kk_fc m n fc fp) (e : m ≤ m') : kk_fc m' n fc fp := fun i a b q => h i (by omega) b q
theorem kk_fc_0 {m n : Int} {fc fp : Nat → Int32} (e : n ≤ m) : kk_fc m n fc fp := fun i a b _ => by omega
theorem kk_fc_far {m n : Int} {fc fp : Nat → Int32} {i : Int32} (h : kk_fc m n fc fp) (h0 : 0 ≤ i.toInt) (e : m = i.toInt + 1) {x : Int32} (hx : 1000000000 ≤ x.toInt) : kk_fc i.toInt n (upd fc i.toNatClampNeg x) fp := by
  intro j a b q
  have ei : (i.toNatClampNeg : Int) = i.toInt := kk_tn h0
  unfold upd at q ⊢
  by_cases c : j = i.toNatClampNeg
  · rw [if_pos c] at q
    omega
  · rw [if_neg c] at q
    obtain ⟨h1, h2, h3⟩ := h j (by omega) b q
    refine ⟨h1, h2, ?_⟩
    rw [if_neg (by omega)]
    exact h3
theorem kk_fc_set {m n : Int} {fc fp : Nat → Int32} {i p x : Int32} (h : kk_fc m n fc fp) (h0 : 0 ≤ i.toInt) (hp : 1 ≤ p.toInt) (hn : i.toInt + p.toInt ≤ n) (hn' : n ≤ 40) (hc : (fc (i + p : Int32).toNatClampNeg).toInt < 1000000000) (hm : m = i.toInt) : kk_fc m n (upd fc i.toNatClampNeg x) (upd fp i.toNatClampNeg p) := by
  intro j a b q
  have ei : (i.toNatClampNeg : Int) = i.toInt := kk_tn h0
  have es : (i + p).toInt = i.toInt + p.toInt := kk_add2 rfl rfl (by omega) (by omega)
  have e2 : ((i + p).toNatClampNeg : Int) = i.toInt + p.toInt := by rw [kk_tn (by omega), es]
  unfold upd at q ⊢
  by_cases c : j = i.toNatClampNeg
  · rw [if_pos c]
    refine ⟨hp, by omega, ?_⟩
    rw [if_neg (by omega), show j + p.toInt.toNat = (i + p).toNatClampNeg by omega]
    exact hc
  · rw [if_neg c] at q ⊢
    obtain ⟨h1, h2, h3⟩ := h j a b q
    refine ⟨h1, h2, ?_⟩
    rw [if_neg (by omega)]
    exact h3
theorem kk_fc_use {n : Int} {fc fp : Nat → Int32} {i : Int32} (h : kk_fc 0 n fc fp) (h0 : 0 ≤ i.toInt) (hn : i.toInt < n) (hn' : n ≤ 40) (hc : (fc i.toNatClampNeg).toInt < 1000000000) : 1 ≤ (fp i.toNatClampNeg).toInt ∧ i.toInt + (fp i.toNatClampNeg).toInt ≤ n ∧ (fc (i + fp i.toNatClampNeg : Int32).toNatClampNeg).toInt < 1000000000 := by
  have ei : (i.toNatClampNeg : Int) = i.toInt := kk_tn h0
  obtain ⟨h1, h2, h3⟩ := h i.toNatClampNeg (by omega) (by omega) hc
  refine ⟨h1, by omega, ?_⟩
  have es : (i + fp i.toNatClampNeg).toInt = i.toInt + (fp i.toNatClampNeg).toInt := kk_add2 rfl rfl (by omega) (by omega)
  have e2 : ((i + fp i.toNatClampNeg).toNatClampNeg : Int) = i.toInt + (fp i.toNatClampNeg).toInt := by rw [kk_tn (by omega), es]
  rw [show (i + fp i.toNatClampNeg).toNatClampNeg = i.toNatClampNeg + (fp i.toNatClampNeg).toInt.toNat by omega]
  exact h3
def kk_ce (a w i : Int) : Prop := (a < 280 → 0 ≤ w ∧ 0 ≤ i) ∧ (a % 40 = 0 → a < 280 → 1 ≤ w ∧ 1 ≤ i)
def kk_ch (n : Int) (fa fw fi : Nat → Int32) : Prop := ∀ k : Nat, (k : Int) < n → kk_ce (fa k).toInt (fw k).toInt (fi k).toInt
theorem kk_ch_w {n n' : Int} {fa fw fi : Nat → Int32} (h : kk_ch n fa fw fi) (e : n' ≤ n) : kk_ch n' fa fw fi := fun k q => h k (by omega)
theorem kk_ch_shift {fa fw fi : Nat → Int32} {j : Nat} {i : Int32} (h : kk_ch 40 fa fw fi) (h0 : 0 ≤ i.toInt) (h1 : i.toInt < 40) : kk_ch 40 (upd fa j (fa i.toNatClampNeg)) (upd fw j (fw i.toNatClampNeg)) (upd fi j (fi i.toNatClampNeg)) := by
  intro k q
  have ei : (i.toNatClampNeg : Int) = i.toInt := kk_tn h0
  unfold upd
  by_cases c : k = j
  · simp only [if_pos c]
    exact h _ (by omega)
  · simp only [if_neg c]
    exact h k q
theorem kk_ch_set {n : Int} {fa fw fi : Nat → Int32} {d a w i : Int32} (h : kk_ch n fa fw fi) (h0 : 0 ≤ d.toInt) (h1 : d.toInt ≤ n) (hn : d.toInt < 40) (e : kk_ce a.toInt w.toInt i.toInt) : kk_ch (d.toInt + 1) (upd fa d.toNatClampNeg a) (upd fw d.toNatClampNeg w) (upd fi d.toNatClampNeg i) := by
  intro k q
  have ei : (d.toNatClampNeg : Int) = d.toInt := kk_tn h0
  unfold upd
  by_cases c : k = d.toNatClampNeg
  · simp only [if_pos c]
    exact e
  · simp only [if_neg c]
    exact h k (by omega)
theorem kk_ch_use {n : Int} {fa fw fi : Nat → Int32} {d : Int32} (h : kk_ch n fa fw fi) (h0 : 0 ≤ d.toInt) (h1 : d.toInt < n) : ((fa d.toNatClampNeg).toInt < 280 → 0 ≤ (fw d.toNatClampNeg).toInt ∧ 0 ≤ (fi d.toNatClampNeg).toInt) ∧ ((fa d.toNatClampNeg).toInt % 40 = 0 → (fa d.toNatClampNeg).toInt < 280 → 1 ≤ (fw d.toNatClampNeg).toInt ∧ 1 ≤ (fi d.toNatClampNeg).toInt) := h _ (by rw [kk_tn h0]; exact h1)
theorem kk_elc {f : Nat → Int32} {a b : Int32} : a.toInt = b.toInt → (f a.toNatClampNeg).toInt = (f b.toNatClampNeg).toInt := fun h => by rw [Int32.toInt_inj.mp h]
def kk_ps (s : Int) (F g : Nat → Int32) : Prop := ∀ t : Nat, t < 7 → (t : Int) ≠ s → g t = F t
theorem kk_ps_w {s s' : Int} {F g : Nat → Int32} (h : kk_ps s F g) (e : s = s') : kk_ps s' F g := e ▸ h
theorem kk_ps_refl {s : Int} {F : Nat → Int32} : kk_ps s F F := fun _ _ _ => rfl
theorem kk_ps_upd {s : Int} {F g : Nat → Int32} {i x : Int32} (h : kk_ps s F g) (h0 : 0 ≤ i.toInt) (e : i.toInt = s) : kk_ps s F (upd g i.toNatClampNeg x) := by
  intro t ht hs
  have ei : (i.toNatClampNeg : Int) = i.toInt := kk_tn h0
  unfold upd
  rw [if_neg (by omega)]
  exact h t ht hs
-- the first plot of each street that has plots is at least 1 wide
def kk_sg (n : Int) (f g : Nat → Int32) : Prop := ∀ t : Nat, (t : Int) < n → 1 ≤ (f t).toInt → 1 ≤ (g (40 * t)).toInt
theorem kk_sg_at {n : Int} {f g : Nat → Int32} {s : Int32} (h : kk_sg n f g) (hn : n ≤ 6) : 0 ≤ s.toInt → s.toInt < n → 1 ≤ (f s.toNatClampNeg).toInt → 1 ≤ (g (40 * s : Int32).toNatClampNeg).toInt := by
  intro h0 h1 h2
  have e : (40 * s : Int32).toNatClampNeg = 40 * s.toNatClampNeg := by
    show (40 * s : Int32).toInt.toNat = 40 * s.toInt.toNat
    have := kk_mul2 (x := 40) (y := s) (a := 40) (b := s.toInt) rfl rfl (by omega) (by omega)
    omega
  rw [e]
  exact h _ (by rw [kk_tn h0]; exact h1) h2
theorem kk_sg_pm {n : Int} {f g g' : Nat → Int32} (h : kk_sg n f g) (hn : n ≤ 6) (m : kk_pm g g') : kk_sg n f g' := fun t ht hf => m t (by omega) (h t ht hf)
theorem kk_sg_step {n n' : Int} {f f' g g' : Nat → Int32} {s : Int32} (h : kk_sg n f g) (hn' : n' ≤ 6) (m : kk_pm g g') (q : kk_ps s.toInt f f') (e : n' = n ∨ n' = n + 1 ∧ s.toInt = n) (hs : 0 ≤ s.toInt → s.toInt < n' → 1 ≤ (f' s.toNatClampNeg).toInt → 1 ≤ (g' (40 * s : Int32).toNatClampNeg).toInt) : kk_sg n' f' g' := by
  intro t ht hf
  by_cases c : (t : Int) = s.toInt
  · have h0 : 0 ≤ s.toInt := by omega
    have e2 : s.toNatClampNeg = t := by
      have := kk_tn h0
      omega
    have e3 : (40 * s : Int32).toNatClampNeg = 40 * t := by
      show (40 * s : Int32).toInt.toNat = 40 * t
      have := kk_mul2 (x := 40) (y := s) (a := 40) (b := s.toInt) rfl rfl (by omega) (by omega)
      omega
    rw [← e3]
    exact hs h0 (by omega) (by rw [e2]; exact hf)
  · have e1 := q t (by omega) c
    rw [e1] at hf
    exact m t (by omega) (h t (by omega) hf)
theorem kk_sg_six {n : Int} {f f' g g' : Nat → Int32} (h : kk_sg n f g) (hn : n ≤ 6) (m : kk_pm g g') (q : kk_ps 6 f f') : kk_sg n f' g' := by
  intro t ht hf
  rw [q t (by omega) (by omega)] at hf
  exact m t (by omega) (h t (by omega) hf)
