theorem kk_Eq {x y : Int64} (h : lg_cmp x y = 0) : x.toInt = y.toInt := Int.le_antisymm (kk_nGt (by rw [h]; decide)) (kk_nLt (by rw [h]; decide))
theorem kk_Ne {x y : Int64} (h : ¬ lg_cmp x y = 0) : x.toInt ≠ y.toInt := fun e => h (by
  have a : ¬ lg_cmp x y < 0 := fun q => by have := kk_Lt q; omega
  have b : ¬ 0 < lg_cmp x y := fun q => by have := kk_Gt q; omega
  rw [Int32.lt_iff_toInt_lt] at a b
  have h0 : (0 : Int32).toInt = 0 := rfl
  exact Int32.toInt_inj.mp (by omega))
-- elements: what is cut to a sort, what is 0, what was carried
noncomputable def kk_nrw (h : Int32) (v : Int64) : Int64 := if h.toInt = 0 then v.toInt32.toInt8.toInt32.toInt64 else if h.toInt = 1 then v.toInt32.toInt16.toInt32.toInt64 else if h.toInt = 2 then v.toInt32.toInt64 else if h.toInt = 4 then (if v.toInt = 0 then 0 else 1) else v
theorem kk_nrw_c {h k : Int32} {v : Int64} (e : h.toInt = k.toInt) : kk_nrw h v = kk_nrw k v := by rw [Int32.toInt_inj.mp e]
def kk_zl (i : Int) (f : Nat → Int64) : Prop := ∀ j : Nat, (j : Int) < i → f j = 0
theorem kk_zl_w {i i' : Int} {f : Nat → Int64} (h : kk_zl i f) (e : i' ≤ i) : kk_zl i' f := fun j hj => h j (by omega)
theorem kk_zl_0 {f : Nat → Int64} {i : Int} (e : i ≤ 0) : kk_zl i f := fun j hj => by omega
theorem kk_zl_set {i : Int32} {f : Nat → Int64} (h : kk_zl i.toInt f) (h0 : 0 ≤ i.toInt) : kk_zl (i.toInt + 1) (vp_updL f i.toNatClampNeg 0) := by
  intro j hj
  have ei : (i.toNatClampNeg : Int) = i.toInt := kk_tn h0
  unfold vp_updL
  by_cases c : j = i.toNatClampNeg
  · rw [if_pos c]
  · rw [if_neg c]
    exact h j (by omega)
def kk_zr (lo i : Int) (f g : Nat → Int64) : Prop := ∀ j : Nat, g j = if lo ≤ (j : Int) ∧ (j : Int) < i then 0 else f j
theorem kk_zr_w {lo lo' i i' : Int} {f g : Nat → Int64} (h : kk_zr lo i f g) (e : lo = lo' ∧ i = i') : kk_zr lo' i' f g := by
  obtain ⟨rfl, rfl⟩ := e
  exact h
theorem kk_zr_0 {lo i : Int} {f : Nat → Int64} (e : i ≤ lo) : kk_zr lo i f f := fun j => by rw [if_neg (by omega)]
theorem kk_zr_set {lo : Int} {i : Int32} {f g : Nat → Int64} (h : kk_zr lo i.toInt f g) (h0 : 0 ≤ i.toInt) (h1 : lo ≤ i.toInt) : kk_zr lo (i.toInt + 1) f (vp_updL g i.toNatClampNeg 0) := by
  intro j
  have ei : (i.toNatClampNeg : Int) = i.toInt := kk_tn h0
  have q := h j
  unfold vp_updL
  by_cases c : j = i.toNatClampNeg
  · rw [if_pos c, if_pos (by omega)]
  · rw [if_neg c, q]
    by_cases d : lo ≤ (j : Int) ∧ (j : Int) < i.toInt
    · rw [if_pos d, if_pos (by omega)]
    · rw [if_neg d, if_neg (by omega)]
def kk_cr (n src : Int) (f g : Nat → Int64) : Prop := ∀ q : Nat, (q : Int) < n → g q = f (src + (q : Int)).toNat
theorem kk_cr_w {n n' src src' : Int} {f g : Nat → Int64} (h : kk_cr n src f g) (e : n' ≤ n ∧ src = src') : kk_cr n' src' f g := by
  obtain ⟨e1, rfl⟩ := e
  exact fun q hq => h q (by omega)
theorem kk_cr_0 {n src : Int} {f g : Nat → Int64} (e : n ≤ 0) : kk_cr n src f g := fun q hq => by omega
theorem kk_cr_set {src : Int} {k x : Int32} {f g : Nat → Int64} (h : kk_cr k.toInt src f g) (h0 : 0 ≤ k.toInt) (hs : 0 ≤ src) (e : x.toInt = src + k.toInt) : kk_cr (k.toInt + 1) src f (vp_updL g k.toNatClampNeg (f x.toNatClampNeg)) := by
  intro q hq
  have ek : (k.toNatClampNeg : Int) = k.toInt := kk_tn h0
  have ex : (x.toNatClampNeg : Int) = x.toInt := kk_tn (by omega)
  unfold vp_updL
  by_cases c : q = k.toNatClampNeg
  · rw [if_pos c]
    congr 1
    omega
  · rw [if_neg c]
    exact h q (by omega)
def kk_mv (n dst src : Int) (f g : Nat → Int64) : Prop := ∀ q : Nat, g q = if dst ≤ (q : Int) ∧ (q : Int) < dst + n then f ((q : Int) - dst + src).toNat else f q
theorem kk_mv_w {n n' dst dst' src src' : Int} {f g : Nat → Int64} (h : kk_mv n dst src f g) (e : n = n' ∧ dst = dst' ∧ src = src') : kk_mv n' dst' src' f g := by
  obtain ⟨rfl, rfl, rfl⟩ := e
  exact h
theorem kk_mv_0 {n dst src : Int} {f : Nat → Int64} (e : n ≤ 0) : kk_mv n dst src f f := fun q => by rw [if_neg (by omega)]
theorem kk_mv_set {n dst src : Int} {k x : Int32} {f g c : Nat → Int64} (h : kk_mv k.toInt dst src f g) (hc : kk_cr n src f c) (h0 : 0 ≤ k.toInt) (hn : k.toInt < n) (hd : 0 ≤ dst) (e : x.toInt = dst + k.toInt) : kk_mv (k.toInt + 1) dst src f (vp_updL g x.toNatClampNeg (c k.toNatClampNeg)) := by
  intro q
  have ek : (k.toNatClampNeg : Int) = k.toInt := kk_tn h0
  have ex : (x.toNatClampNeg : Int) = x.toInt := kk_tn (by omega)
  have hq := h q
  unfold vp_updL
  by_cases d : q = x.toNatClampNeg
  · rw [if_pos d, if_pos (by omega), hc k.toNatClampNeg (by omega)]
    congr 1
    omega
  · rw [if_neg d, hq]
    by_cases z : dst ≤ (q : Int) ∧ (q : Int) < dst + k.toInt
    · rw [if_pos z, if_pos (by omega)]
    · rw [if_neg z, if_neg (by omega)]
-- what ties the elements of both
def kk_el (C : Nat → Nat → Int64) (it : Nat → Int64) : Prop := ∀ j i : Nat, j < 6 → i < 60 → C j i = it (60 * j + i)
theorem kk_el_same {C : Nat → Nat → Int64} {it : Nat → Int64} {k : Nat} (h : kk_el C it) : kk_el (va_up C k (C k)) it := by
  intro j i hj hi
  by_cases c : j = k
  · subst c
    rw [va_up_self]
    exact h j i hj hi
  · rw [va_up_ne _ _ c]
    exact h j i hj hi
theorem kk_el_put {C : Nat → Nat → Int64} {it : Nat → Int64} {k : Nat} {i x : Int32} {u v : Int64} (h : kk_el C it) (h0 : 0 ≤ i.toInt) (h1 : i.toInt < 60) (e : x.toInt = 60 * (k : Int) + i.toInt) (euv : u = v) : kk_el (va_up C k (vp_updL (C k) i.toNatClampNeg u)) (vp_updL it x.toNatClampNeg v) := by
  subst euv
  intro j q hj hq
  have ei : (i.toNatClampNeg : Int) = i.toInt := kk_tn h0
  have ex : (x.toNatClampNeg : Int) = x.toInt := kk_tn (by omega)
  by_cases c : j = k
  · subst c
    rw [va_up_self]
    unfold vp_updL
    by_cases d : q = i.toNatClampNeg
    · rw [if_pos d, if_pos (by omega)]
    · rw [if_neg d, if_neg (by omega)]
      exact h j q hj hq
  · rw [va_up_ne _ _ c]
    unfold vp_updL
    rw [if_neg (by omega)]
    exact h j q hj hq
theorem kk_el_row {C : Nat → Nat → Int64} {it it' g : Nat → Int64} {k : Nat} {lo hi : Int} (h : kk_el C it) (z1 : kk_zl 60 g) (z2 : kk_zr lo hi it it') (e1 : lo = 60 * (k : Int)) (e2 : hi = lo + 60) : kk_el (va_up C k g) it' := by
  intro j q hj hq
  rw [z2 (60 * j + q)]
  by_cases c : j = k
  · subst c
    rw [va_up_self, z1 q (by omega), if_pos (by omega)]
  · rw [va_up_ne _ _ c, if_neg (by omega)]
    exact h j q hj hq
theorem kk_el_mv {C : Nat → Nat → Int64} {it it' : Nat → Int64} {k j : Nat} {i d n : Int32} {dst src : Int} (h : kk_el C it) (hk : k < 6) (hi : 0 ≤ i.toInt) (hd : 0 ≤ d.toInt) (hn : 0 ≤ n.toInt) (h1 : i.toInt + n.toInt ≤ 60) (h2 : d.toInt + n.toInt ≤ 60) (m : kk_mv n.toInt dst src it it') (e1 : dst = 60 * (j : Int) + d.toInt) (e2 : src = 60 * (k : Int) + i.toInt) : kk_el (va_up C j (va_cpy (C k) (C j) i.toNatClampNeg d.toNatClampNeg n.toNatClampNeg)) it' := by
  intro a q ha hq
  have ei : (i.toNatClampNeg : Int) = i.toInt := kk_tn hi
  have ed : (d.toNatClampNeg : Int) = d.toInt := kk_tn hd
  have en : (n.toNatClampNeg : Int) = n.toInt := kk_tn hn
  rw [m (60 * a + q)]
  by_cases c : a = j
  · subst c
    rw [va_up_self]
    unfold va_cpy
    by_cases z : d.toNatClampNeg ≤ q ∧ q < d.toNatClampNeg + n.toNatClampNeg
    · rw [if_pos z, if_pos (by omega), h k _ hk (by omega)]
      congr 1
      omega
    · rw [if_neg z, if_neg (by omega)]
      exact h a q ha hq
  · rw [va_up_ne _ _ c, if_neg (by omega)]
    exact h a q ha hq
-- texts: c says what stands at a place (0 behind the end); a reading from p on is R: 0 ≤ R: read, up to R; R < 0: a fault at -1 - R
noncomputable def kr_at (b : Nat → Int32) (n p : Int) : Int := if 0 ≤ p ∧ p < n then (b p.toNat).toInt else 0
noncomputable def kr_D (x : Int) : Bool := decide (48 ≤ x ∧ x ≤ 57)
noncomputable def kr_N (x : Int) : Bool := decide (x = 119 ∨ x = 110 ∨ x = 100 ∨ x = 121 ∨ x = 122 ∨ x = 102 ∨ x = 105 ∨ x = 99)
noncomputable def kr_J (l x : Int) : Bool := decide ((l = 0 ∧ x = 124) ∨ (l = 1 ∧ x = 38) ∨ (l = 2 ∧ 60 ≤ x ∧ x ≤ 62) ∨ (l = 3 ∧ (x = 43 ∨ x = 45)) ∨ (l = 4 ∧ (x = 42 ∨ x = 47 ∨ x = 37)))
noncomputable def kr_nm (c : Int → Int) : Nat → Int → Int
  | 0, q => q
  | f + 1, q => if kr_D (c q) = true then kr_nm c f (q + 1) else q
noncomputable def kr_loop (c : Int → Int) (l : Int) (X : Int → Int) : Nat → Int → Int
  | 0, q => q
  | f + 1, q => if kr_J l (c q) = true then (if X (q + 1) < 0 then X (q + 1) else if l = 2 then X (q + 1) else kr_loop c l X f (X (q + 1))) else q
noncomputable def kr_chain (c : Int → Int) (l : Int) (X : Int → Int) (p : Int) : Int := if X p < 0 then X p else kr_loop c l X 120 (X p)
noncomputable def kr_lv (c : Int → Int) (X : Int → Int) : Nat → Int → Int
  | 0 => X
  | d + 1 => kr_chain c (4 - (d : Int)) (kr_lv c X d)
noncomputable def kr_in (c : Int → Int) (X : Int → Int) (p : Int) : Int := if X p < 0 then X p else if c (X p) = 41 then X p + 1 else -1 - X p
noncomputable def kr_opr (c : Int → Int) : Nat → Int → Int
  | 0 => fun p => if kr_D (c p) = true then kr_nm c 4 p else if kr_N (c p) = true then p + 1 else -1 - p
  | k + 1 => fun p => if kr_D (c p) = true then kr_nm c 4 p else if kr_N (c p) = true then p + 1 else if c p = 40 then kr_in c (kr_lv c (kr_opr c k) 5) (p + 1) else if c p = 33 ∨ c p = 45 then kr_opr c k (p + 1) else -1 - p
noncomputable def kr_F (c : Int → Int) (f q : Int) : Int := kr_nm c f.toNat q
noncomputable def kr_R (c : Int → Int) (l k p : Int) : Int := kr_lv c (kr_opr c (6 - k).toNat) (5 - l).toNat p
noncomputable def kr_L (c : Int → Int) (l k f q : Int) : Int := kr_loop c l (kr_R c (l + 1) k) f.toNat q
theorem kr_F_no {c : Int → Int} {f q : Int} (h : f ≤ 0 ∨ c q < 48 ∨ 57 < c q) : kr_F c f q = q := by
  unfold kr_F
  cases hf : f.toNat with
  | zero => rfl
  | succ g =>
    have hd : kr_D (c q) = false := by
      unfold kr_D
      exact decide_eq_false (by omega)
    show (if kr_D (c q) = true then kr_nm c g (q + 1) else q) = q
    rw [hd]
    rfl
theorem kr_F_s {c : Int → Int} {f q f' q' : Int} (hf : 0 < f) (hd : 48 ≤ c q ∧ c q ≤ 57) (hf' : f' = f - 1) (hq' : q' = q + 1) : kr_F c f q = kr_F c f' q' := by
  subst hf' hq'
  unfold kr_F
  obtain ⟨g, hg⟩ : ∃ g : Nat, f.toNat = g + 1 := ⟨f.toNat - 1, by omega⟩
  have hg' : (f - 1).toNat = g := by omega
  rw [hg, hg']
  have hD : kr_D (c q) = true := decide_eq_true hd
  show (if kr_D (c q) = true then kr_nm c g (q + 1) else q) = kr_nm c g (q + 1)
  rw [if_pos hD]
theorem kr_R_lv {c : Int → Int} {l k p : Int} (hl : 0 ≤ l ∧ l ≤ 4) : kr_R c l k p = kr_chain c l (kr_R c (l + 1) k) p := by
  obtain ⟨d, hd⟩ : ∃ d : Nat, (5 - l).toNat = d + 1 := ⟨(5 - l).toNat - 1, by omega⟩
  have hd' : (5 - (l + 1)).toNat = d := by omega
  have h4 : 4 - (d : Int) = l := by omega
  have e : kr_R c (l + 1) k = kr_lv c (kr_opr c (6 - k).toNat) d := by
    funext x
    unfold kr_R
    rw [hd']
  rw [e]
  unfold kr_R
  rw [hd]
  show kr_chain c (4 - (d : Int)) (kr_lv c (kr_opr c (6 - k).toNat) d) p = _
  rw [h4]
theorem kr_c0 {c : Int → Int} {l l' k p q f : Int} (hl : 0 ≤ l ∧ l ≤ 4) (hl' : l' = l + 1) (h : kr_R c l' k p = q) (hq : 0 ≤ q) (hf : f = 120) : kr_L c l k f q = kr_R c l k p := by
  subst hl' hf h
  rw [kr_R_lv hl]
  unfold kr_chain kr_L
  rw [if_neg (by omega)]
  rfl
theorem kr_cf {c : Int → Int} {l l' k p q : Int} (hl : 0 ≤ l ∧ l ≤ 4) (hl' : l' = l + 1) (h : kr_R c l' k p = q) (hq : q < 0) : kr_R c l k p = q := by
  subst hl' h
  rw [kr_R_lv hl]
  unfold kr_chain
  rw [if_pos hq]
theorem kr_L_no {c : Int → Int} {l k f q : Int} (h : f ≤ 0 ∨ ¬ ((l = 0 ∧ c q = 124) ∨ (l = 1 ∧ c q = 38) ∨ (l = 2 ∧ 60 ≤ c q ∧ c q ≤ 62) ∨ (l = 3 ∧ (c q = 43 ∨ c q = 45)) ∨ (l = 4 ∧ (c q = 42 ∨ c q = 47 ∨ c q = 37)))) : kr_L c l k f q = q := by
  unfold kr_L
  cases hf : f.toNat with
  | zero => rfl
  | succ g =>
    have hd : ¬ kr_J l (c q) = true := by
      unfold kr_J
      rw [decide_eq_true_eq]
      omega
    show (if kr_J l (c q) = true then _ else q) = q
    rw [if_neg hd]
theorem kr_L_u {c : Int → Int} {l k f q : Int} (hf : 0 < f) (h : (l = 0 ∧ c q = 124) ∨ (l = 1 ∧ c q = 38) ∨ (l = 2 ∧ 60 ≤ c q ∧ c q ≤ 62) ∨ (l = 3 ∧ (c q = 43 ∨ c q = 45)) ∨ (l = 4 ∧ (c q = 42 ∨ c q = 47 ∨ c q = 37))) : kr_L c l k f q = (if kr_R c (l + 1) k (q + 1) < 0 then kr_R c (l + 1) k (q + 1) else if l = 2 then kr_R c (l + 1) k (q + 1) else kr_L c l k (f - 1) (kr_R c (l + 1) k (q + 1))) := by
  obtain ⟨g, hg⟩ : ∃ g : Nat, f.toNat = g + 1 := ⟨f.toNat - 1, by omega⟩
  have hg' : (f - 1).toNat = g := by omega
  unfold kr_L
  rw [hg, hg']
  have hJ : kr_J l (c q) = true := decide_eq_true h
  show (if kr_J l (c q) = true then _ else q) = _
  rw [if_pos hJ]
theorem kr_L_f {c : Int → Int} {l l' k f q q1 e : Int} (hf : 0 < f) (h : (l = 0 ∧ c q = 124) ∨ (l = 1 ∧ c q = 38) ∨ (l = 2 ∧ 60 ≤ c q ∧ c q ≤ 62) ∨ (l = 3 ∧ (c q = 43 ∨ c q = 45)) ∨ (l = 4 ∧ (c q = 42 ∨ c q = 47 ∨ c q = 37))) (hl' : l' = l + 1) (hq1 : q1 = q + 1) (he : kr_R c l' k q1 = e) (h0 : e < 0) : kr_L c l k f q = e := by
  subst hl' hq1 he
  rw [kr_L_u hf h, if_pos h0]
theorem kr_L_s {c : Int → Int} {l l' k f f' q q1 e : Int} (hf : 0 < f) (h : (l = 0 ∧ c q = 124) ∨ (l = 1 ∧ c q = 38) ∨ (l = 2 ∧ 60 ≤ c q ∧ c q ≤ 62) ∨ (l = 3 ∧ (c q = 43 ∨ c q = 45)) ∨ (l = 4 ∧ (c q = 42 ∨ c q = 47 ∨ c q = 37))) (hl2 : l ≠ 2) (hl' : l' = l + 1) (hq1 : q1 = q + 1) (he : kr_R c l' k q1 = e) (h0 : 0 ≤ e) (hf' : f' = f - 1) : kr_L c l k f q = kr_L c l k f' e := by
  subst hl' hq1 he hf'
  rw [kr_L_u hf h, if_neg (by omega), if_neg hl2]
theorem kr_L_2 {c : Int → Int} {l l' k f q q1 e : Int} (hf : 0 < f) (h : 60 ≤ c q ∧ c q ≤ 62) (hl2 : l = 2) (hl' : l' = l + 1) (hq1 : q1 = q + 1) (he : kr_R c l' k q1 = e) : kr_L c l k f q = e := by
  subst hl' hq1 he
  rw [kr_L_u hf (by omega), if_pos hl2]
  split <;> rfl
theorem kr_o_num {c : Int → Int} {k p : Int} (h : 48 ≤ c p ∧ c p ≤ 57) : kr_R c 5 k p = kr_F c 4 p := by
  have hD : kr_D (c p) = true := decide_eq_true h
  show kr_opr c (6 - k).toNat p = kr_nm c 4 p
  cases (6 - k).toNat with
  | zero => show (if kr_D (c p) = true then _ else _) = _; rw [if_pos hD]
  | succ g => show (if kr_D (c p) = true then _ else _) = _; rw [if_pos hD]
theorem kr_o_nam {c : Int → Int} {k p : Int} (h : c p = 119 ∨ c p = 110 ∨ c p = 100 ∨ c p = 121 ∨ c p = 122 ∨ c p = 102 ∨ c p = 105 ∨ c p = 99) : kr_R c 5 k p = p + 1 := by
  have hD : ¬ kr_D (c p) = true := by unfold kr_D; rw [decide_eq_true_eq]; omega
  have hN : kr_N (c p) = true := decide_eq_true h
  show kr_opr c (6 - k).toNat p = _
  cases (6 - k).toNat with
  | zero => show (if kr_D (c p) = true then _ else if kr_N (c p) = true then _ else _) = _; rw [if_neg hD, if_pos hN]
  | succ g => show (if kr_D (c p) = true then _ else if kr_N (c p) = true then _ else _) = _; rw [if_neg hD, if_pos hN]
theorem kr_o_bad {c : Int → Int} {k p : Int} (hd : c p < 48 ∨ 57 < c p) (hn : ¬ (c p = 119 ∨ c p = 110 ∨ c p = 100 ∨ c p = 121 ∨ c p = 122 ∨ c p = 102 ∨ c p = 105 ∨ c p = 99)) (h : 6 ≤ k ∨ (c p ≠ 40 ∧ c p ≠ 33 ∧ c p ≠ 45)) : kr_R c 5 k p = -1 - p := by
  have hD : ¬ kr_D (c p) = true := by unfold kr_D; rw [decide_eq_true_eq]; omega
  have hN : ¬ kr_N (c p) = true := by unfold kr_N; rw [decide_eq_true_eq]; exact hn
  show kr_opr c (6 - k).toNat p = _
  cases hk : (6 - k).toNat with
  | zero => show (if kr_D (c p) = true then _ else if kr_N (c p) = true then _ else _) = _; rw [if_neg hD, if_neg hN]
  | succ g =>
    have h' : c p ≠ 40 ∧ c p ≠ 33 ∧ c p ≠ 45 := by omega
    show (if kr_D (c p) = true then _ else if kr_N (c p) = true then _ else if c p = 40 then _ else if c p = 33 ∨ c p = 45 then _ else _) = _
    rw [if_neg hD, if_neg hN, if_neg h'.1, if_neg (by omega)]
theorem kr_o_in {c : Int → Int} {k k' p p1 : Int} (hk : k < 6) (h : c p = 40) (hk' : k' = k + 1) (hp1 : p1 = p + 1) : kr_R c 5 k p = (if kr_R c 0 k' p1 < 0 then kr_R c 0 k' p1 else if c (kr_R c 0 k' p1) = 41 then kr_R c 0 k' p1 + 1 else -1 - kr_R c 0 k' p1) := by
  subst hk' hp1
  have hD : ¬ kr_D (c p) = true := by unfold kr_D; rw [decide_eq_true_eq]; omega
  have hN : ¬ kr_N (c p) = true := by unfold kr_N; rw [decide_eq_true_eq]; omega
  obtain ⟨g, hg⟩ : ∃ g : Nat, (6 - k).toNat = g + 1 := ⟨(6 - k).toNat - 1, by omega⟩
  have hg' : (6 - (k + 1)).toNat = g := by omega
  have e : ∀ x, kr_R c 0 (k + 1) x = kr_lv c (kr_opr c g) 5 x := fun x => by unfold kr_R; rw [hg']; rfl
  show kr_opr c (6 - k).toNat p = _
  rw [hg, e]
  show (if kr_D (c p) = true then _ else if kr_N (c p) = true then _ else if c p = 40 then kr_in c (kr_lv c (kr_opr c g) 5) (p + 1) else _) = _
  rw [if_neg hD, if_neg hN, if_pos h]
  rfl
theorem kr_o_par {c : Int → Int} {k k' p p1 q : Int} (hk : k < 6) (h : c p = 40) (hk' : k' = k + 1) (hp1 : p1 = p + 1) (hq : kr_R c 0 k' p1 = q) (h0 : 0 ≤ q) (h1 : c q = 41) : kr_R c 5 k p = q + 1 := by
  rw [kr_o_in hk h hk' hp1, hq, if_neg (by omega), if_pos h1]
theorem kr_o_pab {c : Int → Int} {k k' p p1 q : Int} (hk : k < 6) (h : c p = 40) (hk' : k' = k + 1) (hp1 : p1 = p + 1) (hq : kr_R c 0 k' p1 = q) (h0 : 0 ≤ q) (h1 : c q ≠ 41) : kr_R c 5 k p = -1 - q := by
  rw [kr_o_in hk h hk' hp1, hq, if_neg (by omega), if_neg h1]
theorem kr_o_paf {c : Int → Int} {k k' p p1 q : Int} (hk : k < 6) (h : c p = 40) (hk' : k' = k + 1) (hp1 : p1 = p + 1) (hq : kr_R c 0 k' p1 = q) (h0 : q < 0) : kr_R c 5 k p = q := by
  rw [kr_o_in hk h hk' hp1, hq, if_pos h0]
theorem kr_o_sgn {c : Int → Int} {k k' p p1 q : Int} (hk : k < 6) (h : c p = 33 ∨ c p = 45) (hk' : k' = k + 1) (hp1 : p1 = p + 1) (hq : kr_R c 5 k' p1 = q) : kr_R c 5 k p = q := by
  subst hk' hp1
  have hD : ¬ kr_D (c p) = true := by unfold kr_D; rw [decide_eq_true_eq]; omega
  have hN : ¬ kr_N (c p) = true := by unfold kr_N; rw [decide_eq_true_eq]; omega
  obtain ⟨g, hg⟩ : ∃ g : Nat, (6 - k).toNat = g + 1 := ⟨(6 - k).toNat - 1, by omega⟩
  have hg' : (6 - (k + 1)).toNat = g := by omega
  have e : kr_R c 5 (k + 1) (p + 1) = kr_opr c g (p + 1) := by unfold kr_R; rw [hg']; rfl
  show kr_opr c (6 - k).toNat p = _
  rw [hg]
  show (if kr_D (c p) = true then _ else if kr_N (c p) = true then _ else if c p = 40 then _ else if c p = 33 ∨ c p = 45 then kr_opr c g (p + 1) else _) = _
  rw [if_neg hD, if_neg hN, if_neg (by omega), if_pos h, ← e]
  exact hq
-- progress
theorem kr_nm_ge (c : Int → Int) : ∀ (f : Nat) (q : Int), q ≤ kr_nm c f q := by
  intro f
  induction f with
  | zero => exact fun q => Int.le_refl q
  | succ g ih =>
    intro q
    show q ≤ (if kr_D (c q) = true then kr_nm c g (q + 1) else q)
    split
    · have := ih (q + 1); omega
    · omega
theorem kr_loop_ge {c : Int → Int} {l : Int} {X : Int → Int} (hX : ∀ p, 0 ≤ p → X p < 0 ∨ p < X p) : ∀ (f : Nat) (q : Int), 0 ≤ q → kr_loop c l X f q < 0 ∨ q ≤ kr_loop c l X f q := by
  intro f
  induction f with
  | zero => exact fun q _ => Or.inr (Int.le_refl q)
  | succ g ih =>
    intro q hq
    have h1 := hX (q + 1) (by omega)
    show (if kr_J l (c q) = true then (if X (q + 1) < 0 then X (q + 1) else if l = 2 then X (q + 1) else kr_loop c l X g (X (q + 1))) else q) < 0 ∨ q ≤ (if kr_J l (c q) = true then (if X (q + 1) < 0 then X (q + 1) else if l = 2 then X (q + 1) else kr_loop c l X g (X (q + 1))) else q)
    split
    · split
      · omega
      · split
        · omega
        · have := ih (X (q + 1)) (by omega); omega
    · omega
theorem kr_lv_gt {c : Int → Int} {X : Int → Int} (hX : ∀ p, 0 ≤ p → X p < 0 ∨ p < X p) : ∀ (d : Nat) (p : Int), 0 ≤ p → kr_lv c X d p < 0 ∨ p < kr_lv c X d p := by
  intro d
  induction d with
  | zero => exact hX
  | succ e ih =>
    intro p hp
    show kr_chain c (4 - (e : Int)) (kr_lv c X e) p < 0 ∨ p < kr_chain c (4 - (e : Int)) (kr_lv c X e) p
    unfold kr_chain
    have h1 := ih p hp
    split
    · omega
    · have h2 := kr_loop_ge (c := c) (l := 4 - (e : Int)) ih 120 (kr_lv c X e p) (by omega); omega
theorem kr_opr_gt (c : Int → Int) : ∀ (k : Nat) (p : Int), 0 ≤ p → kr_opr c k p < 0 ∨ p < kr_opr c k p := by
  have hn : ∀ p : Int, kr_D (c p) = true → p < kr_nm c 4 p := fun p h => by
    have h1 := kr_nm_ge c 3 (p + 1)
    show p < (if kr_D (c p) = true then kr_nm c 3 (p + 1) else p)
    rw [if_pos h]; omega
  intro k
  induction k with
  | zero =>
    intro p hp
    show (if kr_D (c p) = true then kr_nm c 4 p else if kr_N (c p) = true then p + 1 else -1 - p) < 0 ∨ p < (if kr_D (c p) = true then kr_nm c 4 p else if kr_N (c p) = true then p + 1 else -1 - p)
    split
    · rename_i h; have := hn p h; omega
    · split <;> omega
  | succ g ih =>
    intro p hp
    have h5 := kr_lv_gt (c := c) ih 5 (p + 1) (by omega)
    have h6 := ih (p + 1) (by omega)
    show (if kr_D (c p) = true then kr_nm c 4 p else if kr_N (c p) = true then p + 1 else if c p = 40 then kr_in c (kr_lv c (kr_opr c g) 5) (p + 1) else if c p = 33 ∨ c p = 45 then kr_opr c g (p + 1) else -1 - p) < 0 ∨ p < (if kr_D (c p) = true then kr_nm c 4 p else if kr_N (c p) = true then p + 1 else if c p = 40 then kr_in c (kr_lv c (kr_opr c g) 5) (p + 1) else if c p = 33 ∨ c p = 45 then kr_opr c g (p + 1) else -1 - p)
    split
    · rename_i h; have := hn p h; omega
    · split
      · omega
      · split
        · unfold kr_in
          split
          · omega
          · split <;> omega
        · split <;> omega
theorem kr_R_gt (c : Int → Int) (l k p : Int) (hp : 0 ≤ p) : kr_R c l k p < 0 ∨ p < kr_R c l k p := kr_lv_gt (kr_opr_gt c _) _ p hp
theorem kr_loop_fuel {c : Int → Int} {l : Int} {X : Int → Int} {n : Int} (hc : ∀ p, n ≤ p → c p = 0) (hX : ∀ p, 0 ≤ p → X p < 0 ∨ p < X p) : ∀ (f g : Nat) (q : Int), 0 ≤ q → n - q ≤ (f : Int) → n - q ≤ (g : Int) → kr_loop c l X f q = kr_loop c l X g q := by
  have hz : ∀ (g : Nat) (q : Int), kr_J l (c q) = false → kr_loop c l X g q = q := by
    intro g q h
    cases g with
    | zero => rfl
    | succ g => show (if kr_J l (c q) = true then _ else q) = q; rw [h]; rfl
  have h0 : ∀ q, n ≤ q → kr_J l (c q) = false := by
    intro q h
    rw [hc q h]
    unfold kr_J
    exact decide_eq_false (by omega)
  intro f
  induction f with
  | zero => intro g q hq h1 h2; rw [hz g q (h0 q (by omega))]; rfl
  | succ f ih =>
    intro g q hq h1 h2
    cases hJ : kr_J l (c q) with
    | false => rw [hz _ q hJ, hz _ q hJ]
    | true =>
      have hn : q < n := by
        rcases Int.lt_or_le q n with h | h
        · exact h
        · rw [h0 q h] at hJ; cases hJ
      obtain ⟨g', hg⟩ : ∃ g' : Nat, g = g' + 1 := ⟨g - 1, by omega⟩
      subst hg
      show (if kr_J l (c q) = true then _ else q) = (if kr_J l (c q) = true then _ else q)
      rw [if_pos hJ, if_pos hJ]
      have h3 := hX (q + 1) (by omega)
      split
      · rfl
      · split
        · rfl
        · exact ih g' (X (q + 1)) (by omega) (by omega) (by omega)
theorem kr_L_S {c : Int → Int} {n l l' k q q1 e : Int} (hc : ∀ p, n ≤ p → c p = 0) (hn : n ≤ 120) (hq : 0 ≤ q) (h : (l = 0 ∧ c q = 124) ∨ (l = 1 ∧ c q = 38) ∨ (l = 2 ∧ 60 ≤ c q ∧ c q ≤ 62) ∨ (l = 3 ∧ (c q = 43 ∨ c q = 45)) ∨ (l = 4 ∧ (c q = 42 ∨ c q = 47 ∨ c q = 37))) (hl2 : l ≠ 2) (hl' : l' = l + 1) (hq1 : q1 = q + 1) (he : kr_R c l' k q1 = e) (h0 : 0 ≤ e) : kr_L c l k 120 q = kr_L c l k 120 e := by
  rw [kr_L_s (by decide) h hl2 hl' hq1 he h0 rfl]
  have hg := kr_R_gt c l' k q1 (by omega)
  rw [he] at hg
  exact kr_loop_fuel hc (fun p hp => kr_R_gt c _ k p hp) _ _ e h0 (by omega) (by omega)
-- lines
noncomputable def kr_line (c : Int → Int) (p : Int) : Int := if kr_R c 0 0 p < 0 then kr_R c 0 0 p else if c (kr_R c 0 0 p) = 63 then kr_R c 0 0 (kr_R c 0 0 p + 1) else kr_R c 0 0 p
noncomputable def kr_txt (c : Int → Int) (n : Int) : Nat → Int → Int
  | 0, p => p
  | f + 1, p => if kr_line c p < 0 then -1 - kr_line c p else if n ≤ kr_line c p then -1 else if c (kr_line c p) = 59 then kr_txt c n f (kr_line c p + 1) else kr_line c p
noncomputable def kr_T (c : Int → Int) (n f p : Int) : Int := kr_txt c n f.toNat p
theorem kr_l_f {c : Int → Int} {p e : Int} (h : kr_R c 0 0 p = e) (h0 : e < 0) : kr_line c p = e := by
  unfold kr_line; rw [h, if_pos h0]
theorem kr_l_no {c : Int → Int} {p e : Int} (h : kr_R c 0 0 p = e) (h0 : 0 ≤ e) (h1 : c e ≠ 63) : kr_line c p = e := by
  unfold kr_line; rw [h, if_neg (by omega), if_neg h1]
theorem kr_l_if {c : Int → Int} {p e p1 e1 : Int} (h : kr_R c 0 0 p = e) (h0 : 0 ≤ e) (h1 : c e = 63) (hp1 : p1 = e + 1) (h2 : kr_R c 0 0 p1 = e1) : kr_line c p = e1 := by
  subst hp1; unfold kr_line; rw [h, if_neg (by omega), if_pos h1, h2]
theorem kr_T_u {c : Int → Int} {n f p e : Int} (hf : 0 < f) (h : kr_line c p = e) : kr_T c n f p = (if e < 0 then -1 - e else if n ≤ e then -1 else if c e = 59 then kr_T c n (f - 1) (e + 1) else e) := by
  obtain ⟨g, hg⟩ : ∃ g : Nat, f.toNat = g + 1 := ⟨f.toNat - 1, by omega⟩
  have hg' : (f - 1).toNat = g := by omega
  unfold kr_T
  rw [hg, hg', ← h]
  rfl
theorem kr_T_0 {c : Int → Int} {n f p : Int} (hf : f ≤ 0) : kr_T c n f p = p := by
  unfold kr_T
  have h : f.toNat = 0 := by omega
  rw [h]
  rfl
theorem kr_T_f {c : Int → Int} {n f p e : Int} (hf : 0 < f) (h : kr_line c p = e) (h0 : e < 0) : kr_T c n f p = -1 - e := by rw [kr_T_u hf h, if_pos h0]
theorem kr_T_e {c : Int → Int} {n f p e : Int} (hf : 0 < f) (h : kr_line c p = e) (h0 : 0 ≤ e) (h1 : n ≤ e) : kr_T c n f p = -1 := by rw [kr_T_u hf h, if_neg (by omega), if_pos h1]
theorem kr_T_n {c : Int → Int} {n f p e : Int} (hf : 0 < f) (h : kr_line c p = e) (h0 : 0 ≤ e) (h1 : e < n) (h2 : c e ≠ 59) : kr_T c n f p = e := by rw [kr_T_u hf h, if_neg (by omega), if_neg (by omega), if_neg h2]
theorem kr_T_s {c : Int → Int} {n f p e f' p' : Int} (hf : 0 < f) (h : kr_line c p = e) (h0 : 0 ≤ e) (h1 : e < n) (h2 : c e = 59) (hf' : f' = f - 1) (hp' : p' = e + 1) : kr_T c n f p = kr_T c n f' p' := by subst hf' hp'; rw [kr_T_u hf h, if_neg (by omega), if_neg (by omega), if_pos h2]
-- the two sides: the same bytes, the same reading
theorem kr_at_eq {b b' : Nat → Int32} {n : Int} (h : ∀ j : Nat, (j : Int) < n → b j = b' j) : kr_at b n = kr_at b' n := by
  funext p
  unfold kr_at
  split
  · rename_i hp; rw [h p.toNat (by omega)]
  · rfl
theorem kr_at_in {b : Nat → Int32} {n : Int} {x : Int32} (h0 : 0 ≤ x.toInt) (h1 : x.toInt < n) : kr_at b n x.toInt = (b x.toNatClampNeg).toInt := by
  unfold kr_at
  rw [if_pos ⟨h0, h1⟩]
  rfl
theorem kr_at_out {b : Nat → Int32} {n p : Int} (h : p < 0 ∨ n ≤ p) : kr_at b n p = 0 := by
  unfold kr_at
  rw [if_neg (by omega)]
theorem kr_line_gt (c : Int → Int) (p : Int) (hp : 0 ≤ p) : kr_line c p < 0 ∨ p < kr_line c p := by
  have h1 := kr_R_gt c 0 0 p hp
  unfold kr_line
  split
  · omega
  · have h2 := kr_R_gt c 0 0 (kr_R c 0 0 p + 1) (by omega)
    split <;> omega
theorem kr_txt_fuel {c : Int → Int} {n : Int} : ∀ (f g : Nat) (p : Int), 0 ≤ p → n - p < (f : Int) → 0 < f → n - p < (g : Int) → 0 < g → kr_txt c n f p = kr_txt c n g p := by
  intro f
  induction f with
  | zero => intro g p _ _ h _ _; omega
  | succ f ih =>
    intro g p hp h1 _ h2 hg
    obtain ⟨g', rfl⟩ : ∃ g' : Nat, g = g' + 1 := ⟨g - 1, by omega⟩
    have h3 := kr_line_gt c p hp
    show (if kr_line c p < 0 then -1 - kr_line c p else if n ≤ kr_line c p then -1 else if c (kr_line c p) = 59 then kr_txt c n f (kr_line c p + 1) else kr_line c p) = (if kr_line c p < 0 then -1 - kr_line c p else if n ≤ kr_line c p then -1 else if c (kr_line c p) = 59 then kr_txt c n g' (kr_line c p + 1) else kr_line c p)
    split
    · rfl
    · split
      · rfl
      · split
        · exact ih g' (kr_line c p + 1) (by omega) (by omega) (by omega) (by omega) (by omega)
        · rfl
theorem kr_T_S {c : Int → Int} {n p e p' : Int} (hc : ∀ p, n ≤ p → c p = 0) (hn : 0 ≤ n) (hp : 0 ≤ p) (h : kr_line c p = e) (h0 : 0 ≤ e) (h2 : c e = 59) (hp' : p' = e + 1) : kr_T c n (n + 1) p = kr_T c n (n + 1) p' := by
  have h1 : e < n := by
    rcases Int.lt_or_le e n with h | h
    · exact h
    · rw [hc e h] at h2; cases h2
  have h3 := kr_line_gt c p hp
  rw [kr_T_s (by omega) h h0 h1 h2 rfl hp']
  exact kr_txt_fuel _ _ p' (by omega) (by omega) (by omega) (by omega) (by omega)
-- the bytes of a number
noncomputable def kk_by (v s : Int32) : Int32 := ((v : Int32).toUInt32 >>> ((s : Int32).toUInt32 &&& Int32.toUInt32 31)).toInt32 &&& 255
theorem kk_by_b (v s : Int32) : 0 ≤ (kk_by v s).toInt ∧ (kk_by v s).toInt ≤ 255 := kk_and_255 _
theorem kk_by_bits {x y : BitVec 32} (h : ∀ i, i < 8 → x.getLsbD i = y.getLsbD i) : x &&& 255#32 = y &&& 255#32 := by
  apply BitVec.eq_of_getLsbD_eq
  intro i hi
  rw [BitVec.getLsbD_and, BitVec.getLsbD_and]
  rcases Nat.lt_or_ge i 8 with h8 | h8
  · rw [h i h8]
  · have hz : ∀ j, j < 32 → 8 ≤ j → (255#32).getLsbD j = false := by decide
    rw [hz i hi h8, Bool.and_false, Bool.and_false]
theorem kk_by_sh (v : BitVec 32) (s : Nat) (hs : s ≤ 24) : v.sshiftRight s &&& 255#32 = v >>> s &&& 255#32 := by
  apply kk_by_bits
  intro i hi
  rw [BitVec.getLsbD_sshiftRight, BitVec.getLsbD_ushiftRight]
  have h1 : ¬ 32 ≤ i := by omega
  have h2 : s + i < 32 := by omega
  simp [h1, h2]
theorem kk_by_0 (v : Int32) : ((v : Int32) >>> ((0 : Int32) &&& 31)) &&& 255 = kk_by v 0 := Int32.toBitVec_inj.1 (kk_by_sh v.toBitVec 0 (by decide))
theorem kk_by_8 (v : Int32) : ((v : Int32) >>> ((8 : Int32) &&& 31)) &&& 255 = kk_by v 8 := Int32.toBitVec_inj.1 (kk_by_sh v.toBitVec 8 (by decide))
theorem kk_by_16 (v : Int32) : ((v : Int32) >>> ((16 : Int32) &&& 31)) &&& 255 = kk_by v 16 := Int32.toBitVec_inj.1 (kk_by_sh v.toBitVec 16 (by decide))
theorem kk_by_24 (v : Int32) : ((v : Int32) >>> ((24 : Int32) &&& 31)) &&& 255 = kk_by v 24 := Int32.toBitVec_inj.1 (kk_by_sh v.toBitVec 24 (by decide))
-- kk8 of functions that nothing unfolds (laid by opq.py)
theorem ko_at_x : ∃ F : (Nat → Int32) → Int → Int → Int, F = kr_at := ⟨_, rfl⟩
noncomputable def ko_at : (Nat → Int32) → Int → Int → Int := Classical.choose ko_at_x
theorem ko_at_eqn : ko_at = kr_at := Classical.choose_spec ko_at_x
theorem ko_F_x : ∃ F : (Int → Int) → Int → Int → Int, F = kr_F := ⟨_, rfl⟩
noncomputable def ko_F : (Int → Int) → Int → Int → Int := Classical.choose ko_F_x
theorem ko_F_eqn : ko_F = kr_F := Classical.choose_spec ko_F_x
theorem ko_R_x : ∃ F : (Int → Int) → Int → Int → Int → Int, F = kr_R := ⟨_, rfl⟩
noncomputable def ko_R : (Int → Int) → Int → Int → Int → Int := Classical.choose ko_R_x
theorem ko_R_eqn : ko_R = kr_R := Classical.choose_spec ko_R_x
theorem ko_L_x : ∃ F : (Int → Int) → Int → Int → Int → Int → Int, F = kr_L := ⟨_, rfl⟩
noncomputable def ko_L : (Int → Int) → Int → Int → Int → Int → Int := Classical.choose ko_L_x
theorem ko_L_eqn : ko_L = kr_L := Classical.choose_spec ko_L_x
theorem ko_line_x : ∃ F : (Int → Int) → Int → Int, F = kr_line := ⟨_, rfl⟩
noncomputable def ko_line : (Int → Int) → Int → Int := Classical.choose ko_line_x
theorem ko_line_eqn : ko_line = kr_line := Classical.choose_spec ko_line_x
theorem ko_T_x : ∃ F : (Int → Int) → Int → Int → Int → Int, F = kr_T := ⟨_, rfl⟩
noncomputable def ko_T : (Int → Int) → Int → Int → Int → Int := Classical.choose ko_T_x
theorem ko_T_eqn : ko_T = kr_T := Classical.choose_spec ko_T_x
theorem ko_o_bad {c : Int → Int} {k p : Int} (hd : c p < 48 ∨ 57 < c p) (hn : ¬ (c p = 119 ∨ c p = 110 ∨ c p = 100 ∨ c p = 121 ∨ c p = 122 ∨ c p = 102 ∨ c p = 105 ∨ c p = 99)) (h : 6 ≤ k ∨ (c p ≠ 40 ∧ c p ≠ 33 ∧ c p ≠ 45)) : ko_R c 5 k p = -1 - p := by
  have key : ∀ (q_R : (Int → Int) → Int → Int → Int → Int), q_R = kr_R → ∀ {c : Int → Int} {k p : Int} (hd : c p < 48 ∨ 57 < c p) (hn : ¬ (c p = 119 ∨ c p = 110 ∨ c p = 100 ∨ c p = 121 ∨ c p = 122 ∨ c p = 102 ∨ c p = 105 ∨ c p = 99)) (h : 6 ≤ k ∨ (c p ≠ 40 ∧ c p ≠ 33 ∧ c p ≠ 45)), q_R c 5 k p = -1 - p := by
    intro q_R h_q_R
    subst h_q_R
    exact @kr_o_bad
  exact key _ ko_R_eqn hd hn h
theorem ko_at_out {b : Nat → Int32} {n p : Int} (h : p < 0 ∨ n ≤ p) : ko_at b n p = 0 := by
  have key : ∀ (q_at : (Nat → Int32) → Int → Int → Int), q_at = kr_at → ∀ {b : Nat → Int32} {n p : Int} (h : p < 0 ∨ n ≤ p), q_at b n p = 0 := by
    intro q_at h_q_at
    subst h_q_at
    exact @kr_at_out
  exact key _ ko_at_eqn h
theorem ko_o_sgn {c : Int → Int} {k k' p p1 q : Int} (hk : k < 6) (h : c p = 33 ∨ c p = 45) (hk' : k' = k + 1) (hp1 : p1 = p + 1) (hq : ko_R c 5 k' p1 = q) : ko_R c 5 k p = q := by
  have key : ∀ (q_R : (Int → Int) → Int → Int → Int → Int), q_R = kr_R → ∀ {c : Int → Int} {k k' p p1 q : Int} (hk : k < 6) (h : c p = 33 ∨ c p = 45) (hk' : k' = k + 1) (hp1 : p1 = p + 1) (hq : q_R c 5 k' p1 = q), q_R c 5 k p = q := by
    intro q_R h_q_R
    subst h_q_R
    exact @kr_o_sgn
  exact key _ ko_R_eqn hk h hk' hp1 hq
theorem ko_o_par {c : Int → Int} {k k' p p1 q : Int} (hk : k < 6) (h : c p = 40) (hk' : k' = k + 1) (hp1 : p1 = p + 1) (hq : ko_R c 0 k' p1 = q) (h0 : 0 ≤ q) (h1 : c q = 41) : ko_R c 5 k p = q + 1 := by
  have key : ∀ (q_R : (Int → Int) → Int → Int → Int → Int), q_R = kr_R → ∀ {c : Int → Int} {k k' p p1 q : Int} (hk : k < 6) (h : c p = 40) (hk' : k' = k + 1) (hp1 : p1 = p + 1) (hq : q_R c 0 k' p1 = q) (h0 : 0 ≤ q) (h1 : c q = 41), q_R c 5 k p = q + 1 := by
    intro q_R h_q_R
    subst h_q_R
    exact @kr_o_par
  exact key _ ko_R_eqn hk h hk' hp1 hq h0 h1
theorem ko_o_paf {c : Int → Int} {k k' p p1 q : Int} (hk : k < 6) (h : c p = 40) (hk' : k' = k + 1) (hp1 : p1 = p + 1) (hq : ko_R c 0 k' p1 = q) (h0 : q < 0) : ko_R c 5 k p = q := by
  have key : ∀ (q_R : (Int → Int) → Int → Int → Int → Int), q_R = kr_R → ∀ {c : Int → Int} {k k' p p1 q : Int} (hk : k < 6) (h : c p = 40) (hk' : k' = k + 1) (hp1 : p1 = p + 1) (hq : q_R c 0 k' p1 = q) (h0 : q < 0), q_R c 5 k p = q := by
    intro q_R h_q_R
    subst h_q_R
    exact @kr_o_paf
  exact key _ ko_R_eqn hk h hk' hp1 hq h0
theorem ko_o_pab {c : Int → Int} {k k' p p1 q : Int} (hk : k < 6) (h : c p = 40) (hk' : k' = k + 1) (hp1 : p1 = p + 1) (hq : ko_R c 0 k' p1 = q) (h0 : 0 ≤ q) (h1 : c q ≠ 41) : ko_R c 5 k p = -1 - q := by
  have key : ∀ (q_R : (Int → Int) → Int → Int → Int → Int), q_R = kr_R → ∀ {c : Int → Int} {k k' p p1 q : Int} (hk : k < 6) (h : c p = 40) (hk' : k' = k + 1) (hp1 : p1 = p + 1) (hq : q_R c 0 k' p1 = q) (h0 : 0 ≤ q) (h1 : c q ≠ 41), q_R c 5 k p = -1 - q := by
    intro q_R h_q_R
    subst h_q_R
    exact @kr_o_pab
  exact key _ ko_R_eqn hk h hk' hp1 hq h0 h1
theorem ko_o_num {c : Int → Int} {k p : Int} (h : 48 ≤ c p ∧ c p ≤ 57) : ko_R c 5 k p = ko_F c 4 p := by
  have key : ∀ (q_F : (Int → Int) → Int → Int → Int) (q_R : (Int → Int) → Int → Int → Int → Int), q_F = kr_F → q_R = kr_R → ∀ {c : Int → Int} {k p : Int} (h : 48 ≤ c p ∧ c p ≤ 57), q_R c 5 k p = q_F c 4 p := by
    intro q_F q_R h_q_F h_q_R
    subst h_q_F h_q_R
    exact @kr_o_num
  exact key _ _ ko_F_eqn ko_R_eqn h
theorem ko_o_nam {c : Int → Int} {k p : Int} (h : c p = 119 ∨ c p = 110 ∨ c p = 100 ∨ c p = 121 ∨ c p = 122 ∨ c p = 102 ∨ c p = 105 ∨ c p = 99) : ko_R c 5 k p = p + 1 := by
  have key : ∀ (q_R : (Int → Int) → Int → Int → Int → Int), q_R = kr_R → ∀ {c : Int → Int} {k p : Int} (h : c p = 119 ∨ c p = 110 ∨ c p = 100 ∨ c p = 121 ∨ c p = 122 ∨ c p = 102 ∨ c p = 105 ∨ c p = 99), q_R c 5 k p = p + 1 := by
    intro q_R h_q_R
    subst h_q_R
    exact @kr_o_nam
  exact key _ ko_R_eqn h
theorem ko_l_no {c : Int → Int} {p e : Int} (h : ko_R c 0 0 p = e) (h0 : 0 ≤ e) (h1 : c e ≠ 63) : ko_line c p = e := by
  have key : ∀ (q_R : (Int → Int) → Int → Int → Int → Int) (q_line : (Int → Int) → Int → Int), q_R = kr_R → q_line = kr_line → ∀ {c : Int → Int} {p e : Int} (h : q_R c 0 0 p = e) (h0 : 0 ≤ e) (h1 : c e ≠ 63), q_line c p = e := by
    intro q_R q_line h_q_R h_q_line
    subst h_q_R h_q_line
    exact @kr_l_no
  exact key _ _ ko_R_eqn ko_line_eqn h h0 h1
theorem ko_l_if {c : Int → Int} {p e p1 e1 : Int} (h : ko_R c 0 0 p = e) (h0 : 0 ≤ e) (h1 : c e = 63) (hp1 : p1 = e + 1) (h2 : ko_R c 0 0 p1 = e1) : ko_line c p = e1 := by
  have key : ∀ (q_R : (Int → Int) → Int → Int → Int → Int) (q_line : (Int → Int) → Int → Int), q_R = kr_R → q_line = kr_line → ∀ {c : Int → Int} {p e p1 e1 : Int} (h : q_R c 0 0 p = e) (h0 : 0 ≤ e) (h1 : c e = 63) (hp1 : p1 = e + 1) (h2 : q_R c 0 0 p1 = e1), q_line c p = e1 := by
    intro q_R q_line h_q_R h_q_line
    subst h_q_R h_q_line
    exact @kr_l_if
  exact key _ _ ko_R_eqn ko_line_eqn h h0 h1 hp1 h2
theorem ko_l_f {c : Int → Int} {p e : Int} (h : ko_R c 0 0 p = e) (h0 : e < 0) : ko_line c p = e := by
  have key : ∀ (q_R : (Int → Int) → Int → Int → Int → Int) (q_line : (Int → Int) → Int → Int), q_R = kr_R → q_line = kr_line → ∀ {c : Int → Int} {p e : Int} (h : q_R c 0 0 p = e) (h0 : e < 0), q_line c p = e := by
    intro q_R q_line h_q_R h_q_line
    subst h_q_R h_q_line
    exact @kr_l_f
  exact key _ _ ko_R_eqn ko_line_eqn h h0
theorem ko_cf {c : Int → Int} {l l' k p q : Int} (hl : 0 ≤ l ∧ l ≤ 4) (hl' : l' = l + 1) (h : ko_R c l' k p = q) (hq : q < 0) : ko_R c l k p = q := by
  have key : ∀ (q_R : (Int → Int) → Int → Int → Int → Int), q_R = kr_R → ∀ {c : Int → Int} {l l' k p q : Int} (hl : 0 ≤ l ∧ l ≤ 4) (hl' : l' = l + 1) (h : q_R c l' k p = q) (hq : q < 0), q_R c l k p = q := by
    intro q_R h_q_R
    subst h_q_R
    exact @kr_cf
  exact key _ ko_R_eqn hl hl' h hq
theorem ko_c0 {c : Int → Int} {l l' k p q f : Int} (hl : 0 ≤ l ∧ l ≤ 4) (hl' : l' = l + 1) (h : ko_R c l' k p = q) (hq : 0 ≤ q) (hf : f = 120) : ko_L c l k f q = ko_R c l k p := by
  have key : ∀ (q_R : (Int → Int) → Int → Int → Int → Int) (q_L : (Int → Int) → Int → Int → Int → Int → Int), q_R = kr_R → q_L = kr_L → ∀ {c : Int → Int} {l l' k p q f : Int} (hl : 0 ≤ l ∧ l ≤ 4) (hl' : l' = l + 1) (h : q_R c l' k p = q) (hq : 0 ≤ q) (hf : f = 120), q_L c l k f q = q_R c l k p := by
    intro q_R q_L h_q_R h_q_L
    subst h_q_R h_q_L
    exact @kr_c0
  exact key _ _ ko_R_eqn ko_L_eqn hl hl' h hq hf
theorem ko_at_in {b : Nat → Int32} {n : Int} {x : Int32} (h0 : 0 ≤ x.toInt) (h1 : x.toInt < n) : ko_at b n x.toInt = (b x.toNatClampNeg).toInt := by
  have key : ∀ (q_at : (Nat → Int32) → Int → Int → Int), q_at = kr_at → ∀ {b : Nat → Int32} {n : Int} {x : Int32} (h0 : 0 ≤ x.toInt) (h1 : x.toInt < n), q_at b n x.toInt = (b x.toNatClampNeg).toInt := by
    intro q_at h_q_at
    subst h_q_at
    exact @kr_at_in
  exact key _ ko_at_eqn h0 h1
theorem ko_T_n {c : Int → Int} {n f p e : Int} (hf : 0 < f) (h : ko_line c p = e) (h0 : 0 ≤ e) (h1 : e < n) (h2 : c e ≠ 59) : ko_T c n f p = e := by
  have key : ∀ (q_line : (Int → Int) → Int → Int) (q_T : (Int → Int) → Int → Int → Int → Int), q_line = kr_line → q_T = kr_T → ∀ {c : Int → Int} {n f p e : Int} (hf : 0 < f) (h : q_line c p = e) (h0 : 0 ≤ e) (h1 : e < n) (h2 : c e ≠ 59), q_T c n f p = e := by
    intro q_line q_T h_q_line h_q_T
    subst h_q_line h_q_T
    exact @kr_T_n
  exact key _ _ ko_line_eqn ko_T_eqn hf h h0 h1 h2
theorem ko_T_f {c : Int → Int} {n f p e : Int} (hf : 0 < f) (h : ko_line c p = e) (h0 : e < 0) : ko_T c n f p = -1 - e := by
  have key : ∀ (q_line : (Int → Int) → Int → Int) (q_T : (Int → Int) → Int → Int → Int → Int), q_line = kr_line → q_T = kr_T → ∀ {c : Int → Int} {n f p e : Int} (hf : 0 < f) (h : q_line c p = e) (h0 : e < 0), q_T c n f p = -1 - e := by
    intro q_line q_T h_q_line h_q_T
    subst h_q_line h_q_T
    exact @kr_T_f
  exact key _ _ ko_line_eqn ko_T_eqn hf h h0
theorem ko_T_e {c : Int → Int} {n f p e : Int} (hf : 0 < f) (h : ko_line c p = e) (h0 : 0 ≤ e) (h1 : n ≤ e) : ko_T c n f p = -1 := by
  have key : ∀ (q_line : (Int → Int) → Int → Int) (q_T : (Int → Int) → Int → Int → Int → Int), q_line = kr_line → q_T = kr_T → ∀ {c : Int → Int} {n f p e : Int} (hf : 0 < f) (h : q_line c p = e) (h0 : 0 ≤ e) (h1 : n ≤ e), q_T c n f p = -1 := by
    intro q_line q_T h_q_line h_q_T
    subst h_q_line h_q_T
    exact @kr_T_e
  exact key _ _ ko_line_eqn ko_T_eqn hf h h0 h1
theorem ko_T_s {c : Int → Int} {n f p e f' p' : Int} (hf : 0 < f) (h : ko_line c p = e) (h0 : 0 ≤ e) (h1 : e < n) (h2 : c e = 59) (hf' : f' = f - 1) (hp' : p' = e + 1) : ko_T c n f p = ko_T c n f' p' := by
  have key : ∀ (q_line : (Int → Int) → Int → Int) (q_T : (Int → Int) → Int → Int → Int → Int), q_line = kr_line → q_T = kr_T → ∀ {c : Int → Int} {n f p e f' p' : Int} (hf : 0 < f) (h : q_line c p = e) (h0 : 0 ≤ e) (h1 : e < n) (h2 : c e = 59) (hf' : f' = f - 1) (hp' : p' = e + 1), q_T c n f p = q_T c n f' p' := by
    intro q_line q_T h_q_line h_q_T
    subst h_q_line h_q_T
    exact @kr_T_s
  exact key _ _ ko_line_eqn ko_T_eqn hf h h0 h1 h2 hf' hp'
theorem ko_T_S {c : Int → Int} {n p e p' : Int} (hc : ∀ p, n ≤ p → c p = 0) (hn : 0 ≤ n) (hp : 0 ≤ p) (h : ko_line c p = e) (h0 : 0 ≤ e) (h2 : c e = 59) (hp' : p' = e + 1) : ko_T c n (n + 1) p = ko_T c n (n + 1) p' := by
  have key : ∀ (q_line : (Int → Int) → Int → Int) (q_T : (Int → Int) → Int → Int → Int → Int), q_line = kr_line → q_T = kr_T → ∀ {c : Int → Int} {n p e p' : Int} (hc : ∀ p, n ≤ p → c p = 0) (hn : 0 ≤ n) (hp : 0 ≤ p) (h : q_line c p = e) (h0 : 0 ≤ e) (h2 : c e = 59) (hp' : p' = e + 1), q_T c n (n + 1) p = q_T c n (n + 1) p' := by
    intro q_line q_T h_q_line h_q_T
    subst h_q_line h_q_T
    exact @kr_T_S
  exact key _ _ ko_line_eqn ko_T_eqn hc hn hp h h0 h2 hp'
theorem ko_T_0 {c : Int → Int} {n f p : Int} (hf : f ≤ 0) : ko_T c n f p = p := by
  have key : ∀ (q_T : (Int → Int) → Int → Int → Int → Int), q_T = kr_T → ∀ {c : Int → Int} {n f p : Int} (hf : f ≤ 0), q_T c n f p = p := by
    intro q_T h_q_T
    subst h_q_T
    exact @kr_T_0
  exact key _ ko_T_eqn hf
theorem ko_L_no {c : Int → Int} {l k f q : Int} (h : f ≤ 0 ∨ ¬ ((l = 0 ∧ c q = 124) ∨ (l = 1 ∧ c q = 38) ∨ (l = 2 ∧ 60 ≤ c q ∧ c q ≤ 62) ∨ (l = 3 ∧ (c q = 43 ∨ c q = 45)) ∨ (l = 4 ∧ (c q = 42 ∨ c q = 47 ∨ c q = 37)))) : ko_L c l k f q = q := by
  have key : ∀ (q_L : (Int → Int) → Int → Int → Int → Int → Int), q_L = kr_L → ∀ {c : Int → Int} {l k f q : Int} (h : f ≤ 0 ∨ ¬ ((l = 0 ∧ c q = 124) ∨ (l = 1 ∧ c q = 38) ∨ (l = 2 ∧ 60 ≤ c q ∧ c q ≤ 62) ∨ (l = 3 ∧ (c q = 43 ∨ c q = 45)) ∨ (l = 4 ∧ (c q = 42 ∨ c q = 47 ∨ c q = 37)))), q_L c l k f q = q := by
    intro q_L h_q_L
    subst h_q_L
    exact @kr_L_no
  exact key _ ko_L_eqn h
theorem ko_L_f {c : Int → Int} {l l' k f q q1 e : Int} (hf : 0 < f) (h : (l = 0 ∧ c q = 124) ∨ (l = 1 ∧ c q = 38) ∨ (l = 2 ∧ 60 ≤ c q ∧ c q ≤ 62) ∨ (l = 3 ∧ (c q = 43 ∨ c q = 45)) ∨ (l = 4 ∧ (c q = 42 ∨ c q = 47 ∨ c q = 37))) (hl' : l' = l + 1) (hq1 : q1 = q + 1) (he : ko_R c l' k q1 = e) (h0 : e < 0) : ko_L c l k f q = e := by
  have key : ∀ (q_R : (Int → Int) → Int → Int → Int → Int) (q_L : (Int → Int) → Int → Int → Int → Int → Int), q_R = kr_R → q_L = kr_L → ∀ {c : Int → Int} {l l' k f q q1 e : Int} (hf : 0 < f) (h : (l = 0 ∧ c q = 124) ∨ (l = 1 ∧ c q = 38) ∨ (l = 2 ∧ 60 ≤ c q ∧ c q ≤ 62) ∨ (l = 3 ∧ (c q = 43 ∨ c q = 45)) ∨ (l = 4 ∧ (c q = 42 ∨ c q = 47 ∨ c q = 37))) (hl' : l' = l + 1) (hq1 : q1 = q + 1) (he : q_R c l' k q1 = e) (h0 : e < 0), q_L c l k f q = e := by
    intro q_R q_L h_q_R h_q_L
    subst h_q_R h_q_L
    exact @kr_L_f
  exact key _ _ ko_R_eqn ko_L_eqn hf h hl' hq1 he h0
theorem ko_L_2 {c : Int → Int} {l l' k f q q1 e : Int} (hf : 0 < f) (h : 60 ≤ c q ∧ c q ≤ 62) (hl2 : l = 2) (hl' : l' = l + 1) (hq1 : q1 = q + 1) (he : ko_R c l' k q1 = e) : ko_L c l k f q = e := by
  have key : ∀ (q_R : (Int → Int) → Int → Int → Int → Int) (q_L : (Int → Int) → Int → Int → Int → Int → Int), q_R = kr_R → q_L = kr_L → ∀ {c : Int → Int} {l l' k f q q1 e : Int} (hf : 0 < f) (h : 60 ≤ c q ∧ c q ≤ 62) (hl2 : l = 2) (hl' : l' = l + 1) (hq1 : q1 = q + 1) (he : q_R c l' k q1 = e), q_L c l k f q = e := by
    intro q_R q_L h_q_R h_q_L
    subst h_q_R h_q_L
    exact @kr_L_2
  exact key _ _ ko_R_eqn ko_L_eqn hf h hl2 hl' hq1 he
theorem ko_L_s {c : Int → Int} {l l' k f f' q q1 e : Int} (hf : 0 < f) (h : (l = 0 ∧ c q = 124) ∨ (l = 1 ∧ c q = 38) ∨ (l = 2 ∧ 60 ≤ c q ∧ c q ≤ 62) ∨ (l = 3 ∧ (c q = 43 ∨ c q = 45)) ∨ (l = 4 ∧ (c q = 42 ∨ c q = 47 ∨ c q = 37))) (hl2 : l ≠ 2) (hl' : l' = l + 1) (hq1 : q1 = q + 1) (he : ko_R c l' k q1 = e) (h0 : 0 ≤ e) (hf' : f' = f - 1) : ko_L c l k f q = ko_L c l k f' e := by
  have key : ∀ (q_R : (Int → Int) → Int → Int → Int → Int) (q_L : (Int → Int) → Int → Int → Int → Int → Int), q_R = kr_R → q_L = kr_L → ∀ {c : Int → Int} {l l' k f f' q q1 e : Int} (hf : 0 < f) (h : (l = 0 ∧ c q = 124) ∨ (l = 1 ∧ c q = 38) ∨ (l = 2 ∧ 60 ≤ c q ∧ c q ≤ 62) ∨ (l = 3 ∧ (c q = 43 ∨ c q = 45)) ∨ (l = 4 ∧ (c q = 42 ∨ c q = 47 ∨ c q = 37))) (hl2 : l ≠ 2) (hl' : l' = l + 1) (hq1 : q1 = q + 1) (he : q_R c l' k q1 = e) (h0 : 0 ≤ e) (hf' : f' = f - 1), q_L c l k f q = q_L c l k f' e := by
    intro q_R q_L h_q_R h_q_L
    subst h_q_R h_q_L
    exact @kr_L_s
  exact key _ _ ko_R_eqn ko_L_eqn hf h hl2 hl' hq1 he h0 hf'
theorem ko_L_S {c : Int → Int} {n l l' k q q1 e : Int} (hc : ∀ p, n ≤ p → c p = 0) (hn : n ≤ 120) (hq : 0 ≤ q) (h : (l = 0 ∧ c q = 124) ∨ (l = 1 ∧ c q = 38) ∨ (l = 2 ∧ 60 ≤ c q ∧ c q ≤ 62) ∨ (l = 3 ∧ (c q = 43 ∨ c q = 45)) ∨ (l = 4 ∧ (c q = 42 ∨ c q = 47 ∨ c q = 37))) (hl2 : l ≠ 2) (hl' : l' = l + 1) (hq1 : q1 = q + 1) (he : ko_R c l' k q1 = e) (h0 : 0 ≤ e) : ko_L c l k 120 q = ko_L c l k 120 e := by
  have key : ∀ (q_R : (Int → Int) → Int → Int → Int → Int) (q_L : (Int → Int) → Int → Int → Int → Int → Int), q_R = kr_R → q_L = kr_L → ∀ {c : Int → Int} {n l l' k q q1 e : Int} (hc : ∀ p, n ≤ p → c p = 0) (hn : n ≤ 120) (hq : 0 ≤ q) (h : (l = 0 ∧ c q = 124) ∨ (l = 1 ∧ c q = 38) ∨ (l = 2 ∧ 60 ≤ c q ∧ c q ≤ 62) ∨ (l = 3 ∧ (c q = 43 ∨ c q = 45)) ∨ (l = 4 ∧ (c q = 42 ∨ c q = 47 ∨ c q = 37))) (hl2 : l ≠ 2) (hl' : l' = l + 1) (hq1 : q1 = q + 1) (he : q_R c l' k q1 = e) (h0 : 0 ≤ e), q_L c l k 120 q = q_L c l k 120 e := by
    intro q_R q_L h_q_R h_q_L
    subst h_q_R h_q_L
    exact @kr_L_S
  exact key _ _ ko_R_eqn ko_L_eqn hc hn hq h hl2 hl' hq1 he h0
theorem ko_F_s {c : Int → Int} {f q f' q' : Int} (hf : 0 < f) (hd : 48 ≤ c q ∧ c q ≤ 57) (hf' : f' = f - 1) (hq' : q' = q + 1) : ko_F c f q = ko_F c f' q' := by
  have key : ∀ (q_F : (Int → Int) → Int → Int → Int), q_F = kr_F → ∀ {c : Int → Int} {f q f' q' : Int} (hf : 0 < f) (hd : 48 ≤ c q ∧ c q ≤ 57) (hf' : f' = f - 1) (hq' : q' = q + 1), q_F c f q = q_F c f' q' := by
    intro q_F h_q_F
    subst h_q_F
    exact @kr_F_s
  exact key _ ko_F_eqn hf hd hf' hq'
theorem ko_F_no {c : Int → Int} {f q : Int} (h : f ≤ 0 ∨ c q < 48 ∨ 57 < c q) : ko_F c f q = q := by
  have key : ∀ (q_F : (Int → Int) → Int → Int → Int), q_F = kr_F → ∀ {c : Int → Int} {f q : Int} (h : f ≤ 0 ∨ c q < 48 ∨ 57 < c q), q_F c f q = q := by
    intro q_F h_q_F
    subst h_q_F
    exact @kr_F_no
  exact key _ ko_F_eqn h
