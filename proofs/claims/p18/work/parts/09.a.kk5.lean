-- what the acts answer: the own kind K, the kind k, the number n, x
def kk_runs (k n x : Int32) : Int32 := if k.toInt = 1 then (x + n) + 3 else if k.toInt = 5 then (x + n) + 3 else if k.toInt = 6 then (x + 1) + n else if k.toInt = 7 then ((x + n) + 3) * 2 else x + n
def kk_leads (K k n x : Int32) : Int32 := if k.toInt = 3 then (x ^^^ n) * 3 else if k.toInt = 4 then (x ^^^ n) * 3 - kk_runs K n 2 else if k.toInt = 7 then (x ^^^ n) - 1 else x ^^^ n
def kk_breaks (K k n x : Int32) : Int32 := if k.toInt = 2 then -(kk_runs K n x * 2) else if k.toInt = 5 then kk_runs K n x * 2 + kk_leads K K n 2 else kk_runs K n x * 2
def kk_tells (K k n x : Int32) : Int32 := if k.toInt = 4 then (kk_breaks K K n x - kk_leads K K n 1) ^^^ 5 else kk_breaks K K n x - kk_leads K K n 1
def kk_act (a K n x : Int32) : Int32 := if a.toInt = 0 then kk_runs K n x else if a.toInt = 1 then kk_breaks K K n x else if a.toInt = 2 then kk_leads K K n x else kk_tells K K n x
-- which bodies ran, as they began; the first 24 are kept
def kk_push (f : Nat → Int32) (r : Int) : List Int32 → Nat → Int32
  | [] => f
  | a :: t => kk_push (if r < 24 then upd f r.toNat a else f) (r + 1) t
def kk_P (f g : Nat → Int32) (r s : Int) (L : List Int32) : Prop := g = kk_push f r L ∧ s = r + (L.length : Int)
theorem kk_push_app (f : Nat → Int32) (r : Int) (L M : List Int32) : kk_push f r (L ++ M) = kk_push (kk_push f r L) (r + (L.length : Int)) M := by
  induction L generalizing f r with
  | nil => simp [kk_push]
  | cons a t ih =>
    rw [List.cons_append, kk_push, kk_push, ih]
    congr 1
    rw [List.length_cons]
    omega
theorem kk_P_nil {f : Nat → Int32} {r : Int} : kk_P f f r r [] := ⟨rfl, by simp⟩
theorem kk_P_trans {f g h : Nat → Int32} {r s t : Int} {L M : List Int32} (a : kk_P f g r s L) (b : kk_P g h s t M) : kk_P f h r t (L ++ M) := by
  obtain ⟨a1, a2⟩ := a
  obtain ⟨b1, b2⟩ := b
  refine ⟨?_, ?_⟩
  · rw [kk_push_app, ← a1, ← a2]
    exact b1
  · rw [List.length_append]
    omega
theorem kk_P_eq {f g : Nat → Int32} {r s : Int} {L M : List Int32} (h : kk_P f g r s L) (e : L = M) : kk_P f g r s M := e ▸ h
theorem kk_P_one {f : Nat → Int32} {r a : Int32} (h0 : 0 ≤ r.toInt) (h1 : r.toInt < 24) : kk_P f (upd f r.toNatClampNeg a) r.toInt (r + 1 : Int32).toInt [a] := by
  have e := kk_add2 (x := r) (y := 1) (a := r.toInt) (b := 1) rfl rfl (by omega) (by omega)
  refine ⟨?_, ?_⟩
  · rw [kk_push, kk_push, if_pos h1]
    rfl
  · rw [e]
    rfl
theorem kk_P_out {f : Nat → Int32} {r a : Int32} (h0 : 24 ≤ r.toInt) (h1 : r.toInt ≤ 1000000) : kk_P f f r.toInt (r + 1 : Int32).toInt [a] := by
  have e := kk_add2 (x := r) (y := 1) (a := r.toInt) (b := 1) rfl rfl (by omega) (by omega)
  refine ⟨?_, ?_⟩
  · rw [kk_push, kk_push, if_neg (by omega)]
  · rw [e]
    rfl
def kt_runs (k : Int32) : List Int32 := if k.toInt = 1 then [20, 1] else if k.toInt = 5 then [20, 1] else if k.toInt = 6 then [70, 1] else if k.toInt = 7 then [80, 20, 1] else [1]
def kt_leads (K k : Int32) : List Int32 := if k.toInt = 3 then [40, 11] else if k.toInt = 4 then [50, 40, 11] ++ kt_runs K else if k.toInt = 7 then [81, 11] else [11]
def kt_breaks (K k : Int32) : List Int32 := if k.toInt = 2 then [30, 10] ++ kt_runs K else if k.toInt = 5 then [60, 10] ++ kt_runs K ++ kt_leads K K else [10] ++ kt_runs K
def kt_tells (K k : Int32) : List Int32 := if k.toInt = 4 then [51, 2] ++ kt_breaks K K ++ kt_leads K K else [2] ++ kt_breaks K K ++ kt_leads K K
def kt_act (a K : Int32) : List Int32 := if a.toInt = 0 then kt_runs K else if a.toInt = 1 then kt_breaks K K else if a.toInt = 2 then kt_leads K K else kt_tells K K
theorem kk_Eq {x y : Int64} (h : lg_cmp x y = 0) : x.toInt = y.toInt := Int.le_antisymm (kk_nGt (by rw [h]; decide)) (kk_nLt (by rw [h]; decide))
theorem kk_Ne {x y : Int64} (h : ¬ lg_cmp x y = 0) : x.toInt ≠ y.toInt := fun e => h (by
  have a : ¬ lg_cmp x y < 0 := fun q => by have := kk_Lt q; omega
  have b : ¬ 0 < lg_cmp x y := fun q => by have := kk_Gt q; omega
  rw [Int32.lt_iff_toInt_lt] at a b
  have h0 : (0 : Int32).toInt = 0 := rfl
  exact Int32.toInt_inj.mp (by omega))
-- elements: what is cut to a sort, what is 0, what was carried
def kk_nrw (h : Int32) (v : Int64) : Int64 := if h.toInt = 0 then v.toInt32.toInt8.toInt32.toInt64 else if h.toInt = 1 then v.toInt32.toInt16.toInt32.toInt64 else if h.toInt = 2 then v.toInt32.toInt64 else if h.toInt = 4 then (if v.toInt = 0 then 0 else 1) else v
theorem kk_nrw_c {h k : Int32} {v : Int64} (e : h.toInt = k.toInt) : kk_nrw h v = kk_nrw k v := by rw [Int32.toInt_inj.mp e]
def kk_zl (i : Int) (f : Nat → Int64) : Prop := ∀ j : Nat, (j : Int) < i → f j = 0
theorem kk_zl_w {i i' : Int} {f : Nat → Int64} (h : kk_zl i f) (e : i' ≤ i) : kk_zl i' f := fun j hj => h j (by omega)
theorem kk_zl_0 {f : Nat → Int64} {i : Int} (e : i ≤ 0) : kk_zl i f := fun j hj => by omega
theorem kk_zl_set {i : Int32} {f : Nat → Int64} (h : kk_zl i.toInt f) (h0 : 0 ≤ i.toInt) : kk_zl (i.toInt + 1) (vp_updL f i.toNatClampNeg 0) := by
  intro j hj
  have ei : (i.toNatClampNeg : Int) = i.toInt := kk_tn h0
  unfold vp_updL
  by_cases c : j = i.toNatClampNeg
  · rw [if_pos c]
  · rw [if_neg c]
    exact h j (by omega)
def kk_zr (lo i : Int) (f g : Nat → Int64) : Prop := ∀ j : Nat, g j = if lo ≤ (j : Int) ∧ (j : Int) < i then 0 else f j
theorem kk_zr_w {lo lo' i i' : Int} {f g : Nat → Int64} (h : kk_zr lo i f g) (e : lo = lo' ∧ i = i') : kk_zr lo' i' f g := by
  obtain ⟨rfl, rfl⟩ := e
  exact h
theorem kk_zr_0 {lo i : Int} {f : Nat → Int64} (e : i ≤ lo) : kk_zr lo i f f := fun j => by rw [if_neg (by omega)]
theorem kk_zr_set {lo : Int} {i : Int32} {f g : Nat → Int64} (h : kk_zr lo i.toInt f g) (h0 : 0 ≤ i.toInt) (h1 : lo ≤ i.toInt) : kk_zr lo (i.toInt + 1) f (vp_updL g i.toNatClampNeg 0) := by
  intro j
  have ei : (i.toNatClampNeg : Int) = i.toInt := kk_tn h0
  have q := h j
  unfold vp_updL
  by_cases c : j = i.toNatClampNeg
  · rw [if_pos c, if_pos (by omega)]
  · rw [if_neg c, q]
    by_cases d : lo ≤ (j : Int) ∧ (j : Int) < i.toInt
    · rw [if_pos d, if_pos (by omega)]
    · rw [if_neg d, if_neg (by omega)]
def kk_cr (n src : Int) (f g : Nat → Int64) : Prop := ∀ q : Nat, (q : Int) < n → g q = f (src + (q : Int)).toNat
theorem kk_cr_w {n n' src src' : Int} {f g : Nat → Int64} (h : kk_cr n src f g) (e : n' ≤ n ∧ src = src') : kk_cr n' src' f g := by
  obtain ⟨e1, rfl⟩ := e
  exact fun q hq => h q (by omega)
theorem kk_cr_0 {n src : Int} {f g : Nat → Int64} (e : n ≤ 0) : kk_cr n src f g := fun q hq => by omega
theorem kk_cr_set {src : Int} {k x : Int32} {f g : Nat → Int64} (h : kk_cr k.toInt src f g) (h0 : 0 ≤ k.toInt) (hs : 0 ≤ src) (e : x.toInt = src + k.toInt) : kk_cr (k.toInt + 1) src f (vp_updL g k.toNatClampNeg (f x.toNatClampNeg)) := by
  intro q hq
  have ek : (k.toNatClampNeg : Int) = k.toInt := kk_tn h0
  have ex : (x.toNatClampNeg : Int) = x.toInt := kk_tn (by omega)
  unfold vp_updL
  by_cases c : q = k.toNatClampNeg
  · rw [if_pos c]
    congr 1
    omega
  · rw [if_neg c]
    exact h q (by omega)
def kk_mv (n dst src : Int) (f g : Nat → Int64) : Prop := ∀ q : Nat, g q = if dst ≤ (q : Int) ∧ (q : Int) < dst + n then f ((q : Int) - dst + src).toNat else f q
theorem kk_mv_w {n n' dst dst' src src' : Int} {f g : Nat → Int64} (h : kk_mv n dst src f g) (e : n = n' ∧ dst = dst' ∧ src = src') : kk_mv n' dst' src' f g := by
  obtain ⟨rfl, rfl, rfl⟩ := e
  exact h
theorem kk_mv_0 {n dst src : Int} {f : Nat → Int64} (e : n ≤ 0) : kk_mv n dst src f f := fun q => by rw [if_neg (by omega)]
theorem kk_mv_set {n dst src : Int} {k x : Int32} {f g c : Nat → Int64} (h : kk_mv k.toInt dst src f g) (hc : kk_cr n src f c) (h0 : 0 ≤ k.toInt) (hn : k.toInt < n) (hd : 0 ≤ dst) (e : x.toInt = dst + k.toInt) : kk_mv (k.toInt + 1) dst src f (vp_updL g x.toNatClampNeg (c k.toNatClampNeg)) := by
  intro q
  have ek : (k.toNatClampNeg : Int) = k.toInt := kk_tn h0
  have ex : (x.toNatClampNeg : Int) = x.toInt := kk_tn (by omega)
  have hq := h q
  unfold vp_updL
  by_cases d : q = x.toNatClampNeg
  · rw [if_pos d, if_pos (by omega), hc k.toNatClampNeg (by omega)]
    congr 1
    omega
  · rw [if_neg d, hq]
    by_cases z : dst ≤ (q : Int) ∧ (q : Int) < dst + k.toInt
    · rw [if_pos z, if_pos (by omega)]
    · rw [if_neg z, if_neg (by omega)]
-- what ties the elements of both
def kk_el (C : Nat → Nat → Int64) (it : Nat → Int64) : Prop := ∀ j i : Nat, j < 6 → i < 60 → C j i = it (60 * j + i)
theorem kk_el_same {C : Nat → Nat → Int64} {it : Nat → Int64} {k : Nat} (h : kk_el C it) : kk_el (va_up C k (C k)) it := by
  intro j i hj hi
  by_cases c : j = k
  · subst c
    rw [va_up_self]
    exact h j i hj hi
  · rw [va_up_ne _ _ c]
    exact h j i hj hi
theorem kk_el_put {C : Nat → Nat → Int64} {it : Nat → Int64} {k : Nat} {i x : Int32} {u v : Int64} (h : kk_el C it) (h0 : 0 ≤ i.toInt) (h1 : i.toInt < 60) (e : x.toInt = 60 * (k : Int) + i.toInt) (euv : u = v) : kk_el (va_up C k (vp_updL (C k) i.toNatClampNeg u)) (vp_updL it x.toNatClampNeg v) := by
  subst euv
  intro j q hj hq
  have ei : (i.toNatClampNeg : Int) = i.toInt := kk_tn h0
  have ex : (x.toNatClampNeg : Int) = x.toInt := kk_tn (by omega)
  by_cases c : j = k
  · subst c
    rw [va_up_self]
    unfold vp_updL
    by_cases d : q = i.toNatClampNeg
    · rw [if_pos d, if_pos (by omega)]
    · rw [if_neg d, if_neg (by omega)]
      exact h j q hj hq
  · rw [va_up_ne _ _ c]
    unfold vp_updL
    rw [if_neg (by omega)]
    exact h j q hj hq
theorem kk_el_row {C : Nat → Nat → Int64} {it it' g : Nat → Int64} {k : Nat} {lo hi : Int} (h : kk_el C it) (z1 : kk_zl 60 g) (z2 : kk_zr lo hi it it') (e1 : lo = 60 * (k : Int)) (e2 : hi = lo + 60) : kk_el (va_up C k g) it' := by
  intro j q hj hq
  rw [z2 (60 * j + q)]
  by_cases c : j = k
  · subst c
    rw [va_up_self, z1 q (by omega), if_pos (by omega)]
  · rw [va_up_ne _ _ c, if_neg (by omega)]
    exact h j q hj hq
theorem kk_el_mv {C : Nat → Nat → Int64} {it it' : Nat → Int64} {k j : Nat} {i d n : Int32} {dst src : Int} (h : kk_el C it) (hk : k < 6) (hi : 0 ≤ i.toInt) (hd : 0 ≤ d.toInt) (hn : 0 ≤ n.toInt) (h1 : i.toInt + n.toInt ≤ 60) (h2 : d.toInt + n.toInt ≤ 60) (m : kk_mv n.toInt dst src it it') (e1 : dst = 60 * (j : Int) + d.toInt) (e2 : src = 60 * (k : Int) + i.toInt) : kk_el (va_up C j (va_cpy (C k) (C j) i.toNatClampNeg d.toNatClampNeg n.toNatClampNeg)) it' := by
  intro a q ha hq
  have ei : (i.toNatClampNeg : Int) = i.toInt := kk_tn hi
  have ed : (d.toNatClampNeg : Int) = d.toInt := kk_tn hd
  have en : (n.toNatClampNeg : Int) = n.toInt := kk_tn hn
  rw [m (60 * a + q)]
  by_cases c : a = j
  · subst c
    rw [va_up_self]
    unfold va_cpy
    by_cases z : d.toNatClampNeg ≤ q ∧ q < d.toNatClampNeg + n.toNatClampNeg
    · rw [if_pos z, if_pos (by omega), h k _ hk (by omega)]
      congr 1
      omega
    · rw [if_neg z, if_neg (by omega)]
      exact h a q ha hq
  · rw [va_up_ne _ _ c, if_neg (by omega)]
    exact h a q ha hq
theorem kk_el_at {C : Nat → Nat → Int64} {it : Nat → Int64} {k : Nat} {i x : Int32} (h : kk_el C it) (hk : k < 6) (h0 : 0 ≤ i.toInt) (h1 : i.toInt < 60) (e : x.toInt = 60 * (k : Int) + i.toInt) : C k i.toNatClampNeg = it x.toNatClampNeg := by
  have ei : (i.toNatClampNeg : Int) = i.toInt := kk_tn h0
  have ex : (x.toNatClampNeg : Int) = x.toInt := kk_tn (by omega)
  rw [h k _ hk (by omega)]
  congr 1
  omega
theorem kk_lcmp0 {x y : Int64} (h : x = y) : lg_cmp x y = 0 := by
  subst h
  simp [lg_cmp]
