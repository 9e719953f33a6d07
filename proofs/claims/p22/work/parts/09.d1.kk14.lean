-- towns: how many PLOTS; of those that are there their WIDTHS, DEPTHS, ASIDES (0 behind)
noncomputable abbrev kt_S := Int32 × (Nat → Int32) × (Nat → Int32) × (Nat → Int32)
noncomputable def kt_tr (n : Int32) (f : Nat → Int32) : Nat → Int32 := fun j => if (j : Int) < n.toInt then f j else 0
noncomputable def kt_st (n : Int32) (W D A : Nat → Int32) : kt_S := (n, kt_tr n W, kt_tr n D, kt_tr n A)
theorem kt_tr_e {n : Int32} {f g : Nat → Int32} (h : ∀ j : Nat, (j : Int) < n.toInt → f j = g j) : kt_tr n f = kt_tr n g := by
  funext j
  unfold kt_tr
  by_cases hj : (j : Int) < n.toInt
  · rw [if_pos hj, if_pos hj, h j hj]
  · rw [if_neg hj, if_neg hj]
theorem kt_tr_i {n : Int32} {f g : Nat → Int32} (h : kt_tr n f = kt_tr n g) : ∀ j : Nat, (j : Int) < n.toInt → f j = g j := by
  intro j hj
  have h1 := congrFun h j
  unfold kt_tr at h1
  rw [if_pos hj, if_pos hj] at h1
  exact h1
theorem kt_tr_v {n : Int32} {f : Nat → Int32} {j : Nat} (h : (j : Int) < n.toInt) : kt_tr n f j = f j := if_pos h
theorem kt_tr_0 {n : Int32} {f : Nat → Int32} {j : Nat} (h : n.toInt ≤ (j : Int)) : kt_tr n f j = 0 := if_neg (by omega)
theorem kt_st_e {n m : Int32} {W D A W' D' A' : Nat → Int32} (hn : n = m) (h1 : ∀ j : Nat, (j : Int) < n.toInt → W j = W' j) (h2 : ∀ j : Nat, (j : Int) < n.toInt → D j = D' j) (h3 : ∀ j : Nat, (j : Int) < n.toInt → A j = A' j) : kt_st n W D A = kt_st m W' D' A' := by
  subst hn
  unfold kt_st
  rw [kt_tr_e h1, kt_tr_e h2, kt_tr_e h3]
theorem kt_st_i {n m : Int32} {W D A W' D' A' : Nat → Int32} (h : kt_st n W D A = kt_st m W' D' A') : n = m ∧ ∀ j : Nat, (j : Int) < n.toInt → W j = W' j ∧ D j = D' j ∧ A j = A' j := by
  unfold kt_st at h
  have hn : n = m := congrArg Prod.fst h
  subst hn
  have h1 : kt_tr n W = kt_tr n W' := congrArg (fun x => x.2.1) h
  have h2 : kt_tr n D = kt_tr n D' := congrArg (fun x => x.2.2.1) h
  have h3 : kt_tr n A = kt_tr n A' := congrArg (fun x => x.2.2.2) h
  exact ⟨rfl, fun j hj => ⟨kt_tr_i h1 j hj, kt_tr_i h2 j hj, kt_tr_i h3 j hj⟩⟩
-- joined, parted, aside
noncomputable def kt_join (i : Int32) (S : kt_S) : kt_S :=
  if i.toInt + 1 < S.1.toInt ∧ (S.2.1 i.toNatClampNeg + S.2.1 (i.toNatClampNeg + 1)).toInt ≤ 999 then
    kt_st (S.1 - 1) (fun j => if (j : Int) < i.toInt then S.2.1 j else if (j : Int) = i.toInt then S.2.1 i.toNatClampNeg + S.2.1 (i.toNatClampNeg + 1) else S.2.1 (j + 1)) (fun j => if (j : Int) ≤ i.toInt then S.2.2.1 j else S.2.2.1 (j + 1)) (fun j => if (j : Int) ≤ i.toInt then S.2.2.2 j else S.2.2.2 (j + 1))
  else S
noncomputable def kt_part (i : Int32) (S : kt_S) : kt_S :=
  if 1 < (S.2.1 i.toNatClampNeg).toInt ∧ S.1.toInt < 40 then
    kt_st (S.1 + 1) (fun j => if (j : Int) < i.toInt then S.2.1 j else if (j : Int) = i.toInt then S.2.1 i.toNatClampNeg / 2 else if (j : Int) = i.toInt + 1 then S.2.1 i.toNatClampNeg - S.2.1 i.toNatClampNeg / 2 else S.2.1 (j - 1)) (fun j => if (j : Int) ≤ i.toInt then S.2.2.1 j else S.2.2.1 (j - 1)) (fun j => if (j : Int) ≤ i.toInt then S.2.2.2 j else if (j : Int) = i.toInt + 1 then 0 else S.2.2.2 (j - 1))
  else S
noncomputable def kt_asd (i : Int32) (S : kt_S) : kt_S :=
  if 0 < i.toInt then kt_st S.1 S.2.1 S.2.2.1 (fun j => if (j : Int) = i.toInt then (if (S.2.2.2 j + 5).toInt ≤ 99 then S.2.2.2 j + 5 else 99) else S.2.2.2 j) else S
theorem kt_tt {n : Int32} {f : Nat → Int32} : kt_tr n (kt_tr n f) = kt_tr n f := kt_tr_e (fun j hj => kt_tr_v hj)
theorem kt_join_y {n i m : Int32} {W D A W' D' A' : Nat → Int32} (hi : 0 ≤ i.toInt) (h1 : i.toInt + 1 < n.toInt) (hw : (W i.toNatClampNeg + W (i.toNatClampNeg + 1)).toInt ≤ 999) (hm : m = n - 1) (hmi : m.toInt = n.toInt - 1)
    (eW : ∀ j : Nat, (j : Int) < n.toInt - 1 → W' j = (if (j : Int) < i.toInt then W j else if (j : Int) = i.toInt then W i.toNatClampNeg + W (i.toNatClampNeg + 1) else W (j + 1)))
    (eD : ∀ j : Nat, (j : Int) < n.toInt - 1 → D' j = (if (j : Int) ≤ i.toInt then D j else D (j + 1)))
    (eA : ∀ j : Nat, (j : Int) < n.toInt - 1 → A' j = (if (j : Int) ≤ i.toInt then A j else A (j + 1))) : kt_st m W' D' A' = kt_join i (kt_st n W D A) := by
  have hk : (i.toNatClampNeg : Int) = i.toInt := kk_tn hi
  have v0 : kt_tr n W i.toNatClampNeg = W i.toNatClampNeg := kt_tr_v (by omega)
  have v1 : kt_tr n W (i.toNatClampNeg + 1) = W (i.toNatClampNeg + 1) := kt_tr_v (by omega)
  show _ = if i.toInt + 1 < n.toInt ∧ (kt_tr n W i.toNatClampNeg + kt_tr n W (i.toNatClampNeg + 1)).toInt ≤ 999 then kt_st (n - 1) (fun j => if (j : Int) < i.toInt then kt_tr n W j else if (j : Int) = i.toInt then kt_tr n W i.toNatClampNeg + kt_tr n W (i.toNatClampNeg + 1) else kt_tr n W (j + 1)) (fun j => if (j : Int) ≤ i.toInt then kt_tr n D j else kt_tr n D (j + 1)) (fun j => if (j : Int) ≤ i.toInt then kt_tr n A j else kt_tr n A (j + 1)) else _
  rw [v0, v1, if_pos ⟨h1, hw⟩]
  refine kt_st_e hm (fun j hj => ?_) (fun j hj => ?_) (fun j hj => ?_)
  · rw [eW j (by omega), kt_tr_v (j := j) (by omega), kt_tr_v (j := j + 1) (by omega)]
  · rw [eD j (by omega), kt_tr_v (j := j) (by omega), kt_tr_v (j := j + 1) (by omega)]
  · rw [eA j (by omega), kt_tr_v (j := j) (by omega), kt_tr_v (j := j + 1) (by omega)]
theorem kt_join_n {n i : Int32} {W D A : Nat → Int32} (hi : 0 ≤ i.toInt) (h : n.toInt ≤ i.toInt + 1 ∨ 999 < (W i.toNatClampNeg + W (i.toNatClampNeg + 1)).toInt) : kt_st n W D A = kt_join i (kt_st n W D A) := by
  have hk : (i.toNatClampNeg : Int) = i.toInt := kk_tn hi
  refine (if_neg ?_).symm
  rintro ⟨h1, h2⟩
  have h1 : i.toInt + 1 < n.toInt := h1
  have h2 : (kt_tr n W i.toNatClampNeg + kt_tr n W (i.toNatClampNeg + 1)).toInt ≤ 999 := h2
  rw [kt_tr_v (by omega), kt_tr_v (by omega)] at h2
  omega
theorem kt_part_y {n i m : Int32} {W D A W' D' A' : Nat → Int32} (hi : 0 ≤ i.toInt) (h1 : i.toInt < n.toInt) (hw : 1 < (W i.toNatClampNeg).toInt) (hn : n.toInt < 40) (hm : m = n + 1) (hmi : m.toInt = n.toInt + 1)
    (eW : ∀ j : Nat, (j : Int) < n.toInt + 1 → W' j = (if (j : Int) < i.toInt then W j else if (j : Int) = i.toInt then W i.toNatClampNeg / 2 else if (j : Int) = i.toInt + 1 then W i.toNatClampNeg - W i.toNatClampNeg / 2 else W (j - 1)))
    (eD : ∀ j : Nat, (j : Int) < n.toInt + 1 → D' j = (if (j : Int) ≤ i.toInt then D j else D (j - 1)))
    (eA : ∀ j : Nat, (j : Int) < n.toInt + 1 → A' j = (if (j : Int) ≤ i.toInt then A j else if (j : Int) = i.toInt + 1 then 0 else A (j - 1))) : kt_st m W' D' A' = kt_part i (kt_st n W D A) := by
  have hk : (i.toNatClampNeg : Int) = i.toInt := kk_tn hi
  have v0 : kt_tr n W i.toNatClampNeg = W i.toNatClampNeg := kt_tr_v (by omega)
  show _ = if 1 < (kt_tr n W i.toNatClampNeg).toInt ∧ n.toInt < 40 then kt_st (n + 1) (fun j => if (j : Int) < i.toInt then kt_tr n W j else if (j : Int) = i.toInt then kt_tr n W i.toNatClampNeg / 2 else if (j : Int) = i.toInt + 1 then kt_tr n W i.toNatClampNeg - kt_tr n W i.toNatClampNeg / 2 else kt_tr n W (j - 1)) (fun j => if (j : Int) ≤ i.toInt then kt_tr n D j else kt_tr n D (j - 1)) (fun j => if (j : Int) ≤ i.toInt then kt_tr n A j else if (j : Int) = i.toInt + 1 then 0 else kt_tr n A (j - 1)) else _
  rw [v0, if_pos ⟨hw, hn⟩]
  refine kt_st_e hm (fun j hj => ?_) (fun j hj => ?_) (fun j hj => ?_)
  · rw [eW j (by omega)]
    show _ = if (j : Int) < i.toInt then kt_tr n W j else if (j : Int) = i.toInt then W i.toNatClampNeg / 2 else if (j : Int) = i.toInt + 1 then W i.toNatClampNeg - W i.toNatClampNeg / 2 else kt_tr n W (j - 1)
    by_cases c1 : (j : Int) < i.toInt
    · rw [if_pos c1, if_pos c1, kt_tr_v (by omega)]
    · rw [if_neg c1, if_neg c1]
      by_cases c2 : (j : Int) = i.toInt
      · rw [if_pos c2, if_pos c2]
      · rw [if_neg c2, if_neg c2]
        by_cases c3 : (j : Int) = i.toInt + 1
        · rw [if_pos c3, if_pos c3]
        · rw [if_neg c3, if_neg c3, kt_tr_v (by omega)]
  · rw [eD j (by omega)]
    show _ = if (j : Int) ≤ i.toInt then kt_tr n D j else kt_tr n D (j - 1)
    by_cases c1 : (j : Int) ≤ i.toInt
    · rw [if_pos c1, if_pos c1, kt_tr_v (by omega)]
    · rw [if_neg c1, if_neg c1, kt_tr_v (by omega)]
  · rw [eA j (by omega)]
    show _ = if (j : Int) ≤ i.toInt then kt_tr n A j else if (j : Int) = i.toInt + 1 then 0 else kt_tr n A (j - 1)
    by_cases c1 : (j : Int) ≤ i.toInt
    · rw [if_pos c1, if_pos c1, kt_tr_v (by omega)]
    · rw [if_neg c1, if_neg c1]
      by_cases c3 : (j : Int) = i.toInt + 1
      · rw [if_pos c3, if_pos c3]
      · rw [if_neg c3, if_neg c3, kt_tr_v (by omega)]
theorem kt_part_n {n i : Int32} {W D A : Nat → Int32} (hi : 0 ≤ i.toInt) (h1 : i.toInt < n.toInt) (h : (W i.toNatClampNeg).toInt ≤ 1 ∨ 40 ≤ n.toInt) : kt_st n W D A = kt_part i (kt_st n W D A) := by
  have hk : (i.toNatClampNeg : Int) = i.toInt := kk_tn hi
  refine (if_neg ?_).symm
  rintro ⟨h2, h3⟩
  have h3 : n.toInt < 40 := h3
  have h2 : 1 < (kt_tr n W i.toNatClampNeg).toInt := h2
  rw [kt_tr_v (by omega)] at h2
  omega
theorem kt_asd_y {n i v : Int32} {W D A W' D' A' : Nat → Int32} (hi : 0 < i.toInt) (h1 : i.toInt < n.toInt) (hv : ((A i.toNatClampNeg + 5).toInt ≤ 99 ∧ v.toInt = (A i.toNatClampNeg + 5).toInt) ∨ (99 < (A i.toNatClampNeg + 5).toInt ∧ v.toInt = 99))
    (eW : ∀ j : Nat, (j : Int) < n.toInt → W' j = W j) (eD : ∀ j : Nat, (j : Int) < n.toInt → D' j = D j)
    (eA : ∀ j : Nat, (j : Int) < n.toInt → A' j = (if (j : Int) = i.toInt then v else A j)) : kt_st n W' D' A' = kt_asd i (kt_st n W D A) := by
  have hk : (i.toNatClampNeg : Int) = i.toInt := kk_tn (by omega)
  show _ = if 0 < i.toInt then kt_st n (kt_tr n W) (kt_tr n D) (fun j => if (j : Int) = i.toInt then (if (kt_tr n A j + 5).toInt ≤ 99 then kt_tr n A j + 5 else 99) else kt_tr n A j) else _
  rw [if_pos hi]
  refine kt_st_e rfl (fun j hj => ?_) (fun j hj => ?_) (fun j hj => ?_)
  · rw [eW j hj, kt_tr_v hj]
  · rw [eD j hj, kt_tr_v hj]
  · rw [eA j hj]
    show _ = if (j : Int) = i.toInt then (if (kt_tr n A j + 5).toInt ≤ 99 then kt_tr n A j + 5 else 99) else kt_tr n A j
    rw [kt_tr_v hj]
    by_cases c : (j : Int) = i.toInt
    · rw [if_pos c, if_pos c]
      have ej : j = i.toNatClampNeg := by omega
      subst ej
      rcases hv with ⟨a, b⟩ | ⟨a, b⟩
      · rw [if_pos a]; exact Int32.toInt_inj.mp b
      · rw [if_neg (by omega)]; exact Int32.toInt_inj.mp b
    · rw [if_neg c, if_neg c]
theorem kt_asd_n {n i : Int32} {W D A : Nat → Int32} (hi : i.toInt ≤ 0) : kt_st n W D A = kt_asd i (kt_st n W D A) := (if_neg (by omega)).symm
-- a year: what is drawn, what the LAW is told, what becomes
noncomputable def kt_z (z : Int32) : Int32 := z * 1103515245 + 12345
noncomputable def kt_u8 (z : Int32) : Int32 := (z.toUInt32 >>> ((8 : Int32).toUInt32 &&& Int32.toUInt32 31)).toInt32
noncomputable def kt_pk (z n : Int32) : Int32 := kt_u8 z - kt_u8 z / n * n
noncomputable def kt_nm (S : kt_S) (i y d w : Int32) : Nat → Int32
  | 0 => S.2.1 i.toNatClampNeg
  | 1 => S.2.1 (i.toNatClampNeg + 1)
  | 2 => S.2.2.1 i.toNatClampNeg
  | 3 => y
  | 4 => d
  | 5 => S.2.1 i.toNatClampNeg / w
  | 6 => i
  | _ => S.1
noncomputable def kt_chg (v i : Int32) (S : kt_S) : kt_S := if v.toInt = 1 then kt_join i S else if v.toInt = 2 then kt_part i S else if v.toInt = 3 then kt_asd i S else S
noncomputable def kt_yr (V : (Nat → Int32) → Int32) (w y z : Int32) (S : kt_S) : kt_S := kt_chg (V (kt_nm S (kt_pk (kt_z z) S.1) y (kt_pk (kt_z (kt_z z)) 100) w)) (kt_pk (kt_z z) S.1) S
noncomputable def kt_run (V : (Nat → Int32) → Int32) (w : Int32) : Nat → Int32 → Int32 → kt_S → kt_S
  | 0, _, _, S => S
  | f + 1, y, z, S => kt_run V w f (y + 1) (kt_z (kt_z z)) (kt_yr V w y z S)
noncomputable def kt_lay (V : (Nat → Int32) → Int32) (n w years seed : Int32) : kt_S := kt_run V w years.toNatClampNeg 0 seed (kt_st n (fun _ => w) (fun _ => 100) (fun _ => 0))
theorem kt_run_0 {V : (Nat → Int32) → Int32} {w y z Y : Int32} {S : kt_S} (h : Y.toInt ≤ y.toInt) : kt_run V w (Y.toInt - y.toInt).toNat y z S = S := by
  rw [show (Y.toInt - y.toInt).toNat = 0 from by omega]
  rfl
theorem kt_run_s {V : (Nat → Int32) → Int32} {w y y' z z' Y : Int32} {S S' : kt_S} (h : y.toInt < Y.toInt) (hy : y' = y + 1) (hyi : y'.toInt = y.toInt + 1) (hz : z' = kt_z (kt_z z)) (hS : S' = kt_yr V w y z S) : kt_run V w (Y.toInt - y.toInt).toNat y z S = kt_run V w (Y.toInt - y'.toInt).toNat y' z' S' := by
  subst hz hS
  obtain ⟨g, hg⟩ : ∃ g : Nat, (Y.toInt - y.toInt).toNat = g + 1 := ⟨(Y.toInt - y.toInt).toNat - 1, by omega⟩
  have hg' : (Y.toInt - y'.toInt).toNat = g := by omega
  rw [hg, hg', hy]
  rfl
theorem kt_yr_e {V : (Nat → Int32) → Int32} {w y z z1 i d v : Int32} {S S' : kt_S} {nm : Nat → Int32} (hz1 : z1 = kt_z z) (hi : i = kt_pk z1 S.1) (hd : d = kt_pk (kt_z z1) 100) (hV : ∀ a b : Nat → Int32, (∀ k, k < 8 → a k = b k) → V a = V b) (hn : ∀ k, k < 8 → nm k = kt_nm S i y d w k) (hv : v = V nm) (hS : S' = kt_chg v i S) : S' = kt_yr V w y z S := by
  subst hz1 hi hd hv hS
  unfold kt_yr
  rw [hV _ _ hn]
-- what a LAW is worth hangs on eight NAMES alone
theorem kv_opr_w {c : Int → Int} {a b : Nat → Int32} (h : ∀ k, k < 8 → a k = b k) : ∀ k : Nat, kv_opr c a k = kv_opr c b k := by
  intro k
  induction k with
  | zero =>
    funext p
    show (if kr_D (c p) = true then kv_nm c 4 p 0 else a (kv_ix (c p))) = (if kr_D (c p) = true then kv_nm c 4 p 0 else b (kv_ix (c p)))
    rw [h _ (kv_ix_lt _)]
  | succ k ih =>
    funext p
    show (if kr_D (c p) = true then kv_nm c 4 p 0 else if kr_N (c p) = true then a (kv_ix (c p)) else if c p = 40 then kv_lv c (kr_opr c k) (kv_opr c a k) 5 (p + 1) else if c p = 33 then kv_no (kv_opr c a k (p + 1)) else -(kv_opr c a k (p + 1))) = (if kr_D (c p) = true then kv_nm c 4 p 0 else if kr_N (c p) = true then b (kv_ix (c p)) else if c p = 40 then kv_lv c (kr_opr c k) (kv_opr c b k) 5 (p + 1) else if c p = 33 then kv_no (kv_opr c b k (p + 1)) else -(kv_opr c b k (p + 1)))
    rw [h _ (kv_ix_lt _), ih]
theorem kv_R_w {c : Int → Int} {a b : Nat → Int32} (h : ∀ k, k < 8 → a k = b k) (l k p : Int) : kv_R c a l k p = kv_R c b l k p := by
  unfold kv_R
  rw [kv_opr_w h]
theorem kv_txt_w {c : Int → Int} {n : Int} {a b : Nat → Int32} (h : ∀ k, k < 8 → a k = b k) : ∀ (f : Nat) (p : Int), kv_txt c a n f p = kv_txt c b n f p := by
  intro f
  induction f with
  | zero => exact fun p => rfl
  | succ f ih =>
    intro p
    show (if c (kr_R c 0 0 p) = 63 then (if (kv_R c a 0 0 p).toInt = 0 then (if n ≤ kr_line c p then 0 else kv_txt c a n f (kr_line c p + 1)) else kv_R c a 0 0 (kr_R c 0 0 p + 1)) else kv_R c a 0 0 p) = (if c (kr_R c 0 0 p) = 63 then (if (kv_R c b 0 0 p).toInt = 0 then (if n ≤ kr_line c p then 0 else kv_txt c b n f (kr_line c p + 1)) else kv_R c b 0 0 (kr_R c 0 0 p + 1)) else kv_R c b 0 0 p)
    rw [kv_R_w h, kv_R_w h, ih]
theorem kv_T_w {c : Int → Int} {n f p : Int} (a b : Nat → Int32) (h : ∀ k, k < 8 → a k = b k) : kv_T c a n f p = kv_T c b n f p := kv_txt_w h _ p
theorem kg_run_w {a b : Nat → Int32} (h : ∀ k, k < 8 → a k = b k) : ∀ (L : List Int32) (q : Bool) (s : List Int32), kg_run a L q s = kg_run b L q s := by
  have hw : ∀ (x : Int32) (s : List Int32), kg_work a x s = kg_work b x s := by
    intro x s
    unfold kg_work
    by_cases c1 : 256 ≤ x.toInt
    · rw [if_pos c1, if_pos c1]
    · rw [if_neg c1, if_neg c1]
      by_cases c2 : 0 ≤ x.toInt ∧ x.toInt < 8
      · rw [if_pos c2, if_pos c2, h _ (by have := kk_tn (x := x) c2.1; omega)]
      · rw [if_neg c2, if_neg c2]
  intro L
  induction L with
  | nil => exact fun q s => rfl
  | cons x t ih =>
    intro q s
    cases q with
    | true => exact ih _ s
    | false =>
      show (if x.toInt = 59 then kg_pop s else if x.toInt = 63 then kg_run a t (decide ((kg_pop s).toInt = 0)) (kg_tl s) else kg_run a t false (kg_work a x s)) = (if x.toInt = 59 then kg_pop s else if x.toInt = 63 then kg_run b t (decide ((kg_pop s).toInt = 0)) (kg_tl s) else kg_run b t false (kg_work b x s))
      rw [ih, ih, hw]
-- lines, as the reference goes through them
theorem kv_txt_fuel {c : Int → Int} {nm : Nat → Int32} {n : Int} : ∀ (f g : Nat) (p : Int), 0 ≤ p → n - p < (f : Int) → 0 < f → n - p < (g : Int) → 0 < g → kr_txt c n f p = -1 → kv_txt c nm n f p = kv_txt c nm n g p := by
  intro f
  induction f with
  | zero => intro g p _ _ h _ _ _; omega
  | succ f ih =>
    intro g p hp h1 _ h2 hg hv
    obtain ⟨g', rfl⟩ : ∃ g' : Nat, g = g' + 1 := ⟨g - 1, by omega⟩
    have hv' : (if kr_line c p < 0 then -1 - kr_line c p else if n ≤ kr_line c p then -1 else if c (kr_line c p) = 59 then kr_txt c n f (kr_line c p + 1) else kr_line c p) = -1 := hv
    have h3 := kr_line_gt c p hp
    have hl : ¬ kr_line c p < 0 := fun c0 => by rw [if_pos c0] at hv'; omega
    rw [if_neg hl] at hv'
    show (if c (kr_R c 0 0 p) = 63 then (if (kv_R c nm 0 0 p).toInt = 0 then (if n ≤ kr_line c p then 0 else kv_txt c nm n f (kr_line c p + 1)) else kv_R c nm 0 0 (kr_R c 0 0 p + 1)) else kv_R c nm 0 0 p) = (if c (kr_R c 0 0 p) = 63 then (if (kv_R c nm 0 0 p).toInt = 0 then (if n ≤ kr_line c p then 0 else kv_txt c nm n g' (kr_line c p + 1)) else kv_R c nm 0 0 (kr_R c 0 0 p + 1)) else kv_R c nm 0 0 p)
    by_cases hn : n ≤ kr_line c p
    · rw [if_pos hn, if_pos hn]
    · rw [if_neg hn] at hv'
      by_cases h9 : c (kr_line c p) = 59
      · rw [if_pos h9] at hv'
        rw [if_neg hn, if_neg hn, ih g' (kr_line c p + 1) (by omega) (by omega) (by omega) (by omega) (by omega) hv']
      · rw [if_neg h9] at hv'
        omega
def kv_wk (c : Int → Int) (nm : Nat → Int32) (n p gi ge : Int) : Prop := kr_T c n (n + 1) 0 = -1 → (gi = 0 ∧ ge = 0 ∧ kr_T c n (n + 1) p = -1 ∧ kv_TI c nm n (n + 1) p = kv_TI c nm n (n + 1) 0) ∨ (gi = 1 ∧ ge = kv_TI c nm n (n + 1) 0)
def kv_wl (c : Int → Int) (nm : Nat → Int32) (n p e gi ge : Int) : Prop := kr_T c n (n + 1) 0 = -1 → (gi = 0 ∧ ge = 0 ∧ kr_T c n (n + 1) p = -1 ∧ kv_TI c nm n (n + 1) p = (if n ≤ e then 0 else kv_TI c nm n n (e + 1)) ∧ kv_TI c nm n (n + 1) p = kv_TI c nm n (n + 1) 0) ∨ (gi = 1 ∧ ge = kv_TI c nm n (n + 1) 0)
def kv_rs (c : Int → Int) (nm : Nat → Int32) (n r : Int) : Prop := kr_T c n (n + 1) 0 = -1 → r = kv_TI c nm n (n + 1) 0
theorem kv_wk_0 {c : Int → Int} {nm : Nat → Int32} {n : Int} : kv_wk c nm n 0 0 0 := fun h => Or.inl ⟨rfl, rfl, h, rfl⟩
theorem kv_w_C {c : Int → Int} {nm : Nat → Int32} {n p e gi ge : Int} (h : kv_wk c nm n p gi ge) (hg : gi ≠ 0) : kv_wl c nm n p e gi ge := fun hv => by
  rcases h hv with ⟨a, _⟩ | b
  · exact absurd a hg
  · exact Or.inr b
theorem kv_w_D1 {c : Int → Int} {nm : Nat → Int32} {n p e e1 gi ge v g1 : Int} (h : kv_wk c nm n p gi ge) (hn : 0 ≤ n) (hg : gi = 0) (hR : kr_R c 0 0 p = e1) (h63 : c e1 ≠ 63) (hv : kv_RI c nm 0 0 p = v) (hg1 : g1 = 1) : kv_wl c nm n p e g1 v := fun ht => by
  rcases h ht with ⟨_, _, _, b⟩ | ⟨b, _⟩
  · refine Or.inr ⟨hg1, ?_⟩
    rw [← b, kv_TI_u (by omega), hR, if_neg h63]
    exact hv.symm
  · omega
theorem kv_w_D2 {c : Int → Int} {nm : Nat → Int32} {n p p1 e e1 gi ge v1 v g1 : Int} (h : kv_wk c nm n p gi ge) (hn : 0 ≤ n) (hg : gi = 0) (hR : kr_R c 0 0 p = e1) (h63 : c e1 = 63) (hp1 : p1 = e1 + 1) (hv1 : kv_RI c nm 0 0 p = v1) (h0 : v1 ≠ 0) (hv : kv_RI c nm 0 0 p1 = v) (hg1 : g1 = 1) : kv_wl c nm n p e g1 v := fun ht => by
  subst hp1
  rcases h ht with ⟨_, _, _, b⟩ | ⟨b, _⟩
  · refine Or.inr ⟨hg1, ?_⟩
    rw [← b, kv_TI_u (by omega), hR, if_pos h63, hv1, if_neg h0]
    exact hv.symm
  · omega
theorem kv_w_B {c : Int → Int} {nm : Nat → Int32} {n p e e1 gi ge v1 : Int} (h : kv_wk c nm n p gi ge) (hn : 0 ≤ n) (hR : kr_R c 0 0 p = e1) (h63 : c e1 = 63) (hv1 : kv_RI c nm 0 0 p = v1) (h0 : v1 = 0) (hl : kr_line c p = e) : kv_wl c nm n p e gi ge := fun ht => by
  subst hl
  rcases h ht with ⟨a, a2, a3, b⟩ | b
  · refine Or.inl ⟨a, a2, a3, ?_, b⟩
    rw [kv_TI_u (by omega), hR, if_pos h63, hv1, if_pos h0, show n + 1 - 1 = n from by omega]
  · exact Or.inr b
theorem kv_w_on {c : Int → Int} {nm : Nat → Int32} {n p p' e gi ge : Int} (h : kv_wl c nm n p e gi ge) (hc : ∀ p, n ≤ p → c p = 0) (hn : 0 ≤ n) (hp : 0 ≤ p) (hl : kr_line c p = e) (h0 : 0 ≤ e) (h59 : c e = 59) (hp' : p' = e + 1) : kv_wk c nm n p' gi ge := fun ht => by
  rcases h ht with ⟨a, a2, a3, a4, b⟩ | b
  · refine Or.inl ⟨a, a2, ?_, ?_⟩
    · rw [← kr_T_S hc hn hp hl h0 h59 hp']
      exact a3
    · have hlt : e < n := by
        rcases Int.lt_or_le e n with h | h
        · exact h
        · rw [hc e h] at h59; cases h59
      have hg := kr_line_gt c p hp
      have h9 : kr_T c n n (e + 1) = -1 := by
        rw [kr_T_s (by omega) hl h0 hlt h59 rfl rfl, show n + 1 - 1 = n from by omega] at a3
        exact a3
      rw [← b, a4, if_neg (by omega), hp']
      unfold kv_TI kv_T
      rw [kv_txt_fuel (n.toNat) ((n + 1).toNat) (e + 1) (by omega) (by omega) (by omega) (by omega) (by omega) h9]
  · exact Or.inr b
theorem kv_w_end {c : Int → Int} {nm : Nat → Int32} {n p e gi ge : Int} (h : kv_wl c nm n p e gi ge) (he : n ≤ e) : kv_rs c nm n ge := fun ht => by
  rcases h ht with ⟨_, a2, _, a4, b⟩ | ⟨_, b⟩
  · rw [if_pos he] at a4
    omega
  · exact b
theorem kv_w_f {c : Int → Int} {nm : Nat → Int32} {n r x : Int} (h : kr_T c n (n + 1) 0 = x) (h0 : x ≠ -1) : kv_rs c nm n r := fun ht => absurd (h.symm.trans ht) h0
-- the class works off what it wrote down: operands as a list, signs from a place on
noncomputable def kg_sT (f : Nat → Int32) (n : Int) : List Int32 := kg_st f n.toNat
noncomputable def kv_q (v w : Int32) : Int32 := if w = 0 then 0 else v / w
theorem kg_pu1 {f : Nat → Int32} {n x : Int32} {m : Int} (h0 : 0 ≤ n.toInt) (h1 : n.toInt < 64) (hm : m = n.toInt + 1) : kg_sT (upd f n.toNatClampNeg x) m = kg_push x (kg_sT f n.toInt) := by
  subst hm
  unfold kg_sT
  have e : n.toNatClampNeg = n.toInt.toNat := rfl
  rw [e, show (n.toInt + 1).toNat = n.toInt.toNat + 1 from by omega, kg_st_push]
  unfold kg_push
  rw [if_pos (by rw [kg_st_len]; omega)]
theorem kg_pu2 {f : Nat → Int32} {n : Int} {x : Int32} (h1 : 64 ≤ n) : kg_sT f n = kg_push x (kg_sT f n) := by
  unfold kg_push kg_sT
  rw [if_neg (by rw [kg_st_len]; omega)]
theorem kg_po1 {f : Nat → Int32} {y : Int32} {n : Int} (h0 : 0 < n) (hy : y.toInt = n - 1) : (f y.toNatClampNeg).toInt = (kg_pop (kg_sT f n)).toInt := by
  unfold kg_sT
  have e : y.toNatClampNeg = y.toInt.toNat := rfl
  obtain ⟨g, hg⟩ : ∃ g : Nat, n.toNat = g + 1 := ⟨n.toNat - 1, by omega⟩
  rw [hg, e, show y.toInt.toNat = g from by omega]
  rfl
theorem kg_po2 {f : Nat → Int32} {n : Int} (h0 : n ≤ 0) : (0 : Int) = (kg_pop (kg_sT f n)).toInt := by
  unfold kg_sT
  rw [show n.toNat = 0 from by omega]
  rfl
theorem kg_tl1 {f : Nat → Int32} {n m : Int} (h0 : 0 < n) (hm : m = n - 1) : kg_sT f m = kg_tl (kg_sT f n) := by
  subst hm
  unfold kg_sT
  obtain ⟨g, hg⟩ : ∃ g : Nat, n.toNat = g + 1 := ⟨n.toNat - 1, by omega⟩
  rw [hg, show (n - 1).toNat = g from by omega]
  rfl
theorem kg_tl2 {f : Nat → Int32} {n : Int} (h0 : n ≤ 0) : kg_sT f n = kg_tl (kg_sT f n) := by
  unfold kg_sT
  rw [show n.toNat = 0 from by omega]
  rfl
-- join
theorem kv_qt0 {v w : Int32} (h : w.toInt = 0) : (0 : Int) = (kv_q v w).toInt := by
  have e : w = 0 := Int32.toInt_inj.mp h
  subst e
  rfl
theorem kv_qt1 {v w : Int32} (h : w.toInt ≠ 0) : (v / w).toInt = (kv_q v w).toInt := by
  unfold kv_q
  rw [if_neg (fun e => h (by rw [e]; rfl))]
theorem kv_jq {x : Int} {v w : Int32} {r : Int} (hx : x = 47) (h : r = (kv_q v w).toInt) : r = (kv_jn x v w).toInt := by
  rw [h]
  by_cases c : w.toInt = 0
  · rw [kv_dv0 (Or.inl hx) c]
    exact (kv_qt0 c).symm
  · rw [kv_dv hx c]
    exact (kv_qt1 c).symm
theorem kv_jdf {x : Int} {v w : Int32} (h : x ≠ 124 ∧ x ≠ 38 ∧ x ≠ 60 ∧ x ≠ 61 ∧ x ≠ 62 ∧ x ≠ 43 ∧ x ≠ 45 ∧ x ≠ 42 ∧ x ≠ 47 ∧ x ≠ 37) : (0 : Int) = (kv_jn x v w).toInt := by
  unfold kv_jn
  rw [if_neg h.1, if_neg h.2.1, if_neg h.2.2.1, if_neg h.2.2.2.1, if_neg h.2.2.2.2.1, if_neg h.2.2.2.2.2.1, if_neg h.2.2.2.2.2.2.1, if_neg h.2.2.2.2.2.2.2.1, if_neg h.2.2.2.2.2.2.2.2.1, if_neg h.2.2.2.2.2.2.2.2.2]
  by_cases c : w = 0
  · rw [if_pos c]; rfl
  · rw [if_neg c]; rfl
-- a sign
theorem kg_w1 {nm : Nat → Int32} {x y : Int32} {S S2 : List Int32} (h : 256 ≤ x.toInt) (hy : y.toInt = x.toInt - 256) (h2 : S2 = kg_push y S) : S2 = kg_work nm x S := by
  have e : x - 256 = y := Int32.toInt_inj.mp (by
    have := kk_rng x
    have := kk_sub2 (x := x) (y := 256) (b := 256) rfl rfl (by omega) (by omega)
    omega)
  subst h2
  unfold kg_work
  rw [if_pos h, e]
theorem kg_w2 {nm : Nat → Int32} {x : Int32} {S S2 : List Int32} (h0 : 0 ≤ x.toInt) (h1 : x.toInt < 8) (h2 : S2 = kg_push (nm x.toNatClampNeg) S) : S2 = kg_work nm x S := by
  subst h2
  unfold kg_work
  rw [if_neg (by omega), if_pos ⟨h0, h1⟩]
theorem kg_w3 {nm : Nat → Int32} {x t : Int32} {r : Int} {S S1 S2 : List Int32} (h : x.toInt = 33) (hr : r = (kg_pop S).toInt) (ht : (r = 0 ∧ t.toInt = 1) ∨ (r ≠ 0 ∧ t.toInt = 0)) (h1 : S1 = kg_tl S) (h2 : S2 = kg_push t S1) : S2 = kg_work nm x S := by
  subst h2 h1
  unfold kg_work
  rw [if_neg (by omega), if_neg (by omega), if_pos h]
  have e : t = kv_no (kg_pop S) := Int32.toInt_inj.mp (by
    rcases ht with ⟨a, b⟩ | ⟨a, b⟩
    · rw [kv_no1 (by omega)]; exact b
    · rw [kv_no0 (by omega)]; exact b)
  rw [e]
theorem kg_w4 {nm : Nat → Int32} {x y : Int32} {S S1 S2 : List Int32} (h : x.toInt = 126) (hr : y.toInt = (kg_pop S).toInt) (h1 : S1 = kg_tl S) (h2 : S2 = kg_push (-y) S1) : S2 = kg_work nm x S := by
  subst h2 h1
  unfold kg_work
  rw [if_neg (by omega), if_neg (by omega), if_neg (by omega), if_pos h, Int32.toInt_inj.mp hr]
theorem kg_w5 {nm : Nat → Int32} {x y z j : Int32} {S S1 S2 S3 : List Int32} (h : x.toInt < 256 ∧ ¬ (0 ≤ x.toInt ∧ x.toInt < 8) ∧ x.toInt ≠ 33 ∧ x.toInt ≠ 126) (hr : y.toInt = (kg_pop S).toInt) (h1 : S1 = kg_tl S) (hz : z.toInt = (kg_pop S1).toInt) (h2 : S2 = kg_tl S1) (hj : j.toInt = (kv_jn x.toInt z y).toInt) (h3 : S3 = kg_push j S2) : S3 = kg_work nm x S := by
  subst h3 h2 h1
  unfold kg_work
  rw [if_neg (by omega), if_neg h.2.1, if_neg h.2.2.1, if_neg h.2.2.2, Int32.toInt_inj.mp hj, Int32.toInt_inj.mp hr, Int32.toInt_inj.mp hz]
-- all of them
noncomputable def kg_dl (f : Nat → Int32) : Nat → Nat → List Int32
  | _, 0 => []
  | a, m + 1 => f a :: kg_dl f (a + 1) m
noncomputable def kg_dI (f : Nat → Int32) (a m : Int) : List Int32 := kg_dl f a.toNat m.toNat
theorem kg_dl_s (f : Nat → Int32) : ∀ (m a : Nat), kg_dl f a (m + 1) = kg_dl f a m ++ [f (a + m)] := by
  intro m
  induction m with
  | zero => exact fun a => rfl
  | succ m ih =>
    intro a
    show f a :: kg_dl f (a + 1) (m + 1) = f a :: (kg_dl f (a + 1) m ++ [f (a + (m + 1))])
    rw [ih (a + 1), show a + 1 + m = a + (m + 1) from by omega]
theorem kg_dl_sl (f : Nat → Int32) : ∀ m : Nat, kg_dl f 0 m = kg_sl f m := by
  intro m
  induction m with
  | zero => rfl
  | succ m ih =>
    rw [kg_dl_s, ih, show 0 + m = m from by omega]
    rfl
theorem kg_dI_s {f : Nat → Int32} {a : Int32} {n a' : Int} (h0 : 0 ≤ a.toInt) (h1 : a.toInt < n) (ha : a' = a.toInt + 1) : kg_dI f a.toInt (n - a.toInt) = f a.toNatClampNeg :: kg_dI f a' (n - a') := by
  subst ha
  unfold kg_dI
  obtain ⟨g, hg⟩ : ∃ g : Nat, (n - a.toInt).toNat = g + 1 := ⟨(n - a.toInt).toNat - 1, by omega⟩
  rw [hg, show (n - (a.toInt + 1)).toNat = g from by omega, show (a.toInt + 1).toNat = a.toInt.toNat + 1 from by omega]
  rfl
theorem kg_g0 {nm f g : Nat → Int32} {n : Int} : kg_run nm (kg_dI f (0 : Int) (n - (0 : Int))) (decide ((0 : Int) ≠ 0)) (kg_sT g (0 : Int)) = kg_run nm (kg_sI f n) false [] := by
  unfold kg_dI kg_sI
  rw [Int.sub_zero, show (0 : Int).toNat = 0 from rfl, kg_dl_sl]
  rfl
theorem kg_gp {nm f : Nat → Int32} {a : Int32} {n a' p p' : Int} {S : List Int32} {X : Int32} (hi : kg_run nm (kg_dI f a.toInt (n - a.toInt)) (decide (p ≠ 0)) S = X) (h0 : 0 ≤ a.toInt) (h1 : a.toInt < n) (ha : a' = a.toInt + 1) (hp : p ≠ 0) (hp' : (p' = 1 ∧ (f a.toNatClampNeg).toInt ≠ 59) ∨ (p' = 0 ∧ (f a.toNatClampNeg).toInt = 59)) : kg_run nm (kg_dI f a' (n - a')) (decide (p' ≠ 0)) S = X := by
  rw [kg_dI_s h0 h1 ha, decide_eq_true hp] at hi
  have hi : kg_run nm (kg_dI f a' (n - a')) (decide ((f a.toNatClampNeg).toInt ≠ 59)) S = X := hi
  rcases hp' with ⟨h, h9⟩ | ⟨h, h9⟩
  · rw [decide_eq_true h9] at hi
    rw [decide_eq_true (by omega)]
    exact hi
  · rw [decide_eq_false (fun q => q h9)] at hi
    rw [decide_eq_false (by omega)]
    exact hi
theorem kg_gi {nm f : Nat → Int32} {a : Int32} {n a' p p' r : Int} {S S1 : List Int32} {X : Int32} (hi : kg_run nm (kg_dI f a.toInt (n - a.toInt)) (decide (p ≠ 0)) S = X) (h0 : 0 ≤ a.toInt) (h1 : a.toInt < n) (ha : a' = a.toInt + 1) (hp : p = 0) (hx : (f a.toNatClampNeg).toInt = 63) (hr : r = (kg_pop S).toInt) (hS : S1 = kg_tl S) (hp' : (p' = 1 ∧ r = 0) ∨ (p' = 0 ∧ r ≠ 0)) : kg_run nm (kg_dI f a' (n - a')) (decide (p' ≠ 0)) S1 = X := by
  subst hr hS
  rw [kg_dI_s h0 h1 ha, decide_eq_false (by omega)] at hi
  have hi : (if (f a.toNatClampNeg).toInt = 59 then kg_pop S else if (f a.toNatClampNeg).toInt = 63 then kg_run nm (kg_dI f a' (n - a')) (decide ((kg_pop S).toInt = 0)) (kg_tl S) else kg_run nm (kg_dI f a' (n - a')) false (kg_work nm (f a.toNatClampNeg) S)) = X := hi
  rw [if_neg (by omega), if_pos hx] at hi
  rcases hp' with ⟨h, h9⟩ | ⟨h, h9⟩
  · rw [decide_eq_true h9] at hi
    rw [decide_eq_true (by omega)]
    exact hi
  · rw [decide_eq_false h9] at hi
    rw [decide_eq_false (by omega)]
    exact hi
theorem kg_gw {nm f : Nat → Int32} {a : Int32} {n a' p p' : Int} {S S1 : List Int32} {X : Int32} (hi : kg_run nm (kg_dI f a.toInt (n - a.toInt)) (decide (p ≠ 0)) S = X) (h0 : 0 ≤ a.toInt) (h1 : a.toInt < n) (ha : a' = a.toInt + 1) (hp : p = 0) (hx : (f a.toNatClampNeg).toInt ≠ 59) (hx2 : (f a.toNatClampNeg).toInt ≠ 63) (hS : S1 = kg_work nm (f a.toNatClampNeg) S) (hp' : p' = 0) : kg_run nm (kg_dI f a' (n - a')) (decide (p' ≠ 0)) S1 = X := by
  subst hS
  rw [kg_dI_s h0 h1 ha, decide_eq_false (by omega), kg_step hx hx2] at hi
  rw [decide_eq_false (by omega)]
  exact hi
theorem kg_ge {nm f : Nat → Int32} {a : Int32} {n p r : Int} {S : List Int32} {X : Int32} (hi : kg_run nm (kg_dI f a.toInt (n - a.toInt)) (decide (p ≠ 0)) S = X) (h0 : 0 ≤ a.toInt) (h1 : a.toInt < n) (hp : p = 0) (hx : (f a.toNatClampNeg).toInt = 59) (hr : r = (kg_pop S).toInt) : r = X.toInt := by
  subst hr
  rw [kg_dI_s h0 h1 rfl, decide_eq_false (by omega)] at hi
  have hi : (if (f a.toNatClampNeg).toInt = 59 then kg_pop S else _) = X := hi
  rw [if_pos hx] at hi
  rw [hi]
theorem kg_gn {nm f : Nat → Int32} {a n p : Int} {S : List Int32} {X : Int32} (hi : kg_run nm (kg_dI f a (n - a)) (decide (p ≠ 0)) S = X) (h1 : n ≤ a) : (0 : Int) = X.toInt := by
  have e : kg_dI f a (n - a) = [] := by
    unfold kg_dI
    rw [show (n - a).toNat = 0 from by omega]
    rfl
  rw [e] at hi
  rw [← hi]
  cases decide (p ≠ 0) <;> rfl
-- rows of PLOTS in arrays: put in, taken out
def kt_upw (f g : Nat → Int32) (p n : Int) : Prop := ∀ j : Nat, (j : Int) ≤ n → f j = (if p < (j : Int) then g (j - 1) else g j)
def kt_dnw (f g : Nat → Int32) (q p : Int) : Prop := ∀ j : Nat, f j = (if q ≤ (j : Int) ∧ (j : Int) + 1 < p then g (j + 1) else g j)
def kt_in (g f : Nat → Int32) (p n : Int) (x : Int32) : Prop := ∀ j : Nat, (j : Int) ≤ n → f j = (if (j : Int) < p then g j else if (j : Int) = p then x else g (j - 1))
def kt_rm (g f : Nat → Int32) (q n : Int) : Prop := ∀ j : Nat, (j : Int) < n - 1 → f j = (if (j : Int) < q then g j else g (j + 1))
def kt_all (f : Nat → Int32) (n : Int) (x : Int32) : Prop := ∀ j : Nat, (j : Int) < n → f j = x
theorem kt_upw_0 {f : Nat → Int32} {n : Int} : kt_upw f f n n := fun j hj => (if_neg (by omega)).symm
theorem kt_upw_s {f g : Nat → Int32} {p q : Int32} {p' n : Int} (h : kt_upw f g p.toInt n) (h0 : 0 < p.toInt) (hn : p.toInt ≤ n) (hq : q.toInt = p.toInt - 1) (hp : p' = p.toInt - 1) : kt_upw (upd f p.toNatClampNeg (f q.toNatClampNeg)) g p' n := by
  subst hp
  intro j hj
  have e1 : (p.toNatClampNeg : Int) = p.toInt := kk_tn (by omega)
  have e2 : (q.toNatClampNeg : Int) = q.toInt := kk_tn (by omega)
  unfold upd
  by_cases c : j = p.toNatClampNeg
  · rw [if_pos c, h _ (by omega), if_neg (by omega), if_pos (by omega), show q.toNatClampNeg = j - 1 from by omega]
  · rw [if_neg c, h j hj]
    by_cases c2 : p.toInt < (j : Int)
    · rw [if_pos c2, if_pos (by omega)]
    · rw [if_neg c2, if_neg (by omega)]
theorem kt_in_e {f g : Nat → Int32} {p x : Int32} {n q : Int} (h : kt_upw f g q n) (h0 : 0 ≤ p.toInt) (hq : q = p.toInt) : kt_in g (upd f p.toNatClampNeg x) p.toInt n x := by
  subst hq
  intro j hj
  have e1 : (p.toNatClampNeg : Int) = p.toInt := kk_tn h0
  unfold upd
  by_cases c : j = p.toNatClampNeg
  · rw [if_pos c, if_neg (by omega), if_pos (by omega)]
  · rw [if_neg c, h j hj]
    by_cases c2 : p.toInt < (j : Int)
    · rw [if_pos c2, if_neg (by omega), if_neg (by omega)]
    · rw [if_neg c2, if_pos (by omega)]
theorem kt_dnw_0 {f : Nat → Int32} {q p : Int} (h : p = q + 1) : kt_dnw f f q p := fun j => (if_neg (by omega)).symm
theorem kt_dnw_s {f g : Nat → Int32} {p r : Int32} {q p' : Int} (h : kt_dnw f g q p.toInt) (h0 : 0 ≤ q) (h1 : q < p.toInt) (hr : r.toInt = p.toInt - 1) (hp : p' = p.toInt + 1) : kt_dnw (upd f r.toNatClampNeg (f p.toNatClampNeg)) g q p' := by
  subst hp
  intro j
  have e1 : (p.toNatClampNeg : Int) = p.toInt := kk_tn (by omega)
  have e2 : (r.toNatClampNeg : Int) = r.toInt := kk_tn (by omega)
  unfold upd
  by_cases c : j = r.toNatClampNeg
  · rw [if_pos c, h _, if_neg (by omega), if_pos (by omega), show p.toNatClampNeg = j + 1 from by omega]
  · rw [if_neg c, h j]
    by_cases c2 : q ≤ (j : Int) ∧ (j : Int) + 1 < p.toInt
    · rw [if_pos c2, if_pos (by omega)]
    · rw [if_neg c2, if_neg (by omega)]
theorem kt_rm_e {f g : Nat → Int32} {q p n : Int} (h : kt_dnw f g q p) (hp : n ≤ p) : kt_rm g f q n := by
  intro j hj
  rw [h j]
  by_cases c : (j : Int) < q
  · rw [if_pos c, if_neg (by omega)]
  · rw [if_neg c, if_pos (by omega)]
theorem kt_all_0 {f : Nat → Int32} {x : Int32} {n : Int} (h : n ≤ 0) : kt_all f n x := fun j hj => absurd hj (by omega)
theorem kt_all_s {g f : Nat → Int32} {p n n' : Int} {x : Int32} (h : kt_all g n x) (h1 : kt_in g f p n x) (hp : p = n) (hn : n' = n + 1) : kt_all f n' x := by
  subst hp hn
  intro j hj
  rw [h1 j (by omega)]
  by_cases c : (j : Int) < p
  · rw [if_pos c, h j c]
  · rw [if_neg c, if_pos (by omega)]
theorem kt_all_e {n m x y z : Int32} {W D A : Nat → Int32} (hn : n = m) (h1 : kt_all W n.toInt x) (h2 : kt_all D n.toInt y) (h3 : kt_all A n.toInt z) : kt_st n W D A = kt_st m (fun _ => x) (fun _ => y) (fun _ => z) := kt_st_e hn h1 h2 h3
-- join, part, stepAside of the class
theorem kt_cl_n {x : Int32} (h0 : 0 ≤ x.toInt) {y : Int32} (hy : y.toInt = x.toInt + 1) : y.toNatClampNeg = x.toNatClampNeg + 1 := by
  have := kk_tn (x := x) h0
  have := kk_tn (x := y) (by omega)
  omega
theorem kt_join_c {n i q m a b : Int32} {W D A W1 W' D' A' : Nat → Int32} (hi : 0 ≤ i.toInt) (h1 : i.toInt + 1 < n.toInt) (hq : q.toInt = i.toInt + 1) (ha : a.toInt = (W i.toNatClampNeg).toInt) (hb : b.toInt = (W q.toNatClampNeg).toInt) (hw : (a + b).toInt ≤ 999) (hm : m = n - 1) (hmi : m.toInt = n.toInt - 1) (e1 : W1 = upd W i.toNatClampNeg (a + b)) (rW : kt_rm W1 W' q.toInt n.toInt) (rD : kt_rm D D' q.toInt n.toInt) (rA : kt_rm A A' q.toInt n.toInt) : kt_st m W' D' A' = kt_join i (kt_st n W D A) := by
  have eq : q.toNatClampNeg = i.toNatClampNeg + 1 := kt_cl_n hi hq
  have ei : (i.toNatClampNeg : Int) = i.toInt := kk_tn hi
  rw [eq] at hb
  have ha := Int32.toInt_inj.mp ha
  have hb := Int32.toInt_inj.mp hb
  subst ha hb e1
  refine kt_join_y hi h1 hw hm hmi (fun j hj => ?_) (fun j hj => ?_) (fun j hj => ?_)
  · rw [rW j hj]
    unfold upd
    by_cases c1 : (j : Int) < i.toInt
    · rw [if_pos c1, if_pos (by omega), if_neg (by omega)]
    · rw [if_neg c1]
      by_cases c2 : (j : Int) = i.toInt
      · rw [if_pos c2, if_pos (by omega), if_pos (by omega)]
      · rw [if_neg c2, if_neg (by omega), if_neg (by omega)]
  · rw [rD j hj]
    by_cases c1 : (j : Int) ≤ i.toInt
    · rw [if_pos c1, if_pos (by omega)]
    · rw [if_neg c1, if_neg (by omega)]
  · rw [rA j hj]
    by_cases c1 : (j : Int) ≤ i.toInt
    · rw [if_pos c1, if_pos (by omega)]
    · rw [if_neg c1, if_neg (by omega)]
theorem kt_join_n2 {n i q a b : Int32} {W D A : Nat → Int32} (hi : 0 ≤ i.toInt) (h1 : i.toInt < n.toInt) (hq : q.toInt = i.toInt + 1) (ha : a.toInt = (W i.toNatClampNeg).toInt) (hb : n.toInt ≤ q.toInt ∨ (b.toInt = (W q.toNatClampNeg).toInt ∧ 999 < (a + b).toInt)) : kt_st n W D A = kt_join i (kt_st n W D A) := by
  refine kt_join_n hi ?_
  rcases hb with hb | ⟨hb, hw⟩
  · exact Or.inl (by omega)
  · rw [kt_cl_n hi hq] at hb
    have ha := Int32.toInt_inj.mp ha
    have hb := Int32.toInt_inj.mp hb
    rw [ha, hb] at hw
    exact Or.inr hw
theorem kt_part_c {n i q m h d x a z : Int32} {W D A W1 W' D' A' : Nat → Int32} (hi : 0 ≤ i.toInt) (h1 : i.toInt < n.toInt) (ha : a.toInt = (W i.toNatClampNeg).toInt) (hw : 1 < a.toInt) (hn : n.toInt < 40) (hq : q.toInt = i.toInt + 1) (hm : m = n + 1) (hmi : m.toInt = n.toInt + 1) (hh : h = a / 2) (hx : x = a - a / 2) (hd : d.toInt = (D i.toNatClampNeg).toInt) (hz : z = 0) (e1 : W1 = upd W i.toNatClampNeg h) (rW : kt_in W1 W' q.toInt n.toInt x) (rD : kt_in D D' q.toInt n.toInt d) (rA : kt_in A A' q.toInt n.toInt z) : kt_st m W' D' A' = kt_part i (kt_st n W D A) := by
  have eq : q.toNatClampNeg = i.toNatClampNeg + 1 := kt_cl_n hi hq
  have ei : (i.toNatClampNeg : Int) = i.toInt := kk_tn hi
  have ha := Int32.toInt_inj.mp ha
  have hd := Int32.toInt_inj.mp hd
  subst ha
  subst hh hx hd hz e1
  refine kt_part_y hi h1 hw hn hm hmi (fun j hj => ?_) (fun j hj => ?_) (fun j hj => ?_)
  · rw [rW j (by omega)]
    unfold upd
    by_cases c1 : (j : Int) < i.toInt
    · rw [if_pos c1, if_pos (by omega), if_neg (by omega)]
    · rw [if_neg c1]
      by_cases c2 : (j : Int) = i.toInt
      · rw [if_pos c2, if_pos (by omega), if_pos (by omega)]
      · rw [if_neg c2, if_neg (by omega)]
        by_cases c3 : (j : Int) = i.toInt + 1
        · rw [if_pos c3, if_pos (by omega)]
        · rw [if_neg c3, if_neg (by omega), if_neg (by omega)]
  · rw [rD j (by omega)]
    by_cases c1 : (j : Int) ≤ i.toInt
    · rw [if_pos c1, if_pos (by omega)]
    · rw [if_neg c1, if_neg (by omega)]
      by_cases c3 : (j : Int) = i.toInt + 1
      · rw [if_pos (by omega), show j - 1 = i.toNatClampNeg from by omega]
      · rw [if_neg (by omega)]
  · rw [rA j (by omega)]
    by_cases c1 : (j : Int) ≤ i.toInt
    · rw [if_pos c1, if_pos (by omega)]
    · rw [if_neg c1, if_neg (by omega)]
      by_cases c3 : (j : Int) = i.toInt + 1
      · rw [if_pos (by omega), if_pos (by omega)]
      · rw [if_neg (by omega), if_neg (by omega)]
theorem kt_part_n2 {n i a : Int32} {W D A : Nat → Int32} (hi : 0 ≤ i.toInt) (h1 : i.toInt < n.toInt) (ha : a.toInt = (W i.toNatClampNeg).toInt) (h : a.toInt ≤ 1 ∨ 40 ≤ n.toInt) : kt_st n W D A = kt_part i (kt_st n W D A) := kt_part_n hi h1 (by omega)
theorem kt_asd_c {n i v a : Int32} {W D A A' : Nat → Int32} (hi : 0 < i.toInt) (h1 : i.toInt < n.toInt) (ha : a.toInt = (A i.toNatClampNeg).toInt) (hv : ((a + 5).toInt ≤ 99 ∧ v.toInt = (a + 5).toInt) ∨ (99 < (a + 5).toInt ∧ v.toInt = 99)) (e1 : A' = upd A i.toNatClampNeg v) : kt_st n W D A' = kt_asd i (kt_st n W D A) := by
  have ei : (i.toNatClampNeg : Int) = i.toInt := kk_tn (by omega)
  have ha := Int32.toInt_inj.mp ha
  rw [ha] at hv
  subst e1
  refine kt_asd_y hi h1 hv (fun j hj => rfl) (fun j hj => rfl) (fun j hj => ?_)
  unfold upd
  by_cases c : (j : Int) = i.toInt
  · rw [if_pos c, if_pos (by omega)]
  · rw [if_neg c, if_neg (by omega)]
theorem kt_chg1 {v i : Int32} {S S' : kt_S} (h : v.toInt = 1) (e : S' = kt_join i S) : S' = kt_chg v i S := by
  rw [e]; exact (if_pos h).symm
theorem kt_chg2 {v i : Int32} {S S' : kt_S} (h : v.toInt = 2) (e : S' = kt_part i S) : S' = kt_chg v i S := by
  rw [e]; unfold kt_chg; rw [if_neg (by omega), if_pos h]
theorem kt_chg3 {v i : Int32} {S S' : kt_S} (h : v.toInt = 3) (e : S' = kt_asd i S) : S' = kt_chg v i S := by
  rw [e]; unfold kt_chg; rw [if_neg (by omega), if_neg (by omega), if_pos h]
theorem kt_chg0 {v i : Int32} {S : kt_S} (h : v.toInt ≠ 1 ∧ v.toInt ≠ 2 ∧ v.toInt ≠ 3) : S = kt_chg v i S := by
  unfold kt_chg; rw [if_neg h.1, if_neg h.2.1, if_neg h.2.2]
-- what the LAW is told
def kt_kn (f : Nat → Int32) (S : kt_S) (i y d w : Int32) : Prop := ∀ k, k < 8 → f k = kt_nm S i y d w k
theorem kt_kn_e {f : Nat → Int32} {n i y d w a0 a1 a2 a5 : Int32} {W D A : Nat → Int32} {q : Int32} (hi : 0 ≤ i.toInt) (h1 : i.toInt < n.toInt) (hq : q.toInt = i.toInt + 1) (h0 : a0.toInt = (W i.toNatClampNeg).toInt) (hb : (q.toInt < n.toInt ∧ a1.toInt = (W q.toNatClampNeg).toInt) ∨ (n.toInt ≤ q.toInt ∧ a1.toInt = 0)) (h2 : a2.toInt = (D i.toNatClampNeg).toInt) (hw : w.toInt ≠ 0) (h5 : a5.toInt = (kv_q (W i.toNatClampNeg) w).toInt)
    (hf : f 0 = a0 ∧ f 1 = a1 ∧ f 2 = a2 ∧ f 3 = y ∧ f 4 = d ∧ f 5 = a5 ∧ f 6 = i ∧ f 7 = n) : kt_kn f (kt_st n W D A) i y d w := by
  have eq : q.toNatClampNeg = i.toNatClampNeg + 1 := kt_cl_n hi hq
  have ei : (i.toNatClampNeg : Int) = i.toInt := kk_tn hi
  obtain ⟨f0, f1, f2, f3, f4, f5, f6, f7⟩ := hf
  intro k hk
  rcases (show k = 0 ∨ k = 1 ∨ k = 2 ∨ k = 3 ∨ k = 4 ∨ k = 5 ∨ k = 6 ∨ k = 7 from by omega) with rfl | rfl | rfl | rfl | rfl | rfl | rfl | rfl
  · rw [f0]
    show a0 = kt_tr n W i.toNatClampNeg
    rw [kt_tr_v (by omega)]
    exact Int32.toInt_inj.mp h0
  · rw [f1]
    show a1 = kt_tr n W (i.toNatClampNeg + 1)
    rcases hb with ⟨c, e⟩ | ⟨c, e⟩
    · rw [kt_tr_v (by omega), ← eq]
      exact Int32.toInt_inj.mp e
    · rw [kt_tr_0 (by omega)]
      exact Int32.toInt_inj.mp e
  · rw [f2]
    show a2 = kt_tr n D i.toNatClampNeg
    rw [kt_tr_v (by omega)]
    exact Int32.toInt_inj.mp h2
  · exact f3
  · exact f4
  · rw [f5]
    show a5 = kt_tr n W i.toNatClampNeg / w
    rw [kt_tr_v (by omega)]
    have e : kv_q (W i.toNatClampNeg) w = W i.toNatClampNeg / w := if_neg (fun e => hw (by rw [e]; rfl))
    rw [← e]
    exact Int32.toInt_inj.mp h5
  · exact f6
  · exact f7
theorem kt_i1 {n m : Int32} (h : m.toInt = (n - 1).toInt) : m = n - 1 := Int32.toInt_inj.mp h
theorem kt_i2 {n m : Int32} (h : m.toInt = (n + 1).toInt) : m = n + 1 := Int32.toInt_inj.mp h
-- the reference's PLOTS: one array, WIDTHS from 0, DEPTHS from 280, ASIDES from 560 on, 40 a STREET
noncomputable def kt_w (m : Nat → Int32) (t : Int) : Nat → Int32 := fun j => m (40 * t.toNat + j)
noncomputable def kt_d (m : Nat → Int32) (t : Int) : Nat → Int32 := fun j => m (280 + 40 * t.toNat + j)
noncomputable def kt_a (m : Nat → Int32) (t : Int) : Nat → Int32 := fun j => m (560 + 40 * t.toNat + j)
def kt_set (m m' : Nat → Int32) (s i : Int) (w d a : Int32) : Prop := ∀ t : Int, 0 ≤ t → t < 7 → ∀ j : Nat, j < 40 → kt_w m' t j = (if t = s ∧ (j : Int) = i then w else kt_w m t j) ∧ kt_d m' t j = (if t = s ∧ (j : Int) = i then d else kt_d m t j) ∧ kt_a m' t j = (if t = s ∧ (j : Int) = i then a else kt_a m t j)
def kt_oth (m m' : Nat → Int32) (s : Int) : Prop := ∀ t : Int, 0 ≤ t → t < 7 → t ≠ s → ∀ j : Nat, j < 40 → kt_w m' t j = kt_w m t j ∧ kt_d m' t j = kt_d m t j ∧ kt_a m' t j = kt_a m t j
theorem kt_oth_r {m : Nat → Int32} {s : Int} : kt_oth m m s := fun t _ _ _ j _ => ⟨rfl, rfl, rfl⟩
theorem kt_oth_t {m m1 m2 : Nat → Int32} {s : Int} (h1 : kt_oth m m1 s) (h2 : kt_oth m1 m2 s) : kt_oth m m2 s := fun t a b c j hj => by
  have e1 := h1 t a b c j hj
  have e2 := h2 t a b c j hj
  exact ⟨e2.1.trans e1.1, e2.2.1.trans e1.2.1, e2.2.2.trans e1.2.2⟩
theorem kt_set_o {m m' : Nat → Int32} {s i : Int} {w d a : Int32} (h : kt_set m m' s i w d a) : kt_oth m m' s := fun t ha hb hc j hj => by
  have e := h t ha hb j hj
  rw [if_neg (fun q => hc q.1), if_neg (fun q => hc q.1), if_neg (fun q => hc q.1)] at e
  exact e
theorem kt_w_e {f : Nat → Int32} {x : Int32} {s i : Int32} (hs : 0 ≤ s.toInt) (hi : 0 ≤ i.toInt) (hx : x.toInt = 40 * s.toInt + i.toInt) : (f x.toNatClampNeg).toInt = (kt_w f s.toInt i.toNatClampNeg).toInt := by
  show _ = (f (40 * s.toInt.toNat + i.toInt.toNat)).toInt
  rw [show 40 * s.toInt.toNat + i.toInt.toNat = x.toNatClampNeg from by show _ = x.toInt.toNat; omega]
theorem kt_d_e {f : Nat → Int32} {x : Int32} {s i : Int32} (hs : 0 ≤ s.toInt) (hi : 0 ≤ i.toInt) (hx : x.toInt = 280 + 40 * s.toInt + i.toInt) : (f x.toNatClampNeg).toInt = (kt_d f s.toInt i.toNatClampNeg).toInt := by
  show _ = (f (280 + 40 * s.toInt.toNat + i.toInt.toNat)).toInt
  rw [show 280 + 40 * s.toInt.toNat + i.toInt.toNat = x.toNatClampNeg from by show _ = x.toInt.toNat; omega]
theorem kt_a_e {f : Nat → Int32} {x : Int32} {s i : Int32} (hs : 0 ≤ s.toInt) (hi : 0 ≤ i.toInt) (hx : x.toInt = 560 + 40 * s.toInt + i.toInt) : (f x.toNatClampNeg).toInt = (kt_a f s.toInt i.toNatClampNeg).toInt := by
  show _ = (f (560 + 40 * s.toInt.toNat + i.toInt.toNat)).toInt
  rw [show 560 + 40 * s.toInt.toNat + i.toInt.toNat = x.toNatClampNeg from by show _ = x.toInt.toNat; omega]
theorem kt_set_e {m m1 m2 m3 : Nat → Int32} {x y z w d a : Int32} {s i : Int} (h1 : upd m x.toNatClampNeg w = m1) (h2 : upd m1 y.toNatClampNeg d = m2) (h3 : upd m2 z.toNatClampNeg a = m3) (hs : 0 ≤ s ∧ s ≤ 6) (hi : 0 ≤ i ∧ i ≤ 39) (hx : x.toInt = 40 * s + i) (hy : y.toInt = 280 + 40 * s + i) (hz : z.toInt = 560 + 40 * s + i) : kt_set m m3 s i w d a := by
  subst h1 h2 h3
  have ex : (x.toNatClampNeg : Int) = x.toInt := kk_tn (by omega)
  have ey : (y.toNatClampNeg : Int) = y.toInt := kk_tn (by omega)
  have ez : (z.toNatClampNeg : Int) = z.toInt := kk_tn (by omega)
  intro t ht0 ht j hj
  unfold kt_w kt_d kt_a upd
  refine ⟨?_, ?_, ?_⟩
  · rw [if_neg (by omega), if_neg (by omega)]
    by_cases c : t = s ∧ (j : Int) = i
    · rw [if_pos c, if_pos (by omega)]
    · rw [if_neg c, if_neg (by omega)]
  · rw [if_neg (by omega)]
    by_cases c : t = s ∧ (j : Int) = i
    · rw [if_pos c, if_pos (by omega)]
    · rw [if_neg c, if_neg (by omega), if_neg (by omega)]
  · by_cases c : t = s ∧ (j : Int) = i
    · rw [if_pos c, if_pos (by omega)]
    · rw [if_neg c, if_neg (by omega), if_neg (by omega), if_neg (by omega)]
-- JOINS: shifted down from behind i
def kt_jl (m0 m : Nat → Int32) (s i k : Int) : Prop := kt_oth m0 m s ∧ ∀ j : Nat, j < 40 → kt_w m s j = (if (j : Int) < i then kt_w m0 s j else if (j : Int) = i then kt_w m0 s i.toNat + kt_w m0 s (i.toNat + 1) else if (j : Int) < k then kt_w m0 s (j + 1) else kt_w m0 s j) ∧ kt_d m s j = (if i < (j : Int) ∧ (j : Int) < k then kt_d m0 s (j + 1) else kt_d m0 s j) ∧ kt_a m s j = (if i < (j : Int) ∧ (j : Int) < k then kt_a m0 s (j + 1) else kt_a m0 s j)
theorem kt_jl_0 {m0 m : Nat → Int32} {s k : Int} {i q a b d e : Int32} (hs : 0 ≤ s ∧ s ≤ 6) (hi : 0 ≤ i.toInt ∧ i.toInt ≤ 39) (hq : q.toInt = i.toInt + 1) (h : kt_set m0 m s i.toInt (a + b) d e) (ha : a.toInt = (kt_w m0 s i.toNatClampNeg).toInt) (hb : b.toInt = (kt_w m0 s q.toNatClampNeg).toInt) (hd : d.toInt = (kt_d m0 s i.toNatClampNeg).toInt) (he : e.toInt = (kt_a m0 s i.toNatClampNeg).toInt) (hk : k = i.toInt + 1) : kt_jl m0 m s i.toInt k := by
  have ei : i.toNatClampNeg = i.toInt.toNat := rfl
  have eq : q.toNatClampNeg = i.toInt.toNat + 1 := kt_cl_n hi.1 hq
  rw [ei] at ha hd he
  rw [eq] at hb
  have ha := Int32.toInt_inj.mp ha
  have hb := Int32.toInt_inj.mp hb
  have hd := Int32.toInt_inj.mp hd
  have he := Int32.toInt_inj.mp he
  subst ha hb hd he hk
  refine ⟨kt_set_o h, fun j hj => ?_⟩
  have e := h s hs.1 (by omega) j hj
  by_cases c : (j : Int) = i.toInt
  · have ej : j = i.toInt.toNat := by omega
    rw [if_pos ⟨rfl, c⟩, if_pos ⟨rfl, c⟩, if_pos ⟨rfl, c⟩] at e
    rw [e.1, e.2.1, e.2.2, if_neg (by omega), if_pos c, if_neg (by omega), if_neg (by omega), ej]
    exact ⟨rfl, rfl, rfl⟩
  · rw [if_neg (fun q => c q.2), if_neg (fun q => c q.2), if_neg (fun q => c q.2)] at e
    rw [e.1, e.2.1, e.2.2]
    refine ⟨?_, ?_, ?_⟩ <;> ((repeat any_goals split) <;> first | rfl | (exfalso; omega))
theorem kt_jl_s {m0 m m' : Nat → Int32} {s i k' : Int} {k q a d e : Int32} (h : kt_jl m0 m s i k.toInt) (hs : 0 ≤ s ∧ s ≤ 6) (hi : 0 ≤ i) (hk : i < k.toInt) (hk2 : k.toInt ≤ 38) (hq : q.toInt = k.toInt + 1) (hc : kt_set m m' s k.toInt a d e) (ha : a.toInt = (kt_w m s q.toNatClampNeg).toInt) (hd : d.toInt = (kt_d m s q.toNatClampNeg).toInt) (he : e.toInt = (kt_a m s q.toNatClampNeg).toInt) (hk' : k' = k.toInt + 1) : kt_jl m0 m' s i k' := by
  have eq : (q.toNatClampNeg : Int) = q.toInt := kk_tn (by omega)
  have ha := Int32.toInt_inj.mp ha
  have hd := Int32.toInt_inj.mp hd
  have he := Int32.toInt_inj.mp he
  subst ha hd he hk'
  refine ⟨kt_oth_t h.1 (kt_set_o hc), fun j hj => ?_⟩
  have e := hc s hs.1 (by omega) j hj
  have hq2 := h.2 q.toNatClampNeg (by omega)
  rw [if_neg (by omega), if_neg (by omega), if_neg (by omega), if_neg (by omega), if_neg (by omega)] at hq2
  have hj2 := h.2 j hj
  by_cases c : (j : Int) = k.toInt
  · have ej : q.toNatClampNeg = j + 1 := by omega
    rw [if_pos ⟨rfl, c⟩, if_pos ⟨rfl, c⟩, if_pos ⟨rfl, c⟩] at e
    rw [e.1, e.2.1, e.2.2, hq2.1, hq2.2.1, hq2.2.2, ej, if_neg (by omega), if_neg (by omega), if_pos (by omega), if_pos (by omega), if_pos (by omega)]
    exact ⟨rfl, rfl, rfl⟩
  · rw [if_neg (fun q => c q.2), if_neg (fun q => c q.2), if_neg (fun q => c q.2)] at e
    rw [e.1, e.2.1, e.2.2, hj2.1, hj2.2.1, hj2.2.2]
    refine ⟨?_, ?_, ?_⟩ <;> ((repeat any_goals split) <;> first | rfl | (exfalso; omega))
theorem kt_jl_e {m0 m : Nat → Int32} {s k : Int} {i q n n' a b : Int32} (h : kt_jl m0 m s i.toInt k) (hi : 0 ≤ i.toInt) (h1 : i.toInt + 1 < n.toInt) (hn : n.toInt ≤ 40) (hq : q.toInt = i.toInt + 1) (ha : a.toInt = (kt_w m0 s i.toNatClampNeg).toInt) (hb : b.toInt = (kt_w m0 s q.toNatClampNeg).toInt) (hw : (a + b).toInt ≤ 999) (hk : n.toInt ≤ k + 1) (hk2 : k + 1 ≤ n.toInt) (hm : n'.toInt = (n - 1).toInt) (hmi : n'.toInt = n.toInt - 1) : kt_st n' (kt_w m s) (kt_d m s) (kt_a m s) = kt_join i (kt_st n (kt_w m0 s) (kt_d m0 s) (kt_a m0 s)) := by
  have eq : q.toNatClampNeg = i.toNatClampNeg + 1 := kt_cl_n hi hq
  rw [eq] at hb
  have ha := Int32.toInt_inj.mp ha
  have hb := Int32.toInt_inj.mp hb
  subst ha hb
  have ei : i.toNatClampNeg = i.toInt.toNat := rfl
  refine kt_join_y hi h1 hw (kt_i1 hm) hmi (fun j hj => ?_) (fun j hj => ?_) (fun j hj => ?_)
  · rw [(h.2 j (by omega)).1]
    by_cases c1 : (j : Int) < i.toInt
    · rw [if_pos c1, if_pos c1]
    · rw [if_neg c1, if_neg c1]
      by_cases c2 : (j : Int) = i.toInt
      · rw [if_pos c2, if_pos c2]
        rfl
      · rw [if_neg c2, if_neg c2, if_pos (by omega)]
  · rw [(h.2 j (by omega)).2.1]
    by_cases c1 : (j : Int) ≤ i.toInt
    · rw [if_pos c1, if_neg (by omega)]
    · rw [if_neg c1, if_pos (by omega)]
  · rw [(h.2 j (by omega)).2.2]
    by_cases c1 : (j : Int) ≤ i.toInt
    · rw [if_pos c1, if_neg (by omega)]
    · rw [if_neg c1, if_pos (by omega)]
-- PARTS: shifted up from behind i
def kt_pl (m0 m : Nat → Int32) (s k n : Int) : Prop := kt_oth m0 m s ∧ ∀ j : Nat, j < 40 → (j : Int) ≤ n → kt_w m s j = (if k < (j : Int) then kt_w m0 s (j - 1) else kt_w m0 s j) ∧ kt_d m s j = (if k < (j : Int) then kt_d m0 s (j - 1) else kt_d m0 s j) ∧ kt_a m s j = (if k < (j : Int) then kt_a m0 s (j - 1) else kt_a m0 s j)
theorem kt_pl_0 {m : Nat → Int32} {s k n : Int} (hk : k = n) : kt_pl m m s k n := ⟨kt_oth_r, fun j hj hn => by rw [if_neg (by omega), if_neg (by omega), if_neg (by omega)]; exact ⟨rfl, rfl, rfl⟩⟩
theorem kt_pl_s {m0 m m' : Nat → Int32} {s n k' : Int} {k q a d e : Int32} (h : kt_pl m0 m s k.toInt n) (hs : 0 ≤ s ∧ s ≤ 6) (h0 : 0 < k.toInt) (hk : k.toInt ≤ n) (hk2 : k.toInt ≤ 39) (hq : q.toInt = k.toInt - 1) (hc : kt_set m m' s k.toInt a d e) (ha : a.toInt = (kt_w m s q.toNatClampNeg).toInt) (hd : d.toInt = (kt_d m s q.toNatClampNeg).toInt) (he : e.toInt = (kt_a m s q.toNatClampNeg).toInt) (hk' : k' = k.toInt - 1) : kt_pl m0 m' s k' n := by
  have eq : (q.toNatClampNeg : Int) = q.toInt := kk_tn (by omega)
  have ha := Int32.toInt_inj.mp ha
  have hd := Int32.toInt_inj.mp hd
  have he := Int32.toInt_inj.mp he
  subst ha hd he hk'
  refine ⟨kt_oth_t h.1 (kt_set_o hc), fun j hj hn => ?_⟩
  have e := hc s hs.1 (by omega) j hj
  have hq2 := h.2 q.toNatClampNeg (by omega) (by omega)
  rw [if_neg (by omega), if_neg (by omega), if_neg (by omega)] at hq2
  have hj2 := h.2 j hj hn
  by_cases c : (j : Int) = k.toInt
  · have ej : q.toNatClampNeg = j - 1 := by omega
    rw [if_pos ⟨rfl, c⟩, if_pos ⟨rfl, c⟩, if_pos ⟨rfl, c⟩] at e
    rw [e.1, e.2.1, e.2.2, hq2.1, hq2.2.1, hq2.2.2, ej, if_pos (by omega), if_pos (by omega), if_pos (by omega)]
    exact ⟨rfl, rfl, rfl⟩
  · rw [if_neg (fun q => c q.2), if_neg (fun q => c q.2), if_neg (fun q => c q.2)] at e
    rw [e.1, e.2.1, e.2.2, hj2.1, hj2.2.1, hj2.2.2]
    by_cases c3 : k.toInt < (j : Int)
    · rw [if_pos c3, if_pos c3, if_pos c3, if_pos (by omega), if_pos (by omega), if_pos (by omega)]
      exact ⟨rfl, rfl, rfl⟩
    · rw [if_neg c3, if_neg c3, if_neg c3, if_neg (by omega), if_neg (by omega), if_neg (by omega)]
      exact ⟨rfl, rfl, rfl⟩
theorem kt_pl_e {m0 m m1 m2 : Nat → Int32} {s k : Int} {i q n n' a d e d2 h2 x z : Int32} (h : kt_pl m0 m s k n.toInt) (hs : 0 ≤ s ∧ s ≤ 6) (hi : 0 ≤ i.toInt) (h1 : i.toInt < n.toInt) (hn : n.toInt < 40) (hq : q.toInt = i.toInt + 1) (hk : k = i.toInt + 1) (ha : a.toInt = (kt_w m s i.toNatClampNeg).toInt) (hw : 1 < a.toInt) (hd : d.toInt = (kt_d m s i.toNatClampNeg).toInt) (he : e.toInt = (kt_a m s i.toNatClampNeg).toInt) (hh : h2 = a / 2) (hx : x = a - a / 2) (hz : z = 0) (e1 : kt_set m m1 s i.toInt h2 d e) (hd2 : d2.toInt = (kt_d m1 s i.toNatClampNeg).toInt) (e2 : kt_set m1 m2 s q.toInt x d2 z) (hm : n'.toInt = (n + 1).toInt) (hmi : n'.toInt = n.toInt + 1) : kt_oth m0 m2 s ∧ kt_st n' (kt_w m2 s) (kt_d m2 s) (kt_a m2 s) = kt_part i (kt_st n (kt_w m0 s) (kt_d m0 s) (kt_a m0 s)) := by
  have ei : (i.toNatClampNeg : Int) = i.toInt := kk_tn hi
  have g := h.2 i.toNatClampNeg (by omega) (by omega)
  rw [if_neg (by omega), if_neg (by omega), if_neg (by omega)] at g
  rw [g.1] at ha
  rw [g.2.1] at hd
  rw [g.2.2] at he
  have g1 := (e1 s hs.1 (by omega) i.toNatClampNeg (by omega)).2.1
  rw [if_pos ⟨rfl, ei⟩] at g1
  rw [g1] at hd2
  have ha := Int32.toInt_inj.mp ha
  have hd := Int32.toInt_inj.mp hd
  have he := Int32.toInt_inj.mp he
  have hd2 := Int32.toInt_inj.mp hd2
  subst hd2
  subst ha
  subst hd he hh hx hz
  refine ⟨kt_oth_t h.1 (kt_oth_t (kt_set_o e1) (kt_set_o e2)), ?_⟩
  have hall : ∀ j : Nat, (j : Int) < n.toInt + 1 → kt_w m2 s j = (if (j : Int) = q.toInt then kt_w m0 s i.toNatClampNeg - kt_w m0 s i.toNatClampNeg / 2 else if (j : Int) = i.toInt then kt_w m0 s i.toNatClampNeg / 2 else if k < (j : Int) then kt_w m0 s (j - 1) else kt_w m0 s j) ∧ kt_d m2 s j = (if (j : Int) = q.toInt then kt_d m0 s i.toNatClampNeg else if (j : Int) = i.toInt then kt_d m0 s i.toNatClampNeg else if k < (j : Int) then kt_d m0 s (j - 1) else kt_d m0 s j) ∧ kt_a m2 s j = (if (j : Int) = q.toInt then 0 else if (j : Int) = i.toInt then kt_a m0 s i.toNatClampNeg else if k < (j : Int) then kt_a m0 s (j - 1) else kt_a m0 s j) := by
    intro j hj
    have u2 := e2 s hs.1 (by omega) j (by omega)
    have u1 := e1 s hs.1 (by omega) j (by omega)
    have u0 := h.2 j (by omega) (by omega)
    by_cases c : (j : Int) = q.toInt
    · rw [if_pos ⟨rfl, c⟩, if_pos ⟨rfl, c⟩, if_pos ⟨rfl, c⟩] at u2
      rw [u2.1, u2.2.1, u2.2.2, if_pos c, if_pos c, if_pos c]
      exact ⟨rfl, rfl, rfl⟩
    · rw [if_neg (fun q => c q.2), if_neg (fun q => c q.2), if_neg (fun q => c q.2)] at u2
      rw [u2.1, u2.2.1, u2.2.2, if_neg c, if_neg c, if_neg c]
      by_cases c2 : (j : Int) = i.toInt
      · rw [if_pos ⟨rfl, c2⟩, if_pos ⟨rfl, c2⟩, if_pos ⟨rfl, c2⟩] at u1
        rw [u1.1, u1.2.1, u1.2.2, if_pos c2, if_pos c2, if_pos c2]
        exact ⟨rfl, rfl, rfl⟩
      · rw [if_neg (fun q => c2 q.2), if_neg (fun q => c2 q.2), if_neg (fun q => c2 q.2)] at u1
        rw [u1.1, u1.2.1, u1.2.2, if_neg c2, if_neg c2, if_neg c2]
        exact u0
  refine kt_part_y hi h1 hw hn (kt_i2 hm) hmi (fun j hj => ?_) (fun j hj => ?_) (fun j hj => ?_)
  · rw [(hall j hj).1]
    (repeat any_goals split) <;> first | rfl | (exfalso; omega)
  · rw [(hall j hj).2.1]
    by_cases c1 : (j : Int) ≤ i.toInt
    · rw [if_pos c1, if_neg (by omega)]
      by_cases c2 : (j : Int) = i.toInt
      · rw [if_pos c2, show i.toNatClampNeg = j from by omega]
      · rw [if_neg c2, if_neg (by omega)]
    · rw [if_neg c1]
      by_cases c3 : (j : Int) = i.toInt + 1
      · rw [if_pos (by omega), show i.toNatClampNeg = j - 1 from by omega]
      · rw [if_neg (by omega), if_neg (by omega), if_pos (by omega)]
  · rw [(hall j hj).2.2]
    by_cases c1 : (j : Int) ≤ i.toInt
    · rw [if_pos c1, if_neg (by omega)]
      by_cases c2 : (j : Int) = i.toInt
      · rw [if_pos c2, show i.toNatClampNeg = j from by omega]
      · rw [if_neg c2, if_neg (by omega)]
    · rw [if_neg c1]
      by_cases c3 : (j : Int) = i.toInt + 1
      · rw [if_pos (by omega), if_pos c3]
      · rw [if_neg (by omega), if_neg (by omega), if_pos (by omega), if_neg c3]
theorem kt_set_asd {m m' : Nat → Int32} {s : Int} {n i w d v a : Int32} (h : kt_set m m' s i.toInt w d v) (hs : 0 ≤ s ∧ s ≤ 6) (hi : 0 < i.toInt) (h1 : i.toInt < n.toInt) (hn : n.toInt ≤ 40) (hw : w.toInt = (kt_w m s i.toNatClampNeg).toInt) (hd : d.toInt = (kt_d m s i.toNatClampNeg).toInt) (ha : a.toInt = (kt_a m s i.toNatClampNeg).toInt) (hv : ((a + 5).toInt ≤ 99 ∧ v.toInt = (a + 5).toInt) ∨ (99 < (a + 5).toInt ∧ v.toInt = 99)) : kt_st n (kt_w m' s) (kt_d m' s) (kt_a m' s) = kt_asd i (kt_st n (kt_w m s) (kt_d m s) (kt_a m s)) := by
  have ei : (i.toNatClampNeg : Int) = i.toInt := kk_tn (by omega)
  have hw := Int32.toInt_inj.mp hw
  have hd := Int32.toInt_inj.mp hd
  have ha := Int32.toInt_inj.mp ha
  subst hw hd ha
  refine kt_asd_y hi h1 hv (fun j hj => ?_) (fun j hj => ?_) (fun j hj => ?_)
  · rw [(h s hs.1 (by omega) j (by omega)).1]
    by_cases c : (j : Int) = i.toInt
    · rw [if_pos ⟨rfl, c⟩, show i.toNatClampNeg = j from by omega]
    · rw [if_neg (fun q => c q.2)]
  · rw [(h s hs.1 (by omega) j (by omega)).2.1]
    by_cases c : (j : Int) = i.toInt
    · rw [if_pos ⟨rfl, c⟩, show i.toNatClampNeg = j from by omega]
    · rw [if_neg (fun q => c q.2)]
  · rw [(h s hs.1 (by omega) j (by omega)).2.2]
    by_cases c : (j : Int) = i.toInt
    · rw [if_pos ⟨rfl, c⟩, if_pos c]
    · rw [if_neg (fun q => c q.2), if_neg c]
-- a new TOWN
def kt_new (m : Nat → Int32) (s k : Int) (x y z : Int32) : Prop := ∀ j : Nat, (j : Int) < k → kt_w m s j = x ∧ kt_d m s j = y ∧ kt_a m s j = z
theorem kt_new_0 {m : Nat → Int32} {s k : Int} {x y z : Int32} (h : k ≤ 0) : kt_new m s k x y z := fun j hj => absurd hj (by omega)
theorem kt_new_s {m m' : Nat → Int32} {s k k' : Int} {x y z : Int32} (h : kt_new m s k x y z) (hs : 0 ≤ s ∧ s ≤ 6) (hk : 0 ≤ k ∧ k ≤ 39) (hc : kt_set m m' s k x y z) (hk' : k' = k + 1) : kt_new m' s k' x y z := by
  subst hk'
  intro j hj
  have e := hc s hs.1 (by omega) j (by omega)
  by_cases c : (j : Int) = k
  · rw [if_pos ⟨rfl, c⟩, if_pos ⟨rfl, c⟩, if_pos ⟨rfl, c⟩] at e
    exact e
  · rw [if_neg (fun q => c q.2), if_neg (fun q => c q.2), if_neg (fun q => c q.2)] at e
    rw [e.1, e.2.1, e.2.2]
    exact h j (by omega)
theorem kt_new_e {m : Nat → Int32} {s : Int} {n n' x y z : Int32} (h : kt_new m s n.toInt x y z) (hn : n.toInt = n'.toInt) : kt_st n (kt_w m s) (kt_d m s) (kt_a m s) = kt_st n' (fun _ => x) (fun _ => y) (fun _ => z) := kt_st_e (Int32.toInt_inj.mp hn) (fun j hj => (h j hj).1) (fun j hj => (h j hj).2.1) (fun j hj => (h j hj).2.2)
-- the LAWS that are kept are TEXTS
def kt_lv (text many : Nat → Int32) (n : Int) : Prop := ∀ l : Nat, (l : Int) < n → kr_T (kr_at (kr_sh text (120 * (l : Int))) (many l).toInt) (many l).toInt ((many l).toInt + 1) 0 = -1
theorem kt_lv_at {text many : Nat → Int32} {n b : Int} {l : Int32} (h : kt_lv text many n) (h0 : 0 ≤ l.toInt) (h1 : l.toInt < n) (hb : b = 120 * l.toInt) : kr_T (kr_at (kr_sh text b) (many l.toNatClampNeg).toInt) (many l.toNatClampNeg).toInt ((many l.toNatClampNeg).toInt + 1) 0 = -1 := by
  have e := h l.toNatClampNeg (by have := kk_tn h0; omega)
  rw [kk_tn h0, ← hb] at e
  exact e
-- a TEXT becomes a LAW: copied behind those that are there
def kt_cp (f g t : Nat → Int32) (b k : Int) : Prop := ∀ j : Nat, g j = (if b ≤ (j : Int) ∧ (j : Int) < b + k then t ((j : Int) - b).toNat else f j)
theorem kt_cp_0 {f t : Nat → Int32} {b k : Int} (h : k ≤ 0) : kt_cp f f t b k := fun j => (if_neg (by omega)).symm
theorem kt_cp_s {f g t : Nat → Int32} {b k' : Int} {x k : Int32} (h : kt_cp f g t b k.toInt) (hb : 0 ≤ b) (hk : 0 ≤ k.toInt) (hx : x.toInt = b + k.toInt) (hk' : k' = k.toInt + 1) : kt_cp f (upd g x.toNatClampNeg (t k.toNatClampNeg)) t b k' := by
  subst hk'
  have ex : (x.toNatClampNeg : Int) = x.toInt := kk_tn (by omega)
  have ek : (k.toNatClampNeg : Int) = k.toInt := kk_tn hk
  intro j
  unfold upd
  by_cases c : j = x.toNatClampNeg
  · rw [if_pos c, if_pos (by omega), show k.toNatClampNeg = ((j : Int) - b).toNat from by omega]
  · rw [if_neg c, h j]
    by_cases d : b ≤ (j : Int) ∧ (j : Int) < b + k.toInt
    · rw [if_pos d, if_pos (by omega)]
    · rw [if_neg d, if_neg (by omega)]
theorem kt_cp_w {f g t : Nat → Int32} {b k k' : Int} (h : kt_cp f g t b k) (e : k = k') : kt_cp f g t b k' := e ▸ h
-- what ties the LAWS of both
def kt_cv (n : Int) (SG : Nat → Nat → Int32) (SZ : Nat → Int32) (text many : Nat → Int32) : Prop := ∀ l : Nat, l < 4 → (l : Int) < n → (0 ≤ (many l).toInt ∧ (many l).toInt ≤ 120) ∧ kr_T (kr_at (kr_sh text (120 * (l : Int))) (many l).toInt) (many l).toInt ((many l).toInt + 1) 0 = -1 ∧ kg_sI (SG l) (SZ l).toInt = kq_T (kr_at (kr_sh text (120 * (l : Int))) (many l).toInt) (many l).toInt ((many l).toInt + 1) 0
theorem kt_cv_0 {SG : Nat → Nat → Int32} {SZ text many : Nat → Int32} : kt_cv 0 SG SZ text many := fun l _ h => absurd h (by omega)
theorem kt_cv_lv {n : Int} {SG : Nat → Nat → Int32} {SZ text many : Nat → Int32} (h : kt_cv n SG SZ text many) (hn : n ≤ 4) : kt_lv text many n := fun l hl => (h l (by omega) hl).2.1
theorem kt_cv_V {n : Int} {SG : Nat → Nat → Int32} {SZ text many : Nat → Int32} {l : Int32} {k : Nat} {b : Int} (h : kt_cv n SG SZ text many) (h0 : 0 ≤ l.toInt) (h1 : l.toInt < n) (hn : n ≤ 4) (hk : (k : Int) = l.toInt) (hb : b = 120 * l.toInt) : (fun nm_ => kg_run nm_ (kg_sI (SG k) (SZ k).toInt) false []) = (fun nm_ => kv_T (kr_at (kr_sh text b) (many l.toNatClampNeg).toInt) nm_ (many l.toNatClampNeg).toInt ((many l.toNatClampNeg).toInt + 1) 0) := by
  have el : l.toNatClampNeg = k := by have := kk_tn h0; omega
  obtain ⟨_, h2, h3⟩ := h k (by omega) (by omega)
  rw [el, hb, ← hk]
  funext nm
  rw [h3]
  exact kg_T h2
theorem kr_sh_eq {f g : Nat → Int32} {b n : Int} (hb : 0 ≤ b) (h : ∀ j : Nat, (j : Int) < n → f (b.toNat + j) = g (b.toNat + j)) : kr_at (kr_sh f b) n = kr_at (kr_sh g b) n := kr_at_eq (fun j hj => h j hj)
theorem kt_cv_set {n n' m : Int} {SG : Nat → Nat → Int32} {SZ text text' many tape sg : Nat → Int32} {u v sz : Int32} {k : Nat} (h : kt_cv n SG SZ text many) (hu : u.toInt = n) (h0 : 0 ≤ n) (hn : n ≤ 3) (hn' : n' = n + 1) (hk : (k : Int) = n) (hc : kt_cp text text' tape (120 * n) m) (hv : v.toInt = m) (hm : 0 ≤ m ∧ m ≤ 120) (ht : kr_T (kr_at tape m) m (m + 1) 0 = -1) (hs : kg_sI sg sz.toInt = kq_T (kr_at tape m) m (m + 1) 0) : kt_cv n' (va_up SG k sg) (va_up SZ k sz) text' (upd many u.toNatClampNeg v) := by
  have eu : u.toNatClampNeg = k := by have := kk_tn (x := u) (by omega); omega
  rw [eu]
  intro l hl hln
  unfold upd
  by_cases c : l = k
  · rw [c, va_up_self, va_up_self, if_pos rfl, hv]
    have e : kr_at (kr_sh text' (120 * (k : Int))) m = kr_at tape m := by
      refine kr_at_eq (fun j hj => ?_)
      show text' ((120 * (k : Int)).toNat + j) = tape j
      rw [hc ((120 * (k : Int)).toNat + j), if_pos (by omega)]
      congr 1
      omega
    rw [e]
    exact ⟨hm, ht, hs⟩
  · rw [va_up_ne _ _ c, va_up_ne _ _ c, if_neg c]
    obtain ⟨a1, a2, a3⟩ := h l hl (by omega)
    have e : kr_at (kr_sh text' (120 * (l : Int))) (many l).toInt = kr_at (kr_sh text (120 * (l : Int))) (many l).toInt := by
      refine kr_at_eq (fun j hj => ?_)
      show text' ((120 * (l : Int)).toNat + j) = text ((120 * (l : Int)).toNat + j)
      rw [hc ((120 * (l : Int)).toNat + j), if_neg (by omega)]
    rw [e]
    exact ⟨a1, a2, a3⟩
theorem kt_cv_n {n : Int} {SG : Nat → Nat → Int32} {SZ text many sg : Nat → Int32} {sz : Int32} {k : Nat} (h : kt_cv n SG SZ text many) (hk : n ≤ (k : Int) ∨ (sg = SG k ∧ sz = SZ k)) : kt_cv n (va_up SG k sg) (va_up SZ k sz) text many := by
  intro l hl hln
  by_cases c : l = k
  · subst c
    rcases hk with hk | ⟨h1, h2⟩
    · omega
    · rw [va_up_self, va_up_self, h1, h2]
      exact h l hl hln
  · rw [va_up_ne _ _ c, va_up_ne _ _ c]
    exact h l hl hln
-- what ties the STREETS of both
def kt_cw (n : Int) (SZ : Nat → Int32) (W D A : Nat → Nat → Int32) (plots may : Nat → Int32) : Prop := ∀ s : Nat, s < 6 → ((s : Int) < n → kt_st (SZ s) (W s) (D s) (A s) = kt_st (plots s) (kt_w may (s : Int)) (kt_d may (s : Int)) (kt_a may (s : Int))) ∧ (n ≤ (s : Int) → (SZ s).toInt = 0)
theorem kt_cw_at {n : Int} {SZ : Nat → Int32} {W D A : Nat → Nat → Int32} {plots may : Nat → Int32} {s : Int32} {k : Nat} (h : kt_cw n SZ W D A plots may) (h0 : 0 ≤ s.toInt) (h1 : s.toInt < n) (h6 : s.toInt < 6) (hk : (k : Int) = s.toInt) : kt_st (SZ k) (W k) (D k) (A k) = kt_st (plots s.toNatClampNeg) (kt_w may s.toInt) (kt_d may s.toInt) (kt_a may s.toInt) := by
  have el : s.toNatClampNeg = k := by have := kk_tn h0; omega
  rw [el, ← hk]
  exact (h k (by omega)).1 (by omega)
theorem kt_oth_st {m m' plots plots' : Nat → Int32} {s t : Int} {j : Nat} (h : kt_oth m m' s) (hp : plots' j = plots j) (ht : 0 ≤ t ∧ t < 7) (hts : t ≠ s) (hn : (plots j).toInt ≤ 40) : kt_st (plots' j) (kt_w m' t) (kt_d m' t) (kt_a m' t) = kt_st (plots j) (kt_w m t) (kt_d m t) (kt_a m t) := by
  rw [hp]
  refine kt_st_e rfl (fun q hq => ?_) (fun q hq => ?_) (fun q hq => ?_)
  · exact (h t ht.1 ht.2 hts q (by omega)).1
  · exact (h t ht.1 ht.2 hts q (by omega)).2.1
  · exact (h t ht.1 ht.2 hts q (by omega)).2.2
theorem kt_cw_set {n n' : Int} {SZ : Nat → Int32} {W D A : Nat → Nat → Int32} {plots plots' may may' w d a : Nat → Int32} {k : Nat} {sz s : Int32} (h : kt_cw n SZ W D A plots may) (hb : ∀ j : Nat, j < 7 → 0 ≤ (plots j).toInt ∧ (plots j).toInt ≤ 40) (h0 : 0 ≤ s.toInt) (h6 : s.toInt < 6) (hk : (k : Int) = s.toInt) (ho : kt_oth may may' s.toInt) (hp : kk_ps s.toInt plots plots') (hn : n' = n ∧ s.toInt < n ∨ n' = n + 1 ∧ s.toInt = n) (e : kt_st sz w d a = kt_st (plots' s.toNatClampNeg) (kt_w may' s.toInt) (kt_d may' s.toInt) (kt_a may' s.toInt)) : kt_cw n' (va_up SZ k sz) (va_up W k w) (va_up D k d) (va_up A k a) plots' may' := by
  have el : s.toNatClampNeg = k := by have := kk_tn h0; omega
  rw [el, ← hk] at e
  intro j hj
  by_cases c : j = k
  · subst c
    rw [va_up_self, va_up_self, va_up_self, va_up_self]
    exact ⟨fun _ => e, fun q => by omega⟩
  · rw [va_up_ne _ _ c, va_up_ne _ _ c, va_up_ne _ _ c, va_up_ne _ _ c]
    obtain ⟨h1, h2⟩ := h j hj
    refine ⟨fun q => ?_, fun q => h2 (by omega)⟩
    rw [h1 (by omega)]
    exact (kt_oth_st ho (hp j (by omega) (by omega)) (by omega) (by omega) (hb j (by omega)).2).symm
theorem kt_cw_n {n : Int} {SZ : Nat → Int32} {W D A : Nat → Nat → Int32} {plots plots' may may' w d a : Nat → Int32} {k : Nat} {sz : Int32} {s : Int} (h : kt_cw n SZ W D A plots may) (hb : ∀ j : Nat, j < 7 → 0 ≤ (plots j).toInt ∧ (plots j).toInt ≤ 40) (e : kt_st sz w d a = kt_st (SZ k) (W k) (D k) (A k)) (hs : n ≤ s ∨ (plots' = plots ∧ may' = may)) (ho : kt_oth may may' s) (hp : kk_ps s plots plots') : kt_cw n (va_up SZ k sz) (va_up W k w) (va_up D k d) (va_up A k a) plots' may' := by
  have key : ∀ j : Nat, j < 6 → (j : Int) < n → kt_st (plots' j) (kt_w may' (j : Int)) (kt_d may' (j : Int)) (kt_a may' (j : Int)) = kt_st (plots j) (kt_w may (j : Int)) (kt_d may (j : Int)) (kt_a may (j : Int)) := fun j hj hjn => by
    rcases hs with hs | ⟨h1, h2⟩
    · exact kt_oth_st ho (hp j (by omega) (by omega)) (by omega) (by omega) (hb j (by omega)).2
    · rw [h1, h2]
  intro j hj
  obtain ⟨h1, h2⟩ := h j hj
  by_cases c : j = k
  · subst c
    rw [va_up_self, va_up_self, va_up_self, va_up_self]
    refine ⟨fun q => ?_, fun q => ?_⟩
    · rw [e, h1 q, key j hj q]
    · have e1 : sz = SZ j := (kt_st_i e).1
      rw [e1]
      exact h2 q
  · rw [va_up_ne _ _ c, va_up_ne _ _ c, va_up_ne _ _ c, va_up_ne _ _ c]
    exact ⟨fun q => by rw [h1 q, key j hj q], h2⟩
theorem kt_cw_str {n n' : Int} {SZ : Nat → Int32} {W D A : Nat → Nat → Int32} {plots plots' may : Nat → Int32} {s : Int32} (h : kt_cw n SZ W D A plots may) (hs : s.toInt = n) (h0 : 0 ≤ n) (h6 : n < 6) (hn : n' = n + 1) (hp : kk_ps s.toInt plots plots') (e : (plots' s.toNatClampNeg).toInt = 0) : kt_cw n' SZ W D A plots' may := by
  have el : (s.toNatClampNeg : Int) = n := by have := kk_tn (x := s) (by omega); omega
  intro j hj
  obtain ⟨h1, h2⟩ := h j hj
  refine ⟨fun q => ?_, fun q => h2 (by omega)⟩
  by_cases c : (j : Int) = n
  · have e1 : (SZ j).toInt = 0 := h2 (by omega)
    have ej : s.toNatClampNeg = j := by omega
    rw [ej] at e
    refine kt_st_e (Int32.toInt_inj.mp (e1.trans e.symm)) (fun q hq => ?_) (fun q hq => ?_) (fun q hq => ?_) <;> omega
  · rw [h1 (by omega), hp j (by omega) (by omega)]
theorem kt_cw_ps {n n' : Int} {SZ : Nat → Int32} {W D A : Nat → Nat → Int32} {plots plots' may : Nat → Int32} {s : Int} (h : kt_cw n SZ W D A plots may) (hn : n' = n) (hp : kk_ps s plots plots') (hs : n ≤ s) : kt_cw n' SZ W D A plots' may := by
  subst hn
  intro j hj
  obtain ⟨h1, h2⟩ := h j hj
  refine ⟨fun q => ?_, h2⟩
  rw [h1 q, hp j (by omega) (by omega)]
-- a PLOT comes
noncomputable def kt_app (w d a : Int32) (S : kt_S) : kt_S := kt_st (S.1 + 1) (fun j => if (j : Int) = S.1.toInt then w else S.2.1 j) (fun j => if (j : Int) = S.1.toInt then d else S.2.2.1 j) (fun j => if (j : Int) = S.1.toInt then a else S.2.2.2 j)
theorem kt_app_y {n m w d a : Int32} {W D A W' D' A' : Nat → Int32} (hm : m.toInt = (n + 1).toInt) (hmi : m.toInt = n.toInt + 1) (eW : ∀ j : Nat, (j : Int) ≤ n.toInt → W' j = (if (j : Int) = n.toInt then w else W j)) (eD : ∀ j : Nat, (j : Int) ≤ n.toInt → D' j = (if (j : Int) = n.toInt then d else D j)) (eA : ∀ j : Nat, (j : Int) ≤ n.toInt → A' j = (if (j : Int) = n.toInt then a else A j)) : kt_st m W' D' A' = kt_app w d a (kt_st n W D A) := by
  show _ = kt_st (n + 1) (fun j => if (j : Int) = n.toInt then w else kt_tr n W j) (fun j => if (j : Int) = n.toInt then d else kt_tr n D j) (fun j => if (j : Int) = n.toInt then a else kt_tr n A j)
  refine kt_st_e (kt_i2 hm) (fun j hj => ?_) (fun j hj => ?_) (fun j hj => ?_)
  · rw [eW j (by omega)]
    by_cases c : (j : Int) = n.toInt
    · rw [if_pos c, if_pos c]
    · rw [if_neg c, if_neg c, kt_tr_v (by omega)]
  · rw [eD j (by omega)]
    by_cases c : (j : Int) = n.toInt
    · rw [if_pos c, if_pos c]
    · rw [if_neg c, if_neg c, kt_tr_v (by omega)]
  · rw [eA j (by omega)]
    by_cases c : (j : Int) = n.toInt
    · rw [if_pos c, if_pos c]
    · rw [if_neg c, if_neg c, kt_tr_v (by omega)]
theorem kt_app_c {n m w d a : Int32} {W D A W' D' A' : Nat → Int32} (hm : m.toInt = (n + 1).toInt) (hmi : m.toInt = n.toInt + 1) (rW : kt_in W W' n.toInt n.toInt w) (rD : kt_in D D' n.toInt n.toInt d) (rA : kt_in A A' n.toInt n.toInt a) : kt_st m W' D' A' = kt_app w d a (kt_st n W D A) := by
  refine kt_app_y hm hmi (fun j hj => ?_) (fun j hj => ?_) (fun j hj => ?_)
  · rw [rW j hj]
    (repeat any_goals split) <;> first | rfl | (exfalso; omega)
  · rw [rD j hj]
    (repeat any_goals split) <;> first | rfl | (exfalso; omega)
  · rw [rA j hj]
    (repeat any_goals split) <;> first | rfl | (exfalso; omega)
theorem kt_app_r {n n' w d a i : Int32} {m m' : Nat → Int32} {s : Int} (hs : 0 ≤ s ∧ s ≤ 6) (h0 : 0 ≤ n.toInt ∧ n.toInt ≤ 39) (hi : i.toInt = n.toInt) (h : kt_set m m' s i.toInt w d a) (hm : n'.toInt = (n + 1).toInt) (hmi : n'.toInt = n.toInt + 1) : kt_st n' (kt_w m' s) (kt_d m' s) (kt_a m' s) = kt_app w d a (kt_st n (kt_w m s) (kt_d m s) (kt_a m s)) := by
  rw [hi] at h
  refine kt_app_y hm hmi (fun j hj => ?_) (fun j hj => ?_) (fun j hj => ?_)
  · rw [(h s hs.1 (by omega) j (by omega)).1]
    (repeat any_goals split) <;> first | rfl | (exfalso; omega)
  · rw [(h s hs.1 (by omega) j (by omega)).2.1]
    (repeat any_goals split) <;> first | rfl | (exfalso; omega)
  · rw [(h s hs.1 (by omega) j (by omega)).2.2]
    (repeat any_goals split) <;> first | rfl | (exfalso; omega)
-- PLOTS out of a ROW: what comes, as long as it may
def kt_can (e : Nat → Int64) (sz p : Int) (S : kt_S) : Prop := S.1.toInt < 40 ∧ 0 ≤ p ∧ p + 3 ≤ sz ∧ 1 ≤ (e p.toNat).toInt32.toInt ∧ (e p.toNat).toInt32.toInt ≤ 999 ∧ 0 ≤ (e (p.toNat + 1)).toInt32.toInt ∧ (e (p.toNat + 1)).toInt32.toInt ≤ 999 ∧ ((S.1.toInt = 0 ∧ (e (p.toNat + 2)).toInt32.toInt = 0) ∨ (S.1.toInt ≠ 0 ∧ -99 ≤ (e (p.toNat + 2)).toInt32.toInt ∧ (e (p.toNat + 2)).toInt32.toInt ≤ 99))
noncomputable def kt_put (e : Nat → Int64) (p : Int) (S : kt_S) : kt_S := kt_app (e p.toNat).toInt32 (e (p.toNat + 1)).toInt32 (e (p.toNat + 2)).toInt32 S
noncomputable def kt_pls (e : Nat → Int64) (sz i : Int) : Nat → Int → kt_S → Int × kt_S
  | 0, c, S => (c, S)
  | f + 1, c, S => @ite (Int × kt_S) (kt_can e sz (i + 3 * c) S) (Classical.propDecidable _) (kt_pls e sz i f (c + 1) (kt_put e (i + 3 * c) S)) (c, S)
theorem kt_pls_1 {e : Nat → Int64} {sz i n c c' p : Int} {S S' : kt_S} (h : c < n) (hp : p = i + 3 * c) (hc : kt_can e sz p S) (hS : S' = kt_put e p S) (hc' : c' = c + 1) : kt_pls e sz i (n - c).toNat c S = kt_pls e sz i (n - c').toNat c' S' := by
  subst hp hS hc'
  obtain ⟨g, hg⟩ : ∃ g : Nat, (n - c).toNat = g + 1 := ⟨(n - c).toNat - 1, by omega⟩
  rw [hg, show (n - (c + 1)).toNat = g from by omega]
  show @ite (Int × kt_S) (kt_can e sz (i + 3 * c) S) (Classical.propDecidable _) (kt_pls e sz i g (c + 1) (kt_put e (i + 3 * c) S)) (c, S) = _
  rw [if_pos hc]
theorem kt_pls_0 {e : Nat → Int64} {sz i n c p : Int} {S : kt_S} (hp : p = i + 3 * c) (hc : n ≤ c ∨ ¬ kt_can e sz p S) : kt_pls e sz i (n - c).toNat c S = (c, S) := by
  subst hp
  cases hg : (n - c).toNat with
  | zero => rfl
  | succ g =>
    show @ite (Int × kt_S) (kt_can e sz (i + 3 * c) S) (Classical.propDecidable _) (kt_pls e sz i g (c + 1) (kt_put e (i + 3 * c) S)) (c, S) = _
    rw [if_neg (by rcases hc with hc | hc; exact absurd hg (by omega); exact hc)]
theorem kt_pls_w {e e' : Nat → Int64} {sz i : Int} (h : ∀ j : Nat, (j : Int) < sz → e j = e' j) : ∀ (f : Nat) (c : Int) (S : kt_S), kt_pls e sz i f c S = kt_pls e' sz i f c S := by
  have hc : ∀ (p : Int) (S : kt_S), kt_can e sz p S ↔ kt_can e' sz p S := fun p S => by
    unfold kt_can
    by_cases hp : 0 ≤ p ∧ p + 3 ≤ sz
    · rw [h p.toNat (by omega), h (p.toNat + 1) (by omega), h (p.toNat + 2) (by omega)]
    · exact ⟨fun q => absurd ⟨q.2.1, q.2.2.1⟩ hp, fun q => absurd ⟨q.2.1, q.2.2.1⟩ hp⟩
  intro f
  induction f with
  | zero => exact fun c S => rfl
  | succ f ih =>
    intro c S
    show @ite (Int × kt_S) (kt_can e sz (i + 3 * c) S) (Classical.propDecidable _) (kt_pls e sz i f (c + 1) (kt_put e (i + 3 * c) S)) (c, S) = @ite (Int × kt_S) (kt_can e' sz (i + 3 * c) S) (Classical.propDecidable _) (kt_pls e' sz i f (c + 1) (kt_put e' (i + 3 * c) S)) (c, S)
    by_cases q : kt_can e sz (i + 3 * c) S
    · rw [if_pos q, if_pos ((hc _ _).mp q), ih]
      have q2 := q
      unfold kt_can at q2
      unfold kt_put
      rw [h (i + 3 * c).toNat (by omega), h ((i + 3 * c).toNat + 1) (by omega), h ((i + 3 * c).toNat + 2) (by omega)]
    · rw [if_neg q, if_neg (fun q2 => q ((hc _ _).mpr q2))]
theorem kt_can_n {e : Nat → Int64} {sz p : Int} {n : Int32} {W D A : Nat → Int32} (h : 40 ≤ n.toInt ∨ p < 0 ∨ sz < p + 3) : ¬ kt_can e sz p (kt_st n W D A) := fun q => by
  have q1 : n.toInt < 40 := q.1
  have q2 := q.2.1
  have q3 := q.2.2.1
  omega
theorem kt_can_i {e : Nat → Int64} {sz : Int} {p x y : Int32} {n : Int32} {W D A : Nat → Int32} {a b c : Int64} (hp : 0 ≤ p.toInt) (hx : x.toInt = p.toInt + 1) (hy : y.toInt = p.toInt + 2) (ha : a = e p.toNatClampNeg) (hb : b = e x.toNatClampNeg) (hc : c = e y.toNatClampNeg) : kt_can e sz p.toInt (kt_st n W D A) ↔ (n.toInt < 40 ∧ 0 ≤ p.toInt ∧ p.toInt + 3 ≤ sz ∧ 1 ≤ a.toInt32.toInt ∧ a.toInt32.toInt ≤ 999 ∧ 0 ≤ b.toInt32.toInt ∧ b.toInt32.toInt ≤ 999 ∧ ((n.toInt = 0 ∧ c.toInt32.toInt = 0) ∨ (n.toInt ≠ 0 ∧ -99 ≤ c.toInt32.toInt ∧ c.toInt32.toInt ≤ 99))) := by
  have e1 : x.toNatClampNeg = p.toInt.toNat + 1 := kt_cl_n hp hx
  have e2 : y.toNatClampNeg = p.toInt.toNat + 2 := by
    have h2 : y.toInt.toNat = p.toInt.toNat + 2 := by omega
    exact h2
  have e0 : p.toNatClampNeg = p.toInt.toNat := rfl
  rw [e0] at ha
  rw [e1] at hb
  rw [e2] at hc
  subst ha hb hc
  exact Iff.rfl
theorem kt_put_i {e : Nat → Int64} {p x y : Int32} {S : kt_S} {a b c : Int64} (hp : 0 ≤ p.toInt) (hx : x.toInt = p.toInt + 1) (hy : y.toInt = p.toInt + 2) (ha : a = e p.toNatClampNeg) (hb : b = e x.toNatClampNeg) (hc : c = e y.toNatClampNeg) : kt_put e p.toInt S = kt_app a.toInt32 b.toInt32 c.toInt32 S := by
  have e1 : x.toNatClampNeg = p.toInt.toNat + 1 := kt_cl_n hp hx
  have e2 : y.toNatClampNeg = p.toInt.toNat + 2 := by
    have h2 : y.toInt.toNat = p.toInt.toNat + 2 := by omega
    exact h2
  have e0 : p.toNatClampNeg = p.toInt.toNat := rfl
  rw [e0] at ha
  rw [e1] at hb
  rw [e2] at hc
  subst ha hb hc
  rfl
theorem kt_i3 {i c : Int32} (h0 : 0 ≤ c.toInt) (h1 : c.toInt ≤ 20) (h : c.toInt = 0 ∨ (0 ≤ i.toInt ∧ i.toInt + 3 * c.toInt ≤ 60)) : (i + 3 * c).toInt = i.toInt + 3 * c.toInt := by
  have m := kk_mul2 (x := 3) (y := c) (a := 3) (b := c.toInt) rfl rfl (by omega) (by omega)
  have r := kk_rng i
  exact kk_add2 (x := i) (y := 3 * c) (a := i.toInt) (b := 3 * c.toInt) rfl m (by omega) (by omega)
-- the reference's elements: 60 a SHELF; its loop
noncomputable def kt_el (it : Nat → Int64) (d : Int) : Nat → Int64 := fun j => it (60 * d.toNat + j)
theorem kt_el_e {it : Nat → Int64} {x j : Int32} {d : Int} (hd : 0 ≤ d) (hj : 0 ≤ j.toInt) (hx : x.toInt = 60 * d + j.toInt) : it x.toNatClampNeg = kt_el it d j.toNatClampNeg := by
  show it x.toInt.toNat = it (60 * d.toNat + j.toInt.toNat)
  rw [show x.toInt.toNat = 60 * d.toNat + j.toInt.toNat from by omega]
def kt_plr (e : Nat → Int64) (sz i n more c : Int) (S : kt_S) (X : Int × kt_S) : Prop := (more = 1 ∧ kt_pls e sz i (n - c).toNat c S = X) ∨ (more = 0 ∧ (c, S) = X)
theorem kt_plr_1 {e : Nat → Int64} {sz i n m m' c c' p : Int} {S S' : kt_S} {X : Int × kt_S} (h : kt_plr e sz i n m c S X) (hm : m ≠ 0) (hc : c < n) (hp : p = i + 3 * c) (hcan : kt_can e sz p S) (hS : S' = kt_put e p S) (hc' : c' = c + 1) (hm' : m' = 1) : kt_plr e sz i n m' c' S' X := by
  rcases h with ⟨_, h⟩ | ⟨h, _⟩
  · exact Or.inl ⟨hm', (kt_pls_1 hc hp hcan hS hc').symm.trans h⟩
  · exact absurd h hm
theorem kt_plr_0 {e : Nat → Int64} {sz i n m m' c p : Int} {S : kt_S} {X : Int × kt_S} (h : kt_plr e sz i n m c S X) (hm : m ≠ 0) (hp : p = i + 3 * c) (hcan : ¬ kt_can e sz p S) (hm' : m' = 0) : kt_plr e sz i n m' c S X := by
  rcases h with ⟨_, h⟩ | ⟨h, _⟩
  · exact Or.inr ⟨hm', (kt_pls_0 hp (Or.inr hcan)).symm.trans h⟩
  · exact absurd h hm
theorem kt_plr_e {e : Nat → Int64} {sz i n m c : Int} {S : kt_S} {X : Int × kt_S} (h : kt_plr e sz i n m c S X) (hm : m = 0 ∨ n ≤ c) : (c, S) = X := by
  rcases h with ⟨h1, h⟩ | ⟨_, h⟩
  · exact (kt_pls_0 rfl (Or.inl (by omega))).symm.trans h
  · exact h
-- what ties the STREETS' sizes of both
def kt_cy (n : Int) (SZ : Nat → Int32) (plots : Nat → Int32) : Prop := ∀ s : Nat, s < 6 → ((s : Int) < n → SZ s = plots s) ∧ (n ≤ (s : Int) → (SZ s).toInt = 0)
theorem kt_cy_at {n : Int} {SZ plots : Nat → Int32} {s : Int32} {k : Nat} (h : kt_cy n SZ plots) (h0 : 0 ≤ s.toInt) (h1 : s.toInt < n) (hk6 : k < 6) (hk : (k : Int) = s.toInt) : (SZ k).toInt = (plots s.toNatClampNeg).toInt := by
  have el : s.toNatClampNeg = k := by have := kk_tn h0; omega
  rw [el, (h k hk6).1 (by omega)]
theorem kt_cy_same {n : Int} {SZ plots : Nat → Int32} {k : Nat} (h : kt_cy n SZ plots) : kt_cy n (va_up SZ k (SZ k)) plots := by
  intro s hs
  by_cases c : s = k
  · subst c
    rw [va_up_self]
    exact h s hs
  · rw [va_up_ne _ _ c]
    exact h s hs
theorem kt_cy_ps {n s : Int} {SZ plots plots' : Nat → Int32} (h : kt_cy n SZ plots) (hp : kk_ps s plots plots') (hs : n ≤ s) : kt_cy n SZ plots' := by
  intro j hj
  obtain ⟨h1, h2⟩ := h j hj
  exact ⟨fun q => by rw [h1 q, hp j (by omega) (by omega)], h2⟩
theorem kt_cy_str {n n' : Int} {SZ plots plots' : Nat → Int32} {s : Int32} (h : kt_cy n SZ plots) (hs : s.toInt = n) (h0 : 0 ≤ n) (h6 : n < 6) (hn : n' = n + 1) (hp : kk_ps s.toInt plots plots') (e : (plots' s.toNatClampNeg).toInt = 0) : kt_cy n' SZ plots' := by
  have el : (s.toNatClampNeg : Int) = n := by have := kk_tn (x := s) (by omega); omega
  intro j hj
  obtain ⟨h1, h2⟩ := h j hj
  refine ⟨fun q => ?_, fun q => h2 (by omega)⟩
  by_cases c : (j : Int) = n
  · have e1 : (SZ j).toInt = 0 := h2 (by omega)
    have ej : s.toNatClampNeg = j := by omega
    rw [ej] at e
    exact Int32.toInt_inj.mp (e1.trans e.symm)
  · rw [h1 (by omega), hp j (by omega) (by omega)]
theorem kt_cy_set {n n' : Int} {SZ plots plots' : Nat → Int32} {s sz : Int32} {k : Nat} (h : kt_cy n SZ plots) (h0 : 0 ≤ s.toInt) (h6 : s.toInt < 6) (hk : (k : Int) = s.toInt) (hn : (n' = n ∧ s.toInt < n) ∨ (n' = n + 1 ∧ s.toInt = n)) (hp : kk_ps s.toInt plots plots') (e : sz = plots' s.toNatClampNeg) : kt_cy n' (va_up SZ k sz) plots' := by
  have el : s.toNatClampNeg = k := by have := kk_tn h0; omega
  rw [el] at e
  intro j hj
  by_cases c : j = k
  · subst c
    rw [va_up_self]
    exact ⟨fun _ => e, fun q => by omega⟩
  · rw [va_up_ne _ _ c]
    obtain ⟨h1, h2⟩ := h j hj
    exact ⟨fun q => by rw [h1 (by omega), hp j (by omega) (by omega)], fun q => h2 (by omega)⟩
theorem kt_cy_n {n s : Int} {SZ plots plots' : Nat → Int32} {sz : Int32} {k : Nat} (h : kt_cy n SZ plots) (e : sz = SZ k) (hp : kk_ps s plots plots') (hs : n ≤ s ∨ plots' = plots) : kt_cy n (va_up SZ k sz) plots' := by
  subst e
  refine kt_cy_same ?_
  rcases hs with hs | hs
  · exact kt_cy_ps h hp hs
  · rw [hs]; exact h
theorem kt_sz {n m : Int32} {W D A W' D' A' : Nat → Int32} (h : kt_st n W D A = kt_st m W' D' A') : n = m := (kt_st_i h).1
-- what comes out of a ROW hangs on how many PLOTS there are alone
theorem kt_pls_sz {e : Nat → Int64} {sz i : Int} : ∀ (f : Nat) (c : Int) (S T : kt_S), S.1 = T.1 → (kt_pls e sz i f c S).1 = (kt_pls e sz i f c T).1 ∧ (kt_pls e sz i f c S).2.1 = (kt_pls e sz i f c T).2.1 := by
  intro f
  induction f with
  | zero => exact fun c S T h => ⟨rfl, h⟩
  | succ f ih =>
    intro c S T h
    have hc : kt_can e sz (i + 3 * c) S ↔ kt_can e sz (i + 3 * c) T := by
      unfold kt_can
      rw [h]
    have e1 : ∀ S : kt_S, kt_pls e sz i (f + 1) c S = @ite (Int × kt_S) (kt_can e sz (i + 3 * c) S) (Classical.propDecidable _) (kt_pls e sz i f (c + 1) (kt_put e (i + 3 * c) S)) (c, S) := fun S => rfl
    rw [e1, e1]
    by_cases q : kt_can e sz (i + 3 * c) S
    · rw [if_pos q, if_pos (hc.mp q)]
      refine ih (c + 1) _ _ ?_
      show S.1 + 1 = T.1 + 1
      rw [h]
    · rw [if_neg q, if_neg (fun q2 => q (hc.mpr q2))]
      exact ⟨rfl, h⟩
theorem kt_pls_eq {e f : Nat → Int64} {z y i : Int} {n : Nat} {S T : kt_S} (hz : z = y) (he : ∀ j : Nat, (j : Int) < z → e j = f j) (hS : S.1 = T.1) : (kt_pls e z i n 0 S).1 = (kt_pls f y i n 0 T).1 ∧ (kt_pls e z i n 0 S).2.1 = (kt_pls f y i n 0 T).2.1 := by
  subst hz
  rw [kt_pls_w he]
  exact kt_pls_sz n 0 S T hS
theorem kt_el_row {C : Nat → Nat → Int64} {it : Nat → Int64} {k : Nat} {w : Int32} {z : Int} (h : kk_el C it) (hk : k < 6) (hw : (k : Int) = w.toInt) (hz : z ≤ 60) : ∀ j : Nat, (j : Int) < z → C k j = kt_el it w.toInt j := fun j hj => by
  rw [h k j hk (by omega)]
  show it (60 * k + j) = it (60 * w.toInt.toNat + j)
  rw [show w.toInt.toNat = k from by omega]
theorem kr_T_m1 {c : Int → Int} {n : Int} (hn : 0 ≤ n) : -1 ≤ kr_T c n (n + 1) 0 := by
  have key : ∀ (f : Nat) (p : Int), 0 ≤ p → -1 ≤ kr_txt c n f p := by
    intro f
    induction f with
    | zero => intro p hp; show -1 ≤ p; omega
    | succ f ih =>
      intro p hp
      show -1 ≤ (if kr_line c p < 0 then -1 - kr_line c p else if n ≤ kr_line c p then -1 else if c (kr_line c p) = 59 then kr_txt c n f (kr_line c p + 1) else kr_line c p)
      by_cases h1 : kr_line c p < 0
      · rw [if_pos h1]; omega
      · rw [if_neg h1]
        by_cases h2 : n ≤ kr_line c p
        · rw [if_pos h2]; omega
        · rw [if_neg h2]
          by_cases h3 : c (kr_line c p) = 59
          · rw [if_pos h3]; exact ih _ (by omega)
          · rw [if_neg h3]; omega
  exact key _ 0 (by decide)
