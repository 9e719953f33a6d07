-- opaque versions (laid by opq2.py)
theorem kw_RI_x : ∃ F : (Int → Int) → (Nat → Int32) → Int → Int → Int → Int, F = kv_RI := ⟨_, rfl⟩
noncomputable def kw_RI : (Int → Int) → (Nat → Int32) → Int → Int → Int → Int := Classical.choose kw_RI_x
theorem kw_RI_eqn : kw_RI = kv_RI := Classical.choose_spec kw_RI_x
theorem kw_LI_x : ∃ F : (Int → Int) → (Nat → Int32) → Int → Int → Int → Int → Int → Int, F = kv_LI := ⟨_, rfl⟩
noncomputable def kw_LI : (Int → Int) → (Nat → Int32) → Int → Int → Int → Int → Int → Int := Classical.choose kw_LI_x
theorem kw_LI_eqn : kw_LI = kv_LI := Classical.choose_spec kw_LI_x
theorem kw_FI_x : ∃ F : (Int → Int) → Int → Int → Int → Int, F = kv_FI := ⟨_, rfl⟩
noncomputable def kw_FI : (Int → Int) → Int → Int → Int → Int := Classical.choose kw_FI_x
theorem kw_FI_eqn : kw_FI = kv_FI := Classical.choose_spec kw_FI_x
theorem kw_TI_x : ∃ F : (Int → Int) → (Nat → Int32) → Int → Int → Int → Int, F = kv_TI := ⟨_, rfl⟩
noncomputable def kw_TI : (Int → Int) → (Nat → Int32) → Int → Int → Int → Int := Classical.choose kw_TI_x
theorem kw_TI_eqn : kw_TI = kv_TI := Classical.choose_spec kw_TI_x
theorem kw_ix_x : ∃ F : Int → Nat, F = kv_ix := ⟨_, rfl⟩
noncomputable def kw_ix : Int → Nat := Classical.choose kw_ix_x
theorem kw_ix_eqn : kw_ix = kv_ix := Classical.choose_spec kw_ix_x
theorem kqo_L_S {c : Int → Int} {l l' k f f' q q1 e : Int} {S S1 S2 T : List Int32} {x : Int32} (hi : S ++ kq_L c l k f q = T) (hf : 0 < f) (h : (l = 0 ∧ c q = 124) ∨ (l = 1 ∧ c q = 38) ∨ (l = 2 ∧ 60 ≤ c q ∧ c q ≤ 62) ∨ (l = 3 ∧ (c q = 43 ∨ c q = 45)) ∨ (l = 4 ∧ (c q = 42 ∨ c q = 47 ∨ c q = 37))) (hl2 : l ≠ 2) (hl' : l' = l + 1) (hq1 : q1 = q + 1) (he : ko_R c l' k q1 = e) (hs1 : S1 = S ++ kq_R c l' k q1) (hs2 : S2 = S1 ++ [x]) (hx : x.toInt = c q) (hf' : f' = f - 1) : S2 ++ kq_L c l k f' e = T := by
  have key : ∀ (q_R : (Int → Int) → Int → Int → Int → Int), q_R = kr_R → ∀ {c : Int → Int} {l l' k f f' q q1 e : Int} {S S1 S2 T : List Int32} {x : Int32} (hi : S ++ kq_L c l k f q = T) (hf : 0 < f) (h : (l = 0 ∧ c q = 124) ∨ (l = 1 ∧ c q = 38) ∨ (l = 2 ∧ 60 ≤ c q ∧ c q ≤ 62) ∨ (l = 3 ∧ (c q = 43 ∨ c q = 45)) ∨ (l = 4 ∧ (c q = 42 ∨ c q = 47 ∨ c q = 37))) (hl2 : l ≠ 2) (hl' : l' = l + 1) (hq1 : q1 = q + 1) (he : q_R c l' k q1 = e) (hs1 : S1 = S ++ kq_R c l' k q1) (hs2 : S2 = S1 ++ [x]) (hx : x.toInt = c q) (hf' : f' = f - 1), S2 ++ kq_L c l k f' e = T := by
    intro q_R h_q_R
    subst h_q_R
    exact @kq_L_S
  exact key _ ko_R_eqn hi hf h hl2 hl' hq1 he hs1 hs2 hx hf'
theorem kqo_T_e {c : Int → Int} {n f p e : Int} {S S1 T : List Int32} (hi : S ++ kq_T c n f p = T) (hf : 0 < f) (h : ko_line c p = e) (h1 : n ≤ e) (hs : S1 = S ++ kq_line c p) : S1 = T := by
  have key : ∀ (q_line : (Int → Int) → Int → Int), q_line = kr_line → ∀ {c : Int → Int} {n f p e : Int} {S S1 T : List Int32} (hi : S ++ kq_T c n f p = T) (hf : 0 < f) (h : q_line c p = e) (h1 : n ≤ e) (hs : S1 = S ++ kq_line c p), S1 = T := by
    intro q_line h_q_line
    subst h_q_line
    exact @kq_T_e
  exact key _ ko_line_eqn hi hf h h1 hs
theorem kqo_T_s {c : Int → Int} {n f p e f' p' : Int} {S S1 T : List Int32} (hi : S ++ kq_T c n f p = T) (hf : 0 < f) (h : ko_line c p = e) (h1 : e < n) (hs : S1 = S ++ kq_line c p) (hf' : f' = f - 1) (hp' : p' = e + 1) : S1 ++ kq_T c n f' p' = T := by
  have key : ∀ (q_line : (Int → Int) → Int → Int), q_line = kr_line → ∀ {c : Int → Int} {n f p e f' p' : Int} {S S1 T : List Int32} (hi : S ++ kq_T c n f p = T) (hf : 0 < f) (h : q_line c p = e) (h1 : e < n) (hs : S1 = S ++ kq_line c p) (hf' : f' = f - 1) (hp' : p' = e + 1), S1 ++ kq_T c n f' p' = T := by
    intro q_line h_q_line
    subst h_q_line
    exact @kq_T_s
  exact key _ ko_line_eqn hi hf h h1 hs hf' hp'
theorem kqo_c0 {c : Int → Int} {l l' k p q f : Int} {S T : List Int32} (hl : 0 ≤ l ∧ l ≤ 4) (hl' : l' = l + 1) (h : ko_R c l' k p = q) (hs : S = T ++ kq_R c l' k p) (hf : f = 120) : S ++ kq_L c l k f q = T ++ kq_R c l k p := by
  have key : ∀ (q_R : (Int → Int) → Int → Int → Int → Int), q_R = kr_R → ∀ {c : Int → Int} {l l' k p q f : Int} {S T : List Int32} (hl : 0 ≤ l ∧ l ≤ 4) (hl' : l' = l + 1) (h : q_R c l' k p = q) (hs : S = T ++ kq_R c l' k p) (hf : f = 120), S ++ kq_L c l k f q = T ++ kq_R c l k p := by
    intro q_R h_q_R
    subst h_q_R
    exact @kq_c0
  exact key _ ko_R_eqn hl hl' h hs hf
theorem kqo_l_if {c : Int → Int} {p e p1 : Int} {S S1 S2 S3 S4 : List Int32} {x y : Int32} (h : ko_R c 0 0 p = e) (h1 : c e = 63) (hp1 : p1 = e + 1) (hs : S1 = S ++ kq_R c 0 0 p) (hs2 : S2 = S1 ++ [x]) (hx : x = 63) (hs3 : S3 = S2 ++ kq_R c 0 0 p1) (hs4 : S4 = S3 ++ [y]) (hy : y = 59) : S4 = S ++ kq_line c p := by
  have key : ∀ (q_R : (Int → Int) → Int → Int → Int → Int), q_R = kr_R → ∀ {c : Int → Int} {p e p1 : Int} {S S1 S2 S3 S4 : List Int32} {x y : Int32} (h : q_R c 0 0 p = e) (h1 : c e = 63) (hp1 : p1 = e + 1) (hs : S1 = S ++ kq_R c 0 0 p) (hs2 : S2 = S1 ++ [x]) (hx : x = 63) (hs3 : S3 = S2 ++ kq_R c 0 0 p1) (hs4 : S4 = S3 ++ [y]) (hy : y = 59), S4 = S ++ kq_line c p := by
    intro q_R h_q_R
    subst h_q_R
    exact @kq_l_if
  exact key _ ko_R_eqn h h1 hp1 hs hs2 hx hs3 hs4 hy
theorem kqo_l_no {c : Int → Int} {p e : Int} {S S1 S2 : List Int32} {x : Int32} (h : ko_R c 0 0 p = e) (h1 : c e ≠ 63) (hs : S1 = S ++ kq_R c 0 0 p) (hs2 : S2 = S1 ++ [x]) (hx : x = 59) : S2 = S ++ kq_line c p := by
  have key : ∀ (q_R : (Int → Int) → Int → Int → Int → Int), q_R = kr_R → ∀ {c : Int → Int} {p e : Int} {S S1 S2 : List Int32} {x : Int32} (h : q_R c 0 0 p = e) (h1 : c e ≠ 63) (hs : S1 = S ++ kq_R c 0 0 p) (hs2 : S2 = S1 ++ [x]) (hx : x = 59), S2 = S ++ kq_line c p := by
    intro q_R h_q_R
    subst h_q_R
    exact @kq_l_no
  exact key _ ko_R_eqn h h1 hs hs2 hx
theorem kqo_o_nam {c : Int → Int} {k p : Int} {S S1 : List Int32} {x : Int32} (h : c p = 119 ∨ c p = 110 ∨ c p = 100 ∨ c p = 121 ∨ c p = 122 ∨ c p = 102 ∨ c p = 105 ∨ c p = 99) (hs : S1 = S ++ [x]) (hx : x.toInt = (kw_ix (c p) : Int)) : S1 = S ++ kq_R c 5 k p := by
  have key : ∀ (w_ix : Int → Nat), w_ix = kv_ix → ∀ {c : Int → Int} {k p : Int} {S S1 : List Int32} {x : Int32} (h : c p = 119 ∨ c p = 110 ∨ c p = 100 ∨ c p = 121 ∨ c p = 122 ∨ c p = 102 ∨ c p = 105 ∨ c p = 99) (hs : S1 = S ++ [x]) (hx : x.toInt = (w_ix (c p) : Int)), S1 = S ++ kq_R c 5 k p := by
    intro w_ix h_w_ix
    subst h_w_ix
    exact @kq_o_nam
  exact key _ kw_ix_eqn h hs hx
theorem ko_T_m1 {c : Int → Int} {n : Int} (hn : 0 ≤ n) : -1 ≤ ko_T c n (n + 1) 0 := by
  have key : ∀ (q_T : (Int → Int) → Int → Int → Int → Int), q_T = kr_T → ∀ {c : Int → Int} {n : Int} (hn : 0 ≤ n), -1 ≤ q_T c n (n + 1) 0 := by
    intro q_T h_q_T
    subst h_q_T
    exact @kr_T_m1
  exact key _ ko_T_eqn hn
theorem ko_sh_in {f : Nat → Int32} {n : Int} {b x : Int32} (hb : 0 ≤ b.toInt) (h0 : 0 ≤ x.toInt) (h1 : x.toInt < n) (hs : (b + x).toInt = b.toInt + x.toInt) : ko_at (kr_sh f b.toInt) n x.toInt = (f (b + x).toNatClampNeg).toInt := by
  have key : ∀ (q_at : (Nat → Int32) → Int → Int → Int), q_at = kr_at → ∀ {f : Nat → Int32} {n : Int} {b x : Int32} (hb : 0 ≤ b.toInt) (h0 : 0 ≤ x.toInt) (h1 : x.toInt < n) (hs : (b + x).toInt = b.toInt + x.toInt), q_at (kr_sh f b.toInt) n x.toInt = (f (b + x).toNatClampNeg).toInt := by
    intro q_at h_q_at
    subst h_q_at
    exact @kr_sh_in
  exact key _ ko_at_eqn hb h0 h1 hs
theorem kto_cv_V {n : Int} {SG : Nat → Nat → Int32} {SZ text many : Nat → Int32} {l : Int32} {k : Nat} {b : Int} (h : kt_cv n SG SZ text many) (h0 : 0 ≤ l.toInt) (h1 : l.toInt < n) (hn : n ≤ 4) (hk : (k : Int) = l.toInt) (hb : b = 120 * l.toInt) : (fun nm_ => kg_run nm_ (kg_sI (SG k) (SZ k).toInt) false []) = (fun nm_ => kv_T (ko_at (kr_sh text b) (many l.toNatClampNeg).toInt) nm_ (many l.toNatClampNeg).toInt ((many l.toNatClampNeg).toInt + 1) 0) := by
  have key : ∀ (q_at : (Nat → Int32) → Int → Int → Int), q_at = kr_at → ∀ {n : Int} {SG : Nat → Nat → Int32} {SZ text many : Nat → Int32} {l : Int32} {k : Nat} {b : Int} (h : kt_cv n SG SZ text many) (h0 : 0 ≤ l.toInt) (h1 : l.toInt < n) (hn : n ≤ 4) (hk : (k : Int) = l.toInt) (hb : b = 120 * l.toInt), (fun nm_ => kg_run nm_ (kg_sI (SG k) (SZ k).toInt) false []) = (fun nm_ => kv_T (q_at (kr_sh text b) (many l.toNatClampNeg).toInt) nm_ (many l.toNatClampNeg).toInt ((many l.toNatClampNeg).toInt + 1) 0) := by
    intro q_at h_q_at
    subst h_q_at
    exact @kt_cv_V
  exact key _ ko_at_eqn h h0 h1 hn hk hb
theorem kto_cv_set {n n' m : Int} {SG : Nat → Nat → Int32} {SZ text text' many tape sg : Nat → Int32} {u v sz : Int32} {k : Nat} (h : kt_cv n SG SZ text many) (hu : u.toInt = n) (h0 : 0 ≤ n) (hn : n ≤ 3) (hn' : n' = n + 1) (hk : (k : Int) = n) (hc : kt_cp text text' tape (120 * n) m) (hv : v.toInt = m) (hm : 0 ≤ m ∧ m ≤ 120) (ht : ko_T (ko_at tape m) m (m + 1) 0 = -1) (hs : kg_sI sg sz.toInt = kq_T (ko_at tape m) m (m + 1) 0) : kt_cv n' (va_up SG k sg) (va_up SZ k sz) text' (upd many u.toNatClampNeg v) := by
  have key : ∀ (q_at : (Nat → Int32) → Int → Int → Int) (q_T : (Int → Int) → Int → Int → Int → Int), q_at = kr_at → q_T = kr_T → ∀ {n n' m : Int} {SG : Nat → Nat → Int32} {SZ text text' many tape sg : Nat → Int32} {u v sz : Int32} {k : Nat} (h : kt_cv n SG SZ text many) (hu : u.toInt = n) (h0 : 0 ≤ n) (hn : n ≤ 3) (hn' : n' = n + 1) (hk : (k : Int) = n) (hc : kt_cp text text' tape (120 * n) m) (hv : v.toInt = m) (hm : 0 ≤ m ∧ m ≤ 120) (ht : q_T (q_at tape m) m (m + 1) 0 = -1) (hs : kg_sI sg sz.toInt = kq_T (q_at tape m) m (m + 1) 0), kt_cv n' (va_up SG k sg) (va_up SZ k sz) text' (upd many u.toNatClampNeg v) := by
    intro q_at q_T h_q_at h_q_T
    subst h_q_at h_q_T
    exact @kt_cv_set
  exact key _ _ ko_at_eqn ko_T_eqn h hu h0 hn hn' hk hc hv hm ht hs
theorem kto_lv_at {text many : Nat → Int32} {n b : Int} {l : Int32} (h : kt_lv text many n) (h0 : 0 ≤ l.toInt) (h1 : l.toInt < n) (hb : b = 120 * l.toInt) : ko_T (ko_at (kr_sh text b) (many l.toNatClampNeg).toInt) (many l.toNatClampNeg).toInt ((many l.toNatClampNeg).toInt + 1) 0 = -1 := by
  have key : ∀ (q_at : (Nat → Int32) → Int → Int → Int) (q_T : (Int → Int) → Int → Int → Int → Int), q_at = kr_at → q_T = kr_T → ∀ {text many : Nat → Int32} {n b : Int} {l : Int32} (h : kt_lv text many n) (h0 : 0 ≤ l.toInt) (h1 : l.toInt < n) (hb : b = 120 * l.toInt), q_T (q_at (kr_sh text b) (many l.toNatClampNeg).toInt) (many l.toNatClampNeg).toInt ((many l.toNatClampNeg).toInt + 1) 0 = -1 := by
    intro q_at q_T h_q_at h_q_T
    subst h_q_at h_q_T
    exact @kt_lv_at
  exact key _ _ ko_at_eqn ko_T_eqn h h0 h1 hb
theorem kw_F00 {c : Int → Int} {p : Int} : kw_FI c 4 p 0 = (kv_nm c 4 p 0).toInt := by
  have key : ∀ (w_FI : (Int → Int) → Int → Int → Int → Int), w_FI = kv_FI → ∀ {c : Int → Int} {p : Int}, w_FI c 4 p 0 = (kv_nm c 4 p 0).toInt := by
    intro w_FI h_w_FI
    subst h_w_FI
    exact @kv_F00
  exact key _ kw_FI_eqn 
theorem kw_F0I {c : Int → Int} {k p : Int} {nm : Nat → Int32} (h : 48 ≤ c p ∧ c p ≤ 57) : kw_RI c nm 5 k p = kw_FI c 4 p 0 := by
  have key : ∀ (w_RI : (Int → Int) → (Nat → Int32) → Int → Int → Int → Int) (w_FI : (Int → Int) → Int → Int → Int → Int), w_RI = kv_RI → w_FI = kv_FI → ∀ {c : Int → Int} {k p : Int} {nm : Nat → Int32} (h : 48 ≤ c p ∧ c p ≤ 57), w_RI c nm 5 k p = w_FI c 4 p 0 := by
    intro w_RI w_FI h_w_RI h_w_FI
    subst h_w_RI h_w_FI
    exact @kv_F0I
  exact key _ _ kw_RI_eqn kw_FI_eqn h
theorem kw_FnI {c : Int → Int} {f q : Int} {a : Int32} (h : f ≤ 0 ∨ c q < 48 ∨ 57 < c q) : kw_FI c f q a.toInt = a.toInt := by
  have key : ∀ (w_FI : (Int → Int) → Int → Int → Int → Int), w_FI = kv_FI → ∀ {c : Int → Int} {f q : Int} {a : Int32} (h : f ≤ 0 ∨ c q < 48 ∨ 57 < c q), w_FI c f q a.toInt = a.toInt := by
    intro w_FI h_w_FI
    subst h_w_FI
    exact @kv_FnI
  exact key _ kw_FI_eqn h
theorem kw_FsI {c : Int → Int} {f q f' q' : Int} {a b : Int32} (hf : 0 < f) (hd : 48 ≤ c q ∧ c q ≤ 57) (hf' : f' = f - 1) (hq' : q' = q + 1) (hb : b.toInt = 10 * a.toInt + c q - 48) (ha : 0 ≤ a.toInt ∧ a.toInt ≤ 1000) : kw_FI c f q a.toInt = kw_FI c f' q' b.toInt := by
  have key : ∀ (w_FI : (Int → Int) → Int → Int → Int → Int), w_FI = kv_FI → ∀ {c : Int → Int} {f q f' q' : Int} {a b : Int32} (hf : 0 < f) (hd : 48 ≤ c q ∧ c q ≤ 57) (hf' : f' = f - 1) (hq' : q' = q + 1) (hb : b.toInt = 10 * a.toInt + c q - 48) (ha : 0 ≤ a.toInt ∧ a.toInt ≤ 1000), w_FI c f q a.toInt = w_FI c f' q' b.toInt := by
    intro w_FI h_w_FI
    subst h_w_FI
    exact @kv_FsI
  exact key _ kw_FI_eqn hf hd hf' hq' hb ha
theorem kw_L2I {c : Int → Int} {nm : Nat → Int32} {l l' k q q1 : Int} {v w u : Int32} (h : 60 ≤ c q ∧ c q ≤ 62) (hl2 : l = 2) (hl' : l' = l + 1) (hq1 : q1 = q + 1) (hw : kw_RI c nm l' k q1 = w.toInt) (hu : (kv_jn (c q) v w).toInt = u.toInt) : kw_LI c nm l k 120 q v.toInt = u.toInt := by
  have key : ∀ (w_RI : (Int → Int) → (Nat → Int32) → Int → Int → Int → Int) (w_LI : (Int → Int) → (Nat → Int32) → Int → Int → Int → Int → Int → Int), w_RI = kv_RI → w_LI = kv_LI → ∀ {c : Int → Int} {nm : Nat → Int32} {l l' k q q1 : Int} {v w u : Int32} (h : 60 ≤ c q ∧ c q ≤ 62) (hl2 : l = 2) (hl' : l' = l + 1) (hq1 : q1 = q + 1) (hw : w_RI c nm l' k q1 = w.toInt) (hu : (kv_jn (c q) v w).toInt = u.toInt), w_LI c nm l k 120 q v.toInt = u.toInt := by
    intro w_RI w_LI h_w_RI h_w_LI
    subst h_w_RI h_w_LI
    exact @kv_L2I
  exact key _ _ kw_RI_eqn kw_LI_eqn h hl2 hl' hq1 hw hu
theorem kw_LSI {c : Int → Int} {nm : Nat → Int32} {n l l' k q q1 e : Int} {v w u : Int32} (hc : ∀ p, p < 0 ∨ n ≤ p → c p = 0) (hn : n ≤ 120) (hq : 0 ≤ q) (h : (l = 0 ∧ c q = 124) ∨ (l = 1 ∧ c q = 38) ∨ (l = 2 ∧ 60 ≤ c q ∧ c q ≤ 62) ∨ (l = 3 ∧ (c q = 43 ∨ c q = 45)) ∨ (l = 4 ∧ (c q = 42 ∨ c q = 47 ∨ c q = 37))) (hl2 : l ≠ 2) (hl' : l' = l + 1) (hq1 : q1 = q + 1) (he : ko_R c l' k q1 = e) (h0 : 0 ≤ e) (hw : kw_RI c nm l' k q1 = w.toInt) (hu : (kv_jn (c q) v w).toInt = u.toInt) : kw_LI c nm l k 120 q v.toInt = kw_LI c nm l k 120 e u.toInt := by
  have key : ∀ (q_R : (Int → Int) → Int → Int → Int → Int) (w_RI : (Int → Int) → (Nat → Int32) → Int → Int → Int → Int) (w_LI : (Int → Int) → (Nat → Int32) → Int → Int → Int → Int → Int → Int), q_R = kr_R → w_RI = kv_RI → w_LI = kv_LI → ∀ {c : Int → Int} {nm : Nat → Int32} {n l l' k q q1 e : Int} {v w u : Int32} (hc : ∀ p, p < 0 ∨ n ≤ p → c p = 0) (hn : n ≤ 120) (hq : 0 ≤ q) (h : (l = 0 ∧ c q = 124) ∨ (l = 1 ∧ c q = 38) ∨ (l = 2 ∧ 60 ≤ c q ∧ c q ≤ 62) ∨ (l = 3 ∧ (c q = 43 ∨ c q = 45)) ∨ (l = 4 ∧ (c q = 42 ∨ c q = 47 ∨ c q = 37))) (hl2 : l ≠ 2) (hl' : l' = l + 1) (hq1 : q1 = q + 1) (he : q_R c l' k q1 = e) (h0 : 0 ≤ e) (hw : w_RI c nm l' k q1 = w.toInt) (hu : (kv_jn (c q) v w).toInt = u.toInt), w_LI c nm l k 120 q v.toInt = w_LI c nm l k 120 e u.toInt := by
    intro q_R w_RI w_LI h_q_R h_w_RI h_w_LI
    subst h_q_R h_w_RI h_w_LI
    exact @kv_LSI
  exact key _ _ _ ko_R_eqn kw_RI_eqn kw_LI_eqn hc hn hq h hl2 hl' hq1 he h0 hw hu
theorem kw_LnI {c : Int → Int} {nm : Nat → Int32} {l k q : Int} {v : Int32} (h : ¬ ((l = 0 ∧ c q = 124) ∨ (l = 1 ∧ c q = 38) ∨ (l = 2 ∧ 60 ≤ c q ∧ c q ≤ 62) ∨ (l = 3 ∧ (c q = 43 ∨ c q = 45)) ∨ (l = 4 ∧ (c q = 42 ∨ c q = 47 ∨ c q = 37)))) : kw_LI c nm l k 120 q v.toInt = v.toInt := by
  have key : ∀ (w_LI : (Int → Int) → (Nat → Int32) → Int → Int → Int → Int → Int → Int), w_LI = kv_LI → ∀ {c : Int → Int} {nm : Nat → Int32} {l k q : Int} {v : Int32} (h : ¬ ((l = 0 ∧ c q = 124) ∨ (l = 1 ∧ c q = 38) ∨ (l = 2 ∧ 60 ≤ c q ∧ c q ≤ 62) ∨ (l = 3 ∧ (c q = 43 ∨ c q = 45)) ∨ (l = 4 ∧ (c q = 42 ∨ c q = 47 ∨ c q = 37)))), w_LI c nm l k 120 q v.toInt = v.toInt := by
    intro w_LI h_w_LI
    subst h_w_LI
    exact @kv_LnI
  exact key _ kw_LI_eqn h
theorem kw_c0I {c : Int → Int} {nm : Nat → Int32} {l l' k p q : Int} {v : Int32} (hl : 0 ≤ l ∧ l ≤ 4) (hl' : l' = l + 1) (h : ko_R c l' k p = q) (hv : kw_RI c nm l' k p = v.toInt) : kw_LI c nm l k 120 q v.toInt = kw_RI c nm l k p := by
  have key : ∀ (q_R : (Int → Int) → Int → Int → Int → Int) (w_RI : (Int → Int) → (Nat → Int32) → Int → Int → Int → Int) (w_LI : (Int → Int) → (Nat → Int32) → Int → Int → Int → Int → Int → Int), q_R = kr_R → w_RI = kv_RI → w_LI = kv_LI → ∀ {c : Int → Int} {nm : Nat → Int32} {l l' k p q : Int} {v : Int32} (hl : 0 ≤ l ∧ l ≤ 4) (hl' : l' = l + 1) (h : q_R c l' k p = q) (hv : w_RI c nm l' k p = v.toInt), w_LI c nm l k 120 q v.toInt = w_RI c nm l k p := by
    intro q_R w_RI w_LI h_q_R h_w_RI h_w_LI
    subst h_q_R h_w_RI h_w_LI
    exact @kv_c0I
  exact key _ _ _ ko_R_eqn kw_RI_eqn kw_LI_eqn hl hl' h hv
theorem kw_ogI {c : Int → Int} {nm : Nat → Int32} {k k' p p1 : Int} {v : Int32} (hk : k < 6) (h : c p = 45) (hk' : k' = k + 1) (hp1 : p1 = p + 1) (hv : kw_RI c nm 5 k' p1 = v.toInt) : kw_RI c nm 5 k p = (-v).toInt := by
  have key : ∀ (w_RI : (Int → Int) → (Nat → Int32) → Int → Int → Int → Int), w_RI = kv_RI → ∀ {c : Int → Int} {nm : Nat → Int32} {k k' p p1 : Int} {v : Int32} (hk : k < 6) (h : c p = 45) (hk' : k' = k + 1) (hp1 : p1 = p + 1) (hv : w_RI c nm 5 k' p1 = v.toInt), w_RI c nm 5 k p = (-v).toInt := by
    intro w_RI h_w_RI
    subst h_w_RI
    exact @kv_ogI
  exact key _ kw_RI_eqn hk h hk' hp1 hv
theorem kw_onI {c : Int → Int} {nm : Nat → Int32} {k p : Int} {x : Int32} (h : c p = 119 ∨ c p = 110 ∨ c p = 100 ∨ c p = 121 ∨ c p = 122 ∨ c p = 102 ∨ c p = 105 ∨ c p = 99) (hx : x.toInt = (kw_ix (c p) : Int)) : kw_RI c nm 5 k p = (nm x.toNatClampNeg).toInt := by
  have key : ∀ (w_RI : (Int → Int) → (Nat → Int32) → Int → Int → Int → Int) (w_ix : Int → Nat), w_RI = kv_RI → w_ix = kv_ix → ∀ {c : Int → Int} {nm : Nat → Int32} {k p : Int} {x : Int32} (h : c p = 119 ∨ c p = 110 ∨ c p = 100 ∨ c p = 121 ∨ c p = 122 ∨ c p = 102 ∨ c p = 105 ∨ c p = 99) (hx : x.toInt = (w_ix (c p) : Int)), w_RI c nm 5 k p = (nm x.toNatClampNeg).toInt := by
    intro w_RI w_ix h_w_RI h_w_ix
    subst h_w_RI h_w_ix
    exact @kv_onI
  exact key _ _ kw_RI_eqn kw_ix_eqn h hx
theorem kw_opI {c : Int → Int} {nm : Nat → Int32} {k k' p p1 : Int} {v : Int32} (hk : k < 6) (h : c p = 40) (hk' : k' = k + 1) (hp1 : p1 = p + 1) (hv : kw_RI c nm 0 k' p1 = v.toInt) : kw_RI c nm 5 k p = v.toInt := by
  have key : ∀ (w_RI : (Int → Int) → (Nat → Int32) → Int → Int → Int → Int), w_RI = kv_RI → ∀ {c : Int → Int} {nm : Nat → Int32} {k k' p p1 : Int} {v : Int32} (hk : k < 6) (h : c p = 40) (hk' : k' = k + 1) (hp1 : p1 = p + 1) (hv : w_RI c nm 0 k' p1 = v.toInt), w_RI c nm 5 k p = v.toInt := by
    intro w_RI h_w_RI
    subst h_w_RI
    exact @kv_opI
  exact key _ kw_RI_eqn hk h hk' hp1 hv
theorem kw_otI {c : Int → Int} {nm : Nat → Int32} {k k' p p1 : Int} {v u : Int32} (hk : k < 6) (h : c p = 33) (hk' : k' = k + 1) (hp1 : p1 = p + 1) (hv : kw_RI c nm 5 k' p1 = v.toInt) (hu : (v.toInt = 0 ∧ u.toInt = 1) ∨ (v.toInt ≠ 0 ∧ u.toInt = 0)) : kw_RI c nm 5 k p = u.toInt := by
  have key : ∀ (w_RI : (Int → Int) → (Nat → Int32) → Int → Int → Int → Int), w_RI = kv_RI → ∀ {c : Int → Int} {nm : Nat → Int32} {k k' p p1 : Int} {v u : Int32} (hk : k < 6) (h : c p = 33) (hk' : k' = k + 1) (hp1 : p1 = p + 1) (hv : w_RI c nm 5 k' p1 = v.toInt) (hu : (v.toInt = 0 ∧ u.toInt = 1) ∨ (v.toInt ≠ 0 ∧ u.toInt = 0)), w_RI c nm 5 k p = u.toInt := by
    intro w_RI h_w_RI
    subst h_w_RI
    exact @kv_otI
  exact key _ kw_RI_eqn hk h hk' hp1 hv hu
theorem kw_w_B {c : Int → Int} {nm : Nat → Int32} {n p e e1 gi ge v1 : Int} (h : kv_wk c nm n p gi ge) (hn : 0 ≤ n) (hR : ko_R c 0 0 p = e1) (h63 : c e1 = 63) (hv1 : kw_RI c nm 0 0 p = v1) (h0 : v1 = 0) (hl : ko_line c p = e) : kv_wl c nm n p e gi ge := by
  have key : ∀ (q_R : (Int → Int) → Int → Int → Int → Int) (q_line : (Int → Int) → Int → Int) (w_RI : (Int → Int) → (Nat → Int32) → Int → Int → Int → Int), q_R = kr_R → q_line = kr_line → w_RI = kv_RI → ∀ {c : Int → Int} {nm : Nat → Int32} {n p e e1 gi ge v1 : Int} (h : kv_wk c nm n p gi ge) (hn : 0 ≤ n) (hR : q_R c 0 0 p = e1) (h63 : c e1 = 63) (hv1 : w_RI c nm 0 0 p = v1) (h0 : v1 = 0) (hl : q_line c p = e), kv_wl c nm n p e gi ge := by
    intro q_R q_line w_RI h_q_R h_q_line h_w_RI
    subst h_q_R h_q_line h_w_RI
    exact @kv_w_B
  exact key _ _ _ ko_R_eqn ko_line_eqn kw_RI_eqn h hn hR h63 hv1 h0 hl
theorem kw_w_D1 {c : Int → Int} {nm : Nat → Int32} {n p e e1 gi ge v g1 : Int} (h : kv_wk c nm n p gi ge) (hn : 0 ≤ n) (hg : gi = 0) (hR : ko_R c 0 0 p = e1) (h63 : c e1 ≠ 63) (hv : kw_RI c nm 0 0 p = v) (hg1 : g1 = 1) : kv_wl c nm n p e g1 v := by
  have key : ∀ (q_R : (Int → Int) → Int → Int → Int → Int) (w_RI : (Int → Int) → (Nat → Int32) → Int → Int → Int → Int), q_R = kr_R → w_RI = kv_RI → ∀ {c : Int → Int} {nm : Nat → Int32} {n p e e1 gi ge v g1 : Int} (h : kv_wk c nm n p gi ge) (hn : 0 ≤ n) (hg : gi = 0) (hR : q_R c 0 0 p = e1) (h63 : c e1 ≠ 63) (hv : w_RI c nm 0 0 p = v) (hg1 : g1 = 1), kv_wl c nm n p e g1 v := by
    intro q_R w_RI h_q_R h_w_RI
    subst h_q_R h_w_RI
    exact @kv_w_D1
  exact key _ _ ko_R_eqn kw_RI_eqn h hn hg hR h63 hv hg1
theorem kw_w_D2 {c : Int → Int} {nm : Nat → Int32} {n p p1 e e1 gi ge v1 v g1 : Int} (h : kv_wk c nm n p gi ge) (hn : 0 ≤ n) (hg : gi = 0) (hR : ko_R c 0 0 p = e1) (h63 : c e1 = 63) (hp1 : p1 = e1 + 1) (hv1 : kw_RI c nm 0 0 p = v1) (h0 : v1 ≠ 0) (hv : kw_RI c nm 0 0 p1 = v) (hg1 : g1 = 1) : kv_wl c nm n p e g1 v := by
  have key : ∀ (q_R : (Int → Int) → Int → Int → Int → Int) (w_RI : (Int → Int) → (Nat → Int32) → Int → Int → Int → Int), q_R = kr_R → w_RI = kv_RI → ∀ {c : Int → Int} {nm : Nat → Int32} {n p p1 e e1 gi ge v1 v g1 : Int} (h : kv_wk c nm n p gi ge) (hn : 0 ≤ n) (hg : gi = 0) (hR : q_R c 0 0 p = e1) (h63 : c e1 = 63) (hp1 : p1 = e1 + 1) (hv1 : w_RI c nm 0 0 p = v1) (h0 : v1 ≠ 0) (hv : w_RI c nm 0 0 p1 = v) (hg1 : g1 = 1), kv_wl c nm n p e g1 v := by
    intro q_R w_RI h_q_R h_w_RI
    subst h_q_R h_w_RI
    exact @kv_w_D2
  exact key _ _ ko_R_eqn kw_RI_eqn h hn hg hR h63 hp1 hv1 h0 hv hg1
theorem kw_w_f {c : Int → Int} {nm : Nat → Int32} {n r x : Int} (h : ko_T c n (n + 1) 0 = x) (h0 : x ≠ -1) : kv_rs c nm n r := by
  have key : ∀ (q_T : (Int → Int) → Int → Int → Int → Int), q_T = kr_T → ∀ {c : Int → Int} {nm : Nat → Int32} {n r x : Int} (h : q_T c n (n + 1) 0 = x) (h0 : x ≠ -1), kv_rs c nm n r := by
    intro q_T h_q_T
    subst h_q_T
    exact @kv_w_f
  exact key _ ko_T_eqn h h0
theorem kw_w_on {c : Int → Int} {nm : Nat → Int32} {n p p' e gi ge : Int} (h : kv_wl c nm n p e gi ge) (hc : ∀ p, n ≤ p → c p = 0) (hn : 0 ≤ n) (hp : 0 ≤ p) (hl : ko_line c p = e) (h0 : 0 ≤ e) (h59 : c e = 59) (hp' : p' = e + 1) : kv_wk c nm n p' gi ge := by
  have key : ∀ (q_line : (Int → Int) → Int → Int), q_line = kr_line → ∀ {c : Int → Int} {nm : Nat → Int32} {n p p' e gi ge : Int} (h : kv_wl c nm n p e gi ge) (hc : ∀ p, n ≤ p → c p = 0) (hn : 0 ≤ n) (hp : 0 ≤ p) (hl : q_line c p = e) (h0 : 0 ≤ e) (h59 : c e = 59) (hp' : p' = e + 1), kv_wk c nm n p' gi ge := by
    intro q_line h_q_line
    subst h_q_line
    exact @kv_w_on
  exact key _ ko_line_eqn h hc hn hp hl h0 h59 hp'
