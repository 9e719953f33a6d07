-- words of my own: ints as numbers, a loop at a head, array classes that are one, contents that are alike
theorem kk_lt {a b : Int32} (h : a < b) : a.toInt < b.toInt := Int32.lt_iff_toInt_lt.mp h
theorem kk_nlt {a b : Int32} (h : ¬ a < b) : b.toInt ≤ a.toInt := Int.not_lt.mp (fun q => h (Int32.lt_iff_toInt_lt.mpr q))
theorem kk_le {a b : Int32} (h : a ≤ b) : a.toInt ≤ b.toInt := Int32.le_iff_toInt_le.mp h
theorem kk_nle {a b : Int32} (h : ¬ a ≤ b) : b.toInt < a.toInt := Int.not_le.mp (fun q => h (Int32.le_iff_toInt_le.mpr q))
theorem kk_eq {a b : Int32} (h : a = b) : a.toInt = b.toInt := congrArg _ h
theorem kk_ne {a b : Int32} (h : ¬ a = b) : a.toInt ≠ b.toInt := fun q => h (Int32.toInt_inj.mp q)
theorem kk_Lt {x y : Int64} (h : lg_cmp x y < 0) : x.toInt < y.toInt := Int64.lt_iff_toInt_lt.mp ((lg_cmp_lt x y).mp h)
theorem kk_nLt {x y : Int64} (h : ¬ lg_cmp x y < 0) : y.toInt ≤ x.toInt := Int.not_lt.mp (fun q => h ((lg_cmp_lt x y).mpr (Int64.lt_iff_toInt_lt.mpr q)))
theorem kk_Gt {x y : Int64} (h : 0 < lg_cmp x y) : y.toInt < x.toInt := Int64.lt_iff_toInt_lt.mp ((lg_cmp_gt x y).mp h)
theorem kk_nGt {x y : Int64} (h : ¬ 0 < lg_cmp x y) : x.toInt ≤ y.toInt := Int.not_lt.mp (fun q => h ((lg_cmp_gt x y).mpr (Int64.lt_iff_toInt_lt.mpr q)))
theorem kk_64 (x : Int32) : x.toInt64.toInt = x.toInt := by simp
theorem kk_div {x k : Int32} {n : Int} (hk : k.toInt = n) (hn : 0 < n) (hx : 0 ≤ x.toInt) : (x / k).toInt = x.toInt / n := by
  obtain ⟨a, ha, rfl⟩ := nI_of (x := x) (fun q => by have h := kk_lt q; simp at h; omega)
  obtain ⟨d, hd, rfl⟩ := nI_of (x := k) (fun q => by have h := kk_lt q; simp at h; omega)
  rw [nI_toInt hd] at hk
  have h0 : 0 < d := by omega
  rw [pk_div ha h0 hd, nI_toInt (Nat.lt_of_le_of_lt (Nat.div_le_self a d) ha), nI_toInt ha, ← hk]
  exact Int.natCast_ediv a d
theorem kk_rem {x k : Int32} {n : Int} (hk : k.toInt = n) (hn : 0 < n) (hx : 0 ≤ x.toInt) : (x - x / k * k).toInt = x.toInt % n := by
  obtain ⟨a, ha, rfl⟩ := nI_of (x := x) (fun q => by have h := kk_lt q; simp at h; omega)
  obtain ⟨d, hd, rfl⟩ := nI_of (x := k) (fun q => by have h := kk_lt q; simp at h; omega)
  rw [nI_toInt hd] at hk
  have h0 : 0 < d := by omega
  rw [pk_rem ha h0 hd, nI_toInt (Nat.lt_of_le_of_lt (Nat.mod_le a d) ha), nI_toInt ha, ← hk]
  exact Int.natCast_emod a d
theorem kk_bm {z : Int} (h1 : -2147483648 ≤ z) (h2 : z ≤ 2147483647) : z.bmod (2 ^ 32) = z := by
  have h : ((2 ^ 32 : Nat) : Int) = 4294967296 := by decide
  simp only [Int.bmod, h]
  split <;> omega
theorem kk_add2 {x y : Int32} {a b : Int} (ha : x.toInt = a) (hb : y.toInt = b) (h1 : -2147483648 ≤ a + b) (h2 : a + b ≤ 2147483647) : (x + y).toInt = a + b := by
  rw [Int32.toInt_add, ha, hb]
  exact kk_bm h1 h2
theorem kk_sub2 {x y : Int32} {a b : Int} (ha : x.toInt = a) (hb : y.toInt = b) (h1 : -2147483648 ≤ a - b) (h2 : a - b ≤ 2147483647) : (x - y).toInt = a - b := by
  rw [Int32.toInt_sub, ha, hb]
  exact kk_bm h1 h2
theorem kk_mul2 {x y : Int32} {a b : Int} (ha : x.toInt = a) (hb : y.toInt = b) (h1 : -2147483648 ≤ a * b) (h2 : a * b ≤ 2147483647) : (x * y).toInt = a * b := by
  rw [Int32.toInt_mul, ha, hb]
  exact kk_bm h1 h2
theorem kk_uni {D : va_G} {cl : List vw_C} {tys : List (ClassId × FieldType)} {U : State} (h : va_K D cl tys U) (i j : Nat) {a b : ClassId} {ty : FieldType} (hi : tys[i]? = some (a, ty)) (hj : tys[j]? = some (b, ty)) : a = b := by
  have h1 := (h.2 i _ hi).2
  have h2 := (h.2 j _ hj).2
  have key : U.vm.findClass ("[" ++ ty.toString) = some a ∧ U.vm.findClass ("[" ++ ty.toString) = some b := by
    cases ty with
    | object C =>
      obtain ⟨_, _, _, _, _, h1⟩ := h1
      obtain ⟨_, _, _, _, _, h2⟩ := h2
      exact ⟨h1, h2⟩
    | _ => exact ⟨h1, h2⟩
  exact Option.some.inj (key.1.symm.trans key.2)
theorem kk_arr {D : va_G} {cl : List vw_C} {ws : va_W} {H : Heap} (hP : va_P D cl ws H) (p : Nat) {a : Nat} {cA : ClassId} {n : Nat} {f g : Nat → Int32} (hp : ws[p]? = some (a, .inl (cA, n, .inl f))) (h : ∀ j, j < n → f j = g j) : va_P D cl (ws.set p (a, .inl (cA, n, .inl g))) H := by
  have hl := (List.getElem?_eq_some_iff.mp hp).1
  have e : vp_cell cA (n, .inl f) = vp_cell cA (n, .inl g) := by
    show arrV cA n (fun j => .int (f j)) = arrV cA n (fun j => .int (g j))
    unfold arrV
    congr 1
    apply congrArg
    funext j
    show Value.int (f j.1) = Value.int (g j.1)
    rw [h j.1 j.2]
  intro k q hk
  by_cases hkp : k = p
  · subst hkp
    rw [List.getElem?_set_self hl] at hk
    cases hk
    show H[a]? = some (vp_cell cA (n, .inl g))
    rw [← e]
    exact hP _ _ hp
  · rw [List.getElem?_set_ne (Ne.symm hkp)] at hk
    exact hP k q hk
theorem kk_loop {p : Program} {l : Launch} {e : Env} {R : Room} {s : State} {m : MethodId} {args : Array Value} {below : List Frame} {meth : Method} {c : Code} {cu su : Nat} {Q : State → Prop} {pc : Nat} {σ : Type} (I : σ → Heap → List Loc → Array Slot → Prop) (μ : σ → Nat)
    (step : ∀ (x : σ) (H : Heap) (locs : List Loc) (ls : Array Slot), I x H locs ls → (∀ (y : σ) (H' : Heap) (locs' : List Loc) (ls' : Array Slot), μ y < μ x → I y H' locs' ls' → W p l e R s m args below meth c H' locs' cu su Q (F0 m pc ls' [])) → W p l e R s m args below meth c H locs cu su Q (F0 m pc ls []))
    (x : σ) (H : Heap) (locs : List Loc) (ls : Array Slot) (h : I x H locs ls) : W p l e R s m args below meth c H locs cu su Q (F0 m pc ls []) := by
  generalize hn : μ x = n
  induction n using Nat.strongRecOn generalizing x H locs ls with
  | _ n ih => exact step x H locs ls h (fun y H' l' s' hy hI => ih (μ y) (hn ▸ hy) y H' l' s' hI rfl)
theorem kk_innerint (c : ClassId) (K : Nat) : Jvm.Free.Multi.innerC c K (defaultValue .int) = vp_cell c (K, .inl (fun _ => 0)) := arrV_new c K (.int 0)
theorem kk_innerlong (c : ClassId) (K : Nat) : Jvm.Free.Multi.innerC c K (defaultValue .long) = vp_cell c (K, .inr (.inl (fun _ => 0))) := arrV_new c K (.long 0)
noncomputable def tb_NAMES : Nat → Value := fun j => .int (match j with | 0 => 119 | 1 => 110 | 2 => 100 | 3 => 121 | 4 => 122 | 5 => 102 | 6 => 105 | _ => 99)
noncomputable abbrev vwCl : List vw_C := [(RX0, TX0, 2), (RX1, TX1, 6), (RX2, TX2, 13), (RX3, TX3, 4), (RX4, TX4, 5), (RX5, TX5, 4), (RX6, TX6, 5), (RX7, TX7, 2), (RX8, TX8, 4), (RX9, TX9, 4), (RX10, TX10, 4), (RX11, TX11, 14), (RX12, TX12, 49)]
theorem kk_vwCl : ∀ q ∈ vwCl, q = (RX0, TX0, 2) ∨ q = (RX1, TX1, 6) ∨ q = (RX2, TX2, 13) ∨ q = (RX3, TX3, 4) ∨ q = (RX4, TX4, 5) ∨ q = (RX5, TX5, 4) ∨ q = (RX6, TX6, 5) ∨ q = (RX7, TX7, 2) ∨ q = (RX8, TX8, 4) ∨ q = (RX9, TX9, 4) ∨ q = (RX10, TX10, 4) ∨ q = (RX11, TX11, 14) ∨ q = (RX12, TX12, 49) := by
  intro q h
  simp only [vwCl, List.mem_cons, List.not_mem_nil, or_false] at h
  exact h
theorem kk_known {s : State} : ∀ (cl : List vw_C), (∀ q ∈ cl, ∃ (cC : ClassId) (iS : Nat → Nat), u_Kn s q.1 q.2.1 q.2.2 cC iS) → ∃ (dC : Nat → ClassId) (dI : Nat → Nat → Nat), ∀ (k : Nat) (q : vw_C), cl[k]? = some q → u_Kn s q.1 q.2.1 q.2.2 (dC k) (dI k)
  | [], _ => ⟨fun _ => (0 : Nat), fun _ _ => 0, fun k q h => by simp at h⟩
  | q :: cl, h => by
    obtain ⟨c, i, hc⟩ := h q List.mem_cons_self
    obtain ⟨dC, dI, hk⟩ := kk_known cl (fun x hx => h x (List.mem_cons_of_mem _ hx))
    exact ⟨fun k => match k with | 0 => c | k + 1 => dC k, fun k => match k with | 0 => i | k + 1 => dI k, fun k x hx => by
      cases k with
      | zero => cases hx; exact hc
      | succ k => exact hk k x hx⟩
theorem kk_eqt {args : Array Value} {s : State} {t : Term} {z : Int32} (h : (Cond.eq t (.int z)).before args s = true) : t.eval args s none [] s = some (.int z) := by
  cases hv : t.eval args s none [] s with
  | none => simp [Cond.before, Cond.holds, Cond.value, hv] at h
  | some w =>
    have hz : (Term.int z).eval args s none [] s = some (.int z) := rfl
    simp only [Cond.before, Cond.holds, Cond.value, hv, hz] at h
    cases w <;> simp_all
theorem kk_newX0 : ∀ j, j < 2 → defaultValue (tyX0 j) = vp_V [.null, .int 0] j := fun j hj => by rcases (show j = 0 ∨ j = 1 by omega) with rfl | rfl <;> rfl
theorem kk_newX1 : ∀ j, j < 6 → defaultValue (tyX1 j) = vp_V [.null, .null, .null, .null, .int 0, .int 0] j := fun j hj => by rcases (show j = 0 ∨ j = 1 ∨ j = 2 ∨ j = 3 ∨ j = 4 ∨ j = 5 by omega) with rfl | rfl | rfl | rfl | rfl | rfl <;> rfl
theorem kk_newX10 : ∀ j, j < 4 → defaultValue (tyX10 j) = vp_V [.null, .int 0, .int 0, .null] j := fun j hj => by rcases (show j = 0 ∨ j = 1 ∨ j = 2 ∨ j = 3 by omega) with rfl | rfl | rfl | rfl <;> rfl
theorem kk_newX11 : ∀ j, j < 14 → defaultValue (tyX11 j) = vp_V [.null, .int 0, .null, .null, .null, .null, .null, .null, .null, .null, .null, .int 0, .null, .null] j := fun j hj => by rcases (show j = 0 ∨ j = 1 ∨ j = 2 ∨ j = 3 ∨ j = 4 ∨ j = 5 ∨ j = 6 ∨ j = 7 ∨ j = 8 ∨ j = 9 ∨ j = 10 ∨ j = 11 ∨ j = 12 ∨ j = 13 by omega) with rfl | rfl | rfl | rfl | rfl | rfl | rfl | rfl | rfl | rfl | rfl | rfl | rfl | rfl <;> rfl
theorem kk_newX12 : ∀ j, j < 49 → defaultValue (tyX12 j) = vp_V [.int 0, .null, .null, .null, .null, .null, .int 0, .int 0, .null, .int 0, .int 0, .null, .null, .null, .null, .null, .null, .null, .int 0, .int 0, .null, .null, .null, .null, .int 0, .null, .null, .int 0, .null, .int 0, .int 0, .null, .null, .int 0, .int 0, .int 0, .int 0, .int 0, .null, .int 0, .null, .null, .int 0, .int 0, .int 0, .null, .null, .null, .null] j := fun j hj => by rcases (show j = 0 ∨ j = 1 ∨ j = 2 ∨ j = 3 ∨ j = 4 ∨ j = 5 ∨ j = 6 ∨ j = 7 ∨ j = 8 ∨ j = 9 ∨ j = 10 ∨ j = 11 ∨ j = 12 ∨ j = 13 ∨ j = 14 ∨ j = 15 ∨ j = 16 ∨ j = 17 ∨ j = 18 ∨ j = 19 ∨ j = 20 ∨ j = 21 ∨ j = 22 ∨ j = 23 ∨ j = 24 ∨ j = 25 ∨ j = 26 ∨ j = 27 ∨ j = 28 ∨ j = 29 ∨ j = 30 ∨ j = 31 ∨ j = 32 ∨ j = 33 ∨ j = 34 ∨ j = 35 ∨ j = 36 ∨ j = 37 ∨ j = 38 ∨ j = 39 ∨ j = 40 ∨ j = 41 ∨ j = 42 ∨ j = 43 ∨ j = 44 ∨ j = 45 ∨ j = 46 ∨ j = 47 ∨ j = 48 by omega) with rfl | rfl | rfl | rfl | rfl | rfl | rfl | rfl | rfl | rfl | rfl | rfl | rfl | rfl | rfl | rfl | rfl | rfl | rfl | rfl | rfl | rfl | rfl | rfl | rfl | rfl | rfl | rfl | rfl | rfl | rfl | rfl | rfl | rfl | rfl | rfl | rfl | rfl | rfl | rfl | rfl | rfl | rfl | rfl | rfl | rfl | rfl | rfl | rfl <;> rfl
theorem kk_newX2 : ∀ j, j < 13 → defaultValue (tyX2 j) = vp_V [.null, .null, .null, .int 0, .null, .int 0, .int 0, .null, .null, .null, .null, .null, .int 0] j := fun j hj => by rcases (show j = 0 ∨ j = 1 ∨ j = 2 ∨ j = 3 ∨ j = 4 ∨ j = 5 ∨ j = 6 ∨ j = 7 ∨ j = 8 ∨ j = 9 ∨ j = 10 ∨ j = 11 ∨ j = 12 by omega) with rfl | rfl | rfl | rfl | rfl | rfl | rfl | rfl | rfl | rfl | rfl | rfl | rfl <;> rfl
theorem kk_newX3 : ∀ j, j < 4 → defaultValue (tyX3 j) = vp_V [.null, .null, .null, .null] j := fun j hj => by rcases (show j = 0 ∨ j = 1 ∨ j = 2 ∨ j = 3 by omega) with rfl | rfl | rfl | rfl <;> rfl
theorem kk_newX4 : ∀ j, j < 5 → defaultValue (tyX4 j) = vp_V [.null, .int 0, .null, .null, .int 0] j := fun j hj => by rcases (show j = 0 ∨ j = 1 ∨ j = 2 ∨ j = 3 ∨ j = 4 by omega) with rfl | rfl | rfl | rfl | rfl <;> rfl
theorem kk_newX5 : ∀ j, j < 4 → defaultValue (tyX5 j) = vp_V [.null, .int 0, .null, .int 0] j := fun j hj => by rcases (show j = 0 ∨ j = 1 ∨ j = 2 ∨ j = 3 by omega) with rfl | rfl | rfl | rfl <;> rfl
theorem kk_newX6 : ∀ j, j < 5 → defaultValue (tyX6 j) = vp_V [.null, .null, .null, .null, .int 0] j := fun j hj => by rcases (show j = 0 ∨ j = 1 ∨ j = 2 ∨ j = 3 ∨ j = 4 by omega) with rfl | rfl | rfl | rfl | rfl <;> rfl
theorem kk_newX7 : ∀ j, j < 2 → defaultValue (tyX7 j) = vp_V [.null, .int 0] j := fun j hj => by rcases (show j = 0 ∨ j = 1 by omega) with rfl | rfl <;> rfl
theorem kk_newX8 : ∀ j, j < 4 → defaultValue (tyX8 j) = vp_V [.null, .int 0, .int 0, .int 0] j := fun j hj => by rcases (show j = 0 ∨ j = 1 ∨ j = 2 ∨ j = 3 by omega) with rfl | rfl | rfl | rfl <;> rfl
theorem kk_newX9 : ∀ j, j < 4 → defaultValue (tyX9 j) = vp_V [.null, .null, .null, .int 0] j := fun j hj => by rcases (show j = 0 ∨ j = 1 ∨ j = 2 ∨ j = 3 by omega) with rfl | rfl | rfl | rfl <;> rfl
