-- what a byte read says of the byte of the TEXT
theorem kd_no0 {i n r cq f : Int} (h1 : r ≠ 124) (h : ((i < n → r = cq ∧ 0 ≤ r) ∧ (n ≤ i → r = -1 ∧ cq = 0))) : f ≤ 0 ∨ ¬ (((0 : Int) = 0 ∧ cq = 124) ∨ ((0 : Int) = 1 ∧ cq = 38) ∨ ((0 : Int) = 2 ∧ 60 ≤ cq ∧ cq ≤ 62) ∨ ((0 : Int) = 3 ∧ (cq = 43 ∨ cq = 45)) ∨ ((0 : Int) = 4 ∧ (cq = 42 ∨ cq = 47 ∨ cq = 37))) := by omega
theorem kd_ys0 {i n r cq : Int} (h1 : r = 124) (h : ((i < n → r = cq ∧ 0 ≤ r) ∧ (n ≤ i → r = -1 ∧ cq = 0))) : (((0 : Int) = 0 ∧ cq = 124) ∨ ((0 : Int) = 1 ∧ cq = 38) ∨ ((0 : Int) = 2 ∧ 60 ≤ cq ∧ cq ≤ 62) ∨ ((0 : Int) = 3 ∧ (cq = 43 ∨ cq = 45)) ∨ ((0 : Int) = 4 ∧ (cq = 42 ∨ cq = 47 ∨ cq = 37))) := by omega
theorem kd_eq0 {i n r r1 cq : Int} (h1 : r = 124) (h : ((i < n → r = cq ∧ 0 ≤ r) ∧ (n ≤ i → r = -1 ∧ cq = 0))) (h2 : ((i < n → r1 = cq ∧ 0 ≤ r1) ∧ (n ≤ i → r1 = -1 ∧ cq = 0))) : r1 = cq := by omega
theorem kd_no1 {i n r cq f : Int} (h1 : r ≠ 38) (h : ((i < n → r = cq ∧ 0 ≤ r) ∧ (n ≤ i → r = -1 ∧ cq = 0))) : f ≤ 0 ∨ ¬ (((1 : Int) = 0 ∧ cq = 124) ∨ ((1 : Int) = 1 ∧ cq = 38) ∨ ((1 : Int) = 2 ∧ 60 ≤ cq ∧ cq ≤ 62) ∨ ((1 : Int) = 3 ∧ (cq = 43 ∨ cq = 45)) ∨ ((1 : Int) = 4 ∧ (cq = 42 ∨ cq = 47 ∨ cq = 37))) := by omega
theorem kd_ys1 {i n r cq : Int} (h1 : r = 38) (h : ((i < n → r = cq ∧ 0 ≤ r) ∧ (n ≤ i → r = -1 ∧ cq = 0))) : (((1 : Int) = 0 ∧ cq = 124) ∨ ((1 : Int) = 1 ∧ cq = 38) ∨ ((1 : Int) = 2 ∧ 60 ≤ cq ∧ cq ≤ 62) ∨ ((1 : Int) = 3 ∧ (cq = 43 ∨ cq = 45)) ∨ ((1 : Int) = 4 ∧ (cq = 42 ∨ cq = 47 ∨ cq = 37))) := by omega
theorem kd_eq1 {i n r r1 cq : Int} (h1 : r = 38) (h : ((i < n → r = cq ∧ 0 ≤ r) ∧ (n ≤ i → r = -1 ∧ cq = 0))) (h2 : ((i < n → r1 = cq ∧ 0 ≤ r1) ∧ (n ≤ i → r1 = -1 ∧ cq = 0))) : r1 = cq := by omega
theorem kd_no2 {i n r cq f : Int} (h1 : (r < 60 ∨ 62 < r)) (h : ((i < n → r = cq ∧ 0 ≤ r) ∧ (n ≤ i → r = -1 ∧ cq = 0))) : f ≤ 0 ∨ ¬ (((2 : Int) = 0 ∧ cq = 124) ∨ ((2 : Int) = 1 ∧ cq = 38) ∨ ((2 : Int) = 2 ∧ 60 ≤ cq ∧ cq ≤ 62) ∨ ((2 : Int) = 3 ∧ (cq = 43 ∨ cq = 45)) ∨ ((2 : Int) = 4 ∧ (cq = 42 ∨ cq = 47 ∨ cq = 37))) := by omega
theorem kd_ys2 {i n r cq : Int} (h1 : (60 ≤ r ∧ r ≤ 62)) (h : ((i < n → r = cq ∧ 0 ≤ r) ∧ (n ≤ i → r = -1 ∧ cq = 0))) : (((2 : Int) = 0 ∧ cq = 124) ∨ ((2 : Int) = 1 ∧ cq = 38) ∨ ((2 : Int) = 2 ∧ 60 ≤ cq ∧ cq ≤ 62) ∨ ((2 : Int) = 3 ∧ (cq = 43 ∨ cq = 45)) ∨ ((2 : Int) = 4 ∧ (cq = 42 ∨ cq = 47 ∨ cq = 37))) := by omega
theorem kd_eq2 {i n r r1 cq : Int} (h1 : (60 ≤ r ∧ r ≤ 62)) (h : ((i < n → r = cq ∧ 0 ≤ r) ∧ (n ≤ i → r = -1 ∧ cq = 0))) (h2 : ((i < n → r1 = cq ∧ 0 ≤ r1) ∧ (n ≤ i → r1 = -1 ∧ cq = 0))) : r1 = cq := by omega
theorem kd_no3 {i n r cq f : Int} (h1 : (r ≠ 43 ∧ r ≠ 45)) (h : ((i < n → r = cq ∧ 0 ≤ r) ∧ (n ≤ i → r = -1 ∧ cq = 0))) : f ≤ 0 ∨ ¬ (((3 : Int) = 0 ∧ cq = 124) ∨ ((3 : Int) = 1 ∧ cq = 38) ∨ ((3 : Int) = 2 ∧ 60 ≤ cq ∧ cq ≤ 62) ∨ ((3 : Int) = 3 ∧ (cq = 43 ∨ cq = 45)) ∨ ((3 : Int) = 4 ∧ (cq = 42 ∨ cq = 47 ∨ cq = 37))) := by omega
theorem kd_ys3 {i n r cq : Int} (h1 : (r = 43 ∨ r = 45)) (h : ((i < n → r = cq ∧ 0 ≤ r) ∧ (n ≤ i → r = -1 ∧ cq = 0))) : (((3 : Int) = 0 ∧ cq = 124) ∨ ((3 : Int) = 1 ∧ cq = 38) ∨ ((3 : Int) = 2 ∧ 60 ≤ cq ∧ cq ≤ 62) ∨ ((3 : Int) = 3 ∧ (cq = 43 ∨ cq = 45)) ∨ ((3 : Int) = 4 ∧ (cq = 42 ∨ cq = 47 ∨ cq = 37))) := by omega
theorem kd_eq3 {i n r r1 cq : Int} (h1 : (r = 43 ∨ r = 45)) (h : ((i < n → r = cq ∧ 0 ≤ r) ∧ (n ≤ i → r = -1 ∧ cq = 0))) (h2 : ((i < n → r1 = cq ∧ 0 ≤ r1) ∧ (n ≤ i → r1 = -1 ∧ cq = 0))) : r1 = cq := by omega
theorem kd_no4 {i n r cq f : Int} (h1 : (r ≠ 42 ∧ r ≠ 47 ∧ r ≠ 37)) (h : ((i < n → r = cq ∧ 0 ≤ r) ∧ (n ≤ i → r = -1 ∧ cq = 0))) : f ≤ 0 ∨ ¬ (((4 : Int) = 0 ∧ cq = 124) ∨ ((4 : Int) = 1 ∧ cq = 38) ∨ ((4 : Int) = 2 ∧ 60 ≤ cq ∧ cq ≤ 62) ∨ ((4 : Int) = 3 ∧ (cq = 43 ∨ cq = 45)) ∨ ((4 : Int) = 4 ∧ (cq = 42 ∨ cq = 47 ∨ cq = 37))) := by omega
theorem kd_ys4 {i n r cq : Int} (h1 : (r = 42 ∨ r = 47 ∨ r = 37)) (h : ((i < n → r = cq ∧ 0 ≤ r) ∧ (n ≤ i → r = -1 ∧ cq = 0))) : (((4 : Int) = 0 ∧ cq = 124) ∨ ((4 : Int) = 1 ∧ cq = 38) ∨ ((4 : Int) = 2 ∧ 60 ≤ cq ∧ cq ≤ 62) ∨ ((4 : Int) = 3 ∧ (cq = 43 ∨ cq = 45)) ∨ ((4 : Int) = 4 ∧ (cq = 42 ∨ cq = 47 ∨ cq = 37))) := by omega
theorem kd_eq4 {i n r r1 cq : Int} (h1 : (r = 42 ∨ r = 47 ∨ r = 37)) (h : ((i < n → r = cq ∧ 0 ≤ r) ∧ (n ≤ i → r = -1 ∧ cq = 0))) (h2 : ((i < n → r1 = cq ∧ 0 ≤ r1) ∧ (n ≤ i → r1 = -1 ∧ cq = 0))) : r1 = cq := by omega
theorem kd_in2 {i n r cq : Int} (h1 : (60 ≤ r ∧ r ≤ 62)) (h : ((i < n → r = cq ∧ 0 ≤ r) ∧ (n ≤ i → r = -1 ∧ cq = 0))) : 60 ≤ cq ∧ cq ≤ 62 := by omega
theorem kd_k {i n r cq k : Int} (h : ((i < n → r = cq ∧ 0 ≤ r) ∧ (n ≤ i → r = -1 ∧ cq = 0))) (h1 : r = k) (hk : 0 < k) : cq = k ∧ i < n ∧ r = cq := by omega
theorem kd_nk {i n r cq k : Int} (h : ((i < n → r = cq ∧ 0 ≤ r) ∧ (n ≤ i → r = -1 ∧ cq = 0))) (h1 : r ≠ k) (hk : 0 < k) : cq ≠ k := by omega
theorem kd_dg {i n r cq : Int} (h : ((i < n → r = cq ∧ 0 ≤ r) ∧ (n ≤ i → r = -1 ∧ cq = 0))) (h1 : 48 ≤ r ∧ r ≤ 57) : (48 ≤ cq ∧ cq ≤ 57) ∧ i < n ∧ r = cq := by omega
theorem kd_nd {i n r cq : Int} (h : ((i < n → r = cq ∧ 0 ≤ r) ∧ (n ≤ i → r = -1 ∧ cq = 0))) (h1 : r < 48 ∨ 57 < r) : cq < 48 ∨ 57 < cq := by omega
theorem kd_nm {i n r cq x : Int} (h : ((i < n → r = cq ∧ 0 ≤ r) ∧ (n ≤ i → r = -1 ∧ cq = 0))) (h1 : (0 ≤ x → (r = 119 ∨ r = 110 ∨ r = 100 ∨ r = 121 ∨ r = 122 ∨ r = 102 ∨ r = 105 ∨ r = 99)) ∧ (x < 0 → ¬ (r = 119 ∨ r = 110 ∨ r = 100 ∨ r = 121 ∨ r = 122 ∨ r = 102 ∨ r = 105 ∨ r = 99))) (h2 : 0 ≤ x) : (cq = 119 ∨ cq = 110 ∨ cq = 100 ∨ cq = 121 ∨ cq = 122 ∨ cq = 102 ∨ cq = 105 ∨ cq = 99) ∧ i < n ∧ r = cq := by
  have h3 := h1.1 h2
  clear h1
  omega
theorem kd_nn {i n r cq x : Int} (h : ((i < n → r = cq ∧ 0 ≤ r) ∧ (n ≤ i → r = -1 ∧ cq = 0))) (h1 : (0 ≤ x → (r = 119 ∨ r = 110 ∨ r = 100 ∨ r = 121 ∨ r = 122 ∨ r = 102 ∨ r = 105 ∨ r = 99)) ∧ (x < 0 → ¬ (r = 119 ∨ r = 110 ∨ r = 100 ∨ r = 121 ∨ r = 122 ∨ r = 102 ∨ r = 105 ∨ r = 99))) (h2 : x < 0) : ¬ (cq = 119 ∨ cq = 110 ∨ cq = 100 ∨ cq = 121 ∨ cq = 122 ∨ cq = 102 ∨ cq = 105 ∨ cq = 99) := by
  have h3 := h1.2 h2
  clear h1
  omega
theorem kd_bx {p : Prop} (h : p) : kk_bx p := h
theorem kd_ub {p : Prop} (h : kk_bx p) : p := h
