theorem kk_rmF {F a : Nat} (hF : 10 ≤ F) (h : a ≤ 11) : a ≤ F + 1 := Nat.le_trans h (Nat.succ_le_succ hF)
theorem kk_rmM {L a c : Nat} (hL : 200 ≤ L) (h : a ≤ 200 + c) : a ≤ L + c := Nat.le_trans h (Nat.add_le_add_right hL c)
theorem kk_rmL {L a k c : Nat} (h : a ≤ L) (q : k ≤ c) : k + a ≤ L + c := Nat.add_comm a k ▸ Nat.add_le_add h q
def ka_X10_readOperand (l : Launch) (F L : Nat) (rk : Int) : Prop := ∀ (dC : Nat → ClassId) (dI : Nat → Nat → Nat) (h0 : Nat) (h1 : Nat) (h2 : Nat) (h3 : Nat) (h4 : Nat) (h5 : Nat) (cint : ClassId) (sz : Nat) (p0 : Int32) (tp0 : 0 ≤ p0.toInt ∧ p0.toInt ≤ 6) (n0_size : Int32) (n0_place : Int32) (f1 : Nat → Int32) (n2_size : Int32) (n2_top : Int32) (f3 : Nat → Int32) (tn0_size : 0 ≤ n0_size.toInt ∧ n0_size.toInt ≤ 120) (bf1 : ∀ j, j < 120 → 0 ≤ (f1 j).toInt ∧ (f1 j).toInt ≤ 255) (tn2_size : 0 ≤ n2_size.toInt ∧ n2_size.toInt ≤ 128) (tn2_top : 0 ≤ n2_top.toInt ∧ n2_top.toInt ≤ 64) (pr0 : (6 ≤ p0.toInt + rk)) (aNAMES : Nat), Met l yX10_readOperand wsX10_readOperand ({ frames := F, cells := 0, slots := 0, locals := L }) (va_Pc [.ref h0, .int p0] (fun U => U.heap.size = sz ∧ va_P (dC, dI) vwCl [(h0, kO10 h1 n0_size n0_place h2), (h1, kAi cint 120 f1), (h2, kO4 h3 n2_size h4 h5 n2_top), (h3, kAi cint 128 f3)] U.heap ∧ va_K (dC, dI) vwCl [(cint, .int)] U ∧ va_D (fun _ => True) [(h0, kO10 h1 n0_size n0_place h2), (h1, kAi cint 120 f1), (h2, kO4 h3 n2_size h4 h5 n2_top), (h3, kAi cint 128 f3)] ∧ va_Z "KinkStreet$Law" "NAMES" "[C" (.ref aNAMES) (va_A [(h0, kO10 h1 n0_size n0_place h2), (h1, kAi cint 120 f1), (h2, kO4 h3 n2_size h4 h5 n2_top), (h3, kAi cint 128 f3)] sz) U U.heap ∧ va_T .char aNAMES 8 tb_NAMES (va_A [(h0, kO10 h1 n0_size n0_place h2), (h1, kAi cint 120 f1), (h2, kO4 h3 n2_size h4 h5 n2_top), (h3, kAi cint 128 f3)] sz) U U.heap)) (va_Qi (fun (r : Int32) (_ : Unit) => (0 ≤ r.toInt ∧ r.toInt ≤ 1)) (fun (_ : Unit) t => ∃ (m0_place : Int32) (m2_size : Int32) (g3 : Nat → Int32), (0 ≤ m2_size.toInt ∧ m2_size.toInt ≤ 128) ∧ va_P (dC, dI) vwCl [(h0, kO10 h1 n0_size m0_place h2), (h1, kAi cint 120 f1), (h2, kO4 h3 m2_size h4 h5 n2_top), (h3, kAi cint 128 g3)] t.heap ∧ va_K (dC, dI) vwCl [] t ∧ va_D (va_A [(h0, kO10 h1 n0_size n0_place h2), (h1, kAi cint 120 f1), (h2, kO4 h3 n2_size h4 h5 n2_top), (h3, kAi cint 128 f3)] sz) [(h0, kO10 h1 n0_size m0_place h2), (h1, kAi cint 120 f1), (h2, kO4 h3 m2_size h4 h5 n2_top), (h3, kAi cint 128 g3)]) (va_A [(h0, kO10 h1 n0_size n0_place h2), (h1, kAi cint 120 f1), (h2, kO4 h3 n2_size h4 h5 n2_top), (h3, kAi cint 128 f3)] sz)) 0 0 (va_A [(h0, kO10 h1 n0_size n0_place h2), (h1, kAi cint 120 f1), (h2, kO4 h3 n2_size h4 h5 n2_top), (h3, kAi cint 128 f3)] sz)
def ka_X10_readChain_5 (l : Launch) (F L : Nat) (rk : Int) : Prop := ∀ (dC : Nat → ClassId) (dI : Nat → Nat → Nat) (h0 : Nat) (h1 : Nat) (h2 : Nat) (h3 : Nat) (h4 : Nat) (h5 : Nat) (cint : ClassId) (sz : Nat) (p1 : Int32) (tp1 : 0 ≤ p1.toInt ∧ p1.toInt ≤ 6) (n0_size : Int32) (n0_place : Int32) (f1 : Nat → Int32) (n2_size : Int32) (n2_top : Int32) (f3 : Nat → Int32) (tn0_size : 0 ≤ n0_size.toInt ∧ n0_size.toInt ≤ 120) (bf1 : ∀ j, j < 120 → 0 ≤ (f1 j).toInt ∧ (f1 j).toInt ≤ 255) (tn2_size : 0 ≤ n2_size.toInt ∧ n2_size.toInt ≤ 128) (tn2_top : 0 ≤ n2_top.toInt ∧ n2_top.toInt ≤ 64) (pr0 : (6 ≤ p1.toInt + rk)) (aNAMES : Nat), Met l yX10_readChain wsX10_readChain ({ frames := F, cells := 0, slots := 0, locals := L }) (va_Pc [.ref h0, .int 5, .int p1] (fun U => U.heap.size = sz ∧ va_P (dC, dI) vwCl [(h0, kO10 h1 n0_size n0_place h2), (h1, kAi cint 120 f1), (h2, kO4 h3 n2_size h4 h5 n2_top), (h3, kAi cint 128 f3)] U.heap ∧ va_K (dC, dI) vwCl [(cint, .int)] U ∧ va_D (fun _ => True) [(h0, kO10 h1 n0_size n0_place h2), (h1, kAi cint 120 f1), (h2, kO4 h3 n2_size h4 h5 n2_top), (h3, kAi cint 128 f3)] ∧ va_Z "KinkStreet$Law" "NAMES" "[C" (.ref aNAMES) (va_A [(h0, kO10 h1 n0_size n0_place h2), (h1, kAi cint 120 f1), (h2, kO4 h3 n2_size h4 h5 n2_top), (h3, kAi cint 128 f3)] sz) U U.heap ∧ va_T .char aNAMES 8 tb_NAMES (va_A [(h0, kO10 h1 n0_size n0_place h2), (h1, kAi cint 120 f1), (h2, kO4 h3 n2_size h4 h5 n2_top), (h3, kAi cint 128 f3)] sz) U U.heap)) (va_Qi (fun (r : Int32) (_ : Unit) => (0 ≤ r.toInt ∧ r.toInt ≤ 1)) (fun (_ : Unit) t => ∃ (m0_place : Int32) (m2_size : Int32) (g3 : Nat → Int32), (0 ≤ m2_size.toInt ∧ m2_size.toInt ≤ 128) ∧ va_P (dC, dI) vwCl [(h0, kO10 h1 n0_size m0_place h2), (h1, kAi cint 120 f1), (h2, kO4 h3 m2_size h4 h5 n2_top), (h3, kAi cint 128 g3)] t.heap ∧ va_K (dC, dI) vwCl [] t ∧ va_D (va_A [(h0, kO10 h1 n0_size n0_place h2), (h1, kAi cint 120 f1), (h2, kO4 h3 n2_size h4 h5 n2_top), (h3, kAi cint 128 f3)] sz) [(h0, kO10 h1 n0_size m0_place h2), (h1, kAi cint 120 f1), (h2, kO4 h3 m2_size h4 h5 n2_top), (h3, kAi cint 128 g3)]) (va_A [(h0, kO10 h1 n0_size n0_place h2), (h1, kAi cint 120 f1), (h2, kO4 h3 n2_size h4 h5 n2_top), (h3, kAi cint 128 f3)] sz)) 0 0 (va_A [(h0, kO10 h1 n0_size n0_place h2), (h1, kAi cint 120 f1), (h2, kO4 h3 n2_size h4 h5 n2_top), (h3, kAi cint 128 f3)] sz)
def ka_X10_readChain_4 (l : Launch) (F L : Nat) (rk : Int) : Prop := ∀ (dC : Nat → ClassId) (dI : Nat → Nat → Nat) (h0 : Nat) (h1 : Nat) (h2 : Nat) (h3 : Nat) (h4 : Nat) (h5 : Nat) (cint : ClassId) (sz : Nat) (p1 : Int32) (tp1 : 0 ≤ p1.toInt ∧ p1.toInt ≤ 6) (n0_size : Int32) (n0_place : Int32) (f1 : Nat → Int32) (n2_size : Int32) (n2_top : Int32) (f3 : Nat → Int32) (tn0_size : 0 ≤ n0_size.toInt ∧ n0_size.toInt ≤ 120) (bf1 : ∀ j, j < 120 → 0 ≤ (f1 j).toInt ∧ (f1 j).toInt ≤ 255) (tn2_size : 0 ≤ n2_size.toInt ∧ n2_size.toInt ≤ 128) (tn2_top : 0 ≤ n2_top.toInt ∧ n2_top.toInt ≤ 64) (pr0 : (6 ≤ p1.toInt + rk)) (aNAMES : Nat), Met l yX10_readChain wsX10_readChain ({ frames := F, cells := 0, slots := 0, locals := L }) (va_Pc [.ref h0, .int 4, .int p1] (fun U => U.heap.size = sz ∧ va_P (dC, dI) vwCl [(h0, kO10 h1 n0_size n0_place h2), (h1, kAi cint 120 f1), (h2, kO4 h3 n2_size h4 h5 n2_top), (h3, kAi cint 128 f3)] U.heap ∧ va_K (dC, dI) vwCl [(cint, .int)] U ∧ va_D (fun _ => True) [(h0, kO10 h1 n0_size n0_place h2), (h1, kAi cint 120 f1), (h2, kO4 h3 n2_size h4 h5 n2_top), (h3, kAi cint 128 f3)] ∧ va_Z "KinkStreet$Law" "NAMES" "[C" (.ref aNAMES) (va_A [(h0, kO10 h1 n0_size n0_place h2), (h1, kAi cint 120 f1), (h2, kO4 h3 n2_size h4 h5 n2_top), (h3, kAi cint 128 f3)] sz) U U.heap ∧ va_T .char aNAMES 8 tb_NAMES (va_A [(h0, kO10 h1 n0_size n0_place h2), (h1, kAi cint 120 f1), (h2, kO4 h3 n2_size h4 h5 n2_top), (h3, kAi cint 128 f3)] sz) U U.heap)) (va_Qi (fun (r : Int32) (_ : Unit) => (0 ≤ r.toInt ∧ r.toInt ≤ 1)) (fun (_ : Unit) t => ∃ (m0_place : Int32) (m2_size : Int32) (g3 : Nat → Int32), (0 ≤ m2_size.toInt ∧ m2_size.toInt ≤ 128) ∧ va_P (dC, dI) vwCl [(h0, kO10 h1 n0_size m0_place h2), (h1, kAi cint 120 f1), (h2, kO4 h3 m2_size h4 h5 n2_top), (h3, kAi cint 128 g3)] t.heap ∧ va_K (dC, dI) vwCl [] t ∧ va_D (va_A [(h0, kO10 h1 n0_size n0_place h2), (h1, kAi cint 120 f1), (h2, kO4 h3 n2_size h4 h5 n2_top), (h3, kAi cint 128 f3)] sz) [(h0, kO10 h1 n0_size m0_place h2), (h1, kAi cint 120 f1), (h2, kO4 h3 m2_size h4 h5 n2_top), (h3, kAi cint 128 g3)]) (va_A [(h0, kO10 h1 n0_size n0_place h2), (h1, kAi cint 120 f1), (h2, kO4 h3 n2_size h4 h5 n2_top), (h3, kAi cint 128 f3)] sz)) 0 0 (va_A [(h0, kO10 h1 n0_size n0_place h2), (h1, kAi cint 120 f1), (h2, kO4 h3 n2_size h4 h5 n2_top), (h3, kAi cint 128 f3)] sz)
def ka_X10_readChain_3 (l : Launch) (F L : Nat) (rk : Int) : Prop := ∀ (dC : Nat → ClassId) (dI : Nat → Nat → Nat) (h0 : Nat) (h1 : Nat) (h2 : Nat) (h3 : Nat) (h4 : Nat) (h5 : Nat) (cint : ClassId) (sz : Nat) (p1 : Int32) (tp1 : 0 ≤ p1.toInt ∧ p1.toInt ≤ 6) (n0_size : Int32) (n0_place : Int32) (f1 : Nat → Int32) (n2_size : Int32) (n2_top : Int32) (f3 : Nat → Int32) (tn0_size : 0 ≤ n0_size.toInt ∧ n0_size.toInt ≤ 120) (bf1 : ∀ j, j < 120 → 0 ≤ (f1 j).toInt ∧ (f1 j).toInt ≤ 255) (tn2_size : 0 ≤ n2_size.toInt ∧ n2_size.toInt ≤ 128) (tn2_top : 0 ≤ n2_top.toInt ∧ n2_top.toInt ≤ 64) (pr0 : (6 ≤ p1.toInt + rk)) (aNAMES : Nat), Met l yX10_readChain wsX10_readChain ({ frames := F, cells := 0, slots := 0, locals := L }) (va_Pc [.ref h0, .int 3, .int p1] (fun U => U.heap.size = sz ∧ va_P (dC, dI) vwCl [(h0, kO10 h1 n0_size n0_place h2), (h1, kAi cint 120 f1), (h2, kO4 h3 n2_size h4 h5 n2_top), (h3, kAi cint 128 f3)] U.heap ∧ va_K (dC, dI) vwCl [(cint, .int)] U ∧ va_D (fun _ => True) [(h0, kO10 h1 n0_size n0_place h2), (h1, kAi cint 120 f1), (h2, kO4 h3 n2_size h4 h5 n2_top), (h3, kAi cint 128 f3)] ∧ va_Z "KinkStreet$Law" "NAMES" "[C" (.ref aNAMES) (va_A [(h0, kO10 h1 n0_size n0_place h2), (h1, kAi cint 120 f1), (h2, kO4 h3 n2_size h4 h5 n2_top), (h3, kAi cint 128 f3)] sz) U U.heap ∧ va_T .char aNAMES 8 tb_NAMES (va_A [(h0, kO10 h1 n0_size n0_place h2), (h1, kAi cint 120 f1), (h2, kO4 h3 n2_size h4 h5 n2_top), (h3, kAi cint 128 f3)] sz) U U.heap)) (va_Qi (fun (r : Int32) (_ : Unit) => (0 ≤ r.toInt ∧ r.toInt ≤ 1)) (fun (_ : Unit) t => ∃ (m0_place : Int32) (m2_size : Int32) (g3 : Nat → Int32), (0 ≤ m2_size.toInt ∧ m2_size.toInt ≤ 128) ∧ va_P (dC, dI) vwCl [(h0, kO10 h1 n0_size m0_place h2), (h1, kAi cint 120 f1), (h2, kO4 h3 m2_size h4 h5 n2_top), (h3, kAi cint 128 g3)] t.heap ∧ va_K (dC, dI) vwCl [] t ∧ va_D (va_A [(h0, kO10 h1 n0_size n0_place h2), (h1, kAi cint 120 f1), (h2, kO4 h3 n2_size h4 h5 n2_top), (h3, kAi cint 128 f3)] sz) [(h0, kO10 h1 n0_size m0_place h2), (h1, kAi cint 120 f1), (h2, kO4 h3 m2_size h4 h5 n2_top), (h3, kAi cint 128 g3)]) (va_A [(h0, kO10 h1 n0_size n0_place h2), (h1, kAi cint 120 f1), (h2, kO4 h3 n2_size h4 h5 n2_top), (h3, kAi cint 128 f3)] sz)) 0 0 (va_A [(h0, kO10 h1 n0_size n0_place h2), (h1, kAi cint 120 f1), (h2, kO4 h3 n2_size h4 h5 n2_top), (h3, kAi cint 128 f3)] sz)
def ka_X10_readChain_2 (l : Launch) (F L : Nat) (rk : Int) : Prop := ∀ (dC : Nat → ClassId) (dI : Nat → Nat → Nat) (h0 : Nat) (h1 : Nat) (h2 : Nat) (h3 : Nat) (h4 : Nat) (h5 : Nat) (cint : ClassId) (sz : Nat) (p1 : Int32) (tp1 : 0 ≤ p1.toInt ∧ p1.toInt ≤ 6) (n0_size : Int32) (n0_place : Int32) (f1 : Nat → Int32) (n2_size : Int32) (n2_top : Int32) (f3 : Nat → Int32) (tn0_size : 0 ≤ n0_size.toInt ∧ n0_size.toInt ≤ 120) (bf1 : ∀ j, j < 120 → 0 ≤ (f1 j).toInt ∧ (f1 j).toInt ≤ 255) (tn2_size : 0 ≤ n2_size.toInt ∧ n2_size.toInt ≤ 128) (tn2_top : 0 ≤ n2_top.toInt ∧ n2_top.toInt ≤ 64) (pr0 : (6 ≤ p1.toInt + rk)) (aNAMES : Nat), Met l yX10_readChain wsX10_readChain ({ frames := F, cells := 0, slots := 0, locals := L }) (va_Pc [.ref h0, .int 2, .int p1] (fun U => U.heap.size = sz ∧ va_P (dC, dI) vwCl [(h0, kO10 h1 n0_size n0_place h2), (h1, kAi cint 120 f1), (h2, kO4 h3 n2_size h4 h5 n2_top), (h3, kAi cint 128 f3)] U.heap ∧ va_K (dC, dI) vwCl [(cint, .int)] U ∧ va_D (fun _ => True) [(h0, kO10 h1 n0_size n0_place h2), (h1, kAi cint 120 f1), (h2, kO4 h3 n2_size h4 h5 n2_top), (h3, kAi cint 128 f3)] ∧ va_Z "KinkStreet$Law" "NAMES" "[C" (.ref aNAMES) (va_A [(h0, kO10 h1 n0_size n0_place h2), (h1, kAi cint 120 f1), (h2, kO4 h3 n2_size h4 h5 n2_top), (h3, kAi cint 128 f3)] sz) U U.heap ∧ va_T .char aNAMES 8 tb_NAMES (va_A [(h0, kO10 h1 n0_size n0_place h2), (h1, kAi cint 120 f1), (h2, kO4 h3 n2_size h4 h5 n2_top), (h3, kAi cint 128 f3)] sz) U U.heap)) (va_Qi (fun (r : Int32) (_ : Unit) => (0 ≤ r.toInt ∧ r.toInt ≤ 1)) (fun (_ : Unit) t => ∃ (m0_place : Int32) (m2_size : Int32) (g3 : Nat → Int32), (0 ≤ m2_size.toInt ∧ m2_size.toInt ≤ 128) ∧ va_P (dC, dI) vwCl [(h0, kO10 h1 n0_size m0_place h2), (h1, kAi cint 120 f1), (h2, kO4 h3 m2_size h4 h5 n2_top), (h3, kAi cint 128 g3)] t.heap ∧ va_K (dC, dI) vwCl [] t ∧ va_D (va_A [(h0, kO10 h1 n0_size n0_place h2), (h1, kAi cint 120 f1), (h2, kO4 h3 n2_size h4 h5 n2_top), (h3, kAi cint 128 f3)] sz) [(h0, kO10 h1 n0_size m0_place h2), (h1, kAi cint 120 f1), (h2, kO4 h3 m2_size h4 h5 n2_top), (h3, kAi cint 128 g3)]) (va_A [(h0, kO10 h1 n0_size n0_place h2), (h1, kAi cint 120 f1), (h2, kO4 h3 n2_size h4 h5 n2_top), (h3, kAi cint 128 f3)] sz)) 0 0 (va_A [(h0, kO10 h1 n0_size n0_place h2), (h1, kAi cint 120 f1), (h2, kO4 h3 n2_size h4 h5 n2_top), (h3, kAi cint 128 f3)] sz)
def ka_X10_readChain_1 (l : Launch) (F L : Nat) (rk : Int) : Prop := ∀ (dC : Nat → ClassId) (dI : Nat → Nat → Nat) (h0 : Nat) (h1 : Nat) (h2 : Nat) (h3 : Nat) (h4 : Nat) (h5 : Nat) (cint : ClassId) (sz : Nat) (p1 : Int32) (tp1 : 0 ≤ p1.toInt ∧ p1.toInt ≤ 6) (n0_size : Int32) (n0_place : Int32) (f1 : Nat → Int32) (n2_size : Int32) (n2_top : Int32) (f3 : Nat → Int32) (tn0_size : 0 ≤ n0_size.toInt ∧ n0_size.toInt ≤ 120) (bf1 : ∀ j, j < 120 → 0 ≤ (f1 j).toInt ∧ (f1 j).toInt ≤ 255) (tn2_size : 0 ≤ n2_size.toInt ∧ n2_size.toInt ≤ 128) (tn2_top : 0 ≤ n2_top.toInt ∧ n2_top.toInt ≤ 64) (pr0 : (6 ≤ p1.toInt + rk)) (aNAMES : Nat), Met l yX10_readChain wsX10_readChain ({ frames := F, cells := 0, slots := 0, locals := L }) (va_Pc [.ref h0, .int 1, .int p1] (fun U => U.heap.size = sz ∧ va_P (dC, dI) vwCl [(h0, kO10 h1 n0_size n0_place h2), (h1, kAi cint 120 f1), (h2, kO4 h3 n2_size h4 h5 n2_top), (h3, kAi cint 128 f3)] U.heap ∧ va_K (dC, dI) vwCl [(cint, .int)] U ∧ va_D (fun _ => True) [(h0, kO10 h1 n0_size n0_place h2), (h1, kAi cint 120 f1), (h2, kO4 h3 n2_size h4 h5 n2_top), (h3, kAi cint 128 f3)] ∧ va_Z "KinkStreet$Law" "NAMES" "[C" (.ref aNAMES) (va_A [(h0, kO10 h1 n0_size n0_place h2), (h1, kAi cint 120 f1), (h2, kO4 h3 n2_size h4 h5 n2_top), (h3, kAi cint 128 f3)] sz) U U.heap ∧ va_T .char aNAMES 8 tb_NAMES (va_A [(h0, kO10 h1 n0_size n0_place h2), (h1, kAi cint 120 f1), (h2, kO4 h3 n2_size h4 h5 n2_top), (h3, kAi cint 128 f3)] sz) U U.heap)) (va_Qi (fun (r : Int32) (_ : Unit) => (0 ≤ r.toInt ∧ r.toInt ≤ 1)) (fun (_ : Unit) t => ∃ (m0_place : Int32) (m2_size : Int32) (g3 : Nat → Int32), (0 ≤ m2_size.toInt ∧ m2_size.toInt ≤ 128) ∧ va_P (dC, dI) vwCl [(h0, kO10 h1 n0_size m0_place h2), (h1, kAi cint 120 f1), (h2, kO4 h3 m2_size h4 h5 n2_top), (h3, kAi cint 128 g3)] t.heap ∧ va_K (dC, dI) vwCl [] t ∧ va_D (va_A [(h0, kO10 h1 n0_size n0_place h2), (h1, kAi cint 120 f1), (h2, kO4 h3 n2_size h4 h5 n2_top), (h3, kAi cint 128 f3)] sz) [(h0, kO10 h1 n0_size m0_place h2), (h1, kAi cint 120 f1), (h2, kO4 h3 m2_size h4 h5 n2_top), (h3, kAi cint 128 g3)]) (va_A [(h0, kO10 h1 n0_size n0_place h2), (h1, kAi cint 120 f1), (h2, kO4 h3 n2_size h4 h5 n2_top), (h3, kAi cint 128 f3)] sz)) 0 0 (va_A [(h0, kO10 h1 n0_size n0_place h2), (h1, kAi cint 120 f1), (h2, kO4 h3 n2_size h4 h5 n2_top), (h3, kAi cint 128 f3)] sz)
def ka_X10_readChain_0 (l : Launch) (F L : Nat) (rk : Int) : Prop := ∀ (dC : Nat → ClassId) (dI : Nat → Nat → Nat) (h0 : Nat) (h1 : Nat) (h2 : Nat) (h3 : Nat) (h4 : Nat) (h5 : Nat) (cint : ClassId) (sz : Nat) (p1 : Int32) (tp1 : 0 ≤ p1.toInt ∧ p1.toInt ≤ 6) (n0_size : Int32) (n0_place : Int32) (f1 : Nat → Int32) (n2_size : Int32) (n2_top : Int32) (f3 : Nat → Int32) (tn0_size : 0 ≤ n0_size.toInt ∧ n0_size.toInt ≤ 120) (bf1 : ∀ j, j < 120 → 0 ≤ (f1 j).toInt ∧ (f1 j).toInt ≤ 255) (tn2_size : 0 ≤ n2_size.toInt ∧ n2_size.toInt ≤ 128) (tn2_top : 0 ≤ n2_top.toInt ∧ n2_top.toInt ≤ 64) (pr0 : (6 ≤ p1.toInt + rk)) (aNAMES : Nat), Met l yX10_readChain wsX10_readChain ({ frames := F, cells := 0, slots := 0, locals := L }) (va_Pc [.ref h0, .int 0, .int p1] (fun U => U.heap.size = sz ∧ va_P (dC, dI) vwCl [(h0, kO10 h1 n0_size n0_place h2), (h1, kAi cint 120 f1), (h2, kO4 h3 n2_size h4 h5 n2_top), (h3, kAi cint 128 f3)] U.heap ∧ va_K (dC, dI) vwCl [(cint, .int)] U ∧ va_D (fun _ => True) [(h0, kO10 h1 n0_size n0_place h2), (h1, kAi cint 120 f1), (h2, kO4 h3 n2_size h4 h5 n2_top), (h3, kAi cint 128 f3)] ∧ va_Z "KinkStreet$Law" "NAMES" "[C" (.ref aNAMES) (va_A [(h0, kO10 h1 n0_size n0_place h2), (h1, kAi cint 120 f1), (h2, kO4 h3 n2_size h4 h5 n2_top), (h3, kAi cint 128 f3)] sz) U U.heap ∧ va_T .char aNAMES 8 tb_NAMES (va_A [(h0, kO10 h1 n0_size n0_place h2), (h1, kAi cint 120 f1), (h2, kO4 h3 n2_size h4 h5 n2_top), (h3, kAi cint 128 f3)] sz) U U.heap)) (va_Qi (fun (r : Int32) (_ : Unit) => (0 ≤ r.toInt ∧ r.toInt ≤ 1)) (fun (_ : Unit) t => ∃ (m0_place : Int32) (m2_size : Int32) (g3 : Nat → Int32), (0 ≤ m2_size.toInt ∧ m2_size.toInt ≤ 128) ∧ va_P (dC, dI) vwCl [(h0, kO10 h1 n0_size m0_place h2), (h1, kAi cint 120 f1), (h2, kO4 h3 m2_size h4 h5 n2_top), (h3, kAi cint 128 g3)] t.heap ∧ va_K (dC, dI) vwCl [] t ∧ va_D (va_A [(h0, kO10 h1 n0_size n0_place h2), (h1, kAi cint 120 f1), (h2, kO4 h3 n2_size h4 h5 n2_top), (h3, kAi cint 128 f3)] sz) [(h0, kO10 h1 n0_size m0_place h2), (h1, kAi cint 120 f1), (h2, kO4 h3 m2_size h4 h5 n2_top), (h3, kAi cint 128 g3)]) (va_A [(h0, kO10 h1 n0_size n0_place h2), (h1, kAi cint 120 f1), (h2, kO4 h3 n2_size h4 h5 n2_top), (h3, kAi cint 128 f3)] sz)) 0 0 (va_A [(h0, kO10 h1 n0_size n0_place h2), (h1, kAi cint 120 f1), (h2, kO4 h3 n2_size h4 h5 n2_top), (h3, kAi cint 128 f3)] sz)
def ka_X10_readInner (l : Launch) (F L : Nat) (rk : Int) : Prop := ∀ (dC : Nat → ClassId) (dI : Nat → Nat → Nat) (h0 : Nat) (h1 : Nat) (h2 : Nat) (h3 : Nat) (h4 : Nat) (h5 : Nat) (cint : ClassId) (sz : Nat) (p0 : Int32) (tp0 : 0 ≤ p0.toInt ∧ p0.toInt ≤ 6) (n0_size : Int32) (n0_place : Int32) (f1 : Nat → Int32) (n2_size : Int32) (n2_top : Int32) (f3 : Nat → Int32) (tn0_size : 0 ≤ n0_size.toInt ∧ n0_size.toInt ≤ 120) (bf1 : ∀ j, j < 120 → 0 ≤ (f1 j).toInt ∧ (f1 j).toInt ≤ 255) (tn2_size : 0 ≤ n2_size.toInt ∧ n2_size.toInt ≤ 128) (tn2_top : 0 ≤ n2_top.toInt ∧ n2_top.toInt ≤ 64) (pr0 : (6 ≤ p0.toInt + rk)) (aNAMES : Nat), Met l yX10_readInner wsX10_readInner ({ frames := F, cells := 0, slots := 0, locals := L }) (va_Pc [.ref h0, .int p0] (fun U => U.heap.size = sz ∧ va_P (dC, dI) vwCl [(h0, kO10 h1 n0_size n0_place h2), (h1, kAi cint 120 f1), (h2, kO4 h3 n2_size h4 h5 n2_top), (h3, kAi cint 128 f3)] U.heap ∧ va_K (dC, dI) vwCl [(cint, .int)] U ∧ va_D (fun _ => True) [(h0, kO10 h1 n0_size n0_place h2), (h1, kAi cint 120 f1), (h2, kO4 h3 n2_size h4 h5 n2_top), (h3, kAi cint 128 f3)] ∧ va_Z "KinkStreet$Law" "NAMES" "[C" (.ref aNAMES) (va_A [(h0, kO10 h1 n0_size n0_place h2), (h1, kAi cint 120 f1), (h2, kO4 h3 n2_size h4 h5 n2_top), (h3, kAi cint 128 f3)] sz) U U.heap ∧ va_T .char aNAMES 8 tb_NAMES (va_A [(h0, kO10 h1 n0_size n0_place h2), (h1, kAi cint 120 f1), (h2, kO4 h3 n2_size h4 h5 n2_top), (h3, kAi cint 128 f3)] sz) U U.heap)) (va_Qi (fun (r : Int32) (_ : Unit) => (0 ≤ r.toInt ∧ r.toInt ≤ 1)) (fun (_ : Unit) t => ∃ (m0_place : Int32) (m2_size : Int32) (g3 : Nat → Int32), (0 ≤ m2_size.toInt ∧ m2_size.toInt ≤ 128) ∧ va_P (dC, dI) vwCl [(h0, kO10 h1 n0_size m0_place h2), (h1, kAi cint 120 f1), (h2, kO4 h3 m2_size h4 h5 n2_top), (h3, kAi cint 128 g3)] t.heap ∧ va_K (dC, dI) vwCl [] t ∧ va_D (va_A [(h0, kO10 h1 n0_size n0_place h2), (h1, kAi cint 120 f1), (h2, kO4 h3 n2_size h4 h5 n2_top), (h3, kAi cint 128 f3)] sz) [(h0, kO10 h1 n0_size m0_place h2), (h1, kAi cint 120 f1), (h2, kO4 h3 m2_size h4 h5 n2_top), (h3, kAi cint 128 g3)]) (va_A [(h0, kO10 h1 n0_size n0_place h2), (h1, kAi cint 120 f1), (h2, kO4 h3 n2_size h4 h5 n2_top), (h3, kAi cint 128 f3)] sz)) 0 0 (va_A [(h0, kO10 h1 n0_size n0_place h2), (h1, kAi cint 120 f1), (h2, kO4 h3 n2_size h4 h5 n2_top), (h3, kAi cint 128 f3)] sz)
def ka_X10_readSigned (l : Launch) (F L : Nat) (rk : Int) : Prop := ∀ (dC : Nat → ClassId) (dI : Nat → Nat → Nat) (h0 : Nat) (h1 : Nat) (h2 : Nat) (h3 : Nat) (h4 : Nat) (h5 : Nat) (cint : ClassId) (sz : Nat) (p0 : Int32) (p1 : Int32) (tp1 : 0 ≤ p1.toInt ∧ p1.toInt ≤ 6) (n0_size : Int32) (n0_place : Int32) (f1 : Nat → Int32) (n2_size : Int32) (n2_top : Int32) (f3 : Nat → Int32) (tn0_size : 0 ≤ n0_size.toInt ∧ n0_size.toInt ≤ 120) (bf1 : ∀ j, j < 120 → 0 ≤ (f1 j).toInt ∧ (f1 j).toInt ≤ 255) (tn2_size : 0 ≤ n2_size.toInt ∧ n2_size.toInt ≤ 128) (tn2_top : 0 ≤ n2_top.toInt ∧ n2_top.toInt ≤ 64) (pr0 : (6 ≤ p1.toInt + rk)) (aNAMES : Nat), Met l yX10_readSigned wsX10_readSigned ({ frames := F, cells := 0, slots := 0, locals := L }) (va_Pc [.ref h0, .int p0, .int p1] (fun U => U.heap.size = sz ∧ va_P (dC, dI) vwCl [(h0, kO10 h1 n0_size n0_place h2), (h1, kAi cint 120 f1), (h2, kO4 h3 n2_size h4 h5 n2_top), (h3, kAi cint 128 f3)] U.heap ∧ va_K (dC, dI) vwCl [(cint, .int)] U ∧ va_D (fun _ => True) [(h0, kO10 h1 n0_size n0_place h2), (h1, kAi cint 120 f1), (h2, kO4 h3 n2_size h4 h5 n2_top), (h3, kAi cint 128 f3)] ∧ va_Z "KinkStreet$Law" "NAMES" "[C" (.ref aNAMES) (va_A [(h0, kO10 h1 n0_size n0_place h2), (h1, kAi cint 120 f1), (h2, kO4 h3 n2_size h4 h5 n2_top), (h3, kAi cint 128 f3)] sz) U U.heap ∧ va_T .char aNAMES 8 tb_NAMES (va_A [(h0, kO10 h1 n0_size n0_place h2), (h1, kAi cint 120 f1), (h2, kO4 h3 n2_size h4 h5 n2_top), (h3, kAi cint 128 f3)] sz) U U.heap)) (va_Qi (fun (r : Int32) (_ : Unit) => (0 ≤ r.toInt ∧ r.toInt ≤ 1)) (fun (_ : Unit) t => ∃ (m0_place : Int32) (m2_size : Int32) (g3 : Nat → Int32), (0 ≤ m2_size.toInt ∧ m2_size.toInt ≤ 128) ∧ va_P (dC, dI) vwCl [(h0, kO10 h1 n0_size m0_place h2), (h1, kAi cint 120 f1), (h2, kO4 h3 m2_size h4 h5 n2_top), (h3, kAi cint 128 g3)] t.heap ∧ va_K (dC, dI) vwCl [] t ∧ va_D (va_A [(h0, kO10 h1 n0_size n0_place h2), (h1, kAi cint 120 f1), (h2, kO4 h3 n2_size h4 h5 n2_top), (h3, kAi cint 128 f3)] sz) [(h0, kO10 h1 n0_size m0_place h2), (h1, kAi cint 120 f1), (h2, kO4 h3 m2_size h4 h5 n2_top), (h3, kAi cint 128 g3)]) (va_A [(h0, kO10 h1 n0_size n0_place h2), (h1, kAi cint 120 f1), (h2, kO4 h3 n2_size h4 h5 n2_top), (h3, kAi cint 128 f3)] sz)) 0 0 (va_A [(h0, kO10 h1 n0_size n0_place h2), (h1, kAi cint 120 f1), (h2, kO4 h3 n2_size h4 h5 n2_top), (h3, kAi cint 128 f3)] sz)
set_option maxHeartbeats 4000000 in
set_option maxRecDepth 100000 in
theorem s_X10_readOperand (l : Launch) (F L : Nat) (hF : 10 ≤ F) (hL : 200 ≤ L) (rk : Int) (F0 L0 : Nat) (hF0 : F0 ≤ F) (hL0 : L0 ≤ L) (ih0 : ka_X10_readInner l F0 L0 (rk - 1)) (F1 L1 : Nat) (hF1 : F1 ≤ F) (hL1 : L1 ≤ L) (ih1 : ka_X10_readSigned l F1 L1 (rk - 1)) (dC : Nat → ClassId) (dI : Nat → Nat → Nat) (h0 : Nat) (h1 : Nat) (h2 : Nat) (h3 : Nat) (h4 : Nat) (h5 : Nat) (cint : ClassId) (sz : Nat) (p0 : Int32) (tp0 : 0 ≤ p0.toInt ∧ p0.toInt ≤ 6) (n0_size : Int32) (n0_place : Int32) (f1 : Nat → Int32) (n2_size : Int32) (n2_top : Int32) (f3 : Nat → Int32) (tn0_size : kk_bx (0 ≤ n0_size.toInt ∧ n0_size.toInt ≤ 120)) (bf1 : ∀ j, j < 120 → 0 ≤ (f1 j).toInt ∧ (f1 j).toInt ≤ 255) (tn2_size : kk_bx (0 ≤ n2_size.toInt ∧ n2_size.toInt ≤ 128)) (tn2_top : kk_bx (0 ≤ n2_top.toInt ∧ n2_top.toInt ≤ 64)) (pr0 : (6 ≤ p0.toInt + rk)) (aNAMES : Nat) : Met l yX10_readOperand wsX10_readOperand ({ frames := F + 1, cells := 0, slots := 0, locals := L + 43 }) (va_Pc [.ref h0, .int p0] (fun U => U.heap.size = sz ∧ va_P (dC, dI) vwCl [(h0, kO10 h1 n0_size n0_place h2), (h1, kAi cint 120 f1), (h2, kO4 h3 n2_size h4 h5 n2_top), (h3, kAi cint 128 f3)] U.heap ∧ va_K (dC, dI) vwCl [(cint, .int)] U ∧ va_D (fun _ => True) [(h0, kO10 h1 n0_size n0_place h2), (h1, kAi cint 120 f1), (h2, kO4 h3 n2_size h4 h5 n2_top), (h3, kAi cint 128 f3)] ∧ va_Z "KinkStreet$Law" "NAMES" "[C" (.ref aNAMES) (va_A [(h0, kO10 h1 n0_size n0_place h2), (h1, kAi cint 120 f1), (h2, kO4 h3 n2_size h4 h5 n2_top), (h3, kAi cint 128 f3)] sz) U U.heap ∧ va_T .char aNAMES 8 tb_NAMES (va_A [(h0, kO10 h1 n0_size n0_place h2), (h1, kAi cint 120 f1), (h2, kO4 h3 n2_size h4 h5 n2_top), (h3, kAi cint 128 f3)] sz) U U.heap)) (va_Qi (fun (r : Int32) (_ : Unit) => (0 ≤ r.toInt ∧ r.toInt ≤ 1)) (fun (_ : Unit) t => ∃ (m0_place : Int32) (m2_size : Int32) (g3 : Nat → Int32), (0 ≤ m2_size.toInt ∧ m2_size.toInt ≤ 128) ∧ va_P (dC, dI) vwCl [(h0, kO10 h1 n0_size m0_place h2), (h1, kAi cint 120 f1), (h2, kO4 h3 m2_size h4 h5 n2_top), (h3, kAi cint 128 g3)] t.heap ∧ va_K (dC, dI) vwCl [] t ∧ va_D (va_A [(h0, kO10 h1 n0_size n0_place h2), (h1, kAi cint 120 f1), (h2, kO4 h3 n2_size h4 h5 n2_top), (h3, kAi cint 128 f3)] sz) [(h0, kO10 h1 n0_size m0_place h2), (h1, kAi cint 120 f1), (h2, kO4 h3 m2_size h4 h5 n2_top), (h3, kAi cint 128 g3)]) (va_A [(h0, kO10 h1 n0_size n0_place h2), (h1, kAi cint 120 f1), (h2, kO4 h3 n2_size h4 h5 n2_top), (h3, kAi cint 128 f3)] sz)) 0 0 (va_A [(h0, kO10 h1 n0_size n0_place h2), (h1, kAi cint 120 f1), (h2, kO4 h3 n2_size h4 h5 n2_top), (h3, kAi cint 128 f3)] sz) := by
  refine Met.ofW (cc := cX10_readOperand) (maxL := 4) (ret := (some .boolean)) (by decide) rfl ?_
  intro p e s m args below meth c s₁ B hml hv
  obtain ⟨rfl, hsz, hP, hK, hD0, hZNAMES, hTNAMES⟩ := hv
  have hx := B.exec
  have hb := B.bytes
  have hr := B.returns
  have hts := atoms_spec (ws := wsX10_readOperand) B.pre
  have hown : s.vm.findClass RX10 = some m.cls := findClass_of_methodNamed B.named
  have hlocks := B.notSynchronized
  subst hsz
  have hD := hD0.self (sz := s.heap.size)
  generalize hAe : va_A [(h0, kO10 h1 n0_size n0_place h2), (h1, kAi cint 120 f1), (h2, kO4 h3 n2_size h4 h5 n2_top), (h3, kAi cint 128 f3)] s.heap.size = A at hD hZNAMES hTNAMES ⊢
  have hA : ∀ q : Nat, s.heap.size ≤ q → A q := fun q h => by rw [← hAe]; exact Or.inr h
  have hS : va_S A s.heap s.heap [] := va_S.rf
  have hP : va_P (dC, dI) vwCl [(h0, kO10 h1 n0_size n0_place h2), (h1, kAi cint 120 f1), (h2, kO4 h3 n2_size h4 h5 n2_top), (h3, kAi cint 128 f3)] s.heap := hP
  have hl := lv_entry ([.ref h0, .int p0]) (n := 4) (Nat.le_of_ble_eq_true rfl)
  rw [lg_entry_eq]
  generalize (lg_sl ([.ref h0, .int p0]) ++ List.replicate (4 - (lg_sl ([.ref h0, .int p0])).length) Slot.unset).toArray = ls at hl ⊢
  have hl : lv_has ls 4 [(0, .ref h0), (1, .int p0)] := hl
  refine lv_aload_n hx hb dX10_readOperand_0 rfl (lv_at hl 0 rfl) ?_
  obtain ⟨hPc, hDc, hFc⟩ := kk_cutout (wc := [(h0, kO10 h1 n0_size n0_place h2), (h1, kAi cint 120 f1)]) hP hD hS hA [0, 1] (by decide) rfl
  have hKc := kk_Ks (tq := [(cint, .int)]) hK [0] rfl
  refine va_calli (va_runV (As := []) (rest := []) ⟨hx, hb, hml, hown, hts⟩ (g_X10_next_0 l dC dI h0 h1 h2 cint s.heap.size n0_size n0_place f1 tn0_size bf1) (cwV 0 hts gX10_readOperand_X10_next rfl rfl rfl ⟨rfl, kh_X10_next⟩ ⟨kk_rmF hF (Nat.le_of_ble_eq_true rfl), kk_rmM hL (Nat.le_of_ble_eq_true rfl)⟩) ⟨fun a U g mk q => by obtain ⟨q0, q1, qP, qK, qD⟩ := q; exact ⟨q0, q1, qP, va_K.moved (u := U) (U := U.calling g mk a) (Vm.Alike.refl U.vm) qK, qD⟩, va_recv hKc hPc (ci := 10) (q0 := 0) rfl rfl, fun U hU hW => ⟨rfl, by rw [hU], by rw [hU]; exact hPc, va_K.moved hW.alike hKc, hDc.weaken (fun _ _ _ _ => trivial)⟩⟩ rfl rfl hl.1 rfl (lv_room (Nat.le_of_ble_eq_true rfl)) dX10_readOperand_1 ⟨Nat.le_of_ble_eq_true rfl, Nat.le_of_ble_eq_true rfl⟩) hS (fun q _ h => hFc q h) hFc (fun r_1 u t H1 locs ht hvm hw hB hz1 hk1 hS => ?_)
  obtain ⟨hP1, hK1, hD1⟩ := hB
  rw [ht] at hP1
  have hK1 := va_K.moved hvm.symm hK1
  obtain ⟨hP, hD⟩ := va_join (wr := [(h2, kO4 h3 n2_size h4 h5 n2_top), (h3, kAi cint 128 f3)]) (w1 := [(h0, kO10 h1 n0_size n0_place h2), (h1, kAi cint 120 f1)]) hP hD [0, 1] [2, 3] rfl rfl (by decide) (by decide) hk1 hFc hP1 hD1
  generalize H1 = H at hP hS ⊢
  have hP : va_P (dC, dI) vwCl [(h2, kO4 h3 n2_size h4 h5 n2_top), (h3, kAi cint 128 f3), (h0, kO10 h1 n0_size n0_place h2), (h1, kAi cint 120 f1)] H := hP
  have hD : va_D A [(h2, kO4 h3 n2_size h4 h5 n2_top), (h3, kAi cint 128 f3), (h0, kO10 h1 n0_size n0_place h2), (h1, kAi cint 120 f1)] := hD
  have t_1 : (-1) ≤ r_1.toInt ∧ r_1.toInt ≤ 255 := hw
  refine lv_istore_n hx hb dX10_readOperand_4 rfl hl (by decide) (rfl : _ = ([(2, .int r_1), (0, .ref h0), (1, .int p0)] : List (Nat × Value))) (fun ls hl => ?_)
  refine lv_iload_n hx hb dX10_readOperand_5 rfl (lv_at hl 0 rfl) ?_
  obtain ⟨hPc, hDc, hFc⟩ := kk_cutout (wc := []) hP hD hS hA [] (by decide) rfl
  have hKc := kk_Ks (tq := []) hK [] rfl
  refine va_calli (va_runS (As := [.int r_1]) (rest := []) ⟨hx, hb, hml, hown, hts⟩ (g_X10_isDigit_0 l dC dI H.size r_1) (va_cwS 1 hts gX10_readOperand_X10_isDigit rfl rfl rfl kh_X10_isDigit ⟨kk_rmF hF (Nat.le_of_ble_eq_true rfl), kk_rmM hL (Nat.le_of_ble_eq_true rfl)⟩) ⟨fun a U g mk q => by obtain ⟨q0, q1, qP, qK, qD⟩ := q; exact ⟨q0, q1, qP, va_K.moved (u := U) (U := U.calling g mk a) (Vm.Alike.refl U.vm) qK, qD⟩, fun U hU hW => ⟨rfl, by rw [hU], by rw [hU]; exact hPc, va_K.moved hW.alike hKc, hDc.weaken (fun _ _ _ _ => trivial)⟩⟩ rfl rfl hl.1 rfl (lv_room (Nat.le_of_ble_eq_true rfl)) dX10_readOperand_6 ⟨Nat.le_of_ble_eq_true rfl, Nat.le_of_ble_eq_true rfl⟩) hS (fun q _ h => hFc q h) hFc (fun r_2 u t H1 locs ht hvm hw hB hz1 hk1 hS => ?_)
  obtain ⟨hP1, hK1, hD1⟩ := hB
  rw [ht] at hP1
  have hK1 := va_K.moved hvm.symm hK1
  obtain ⟨hP, hD⟩ := va_join (wr := [(h2, kO4 h3 n2_size h4 h5 n2_top), (h3, kAi cint 128 f3), (h0, kO10 h1 n0_size n0_place h2), (h1, kAi cint 120 f1)]) (w1 := []) hP hD [] [0, 1, 2, 3] rfl rfl (by decide) (by decide) hk1 hFc hP1 hD1
  generalize H1 = H at hP hS ⊢
  have hP : va_P (dC, dI) vwCl [(h2, kO4 h3 n2_size h4 h5 n2_top), (h3, kAi cint 128 f3), (h0, kO10 h1 n0_size n0_place h2), (h1, kAi cint 120 f1)] H := hP
  have hD : va_D A [(h2, kO4 h3 n2_size h4 h5 n2_top), (h3, kAi cint 128 f3), (h0, kO10 h1 n0_size n0_place h2), (h1, kAi cint 120 f1)] := hD
  have t_2 : 0 ≤ r_2.toInt ∧ r_2.toInt ≤ 1 := hw
  refine lv_if_eq (tgt := 18) hx hb dX10_readOperand_9 (by decide) (fun c_3 => ?_) (fun c_3 => ?_)
  · have t_3 : r_2.toInt = 0 := kk_eq c_3
    refine lv_iload_n hx hb dX10_readOperand_18 rfl (lv_at hl 0 rfl) ?_
    obtain ⟨hPc, hDc, hFc⟩ := kk_cutout (wc := []) hP hD hS hA [] (by decide) rfl
    have hKc := kk_Ks (tq := []) hK [] rfl
    refine va_calli (va_runS (As := [.int r_1]) (rest := []) ⟨hx, hb, hml, hown, hts⟩ (g_X4_nameOf_0 l dC dI H.size r_1 aNAMES) (va_cwS 1 hts gX10_readOperand_X4_nameOf rfl rfl rfl kh_X4_nameOf ⟨kk_rmF hF (Nat.le_of_ble_eq_true rfl), kk_rmM hL (Nat.le_of_ble_eq_true rfl)⟩) ⟨fun a U g mk q => by obtain ⟨q0, q1, qP, qK, qD, qx0, qx1⟩ := q; exact ⟨q0, q1, qP, va_K.moved (u := U) (U := U.calling g mk a) (Vm.Alike.refl U.vm) qK, qD, va_Z.moved (u := U) (U := U.calling g mk a) (Vm.Alike.refl U.vm) qx0, va_T.moved (u := U) (U := U.calling g mk a) (Vm.Alike.refl U.vm) qx1⟩, fun U hU hW => ⟨rfl, by rw [hU], by rw [hU]; exact hPc, va_K.moved hW.alike hKc, hDc.weaken (fun _ _ _ _ => trivial), by rw [hU]; exact ((hZNAMES.kept (fun a h1 h2 => hS.2.1 a h1 h2)).narrow hFc).moved hW.alike, by rw [hU]; exact ((hTNAMES.kept (fun a h1 h2 => hS.2.1 a h1 h2)).narrow hFc).moved hW.alike⟩⟩ rfl rfl hl.1 rfl (lv_room (Nat.le_of_ble_eq_true rfl)) dX10_readOperand_19 ⟨Nat.le_of_ble_eq_true rfl, Nat.le_of_ble_eq_true rfl⟩) hS (fun q _ h => hFc q h) hFc (fun r_4 u t H1 locs ht hvm hw hB hz1 hk1 hS => ?_)
    obtain ⟨hP1, hK1, hD1⟩ := hB
    rw [ht] at hP1
    have hK1 := va_K.moved hvm.symm hK1
    obtain ⟨hP, hD⟩ := va_join (wr := [(h2, kO4 h3 n2_size h4 h5 n2_top), (h3, kAi cint 128 f3), (h0, kO10 h1 n0_size n0_place h2), (h1, kAi cint 120 f1)]) (w1 := []) hP hD [] [0, 1, 2, 3] rfl rfl (by decide) (by decide) hk1 hFc hP1 hD1
    generalize H1 = H at hP hS ⊢
    have hP : va_P (dC, dI) vwCl [(h2, kO4 h3 n2_size h4 h5 n2_top), (h3, kAi cint 128 f3), (h0, kO10 h1 n0_size n0_place h2), (h1, kAi cint 120 f1)] H := hP
    have hD : va_D A [(h2, kO4 h3 n2_size h4 h5 n2_top), (h3, kAi cint 128 f3), (h0, kO10 h1 n0_size n0_place h2), (h1, kAi cint 120 f1)] := hD
    have t_4 : (-2) ≤ r_4.toInt ∧ r_4.toInt ≤ 7 := hw
    refine lv_istore_n hx hb dX10_readOperand_22 rfl hl (by decide) (rfl : _ = ([(3, .int r_4), (2, .int r_1), (0, .ref h0), (1, .int p0)] : List (Nat × Value))) (fun ls hl => ?_)
    refine lv_iload_n hx hb dX10_readOperand_23 rfl (lv_at hl 0 rfl) ?_
    refine lv_if_lt (tgt := 47) hx hb dX10_readOperand_24 (by decide) (fun c_5 => ?_) (fun c_5 => ?_)
    · have t_5 : r_4.toInt < 0 := kk_lt c_5
      refine lv_iload_n hx hb dX10_readOperand_47 rfl (lv_at hl 3 rfl) ?_
      refine lv_bipush (v := 6) hx hb dX10_readOperand_48 kk_bi_6 ?_
      refine lv_icmp_ge (tgt := 71) hx hb dX10_readOperand_50 (by decide) (fun c_6 => ?_) (fun c_6 => ?_)
      · have t_6 : 6 ≤ p0.toInt := kk_le c_6
        refine lv_iconst (v := 0) hx hb dX10_readOperand_71 kk_ic_0 ?_
        obtain ⟨hP9, hD9⟩ := kk_leafout (wc := [(h0, kO10 h1 n0_size n0_place h2), (h1, kAi cint 120 f1), (h2, kO4 h3 n2_size h4 h5 n2_top), (h3, kAi cint 128 f3)]) hP hD [2, 3, 0, 1] (by decide) rfl
        have hK9 := kk_Ks (tq := []) hK [] rfl
        exact W.zret (v := 0) hx hb hr rfl (fun t ht hW => ⟨⟨0, (), rfl, (by show 0 ≤ (0 : Int32).toInt ∧ (0 : Int32).toInt ≤ 1; first | with_reducible assumption | decide | ((omega))), n0_place, n2_size, f3, tn2_size, by rw [ht]; exact hP9, va_K.moved hW.alike hK9, hD9⟩, hS.F ht⟩) hS.2.2 dX10_readOperand_72
      · have t_6 : p0.toInt < 6 := kk_nle c_6
        refine lv_iload_n hx hb dX10_readOperand_53 rfl (lv_at hl 1 rfl) ?_
        refine lv_bipush (v := 40) hx hb dX10_readOperand_54 kk_bi_40 ?_
        refine lv_icmp_eq (tgt := 73) hx hb dX10_readOperand_56 (by decide) (fun c_7 => ?_) (fun c_7 => ?_)
        · have t_7 : r_1.toInt = 40 := kk_eq c_7
          refine lv_aload_n hx hb dX10_readOperand_73 rfl (lv_at hl 2 rfl) ?_
          refine lv_dup hx hb dX10_readOperand_74 rfl ?_
          refine va_get (D := (dC, dI)) (ci := 10) (v := .int n0_place) (C := RX10) (T := TX10) (N := 4) hx hb hts (fun _ h => List.mem_cons_of_mem _ (List.mem_append_left _ (List.mem_append_right _ h))) hown hK hP 2 rfl rfl 2 (by decide) (hts (.fieldLink RX10 17 "KinkStreet$Tape" "place" "I") (List.mem_of_getElem? (i := 1) rfl)) (fun _ h9 => h9) rfl dX10_readOperand_75 ?_
          refine lv_iconst (v := 1) hx hb dX10_readOperand_78 kk_ic_1 ?_
          refine lv_iadd hx hb dX10_readOperand_79 ?_
          refine va_put (D := (dC, dI)) (ci := 10) (v := .int (n0_place + 1)) (ty := .int) (C := RX10) (T := TX10) (N := 4) hx hb hts (fun _ h => List.mem_cons_of_mem _ (List.mem_append_left _ (List.mem_append_right _ h))) tyX10 tyX10_ok nmX10 hown hK hP hD hS 2 rfl rfl 2 (by decide) (hts (.fieldLink RX10 17 "KinkStreet$Tape" "place" "I") (List.mem_of_getElem? (i := 1) rfl)) (fun _ h9 => h9) rfl (by decide +kernel) rfl rfl (Nat.le_of_ble_eq_true rfl) dX10_readOperand_80 (fun H locs hP hD hS => ?_)
          have hP : va_P (dC, dI) vwCl [(h2, kO4 h3 n2_size h4 h5 n2_top), (h3, kAi cint 128 f3), (h0, kO10 h1 n0_size (n0_place + 1) h2), (h1, kAi cint 120 f1)] H := hP
          have hD : va_D A [(h2, kO4 h3 n2_size h4 h5 n2_top), (h3, kAi cint 128 f3), (h0, kO10 h1 n0_size (n0_place + 1) h2), (h1, kAi cint 120 f1)] := hD
          refine lv_iload_n hx hb dX10_readOperand_83 rfl (lv_at hl 1 rfl) ?_
          refine lv_bipush (v := 40) hx hb dX10_readOperand_84 kk_bi_40 ?_
          refine lv_icmp_ne (tgt := 99) hx hb dX10_readOperand_86 (by decide) (fun c_8 => ?_) (fun c_8 => ?_)
          · have t_8 : r_1.toInt ≠ 40 := kk_ne c_8
            exfalso; omega
          · have t_8 : r_1.toInt = 40 := kk_eq c_8
            refine lv_aload_n hx hb dX10_readOperand_89 rfl (lv_at hl 2 rfl) ?_
            refine lv_iload_n hx hb dX10_readOperand_90 rfl (lv_at hl 3 rfl) ?_
            refine lv_iconst (v := 1) hx hb dX10_readOperand_91 kk_ic_1 ?_
            refine lv_iadd hx hb dX10_readOperand_92 ?_
            obtain ⟨hPc, hDc, hFc⟩ := kk_cutout (wc := [(h0, kO10 h1 n0_size (n0_place + 1) h2), (h1, kAi cint 120 f1), (h2, kO4 h3 n2_size h4 h5 n2_top), (h3, kAi cint 128 f3)]) hP hD hS hA [2, 3, 0, 1] (by decide) rfl
            have hKc := kk_Ks (tq := [(cint, .int)]) hK [0] rfl
            try have := kk_add2 (x := p0) (y := 1) (a := p0.toInt) (b := 1) rfl rfl (by omega) (by omega)
            refine va_calli (va_runV (As := [.int (p0 + 1)]) (rest := []) ⟨hx, hb, hml, hown, hts⟩ (ih0 dC dI h0 h1 h2 h3 h4 h5 cint H.size (p0 + 1) (by show 0 ≤ ((p0 + 1) : Int32).toInt ∧ ((p0 + 1) : Int32).toInt ≤ 6; first | with_reducible assumption | ((omega))) n0_size (n0_place + 1) f1 n2_size n2_top f3 tn0_size bf1 tn2_size tn2_top (by show (6 ≤ ((p0 + 1) : Int32).toInt + (rk - 1)); first | with_reducible assumption | (omega)) aNAMES) (cwV 1 hts gX10_readOperand_X10_readInner rfl rfl rfl ⟨rfl, kh_X10_readInner⟩ ⟨Nat.add_le_add_right hF0 1, kk_rmL hL0 (Nat.le_of_ble_eq_true rfl)⟩) ⟨fun a U g mk q => by obtain ⟨q0, q1, qP, qK, qD, qx0, qx1⟩ := q; exact ⟨q0, q1, qP, va_K.moved (u := U) (U := U.calling g mk a) (Vm.Alike.refl U.vm) qK, qD, va_Z.moved (u := U) (U := U.calling g mk a) (Vm.Alike.refl U.vm) qx0, va_T.moved (u := U) (U := U.calling g mk a) (Vm.Alike.refl U.vm) qx1⟩, va_recv hKc hPc (ci := 10) (q0 := 0) rfl rfl, fun U hU hW => ⟨rfl, by rw [hU], by rw [hU]; exact hPc, va_K.moved hW.alike hKc, hDc.weaken (fun _ _ _ _ => trivial), by rw [hU]; exact ((hZNAMES.kept (fun a h1 h2 => hS.2.1 a h1 h2)).narrow hFc).moved hW.alike, by rw [hU]; exact ((hTNAMES.kept (fun a h1 h2 => hS.2.1 a h1 h2)).narrow hFc).moved hW.alike⟩⟩ rfl rfl hl.1 rfl (lv_room (Nat.le_of_ble_eq_true rfl)) dX10_readOperand_93 ⟨Nat.le_of_ble_eq_true rfl, Nat.le_of_ble_eq_true rfl⟩) hS (fun q _ h => hFc q h) hFc (fun r_9 u t H1 locs ht hvm hw hB hz1 hk1 hS => ?_)
            refine hB.elim (fun y_10 hB => ?_)
            refine hB.elim (fun y_11 hB => ?_)
            refine hB.elim (fun f_12 hB => ?_)
            refine hB.elim (fun by_11 hB => ?_)
            have hP1 := hB.1
            have hK1 := hB.2.1
            have hD1 := hB.2.2
            rw [ht] at hP1
            have hK1 := va_K.moved hvm.symm hK1
            obtain ⟨hP, hD⟩ := va_join (wr := []) (w1 := [(h0, kO10 h1 n0_size y_10 h2), (h1, kAi cint 120 f1), (h2, kO4 h3 y_11 h4 h5 n2_top), (h3, kAi cint 128 f_12)]) hP hD [2, 3, 0, 1] [] rfl rfl (by decide) (by decide) hk1 hFc hP1 hD1
            generalize H1 = H at hP hS ⊢
            have hP : va_P (dC, dI) vwCl [(h0, kO10 h1 n0_size y_10 h2), (h1, kAi cint 120 f1), (h2, kO4 h3 y_11 h4 h5 n2_top), (h3, kAi cint 128 f_12)] H := hP
            have hD : va_D A [(h0, kO10 h1 n0_size y_10 h2), (h1, kAi cint 120 f1), (h2, kO4 h3 y_11 h4 h5 n2_top), (h3, kAi cint 128 f_12)] := hD
            have t_9 : 0 ≤ r_9.toInt ∧ r_9.toInt ≤ 1 := hw
            refine lv_goto (tgt := 107) hx hb dX10_readOperand_96 (by decide) ?_
            obtain ⟨hP9, hD9⟩ := kk_leafout (wc := [(h0, kO10 h1 n0_size y_10 h2), (h1, kAi cint 120 f1), (h2, kO4 h3 y_11 h4 h5 n2_top), (h3, kAi cint 128 f_12)]) hP hD [0, 1, 2, 3] (by decide) rfl
            have hK9 := kk_Ks (tq := []) hK [] rfl
            exact W.zret (v := r_9) hx hb hr (kk_nb (by show 0 ≤ (r_9 : Int32).toInt; omega) (by show (r_9 : Int32).toInt ≤ 1; omega)) (fun t ht hW => ⟨⟨r_9, (), rfl, (by show 0 ≤ (r_9 : Int32).toInt ∧ (r_9 : Int32).toInt ≤ 1; first | with_reducible assumption | ((omega))), y_10, y_11, f_12, (by show 0 ≤ (y_11 : Int32).toInt ∧ (y_11 : Int32).toInt ≤ 128; first | with_reducible assumption | ((omega))), by rw [ht]; exact hP9, va_K.moved hW.alike hK9, hD9⟩, hS.F ht⟩) hS.2.2 dX10_readOperand_107
        · have t_7 : r_1.toInt ≠ 40 := kk_ne c_7
          refine lv_iload_n hx hb dX10_readOperand_59 rfl (lv_at hl 1 rfl) ?_
          refine lv_bipush (v := 33) hx hb dX10_readOperand_60 kk_bi_33 ?_
          refine lv_icmp_eq (tgt := 73) hx hb dX10_readOperand_62 (by decide) (fun c_13 => ?_) (fun c_13 => ?_)
          · have t_13 : r_1.toInt = 33 := kk_eq c_13
            refine lv_aload_n hx hb dX10_readOperand_73 rfl (lv_at hl 2 rfl) ?_
            refine lv_dup hx hb dX10_readOperand_74 rfl ?_
            refine va_get (D := (dC, dI)) (ci := 10) (v := .int n0_place) (C := RX10) (T := TX10) (N := 4) hx hb hts (fun _ h => List.mem_cons_of_mem _ (List.mem_append_left _ (List.mem_append_right _ h))) hown hK hP 2 rfl rfl 2 (by decide) (hts (.fieldLink RX10 17 "KinkStreet$Tape" "place" "I") (List.mem_of_getElem? (i := 1) rfl)) (fun _ h9 => h9) rfl dX10_readOperand_75 ?_
            refine lv_iconst (v := 1) hx hb dX10_readOperand_78 kk_ic_1 ?_
            refine lv_iadd hx hb dX10_readOperand_79 ?_
            refine va_put (D := (dC, dI)) (ci := 10) (v := .int (n0_place + 1)) (ty := .int) (C := RX10) (T := TX10) (N := 4) hx hb hts (fun _ h => List.mem_cons_of_mem _ (List.mem_append_left _ (List.mem_append_right _ h))) tyX10 tyX10_ok nmX10 hown hK hP hD hS 2 rfl rfl 2 (by decide) (hts (.fieldLink RX10 17 "KinkStreet$Tape" "place" "I") (List.mem_of_getElem? (i := 1) rfl)) (fun _ h9 => h9) rfl (by decide +kernel) rfl rfl (Nat.le_of_ble_eq_true rfl) dX10_readOperand_80 (fun H locs hP hD hS => ?_)
            have hP : va_P (dC, dI) vwCl [(h2, kO4 h3 n2_size h4 h5 n2_top), (h3, kAi cint 128 f3), (h0, kO10 h1 n0_size (n0_place + 1) h2), (h1, kAi cint 120 f1)] H := hP
            have hD : va_D A [(h2, kO4 h3 n2_size h4 h5 n2_top), (h3, kAi cint 128 f3), (h0, kO10 h1 n0_size (n0_place + 1) h2), (h1, kAi cint 120 f1)] := hD
            refine lv_iload_n hx hb dX10_readOperand_83 rfl (lv_at hl 1 rfl) ?_
            refine lv_bipush (v := 40) hx hb dX10_readOperand_84 kk_bi_40 ?_
            refine lv_icmp_ne (tgt := 99) hx hb dX10_readOperand_86 (by decide) (fun c_14 => ?_) (fun c_14 => ?_)
            · have t_14 : r_1.toInt ≠ 40 := kk_ne c_14
              refine lv_aload_n hx hb dX10_readOperand_99 rfl (lv_at hl 2 rfl) ?_
              refine lv_iload_n hx hb dX10_readOperand_100 rfl (lv_at hl 1 rfl) ?_
              refine lv_iload_n hx hb dX10_readOperand_101 rfl (lv_at hl 3 rfl) ?_
              refine lv_iconst (v := 1) hx hb dX10_readOperand_102 kk_ic_1 ?_
              refine lv_iadd hx hb dX10_readOperand_103 ?_
              obtain ⟨hPc, hDc, hFc⟩ := kk_cutout (wc := [(h0, kO10 h1 n0_size (n0_place + 1) h2), (h1, kAi cint 120 f1), (h2, kO4 h3 n2_size h4 h5 n2_top), (h3, kAi cint 128 f3)]) hP hD hS hA [2, 3, 0, 1] (by decide) rfl
              have hKc := kk_Ks (tq := [(cint, .int)]) hK [0] rfl
              try have := kk_add2 (x := p0) (y := 1) (a := p0.toInt) (b := 1) rfl rfl (by omega) (by omega)
              refine va_calli (va_runV (As := [.int r_1, .int (p0 + 1)]) (rest := []) ⟨hx, hb, hml, hown, hts⟩ (ih1 dC dI h0 h1 h2 h3 h4 h5 cint H.size r_1 (p0 + 1) (by show 0 ≤ ((p0 + 1) : Int32).toInt ∧ ((p0 + 1) : Int32).toInt ≤ 6; first | with_reducible assumption | ((omega))) n0_size (n0_place + 1) f1 n2_size n2_top f3 tn0_size bf1 tn2_size tn2_top (by show (6 ≤ ((p0 + 1) : Int32).toInt + (rk - 1)); first | with_reducible assumption | (omega)) aNAMES) (cwV 2 hts gX10_readOperand_X10_readSigned rfl rfl rfl ⟨rfl, kh_X10_readSigned⟩ ⟨Nat.add_le_add_right hF1 1, kk_rmL hL1 (Nat.le_of_ble_eq_true rfl)⟩) ⟨fun a U g mk q => by obtain ⟨q0, q1, qP, qK, qD, qx0, qx1⟩ := q; exact ⟨q0, q1, qP, va_K.moved (u := U) (U := U.calling g mk a) (Vm.Alike.refl U.vm) qK, qD, va_Z.moved (u := U) (U := U.calling g mk a) (Vm.Alike.refl U.vm) qx0, va_T.moved (u := U) (U := U.calling g mk a) (Vm.Alike.refl U.vm) qx1⟩, va_recv hKc hPc (ci := 10) (q0 := 0) rfl rfl, fun U hU hW => ⟨rfl, by rw [hU], by rw [hU]; exact hPc, va_K.moved hW.alike hKc, hDc.weaken (fun _ _ _ _ => trivial), by rw [hU]; exact ((hZNAMES.kept (fun a h1 h2 => hS.2.1 a h1 h2)).narrow hFc).moved hW.alike, by rw [hU]; exact ((hTNAMES.kept (fun a h1 h2 => hS.2.1 a h1 h2)).narrow hFc).moved hW.alike⟩⟩ rfl rfl hl.1 rfl (lv_room (Nat.le_of_ble_eq_true rfl)) dX10_readOperand_104 ⟨Nat.le_of_ble_eq_true rfl, Nat.le_of_ble_eq_true rfl⟩) hS (fun q _ h => hFc q h) hFc (fun r_15 u t H1 locs ht hvm hw hB hz1 hk1 hS => ?_)
              refine hB.elim (fun y_16 hB => ?_)
              refine hB.elim (fun y_17 hB => ?_)
              refine hB.elim (fun f_18 hB => ?_)
              refine hB.elim (fun by_17 hB => ?_)
              have hP1 := hB.1
              have hK1 := hB.2.1
              have hD1 := hB.2.2
              rw [ht] at hP1
              have hK1 := va_K.moved hvm.symm hK1
              obtain ⟨hP, hD⟩ := va_join (wr := []) (w1 := [(h0, kO10 h1 n0_size y_16 h2), (h1, kAi cint 120 f1), (h2, kO4 h3 y_17 h4 h5 n2_top), (h3, kAi cint 128 f_18)]) hP hD [2, 3, 0, 1] [] rfl rfl (by decide) (by decide) hk1 hFc hP1 hD1
              generalize H1 = H at hP hS ⊢
              have hP : va_P (dC, dI) vwCl [(h0, kO10 h1 n0_size y_16 h2), (h1, kAi cint 120 f1), (h2, kO4 h3 y_17 h4 h5 n2_top), (h3, kAi cint 128 f_18)] H := hP
              have hD : va_D A [(h0, kO10 h1 n0_size y_16 h2), (h1, kAi cint 120 f1), (h2, kO4 h3 y_17 h4 h5 n2_top), (h3, kAi cint 128 f_18)] := hD
              have t_15 : 0 ≤ r_15.toInt ∧ r_15.toInt ≤ 1 := hw
              obtain ⟨hP9, hD9⟩ := kk_leafout (wc := [(h0, kO10 h1 n0_size y_16 h2), (h1, kAi cint 120 f1), (h2, kO4 h3 y_17 h4 h5 n2_top), (h3, kAi cint 128 f_18)]) hP hD [0, 1, 2, 3] (by decide) rfl
              have hK9 := kk_Ks (tq := []) hK [] rfl
              exact W.zret (v := r_15) hx hb hr (kk_nb (by show 0 ≤ (r_15 : Int32).toInt; omega) (by show (r_15 : Int32).toInt ≤ 1; omega)) (fun t ht hW => ⟨⟨r_15, (), rfl, (by show 0 ≤ (r_15 : Int32).toInt ∧ (r_15 : Int32).toInt ≤ 1; first | with_reducible assumption | ((omega))), y_16, y_17, f_18, (by show 0 ≤ (y_17 : Int32).toInt ∧ (y_17 : Int32).toInt ≤ 128; first | with_reducible assumption | ((omega))), by rw [ht]; exact hP9, va_K.moved hW.alike hK9, hD9⟩, hS.F ht⟩) hS.2.2 dX10_readOperand_107
            · have t_14 : r_1.toInt = 40 := kk_eq c_14
              exfalso; omega
          · have t_13 : r_1.toInt ≠ 33 := kk_ne c_13
            refine lv_iload_n hx hb dX10_readOperand_65 rfl (lv_at hl 1 rfl) ?_
            refine lv_bipush (v := 45) hx hb dX10_readOperand_66 kk_bi_45 ?_
            refine lv_icmp_eq (tgt := 73) hx hb dX10_readOperand_68 (by decide) (fun c_19 => ?_) (fun c_19 => ?_)
            · have t_19 : r_1.toInt = 45 := kk_eq c_19
              refine lv_aload_n hx hb dX10_readOperand_73 rfl (lv_at hl 2 rfl) ?_
              refine lv_dup hx hb dX10_readOperand_74 rfl ?_
              refine va_get (D := (dC, dI)) (ci := 10) (v := .int n0_place) (C := RX10) (T := TX10) (N := 4) hx hb hts (fun _ h => List.mem_cons_of_mem _ (List.mem_append_left _ (List.mem_append_right _ h))) hown hK hP 2 rfl rfl 2 (by decide) (hts (.fieldLink RX10 17 "KinkStreet$Tape" "place" "I") (List.mem_of_getElem? (i := 1) rfl)) (fun _ h9 => h9) rfl dX10_readOperand_75 ?_
              refine lv_iconst (v := 1) hx hb dX10_readOperand_78 kk_ic_1 ?_
              refine lv_iadd hx hb dX10_readOperand_79 ?_
              refine va_put (D := (dC, dI)) (ci := 10) (v := .int (n0_place + 1)) (ty := .int) (C := RX10) (T := TX10) (N := 4) hx hb hts (fun _ h => List.mem_cons_of_mem _ (List.mem_append_left _ (List.mem_append_right _ h))) tyX10 tyX10_ok nmX10 hown hK hP hD hS 2 rfl rfl 2 (by decide) (hts (.fieldLink RX10 17 "KinkStreet$Tape" "place" "I") (List.mem_of_getElem? (i := 1) rfl)) (fun _ h9 => h9) rfl (by decide +kernel) rfl rfl (Nat.le_of_ble_eq_true rfl) dX10_readOperand_80 (fun H locs hP hD hS => ?_)
              have hP : va_P (dC, dI) vwCl [(h2, kO4 h3 n2_size h4 h5 n2_top), (h3, kAi cint 128 f3), (h0, kO10 h1 n0_size (n0_place + 1) h2), (h1, kAi cint 120 f1)] H := hP
              have hD : va_D A [(h2, kO4 h3 n2_size h4 h5 n2_top), (h3, kAi cint 128 f3), (h0, kO10 h1 n0_size (n0_place + 1) h2), (h1, kAi cint 120 f1)] := hD
              refine lv_iload_n hx hb dX10_readOperand_83 rfl (lv_at hl 1 rfl) ?_
              refine lv_bipush (v := 40) hx hb dX10_readOperand_84 kk_bi_40 ?_
              refine lv_icmp_ne (tgt := 99) hx hb dX10_readOperand_86 (by decide) (fun c_20 => ?_) (fun c_20 => ?_)
              · have t_20 : r_1.toInt ≠ 40 := kk_ne c_20
                refine lv_aload_n hx hb dX10_readOperand_99 rfl (lv_at hl 2 rfl) ?_
                refine lv_iload_n hx hb dX10_readOperand_100 rfl (lv_at hl 1 rfl) ?_
                refine lv_iload_n hx hb dX10_readOperand_101 rfl (lv_at hl 3 rfl) ?_
                refine lv_iconst (v := 1) hx hb dX10_readOperand_102 kk_ic_1 ?_
                refine lv_iadd hx hb dX10_readOperand_103 ?_
                obtain ⟨hPc, hDc, hFc⟩ := kk_cutout (wc := [(h0, kO10 h1 n0_size (n0_place + 1) h2), (h1, kAi cint 120 f1), (h2, kO4 h3 n2_size h4 h5 n2_top), (h3, kAi cint 128 f3)]) hP hD hS hA [2, 3, 0, 1] (by decide) rfl
                have hKc := kk_Ks (tq := [(cint, .int)]) hK [0] rfl
                try have := kk_add2 (x := p0) (y := 1) (a := p0.toInt) (b := 1) rfl rfl (by omega) (by omega)
                refine va_calli (va_runV (As := [.int r_1, .int (p0 + 1)]) (rest := []) ⟨hx, hb, hml, hown, hts⟩ (ih1 dC dI h0 h1 h2 h3 h4 h5 cint H.size r_1 (p0 + 1) (by show 0 ≤ ((p0 + 1) : Int32).toInt ∧ ((p0 + 1) : Int32).toInt ≤ 6; first | with_reducible assumption | ((omega))) n0_size (n0_place + 1) f1 n2_size n2_top f3 tn0_size bf1 tn2_size tn2_top (by show (6 ≤ ((p0 + 1) : Int32).toInt + (rk - 1)); first | with_reducible assumption | (omega)) aNAMES) (cwV 2 hts gX10_readOperand_X10_readSigned rfl rfl rfl ⟨rfl, kh_X10_readSigned⟩ ⟨Nat.add_le_add_right hF1 1, kk_rmL hL1 (Nat.le_of_ble_eq_true rfl)⟩) ⟨fun a U g mk q => by obtain ⟨q0, q1, qP, qK, qD, qx0, qx1⟩ := q; exact ⟨q0, q1, qP, va_K.moved (u := U) (U := U.calling g mk a) (Vm.Alike.refl U.vm) qK, qD, va_Z.moved (u := U) (U := U.calling g mk a) (Vm.Alike.refl U.vm) qx0, va_T.moved (u := U) (U := U.calling g mk a) (Vm.Alike.refl U.vm) qx1⟩, va_recv hKc hPc (ci := 10) (q0 := 0) rfl rfl, fun U hU hW => ⟨rfl, by rw [hU], by rw [hU]; exact hPc, va_K.moved hW.alike hKc, hDc.weaken (fun _ _ _ _ => trivial), by rw [hU]; exact ((hZNAMES.kept (fun a h1 h2 => hS.2.1 a h1 h2)).narrow hFc).moved hW.alike, by rw [hU]; exact ((hTNAMES.kept (fun a h1 h2 => hS.2.1 a h1 h2)).narrow hFc).moved hW.alike⟩⟩ rfl rfl hl.1 rfl (lv_room (Nat.le_of_ble_eq_true rfl)) dX10_readOperand_104 ⟨Nat.le_of_ble_eq_true rfl, Nat.le_of_ble_eq_true rfl⟩) hS (fun q _ h => hFc q h) hFc (fun r_21 u t H1 locs ht hvm hw hB hz1 hk1 hS => ?_)
                refine hB.elim (fun y_22 hB => ?_)
                refine hB.elim (fun y_23 hB => ?_)
                refine hB.elim (fun f_24 hB => ?_)
                refine hB.elim (fun by_23 hB => ?_)
                have hP1 := hB.1
                have hK1 := hB.2.1
                have hD1 := hB.2.2
                rw [ht] at hP1
                have hK1 := va_K.moved hvm.symm hK1
                obtain ⟨hP, hD⟩ := va_join (wr := []) (w1 := [(h0, kO10 h1 n0_size y_22 h2), (h1, kAi cint 120 f1), (h2, kO4 h3 y_23 h4 h5 n2_top), (h3, kAi cint 128 f_24)]) hP hD [2, 3, 0, 1] [] rfl rfl (by decide) (by decide) hk1 hFc hP1 hD1
                generalize H1 = H at hP hS ⊢
                have hP : va_P (dC, dI) vwCl [(h0, kO10 h1 n0_size y_22 h2), (h1, kAi cint 120 f1), (h2, kO4 h3 y_23 h4 h5 n2_top), (h3, kAi cint 128 f_24)] H := hP
                have hD : va_D A [(h0, kO10 h1 n0_size y_22 h2), (h1, kAi cint 120 f1), (h2, kO4 h3 y_23 h4 h5 n2_top), (h3, kAi cint 128 f_24)] := hD
                have t_21 : 0 ≤ r_21.toInt ∧ r_21.toInt ≤ 1 := hw
                obtain ⟨hP9, hD9⟩ := kk_leafout (wc := [(h0, kO10 h1 n0_size y_22 h2), (h1, kAi cint 120 f1), (h2, kO4 h3 y_23 h4 h5 n2_top), (h3, kAi cint 128 f_24)]) hP hD [0, 1, 2, 3] (by decide) rfl
                have hK9 := kk_Ks (tq := []) hK [] rfl
                exact W.zret (v := r_21) hx hb hr (kk_nb (by show 0 ≤ (r_21 : Int32).toInt; omega) (by show (r_21 : Int32).toInt ≤ 1; omega)) (fun t ht hW => ⟨⟨r_21, (), rfl, (by show 0 ≤ (r_21 : Int32).toInt ∧ (r_21 : Int32).toInt ≤ 1; first | with_reducible assumption | ((omega))), y_22, y_23, f_24, (by show 0 ≤ (y_23 : Int32).toInt ∧ (y_23 : Int32).toInt ≤ 128; first | with_reducible assumption | ((omega))), by rw [ht]; exact hP9, va_K.moved hW.alike hK9, hD9⟩, hS.F ht⟩) hS.2.2 dX10_readOperand_107
              · have t_20 : r_1.toInt = 40 := kk_eq c_20
                exfalso; omega
            · have t_19 : r_1.toInt ≠ 45 := kk_ne c_19
              refine lv_iconst (v := 0) hx hb dX10_readOperand_71 kk_ic_0 ?_
              obtain ⟨hP9, hD9⟩ := kk_leafout (wc := [(h0, kO10 h1 n0_size n0_place h2), (h1, kAi cint 120 f1), (h2, kO4 h3 n2_size h4 h5 n2_top), (h3, kAi cint 128 f3)]) hP hD [2, 3, 0, 1] (by decide) rfl
              have hK9 := kk_Ks (tq := []) hK [] rfl
              exact W.zret (v := 0) hx hb hr rfl (fun t ht hW => ⟨⟨0, (), rfl, (by show 0 ≤ (0 : Int32).toInt ∧ (0 : Int32).toInt ≤ 1; first | with_reducible assumption | decide | ((omega))), n0_place, n2_size, f3, tn2_size, by rw [ht]; exact hP9, va_K.moved hW.alike hK9, hD9⟩, hS.F ht⟩) hS.2.2 dX10_readOperand_72
    · have t_5 : 0 ≤ r_4.toInt := kk_nlt c_5
      refine lv_aload_n hx hb dX10_readOperand_27 rfl (lv_at hl 2 rfl) ?_
      refine lv_dup hx hb dX10_readOperand_28 rfl ?_
      refine va_get (D := (dC, dI)) (ci := 10) (v := .int n0_place) (C := RX10) (T := TX10) (N := 4) hx hb hts (fun _ h => List.mem_cons_of_mem _ (List.mem_append_left _ (List.mem_append_right _ h))) hown hK hP 2 rfl rfl 2 (by decide) (hts (.fieldLink RX10 17 "KinkStreet$Tape" "place" "I") (List.mem_of_getElem? (i := 1) rfl)) (fun _ h9 => h9) rfl dX10_readOperand_29 ?_
      refine lv_iconst (v := 1) hx hb dX10_readOperand_32 kk_ic_1 ?_
      refine lv_iadd hx hb dX10_readOperand_33 ?_
      refine va_put (D := (dC, dI)) (ci := 10) (v := .int (n0_place + 1)) (ty := .int) (C := RX10) (T := TX10) (N := 4) hx hb hts (fun _ h => List.mem_cons_of_mem _ (List.mem_append_left _ (List.mem_append_right _ h))) tyX10 tyX10_ok nmX10 hown hK hP hD hS 2 rfl rfl 2 (by decide) (hts (.fieldLink RX10 17 "KinkStreet$Tape" "place" "I") (List.mem_of_getElem? (i := 1) rfl)) (fun _ h9 => h9) rfl (by decide +kernel) rfl rfl (Nat.le_of_ble_eq_true rfl) dX10_readOperand_34 (fun H locs hP hD hS => ?_)
      have hP : va_P (dC, dI) vwCl [(h2, kO4 h3 n2_size h4 h5 n2_top), (h3, kAi cint 128 f3), (h0, kO10 h1 n0_size (n0_place + 1) h2), (h1, kAi cint 120 f1)] H := hP
      have hD : va_D A [(h2, kO4 h3 n2_size h4 h5 n2_top), (h3, kAi cint 128 f3), (h0, kO10 h1 n0_size (n0_place + 1) h2), (h1, kAi cint 120 f1)] := hD
      refine lv_aload_n hx hb dX10_readOperand_37 rfl (lv_at hl 2 rfl) ?_
      refine va_get (D := (dC, dI)) (ci := 10) (v := .ref h2) (C := RX10) (T := TX10) (N := 4) hx hb hts (fun _ h => List.mem_cons_of_mem _ (List.mem_append_left _ (List.mem_append_right _ h))) hown hK hP 2 rfl rfl 3 (by decide) (hts (.fieldLink RX10 20 "KinkStreet$Tape" "law" "LKinkStreet$Law;") (List.mem_of_getElem? (i := 2) rfl)) (fun _ h9 => h9) rfl dX10_readOperand_38 ?_
      refine lv_iload_n hx hb dX10_readOperand_41 rfl (lv_at hl 0 rfl) ?_
      obtain ⟨hPc, hDc, hFc⟩ := kk_cutout (wc := [(h2, kO4 h3 n2_size h4 h5 n2_top), (h3, kAi cint 128 f3)]) hP hD hS hA [0, 1] (by decide) rfl
      have hKc := kk_Ks (tq := [(cint, .int)]) hK [0] rfl
      refine va_callv (va_runV (As := [.int r_4]) (rest := []) ⟨hx, hb, hml, hown, hts⟩ (g_X4_append_0 l dC dI h2 h3 h4 h5 cint H.size r_4 n2_size n2_top f3 tn2_size tn2_top) (cwV 1 hts gX10_readOperand_X4_append rfl rfl rfl ⟨rfl, kh_X4_append⟩ ⟨kk_rmF hF (Nat.le_of_ble_eq_true rfl), kk_rmM hL (Nat.le_of_ble_eq_true rfl)⟩) ⟨fun a U g mk q => by obtain ⟨q0, q1, qP, qK, qD⟩ := q; exact ⟨q0, q1, qP, va_K.moved (u := U) (U := U.calling g mk a) (Vm.Alike.refl U.vm) qK, qD⟩, va_recv hKc hPc (ci := 4) (q0 := 0) rfl rfl, fun U hU hW => ⟨rfl, by rw [hU], by rw [hU]; exact hPc, va_K.moved hW.alike hKc, hDc.weaken (fun _ _ _ _ => trivial)⟩⟩ rfl rfl hl.1 rfl (lv_room (Nat.le_of_ble_eq_true rfl)) dX10_readOperand_42 ⟨Nat.le_of_ble_eq_true rfl, Nat.le_of_ble_eq_true rfl⟩) hS (fun q _ h => hFc q h) hFc (fun u t H1 locs ht hvm hw hB hz1 hk1 hS => ?_)
      refine hB.elim (fun y_26 hB => ?_)
      refine hB.elim (fun f_27 hB => ?_)
      refine hB.elim (fun by_26 hB => ?_)
      have hP1 := hB.1
      have hK1 := hB.2.1
      have hD1 := hB.2.2
      rw [ht] at hP1
      have hK1 := va_K.moved hvm.symm hK1
      obtain ⟨hP, hD⟩ := va_join (wr := [(h0, kO10 h1 n0_size (n0_place + 1) h2), (h1, kAi cint 120 f1)]) (w1 := [(h2, kO4 h3 y_26 h4 h5 n2_top), (h3, kAi cint 128 f_27)]) hP hD [0, 1] [2, 3] rfl rfl (by decide) (by decide) hk1 hFc hP1 hD1
      generalize H1 = H at hP hS ⊢
      have hP : va_P (dC, dI) vwCl [(h0, kO10 h1 n0_size (n0_place + 1) h2), (h1, kAi cint 120 f1), (h2, kO4 h3 y_26 h4 h5 n2_top), (h3, kAi cint 128 f_27)] H := hP
      have hD : va_D A [(h0, kO10 h1 n0_size (n0_place + 1) h2), (h1, kAi cint 120 f1), (h2, kO4 h3 y_26 h4 h5 n2_top), (h3, kAi cint 128 f_27)] := hD
      refine lv_iconst (v := 1) hx hb dX10_readOperand_45 kk_ic_1 ?_
      obtain ⟨hP9, hD9⟩ := kk_leafout (wc := [(h0, kO10 h1 n0_size (n0_place + 1) h2), (h1, kAi cint 120 f1), (h2, kO4 h3 y_26 h4 h5 n2_top), (h3, kAi cint 128 f_27)]) hP hD [0, 1, 2, 3] (by decide) rfl
      have hK9 := kk_Ks (tq := []) hK [] rfl
      exact W.zret (v := 1) hx hb hr rfl (fun t ht hW => ⟨⟨1, (), rfl, (by show 0 ≤ (1 : Int32).toInt ∧ (1 : Int32).toInt ≤ 1; first | with_reducible assumption | decide | ((omega))), (n0_place + 1), y_26, f_27, (by show 0 ≤ (y_26 : Int32).toInt ∧ (y_26 : Int32).toInt ≤ 128; first | with_reducible assumption | ((omega))), by rw [ht]; exact hP9, va_K.moved hW.alike hK9, hD9⟩, hS.F ht⟩) hS.2.2 dX10_readOperand_46
  · have t_3 : r_2.toInt ≠ 0 := kk_ne c_3
    refine lv_aload_n hx hb dX10_readOperand_12 rfl (lv_at hl 1 rfl) ?_
    obtain ⟨hPc, hDc, hFc⟩ := kk_cutout (wc := [(h0, kO10 h1 n0_size n0_place h2), (h1, kAi cint 120 f1), (h2, kO4 h3 n2_size h4 h5 n2_top), (h3, kAi cint 128 f3)]) hP hD hS hA [2, 3, 0, 1] (by decide) rfl
    have hKc := kk_Ks (tq := [(cint, .int)]) hK [0] rfl
    refine va_callv (va_runV (As := []) (rest := []) ⟨hx, hb, hml, hown, hts⟩ (g_X10_readNumber_0 l dC dI h0 h1 h2 h3 h4 h5 cint H.size n0_size n0_place f1 n2_size n2_top f3 tn0_size bf1 tn2_size tn2_top) (cwV 0 hts gX10_readOperand_X10_readNumber rfl rfl rfl ⟨rfl, kh_X10_readNumber⟩ ⟨kk_rmF hF (Nat.le_of_ble_eq_true rfl), kk_rmM hL (Nat.le_of_ble_eq_true rfl)⟩) ⟨fun a U g mk q => by obtain ⟨q0, q1, qP, qK, qD⟩ := q; exact ⟨q0, q1, qP, va_K.moved (u := U) (U := U.calling g mk a) (Vm.Alike.refl U.vm) qK, qD⟩, va_recv hKc hPc (ci := 10) (q0 := 0) rfl rfl, fun U hU hW => ⟨rfl, by rw [hU], by rw [hU]; exact hPc, va_K.moved hW.alike hKc, hDc.weaken (fun _ _ _ _ => trivial)⟩⟩ rfl rfl hl.1 rfl (lv_room (Nat.le_of_ble_eq_true rfl)) dX10_readOperand_13 ⟨Nat.le_of_ble_eq_true rfl, Nat.le_of_ble_eq_true rfl⟩) hS (fun q _ h => hFc q h) hFc (fun u t H1 locs ht hvm hw hB hz1 hk1 hS => ?_)
    refine hB.elim (fun y_29 hB => ?_)
    refine hB.elim (fun y_30 hB => ?_)
    refine hB.elim (fun f_31 hB => ?_)
    refine hB.elim (fun by_30 hB => ?_)
    have hP1 := hB.1
    have hK1 := hB.2.1
    have hD1 := hB.2.2
    rw [ht] at hP1
    have hK1 := va_K.moved hvm.symm hK1
    obtain ⟨hP, hD⟩ := va_join (wr := []) (w1 := [(h0, kO10 h1 n0_size y_29 h2), (h1, kAi cint 120 f1), (h2, kO4 h3 y_30 h4 h5 n2_top), (h3, kAi cint 128 f_31)]) hP hD [2, 3, 0, 1] [] rfl rfl (by decide) (by decide) hk1 hFc hP1 hD1
    generalize H1 = H at hP hS ⊢
    have hP : va_P (dC, dI) vwCl [(h0, kO10 h1 n0_size y_29 h2), (h1, kAi cint 120 f1), (h2, kO4 h3 y_30 h4 h5 n2_top), (h3, kAi cint 128 f_31)] H := hP
    have hD : va_D A [(h0, kO10 h1 n0_size y_29 h2), (h1, kAi cint 120 f1), (h2, kO4 h3 y_30 h4 h5 n2_top), (h3, kAi cint 128 f_31)] := hD
    refine lv_iconst (v := 1) hx hb dX10_readOperand_16 kk_ic_1 ?_
    obtain ⟨hP9, hD9⟩ := kk_leafout (wc := [(h0, kO10 h1 n0_size y_29 h2), (h1, kAi cint 120 f1), (h2, kO4 h3 y_30 h4 h5 n2_top), (h3, kAi cint 128 f_31)]) hP hD [0, 1, 2, 3] (by decide) rfl
    have hK9 := kk_Ks (tq := []) hK [] rfl
    exact W.zret (v := 1) hx hb hr rfl (fun t ht hW => ⟨⟨1, (), rfl, (by show 0 ≤ (1 : Int32).toInt ∧ (1 : Int32).toInt ≤ 1; first | with_reducible assumption | decide | ((omega))), y_29, y_30, f_31, (by show 0 ≤ (y_30 : Int32).toInt ∧ (y_30 : Int32).toInt ≤ 128; first | with_reducible assumption | ((omega))), by rw [ht]; exact hP9, va_K.moved hW.alike hK9, hD9⟩, hS.F ht⟩) hS.2.2 dX10_readOperand_17
set_option maxHeartbeats 4000000 in
set_option maxRecDepth 100000 in
theorem s_X10_readChain_5 (l : Launch) (F L : Nat) (hF : 10 ≤ F) (hL : 200 ≤ L) (rk : Int) (F0 L0 : Nat) (hF0 : F0 ≤ F) (hL0 : L0 ≤ L) (ih0 : ka_X10_readOperand l F0 L0 rk) (dC : Nat → ClassId) (dI : Nat → Nat → Nat) (h0 : Nat) (h1 : Nat) (h2 : Nat) (h3 : Nat) (h4 : Nat) (h5 : Nat) (cint : ClassId) (sz : Nat) (p1 : Int32) (tp1 : 0 ≤ p1.toInt ∧ p1.toInt ≤ 6) (n0_size : Int32) (n0_place : Int32) (f1 : Nat → Int32) (n2_size : Int32) (n2_top : Int32) (f3 : Nat → Int32) (tn0_size : kk_bx (0 ≤ n0_size.toInt ∧ n0_size.toInt ≤ 120)) (bf1 : ∀ j, j < 120 → 0 ≤ (f1 j).toInt ∧ (f1 j).toInt ≤ 255) (tn2_size : kk_bx (0 ≤ n2_size.toInt ∧ n2_size.toInt ≤ 128)) (tn2_top : kk_bx (0 ≤ n2_top.toInt ∧ n2_top.toInt ≤ 64)) (pr0 : (6 ≤ p1.toInt + rk)) (aNAMES : Nat) : Met l yX10_readChain wsX10_readChain ({ frames := F + 1, cells := 0, slots := 0, locals := L + 23 }) (va_Pc [.ref h0, .int 5, .int p1] (fun U => U.heap.size = sz ∧ va_P (dC, dI) vwCl [(h0, kO10 h1 n0_size n0_place h2), (h1, kAi cint 120 f1), (h2, kO4 h3 n2_size h4 h5 n2_top), (h3, kAi cint 128 f3)] U.heap ∧ va_K (dC, dI) vwCl [(cint, .int)] U ∧ va_D (fun _ => True) [(h0, kO10 h1 n0_size n0_place h2), (h1, kAi cint 120 f1), (h2, kO4 h3 n2_size h4 h5 n2_top), (h3, kAi cint 128 f3)] ∧ va_Z "KinkStreet$Law" "NAMES" "[C" (.ref aNAMES) (va_A [(h0, kO10 h1 n0_size n0_place h2), (h1, kAi cint 120 f1), (h2, kO4 h3 n2_size h4 h5 n2_top), (h3, kAi cint 128 f3)] sz) U U.heap ∧ va_T .char aNAMES 8 tb_NAMES (va_A [(h0, kO10 h1 n0_size n0_place h2), (h1, kAi cint 120 f1), (h2, kO4 h3 n2_size h4 h5 n2_top), (h3, kAi cint 128 f3)] sz) U U.heap)) (va_Qi (fun (r : Int32) (_ : Unit) => (0 ≤ r.toInt ∧ r.toInt ≤ 1)) (fun (_ : Unit) t => ∃ (m0_place : Int32) (m2_size : Int32) (g3 : Nat → Int32), (0 ≤ m2_size.toInt ∧ m2_size.toInt ≤ 128) ∧ va_P (dC, dI) vwCl [(h0, kO10 h1 n0_size m0_place h2), (h1, kAi cint 120 f1), (h2, kO4 h3 m2_size h4 h5 n2_top), (h3, kAi cint 128 g3)] t.heap ∧ va_K (dC, dI) vwCl [] t ∧ va_D (va_A [(h0, kO10 h1 n0_size n0_place h2), (h1, kAi cint 120 f1), (h2, kO4 h3 n2_size h4 h5 n2_top), (h3, kAi cint 128 f3)] sz) [(h0, kO10 h1 n0_size m0_place h2), (h1, kAi cint 120 f1), (h2, kO4 h3 m2_size h4 h5 n2_top), (h3, kAi cint 128 g3)]) (va_A [(h0, kO10 h1 n0_size n0_place h2), (h1, kAi cint 120 f1), (h2, kO4 h3 n2_size h4 h5 n2_top), (h3, kAi cint 128 f3)] sz)) 0 0 (va_A [(h0, kO10 h1 n0_size n0_place h2), (h1, kAi cint 120 f1), (h2, kO4 h3 n2_size h4 h5 n2_top), (h3, kAi cint 128 f3)] sz) := by
  refine Met.ofW (cc := cX10_readChain) (maxL := 5) (ret := (some .boolean)) (by decide) rfl ?_
  intro p e s m args below meth c s₁ B hml hv
  obtain ⟨rfl, hsz, hP, hK, hD0, hZNAMES, hTNAMES⟩ := hv
  have hx := B.exec
  have hb := B.bytes
  have hr := B.returns
  have hts := atoms_spec (ws := wsX10_readChain) B.pre
  have hown : s.vm.findClass RX10 = some m.cls := findClass_of_methodNamed B.named
  have hlocks := B.notSynchronized
  subst hsz
  have hD := hD0.self (sz := s.heap.size)
  generalize hAe : va_A [(h0, kO10 h1 n0_size n0_place h2), (h1, kAi cint 120 f1), (h2, kO4 h3 n2_size h4 h5 n2_top), (h3, kAi cint 128 f3)] s.heap.size = A at hD hZNAMES hTNAMES ⊢
  have hA : ∀ q : Nat, s.heap.size ≤ q → A q := fun q h => by rw [← hAe]; exact Or.inr h
  have hS : va_S A s.heap s.heap [] := va_S.rf
  have hP : va_P (dC, dI) vwCl [(h0, kO10 h1 n0_size n0_place h2), (h1, kAi cint 120 f1), (h2, kO4 h3 n2_size h4 h5 n2_top), (h3, kAi cint 128 f3)] s.heap := hP
  have hl := lv_entry ([.ref h0, .int 5, .int p1]) (n := 5) (Nat.le_of_ble_eq_true rfl)
  rw [lg_entry_eq]
  generalize (lg_sl ([.ref h0, .int 5, .int p1]) ++ List.replicate (5 - (lg_sl ([.ref h0, .int 5, .int p1])).length) Slot.unset).toArray = ls at hl ⊢
  have hl : lv_has ls 5 [(0, .ref h0), (1, .int 5), (2, .int p1)] := hl
  refine lv_iload_n hx hb dX10_readChain_0 rfl (lv_at hl 1 rfl) ?_
  refine lv_iconst (v := 5) hx hb dX10_readChain_1 kk_ic_5 ?_
  refine lv_icmp_lt (tgt := 11) hx hb dX10_readChain_2 (by decide) (fun c => absurd c (by decide)) (fun _ => ?_)
  refine lv_aload_n hx hb dX10_readChain_5 rfl (lv_at hl 0 rfl) ?_
  refine lv_iload_n hx hb dX10_readChain_6 rfl (lv_at hl 2 rfl) ?_
  obtain ⟨hPc, hDc, hFc⟩ := kk_cutout (wc := [(h0, kO10 h1 n0_size n0_place h2), (h1, kAi cint 120 f1), (h2, kO4 h3 n2_size h4 h5 n2_top), (h3, kAi cint 128 f3)]) hP hD hS hA [0, 1, 2, 3] (by decide) rfl
  have hKc := kk_Ks (tq := [(cint, .int)]) hK [0] rfl
  refine va_calli (va_runV (As := [.int p1]) (rest := []) ⟨hx, hb, hml, hown, hts⟩ (ih0 dC dI h0 h1 h2 h3 h4 h5 cint s.heap.size p1 tp1 n0_size n0_place f1 n2_size n2_top f3 tn0_size bf1 tn2_size tn2_top (by show (6 ≤ (p1 : Int32).toInt + rk); first | with_reducible assumption | (omega)) aNAMES) (cwV 1 hts gX10_readChain_X10_readOperand rfl rfl rfl ⟨rfl, kh_X10_readOperand⟩ ⟨Nat.add_le_add_right hF0 1, kk_rmL hL0 (Nat.le_of_ble_eq_true rfl)⟩) ⟨fun a U g mk q => by obtain ⟨q0, q1, qP, qK, qD, qx0, qx1⟩ := q; exact ⟨q0, q1, qP, va_K.moved (u := U) (U := U.calling g mk a) (Vm.Alike.refl U.vm) qK, qD, va_Z.moved (u := U) (U := U.calling g mk a) (Vm.Alike.refl U.vm) qx0, va_T.moved (u := U) (U := U.calling g mk a) (Vm.Alike.refl U.vm) qx1⟩, va_recv hKc hPc (ci := 10) (q0 := 0) rfl rfl, fun U hU hW => ⟨rfl, by rw [hU], by rw [hU]; exact hPc, va_K.moved hW.alike hKc, hDc.weaken (fun _ _ _ _ => trivial), by rw [hU]; exact ((hZNAMES.kept (fun a h1 h2 => hS.2.1 a h1 h2)).narrow hFc).moved hW.alike, by rw [hU]; exact ((hTNAMES.kept (fun a h1 h2 => hS.2.1 a h1 h2)).narrow hFc).moved hW.alike⟩⟩ rfl rfl hl.1 rfl (lv_room (Nat.le_of_ble_eq_true rfl)) dX10_readChain_7 ⟨Nat.le_of_ble_eq_true rfl, Nat.le_of_ble_eq_true rfl⟩) hS (fun q _ h => hFc q h) hFc (fun r_1 u t H1 locs ht hvm hw hB hz1 hk1 hS => ?_)
  refine hB.elim (fun y_2 hB => ?_)
  refine hB.elim (fun y_3 hB => ?_)
  refine hB.elim (fun f_4 hB => ?_)
  refine hB.elim (fun by_3 hB => ?_)
  have hP1 := hB.1
  have hK1 := hB.2.1
  have hD1 := hB.2.2
  rw [ht] at hP1
  have hK1 := va_K.moved hvm.symm hK1
  obtain ⟨hP, hD⟩ := va_join (wr := []) (w1 := [(h0, kO10 h1 n0_size y_2 h2), (h1, kAi cint 120 f1), (h2, kO4 h3 y_3 h4 h5 n2_top), (h3, kAi cint 128 f_4)]) hP hD [0, 1, 2, 3] [] rfl rfl (by decide) (by decide) hk1 hFc hP1 hD1
  generalize H1 = H at hP hS ⊢
  have hP : va_P (dC, dI) vwCl [(h0, kO10 h1 n0_size y_2 h2), (h1, kAi cint 120 f1), (h2, kO4 h3 y_3 h4 h5 n2_top), (h3, kAi cint 128 f_4)] H := hP
  have hD : va_D A [(h0, kO10 h1 n0_size y_2 h2), (h1, kAi cint 120 f1), (h2, kO4 h3 y_3 h4 h5 n2_top), (h3, kAi cint 128 f_4)] := hD
  have t_1 : 0 ≤ r_1.toInt ∧ r_1.toInt ≤ 1 := hw
  obtain ⟨hP9, hD9⟩ := kk_leafout (wc := [(h0, kO10 h1 n0_size y_2 h2), (h1, kAi cint 120 f1), (h2, kO4 h3 y_3 h4 h5 n2_top), (h3, kAi cint 128 f_4)]) hP hD [0, 1, 2, 3] (by decide) rfl
  have hK9 := kk_Ks (tq := []) hK [] rfl
  exact W.zret (v := r_1) hx hb hr (kk_nb (by show 0 ≤ (r_1 : Int32).toInt; omega) (by show (r_1 : Int32).toInt ≤ 1; omega)) (fun t ht hW => ⟨⟨r_1, (), rfl, (by show 0 ≤ (r_1 : Int32).toInt ∧ (r_1 : Int32).toInt ≤ 1; first | with_reducible assumption | ((omega))), y_2, y_3, f_4, (by show 0 ≤ (y_3 : Int32).toInt ∧ (y_3 : Int32).toInt ≤ 128; first | with_reducible assumption | ((omega))), by rw [ht]; exact hP9, va_K.moved hW.alike hK9, hD9⟩, hS.F ht⟩) hS.2.2 dX10_readChain_10
set_option maxHeartbeats 4000000 in
set_option maxRecDepth 100000 in
theorem s_X10_readChain_4 (l : Launch) (F L : Nat) (hF : 10 ≤ F) (hL : 200 ≤ L) (rk : Int) (F0 L0 : Nat) (hF0 : F0 ≤ F) (hL0 : L0 ≤ L) (ih0 : ka_X10_readChain_5 l F0 L0 rk) (dC : Nat → ClassId) (dI : Nat → Nat → Nat) (h0 : Nat) (h1 : Nat) (h2 : Nat) (h3 : Nat) (h4 : Nat) (h5 : Nat) (cint : ClassId) (sz : Nat) (p1 : Int32) (tp1 : 0 ≤ p1.toInt ∧ p1.toInt ≤ 6) (n0_size : Int32) (n0_place : Int32) (f1 : Nat → Int32) (n2_size : Int32) (n2_top : Int32) (f3 : Nat → Int32) (tn0_size : kk_bx (0 ≤ n0_size.toInt ∧ n0_size.toInt ≤ 120)) (bf1 : ∀ j, j < 120 → 0 ≤ (f1 j).toInt ∧ (f1 j).toInt ≤ 255) (tn2_size : kk_bx (0 ≤ n2_size.toInt ∧ n2_size.toInt ≤ 128)) (tn2_top : kk_bx (0 ≤ n2_top.toInt ∧ n2_top.toInt ≤ 64)) (pr0 : (6 ≤ p1.toInt + rk)) (aNAMES : Nat) : Met l yX10_readChain wsX10_readChain ({ frames := F + 1, cells := 0, slots := 0, locals := L + 24 }) (va_Pc [.ref h0, .int 4, .int p1] (fun U => U.heap.size = sz ∧ va_P (dC, dI) vwCl [(h0, kO10 h1 n0_size n0_place h2), (h1, kAi cint 120 f1), (h2, kO4 h3 n2_size h4 h5 n2_top), (h3, kAi cint 128 f3)] U.heap ∧ va_K (dC, dI) vwCl [(cint, .int)] U ∧ va_D (fun _ => True) [(h0, kO10 h1 n0_size n0_place h2), (h1, kAi cint 120 f1), (h2, kO4 h3 n2_size h4 h5 n2_top), (h3, kAi cint 128 f3)] ∧ va_Z "KinkStreet$Law" "NAMES" "[C" (.ref aNAMES) (va_A [(h0, kO10 h1 n0_size n0_place h2), (h1, kAi cint 120 f1), (h2, kO4 h3 n2_size h4 h5 n2_top), (h3, kAi cint 128 f3)] sz) U U.heap ∧ va_T .char aNAMES 8 tb_NAMES (va_A [(h0, kO10 h1 n0_size n0_place h2), (h1, kAi cint 120 f1), (h2, kO4 h3 n2_size h4 h5 n2_top), (h3, kAi cint 128 f3)] sz) U U.heap)) (va_Qi (fun (r : Int32) (_ : Unit) => (0 ≤ r.toInt ∧ r.toInt ≤ 1)) (fun (_ : Unit) t => ∃ (m0_place : Int32) (m2_size : Int32) (g3 : Nat → Int32), (0 ≤ m2_size.toInt ∧ m2_size.toInt ≤ 128) ∧ va_P (dC, dI) vwCl [(h0, kO10 h1 n0_size m0_place h2), (h1, kAi cint 120 f1), (h2, kO4 h3 m2_size h4 h5 n2_top), (h3, kAi cint 128 g3)] t.heap ∧ va_K (dC, dI) vwCl [] t ∧ va_D (va_A [(h0, kO10 h1 n0_size n0_place h2), (h1, kAi cint 120 f1), (h2, kO4 h3 n2_size h4 h5 n2_top), (h3, kAi cint 128 f3)] sz) [(h0, kO10 h1 n0_size m0_place h2), (h1, kAi cint 120 f1), (h2, kO4 h3 m2_size h4 h5 n2_top), (h3, kAi cint 128 g3)]) (va_A [(h0, kO10 h1 n0_size n0_place h2), (h1, kAi cint 120 f1), (h2, kO4 h3 n2_size h4 h5 n2_top), (h3, kAi cint 128 f3)] sz)) 0 0 (va_A [(h0, kO10 h1 n0_size n0_place h2), (h1, kAi cint 120 f1), (h2, kO4 h3 n2_size h4 h5 n2_top), (h3, kAi cint 128 f3)] sz) := by
  refine Met.ofW (cc := cX10_readChain) (maxL := 5) (ret := (some .boolean)) (by decide) rfl ?_
  intro p e s m args below meth c s₁ B hml hv
  obtain ⟨rfl, hsz, hP, hK, hD0, hZNAMES, hTNAMES⟩ := hv
  have hx := B.exec
  have hb := B.bytes
  have hr := B.returns
  have hts := atoms_spec (ws := wsX10_readChain) B.pre
  have hown : s.vm.findClass RX10 = some m.cls := findClass_of_methodNamed B.named
  have hlocks := B.notSynchronized
  subst hsz
  have hD := hD0.self (sz := s.heap.size)
  generalize hAe : va_A [(h0, kO10 h1 n0_size n0_place h2), (h1, kAi cint 120 f1), (h2, kO4 h3 n2_size h4 h5 n2_top), (h3, kAi cint 128 f3)] s.heap.size = A at hD hZNAMES hTNAMES ⊢
  have hA : ∀ q : Nat, s.heap.size ≤ q → A q := fun q h => by rw [← hAe]; exact Or.inr h
  have hS : va_S A s.heap s.heap [] := va_S.rf
  have hP : va_P (dC, dI) vwCl [(h0, kO10 h1 n0_size n0_place h2), (h1, kAi cint 120 f1), (h2, kO4 h3 n2_size h4 h5 n2_top), (h3, kAi cint 128 f3)] s.heap := hP
  have hl := lv_entry ([.ref h0, .int 4, .int p1]) (n := 5) (Nat.le_of_ble_eq_true rfl)
  rw [lg_entry_eq]
  generalize (lg_sl ([.ref h0, .int 4, .int p1]) ++ List.replicate (5 - (lg_sl ([.ref h0, .int 4, .int p1])).length) Slot.unset).toArray = ls at hl ⊢
  have hl : lv_has ls 5 [(0, .ref h0), (1, .int 4), (2, .int p1)] := hl
  refine lv_iload_n hx hb dX10_readChain_0 rfl (lv_at hl 1 rfl) ?_
  refine lv_iconst (v := 5) hx hb dX10_readChain_1 kk_ic_5 ?_
  refine lv_icmp_lt (tgt := 11) hx hb dX10_readChain_2 (by decide) (fun _ => ?_) (fun c => absurd c (by decide))
  refine lv_aload_n hx hb dX10_readChain_11 rfl (lv_at hl 0 rfl) ?_
  refine lv_iload_n hx hb dX10_readChain_12 rfl (lv_at hl 1 rfl) ?_
  refine lv_iconst (v := 1) hx hb dX10_readChain_13 kk_ic_1 ?_
  refine lv_iadd hx hb dX10_readChain_14 ?_
  refine lv_topi (fun y_1 e_1 => ?_)
  obtain rfl : y_1 = 5 := e_1.trans (by decide)
  refine lv_iload_n hx hb dX10_readChain_15 rfl (lv_at hl 2 rfl) ?_
  obtain ⟨hPc, hDc, hFc⟩ := kk_cutout (wc := [(h0, kO10 h1 n0_size n0_place h2), (h1, kAi cint 120 f1), (h2, kO4 h3 n2_size h4 h5 n2_top), (h3, kAi cint 128 f3)]) hP hD hS hA [0, 1, 2, 3] (by decide) rfl
  have hKc := kk_Ks (tq := [(cint, .int)]) hK [0] rfl
  refine va_calli (va_runV (As := [.int 5, .int p1]) (rest := []) ⟨hx, hb, hml, hown, hts⟩ (ih0 dC dI h0 h1 h2 h3 h4 h5 cint s.heap.size p1 tp1 n0_size n0_place f1 n2_size n2_top f3 tn0_size bf1 tn2_size tn2_top (by show (6 ≤ (p1 : Int32).toInt + rk); first | with_reducible assumption | (omega)) aNAMES) (cwV 2 hts gX10_readChain_X10_readChain rfl rfl rfl ⟨rfl, kh_X10_readChain⟩ ⟨Nat.add_le_add_right hF0 1, kk_rmL hL0 (Nat.le_of_ble_eq_true rfl)⟩) ⟨fun a U g mk q => by obtain ⟨q0, q1, qP, qK, qD, qx0, qx1⟩ := q; exact ⟨q0, q1, qP, va_K.moved (u := U) (U := U.calling g mk a) (Vm.Alike.refl U.vm) qK, qD, va_Z.moved (u := U) (U := U.calling g mk a) (Vm.Alike.refl U.vm) qx0, va_T.moved (u := U) (U := U.calling g mk a) (Vm.Alike.refl U.vm) qx1⟩, va_recv hKc hPc (ci := 10) (q0 := 0) rfl rfl, fun U hU hW => ⟨rfl, by rw [hU], by rw [hU]; exact hPc, va_K.moved hW.alike hKc, hDc.weaken (fun _ _ _ _ => trivial), by rw [hU]; exact ((hZNAMES.kept (fun a h1 h2 => hS.2.1 a h1 h2)).narrow hFc).moved hW.alike, by rw [hU]; exact ((hTNAMES.kept (fun a h1 h2 => hS.2.1 a h1 h2)).narrow hFc).moved hW.alike⟩⟩ rfl rfl hl.1 rfl (lv_room (Nat.le_of_ble_eq_true rfl)) dX10_readChain_16 ⟨Nat.le_of_ble_eq_true rfl, Nat.le_of_ble_eq_true rfl⟩) hS (fun q _ h => hFc q h) hFc (fun r_2 u t H1 locs ht hvm hw hB hz1 hk1 hS => ?_)
  refine hB.elim (fun y_3 hB => ?_)
  refine hB.elim (fun y_4 hB => ?_)
  refine hB.elim (fun f_5 hB => ?_)
  refine hB.elim (fun by_4 hB => ?_)
  have hP1 := hB.1
  have hK1 := hB.2.1
  have hD1 := hB.2.2
  rw [ht] at hP1
  have hK1 := va_K.moved hvm.symm hK1
  obtain ⟨hP, hD⟩ := va_join (wr := []) (w1 := [(h0, kO10 h1 n0_size y_3 h2), (h1, kAi cint 120 f1), (h2, kO4 h3 y_4 h4 h5 n2_top), (h3, kAi cint 128 f_5)]) hP hD [0, 1, 2, 3] [] rfl rfl (by decide) (by decide) hk1 hFc hP1 hD1
  generalize H1 = H at hP hS ⊢
  have hP : va_P (dC, dI) vwCl [(h0, kO10 h1 n0_size y_3 h2), (h1, kAi cint 120 f1), (h2, kO4 h3 y_4 h4 h5 n2_top), (h3, kAi cint 128 f_5)] H := hP
  have hD : va_D A [(h0, kO10 h1 n0_size y_3 h2), (h1, kAi cint 120 f1), (h2, kO4 h3 y_4 h4 h5 n2_top), (h3, kAi cint 128 f_5)] := hD
  have t_2 : 0 ≤ r_2.toInt ∧ r_2.toInt ≤ 1 := hw
  refine lv_if_ne (tgt := 24) hx hb dX10_readChain_19 (by decide) (fun c_6 => ?_) (fun c_6 => ?_)
  · have t_6 : r_2.toInt ≠ 0 := kk_ne c_6
    refine lv_iconst (v := 0) hx hb dX10_readChain_24 kk_ic_0 ?_
    refine lv_istore_n hx hb dX10_readChain_25 rfl hl (by decide) (rfl : _ = ([(3, .int 0), (0, .ref h0), (1, .int 4), (2, .int p1)] : List (Nat × Value))) (fun ls hl => ?_)
    refine kk_loop (σ := Int32 × Int32 × Int32 × (Nat → Int32)) (fun x H locs ls => (0 ≤ x.1.toInt ∧ x.1.toInt ≤ 120) ∧ (0 ≤ x.2.2.1.toInt ∧ x.2.2.1.toInt ≤ 128) ∧ va_P (dC, dI) vwCl [(h0, kO10 h1 n0_size x.2.1 h2), (h1, kAi cint 120 f1), (h2, kO4 h3 x.2.2.1 h4 h5 n2_top), (h3, kAi cint 128 x.2.2.2)] H ∧ va_D A [(h0, kO10 h1 n0_size x.2.1 h2), (h1, kAi cint 120 f1), (h2, kO4 h3 x.2.2.1 h4 h5 n2_top), (h3, kAi cint 128 x.2.2.2)] ∧ va_S A s.heap H locs ∧ lv_has ls 5 [(3, .int x.1), (0, .ref h0), (1, .int 4), (2, .int p1)]) (fun x => ((120 : Int) - x.1.toInt).toNat) ?_ (0, y_3, y_4, f_5) _ _ _ ⟨(by show 0 ≤ (0 : Int32).toInt ∧ (0 : Int32).toInt ≤ 120; first | with_reducible assumption | decide | ((omega))), (by show 0 ≤ (y_4 : Int32).toInt ∧ (y_4 : Int32).toInt ≤ 128; first | with_reducible assumption | ((omega))), hP, hD, hS, hl⟩
    rintro ⟨i_7_0, i_7_1, i_7_2, f_7_3⟩ H locs ls ⟨t_7_0, t_7_2, hP, hD, hS, hl⟩ ih_7
    have t_7_0 : (0 ≤ i_7_0.toInt ∧ i_7_0.toInt ≤ 120) := t_7_0
    have t_7_2 : (0 ≤ i_7_2.toInt ∧ i_7_2.toInt ≤ 128) := t_7_2
    have hl : lv_has ls 5 [(3, .int i_7_0), (0, .ref h0), (1, .int 4), (2, .int p1)] := hl
    have hP : va_P (dC, dI) vwCl [(h0, kO10 h1 n0_size i_7_1 h2), (h1, kAi cint 120 f1), (h2, kO4 h3 i_7_2 h4 h5 n2_top), (h3, kAi cint 128 f_7_3)] H := hP
    have hD : va_D A [(h0, kO10 h1 n0_size i_7_1 h2), (h1, kAi cint 120 f1), (h2, kO4 h3 i_7_2 h4 h5 n2_top), (h3, kAi cint 128 f_7_3)] := hD
    refine lv_iload_n hx hb dX10_readChain_26 rfl (lv_at hl 0 rfl) ?_
    refine lv_bipush (v := 120) hx hb dX10_readChain_27 kk_bi_120 ?_
    refine lv_icmp_ge (tgt := 94) hx hb dX10_readChain_29 (by decide) (fun c_8 => ?_) (fun c_8 => ?_)
    · have t_8 : 120 ≤ i_7_0.toInt := kk_le c_8
      refine lv_iconst (v := 1) hx hb dX10_readChain_94 kk_ic_1 ?_
      obtain ⟨hP9, hD9⟩ := kk_leafout (wc := [(h0, kO10 h1 n0_size i_7_1 h2), (h1, kAi cint 120 f1), (h2, kO4 h3 i_7_2 h4 h5 n2_top), (h3, kAi cint 128 f_7_3)]) hP hD [0, 1, 2, 3] (by decide) rfl
      have hK9 := kk_Ks (tq := []) hK [] rfl
      exact W.zret (v := 1) hx hb hr rfl (fun t ht hW => ⟨⟨1, (), rfl, (by show 0 ≤ (1 : Int32).toInt ∧ (1 : Int32).toInt ≤ 1; first | with_reducible assumption | decide | ((omega))), i_7_1, i_7_2, f_7_3, (by show 0 ≤ (i_7_2 : Int32).toInt ∧ (i_7_2 : Int32).toInt ≤ 128; first | with_reducible assumption | ((omega))), by rw [ht]; exact hP9, va_K.moved hW.alike hK9, hD9⟩, hS.F ht⟩) hS.2.2 dX10_readChain_95
    · have t_8 : i_7_0.toInt < 120 := kk_nle c_8
      refine lv_iload_n hx hb dX10_readChain_32 rfl (lv_at hl 2 rfl) ?_
      refine lv_aload_n hx hb dX10_readChain_33 rfl (lv_at hl 1 rfl) ?_
      obtain ⟨hPc, hDc, hFc⟩ := kk_cutout (wc := [(h0, kO10 h1 n0_size i_7_1 h2), (h1, kAi cint 120 f1)]) hP hD hS hA [0, 1] (by decide) rfl
      have hKc := kk_Ks (tq := [(cint, .int)]) hK [0] rfl
      refine va_calli (va_runV (As := []) (rest := [.int 4]) ⟨hx, hb, hml, hown, hts⟩ (g_X10_next_0 l dC dI h0 h1 h2 cint H.size n0_size i_7_1 f1 tn0_size bf1) (cwV 0 hts gX10_readChain_X10_next rfl rfl rfl ⟨rfl, kh_X10_next⟩ ⟨kk_rmF hF (Nat.le_of_ble_eq_true rfl), kk_rmM hL (Nat.le_of_ble_eq_true rfl)⟩) ⟨fun a U g mk q => by obtain ⟨q0, q1, qP, qK, qD⟩ := q; exact ⟨q0, q1, qP, va_K.moved (u := U) (U := U.calling g mk a) (Vm.Alike.refl U.vm) qK, qD⟩, va_recv hKc hPc (ci := 10) (q0 := 0) rfl rfl, fun U hU hW => ⟨rfl, by rw [hU], by rw [hU]; exact hPc, va_K.moved hW.alike hKc, hDc.weaken (fun _ _ _ _ => trivial)⟩⟩ rfl rfl hl.1 rfl (lv_room (Nat.le_of_ble_eq_true rfl)) dX10_readChain_34 ⟨Nat.le_of_ble_eq_true rfl, Nat.le_of_ble_eq_true rfl⟩) hS (fun q _ h => hFc q h) hFc (fun r_9 u t H1 locs ht hvm hw hB hz1 hk1 hS => ?_)
      obtain ⟨hP1, hK1, hD1⟩ := hB
      rw [ht] at hP1
      have hK1 := va_K.moved hvm.symm hK1
      obtain ⟨hP, hD⟩ := va_join (wr := [(h2, kO4 h3 i_7_2 h4 h5 n2_top), (h3, kAi cint 128 f_7_3)]) (w1 := [(h0, kO10 h1 n0_size i_7_1 h2), (h1, kAi cint 120 f1)]) hP hD [0, 1] [2, 3] rfl rfl (by decide) (by decide) hk1 hFc hP1 hD1
      generalize H1 = H at hP hS ⊢
      have hP : va_P (dC, dI) vwCl [(h2, kO4 h3 i_7_2 h4 h5 n2_top), (h3, kAi cint 128 f_7_3), (h0, kO10 h1 n0_size i_7_1 h2), (h1, kAi cint 120 f1)] H := hP
      have hD : va_D A [(h2, kO4 h3 i_7_2 h4 h5 n2_top), (h3, kAi cint 128 f_7_3), (h0, kO10 h1 n0_size i_7_1 h2), (h1, kAi cint 120 f1)] := hD
      have t_9 : (-1) ≤ r_9.toInt ∧ r_9.toInt ≤ 255 := hw
      obtain ⟨hPc, hDc, hFc⟩ := kk_cutout (wc := []) hP hD hS hA [] (by decide) rfl
      have hKc := kk_Ks (tq := []) hK [] rfl
      refine va_calli (va_runS (As := [.int 4, .int r_9]) (rest := []) ⟨hx, hb, hml, hown, hts⟩ (g_X10_joins_0 l dC dI H.size r_9) (va_cwS 2 hts gX10_readChain_X10_joins rfl rfl rfl kh_X10_joins ⟨kk_rmF hF (Nat.le_of_ble_eq_true rfl), kk_rmM hL (Nat.le_of_ble_eq_true rfl)⟩) ⟨fun a U g mk q => by obtain ⟨q0, q1, qP, qK, qD⟩ := q; exact ⟨q0, q1, qP, va_K.moved (u := U) (U := U.calling g mk a) (Vm.Alike.refl U.vm) qK, qD⟩, fun U hU hW => ⟨rfl, by rw [hU], by rw [hU]; exact hPc, va_K.moved hW.alike hKc, hDc.weaken (fun _ _ _ _ => trivial)⟩⟩ rfl rfl hl.1 rfl (lv_room (Nat.le_of_ble_eq_true rfl)) dX10_readChain_37 ⟨Nat.le_of_ble_eq_true rfl, Nat.le_of_ble_eq_true rfl⟩) hS (fun q _ h => hFc q h) hFc (fun r_10 u t H1 locs ht hvm hw hB hz1 hk1 hS => ?_)
      obtain ⟨hP1, hK1, hD1⟩ := hB
      rw [ht] at hP1
      have hK1 := va_K.moved hvm.symm hK1
      obtain ⟨hP, hD⟩ := va_join (wr := [(h2, kO4 h3 i_7_2 h4 h5 n2_top), (h3, kAi cint 128 f_7_3), (h0, kO10 h1 n0_size i_7_1 h2), (h1, kAi cint 120 f1)]) (w1 := []) hP hD [] [0, 1, 2, 3] rfl rfl (by decide) (by decide) hk1 hFc hP1 hD1
      generalize H1 = H at hP hS ⊢
      have hP : va_P (dC, dI) vwCl [(h2, kO4 h3 i_7_2 h4 h5 n2_top), (h3, kAi cint 128 f_7_3), (h0, kO10 h1 n0_size i_7_1 h2), (h1, kAi cint 120 f1)] H := hP
      have hD : va_D A [(h2, kO4 h3 i_7_2 h4 h5 n2_top), (h3, kAi cint 128 f_7_3), (h0, kO10 h1 n0_size i_7_1 h2), (h1, kAi cint 120 f1)] := hD
      have t_10 : 0 ≤ r_10.toInt ∧ r_10.toInt ≤ 1 := hw
      refine lv_if_eq (tgt := 94) hx hb dX10_readChain_40 (by decide) (fun c_11 => ?_) (fun c_11 => ?_)
      · have t_11 : r_10.toInt = 0 := kk_eq c_11
        refine lv_iconst (v := 1) hx hb dX10_readChain_94 kk_ic_1 ?_
        obtain ⟨hP9, hD9⟩ := kk_leafout (wc := [(h0, kO10 h1 n0_size i_7_1 h2), (h1, kAi cint 120 f1), (h2, kO4 h3 i_7_2 h4 h5 n2_top), (h3, kAi cint 128 f_7_3)]) hP hD [2, 3, 0, 1] (by decide) rfl
        have hK9 := kk_Ks (tq := []) hK [] rfl
        exact W.zret (v := 1) hx hb hr rfl (fun t ht hW => ⟨⟨1, (), rfl, (by show 0 ≤ (1 : Int32).toInt ∧ (1 : Int32).toInt ≤ 1; first | with_reducible assumption | decide | ((omega))), i_7_1, i_7_2, f_7_3, (by show 0 ≤ (i_7_2 : Int32).toInt ∧ (i_7_2 : Int32).toInt ≤ 128; first | with_reducible assumption | ((omega))), by rw [ht]; exact hP9, va_K.moved hW.alike hK9, hD9⟩, hS.F ht⟩) hS.2.2 dX10_readChain_95
      · have t_11 : r_10.toInt ≠ 0 := kk_ne c_11
        refine lv_aload_n hx hb dX10_readChain_43 rfl (lv_at hl 1 rfl) ?_
        obtain ⟨hPc, hDc, hFc⟩ := kk_cutout (wc := [(h0, kO10 h1 n0_size i_7_1 h2), (h1, kAi cint 120 f1)]) hP hD hS hA [2, 3] (by decide) rfl
        have hKc := kk_Ks (tq := [(cint, .int)]) hK [0] rfl
        refine va_calli (va_runV (As := []) (rest := []) ⟨hx, hb, hml, hown, hts⟩ (g_X10_next_0 l dC dI h0 h1 h2 cint H.size n0_size i_7_1 f1 tn0_size bf1) (cwV 0 hts gX10_readChain_X10_next rfl rfl rfl ⟨rfl, kh_X10_next⟩ ⟨kk_rmF hF (Nat.le_of_ble_eq_true rfl), kk_rmM hL (Nat.le_of_ble_eq_true rfl)⟩) ⟨fun a U g mk q => by obtain ⟨q0, q1, qP, qK, qD⟩ := q; exact ⟨q0, q1, qP, va_K.moved (u := U) (U := U.calling g mk a) (Vm.Alike.refl U.vm) qK, qD⟩, va_recv hKc hPc (ci := 10) (q0 := 0) rfl rfl, fun U hU hW => ⟨rfl, by rw [hU], by rw [hU]; exact hPc, va_K.moved hW.alike hKc, hDc.weaken (fun _ _ _ _ => trivial)⟩⟩ rfl rfl hl.1 rfl (lv_room (Nat.le_of_ble_eq_true rfl)) dX10_readChain_44 ⟨Nat.le_of_ble_eq_true rfl, Nat.le_of_ble_eq_true rfl⟩) hS (fun q _ h => hFc q h) hFc (fun r_12 u t H1 locs ht hvm hw hB hz1 hk1 hS => ?_)
        obtain ⟨hP1, hK1, hD1⟩ := hB
        rw [ht] at hP1
        have hK1 := va_K.moved hvm.symm hK1
        obtain ⟨hP, hD⟩ := va_join (wr := [(h2, kO4 h3 i_7_2 h4 h5 n2_top), (h3, kAi cint 128 f_7_3)]) (w1 := [(h0, kO10 h1 n0_size i_7_1 h2), (h1, kAi cint 120 f1)]) hP hD [2, 3] [0, 1] rfl rfl (by decide) (by decide) hk1 hFc hP1 hD1
        generalize H1 = H at hP hS ⊢
        have hP : va_P (dC, dI) vwCl [(h2, kO4 h3 i_7_2 h4 h5 n2_top), (h3, kAi cint 128 f_7_3), (h0, kO10 h1 n0_size i_7_1 h2), (h1, kAi cint 120 f1)] H := hP
        have hD : va_D A [(h2, kO4 h3 i_7_2 h4 h5 n2_top), (h3, kAi cint 128 f_7_3), (h0, kO10 h1 n0_size i_7_1 h2), (h1, kAi cint 120 f1)] := hD
        have t_12 : (-1) ≤ r_12.toInt ∧ r_12.toInt ≤ 255 := hw
        refine lv_istore hx hb dX10_readChain_47 hl (by decide) (rfl : _ = ([(4, .int r_12), (3, .int i_7_0), (0, .ref h0), (1, .int 4), (2, .int p1)] : List (Nat × Value))) (fun ls hl => ?_)
        refine lv_aload_n hx hb dX10_readChain_49 rfl (lv_at hl 2 rfl) ?_
        refine lv_dup hx hb dX10_readChain_50 rfl ?_
        refine va_get (D := (dC, dI)) (ci := 10) (v := .int i_7_1) (C := RX10) (T := TX10) (N := 4) hx hb hts (fun _ h => List.mem_cons_of_mem _ (List.mem_append_left _ (List.mem_append_right _ h))) hown hK hP 2 rfl rfl 2 (by decide) (hts (.fieldLink RX10 17 "KinkStreet$Tape" "place" "I") (List.mem_of_getElem? (i := 1) rfl)) (fun _ h9 => h9) rfl dX10_readChain_51 ?_
        refine lv_iconst (v := 1) hx hb dX10_readChain_54 kk_ic_1 ?_
        refine lv_iadd hx hb dX10_readChain_55 ?_
        refine va_put (D := (dC, dI)) (ci := 10) (v := .int (i_7_1 + 1)) (ty := .int) (C := RX10) (T := TX10) (N := 4) hx hb hts (fun _ h => List.mem_cons_of_mem _ (List.mem_append_left _ (List.mem_append_right _ h))) tyX10 tyX10_ok nmX10 hown hK hP hD hS 2 rfl rfl 2 (by decide) (hts (.fieldLink RX10 17 "KinkStreet$Tape" "place" "I") (List.mem_of_getElem? (i := 1) rfl)) (fun _ h9 => h9) rfl (by decide +kernel) rfl rfl (Nat.le_of_ble_eq_true rfl) dX10_readChain_56 (fun H locs hP hD hS => ?_)
        have hP : va_P (dC, dI) vwCl [(h2, kO4 h3 i_7_2 h4 h5 n2_top), (h3, kAi cint 128 f_7_3), (h0, kO10 h1 n0_size (i_7_1 + 1) h2), (h1, kAi cint 120 f1)] H := hP
        have hD : va_D A [(h2, kO4 h3 i_7_2 h4 h5 n2_top), (h3, kAi cint 128 f_7_3), (h0, kO10 h1 n0_size (i_7_1 + 1) h2), (h1, kAi cint 120 f1)] := hD
        refine lv_aload_n hx hb dX10_readChain_59 rfl (lv_at hl 2 rfl) ?_
        refine lv_iload_n hx hb dX10_readChain_60 rfl (lv_at hl 3 rfl) ?_
        refine lv_iconst (v := 1) hx hb dX10_readChain_61 kk_ic_1 ?_
        refine lv_iadd hx hb dX10_readChain_62 ?_
        refine lv_topi (fun y_13 e_13 => ?_)
        obtain rfl : y_13 = 5 := e_13.trans (by decide)
        refine lv_iload_n hx hb dX10_readChain_63 rfl (lv_at hl 4 rfl) ?_
        obtain ⟨hPc, hDc, hFc⟩ := kk_cutout (wc := [(h0, kO10 h1 n0_size (i_7_1 + 1) h2), (h1, kAi cint 120 f1), (h2, kO4 h3 i_7_2 h4 h5 n2_top), (h3, kAi cint 128 f_7_3)]) hP hD hS hA [2, 3, 0, 1] (by decide) rfl
        have hKc := kk_Ks (tq := [(cint, .int)]) hK [0] rfl
        refine va_calli (va_runV (As := [.int 5, .int p1]) (rest := []) ⟨hx, hb, hml, hown, hts⟩ (ih0 dC dI h0 h1 h2 h3 h4 h5 cint H.size p1 tp1 n0_size (i_7_1 + 1) f1 i_7_2 n2_top f_7_3 tn0_size bf1 (by show 0 ≤ (i_7_2 : Int32).toInt ∧ (i_7_2 : Int32).toInt ≤ 128; first | with_reducible assumption | ((omega))) tn2_top (by show (6 ≤ (p1 : Int32).toInt + rk); first | with_reducible assumption | (omega)) aNAMES) (cwV 2 hts gX10_readChain_X10_readChain rfl rfl rfl ⟨rfl, kh_X10_readChain⟩ ⟨Nat.add_le_add_right hF0 1, kk_rmL hL0 (Nat.le_of_ble_eq_true rfl)⟩) ⟨fun a U g mk q => by obtain ⟨q0, q1, qP, qK, qD, qx0, qx1⟩ := q; exact ⟨q0, q1, qP, va_K.moved (u := U) (U := U.calling g mk a) (Vm.Alike.refl U.vm) qK, qD, va_Z.moved (u := U) (U := U.calling g mk a) (Vm.Alike.refl U.vm) qx0, va_T.moved (u := U) (U := U.calling g mk a) (Vm.Alike.refl U.vm) qx1⟩, va_recv hKc hPc (ci := 10) (q0 := 0) rfl rfl, fun U hU hW => ⟨rfl, by rw [hU], by rw [hU]; exact hPc, va_K.moved hW.alike hKc, hDc.weaken (fun _ _ _ _ => trivial), by rw [hU]; exact ((hZNAMES.kept (fun a h1 h2 => hS.2.1 a h1 h2)).narrow hFc).moved hW.alike, by rw [hU]; exact ((hTNAMES.kept (fun a h1 h2 => hS.2.1 a h1 h2)).narrow hFc).moved hW.alike⟩⟩ rfl rfl hl.1 rfl (lv_room (Nat.le_of_ble_eq_true rfl)) dX10_readChain_64 ⟨Nat.le_of_ble_eq_true rfl, Nat.le_of_ble_eq_true rfl⟩) hS (fun q _ h => hFc q h) hFc (fun r_14 u t H1 locs ht hvm hw hB hz1 hk1 hS => ?_)
        refine hB.elim (fun y_15 hB => ?_)
        refine hB.elim (fun y_16 hB => ?_)
        refine hB.elim (fun f_17 hB => ?_)
        refine hB.elim (fun by_16 hB => ?_)
        have hP1 := hB.1
        have hK1 := hB.2.1
        have hD1 := hB.2.2
        rw [ht] at hP1
        have hK1 := va_K.moved hvm.symm hK1
        obtain ⟨hP, hD⟩ := va_join (wr := []) (w1 := [(h0, kO10 h1 n0_size y_15 h2), (h1, kAi cint 120 f1), (h2, kO4 h3 y_16 h4 h5 n2_top), (h3, kAi cint 128 f_17)]) hP hD [2, 3, 0, 1] [] rfl rfl (by decide) (by decide) hk1 hFc hP1 hD1
        generalize H1 = H at hP hS ⊢
        have hP : va_P (dC, dI) vwCl [(h0, kO10 h1 n0_size y_15 h2), (h1, kAi cint 120 f1), (h2, kO4 h3 y_16 h4 h5 n2_top), (h3, kAi cint 128 f_17)] H := hP
        have hD : va_D A [(h0, kO10 h1 n0_size y_15 h2), (h1, kAi cint 120 f1), (h2, kO4 h3 y_16 h4 h5 n2_top), (h3, kAi cint 128 f_17)] := hD
        have t_14 : 0 ≤ r_14.toInt ∧ r_14.toInt ≤ 1 := hw
        refine lv_if_ne (tgt := 72) hx hb dX10_readChain_67 (by decide) (fun c_18 => ?_) (fun c_18 => ?_)
        · have t_18 : r_14.toInt ≠ 0 := kk_ne c_18
          refine lv_aload_n hx hb dX10_readChain_72 rfl (lv_at hl 2 rfl) ?_
          refine va_get (D := (dC, dI)) (ci := 10) (v := .ref h2) (C := RX10) (T := TX10) (N := 4) hx hb hts (fun _ h => List.mem_cons_of_mem _ (List.mem_append_left _ (List.mem_append_right _ h))) hown hK hP 0 rfl rfl 3 (by decide) (hts (.fieldLink RX10 20 "KinkStreet$Tape" "law" "LKinkStreet$Law;") (List.mem_of_getElem? (i := 2) rfl)) (fun _ h9 => h9) rfl dX10_readChain_73 ?_
          refine lv_iload hx hb dX10_readChain_76 (lv_at hl 0 rfl) ?_
          obtain ⟨hPc, hDc, hFc⟩ := kk_cutout (wc := [(h2, kO4 h3 y_16 h4 h5 n2_top), (h3, kAi cint 128 f_17)]) hP hD hS hA [2, 3] (by decide) rfl
          have hKc := kk_Ks (tq := [(cint, .int)]) hK [0] rfl
          refine va_callv (va_runV (As := [.int r_12]) (rest := []) ⟨hx, hb, hml, hown, hts⟩ (g_X4_append_0 l dC dI h2 h3 h4 h5 cint H.size r_12 y_16 n2_top f_17 (by show 0 ≤ (y_16 : Int32).toInt ∧ (y_16 : Int32).toInt ≤ 128; first | with_reducible assumption | ((omega))) tn2_top) (cwV 1 hts gX10_readChain_X4_append rfl rfl rfl ⟨rfl, kh_X4_append⟩ ⟨kk_rmF hF (Nat.le_of_ble_eq_true rfl), kk_rmM hL (Nat.le_of_ble_eq_true rfl)⟩) ⟨fun a U g mk q => by obtain ⟨q0, q1, qP, qK, qD⟩ := q; exact ⟨q0, q1, qP, va_K.moved (u := U) (U := U.calling g mk a) (Vm.Alike.refl U.vm) qK, qD⟩, va_recv hKc hPc (ci := 4) (q0 := 0) rfl rfl, fun U hU hW => ⟨rfl, by rw [hU], by rw [hU]; exact hPc, va_K.moved hW.alike hKc, hDc.weaken (fun _ _ _ _ => trivial)⟩⟩ rfl rfl hl.1 rfl (lv_room (Nat.le_of_ble_eq_true rfl)) dX10_readChain_78 ⟨Nat.le_of_ble_eq_true rfl, Nat.le_of_ble_eq_true rfl⟩) hS (fun q _ h => hFc q h) hFc (fun u t H1 locs ht hvm hw hB hz1 hk1 hS => ?_)
          refine hB.elim (fun y_20 hB => ?_)
          refine hB.elim (fun f_21 hB => ?_)
          refine hB.elim (fun by_20 hB => ?_)
          have hP1 := hB.1
          have hK1 := hB.2.1
          have hD1 := hB.2.2
          rw [ht] at hP1
          have hK1 := va_K.moved hvm.symm hK1
          obtain ⟨hP, hD⟩ := va_join (wr := [(h0, kO10 h1 n0_size y_15 h2), (h1, kAi cint 120 f1)]) (w1 := [(h2, kO4 h3 y_20 h4 h5 n2_top), (h3, kAi cint 128 f_21)]) hP hD [2, 3] [0, 1] rfl rfl (by decide) (by decide) hk1 hFc hP1 hD1
          generalize H1 = H at hP hS ⊢
          have hP : va_P (dC, dI) vwCl [(h0, kO10 h1 n0_size y_15 h2), (h1, kAi cint 120 f1), (h2, kO4 h3 y_20 h4 h5 n2_top), (h3, kAi cint 128 f_21)] H := hP
          have hD : va_D A [(h0, kO10 h1 n0_size y_15 h2), (h1, kAi cint 120 f1), (h2, kO4 h3 y_20 h4 h5 n2_top), (h3, kAi cint 128 f_21)] := hD
          refine lv_iload_n hx hb dX10_readChain_81 rfl (lv_at hl 3 rfl) ?_
          refine lv_iconst (v := 2) hx hb dX10_readChain_82 kk_ic_2 ?_
          refine lv_icmp_ne (tgt := 88) hx hb dX10_readChain_83 (by decide) (fun _ => ?_) (fun c => absurd c (by decide))
          refine lv_iinc (v := (i_7_0 + 1)) hx hb dX10_readChain_88 hl (k := 1) rfl (by first | rfl | decide) (by decide) (rfl : _ = ([(3, .int (i_7_0 + 1)), (4, .int r_12), (0, .ref h0), (1, .int 4), (2, .int p1)] : List (Nat × Value))) (fun ls hl => ?_)
          refine lv_goto (tgt := 26) hx hb dX10_readChain_91 (by decide) ?_
          try have := kk_add2 (x := i_7_0) (y := 1) (a := i_7_0.toInt) (b := 1) rfl rfl (by omega) (by omega)
          exact ih_7 ((i_7_0 + 1), y_15, y_20, f_21) _ _ _ (by show ((120 : Int) - ((i_7_0 + 1) : Int32).toInt).toNat < ((120 : Int) - i_7_0.toInt).toNat; exact kk_mu (by omega) (by omega)) ⟨(by show 0 ≤ ((i_7_0 + 1) : Int32).toInt ∧ ((i_7_0 + 1) : Int32).toInt ≤ 120; first | with_reducible assumption | ((omega))), (by show 0 ≤ (y_20 : Int32).toInt ∧ (y_20 : Int32).toInt ≤ 128; first | with_reducible assumption | ((omega))), hP, hD, hS, lv_sub hl [0, 2, 3, 4] rfl⟩
        · have t_18 : r_14.toInt = 0 := kk_eq c_18
          refine lv_iconst (v := 0) hx hb dX10_readChain_70 kk_ic_0 ?_
          obtain ⟨hP9, hD9⟩ := kk_leafout (wc := [(h0, kO10 h1 n0_size y_15 h2), (h1, kAi cint 120 f1), (h2, kO4 h3 y_16 h4 h5 n2_top), (h3, kAi cint 128 f_17)]) hP hD [0, 1, 2, 3] (by decide) rfl
          have hK9 := kk_Ks (tq := []) hK [] rfl
          exact W.zret (v := 0) hx hb hr rfl (fun t ht hW => ⟨⟨0, (), rfl, (by show 0 ≤ (0 : Int32).toInt ∧ (0 : Int32).toInt ≤ 1; first | with_reducible assumption | decide | ((omega))), y_15, y_16, f_17, (by show 0 ≤ (y_16 : Int32).toInt ∧ (y_16 : Int32).toInt ≤ 128; first | with_reducible assumption | ((omega))), by rw [ht]; exact hP9, va_K.moved hW.alike hK9, hD9⟩, hS.F ht⟩) hS.2.2 dX10_readChain_71
  · have t_6 : r_2.toInt = 0 := kk_eq c_6
    refine lv_iconst (v := 0) hx hb dX10_readChain_22 kk_ic_0 ?_
    obtain ⟨hP9, hD9⟩ := kk_leafout (wc := [(h0, kO10 h1 n0_size y_3 h2), (h1, kAi cint 120 f1), (h2, kO4 h3 y_4 h4 h5 n2_top), (h3, kAi cint 128 f_5)]) hP hD [0, 1, 2, 3] (by decide) rfl
    have hK9 := kk_Ks (tq := []) hK [] rfl
    exact W.zret (v := 0) hx hb hr rfl (fun t ht hW => ⟨⟨0, (), rfl, (by show 0 ≤ (0 : Int32).toInt ∧ (0 : Int32).toInt ≤ 1; first | with_reducible assumption | decide | ((omega))), y_3, y_4, f_5, (by show 0 ≤ (y_4 : Int32).toInt ∧ (y_4 : Int32).toInt ≤ 128; first | with_reducible assumption | ((omega))), by rw [ht]; exact hP9, va_K.moved hW.alike hK9, hD9⟩, hS.F ht⟩) hS.2.2 dX10_readChain_23
set_option maxHeartbeats 4000000 in
set_option maxRecDepth 100000 in
theorem s_X10_readChain_3 (l : Launch) (F L : Nat) (hF : 10 ≤ F) (hL : 200 ≤ L) (rk : Int) (F0 L0 : Nat) (hF0 : F0 ≤ F) (hL0 : L0 ≤ L) (ih0 : ka_X10_readChain_4 l F0 L0 rk) (dC : Nat → ClassId) (dI : Nat → Nat → Nat) (h0 : Nat) (h1 : Nat) (h2 : Nat) (h3 : Nat) (h4 : Nat) (h5 : Nat) (cint : ClassId) (sz : Nat) (p1 : Int32) (tp1 : 0 ≤ p1.toInt ∧ p1.toInt ≤ 6) (n0_size : Int32) (n0_place : Int32) (f1 : Nat → Int32) (n2_size : Int32) (n2_top : Int32) (f3 : Nat → Int32) (tn0_size : kk_bx (0 ≤ n0_size.toInt ∧ n0_size.toInt ≤ 120)) (bf1 : ∀ j, j < 120 → 0 ≤ (f1 j).toInt ∧ (f1 j).toInt ≤ 255) (tn2_size : kk_bx (0 ≤ n2_size.toInt ∧ n2_size.toInt ≤ 128)) (tn2_top : kk_bx (0 ≤ n2_top.toInt ∧ n2_top.toInt ≤ 64)) (pr0 : (6 ≤ p1.toInt + rk)) (aNAMES : Nat) : Met l yX10_readChain wsX10_readChain ({ frames := F + 1, cells := 0, slots := 0, locals := L + 24 }) (va_Pc [.ref h0, .int 3, .int p1] (fun U => U.heap.size = sz ∧ va_P (dC, dI) vwCl [(h0, kO10 h1 n0_size n0_place h2), (h1, kAi cint 120 f1), (h2, kO4 h3 n2_size h4 h5 n2_top), (h3, kAi cint 128 f3)] U.heap ∧ va_K (dC, dI) vwCl [(cint, .int)] U ∧ va_D (fun _ => True) [(h0, kO10 h1 n0_size n0_place h2), (h1, kAi cint 120 f1), (h2, kO4 h3 n2_size h4 h5 n2_top), (h3, kAi cint 128 f3)] ∧ va_Z "KinkStreet$Law" "NAMES" "[C" (.ref aNAMES) (va_A [(h0, kO10 h1 n0_size n0_place h2), (h1, kAi cint 120 f1), (h2, kO4 h3 n2_size h4 h5 n2_top), (h3, kAi cint 128 f3)] sz) U U.heap ∧ va_T .char aNAMES 8 tb_NAMES (va_A [(h0, kO10 h1 n0_size n0_place h2), (h1, kAi cint 120 f1), (h2, kO4 h3 n2_size h4 h5 n2_top), (h3, kAi cint 128 f3)] sz) U U.heap)) (va_Qi (fun (r : Int32) (_ : Unit) => (0 ≤ r.toInt ∧ r.toInt ≤ 1)) (fun (_ : Unit) t => ∃ (m0_place : Int32) (m2_size : Int32) (g3 : Nat → Int32), (0 ≤ m2_size.toInt ∧ m2_size.toInt ≤ 128) ∧ va_P (dC, dI) vwCl [(h0, kO10 h1 n0_size m0_place h2), (h1, kAi cint 120 f1), (h2, kO4 h3 m2_size h4 h5 n2_top), (h3, kAi cint 128 g3)] t.heap ∧ va_K (dC, dI) vwCl [] t ∧ va_D (va_A [(h0, kO10 h1 n0_size n0_place h2), (h1, kAi cint 120 f1), (h2, kO4 h3 n2_size h4 h5 n2_top), (h3, kAi cint 128 f3)] sz) [(h0, kO10 h1 n0_size m0_place h2), (h1, kAi cint 120 f1), (h2, kO4 h3 m2_size h4 h5 n2_top), (h3, kAi cint 128 g3)]) (va_A [(h0, kO10 h1 n0_size n0_place h2), (h1, kAi cint 120 f1), (h2, kO4 h3 n2_size h4 h5 n2_top), (h3, kAi cint 128 f3)] sz)) 0 0 (va_A [(h0, kO10 h1 n0_size n0_place h2), (h1, kAi cint 120 f1), (h2, kO4 h3 n2_size h4 h5 n2_top), (h3, kAi cint 128 f3)] sz) := by
  refine Met.ofW (cc := cX10_readChain) (maxL := 5) (ret := (some .boolean)) (by decide) rfl ?_
  intro p e s m args below meth c s₁ B hml hv
  obtain ⟨rfl, hsz, hP, hK, hD0, hZNAMES, hTNAMES⟩ := hv
  have hx := B.exec
  have hb := B.bytes
  have hr := B.returns
  have hts := atoms_spec (ws := wsX10_readChain) B.pre
  have hown : s.vm.findClass RX10 = some m.cls := findClass_of_methodNamed B.named
  have hlocks := B.notSynchronized
  subst hsz
  have hD := hD0.self (sz := s.heap.size)
  generalize hAe : va_A [(h0, kO10 h1 n0_size n0_place h2), (h1, kAi cint 120 f1), (h2, kO4 h3 n2_size h4 h5 n2_top), (h3, kAi cint 128 f3)] s.heap.size = A at hD hZNAMES hTNAMES ⊢
  have hA : ∀ q : Nat, s.heap.size ≤ q → A q := fun q h => by rw [← hAe]; exact Or.inr h
  have hS : va_S A s.heap s.heap [] := va_S.rf
  have hP : va_P (dC, dI) vwCl [(h0, kO10 h1 n0_size n0_place h2), (h1, kAi cint 120 f1), (h2, kO4 h3 n2_size h4 h5 n2_top), (h3, kAi cint 128 f3)] s.heap := hP
  have hl := lv_entry ([.ref h0, .int 3, .int p1]) (n := 5) (Nat.le_of_ble_eq_true rfl)
  rw [lg_entry_eq]
  generalize (lg_sl ([.ref h0, .int 3, .int p1]) ++ List.replicate (5 - (lg_sl ([.ref h0, .int 3, .int p1])).length) Slot.unset).toArray = ls at hl ⊢
  have hl : lv_has ls 5 [(0, .ref h0), (1, .int 3), (2, .int p1)] := hl
  refine lv_iload_n hx hb dX10_readChain_0 rfl (lv_at hl 1 rfl) ?_
  refine lv_iconst (v := 5) hx hb dX10_readChain_1 kk_ic_5 ?_
  refine lv_icmp_lt (tgt := 11) hx hb dX10_readChain_2 (by decide) (fun _ => ?_) (fun c => absurd c (by decide))
  refine lv_aload_n hx hb dX10_readChain_11 rfl (lv_at hl 0 rfl) ?_
  refine lv_iload_n hx hb dX10_readChain_12 rfl (lv_at hl 1 rfl) ?_
  refine lv_iconst (v := 1) hx hb dX10_readChain_13 kk_ic_1 ?_
  refine lv_iadd hx hb dX10_readChain_14 ?_
  refine lv_topi (fun y_1 e_1 => ?_)
  obtain rfl : y_1 = 4 := e_1.trans (by decide)
  refine lv_iload_n hx hb dX10_readChain_15 rfl (lv_at hl 2 rfl) ?_
  obtain ⟨hPc, hDc, hFc⟩ := kk_cutout (wc := [(h0, kO10 h1 n0_size n0_place h2), (h1, kAi cint 120 f1), (h2, kO4 h3 n2_size h4 h5 n2_top), (h3, kAi cint 128 f3)]) hP hD hS hA [0, 1, 2, 3] (by decide) rfl
  have hKc := kk_Ks (tq := [(cint, .int)]) hK [0] rfl
  refine va_calli (va_runV (As := [.int 4, .int p1]) (rest := []) ⟨hx, hb, hml, hown, hts⟩ (ih0 dC dI h0 h1 h2 h3 h4 h5 cint s.heap.size p1 tp1 n0_size n0_place f1 n2_size n2_top f3 tn0_size bf1 tn2_size tn2_top (by show (6 ≤ (p1 : Int32).toInt + rk); first | with_reducible assumption | (omega)) aNAMES) (cwV 2 hts gX10_readChain_X10_readChain rfl rfl rfl ⟨rfl, kh_X10_readChain⟩ ⟨Nat.add_le_add_right hF0 1, kk_rmL hL0 (Nat.le_of_ble_eq_true rfl)⟩) ⟨fun a U g mk q => by obtain ⟨q0, q1, qP, qK, qD, qx0, qx1⟩ := q; exact ⟨q0, q1, qP, va_K.moved (u := U) (U := U.calling g mk a) (Vm.Alike.refl U.vm) qK, qD, va_Z.moved (u := U) (U := U.calling g mk a) (Vm.Alike.refl U.vm) qx0, va_T.moved (u := U) (U := U.calling g mk a) (Vm.Alike.refl U.vm) qx1⟩, va_recv hKc hPc (ci := 10) (q0 := 0) rfl rfl, fun U hU hW => ⟨rfl, by rw [hU], by rw [hU]; exact hPc, va_K.moved hW.alike hKc, hDc.weaken (fun _ _ _ _ => trivial), by rw [hU]; exact ((hZNAMES.kept (fun a h1 h2 => hS.2.1 a h1 h2)).narrow hFc).moved hW.alike, by rw [hU]; exact ((hTNAMES.kept (fun a h1 h2 => hS.2.1 a h1 h2)).narrow hFc).moved hW.alike⟩⟩ rfl rfl hl.1 rfl (lv_room (Nat.le_of_ble_eq_true rfl)) dX10_readChain_16 ⟨Nat.le_of_ble_eq_true rfl, Nat.le_of_ble_eq_true rfl⟩) hS (fun q _ h => hFc q h) hFc (fun r_2 u t H1 locs ht hvm hw hB hz1 hk1 hS => ?_)
  refine hB.elim (fun y_3 hB => ?_)
  refine hB.elim (fun y_4 hB => ?_)
  refine hB.elim (fun f_5 hB => ?_)
  refine hB.elim (fun by_4 hB => ?_)
  have hP1 := hB.1
  have hK1 := hB.2.1
  have hD1 := hB.2.2
  rw [ht] at hP1
  have hK1 := va_K.moved hvm.symm hK1
  obtain ⟨hP, hD⟩ := va_join (wr := []) (w1 := [(h0, kO10 h1 n0_size y_3 h2), (h1, kAi cint 120 f1), (h2, kO4 h3 y_4 h4 h5 n2_top), (h3, kAi cint 128 f_5)]) hP hD [0, 1, 2, 3] [] rfl rfl (by decide) (by decide) hk1 hFc hP1 hD1
  generalize H1 = H at hP hS ⊢
  have hP : va_P (dC, dI) vwCl [(h0, kO10 h1 n0_size y_3 h2), (h1, kAi cint 120 f1), (h2, kO4 h3 y_4 h4 h5 n2_top), (h3, kAi cint 128 f_5)] H := hP
  have hD : va_D A [(h0, kO10 h1 n0_size y_3 h2), (h1, kAi cint 120 f1), (h2, kO4 h3 y_4 h4 h5 n2_top), (h3, kAi cint 128 f_5)] := hD
  have t_2 : 0 ≤ r_2.toInt ∧ r_2.toInt ≤ 1 := hw
  refine lv_if_ne (tgt := 24) hx hb dX10_readChain_19 (by decide) (fun c_6 => ?_) (fun c_6 => ?_)
  · have t_6 : r_2.toInt ≠ 0 := kk_ne c_6
    refine lv_iconst (v := 0) hx hb dX10_readChain_24 kk_ic_0 ?_
    refine lv_istore_n hx hb dX10_readChain_25 rfl hl (by decide) (rfl : _ = ([(3, .int 0), (0, .ref h0), (1, .int 3), (2, .int p1)] : List (Nat × Value))) (fun ls hl => ?_)
    refine kk_loop (σ := Int32 × Int32 × Int32 × (Nat → Int32)) (fun x H locs ls => (0 ≤ x.1.toInt ∧ x.1.toInt ≤ 120) ∧ (0 ≤ x.2.2.1.toInt ∧ x.2.2.1.toInt ≤ 128) ∧ va_P (dC, dI) vwCl [(h0, kO10 h1 n0_size x.2.1 h2), (h1, kAi cint 120 f1), (h2, kO4 h3 x.2.2.1 h4 h5 n2_top), (h3, kAi cint 128 x.2.2.2)] H ∧ va_D A [(h0, kO10 h1 n0_size x.2.1 h2), (h1, kAi cint 120 f1), (h2, kO4 h3 x.2.2.1 h4 h5 n2_top), (h3, kAi cint 128 x.2.2.2)] ∧ va_S A s.heap H locs ∧ lv_has ls 5 [(3, .int x.1), (0, .ref h0), (1, .int 3), (2, .int p1)]) (fun x => ((120 : Int) - x.1.toInt).toNat) ?_ (0, y_3, y_4, f_5) _ _ _ ⟨(by show 0 ≤ (0 : Int32).toInt ∧ (0 : Int32).toInt ≤ 120; first | with_reducible assumption | decide | ((omega))), (by show 0 ≤ (y_4 : Int32).toInt ∧ (y_4 : Int32).toInt ≤ 128; first | with_reducible assumption | ((omega))), hP, hD, hS, hl⟩
    rintro ⟨i_7_0, i_7_1, i_7_2, f_7_3⟩ H locs ls ⟨t_7_0, t_7_2, hP, hD, hS, hl⟩ ih_7
    have t_7_0 : (0 ≤ i_7_0.toInt ∧ i_7_0.toInt ≤ 120) := t_7_0
    have t_7_2 : (0 ≤ i_7_2.toInt ∧ i_7_2.toInt ≤ 128) := t_7_2
    have hl : lv_has ls 5 [(3, .int i_7_0), (0, .ref h0), (1, .int 3), (2, .int p1)] := hl
    have hP : va_P (dC, dI) vwCl [(h0, kO10 h1 n0_size i_7_1 h2), (h1, kAi cint 120 f1), (h2, kO4 h3 i_7_2 h4 h5 n2_top), (h3, kAi cint 128 f_7_3)] H := hP
    have hD : va_D A [(h0, kO10 h1 n0_size i_7_1 h2), (h1, kAi cint 120 f1), (h2, kO4 h3 i_7_2 h4 h5 n2_top), (h3, kAi cint 128 f_7_3)] := hD
    refine lv_iload_n hx hb dX10_readChain_26 rfl (lv_at hl 0 rfl) ?_
    refine lv_bipush (v := 120) hx hb dX10_readChain_27 kk_bi_120 ?_
    refine lv_icmp_ge (tgt := 94) hx hb dX10_readChain_29 (by decide) (fun c_8 => ?_) (fun c_8 => ?_)
    · have t_8 : 120 ≤ i_7_0.toInt := kk_le c_8
      refine lv_iconst (v := 1) hx hb dX10_readChain_94 kk_ic_1 ?_
      obtain ⟨hP9, hD9⟩ := kk_leafout (wc := [(h0, kO10 h1 n0_size i_7_1 h2), (h1, kAi cint 120 f1), (h2, kO4 h3 i_7_2 h4 h5 n2_top), (h3, kAi cint 128 f_7_3)]) hP hD [0, 1, 2, 3] (by decide) rfl
      have hK9 := kk_Ks (tq := []) hK [] rfl
      exact W.zret (v := 1) hx hb hr rfl (fun t ht hW => ⟨⟨1, (), rfl, (by show 0 ≤ (1 : Int32).toInt ∧ (1 : Int32).toInt ≤ 1; first | with_reducible assumption | decide | ((omega))), i_7_1, i_7_2, f_7_3, (by show 0 ≤ (i_7_2 : Int32).toInt ∧ (i_7_2 : Int32).toInt ≤ 128; first | with_reducible assumption | ((omega))), by rw [ht]; exact hP9, va_K.moved hW.alike hK9, hD9⟩, hS.F ht⟩) hS.2.2 dX10_readChain_95
    · have t_8 : i_7_0.toInt < 120 := kk_nle c_8
      refine lv_iload_n hx hb dX10_readChain_32 rfl (lv_at hl 2 rfl) ?_
      refine lv_aload_n hx hb dX10_readChain_33 rfl (lv_at hl 1 rfl) ?_
      obtain ⟨hPc, hDc, hFc⟩ := kk_cutout (wc := [(h0, kO10 h1 n0_size i_7_1 h2), (h1, kAi cint 120 f1)]) hP hD hS hA [0, 1] (by decide) rfl
      have hKc := kk_Ks (tq := [(cint, .int)]) hK [0] rfl
      refine va_calli (va_runV (As := []) (rest := [.int 3]) ⟨hx, hb, hml, hown, hts⟩ (g_X10_next_0 l dC dI h0 h1 h2 cint H.size n0_size i_7_1 f1 tn0_size bf1) (cwV 0 hts gX10_readChain_X10_next rfl rfl rfl ⟨rfl, kh_X10_next⟩ ⟨kk_rmF hF (Nat.le_of_ble_eq_true rfl), kk_rmM hL (Nat.le_of_ble_eq_true rfl)⟩) ⟨fun a U g mk q => by obtain ⟨q0, q1, qP, qK, qD⟩ := q; exact ⟨q0, q1, qP, va_K.moved (u := U) (U := U.calling g mk a) (Vm.Alike.refl U.vm) qK, qD⟩, va_recv hKc hPc (ci := 10) (q0 := 0) rfl rfl, fun U hU hW => ⟨rfl, by rw [hU], by rw [hU]; exact hPc, va_K.moved hW.alike hKc, hDc.weaken (fun _ _ _ _ => trivial)⟩⟩ rfl rfl hl.1 rfl (lv_room (Nat.le_of_ble_eq_true rfl)) dX10_readChain_34 ⟨Nat.le_of_ble_eq_true rfl, Nat.le_of_ble_eq_true rfl⟩) hS (fun q _ h => hFc q h) hFc (fun r_9 u t H1 locs ht hvm hw hB hz1 hk1 hS => ?_)
      obtain ⟨hP1, hK1, hD1⟩ := hB
      rw [ht] at hP1
      have hK1 := va_K.moved hvm.symm hK1
      obtain ⟨hP, hD⟩ := va_join (wr := [(h2, kO4 h3 i_7_2 h4 h5 n2_top), (h3, kAi cint 128 f_7_3)]) (w1 := [(h0, kO10 h1 n0_size i_7_1 h2), (h1, kAi cint 120 f1)]) hP hD [0, 1] [2, 3] rfl rfl (by decide) (by decide) hk1 hFc hP1 hD1
      generalize H1 = H at hP hS ⊢
      have hP : va_P (dC, dI) vwCl [(h2, kO4 h3 i_7_2 h4 h5 n2_top), (h3, kAi cint 128 f_7_3), (h0, kO10 h1 n0_size i_7_1 h2), (h1, kAi cint 120 f1)] H := hP
      have hD : va_D A [(h2, kO4 h3 i_7_2 h4 h5 n2_top), (h3, kAi cint 128 f_7_3), (h0, kO10 h1 n0_size i_7_1 h2), (h1, kAi cint 120 f1)] := hD
      have t_9 : (-1) ≤ r_9.toInt ∧ r_9.toInt ≤ 255 := hw
      obtain ⟨hPc, hDc, hFc⟩ := kk_cutout (wc := []) hP hD hS hA [] (by decide) rfl
      have hKc := kk_Ks (tq := []) hK [] rfl
      refine va_calli (va_runS (As := [.int 3, .int r_9]) (rest := []) ⟨hx, hb, hml, hown, hts⟩ (g_X10_joins_1 l dC dI H.size r_9) (va_cwS 2 hts gX10_readChain_X10_joins rfl rfl rfl kh_X10_joins ⟨kk_rmF hF (Nat.le_of_ble_eq_true rfl), kk_rmM hL (Nat.le_of_ble_eq_true rfl)⟩) ⟨fun a U g mk q => by obtain ⟨q0, q1, qP, qK, qD⟩ := q; exact ⟨q0, q1, qP, va_K.moved (u := U) (U := U.calling g mk a) (Vm.Alike.refl U.vm) qK, qD⟩, fun U hU hW => ⟨rfl, by rw [hU], by rw [hU]; exact hPc, va_K.moved hW.alike hKc, hDc.weaken (fun _ _ _ _ => trivial)⟩⟩ rfl rfl hl.1 rfl (lv_room (Nat.le_of_ble_eq_true rfl)) dX10_readChain_37 ⟨Nat.le_of_ble_eq_true rfl, Nat.le_of_ble_eq_true rfl⟩) hS (fun q _ h => hFc q h) hFc (fun r_10 u t H1 locs ht hvm hw hB hz1 hk1 hS => ?_)
      obtain ⟨hP1, hK1, hD1⟩ := hB
      rw [ht] at hP1
      have hK1 := va_K.moved hvm.symm hK1
      obtain ⟨hP, hD⟩ := va_join (wr := [(h2, kO4 h3 i_7_2 h4 h5 n2_top), (h3, kAi cint 128 f_7_3), (h0, kO10 h1 n0_size i_7_1 h2), (h1, kAi cint 120 f1)]) (w1 := []) hP hD [] [0, 1, 2, 3] rfl rfl (by decide) (by decide) hk1 hFc hP1 hD1
      generalize H1 = H at hP hS ⊢
      have hP : va_P (dC, dI) vwCl [(h2, kO4 h3 i_7_2 h4 h5 n2_top), (h3, kAi cint 128 f_7_3), (h0, kO10 h1 n0_size i_7_1 h2), (h1, kAi cint 120 f1)] H := hP
      have hD : va_D A [(h2, kO4 h3 i_7_2 h4 h5 n2_top), (h3, kAi cint 128 f_7_3), (h0, kO10 h1 n0_size i_7_1 h2), (h1, kAi cint 120 f1)] := hD
      have t_10 : 0 ≤ r_10.toInt ∧ r_10.toInt ≤ 1 := hw
      refine lv_if_eq (tgt := 94) hx hb dX10_readChain_40 (by decide) (fun c_11 => ?_) (fun c_11 => ?_)
      · have t_11 : r_10.toInt = 0 := kk_eq c_11
        refine lv_iconst (v := 1) hx hb dX10_readChain_94 kk_ic_1 ?_
        obtain ⟨hP9, hD9⟩ := kk_leafout (wc := [(h0, kO10 h1 n0_size i_7_1 h2), (h1, kAi cint 120 f1), (h2, kO4 h3 i_7_2 h4 h5 n2_top), (h3, kAi cint 128 f_7_3)]) hP hD [2, 3, 0, 1] (by decide) rfl
        have hK9 := kk_Ks (tq := []) hK [] rfl
        exact W.zret (v := 1) hx hb hr rfl (fun t ht hW => ⟨⟨1, (), rfl, (by show 0 ≤ (1 : Int32).toInt ∧ (1 : Int32).toInt ≤ 1; first | with_reducible assumption | decide | ((omega))), i_7_1, i_7_2, f_7_3, (by show 0 ≤ (i_7_2 : Int32).toInt ∧ (i_7_2 : Int32).toInt ≤ 128; first | with_reducible assumption | ((omega))), by rw [ht]; exact hP9, va_K.moved hW.alike hK9, hD9⟩, hS.F ht⟩) hS.2.2 dX10_readChain_95
      · have t_11 : r_10.toInt ≠ 0 := kk_ne c_11
        refine lv_aload_n hx hb dX10_readChain_43 rfl (lv_at hl 1 rfl) ?_
        obtain ⟨hPc, hDc, hFc⟩ := kk_cutout (wc := [(h0, kO10 h1 n0_size i_7_1 h2), (h1, kAi cint 120 f1)]) hP hD hS hA [2, 3] (by decide) rfl
        have hKc := kk_Ks (tq := [(cint, .int)]) hK [0] rfl
        refine va_calli (va_runV (As := []) (rest := []) ⟨hx, hb, hml, hown, hts⟩ (g_X10_next_0 l dC dI h0 h1 h2 cint H.size n0_size i_7_1 f1 tn0_size bf1) (cwV 0 hts gX10_readChain_X10_next rfl rfl rfl ⟨rfl, kh_X10_next⟩ ⟨kk_rmF hF (Nat.le_of_ble_eq_true rfl), kk_rmM hL (Nat.le_of_ble_eq_true rfl)⟩) ⟨fun a U g mk q => by obtain ⟨q0, q1, qP, qK, qD⟩ := q; exact ⟨q0, q1, qP, va_K.moved (u := U) (U := U.calling g mk a) (Vm.Alike.refl U.vm) qK, qD⟩, va_recv hKc hPc (ci := 10) (q0 := 0) rfl rfl, fun U hU hW => ⟨rfl, by rw [hU], by rw [hU]; exact hPc, va_K.moved hW.alike hKc, hDc.weaken (fun _ _ _ _ => trivial)⟩⟩ rfl rfl hl.1 rfl (lv_room (Nat.le_of_ble_eq_true rfl)) dX10_readChain_44 ⟨Nat.le_of_ble_eq_true rfl, Nat.le_of_ble_eq_true rfl⟩) hS (fun q _ h => hFc q h) hFc (fun r_12 u t H1 locs ht hvm hw hB hz1 hk1 hS => ?_)
        obtain ⟨hP1, hK1, hD1⟩ := hB
        rw [ht] at hP1
        have hK1 := va_K.moved hvm.symm hK1
        obtain ⟨hP, hD⟩ := va_join (wr := [(h2, kO4 h3 i_7_2 h4 h5 n2_top), (h3, kAi cint 128 f_7_3)]) (w1 := [(h0, kO10 h1 n0_size i_7_1 h2), (h1, kAi cint 120 f1)]) hP hD [2, 3] [0, 1] rfl rfl (by decide) (by decide) hk1 hFc hP1 hD1
        generalize H1 = H at hP hS ⊢
        have hP : va_P (dC, dI) vwCl [(h2, kO4 h3 i_7_2 h4 h5 n2_top), (h3, kAi cint 128 f_7_3), (h0, kO10 h1 n0_size i_7_1 h2), (h1, kAi cint 120 f1)] H := hP
        have hD : va_D A [(h2, kO4 h3 i_7_2 h4 h5 n2_top), (h3, kAi cint 128 f_7_3), (h0, kO10 h1 n0_size i_7_1 h2), (h1, kAi cint 120 f1)] := hD
        have t_12 : (-1) ≤ r_12.toInt ∧ r_12.toInt ≤ 255 := hw
        refine lv_istore hx hb dX10_readChain_47 hl (by decide) (rfl : _ = ([(4, .int r_12), (3, .int i_7_0), (0, .ref h0), (1, .int 3), (2, .int p1)] : List (Nat × Value))) (fun ls hl => ?_)
        refine lv_aload_n hx hb dX10_readChain_49 rfl (lv_at hl 2 rfl) ?_
        refine lv_dup hx hb dX10_readChain_50 rfl ?_
        refine va_get (D := (dC, dI)) (ci := 10) (v := .int i_7_1) (C := RX10) (T := TX10) (N := 4) hx hb hts (fun _ h => List.mem_cons_of_mem _ (List.mem_append_left _ (List.mem_append_right _ h))) hown hK hP 2 rfl rfl 2 (by decide) (hts (.fieldLink RX10 17 "KinkStreet$Tape" "place" "I") (List.mem_of_getElem? (i := 1) rfl)) (fun _ h9 => h9) rfl dX10_readChain_51 ?_
        refine lv_iconst (v := 1) hx hb dX10_readChain_54 kk_ic_1 ?_
        refine lv_iadd hx hb dX10_readChain_55 ?_
        refine va_put (D := (dC, dI)) (ci := 10) (v := .int (i_7_1 + 1)) (ty := .int) (C := RX10) (T := TX10) (N := 4) hx hb hts (fun _ h => List.mem_cons_of_mem _ (List.mem_append_left _ (List.mem_append_right _ h))) tyX10 tyX10_ok nmX10 hown hK hP hD hS 2 rfl rfl 2 (by decide) (hts (.fieldLink RX10 17 "KinkStreet$Tape" "place" "I") (List.mem_of_getElem? (i := 1) rfl)) (fun _ h9 => h9) rfl (by decide +kernel) rfl rfl (Nat.le_of_ble_eq_true rfl) dX10_readChain_56 (fun H locs hP hD hS => ?_)
        have hP : va_P (dC, dI) vwCl [(h2, kO4 h3 i_7_2 h4 h5 n2_top), (h3, kAi cint 128 f_7_3), (h0, kO10 h1 n0_size (i_7_1 + 1) h2), (h1, kAi cint 120 f1)] H := hP
        have hD : va_D A [(h2, kO4 h3 i_7_2 h4 h5 n2_top), (h3, kAi cint 128 f_7_3), (h0, kO10 h1 n0_size (i_7_1 + 1) h2), (h1, kAi cint 120 f1)] := hD
        refine lv_aload_n hx hb dX10_readChain_59 rfl (lv_at hl 2 rfl) ?_
        refine lv_iload_n hx hb dX10_readChain_60 rfl (lv_at hl 3 rfl) ?_
        refine lv_iconst (v := 1) hx hb dX10_readChain_61 kk_ic_1 ?_
        refine lv_iadd hx hb dX10_readChain_62 ?_
        refine lv_topi (fun y_13 e_13 => ?_)
        obtain rfl : y_13 = 4 := e_13.trans (by decide)
        refine lv_iload_n hx hb dX10_readChain_63 rfl (lv_at hl 4 rfl) ?_
        obtain ⟨hPc, hDc, hFc⟩ := kk_cutout (wc := [(h0, kO10 h1 n0_size (i_7_1 + 1) h2), (h1, kAi cint 120 f1), (h2, kO4 h3 i_7_2 h4 h5 n2_top), (h3, kAi cint 128 f_7_3)]) hP hD hS hA [2, 3, 0, 1] (by decide) rfl
        have hKc := kk_Ks (tq := [(cint, .int)]) hK [0] rfl
        refine va_calli (va_runV (As := [.int 4, .int p1]) (rest := []) ⟨hx, hb, hml, hown, hts⟩ (ih0 dC dI h0 h1 h2 h3 h4 h5 cint H.size p1 tp1 n0_size (i_7_1 + 1) f1 i_7_2 n2_top f_7_3 tn0_size bf1 (by show 0 ≤ (i_7_2 : Int32).toInt ∧ (i_7_2 : Int32).toInt ≤ 128; first | with_reducible assumption | ((omega))) tn2_top (by show (6 ≤ (p1 : Int32).toInt + rk); first | with_reducible assumption | (omega)) aNAMES) (cwV 2 hts gX10_readChain_X10_readChain rfl rfl rfl ⟨rfl, kh_X10_readChain⟩ ⟨Nat.add_le_add_right hF0 1, kk_rmL hL0 (Nat.le_of_ble_eq_true rfl)⟩) ⟨fun a U g mk q => by obtain ⟨q0, q1, qP, qK, qD, qx0, qx1⟩ := q; exact ⟨q0, q1, qP, va_K.moved (u := U) (U := U.calling g mk a) (Vm.Alike.refl U.vm) qK, qD, va_Z.moved (u := U) (U := U.calling g mk a) (Vm.Alike.refl U.vm) qx0, va_T.moved (u := U) (U := U.calling g mk a) (Vm.Alike.refl U.vm) qx1⟩, va_recv hKc hPc (ci := 10) (q0 := 0) rfl rfl, fun U hU hW => ⟨rfl, by rw [hU], by rw [hU]; exact hPc, va_K.moved hW.alike hKc, hDc.weaken (fun _ _ _ _ => trivial), by rw [hU]; exact ((hZNAMES.kept (fun a h1 h2 => hS.2.1 a h1 h2)).narrow hFc).moved hW.alike, by rw [hU]; exact ((hTNAMES.kept (fun a h1 h2 => hS.2.1 a h1 h2)).narrow hFc).moved hW.alike⟩⟩ rfl rfl hl.1 rfl (lv_room (Nat.le_of_ble_eq_true rfl)) dX10_readChain_64 ⟨Nat.le_of_ble_eq_true rfl, Nat.le_of_ble_eq_true rfl⟩) hS (fun q _ h => hFc q h) hFc (fun r_14 u t H1 locs ht hvm hw hB hz1 hk1 hS => ?_)
        refine hB.elim (fun y_15 hB => ?_)
        refine hB.elim (fun y_16 hB => ?_)
        refine hB.elim (fun f_17 hB => ?_)
        refine hB.elim (fun by_16 hB => ?_)
        have hP1 := hB.1
        have hK1 := hB.2.1
        have hD1 := hB.2.2
        rw [ht] at hP1
        have hK1 := va_K.moved hvm.symm hK1
        obtain ⟨hP, hD⟩ := va_join (wr := []) (w1 := [(h0, kO10 h1 n0_size y_15 h2), (h1, kAi cint 120 f1), (h2, kO4 h3 y_16 h4 h5 n2_top), (h3, kAi cint 128 f_17)]) hP hD [2, 3, 0, 1] [] rfl rfl (by decide) (by decide) hk1 hFc hP1 hD1
        generalize H1 = H at hP hS ⊢
        have hP : va_P (dC, dI) vwCl [(h0, kO10 h1 n0_size y_15 h2), (h1, kAi cint 120 f1), (h2, kO4 h3 y_16 h4 h5 n2_top), (h3, kAi cint 128 f_17)] H := hP
        have hD : va_D A [(h0, kO10 h1 n0_size y_15 h2), (h1, kAi cint 120 f1), (h2, kO4 h3 y_16 h4 h5 n2_top), (h3, kAi cint 128 f_17)] := hD
        have t_14 : 0 ≤ r_14.toInt ∧ r_14.toInt ≤ 1 := hw
        refine lv_if_ne (tgt := 72) hx hb dX10_readChain_67 (by decide) (fun c_18 => ?_) (fun c_18 => ?_)
        · have t_18 : r_14.toInt ≠ 0 := kk_ne c_18
          refine lv_aload_n hx hb dX10_readChain_72 rfl (lv_at hl 2 rfl) ?_
          refine va_get (D := (dC, dI)) (ci := 10) (v := .ref h2) (C := RX10) (T := TX10) (N := 4) hx hb hts (fun _ h => List.mem_cons_of_mem _ (List.mem_append_left _ (List.mem_append_right _ h))) hown hK hP 0 rfl rfl 3 (by decide) (hts (.fieldLink RX10 20 "KinkStreet$Tape" "law" "LKinkStreet$Law;") (List.mem_of_getElem? (i := 2) rfl)) (fun _ h9 => h9) rfl dX10_readChain_73 ?_
          refine lv_iload hx hb dX10_readChain_76 (lv_at hl 0 rfl) ?_
          obtain ⟨hPc, hDc, hFc⟩ := kk_cutout (wc := [(h2, kO4 h3 y_16 h4 h5 n2_top), (h3, kAi cint 128 f_17)]) hP hD hS hA [2, 3] (by decide) rfl
          have hKc := kk_Ks (tq := [(cint, .int)]) hK [0] rfl
          refine va_callv (va_runV (As := [.int r_12]) (rest := []) ⟨hx, hb, hml, hown, hts⟩ (g_X4_append_0 l dC dI h2 h3 h4 h5 cint H.size r_12 y_16 n2_top f_17 (by show 0 ≤ (y_16 : Int32).toInt ∧ (y_16 : Int32).toInt ≤ 128; first | with_reducible assumption | ((omega))) tn2_top) (cwV 1 hts gX10_readChain_X4_append rfl rfl rfl ⟨rfl, kh_X4_append⟩ ⟨kk_rmF hF (Nat.le_of_ble_eq_true rfl), kk_rmM hL (Nat.le_of_ble_eq_true rfl)⟩) ⟨fun a U g mk q => by obtain ⟨q0, q1, qP, qK, qD⟩ := q; exact ⟨q0, q1, qP, va_K.moved (u := U) (U := U.calling g mk a) (Vm.Alike.refl U.vm) qK, qD⟩, va_recv hKc hPc (ci := 4) (q0 := 0) rfl rfl, fun U hU hW => ⟨rfl, by rw [hU], by rw [hU]; exact hPc, va_K.moved hW.alike hKc, hDc.weaken (fun _ _ _ _ => trivial)⟩⟩ rfl rfl hl.1 rfl (lv_room (Nat.le_of_ble_eq_true rfl)) dX10_readChain_78 ⟨Nat.le_of_ble_eq_true rfl, Nat.le_of_ble_eq_true rfl⟩) hS (fun q _ h => hFc q h) hFc (fun u t H1 locs ht hvm hw hB hz1 hk1 hS => ?_)
          refine hB.elim (fun y_20 hB => ?_)
          refine hB.elim (fun f_21 hB => ?_)
          refine hB.elim (fun by_20 hB => ?_)
          have hP1 := hB.1
          have hK1 := hB.2.1
          have hD1 := hB.2.2
          rw [ht] at hP1
          have hK1 := va_K.moved hvm.symm hK1
          obtain ⟨hP, hD⟩ := va_join (wr := [(h0, kO10 h1 n0_size y_15 h2), (h1, kAi cint 120 f1)]) (w1 := [(h2, kO4 h3 y_20 h4 h5 n2_top), (h3, kAi cint 128 f_21)]) hP hD [2, 3] [0, 1] rfl rfl (by decide) (by decide) hk1 hFc hP1 hD1
          generalize H1 = H at hP hS ⊢
          have hP : va_P (dC, dI) vwCl [(h0, kO10 h1 n0_size y_15 h2), (h1, kAi cint 120 f1), (h2, kO4 h3 y_20 h4 h5 n2_top), (h3, kAi cint 128 f_21)] H := hP
          have hD : va_D A [(h0, kO10 h1 n0_size y_15 h2), (h1, kAi cint 120 f1), (h2, kO4 h3 y_20 h4 h5 n2_top), (h3, kAi cint 128 f_21)] := hD
          refine lv_iload_n hx hb dX10_readChain_81 rfl (lv_at hl 3 rfl) ?_
          refine lv_iconst (v := 2) hx hb dX10_readChain_82 kk_ic_2 ?_
          refine lv_icmp_ne (tgt := 88) hx hb dX10_readChain_83 (by decide) (fun _ => ?_) (fun c => absurd c (by decide))
          refine lv_iinc (v := (i_7_0 + 1)) hx hb dX10_readChain_88 hl (k := 1) rfl (by first | rfl | decide) (by decide) (rfl : _ = ([(3, .int (i_7_0 + 1)), (4, .int r_12), (0, .ref h0), (1, .int 3), (2, .int p1)] : List (Nat × Value))) (fun ls hl => ?_)
          refine lv_goto (tgt := 26) hx hb dX10_readChain_91 (by decide) ?_
          try have := kk_add2 (x := i_7_0) (y := 1) (a := i_7_0.toInt) (b := 1) rfl rfl (by omega) (by omega)
          exact ih_7 ((i_7_0 + 1), y_15, y_20, f_21) _ _ _ (by show ((120 : Int) - ((i_7_0 + 1) : Int32).toInt).toNat < ((120 : Int) - i_7_0.toInt).toNat; exact kk_mu (by omega) (by omega)) ⟨(by show 0 ≤ ((i_7_0 + 1) : Int32).toInt ∧ ((i_7_0 + 1) : Int32).toInt ≤ 120; first | with_reducible assumption | ((omega))), (by show 0 ≤ (y_20 : Int32).toInt ∧ (y_20 : Int32).toInt ≤ 128; first | with_reducible assumption | ((omega))), hP, hD, hS, lv_sub hl [0, 2, 3, 4] rfl⟩
        · have t_18 : r_14.toInt = 0 := kk_eq c_18
          refine lv_iconst (v := 0) hx hb dX10_readChain_70 kk_ic_0 ?_
          obtain ⟨hP9, hD9⟩ := kk_leafout (wc := [(h0, kO10 h1 n0_size y_15 h2), (h1, kAi cint 120 f1), (h2, kO4 h3 y_16 h4 h5 n2_top), (h3, kAi cint 128 f_17)]) hP hD [0, 1, 2, 3] (by decide) rfl
          have hK9 := kk_Ks (tq := []) hK [] rfl
          exact W.zret (v := 0) hx hb hr rfl (fun t ht hW => ⟨⟨0, (), rfl, (by show 0 ≤ (0 : Int32).toInt ∧ (0 : Int32).toInt ≤ 1; first | with_reducible assumption | decide | ((omega))), y_15, y_16, f_17, (by show 0 ≤ (y_16 : Int32).toInt ∧ (y_16 : Int32).toInt ≤ 128; first | with_reducible assumption | ((omega))), by rw [ht]; exact hP9, va_K.moved hW.alike hK9, hD9⟩, hS.F ht⟩) hS.2.2 dX10_readChain_71
  · have t_6 : r_2.toInt = 0 := kk_eq c_6
    refine lv_iconst (v := 0) hx hb dX10_readChain_22 kk_ic_0 ?_
    obtain ⟨hP9, hD9⟩ := kk_leafout (wc := [(h0, kO10 h1 n0_size y_3 h2), (h1, kAi cint 120 f1), (h2, kO4 h3 y_4 h4 h5 n2_top), (h3, kAi cint 128 f_5)]) hP hD [0, 1, 2, 3] (by decide) rfl
    have hK9 := kk_Ks (tq := []) hK [] rfl
    exact W.zret (v := 0) hx hb hr rfl (fun t ht hW => ⟨⟨0, (), rfl, (by show 0 ≤ (0 : Int32).toInt ∧ (0 : Int32).toInt ≤ 1; first | with_reducible assumption | decide | ((omega))), y_3, y_4, f_5, (by show 0 ≤ (y_4 : Int32).toInt ∧ (y_4 : Int32).toInt ≤ 128; first | with_reducible assumption | ((omega))), by rw [ht]; exact hP9, va_K.moved hW.alike hK9, hD9⟩, hS.F ht⟩) hS.2.2 dX10_readChain_23
set_option maxHeartbeats 4000000 in
set_option maxRecDepth 100000 in
theorem s_X10_readChain_2 (l : Launch) (F L : Nat) (hF : 10 ≤ F) (hL : 200 ≤ L) (rk : Int) (F0 L0 : Nat) (hF0 : F0 ≤ F) (hL0 : L0 ≤ L) (ih0 : ka_X10_readChain_3 l F0 L0 rk) (dC : Nat → ClassId) (dI : Nat → Nat → Nat) (h0 : Nat) (h1 : Nat) (h2 : Nat) (h3 : Nat) (h4 : Nat) (h5 : Nat) (cint : ClassId) (sz : Nat) (p1 : Int32) (tp1 : 0 ≤ p1.toInt ∧ p1.toInt ≤ 6) (n0_size : Int32) (n0_place : Int32) (f1 : Nat → Int32) (n2_size : Int32) (n2_top : Int32) (f3 : Nat → Int32) (tn0_size : kk_bx (0 ≤ n0_size.toInt ∧ n0_size.toInt ≤ 120)) (bf1 : ∀ j, j < 120 → 0 ≤ (f1 j).toInt ∧ (f1 j).toInt ≤ 255) (tn2_size : kk_bx (0 ≤ n2_size.toInt ∧ n2_size.toInt ≤ 128)) (tn2_top : kk_bx (0 ≤ n2_top.toInt ∧ n2_top.toInt ≤ 64)) (pr0 : (6 ≤ p1.toInt + rk)) (aNAMES : Nat) : Met l yX10_readChain wsX10_readChain ({ frames := F + 1, cells := 0, slots := 0, locals := L + 24 }) (va_Pc [.ref h0, .int 2, .int p1] (fun U => U.heap.size = sz ∧ va_P (dC, dI) vwCl [(h0, kO10 h1 n0_size n0_place h2), (h1, kAi cint 120 f1), (h2, kO4 h3 n2_size h4 h5 n2_top), (h3, kAi cint 128 f3)] U.heap ∧ va_K (dC, dI) vwCl [(cint, .int)] U ∧ va_D (fun _ => True) [(h0, kO10 h1 n0_size n0_place h2), (h1, kAi cint 120 f1), (h2, kO4 h3 n2_size h4 h5 n2_top), (h3, kAi cint 128 f3)] ∧ va_Z "KinkStreet$Law" "NAMES" "[C" (.ref aNAMES) (va_A [(h0, kO10 h1 n0_size n0_place h2), (h1, kAi cint 120 f1), (h2, kO4 h3 n2_size h4 h5 n2_top), (h3, kAi cint 128 f3)] sz) U U.heap ∧ va_T .char aNAMES 8 tb_NAMES (va_A [(h0, kO10 h1 n0_size n0_place h2), (h1, kAi cint 120 f1), (h2, kO4 h3 n2_size h4 h5 n2_top), (h3, kAi cint 128 f3)] sz) U U.heap)) (va_Qi (fun (r : Int32) (_ : Unit) => (0 ≤ r.toInt ∧ r.toInt ≤ 1)) (fun (_ : Unit) t => ∃ (m0_place : Int32) (m2_size : Int32) (g3 : Nat → Int32), (0 ≤ m2_size.toInt ∧ m2_size.toInt ≤ 128) ∧ va_P (dC, dI) vwCl [(h0, kO10 h1 n0_size m0_place h2), (h1, kAi cint 120 f1), (h2, kO4 h3 m2_size h4 h5 n2_top), (h3, kAi cint 128 g3)] t.heap ∧ va_K (dC, dI) vwCl [] t ∧ va_D (va_A [(h0, kO10 h1 n0_size n0_place h2), (h1, kAi cint 120 f1), (h2, kO4 h3 n2_size h4 h5 n2_top), (h3, kAi cint 128 f3)] sz) [(h0, kO10 h1 n0_size m0_place h2), (h1, kAi cint 120 f1), (h2, kO4 h3 m2_size h4 h5 n2_top), (h3, kAi cint 128 g3)]) (va_A [(h0, kO10 h1 n0_size n0_place h2), (h1, kAi cint 120 f1), (h2, kO4 h3 n2_size h4 h5 n2_top), (h3, kAi cint 128 f3)] sz)) 0 0 (va_A [(h0, kO10 h1 n0_size n0_place h2), (h1, kAi cint 120 f1), (h2, kO4 h3 n2_size h4 h5 n2_top), (h3, kAi cint 128 f3)] sz) := by
  refine Met.ofW (cc := cX10_readChain) (maxL := 5) (ret := (some .boolean)) (by decide) rfl ?_
  intro p e s m args below meth c s₁ B hml hv
  obtain ⟨rfl, hsz, hP, hK, hD0, hZNAMES, hTNAMES⟩ := hv
  have hx := B.exec
  have hb := B.bytes
  have hr := B.returns
  have hts := atoms_spec (ws := wsX10_readChain) B.pre
  have hown : s.vm.findClass RX10 = some m.cls := findClass_of_methodNamed B.named
  have hlocks := B.notSynchronized
  subst hsz
  have hD := hD0.self (sz := s.heap.size)
  generalize hAe : va_A [(h0, kO10 h1 n0_size n0_place h2), (h1, kAi cint 120 f1), (h2, kO4 h3 n2_size h4 h5 n2_top), (h3, kAi cint 128 f3)] s.heap.size = A at hD hZNAMES hTNAMES ⊢
  have hA : ∀ q : Nat, s.heap.size ≤ q → A q := fun q h => by rw [← hAe]; exact Or.inr h
  have hS : va_S A s.heap s.heap [] := va_S.rf
  have hP : va_P (dC, dI) vwCl [(h0, kO10 h1 n0_size n0_place h2), (h1, kAi cint 120 f1), (h2, kO4 h3 n2_size h4 h5 n2_top), (h3, kAi cint 128 f3)] s.heap := hP
  have hl := lv_entry ([.ref h0, .int 2, .int p1]) (n := 5) (Nat.le_of_ble_eq_true rfl)
  rw [lg_entry_eq]
  generalize (lg_sl ([.ref h0, .int 2, .int p1]) ++ List.replicate (5 - (lg_sl ([.ref h0, .int 2, .int p1])).length) Slot.unset).toArray = ls at hl ⊢
  have hl : lv_has ls 5 [(0, .ref h0), (1, .int 2), (2, .int p1)] := hl
  refine lv_iload_n hx hb dX10_readChain_0 rfl (lv_at hl 1 rfl) ?_
  refine lv_iconst (v := 5) hx hb dX10_readChain_1 kk_ic_5 ?_
  refine lv_icmp_lt (tgt := 11) hx hb dX10_readChain_2 (by decide) (fun _ => ?_) (fun c => absurd c (by decide))
  refine lv_aload_n hx hb dX10_readChain_11 rfl (lv_at hl 0 rfl) ?_
  refine lv_iload_n hx hb dX10_readChain_12 rfl (lv_at hl 1 rfl) ?_
  refine lv_iconst (v := 1) hx hb dX10_readChain_13 kk_ic_1 ?_
  refine lv_iadd hx hb dX10_readChain_14 ?_
  refine lv_topi (fun y_1 e_1 => ?_)
  obtain rfl : y_1 = 3 := e_1.trans (by decide)
  refine lv_iload_n hx hb dX10_readChain_15 rfl (lv_at hl 2 rfl) ?_
  obtain ⟨hPc, hDc, hFc⟩ := kk_cutout (wc := [(h0, kO10 h1 n0_size n0_place h2), (h1, kAi cint 120 f1), (h2, kO4 h3 n2_size h4 h5 n2_top), (h3, kAi cint 128 f3)]) hP hD hS hA [0, 1, 2, 3] (by decide) rfl
  have hKc := kk_Ks (tq := [(cint, .int)]) hK [0] rfl
  refine va_calli (va_runV (As := [.int 3, .int p1]) (rest := []) ⟨hx, hb, hml, hown, hts⟩ (ih0 dC dI h0 h1 h2 h3 h4 h5 cint s.heap.size p1 tp1 n0_size n0_place f1 n2_size n2_top f3 tn0_size bf1 tn2_size tn2_top (by show (6 ≤ (p1 : Int32).toInt + rk); first | with_reducible assumption | (omega)) aNAMES) (cwV 2 hts gX10_readChain_X10_readChain rfl rfl rfl ⟨rfl, kh_X10_readChain⟩ ⟨Nat.add_le_add_right hF0 1, kk_rmL hL0 (Nat.le_of_ble_eq_true rfl)⟩) ⟨fun a U g mk q => by obtain ⟨q0, q1, qP, qK, qD, qx0, qx1⟩ := q; exact ⟨q0, q1, qP, va_K.moved (u := U) (U := U.calling g mk a) (Vm.Alike.refl U.vm) qK, qD, va_Z.moved (u := U) (U := U.calling g mk a) (Vm.Alike.refl U.vm) qx0, va_T.moved (u := U) (U := U.calling g mk a) (Vm.Alike.refl U.vm) qx1⟩, va_recv hKc hPc (ci := 10) (q0 := 0) rfl rfl, fun U hU hW => ⟨rfl, by rw [hU], by rw [hU]; exact hPc, va_K.moved hW.alike hKc, hDc.weaken (fun _ _ _ _ => trivial), by rw [hU]; exact ((hZNAMES.kept (fun a h1 h2 => hS.2.1 a h1 h2)).narrow hFc).moved hW.alike, by rw [hU]; exact ((hTNAMES.kept (fun a h1 h2 => hS.2.1 a h1 h2)).narrow hFc).moved hW.alike⟩⟩ rfl rfl hl.1 rfl (lv_room (Nat.le_of_ble_eq_true rfl)) dX10_readChain_16 ⟨Nat.le_of_ble_eq_true rfl, Nat.le_of_ble_eq_true rfl⟩) hS (fun q _ h => hFc q h) hFc (fun r_2 u t H1 locs ht hvm hw hB hz1 hk1 hS => ?_)
  refine hB.elim (fun y_3 hB => ?_)
  refine hB.elim (fun y_4 hB => ?_)
  refine hB.elim (fun f_5 hB => ?_)
  refine hB.elim (fun by_4 hB => ?_)
  have hP1 := hB.1
  have hK1 := hB.2.1
  have hD1 := hB.2.2
  rw [ht] at hP1
  have hK1 := va_K.moved hvm.symm hK1
  obtain ⟨hP, hD⟩ := va_join (wr := []) (w1 := [(h0, kO10 h1 n0_size y_3 h2), (h1, kAi cint 120 f1), (h2, kO4 h3 y_4 h4 h5 n2_top), (h3, kAi cint 128 f_5)]) hP hD [0, 1, 2, 3] [] rfl rfl (by decide) (by decide) hk1 hFc hP1 hD1
  generalize H1 = H at hP hS ⊢
  have hP : va_P (dC, dI) vwCl [(h0, kO10 h1 n0_size y_3 h2), (h1, kAi cint 120 f1), (h2, kO4 h3 y_4 h4 h5 n2_top), (h3, kAi cint 128 f_5)] H := hP
  have hD : va_D A [(h0, kO10 h1 n0_size y_3 h2), (h1, kAi cint 120 f1), (h2, kO4 h3 y_4 h4 h5 n2_top), (h3, kAi cint 128 f_5)] := hD
  have t_2 : 0 ≤ r_2.toInt ∧ r_2.toInt ≤ 1 := hw
  refine lv_if_ne (tgt := 24) hx hb dX10_readChain_19 (by decide) (fun c_6 => ?_) (fun c_6 => ?_)
  · have t_6 : r_2.toInt ≠ 0 := kk_ne c_6
    refine lv_iconst (v := 0) hx hb dX10_readChain_24 kk_ic_0 ?_
    refine lv_istore_n hx hb dX10_readChain_25 rfl hl (by decide) (rfl : _ = ([(3, .int 0), (0, .ref h0), (1, .int 2), (2, .int p1)] : List (Nat × Value))) (fun ls hl => ?_)
    refine kk_loop (σ := Unit) (fun x H locs ls => va_P (dC, dI) vwCl [(h0, kO10 h1 n0_size y_3 h2), (h1, kAi cint 120 f1), (h2, kO4 h3 y_4 h4 h5 n2_top), (h3, kAi cint 128 f_5)] H ∧ va_D A [(h0, kO10 h1 n0_size y_3 h2), (h1, kAi cint 120 f1), (h2, kO4 h3 y_4 h4 h5 n2_top), (h3, kAi cint 128 f_5)] ∧ va_S A s.heap H locs ∧ lv_has ls 5 [(3, .int 0), (0, .ref h0), (1, .int 2), (2, .int p1)]) (fun x => 0) ?_ () _ _ _ ⟨hP, hD, hS, hl⟩
    rintro _ H locs ls ⟨hP, hD, hS, hl⟩ ih_7
    have hl : lv_has ls 5 [(3, .int 0), (0, .ref h0), (1, .int 2), (2, .int p1)] := hl
    have hP : va_P (dC, dI) vwCl [(h0, kO10 h1 n0_size y_3 h2), (h1, kAi cint 120 f1), (h2, kO4 h3 y_4 h4 h5 n2_top), (h3, kAi cint 128 f_5)] H := hP
    have hD : va_D A [(h0, kO10 h1 n0_size y_3 h2), (h1, kAi cint 120 f1), (h2, kO4 h3 y_4 h4 h5 n2_top), (h3, kAi cint 128 f_5)] := hD
    refine lv_iload_n hx hb dX10_readChain_26 rfl (lv_at hl 0 rfl) ?_
    refine lv_bipush (v := 120) hx hb dX10_readChain_27 kk_bi_120 ?_
    refine lv_icmp_ge (tgt := 94) hx hb dX10_readChain_29 (by decide) (fun c => absurd c (by decide)) (fun _ => ?_)
    refine lv_iload_n hx hb dX10_readChain_32 rfl (lv_at hl 2 rfl) ?_
    refine lv_aload_n hx hb dX10_readChain_33 rfl (lv_at hl 1 rfl) ?_
    obtain ⟨hPc, hDc, hFc⟩ := kk_cutout (wc := [(h0, kO10 h1 n0_size y_3 h2), (h1, kAi cint 120 f1)]) hP hD hS hA [0, 1] (by decide) rfl
    have hKc := kk_Ks (tq := [(cint, .int)]) hK [0] rfl
    refine va_calli (va_runV (As := []) (rest := [.int 2]) ⟨hx, hb, hml, hown, hts⟩ (g_X10_next_0 l dC dI h0 h1 h2 cint H.size n0_size y_3 f1 tn0_size bf1) (cwV 0 hts gX10_readChain_X10_next rfl rfl rfl ⟨rfl, kh_X10_next⟩ ⟨kk_rmF hF (Nat.le_of_ble_eq_true rfl), kk_rmM hL (Nat.le_of_ble_eq_true rfl)⟩) ⟨fun a U g mk q => by obtain ⟨q0, q1, qP, qK, qD⟩ := q; exact ⟨q0, q1, qP, va_K.moved (u := U) (U := U.calling g mk a) (Vm.Alike.refl U.vm) qK, qD⟩, va_recv hKc hPc (ci := 10) (q0 := 0) rfl rfl, fun U hU hW => ⟨rfl, by rw [hU], by rw [hU]; exact hPc, va_K.moved hW.alike hKc, hDc.weaken (fun _ _ _ _ => trivial)⟩⟩ rfl rfl hl.1 rfl (lv_room (Nat.le_of_ble_eq_true rfl)) dX10_readChain_34 ⟨Nat.le_of_ble_eq_true rfl, Nat.le_of_ble_eq_true rfl⟩) hS (fun q _ h => hFc q h) hFc (fun r_8 u t H1 locs ht hvm hw hB hz1 hk1 hS => ?_)
    obtain ⟨hP1, hK1, hD1⟩ := hB
    rw [ht] at hP1
    have hK1 := va_K.moved hvm.symm hK1
    obtain ⟨hP, hD⟩ := va_join (wr := [(h2, kO4 h3 y_4 h4 h5 n2_top), (h3, kAi cint 128 f_5)]) (w1 := [(h0, kO10 h1 n0_size y_3 h2), (h1, kAi cint 120 f1)]) hP hD [0, 1] [2, 3] rfl rfl (by decide) (by decide) hk1 hFc hP1 hD1
    generalize H1 = H at hP hS ⊢
    have hP : va_P (dC, dI) vwCl [(h2, kO4 h3 y_4 h4 h5 n2_top), (h3, kAi cint 128 f_5), (h0, kO10 h1 n0_size y_3 h2), (h1, kAi cint 120 f1)] H := hP
    have hD : va_D A [(h2, kO4 h3 y_4 h4 h5 n2_top), (h3, kAi cint 128 f_5), (h0, kO10 h1 n0_size y_3 h2), (h1, kAi cint 120 f1)] := hD
    have t_8 : (-1) ≤ r_8.toInt ∧ r_8.toInt ≤ 255 := hw
    obtain ⟨hPc, hDc, hFc⟩ := kk_cutout (wc := []) hP hD hS hA [] (by decide) rfl
    have hKc := kk_Ks (tq := []) hK [] rfl
    refine va_calli (va_runS (As := [.int 2, .int r_8]) (rest := []) ⟨hx, hb, hml, hown, hts⟩ (g_X10_joins_2 l dC dI H.size r_8) (va_cwS 2 hts gX10_readChain_X10_joins rfl rfl rfl kh_X10_joins ⟨kk_rmF hF (Nat.le_of_ble_eq_true rfl), kk_rmM hL (Nat.le_of_ble_eq_true rfl)⟩) ⟨fun a U g mk q => by obtain ⟨q0, q1, qP, qK, qD⟩ := q; exact ⟨q0, q1, qP, va_K.moved (u := U) (U := U.calling g mk a) (Vm.Alike.refl U.vm) qK, qD⟩, fun U hU hW => ⟨rfl, by rw [hU], by rw [hU]; exact hPc, va_K.moved hW.alike hKc, hDc.weaken (fun _ _ _ _ => trivial)⟩⟩ rfl rfl hl.1 rfl (lv_room (Nat.le_of_ble_eq_true rfl)) dX10_readChain_37 ⟨Nat.le_of_ble_eq_true rfl, Nat.le_of_ble_eq_true rfl⟩) hS (fun q _ h => hFc q h) hFc (fun r_9 u t H1 locs ht hvm hw hB hz1 hk1 hS => ?_)
    obtain ⟨hP1, hK1, hD1⟩ := hB
    rw [ht] at hP1
    have hK1 := va_K.moved hvm.symm hK1
    obtain ⟨hP, hD⟩ := va_join (wr := [(h2, kO4 h3 y_4 h4 h5 n2_top), (h3, kAi cint 128 f_5), (h0, kO10 h1 n0_size y_3 h2), (h1, kAi cint 120 f1)]) (w1 := []) hP hD [] [0, 1, 2, 3] rfl rfl (by decide) (by decide) hk1 hFc hP1 hD1
    generalize H1 = H at hP hS ⊢
    have hP : va_P (dC, dI) vwCl [(h2, kO4 h3 y_4 h4 h5 n2_top), (h3, kAi cint 128 f_5), (h0, kO10 h1 n0_size y_3 h2), (h1, kAi cint 120 f1)] H := hP
    have hD : va_D A [(h2, kO4 h3 y_4 h4 h5 n2_top), (h3, kAi cint 128 f_5), (h0, kO10 h1 n0_size y_3 h2), (h1, kAi cint 120 f1)] := hD
    have t_9 : 0 ≤ r_9.toInt ∧ r_9.toInt ≤ 1 := hw
    refine lv_if_eq (tgt := 94) hx hb dX10_readChain_40 (by decide) (fun c_10 => ?_) (fun c_10 => ?_)
    · have t_10 : r_9.toInt = 0 := kk_eq c_10
      refine lv_iconst (v := 1) hx hb dX10_readChain_94 kk_ic_1 ?_
      obtain ⟨hP9, hD9⟩ := kk_leafout (wc := [(h0, kO10 h1 n0_size y_3 h2), (h1, kAi cint 120 f1), (h2, kO4 h3 y_4 h4 h5 n2_top), (h3, kAi cint 128 f_5)]) hP hD [2, 3, 0, 1] (by decide) rfl
      have hK9 := kk_Ks (tq := []) hK [] rfl
      exact W.zret (v := 1) hx hb hr rfl (fun t ht hW => ⟨⟨1, (), rfl, (by show 0 ≤ (1 : Int32).toInt ∧ (1 : Int32).toInt ≤ 1; first | with_reducible assumption | decide | ((omega))), y_3, y_4, f_5, (by show 0 ≤ (y_4 : Int32).toInt ∧ (y_4 : Int32).toInt ≤ 128; first | with_reducible assumption | ((omega))), by rw [ht]; exact hP9, va_K.moved hW.alike hK9, hD9⟩, hS.F ht⟩) hS.2.2 dX10_readChain_95
    · have t_10 : r_9.toInt ≠ 0 := kk_ne c_10
      refine lv_aload_n hx hb dX10_readChain_43 rfl (lv_at hl 1 rfl) ?_
      obtain ⟨hPc, hDc, hFc⟩ := kk_cutout (wc := [(h0, kO10 h1 n0_size y_3 h2), (h1, kAi cint 120 f1)]) hP hD hS hA [2, 3] (by decide) rfl
      have hKc := kk_Ks (tq := [(cint, .int)]) hK [0] rfl
      refine va_calli (va_runV (As := []) (rest := []) ⟨hx, hb, hml, hown, hts⟩ (g_X10_next_0 l dC dI h0 h1 h2 cint H.size n0_size y_3 f1 tn0_size bf1) (cwV 0 hts gX10_readChain_X10_next rfl rfl rfl ⟨rfl, kh_X10_next⟩ ⟨kk_rmF hF (Nat.le_of_ble_eq_true rfl), kk_rmM hL (Nat.le_of_ble_eq_true rfl)⟩) ⟨fun a U g mk q => by obtain ⟨q0, q1, qP, qK, qD⟩ := q; exact ⟨q0, q1, qP, va_K.moved (u := U) (U := U.calling g mk a) (Vm.Alike.refl U.vm) qK, qD⟩, va_recv hKc hPc (ci := 10) (q0 := 0) rfl rfl, fun U hU hW => ⟨rfl, by rw [hU], by rw [hU]; exact hPc, va_K.moved hW.alike hKc, hDc.weaken (fun _ _ _ _ => trivial)⟩⟩ rfl rfl hl.1 rfl (lv_room (Nat.le_of_ble_eq_true rfl)) dX10_readChain_44 ⟨Nat.le_of_ble_eq_true rfl, Nat.le_of_ble_eq_true rfl⟩) hS (fun q _ h => hFc q h) hFc (fun r_11 u t H1 locs ht hvm hw hB hz1 hk1 hS => ?_)
      obtain ⟨hP1, hK1, hD1⟩ := hB
      rw [ht] at hP1
      have hK1 := va_K.moved hvm.symm hK1
      obtain ⟨hP, hD⟩ := va_join (wr := [(h2, kO4 h3 y_4 h4 h5 n2_top), (h3, kAi cint 128 f_5)]) (w1 := [(h0, kO10 h1 n0_size y_3 h2), (h1, kAi cint 120 f1)]) hP hD [2, 3] [0, 1] rfl rfl (by decide) (by decide) hk1 hFc hP1 hD1
      generalize H1 = H at hP hS ⊢
      have hP : va_P (dC, dI) vwCl [(h2, kO4 h3 y_4 h4 h5 n2_top), (h3, kAi cint 128 f_5), (h0, kO10 h1 n0_size y_3 h2), (h1, kAi cint 120 f1)] H := hP
      have hD : va_D A [(h2, kO4 h3 y_4 h4 h5 n2_top), (h3, kAi cint 128 f_5), (h0, kO10 h1 n0_size y_3 h2), (h1, kAi cint 120 f1)] := hD
      have t_11 : (-1) ≤ r_11.toInt ∧ r_11.toInt ≤ 255 := hw
      refine lv_istore hx hb dX10_readChain_47 hl (by decide) (rfl : _ = ([(4, .int r_11), (3, .int 0), (0, .ref h0), (1, .int 2), (2, .int p1)] : List (Nat × Value))) (fun ls hl => ?_)
      refine lv_aload_n hx hb dX10_readChain_49 rfl (lv_at hl 2 rfl) ?_
      refine lv_dup hx hb dX10_readChain_50 rfl ?_
      refine va_get (D := (dC, dI)) (ci := 10) (v := .int y_3) (C := RX10) (T := TX10) (N := 4) hx hb hts (fun _ h => List.mem_cons_of_mem _ (List.mem_append_left _ (List.mem_append_right _ h))) hown hK hP 2 rfl rfl 2 (by decide) (hts (.fieldLink RX10 17 "KinkStreet$Tape" "place" "I") (List.mem_of_getElem? (i := 1) rfl)) (fun _ h9 => h9) rfl dX10_readChain_51 ?_
      refine lv_iconst (v := 1) hx hb dX10_readChain_54 kk_ic_1 ?_
      refine lv_iadd hx hb dX10_readChain_55 ?_
      refine va_put (D := (dC, dI)) (ci := 10) (v := .int (y_3 + 1)) (ty := .int) (C := RX10) (T := TX10) (N := 4) hx hb hts (fun _ h => List.mem_cons_of_mem _ (List.mem_append_left _ (List.mem_append_right _ h))) tyX10 tyX10_ok nmX10 hown hK hP hD hS 2 rfl rfl 2 (by decide) (hts (.fieldLink RX10 17 "KinkStreet$Tape" "place" "I") (List.mem_of_getElem? (i := 1) rfl)) (fun _ h9 => h9) rfl (by decide +kernel) rfl rfl (Nat.le_of_ble_eq_true rfl) dX10_readChain_56 (fun H locs hP hD hS => ?_)
      have hP : va_P (dC, dI) vwCl [(h2, kO4 h3 y_4 h4 h5 n2_top), (h3, kAi cint 128 f_5), (h0, kO10 h1 n0_size (y_3 + 1) h2), (h1, kAi cint 120 f1)] H := hP
      have hD : va_D A [(h2, kO4 h3 y_4 h4 h5 n2_top), (h3, kAi cint 128 f_5), (h0, kO10 h1 n0_size (y_3 + 1) h2), (h1, kAi cint 120 f1)] := hD
      refine lv_aload_n hx hb dX10_readChain_59 rfl (lv_at hl 2 rfl) ?_
      refine lv_iload_n hx hb dX10_readChain_60 rfl (lv_at hl 3 rfl) ?_
      refine lv_iconst (v := 1) hx hb dX10_readChain_61 kk_ic_1 ?_
      refine lv_iadd hx hb dX10_readChain_62 ?_
      refine lv_topi (fun y_12 e_12 => ?_)
      obtain rfl : y_12 = 3 := e_12.trans (by decide)
      refine lv_iload_n hx hb dX10_readChain_63 rfl (lv_at hl 4 rfl) ?_
      obtain ⟨hPc, hDc, hFc⟩ := kk_cutout (wc := [(h0, kO10 h1 n0_size (y_3 + 1) h2), (h1, kAi cint 120 f1), (h2, kO4 h3 y_4 h4 h5 n2_top), (h3, kAi cint 128 f_5)]) hP hD hS hA [2, 3, 0, 1] (by decide) rfl
      have hKc := kk_Ks (tq := [(cint, .int)]) hK [0] rfl
      refine va_calli (va_runV (As := [.int 3, .int p1]) (rest := []) ⟨hx, hb, hml, hown, hts⟩ (ih0 dC dI h0 h1 h2 h3 h4 h5 cint H.size p1 tp1 n0_size (y_3 + 1) f1 y_4 n2_top f_5 tn0_size bf1 (by show 0 ≤ (y_4 : Int32).toInt ∧ (y_4 : Int32).toInt ≤ 128; first | with_reducible assumption | ((omega))) tn2_top (by show (6 ≤ (p1 : Int32).toInt + rk); first | with_reducible assumption | (omega)) aNAMES) (cwV 2 hts gX10_readChain_X10_readChain rfl rfl rfl ⟨rfl, kh_X10_readChain⟩ ⟨Nat.add_le_add_right hF0 1, kk_rmL hL0 (Nat.le_of_ble_eq_true rfl)⟩) ⟨fun a U g mk q => by obtain ⟨q0, q1, qP, qK, qD, qx0, qx1⟩ := q; exact ⟨q0, q1, qP, va_K.moved (u := U) (U := U.calling g mk a) (Vm.Alike.refl U.vm) qK, qD, va_Z.moved (u := U) (U := U.calling g mk a) (Vm.Alike.refl U.vm) qx0, va_T.moved (u := U) (U := U.calling g mk a) (Vm.Alike.refl U.vm) qx1⟩, va_recv hKc hPc (ci := 10) (q0 := 0) rfl rfl, fun U hU hW => ⟨rfl, by rw [hU], by rw [hU]; exact hPc, va_K.moved hW.alike hKc, hDc.weaken (fun _ _ _ _ => trivial), by rw [hU]; exact ((hZNAMES.kept (fun a h1 h2 => hS.2.1 a h1 h2)).narrow hFc).moved hW.alike, by rw [hU]; exact ((hTNAMES.kept (fun a h1 h2 => hS.2.1 a h1 h2)).narrow hFc).moved hW.alike⟩⟩ rfl rfl hl.1 rfl (lv_room (Nat.le_of_ble_eq_true rfl)) dX10_readChain_64 ⟨Nat.le_of_ble_eq_true rfl, Nat.le_of_ble_eq_true rfl⟩) hS (fun q _ h => hFc q h) hFc (fun r_13 u t H1 locs ht hvm hw hB hz1 hk1 hS => ?_)
      refine hB.elim (fun y_14 hB => ?_)
      refine hB.elim (fun y_15 hB => ?_)
      refine hB.elim (fun f_16 hB => ?_)
      refine hB.elim (fun by_15 hB => ?_)
      have hP1 := hB.1
      have hK1 := hB.2.1
      have hD1 := hB.2.2
      rw [ht] at hP1
      have hK1 := va_K.moved hvm.symm hK1
      obtain ⟨hP, hD⟩ := va_join (wr := []) (w1 := [(h0, kO10 h1 n0_size y_14 h2), (h1, kAi cint 120 f1), (h2, kO4 h3 y_15 h4 h5 n2_top), (h3, kAi cint 128 f_16)]) hP hD [2, 3, 0, 1] [] rfl rfl (by decide) (by decide) hk1 hFc hP1 hD1
      generalize H1 = H at hP hS ⊢
      have hP : va_P (dC, dI) vwCl [(h0, kO10 h1 n0_size y_14 h2), (h1, kAi cint 120 f1), (h2, kO4 h3 y_15 h4 h5 n2_top), (h3, kAi cint 128 f_16)] H := hP
      have hD : va_D A [(h0, kO10 h1 n0_size y_14 h2), (h1, kAi cint 120 f1), (h2, kO4 h3 y_15 h4 h5 n2_top), (h3, kAi cint 128 f_16)] := hD
      have t_13 : 0 ≤ r_13.toInt ∧ r_13.toInt ≤ 1 := hw
      refine lv_if_ne (tgt := 72) hx hb dX10_readChain_67 (by decide) (fun c_17 => ?_) (fun c_17 => ?_)
      · have t_17 : r_13.toInt ≠ 0 := kk_ne c_17
        refine lv_aload_n hx hb dX10_readChain_72 rfl (lv_at hl 2 rfl) ?_
        refine va_get (D := (dC, dI)) (ci := 10) (v := .ref h2) (C := RX10) (T := TX10) (N := 4) hx hb hts (fun _ h => List.mem_cons_of_mem _ (List.mem_append_left _ (List.mem_append_right _ h))) hown hK hP 0 rfl rfl 3 (by decide) (hts (.fieldLink RX10 20 "KinkStreet$Tape" "law" "LKinkStreet$Law;") (List.mem_of_getElem? (i := 2) rfl)) (fun _ h9 => h9) rfl dX10_readChain_73 ?_
        refine lv_iload hx hb dX10_readChain_76 (lv_at hl 0 rfl) ?_
        obtain ⟨hPc, hDc, hFc⟩ := kk_cutout (wc := [(h2, kO4 h3 y_15 h4 h5 n2_top), (h3, kAi cint 128 f_16)]) hP hD hS hA [2, 3] (by decide) rfl
        have hKc := kk_Ks (tq := [(cint, .int)]) hK [0] rfl
        refine va_callv (va_runV (As := [.int r_11]) (rest := []) ⟨hx, hb, hml, hown, hts⟩ (g_X4_append_0 l dC dI h2 h3 h4 h5 cint H.size r_11 y_15 n2_top f_16 (by show 0 ≤ (y_15 : Int32).toInt ∧ (y_15 : Int32).toInt ≤ 128; first | with_reducible assumption | ((omega))) tn2_top) (cwV 1 hts gX10_readChain_X4_append rfl rfl rfl ⟨rfl, kh_X4_append⟩ ⟨kk_rmF hF (Nat.le_of_ble_eq_true rfl), kk_rmM hL (Nat.le_of_ble_eq_true rfl)⟩) ⟨fun a U g mk q => by obtain ⟨q0, q1, qP, qK, qD⟩ := q; exact ⟨q0, q1, qP, va_K.moved (u := U) (U := U.calling g mk a) (Vm.Alike.refl U.vm) qK, qD⟩, va_recv hKc hPc (ci := 4) (q0 := 0) rfl rfl, fun U hU hW => ⟨rfl, by rw [hU], by rw [hU]; exact hPc, va_K.moved hW.alike hKc, hDc.weaken (fun _ _ _ _ => trivial)⟩⟩ rfl rfl hl.1 rfl (lv_room (Nat.le_of_ble_eq_true rfl)) dX10_readChain_78 ⟨Nat.le_of_ble_eq_true rfl, Nat.le_of_ble_eq_true rfl⟩) hS (fun q _ h => hFc q h) hFc (fun u t H1 locs ht hvm hw hB hz1 hk1 hS => ?_)
        refine hB.elim (fun y_19 hB => ?_)
        refine hB.elim (fun f_20 hB => ?_)
        refine hB.elim (fun by_19 hB => ?_)
        have hP1 := hB.1
        have hK1 := hB.2.1
        have hD1 := hB.2.2
        rw [ht] at hP1
        have hK1 := va_K.moved hvm.symm hK1
        obtain ⟨hP, hD⟩ := va_join (wr := [(h0, kO10 h1 n0_size y_14 h2), (h1, kAi cint 120 f1)]) (w1 := [(h2, kO4 h3 y_19 h4 h5 n2_top), (h3, kAi cint 128 f_20)]) hP hD [2, 3] [0, 1] rfl rfl (by decide) (by decide) hk1 hFc hP1 hD1
        generalize H1 = H at hP hS ⊢
        have hP : va_P (dC, dI) vwCl [(h0, kO10 h1 n0_size y_14 h2), (h1, kAi cint 120 f1), (h2, kO4 h3 y_19 h4 h5 n2_top), (h3, kAi cint 128 f_20)] H := hP
        have hD : va_D A [(h0, kO10 h1 n0_size y_14 h2), (h1, kAi cint 120 f1), (h2, kO4 h3 y_19 h4 h5 n2_top), (h3, kAi cint 128 f_20)] := hD
        refine lv_iload_n hx hb dX10_readChain_81 rfl (lv_at hl 3 rfl) ?_
        refine lv_iconst (v := 2) hx hb dX10_readChain_82 kk_ic_2 ?_
        refine lv_icmp_ne (tgt := 88) hx hb dX10_readChain_83 (by decide) (fun c => absurd c (by decide)) (fun _ => ?_)
        refine lv_iconst (v := 1) hx hb dX10_readChain_86 kk_ic_1 ?_
        obtain ⟨hP9, hD9⟩ := kk_leafout (wc := [(h0, kO10 h1 n0_size y_14 h2), (h1, kAi cint 120 f1), (h2, kO4 h3 y_19 h4 h5 n2_top), (h3, kAi cint 128 f_20)]) hP hD [0, 1, 2, 3] (by decide) rfl
        have hK9 := kk_Ks (tq := []) hK [] rfl
        exact W.zret (v := 1) hx hb hr rfl (fun t ht hW => ⟨⟨1, (), rfl, (by show 0 ≤ (1 : Int32).toInt ∧ (1 : Int32).toInt ≤ 1; first | with_reducible assumption | decide | ((omega))), y_14, y_19, f_20, (by show 0 ≤ (y_19 : Int32).toInt ∧ (y_19 : Int32).toInt ≤ 128; first | with_reducible assumption | ((omega))), by rw [ht]; exact hP9, va_K.moved hW.alike hK9, hD9⟩, hS.F ht⟩) hS.2.2 dX10_readChain_87
      · have t_17 : r_13.toInt = 0 := kk_eq c_17
        refine lv_iconst (v := 0) hx hb dX10_readChain_70 kk_ic_0 ?_
        obtain ⟨hP9, hD9⟩ := kk_leafout (wc := [(h0, kO10 h1 n0_size y_14 h2), (h1, kAi cint 120 f1), (h2, kO4 h3 y_15 h4 h5 n2_top), (h3, kAi cint 128 f_16)]) hP hD [0, 1, 2, 3] (by decide) rfl
        have hK9 := kk_Ks (tq := []) hK [] rfl
        exact W.zret (v := 0) hx hb hr rfl (fun t ht hW => ⟨⟨0, (), rfl, (by show 0 ≤ (0 : Int32).toInt ∧ (0 : Int32).toInt ≤ 1; first | with_reducible assumption | decide | ((omega))), y_14, y_15, f_16, (by show 0 ≤ (y_15 : Int32).toInt ∧ (y_15 : Int32).toInt ≤ 128; first | with_reducible assumption | ((omega))), by rw [ht]; exact hP9, va_K.moved hW.alike hK9, hD9⟩, hS.F ht⟩) hS.2.2 dX10_readChain_71
  · have t_6 : r_2.toInt = 0 := kk_eq c_6
    refine lv_iconst (v := 0) hx hb dX10_readChain_22 kk_ic_0 ?_
    obtain ⟨hP9, hD9⟩ := kk_leafout (wc := [(h0, kO10 h1 n0_size y_3 h2), (h1, kAi cint 120 f1), (h2, kO4 h3 y_4 h4 h5 n2_top), (h3, kAi cint 128 f_5)]) hP hD [0, 1, 2, 3] (by decide) rfl
    have hK9 := kk_Ks (tq := []) hK [] rfl
    exact W.zret (v := 0) hx hb hr rfl (fun t ht hW => ⟨⟨0, (), rfl, (by show 0 ≤ (0 : Int32).toInt ∧ (0 : Int32).toInt ≤ 1; first | with_reducible assumption | decide | ((omega))), y_3, y_4, f_5, (by show 0 ≤ (y_4 : Int32).toInt ∧ (y_4 : Int32).toInt ≤ 128; first | with_reducible assumption | ((omega))), by rw [ht]; exact hP9, va_K.moved hW.alike hK9, hD9⟩, hS.F ht⟩) hS.2.2 dX10_readChain_23
set_option maxHeartbeats 4000000 in
set_option maxRecDepth 100000 in
theorem s_X10_readChain_1 (l : Launch) (F L : Nat) (hF : 10 ≤ F) (hL : 200 ≤ L) (rk : Int) (F0 L0 : Nat) (hF0 : F0 ≤ F) (hL0 : L0 ≤ L) (ih0 : ka_X10_readChain_2 l F0 L0 rk) (dC : Nat → ClassId) (dI : Nat → Nat → Nat) (h0 : Nat) (h1 : Nat) (h2 : Nat) (h3 : Nat) (h4 : Nat) (h5 : Nat) (cint : ClassId) (sz : Nat) (p1 : Int32) (tp1 : 0 ≤ p1.toInt ∧ p1.toInt ≤ 6) (n0_size : Int32) (n0_place : Int32) (f1 : Nat → Int32) (n2_size : Int32) (n2_top : Int32) (f3 : Nat → Int32) (tn0_size : kk_bx (0 ≤ n0_size.toInt ∧ n0_size.toInt ≤ 120)) (bf1 : ∀ j, j < 120 → 0 ≤ (f1 j).toInt ∧ (f1 j).toInt ≤ 255) (tn2_size : kk_bx (0 ≤ n2_size.toInt ∧ n2_size.toInt ≤ 128)) (tn2_top : kk_bx (0 ≤ n2_top.toInt ∧ n2_top.toInt ≤ 64)) (pr0 : (6 ≤ p1.toInt + rk)) (aNAMES : Nat) : Met l yX10_readChain wsX10_readChain ({ frames := F + 1, cells := 0, slots := 0, locals := L + 24 }) (va_Pc [.ref h0, .int 1, .int p1] (fun U => U.heap.size = sz ∧ va_P (dC, dI) vwCl [(h0, kO10 h1 n0_size n0_place h2), (h1, kAi cint 120 f1), (h2, kO4 h3 n2_size h4 h5 n2_top), (h3, kAi cint 128 f3)] U.heap ∧ va_K (dC, dI) vwCl [(cint, .int)] U ∧ va_D (fun _ => True) [(h0, kO10 h1 n0_size n0_place h2), (h1, kAi cint 120 f1), (h2, kO4 h3 n2_size h4 h5 n2_top), (h3, kAi cint 128 f3)] ∧ va_Z "KinkStreet$Law" "NAMES" "[C" (.ref aNAMES) (va_A [(h0, kO10 h1 n0_size n0_place h2), (h1, kAi cint 120 f1), (h2, kO4 h3 n2_size h4 h5 n2_top), (h3, kAi cint 128 f3)] sz) U U.heap ∧ va_T .char aNAMES 8 tb_NAMES (va_A [(h0, kO10 h1 n0_size n0_place h2), (h1, kAi cint 120 f1), (h2, kO4 h3 n2_size h4 h5 n2_top), (h3, kAi cint 128 f3)] sz) U U.heap)) (va_Qi (fun (r : Int32) (_ : Unit) => (0 ≤ r.toInt ∧ r.toInt ≤ 1)) (fun (_ : Unit) t => ∃ (m0_place : Int32) (m2_size : Int32) (g3 : Nat → Int32), (0 ≤ m2_size.toInt ∧ m2_size.toInt ≤ 128) ∧ va_P (dC, dI) vwCl [(h0, kO10 h1 n0_size m0_place h2), (h1, kAi cint 120 f1), (h2, kO4 h3 m2_size h4 h5 n2_top), (h3, kAi cint 128 g3)] t.heap ∧ va_K (dC, dI) vwCl [] t ∧ va_D (va_A [(h0, kO10 h1 n0_size n0_place h2), (h1, kAi cint 120 f1), (h2, kO4 h3 n2_size h4 h5 n2_top), (h3, kAi cint 128 f3)] sz) [(h0, kO10 h1 n0_size m0_place h2), (h1, kAi cint 120 f1), (h2, kO4 h3 m2_size h4 h5 n2_top), (h3, kAi cint 128 g3)]) (va_A [(h0, kO10 h1 n0_size n0_place h2), (h1, kAi cint 120 f1), (h2, kO4 h3 n2_size h4 h5 n2_top), (h3, kAi cint 128 f3)] sz)) 0 0 (va_A [(h0, kO10 h1 n0_size n0_place h2), (h1, kAi cint 120 f1), (h2, kO4 h3 n2_size h4 h5 n2_top), (h3, kAi cint 128 f3)] sz) := by
  refine Met.ofW (cc := cX10_readChain) (maxL := 5) (ret := (some .boolean)) (by decide) rfl ?_
  intro p e s m args below meth c s₁ B hml hv
  obtain ⟨rfl, hsz, hP, hK, hD0, hZNAMES, hTNAMES⟩ := hv
  have hx := B.exec
  have hb := B.bytes
  have hr := B.returns
  have hts := atoms_spec (ws := wsX10_readChain) B.pre
  have hown : s.vm.findClass RX10 = some m.cls := findClass_of_methodNamed B.named
  have hlocks := B.notSynchronized
  subst hsz
  have hD := hD0.self (sz := s.heap.size)
  generalize hAe : va_A [(h0, kO10 h1 n0_size n0_place h2), (h1, kAi cint 120 f1), (h2, kO4 h3 n2_size h4 h5 n2_top), (h3, kAi cint 128 f3)] s.heap.size = A at hD hZNAMES hTNAMES ⊢
  have hA : ∀ q : Nat, s.heap.size ≤ q → A q := fun q h => by rw [← hAe]; exact Or.inr h
  have hS : va_S A s.heap s.heap [] := va_S.rf
  have hP : va_P (dC, dI) vwCl [(h0, kO10 h1 n0_size n0_place h2), (h1, kAi cint 120 f1), (h2, kO4 h3 n2_size h4 h5 n2_top), (h3, kAi cint 128 f3)] s.heap := hP
  have hl := lv_entry ([.ref h0, .int 1, .int p1]) (n := 5) (Nat.le_of_ble_eq_true rfl)
  rw [lg_entry_eq]
  generalize (lg_sl ([.ref h0, .int 1, .int p1]) ++ List.replicate (5 - (lg_sl ([.ref h0, .int 1, .int p1])).length) Slot.unset).toArray = ls at hl ⊢
  have hl : lv_has ls 5 [(0, .ref h0), (1, .int 1), (2, .int p1)] := hl
  refine lv_iload_n hx hb dX10_readChain_0 rfl (lv_at hl 1 rfl) ?_
  refine lv_iconst (v := 5) hx hb dX10_readChain_1 kk_ic_5 ?_
  refine lv_icmp_lt (tgt := 11) hx hb dX10_readChain_2 (by decide) (fun _ => ?_) (fun c => absurd c (by decide))
  refine lv_aload_n hx hb dX10_readChain_11 rfl (lv_at hl 0 rfl) ?_
  refine lv_iload_n hx hb dX10_readChain_12 rfl (lv_at hl 1 rfl) ?_
  refine lv_iconst (v := 1) hx hb dX10_readChain_13 kk_ic_1 ?_
  refine lv_iadd hx hb dX10_readChain_14 ?_
  refine lv_topi (fun y_1 e_1 => ?_)
  obtain rfl : y_1 = 2 := e_1.trans (by decide)
  refine lv_iload_n hx hb dX10_readChain_15 rfl (lv_at hl 2 rfl) ?_
  obtain ⟨hPc, hDc, hFc⟩ := kk_cutout (wc := [(h0, kO10 h1 n0_size n0_place h2), (h1, kAi cint 120 f1), (h2, kO4 h3 n2_size h4 h5 n2_top), (h3, kAi cint 128 f3)]) hP hD hS hA [0, 1, 2, 3] (by decide) rfl
  have hKc := kk_Ks (tq := [(cint, .int)]) hK [0] rfl
  refine va_calli (va_runV (As := [.int 2, .int p1]) (rest := []) ⟨hx, hb, hml, hown, hts⟩ (ih0 dC dI h0 h1 h2 h3 h4 h5 cint s.heap.size p1 tp1 n0_size n0_place f1 n2_size n2_top f3 tn0_size bf1 tn2_size tn2_top (by show (6 ≤ (p1 : Int32).toInt + rk); first | with_reducible assumption | (omega)) aNAMES) (cwV 2 hts gX10_readChain_X10_readChain rfl rfl rfl ⟨rfl, kh_X10_readChain⟩ ⟨Nat.add_le_add_right hF0 1, kk_rmL hL0 (Nat.le_of_ble_eq_true rfl)⟩) ⟨fun a U g mk q => by obtain ⟨q0, q1, qP, qK, qD, qx0, qx1⟩ := q; exact ⟨q0, q1, qP, va_K.moved (u := U) (U := U.calling g mk a) (Vm.Alike.refl U.vm) qK, qD, va_Z.moved (u := U) (U := U.calling g mk a) (Vm.Alike.refl U.vm) qx0, va_T.moved (u := U) (U := U.calling g mk a) (Vm.Alike.refl U.vm) qx1⟩, va_recv hKc hPc (ci := 10) (q0 := 0) rfl rfl, fun U hU hW => ⟨rfl, by rw [hU], by rw [hU]; exact hPc, va_K.moved hW.alike hKc, hDc.weaken (fun _ _ _ _ => trivial), by rw [hU]; exact ((hZNAMES.kept (fun a h1 h2 => hS.2.1 a h1 h2)).narrow hFc).moved hW.alike, by rw [hU]; exact ((hTNAMES.kept (fun a h1 h2 => hS.2.1 a h1 h2)).narrow hFc).moved hW.alike⟩⟩ rfl rfl hl.1 rfl (lv_room (Nat.le_of_ble_eq_true rfl)) dX10_readChain_16 ⟨Nat.le_of_ble_eq_true rfl, Nat.le_of_ble_eq_true rfl⟩) hS (fun q _ h => hFc q h) hFc (fun r_2 u t H1 locs ht hvm hw hB hz1 hk1 hS => ?_)
  refine hB.elim (fun y_3 hB => ?_)
  refine hB.elim (fun y_4 hB => ?_)
  refine hB.elim (fun f_5 hB => ?_)
  refine hB.elim (fun by_4 hB => ?_)
  have hP1 := hB.1
  have hK1 := hB.2.1
  have hD1 := hB.2.2
  rw [ht] at hP1
  have hK1 := va_K.moved hvm.symm hK1
  obtain ⟨hP, hD⟩ := va_join (wr := []) (w1 := [(h0, kO10 h1 n0_size y_3 h2), (h1, kAi cint 120 f1), (h2, kO4 h3 y_4 h4 h5 n2_top), (h3, kAi cint 128 f_5)]) hP hD [0, 1, 2, 3] [] rfl rfl (by decide) (by decide) hk1 hFc hP1 hD1
  generalize H1 = H at hP hS ⊢
  have hP : va_P (dC, dI) vwCl [(h0, kO10 h1 n0_size y_3 h2), (h1, kAi cint 120 f1), (h2, kO4 h3 y_4 h4 h5 n2_top), (h3, kAi cint 128 f_5)] H := hP
  have hD : va_D A [(h0, kO10 h1 n0_size y_3 h2), (h1, kAi cint 120 f1), (h2, kO4 h3 y_4 h4 h5 n2_top), (h3, kAi cint 128 f_5)] := hD
  have t_2 : 0 ≤ r_2.toInt ∧ r_2.toInt ≤ 1 := hw
  refine lv_if_ne (tgt := 24) hx hb dX10_readChain_19 (by decide) (fun c_6 => ?_) (fun c_6 => ?_)
  · have t_6 : r_2.toInt ≠ 0 := kk_ne c_6
    refine lv_iconst (v := 0) hx hb dX10_readChain_24 kk_ic_0 ?_
    refine lv_istore_n hx hb dX10_readChain_25 rfl hl (by decide) (rfl : _ = ([(3, .int 0), (0, .ref h0), (1, .int 1), (2, .int p1)] : List (Nat × Value))) (fun ls hl => ?_)
    refine kk_loop (σ := Int32 × Int32 × Int32 × (Nat → Int32)) (fun x H locs ls => (0 ≤ x.1.toInt ∧ x.1.toInt ≤ 120) ∧ (0 ≤ x.2.2.1.toInt ∧ x.2.2.1.toInt ≤ 128) ∧ va_P (dC, dI) vwCl [(h0, kO10 h1 n0_size x.2.1 h2), (h1, kAi cint 120 f1), (h2, kO4 h3 x.2.2.1 h4 h5 n2_top), (h3, kAi cint 128 x.2.2.2)] H ∧ va_D A [(h0, kO10 h1 n0_size x.2.1 h2), (h1, kAi cint 120 f1), (h2, kO4 h3 x.2.2.1 h4 h5 n2_top), (h3, kAi cint 128 x.2.2.2)] ∧ va_S A s.heap H locs ∧ lv_has ls 5 [(3, .int x.1), (0, .ref h0), (1, .int 1), (2, .int p1)]) (fun x => ((120 : Int) - x.1.toInt).toNat) ?_ (0, y_3, y_4, f_5) _ _ _ ⟨(by show 0 ≤ (0 : Int32).toInt ∧ (0 : Int32).toInt ≤ 120; first | with_reducible assumption | decide | ((omega))), (by show 0 ≤ (y_4 : Int32).toInt ∧ (y_4 : Int32).toInt ≤ 128; first | with_reducible assumption | ((omega))), hP, hD, hS, hl⟩
    rintro ⟨i_7_0, i_7_1, i_7_2, f_7_3⟩ H locs ls ⟨t_7_0, t_7_2, hP, hD, hS, hl⟩ ih_7
    have t_7_0 : (0 ≤ i_7_0.toInt ∧ i_7_0.toInt ≤ 120) := t_7_0
    have t_7_2 : (0 ≤ i_7_2.toInt ∧ i_7_2.toInt ≤ 128) := t_7_2
    have hl : lv_has ls 5 [(3, .int i_7_0), (0, .ref h0), (1, .int 1), (2, .int p1)] := hl
    have hP : va_P (dC, dI) vwCl [(h0, kO10 h1 n0_size i_7_1 h2), (h1, kAi cint 120 f1), (h2, kO4 h3 i_7_2 h4 h5 n2_top), (h3, kAi cint 128 f_7_3)] H := hP
    have hD : va_D A [(h0, kO10 h1 n0_size i_7_1 h2), (h1, kAi cint 120 f1), (h2, kO4 h3 i_7_2 h4 h5 n2_top), (h3, kAi cint 128 f_7_3)] := hD
    refine lv_iload_n hx hb dX10_readChain_26 rfl (lv_at hl 0 rfl) ?_
    refine lv_bipush (v := 120) hx hb dX10_readChain_27 kk_bi_120 ?_
    refine lv_icmp_ge (tgt := 94) hx hb dX10_readChain_29 (by decide) (fun c_8 => ?_) (fun c_8 => ?_)
    · have t_8 : 120 ≤ i_7_0.toInt := kk_le c_8
      refine lv_iconst (v := 1) hx hb dX10_readChain_94 kk_ic_1 ?_
      obtain ⟨hP9, hD9⟩ := kk_leafout (wc := [(h0, kO10 h1 n0_size i_7_1 h2), (h1, kAi cint 120 f1), (h2, kO4 h3 i_7_2 h4 h5 n2_top), (h3, kAi cint 128 f_7_3)]) hP hD [0, 1, 2, 3] (by decide) rfl
      have hK9 := kk_Ks (tq := []) hK [] rfl
      exact W.zret (v := 1) hx hb hr rfl (fun t ht hW => ⟨⟨1, (), rfl, (by show 0 ≤ (1 : Int32).toInt ∧ (1 : Int32).toInt ≤ 1; first | with_reducible assumption | decide | ((omega))), i_7_1, i_7_2, f_7_3, (by show 0 ≤ (i_7_2 : Int32).toInt ∧ (i_7_2 : Int32).toInt ≤ 128; first | with_reducible assumption | ((omega))), by rw [ht]; exact hP9, va_K.moved hW.alike hK9, hD9⟩, hS.F ht⟩) hS.2.2 dX10_readChain_95
    · have t_8 : i_7_0.toInt < 120 := kk_nle c_8
      refine lv_iload_n hx hb dX10_readChain_32 rfl (lv_at hl 2 rfl) ?_
      refine lv_aload_n hx hb dX10_readChain_33 rfl (lv_at hl 1 rfl) ?_
      obtain ⟨hPc, hDc, hFc⟩ := kk_cutout (wc := [(h0, kO10 h1 n0_size i_7_1 h2), (h1, kAi cint 120 f1)]) hP hD hS hA [0, 1] (by decide) rfl
      have hKc := kk_Ks (tq := [(cint, .int)]) hK [0] rfl
      refine va_calli (va_runV (As := []) (rest := [.int 1]) ⟨hx, hb, hml, hown, hts⟩ (g_X10_next_0 l dC dI h0 h1 h2 cint H.size n0_size i_7_1 f1 tn0_size bf1) (cwV 0 hts gX10_readChain_X10_next rfl rfl rfl ⟨rfl, kh_X10_next⟩ ⟨kk_rmF hF (Nat.le_of_ble_eq_true rfl), kk_rmM hL (Nat.le_of_ble_eq_true rfl)⟩) ⟨fun a U g mk q => by obtain ⟨q0, q1, qP, qK, qD⟩ := q; exact ⟨q0, q1, qP, va_K.moved (u := U) (U := U.calling g mk a) (Vm.Alike.refl U.vm) qK, qD⟩, va_recv hKc hPc (ci := 10) (q0 := 0) rfl rfl, fun U hU hW => ⟨rfl, by rw [hU], by rw [hU]; exact hPc, va_K.moved hW.alike hKc, hDc.weaken (fun _ _ _ _ => trivial)⟩⟩ rfl rfl hl.1 rfl (lv_room (Nat.le_of_ble_eq_true rfl)) dX10_readChain_34 ⟨Nat.le_of_ble_eq_true rfl, Nat.le_of_ble_eq_true rfl⟩) hS (fun q _ h => hFc q h) hFc (fun r_9 u t H1 locs ht hvm hw hB hz1 hk1 hS => ?_)
      obtain ⟨hP1, hK1, hD1⟩ := hB
      rw [ht] at hP1
      have hK1 := va_K.moved hvm.symm hK1
      obtain ⟨hP, hD⟩ := va_join (wr := [(h2, kO4 h3 i_7_2 h4 h5 n2_top), (h3, kAi cint 128 f_7_3)]) (w1 := [(h0, kO10 h1 n0_size i_7_1 h2), (h1, kAi cint 120 f1)]) hP hD [0, 1] [2, 3] rfl rfl (by decide) (by decide) hk1 hFc hP1 hD1
      generalize H1 = H at hP hS ⊢
      have hP : va_P (dC, dI) vwCl [(h2, kO4 h3 i_7_2 h4 h5 n2_top), (h3, kAi cint 128 f_7_3), (h0, kO10 h1 n0_size i_7_1 h2), (h1, kAi cint 120 f1)] H := hP
      have hD : va_D A [(h2, kO4 h3 i_7_2 h4 h5 n2_top), (h3, kAi cint 128 f_7_3), (h0, kO10 h1 n0_size i_7_1 h2), (h1, kAi cint 120 f1)] := hD
      have t_9 : (-1) ≤ r_9.toInt ∧ r_9.toInt ≤ 255 := hw
      obtain ⟨hPc, hDc, hFc⟩ := kk_cutout (wc := []) hP hD hS hA [] (by decide) rfl
      have hKc := kk_Ks (tq := []) hK [] rfl
      refine va_calli (va_runS (As := [.int 1, .int r_9]) (rest := []) ⟨hx, hb, hml, hown, hts⟩ (g_X10_joins_3 l dC dI H.size r_9) (va_cwS 2 hts gX10_readChain_X10_joins rfl rfl rfl kh_X10_joins ⟨kk_rmF hF (Nat.le_of_ble_eq_true rfl), kk_rmM hL (Nat.le_of_ble_eq_true rfl)⟩) ⟨fun a U g mk q => by obtain ⟨q0, q1, qP, qK, qD⟩ := q; exact ⟨q0, q1, qP, va_K.moved (u := U) (U := U.calling g mk a) (Vm.Alike.refl U.vm) qK, qD⟩, fun U hU hW => ⟨rfl, by rw [hU], by rw [hU]; exact hPc, va_K.moved hW.alike hKc, hDc.weaken (fun _ _ _ _ => trivial)⟩⟩ rfl rfl hl.1 rfl (lv_room (Nat.le_of_ble_eq_true rfl)) dX10_readChain_37 ⟨Nat.le_of_ble_eq_true rfl, Nat.le_of_ble_eq_true rfl⟩) hS (fun q _ h => hFc q h) hFc (fun r_10 u t H1 locs ht hvm hw hB hz1 hk1 hS => ?_)
      obtain ⟨hP1, hK1, hD1⟩ := hB
      rw [ht] at hP1
      have hK1 := va_K.moved hvm.symm hK1
      obtain ⟨hP, hD⟩ := va_join (wr := [(h2, kO4 h3 i_7_2 h4 h5 n2_top), (h3, kAi cint 128 f_7_3), (h0, kO10 h1 n0_size i_7_1 h2), (h1, kAi cint 120 f1)]) (w1 := []) hP hD [] [0, 1, 2, 3] rfl rfl (by decide) (by decide) hk1 hFc hP1 hD1
      generalize H1 = H at hP hS ⊢
      have hP : va_P (dC, dI) vwCl [(h2, kO4 h3 i_7_2 h4 h5 n2_top), (h3, kAi cint 128 f_7_3), (h0, kO10 h1 n0_size i_7_1 h2), (h1, kAi cint 120 f1)] H := hP
      have hD : va_D A [(h2, kO4 h3 i_7_2 h4 h5 n2_top), (h3, kAi cint 128 f_7_3), (h0, kO10 h1 n0_size i_7_1 h2), (h1, kAi cint 120 f1)] := hD
      have t_10 : 0 ≤ r_10.toInt ∧ r_10.toInt ≤ 1 := hw
      refine lv_if_eq (tgt := 94) hx hb dX10_readChain_40 (by decide) (fun c_11 => ?_) (fun c_11 => ?_)
      · have t_11 : r_10.toInt = 0 := kk_eq c_11
        refine lv_iconst (v := 1) hx hb dX10_readChain_94 kk_ic_1 ?_
        obtain ⟨hP9, hD9⟩ := kk_leafout (wc := [(h0, kO10 h1 n0_size i_7_1 h2), (h1, kAi cint 120 f1), (h2, kO4 h3 i_7_2 h4 h5 n2_top), (h3, kAi cint 128 f_7_3)]) hP hD [2, 3, 0, 1] (by decide) rfl
        have hK9 := kk_Ks (tq := []) hK [] rfl
        exact W.zret (v := 1) hx hb hr rfl (fun t ht hW => ⟨⟨1, (), rfl, (by show 0 ≤ (1 : Int32).toInt ∧ (1 : Int32).toInt ≤ 1; first | with_reducible assumption | decide | ((omega))), i_7_1, i_7_2, f_7_3, (by show 0 ≤ (i_7_2 : Int32).toInt ∧ (i_7_2 : Int32).toInt ≤ 128; first | with_reducible assumption | ((omega))), by rw [ht]; exact hP9, va_K.moved hW.alike hK9, hD9⟩, hS.F ht⟩) hS.2.2 dX10_readChain_95
      · have t_11 : r_10.toInt ≠ 0 := kk_ne c_11
        refine lv_aload_n hx hb dX10_readChain_43 rfl (lv_at hl 1 rfl) ?_
        obtain ⟨hPc, hDc, hFc⟩ := kk_cutout (wc := [(h0, kO10 h1 n0_size i_7_1 h2), (h1, kAi cint 120 f1)]) hP hD hS hA [2, 3] (by decide) rfl
        have hKc := kk_Ks (tq := [(cint, .int)]) hK [0] rfl
        refine va_calli (va_runV (As := []) (rest := []) ⟨hx, hb, hml, hown, hts⟩ (g_X10_next_0 l dC dI h0 h1 h2 cint H.size n0_size i_7_1 f1 tn0_size bf1) (cwV 0 hts gX10_readChain_X10_next rfl rfl rfl ⟨rfl, kh_X10_next⟩ ⟨kk_rmF hF (Nat.le_of_ble_eq_true rfl), kk_rmM hL (Nat.le_of_ble_eq_true rfl)⟩) ⟨fun a U g mk q => by obtain ⟨q0, q1, qP, qK, qD⟩ := q; exact ⟨q0, q1, qP, va_K.moved (u := U) (U := U.calling g mk a) (Vm.Alike.refl U.vm) qK, qD⟩, va_recv hKc hPc (ci := 10) (q0 := 0) rfl rfl, fun U hU hW => ⟨rfl, by rw [hU], by rw [hU]; exact hPc, va_K.moved hW.alike hKc, hDc.weaken (fun _ _ _ _ => trivial)⟩⟩ rfl rfl hl.1 rfl (lv_room (Nat.le_of_ble_eq_true rfl)) dX10_readChain_44 ⟨Nat.le_of_ble_eq_true rfl, Nat.le_of_ble_eq_true rfl⟩) hS (fun q _ h => hFc q h) hFc (fun r_12 u t H1 locs ht hvm hw hB hz1 hk1 hS => ?_)
        obtain ⟨hP1, hK1, hD1⟩ := hB
        rw [ht] at hP1
        have hK1 := va_K.moved hvm.symm hK1
        obtain ⟨hP, hD⟩ := va_join (wr := [(h2, kO4 h3 i_7_2 h4 h5 n2_top), (h3, kAi cint 128 f_7_3)]) (w1 := [(h0, kO10 h1 n0_size i_7_1 h2), (h1, kAi cint 120 f1)]) hP hD [2, 3] [0, 1] rfl rfl (by decide) (by decide) hk1 hFc hP1 hD1
        generalize H1 = H at hP hS ⊢
        have hP : va_P (dC, dI) vwCl [(h2, kO4 h3 i_7_2 h4 h5 n2_top), (h3, kAi cint 128 f_7_3), (h0, kO10 h1 n0_size i_7_1 h2), (h1, kAi cint 120 f1)] H := hP
        have hD : va_D A [(h2, kO4 h3 i_7_2 h4 h5 n2_top), (h3, kAi cint 128 f_7_3), (h0, kO10 h1 n0_size i_7_1 h2), (h1, kAi cint 120 f1)] := hD
        have t_12 : (-1) ≤ r_12.toInt ∧ r_12.toInt ≤ 255 := hw
        refine lv_istore hx hb dX10_readChain_47 hl (by decide) (rfl : _ = ([(4, .int r_12), (3, .int i_7_0), (0, .ref h0), (1, .int 1), (2, .int p1)] : List (Nat × Value))) (fun ls hl => ?_)
        refine lv_aload_n hx hb dX10_readChain_49 rfl (lv_at hl 2 rfl) ?_
        refine lv_dup hx hb dX10_readChain_50 rfl ?_
        refine va_get (D := (dC, dI)) (ci := 10) (v := .int i_7_1) (C := RX10) (T := TX10) (N := 4) hx hb hts (fun _ h => List.mem_cons_of_mem _ (List.mem_append_left _ (List.mem_append_right _ h))) hown hK hP 2 rfl rfl 2 (by decide) (hts (.fieldLink RX10 17 "KinkStreet$Tape" "place" "I") (List.mem_of_getElem? (i := 1) rfl)) (fun _ h9 => h9) rfl dX10_readChain_51 ?_
        refine lv_iconst (v := 1) hx hb dX10_readChain_54 kk_ic_1 ?_
        refine lv_iadd hx hb dX10_readChain_55 ?_
        refine va_put (D := (dC, dI)) (ci := 10) (v := .int (i_7_1 + 1)) (ty := .int) (C := RX10) (T := TX10) (N := 4) hx hb hts (fun _ h => List.mem_cons_of_mem _ (List.mem_append_left _ (List.mem_append_right _ h))) tyX10 tyX10_ok nmX10 hown hK hP hD hS 2 rfl rfl 2 (by decide) (hts (.fieldLink RX10 17 "KinkStreet$Tape" "place" "I") (List.mem_of_getElem? (i := 1) rfl)) (fun _ h9 => h9) rfl (by decide +kernel) rfl rfl (Nat.le_of_ble_eq_true rfl) dX10_readChain_56 (fun H locs hP hD hS => ?_)
        have hP : va_P (dC, dI) vwCl [(h2, kO4 h3 i_7_2 h4 h5 n2_top), (h3, kAi cint 128 f_7_3), (h0, kO10 h1 n0_size (i_7_1 + 1) h2), (h1, kAi cint 120 f1)] H := hP
        have hD : va_D A [(h2, kO4 h3 i_7_2 h4 h5 n2_top), (h3, kAi cint 128 f_7_3), (h0, kO10 h1 n0_size (i_7_1 + 1) h2), (h1, kAi cint 120 f1)] := hD
        refine lv_aload_n hx hb dX10_readChain_59 rfl (lv_at hl 2 rfl) ?_
        refine lv_iload_n hx hb dX10_readChain_60 rfl (lv_at hl 3 rfl) ?_
        refine lv_iconst (v := 1) hx hb dX10_readChain_61 kk_ic_1 ?_
        refine lv_iadd hx hb dX10_readChain_62 ?_
        refine lv_topi (fun y_13 e_13 => ?_)
        obtain rfl : y_13 = 2 := e_13.trans (by decide)
        refine lv_iload_n hx hb dX10_readChain_63 rfl (lv_at hl 4 rfl) ?_
        obtain ⟨hPc, hDc, hFc⟩ := kk_cutout (wc := [(h0, kO10 h1 n0_size (i_7_1 + 1) h2), (h1, kAi cint 120 f1), (h2, kO4 h3 i_7_2 h4 h5 n2_top), (h3, kAi cint 128 f_7_3)]) hP hD hS hA [2, 3, 0, 1] (by decide) rfl
        have hKc := kk_Ks (tq := [(cint, .int)]) hK [0] rfl
        refine va_calli (va_runV (As := [.int 2, .int p1]) (rest := []) ⟨hx, hb, hml, hown, hts⟩ (ih0 dC dI h0 h1 h2 h3 h4 h5 cint H.size p1 tp1 n0_size (i_7_1 + 1) f1 i_7_2 n2_top f_7_3 tn0_size bf1 (by show 0 ≤ (i_7_2 : Int32).toInt ∧ (i_7_2 : Int32).toInt ≤ 128; first | with_reducible assumption | ((omega))) tn2_top (by show (6 ≤ (p1 : Int32).toInt + rk); first | with_reducible assumption | (omega)) aNAMES) (cwV 2 hts gX10_readChain_X10_readChain rfl rfl rfl ⟨rfl, kh_X10_readChain⟩ ⟨Nat.add_le_add_right hF0 1, kk_rmL hL0 (Nat.le_of_ble_eq_true rfl)⟩) ⟨fun a U g mk q => by obtain ⟨q0, q1, qP, qK, qD, qx0, qx1⟩ := q; exact ⟨q0, q1, qP, va_K.moved (u := U) (U := U.calling g mk a) (Vm.Alike.refl U.vm) qK, qD, va_Z.moved (u := U) (U := U.calling g mk a) (Vm.Alike.refl U.vm) qx0, va_T.moved (u := U) (U := U.calling g mk a) (Vm.Alike.refl U.vm) qx1⟩, va_recv hKc hPc (ci := 10) (q0 := 0) rfl rfl, fun U hU hW => ⟨rfl, by rw [hU], by rw [hU]; exact hPc, va_K.moved hW.alike hKc, hDc.weaken (fun _ _ _ _ => trivial), by rw [hU]; exact ((hZNAMES.kept (fun a h1 h2 => hS.2.1 a h1 h2)).narrow hFc).moved hW.alike, by rw [hU]; exact ((hTNAMES.kept (fun a h1 h2 => hS.2.1 a h1 h2)).narrow hFc).moved hW.alike⟩⟩ rfl rfl hl.1 rfl (lv_room (Nat.le_of_ble_eq_true rfl)) dX10_readChain_64 ⟨Nat.le_of_ble_eq_true rfl, Nat.le_of_ble_eq_true rfl⟩) hS (fun q _ h => hFc q h) hFc (fun r_14 u t H1 locs ht hvm hw hB hz1 hk1 hS => ?_)
        refine hB.elim (fun y_15 hB => ?_)
        refine hB.elim (fun y_16 hB => ?_)
        refine hB.elim (fun f_17 hB => ?_)
        refine hB.elim (fun by_16 hB => ?_)
        have hP1 := hB.1
        have hK1 := hB.2.1
        have hD1 := hB.2.2
        rw [ht] at hP1
        have hK1 := va_K.moved hvm.symm hK1
        obtain ⟨hP, hD⟩ := va_join (wr := []) (w1 := [(h0, kO10 h1 n0_size y_15 h2), (h1, kAi cint 120 f1), (h2, kO4 h3 y_16 h4 h5 n2_top), (h3, kAi cint 128 f_17)]) hP hD [2, 3, 0, 1] [] rfl rfl (by decide) (by decide) hk1 hFc hP1 hD1
        generalize H1 = H at hP hS ⊢
        have hP : va_P (dC, dI) vwCl [(h0, kO10 h1 n0_size y_15 h2), (h1, kAi cint 120 f1), (h2, kO4 h3 y_16 h4 h5 n2_top), (h3, kAi cint 128 f_17)] H := hP
        have hD : va_D A [(h0, kO10 h1 n0_size y_15 h2), (h1, kAi cint 120 f1), (h2, kO4 h3 y_16 h4 h5 n2_top), (h3, kAi cint 128 f_17)] := hD
        have t_14 : 0 ≤ r_14.toInt ∧ r_14.toInt ≤ 1 := hw
        refine lv_if_ne (tgt := 72) hx hb dX10_readChain_67 (by decide) (fun c_18 => ?_) (fun c_18 => ?_)
        · have t_18 : r_14.toInt ≠ 0 := kk_ne c_18
          refine lv_aload_n hx hb dX10_readChain_72 rfl (lv_at hl 2 rfl) ?_
          refine va_get (D := (dC, dI)) (ci := 10) (v := .ref h2) (C := RX10) (T := TX10) (N := 4) hx hb hts (fun _ h => List.mem_cons_of_mem _ (List.mem_append_left _ (List.mem_append_right _ h))) hown hK hP 0 rfl rfl 3 (by decide) (hts (.fieldLink RX10 20 "KinkStreet$Tape" "law" "LKinkStreet$Law;") (List.mem_of_getElem? (i := 2) rfl)) (fun _ h9 => h9) rfl dX10_readChain_73 ?_
          refine lv_iload hx hb dX10_readChain_76 (lv_at hl 0 rfl) ?_
          obtain ⟨hPc, hDc, hFc⟩ := kk_cutout (wc := [(h2, kO4 h3 y_16 h4 h5 n2_top), (h3, kAi cint 128 f_17)]) hP hD hS hA [2, 3] (by decide) rfl
          have hKc := kk_Ks (tq := [(cint, .int)]) hK [0] rfl
          refine va_callv (va_runV (As := [.int r_12]) (rest := []) ⟨hx, hb, hml, hown, hts⟩ (g_X4_append_0 l dC dI h2 h3 h4 h5 cint H.size r_12 y_16 n2_top f_17 (by show 0 ≤ (y_16 : Int32).toInt ∧ (y_16 : Int32).toInt ≤ 128; first | with_reducible assumption | ((omega))) tn2_top) (cwV 1 hts gX10_readChain_X4_append rfl rfl rfl ⟨rfl, kh_X4_append⟩ ⟨kk_rmF hF (Nat.le_of_ble_eq_true rfl), kk_rmM hL (Nat.le_of_ble_eq_true rfl)⟩) ⟨fun a U g mk q => by obtain ⟨q0, q1, qP, qK, qD⟩ := q; exact ⟨q0, q1, qP, va_K.moved (u := U) (U := U.calling g mk a) (Vm.Alike.refl U.vm) qK, qD⟩, va_recv hKc hPc (ci := 4) (q0 := 0) rfl rfl, fun U hU hW => ⟨rfl, by rw [hU], by rw [hU]; exact hPc, va_K.moved hW.alike hKc, hDc.weaken (fun _ _ _ _ => trivial)⟩⟩ rfl rfl hl.1 rfl (lv_room (Nat.le_of_ble_eq_true rfl)) dX10_readChain_78 ⟨Nat.le_of_ble_eq_true rfl, Nat.le_of_ble_eq_true rfl⟩) hS (fun q _ h => hFc q h) hFc (fun u t H1 locs ht hvm hw hB hz1 hk1 hS => ?_)
          refine hB.elim (fun y_20 hB => ?_)
          refine hB.elim (fun f_21 hB => ?_)
          refine hB.elim (fun by_20 hB => ?_)
          have hP1 := hB.1
          have hK1 := hB.2.1
          have hD1 := hB.2.2
          rw [ht] at hP1
          have hK1 := va_K.moved hvm.symm hK1
          obtain ⟨hP, hD⟩ := va_join (wr := [(h0, kO10 h1 n0_size y_15 h2), (h1, kAi cint 120 f1)]) (w1 := [(h2, kO4 h3 y_20 h4 h5 n2_top), (h3, kAi cint 128 f_21)]) hP hD [2, 3] [0, 1] rfl rfl (by decide) (by decide) hk1 hFc hP1 hD1
          generalize H1 = H at hP hS ⊢
          have hP : va_P (dC, dI) vwCl [(h0, kO10 h1 n0_size y_15 h2), (h1, kAi cint 120 f1), (h2, kO4 h3 y_20 h4 h5 n2_top), (h3, kAi cint 128 f_21)] H := hP
          have hD : va_D A [(h0, kO10 h1 n0_size y_15 h2), (h1, kAi cint 120 f1), (h2, kO4 h3 y_20 h4 h5 n2_top), (h3, kAi cint 128 f_21)] := hD
          refine lv_iload_n hx hb dX10_readChain_81 rfl (lv_at hl 3 rfl) ?_
          refine lv_iconst (v := 2) hx hb dX10_readChain_82 kk_ic_2 ?_
          refine lv_icmp_ne (tgt := 88) hx hb dX10_readChain_83 (by decide) (fun _ => ?_) (fun c => absurd c (by decide))
          refine lv_iinc (v := (i_7_0 + 1)) hx hb dX10_readChain_88 hl (k := 1) rfl (by first | rfl | decide) (by decide) (rfl : _ = ([(3, .int (i_7_0 + 1)), (4, .int r_12), (0, .ref h0), (1, .int 1), (2, .int p1)] : List (Nat × Value))) (fun ls hl => ?_)
          refine lv_goto (tgt := 26) hx hb dX10_readChain_91 (by decide) ?_
          try have := kk_add2 (x := i_7_0) (y := 1) (a := i_7_0.toInt) (b := 1) rfl rfl (by omega) (by omega)
          exact ih_7 ((i_7_0 + 1), y_15, y_20, f_21) _ _ _ (by show ((120 : Int) - ((i_7_0 + 1) : Int32).toInt).toNat < ((120 : Int) - i_7_0.toInt).toNat; exact kk_mu (by omega) (by omega)) ⟨(by show 0 ≤ ((i_7_0 + 1) : Int32).toInt ∧ ((i_7_0 + 1) : Int32).toInt ≤ 120; first | with_reducible assumption | ((omega))), (by show 0 ≤ (y_20 : Int32).toInt ∧ (y_20 : Int32).toInt ≤ 128; first | with_reducible assumption | ((omega))), hP, hD, hS, lv_sub hl [0, 2, 3, 4] rfl⟩
        · have t_18 : r_14.toInt = 0 := kk_eq c_18
          refine lv_iconst (v := 0) hx hb dX10_readChain_70 kk_ic_0 ?_
          obtain ⟨hP9, hD9⟩ := kk_leafout (wc := [(h0, kO10 h1 n0_size y_15 h2), (h1, kAi cint 120 f1), (h2, kO4 h3 y_16 h4 h5 n2_top), (h3, kAi cint 128 f_17)]) hP hD [0, 1, 2, 3] (by decide) rfl
          have hK9 := kk_Ks (tq := []) hK [] rfl
          exact W.zret (v := 0) hx hb hr rfl (fun t ht hW => ⟨⟨0, (), rfl, (by show 0 ≤ (0 : Int32).toInt ∧ (0 : Int32).toInt ≤ 1; first | with_reducible assumption | decide | ((omega))), y_15, y_16, f_17, (by show 0 ≤ (y_16 : Int32).toInt ∧ (y_16 : Int32).toInt ≤ 128; first | with_reducible assumption | ((omega))), by rw [ht]; exact hP9, va_K.moved hW.alike hK9, hD9⟩, hS.F ht⟩) hS.2.2 dX10_readChain_71
  · have t_6 : r_2.toInt = 0 := kk_eq c_6
    refine lv_iconst (v := 0) hx hb dX10_readChain_22 kk_ic_0 ?_
    obtain ⟨hP9, hD9⟩ := kk_leafout (wc := [(h0, kO10 h1 n0_size y_3 h2), (h1, kAi cint 120 f1), (h2, kO4 h3 y_4 h4 h5 n2_top), (h3, kAi cint 128 f_5)]) hP hD [0, 1, 2, 3] (by decide) rfl
    have hK9 := kk_Ks (tq := []) hK [] rfl
    exact W.zret (v := 0) hx hb hr rfl (fun t ht hW => ⟨⟨0, (), rfl, (by show 0 ≤ (0 : Int32).toInt ∧ (0 : Int32).toInt ≤ 1; first | with_reducible assumption | decide | ((omega))), y_3, y_4, f_5, (by show 0 ≤ (y_4 : Int32).toInt ∧ (y_4 : Int32).toInt ≤ 128; first | with_reducible assumption | ((omega))), by rw [ht]; exact hP9, va_K.moved hW.alike hK9, hD9⟩, hS.F ht⟩) hS.2.2 dX10_readChain_23
set_option maxHeartbeats 4000000 in
set_option maxRecDepth 100000 in
theorem s_X10_readChain_0 (l : Launch) (F L : Nat) (hF : 10 ≤ F) (hL : 200 ≤ L) (rk : Int) (F0 L0 : Nat) (hF0 : F0 ≤ F) (hL0 : L0 ≤ L) (ih0 : ka_X10_readChain_1 l F0 L0 rk) (dC : Nat → ClassId) (dI : Nat → Nat → Nat) (h0 : Nat) (h1 : Nat) (h2 : Nat) (h3 : Nat) (h4 : Nat) (h5 : Nat) (cint : ClassId) (sz : Nat) (p1 : Int32) (tp1 : 0 ≤ p1.toInt ∧ p1.toInt ≤ 6) (n0_size : Int32) (n0_place : Int32) (f1 : Nat → Int32) (n2_size : Int32) (n2_top : Int32) (f3 : Nat → Int32) (tn0_size : kk_bx (0 ≤ n0_size.toInt ∧ n0_size.toInt ≤ 120)) (bf1 : ∀ j, j < 120 → 0 ≤ (f1 j).toInt ∧ (f1 j).toInt ≤ 255) (tn2_size : kk_bx (0 ≤ n2_size.toInt ∧ n2_size.toInt ≤ 128)) (tn2_top : kk_bx (0 ≤ n2_top.toInt ∧ n2_top.toInt ≤ 64)) (pr0 : (6 ≤ p1.toInt + rk)) (aNAMES : Nat) : Met l yX10_readChain wsX10_readChain ({ frames := F + 1, cells := 0, slots := 0, locals := L + 24 }) (va_Pc [.ref h0, .int 0, .int p1] (fun U => U.heap.size = sz ∧ va_P (dC, dI) vwCl [(h0, kO10 h1 n0_size n0_place h2), (h1, kAi cint 120 f1), (h2, kO4 h3 n2_size h4 h5 n2_top), (h3, kAi cint 128 f3)] U.heap ∧ va_K (dC, dI) vwCl [(cint, .int)] U ∧ va_D (fun _ => True) [(h0, kO10 h1 n0_size n0_place h2), (h1, kAi cint 120 f1), (h2, kO4 h3 n2_size h4 h5 n2_top), (h3, kAi cint 128 f3)] ∧ va_Z "KinkStreet$Law" "NAMES" "[C" (.ref aNAMES) (va_A [(h0, kO10 h1 n0_size n0_place h2), (h1, kAi cint 120 f1), (h2, kO4 h3 n2_size h4 h5 n2_top), (h3, kAi cint 128 f3)] sz) U U.heap ∧ va_T .char aNAMES 8 tb_NAMES (va_A [(h0, kO10 h1 n0_size n0_place h2), (h1, kAi cint 120 f1), (h2, kO4 h3 n2_size h4 h5 n2_top), (h3, kAi cint 128 f3)] sz) U U.heap)) (va_Qi (fun (r : Int32) (_ : Unit) => (0 ≤ r.toInt ∧ r.toInt ≤ 1)) (fun (_ : Unit) t => ∃ (m0_place : Int32) (m2_size : Int32) (g3 : Nat → Int32), (0 ≤ m2_size.toInt ∧ m2_size.toInt ≤ 128) ∧ va_P (dC, dI) vwCl [(h0, kO10 h1 n0_size m0_place h2), (h1, kAi cint 120 f1), (h2, kO4 h3 m2_size h4 h5 n2_top), (h3, kAi cint 128 g3)] t.heap ∧ va_K (dC, dI) vwCl [] t ∧ va_D (va_A [(h0, kO10 h1 n0_size n0_place h2), (h1, kAi cint 120 f1), (h2, kO4 h3 n2_size h4 h5 n2_top), (h3, kAi cint 128 f3)] sz) [(h0, kO10 h1 n0_size m0_place h2), (h1, kAi cint 120 f1), (h2, kO4 h3 m2_size h4 h5 n2_top), (h3, kAi cint 128 g3)]) (va_A [(h0, kO10 h1 n0_size n0_place h2), (h1, kAi cint 120 f1), (h2, kO4 h3 n2_size h4 h5 n2_top), (h3, kAi cint 128 f3)] sz)) 0 0 (va_A [(h0, kO10 h1 n0_size n0_place h2), (h1, kAi cint 120 f1), (h2, kO4 h3 n2_size h4 h5 n2_top), (h3, kAi cint 128 f3)] sz) := by
  refine Met.ofW (cc := cX10_readChain) (maxL := 5) (ret := (some .boolean)) (by decide) rfl ?_
  intro p e s m args below meth c s₁ B hml hv
  obtain ⟨rfl, hsz, hP, hK, hD0, hZNAMES, hTNAMES⟩ := hv
  have hx := B.exec
  have hb := B.bytes
  have hr := B.returns
  have hts := atoms_spec (ws := wsX10_readChain) B.pre
  have hown : s.vm.findClass RX10 = some m.cls := findClass_of_methodNamed B.named
  have hlocks := B.notSynchronized
  subst hsz
  have hD := hD0.self (sz := s.heap.size)
  generalize hAe : va_A [(h0, kO10 h1 n0_size n0_place h2), (h1, kAi cint 120 f1), (h2, kO4 h3 n2_size h4 h5 n2_top), (h3, kAi cint 128 f3)] s.heap.size = A at hD hZNAMES hTNAMES ⊢
  have hA : ∀ q : Nat, s.heap.size ≤ q → A q := fun q h => by rw [← hAe]; exact Or.inr h
  have hS : va_S A s.heap s.heap [] := va_S.rf
  have hP : va_P (dC, dI) vwCl [(h0, kO10 h1 n0_size n0_place h2), (h1, kAi cint 120 f1), (h2, kO4 h3 n2_size h4 h5 n2_top), (h3, kAi cint 128 f3)] s.heap := hP
  have hl := lv_entry ([.ref h0, .int 0, .int p1]) (n := 5) (Nat.le_of_ble_eq_true rfl)
  rw [lg_entry_eq]
  generalize (lg_sl ([.ref h0, .int 0, .int p1]) ++ List.replicate (5 - (lg_sl ([.ref h0, .int 0, .int p1])).length) Slot.unset).toArray = ls at hl ⊢
  have hl : lv_has ls 5 [(0, .ref h0), (1, .int 0), (2, .int p1)] := hl
  refine lv_iload_n hx hb dX10_readChain_0 rfl (lv_at hl 1 rfl) ?_
  refine lv_iconst (v := 5) hx hb dX10_readChain_1 kk_ic_5 ?_
  refine lv_icmp_lt (tgt := 11) hx hb dX10_readChain_2 (by decide) (fun _ => ?_) (fun c => absurd c (by decide))
  refine lv_aload_n hx hb dX10_readChain_11 rfl (lv_at hl 0 rfl) ?_
  refine lv_iload_n hx hb dX10_readChain_12 rfl (lv_at hl 1 rfl) ?_
  refine lv_iconst (v := 1) hx hb dX10_readChain_13 kk_ic_1 ?_
  refine lv_iadd hx hb dX10_readChain_14 ?_
  refine lv_topi (fun y_1 e_1 => ?_)
  obtain rfl : y_1 = 1 := e_1.trans (by decide)
  refine lv_iload_n hx hb dX10_readChain_15 rfl (lv_at hl 2 rfl) ?_
  obtain ⟨hPc, hDc, hFc⟩ := kk_cutout (wc := [(h0, kO10 h1 n0_size n0_place h2), (h1, kAi cint 120 f1), (h2, kO4 h3 n2_size h4 h5 n2_top), (h3, kAi cint 128 f3)]) hP hD hS hA [0, 1, 2, 3] (by decide) rfl
  have hKc := kk_Ks (tq := [(cint, .int)]) hK [0] rfl
  refine va_calli (va_runV (As := [.int 1, .int p1]) (rest := []) ⟨hx, hb, hml, hown, hts⟩ (ih0 dC dI h0 h1 h2 h3 h4 h5 cint s.heap.size p1 tp1 n0_size n0_place f1 n2_size n2_top f3 tn0_size bf1 tn2_size tn2_top (by show (6 ≤ (p1 : Int32).toInt + rk); first | with_reducible assumption | (omega)) aNAMES) (cwV 2 hts gX10_readChain_X10_readChain rfl rfl rfl ⟨rfl, kh_X10_readChain⟩ ⟨Nat.add_le_add_right hF0 1, kk_rmL hL0 (Nat.le_of_ble_eq_true rfl)⟩) ⟨fun a U g mk q => by obtain ⟨q0, q1, qP, qK, qD, qx0, qx1⟩ := q; exact ⟨q0, q1, qP, va_K.moved (u := U) (U := U.calling g mk a) (Vm.Alike.refl U.vm) qK, qD, va_Z.moved (u := U) (U := U.calling g mk a) (Vm.Alike.refl U.vm) qx0, va_T.moved (u := U) (U := U.calling g mk a) (Vm.Alike.refl U.vm) qx1⟩, va_recv hKc hPc (ci := 10) (q0 := 0) rfl rfl, fun U hU hW => ⟨rfl, by rw [hU], by rw [hU]; exact hPc, va_K.moved hW.alike hKc, hDc.weaken (fun _ _ _ _ => trivial), by rw [hU]; exact ((hZNAMES.kept (fun a h1 h2 => hS.2.1 a h1 h2)).narrow hFc).moved hW.alike, by rw [hU]; exact ((hTNAMES.kept (fun a h1 h2 => hS.2.1 a h1 h2)).narrow hFc).moved hW.alike⟩⟩ rfl rfl hl.1 rfl (lv_room (Nat.le_of_ble_eq_true rfl)) dX10_readChain_16 ⟨Nat.le_of_ble_eq_true rfl, Nat.le_of_ble_eq_true rfl⟩) hS (fun q _ h => hFc q h) hFc (fun r_2 u t H1 locs ht hvm hw hB hz1 hk1 hS => ?_)
  refine hB.elim (fun y_3 hB => ?_)
  refine hB.elim (fun y_4 hB => ?_)
  refine hB.elim (fun f_5 hB => ?_)
  refine hB.elim (fun by_4 hB => ?_)
  have hP1 := hB.1
  have hK1 := hB.2.1
  have hD1 := hB.2.2
  rw [ht] at hP1
  have hK1 := va_K.moved hvm.symm hK1
  obtain ⟨hP, hD⟩ := va_join (wr := []) (w1 := [(h0, kO10 h1 n0_size y_3 h2), (h1, kAi cint 120 f1), (h2, kO4 h3 y_4 h4 h5 n2_top), (h3, kAi cint 128 f_5)]) hP hD [0, 1, 2, 3] [] rfl rfl (by decide) (by decide) hk1 hFc hP1 hD1
  generalize H1 = H at hP hS ⊢
  have hP : va_P (dC, dI) vwCl [(h0, kO10 h1 n0_size y_3 h2), (h1, kAi cint 120 f1), (h2, kO4 h3 y_4 h4 h5 n2_top), (h3, kAi cint 128 f_5)] H := hP
  have hD : va_D A [(h0, kO10 h1 n0_size y_3 h2), (h1, kAi cint 120 f1), (h2, kO4 h3 y_4 h4 h5 n2_top), (h3, kAi cint 128 f_5)] := hD
  have t_2 : 0 ≤ r_2.toInt ∧ r_2.toInt ≤ 1 := hw
  refine lv_if_ne (tgt := 24) hx hb dX10_readChain_19 (by decide) (fun c_6 => ?_) (fun c_6 => ?_)
  · have t_6 : r_2.toInt ≠ 0 := kk_ne c_6
    refine lv_iconst (v := 0) hx hb dX10_readChain_24 kk_ic_0 ?_
    refine lv_istore_n hx hb dX10_readChain_25 rfl hl (by decide) (rfl : _ = ([(3, .int 0), (0, .ref h0), (1, .int 0), (2, .int p1)] : List (Nat × Value))) (fun ls hl => ?_)
    refine kk_loop (σ := Int32 × Int32 × Int32 × (Nat → Int32)) (fun x H locs ls => (0 ≤ x.1.toInt ∧ x.1.toInt ≤ 120) ∧ (0 ≤ x.2.2.1.toInt ∧ x.2.2.1.toInt ≤ 128) ∧ va_P (dC, dI) vwCl [(h0, kO10 h1 n0_size x.2.1 h2), (h1, kAi cint 120 f1), (h2, kO4 h3 x.2.2.1 h4 h5 n2_top), (h3, kAi cint 128 x.2.2.2)] H ∧ va_D A [(h0, kO10 h1 n0_size x.2.1 h2), (h1, kAi cint 120 f1), (h2, kO4 h3 x.2.2.1 h4 h5 n2_top), (h3, kAi cint 128 x.2.2.2)] ∧ va_S A s.heap H locs ∧ lv_has ls 5 [(3, .int x.1), (0, .ref h0), (1, .int 0), (2, .int p1)]) (fun x => ((120 : Int) - x.1.toInt).toNat) ?_ (0, y_3, y_4, f_5) _ _ _ ⟨(by show 0 ≤ (0 : Int32).toInt ∧ (0 : Int32).toInt ≤ 120; first | with_reducible assumption | decide | ((omega))), (by show 0 ≤ (y_4 : Int32).toInt ∧ (y_4 : Int32).toInt ≤ 128; first | with_reducible assumption | ((omega))), hP, hD, hS, hl⟩
    rintro ⟨i_7_0, i_7_1, i_7_2, f_7_3⟩ H locs ls ⟨t_7_0, t_7_2, hP, hD, hS, hl⟩ ih_7
    have t_7_0 : (0 ≤ i_7_0.toInt ∧ i_7_0.toInt ≤ 120) := t_7_0
    have t_7_2 : (0 ≤ i_7_2.toInt ∧ i_7_2.toInt ≤ 128) := t_7_2
    have hl : lv_has ls 5 [(3, .int i_7_0), (0, .ref h0), (1, .int 0), (2, .int p1)] := hl
    have hP : va_P (dC, dI) vwCl [(h0, kO10 h1 n0_size i_7_1 h2), (h1, kAi cint 120 f1), (h2, kO4 h3 i_7_2 h4 h5 n2_top), (h3, kAi cint 128 f_7_3)] H := hP
    have hD : va_D A [(h0, kO10 h1 n0_size i_7_1 h2), (h1, kAi cint 120 f1), (h2, kO4 h3 i_7_2 h4 h5 n2_top), (h3, kAi cint 128 f_7_3)] := hD
    refine lv_iload_n hx hb dX10_readChain_26 rfl (lv_at hl 0 rfl) ?_
    refine lv_bipush (v := 120) hx hb dX10_readChain_27 kk_bi_120 ?_
    refine lv_icmp_ge (tgt := 94) hx hb dX10_readChain_29 (by decide) (fun c_8 => ?_) (fun c_8 => ?_)
    · have t_8 : 120 ≤ i_7_0.toInt := kk_le c_8
      refine lv_iconst (v := 1) hx hb dX10_readChain_94 kk_ic_1 ?_
      obtain ⟨hP9, hD9⟩ := kk_leafout (wc := [(h0, kO10 h1 n0_size i_7_1 h2), (h1, kAi cint 120 f1), (h2, kO4 h3 i_7_2 h4 h5 n2_top), (h3, kAi cint 128 f_7_3)]) hP hD [0, 1, 2, 3] (by decide) rfl
      have hK9 := kk_Ks (tq := []) hK [] rfl
      exact W.zret (v := 1) hx hb hr rfl (fun t ht hW => ⟨⟨1, (), rfl, (by show 0 ≤ (1 : Int32).toInt ∧ (1 : Int32).toInt ≤ 1; first | with_reducible assumption | decide | ((omega))), i_7_1, i_7_2, f_7_3, (by show 0 ≤ (i_7_2 : Int32).toInt ∧ (i_7_2 : Int32).toInt ≤ 128; first | with_reducible assumption | ((omega))), by rw [ht]; exact hP9, va_K.moved hW.alike hK9, hD9⟩, hS.F ht⟩) hS.2.2 dX10_readChain_95
    · have t_8 : i_7_0.toInt < 120 := kk_nle c_8
      refine lv_iload_n hx hb dX10_readChain_32 rfl (lv_at hl 2 rfl) ?_
      refine lv_aload_n hx hb dX10_readChain_33 rfl (lv_at hl 1 rfl) ?_
      obtain ⟨hPc, hDc, hFc⟩ := kk_cutout (wc := [(h0, kO10 h1 n0_size i_7_1 h2), (h1, kAi cint 120 f1)]) hP hD hS hA [0, 1] (by decide) rfl
      have hKc := kk_Ks (tq := [(cint, .int)]) hK [0] rfl
      refine va_calli (va_runV (As := []) (rest := [.int 0]) ⟨hx, hb, hml, hown, hts⟩ (g_X10_next_0 l dC dI h0 h1 h2 cint H.size n0_size i_7_1 f1 tn0_size bf1) (cwV 0 hts gX10_readChain_X10_next rfl rfl rfl ⟨rfl, kh_X10_next⟩ ⟨kk_rmF hF (Nat.le_of_ble_eq_true rfl), kk_rmM hL (Nat.le_of_ble_eq_true rfl)⟩) ⟨fun a U g mk q => by obtain ⟨q0, q1, qP, qK, qD⟩ := q; exact ⟨q0, q1, qP, va_K.moved (u := U) (U := U.calling g mk a) (Vm.Alike.refl U.vm) qK, qD⟩, va_recv hKc hPc (ci := 10) (q0 := 0) rfl rfl, fun U hU hW => ⟨rfl, by rw [hU], by rw [hU]; exact hPc, va_K.moved hW.alike hKc, hDc.weaken (fun _ _ _ _ => trivial)⟩⟩ rfl rfl hl.1 rfl (lv_room (Nat.le_of_ble_eq_true rfl)) dX10_readChain_34 ⟨Nat.le_of_ble_eq_true rfl, Nat.le_of_ble_eq_true rfl⟩) hS (fun q _ h => hFc q h) hFc (fun r_9 u t H1 locs ht hvm hw hB hz1 hk1 hS => ?_)
      obtain ⟨hP1, hK1, hD1⟩ := hB
      rw [ht] at hP1
      have hK1 := va_K.moved hvm.symm hK1
      obtain ⟨hP, hD⟩ := va_join (wr := [(h2, kO4 h3 i_7_2 h4 h5 n2_top), (h3, kAi cint 128 f_7_3)]) (w1 := [(h0, kO10 h1 n0_size i_7_1 h2), (h1, kAi cint 120 f1)]) hP hD [0, 1] [2, 3] rfl rfl (by decide) (by decide) hk1 hFc hP1 hD1
      generalize H1 = H at hP hS ⊢
      have hP : va_P (dC, dI) vwCl [(h2, kO4 h3 i_7_2 h4 h5 n2_top), (h3, kAi cint 128 f_7_3), (h0, kO10 h1 n0_size i_7_1 h2), (h1, kAi cint 120 f1)] H := hP
      have hD : va_D A [(h2, kO4 h3 i_7_2 h4 h5 n2_top), (h3, kAi cint 128 f_7_3), (h0, kO10 h1 n0_size i_7_1 h2), (h1, kAi cint 120 f1)] := hD
      have t_9 : (-1) ≤ r_9.toInt ∧ r_9.toInt ≤ 255 := hw
      obtain ⟨hPc, hDc, hFc⟩ := kk_cutout (wc := []) hP hD hS hA [] (by decide) rfl
      have hKc := kk_Ks (tq := []) hK [] rfl
      refine va_calli (va_runS (As := [.int 0, .int r_9]) (rest := []) ⟨hx, hb, hml, hown, hts⟩ (g_X10_joins_4 l dC dI H.size r_9) (va_cwS 2 hts gX10_readChain_X10_joins rfl rfl rfl kh_X10_joins ⟨kk_rmF hF (Nat.le_of_ble_eq_true rfl), kk_rmM hL (Nat.le_of_ble_eq_true rfl)⟩) ⟨fun a U g mk q => by obtain ⟨q0, q1, qP, qK, qD⟩ := q; exact ⟨q0, q1, qP, va_K.moved (u := U) (U := U.calling g mk a) (Vm.Alike.refl U.vm) qK, qD⟩, fun U hU hW => ⟨rfl, by rw [hU], by rw [hU]; exact hPc, va_K.moved hW.alike hKc, hDc.weaken (fun _ _ _ _ => trivial)⟩⟩ rfl rfl hl.1 rfl (lv_room (Nat.le_of_ble_eq_true rfl)) dX10_readChain_37 ⟨Nat.le_of_ble_eq_true rfl, Nat.le_of_ble_eq_true rfl⟩) hS (fun q _ h => hFc q h) hFc (fun r_10 u t H1 locs ht hvm hw hB hz1 hk1 hS => ?_)
      obtain ⟨hP1, hK1, hD1⟩ := hB
      rw [ht] at hP1
      have hK1 := va_K.moved hvm.symm hK1
      obtain ⟨hP, hD⟩ := va_join (wr := [(h2, kO4 h3 i_7_2 h4 h5 n2_top), (h3, kAi cint 128 f_7_3), (h0, kO10 h1 n0_size i_7_1 h2), (h1, kAi cint 120 f1)]) (w1 := []) hP hD [] [0, 1, 2, 3] rfl rfl (by decide) (by decide) hk1 hFc hP1 hD1
      generalize H1 = H at hP hS ⊢
      have hP : va_P (dC, dI) vwCl [(h2, kO4 h3 i_7_2 h4 h5 n2_top), (h3, kAi cint 128 f_7_3), (h0, kO10 h1 n0_size i_7_1 h2), (h1, kAi cint 120 f1)] H := hP
      have hD : va_D A [(h2, kO4 h3 i_7_2 h4 h5 n2_top), (h3, kAi cint 128 f_7_3), (h0, kO10 h1 n0_size i_7_1 h2), (h1, kAi cint 120 f1)] := hD
      have t_10 : 0 ≤ r_10.toInt ∧ r_10.toInt ≤ 1 := hw
      refine lv_if_eq (tgt := 94) hx hb dX10_readChain_40 (by decide) (fun c_11 => ?_) (fun c_11 => ?_)
      · have t_11 : r_10.toInt = 0 := kk_eq c_11
        refine lv_iconst (v := 1) hx hb dX10_readChain_94 kk_ic_1 ?_
        obtain ⟨hP9, hD9⟩ := kk_leafout (wc := [(h0, kO10 h1 n0_size i_7_1 h2), (h1, kAi cint 120 f1), (h2, kO4 h3 i_7_2 h4 h5 n2_top), (h3, kAi cint 128 f_7_3)]) hP hD [2, 3, 0, 1] (by decide) rfl
        have hK9 := kk_Ks (tq := []) hK [] rfl
        exact W.zret (v := 1) hx hb hr rfl (fun t ht hW => ⟨⟨1, (), rfl, (by show 0 ≤ (1 : Int32).toInt ∧ (1 : Int32).toInt ≤ 1; first | with_reducible assumption | decide | ((omega))), i_7_1, i_7_2, f_7_3, (by show 0 ≤ (i_7_2 : Int32).toInt ∧ (i_7_2 : Int32).toInt ≤ 128; first | with_reducible assumption | ((omega))), by rw [ht]; exact hP9, va_K.moved hW.alike hK9, hD9⟩, hS.F ht⟩) hS.2.2 dX10_readChain_95
      · have t_11 : r_10.toInt ≠ 0 := kk_ne c_11
        refine lv_aload_n hx hb dX10_readChain_43 rfl (lv_at hl 1 rfl) ?_
        obtain ⟨hPc, hDc, hFc⟩ := kk_cutout (wc := [(h0, kO10 h1 n0_size i_7_1 h2), (h1, kAi cint 120 f1)]) hP hD hS hA [2, 3] (by decide) rfl
        have hKc := kk_Ks (tq := [(cint, .int)]) hK [0] rfl
        refine va_calli (va_runV (As := []) (rest := []) ⟨hx, hb, hml, hown, hts⟩ (g_X10_next_0 l dC dI h0 h1 h2 cint H.size n0_size i_7_1 f1 tn0_size bf1) (cwV 0 hts gX10_readChain_X10_next rfl rfl rfl ⟨rfl, kh_X10_next⟩ ⟨kk_rmF hF (Nat.le_of_ble_eq_true rfl), kk_rmM hL (Nat.le_of_ble_eq_true rfl)⟩) ⟨fun a U g mk q => by obtain ⟨q0, q1, qP, qK, qD⟩ := q; exact ⟨q0, q1, qP, va_K.moved (u := U) (U := U.calling g mk a) (Vm.Alike.refl U.vm) qK, qD⟩, va_recv hKc hPc (ci := 10) (q0 := 0) rfl rfl, fun U hU hW => ⟨rfl, by rw [hU], by rw [hU]; exact hPc, va_K.moved hW.alike hKc, hDc.weaken (fun _ _ _ _ => trivial)⟩⟩ rfl rfl hl.1 rfl (lv_room (Nat.le_of_ble_eq_true rfl)) dX10_readChain_44 ⟨Nat.le_of_ble_eq_true rfl, Nat.le_of_ble_eq_true rfl⟩) hS (fun q _ h => hFc q h) hFc (fun r_12 u t H1 locs ht hvm hw hB hz1 hk1 hS => ?_)
        obtain ⟨hP1, hK1, hD1⟩ := hB
        rw [ht] at hP1
        have hK1 := va_K.moved hvm.symm hK1
        obtain ⟨hP, hD⟩ := va_join (wr := [(h2, kO4 h3 i_7_2 h4 h5 n2_top), (h3, kAi cint 128 f_7_3)]) (w1 := [(h0, kO10 h1 n0_size i_7_1 h2), (h1, kAi cint 120 f1)]) hP hD [2, 3] [0, 1] rfl rfl (by decide) (by decide) hk1 hFc hP1 hD1
        generalize H1 = H at hP hS ⊢
        have hP : va_P (dC, dI) vwCl [(h2, kO4 h3 i_7_2 h4 h5 n2_top), (h3, kAi cint 128 f_7_3), (h0, kO10 h1 n0_size i_7_1 h2), (h1, kAi cint 120 f1)] H := hP
        have hD : va_D A [(h2, kO4 h3 i_7_2 h4 h5 n2_top), (h3, kAi cint 128 f_7_3), (h0, kO10 h1 n0_size i_7_1 h2), (h1, kAi cint 120 f1)] := hD
        have t_12 : (-1) ≤ r_12.toInt ∧ r_12.toInt ≤ 255 := hw
        refine lv_istore hx hb dX10_readChain_47 hl (by decide) (rfl : _ = ([(4, .int r_12), (3, .int i_7_0), (0, .ref h0), (1, .int 0), (2, .int p1)] : List (Nat × Value))) (fun ls hl => ?_)
        refine lv_aload_n hx hb dX10_readChain_49 rfl (lv_at hl 2 rfl) ?_
        refine lv_dup hx hb dX10_readChain_50 rfl ?_
        refine va_get (D := (dC, dI)) (ci := 10) (v := .int i_7_1) (C := RX10) (T := TX10) (N := 4) hx hb hts (fun _ h => List.mem_cons_of_mem _ (List.mem_append_left _ (List.mem_append_right _ h))) hown hK hP 2 rfl rfl 2 (by decide) (hts (.fieldLink RX10 17 "KinkStreet$Tape" "place" "I") (List.mem_of_getElem? (i := 1) rfl)) (fun _ h9 => h9) rfl dX10_readChain_51 ?_
        refine lv_iconst (v := 1) hx hb dX10_readChain_54 kk_ic_1 ?_
        refine lv_iadd hx hb dX10_readChain_55 ?_
        refine va_put (D := (dC, dI)) (ci := 10) (v := .int (i_7_1 + 1)) (ty := .int) (C := RX10) (T := TX10) (N := 4) hx hb hts (fun _ h => List.mem_cons_of_mem _ (List.mem_append_left _ (List.mem_append_right _ h))) tyX10 tyX10_ok nmX10 hown hK hP hD hS 2 rfl rfl 2 (by decide) (hts (.fieldLink RX10 17 "KinkStreet$Tape" "place" "I") (List.mem_of_getElem? (i := 1) rfl)) (fun _ h9 => h9) rfl (by decide +kernel) rfl rfl (Nat.le_of_ble_eq_true rfl) dX10_readChain_56 (fun H locs hP hD hS => ?_)
        have hP : va_P (dC, dI) vwCl [(h2, kO4 h3 i_7_2 h4 h5 n2_top), (h3, kAi cint 128 f_7_3), (h0, kO10 h1 n0_size (i_7_1 + 1) h2), (h1, kAi cint 120 f1)] H := hP
        have hD : va_D A [(h2, kO4 h3 i_7_2 h4 h5 n2_top), (h3, kAi cint 128 f_7_3), (h0, kO10 h1 n0_size (i_7_1 + 1) h2), (h1, kAi cint 120 f1)] := hD
        refine lv_aload_n hx hb dX10_readChain_59 rfl (lv_at hl 2 rfl) ?_
        refine lv_iload_n hx hb dX10_readChain_60 rfl (lv_at hl 3 rfl) ?_
        refine lv_iconst (v := 1) hx hb dX10_readChain_61 kk_ic_1 ?_
        refine lv_iadd hx hb dX10_readChain_62 ?_
        refine lv_topi (fun y_13 e_13 => ?_)
        obtain rfl : y_13 = 1 := e_13.trans (by decide)
        refine lv_iload_n hx hb dX10_readChain_63 rfl (lv_at hl 4 rfl) ?_
        obtain ⟨hPc, hDc, hFc⟩ := kk_cutout (wc := [(h0, kO10 h1 n0_size (i_7_1 + 1) h2), (h1, kAi cint 120 f1), (h2, kO4 h3 i_7_2 h4 h5 n2_top), (h3, kAi cint 128 f_7_3)]) hP hD hS hA [2, 3, 0, 1] (by decide) rfl
        have hKc := kk_Ks (tq := [(cint, .int)]) hK [0] rfl
        refine va_calli (va_runV (As := [.int 1, .int p1]) (rest := []) ⟨hx, hb, hml, hown, hts⟩ (ih0 dC dI h0 h1 h2 h3 h4 h5 cint H.size p1 tp1 n0_size (i_7_1 + 1) f1 i_7_2 n2_top f_7_3 tn0_size bf1 (by show 0 ≤ (i_7_2 : Int32).toInt ∧ (i_7_2 : Int32).toInt ≤ 128; first | with_reducible assumption | ((omega))) tn2_top (by show (6 ≤ (p1 : Int32).toInt + rk); first | with_reducible assumption | (omega)) aNAMES) (cwV 2 hts gX10_readChain_X10_readChain rfl rfl rfl ⟨rfl, kh_X10_readChain⟩ ⟨Nat.add_le_add_right hF0 1, kk_rmL hL0 (Nat.le_of_ble_eq_true rfl)⟩) ⟨fun a U g mk q => by obtain ⟨q0, q1, qP, qK, qD, qx0, qx1⟩ := q; exact ⟨q0, q1, qP, va_K.moved (u := U) (U := U.calling g mk a) (Vm.Alike.refl U.vm) qK, qD, va_Z.moved (u := U) (U := U.calling g mk a) (Vm.Alike.refl U.vm) qx0, va_T.moved (u := U) (U := U.calling g mk a) (Vm.Alike.refl U.vm) qx1⟩, va_recv hKc hPc (ci := 10) (q0 := 0) rfl rfl, fun U hU hW => ⟨rfl, by rw [hU], by rw [hU]; exact hPc, va_K.moved hW.alike hKc, hDc.weaken (fun _ _ _ _ => trivial), by rw [hU]; exact ((hZNAMES.kept (fun a h1 h2 => hS.2.1 a h1 h2)).narrow hFc).moved hW.alike, by rw [hU]; exact ((hTNAMES.kept (fun a h1 h2 => hS.2.1 a h1 h2)).narrow hFc).moved hW.alike⟩⟩ rfl rfl hl.1 rfl (lv_room (Nat.le_of_ble_eq_true rfl)) dX10_readChain_64 ⟨Nat.le_of_ble_eq_true rfl, Nat.le_of_ble_eq_true rfl⟩) hS (fun q _ h => hFc q h) hFc (fun r_14 u t H1 locs ht hvm hw hB hz1 hk1 hS => ?_)
        refine hB.elim (fun y_15 hB => ?_)
        refine hB.elim (fun y_16 hB => ?_)
        refine hB.elim (fun f_17 hB => ?_)
        refine hB.elim (fun by_16 hB => ?_)
        have hP1 := hB.1
        have hK1 := hB.2.1
        have hD1 := hB.2.2
        rw [ht] at hP1
        have hK1 := va_K.moved hvm.symm hK1
        obtain ⟨hP, hD⟩ := va_join (wr := []) (w1 := [(h0, kO10 h1 n0_size y_15 h2), (h1, kAi cint 120 f1), (h2, kO4 h3 y_16 h4 h5 n2_top), (h3, kAi cint 128 f_17)]) hP hD [2, 3, 0, 1] [] rfl rfl (by decide) (by decide) hk1 hFc hP1 hD1
        generalize H1 = H at hP hS ⊢
        have hP : va_P (dC, dI) vwCl [(h0, kO10 h1 n0_size y_15 h2), (h1, kAi cint 120 f1), (h2, kO4 h3 y_16 h4 h5 n2_top), (h3, kAi cint 128 f_17)] H := hP
        have hD : va_D A [(h0, kO10 h1 n0_size y_15 h2), (h1, kAi cint 120 f1), (h2, kO4 h3 y_16 h4 h5 n2_top), (h3, kAi cint 128 f_17)] := hD
        have t_14 : 0 ≤ r_14.toInt ∧ r_14.toInt ≤ 1 := hw
        refine lv_if_ne (tgt := 72) hx hb dX10_readChain_67 (by decide) (fun c_18 => ?_) (fun c_18 => ?_)
        · have t_18 : r_14.toInt ≠ 0 := kk_ne c_18
          refine lv_aload_n hx hb dX10_readChain_72 rfl (lv_at hl 2 rfl) ?_
          refine va_get (D := (dC, dI)) (ci := 10) (v := .ref h2) (C := RX10) (T := TX10) (N := 4) hx hb hts (fun _ h => List.mem_cons_of_mem _ (List.mem_append_left _ (List.mem_append_right _ h))) hown hK hP 0 rfl rfl 3 (by decide) (hts (.fieldLink RX10 20 "KinkStreet$Tape" "law" "LKinkStreet$Law;") (List.mem_of_getElem? (i := 2) rfl)) (fun _ h9 => h9) rfl dX10_readChain_73 ?_
          refine lv_iload hx hb dX10_readChain_76 (lv_at hl 0 rfl) ?_
          obtain ⟨hPc, hDc, hFc⟩ := kk_cutout (wc := [(h2, kO4 h3 y_16 h4 h5 n2_top), (h3, kAi cint 128 f_17)]) hP hD hS hA [2, 3] (by decide) rfl
          have hKc := kk_Ks (tq := [(cint, .int)]) hK [0] rfl
          refine va_callv (va_runV (As := [.int r_12]) (rest := []) ⟨hx, hb, hml, hown, hts⟩ (g_X4_append_0 l dC dI h2 h3 h4 h5 cint H.size r_12 y_16 n2_top f_17 (by show 0 ≤ (y_16 : Int32).toInt ∧ (y_16 : Int32).toInt ≤ 128; first | with_reducible assumption | ((omega))) tn2_top) (cwV 1 hts gX10_readChain_X4_append rfl rfl rfl ⟨rfl, kh_X4_append⟩ ⟨kk_rmF hF (Nat.le_of_ble_eq_true rfl), kk_rmM hL (Nat.le_of_ble_eq_true rfl)⟩) ⟨fun a U g mk q => by obtain ⟨q0, q1, qP, qK, qD⟩ := q; exact ⟨q0, q1, qP, va_K.moved (u := U) (U := U.calling g mk a) (Vm.Alike.refl U.vm) qK, qD⟩, va_recv hKc hPc (ci := 4) (q0 := 0) rfl rfl, fun U hU hW => ⟨rfl, by rw [hU], by rw [hU]; exact hPc, va_K.moved hW.alike hKc, hDc.weaken (fun _ _ _ _ => trivial)⟩⟩ rfl rfl hl.1 rfl (lv_room (Nat.le_of_ble_eq_true rfl)) dX10_readChain_78 ⟨Nat.le_of_ble_eq_true rfl, Nat.le_of_ble_eq_true rfl⟩) hS (fun q _ h => hFc q h) hFc (fun u t H1 locs ht hvm hw hB hz1 hk1 hS => ?_)
          refine hB.elim (fun y_20 hB => ?_)
          refine hB.elim (fun f_21 hB => ?_)
          refine hB.elim (fun by_20 hB => ?_)
          have hP1 := hB.1
          have hK1 := hB.2.1
          have hD1 := hB.2.2
          rw [ht] at hP1
          have hK1 := va_K.moved hvm.symm hK1
          obtain ⟨hP, hD⟩ := va_join (wr := [(h0, kO10 h1 n0_size y_15 h2), (h1, kAi cint 120 f1)]) (w1 := [(h2, kO4 h3 y_20 h4 h5 n2_top), (h3, kAi cint 128 f_21)]) hP hD [2, 3] [0, 1] rfl rfl (by decide) (by decide) hk1 hFc hP1 hD1
          generalize H1 = H at hP hS ⊢
          have hP : va_P (dC, dI) vwCl [(h0, kO10 h1 n0_size y_15 h2), (h1, kAi cint 120 f1), (h2, kO4 h3 y_20 h4 h5 n2_top), (h3, kAi cint 128 f_21)] H := hP
          have hD : va_D A [(h0, kO10 h1 n0_size y_15 h2), (h1, kAi cint 120 f1), (h2, kO4 h3 y_20 h4 h5 n2_top), (h3, kAi cint 128 f_21)] := hD
          refine lv_iload_n hx hb dX10_readChain_81 rfl (lv_at hl 3 rfl) ?_
          refine lv_iconst (v := 2) hx hb dX10_readChain_82 kk_ic_2 ?_
          refine lv_icmp_ne (tgt := 88) hx hb dX10_readChain_83 (by decide) (fun _ => ?_) (fun c => absurd c (by decide))
          refine lv_iinc (v := (i_7_0 + 1)) hx hb dX10_readChain_88 hl (k := 1) rfl (by first | rfl | decide) (by decide) (rfl : _ = ([(3, .int (i_7_0 + 1)), (4, .int r_12), (0, .ref h0), (1, .int 0), (2, .int p1)] : List (Nat × Value))) (fun ls hl => ?_)
          refine lv_goto (tgt := 26) hx hb dX10_readChain_91 (by decide) ?_
          try have := kk_add2 (x := i_7_0) (y := 1) (a := i_7_0.toInt) (b := 1) rfl rfl (by omega) (by omega)
          exact ih_7 ((i_7_0 + 1), y_15, y_20, f_21) _ _ _ (by show ((120 : Int) - ((i_7_0 + 1) : Int32).toInt).toNat < ((120 : Int) - i_7_0.toInt).toNat; exact kk_mu (by omega) (by omega)) ⟨(by show 0 ≤ ((i_7_0 + 1) : Int32).toInt ∧ ((i_7_0 + 1) : Int32).toInt ≤ 120; first | with_reducible assumption | ((omega))), (by show 0 ≤ (y_20 : Int32).toInt ∧ (y_20 : Int32).toInt ≤ 128; first | with_reducible assumption | ((omega))), hP, hD, hS, lv_sub hl [0, 2, 3, 4] rfl⟩
        · have t_18 : r_14.toInt = 0 := kk_eq c_18
          refine lv_iconst (v := 0) hx hb dX10_readChain_70 kk_ic_0 ?_
          obtain ⟨hP9, hD9⟩ := kk_leafout (wc := [(h0, kO10 h1 n0_size y_15 h2), (h1, kAi cint 120 f1), (h2, kO4 h3 y_16 h4 h5 n2_top), (h3, kAi cint 128 f_17)]) hP hD [0, 1, 2, 3] (by decide) rfl
          have hK9 := kk_Ks (tq := []) hK [] rfl
          exact W.zret (v := 0) hx hb hr rfl (fun t ht hW => ⟨⟨0, (), rfl, (by show 0 ≤ (0 : Int32).toInt ∧ (0 : Int32).toInt ≤ 1; first | with_reducible assumption | decide | ((omega))), y_15, y_16, f_17, (by show 0 ≤ (y_16 : Int32).toInt ∧ (y_16 : Int32).toInt ≤ 128; first | with_reducible assumption | ((omega))), by rw [ht]; exact hP9, va_K.moved hW.alike hK9, hD9⟩, hS.F ht⟩) hS.2.2 dX10_readChain_71
  · have t_6 : r_2.toInt = 0 := kk_eq c_6
    refine lv_iconst (v := 0) hx hb dX10_readChain_22 kk_ic_0 ?_
    obtain ⟨hP9, hD9⟩ := kk_leafout (wc := [(h0, kO10 h1 n0_size y_3 h2), (h1, kAi cint 120 f1), (h2, kO4 h3 y_4 h4 h5 n2_top), (h3, kAi cint 128 f_5)]) hP hD [0, 1, 2, 3] (by decide) rfl
    have hK9 := kk_Ks (tq := []) hK [] rfl
    exact W.zret (v := 0) hx hb hr rfl (fun t ht hW => ⟨⟨0, (), rfl, (by show 0 ≤ (0 : Int32).toInt ∧ (0 : Int32).toInt ≤ 1; first | with_reducible assumption | decide | ((omega))), y_3, y_4, f_5, (by show 0 ≤ (y_4 : Int32).toInt ∧ (y_4 : Int32).toInt ≤ 128; first | with_reducible assumption | ((omega))), by rw [ht]; exact hP9, va_K.moved hW.alike hK9, hD9⟩, hS.F ht⟩) hS.2.2 dX10_readChain_23
set_option maxHeartbeats 4000000 in
set_option maxRecDepth 100000 in
theorem s_X10_readInner (l : Launch) (F L : Nat) (hF : 10 ≤ F) (hL : 200 ≤ L) (rk : Int) (F0 L0 : Nat) (hF0 : F0 ≤ F) (hL0 : L0 ≤ L) (ih0 : ka_X10_readChain_0 l F0 L0 rk) (dC : Nat → ClassId) (dI : Nat → Nat → Nat) (h0 : Nat) (h1 : Nat) (h2 : Nat) (h3 : Nat) (h4 : Nat) (h5 : Nat) (cint : ClassId) (sz : Nat) (p0 : Int32) (tp0 : 0 ≤ p0.toInt ∧ p0.toInt ≤ 6) (n0_size : Int32) (n0_place : Int32) (f1 : Nat → Int32) (n2_size : Int32) (n2_top : Int32) (f3 : Nat → Int32) (tn0_size : kk_bx (0 ≤ n0_size.toInt ∧ n0_size.toInt ≤ 120)) (bf1 : ∀ j, j < 120 → 0 ≤ (f1 j).toInt ∧ (f1 j).toInt ≤ 255) (tn2_size : kk_bx (0 ≤ n2_size.toInt ∧ n2_size.toInt ≤ 128)) (tn2_top : kk_bx (0 ≤ n2_top.toInt ∧ n2_top.toInt ≤ 64)) (pr0 : (6 ≤ p0.toInt + rk)) (aNAMES : Nat) : Met l yX10_readInner wsX10_readInner ({ frames := F + 1, cells := 0, slots := 0, locals := L + 24 }) (va_Pc [.ref h0, .int p0] (fun U => U.heap.size = sz ∧ va_P (dC, dI) vwCl [(h0, kO10 h1 n0_size n0_place h2), (h1, kAi cint 120 f1), (h2, kO4 h3 n2_size h4 h5 n2_top), (h3, kAi cint 128 f3)] U.heap ∧ va_K (dC, dI) vwCl [(cint, .int)] U ∧ va_D (fun _ => True) [(h0, kO10 h1 n0_size n0_place h2), (h1, kAi cint 120 f1), (h2, kO4 h3 n2_size h4 h5 n2_top), (h3, kAi cint 128 f3)] ∧ va_Z "KinkStreet$Law" "NAMES" "[C" (.ref aNAMES) (va_A [(h0, kO10 h1 n0_size n0_place h2), (h1, kAi cint 120 f1), (h2, kO4 h3 n2_size h4 h5 n2_top), (h3, kAi cint 128 f3)] sz) U U.heap ∧ va_T .char aNAMES 8 tb_NAMES (va_A [(h0, kO10 h1 n0_size n0_place h2), (h1, kAi cint 120 f1), (h2, kO4 h3 n2_size h4 h5 n2_top), (h3, kAi cint 128 f3)] sz) U U.heap)) (va_Qi (fun (r : Int32) (_ : Unit) => (0 ≤ r.toInt ∧ r.toInt ≤ 1)) (fun (_ : Unit) t => ∃ (m0_place : Int32) (m2_size : Int32) (g3 : Nat → Int32), (0 ≤ m2_size.toInt ∧ m2_size.toInt ≤ 128) ∧ va_P (dC, dI) vwCl [(h0, kO10 h1 n0_size m0_place h2), (h1, kAi cint 120 f1), (h2, kO4 h3 m2_size h4 h5 n2_top), (h3, kAi cint 128 g3)] t.heap ∧ va_K (dC, dI) vwCl [] t ∧ va_D (va_A [(h0, kO10 h1 n0_size n0_place h2), (h1, kAi cint 120 f1), (h2, kO4 h3 n2_size h4 h5 n2_top), (h3, kAi cint 128 f3)] sz) [(h0, kO10 h1 n0_size m0_place h2), (h1, kAi cint 120 f1), (h2, kO4 h3 m2_size h4 h5 n2_top), (h3, kAi cint 128 g3)]) (va_A [(h0, kO10 h1 n0_size n0_place h2), (h1, kAi cint 120 f1), (h2, kO4 h3 n2_size h4 h5 n2_top), (h3, kAi cint 128 f3)] sz)) 0 0 (va_A [(h0, kO10 h1 n0_size n0_place h2), (h1, kAi cint 120 f1), (h2, kO4 h3 n2_size h4 h5 n2_top), (h3, kAi cint 128 f3)] sz) := by
  refine Met.ofW (cc := cX10_readInner) (maxL := 2) (ret := (some .boolean)) (by decide) rfl ?_
  intro p e s m args below meth c s₁ B hml hv
  obtain ⟨rfl, hsz, hP, hK, hD0, hZNAMES, hTNAMES⟩ := hv
  have hx := B.exec
  have hb := B.bytes
  have hr := B.returns
  have hts := atoms_spec (ws := wsX10_readInner) B.pre
  have hown : s.vm.findClass RX10 = some m.cls := findClass_of_methodNamed B.named
  have hlocks := B.notSynchronized
  subst hsz
  have hD := hD0.self (sz := s.heap.size)
  generalize hAe : va_A [(h0, kO10 h1 n0_size n0_place h2), (h1, kAi cint 120 f1), (h2, kO4 h3 n2_size h4 h5 n2_top), (h3, kAi cint 128 f3)] s.heap.size = A at hD hZNAMES hTNAMES ⊢
  have hA : ∀ q : Nat, s.heap.size ≤ q → A q := fun q h => by rw [← hAe]; exact Or.inr h
  have hS : va_S A s.heap s.heap [] := va_S.rf
  have hP : va_P (dC, dI) vwCl [(h0, kO10 h1 n0_size n0_place h2), (h1, kAi cint 120 f1), (h2, kO4 h3 n2_size h4 h5 n2_top), (h3, kAi cint 128 f3)] s.heap := hP
  have hl := lv_entry ([.ref h0, .int p0]) (n := 2) (Nat.le_of_ble_eq_true rfl)
  rw [lg_entry_eq]
  generalize (lg_sl ([.ref h0, .int p0]) ++ List.replicate (2 - (lg_sl ([.ref h0, .int p0])).length) Slot.unset).toArray = ls at hl ⊢
  have hl : lv_has ls 2 [(0, .ref h0), (1, .int p0)] := hl
  refine lv_aload_n hx hb dX10_readInner_0 rfl (lv_at hl 0 rfl) ?_
  refine lv_iconst (v := 0) hx hb dX10_readInner_1 kk_ic_0 ?_
  refine lv_iload_n hx hb dX10_readInner_2 rfl (lv_at hl 1 rfl) ?_
  obtain ⟨hPc, hDc, hFc⟩ := kk_cutout (wc := [(h0, kO10 h1 n0_size n0_place h2), (h1, kAi cint 120 f1), (h2, kO4 h3 n2_size h4 h5 n2_top), (h3, kAi cint 128 f3)]) hP hD hS hA [0, 1, 2, 3] (by decide) rfl
  have hKc := kk_Ks (tq := [(cint, .int)]) hK [0] rfl
  refine va_calli (va_runV (As := [.int 0, .int p0]) (rest := []) ⟨hx, hb, hml, hown, hts⟩ (ih0 dC dI h0 h1 h2 h3 h4 h5 cint s.heap.size p0 tp0 n0_size n0_place f1 n2_size n2_top f3 tn0_size bf1 tn2_size tn2_top (by show (6 ≤ (p0 : Int32).toInt + rk); first | with_reducible assumption | (omega)) aNAMES) (cwV 2 hts gX10_readInner_X10_readChain rfl rfl rfl ⟨rfl, kh_X10_readChain⟩ ⟨Nat.add_le_add_right hF0 1, kk_rmL hL0 (Nat.le_of_ble_eq_true rfl)⟩) ⟨fun a U g mk q => by obtain ⟨q0, q1, qP, qK, qD, qx0, qx1⟩ := q; exact ⟨q0, q1, qP, va_K.moved (u := U) (U := U.calling g mk a) (Vm.Alike.refl U.vm) qK, qD, va_Z.moved (u := U) (U := U.calling g mk a) (Vm.Alike.refl U.vm) qx0, va_T.moved (u := U) (U := U.calling g mk a) (Vm.Alike.refl U.vm) qx1⟩, va_recv hKc hPc (ci := 10) (q0 := 0) rfl rfl, fun U hU hW => ⟨rfl, by rw [hU], by rw [hU]; exact hPc, va_K.moved hW.alike hKc, hDc.weaken (fun _ _ _ _ => trivial), by rw [hU]; exact ((hZNAMES.kept (fun a h1 h2 => hS.2.1 a h1 h2)).narrow hFc).moved hW.alike, by rw [hU]; exact ((hTNAMES.kept (fun a h1 h2 => hS.2.1 a h1 h2)).narrow hFc).moved hW.alike⟩⟩ rfl rfl hl.1 rfl (lv_room (Nat.le_of_ble_eq_true rfl)) dX10_readInner_3 ⟨Nat.le_of_ble_eq_true rfl, Nat.le_of_ble_eq_true rfl⟩) hS (fun q _ h => hFc q h) hFc (fun r_1 u t H1 locs ht hvm hw hB hz1 hk1 hS => ?_)
  refine hB.elim (fun y_2 hB => ?_)
  refine hB.elim (fun y_3 hB => ?_)
  refine hB.elim (fun f_4 hB => ?_)
  refine hB.elim (fun by_3 hB => ?_)
  have hP1 := hB.1
  have hK1 := hB.2.1
  have hD1 := hB.2.2
  rw [ht] at hP1
  have hK1 := va_K.moved hvm.symm hK1
  obtain ⟨hP, hD⟩ := va_join (wr := []) (w1 := [(h0, kO10 h1 n0_size y_2 h2), (h1, kAi cint 120 f1), (h2, kO4 h3 y_3 h4 h5 n2_top), (h3, kAi cint 128 f_4)]) hP hD [0, 1, 2, 3] [] rfl rfl (by decide) (by decide) hk1 hFc hP1 hD1
  generalize H1 = H at hP hS ⊢
  have hP : va_P (dC, dI) vwCl [(h0, kO10 h1 n0_size y_2 h2), (h1, kAi cint 120 f1), (h2, kO4 h3 y_3 h4 h5 n2_top), (h3, kAi cint 128 f_4)] H := hP
  have hD : va_D A [(h0, kO10 h1 n0_size y_2 h2), (h1, kAi cint 120 f1), (h2, kO4 h3 y_3 h4 h5 n2_top), (h3, kAi cint 128 f_4)] := hD
  have t_1 : 0 ≤ r_1.toInt ∧ r_1.toInt ≤ 1 := hw
  refine lv_if_eq (tgt := 18) hx hb dX10_readInner_6 (by decide) (fun c_5 => ?_) (fun c_5 => ?_)
  · have t_5 : r_1.toInt = 0 := kk_eq c_5
    refine lv_iconst (v := 0) hx hb dX10_readInner_18 kk_ic_0 ?_
    obtain ⟨hP9, hD9⟩ := kk_leafout (wc := [(h0, kO10 h1 n0_size y_2 h2), (h1, kAi cint 120 f1), (h2, kO4 h3 y_3 h4 h5 n2_top), (h3, kAi cint 128 f_4)]) hP hD [0, 1, 2, 3] (by decide) rfl
    have hK9 := kk_Ks (tq := []) hK [] rfl
    exact W.zret (v := 0) hx hb hr rfl (fun t ht hW => ⟨⟨0, (), rfl, (by show 0 ≤ (0 : Int32).toInt ∧ (0 : Int32).toInt ≤ 1; first | with_reducible assumption | decide | ((omega))), y_2, y_3, f_4, (by show 0 ≤ (y_3 : Int32).toInt ∧ (y_3 : Int32).toInt ≤ 128; first | with_reducible assumption | ((omega))), by rw [ht]; exact hP9, va_K.moved hW.alike hK9, hD9⟩, hS.F ht⟩) hS.2.2 dX10_readInner_19
  · have t_5 : r_1.toInt ≠ 0 := kk_ne c_5
    refine lv_aload_n hx hb dX10_readInner_9 rfl (lv_at hl 0 rfl) ?_
    obtain ⟨hPc, hDc, hFc⟩ := kk_cutout (wc := [(h0, kO10 h1 n0_size y_2 h2), (h1, kAi cint 120 f1)]) hP hD hS hA [0, 1] (by decide) rfl
    have hKc := kk_Ks (tq := [(cint, .int)]) hK [0] rfl
    refine va_calli (va_runV (As := []) (rest := []) ⟨hx, hb, hml, hown, hts⟩ (g_X10_next_0 l dC dI h0 h1 h2 cint H.size n0_size y_2 f1 tn0_size bf1) (cwV 0 hts gX10_readInner_X10_next rfl rfl rfl ⟨rfl, kh_X10_next⟩ ⟨kk_rmF hF (Nat.le_of_ble_eq_true rfl), kk_rmM hL (Nat.le_of_ble_eq_true rfl)⟩) ⟨fun a U g mk q => by obtain ⟨q0, q1, qP, qK, qD⟩ := q; exact ⟨q0, q1, qP, va_K.moved (u := U) (U := U.calling g mk a) (Vm.Alike.refl U.vm) qK, qD⟩, va_recv hKc hPc (ci := 10) (q0 := 0) rfl rfl, fun U hU hW => ⟨rfl, by rw [hU], by rw [hU]; exact hPc, va_K.moved hW.alike hKc, hDc.weaken (fun _ _ _ _ => trivial)⟩⟩ rfl rfl hl.1 rfl (lv_room (Nat.le_of_ble_eq_true rfl)) dX10_readInner_10 ⟨Nat.le_of_ble_eq_true rfl, Nat.le_of_ble_eq_true rfl⟩) hS (fun q _ h => hFc q h) hFc (fun r_6 u t H1 locs ht hvm hw hB hz1 hk1 hS => ?_)
    obtain ⟨hP1, hK1, hD1⟩ := hB
    rw [ht] at hP1
    have hK1 := va_K.moved hvm.symm hK1
    obtain ⟨hP, hD⟩ := va_join (wr := [(h2, kO4 h3 y_3 h4 h5 n2_top), (h3, kAi cint 128 f_4)]) (w1 := [(h0, kO10 h1 n0_size y_2 h2), (h1, kAi cint 120 f1)]) hP hD [0, 1] [2, 3] rfl rfl (by decide) (by decide) hk1 hFc hP1 hD1
    generalize H1 = H at hP hS ⊢
    have hP : va_P (dC, dI) vwCl [(h2, kO4 h3 y_3 h4 h5 n2_top), (h3, kAi cint 128 f_4), (h0, kO10 h1 n0_size y_2 h2), (h1, kAi cint 120 f1)] H := hP
    have hD : va_D A [(h2, kO4 h3 y_3 h4 h5 n2_top), (h3, kAi cint 128 f_4), (h0, kO10 h1 n0_size y_2 h2), (h1, kAi cint 120 f1)] := hD
    have t_6 : (-1) ≤ r_6.toInt ∧ r_6.toInt ≤ 255 := hw
    refine lv_bipush (v := 41) hx hb dX10_readInner_13 kk_bi_41 ?_
    refine lv_icmp_eq (tgt := 20) hx hb dX10_readInner_15 (by decide) (fun c_7 => ?_) (fun c_7 => ?_)
    · have t_7 : r_6.toInt = 41 := kk_eq c_7
      refine lv_aload_n hx hb dX10_readInner_20 rfl (lv_at hl 0 rfl) ?_
      refine lv_dup hx hb dX10_readInner_21 rfl ?_
      refine va_get (D := (dC, dI)) (ci := 10) (v := .int y_2) (C := RX10) (T := TX10) (N := 4) hx hb hts (fun _ h => List.mem_cons_of_mem _ (List.mem_append_left _ (List.mem_append_right _ h))) hown hK hP 2 rfl rfl 2 (by decide) (hts (.fieldLink RX10 17 "KinkStreet$Tape" "place" "I") (List.mem_of_getElem? (i := 1) rfl)) (fun _ h9 => h9) rfl dX10_readInner_22 ?_
      refine lv_iconst (v := 1) hx hb dX10_readInner_25 kk_ic_1 ?_
      refine lv_iadd hx hb dX10_readInner_26 ?_
      refine va_put (D := (dC, dI)) (ci := 10) (v := .int (y_2 + 1)) (ty := .int) (C := RX10) (T := TX10) (N := 4) hx hb hts (fun _ h => List.mem_cons_of_mem _ (List.mem_append_left _ (List.mem_append_right _ h))) tyX10 tyX10_ok nmX10 hown hK hP hD hS 2 rfl rfl 2 (by decide) (hts (.fieldLink RX10 17 "KinkStreet$Tape" "place" "I") (List.mem_of_getElem? (i := 1) rfl)) (fun _ h9 => h9) rfl (by decide +kernel) rfl rfl (Nat.le_of_ble_eq_true rfl) dX10_readInner_27 (fun H locs hP hD hS => ?_)
      have hP : va_P (dC, dI) vwCl [(h2, kO4 h3 y_3 h4 h5 n2_top), (h3, kAi cint 128 f_4), (h0, kO10 h1 n0_size (y_2 + 1) h2), (h1, kAi cint 120 f1)] H := hP
      have hD : va_D A [(h2, kO4 h3 y_3 h4 h5 n2_top), (h3, kAi cint 128 f_4), (h0, kO10 h1 n0_size (y_2 + 1) h2), (h1, kAi cint 120 f1)] := hD
      refine lv_iconst (v := 1) hx hb dX10_readInner_30 kk_ic_1 ?_
      obtain ⟨hP9, hD9⟩ := kk_leafout (wc := [(h0, kO10 h1 n0_size (y_2 + 1) h2), (h1, kAi cint 120 f1), (h2, kO4 h3 y_3 h4 h5 n2_top), (h3, kAi cint 128 f_4)]) hP hD [2, 3, 0, 1] (by decide) rfl
      have hK9 := kk_Ks (tq := []) hK [] rfl
      exact W.zret (v := 1) hx hb hr rfl (fun t ht hW => ⟨⟨1, (), rfl, (by show 0 ≤ (1 : Int32).toInt ∧ (1 : Int32).toInt ≤ 1; first | with_reducible assumption | decide | ((omega))), (y_2 + 1), y_3, f_4, (by show 0 ≤ (y_3 : Int32).toInt ∧ (y_3 : Int32).toInt ≤ 128; first | with_reducible assumption | ((omega))), by rw [ht]; exact hP9, va_K.moved hW.alike hK9, hD9⟩, hS.F ht⟩) hS.2.2 dX10_readInner_31
    · have t_7 : r_6.toInt ≠ 41 := kk_ne c_7
      refine lv_iconst (v := 0) hx hb dX10_readInner_18 kk_ic_0 ?_
      obtain ⟨hP9, hD9⟩ := kk_leafout (wc := [(h0, kO10 h1 n0_size y_2 h2), (h1, kAi cint 120 f1), (h2, kO4 h3 y_3 h4 h5 n2_top), (h3, kAi cint 128 f_4)]) hP hD [2, 3, 0, 1] (by decide) rfl
      have hK9 := kk_Ks (tq := []) hK [] rfl
      exact W.zret (v := 0) hx hb hr rfl (fun t ht hW => ⟨⟨0, (), rfl, (by show 0 ≤ (0 : Int32).toInt ∧ (0 : Int32).toInt ≤ 1; first | with_reducible assumption | decide | ((omega))), y_2, y_3, f_4, (by show 0 ≤ (y_3 : Int32).toInt ∧ (y_3 : Int32).toInt ≤ 128; first | with_reducible assumption | ((omega))), by rw [ht]; exact hP9, va_K.moved hW.alike hK9, hD9⟩, hS.F ht⟩) hS.2.2 dX10_readInner_19
set_option maxHeartbeats 4000000 in
set_option maxRecDepth 100000 in
theorem s_X10_readSigned (l : Launch) (F L : Nat) (hF : 10 ≤ F) (hL : 200 ≤ L) (rk : Int) (F0 L0 : Nat) (hF0 : F0 ≤ F) (hL0 : L0 ≤ L) (ih0 : ka_X10_readOperand l F0 L0 rk) (dC : Nat → ClassId) (dI : Nat → Nat → Nat) (h0 : Nat) (h1 : Nat) (h2 : Nat) (h3 : Nat) (h4 : Nat) (h5 : Nat) (cint : ClassId) (sz : Nat) (p0 : Int32) (p1 : Int32) (tp1 : 0 ≤ p1.toInt ∧ p1.toInt ≤ 6) (n0_size : Int32) (n0_place : Int32) (f1 : Nat → Int32) (n2_size : Int32) (n2_top : Int32) (f3 : Nat → Int32) (tn0_size : kk_bx (0 ≤ n0_size.toInt ∧ n0_size.toInt ≤ 120)) (bf1 : ∀ j, j < 120 → 0 ≤ (f1 j).toInt ∧ (f1 j).toInt ≤ 255) (tn2_size : kk_bx (0 ≤ n2_size.toInt ∧ n2_size.toInt ≤ 128)) (tn2_top : kk_bx (0 ≤ n2_top.toInt ∧ n2_top.toInt ≤ 64)) (pr0 : (6 ≤ p1.toInt + rk)) (aNAMES : Nat) : Met l yX10_readSigned wsX10_readSigned ({ frames := F + 1, cells := 0, slots := 0, locals := L + 23 }) (va_Pc [.ref h0, .int p0, .int p1] (fun U => U.heap.size = sz ∧ va_P (dC, dI) vwCl [(h0, kO10 h1 n0_size n0_place h2), (h1, kAi cint 120 f1), (h2, kO4 h3 n2_size h4 h5 n2_top), (h3, kAi cint 128 f3)] U.heap ∧ va_K (dC, dI) vwCl [(cint, .int)] U ∧ va_D (fun _ => True) [(h0, kO10 h1 n0_size n0_place h2), (h1, kAi cint 120 f1), (h2, kO4 h3 n2_size h4 h5 n2_top), (h3, kAi cint 128 f3)] ∧ va_Z "KinkStreet$Law" "NAMES" "[C" (.ref aNAMES) (va_A [(h0, kO10 h1 n0_size n0_place h2), (h1, kAi cint 120 f1), (h2, kO4 h3 n2_size h4 h5 n2_top), (h3, kAi cint 128 f3)] sz) U U.heap ∧ va_T .char aNAMES 8 tb_NAMES (va_A [(h0, kO10 h1 n0_size n0_place h2), (h1, kAi cint 120 f1), (h2, kO4 h3 n2_size h4 h5 n2_top), (h3, kAi cint 128 f3)] sz) U U.heap)) (va_Qi (fun (r : Int32) (_ : Unit) => (0 ≤ r.toInt ∧ r.toInt ≤ 1)) (fun (_ : Unit) t => ∃ (m0_place : Int32) (m2_size : Int32) (g3 : Nat → Int32), (0 ≤ m2_size.toInt ∧ m2_size.toInt ≤ 128) ∧ va_P (dC, dI) vwCl [(h0, kO10 h1 n0_size m0_place h2), (h1, kAi cint 120 f1), (h2, kO4 h3 m2_size h4 h5 n2_top), (h3, kAi cint 128 g3)] t.heap ∧ va_K (dC, dI) vwCl [] t ∧ va_D (va_A [(h0, kO10 h1 n0_size n0_place h2), (h1, kAi cint 120 f1), (h2, kO4 h3 n2_size h4 h5 n2_top), (h3, kAi cint 128 f3)] sz) [(h0, kO10 h1 n0_size m0_place h2), (h1, kAi cint 120 f1), (h2, kO4 h3 m2_size h4 h5 n2_top), (h3, kAi cint 128 g3)]) (va_A [(h0, kO10 h1 n0_size n0_place h2), (h1, kAi cint 120 f1), (h2, kO4 h3 n2_size h4 h5 n2_top), (h3, kAi cint 128 f3)] sz)) 0 0 (va_A [(h0, kO10 h1 n0_size n0_place h2), (h1, kAi cint 120 f1), (h2, kO4 h3 n2_size h4 h5 n2_top), (h3, kAi cint 128 f3)] sz) := by
  refine Met.ofW (cc := cX10_readSigned) (maxL := 3) (ret := (some .boolean)) (by decide) rfl ?_
  intro p e s m args below meth c s₁ B hml hv
  obtain ⟨rfl, hsz, hP, hK, hD0, hZNAMES, hTNAMES⟩ := hv
  have hx := B.exec
  have hb := B.bytes
  have hr := B.returns
  have hts := atoms_spec (ws := wsX10_readSigned) B.pre
  have hown : s.vm.findClass RX10 = some m.cls := findClass_of_methodNamed B.named
  have hlocks := B.notSynchronized
  subst hsz
  have hD := hD0.self (sz := s.heap.size)
  generalize hAe : va_A [(h0, kO10 h1 n0_size n0_place h2), (h1, kAi cint 120 f1), (h2, kO4 h3 n2_size h4 h5 n2_top), (h3, kAi cint 128 f3)] s.heap.size = A at hD hZNAMES hTNAMES ⊢
  have hA : ∀ q : Nat, s.heap.size ≤ q → A q := fun q h => by rw [← hAe]; exact Or.inr h
  have hS : va_S A s.heap s.heap [] := va_S.rf
  have hP : va_P (dC, dI) vwCl [(h0, kO10 h1 n0_size n0_place h2), (h1, kAi cint 120 f1), (h2, kO4 h3 n2_size h4 h5 n2_top), (h3, kAi cint 128 f3)] s.heap := hP
  have hl := lv_entry ([.ref h0, .int p0, .int p1]) (n := 3) (Nat.le_of_ble_eq_true rfl)
  rw [lg_entry_eq]
  generalize (lg_sl ([.ref h0, .int p0, .int p1]) ++ List.replicate (3 - (lg_sl ([.ref h0, .int p0, .int p1])).length) Slot.unset).toArray = ls at hl ⊢
  have hl : lv_has ls 3 [(0, .ref h0), (1, .int p0), (2, .int p1)] := hl
  refine lv_aload_n hx hb dX10_readSigned_0 rfl (lv_at hl 0 rfl) ?_
  refine lv_iload_n hx hb dX10_readSigned_1 rfl (lv_at hl 2 rfl) ?_
  obtain ⟨hPc, hDc, hFc⟩ := kk_cutout (wc := [(h0, kO10 h1 n0_size n0_place h2), (h1, kAi cint 120 f1), (h2, kO4 h3 n2_size h4 h5 n2_top), (h3, kAi cint 128 f3)]) hP hD hS hA [0, 1, 2, 3] (by decide) rfl
  have hKc := kk_Ks (tq := [(cint, .int)]) hK [0] rfl
  refine va_calli (va_runV (As := [.int p1]) (rest := []) ⟨hx, hb, hml, hown, hts⟩ (ih0 dC dI h0 h1 h2 h3 h4 h5 cint s.heap.size p1 tp1 n0_size n0_place f1 n2_size n2_top f3 tn0_size bf1 tn2_size tn2_top (by show (6 ≤ (p1 : Int32).toInt + rk); first | with_reducible assumption | (omega)) aNAMES) (cwV 1 hts gX10_readSigned_X10_readOperand rfl rfl rfl ⟨rfl, kh_X10_readOperand⟩ ⟨Nat.add_le_add_right hF0 1, kk_rmL hL0 (Nat.le_of_ble_eq_true rfl)⟩) ⟨fun a U g mk q => by obtain ⟨q0, q1, qP, qK, qD, qx0, qx1⟩ := q; exact ⟨q0, q1, qP, va_K.moved (u := U) (U := U.calling g mk a) (Vm.Alike.refl U.vm) qK, qD, va_Z.moved (u := U) (U := U.calling g mk a) (Vm.Alike.refl U.vm) qx0, va_T.moved (u := U) (U := U.calling g mk a) (Vm.Alike.refl U.vm) qx1⟩, va_recv hKc hPc (ci := 10) (q0 := 0) rfl rfl, fun U hU hW => ⟨rfl, by rw [hU], by rw [hU]; exact hPc, va_K.moved hW.alike hKc, hDc.weaken (fun _ _ _ _ => trivial), by rw [hU]; exact ((hZNAMES.kept (fun a h1 h2 => hS.2.1 a h1 h2)).narrow hFc).moved hW.alike, by rw [hU]; exact ((hTNAMES.kept (fun a h1 h2 => hS.2.1 a h1 h2)).narrow hFc).moved hW.alike⟩⟩ rfl rfl hl.1 rfl (lv_room (Nat.le_of_ble_eq_true rfl)) dX10_readSigned_2 ⟨Nat.le_of_ble_eq_true rfl, Nat.le_of_ble_eq_true rfl⟩) hS (fun q _ h => hFc q h) hFc (fun r_1 u t H1 locs ht hvm hw hB hz1 hk1 hS => ?_)
  refine hB.elim (fun y_2 hB => ?_)
  refine hB.elim (fun y_3 hB => ?_)
  refine hB.elim (fun f_4 hB => ?_)
  refine hB.elim (fun by_3 hB => ?_)
  have hP1 := hB.1
  have hK1 := hB.2.1
  have hD1 := hB.2.2
  rw [ht] at hP1
  have hK1 := va_K.moved hvm.symm hK1
  obtain ⟨hP, hD⟩ := va_join (wr := []) (w1 := [(h0, kO10 h1 n0_size y_2 h2), (h1, kAi cint 120 f1), (h2, kO4 h3 y_3 h4 h5 n2_top), (h3, kAi cint 128 f_4)]) hP hD [0, 1, 2, 3] [] rfl rfl (by decide) (by decide) hk1 hFc hP1 hD1
  generalize H1 = H at hP hS ⊢
  have hP : va_P (dC, dI) vwCl [(h0, kO10 h1 n0_size y_2 h2), (h1, kAi cint 120 f1), (h2, kO4 h3 y_3 h4 h5 n2_top), (h3, kAi cint 128 f_4)] H := hP
  have hD : va_D A [(h0, kO10 h1 n0_size y_2 h2), (h1, kAi cint 120 f1), (h2, kO4 h3 y_3 h4 h5 n2_top), (h3, kAi cint 128 f_4)] := hD
  have t_1 : 0 ≤ r_1.toInt ∧ r_1.toInt ≤ 1 := hw
  refine lv_if_ne (tgt := 10) hx hb dX10_readSigned_5 (by decide) (fun c_5 => ?_) (fun c_5 => ?_)
  · have t_5 : r_1.toInt ≠ 0 := kk_ne c_5
    refine lv_aload_n hx hb dX10_readSigned_10 rfl (lv_at hl 0 rfl) ?_
    refine va_get (D := (dC, dI)) (ci := 10) (v := .ref h2) (C := RX10) (T := TX10) (N := 4) hx hb hts (fun _ h => List.mem_cons_of_mem _ (List.mem_append_left _ (List.mem_append_right _ h))) hown hK hP 0 rfl rfl 3 (by decide) (hts (.fieldLink RX10 20 "KinkStreet$Tape" "law" "LKinkStreet$Law;") (List.mem_of_getElem? (i := 1) rfl)) (fun _ h9 => h9) rfl dX10_readSigned_11 ?_
    refine lv_iload_n hx hb dX10_readSigned_14 rfl (lv_at hl 1 rfl) ?_
    refine lv_bipush (v := 33) hx hb dX10_readSigned_15 kk_bi_33 ?_
    refine lv_icmp_ne (tgt := 25) hx hb dX10_readSigned_17 (by decide) (fun c_6 => ?_) (fun c_6 => ?_)
    · have t_6 : p0.toInt ≠ 33 := kk_ne c_6
      refine lv_bipush (v := 126) hx hb dX10_readSigned_25 kk_bi_126 ?_
      obtain ⟨hPc, hDc, hFc⟩ := kk_cutout (wc := [(h2, kO4 h3 y_3 h4 h5 n2_top), (h3, kAi cint 128 f_4)]) hP hD hS hA [2, 3] (by decide) rfl
      have hKc := kk_Ks (tq := [(cint, .int)]) hK [0] rfl
      refine va_callv (va_runV (As := [.int 126]) (rest := []) ⟨hx, hb, hml, hown, hts⟩ (g_X4_append_0 l dC dI h2 h3 h4 h5 cint H.size 126 y_3 n2_top f_4 (by show 0 ≤ (y_3 : Int32).toInt ∧ (y_3 : Int32).toInt ≤ 128; first | with_reducible assumption | ((omega))) tn2_top) (cwV 1 hts gX10_readSigned_X4_append rfl rfl rfl ⟨rfl, kh_X4_append⟩ ⟨kk_rmF hF (Nat.le_of_ble_eq_true rfl), kk_rmM hL (Nat.le_of_ble_eq_true rfl)⟩) ⟨fun a U g mk q => by obtain ⟨q0, q1, qP, qK, qD⟩ := q; exact ⟨q0, q1, qP, va_K.moved (u := U) (U := U.calling g mk a) (Vm.Alike.refl U.vm) qK, qD⟩, va_recv hKc hPc (ci := 4) (q0 := 0) rfl rfl, fun U hU hW => ⟨rfl, by rw [hU], by rw [hU]; exact hPc, va_K.moved hW.alike hKc, hDc.weaken (fun _ _ _ _ => trivial)⟩⟩ rfl rfl hl.1 rfl (lv_room (Nat.le_of_ble_eq_true rfl)) dX10_readSigned_27 ⟨Nat.le_of_ble_eq_true rfl, Nat.le_of_ble_eq_true rfl⟩) hS (fun q _ h => hFc q h) hFc (fun u t H1 locs ht hvm hw hB hz1 hk1 hS => ?_)
      refine hB.elim (fun y_8 hB => ?_)
      refine hB.elim (fun f_9 hB => ?_)
      refine hB.elim (fun by_8 hB => ?_)
      have hP1 := hB.1
      have hK1 := hB.2.1
      have hD1 := hB.2.2
      rw [ht] at hP1
      have hK1 := va_K.moved hvm.symm hK1
      obtain ⟨hP, hD⟩ := va_join (wr := [(h0, kO10 h1 n0_size y_2 h2), (h1, kAi cint 120 f1)]) (w1 := [(h2, kO4 h3 y_8 h4 h5 n2_top), (h3, kAi cint 128 f_9)]) hP hD [2, 3] [0, 1] rfl rfl (by decide) (by decide) hk1 hFc hP1 hD1
      generalize H1 = H at hP hS ⊢
      have hP : va_P (dC, dI) vwCl [(h0, kO10 h1 n0_size y_2 h2), (h1, kAi cint 120 f1), (h2, kO4 h3 y_8 h4 h5 n2_top), (h3, kAi cint 128 f_9)] H := hP
      have hD : va_D A [(h0, kO10 h1 n0_size y_2 h2), (h1, kAi cint 120 f1), (h2, kO4 h3 y_8 h4 h5 n2_top), (h3, kAi cint 128 f_9)] := hD
      refine lv_iconst (v := 1) hx hb dX10_readSigned_30 kk_ic_1 ?_
      obtain ⟨hP9, hD9⟩ := kk_leafout (wc := [(h0, kO10 h1 n0_size y_2 h2), (h1, kAi cint 120 f1), (h2, kO4 h3 y_8 h4 h5 n2_top), (h3, kAi cint 128 f_9)]) hP hD [0, 1, 2, 3] (by decide) rfl
      have hK9 := kk_Ks (tq := []) hK [] rfl
      exact W.zret (v := 1) hx hb hr rfl (fun t ht hW => ⟨⟨1, (), rfl, (by show 0 ≤ (1 : Int32).toInt ∧ (1 : Int32).toInt ≤ 1; first | with_reducible assumption | decide | ((omega))), y_2, y_8, f_9, (by show 0 ≤ (y_8 : Int32).toInt ∧ (y_8 : Int32).toInt ≤ 128; first | with_reducible assumption | ((omega))), by rw [ht]; exact hP9, va_K.moved hW.alike hK9, hD9⟩, hS.F ht⟩) hS.2.2 dX10_readSigned_31
    · have t_6 : p0.toInt = 33 := kk_eq c_6
      refine lv_bipush (v := 33) hx hb dX10_readSigned_20 kk_bi_33 ?_
      refine lv_goto (tgt := 27) hx hb dX10_readSigned_22 (by decide) ?_
      obtain ⟨hPc, hDc, hFc⟩ := kk_cutout (wc := [(h2, kO4 h3 y_3 h4 h5 n2_top), (h3, kAi cint 128 f_4)]) hP hD hS hA [2, 3] (by decide) rfl
      have hKc := kk_Ks (tq := [(cint, .int)]) hK [0] rfl
      refine va_callv (va_runV (As := [.int 33]) (rest := []) ⟨hx, hb, hml, hown, hts⟩ (g_X4_append_0 l dC dI h2 h3 h4 h5 cint H.size 33 y_3 n2_top f_4 (by show 0 ≤ (y_3 : Int32).toInt ∧ (y_3 : Int32).toInt ≤ 128; first | with_reducible assumption | ((omega))) tn2_top) (cwV 1 hts gX10_readSigned_X4_append rfl rfl rfl ⟨rfl, kh_X4_append⟩ ⟨kk_rmF hF (Nat.le_of_ble_eq_true rfl), kk_rmM hL (Nat.le_of_ble_eq_true rfl)⟩) ⟨fun a U g mk q => by obtain ⟨q0, q1, qP, qK, qD⟩ := q; exact ⟨q0, q1, qP, va_K.moved (u := U) (U := U.calling g mk a) (Vm.Alike.refl U.vm) qK, qD⟩, va_recv hKc hPc (ci := 4) (q0 := 0) rfl rfl, fun U hU hW => ⟨rfl, by rw [hU], by rw [hU]; exact hPc, va_K.moved hW.alike hKc, hDc.weaken (fun _ _ _ _ => trivial)⟩⟩ rfl rfl hl.1 rfl (lv_room (Nat.le_of_ble_eq_true rfl)) dX10_readSigned_27 ⟨Nat.le_of_ble_eq_true rfl, Nat.le_of_ble_eq_true rfl⟩) hS (fun q _ h => hFc q h) hFc (fun u t H1 locs ht hvm hw hB hz1 hk1 hS => ?_)
      refine hB.elim (fun y_11 hB => ?_)
      refine hB.elim (fun f_12 hB => ?_)
      refine hB.elim (fun by_11 hB => ?_)
      have hP1 := hB.1
      have hK1 := hB.2.1
      have hD1 := hB.2.2
      rw [ht] at hP1
      have hK1 := va_K.moved hvm.symm hK1
      obtain ⟨hP, hD⟩ := va_join (wr := [(h0, kO10 h1 n0_size y_2 h2), (h1, kAi cint 120 f1)]) (w1 := [(h2, kO4 h3 y_11 h4 h5 n2_top), (h3, kAi cint 128 f_12)]) hP hD [2, 3] [0, 1] rfl rfl (by decide) (by decide) hk1 hFc hP1 hD1
      generalize H1 = H at hP hS ⊢
      have hP : va_P (dC, dI) vwCl [(h0, kO10 h1 n0_size y_2 h2), (h1, kAi cint 120 f1), (h2, kO4 h3 y_11 h4 h5 n2_top), (h3, kAi cint 128 f_12)] H := hP
      have hD : va_D A [(h0, kO10 h1 n0_size y_2 h2), (h1, kAi cint 120 f1), (h2, kO4 h3 y_11 h4 h5 n2_top), (h3, kAi cint 128 f_12)] := hD
      refine lv_iconst (v := 1) hx hb dX10_readSigned_30 kk_ic_1 ?_
      obtain ⟨hP9, hD9⟩ := kk_leafout (wc := [(h0, kO10 h1 n0_size y_2 h2), (h1, kAi cint 120 f1), (h2, kO4 h3 y_11 h4 h5 n2_top), (h3, kAi cint 128 f_12)]) hP hD [0, 1, 2, 3] (by decide) rfl
      have hK9 := kk_Ks (tq := []) hK [] rfl
      exact W.zret (v := 1) hx hb hr rfl (fun t ht hW => ⟨⟨1, (), rfl, (by show 0 ≤ (1 : Int32).toInt ∧ (1 : Int32).toInt ≤ 1; first | with_reducible assumption | decide | ((omega))), y_2, y_11, f_12, (by show 0 ≤ (y_11 : Int32).toInt ∧ (y_11 : Int32).toInt ≤ 128; first | with_reducible assumption | ((omega))), by rw [ht]; exact hP9, va_K.moved hW.alike hK9, hD9⟩, hS.F ht⟩) hS.2.2 dX10_readSigned_31
  · have t_5 : r_1.toInt = 0 := kk_eq c_5
    refine lv_iconst (v := 0) hx hb dX10_readSigned_8 kk_ic_0 ?_
    obtain ⟨hP9, hD9⟩ := kk_leafout (wc := [(h0, kO10 h1 n0_size y_2 h2), (h1, kAi cint 120 f1), (h2, kO4 h3 y_3 h4 h5 n2_top), (h3, kAi cint 128 f_4)]) hP hD [0, 1, 2, 3] (by decide) rfl
    have hK9 := kk_Ks (tq := []) hK [] rfl
    exact W.zret (v := 0) hx hb hr rfl (fun t ht hW => ⟨⟨0, (), rfl, (by show 0 ≤ (0 : Int32).toInt ∧ (0 : Int32).toInt ≤ 1; first | with_reducible assumption | decide | ((omega))), y_2, y_3, f_4, (by show 0 ≤ (y_3 : Int32).toInt ∧ (y_3 : Int32).toInt ≤ 128; first | with_reducible assumption | ((omega))), by rw [ht]; exact hP9, va_K.moved hW.alike hK9, hD9⟩, hS.F ht⟩) hS.2.2 dX10_readSigned_9
theorem i_X10_readInner_b (l : Launch) : ka_X10_readInner l 10 200 (-1) := by unfold ka_X10_readInner; intros; exfalso; omega
theorem i_X10_readSigned_b (l : Launch) : ka_X10_readSigned l 10 200 (-1) := by unfold ka_X10_readSigned; intros; exfalso; omega
theorem i_X10_readOperand_0 (l : Launch) : ka_X10_readOperand l 11 243 0 := s_X10_readOperand l 10 200 (Nat.le_of_ble_eq_true rfl) (Nat.le_of_ble_eq_true rfl) 0 10 200 (Nat.le_of_ble_eq_true rfl) (Nat.le_of_ble_eq_true rfl) (show ka_X10_readInner l 10 200 ((0 : Int) - 1) from (i_X10_readInner_b l)) 10 200 (Nat.le_of_ble_eq_true rfl) (Nat.le_of_ble_eq_true rfl) (show ka_X10_readSigned l 10 200 ((0 : Int) - 1) from (i_X10_readSigned_b l))
theorem i_X10_readChain_5_0 (l : Launch) : ka_X10_readChain_5 l 12 266 0 := s_X10_readChain_5 l 11 243 (Nat.le_of_ble_eq_true rfl) (Nat.le_of_ble_eq_true rfl) 0 11 243 (Nat.le_of_ble_eq_true rfl) (Nat.le_of_ble_eq_true rfl) (i_X10_readOperand_0 l)
theorem i_X10_readChain_4_0 (l : Launch) : ka_X10_readChain_4 l 13 290 0 := s_X10_readChain_4 l 12 266 (Nat.le_of_ble_eq_true rfl) (Nat.le_of_ble_eq_true rfl) 0 12 266 (Nat.le_of_ble_eq_true rfl) (Nat.le_of_ble_eq_true rfl) (i_X10_readChain_5_0 l)
theorem i_X10_readChain_3_0 (l : Launch) : ka_X10_readChain_3 l 14 314 0 := s_X10_readChain_3 l 13 290 (Nat.le_of_ble_eq_true rfl) (Nat.le_of_ble_eq_true rfl) 0 13 290 (Nat.le_of_ble_eq_true rfl) (Nat.le_of_ble_eq_true rfl) (i_X10_readChain_4_0 l)
theorem i_X10_readChain_2_0 (l : Launch) : ka_X10_readChain_2 l 15 338 0 := s_X10_readChain_2 l 14 314 (Nat.le_of_ble_eq_true rfl) (Nat.le_of_ble_eq_true rfl) 0 14 314 (Nat.le_of_ble_eq_true rfl) (Nat.le_of_ble_eq_true rfl) (i_X10_readChain_3_0 l)
theorem i_X10_readChain_1_0 (l : Launch) : ka_X10_readChain_1 l 16 362 0 := s_X10_readChain_1 l 15 338 (Nat.le_of_ble_eq_true rfl) (Nat.le_of_ble_eq_true rfl) 0 15 338 (Nat.le_of_ble_eq_true rfl) (Nat.le_of_ble_eq_true rfl) (i_X10_readChain_2_0 l)
theorem i_X10_readChain_0_0 (l : Launch) : ka_X10_readChain_0 l 17 386 0 := s_X10_readChain_0 l 16 362 (Nat.le_of_ble_eq_true rfl) (Nat.le_of_ble_eq_true rfl) 0 16 362 (Nat.le_of_ble_eq_true rfl) (Nat.le_of_ble_eq_true rfl) (i_X10_readChain_1_0 l)
theorem i_X10_readInner_0 (l : Launch) : ka_X10_readInner l 18 410 0 := s_X10_readInner l 17 386 (Nat.le_of_ble_eq_true rfl) (Nat.le_of_ble_eq_true rfl) 0 17 386 (Nat.le_of_ble_eq_true rfl) (Nat.le_of_ble_eq_true rfl) (i_X10_readChain_0_0 l)
theorem i_X10_readSigned_0 (l : Launch) : ka_X10_readSigned l 12 266 0 := s_X10_readSigned l 11 243 (Nat.le_of_ble_eq_true rfl) (Nat.le_of_ble_eq_true rfl) 0 11 243 (Nat.le_of_ble_eq_true rfl) (Nat.le_of_ble_eq_true rfl) (i_X10_readOperand_0 l)
theorem i_X10_readOperand_1 (l : Launch) : ka_X10_readOperand l 19 453 1 := s_X10_readOperand l 18 410 (Nat.le_of_ble_eq_true rfl) (Nat.le_of_ble_eq_true rfl) 1 18 410 (Nat.le_of_ble_eq_true rfl) (Nat.le_of_ble_eq_true rfl) (show ka_X10_readInner l 18 410 ((1 : Int) - 1) from (i_X10_readInner_0 l)) 12 266 (Nat.le_of_ble_eq_true rfl) (Nat.le_of_ble_eq_true rfl) (show ka_X10_readSigned l 12 266 ((1 : Int) - 1) from (i_X10_readSigned_0 l))
theorem i_X10_readChain_5_1 (l : Launch) : ka_X10_readChain_5 l 20 476 1 := s_X10_readChain_5 l 19 453 (Nat.le_of_ble_eq_true rfl) (Nat.le_of_ble_eq_true rfl) 1 19 453 (Nat.le_of_ble_eq_true rfl) (Nat.le_of_ble_eq_true rfl) (i_X10_readOperand_1 l)
theorem i_X10_readChain_4_1 (l : Launch) : ka_X10_readChain_4 l 21 500 1 := s_X10_readChain_4 l 20 476 (Nat.le_of_ble_eq_true rfl) (Nat.le_of_ble_eq_true rfl) 1 20 476 (Nat.le_of_ble_eq_true rfl) (Nat.le_of_ble_eq_true rfl) (i_X10_readChain_5_1 l)
theorem i_X10_readChain_3_1 (l : Launch) : ka_X10_readChain_3 l 22 524 1 := s_X10_readChain_3 l 21 500 (Nat.le_of_ble_eq_true rfl) (Nat.le_of_ble_eq_true rfl) 1 21 500 (Nat.le_of_ble_eq_true rfl) (Nat.le_of_ble_eq_true rfl) (i_X10_readChain_4_1 l)
theorem i_X10_readChain_2_1 (l : Launch) : ka_X10_readChain_2 l 23 548 1 := s_X10_readChain_2 l 22 524 (Nat.le_of_ble_eq_true rfl) (Nat.le_of_ble_eq_true rfl) 1 22 524 (Nat.le_of_ble_eq_true rfl) (Nat.le_of_ble_eq_true rfl) (i_X10_readChain_3_1 l)
theorem i_X10_readChain_1_1 (l : Launch) : ka_X10_readChain_1 l 24 572 1 := s_X10_readChain_1 l 23 548 (Nat.le_of_ble_eq_true rfl) (Nat.le_of_ble_eq_true rfl) 1 23 548 (Nat.le_of_ble_eq_true rfl) (Nat.le_of_ble_eq_true rfl) (i_X10_readChain_2_1 l)
theorem i_X10_readChain_0_1 (l : Launch) : ka_X10_readChain_0 l 25 596 1 := s_X10_readChain_0 l 24 572 (Nat.le_of_ble_eq_true rfl) (Nat.le_of_ble_eq_true rfl) 1 24 572 (Nat.le_of_ble_eq_true rfl) (Nat.le_of_ble_eq_true rfl) (i_X10_readChain_1_1 l)
theorem i_X10_readInner_1 (l : Launch) : ka_X10_readInner l 26 620 1 := s_X10_readInner l 25 596 (Nat.le_of_ble_eq_true rfl) (Nat.le_of_ble_eq_true rfl) 1 25 596 (Nat.le_of_ble_eq_true rfl) (Nat.le_of_ble_eq_true rfl) (i_X10_readChain_0_1 l)
theorem i_X10_readSigned_1 (l : Launch) : ka_X10_readSigned l 20 476 1 := s_X10_readSigned l 19 453 (Nat.le_of_ble_eq_true rfl) (Nat.le_of_ble_eq_true rfl) 1 19 453 (Nat.le_of_ble_eq_true rfl) (Nat.le_of_ble_eq_true rfl) (i_X10_readOperand_1 l)
theorem i_X10_readOperand_2 (l : Launch) : ka_X10_readOperand l 27 663 2 := s_X10_readOperand l 26 620 (Nat.le_of_ble_eq_true rfl) (Nat.le_of_ble_eq_true rfl) 2 26 620 (Nat.le_of_ble_eq_true rfl) (Nat.le_of_ble_eq_true rfl) (show ka_X10_readInner l 26 620 ((2 : Int) - 1) from (i_X10_readInner_1 l)) 20 476 (Nat.le_of_ble_eq_true rfl) (Nat.le_of_ble_eq_true rfl) (show ka_X10_readSigned l 20 476 ((2 : Int) - 1) from (i_X10_readSigned_1 l))
theorem i_X10_readChain_5_2 (l : Launch) : ka_X10_readChain_5 l 28 686 2 := s_X10_readChain_5 l 27 663 (Nat.le_of_ble_eq_true rfl) (Nat.le_of_ble_eq_true rfl) 2 27 663 (Nat.le_of_ble_eq_true rfl) (Nat.le_of_ble_eq_true rfl) (i_X10_readOperand_2 l)
theorem i_X10_readChain_4_2 (l : Launch) : ka_X10_readChain_4 l 29 710 2 := s_X10_readChain_4 l 28 686 (Nat.le_of_ble_eq_true rfl) (Nat.le_of_ble_eq_true rfl) 2 28 686 (Nat.le_of_ble_eq_true rfl) (Nat.le_of_ble_eq_true rfl) (i_X10_readChain_5_2 l)
theorem i_X10_readChain_3_2 (l : Launch) : ka_X10_readChain_3 l 30 734 2 := s_X10_readChain_3 l 29 710 (Nat.le_of_ble_eq_true rfl) (Nat.le_of_ble_eq_true rfl) 2 29 710 (Nat.le_of_ble_eq_true rfl) (Nat.le_of_ble_eq_true rfl) (i_X10_readChain_4_2 l)
theorem i_X10_readChain_2_2 (l : Launch) : ka_X10_readChain_2 l 31 758 2 := s_X10_readChain_2 l 30 734 (Nat.le_of_ble_eq_true rfl) (Nat.le_of_ble_eq_true rfl) 2 30 734 (Nat.le_of_ble_eq_true rfl) (Nat.le_of_ble_eq_true rfl) (i_X10_readChain_3_2 l)
theorem i_X10_readChain_1_2 (l : Launch) : ka_X10_readChain_1 l 32 782 2 := s_X10_readChain_1 l 31 758 (Nat.le_of_ble_eq_true rfl) (Nat.le_of_ble_eq_true rfl) 2 31 758 (Nat.le_of_ble_eq_true rfl) (Nat.le_of_ble_eq_true rfl) (i_X10_readChain_2_2 l)
theorem i_X10_readChain_0_2 (l : Launch) : ka_X10_readChain_0 l 33 806 2 := s_X10_readChain_0 l 32 782 (Nat.le_of_ble_eq_true rfl) (Nat.le_of_ble_eq_true rfl) 2 32 782 (Nat.le_of_ble_eq_true rfl) (Nat.le_of_ble_eq_true rfl) (i_X10_readChain_1_2 l)
theorem i_X10_readInner_2 (l : Launch) : ka_X10_readInner l 34 830 2 := s_X10_readInner l 33 806 (Nat.le_of_ble_eq_true rfl) (Nat.le_of_ble_eq_true rfl) 2 33 806 (Nat.le_of_ble_eq_true rfl) (Nat.le_of_ble_eq_true rfl) (i_X10_readChain_0_2 l)
theorem i_X10_readSigned_2 (l : Launch) : ka_X10_readSigned l 28 686 2 := s_X10_readSigned l 27 663 (Nat.le_of_ble_eq_true rfl) (Nat.le_of_ble_eq_true rfl) 2 27 663 (Nat.le_of_ble_eq_true rfl) (Nat.le_of_ble_eq_true rfl) (i_X10_readOperand_2 l)
theorem i_X10_readOperand_3 (l : Launch) : ka_X10_readOperand l 35 873 3 := s_X10_readOperand l 34 830 (Nat.le_of_ble_eq_true rfl) (Nat.le_of_ble_eq_true rfl) 3 34 830 (Nat.le_of_ble_eq_true rfl) (Nat.le_of_ble_eq_true rfl) (show ka_X10_readInner l 34 830 ((3 : Int) - 1) from (i_X10_readInner_2 l)) 28 686 (Nat.le_of_ble_eq_true rfl) (Nat.le_of_ble_eq_true rfl) (show ka_X10_readSigned l 28 686 ((3 : Int) - 1) from (i_X10_readSigned_2 l))
theorem i_X10_readChain_5_3 (l : Launch) : ka_X10_readChain_5 l 36 896 3 := s_X10_readChain_5 l 35 873 (Nat.le_of_ble_eq_true rfl) (Nat.le_of_ble_eq_true rfl) 3 35 873 (Nat.le_of_ble_eq_true rfl) (Nat.le_of_ble_eq_true rfl) (i_X10_readOperand_3 l)
theorem i_X10_readChain_4_3 (l : Launch) : ka_X10_readChain_4 l 37 920 3 := s_X10_readChain_4 l 36 896 (Nat.le_of_ble_eq_true rfl) (Nat.le_of_ble_eq_true rfl) 3 36 896 (Nat.le_of_ble_eq_true rfl) (Nat.le_of_ble_eq_true rfl) (i_X10_readChain_5_3 l)
theorem i_X10_readChain_3_3 (l : Launch) : ka_X10_readChain_3 l 38 944 3 := s_X10_readChain_3 l 37 920 (Nat.le_of_ble_eq_true rfl) (Nat.le_of_ble_eq_true rfl) 3 37 920 (Nat.le_of_ble_eq_true rfl) (Nat.le_of_ble_eq_true rfl) (i_X10_readChain_4_3 l)
theorem i_X10_readChain_2_3 (l : Launch) : ka_X10_readChain_2 l 39 968 3 := s_X10_readChain_2 l 38 944 (Nat.le_of_ble_eq_true rfl) (Nat.le_of_ble_eq_true rfl) 3 38 944 (Nat.le_of_ble_eq_true rfl) (Nat.le_of_ble_eq_true rfl) (i_X10_readChain_3_3 l)
theorem i_X10_readChain_1_3 (l : Launch) : ka_X10_readChain_1 l 40 992 3 := s_X10_readChain_1 l 39 968 (Nat.le_of_ble_eq_true rfl) (Nat.le_of_ble_eq_true rfl) 3 39 968 (Nat.le_of_ble_eq_true rfl) (Nat.le_of_ble_eq_true rfl) (i_X10_readChain_2_3 l)
theorem i_X10_readChain_0_3 (l : Launch) : ka_X10_readChain_0 l 41 1016 3 := s_X10_readChain_0 l 40 992 (Nat.le_of_ble_eq_true rfl) (Nat.le_of_ble_eq_true rfl) 3 40 992 (Nat.le_of_ble_eq_true rfl) (Nat.le_of_ble_eq_true rfl) (i_X10_readChain_1_3 l)
theorem i_X10_readInner_3 (l : Launch) : ka_X10_readInner l 42 1040 3 := s_X10_readInner l 41 1016 (Nat.le_of_ble_eq_true rfl) (Nat.le_of_ble_eq_true rfl) 3 41 1016 (Nat.le_of_ble_eq_true rfl) (Nat.le_of_ble_eq_true rfl) (i_X10_readChain_0_3 l)
theorem i_X10_readSigned_3 (l : Launch) : ka_X10_readSigned l 36 896 3 := s_X10_readSigned l 35 873 (Nat.le_of_ble_eq_true rfl) (Nat.le_of_ble_eq_true rfl) 3 35 873 (Nat.le_of_ble_eq_true rfl) (Nat.le_of_ble_eq_true rfl) (i_X10_readOperand_3 l)
theorem i_X10_readOperand_4 (l : Launch) : ka_X10_readOperand l 43 1083 4 := s_X10_readOperand l 42 1040 (Nat.le_of_ble_eq_true rfl) (Nat.le_of_ble_eq_true rfl) 4 42 1040 (Nat.le_of_ble_eq_true rfl) (Nat.le_of_ble_eq_true rfl) (show ka_X10_readInner l 42 1040 ((4 : Int) - 1) from (i_X10_readInner_3 l)) 36 896 (Nat.le_of_ble_eq_true rfl) (Nat.le_of_ble_eq_true rfl) (show ka_X10_readSigned l 36 896 ((4 : Int) - 1) from (i_X10_readSigned_3 l))
theorem i_X10_readChain_5_4 (l : Launch) : ka_X10_readChain_5 l 44 1106 4 := s_X10_readChain_5 l 43 1083 (Nat.le_of_ble_eq_true rfl) (Nat.le_of_ble_eq_true rfl) 4 43 1083 (Nat.le_of_ble_eq_true rfl) (Nat.le_of_ble_eq_true rfl) (i_X10_readOperand_4 l)
theorem i_X10_readChain_4_4 (l : Launch) : ka_X10_readChain_4 l 45 1130 4 := s_X10_readChain_4 l 44 1106 (Nat.le_of_ble_eq_true rfl) (Nat.le_of_ble_eq_true rfl) 4 44 1106 (Nat.le_of_ble_eq_true rfl) (Nat.le_of_ble_eq_true rfl) (i_X10_readChain_5_4 l)
theorem i_X10_readChain_3_4 (l : Launch) : ka_X10_readChain_3 l 46 1154 4 := s_X10_readChain_3 l 45 1130 (Nat.le_of_ble_eq_true rfl) (Nat.le_of_ble_eq_true rfl) 4 45 1130 (Nat.le_of_ble_eq_true rfl) (Nat.le_of_ble_eq_true rfl) (i_X10_readChain_4_4 l)
theorem i_X10_readChain_2_4 (l : Launch) : ka_X10_readChain_2 l 47 1178 4 := s_X10_readChain_2 l 46 1154 (Nat.le_of_ble_eq_true rfl) (Nat.le_of_ble_eq_true rfl) 4 46 1154 (Nat.le_of_ble_eq_true rfl) (Nat.le_of_ble_eq_true rfl) (i_X10_readChain_3_4 l)
theorem i_X10_readChain_1_4 (l : Launch) : ka_X10_readChain_1 l 48 1202 4 := s_X10_readChain_1 l 47 1178 (Nat.le_of_ble_eq_true rfl) (Nat.le_of_ble_eq_true rfl) 4 47 1178 (Nat.le_of_ble_eq_true rfl) (Nat.le_of_ble_eq_true rfl) (i_X10_readChain_2_4 l)
theorem i_X10_readChain_0_4 (l : Launch) : ka_X10_readChain_0 l 49 1226 4 := s_X10_readChain_0 l 48 1202 (Nat.le_of_ble_eq_true rfl) (Nat.le_of_ble_eq_true rfl) 4 48 1202 (Nat.le_of_ble_eq_true rfl) (Nat.le_of_ble_eq_true rfl) (i_X10_readChain_1_4 l)
theorem i_X10_readInner_4 (l : Launch) : ka_X10_readInner l 50 1250 4 := s_X10_readInner l 49 1226 (Nat.le_of_ble_eq_true rfl) (Nat.le_of_ble_eq_true rfl) 4 49 1226 (Nat.le_of_ble_eq_true rfl) (Nat.le_of_ble_eq_true rfl) (i_X10_readChain_0_4 l)
theorem i_X10_readSigned_4 (l : Launch) : ka_X10_readSigned l 44 1106 4 := s_X10_readSigned l 43 1083 (Nat.le_of_ble_eq_true rfl) (Nat.le_of_ble_eq_true rfl) 4 43 1083 (Nat.le_of_ble_eq_true rfl) (Nat.le_of_ble_eq_true rfl) (i_X10_readOperand_4 l)
theorem i_X10_readOperand_5 (l : Launch) : ka_X10_readOperand l 51 1293 5 := s_X10_readOperand l 50 1250 (Nat.le_of_ble_eq_true rfl) (Nat.le_of_ble_eq_true rfl) 5 50 1250 (Nat.le_of_ble_eq_true rfl) (Nat.le_of_ble_eq_true rfl) (show ka_X10_readInner l 50 1250 ((5 : Int) - 1) from (i_X10_readInner_4 l)) 44 1106 (Nat.le_of_ble_eq_true rfl) (Nat.le_of_ble_eq_true rfl) (show ka_X10_readSigned l 44 1106 ((5 : Int) - 1) from (i_X10_readSigned_4 l))
theorem i_X10_readChain_5_5 (l : Launch) : ka_X10_readChain_5 l 52 1316 5 := s_X10_readChain_5 l 51 1293 (Nat.le_of_ble_eq_true rfl) (Nat.le_of_ble_eq_true rfl) 5 51 1293 (Nat.le_of_ble_eq_true rfl) (Nat.le_of_ble_eq_true rfl) (i_X10_readOperand_5 l)
theorem i_X10_readChain_4_5 (l : Launch) : ka_X10_readChain_4 l 53 1340 5 := s_X10_readChain_4 l 52 1316 (Nat.le_of_ble_eq_true rfl) (Nat.le_of_ble_eq_true rfl) 5 52 1316 (Nat.le_of_ble_eq_true rfl) (Nat.le_of_ble_eq_true rfl) (i_X10_readChain_5_5 l)
theorem i_X10_readChain_3_5 (l : Launch) : ka_X10_readChain_3 l 54 1364 5 := s_X10_readChain_3 l 53 1340 (Nat.le_of_ble_eq_true rfl) (Nat.le_of_ble_eq_true rfl) 5 53 1340 (Nat.le_of_ble_eq_true rfl) (Nat.le_of_ble_eq_true rfl) (i_X10_readChain_4_5 l)
theorem i_X10_readChain_2_5 (l : Launch) : ka_X10_readChain_2 l 55 1388 5 := s_X10_readChain_2 l 54 1364 (Nat.le_of_ble_eq_true rfl) (Nat.le_of_ble_eq_true rfl) 5 54 1364 (Nat.le_of_ble_eq_true rfl) (Nat.le_of_ble_eq_true rfl) (i_X10_readChain_3_5 l)
theorem i_X10_readChain_1_5 (l : Launch) : ka_X10_readChain_1 l 56 1412 5 := s_X10_readChain_1 l 55 1388 (Nat.le_of_ble_eq_true rfl) (Nat.le_of_ble_eq_true rfl) 5 55 1388 (Nat.le_of_ble_eq_true rfl) (Nat.le_of_ble_eq_true rfl) (i_X10_readChain_2_5 l)
theorem i_X10_readChain_0_5 (l : Launch) : ka_X10_readChain_0 l 57 1436 5 := s_X10_readChain_0 l 56 1412 (Nat.le_of_ble_eq_true rfl) (Nat.le_of_ble_eq_true rfl) 5 56 1412 (Nat.le_of_ble_eq_true rfl) (Nat.le_of_ble_eq_true rfl) (i_X10_readChain_1_5 l)
theorem i_X10_readInner_5 (l : Launch) : ka_X10_readInner l 58 1460 5 := s_X10_readInner l 57 1436 (Nat.le_of_ble_eq_true rfl) (Nat.le_of_ble_eq_true rfl) 5 57 1436 (Nat.le_of_ble_eq_true rfl) (Nat.le_of_ble_eq_true rfl) (i_X10_readChain_0_5 l)
theorem i_X10_readSigned_5 (l : Launch) : ka_X10_readSigned l 52 1316 5 := s_X10_readSigned l 51 1293 (Nat.le_of_ble_eq_true rfl) (Nat.le_of_ble_eq_true rfl) 5 51 1293 (Nat.le_of_ble_eq_true rfl) (Nat.le_of_ble_eq_true rfl) (i_X10_readOperand_5 l)
theorem i_X10_readOperand_6 (l : Launch) : ka_X10_readOperand l 59 1503 6 := s_X10_readOperand l 58 1460 (Nat.le_of_ble_eq_true rfl) (Nat.le_of_ble_eq_true rfl) 6 58 1460 (Nat.le_of_ble_eq_true rfl) (Nat.le_of_ble_eq_true rfl) (show ka_X10_readInner l 58 1460 ((6 : Int) - 1) from (i_X10_readInner_5 l)) 52 1316 (Nat.le_of_ble_eq_true rfl) (Nat.le_of_ble_eq_true rfl) (show ka_X10_readSigned l 52 1316 ((6 : Int) - 1) from (i_X10_readSigned_5 l))
theorem i_X10_readChain_5_6 (l : Launch) : ka_X10_readChain_5 l 60 1526 6 := s_X10_readChain_5 l 59 1503 (Nat.le_of_ble_eq_true rfl) (Nat.le_of_ble_eq_true rfl) 6 59 1503 (Nat.le_of_ble_eq_true rfl) (Nat.le_of_ble_eq_true rfl) (i_X10_readOperand_6 l)
theorem i_X10_readChain_4_6 (l : Launch) : ka_X10_readChain_4 l 61 1550 6 := s_X10_readChain_4 l 60 1526 (Nat.le_of_ble_eq_true rfl) (Nat.le_of_ble_eq_true rfl) 6 60 1526 (Nat.le_of_ble_eq_true rfl) (Nat.le_of_ble_eq_true rfl) (i_X10_readChain_5_6 l)
theorem i_X10_readChain_3_6 (l : Launch) : ka_X10_readChain_3 l 62 1574 6 := s_X10_readChain_3 l 61 1550 (Nat.le_of_ble_eq_true rfl) (Nat.le_of_ble_eq_true rfl) 6 61 1550 (Nat.le_of_ble_eq_true rfl) (Nat.le_of_ble_eq_true rfl) (i_X10_readChain_4_6 l)
theorem i_X10_readChain_2_6 (l : Launch) : ka_X10_readChain_2 l 63 1598 6 := s_X10_readChain_2 l 62 1574 (Nat.le_of_ble_eq_true rfl) (Nat.le_of_ble_eq_true rfl) 6 62 1574 (Nat.le_of_ble_eq_true rfl) (Nat.le_of_ble_eq_true rfl) (i_X10_readChain_3_6 l)
theorem i_X10_readChain_1_6 (l : Launch) : ka_X10_readChain_1 l 64 1622 6 := s_X10_readChain_1 l 63 1598 (Nat.le_of_ble_eq_true rfl) (Nat.le_of_ble_eq_true rfl) 6 63 1598 (Nat.le_of_ble_eq_true rfl) (Nat.le_of_ble_eq_true rfl) (i_X10_readChain_2_6 l)
theorem i_X10_readChain_0_6 (l : Launch) : ka_X10_readChain_0 l 65 1646 6 := s_X10_readChain_0 l 64 1622 (Nat.le_of_ble_eq_true rfl) (Nat.le_of_ble_eq_true rfl) 6 64 1622 (Nat.le_of_ble_eq_true rfl) (Nat.le_of_ble_eq_true rfl) (i_X10_readChain_1_6 l)
theorem g_X10_readChain_0_g (l : Launch) : ka_X10_readChain_0 l 65 1646 6 := i_X10_readChain_0_6 l
set_option maxHeartbeats 4000000 in
set_option maxRecDepth 100000 in
theorem g_X10_readLine_0 (l : Launch) (dC : Nat → ClassId) (dI : Nat → Nat → Nat) (h0 : Nat) (h1 : Nat) (h2 : Nat) (h3 : Nat) (h4 : Nat) (h5 : Nat) (cint : ClassId) (sz : Nat) (n0_size : Int32) (n0_place : Int32) (f1 : Nat → Int32) (n2_size : Int32) (n2_top : Int32) (f3 : Nat → Int32) (tn0_size : kk_bx (0 ≤ n0_size.toInt ∧ n0_size.toInt ≤ 120)) (bf1 : ∀ j, j < 120 → 0 ≤ (f1 j).toInt ∧ (f1 j).toInt ≤ 255) (tn2_size : kk_bx (0 ≤ n2_size.toInt ∧ n2_size.toInt ≤ 128)) (tn2_top : kk_bx (0 ≤ n2_top.toInt ∧ n2_top.toInt ≤ 64)) (aNAMES : Nat) : Met l yX10_readLine wsX10_readLine ({ frames := 66, cells := 0, slots := 0, locals := 1670 }) (va_Pc [.ref h0] (fun U => U.heap.size = sz ∧ va_P (dC, dI) vwCl [(h0, kO10 h1 n0_size n0_place h2), (h1, kAi cint 120 f1), (h2, kO4 h3 n2_size h4 h5 n2_top), (h3, kAi cint 128 f3)] U.heap ∧ va_K (dC, dI) vwCl [(cint, .int)] U ∧ va_D (fun _ => True) [(h0, kO10 h1 n0_size n0_place h2), (h1, kAi cint 120 f1), (h2, kO4 h3 n2_size h4 h5 n2_top), (h3, kAi cint 128 f3)] ∧ va_Z "KinkStreet$Law" "NAMES" "[C" (.ref aNAMES) (va_A [(h0, kO10 h1 n0_size n0_place h2), (h1, kAi cint 120 f1), (h2, kO4 h3 n2_size h4 h5 n2_top), (h3, kAi cint 128 f3)] sz) U U.heap ∧ va_T .char aNAMES 8 tb_NAMES (va_A [(h0, kO10 h1 n0_size n0_place h2), (h1, kAi cint 120 f1), (h2, kO4 h3 n2_size h4 h5 n2_top), (h3, kAi cint 128 f3)] sz) U U.heap)) (va_Qi (fun (r : Int32) (_ : Unit) => (0 ≤ r.toInt ∧ r.toInt ≤ 1)) (fun (_ : Unit) t => ∃ (m0_place : Int32) (m2_size : Int32) (g3 : Nat → Int32), (0 ≤ m2_size.toInt ∧ m2_size.toInt ≤ 128) ∧ va_P (dC, dI) vwCl [(h0, kO10 h1 n0_size m0_place h2), (h1, kAi cint 120 f1), (h2, kO4 h3 m2_size h4 h5 n2_top), (h3, kAi cint 128 g3)] t.heap ∧ va_K (dC, dI) vwCl [] t ∧ va_D (va_A [(h0, kO10 h1 n0_size n0_place h2), (h1, kAi cint 120 f1), (h2, kO4 h3 n2_size h4 h5 n2_top), (h3, kAi cint 128 f3)] sz) [(h0, kO10 h1 n0_size m0_place h2), (h1, kAi cint 120 f1), (h2, kO4 h3 m2_size h4 h5 n2_top), (h3, kAi cint 128 g3)]) (va_A [(h0, kO10 h1 n0_size n0_place h2), (h1, kAi cint 120 f1), (h2, kO4 h3 n2_size h4 h5 n2_top), (h3, kAi cint 128 f3)] sz)) 0 0 (va_A [(h0, kO10 h1 n0_size n0_place h2), (h1, kAi cint 120 f1), (h2, kO4 h3 n2_size h4 h5 n2_top), (h3, kAi cint 128 f3)] sz) := by
  refine Met.ofW (cc := cX10_readLine) (maxL := 1) (ret := (some .boolean)) (by decide) rfl ?_
  intro p e s m args below meth c s₁ B hml hv
  obtain ⟨rfl, hsz, hP, hK, hD0, hZNAMES, hTNAMES⟩ := hv
  have hx := B.exec
  have hb := B.bytes
  have hr := B.returns
  have hts := atoms_spec (ws := wsX10_readLine) B.pre
  have hown : s.vm.findClass RX10 = some m.cls := findClass_of_methodNamed B.named
  have hlocks := B.notSynchronized
  subst hsz
  have hD := hD0.self (sz := s.heap.size)
  generalize hAe : va_A [(h0, kO10 h1 n0_size n0_place h2), (h1, kAi cint 120 f1), (h2, kO4 h3 n2_size h4 h5 n2_top), (h3, kAi cint 128 f3)] s.heap.size = A at hD hZNAMES hTNAMES ⊢
  have hA : ∀ q : Nat, s.heap.size ≤ q → A q := fun q h => by rw [← hAe]; exact Or.inr h
  have hS : va_S A s.heap s.heap [] := va_S.rf
  have hP : va_P (dC, dI) vwCl [(h0, kO10 h1 n0_size n0_place h2), (h1, kAi cint 120 f1), (h2, kO4 h3 n2_size h4 h5 n2_top), (h3, kAi cint 128 f3)] s.heap := hP
  have hl := lv_entry ([.ref h0]) (n := 1) (Nat.le_of_ble_eq_true rfl)
  rw [lg_entry_eq]
  generalize (lg_sl ([.ref h0]) ++ List.replicate (1 - (lg_sl ([.ref h0])).length) Slot.unset).toArray = ls at hl ⊢
  have hl : lv_has ls 1 [(0, .ref h0)] := hl
  refine lv_aload_n hx hb dX10_readLine_0 rfl (lv_at hl 0 rfl) ?_
  refine lv_iconst (v := 0) hx hb dX10_readLine_1 kk_ic_0 ?_
  refine lv_iconst (v := 0) hx hb dX10_readLine_2 kk_ic_0 ?_
  obtain ⟨hPc, hDc, hFc⟩ := kk_cutout (wc := [(h0, kO10 h1 n0_size n0_place h2), (h1, kAi cint 120 f1), (h2, kO4 h3 n2_size h4 h5 n2_top), (h3, kAi cint 128 f3)]) hP hD hS hA [0, 1, 2, 3] (by decide) rfl
  have hKc := kk_Ks (tq := [(cint, .int)]) hK [0] rfl
  refine va_calli (va_runV (As := [.int 0, .int 0]) (rest := []) ⟨hx, hb, hml, hown, hts⟩ (g_X10_readChain_0_g l dC dI h0 h1 h2 h3 h4 h5 cint s.heap.size 0 (by show 0 ≤ (0 : Int32).toInt ∧ (0 : Int32).toInt ≤ 6; first | with_reducible assumption | decide | ((omega))) n0_size n0_place f1 n2_size n2_top f3 tn0_size bf1 tn2_size tn2_top (by show (6 ≤ (0 : Int) + (6 : Int)); first | decide | (omega)) aNAMES) (cwV 2 hts gX10_readLine_X10_readChain rfl rfl rfl ⟨rfl, kh_X10_readChain⟩ ⟨Nat.le_of_ble_eq_true rfl, Nat.le_of_ble_eq_true rfl⟩) ⟨fun a U g mk q => by obtain ⟨q0, q1, qP, qK, qD, qx0, qx1⟩ := q; exact ⟨q0, q1, qP, va_K.moved (u := U) (U := U.calling g mk a) (Vm.Alike.refl U.vm) qK, qD, va_Z.moved (u := U) (U := U.calling g mk a) (Vm.Alike.refl U.vm) qx0, va_T.moved (u := U) (U := U.calling g mk a) (Vm.Alike.refl U.vm) qx1⟩, va_recv hKc hPc (ci := 10) (q0 := 0) rfl rfl, fun U hU hW => ⟨rfl, by rw [hU], by rw [hU]; exact hPc, va_K.moved hW.alike hKc, hDc.weaken (fun _ _ _ _ => trivial), by rw [hU]; exact ((hZNAMES.kept (fun a h1 h2 => hS.2.1 a h1 h2)).narrow hFc).moved hW.alike, by rw [hU]; exact ((hTNAMES.kept (fun a h1 h2 => hS.2.1 a h1 h2)).narrow hFc).moved hW.alike⟩⟩ rfl rfl hl.1 rfl (lv_room (Nat.le_of_ble_eq_true rfl)) dX10_readLine_3 ⟨Nat.le_of_ble_eq_true rfl, Nat.le_of_ble_eq_true rfl⟩) hS (fun q _ h => hFc q h) hFc (fun r_1 u t H1 locs ht hvm hw hB hz1 hk1 hS => ?_)
  refine hB.elim (fun y_2 hB => ?_)
  refine hB.elim (fun y_3 hB => ?_)
  refine hB.elim (fun f_4 hB => ?_)
  refine hB.elim (fun by_3 hB => ?_)
  have hP1 := hB.1
  have hK1 := hB.2.1
  have hD1 := hB.2.2
  rw [ht] at hP1
  have hK1 := va_K.moved hvm.symm hK1
  obtain ⟨hP, hD⟩ := va_join (wr := []) (w1 := [(h0, kO10 h1 n0_size y_2 h2), (h1, kAi cint 120 f1), (h2, kO4 h3 y_3 h4 h5 n2_top), (h3, kAi cint 128 f_4)]) hP hD [0, 1, 2, 3] [] rfl rfl (by decide) (by decide) hk1 hFc hP1 hD1
  generalize H1 = H at hP hS ⊢
  have hP : va_P (dC, dI) vwCl [(h0, kO10 h1 n0_size y_2 h2), (h1, kAi cint 120 f1), (h2, kO4 h3 y_3 h4 h5 n2_top), (h3, kAi cint 128 f_4)] H := hP
  have hD : va_D A [(h0, kO10 h1 n0_size y_2 h2), (h1, kAi cint 120 f1), (h2, kO4 h3 y_3 h4 h5 n2_top), (h3, kAi cint 128 f_4)] := hD
  have t_1 : 0 ≤ r_1.toInt ∧ r_1.toInt ≤ 1 := hw
  refine lv_if_ne (tgt := 11) hx hb dX10_readLine_6 (by decide) (fun c_5 => ?_) (fun c_5 => ?_)
  · have t_5 : r_1.toInt ≠ 0 := kk_ne c_5
    refine lv_aload_n hx hb dX10_readLine_11 rfl (lv_at hl 0 rfl) ?_
    obtain ⟨hPc, hDc, hFc⟩ := kk_cutout (wc := [(h0, kO10 h1 n0_size y_2 h2), (h1, kAi cint 120 f1)]) hP hD hS hA [0, 1] (by decide) rfl
    have hKc := kk_Ks (tq := [(cint, .int)]) hK [0] rfl
    refine va_calli (va_runV (As := []) (rest := []) ⟨hx, hb, hml, hown, hts⟩ (g_X10_next_0 l dC dI h0 h1 h2 cint H.size n0_size y_2 f1 tn0_size bf1) (cwV 0 hts gX10_readLine_X10_next rfl rfl rfl ⟨rfl, kh_X10_next⟩ ⟨Nat.le_of_ble_eq_true rfl, Nat.le_of_ble_eq_true rfl⟩) ⟨fun a U g mk q => by obtain ⟨q0, q1, qP, qK, qD⟩ := q; exact ⟨q0, q1, qP, va_K.moved (u := U) (U := U.calling g mk a) (Vm.Alike.refl U.vm) qK, qD⟩, va_recv hKc hPc (ci := 10) (q0 := 0) rfl rfl, fun U hU hW => ⟨rfl, by rw [hU], by rw [hU]; exact hPc, va_K.moved hW.alike hKc, hDc.weaken (fun _ _ _ _ => trivial)⟩⟩ rfl rfl hl.1 rfl (lv_room (Nat.le_of_ble_eq_true rfl)) dX10_readLine_12 ⟨Nat.le_of_ble_eq_true rfl, Nat.le_of_ble_eq_true rfl⟩) hS (fun q _ h => hFc q h) hFc (fun r_6 u t H1 locs ht hvm hw hB hz1 hk1 hS => ?_)
    obtain ⟨hP1, hK1, hD1⟩ := hB
    rw [ht] at hP1
    have hK1 := va_K.moved hvm.symm hK1
    obtain ⟨hP, hD⟩ := va_join (wr := [(h2, kO4 h3 y_3 h4 h5 n2_top), (h3, kAi cint 128 f_4)]) (w1 := [(h0, kO10 h1 n0_size y_2 h2), (h1, kAi cint 120 f1)]) hP hD [0, 1] [2, 3] rfl rfl (by decide) (by decide) hk1 hFc hP1 hD1
    generalize H1 = H at hP hS ⊢
    have hP : va_P (dC, dI) vwCl [(h2, kO4 h3 y_3 h4 h5 n2_top), (h3, kAi cint 128 f_4), (h0, kO10 h1 n0_size y_2 h2), (h1, kAi cint 120 f1)] H := hP
    have hD : va_D A [(h2, kO4 h3 y_3 h4 h5 n2_top), (h3, kAi cint 128 f_4), (h0, kO10 h1 n0_size y_2 h2), (h1, kAi cint 120 f1)] := hD
    have t_6 : (-1) ≤ r_6.toInt ∧ r_6.toInt ≤ 255 := hw
    refine lv_bipush (v := 63) hx hb dX10_readLine_15 kk_bi_63 ?_
    refine lv_icmp_ne (tgt := 50) hx hb dX10_readLine_17 (by decide) (fun c_7 => ?_) (fun c_7 => ?_)
    · have t_7 : r_6.toInt ≠ 63 := kk_ne c_7
      refine lv_aload_n hx hb dX10_readLine_50 rfl (lv_at hl 0 rfl) ?_
      refine va_get (D := (dC, dI)) (ci := 10) (v := .ref h2) (C := RX10) (T := TX10) (N := 4) hx hb hts (fun _ h => List.mem_cons_of_mem _ (List.mem_append_left _ (List.mem_append_right _ h))) hown hK hP 2 rfl rfl 3 (by decide) (hts (.fieldLink RX10 20 "KinkStreet$Tape" "law" "LKinkStreet$Law;") (List.mem_of_getElem? (i := 2) rfl)) (fun _ h9 => h9) rfl dX10_readLine_51 ?_
      refine lv_bipush (v := 59) hx hb dX10_readLine_54 kk_bi_59 ?_
      obtain ⟨hPc, hDc, hFc⟩ := kk_cutout (wc := [(h2, kO4 h3 y_3 h4 h5 n2_top), (h3, kAi cint 128 f_4)]) hP hD hS hA [0, 1] (by decide) rfl
      have hKc := kk_Ks (tq := [(cint, .int)]) hK [0] rfl
      refine va_callv (va_runV (As := [.int 59]) (rest := []) ⟨hx, hb, hml, hown, hts⟩ (g_X4_append_0 l dC dI h2 h3 h4 h5 cint H.size 59 y_3 n2_top f_4 (by show 0 ≤ (y_3 : Int32).toInt ∧ (y_3 : Int32).toInt ≤ 128; first | with_reducible assumption | ((omega))) tn2_top) (cwV 1 hts gX10_readLine_X4_append rfl rfl rfl ⟨rfl, kh_X4_append⟩ ⟨Nat.le_of_ble_eq_true rfl, Nat.le_of_ble_eq_true rfl⟩) ⟨fun a U g mk q => by obtain ⟨q0, q1, qP, qK, qD⟩ := q; exact ⟨q0, q1, qP, va_K.moved (u := U) (U := U.calling g mk a) (Vm.Alike.refl U.vm) qK, qD⟩, va_recv hKc hPc (ci := 4) (q0 := 0) rfl rfl, fun U hU hW => ⟨rfl, by rw [hU], by rw [hU]; exact hPc, va_K.moved hW.alike hKc, hDc.weaken (fun _ _ _ _ => trivial)⟩⟩ rfl rfl hl.1 rfl (lv_room (Nat.le_of_ble_eq_true rfl)) dX10_readLine_56 ⟨Nat.le_of_ble_eq_true rfl, Nat.le_of_ble_eq_true rfl⟩) hS (fun q _ h => hFc q h) hFc (fun u t H1 locs ht hvm hw hB hz1 hk1 hS => ?_)
      refine hB.elim (fun y_9 hB => ?_)
      refine hB.elim (fun f_10 hB => ?_)
      refine hB.elim (fun by_9 hB => ?_)
      have hP1 := hB.1
      have hK1 := hB.2.1
      have hD1 := hB.2.2
      rw [ht] at hP1
      have hK1 := va_K.moved hvm.symm hK1
      obtain ⟨hP, hD⟩ := va_join (wr := [(h0, kO10 h1 n0_size y_2 h2), (h1, kAi cint 120 f1)]) (w1 := [(h2, kO4 h3 y_9 h4 h5 n2_top), (h3, kAi cint 128 f_10)]) hP hD [0, 1] [2, 3] rfl rfl (by decide) (by decide) hk1 hFc hP1 hD1
      generalize H1 = H at hP hS ⊢
      have hP : va_P (dC, dI) vwCl [(h0, kO10 h1 n0_size y_2 h2), (h1, kAi cint 120 f1), (h2, kO4 h3 y_9 h4 h5 n2_top), (h3, kAi cint 128 f_10)] H := hP
      have hD : va_D A [(h0, kO10 h1 n0_size y_2 h2), (h1, kAi cint 120 f1), (h2, kO4 h3 y_9 h4 h5 n2_top), (h3, kAi cint 128 f_10)] := hD
      refine lv_iconst (v := 1) hx hb dX10_readLine_59 kk_ic_1 ?_
      obtain ⟨hP9, hD9⟩ := kk_leafout (wc := [(h0, kO10 h1 n0_size y_2 h2), (h1, kAi cint 120 f1), (h2, kO4 h3 y_9 h4 h5 n2_top), (h3, kAi cint 128 f_10)]) hP hD [0, 1, 2, 3] (by decide) rfl
      have hK9 := kk_Ks (tq := []) hK [] rfl
      exact W.zret (v := 1) hx hb hr rfl (fun t ht hW => ⟨⟨1, (), rfl, (by show 0 ≤ (1 : Int32).toInt ∧ (1 : Int32).toInt ≤ 1; first | with_reducible assumption | decide | ((omega))), y_2, y_9, f_10, (by show 0 ≤ (y_9 : Int32).toInt ∧ (y_9 : Int32).toInt ≤ 128; first | with_reducible assumption | ((omega))), by rw [ht]; exact hP9, va_K.moved hW.alike hK9, hD9⟩, hS.F ht⟩) hS.2.2 dX10_readLine_60
    · have t_7 : r_6.toInt = 63 := kk_eq c_7
      refine lv_aload_n hx hb dX10_readLine_20 rfl (lv_at hl 0 rfl) ?_
      refine lv_dup hx hb dX10_readLine_21 rfl ?_
      refine va_get (D := (dC, dI)) (ci := 10) (v := .int y_2) (C := RX10) (T := TX10) (N := 4) hx hb hts (fun _ h => List.mem_cons_of_mem _ (List.mem_append_left _ (List.mem_append_right _ h))) hown hK hP 2 rfl rfl 2 (by decide) (hts (.fieldLink RX10 17 "KinkStreet$Tape" "place" "I") (List.mem_of_getElem? (i := 1) rfl)) (fun _ h9 => h9) rfl dX10_readLine_22 ?_
      refine lv_iconst (v := 1) hx hb dX10_readLine_25 kk_ic_1 ?_
      refine lv_iadd hx hb dX10_readLine_26 ?_
      refine va_put (D := (dC, dI)) (ci := 10) (v := .int (y_2 + 1)) (ty := .int) (C := RX10) (T := TX10) (N := 4) hx hb hts (fun _ h => List.mem_cons_of_mem _ (List.mem_append_left _ (List.mem_append_right _ h))) tyX10 tyX10_ok nmX10 hown hK hP hD hS 2 rfl rfl 2 (by decide) (hts (.fieldLink RX10 17 "KinkStreet$Tape" "place" "I") (List.mem_of_getElem? (i := 1) rfl)) (fun _ h9 => h9) rfl (by decide +kernel) rfl rfl (Nat.le_of_ble_eq_true rfl) dX10_readLine_27 (fun H locs hP hD hS => ?_)
      have hP : va_P (dC, dI) vwCl [(h2, kO4 h3 y_3 h4 h5 n2_top), (h3, kAi cint 128 f_4), (h0, kO10 h1 n0_size (y_2 + 1) h2), (h1, kAi cint 120 f1)] H := hP
      have hD : va_D A [(h2, kO4 h3 y_3 h4 h5 n2_top), (h3, kAi cint 128 f_4), (h0, kO10 h1 n0_size (y_2 + 1) h2), (h1, kAi cint 120 f1)] := hD
      refine lv_aload_n hx hb dX10_readLine_30 rfl (lv_at hl 0 rfl) ?_
      refine va_get (D := (dC, dI)) (ci := 10) (v := .ref h2) (C := RX10) (T := TX10) (N := 4) hx hb hts (fun _ h => List.mem_cons_of_mem _ (List.mem_append_left _ (List.mem_append_right _ h))) hown hK hP 2 rfl rfl 3 (by decide) (hts (.fieldLink RX10 20 "KinkStreet$Tape" "law" "LKinkStreet$Law;") (List.mem_of_getElem? (i := 2) rfl)) (fun _ h9 => h9) rfl dX10_readLine_31 ?_
      refine lv_bipush (v := 63) hx hb dX10_readLine_34 kk_bi_63 ?_
      obtain ⟨hPc, hDc, hFc⟩ := kk_cutout (wc := [(h2, kO4 h3 y_3 h4 h5 n2_top), (h3, kAi cint 128 f_4)]) hP hD hS hA [0, 1] (by decide) rfl
      have hKc := kk_Ks (tq := [(cint, .int)]) hK [0] rfl
      refine va_callv (va_runV (As := [.int 63]) (rest := []) ⟨hx, hb, hml, hown, hts⟩ (g_X4_append_0 l dC dI h2 h3 h4 h5 cint H.size 63 y_3 n2_top f_4 (by show 0 ≤ (y_3 : Int32).toInt ∧ (y_3 : Int32).toInt ≤ 128; first | with_reducible assumption | ((omega))) tn2_top) (cwV 1 hts gX10_readLine_X4_append rfl rfl rfl ⟨rfl, kh_X4_append⟩ ⟨Nat.le_of_ble_eq_true rfl, Nat.le_of_ble_eq_true rfl⟩) ⟨fun a U g mk q => by obtain ⟨q0, q1, qP, qK, qD⟩ := q; exact ⟨q0, q1, qP, va_K.moved (u := U) (U := U.calling g mk a) (Vm.Alike.refl U.vm) qK, qD⟩, va_recv hKc hPc (ci := 4) (q0 := 0) rfl rfl, fun U hU hW => ⟨rfl, by rw [hU], by rw [hU]; exact hPc, va_K.moved hW.alike hKc, hDc.weaken (fun _ _ _ _ => trivial)⟩⟩ rfl rfl hl.1 rfl (lv_room (Nat.le_of_ble_eq_true rfl)) dX10_readLine_36 ⟨Nat.le_of_ble_eq_true rfl, Nat.le_of_ble_eq_true rfl⟩) hS (fun q _ h => hFc q h) hFc (fun u t H1 locs ht hvm hw hB hz1 hk1 hS => ?_)
      refine hB.elim (fun y_12 hB => ?_)
      refine hB.elim (fun f_13 hB => ?_)
      refine hB.elim (fun by_12 hB => ?_)
      have hP1 := hB.1
      have hK1 := hB.2.1
      have hD1 := hB.2.2
      rw [ht] at hP1
      have hK1 := va_K.moved hvm.symm hK1
      obtain ⟨hP, hD⟩ := va_join (wr := [(h0, kO10 h1 n0_size (y_2 + 1) h2), (h1, kAi cint 120 f1)]) (w1 := [(h2, kO4 h3 y_12 h4 h5 n2_top), (h3, kAi cint 128 f_13)]) hP hD [0, 1] [2, 3] rfl rfl (by decide) (by decide) hk1 hFc hP1 hD1
      generalize H1 = H at hP hS ⊢
      have hP : va_P (dC, dI) vwCl [(h0, kO10 h1 n0_size (y_2 + 1) h2), (h1, kAi cint 120 f1), (h2, kO4 h3 y_12 h4 h5 n2_top), (h3, kAi cint 128 f_13)] H := hP
      have hD : va_D A [(h0, kO10 h1 n0_size (y_2 + 1) h2), (h1, kAi cint 120 f1), (h2, kO4 h3 y_12 h4 h5 n2_top), (h3, kAi cint 128 f_13)] := hD
      refine lv_aload_n hx hb dX10_readLine_39 rfl (lv_at hl 0 rfl) ?_
      refine lv_iconst (v := 0) hx hb dX10_readLine_40 kk_ic_0 ?_
      refine lv_iconst (v := 0) hx hb dX10_readLine_41 kk_ic_0 ?_
      obtain ⟨hPc, hDc, hFc⟩ := kk_cutout (wc := [(h0, kO10 h1 n0_size (y_2 + 1) h2), (h1, kAi cint 120 f1), (h2, kO4 h3 y_12 h4 h5 n2_top), (h3, kAi cint 128 f_13)]) hP hD hS hA [0, 1, 2, 3] (by decide) rfl
      have hKc := kk_Ks (tq := [(cint, .int)]) hK [0] rfl
      refine va_calli (va_runV (As := [.int 0, .int 0]) (rest := []) ⟨hx, hb, hml, hown, hts⟩ (g_X10_readChain_0_g l dC dI h0 h1 h2 h3 h4 h5 cint H.size 0 (by show 0 ≤ (0 : Int32).toInt ∧ (0 : Int32).toInt ≤ 6; first | with_reducible assumption | decide | ((omega))) n0_size (y_2 + 1) f1 y_12 n2_top f_13 tn0_size bf1 (by show 0 ≤ (y_12 : Int32).toInt ∧ (y_12 : Int32).toInt ≤ 128; first | with_reducible assumption | ((omega))) tn2_top (by show (6 ≤ (0 : Int) + (6 : Int)); first | decide | (omega)) aNAMES) (cwV 2 hts gX10_readLine_X10_readChain rfl rfl rfl ⟨rfl, kh_X10_readChain⟩ ⟨Nat.le_of_ble_eq_true rfl, Nat.le_of_ble_eq_true rfl⟩) ⟨fun a U g mk q => by obtain ⟨q0, q1, qP, qK, qD, qx0, qx1⟩ := q; exact ⟨q0, q1, qP, va_K.moved (u := U) (U := U.calling g mk a) (Vm.Alike.refl U.vm) qK, qD, va_Z.moved (u := U) (U := U.calling g mk a) (Vm.Alike.refl U.vm) qx0, va_T.moved (u := U) (U := U.calling g mk a) (Vm.Alike.refl U.vm) qx1⟩, va_recv hKc hPc (ci := 10) (q0 := 0) rfl rfl, fun U hU hW => ⟨rfl, by rw [hU], by rw [hU]; exact hPc, va_K.moved hW.alike hKc, hDc.weaken (fun _ _ _ _ => trivial), by rw [hU]; exact ((hZNAMES.kept (fun a h1 h2 => hS.2.1 a h1 h2)).narrow hFc).moved hW.alike, by rw [hU]; exact ((hTNAMES.kept (fun a h1 h2 => hS.2.1 a h1 h2)).narrow hFc).moved hW.alike⟩⟩ rfl rfl hl.1 rfl (lv_room (Nat.le_of_ble_eq_true rfl)) dX10_readLine_42 ⟨Nat.le_of_ble_eq_true rfl, Nat.le_of_ble_eq_true rfl⟩) hS (fun q _ h => hFc q h) hFc (fun r_14 u t H1 locs ht hvm hw hB hz1 hk1 hS => ?_)
      refine hB.elim (fun y_15 hB => ?_)
      refine hB.elim (fun y_16 hB => ?_)
      refine hB.elim (fun f_17 hB => ?_)
      refine hB.elim (fun by_16 hB => ?_)
      have hP1 := hB.1
      have hK1 := hB.2.1
      have hD1 := hB.2.2
      rw [ht] at hP1
      have hK1 := va_K.moved hvm.symm hK1
      obtain ⟨hP, hD⟩ := va_join (wr := []) (w1 := [(h0, kO10 h1 n0_size y_15 h2), (h1, kAi cint 120 f1), (h2, kO4 h3 y_16 h4 h5 n2_top), (h3, kAi cint 128 f_17)]) hP hD [0, 1, 2, 3] [] rfl rfl (by decide) (by decide) hk1 hFc hP1 hD1
      generalize H1 = H at hP hS ⊢
      have hP : va_P (dC, dI) vwCl [(h0, kO10 h1 n0_size y_15 h2), (h1, kAi cint 120 f1), (h2, kO4 h3 y_16 h4 h5 n2_top), (h3, kAi cint 128 f_17)] H := hP
      have hD : va_D A [(h0, kO10 h1 n0_size y_15 h2), (h1, kAi cint 120 f1), (h2, kO4 h3 y_16 h4 h5 n2_top), (h3, kAi cint 128 f_17)] := hD
      have t_14 : 0 ≤ r_14.toInt ∧ r_14.toInt ≤ 1 := hw
      refine lv_if_ne (tgt := 50) hx hb dX10_readLine_45 (by decide) (fun c_18 => ?_) (fun c_18 => ?_)
      · have t_18 : r_14.toInt ≠ 0 := kk_ne c_18
        refine lv_aload_n hx hb dX10_readLine_50 rfl (lv_at hl 0 rfl) ?_
        refine va_get (D := (dC, dI)) (ci := 10) (v := .ref h2) (C := RX10) (T := TX10) (N := 4) hx hb hts (fun _ h => List.mem_cons_of_mem _ (List.mem_append_left _ (List.mem_append_right _ h))) hown hK hP 0 rfl rfl 3 (by decide) (hts (.fieldLink RX10 20 "KinkStreet$Tape" "law" "LKinkStreet$Law;") (List.mem_of_getElem? (i := 2) rfl)) (fun _ h9 => h9) rfl dX10_readLine_51 ?_
        refine lv_bipush (v := 59) hx hb dX10_readLine_54 kk_bi_59 ?_
        obtain ⟨hPc, hDc, hFc⟩ := kk_cutout (wc := [(h2, kO4 h3 y_16 h4 h5 n2_top), (h3, kAi cint 128 f_17)]) hP hD hS hA [2, 3] (by decide) rfl
        have hKc := kk_Ks (tq := [(cint, .int)]) hK [0] rfl
        refine va_callv (va_runV (As := [.int 59]) (rest := []) ⟨hx, hb, hml, hown, hts⟩ (g_X4_append_0 l dC dI h2 h3 h4 h5 cint H.size 59 y_16 n2_top f_17 (by show 0 ≤ (y_16 : Int32).toInt ∧ (y_16 : Int32).toInt ≤ 128; first | with_reducible assumption | ((omega))) tn2_top) (cwV 1 hts gX10_readLine_X4_append rfl rfl rfl ⟨rfl, kh_X4_append⟩ ⟨Nat.le_of_ble_eq_true rfl, Nat.le_of_ble_eq_true rfl⟩) ⟨fun a U g mk q => by obtain ⟨q0, q1, qP, qK, qD⟩ := q; exact ⟨q0, q1, qP, va_K.moved (u := U) (U := U.calling g mk a) (Vm.Alike.refl U.vm) qK, qD⟩, va_recv hKc hPc (ci := 4) (q0 := 0) rfl rfl, fun U hU hW => ⟨rfl, by rw [hU], by rw [hU]; exact hPc, va_K.moved hW.alike hKc, hDc.weaken (fun _ _ _ _ => trivial)⟩⟩ rfl rfl hl.1 rfl (lv_room (Nat.le_of_ble_eq_true rfl)) dX10_readLine_56 ⟨Nat.le_of_ble_eq_true rfl, Nat.le_of_ble_eq_true rfl⟩) hS (fun q _ h => hFc q h) hFc (fun u t H1 locs ht hvm hw hB hz1 hk1 hS => ?_)
        refine hB.elim (fun y_20 hB => ?_)
        refine hB.elim (fun f_21 hB => ?_)
        refine hB.elim (fun by_20 hB => ?_)
        have hP1 := hB.1
        have hK1 := hB.2.1
        have hD1 := hB.2.2
        rw [ht] at hP1
        have hK1 := va_K.moved hvm.symm hK1
        obtain ⟨hP, hD⟩ := va_join (wr := [(h0, kO10 h1 n0_size y_15 h2), (h1, kAi cint 120 f1)]) (w1 := [(h2, kO4 h3 y_20 h4 h5 n2_top), (h3, kAi cint 128 f_21)]) hP hD [2, 3] [0, 1] rfl rfl (by decide) (by decide) hk1 hFc hP1 hD1
        generalize H1 = H at hP hS ⊢
        have hP : va_P (dC, dI) vwCl [(h0, kO10 h1 n0_size y_15 h2), (h1, kAi cint 120 f1), (h2, kO4 h3 y_20 h4 h5 n2_top), (h3, kAi cint 128 f_21)] H := hP
        have hD : va_D A [(h0, kO10 h1 n0_size y_15 h2), (h1, kAi cint 120 f1), (h2, kO4 h3 y_20 h4 h5 n2_top), (h3, kAi cint 128 f_21)] := hD
        refine lv_iconst (v := 1) hx hb dX10_readLine_59 kk_ic_1 ?_
        obtain ⟨hP9, hD9⟩ := kk_leafout (wc := [(h0, kO10 h1 n0_size y_15 h2), (h1, kAi cint 120 f1), (h2, kO4 h3 y_20 h4 h5 n2_top), (h3, kAi cint 128 f_21)]) hP hD [0, 1, 2, 3] (by decide) rfl
        have hK9 := kk_Ks (tq := []) hK [] rfl
        exact W.zret (v := 1) hx hb hr rfl (fun t ht hW => ⟨⟨1, (), rfl, (by show 0 ≤ (1 : Int32).toInt ∧ (1 : Int32).toInt ≤ 1; first | with_reducible assumption | decide | ((omega))), y_15, y_20, f_21, (by show 0 ≤ (y_20 : Int32).toInt ∧ (y_20 : Int32).toInt ≤ 128; first | with_reducible assumption | ((omega))), by rw [ht]; exact hP9, va_K.moved hW.alike hK9, hD9⟩, hS.F ht⟩) hS.2.2 dX10_readLine_60
      · have t_18 : r_14.toInt = 0 := kk_eq c_18
        refine lv_iconst (v := 0) hx hb dX10_readLine_48 kk_ic_0 ?_
        obtain ⟨hP9, hD9⟩ := kk_leafout (wc := [(h0, kO10 h1 n0_size y_15 h2), (h1, kAi cint 120 f1), (h2, kO4 h3 y_16 h4 h5 n2_top), (h3, kAi cint 128 f_17)]) hP hD [0, 1, 2, 3] (by decide) rfl
        have hK9 := kk_Ks (tq := []) hK [] rfl
        exact W.zret (v := 0) hx hb hr rfl (fun t ht hW => ⟨⟨0, (), rfl, (by show 0 ≤ (0 : Int32).toInt ∧ (0 : Int32).toInt ≤ 1; first | with_reducible assumption | decide | ((omega))), y_15, y_16, f_17, (by show 0 ≤ (y_16 : Int32).toInt ∧ (y_16 : Int32).toInt ≤ 128; first | with_reducible assumption | ((omega))), by rw [ht]; exact hP9, va_K.moved hW.alike hK9, hD9⟩, hS.F ht⟩) hS.2.2 dX10_readLine_49
  · have t_5 : r_1.toInt = 0 := kk_eq c_5
    refine lv_iconst (v := 0) hx hb dX10_readLine_9 kk_ic_0 ?_
    obtain ⟨hP9, hD9⟩ := kk_leafout (wc := [(h0, kO10 h1 n0_size y_2 h2), (h1, kAi cint 120 f1), (h2, kO4 h3 y_3 h4 h5 n2_top), (h3, kAi cint 128 f_4)]) hP hD [0, 1, 2, 3] (by decide) rfl
    have hK9 := kk_Ks (tq := []) hK [] rfl
    exact W.zret (v := 0) hx hb hr rfl (fun t ht hW => ⟨⟨0, (), rfl, (by show 0 ≤ (0 : Int32).toInt ∧ (0 : Int32).toInt ≤ 1; first | with_reducible assumption | decide | ((omega))), y_2, y_3, f_4, (by show 0 ≤ (y_3 : Int32).toInt ∧ (y_3 : Int32).toInt ≤ 128; first | with_reducible assumption | ((omega))), by rw [ht]; exact hP9, va_K.moved hW.alike hK9, hD9⟩, hS.F ht⟩) hS.2.2 dX10_readLine_10
set_option maxHeartbeats 4000000 in
set_option maxRecDepth 100000 in
theorem g_X10_readInto_0 (l : Launch) (dC : Nat → ClassId) (dI : Nat → Nat → Nat) (h0 : Nat) (h1 : Nat) (h2 : Nat) (h3 : Nat) (h4 : Nat) (h5 : Nat) (cint : ClassId) (sz : Nat) (n0_size : Int32) (n0_place : Int32) (o0_law : Option Nat) (n1_size : Int32) (n1_top : Int32) (f2 : Nat → Int32) (f3 : Nat → Int32) (tn0_size : 0 ≤ n0_size.toInt ∧ n0_size.toInt ≤ 120) (tn1_size : kk_bx (0 ≤ n1_size.toInt ∧ n1_size.toInt ≤ 128)) (tn1_top : kk_bx (0 ≤ n1_top.toInt ∧ n1_top.toInt ≤ 64)) (bf2 : ∀ j, j < 120 → 0 ≤ (f2 j).toInt ∧ (f2 j).toInt ≤ 255) (aNAMES : Nat) : Met l yX10_readInto wsX10_readInto ({ frames := 67, cells := 0, slots := 0, locals := 1690 }) (va_Pc [.ref h0, .ref h1] (fun U => U.heap.size = sz ∧ va_P (dC, dI) vwCl [(h0, kO10v h2 n0_size n0_place (va_rf o0_law)), (h1, kO4 h3 n1_size h4 h5 n1_top), (h2, kAi cint 120 f2), (h3, kAi cint 128 f3)] U.heap ∧ va_K (dC, dI) vwCl [(cint, .int)] U ∧ va_D (fun _ => True) [(h0, kO10v h2 n0_size n0_place (va_rf o0_law)), (h1, kO4 h3 n1_size h4 h5 n1_top), (h2, kAi cint 120 f2), (h3, kAi cint 128 f3)] ∧ va_Z "KinkStreet$Law" "NAMES" "[C" (.ref aNAMES) (va_A [(h0, kO10v h2 n0_size n0_place (va_rf o0_law)), (h1, kO4 h3 n1_size h4 h5 n1_top), (h2, kAi cint 120 f2), (h3, kAi cint 128 f3)] sz) U U.heap ∧ va_T .char aNAMES 8 tb_NAMES (va_A [(h0, kO10v h2 n0_size n0_place (va_rf o0_law)), (h1, kO4 h3 n1_size h4 h5 n1_top), (h2, kAi cint 120 f2), (h3, kAi cint 128 f3)] sz) U U.heap)) (va_Qi (fun (r : Int32) (_ : Unit) => True) (fun (_ : Unit) t => ∃ (m0_place : Int32) (m0_law : Option Nat) (m1_size : Int32) (g3 : Nat → Int32), (0 ≤ m1_size.toInt ∧ m1_size.toInt ≤ 128) ∧ va_P (dC, dI) vwCl [(h0, kO10v h2 n0_size m0_place (va_rf m0_law)), (h1, kO4 h3 m1_size h4 h5 n1_top), (h2, kAi cint 120 f2), (h3, kAi cint 128 g3)] t.heap ∧ va_K (dC, dI) vwCl [] t ∧ va_D (va_A [(h0, kO10v h2 n0_size n0_place (va_rf o0_law)), (h1, kO4 h3 n1_size h4 h5 n1_top), (h2, kAi cint 120 f2), (h3, kAi cint 128 f3)] sz) [(h0, kO10v h2 n0_size m0_place (va_rf m0_law)), (h1, kO4 h3 m1_size h4 h5 n1_top), (h2, kAi cint 120 f2), (h3, kAi cint 128 g3)]) (va_A [(h0, kO10v h2 n0_size n0_place (va_rf o0_law)), (h1, kO4 h3 n1_size h4 h5 n1_top), (h2, kAi cint 120 f2), (h3, kAi cint 128 f3)] sz)) 0 0 (va_A [(h0, kO10v h2 n0_size n0_place (va_rf o0_law)), (h1, kO4 h3 n1_size h4 h5 n1_top), (h2, kAi cint 120 f2), (h3, kAi cint 128 f3)] sz) := by
  refine Met.ofW (cc := cX10_readInto) (maxL := 3) (ret := (some .int)) (by decide) rfl ?_
  intro p e s m args below meth c s₁ B hml hv
  obtain ⟨rfl, hsz, hP, hK, hD0, hZNAMES, hTNAMES⟩ := hv
  have hx := B.exec
  have hb := B.bytes
  have hr := B.returns
  have hts := atoms_spec (ws := wsX10_readInto) B.pre
  have hown : s.vm.findClass RX10 = some m.cls := findClass_of_methodNamed B.named
  have hlocks := B.notSynchronized
  subst hsz
  have hD := hD0.self (sz := s.heap.size)
  generalize hAe : va_A [(h0, kO10v h2 n0_size n0_place (va_rf o0_law)), (h1, kO4 h3 n1_size h4 h5 n1_top), (h2, kAi cint 120 f2), (h3, kAi cint 128 f3)] s.heap.size = A at hD hZNAMES hTNAMES ⊢
  have hA : ∀ q : Nat, s.heap.size ≤ q → A q := fun q h => by rw [← hAe]; exact Or.inr h
  have hS : va_S A s.heap s.heap [] := va_S.rf
  have hP : va_P (dC, dI) vwCl [(h0, kO10v h2 n0_size n0_place (va_rf o0_law)), (h1, kO4 h3 n1_size h4 h5 n1_top), (h2, kAi cint 120 f2), (h3, kAi cint 128 f3)] s.heap := hP
  have hl := lv_entry ([.ref h0, .ref h1]) (n := 3) (Nat.le_of_ble_eq_true rfl)
  rw [lg_entry_eq]
  generalize (lg_sl ([.ref h0, .ref h1]) ++ List.replicate (3 - (lg_sl ([.ref h0, .ref h1])).length) Slot.unset).toArray = ls at hl ⊢
  have hl : lv_has ls 3 [(0, .ref h0), (1, .ref h1)] := hl
  refine lv_aload_n hx hb dX10_readInto_0 rfl (lv_at hl 0 rfl) ?_
  refine lv_iconst (v := 0) hx hb dX10_readInto_1 kk_ic_0 ?_
  refine va_put (D := (dC, dI)) (ci := 10) (v := .int 0) (ty := .int) (C := RX10) (T := TX10) (N := 4) hx hb hts (fun _ h => List.mem_cons_of_mem _ (List.mem_append_left _ (List.mem_append_right _ h))) tyX10 tyX10_ok nmX10 hown hK hP hD hS 0 rfl rfl 2 (by decide) (hts (.fieldLink RX10 17 "KinkStreet$Tape" "place" "I") (List.mem_of_getElem? (i := 1) rfl)) (fun _ h9 => h9) rfl (by decide +kernel) rfl rfl (Nat.le_of_ble_eq_true rfl) dX10_readInto_2 (fun H locs hP hD hS => ?_)
  have hP : va_P (dC, dI) vwCl [(h0, kO10v h2 n0_size 0 (va_rf o0_law)), (h1, kO4 h3 n1_size h4 h5 n1_top), (h2, kAi cint 120 f2), (h3, kAi cint 128 f3)] H := hP
  have hD : va_D A [(h0, kO10v h2 n0_size 0 (va_rf o0_law)), (h1, kO4 h3 n1_size h4 h5 n1_top), (h2, kAi cint 120 f2), (h3, kAi cint 128 f3)] := hD
  refine lv_aload_n hx hb dX10_readInto_5 rfl (lv_at hl 0 rfl) ?_
  refine lv_aload_n hx hb dX10_readInto_6 rfl (lv_at hl 1 rfl) ?_
  refine va_put (D := (dC, dI)) (ci := 10) (v := .ref h1) (ty := (.object "KinkStreet$Law")) (C := RX10) (T := TX10) (N := 4) hx hb hts (fun _ h => List.mem_cons_of_mem _ (List.mem_append_left _ (List.mem_append_right _ h))) tyX10 tyX10_ok nmX10 hown hK hP hD hS 0 rfl rfl 3 (by decide) (hts (.fieldLink RX10 20 "KinkStreet$Tape" "law" "LKinkStreet$Law;") (List.mem_of_getElem? (i := 2) rfl)) (fun _ h9 => h9) rfl (by decide +kernel) rfl rfl (Nat.le_of_ble_eq_true rfl) dX10_readInto_7 (fun H locs hP hD hS => ?_)
  have hP : va_P (dC, dI) vwCl [(h0, kO10 h2 n0_size 0 h1), (h1, kO4 h3 n1_size h4 h5 n1_top), (h2, kAi cint 120 f2), (h3, kAi cint 128 f3)] H := hP
  have hD : va_D A [(h0, kO10 h2 n0_size 0 h1), (h1, kO4 h3 n1_size h4 h5 n1_top), (h2, kAi cint 120 f2), (h3, kAi cint 128 f3)] := hD
  refine lv_aload_n hx hb dX10_readInto_10 rfl (lv_at hl 0 rfl) ?_
  refine va_get (D := (dC, dI)) (ci := 10) (v := .ref h1) (C := RX10) (T := TX10) (N := 4) hx hb hts (fun _ h => List.mem_cons_of_mem _ (List.mem_append_left _ (List.mem_append_right _ h))) hown hK hP 0 rfl rfl 3 (by decide) (hts (.fieldLink RX10 20 "KinkStreet$Tape" "law" "LKinkStreet$Law;") (List.mem_of_getElem? (i := 2) rfl)) (fun _ h9 => h9) rfl dX10_readInto_11 ?_
  obtain ⟨hPc, hDc, hFc⟩ := kk_cutout (wc := [(h1, kO4 h3 n1_size h4 h5 n1_top)]) hP hD hS hA [1] (by decide) rfl
  have hKc := kk_Ks (tq := []) hK [] rfl
  refine va_callv (va_runV (As := []) (rest := []) ⟨hx, hb, hml, hown, hts⟩ (g_X4_clear_0 l dC dI h1 h3 h4 h5 H.size n1_size n1_top tn1_size tn1_top) (cwV 0 hts gX10_readInto_X4_clear rfl rfl rfl ⟨rfl, kh_X4_clear⟩ ⟨Nat.le_of_ble_eq_true rfl, Nat.le_of_ble_eq_true rfl⟩) ⟨fun a U g mk q => by obtain ⟨q0, q1, qP, qK, qD⟩ := q; exact ⟨q0, q1, qP, va_K.moved (u := U) (U := U.calling g mk a) (Vm.Alike.refl U.vm) qK, qD⟩, va_recv hKc hPc (ci := 4) (q0 := 0) rfl rfl, fun U hU hW => ⟨rfl, by rw [hU], by rw [hU]; exact hPc, va_K.moved hW.alike hKc, hDc.weaken (fun _ _ _ _ => trivial)⟩⟩ rfl rfl hl.1 rfl (lv_room (Nat.le_of_ble_eq_true rfl)) dX10_readInto_14 ⟨Nat.le_of_ble_eq_true rfl, Nat.le_of_ble_eq_true rfl⟩) hS (fun q _ h => hFc q h) hFc (fun u t H1 locs ht hvm hw hB hz1 hk1 hS => ?_)
  refine hB.elim (fun y_2 hB => ?_)
  refine hB.elim (fun by_2 hB => ?_)
  have hP1 := hB.1
  have hK1 := hB.2.1
  have hD1 := hB.2.2
  rw [ht] at hP1
  have hK1 := va_K.moved hvm.symm hK1
  obtain ⟨hP, hD⟩ := va_join (wr := [(h0, kO10 h2 n0_size 0 h1), (h2, kAi cint 120 f2), (h3, kAi cint 128 f3)]) (w1 := [(h1, kO4 h3 y_2 h4 h5 n1_top)]) hP hD [1] [0, 2, 3] rfl rfl (by decide) (by decide) hk1 hFc hP1 hD1
  generalize H1 = H at hP hS ⊢
  have hP : va_P (dC, dI) vwCl [(h0, kO10 h2 n0_size 0 h1), (h2, kAi cint 120 f2), (h3, kAi cint 128 f3), (h1, kO4 h3 y_2 h4 h5 n1_top)] H := hP
  have hD : va_D A [(h0, kO10 h2 n0_size 0 h1), (h2, kAi cint 120 f2), (h3, kAi cint 128 f3), (h1, kO4 h3 y_2 h4 h5 n1_top)] := hD
  refine lv_iconst (v := 0) hx hb dX10_readInto_17 kk_ic_0 ?_
  refine lv_istore_n hx hb dX10_readInto_18 rfl hl (by decide) (rfl : _ = ([(2, .int 0), (0, .ref h0), (1, .ref h1)] : List (Nat × Value))) (fun ls hl => ?_)
  refine kk_loop (σ := Int32 × Int32 × (Nat → Int32) × Int32) (fun x H locs ls => (0 ≤ x.1.toInt ∧ x.1.toInt ≤ 121) ∧ (0 ≤ x.2.2.2.toInt ∧ x.2.2.2.toInt ≤ 128) ∧ va_P (dC, dI) vwCl [(h0, kO10 h2 n0_size x.2.1 h1), (h2, kAi cint 120 f2), (h3, kAi cint 128 x.2.2.1), (h1, kO4 h3 x.2.2.2 h4 h5 n1_top)] H ∧ va_D A [(h0, kO10 h2 n0_size x.2.1 h1), (h2, kAi cint 120 f2), (h3, kAi cint 128 x.2.2.1), (h1, kO4 h3 x.2.2.2 h4 h5 n1_top)] ∧ va_S A s.heap H locs ∧ lv_has ls 3 [(2, .int x.1), (0, .ref h0), (1, .ref h1)]) (fun x => ((121 : Int) - x.1.toInt).toNat) ?_ (0, 0, f3, y_2) _ _ _ ⟨(by show 0 ≤ (0 : Int32).toInt ∧ (0 : Int32).toInt ≤ 121; first | with_reducible assumption | decide | ((omega))), (by show 0 ≤ (y_2 : Int32).toInt ∧ (y_2 : Int32).toInt ≤ 128; first | with_reducible assumption | ((omega))), hP, hD, hS, hl⟩
  rintro ⟨i_3_0, i_3_1, f_3_2, i_3_3⟩ H locs ls ⟨t_3_0, t_3_3, hP, hD, hS, hl⟩ ih_3
  have t_3_0 : (0 ≤ i_3_0.toInt ∧ i_3_0.toInt ≤ 121) := t_3_0
  have t_3_3 : (0 ≤ i_3_3.toInt ∧ i_3_3.toInt ≤ 128) := t_3_3
  have hl : lv_has ls 3 [(2, .int i_3_0), (0, .ref h0), (1, .ref h1)] := hl
  have hP : va_P (dC, dI) vwCl [(h0, kO10 h2 n0_size i_3_1 h1), (h2, kAi cint 120 f2), (h3, kAi cint 128 f_3_2), (h1, kO4 h3 i_3_3 h4 h5 n1_top)] H := hP
  have hD : va_D A [(h0, kO10 h2 n0_size i_3_1 h1), (h2, kAi cint 120 f2), (h3, kAi cint 128 f_3_2), (h1, kO4 h3 i_3_3 h4 h5 n1_top)] := hD
  refine lv_iload_n hx hb dX10_readInto_19 rfl (lv_at hl 0 rfl) ?_
  refine lv_aload_n hx hb dX10_readInto_20 rfl (lv_at hl 1 rfl) ?_
  refine va_get (D := (dC, dI)) (ci := 10) (v := .int n0_size) (C := RX10) (T := TX10) (N := 4) hx hb hts (fun _ h => List.mem_cons_of_mem _ (List.mem_append_left _ (List.mem_append_right _ h))) hown hK hP 0 rfl rfl 1 (by decide) (hts (.fieldLink RX10 13 "KinkStreet$Tape" "size" "I") (List.mem_of_getElem? (i := 3) rfl)) (fun _ h9 => h9) rfl dX10_readInto_21 ?_
  refine lv_icmp_gt (tgt := 79) hx hb dX10_readInto_24 (by decide) (fun c_4 => ?_) (fun c_4 => ?_)
  · have t_4 : n0_size.toInt < i_3_0.toInt := kk_lt c_4
    refine lv_aload_n hx hb dX10_readInto_79 rfl (lv_at hl 1 rfl) ?_
    refine va_get (D := (dC, dI)) (ci := 10) (v := .int i_3_1) (C := RX10) (T := TX10) (N := 4) hx hb hts (fun _ h => List.mem_cons_of_mem _ (List.mem_append_left _ (List.mem_append_right _ h))) hown hK hP 0 rfl rfl 2 (by decide) (hts (.fieldLink RX10 17 "KinkStreet$Tape" "place" "I") (List.mem_of_getElem? (i := 1) rfl)) (fun _ h9 => h9) rfl dX10_readInto_80 ?_
    obtain ⟨hP9, hD9⟩ := kk_leafout (wc := [(h0, kO10 h2 n0_size i_3_1 h1), (h1, kO4 h3 i_3_3 h4 h5 n1_top), (h2, kAi cint 120 f2), (h3, kAi cint 128 f_3_2)]) hP hD [0, 3, 1, 2] (by decide) rfl
    have hK9 := kk_Ks (tq := []) hK [] rfl
    exact W.iret (v := i_3_1) hx hb hr (fun t ht hW => ⟨⟨i_3_1, (), rfl, trivial, i_3_1, (some h1), i_3_3, f_3_2, (by show 0 ≤ (i_3_3 : Int32).toInt ∧ (i_3_3 : Int32).toInt ≤ 128; first | with_reducible assumption | ((omega))), by rw [ht]; exact hP9, va_K.moved hW.alike hK9, hD9⟩, hS.F ht⟩) hS.2.2 dX10_readInto_83
  · have t_4 : i_3_0.toInt ≤ n0_size.toInt := kk_nlt c_4
    refine lv_aload_n hx hb dX10_readInto_27 rfl (lv_at hl 1 rfl) ?_
    obtain ⟨hPc, hDc, hFc⟩ := kk_cutout (wc := [(h0, kO10 h2 n0_size i_3_1 h1), (h2, kAi cint 120 f2), (h1, kO4 h3 i_3_3 h4 h5 n1_top), (h3, kAi cint 128 f_3_2)]) hP hD hS hA [0, 1, 3, 2] (by decide) rfl
    have hKc := kk_Ks (tq := [(cint, .int)]) hK [0] rfl
    refine va_calli (va_runV (As := []) (rest := []) ⟨hx, hb, hml, hown, hts⟩ (g_X10_readLine_0 l dC dI h0 h2 h1 h3 h4 h5 cint H.size n0_size i_3_1 f2 i_3_3 n1_top f_3_2 tn0_size bf2 (by show 0 ≤ (i_3_3 : Int32).toInt ∧ (i_3_3 : Int32).toInt ≤ 128; first | with_reducible assumption | ((omega))) tn1_top aNAMES) (cwV 0 hts gX10_readInto_X10_readLine rfl rfl rfl ⟨rfl, kh_X10_readLine⟩ ⟨Nat.le_of_ble_eq_true rfl, Nat.le_of_ble_eq_true rfl⟩) ⟨fun a U g mk q => by obtain ⟨q0, q1, qP, qK, qD, qx0, qx1⟩ := q; exact ⟨q0, q1, qP, va_K.moved (u := U) (U := U.calling g mk a) (Vm.Alike.refl U.vm) qK, qD, va_Z.moved (u := U) (U := U.calling g mk a) (Vm.Alike.refl U.vm) qx0, va_T.moved (u := U) (U := U.calling g mk a) (Vm.Alike.refl U.vm) qx1⟩, va_recv hKc hPc (ci := 10) (q0 := 0) rfl rfl, fun U hU hW => ⟨rfl, by rw [hU], by rw [hU]; exact hPc, va_K.moved hW.alike hKc, hDc.weaken (fun _ _ _ _ => trivial), by rw [hU]; exact ((hZNAMES.kept (fun a h1 h2 => hS.2.1 a h1 h2)).narrow hFc).moved hW.alike, by rw [hU]; exact ((hTNAMES.kept (fun a h1 h2 => hS.2.1 a h1 h2)).narrow hFc).moved hW.alike⟩⟩ rfl rfl hl.1 rfl (lv_room (Nat.le_of_ble_eq_true rfl)) dX10_readInto_28 ⟨Nat.le_of_ble_eq_true rfl, Nat.le_of_ble_eq_true rfl⟩) hS (fun q _ h => hFc q h) hFc (fun r_5 u t H1 locs ht hvm hw hB hz1 hk1 hS => ?_)
    refine hB.elim (fun y_6 hB => ?_)
    refine hB.elim (fun y_7 hB => ?_)
    refine hB.elim (fun f_8 hB => ?_)
    refine hB.elim (fun by_7 hB => ?_)
    have hP1 := hB.1
    have hK1 := hB.2.1
    have hD1 := hB.2.2
    rw [ht] at hP1
    have hK1 := va_K.moved hvm.symm hK1
    obtain ⟨hP, hD⟩ := va_join (wr := []) (w1 := [(h0, kO10 h2 n0_size y_6 h1), (h2, kAi cint 120 f2), (h1, kO4 h3 y_7 h4 h5 n1_top), (h3, kAi cint 128 f_8)]) hP hD [0, 1, 3, 2] [] rfl rfl (by decide) (by decide) hk1 hFc hP1 hD1
    generalize H1 = H at hP hS ⊢
    have hP : va_P (dC, dI) vwCl [(h0, kO10 h2 n0_size y_6 h1), (h2, kAi cint 120 f2), (h1, kO4 h3 y_7 h4 h5 n1_top), (h3, kAi cint 128 f_8)] H := hP
    have hD : va_D A [(h0, kO10 h2 n0_size y_6 h1), (h2, kAi cint 120 f2), (h1, kO4 h3 y_7 h4 h5 n1_top), (h3, kAi cint 128 f_8)] := hD
    have t_5 : 0 ≤ r_5.toInt ∧ r_5.toInt ≤ 1 := hw
    refine lv_if_ne (tgt := 39) hx hb dX10_readInto_31 (by decide) (fun c_9 => ?_) (fun c_9 => ?_)
    · have t_9 : r_5.toInt ≠ 0 := kk_ne c_9
      refine lv_aload_n hx hb dX10_readInto_39 rfl (lv_at hl 1 rfl) ?_
      obtain ⟨hPc, hDc, hFc⟩ := kk_cutout (wc := [(h0, kO10 h2 n0_size y_6 h1), (h2, kAi cint 120 f2)]) hP hD hS hA [0, 1] (by decide) rfl
      have hKc := kk_Ks (tq := [(cint, .int)]) hK [0] rfl
      refine va_calli (va_runV (As := []) (rest := []) ⟨hx, hb, hml, hown, hts⟩ (g_X10_next_0 l dC dI h0 h2 h1 cint H.size n0_size y_6 f2 tn0_size bf2) (cwV 0 hts gX10_readInto_X10_next rfl rfl rfl ⟨rfl, kh_X10_next⟩ ⟨Nat.le_of_ble_eq_true rfl, Nat.le_of_ble_eq_true rfl⟩) ⟨fun a U g mk q => by obtain ⟨q0, q1, qP, qK, qD⟩ := q; exact ⟨q0, q1, qP, va_K.moved (u := U) (U := U.calling g mk a) (Vm.Alike.refl U.vm) qK, qD⟩, va_recv hKc hPc (ci := 10) (q0 := 0) rfl rfl, fun U hU hW => ⟨rfl, by rw [hU], by rw [hU]; exact hPc, va_K.moved hW.alike hKc, hDc.weaken (fun _ _ _ _ => trivial)⟩⟩ rfl rfl hl.1 rfl (lv_room (Nat.le_of_ble_eq_true rfl)) dX10_readInto_40 ⟨Nat.le_of_ble_eq_true rfl, Nat.le_of_ble_eq_true rfl⟩) hS (fun q _ h => hFc q h) hFc (fun r_10 u t H1 locs ht hvm hw hB hz1 hk1 hS => ?_)
      obtain ⟨hP1, hK1, hD1⟩ := hB
      rw [ht] at hP1
      have hK1 := va_K.moved hvm.symm hK1
      obtain ⟨hP, hD⟩ := va_join (wr := [(h1, kO4 h3 y_7 h4 h5 n1_top), (h3, kAi cint 128 f_8)]) (w1 := [(h0, kO10 h2 n0_size y_6 h1), (h2, kAi cint 120 f2)]) hP hD [0, 1] [2, 3] rfl rfl (by decide) (by decide) hk1 hFc hP1 hD1
      generalize H1 = H at hP hS ⊢
      have hP : va_P (dC, dI) vwCl [(h1, kO4 h3 y_7 h4 h5 n1_top), (h3, kAi cint 128 f_8), (h0, kO10 h2 n0_size y_6 h1), (h2, kAi cint 120 f2)] H := hP
      have hD : va_D A [(h1, kO4 h3 y_7 h4 h5 n1_top), (h3, kAi cint 128 f_8), (h0, kO10 h2 n0_size y_6 h1), (h2, kAi cint 120 f2)] := hD
      have t_10 : (-1) ≤ r_10.toInt ∧ r_10.toInt ≤ 255 := hw
      refine lv_iconst (v := (-1)) hx hb dX10_readInto_43 kk_ic_m1 ?_
      refine lv_icmp_ne (tgt := 49) hx hb dX10_readInto_44 (by decide) (fun c_11 => ?_) (fun c_11 => ?_)
      · have t_11 : r_10.toInt ≠ (-1) := kk_ne c_11
        refine lv_aload_n hx hb dX10_readInto_49 rfl (lv_at hl 1 rfl) ?_
        obtain ⟨hPc, hDc, hFc⟩ := kk_cutout (wc := [(h0, kO10 h2 n0_size y_6 h1), (h2, kAi cint 120 f2)]) hP hD hS hA [2, 3] (by decide) rfl
        have hKc := kk_Ks (tq := [(cint, .int)]) hK [0] rfl
        refine va_calli (va_runV (As := []) (rest := []) ⟨hx, hb, hml, hown, hts⟩ (g_X10_next_0 l dC dI h0 h2 h1 cint H.size n0_size y_6 f2 tn0_size bf2) (cwV 0 hts gX10_readInto_X10_next rfl rfl rfl ⟨rfl, kh_X10_next⟩ ⟨Nat.le_of_ble_eq_true rfl, Nat.le_of_ble_eq_true rfl⟩) ⟨fun a U g mk q => by obtain ⟨q0, q1, qP, qK, qD⟩ := q; exact ⟨q0, q1, qP, va_K.moved (u := U) (U := U.calling g mk a) (Vm.Alike.refl U.vm) qK, qD⟩, va_recv hKc hPc (ci := 10) (q0 := 0) rfl rfl, fun U hU hW => ⟨rfl, by rw [hU], by rw [hU]; exact hPc, va_K.moved hW.alike hKc, hDc.weaken (fun _ _ _ _ => trivial)⟩⟩ rfl rfl hl.1 rfl (lv_room (Nat.le_of_ble_eq_true rfl)) dX10_readInto_50 ⟨Nat.le_of_ble_eq_true rfl, Nat.le_of_ble_eq_true rfl⟩) hS (fun q _ h => hFc q h) hFc (fun r_12 u t H1 locs ht hvm hw hB hz1 hk1 hS => ?_)
        obtain ⟨hP1, hK1, hD1⟩ := hB
        rw [ht] at hP1
        have hK1 := va_K.moved hvm.symm hK1
        obtain ⟨hP, hD⟩ := va_join (wr := [(h1, kO4 h3 y_7 h4 h5 n1_top), (h3, kAi cint 128 f_8)]) (w1 := [(h0, kO10 h2 n0_size y_6 h1), (h2, kAi cint 120 f2)]) hP hD [2, 3] [0, 1] rfl rfl (by decide) (by decide) hk1 hFc hP1 hD1
        generalize H1 = H at hP hS ⊢
        have hP : va_P (dC, dI) vwCl [(h1, kO4 h3 y_7 h4 h5 n1_top), (h3, kAi cint 128 f_8), (h0, kO10 h2 n0_size y_6 h1), (h2, kAi cint 120 f2)] H := hP
        have hD : va_D A [(h1, kO4 h3 y_7 h4 h5 n1_top), (h3, kAi cint 128 f_8), (h0, kO10 h2 n0_size y_6 h1), (h2, kAi cint 120 f2)] := hD
        have t_12 : (-1) ≤ r_12.toInt ∧ r_12.toInt ≤ 255 := hw
        refine lv_bipush (v := 59) hx hb dX10_readInto_53 kk_bi_59 ?_
        refine lv_icmp_eq (tgt := 63) hx hb dX10_readInto_55 (by decide) (fun c_13 => ?_) (fun c_13 => ?_)
        · have t_13 : r_12.toInt = 59 := kk_eq c_13
          refine lv_aload_n hx hb dX10_readInto_63 rfl (lv_at hl 1 rfl) ?_
          refine lv_dup hx hb dX10_readInto_64 rfl ?_
          refine va_get (D := (dC, dI)) (ci := 10) (v := .int y_6) (C := RX10) (T := TX10) (N := 4) hx hb hts (fun _ h => List.mem_cons_of_mem _ (List.mem_append_left _ (List.mem_append_right _ h))) hown hK hP 2 rfl rfl 2 (by decide) (hts (.fieldLink RX10 17 "KinkStreet$Tape" "place" "I") (List.mem_of_getElem? (i := 1) rfl)) (fun _ h9 => h9) rfl dX10_readInto_65 ?_
          refine lv_iconst (v := 1) hx hb dX10_readInto_68 kk_ic_1 ?_
          refine lv_iadd hx hb dX10_readInto_69 ?_
          refine va_put (D := (dC, dI)) (ci := 10) (v := .int (y_6 + 1)) (ty := .int) (C := RX10) (T := TX10) (N := 4) hx hb hts (fun _ h => List.mem_cons_of_mem _ (List.mem_append_left _ (List.mem_append_right _ h))) tyX10 tyX10_ok nmX10 hown hK hP hD hS 2 rfl rfl 2 (by decide) (hts (.fieldLink RX10 17 "KinkStreet$Tape" "place" "I") (List.mem_of_getElem? (i := 1) rfl)) (fun _ h9 => h9) rfl (by decide +kernel) rfl rfl (Nat.le_of_ble_eq_true rfl) dX10_readInto_70 (fun H locs hP hD hS => ?_)
          have hP : va_P (dC, dI) vwCl [(h1, kO4 h3 y_7 h4 h5 n1_top), (h3, kAi cint 128 f_8), (h0, kO10 h2 n0_size (y_6 + 1) h1), (h2, kAi cint 120 f2)] H := hP
          have hD : va_D A [(h1, kO4 h3 y_7 h4 h5 n1_top), (h3, kAi cint 128 f_8), (h0, kO10 h2 n0_size (y_6 + 1) h1), (h2, kAi cint 120 f2)] := hD
          refine lv_iinc (v := (i_3_0 + 1)) hx hb dX10_readInto_73 hl (k := 0) rfl (by first | rfl | decide) (by decide) (rfl : _ = ([(2, .int (i_3_0 + 1)), (0, .ref h0), (1, .ref h1)] : List (Nat × Value))) (fun ls hl => ?_)
          refine lv_goto (tgt := 19) hx hb dX10_readInto_76 (by decide) ?_
          try have := kk_add2 (x := i_3_0) (y := 1) (a := i_3_0.toInt) (b := 1) rfl rfl (by omega) (by omega)
          exact ih_3 ((i_3_0 + 1), (y_6 + 1), f_8, y_7) _ _ _ (by show ((121 : Int) - ((i_3_0 + 1) : Int32).toInt).toNat < ((121 : Int) - i_3_0.toInt).toNat; exact kk_mu (by omega) (by omega)) ⟨(by show 0 ≤ ((i_3_0 + 1) : Int32).toInt ∧ ((i_3_0 + 1) : Int32).toInt ≤ 121; first | with_reducible assumption | ((omega))), (by show 0 ≤ (y_7 : Int32).toInt ∧ (y_7 : Int32).toInt ≤ 128; first | with_reducible assumption | ((omega))), hP.sub [2, 3, 1, 0] rfl, hD.sub [2, 3, 1, 0] (by decide) rfl, hS, lv_sub hl [0, 1, 2] rfl⟩
        · have t_13 : r_12.toInt ≠ 59 := kk_ne c_13
          refine lv_aload_n hx hb dX10_readInto_58 rfl (lv_at hl 1 rfl) ?_
          refine va_get (D := (dC, dI)) (ci := 10) (v := .int y_6) (C := RX10) (T := TX10) (N := 4) hx hb hts (fun _ h => List.mem_cons_of_mem _ (List.mem_append_left _ (List.mem_append_right _ h))) hown hK hP 2 rfl rfl 2 (by decide) (hts (.fieldLink RX10 17 "KinkStreet$Tape" "place" "I") (List.mem_of_getElem? (i := 1) rfl)) (fun _ h9 => h9) rfl dX10_readInto_59 ?_
          obtain ⟨hP9, hD9⟩ := kk_leafout (wc := [(h0, kO10 h2 n0_size y_6 h1), (h1, kO4 h3 y_7 h4 h5 n1_top), (h2, kAi cint 120 f2), (h3, kAi cint 128 f_8)]) hP hD [2, 0, 3, 1] (by decide) rfl
          have hK9 := kk_Ks (tq := []) hK [] rfl
          exact W.iret (v := y_6) hx hb hr (fun t ht hW => ⟨⟨y_6, (), rfl, trivial, y_6, (some h1), y_7, f_8, (by show 0 ≤ (y_7 : Int32).toInt ∧ (y_7 : Int32).toInt ≤ 128; first | with_reducible assumption | ((omega))), by rw [ht]; exact hP9, va_K.moved hW.alike hK9, hD9⟩, hS.F ht⟩) hS.2.2 dX10_readInto_62
      · have t_11 : r_10.toInt = (-1) := kk_eq c_11
        refine lv_iconst (v := (-1)) hx hb dX10_readInto_47 kk_ic_m1 ?_
        obtain ⟨hP9, hD9⟩ := kk_leafout (wc := [(h0, kO10 h2 n0_size y_6 h1), (h1, kO4 h3 y_7 h4 h5 n1_top), (h2, kAi cint 120 f2), (h3, kAi cint 128 f_8)]) hP hD [2, 0, 3, 1] (by decide) rfl
        have hK9 := kk_Ks (tq := []) hK [] rfl
        exact W.iret (v := (-1)) hx hb hr (fun t ht hW => ⟨⟨(-1), (), rfl, trivial, y_6, (some h1), y_7, f_8, (by show 0 ≤ (y_7 : Int32).toInt ∧ (y_7 : Int32).toInt ≤ 128; first | with_reducible assumption | ((omega))), by rw [ht]; exact hP9, va_K.moved hW.alike hK9, hD9⟩, hS.F ht⟩) hS.2.2 dX10_readInto_48
    · have t_9 : r_5.toInt = 0 := kk_eq c_9
      refine lv_aload_n hx hb dX10_readInto_34 rfl (lv_at hl 1 rfl) ?_
      refine va_get (D := (dC, dI)) (ci := 10) (v := .int y_6) (C := RX10) (T := TX10) (N := 4) hx hb hts (fun _ h => List.mem_cons_of_mem _ (List.mem_append_left _ (List.mem_append_right _ h))) hown hK hP 0 rfl rfl 2 (by decide) (hts (.fieldLink RX10 17 "KinkStreet$Tape" "place" "I") (List.mem_of_getElem? (i := 1) rfl)) (fun _ h9 => h9) rfl dX10_readInto_35 ?_
      obtain ⟨hP9, hD9⟩ := kk_leafout (wc := [(h0, kO10 h2 n0_size y_6 h1), (h1, kO4 h3 y_7 h4 h5 n1_top), (h2, kAi cint 120 f2), (h3, kAi cint 128 f_8)]) hP hD [0, 2, 1, 3] (by decide) rfl
      have hK9 := kk_Ks (tq := []) hK [] rfl
      exact W.iret (v := y_6) hx hb hr (fun t ht hW => ⟨⟨y_6, (), rfl, trivial, y_6, (some h1), y_7, f_8, (by show 0 ≤ (y_7 : Int32).toInt ∧ (y_7 : Int32).toInt ≤ 128; first | with_reducible assumption | ((omega))), by rw [ht]; exact hP9, va_K.moved hW.alike hK9, hD9⟩, hS.F ht⟩) hS.2.2 dX10_readInto_38
