theorem kk_rmF {F a : Nat} (hF : 10 ≤ F) (h : a ≤ 11) : a ≤ F + 1 := Nat.le_trans h (Nat.succ_le_succ hF)
theorem kk_rmM {L a c : Nat} (hL : 200 ≤ L) (h : a ≤ 200 + c) : a ≤ L + c := Nat.le_trans h (Nat.add_le_add_right hL c)
theorem kk_rmL {L a k c : Nat} (h : a ≤ L) (q : k ≤ c) : k + a ≤ L + c := Nat.add_comm a k ▸ Nat.add_le_add h q
