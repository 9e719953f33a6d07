-- what ties both objects: shelves, lines
theorem gk_chooseE (N : Nat) (hN : 0 < N) (s : Nat → Nat) (x : Int32) : ∃ k : Nat, k < N ∧ (0 ≤ x.toInt → x.toInt < (N : Int) → some (s x.toNatClampNeg) = some (s k)) ∧ (0 ≤ x.toInt → x.toInt < (N : Int) → (k : Int) = x.toInt) := by
  by_cases h : 0 ≤ x.toInt ∧ x.toInt < (N : Int)
  · exact ⟨x.toNatClampNeg, by have := kk_tn h.1; omega, fun _ _ => rfl, fun _ _ => kk_tn h.1⟩
  · exact ⟨0, hN, fun a b => absurd ⟨a, b⟩ h, fun a b => absurd ⟨a, b⟩ h⟩
def kk_c1 (n : Int) (h s l a b : Int32) : Prop := (h.toInt = -1 ∧ a.toInt = -1) ∨ (h.toInt = -2 ∧ 0 ≤ a.toInt ∧ a.toInt < n ∧ a.toInt < 50 ∧ l.toInt = a.toInt) ∨ (0 ≤ h.toInt ∧ h.toInt ≤ 4 ∧ a.toInt = h.toInt + 50 ∧ b.toInt = s.toInt)
def kk_cs (n : Int) (H S L sh mn : Nat → Int32) : Prop := ∀ j : Nat, j < 6 → kk_c1 n (H j) (S j) (L j) (sh j) (mn j)
theorem kk_cs_w {n n' : Int} {H S L sh mn : Nat → Int32} (h : kk_cs n H S L sh mn) (e : n ≤ n') : kk_cs n' H S L sh mn := fun j hj => by
  have q := h j hj
  unfold kk_c1 at q ⊢
  omega
theorem kk_cs_at {n : Int} {H S L sh mn : Nat → Int32} {w : Int32} {k : Nat} (h : kk_cs n H S L sh mn) (hk : k < 6) (he : 0 ≤ w.toInt → w.toInt < ((6 : Nat) : Int) → (k : Int) = w.toInt) : 0 ≤ w.toInt → w.toInt < ((6 : Nat) : Int) → kk_c1 n (H k) (S k) (L k) (sh w.toNatClampNeg) (mn w.toNatClampNeg) := by
  intro a b
  have e : w.toNatClampNeg = k := by
    have := kk_tn a
    have := he a b
    omega
  rw [e]
  exact h k hk
theorem kk_pk {w : Int32} {k : Nat} (he : 0 ≤ w.toInt → w.toInt < ((6 : Nat) : Int) → (k : Int) = w.toInt) (a : 0 ≤ w.toInt) (b : w.toInt < 6) : w.toNatClampNeg = k := by
  have := kk_tn a
  have := he a (by omega)
  omega
theorem kk_cs_step {n : Int} {H S L sh mn sh' mn' : Nat → Int32} {k : Nat} {x y z : Int32} (h : kk_cs n H S L sh mn) (hk : k < 6) (ho : ∀ j : Nat, j ≠ k → sh' j = sh j ∧ mn' j = mn j) (hc : kk_c1 n x y z (sh' k) (mn' k)) : kk_cs n (va_up H k x) (va_up S k y) (va_up L k z) sh' mn' := by
  intro j hj
  by_cases c : j = k
  · rw [c, va_up_self, va_up_self, va_up_self]
    exact hc
  · rw [va_up_ne _ _ c, va_up_ne _ _ c, va_up_ne _ _ c, (ho j c).1, (ho j c).2]
    exact h j hj
theorem kk_cs_set {n : Int} {H S L sh mn : Nat → Int32} {k : Nat} {x y z a b w : Int32} (h : kk_cs n H S L sh mn) (hk : k < 6) (e : w.toNatClampNeg = k) (hc : kk_c1 n x y z a b) : kk_cs n (va_up H k x) (va_up S k y) (va_up L k z) (upd sh w.toNatClampNeg a) (upd mn w.toNatClampNeg b) := by
  rw [e]
  refine kk_cs_step h hk (fun j c => ?_) ?_
  · unfold upd
    rw [if_neg c, if_neg c]
    exact ⟨rfl, rfl⟩
  · unfold upd
    rw [if_pos rfl, if_pos rfl]
    exact hc
-- an implication that is not to be looked at by the way
theorem kk_ub {p : Prop} (h : kk_bx p) : p := h
def kk_Jnv (dC : Nat → ClassId) (dI : Nat → Nat → Nat) (A : Nat → Prop) (a_T0_0 : Nat) (a_T0_1 : Nat) (a_T0_2 : Nat) (a_T0_3 : Nat) (a_S_0 : Nat → Nat) (a_S_1 : Nat → Nat) (a_S_2 : Nat → Nat) (a_S_3 : Nat → Nat) (a_L_0 : Nat → Nat) (a_L_1 : Nat → Nat) (a_L_2 : Nat → Nat) (a_L_3 : Nat → Nat) (a_H_0 : Nat → Nat) (a_H_1 : Nat → Nat) (a_ST_0 : Nat) (a_ST_1 : Nat) (a_ST_2 : Nat) (a_ST_3 : Nat) (a_C_0 : Nat) (a_C_1 : Nat) (a_C_2 : Nat) (a_C_3 : Nat) (a_C_4 : Nat) (a_R_0 : Nat) (a_R_1 : Nat) (a_F_0 : Nat) (a_F_1 : Nat) (a_F_2 : Nat) (a_F_3 : Nat) (a_F_4 : Nat) (a_P_0 : Nat) (a_P_1 : Nat) (a_P_2 : Nat) (a_P_3 : Nat) (a_P_4 : Nat) (r_P_0 : Nat → Nat) (r_P_1 : Nat → Nat) (a_B_0 : Nat) (a_B_1 : Nat) (a_D_0 : Nat) (a_D_1 : Nat) (a_D_2 : Nat) (a_D_3 : Nat) (a_D_4 : Nat) (a_D_5 : Nat) (a_D_6 : Nat) (a_D_7 : Nat) (a_D_8 : Nat) (a_D_9 : Nat) (r_D_0 : Nat → Nat) (r_D_1 : Nat → Nat) (a_T_0 : Nat) (a_T_1 : Nat) (a_N_0 : Nat) (a_N_1 : Nat) (a_N_2 : Nat) (a_M_0 : Nat) (a_M_1 : Nat) (a_M_2 : Nat) (a_M_3 : Nat) (a_M_4 : Nat) (a_M_5 : Nat) (a_M_6 : Nat) (a_M_7 : Nat) (a_M_8 : Nat) (a_M_9 : Nat) (a_M_10 : Nat) (a_M_11 : Nat) (a_M_12 : Nat) (a_M_13 : Nat) (a_M_14 : Nat) (a_M_15 : Nat) (a_M_16 : Nat) (a_M_17 : Nat) (a_M_18 : Nat) (a_M_19 : Nat) (a_M_20 : Nat) (a_M_21 : Nat) (a_M_22 : Nat) (a_M_23 : Nat) (a_M_24 : Nat) (a_M_25 : Nat) (a_M_26 : Nat) (a_M_27 : Nat) (a_M_28 : Nat) (a_M_29 : Nat) (cOStreet cOLaw cOShelf cint clong cboolean cAint cAlong : ClassId) (H : Heap) : Prop := ∃ (v_T0_streetCount : Int32) (v_T0_lawCount : Int32) (v_S_size : Nat → Int32) (c_S_1 : Nat → Nat → Int32) (c_S_2 : Nat → Nat → Int32) (c_S_3 : Nat → Nat → Int32) (v_L_size : Nat → Int32) (v_L_top : Nat → Int32) (c_L_1 : Nat → Nat → Int32) (c_L_2 : Nat → Nat → Int32) (c_L_3 : Nat → Nat → Int32) (v_H_holds : Nat → Int32) (v_H_size : Nat → Int32) (v_H_line : Nat → Int32) (c_H_1 : Nat → Nat → Int64) (v_ST_size : Int32) (c_ST_1 : Nat → Int32) (c_ST_2 : Nat → Int32) (c_ST_3 : Nat → Int32) (v_C_done : Int32) (v_C_kept : Int32) (c_C_1 : Nat → Int32) (c_C_2 : Nat → Int32) (c_C_3 : Nat → Int32) (c_C_4 : Nat → Int32) (v_R_many : Int32) (c_R_1 : Nat → Int32) (c_F_1 : Nat → Int32) (c_F_2 : Nat → Int32) (c_F_3 : Nat → Int32) (c_F_4 : Nat → Int32) (v_P_pieceCount : Int32) (c_P_3 : Nat → Int32) (c_P_4 : Nat → Int32) (d_P_0 : Nat → Nat → Int32) (d_P_1 : Nat → Nat → Int32) (v_B_size : Int32) (c_B_1 : Nat → Int32) (v_D_size : Int32) (v_D_names : Int32) (v_D_plots : Int32) (v_D_ways : Int32) (c_D_1 : Nat → Int32) (c_D_2 : Nat → Int32) (c_D_3 : Nat → Int32) (c_D_4 : Nat → Int32) (c_D_5 : Nat → Int32) (c_D_8 : Nat → Int32) (c_D_9 : Nat → Int32) (d_D_0 : Nat → Nat → Int64) (d_D_1 : Nat → Nat → Int64) (v_T_size : Int32) (v_T_place : Int32) (o_T_law : Option Nat) (c_T_1 : Nat → Int32) (v_N_size : Int32) (v_N_ran : Int32) (c_N_1 : Nat → Int32) (c_N_2 : Nat → Int32) (v_M_streets : Int32) (v_M_keptMany : Int32) (v_M_done : Int32) (v_M_lookedMany : Int32) (v_M_bestMisfit : Int32) (v_M_bendMany : Int32) (v_M_deeds : Int32) (v_M_namedMany : Int32) (v_M_ways : Int32) (v_M_tapeMany : Int32) (v_M_laws : Int32) (v_M_base : Int32) (v_M_at : Int32) (v_M_ends : Int32) (v_M_fault : Int32) (v_M_opened : Int32) (v_M_bodies : Int32) (v_M_ran : Int32) (v_M_ownKind : Int32) (v_M_ownNumber : Int32) (c_M_1 : Nat → Int32) (c_M_2 : Nat → Int32) (c_M_3 : Nat → Int32) (c_M_4 : Nat → Int32) (c_M_5 : Nat → Int32) (c_M_6 : Nat → Int32) (c_M_7 : Nat → Int32) (c_M_8 : Nat → Int32) (c_M_9 : Nat → Int32) (c_M_10 : Nat → Int32) (c_M_11 : Nat → Int32) (c_M_12 : Nat → Int32) (c_M_13 : Nat → Int32) (c_M_14 : Nat → Int32) (c_M_15 : Nat → Int32) (c_M_16 : Nat → Int32) (c_M_17 : Nat → Int32) (c_M_18 : Nat → Int32) (c_M_19 : Nat → Int32) (c_M_20 : Nat → Int32) (c_M_21 : Nat → Int32) (c_M_22 : Nat → Int32) (c_M_23 : Nat → Int32) (c_M_24 : Nat → Int32) (c_M_25 : Nat → Int32) (c_M_26 : Nat → Int32) (c_M_27 : Nat → Int32) (c_M_28 : Nat → Int64) (c_M_29 : Nat → Int64), va_P (dC, dI) vwCl [gw_T0 a_T0_0 a_T0_1 a_T0_2 a_T0_3 a_ST_0 a_C_0 a_R_0 a_F_0 a_P_0 a_B_0 a_D_0 a_T_0 a_N_0 a_S_0 a_L_0 a_H_0 cOStreet cOLaw cOShelf v_T0_streetCount v_T0_lawCount, kk_fam 6 (gf_S a_S_0 a_S_1 a_S_2 a_S_3 cint v_S_size c_S_1 c_S_2 c_S_3), kk_fam 4 (gf_L a_L_0 a_L_1 a_L_2 a_L_3 cint v_L_size v_L_top c_L_1 c_L_2 c_L_3), kk_fam 6 (gf_H a_H_0 a_H_1 clong v_H_holds v_H_size v_H_line c_H_1), gw_ST a_ST_0 a_ST_1 a_ST_2 a_ST_3 cint v_ST_size c_ST_1 c_ST_2 c_ST_3, gw_C a_C_0 a_C_1 a_C_2 a_C_3 a_C_4 cint v_C_done v_C_kept c_C_1 c_C_2 c_C_3 c_C_4, gw_R a_R_0 a_R_1 cint v_R_many c_R_1, gw_F a_F_0 a_F_1 a_F_2 a_F_3 a_F_4 cint c_F_1 c_F_2 c_F_3 c_F_4, gw_P a_P_0 a_P_1 a_P_2 a_P_3 a_P_4 r_P_0 r_P_1 cAint cint v_P_pieceCount c_P_3 c_P_4 d_P_0 d_P_1, gw_B a_B_0 a_B_1 cint v_B_size c_B_1, gw_D a_D_0 a_D_1 a_D_2 a_D_3 a_D_4 a_D_5 a_D_6 a_D_7 a_D_8 a_D_9 r_D_0 r_D_1 cint cAlong clong v_D_size v_D_names v_D_plots v_D_ways c_D_1 c_D_2 c_D_3 c_D_4 c_D_5 c_D_8 c_D_9 d_D_0 d_D_1, gw_T a_T_0 a_T_1 cint v_T_size v_T_place o_T_law c_T_1, gw_N a_N_0 a_N_1 a_N_2 cint v_N_size v_N_ran c_N_1 c_N_2, gw_M a_M_0 a_M_1 a_M_2 a_M_3 a_M_4 a_M_5 a_M_6 a_M_7 a_M_8 a_M_9 a_M_10 a_M_11 a_M_12 a_M_13 a_M_14 a_M_15 a_M_16 a_M_17 a_M_18 a_M_19 a_M_20 a_M_21 a_M_22 a_M_23 a_M_24 a_M_25 a_M_26 a_M_27 a_M_28 a_M_29 cint cboolean clong v_M_streets v_M_keptMany v_M_done v_M_lookedMany v_M_bestMisfit v_M_bendMany v_M_deeds v_M_namedMany v_M_ways v_M_tapeMany v_M_laws v_M_base v_M_at v_M_ends v_M_fault v_M_opened v_M_bodies v_M_ran v_M_ownKind v_M_ownNumber c_M_1 c_M_2 c_M_3 c_M_4 c_M_5 c_M_6 c_M_7 c_M_8 c_M_9 c_M_10 c_M_11 c_M_12 c_M_13 c_M_14 c_M_15 c_M_16 c_M_17 c_M_18 c_M_19 c_M_20 c_M_21 c_M_22 c_M_23 c_M_24 c_M_25 c_M_26 c_M_27 c_M_28 c_M_29].flatten H ∧ va_D A [gw_T0 a_T0_0 a_T0_1 a_T0_2 a_T0_3 a_ST_0 a_C_0 a_R_0 a_F_0 a_P_0 a_B_0 a_D_0 a_T_0 a_N_0 a_S_0 a_L_0 a_H_0 cOStreet cOLaw cOShelf v_T0_streetCount v_T0_lawCount, kk_fam 6 (gf_S a_S_0 a_S_1 a_S_2 a_S_3 cint v_S_size c_S_1 c_S_2 c_S_3), kk_fam 4 (gf_L a_L_0 a_L_1 a_L_2 a_L_3 cint v_L_size v_L_top c_L_1 c_L_2 c_L_3), kk_fam 6 (gf_H a_H_0 a_H_1 clong v_H_holds v_H_size v_H_line c_H_1), gw_ST a_ST_0 a_ST_1 a_ST_2 a_ST_3 cint v_ST_size c_ST_1 c_ST_2 c_ST_3, gw_C a_C_0 a_C_1 a_C_2 a_C_3 a_C_4 cint v_C_done v_C_kept c_C_1 c_C_2 c_C_3 c_C_4, gw_R a_R_0 a_R_1 cint v_R_many c_R_1, gw_F a_F_0 a_F_1 a_F_2 a_F_3 a_F_4 cint c_F_1 c_F_2 c_F_3 c_F_4, gw_P a_P_0 a_P_1 a_P_2 a_P_3 a_P_4 r_P_0 r_P_1 cAint cint v_P_pieceCount c_P_3 c_P_4 d_P_0 d_P_1, gw_B a_B_0 a_B_1 cint v_B_size c_B_1, gw_D a_D_0 a_D_1 a_D_2 a_D_3 a_D_4 a_D_5 a_D_6 a_D_7 a_D_8 a_D_9 r_D_0 r_D_1 cint cAlong clong v_D_size v_D_names v_D_plots v_D_ways c_D_1 c_D_2 c_D_3 c_D_4 c_D_5 c_D_8 c_D_9 d_D_0 d_D_1, gw_T a_T_0 a_T_1 cint v_T_size v_T_place o_T_law c_T_1, gw_N a_N_0 a_N_1 a_N_2 cint v_N_size v_N_ran c_N_1 c_N_2, gw_M a_M_0 a_M_1 a_M_2 a_M_3 a_M_4 a_M_5 a_M_6 a_M_7 a_M_8 a_M_9 a_M_10 a_M_11 a_M_12 a_M_13 a_M_14 a_M_15 a_M_16 a_M_17 a_M_18 a_M_19 a_M_20 a_M_21 a_M_22 a_M_23 a_M_24 a_M_25 a_M_26 a_M_27 a_M_28 a_M_29 cint cboolean clong v_M_streets v_M_keptMany v_M_done v_M_lookedMany v_M_bestMisfit v_M_bendMany v_M_deeds v_M_namedMany v_M_ways v_M_tapeMany v_M_laws v_M_base v_M_at v_M_ends v_M_fault v_M_opened v_M_bodies v_M_ran v_M_ownKind v_M_ownNumber c_M_1 c_M_2 c_M_3 c_M_4 c_M_5 c_M_6 c_M_7 c_M_8 c_M_9 c_M_10 c_M_11 c_M_12 c_M_13 c_M_14 c_M_15 c_M_16 c_M_17 c_M_18 c_M_19 c_M_20 c_M_21 c_M_22 c_M_23 c_M_24 c_M_25 c_M_26 c_M_27 c_M_28 c_M_29].flatten ∧ (0 ≤ v_T0_streetCount.toInt ∧ v_T0_streetCount.toInt ≤ 6) ∧ (0 ≤ v_T0_lawCount.toInt ∧ v_T0_lawCount.toInt ≤ 4) ∧ (∀ j : Nat, j < 6 → 0 ≤ (v_S_size j).toInt ∧ (v_S_size j).toInt ≤ 40) ∧ (∀ j : Nat, j < 4 → 0 ≤ (v_L_size j).toInt ∧ (v_L_size j).toInt ≤ 128) ∧ (∀ j : Nat, j < 4 → 0 ≤ (v_L_top j).toInt ∧ (v_L_top j).toInt ≤ 64) ∧ (∀ j : Nat, j < 6 → 0 ≤ (v_H_size j).toInt ∧ (v_H_size j).toInt ≤ 60) ∧ (0 ≤ v_ST_size.toInt ∧ v_ST_size.toInt ≤ 40) ∧ (0 ≤ v_C_done.toInt ∧ v_C_done.toInt ≤ 40) ∧ (0 ≤ v_C_kept.toInt ∧ v_C_kept.toInt ≤ 40) ∧ (0 ≤ v_R_many.toInt ∧ v_R_many.toInt ≤ 40) ∧ (∀ j, j < 41 → 0 ≤ (c_F_3 j).toInt ∧ (c_F_3 j).toInt ≤ 6) ∧ (0 ≤ v_P_pieceCount.toInt ∧ v_P_pieceCount.toInt ≤ 5) ∧ (∀ j : Nat, j < 5 → 0 ≤ (c_P_4 j).toInt ∧ (c_P_4 j).toInt ≤ 40 + 2 * (j : Int)) ∧ (0 ≤ v_D_size.toInt ∧ v_D_size.toInt ≤ 10) ∧ (0 ≤ v_D_names.toInt ∧ v_D_names.toInt ≤ 8) ∧ (0 ≤ v_D_plots.toInt ∧ v_D_plots.toInt ≤ 40) ∧ (0 ≤ v_T_size.toInt ∧ v_T_size.toInt ≤ 120) ∧ (∀ j, j < 120 → 0 ≤ (c_T_1 j).toInt ∧ (c_T_1 j).toInt ≤ 255) ∧ (0 ≤ v_N_size.toInt ∧ v_N_size.toInt ≤ 50) ∧ (0 ≤ v_N_ran.toInt ∧ v_N_ran.toInt ≤ 19) ∧ (∀ j, j < 50 → 0 ≤ (c_N_1 j).toInt ∧ (c_N_1 j).toInt ≤ 7) ∧ (0 ≤ v_M_streets.toInt ∧ v_M_streets.toInt ≤ 6) ∧ (0 ≤ v_M_keptMany.toInt ∧ v_M_keptMany.toInt ≤ 40) ∧ (0 ≤ v_M_done.toInt ∧ v_M_done.toInt ≤ 40) ∧ (0 ≤ v_M_lookedMany.toInt ∧ v_M_lookedMany.toInt ≤ 40) ∧ (0 ≤ v_M_deeds.toInt ∧ v_M_deeds.toInt ≤ 10) ∧ (0 ≤ v_M_namedMany.toInt ∧ v_M_namedMany.toInt ≤ 8) ∧ (0 ≤ v_M_tapeMany.toInt ∧ v_M_tapeMany.toInt ≤ 120) ∧ (0 ≤ v_M_laws.toInt ∧ v_M_laws.toInt ≤ 4) ∧ ((-1) ≤ v_M_base.toInt ∧ v_M_base.toInt ≤ 360) ∧ (0 ≤ v_M_at.toInt ∧ v_M_at.toInt ≤ 120) ∧ (0 ≤ v_M_ends.toInt ∧ v_M_ends.toInt ≤ 120) ∧ ((-1) ≤ v_M_fault.toInt ∧ v_M_fault.toInt ≤ 120) ∧ (0 ≤ v_M_opened.toInt ∧ v_M_opened.toInt ≤ 6) ∧ (0 ≤ v_M_bodies.toInt ∧ v_M_bodies.toInt ≤ 50) ∧ (0 ≤ v_M_ran.toInt ∧ v_M_ran.toInt ≤ 19) ∧ (0 ≤ v_M_ownKind.toInt ∧ v_M_ownKind.toInt ≤ 7) ∧ (∀ j, j < 7 → 0 ≤ (c_M_1 j).toInt ∧ (c_M_1 j).toInt ≤ 40) ∧ (∀ j : Nat, j < 840 → (-99) ≤ (c_M_2 j).toInt ∧ (c_M_2 j).toInt ≤ 999 ∧ ((j : Int) < 280 → 0 ≤ (c_M_2 j).toInt)) ∧ (∀ j, j < 40 → 0 ≤ (c_M_3 j).toInt ∧ (c_M_3 j).toInt ≤ 839) ∧ (∀ j, j < 40 → (-99) ≤ (c_M_4 j).toInt ∧ (c_M_4 j).toInt ≤ 999) ∧ (∀ j, j < 40 → (-99) ≤ (c_M_5 j).toInt ∧ (c_M_5 j).toInt ≤ 999) ∧ (∀ j, j < 40 → 0 ≤ (c_M_9 j).toInt ∧ (c_M_9 j).toInt ≤ 6) ∧ (∀ j, j < 10 → 0 ≤ (c_M_14 j).toInt ∧ (c_M_14 j).toInt ≤ 7) ∧ (∀ j, j < 10 → (-1) ≤ (c_M_15 j).toInt ∧ (c_M_15 j).toInt ≤ 7) ∧ (∀ j, j < 8 → 0 ≤ (c_M_17 j).toInt ∧ (c_M_17 j).toInt ≤ 7) ∧ (∀ j, j < 8 → (-1) ≤ (c_M_18 j).toInt ∧ (c_M_18 j).toInt ≤ 39) ∧ (∀ j, j < 4 → 0 ≤ (c_M_22 j).toInt ∧ (c_M_22 j).toInt ≤ 120) ∧ (∀ j, j < 50 → 0 ≤ (c_M_24 j).toInt ∧ (c_M_24 j).toInt ≤ 7) ∧ (∀ j, j < 6 → (-1) ≤ (c_M_26 j).toInt ∧ (c_M_26 j).toInt ≤ 54) ∧ (∀ j, j < 6 → 0 ≤ (c_M_27 j).toInt ∧ (c_M_27 j).toInt ≤ 60) ∧ (v_M_done.toInt ≤ v_M_keptMany.toInt) ∧ kk_ch v_M_keptMany.toInt c_M_3 c_M_4 c_M_5 ∧ kk_sg v_M_streets.toInt c_M_1 c_M_2 ∧ (v_N_size.toInt = v_M_bodies.toInt) ∧ kk_cs v_M_bodies.toInt v_H_holds v_H_size v_H_line c_M_26 c_M_27 ∧ kk_el c_H_1 c_M_28 ∧ (v_T_size.toInt = v_M_tapeMany.toInt) ∧ c_T_1 = c_M_20 ∧ (v_T0_lawCount.toInt = v_M_laws.toInt) ∧ (v_T0_streetCount.toInt = v_M_streets.toInt) ∧ kt_cv v_M_laws.toInt c_L_1 v_L_size c_M_21 c_M_22 ∧ kt_cw v_M_streets.toInt v_S_size c_S_1 c_S_2 c_S_3 c_M_1 c_M_2 ∧ kz_cz v_M_streets.toInt v_S_size v_C_done v_C_kept c_C_1 c_C_2 c_C_3 c_C_4 v_M_done v_M_keptMany c_M_3 c_M_4 c_M_5
set_option maxRecDepth 100000 in
theorem kk_opJ {dC : Nat → ClassId} {dI : Nat → Nat → Nat} {A : Nat → Prop} {a_T0_0 : Nat} {a_T0_1 : Nat} {a_T0_2 : Nat} {a_T0_3 : Nat} {a_S_0 : Nat → Nat} {a_S_1 : Nat → Nat} {a_S_2 : Nat → Nat} {a_S_3 : Nat → Nat} {a_L_0 : Nat → Nat} {a_L_1 : Nat → Nat} {a_L_2 : Nat → Nat} {a_L_3 : Nat → Nat} {a_H_0 : Nat → Nat} {a_H_1 : Nat → Nat} {a_ST_0 : Nat} {a_ST_1 : Nat} {a_ST_2 : Nat} {a_ST_3 : Nat} {a_C_0 : Nat} {a_C_1 : Nat} {a_C_2 : Nat} {a_C_3 : Nat} {a_C_4 : Nat} {a_R_0 : Nat} {a_R_1 : Nat} {a_F_0 : Nat} {a_F_1 : Nat} {a_F_2 : Nat} {a_F_3 : Nat} {a_F_4 : Nat} {a_P_0 : Nat} {a_P_1 : Nat} {a_P_2 : Nat} {a_P_3 : Nat} {a_P_4 : Nat} {r_P_0 : Nat → Nat} {r_P_1 : Nat → Nat} {a_B_0 : Nat} {a_B_1 : Nat} {a_D_0 : Nat} {a_D_1 : Nat} {a_D_2 : Nat} {a_D_3 : Nat} {a_D_4 : Nat} {a_D_5 : Nat} {a_D_6 : Nat} {a_D_7 : Nat} {a_D_8 : Nat} {a_D_9 : Nat} {r_D_0 : Nat → Nat} {r_D_1 : Nat → Nat} {a_T_0 : Nat} {a_T_1 : Nat} {a_N_0 : Nat} {a_N_1 : Nat} {a_N_2 : Nat} {a_M_0 : Nat} {a_M_1 : Nat} {a_M_2 : Nat} {a_M_3 : Nat} {a_M_4 : Nat} {a_M_5 : Nat} {a_M_6 : Nat} {a_M_7 : Nat} {a_M_8 : Nat} {a_M_9 : Nat} {a_M_10 : Nat} {a_M_11 : Nat} {a_M_12 : Nat} {a_M_13 : Nat} {a_M_14 : Nat} {a_M_15 : Nat} {a_M_16 : Nat} {a_M_17 : Nat} {a_M_18 : Nat} {a_M_19 : Nat} {a_M_20 : Nat} {a_M_21 : Nat} {a_M_22 : Nat} {a_M_23 : Nat} {a_M_24 : Nat} {a_M_25 : Nat} {a_M_26 : Nat} {a_M_27 : Nat} {a_M_28 : Nat} {a_M_29 : Nat} {cOStreet cOLaw cOShelf cint clong cboolean cAint cAlong : ClassId} {H : Heap} {G : Prop} (hI : kk_Jnv dC dI A a_T0_0 a_T0_1 a_T0_2 a_T0_3 a_S_0 a_S_1 a_S_2 a_S_3 a_L_0 a_L_1 a_L_2 a_L_3 a_H_0 a_H_1 a_ST_0 a_ST_1 a_ST_2 a_ST_3 a_C_0 a_C_1 a_C_2 a_C_3 a_C_4 a_R_0 a_R_1 a_F_0 a_F_1 a_F_2 a_F_3 a_F_4 a_P_0 a_P_1 a_P_2 a_P_3 a_P_4 r_P_0 r_P_1 a_B_0 a_B_1 a_D_0 a_D_1 a_D_2 a_D_3 a_D_4 a_D_5 a_D_6 a_D_7 a_D_8 a_D_9 r_D_0 r_D_1 a_T_0 a_T_1 a_N_0 a_N_1 a_N_2 a_M_0 a_M_1 a_M_2 a_M_3 a_M_4 a_M_5 a_M_6 a_M_7 a_M_8 a_M_9 a_M_10 a_M_11 a_M_12 a_M_13 a_M_14 a_M_15 a_M_16 a_M_17 a_M_18 a_M_19 a_M_20 a_M_21 a_M_22 a_M_23 a_M_24 a_M_25 a_M_26 a_M_27 a_M_28 a_M_29 cOStreet cOLaw cOShelf cint clong cboolean cAint cAlong H) (k : ∀ (v_T0_streetCount : Int32) (v_T0_lawCount : Int32) (v_S_size : Nat → Int32) (c_S_1 : Nat → Nat → Int32) (c_S_2 : Nat → Nat → Int32) (c_S_3 : Nat → Nat → Int32) (v_L_size : Nat → Int32) (v_L_top : Nat → Int32) (c_L_1 : Nat → Nat → Int32) (c_L_2 : Nat → Nat → Int32) (c_L_3 : Nat → Nat → Int32) (v_H_holds : Nat → Int32) (v_H_size : Nat → Int32) (v_H_line : Nat → Int32) (c_H_1 : Nat → Nat → Int64) (v_ST_size : Int32) (c_ST_1 : Nat → Int32) (c_ST_2 : Nat → Int32) (c_ST_3 : Nat → Int32) (v_C_done : Int32) (v_C_kept : Int32) (c_C_1 : Nat → Int32) (c_C_2 : Nat → Int32) (c_C_3 : Nat → Int32) (c_C_4 : Nat → Int32) (v_R_many : Int32) (c_R_1 : Nat → Int32) (c_F_1 : Nat → Int32) (c_F_2 : Nat → Int32) (c_F_3 : Nat → Int32) (c_F_4 : Nat → Int32) (v_P_pieceCount : Int32) (c_P_3 : Nat → Int32) (c_P_4 : Nat → Int32) (d_P_0 : Nat → Nat → Int32) (d_P_1 : Nat → Nat → Int32) (v_B_size : Int32) (c_B_1 : Nat → Int32) (v_D_size : Int32) (v_D_names : Int32) (v_D_plots : Int32) (v_D_ways : Int32) (c_D_1 : Nat → Int32) (c_D_2 : Nat → Int32) (c_D_3 : Nat → Int32) (c_D_4 : Nat → Int32) (c_D_5 : Nat → Int32) (c_D_8 : Nat → Int32) (c_D_9 : Nat → Int32) (d_D_0 : Nat → Nat → Int64) (d_D_1 : Nat → Nat → Int64) (v_T_size : Int32) (v_T_place : Int32) (o_T_law : Option Nat) (c_T_1 : Nat → Int32) (v_N_size : Int32) (v_N_ran : Int32) (c_N_1 : Nat → Int32) (c_N_2 : Nat → Int32) (v_M_streets : Int32) (v_M_keptMany : Int32) (v_M_done : Int32) (v_M_lookedMany : Int32) (v_M_bestMisfit : Int32) (v_M_bendMany : Int32) (v_M_deeds : Int32) (v_M_namedMany : Int32) (v_M_ways : Int32) (v_M_tapeMany : Int32) (v_M_laws : Int32) (v_M_base : Int32) (v_M_at : Int32) (v_M_ends : Int32) (v_M_fault : Int32) (v_M_opened : Int32) (v_M_bodies : Int32) (v_M_ran : Int32) (v_M_ownKind : Int32) (v_M_ownNumber : Int32) (c_M_1 : Nat → Int32) (c_M_2 : Nat → Int32) (c_M_3 : Nat → Int32) (c_M_4 : Nat → Int32) (c_M_5 : Nat → Int32) (c_M_6 : Nat → Int32) (c_M_7 : Nat → Int32) (c_M_8 : Nat → Int32) (c_M_9 : Nat → Int32) (c_M_10 : Nat → Int32) (c_M_11 : Nat → Int32) (c_M_12 : Nat → Int32) (c_M_13 : Nat → Int32) (c_M_14 : Nat → Int32) (c_M_15 : Nat → Int32) (c_M_16 : Nat → Int32) (c_M_17 : Nat → Int32) (c_M_18 : Nat → Int32) (c_M_19 : Nat → Int32) (c_M_20 : Nat → Int32) (c_M_21 : Nat → Int32) (c_M_22 : Nat → Int32) (c_M_23 : Nat → Int32) (c_M_24 : Nat → Int32) (c_M_25 : Nat → Int32) (c_M_26 : Nat → Int32) (c_M_27 : Nat → Int32) (c_M_28 : Nat → Int64) (c_M_29 : Nat → Int64), va_P (dC, dI) vwCl [gw_T0 a_T0_0 a_T0_1 a_T0_2 a_T0_3 a_ST_0 a_C_0 a_R_0 a_F_0 a_P_0 a_B_0 a_D_0 a_T_0 a_N_0 a_S_0 a_L_0 a_H_0 cOStreet cOLaw cOShelf v_T0_streetCount v_T0_lawCount, kk_fam 6 (gf_S a_S_0 a_S_1 a_S_2 a_S_3 cint v_S_size c_S_1 c_S_2 c_S_3), kk_fam 4 (gf_L a_L_0 a_L_1 a_L_2 a_L_3 cint v_L_size v_L_top c_L_1 c_L_2 c_L_3), kk_fam 6 (gf_H a_H_0 a_H_1 clong v_H_holds v_H_size v_H_line c_H_1), gw_ST a_ST_0 a_ST_1 a_ST_2 a_ST_3 cint v_ST_size c_ST_1 c_ST_2 c_ST_3, gw_C a_C_0 a_C_1 a_C_2 a_C_3 a_C_4 cint v_C_done v_C_kept c_C_1 c_C_2 c_C_3 c_C_4, gw_R a_R_0 a_R_1 cint v_R_many c_R_1, gw_F a_F_0 a_F_1 a_F_2 a_F_3 a_F_4 cint c_F_1 c_F_2 c_F_3 c_F_4, gw_P a_P_0 a_P_1 a_P_2 a_P_3 a_P_4 r_P_0 r_P_1 cAint cint v_P_pieceCount c_P_3 c_P_4 d_P_0 d_P_1, gw_B a_B_0 a_B_1 cint v_B_size c_B_1, gw_D a_D_0 a_D_1 a_D_2 a_D_3 a_D_4 a_D_5 a_D_6 a_D_7 a_D_8 a_D_9 r_D_0 r_D_1 cint cAlong clong v_D_size v_D_names v_D_plots v_D_ways c_D_1 c_D_2 c_D_3 c_D_4 c_D_5 c_D_8 c_D_9 d_D_0 d_D_1, gw_T a_T_0 a_T_1 cint v_T_size v_T_place o_T_law c_T_1, gw_N a_N_0 a_N_1 a_N_2 cint v_N_size v_N_ran c_N_1 c_N_2, gw_M a_M_0 a_M_1 a_M_2 a_M_3 a_M_4 a_M_5 a_M_6 a_M_7 a_M_8 a_M_9 a_M_10 a_M_11 a_M_12 a_M_13 a_M_14 a_M_15 a_M_16 a_M_17 a_M_18 a_M_19 a_M_20 a_M_21 a_M_22 a_M_23 a_M_24 a_M_25 a_M_26 a_M_27 a_M_28 a_M_29 cint cboolean clong v_M_streets v_M_keptMany v_M_done v_M_lookedMany v_M_bestMisfit v_M_bendMany v_M_deeds v_M_namedMany v_M_ways v_M_tapeMany v_M_laws v_M_base v_M_at v_M_ends v_M_fault v_M_opened v_M_bodies v_M_ran v_M_ownKind v_M_ownNumber c_M_1 c_M_2 c_M_3 c_M_4 c_M_5 c_M_6 c_M_7 c_M_8 c_M_9 c_M_10 c_M_11 c_M_12 c_M_13 c_M_14 c_M_15 c_M_16 c_M_17 c_M_18 c_M_19 c_M_20 c_M_21 c_M_22 c_M_23 c_M_24 c_M_25 c_M_26 c_M_27 c_M_28 c_M_29].flatten H → va_D A [gw_T0 a_T0_0 a_T0_1 a_T0_2 a_T0_3 a_ST_0 a_C_0 a_R_0 a_F_0 a_P_0 a_B_0 a_D_0 a_T_0 a_N_0 a_S_0 a_L_0 a_H_0 cOStreet cOLaw cOShelf v_T0_streetCount v_T0_lawCount, kk_fam 6 (gf_S a_S_0 a_S_1 a_S_2 a_S_3 cint v_S_size c_S_1 c_S_2 c_S_3), kk_fam 4 (gf_L a_L_0 a_L_1 a_L_2 a_L_3 cint v_L_size v_L_top c_L_1 c_L_2 c_L_3), kk_fam 6 (gf_H a_H_0 a_H_1 clong v_H_holds v_H_size v_H_line c_H_1), gw_ST a_ST_0 a_ST_1 a_ST_2 a_ST_3 cint v_ST_size c_ST_1 c_ST_2 c_ST_3, gw_C a_C_0 a_C_1 a_C_2 a_C_3 a_C_4 cint v_C_done v_C_kept c_C_1 c_C_2 c_C_3 c_C_4, gw_R a_R_0 a_R_1 cint v_R_many c_R_1, gw_F a_F_0 a_F_1 a_F_2 a_F_3 a_F_4 cint c_F_1 c_F_2 c_F_3 c_F_4, gw_P a_P_0 a_P_1 a_P_2 a_P_3 a_P_4 r_P_0 r_P_1 cAint cint v_P_pieceCount c_P_3 c_P_4 d_P_0 d_P_1, gw_B a_B_0 a_B_1 cint v_B_size c_B_1, gw_D a_D_0 a_D_1 a_D_2 a_D_3 a_D_4 a_D_5 a_D_6 a_D_7 a_D_8 a_D_9 r_D_0 r_D_1 cint cAlong clong v_D_size v_D_names v_D_plots v_D_ways c_D_1 c_D_2 c_D_3 c_D_4 c_D_5 c_D_8 c_D_9 d_D_0 d_D_1, gw_T a_T_0 a_T_1 cint v_T_size v_T_place o_T_law c_T_1, gw_N a_N_0 a_N_1 a_N_2 cint v_N_size v_N_ran c_N_1 c_N_2, gw_M a_M_0 a_M_1 a_M_2 a_M_3 a_M_4 a_M_5 a_M_6 a_M_7 a_M_8 a_M_9 a_M_10 a_M_11 a_M_12 a_M_13 a_M_14 a_M_15 a_M_16 a_M_17 a_M_18 a_M_19 a_M_20 a_M_21 a_M_22 a_M_23 a_M_24 a_M_25 a_M_26 a_M_27 a_M_28 a_M_29 cint cboolean clong v_M_streets v_M_keptMany v_M_done v_M_lookedMany v_M_bestMisfit v_M_bendMany v_M_deeds v_M_namedMany v_M_ways v_M_tapeMany v_M_laws v_M_base v_M_at v_M_ends v_M_fault v_M_opened v_M_bodies v_M_ran v_M_ownKind v_M_ownNumber c_M_1 c_M_2 c_M_3 c_M_4 c_M_5 c_M_6 c_M_7 c_M_8 c_M_9 c_M_10 c_M_11 c_M_12 c_M_13 c_M_14 c_M_15 c_M_16 c_M_17 c_M_18 c_M_19 c_M_20 c_M_21 c_M_22 c_M_23 c_M_24 c_M_25 c_M_26 c_M_27 c_M_28 c_M_29].flatten → (0 ≤ v_T0_streetCount.toInt ∧ v_T0_streetCount.toInt ≤ 6) → (0 ≤ v_T0_lawCount.toInt ∧ v_T0_lawCount.toInt ≤ 4) → (∀ j : Nat, j < 6 → 0 ≤ (v_S_size j).toInt ∧ (v_S_size j).toInt ≤ 40) → (∀ j : Nat, j < 4 → 0 ≤ (v_L_size j).toInt ∧ (v_L_size j).toInt ≤ 128) → (∀ j : Nat, j < 4 → 0 ≤ (v_L_top j).toInt ∧ (v_L_top j).toInt ≤ 64) → (∀ j : Nat, j < 6 → 0 ≤ (v_H_size j).toInt ∧ (v_H_size j).toInt ≤ 60) → (0 ≤ v_ST_size.toInt ∧ v_ST_size.toInt ≤ 40) → (0 ≤ v_C_done.toInt ∧ v_C_done.toInt ≤ 40) → (0 ≤ v_C_kept.toInt ∧ v_C_kept.toInt ≤ 40) → (0 ≤ v_R_many.toInt ∧ v_R_many.toInt ≤ 40) → (∀ j, j < 41 → 0 ≤ (c_F_3 j).toInt ∧ (c_F_3 j).toInt ≤ 6) → (0 ≤ v_P_pieceCount.toInt ∧ v_P_pieceCount.toInt ≤ 5) → (∀ j : Nat, j < 5 → 0 ≤ (c_P_4 j).toInt ∧ (c_P_4 j).toInt ≤ 40 + 2 * (j : Int)) → (0 ≤ v_D_size.toInt ∧ v_D_size.toInt ≤ 10) → (0 ≤ v_D_names.toInt ∧ v_D_names.toInt ≤ 8) → (0 ≤ v_D_plots.toInt ∧ v_D_plots.toInt ≤ 40) → (0 ≤ v_T_size.toInt ∧ v_T_size.toInt ≤ 120) → (∀ j, j < 120 → 0 ≤ (c_T_1 j).toInt ∧ (c_T_1 j).toInt ≤ 255) → (0 ≤ v_N_size.toInt ∧ v_N_size.toInt ≤ 50) → (0 ≤ v_N_ran.toInt ∧ v_N_ran.toInt ≤ 19) → (∀ j, j < 50 → 0 ≤ (c_N_1 j).toInt ∧ (c_N_1 j).toInt ≤ 7) → (0 ≤ v_M_streets.toInt ∧ v_M_streets.toInt ≤ 6) → (0 ≤ v_M_keptMany.toInt ∧ v_M_keptMany.toInt ≤ 40) → (0 ≤ v_M_done.toInt ∧ v_M_done.toInt ≤ 40) → (0 ≤ v_M_lookedMany.toInt ∧ v_M_lookedMany.toInt ≤ 40) → (0 ≤ v_M_deeds.toInt ∧ v_M_deeds.toInt ≤ 10) → (0 ≤ v_M_namedMany.toInt ∧ v_M_namedMany.toInt ≤ 8) → (0 ≤ v_M_tapeMany.toInt ∧ v_M_tapeMany.toInt ≤ 120) → (0 ≤ v_M_laws.toInt ∧ v_M_laws.toInt ≤ 4) → ((-1) ≤ v_M_base.toInt ∧ v_M_base.toInt ≤ 360) → (0 ≤ v_M_at.toInt ∧ v_M_at.toInt ≤ 120) → (0 ≤ v_M_ends.toInt ∧ v_M_ends.toInt ≤ 120) → ((-1) ≤ v_M_fault.toInt ∧ v_M_fault.toInt ≤ 120) → (0 ≤ v_M_opened.toInt ∧ v_M_opened.toInt ≤ 6) → (0 ≤ v_M_bodies.toInt ∧ v_M_bodies.toInt ≤ 50) → (0 ≤ v_M_ran.toInt ∧ v_M_ran.toInt ≤ 19) → (0 ≤ v_M_ownKind.toInt ∧ v_M_ownKind.toInt ≤ 7) → (∀ j, j < 7 → 0 ≤ (c_M_1 j).toInt ∧ (c_M_1 j).toInt ≤ 40) → (∀ j : Nat, j < 840 → (-99) ≤ (c_M_2 j).toInt ∧ (c_M_2 j).toInt ≤ 999 ∧ ((j : Int) < 280 → 0 ≤ (c_M_2 j).toInt)) → (∀ j, j < 40 → 0 ≤ (c_M_3 j).toInt ∧ (c_M_3 j).toInt ≤ 839) → (∀ j, j < 40 → (-99) ≤ (c_M_4 j).toInt ∧ (c_M_4 j).toInt ≤ 999) → (∀ j, j < 40 → (-99) ≤ (c_M_5 j).toInt ∧ (c_M_5 j).toInt ≤ 999) → (∀ j, j < 40 → 0 ≤ (c_M_9 j).toInt ∧ (c_M_9 j).toInt ≤ 6) → (∀ j, j < 10 → 0 ≤ (c_M_14 j).toInt ∧ (c_M_14 j).toInt ≤ 7) → (∀ j, j < 10 → (-1) ≤ (c_M_15 j).toInt ∧ (c_M_15 j).toInt ≤ 7) → (∀ j, j < 8 → 0 ≤ (c_M_17 j).toInt ∧ (c_M_17 j).toInt ≤ 7) → (∀ j, j < 8 → (-1) ≤ (c_M_18 j).toInt ∧ (c_M_18 j).toInt ≤ 39) → (∀ j, j < 4 → 0 ≤ (c_M_22 j).toInt ∧ (c_M_22 j).toInt ≤ 120) → (∀ j, j < 50 → 0 ≤ (c_M_24 j).toInt ∧ (c_M_24 j).toInt ≤ 7) → (∀ j, j < 6 → (-1) ≤ (c_M_26 j).toInt ∧ (c_M_26 j).toInt ≤ 54) → (∀ j, j < 6 → 0 ≤ (c_M_27 j).toInt ∧ (c_M_27 j).toInt ≤ 60) → (v_M_done.toInt ≤ v_M_keptMany.toInt) → kk_ch v_M_keptMany.toInt c_M_3 c_M_4 c_M_5 → kk_sg v_M_streets.toInt c_M_1 c_M_2 → (v_N_size.toInt = v_M_bodies.toInt) → kk_cs v_M_bodies.toInt v_H_holds v_H_size v_H_line c_M_26 c_M_27 → kk_el c_H_1 c_M_28 → (v_T_size.toInt = v_M_tapeMany.toInt) → c_T_1 = c_M_20 → (v_T0_lawCount.toInt = v_M_laws.toInt) → (v_T0_streetCount.toInt = v_M_streets.toInt) → kt_cv v_M_laws.toInt c_L_1 v_L_size c_M_21 c_M_22 → kt_cw v_M_streets.toInt v_S_size c_S_1 c_S_2 c_S_3 c_M_1 c_M_2 → kz_cz v_M_streets.toInt v_S_size v_C_done v_C_kept c_C_1 c_C_2 c_C_3 c_C_4 v_M_done v_M_keptMany c_M_3 c_M_4 c_M_5 → G) : G := by
  unfold kk_Jnv at hI
  refine hI.elim (fun v_T0_streetCount hI => ?_)
  refine hI.elim (fun v_T0_lawCount hI => ?_)
  refine hI.elim (fun v_S_size hI => ?_)
  refine hI.elim (fun c_S_1 hI => ?_)
  refine hI.elim (fun c_S_2 hI => ?_)
  refine hI.elim (fun c_S_3 hI => ?_)
  refine hI.elim (fun v_L_size hI => ?_)
  refine hI.elim (fun v_L_top hI => ?_)
  refine hI.elim (fun c_L_1 hI => ?_)
  refine hI.elim (fun c_L_2 hI => ?_)
  refine hI.elim (fun c_L_3 hI => ?_)
  refine hI.elim (fun v_H_holds hI => ?_)
  refine hI.elim (fun v_H_size hI => ?_)
  refine hI.elim (fun v_H_line hI => ?_)
  refine hI.elim (fun c_H_1 hI => ?_)
  refine hI.elim (fun v_ST_size hI => ?_)
  refine hI.elim (fun c_ST_1 hI => ?_)
  refine hI.elim (fun c_ST_2 hI => ?_)
  refine hI.elim (fun c_ST_3 hI => ?_)
  refine hI.elim (fun v_C_done hI => ?_)
  refine hI.elim (fun v_C_kept hI => ?_)
  refine hI.elim (fun c_C_1 hI => ?_)
  refine hI.elim (fun c_C_2 hI => ?_)
  refine hI.elim (fun c_C_3 hI => ?_)
  refine hI.elim (fun c_C_4 hI => ?_)
  refine hI.elim (fun v_R_many hI => ?_)
  refine hI.elim (fun c_R_1 hI => ?_)
  refine hI.elim (fun c_F_1 hI => ?_)
  refine hI.elim (fun c_F_2 hI => ?_)
  refine hI.elim (fun c_F_3 hI => ?_)
  refine hI.elim (fun c_F_4 hI => ?_)
  refine hI.elim (fun v_P_pieceCount hI => ?_)
  refine hI.elim (fun c_P_3 hI => ?_)
  refine hI.elim (fun c_P_4 hI => ?_)
  refine hI.elim (fun d_P_0 hI => ?_)
  refine hI.elim (fun d_P_1 hI => ?_)
  refine hI.elim (fun v_B_size hI => ?_)
  refine hI.elim (fun c_B_1 hI => ?_)
  refine hI.elim (fun v_D_size hI => ?_)
  refine hI.elim (fun v_D_names hI => ?_)
  refine hI.elim (fun v_D_plots hI => ?_)
  refine hI.elim (fun v_D_ways hI => ?_)
  refine hI.elim (fun c_D_1 hI => ?_)
  refine hI.elim (fun c_D_2 hI => ?_)
  refine hI.elim (fun c_D_3 hI => ?_)
  refine hI.elim (fun c_D_4 hI => ?_)
  refine hI.elim (fun c_D_5 hI => ?_)
  refine hI.elim (fun c_D_8 hI => ?_)
  refine hI.elim (fun c_D_9 hI => ?_)
  refine hI.elim (fun d_D_0 hI => ?_)
  refine hI.elim (fun d_D_1 hI => ?_)
  refine hI.elim (fun v_T_size hI => ?_)
  refine hI.elim (fun v_T_place hI => ?_)
  refine hI.elim (fun o_T_law hI => ?_)
  refine hI.elim (fun c_T_1 hI => ?_)
  refine hI.elim (fun v_N_size hI => ?_)
  refine hI.elim (fun v_N_ran hI => ?_)
  refine hI.elim (fun c_N_1 hI => ?_)
  refine hI.elim (fun c_N_2 hI => ?_)
  refine hI.elim (fun v_M_streets hI => ?_)
  refine hI.elim (fun v_M_keptMany hI => ?_)
  refine hI.elim (fun v_M_done hI => ?_)
  refine hI.elim (fun v_M_lookedMany hI => ?_)
  refine hI.elim (fun v_M_bestMisfit hI => ?_)
  refine hI.elim (fun v_M_bendMany hI => ?_)
  refine hI.elim (fun v_M_deeds hI => ?_)
  refine hI.elim (fun v_M_namedMany hI => ?_)
  refine hI.elim (fun v_M_ways hI => ?_)
  refine hI.elim (fun v_M_tapeMany hI => ?_)
  refine hI.elim (fun v_M_laws hI => ?_)
  refine hI.elim (fun v_M_base hI => ?_)
  refine hI.elim (fun v_M_at hI => ?_)
  refine hI.elim (fun v_M_ends hI => ?_)
  refine hI.elim (fun v_M_fault hI => ?_)
  refine hI.elim (fun v_M_opened hI => ?_)
  refine hI.elim (fun v_M_bodies hI => ?_)
  refine hI.elim (fun v_M_ran hI => ?_)
  refine hI.elim (fun v_M_ownKind hI => ?_)
  refine hI.elim (fun v_M_ownNumber hI => ?_)
  refine hI.elim (fun c_M_1 hI => ?_)
  refine hI.elim (fun c_M_2 hI => ?_)
  refine hI.elim (fun c_M_3 hI => ?_)
  refine hI.elim (fun c_M_4 hI => ?_)
  refine hI.elim (fun c_M_5 hI => ?_)
  refine hI.elim (fun c_M_6 hI => ?_)
  refine hI.elim (fun c_M_7 hI => ?_)
  refine hI.elim (fun c_M_8 hI => ?_)
  refine hI.elim (fun c_M_9 hI => ?_)
  refine hI.elim (fun c_M_10 hI => ?_)
  refine hI.elim (fun c_M_11 hI => ?_)
  refine hI.elim (fun c_M_12 hI => ?_)
  refine hI.elim (fun c_M_13 hI => ?_)
  refine hI.elim (fun c_M_14 hI => ?_)
  refine hI.elim (fun c_M_15 hI => ?_)
  refine hI.elim (fun c_M_16 hI => ?_)
  refine hI.elim (fun c_M_17 hI => ?_)
  refine hI.elim (fun c_M_18 hI => ?_)
  refine hI.elim (fun c_M_19 hI => ?_)
  refine hI.elim (fun c_M_20 hI => ?_)
  refine hI.elim (fun c_M_21 hI => ?_)
  refine hI.elim (fun c_M_22 hI => ?_)
  refine hI.elim (fun c_M_23 hI => ?_)
  refine hI.elim (fun c_M_24 hI => ?_)
  refine hI.elim (fun c_M_25 hI => ?_)
  refine hI.elim (fun c_M_26 hI => ?_)
  refine hI.elim (fun c_M_27 hI => ?_)
  refine hI.elim (fun c_M_28 hI => ?_)
  refine hI.elim (fun c_M_29 hI => ?_)
  refine hI.elim (fun hP hI => ?_)
  refine hI.elim (fun hD hI => ?_)
  refine hI.elim (fun hv_T0_streetCount hI => ?_)
  refine hI.elim (fun hv_T0_lawCount hI => ?_)
  refine hI.elim (fun hv_S_size hI => ?_)
  refine hI.elim (fun hv_L_size hI => ?_)
  refine hI.elim (fun hv_L_top hI => ?_)
  refine hI.elim (fun hv_H_size hI => ?_)
  refine hI.elim (fun hv_ST_size hI => ?_)
  refine hI.elim (fun hv_C_done hI => ?_)
  refine hI.elim (fun hv_C_kept hI => ?_)
  refine hI.elim (fun hv_R_many hI => ?_)
  refine hI.elim (fun hb_F_3 hI => ?_)
  refine hI.elim (fun hv_P_pieceCount hI => ?_)
  refine hI.elim (fun hb_P_4 hI => ?_)
  refine hI.elim (fun hv_D_size hI => ?_)
  refine hI.elim (fun hv_D_names hI => ?_)
  refine hI.elim (fun hv_D_plots hI => ?_)
  refine hI.elim (fun hv_T_size hI => ?_)
  refine hI.elim (fun hb_T_1 hI => ?_)
  refine hI.elim (fun hv_N_size hI => ?_)
  refine hI.elim (fun hv_N_ran hI => ?_)
  refine hI.elim (fun hb_N_1 hI => ?_)
  refine hI.elim (fun hv_M_streets hI => ?_)
  refine hI.elim (fun hv_M_keptMany hI => ?_)
  refine hI.elim (fun hv_M_done hI => ?_)
  refine hI.elim (fun hv_M_lookedMany hI => ?_)
  refine hI.elim (fun hv_M_deeds hI => ?_)
  refine hI.elim (fun hv_M_namedMany hI => ?_)
  refine hI.elim (fun hv_M_tapeMany hI => ?_)
  refine hI.elim (fun hv_M_laws hI => ?_)
  refine hI.elim (fun hv_M_base hI => ?_)
  refine hI.elim (fun hv_M_at hI => ?_)
  refine hI.elim (fun hv_M_ends hI => ?_)
  refine hI.elim (fun hv_M_fault hI => ?_)
  refine hI.elim (fun hv_M_opened hI => ?_)
  refine hI.elim (fun hv_M_bodies hI => ?_)
  refine hI.elim (fun hv_M_ran hI => ?_)
  refine hI.elim (fun hv_M_ownKind hI => ?_)
  refine hI.elim (fun hb_M_1 hI => ?_)
  refine hI.elim (fun hb_M_2 hI => ?_)
  refine hI.elim (fun hb_M_3 hI => ?_)
  refine hI.elim (fun hb_M_4 hI => ?_)
  refine hI.elim (fun hb_M_5 hI => ?_)
  refine hI.elim (fun hb_M_9 hI => ?_)
  refine hI.elim (fun hb_M_14 hI => ?_)
  refine hI.elim (fun hb_M_15 hI => ?_)
  refine hI.elim (fun hb_M_17 hI => ?_)
  refine hI.elim (fun hb_M_18 hI => ?_)
  refine hI.elim (fun hb_M_22 hI => ?_)
  refine hI.elim (fun hb_M_24 hI => ?_)
  refine hI.elim (fun hb_M_26 hI => ?_)
  refine hI.elim (fun hb_M_27 hI => ?_)
  refine hI.elim (fun hg_le hI => ?_)
  refine hI.elim (fun hg_ch hI => ?_)
  refine hI.elim (fun hg_sg hI => ?_)
  refine hI.elim (fun hc_N hI => ?_)
  refine hI.elim (fun hc_S hI => ?_)
  refine hI.elim (fun hc_E hI => ?_)
  refine hI.elim (fun hc_P hI => ?_)
  refine hI.elim (fun hc_Q hI => ?_)
  refine hI.elim (fun hc_L hI => ?_)
  refine hI.elim (fun hc_C hI => ?_)
  refine hI.elim (fun hc_V hI => ?_)
  refine hI.elim (fun hc_A hI => ?_)
  exact k v_T0_streetCount v_T0_lawCount v_S_size c_S_1 c_S_2 c_S_3 v_L_size v_L_top c_L_1 c_L_2 c_L_3 v_H_holds v_H_size v_H_line c_H_1 v_ST_size c_ST_1 c_ST_2 c_ST_3 v_C_done v_C_kept c_C_1 c_C_2 c_C_3 c_C_4 v_R_many c_R_1 c_F_1 c_F_2 c_F_3 c_F_4 v_P_pieceCount c_P_3 c_P_4 d_P_0 d_P_1 v_B_size c_B_1 v_D_size v_D_names v_D_plots v_D_ways c_D_1 c_D_2 c_D_3 c_D_4 c_D_5 c_D_8 c_D_9 d_D_0 d_D_1 v_T_size v_T_place o_T_law c_T_1 v_N_size v_N_ran c_N_1 c_N_2 v_M_streets v_M_keptMany v_M_done v_M_lookedMany v_M_bestMisfit v_M_bendMany v_M_deeds v_M_namedMany v_M_ways v_M_tapeMany v_M_laws v_M_base v_M_at v_M_ends v_M_fault v_M_opened v_M_bodies v_M_ran v_M_ownKind v_M_ownNumber c_M_1 c_M_2 c_M_3 c_M_4 c_M_5 c_M_6 c_M_7 c_M_8 c_M_9 c_M_10 c_M_11 c_M_12 c_M_13 c_M_14 c_M_15 c_M_16 c_M_17 c_M_18 c_M_19 c_M_20 c_M_21 c_M_22 c_M_23 c_M_24 c_M_25 c_M_26 c_M_27 c_M_28 c_M_29 hP hD hv_T0_streetCount hv_T0_lawCount hv_S_size hv_L_size hv_L_top hv_H_size hv_ST_size hv_C_done hv_C_kept hv_R_many hb_F_3 hv_P_pieceCount hb_P_4 hv_D_size hv_D_names hv_D_plots hv_T_size hb_T_1 hv_N_size hv_N_ran hb_N_1 hv_M_streets hv_M_keptMany hv_M_done hv_M_lookedMany hv_M_deeds hv_M_namedMany hv_M_tapeMany hv_M_laws hv_M_base hv_M_at hv_M_ends hv_M_fault hv_M_opened hv_M_bodies hv_M_ran hv_M_ownKind hb_M_1 hb_M_2 hb_M_3 hb_M_4 hb_M_5 hb_M_9 hb_M_14 hb_M_15 hb_M_17 hb_M_18 hb_M_22 hb_M_24 hb_M_26 hb_M_27 hg_le hg_ch hg_sg hc_N hc_S hc_E hc_P hc_Q hc_L hc_C hc_V hc_A hI
set_option maxRecDepth 100000 in
theorem kk_clJ {dC : Nat → ClassId} {dI : Nat → Nat → Nat} {A : Nat → Prop} {a_T0_0 : Nat} {a_T0_1 : Nat} {a_T0_2 : Nat} {a_T0_3 : Nat} {a_S_0 : Nat → Nat} {a_S_1 : Nat → Nat} {a_S_2 : Nat → Nat} {a_S_3 : Nat → Nat} {a_L_0 : Nat → Nat} {a_L_1 : Nat → Nat} {a_L_2 : Nat → Nat} {a_L_3 : Nat → Nat} {a_H_0 : Nat → Nat} {a_H_1 : Nat → Nat} {a_ST_0 : Nat} {a_ST_1 : Nat} {a_ST_2 : Nat} {a_ST_3 : Nat} {a_C_0 : Nat} {a_C_1 : Nat} {a_C_2 : Nat} {a_C_3 : Nat} {a_C_4 : Nat} {a_R_0 : Nat} {a_R_1 : Nat} {a_F_0 : Nat} {a_F_1 : Nat} {a_F_2 : Nat} {a_F_3 : Nat} {a_F_4 : Nat} {a_P_0 : Nat} {a_P_1 : Nat} {a_P_2 : Nat} {a_P_3 : Nat} {a_P_4 : Nat} {r_P_0 : Nat → Nat} {r_P_1 : Nat → Nat} {a_B_0 : Nat} {a_B_1 : Nat} {a_D_0 : Nat} {a_D_1 : Nat} {a_D_2 : Nat} {a_D_3 : Nat} {a_D_4 : Nat} {a_D_5 : Nat} {a_D_6 : Nat} {a_D_7 : Nat} {a_D_8 : Nat} {a_D_9 : Nat} {r_D_0 : Nat → Nat} {r_D_1 : Nat → Nat} {a_T_0 : Nat} {a_T_1 : Nat} {a_N_0 : Nat} {a_N_1 : Nat} {a_N_2 : Nat} {a_M_0 : Nat} {a_M_1 : Nat} {a_M_2 : Nat} {a_M_3 : Nat} {a_M_4 : Nat} {a_M_5 : Nat} {a_M_6 : Nat} {a_M_7 : Nat} {a_M_8 : Nat} {a_M_9 : Nat} {a_M_10 : Nat} {a_M_11 : Nat} {a_M_12 : Nat} {a_M_13 : Nat} {a_M_14 : Nat} {a_M_15 : Nat} {a_M_16 : Nat} {a_M_17 : Nat} {a_M_18 : Nat} {a_M_19 : Nat} {a_M_20 : Nat} {a_M_21 : Nat} {a_M_22 : Nat} {a_M_23 : Nat} {a_M_24 : Nat} {a_M_25 : Nat} {a_M_26 : Nat} {a_M_27 : Nat} {a_M_28 : Nat} {a_M_29 : Nat} {cOStreet cOLaw cOShelf cint clong cboolean cAint cAlong : ClassId} {H : Heap} (v_T0_streetCount : Int32) (v_T0_lawCount : Int32) (v_S_size : Nat → Int32) (c_S_1 : Nat → Nat → Int32) (c_S_2 : Nat → Nat → Int32) (c_S_3 : Nat → Nat → Int32) (v_L_size : Nat → Int32) (v_L_top : Nat → Int32) (c_L_1 : Nat → Nat → Int32) (c_L_2 : Nat → Nat → Int32) (c_L_3 : Nat → Nat → Int32) (v_H_holds : Nat → Int32) (v_H_size : Nat → Int32) (v_H_line : Nat → Int32) (c_H_1 : Nat → Nat → Int64) (v_ST_size : Int32) (c_ST_1 : Nat → Int32) (c_ST_2 : Nat → Int32) (c_ST_3 : Nat → Int32) (v_C_done : Int32) (v_C_kept : Int32) (c_C_1 : Nat → Int32) (c_C_2 : Nat → Int32) (c_C_3 : Nat → Int32) (c_C_4 : Nat → Int32) (v_R_many : Int32) (c_R_1 : Nat → Int32) (c_F_1 : Nat → Int32) (c_F_2 : Nat → Int32) (c_F_3 : Nat → Int32) (c_F_4 : Nat → Int32) (v_P_pieceCount : Int32) (c_P_3 : Nat → Int32) (c_P_4 : Nat → Int32) (d_P_0 : Nat → Nat → Int32) (d_P_1 : Nat → Nat → Int32) (v_B_size : Int32) (c_B_1 : Nat → Int32) (v_D_size : Int32) (v_D_names : Int32) (v_D_plots : Int32) (v_D_ways : Int32) (c_D_1 : Nat → Int32) (c_D_2 : Nat → Int32) (c_D_3 : Nat → Int32) (c_D_4 : Nat → Int32) (c_D_5 : Nat → Int32) (c_D_8 : Nat → Int32) (c_D_9 : Nat → Int32) (d_D_0 : Nat → Nat → Int64) (d_D_1 : Nat → Nat → Int64) (v_T_size : Int32) (v_T_place : Int32) (o_T_law : Option Nat) (c_T_1 : Nat → Int32) (v_N_size : Int32) (v_N_ran : Int32) (c_N_1 : Nat → Int32) (c_N_2 : Nat → Int32) (v_M_streets : Int32) (v_M_keptMany : Int32) (v_M_done : Int32) (v_M_lookedMany : Int32) (v_M_bestMisfit : Int32) (v_M_bendMany : Int32) (v_M_deeds : Int32) (v_M_namedMany : Int32) (v_M_ways : Int32) (v_M_tapeMany : Int32) (v_M_laws : Int32) (v_M_base : Int32) (v_M_at : Int32) (v_M_ends : Int32) (v_M_fault : Int32) (v_M_opened : Int32) (v_M_bodies : Int32) (v_M_ran : Int32) (v_M_ownKind : Int32) (v_M_ownNumber : Int32) (c_M_1 : Nat → Int32) (c_M_2 : Nat → Int32) (c_M_3 : Nat → Int32) (c_M_4 : Nat → Int32) (c_M_5 : Nat → Int32) (c_M_6 : Nat → Int32) (c_M_7 : Nat → Int32) (c_M_8 : Nat → Int32) (c_M_9 : Nat → Int32) (c_M_10 : Nat → Int32) (c_M_11 : Nat → Int32) (c_M_12 : Nat → Int32) (c_M_13 : Nat → Int32) (c_M_14 : Nat → Int32) (c_M_15 : Nat → Int32) (c_M_16 : Nat → Int32) (c_M_17 : Nat → Int32) (c_M_18 : Nat → Int32) (c_M_19 : Nat → Int32) (c_M_20 : Nat → Int32) (c_M_21 : Nat → Int32) (c_M_22 : Nat → Int32) (c_M_23 : Nat → Int32) (c_M_24 : Nat → Int32) (c_M_25 : Nat → Int32) (c_M_26 : Nat → Int32) (c_M_27 : Nat → Int32) (c_M_28 : Nat → Int64) (c_M_29 : Nat → Int64) (hP : va_P (dC, dI) vwCl [gw_T0 a_T0_0 a_T0_1 a_T0_2 a_T0_3 a_ST_0 a_C_0 a_R_0 a_F_0 a_P_0 a_B_0 a_D_0 a_T_0 a_N_0 a_S_0 a_L_0 a_H_0 cOStreet cOLaw cOShelf v_T0_streetCount v_T0_lawCount, kk_fam 6 (gf_S a_S_0 a_S_1 a_S_2 a_S_3 cint v_S_size c_S_1 c_S_2 c_S_3), kk_fam 4 (gf_L a_L_0 a_L_1 a_L_2 a_L_3 cint v_L_size v_L_top c_L_1 c_L_2 c_L_3), kk_fam 6 (gf_H a_H_0 a_H_1 clong v_H_holds v_H_size v_H_line c_H_1), gw_ST a_ST_0 a_ST_1 a_ST_2 a_ST_3 cint v_ST_size c_ST_1 c_ST_2 c_ST_3, gw_C a_C_0 a_C_1 a_C_2 a_C_3 a_C_4 cint v_C_done v_C_kept c_C_1 c_C_2 c_C_3 c_C_4, gw_R a_R_0 a_R_1 cint v_R_many c_R_1, gw_F a_F_0 a_F_1 a_F_2 a_F_3 a_F_4 cint c_F_1 c_F_2 c_F_3 c_F_4, gw_P a_P_0 a_P_1 a_P_2 a_P_3 a_P_4 r_P_0 r_P_1 cAint cint v_P_pieceCount c_P_3 c_P_4 d_P_0 d_P_1, gw_B a_B_0 a_B_1 cint v_B_size c_B_1, gw_D a_D_0 a_D_1 a_D_2 a_D_3 a_D_4 a_D_5 a_D_6 a_D_7 a_D_8 a_D_9 r_D_0 r_D_1 cint cAlong clong v_D_size v_D_names v_D_plots v_D_ways c_D_1 c_D_2 c_D_3 c_D_4 c_D_5 c_D_8 c_D_9 d_D_0 d_D_1, gw_T a_T_0 a_T_1 cint v_T_size v_T_place o_T_law c_T_1, gw_N a_N_0 a_N_1 a_N_2 cint v_N_size v_N_ran c_N_1 c_N_2, gw_M a_M_0 a_M_1 a_M_2 a_M_3 a_M_4 a_M_5 a_M_6 a_M_7 a_M_8 a_M_9 a_M_10 a_M_11 a_M_12 a_M_13 a_M_14 a_M_15 a_M_16 a_M_17 a_M_18 a_M_19 a_M_20 a_M_21 a_M_22 a_M_23 a_M_24 a_M_25 a_M_26 a_M_27 a_M_28 a_M_29 cint cboolean clong v_M_streets v_M_keptMany v_M_done v_M_lookedMany v_M_bestMisfit v_M_bendMany v_M_deeds v_M_namedMany v_M_ways v_M_tapeMany v_M_laws v_M_base v_M_at v_M_ends v_M_fault v_M_opened v_M_bodies v_M_ran v_M_ownKind v_M_ownNumber c_M_1 c_M_2 c_M_3 c_M_4 c_M_5 c_M_6 c_M_7 c_M_8 c_M_9 c_M_10 c_M_11 c_M_12 c_M_13 c_M_14 c_M_15 c_M_16 c_M_17 c_M_18 c_M_19 c_M_20 c_M_21 c_M_22 c_M_23 c_M_24 c_M_25 c_M_26 c_M_27 c_M_28 c_M_29].flatten H) (hD : va_D A [gw_T0 a_T0_0 a_T0_1 a_T0_2 a_T0_3 a_ST_0 a_C_0 a_R_0 a_F_0 a_P_0 a_B_0 a_D_0 a_T_0 a_N_0 a_S_0 a_L_0 a_H_0 cOStreet cOLaw cOShelf v_T0_streetCount v_T0_lawCount, kk_fam 6 (gf_S a_S_0 a_S_1 a_S_2 a_S_3 cint v_S_size c_S_1 c_S_2 c_S_3), kk_fam 4 (gf_L a_L_0 a_L_1 a_L_2 a_L_3 cint v_L_size v_L_top c_L_1 c_L_2 c_L_3), kk_fam 6 (gf_H a_H_0 a_H_1 clong v_H_holds v_H_size v_H_line c_H_1), gw_ST a_ST_0 a_ST_1 a_ST_2 a_ST_3 cint v_ST_size c_ST_1 c_ST_2 c_ST_3, gw_C a_C_0 a_C_1 a_C_2 a_C_3 a_C_4 cint v_C_done v_C_kept c_C_1 c_C_2 c_C_3 c_C_4, gw_R a_R_0 a_R_1 cint v_R_many c_R_1, gw_F a_F_0 a_F_1 a_F_2 a_F_3 a_F_4 cint c_F_1 c_F_2 c_F_3 c_F_4, gw_P a_P_0 a_P_1 a_P_2 a_P_3 a_P_4 r_P_0 r_P_1 cAint cint v_P_pieceCount c_P_3 c_P_4 d_P_0 d_P_1, gw_B a_B_0 a_B_1 cint v_B_size c_B_1, gw_D a_D_0 a_D_1 a_D_2 a_D_3 a_D_4 a_D_5 a_D_6 a_D_7 a_D_8 a_D_9 r_D_0 r_D_1 cint cAlong clong v_D_size v_D_names v_D_plots v_D_ways c_D_1 c_D_2 c_D_3 c_D_4 c_D_5 c_D_8 c_D_9 d_D_0 d_D_1, gw_T a_T_0 a_T_1 cint v_T_size v_T_place o_T_law c_T_1, gw_N a_N_0 a_N_1 a_N_2 cint v_N_size v_N_ran c_N_1 c_N_2, gw_M a_M_0 a_M_1 a_M_2 a_M_3 a_M_4 a_M_5 a_M_6 a_M_7 a_M_8 a_M_9 a_M_10 a_M_11 a_M_12 a_M_13 a_M_14 a_M_15 a_M_16 a_M_17 a_M_18 a_M_19 a_M_20 a_M_21 a_M_22 a_M_23 a_M_24 a_M_25 a_M_26 a_M_27 a_M_28 a_M_29 cint cboolean clong v_M_streets v_M_keptMany v_M_done v_M_lookedMany v_M_bestMisfit v_M_bendMany v_M_deeds v_M_namedMany v_M_ways v_M_tapeMany v_M_laws v_M_base v_M_at v_M_ends v_M_fault v_M_opened v_M_bodies v_M_ran v_M_ownKind v_M_ownNumber c_M_1 c_M_2 c_M_3 c_M_4 c_M_5 c_M_6 c_M_7 c_M_8 c_M_9 c_M_10 c_M_11 c_M_12 c_M_13 c_M_14 c_M_15 c_M_16 c_M_17 c_M_18 c_M_19 c_M_20 c_M_21 c_M_22 c_M_23 c_M_24 c_M_25 c_M_26 c_M_27 c_M_28 c_M_29].flatten) (hv_T0_streetCount : (0 ≤ v_T0_streetCount.toInt ∧ v_T0_streetCount.toInt ≤ 6)) (hv_T0_lawCount : (0 ≤ v_T0_lawCount.toInt ∧ v_T0_lawCount.toInt ≤ 4)) (hv_S_size : (∀ j : Nat, j < 6 → 0 ≤ (v_S_size j).toInt ∧ (v_S_size j).toInt ≤ 40)) (hv_L_size : (∀ j : Nat, j < 4 → 0 ≤ (v_L_size j).toInt ∧ (v_L_size j).toInt ≤ 128)) (hv_L_top : (∀ j : Nat, j < 4 → 0 ≤ (v_L_top j).toInt ∧ (v_L_top j).toInt ≤ 64)) (hv_H_size : (∀ j : Nat, j < 6 → 0 ≤ (v_H_size j).toInt ∧ (v_H_size j).toInt ≤ 60)) (hv_ST_size : (0 ≤ v_ST_size.toInt ∧ v_ST_size.toInt ≤ 40)) (hv_C_done : (0 ≤ v_C_done.toInt ∧ v_C_done.toInt ≤ 40)) (hv_C_kept : (0 ≤ v_C_kept.toInt ∧ v_C_kept.toInt ≤ 40)) (hv_R_many : (0 ≤ v_R_many.toInt ∧ v_R_many.toInt ≤ 40)) (hb_F_3 : (∀ j, j < 41 → 0 ≤ (c_F_3 j).toInt ∧ (c_F_3 j).toInt ≤ 6)) (hv_P_pieceCount : (0 ≤ v_P_pieceCount.toInt ∧ v_P_pieceCount.toInt ≤ 5)) (hb_P_4 : (∀ j : Nat, j < 5 → 0 ≤ (c_P_4 j).toInt ∧ (c_P_4 j).toInt ≤ 40 + 2 * (j : Int))) (hv_D_size : (0 ≤ v_D_size.toInt ∧ v_D_size.toInt ≤ 10)) (hv_D_names : (0 ≤ v_D_names.toInt ∧ v_D_names.toInt ≤ 8)) (hv_D_plots : (0 ≤ v_D_plots.toInt ∧ v_D_plots.toInt ≤ 40)) (hv_T_size : (0 ≤ v_T_size.toInt ∧ v_T_size.toInt ≤ 120)) (hb_T_1 : (∀ j, j < 120 → 0 ≤ (c_T_1 j).toInt ∧ (c_T_1 j).toInt ≤ 255)) (hv_N_size : (0 ≤ v_N_size.toInt ∧ v_N_size.toInt ≤ 50)) (hv_N_ran : (0 ≤ v_N_ran.toInt ∧ v_N_ran.toInt ≤ 19)) (hb_N_1 : (∀ j, j < 50 → 0 ≤ (c_N_1 j).toInt ∧ (c_N_1 j).toInt ≤ 7)) (hv_M_streets : (0 ≤ v_M_streets.toInt ∧ v_M_streets.toInt ≤ 6)) (hv_M_keptMany : (0 ≤ v_M_keptMany.toInt ∧ v_M_keptMany.toInt ≤ 40)) (hv_M_done : (0 ≤ v_M_done.toInt ∧ v_M_done.toInt ≤ 40)) (hv_M_lookedMany : (0 ≤ v_M_lookedMany.toInt ∧ v_M_lookedMany.toInt ≤ 40)) (hv_M_deeds : (0 ≤ v_M_deeds.toInt ∧ v_M_deeds.toInt ≤ 10)) (hv_M_namedMany : (0 ≤ v_M_namedMany.toInt ∧ v_M_namedMany.toInt ≤ 8)) (hv_M_tapeMany : (0 ≤ v_M_tapeMany.toInt ∧ v_M_tapeMany.toInt ≤ 120)) (hv_M_laws : (0 ≤ v_M_laws.toInt ∧ v_M_laws.toInt ≤ 4)) (hv_M_base : ((-1) ≤ v_M_base.toInt ∧ v_M_base.toInt ≤ 360)) (hv_M_at : (0 ≤ v_M_at.toInt ∧ v_M_at.toInt ≤ 120)) (hv_M_ends : (0 ≤ v_M_ends.toInt ∧ v_M_ends.toInt ≤ 120)) (hv_M_fault : ((-1) ≤ v_M_fault.toInt ∧ v_M_fault.toInt ≤ 120)) (hv_M_opened : (0 ≤ v_M_opened.toInt ∧ v_M_opened.toInt ≤ 6)) (hv_M_bodies : (0 ≤ v_M_bodies.toInt ∧ v_M_bodies.toInt ≤ 50)) (hv_M_ran : (0 ≤ v_M_ran.toInt ∧ v_M_ran.toInt ≤ 19)) (hv_M_ownKind : (0 ≤ v_M_ownKind.toInt ∧ v_M_ownKind.toInt ≤ 7)) (hb_M_1 : (∀ j, j < 7 → 0 ≤ (c_M_1 j).toInt ∧ (c_M_1 j).toInt ≤ 40)) (hb_M_2 : (∀ j : Nat, j < 840 → (-99) ≤ (c_M_2 j).toInt ∧ (c_M_2 j).toInt ≤ 999 ∧ ((j : Int) < 280 → 0 ≤ (c_M_2 j).toInt))) (hb_M_3 : (∀ j, j < 40 → 0 ≤ (c_M_3 j).toInt ∧ (c_M_3 j).toInt ≤ 839)) (hb_M_4 : (∀ j, j < 40 → (-99) ≤ (c_M_4 j).toInt ∧ (c_M_4 j).toInt ≤ 999)) (hb_M_5 : (∀ j, j < 40 → (-99) ≤ (c_M_5 j).toInt ∧ (c_M_5 j).toInt ≤ 999)) (hb_M_9 : (∀ j, j < 40 → 0 ≤ (c_M_9 j).toInt ∧ (c_M_9 j).toInt ≤ 6)) (hb_M_14 : (∀ j, j < 10 → 0 ≤ (c_M_14 j).toInt ∧ (c_M_14 j).toInt ≤ 7)) (hb_M_15 : (∀ j, j < 10 → (-1) ≤ (c_M_15 j).toInt ∧ (c_M_15 j).toInt ≤ 7)) (hb_M_17 : (∀ j, j < 8 → 0 ≤ (c_M_17 j).toInt ∧ (c_M_17 j).toInt ≤ 7)) (hb_M_18 : (∀ j, j < 8 → (-1) ≤ (c_M_18 j).toInt ∧ (c_M_18 j).toInt ≤ 39)) (hb_M_22 : (∀ j, j < 4 → 0 ≤ (c_M_22 j).toInt ∧ (c_M_22 j).toInt ≤ 120)) (hb_M_24 : (∀ j, j < 50 → 0 ≤ (c_M_24 j).toInt ∧ (c_M_24 j).toInt ≤ 7)) (hb_M_26 : (∀ j, j < 6 → (-1) ≤ (c_M_26 j).toInt ∧ (c_M_26 j).toInt ≤ 54)) (hb_M_27 : (∀ j, j < 6 → 0 ≤ (c_M_27 j).toInt ∧ (c_M_27 j).toInt ≤ 60)) (hg_le : (v_M_done.toInt ≤ v_M_keptMany.toInt)) (hg_ch : kk_ch v_M_keptMany.toInt c_M_3 c_M_4 c_M_5) (hg_sg : kk_sg v_M_streets.toInt c_M_1 c_M_2) (hc_N : (v_N_size.toInt = v_M_bodies.toInt)) (hc_S : kk_cs v_M_bodies.toInt v_H_holds v_H_size v_H_line c_M_26 c_M_27) (hc_E : kk_el c_H_1 c_M_28) (hc_P : (v_T_size.toInt = v_M_tapeMany.toInt)) (hc_Q : c_T_1 = c_M_20) (hc_L : (v_T0_lawCount.toInt = v_M_laws.toInt)) (hc_C : (v_T0_streetCount.toInt = v_M_streets.toInt)) (hc_V : kt_cv v_M_laws.toInt c_L_1 v_L_size c_M_21 c_M_22) (hc_A : kt_cw v_M_streets.toInt v_S_size c_S_1 c_S_2 c_S_3 c_M_1 c_M_2) (hc_Z : kz_cz v_M_streets.toInt v_S_size v_C_done v_C_kept c_C_1 c_C_2 c_C_3 c_C_4 v_M_done v_M_keptMany c_M_3 c_M_4 c_M_5) : kk_Jnv dC dI A a_T0_0 a_T0_1 a_T0_2 a_T0_3 a_S_0 a_S_1 a_S_2 a_S_3 a_L_0 a_L_1 a_L_2 a_L_3 a_H_0 a_H_1 a_ST_0 a_ST_1 a_ST_2 a_ST_3 a_C_0 a_C_1 a_C_2 a_C_3 a_C_4 a_R_0 a_R_1 a_F_0 a_F_1 a_F_2 a_F_3 a_F_4 a_P_0 a_P_1 a_P_2 a_P_3 a_P_4 r_P_0 r_P_1 a_B_0 a_B_1 a_D_0 a_D_1 a_D_2 a_D_3 a_D_4 a_D_5 a_D_6 a_D_7 a_D_8 a_D_9 r_D_0 r_D_1 a_T_0 a_T_1 a_N_0 a_N_1 a_N_2 a_M_0 a_M_1 a_M_2 a_M_3 a_M_4 a_M_5 a_M_6 a_M_7 a_M_8 a_M_9 a_M_10 a_M_11 a_M_12 a_M_13 a_M_14 a_M_15 a_M_16 a_M_17 a_M_18 a_M_19 a_M_20 a_M_21 a_M_22 a_M_23 a_M_24 a_M_25 a_M_26 a_M_27 a_M_28 a_M_29 cOStreet cOLaw cOShelf cint clong cboolean cAint cAlong H := by
  unfold kk_Jnv
  refine Exists.intro v_T0_streetCount ?_
  refine Exists.intro v_T0_lawCount ?_
  refine Exists.intro v_S_size ?_
  refine Exists.intro c_S_1 ?_
  refine Exists.intro c_S_2 ?_
  refine Exists.intro c_S_3 ?_
  refine Exists.intro v_L_size ?_
  refine Exists.intro v_L_top ?_
  refine Exists.intro c_L_1 ?_
  refine Exists.intro c_L_2 ?_
  refine Exists.intro c_L_3 ?_
  refine Exists.intro v_H_holds ?_
  refine Exists.intro v_H_size ?_
  refine Exists.intro v_H_line ?_
  refine Exists.intro c_H_1 ?_
  refine Exists.intro v_ST_size ?_
  refine Exists.intro c_ST_1 ?_
  refine Exists.intro c_ST_2 ?_
  refine Exists.intro c_ST_3 ?_
  refine Exists.intro v_C_done ?_
  refine Exists.intro v_C_kept ?_
  refine Exists.intro c_C_1 ?_
  refine Exists.intro c_C_2 ?_
  refine Exists.intro c_C_3 ?_
  refine Exists.intro c_C_4 ?_
  refine Exists.intro v_R_many ?_
  refine Exists.intro c_R_1 ?_
  refine Exists.intro c_F_1 ?_
  refine Exists.intro c_F_2 ?_
  refine Exists.intro c_F_3 ?_
  refine Exists.intro c_F_4 ?_
  refine Exists.intro v_P_pieceCount ?_
  refine Exists.intro c_P_3 ?_
  refine Exists.intro c_P_4 ?_
  refine Exists.intro d_P_0 ?_
  refine Exists.intro d_P_1 ?_
  refine Exists.intro v_B_size ?_
  refine Exists.intro c_B_1 ?_
  refine Exists.intro v_D_size ?_
  refine Exists.intro v_D_names ?_
  refine Exists.intro v_D_plots ?_
  refine Exists.intro v_D_ways ?_
  refine Exists.intro c_D_1 ?_
  refine Exists.intro c_D_2 ?_
  refine Exists.intro c_D_3 ?_
  refine Exists.intro c_D_4 ?_
  refine Exists.intro c_D_5 ?_
  refine Exists.intro c_D_8 ?_
  refine Exists.intro c_D_9 ?_
  refine Exists.intro d_D_0 ?_
  refine Exists.intro d_D_1 ?_
  refine Exists.intro v_T_size ?_
  refine Exists.intro v_T_place ?_
  refine Exists.intro o_T_law ?_
  refine Exists.intro c_T_1 ?_
  refine Exists.intro v_N_size ?_
  refine Exists.intro v_N_ran ?_
  refine Exists.intro c_N_1 ?_
  refine Exists.intro c_N_2 ?_
  refine Exists.intro v_M_streets ?_
  refine Exists.intro v_M_keptMany ?_
  refine Exists.intro v_M_done ?_
  refine Exists.intro v_M_lookedMany ?_
  refine Exists.intro v_M_bestMisfit ?_
  refine Exists.intro v_M_bendMany ?_
  refine Exists.intro v_M_deeds ?_
  refine Exists.intro v_M_namedMany ?_
  refine Exists.intro v_M_ways ?_
  refine Exists.intro v_M_tapeMany ?_
  refine Exists.intro v_M_laws ?_
  refine Exists.intro v_M_base ?_
  refine Exists.intro v_M_at ?_
  refine Exists.intro v_M_ends ?_
  refine Exists.intro v_M_fault ?_
  refine Exists.intro v_M_opened ?_
  refine Exists.intro v_M_bodies ?_
  refine Exists.intro v_M_ran ?_
  refine Exists.intro v_M_ownKind ?_
  refine Exists.intro v_M_ownNumber ?_
  refine Exists.intro c_M_1 ?_
  refine Exists.intro c_M_2 ?_
  refine Exists.intro c_M_3 ?_
  refine Exists.intro c_M_4 ?_
  refine Exists.intro c_M_5 ?_
  refine Exists.intro c_M_6 ?_
  refine Exists.intro c_M_7 ?_
  refine Exists.intro c_M_8 ?_
  refine Exists.intro c_M_9 ?_
  refine Exists.intro c_M_10 ?_
  refine Exists.intro c_M_11 ?_
  refine Exists.intro c_M_12 ?_
  refine Exists.intro c_M_13 ?_
  refine Exists.intro c_M_14 ?_
  refine Exists.intro c_M_15 ?_
  refine Exists.intro c_M_16 ?_
  refine Exists.intro c_M_17 ?_
  refine Exists.intro c_M_18 ?_
  refine Exists.intro c_M_19 ?_
  refine Exists.intro c_M_20 ?_
  refine Exists.intro c_M_21 ?_
  refine Exists.intro c_M_22 ?_
  refine Exists.intro c_M_23 ?_
  refine Exists.intro c_M_24 ?_
  refine Exists.intro c_M_25 ?_
  refine Exists.intro c_M_26 ?_
  refine Exists.intro c_M_27 ?_
  refine Exists.intro c_M_28 ?_
  refine Exists.intro c_M_29 ?_
  refine And.intro hP ?_
  refine And.intro hD ?_
  refine And.intro hv_T0_streetCount ?_
  refine And.intro hv_T0_lawCount ?_
  refine And.intro hv_S_size ?_
  refine And.intro hv_L_size ?_
  refine And.intro hv_L_top ?_
  refine And.intro hv_H_size ?_
  refine And.intro hv_ST_size ?_
  refine And.intro hv_C_done ?_
  refine And.intro hv_C_kept ?_
  refine And.intro hv_R_many ?_
  refine And.intro hb_F_3 ?_
  refine And.intro hv_P_pieceCount ?_
  refine And.intro hb_P_4 ?_
  refine And.intro hv_D_size ?_
  refine And.intro hv_D_names ?_
  refine And.intro hv_D_plots ?_
  refine And.intro hv_T_size ?_
  refine And.intro hb_T_1 ?_
  refine And.intro hv_N_size ?_
  refine And.intro hv_N_ran ?_
  refine And.intro hb_N_1 ?_
  refine And.intro hv_M_streets ?_
  refine And.intro hv_M_keptMany ?_
  refine And.intro hv_M_done ?_
  refine And.intro hv_M_lookedMany ?_
  refine And.intro hv_M_deeds ?_
  refine And.intro hv_M_namedMany ?_
  refine And.intro hv_M_tapeMany ?_
  refine And.intro hv_M_laws ?_
  refine And.intro hv_M_base ?_
  refine And.intro hv_M_at ?_
  refine And.intro hv_M_ends ?_
  refine And.intro hv_M_fault ?_
  refine And.intro hv_M_opened ?_
  refine And.intro hv_M_bodies ?_
  refine And.intro hv_M_ran ?_
  refine And.intro hv_M_ownKind ?_
  refine And.intro hb_M_1 ?_
  refine And.intro hb_M_2 ?_
  refine And.intro hb_M_3 ?_
  refine And.intro hb_M_4 ?_
  refine And.intro hb_M_5 ?_
  refine And.intro hb_M_9 ?_
  refine And.intro hb_M_14 ?_
  refine And.intro hb_M_15 ?_
  refine And.intro hb_M_17 ?_
  refine And.intro hb_M_18 ?_
  refine And.intro hb_M_22 ?_
  refine And.intro hb_M_24 ?_
  refine And.intro hb_M_26 ?_
  refine And.intro hb_M_27 ?_
  refine And.intro hg_le ?_
  refine And.intro hg_ch ?_
  refine And.intro hg_sg ?_
  refine And.intro hc_N ?_
  refine And.intro hc_S ?_
  refine And.intro hc_E ?_
  refine And.intro hc_P ?_
  refine And.intro hc_Q ?_
  refine And.intro hc_L ?_
  refine And.intro hc_C ?_
  refine And.intro hc_V ?_
  refine And.intro hc_A ?_
  exact hc_Z
