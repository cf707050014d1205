/-! WHAT ELSE A SQUARE TELLS AND TAKES -/
theorem ct0 : (0 : Int32) = nI 0 := nI_0.symm
/-- what is looked up of her, by its number -/
def lkF (n : Nat) (r : Nat → Int32) (i j : Nat) : Int32 :=
  if j = 10 then gapF r i else if j = 11 then lastF r i else if j = 12 then sqSell n r i (sgS r n) else if j = 13 then weaF r i else r (14 + 10 * i + j)
theorem wi_i {l h j : Nat} (hl : l ≤ j) (hj : j ≤ h) (hh : h < 2 ^ 31) : wi (nI j) (nI l) (nI h) := ⟨nI_nlt hl (by omega), nI_nlt hj hh⟩
theorem nx_ne {a b : Nat} (h : a ≠ b) (ha : a < 2 ^ 31) (hb : b < 2 ^ 31) : ¬ nI a = nI b := fun e => h ((nI_eq ha hb).mp e)
theorem t_look {X : aX} {S : aS} {a n i j : Nat} (ha : a < 3) (hn : n ≤ 8) (hi : i < n) (hj : j ≤ 13) (hz : S.1 a 1 = nI n) : cl X 30 [aR (1, a, 0), aI (nI i), aI (nI j)] (mem S) = some (some (aI (lkF n (S.1 a) i j)), mem S) := by
  have hi8 : i < 8 := by omega
  have h10 : (nI j = nI 10) = (j = 10) := propext (nI_eq (by omega) (by omega))
  have h11 : (nI j = nI 11) = (j = 11) := propext (nI_eq (by omega) (by omega))
  have h12 : (nI j = nI 12) = (j = 12) := propext (nI_eq (by omega) (by omega))
  have h13 : (nI j = nI 13) = (j = 13) := propext (nI_eq (by omega) (by omega))
  have ts := t_singing (X := X) ha hn hz
  have t2 := fun z => t_selling (X := X) (z := z) ha hn hi8 hz
  unfold lkF
  by_cases hj10 : j < 10
  · have e0 : ¬ j = 10 ∧ ¬ j = 11 ∧ ¬ j = 12 ∧ ¬ j = 13 := by omega
    simp only [nl_n, nl_i, nl_r, x_ci, x_ca, x_bin, x_ife, x_ifl, x_ifg, x_cme, x_cml, x_cmg, x_go, x_no, x_b, x_ps, x_pn, cs_n, cs_i, cs_j, cs_r, en_n, en_i, en_j, en_r, xa0, xi1, x_k2_1, r_i, r_j, r_v, r_z1, r_z0, r_a, xi2, x_sw, x_sw0, g_1_0, l_2, l_9, l_27, x_k1_4, x_k1_1, x_k3_1, x_k3_s, g_4_0, l_3, l_5, l_8, l_11, l_12, l_21, l_22, l_23, l_24, l_25, l_26, l_28, l_29, l_30, l_31, l_32, e30_0, e30_1, e30_2, e30_5, e30_8, e30_9, e30_10, e30_11, e30_40, e30_41, e30_44, e30_45, e30_46, e30_49, e30_50, e30_51, e30_54, e30_55, e30_56, e30_59, e30_60, e30_61, e30_62, e30_63, e30_66, e30_69, e30_70, e30_71, e30_74, e30_75, e30_76, e30_79, e30_80, e30_81, e30_82, e30_84, e30_87, e30_90, e30_91, e30_94, e30_95, e30_96, e30_99, e30_100, e30_101, e30_104, e30_105, c30, i10, i00, n2, n10, n20, n60, n8, n9, bi0, ite_not, List.replicate, Nat.reduceAdd, Nat.reduceSub, Nat.reduceLeDiff, Nat.reduceLT, if_true, if_false, mg, reduceIte, not_false_eq_true, eq_self, and_self, and_true, true_and, true_or, or_true, Nat.reduceEqDiff, ha, hi8, hj10, (bi_t (has_i hn hi)), (bi_t (wi_i (Nat.zero_le j) (show j ≤ 9 by omega) (by decide))), (t_has ha hz), t_within, h10, h11, h12, h13, e0]
  · simp only [nl_n, nl_i, nl_r, x_ci, x_ca, x_bin, x_ife, x_ifl, x_ifg, x_cme, x_cml, x_cmg, x_go, x_no, x_b, x_ps, x_pn, cs_n, cs_i, cs_j, cs_r, en_n, en_i, en_j, en_r, xa0, xi1, x_k2_1, r_i, r_j, r_v, r_z1, r_z0, r_a, xi2, x_sw, x_sw0, g_1_0, l_2, l_9, l_27, x_k1_4, x_k1_1, x_k3_1, x_k3_s, g_4_0, l_3, l_5, l_8, l_11, l_12, l_21, l_22, l_23, l_24, l_25, l_26, l_28, l_29, l_30, l_31, l_32, e30_0, e30_1, e30_2, e30_5, e30_8, e30_9, e30_10, e30_11, e30_40, e30_41, e30_44, e30_45, e30_46, e30_49, e30_50, e30_51, e30_54, e30_55, e30_56, e30_59, e30_60, e30_61, e30_62, e30_63, e30_66, e30_69, e30_70, e30_71, e30_74, e30_75, e30_76, e30_79, e30_81, e30_82, e30_84, e30_87, e30_90, e30_91, e30_94, e30_95, e30_96, e30_99, e30_100, e30_101, e30_104, e30_105, c30, i10, i00, n2, n10, n20, n60, n8, n9, bi0, ite_not, List.replicate, Nat.reduceAdd, Nat.reduceSub, Nat.reduceLeDiff, Nat.reduceLT, if_true, if_false, mg, reduceIte, not_false_eq_true, eq_self, and_self, and_true, true_and, true_or, or_true, Nat.reduceEqDiff, ha, hi8, (bi_t (has_i hn hi)), (t_has ha hz), t_within, h10, h11, h12, h13, t_gap, t_lasting, t_wearing, ts, t2]
    rcases (show j = 10 ∨ j = 11 ∨ j = 12 ∨ j = 13 by omega) with rfl | rfl | rfl | rfl <;> simp
theorem t_put {X : aX} {S : aS} {a n i j : Nat} {v : Int32} (ha : a < 3) (hn : n ≤ 8) (hi : i < n) (hj : j < 10) (hz : S.1 a 1 = nI n) : cl X 32 [aR (1, a, 0), aI (nI i), aI (nI j), aI v] (mem S) = some (none, mem (rq S.1 a (upd (S.1 a) (14 + 10 * i + j) v), S.2)) := by
  have hi8 : i < 8 := by omega
  simp only [nl_n, nl_i, nl_r, x_ci, x_ca, x_bin, x_ife, x_ifl, x_ifg, x_cme, x_cml, x_cmg, x_go, x_no, x_b, x_ps, x_pn, cs_n, cs_i, cs_j, cs_r, en_n, en_i, en_j, en_r, xa0, xi1, x_k2_1, xi2, x_k3_s, g_1_0, l_2, l_9, l_27, g_4_0, xi3, s_3, s_5, s_8, s_11, s_12, s_21, s_22, s_23, s_24, s_25, s_26, s_28, s_29, s_30, s_31, s_32, r_i, r_j, r_v, r_z1, r_z0, r_a, e32_0, e32_1, e32_2, e32_5, e32_8, e32_9, e32_10, e32_12, e32_15, e32_18, e32_19, e32_22, e32_23, e32_24, e32_27, e32_28, e32_29, e32_30, c32, i10, i00, n2, n10, n20, n60, n8, n9, bi0, ite_not, List.replicate, Nat.reduceAdd, Nat.reduceSub, Nat.reduceLeDiff, Nat.reduceLT, if_true, if_false, mg, reduceIte, not_false_eq_true, eq_self, and_self, and_true, true_and, true_or, or_true, Nat.reduceEqDiff, ha, hi8, hj, (bi_t (has_i hn hi)), (bi_t (wi_i (Nat.zero_le j) (show j ≤ 9 by omega) (by decide))), (t_has ha hz), t_within, uq_rq]
theorem t_beginS {X : aX} {S : aS} {a n i : Nat} (ha : a < 3) (hn : n ≤ 8) (hi : i < n) (hz : S.1 a 1 = nI n) : cl X 33 [aR (1, a, 0), aI (nI i)] (mem S) = some (none, mem (rq S.1 a (begF (S.1 a) i), S.2)) := by
  have hi8 : i < 8 := by omega
  simp only [nl_n, nl_i, nl_r, x_ci, x_ca, x_bin, x_ife, x_ifl, x_ifg, x_cme, x_cml, x_cmg, x_go, x_no, x_b, x_ps, x_pn, cs_n, cs_i, cs_j, cs_r, en_n, en_i, en_j, en_r, xa0, xi1, x_k2_1, g_1_0, l_2, l_9, l_27, x_k1_4, r_i, r_j, r_v, r_z1, r_z0, r_a, e33_0, e33_1, e33_2, e33_5, e33_8, e33_9, e33_12, e33_13, e33_14, e33_17, c33, i10, i00, n2, n10, n20, n60, n8, n9, bi0, ite_not, List.replicate, Nat.reduceAdd, Nat.reduceSub, Nat.reduceLeDiff, Nat.reduceLT, if_true, if_false, mg, reduceIte, not_false_eq_true, eq_self, and_self, and_true, true_and, true_or, or_true, Nat.reduceEqDiff, ha, hi8, (bi_t (has_i hn hi)), (t_has ha hz), t_begin1]
theorem t_hasDays {X : aX} {S : aS} {a : Nat} {v : Int32} (ha : a < 3) : cl X 44 [aR (1, a, 0), aI v] (mem S) = some (some (aI (bi (¬ nI 99999 - v < S.1 a 0))), mem S) := by
  simp only [nl_n, nl_i, nl_r, x_ci, x_ca, x_bin, x_ife, x_ifl, x_ifg, x_cme, x_cml, x_cmg, x_go, x_no, x_b, x_ps, x_pn, cs_n, cs_i, cs_j, cs_r, en_n, en_i, en_j, en_r, xa0, g_1_3, xi1, r_i, r_j, r_v, r_z1, r_z0, r_a, e44_0, e44_1, e44_4, e44_6, e44_7, e44_8, e44_11, e44_12, e44_15, e44_16, c44, i10, i00, n2, n10, n20, n60, n8, n9, bi0, ite_not, List.replicate, Nat.reduceAdd, Nat.reduceSub, Nat.reduceLeDiff, Nat.reduceLT, if_true, if_false, mg, reduceIte, not_false_eq_true, eq_self, and_self, and_true, true_and, true_or, or_true, Nat.reduceEqDiff, ha]
  unfold bi
  (repeat' split) <;> simp_all
theorem t_todayS {X : aX} {S : aS} {a : Nat} (ha : a < 3) : cl X 43 [aR (1, a, 0)] (mem S) = some (some (aI (td (S.1 a))), mem S) := by
  simp only [nl_n, nl_i, nl_r, x_ci, x_ca, x_bin, x_ife, x_ifl, x_ifg, x_cme, x_cml, x_cmg, x_go, x_no, x_b, x_ps, x_pn, cs_n, cs_i, cs_j, cs_r, en_n, en_i, en_j, en_r, xa0, g_1_3, x_div, r_i, r_j, r_v, r_z1, r_z0, r_a, e43_0, e43_1, e43_4, e43_6, e43_7, c43, i10, i00, n2, n10, n20, n60, n8, n9, bi0, ite_not, List.replicate, Nat.reduceAdd, Nat.reduceSub, Nat.reduceLeDiff, Nat.reduceLT, if_true, if_false, mg, reduceIte, not_false_eq_true, eq_self, and_self, and_true, true_and, true_or, or_true, Nat.reduceEqDiff, ha]
def kiF (z : Int32) (i : Nat) (r : Nat → Int32) : Nat → Int32 := if ((z >>> (nI i &&& 31)) &&& nI 1) = 0 then r else upd r (14 + 10 * i + 6) (nI 1)
theorem kiF_1 (z : Int32) (i : Nat) (r : Nat → Int32) : kiF z i r 1 = r 1 := by
  unfold kiF
  split
  · rfl
  · exact u_1 ..
theorem l_kill {X : aX} {q : Nat → Nat → Int32} {D : aD} {a n : Nat} {z : Int32} (ha : a < 3) (hn : n ≤ 8) : ∀ k i r, i + k = n → r 1 = nI n → go X 34 2 [some (aR (1, a, 0)), some (aI z), some (aI (nI i))] [] (mem (rq q a r, D)) = some (none, mem (rq q a (lp (kiF z) k i r), D)) := by
  intro k
  induction k with
  | zero =>
    intro i r h hr
    rw [e34_2]
    simp only [nl_n, nl_i, nl_r, x_ci, x_ca, x_bin, x_ife, x_ifl, x_ifg, x_cme, x_cml, x_cmg, x_go, x_no, x_b, x_ps, x_pn, cs_n, cs_i, cs_j, cs_r, en_n, en_i, en_j, en_r, xs2n, xs2i, xs2r, xi2, xa0, g_1_2, xi1, g_1_0, l_2, l_9, l_27, g_4_0, s_3, s_5, s_8, s_11, s_12, s_21, s_22, s_23, s_24, s_25, s_26, s_28, s_29, s_30, s_31, s_32, xn2n, xn2i, xn2r, r_i, r_j, r_v, r_z1, r_z0, r_a, e34_0, e34_1, e34_3, e34_4, e34_7, e34_10, e34_11, e34_12, e34_13, e34_14, e34_15, e34_18, e34_19, e34_22, e34_23, e34_24, e34_27, e34_29, e34_30, e34_31, e34_34, e34_37, c34, i10, i00, n2, n10, n20, n60, n8, n9, bi0, ite_not, List.replicate, Nat.reduceAdd, Nat.reduceSub, Nat.reduceLeDiff, Nat.reduceLT, if_true, if_false, mg, reduceIte, not_false_eq_true, eq_self, and_self, and_true, true_and, true_or, or_true, Nat.reduceEqDiff, ha, rq_at, hr, (nI_nlt (show n ≤ i by omega) (by omega))]
    rfl
  | succ k ih =>
    intro i r h hr
    have hi : i < 8 := by omega
    rw [e34_2, lp_s, ← ih (i + 1) _ (by omega) ((kiF_1 ..).trans hr)]
    unfold kiF
    simp only [nl_n, nl_i, nl_r, x_ci, x_ca, x_bin, x_ife, x_ifl, x_ifg, x_cme, x_cml, x_cmg, x_go, x_no, x_b, x_ps, x_pn, cs_n, cs_i, cs_j, cs_r, en_n, en_i, en_j, en_r, xs2n, xs2i, xs2r, xi2, xa0, g_1_2, xi1, g_1_0, l_2, l_9, l_27, g_4_0, s_3, s_5, s_8, s_11, s_12, s_21, s_22, s_23, s_24, s_25, s_26, s_28, s_29, s_30, s_31, s_32, xn2n, xn2i, xn2r, r_i, r_j, r_v, r_z1, r_z0, r_a, e34_0, e34_1, e34_3, e34_4, e34_7, e34_10, e34_11, e34_12, e34_13, e34_14, e34_15, e34_18, e34_19, e34_22, e34_23, e34_24, e34_27, e34_29, e34_30, e34_31, e34_34, e34_37, c34, i10, i00, n2, n10, n20, n60, n8, n9, bi0, ite_not, List.replicate, Nat.reduceAdd, Nat.reduceSub, Nat.reduceLeDiff, Nat.reduceLT, if_true, if_false, mg, reduceIte, not_false_eq_true, eq_self, and_self, and_true, true_and, true_or, or_true, Nat.reduceEqDiff, ha, hi, rq_at, hr, (nI_lt (show i < n by omega) (by omega)), nI_add, uq_rq, rq_rq]
    split <;> rfl
theorem t_kill {X : aX} {q : Nat → Nat → Int32} {D : aD} {r : Nat → Int32} {a n : Nat} {z : Int32} (ha : a < 3) (hn : n ≤ 8) (hr : r 1 = nI n) : cl X 34 [aR (1, a, 0), aI z] (mem (rq q a r, D)) = some (none, mem (rq q a (lp (kiF z) n 0 r), D)) := by
  simp only [nl_n, nl_i, nl_r, x_ci, x_ca, x_bin, x_ife, x_ifl, x_ifg, x_cme, x_cml, x_cmg, x_go, x_no, x_b, x_ps, x_pn, cs_n, cs_i, cs_j, cs_r, en_n, en_i, en_j, en_r, xs2n, xs2i, xs2r, xi2, xa0, g_1_2, xi1, g_1_0, l_2, l_9, l_27, g_4_0, s_3, s_5, s_8, s_11, s_12, s_21, s_22, s_23, s_24, s_25, s_26, s_28, s_29, s_30, s_31, s_32, xn2n, xn2i, xn2r, r_i, r_j, r_v, r_z1, r_z0, r_a, e34_0, e34_1, e34_3, e34_4, e34_7, e34_10, e34_11, e34_12, e34_13, e34_14, e34_15, e34_18, e34_19, e34_22, e34_23, e34_24, e34_27, e34_29, e34_30, e34_31, e34_34, e34_37, c34, i10, i00, n2, n10, n20, n60, n8, n9, bi0, ite_not, List.replicate, Nat.reduceAdd, Nat.reduceSub, Nat.reduceLeDiff, Nat.reduceLT, if_true, if_false, mg, reduceIte, not_false_eq_true, eq_self, and_self, and_true, true_and, true_or, or_true, Nat.reduceEqDiff, ha]
  exact l_kill ha hn n 0 r (by omega) hr
abbrev waP (r : Nat → Int32) (i : Nat) : Prop := 0 < r (14 + 10 * i + 8) ∧ r (14 + 10 * i + 6) = 0
theorem l_waiting {X : aX} {S : aS} {a n : Nat} (ha : a < 3) (hn : n ≤ 8) (hz : S.1 a 1 = nI n) : ∀ k i x, i + k = n → go X 36 4 [some (aR (1, a, 0)), some (aI x), some (aI (nI i))] [] (mem S) = some (some (aI (lp (fun i x => if waP (S.1 a) i then x ||| bit1 i else x) k i x)), mem S) := by
  intro k
  induction k with
  | zero =>
    intro i x h
    rw [e36_4]
    simp only [nl_n, nl_i, nl_r, x_ci, x_ca, x_bin, x_ife, x_ifl, x_ifg, x_cme, x_cml, x_cmg, x_go, x_no, x_b, x_ps, x_pn, cs_n, cs_i, cs_j, cs_r, en_n, en_i, en_j, en_r, xs1n, xs1i, xs1r, xs2n, xs2i, xs2r, xi2, xa0, g_1_2, g_1_0, l_2, l_9, l_27, g_4_0, l_3, l_5, l_8, l_11, l_12, l_21, l_22, l_23, l_24, l_25, l_26, l_28, l_29, l_30, l_31, l_32, xi1, xn2n, xn2i, xn2r, r_i, r_j, r_v, r_z1, r_z0, r_a, e36_0, e36_1, e36_2, e36_3, e36_5, e36_6, e36_9, e36_12, e36_13, e36_16, e36_17, e36_18, e36_21, e36_23, e36_24, e36_27, e36_28, e36_31, e36_32, e36_33, e36_36, e36_38, e36_39, e36_42, e36_43, e36_44, e36_45, e36_46, e36_47, e36_48, e36_51, e36_54, e36_55, c36, i10, i00, n2, n10, n20, n60, n8, n9, bi0, ite_not, List.replicate, Nat.reduceAdd, Nat.reduceSub, Nat.reduceLeDiff, Nat.reduceLT, if_true, if_false, mg, reduceIte, not_false_eq_true, eq_self, and_self, and_true, true_and, true_or, or_true, Nat.reduceEqDiff, ha, hz, (nI_nlt (show n ≤ i by omega) (by omega))]
    rfl
  | succ k ih =>
    intro i x h
    have ih' := fun y => ih (i + 1) y (by omega)
    have hi : i < 8 := by omega
    rw [e36_4]
    simp only [nl_n, nl_i, nl_r, x_ci, x_ca, x_bin, x_ife, x_ifl, x_ifg, x_cme, x_cml, x_cmg, x_go, x_no, x_b, x_ps, x_pn, cs_n, cs_i, cs_j, cs_r, en_n, en_i, en_j, en_r, xs1n, xs1i, xs1r, xs2n, xs2i, xs2r, xi2, xa0, g_1_2, g_1_0, l_2, l_9, l_27, g_4_0, l_3, l_5, l_8, l_11, l_12, l_21, l_22, l_23, l_24, l_25, l_26, l_28, l_29, l_30, l_31, l_32, xi1, xn2n, xn2i, xn2r, r_i, r_j, r_v, r_z1, r_z0, r_a, e36_0, e36_1, e36_2, e36_3, e36_5, e36_6, e36_9, e36_12, e36_13, e36_16, e36_17, e36_18, e36_21, e36_23, e36_24, e36_27, e36_28, e36_31, e36_32, e36_33, e36_36, e36_38, e36_39, e36_42, e36_43, e36_44, e36_45, e36_46, e36_47, e36_48, e36_51, e36_54, e36_55, c36, i10, i00, n2, n10, n20, n60, n8, n9, bi0, ite_not, List.replicate, Nat.reduceAdd, Nat.reduceSub, Nat.reduceLeDiff, Nat.reduceLT, if_true, if_false, mg, reduceIte, not_false_eq_true, eq_self, and_self, and_true, true_and, true_or, or_true, Nat.reduceEqDiff, ha, hi, hz, (nI_lt (show i < n by omega) (by omega)), nI_add, ih', lp_s]
    by_cases c1 : 0 < S.1 a (14 + 10 * i + 8)
    · by_cases c2 : S.1 a (14 + 10 * i + 6) = 0
      · rw [if_pos (show waP (S.1 a) i from ⟨c1, c2⟩)]
        simp only [c1, c2, if_true]
      · rw [if_neg (show ¬ waP (S.1 a) i from fun w => c2 w.2)]
        simp only [c1, c2, if_true, if_false]
    · rw [if_neg (show ¬ waP (S.1 a) i from fun w => c1 w.1)]
      simp only [c1, if_false]
theorem t_waiting {X : aX} {S : aS} {a n : Nat} (ha : a < 3) (hn : n ≤ 8) (hz : S.1 a 1 = nI n) : cl X 36 [aR (1, a, 0)] (mem S) = some (some (aI (setF (waP (S.1 a)) n)), mem S) := by
  simp only [nl_n, nl_i, nl_r, x_ci, x_ca, x_bin, x_ife, x_ifl, x_ifg, x_cme, x_cml, x_cmg, x_go, x_no, x_b, x_ps, x_pn, cs_n, cs_i, cs_j, cs_r, en_n, en_i, en_j, en_r, xs1n, xs1i, xs1r, xs2n, xs2i, xs2r, xi2, xa0, g_1_2, g_1_0, l_2, l_9, l_27, g_4_0, l_3, l_5, l_8, l_11, l_12, l_21, l_22, l_23, l_24, l_25, l_26, l_28, l_29, l_30, l_31, l_32, xi1, xn2n, xn2i, xn2r, r_i, r_j, r_v, r_z1, r_z0, r_a, e36_0, e36_1, e36_2, e36_3, e36_5, e36_6, e36_9, e36_12, e36_13, e36_16, e36_17, e36_18, e36_21, e36_23, e36_24, e36_27, e36_28, e36_31, e36_32, e36_33, e36_36, e36_38, e36_39, e36_42, e36_43, e36_44, e36_45, e36_46, e36_47, e36_48, e36_51, e36_54, e36_55, c36, i10, i00, n2, n10, n20, n60, n8, n9, bi0, ite_not, List.replicate, Nat.reduceAdd, Nat.reduceSub, Nat.reduceLeDiff, Nat.reduceLT, if_true, if_false, mg, reduceIte, not_false_eq_true, eq_self, and_self, and_true, true_and, true_or, or_true, Nat.reduceEqDiff]
  exact l_waiting ha hn hz n 0 (nI 0) (by omega)
theorem l_having {X : aX} {S : aS} {a n j : Nat} {v : Int32} (ha : a < 3) (hn : n ≤ 8) (hj : j ≤ 13) (hz : S.1 a 1 = nI n) : ∀ k i x, i + k = n → go X 39 5 [some (aR (1, a, 0)), some (aI (nI j)), some (aI v), some (aI x), some (aI (nI i))] [] (mem S) = some (some (aI (lp (fun i x => if lkF n (S.1 a) i j = v then x ||| bit1 i else x) k i x)), mem S) := by
  intro k
  induction k with
  | zero =>
    intro i x h
    rw [e39_5]
    simp only [nl_n, nl_i, nl_r, x_ci, x_ca, x_bin, x_ife, x_ifl, x_ifg, x_cme, x_cml, x_cmg, x_go, x_no, x_b, x_ps, x_pn, cs_n, cs_i, cs_j, cs_r, en_n, en_i, en_j, en_r, xs3n, xs3i, xs3r, xs4n, xs4i, xs4r, xi4, xa0, g_1_2, xi1, x_k3_1, xi2, xi3, xn4n, xn4i, xn4r, r_i, r_j, r_v, r_z1, r_z0, r_a, e39_0, e39_1, e39_2, e39_3, e39_7, e39_8, e39_11, e39_14, e39_15, e39_17, e39_18, e39_21, e39_22, e39_25, e39_26, e39_27, e39_29, e39_30, e39_31, e39_32, e39_35, e39_38, e39_39, c39, i10, i00, n2, n10, n20, n60, n8, n9, bi0, ite_not, List.replicate, Nat.reduceAdd, Nat.reduceSub, Nat.reduceLeDiff, Nat.reduceLT, if_true, if_false, mg, reduceIte, not_false_eq_true, eq_self, and_self, and_true, true_and, true_or, or_true, Nat.reduceEqDiff, ha, hz, (nI_nlt (show n ≤ i by omega) (by omega))]
    rfl
  | succ k ih =>
    intro i x h
    have ih' := fun y => ih (i + 1) y (by omega)
    have hi : i < 8 := by omega
    rw [e39_5]
    simp only [nl_n, nl_i, nl_r, x_ci, x_ca, x_bin, x_ife, x_ifl, x_ifg, x_cme, x_cml, x_cmg, x_go, x_no, x_b, x_ps, x_pn, cs_n, cs_i, cs_j, cs_r, en_n, en_i, en_j, en_r, xs3n, xs3i, xs3r, xs4n, xs4i, xs4r, xi4, xa0, g_1_2, xi1, x_k3_1, xi2, xi3, xn4n, xn4i, xn4r, r_i, r_j, r_v, r_z1, r_z0, r_a, e39_0, e39_1, e39_2, e39_3, e39_7, e39_8, e39_11, e39_14, e39_15, e39_17, e39_18, e39_21, e39_22, e39_25, e39_26, e39_27, e39_29, e39_30, e39_31, e39_32, e39_35, e39_38, e39_39, c39, i10, i00, n2, n10, n20, n60, n8, n9, bi0, ite_not, List.replicate, Nat.reduceAdd, Nat.reduceSub, Nat.reduceLeDiff, Nat.reduceLT, if_true, if_false, mg, reduceIte, not_false_eq_true, eq_self, and_self, and_true, true_and, true_or, or_true, Nat.reduceEqDiff, ha, hi, hz, (nI_lt (show i < n by omega) (by omega)), (t_look (X := X) ha hn (show i < n by omega) hj hz), nI_add, ih', lp_s]
    split <;> rfl
theorem t_having {X : aX} {S : aS} {a n j : Nat} {v : Int32} (ha : a < 3) (hn : n ≤ 8) (hj : j ≤ 13) (hz : S.1 a 1 = nI n) : cl X 39 [aR (1, a, 0), aI (nI j), aI v] (mem S) = some (some (aI (setF (fun i => lkF n (S.1 a) i j = v) n)), mem S) := by
  simp only [nl_n, nl_i, nl_r, x_ci, x_ca, x_bin, x_ife, x_ifl, x_ifg, x_cme, x_cml, x_cmg, x_go, x_no, x_b, x_ps, x_pn, cs_n, cs_i, cs_j, cs_r, en_n, en_i, en_j, en_r, xs3n, xs3i, xs3r, xs4n, xs4i, xs4r, xi4, xa0, g_1_2, xi1, x_k3_1, xi2, xi3, xn4n, xn4i, xn4r, r_i, r_j, r_v, r_z1, r_z0, r_a, e39_0, e39_1, e39_2, e39_3, e39_7, e39_8, e39_11, e39_14, e39_15, e39_17, e39_18, e39_21, e39_22, e39_25, e39_26, e39_27, e39_29, e39_30, e39_31, e39_32, e39_35, e39_38, e39_39, c39, i10, i00, n2, n10, n20, n60, n8, n9, bi0, ite_not, List.replicate, Nat.reduceAdd, Nat.reduceSub, Nat.reduceLeDiff, Nat.reduceLT, if_true, if_false, mg, reduceIte, not_false_eq_true, eq_self, and_self, and_true, true_and, true_or, or_true, Nat.reduceEqDiff]
  exact l_having ha hn hj hz n 0 (nI 0) (by omega)
theorem t_gone {X : aX} {S : aS} {a n : Nat} (ha : a < 3) (hn : n ≤ 8) (hz : S.1 a 1 = nI n) : cl X 37 [aR (1, a, 0)] (mem S) = some (some (aI (setF (fun i => S.1 a (14 + 10 * i + 6) = nI 1) n)), mem S) := by
  have t := t_having (X := X) (v := nI 1) ha hn (show 6 ≤ 13 by decide) hz
  simp only [nl_n, nl_i, nl_r, x_ci, x_ca, x_bin, x_ife, x_ifl, x_ifg, x_cme, x_cml, x_cmg, x_go, x_no, x_b, x_ps, x_pn, cs_n, cs_i, cs_j, cs_r, en_n, en_i, en_j, en_r, xa0, x_k3_1, r_i, r_j, r_v, r_z1, r_z0, r_a, e37_0, e37_1, e37_3, e37_4, e37_7, c37, i10, i00, n2, n10, n20, n60, n8, n9, bi0, ite_not, List.replicate, Nat.reduceAdd, Nat.reduceSub, Nat.reduceLeDiff, Nat.reduceLT, if_true, if_false, mg, reduceIte, not_false_eq_true, eq_self, and_self, and_true, true_and, true_or, or_true, Nat.reduceEqDiff, ha, t]
  rfl
theorem t_answering {X : aX} {S : aS} {a n : Nat} {v : Int32} (ha : a < 3) (hn : n ≤ 8) (hz : S.1 a 1 = nI n) : cl X 38 [aR (1, a, 0), aI v] (mem S) = some (some (aI (setF (fun i => S.1 a (14 + 10 * i + 2) = v) n)), mem S) := by
  have t := t_having (X := X) (v := v) ha hn (show 2 ≤ 13 by decide) hz
  simp only [nl_n, nl_i, nl_r, x_ci, x_ca, x_bin, x_ife, x_ifl, x_ifg, x_cme, x_cml, x_cmg, x_go, x_no, x_b, x_ps, x_pn, cs_n, cs_i, cs_j, cs_r, en_n, en_i, en_j, en_r, xa0, xi1, x_k3_1, r_i, r_j, r_v, r_z1, r_z0, r_a, e38_0, e38_1, e38_2, e38_3, e38_6, c38, i10, i00, n2, n10, n20, n60, n8, n9, bi0, ite_not, List.replicate, Nat.reduceAdd, Nat.reduceSub, Nat.reduceLeDiff, Nat.reduceLT, if_true, if_false, mg, reduceIte, not_false_eq_true, eq_self, and_self, and_true, true_and, true_or, or_true, Nat.reduceEqDiff, ha, t]
  rfl
/-- a sum over all of them -/
def sumF (f : Nat → Int32) (n : Nat) : Int32 := lp (fun i x => x + f i) n 0 (nI 0)
theorem l_total {X : aX} {S : aS} {a n j : Nat} (ha : a < 3) (hn : n ≤ 8) (hj : j ≤ 13) (hz : S.1 a 1 = nI n) : ∀ k i x, i + k = n → go X 40 4 [some (aR (1, a, 0)), some (aI (nI j)), some (aI x), some (aI (nI i))] [] (mem S) = some (some (aI (lp (fun i x => x + lkF n (S.1 a) i j) k i x)), mem S) := by
  intro k
  induction k with
  | zero =>
    intro i x h
    rw [e40_4]
    simp only [nl_n, nl_i, nl_r, x_ci, x_ca, x_bin, x_ife, x_ifl, x_ifg, x_cme, x_cml, x_cmg, x_go, x_no, x_b, x_ps, x_pn, cs_n, cs_i, cs_j, cs_r, en_n, en_i, en_j, en_r, xs2n, xs2i, xs2r, xs3n, xs3i, xs3r, xi3, xa0, g_1_2, xi2, xi1, x_k3_1, xn3n, xn3i, xn3r, r_i, r_j, r_v, r_z1, r_z0, r_a, e40_0, e40_1, e40_2, e40_3, e40_5, e40_6, e40_9, e40_12, e40_13, e40_14, e40_15, e40_16, e40_19, e40_20, e40_21, e40_24, e40_27, e40_28, c40, i10, i00, n2, n10, n20, n60, n8, n9, bi0, ite_not, List.replicate, Nat.reduceAdd, Nat.reduceSub, Nat.reduceLeDiff, Nat.reduceLT, if_true, if_false, mg, reduceIte, not_false_eq_true, eq_self, and_self, and_true, true_and, true_or, or_true, Nat.reduceEqDiff, ha, hz, (nI_nlt (show n ≤ i by omega) (by omega))]
    rfl
  | succ k ih =>
    intro i x h
    have ih' := fun y => ih (i + 1) y (by omega)
    have hi : i < 8 := by omega
    rw [e40_4]
    simp only [nl_n, nl_i, nl_r, x_ci, x_ca, x_bin, x_ife, x_ifl, x_ifg, x_cme, x_cml, x_cmg, x_go, x_no, x_b, x_ps, x_pn, cs_n, cs_i, cs_j, cs_r, en_n, en_i, en_j, en_r, xs2n, xs2i, xs2r, xs3n, xs3i, xs3r, xi3, xa0, g_1_2, xi2, xi1, x_k3_1, xn3n, xn3i, xn3r, r_i, r_j, r_v, r_z1, r_z0, r_a, e40_0, e40_1, e40_2, e40_3, e40_5, e40_6, e40_9, e40_12, e40_13, e40_14, e40_15, e40_16, e40_19, e40_20, e40_21, e40_24, e40_27, e40_28, c40, i10, i00, n2, n10, n20, n60, n8, n9, bi0, ite_not, List.replicate, Nat.reduceAdd, Nat.reduceSub, Nat.reduceLeDiff, Nat.reduceLT, if_true, if_false, mg, reduceIte, not_false_eq_true, eq_self, and_self, and_true, true_and, true_or, or_true, Nat.reduceEqDiff, ha, hi, hz, (nI_lt (show i < n by omega) (by omega)), (t_look (X := X) ha hn (show i < n by omega) hj hz), nI_add, ih', lp_s]
theorem t_total {X : aX} {S : aS} {a n j : Nat} (ha : a < 3) (hn : n ≤ 8) (hj : j < 10) (hz : S.1 a 1 = nI n) : cl X 40 [aR (1, a, 0), aI (nI j)] (mem S) = some (some (aI (sumF (fun i => S.1 a (14 + 10 * i + j)) n)), mem S) := by
  have e : (fun i => lkF n (S.1 a) i j) = (fun i => S.1 a (14 + 10 * i + j)) := by
    funext i
    unfold lkF
    rw [if_neg (by omega), if_neg (by omega), if_neg (by omega), if_neg (by omega)]
  rw [← e]
  simp only [nl_n, nl_i, nl_r, x_ci, x_ca, x_bin, x_ife, x_ifl, x_ifg, x_cme, x_cml, x_cmg, x_go, x_no, x_b, x_ps, x_pn, cs_n, cs_i, cs_j, cs_r, en_n, en_i, en_j, en_r, xs2n, xs2i, xs2r, xs3n, xs3i, xs3r, xi3, xa0, g_1_2, xi2, xi1, x_k3_1, xn3n, xn3i, xn3r, r_i, r_j, r_v, r_z1, r_z0, r_a, e40_0, e40_1, e40_2, e40_3, e40_5, e40_6, e40_9, e40_12, e40_13, e40_14, e40_15, e40_16, e40_19, e40_20, e40_21, e40_24, e40_27, e40_28, c40, i10, i00, n2, n10, n20, n60, n8, n9, bi0, ite_not, List.replicate, Nat.reduceAdd, Nat.reduceSub, Nat.reduceLeDiff, Nat.reduceLT, if_true, if_false, mg, reduceIte, not_false_eq_true, eq_self, and_self, and_true, true_and, true_or, or_true, Nat.reduceEqDiff]
  exact l_total ha hn (by omega) hz n 0 (nI 0) (by omega)
theorem l_held {X : aX} {S : aS} {a : Nat} (ha : a < 3) : ∀ k i x, i + k = 10 → go X 41 4 [some (aR (1, a, 0)), some (aI x), some (aI (nI i))] [] (mem S) = some (some (aI (lp (fun i x => if S.1 a (4 + i) = -1 then x else x + nI 1) k i x)), mem S) := by
  intro k
  induction k with
  | zero =>
    intro i x h
    rw [e41_4]
    simp only [nl_n, nl_i, nl_r, x_ci, x_ca, x_bin, x_ife, x_ifl, x_ifg, x_cme, x_cml, x_cmg, x_go, x_no, x_b, x_ps, x_pn, cs_n, cs_i, cs_j, cs_r, en_n, en_i, en_j, en_r, xs1n, xs1i, xs1r, xs2n, xs2i, xs2r, xi2, xa0, g_1_1, l_3, l_5, l_8, l_11, l_12, l_21, l_22, l_23, l_24, l_25, l_26, l_28, l_29, l_30, l_31, l_32, xn1n, xn1i, xn1r, xn2n, xn2i, xn2r, xi1, r_i, r_j, r_v, r_z1, r_z0, r_a, e41_0, e41_1, e41_2, e41_3, e41_5, e41_7, e41_10, e41_11, e41_14, e41_15, e41_16, e41_17, e41_20, e41_23, e41_26, e41_29, e41_30, c41, i10, i00, n2, n10, n20, n60, n8, n9, bi0, ite_not, List.replicate, Nat.reduceAdd, Nat.reduceSub, Nat.reduceLeDiff, Nat.reduceLT, if_true, if_false, mg, reduceIte, not_false_eq_true, eq_self, and_self, and_true, true_and, true_or, or_true, Nat.reduceEqDiff, ha, (nI_nlt (show 10 ≤ i by omega) (by omega))]
    rfl
  | succ k ih =>
    intro i x h
    have ih' := fun y => ih (i + 1) y (by omega)
    have hi : i < 10 := by omega
    rw [e41_4]
    simp only [nl_n, nl_i, nl_r, x_ci, x_ca, x_bin, x_ife, x_ifl, x_ifg, x_cme, x_cml, x_cmg, x_go, x_no, x_b, x_ps, x_pn, cs_n, cs_i, cs_j, cs_r, en_n, en_i, en_j, en_r, xs1n, xs1i, xs1r, xs2n, xs2i, xs2r, xi2, xa0, g_1_1, l_3, l_5, l_8, l_11, l_12, l_21, l_22, l_23, l_24, l_25, l_26, l_28, l_29, l_30, l_31, l_32, xn1n, xn1i, xn1r, xn2n, xn2i, xn2r, xi1, r_i, r_j, r_v, r_z1, r_z0, r_a, e41_0, e41_1, e41_2, e41_3, e41_5, e41_7, e41_10, e41_11, e41_14, e41_15, e41_16, e41_17, e41_20, e41_23, e41_26, e41_29, e41_30, c41, i10, i00, n2, n10, n20, n60, n8, n9, bi0, ite_not, List.replicate, Nat.reduceAdd, Nat.reduceSub, Nat.reduceLeDiff, Nat.reduceLT, if_true, if_false, mg, reduceIte, not_false_eq_true, eq_self, and_self, and_true, true_and, true_or, or_true, Nat.reduceEqDiff, ha, hi, (nI_lt (show i < 10 by omega) (by omega)), nI_add, ih', lp_s]
    split <;> rfl
theorem t_held {X : aX} {S : aS} {a : Nat} (ha : a < 3) : cl X 41 [aR (1, a, 0)] (mem S) = some (some (aI (lp (fun i x => if S.1 a (4 + i) = -1 then x else x + nI 1) 10 0 (nI 0))), mem S) := by
  simp only [nl_n, nl_i, nl_r, x_ci, x_ca, x_bin, x_ife, x_ifl, x_ifg, x_cme, x_cml, x_cmg, x_go, x_no, x_b, x_ps, x_pn, cs_n, cs_i, cs_j, cs_r, en_n, en_i, en_j, en_r, xs1n, xs1i, xs1r, xs2n, xs2i, xs2r, xi2, xa0, g_1_1, l_3, l_5, l_8, l_11, l_12, l_21, l_22, l_23, l_24, l_25, l_26, l_28, l_29, l_30, l_31, l_32, xn1n, xn1i, xn1r, xn2n, xn2i, xn2r, xi1, r_i, r_j, r_v, r_z1, r_z0, r_a, e41_0, e41_1, e41_2, e41_3, e41_5, e41_7, e41_10, e41_11, e41_14, e41_15, e41_16, e41_17, e41_20, e41_23, e41_26, e41_29, e41_30, c41, i10, i00, n2, n10, n20, n60, n8, n9, bi0, ite_not, List.replicate, Nat.reduceAdd, Nat.reduceSub, Nat.reduceLeDiff, Nat.reduceLT, if_true, if_false, mg, reduceIte, not_false_eq_true, eq_self, and_self, and_true, true_and, true_or, or_true, Nat.reduceEqDiff]
  exact l_held ha 10 0 (nI 0) (by omega)
theorem t_draw {X : aX} {S : aS} {a : Nat} (ha : a < 3) : cl X 45 [aR (1, a, 0)] (mem S) = some (some (aI (((S.1 a 2 * nI 1103515245 + nI 12345).toUInt32 >>> ((nI 8).toUInt32 &&& Int32.toUInt32 31)).toInt32)), mem (rq S.1 a (upd (S.1 a) 2 (S.1 a 2 * nI 1103515245 + nI 12345)), S.2)) := by
  simp only [nl_n, nl_i, nl_r, x_ci, x_ca, x_bin, x_ife, x_ifl, x_ifg, x_cme, x_cml, x_cmg, x_go, x_no, x_b, x_ps, x_pn, cs_n, cs_i, cs_j, cs_r, en_n, en_i, en_j, en_r, xa0, g_1_5, p_1_5, r_i, r_j, r_v, r_z1, r_z0, r_a, e45_0, e45_1, e45_2, e45_5, e45_7, e45_8, e45_11, e45_12, e45_15, e45_16, e45_19, e45_21, e45_22, c45, i10, i00, n2, n10, n20, n60, n8, n9, bi0, ite_not, List.replicate, Nat.reduceAdd, Nat.reduceSub, Nat.reduceLeDiff, Nat.reduceLT, if_true, if_false, mg, reduceIte, not_false_eq_true, eq_self, and_self, and_true, true_and, true_or, or_true, Nat.reduceEqDiff, ha, uq_rq, rq_at]
  simp [upd]
