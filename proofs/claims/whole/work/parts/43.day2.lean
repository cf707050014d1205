/-! SELLING, GROWING OLDER, DAYS -/
/-- whom she answers lives -/
abbrev avP (n : Nat) (r : Nat → Int32) (i : Nat) : Prop := hsP n (r (14 + 10 * i + 2)) ∧ r (14 + 10 * (r (14 + 10 * i + 2)).toNatClampNeg + 6) = 0
def sqSell (n : Nat) (r : Nat → Int32) (i : Nat) (z : Int32) : Int32 := selF r i (avP n r i) (z &&& (bit1 i ^^^ -1) = 0)
theorem selc {X : aX} {S : aS} {a i : Nat} {P Q : Prop} [Decidable P] [Decidable Q] {x y : Int32} (ha : a < 3) (hi : i < 8) (hx : bi P = x) (hy : bi Q = y) : bnd (cl X 22 [aR (4, a, i), aI x, aI y] (mem S)) (fun v M2 => i_irt (psh v []) M2) = some (some (aI (selF (S.1 a) i P Q)), mem S) := by
  subst hx hy
  rw [t_selling1 ha hi]
  rfl
theorem t_selling {X : aX} {S : aS} {a n i : Nat} {z : Int32} (ha : a < 3) (hn : n ≤ 8) (hi : i < 8) (hz : S.1 a 1 = nI n) : cl X 51 [aR (1, a, 0), aI (nI i), aI z] (mem S) = some (some (aI (sqSell n (S.1 a) i z)), mem S) := by
  unfold sqSell
  by_cases c2 : hsP n (S.1 a (14 + 10 * i + 2))
  · obtain ⟨j, hj, ej⟩ := has_of hn c2
    have hj8 : j < 8 := by omega
    have c2' := c2
    rw [ej] at c2'
    have ea : (avP n (S.1 a) i) = (S.1 a (14 + 10 * j + 6) = 0) := by
      unfold avP
      rw [ej, nI_clamp (show j < 2 ^ 31 by omega)]
      exact propext ⟨fun h => h.2, fun h => ⟨c2', h⟩⟩
    simp only [ea]
    simp only [nl_n, nl_i, nl_r, x_ci, x_ca, x_bin, x_ife, x_ifl, x_ifg, x_cme, x_cml, x_cmg, x_go, x_no, x_b, x_ps, x_pn, cs_n, cs_i, cs_j, cs_r, en_n, en_i, en_j, en_r, xa0, g_1_0, xi1, l_2, l_9, l_27, g_4_0, l_3, l_5, l_8, l_11, l_12, l_21, l_22, l_23, l_24, l_25, l_26, l_28, l_29, l_30, l_31, l_32, xs3n, xs3i, xs3r, xi3, x_k2_1, xs4n, xs4i, xs4r, xi4, xi2, x_k3_4, r_i, r_j, r_v, r_z1, r_z0, r_a, e51_0, e51_1, e51_4, e51_5, e51_6, e51_9, e51_10, e51_11, e51_12, e51_13, e51_14, e51_17, e51_20, e51_21, e51_24, e51_25, e51_26, e51_29, e51_31, e51_32, e51_35, e51_36, e51_39, e51_40, e51_42, e51_43, e51_46, e51_47, e51_48, e51_50, e51_51, e51_52, e51_53, e51_54, e51_55, e51_56, e51_57, e51_60, e51_61, e51_64, e51_65, e51_68, c51, i10, i00, n2, n10, n20, n60, n8, n9, bi0, ite_not, List.replicate, Nat.reduceAdd, Nat.reduceSub, Nat.reduceLeDiff, Nat.reduceLT, if_true, if_false, mg, reduceIte, not_false_eq_true, eq_self, and_self, and_true, true_and, true_or, or_true, Nat.reduceEqDiff, ha, hi, ej, (bi_t c2'), hj8, (t_has (x := nI j) ha hz)]
    by_cases cP : S.1 a (14 + 10 * j + 6) = 0
    · rw [if_pos cP]
      split
      · rename_i cQ
        exact selc ha hi (bi_t cP) (bi_t cQ)
      · rename_i cQ
        exact selc ha hi (bi_t cP) (bi_f cQ)
    · rw [if_neg cP]
      split
      · rename_i cQ
        exact selc ha hi (bi_f cP) (bi_t cQ)
      · rename_i cQ
        exact selc ha hi (bi_f cP) (bi_f cQ)
  · simp only [nl_n, nl_i, nl_r, x_ci, x_ca, x_bin, x_ife, x_ifl, x_ifg, x_cme, x_cml, x_cmg, x_go, x_no, x_b, x_ps, x_pn, cs_n, cs_i, cs_j, cs_r, en_n, en_i, en_j, en_r, xa0, g_1_0, xi1, l_2, l_9, l_27, g_4_0, l_3, l_5, l_8, l_11, l_12, l_21, l_22, l_23, l_24, l_25, l_26, l_28, l_29, l_30, l_31, l_32, xs3n, xs3i, xs3r, xi3, x_k2_1, xs4n, xs4i, xs4r, xi4, xi2, x_k3_4, r_i, r_j, r_v, r_z1, r_z0, r_a, e51_0, e51_1, e51_4, e51_5, e51_6, e51_9, e51_10, e51_11, e51_12, e51_13, e51_14, e51_17, e51_20, e51_21, e51_24, e51_25, e51_26, e51_29, e51_31, e51_32, e51_35, e51_36, e51_39, e51_40, e51_42, e51_43, e51_46, e51_47, e51_48, e51_50, e51_51, e51_52, e51_53, e51_54, e51_55, e51_56, e51_57, e51_60, e51_61, e51_64, e51_65, e51_68, c51, i10, i00, n2, n10, n20, n60, n8, n9, bi0, ite_not, List.replicate, Nat.reduceAdd, Nat.reduceSub, Nat.reduceLeDiff, Nat.reduceLT, if_true, if_false, mg, reduceIte, not_false_eq_true, eq_self, and_self, and_true, true_and, true_or, or_true, Nat.reduceEqDiff, ha, hi, (bi_f c2), (t_has ha hz)]
    split
    · rename_i cQ
      exact selc ha hi (bi_f (fun w => c2 w.1)) (bi_t cQ)
    · rename_i cQ
      exact selc ha hi (bi_f (fun w => c2 w.1)) (bi_f cQ)
def slF (n : Nat) (z : Int32) (i : Nat) (r : Nat → Int32) : Nat → Int32 :=
  if ((z >>> (nI i &&& 31)) &&& nI 1) = 0 then r else upd r (14 + 10 * i + 9) (mn (r (14 + 10 * i + 9) + sqSell n r i z) (nI 9999))
theorem slF_1 (n : Nat) (z : Int32) (i : Nat) (r : Nat → Int32) : slF n z i r 1 = r 1 := by
  unfold slF
  split
  · rfl
  · exact u_1 ..
/-- and the days on which none sang -/
def stF (z : Int32) (r : Nat → Int32) : Nat → Int32 := upd r 3 (if z = 0 then mn (r 3 + nI 1) (nI 99999) else nI 0)
theorem l_sell {X : aX} {q : Nat → Nat → Int32} {D : aD} {a n : Nat} {z : Int32} (ha : a < 3) (hn : n ≤ 8) : ∀ k i r b, i + k = n → r 1 = nI n → nl b = true → go X 50 7 [some (aR (1, a, 0)), some (aI z), some (aI (nI i)), b] [] (mem (rq q a r, D)) = some (none, mem (rq q a (stF z (lp (slF n z) k i r)), D)) := by
  intro k
  induction k with
  | zero =>
    intro i r b h hr hb
    rw [e50_7]
    simp only [nl_n, nl_i, nl_r, x_ci, x_ca, x_bin, x_ife, x_ifl, x_ifg, x_cme, x_cml, x_cmg, x_go, x_no, x_b, x_ps, x_pn, cs_n, cs_i, cs_j, cs_r, en_n, en_i, en_j, en_r, xa0, x_k1_1, xs1n, xs1i, xs1r, xs2n, xs2i, xs2r, xi2, g_1_2, xi1, g_1_0, l_2, l_9, l_27, g_4_0, l_3, l_5, l_8, l_11, l_12, l_21, l_22, l_23, l_24, l_25, l_26, l_28, l_29, l_30, l_31, l_32, x_k3_1, xs3n, xs3i, xs3r, xi3, x_min, s_3, s_5, s_8, s_11, s_12, s_21, s_22, s_23, s_24, s_25, s_26, s_28, s_29, s_30, s_31, s_32, xn2n, xn2i, xn2r, g_1_4, p_1_4, r_i, r_j, r_v, r_z1, r_z0, r_a, e50_0, e50_1, e50_4, e50_5, e50_6, e50_8, e50_9, e50_12, e50_15, e50_16, e50_17, e50_18, e50_19, e50_20, e50_23, e50_24, e50_27, e50_28, e50_29, e50_32, e50_34, e50_35, e50_36, e50_37, e50_38, e50_41, e50_42, e50_43, e50_44, e50_47, e50_48, e50_49, e50_52, e50_54, e50_55, e50_58, e50_61, e50_62, e50_65, e50_68, e50_69, e50_70, e50_73, e50_74, e50_77, e50_78, e50_81, e50_82, e50_83, e50_85, e50_88, e50_91, c50, i10, i00, n2, n10, n20, n60, n8, n9, bi0, ite_not, List.replicate, Nat.reduceAdd, Nat.reduceSub, Nat.reduceLeDiff, Nat.reduceLT, if_true, if_false, mg, reduceIte, not_false_eq_true, eq_self, and_self, and_true, true_and, true_or, or_true, Nat.reduceEqDiff, ha, rq_at, hr, (nI_nlt (show n ≤ i by omega) (by omega)), uq_rq, rq_rq]
    unfold stF
    rw [lp_0]
    split <;> rfl
  | succ k ih =>
    intro i r b h hr hb
    have hi : i < 8 := by omega
    have ts : ∀ y, cl X 51 [aR (1, a, 0), aI (nI i), aI y] (mem (rq q a r, D)) = some (some (aI (sqSell n r i y)), mem (rq q a r, D)) := by
      intro y
      rw [t_selling ha hn hi (at_r hr)]
      rw [show (rq q a r, D).1 a = r from rq_at ..]
    rw [e50_7, lp_s]
    by_cases c : ((z >>> (nI i &&& 31)) &&& nI 1) = 0
    · rw [show slF n z i r = r from if_pos c, ← ih (i + 1) r b (by omega) hr hb]
      simp only [nl_n, nl_i, nl_r, x_ci, x_ca, x_bin, x_ife, x_ifl, x_ifg, x_cme, x_cml, x_cmg, x_go, x_no, x_b, x_ps, x_pn, cs_n, cs_i, cs_j, cs_r, en_n, en_i, en_j, en_r, xa0, x_k1_1, xs1n, xs1i, xs1r, xs2n, xs2i, xs2r, xi2, g_1_2, xi1, g_1_0, l_2, l_9, l_27, g_4_0, l_3, l_5, l_8, l_11, l_12, l_21, l_22, l_23, l_24, l_25, l_26, l_28, l_29, l_30, l_31, l_32, x_k3_1, xs3n, xs3i, xs3r, xi3, x_min, s_3, s_5, s_8, s_11, s_12, s_21, s_22, s_23, s_24, s_25, s_26, s_28, s_29, s_30, s_31, s_32, xn2n, xn2i, xn2r, g_1_4, p_1_4, r_i, r_j, r_v, r_z1, r_z0, r_a, e50_0, e50_1, e50_4, e50_5, e50_6, e50_8, e50_9, e50_12, e50_15, e50_16, e50_17, e50_18, e50_19, e50_20, e50_23, e50_24, e50_27, e50_28, e50_29, e50_32, e50_34, e50_35, e50_36, e50_37, e50_38, e50_41, e50_42, e50_43, e50_44, e50_47, e50_48, e50_49, e50_52, e50_54, e50_55, e50_58, e50_61, e50_62, e50_65, e50_68, e50_69, e50_70, e50_73, e50_74, e50_77, e50_78, e50_81, e50_82, e50_83, e50_85, e50_88, e50_91, c50, i10, i00, n2, n10, n20, n60, n8, n9, bi0, ite_not, List.replicate, Nat.reduceAdd, Nat.reduceSub, Nat.reduceLeDiff, Nat.reduceLT, if_true, if_false, mg, reduceIte, not_false_eq_true, eq_self, and_self, and_true, true_and, true_or, or_true, Nat.reduceEqDiff, ha, hi, c, rq_at, hr, (nI_lt (show i < n by omega) (by omega)), nI_add]
    · rw [show slF n z i r = upd r (14 + 10 * i + 9) (mn (r (14 + 10 * i + 9) + sqSell n r i z) (nI 9999)) from if_neg c, ← ih (i + 1) _ (some (aI (r (14 + 10 * i + 9) + sqSell n r i z))) (by omega) ((u_1 ..).trans hr) rfl]
      simp only [nl_n, nl_i, nl_r, x_ci, x_ca, x_bin, x_ife, x_ifl, x_ifg, x_cme, x_cml, x_cmg, x_go, x_no, x_b, x_ps, x_pn, cs_n, cs_i, cs_j, cs_r, en_n, en_i, en_j, en_r, xa0, x_k1_1, xs1n, xs1i, xs1r, xs2n, xs2i, xs2r, xi2, g_1_2, xi1, g_1_0, l_2, l_9, l_27, g_4_0, l_3, l_5, l_8, l_11, l_12, l_21, l_22, l_23, l_24, l_25, l_26, l_28, l_29, l_30, l_31, l_32, x_k3_1, xs3n, xs3i, xs3r, xi3, x_min, s_3, s_5, s_8, s_11, s_12, s_21, s_22, s_23, s_24, s_25, s_26, s_28, s_29, s_30, s_31, s_32, xn2n, xn2i, xn2r, g_1_4, p_1_4, r_i, r_j, r_v, r_z1, r_z0, r_a, e50_0, e50_1, e50_4, e50_5, e50_6, e50_8, e50_9, e50_12, e50_15, e50_16, e50_17, e50_18, e50_19, e50_20, e50_23, e50_24, e50_27, e50_28, e50_29, e50_32, e50_34, e50_35, e50_36, e50_37, e50_38, e50_41, e50_42, e50_43, e50_44, e50_47, e50_48, e50_49, e50_52, e50_54, e50_55, e50_58, e50_61, e50_62, e50_65, e50_68, e50_69, e50_70, e50_73, e50_74, e50_77, e50_78, e50_81, e50_82, e50_83, e50_85, e50_88, e50_91, c50, i10, i00, n2, n10, n20, n60, n8, n9, bi0, ite_not, List.replicate, Nat.reduceAdd, Nat.reduceSub, Nat.reduceLeDiff, Nat.reduceLT, if_true, if_false, mg, reduceIte, not_false_eq_true, eq_self, and_self, and_true, true_and, true_or, or_true, Nat.reduceEqDiff, ha, hi, c, rq_at, hr, (nI_lt (show i < n by omega) (by omega)), nI_add, uq_rq, rq_rq, ts]
      rfl
theorem t_sell {X : aX} {q : Nat → Nat → Int32} {D : aD} {r : Nat → Int32} {a n : Nat} (ha : a < 3) (hn : n ≤ 8) (hr : r 1 = nI n) : cl X 50 [aR (1, a, 0)] (mem (rq q a r, D)) = some (none, mem (rq q a (stF (sgS r n) (lp (slF n (sgS r n)) n 0 r)), D)) := by
  have ts := t_singing (X := X) ha hn (at_r (q := q) (D := D) (a := a) hr)
  simp only [nl_n, nl_i, nl_r, x_ci, x_ca, x_bin, x_ife, x_ifl, x_ifg, x_cme, x_cml, x_cmg, x_go, x_no, x_b, x_ps, x_pn, cs_n, cs_i, cs_j, cs_r, en_n, en_i, en_j, en_r, xa0, x_k1_1, xs1n, xs1i, xs1r, xs2n, xs2i, xs2r, xi2, g_1_2, xi1, g_1_0, l_2, l_9, l_27, g_4_0, l_3, l_5, l_8, l_11, l_12, l_21, l_22, l_23, l_24, l_25, l_26, l_28, l_29, l_30, l_31, l_32, x_k3_1, xs3n, xs3i, xs3r, xi3, x_min, s_3, s_5, s_8, s_11, s_12, s_21, s_22, s_23, s_24, s_25, s_26, s_28, s_29, s_30, s_31, s_32, xn2n, xn2i, xn2r, g_1_4, p_1_4, r_i, r_j, r_v, r_z1, r_z0, r_a, e50_0, e50_1, e50_4, e50_5, e50_6, e50_8, e50_9, e50_12, e50_15, e50_16, e50_17, e50_18, e50_19, e50_20, e50_23, e50_24, e50_27, e50_28, e50_29, e50_32, e50_34, e50_35, e50_36, e50_37, e50_38, e50_41, e50_42, e50_43, e50_44, e50_47, e50_48, e50_49, e50_52, e50_54, e50_55, e50_58, e50_61, e50_62, e50_65, e50_68, e50_69, e50_70, e50_73, e50_74, e50_77, e50_78, e50_81, e50_82, e50_83, e50_85, e50_88, e50_91, c50, i10, i00, n2, n10, n20, n60, n8, n9, bi0, ite_not, List.replicate, Nat.reduceAdd, Nat.reduceSub, Nat.reduceLeDiff, Nat.reduceLT, if_true, if_false, mg, reduceIte, not_false_eq_true, eq_self, and_self, and_true, true_and, true_or, or_true, Nat.reduceEqDiff, ha, ts, rq_at]
  exact l_sell ha hn n 0 r none (by omega) hr rfl
def goF (i : Nat) (r : Nat → Int32) : Nat → Int32 := if r (14 + 10 * i + 6) = 0 then oldF r i else r
theorem goF_1 (i : Nat) (r : Nat → Int32) : goF i r 1 = r 1 := by
  unfold goF oldF
  split
  · rw [u_1, u_1]
  · rfl
theorem l_older {X : aX} {q : Nat → Nat → Int32} {D : aD} {a n : Nat} (ha : a < 3) (hn : n ≤ 8) : ∀ k i r, i + k = n → r 1 = nI n → go X 52 2 [some (aR (1, a, 0)), some (aI (nI i))] [] (mem (rq q a r, D)) = some (none, mem (rq q a (lp goF k i r), D)) := by
  intro k
  induction k with
  | zero =>
    intro i r h hr
    rw [e52_2]
    simp only [nl_n, nl_i, nl_r, x_ci, x_ca, x_bin, x_ife, x_ifl, x_ifg, x_cme, x_cml, x_cmg, x_go, x_no, x_b, x_ps, x_pn, cs_n, cs_i, cs_j, cs_r, en_n, en_i, en_j, en_r, xs1n, xs1i, xs1r, xi1, xa0, g_1_2, g_1_0, l_2, l_9, l_27, g_4_0, l_3, l_5, l_8, l_11, l_12, l_21, l_22, l_23, l_24, l_25, l_26, l_28, l_29, l_30, l_31, l_32, x_k1_4, xn1n, xn1i, xn1r, r_i, r_j, r_v, r_z1, r_z0, r_a, e52_0, e52_1, e52_3, e52_4, e52_7, e52_10, e52_11, e52_14, e52_15, e52_16, e52_19, e52_21, e52_22, e52_25, e52_26, e52_29, e52_30, e52_31, e52_34, e52_37, e52_40, c52, i10, i00, n2, n10, n20, n60, n8, n9, bi0, ite_not, List.replicate, Nat.reduceAdd, Nat.reduceSub, Nat.reduceLeDiff, Nat.reduceLT, if_true, if_false, mg, reduceIte, not_false_eq_true, eq_self, and_self, and_true, true_and, true_or, or_true, Nat.reduceEqDiff, ha, rq_at, hr, (nI_nlt (show n ≤ i by omega) (by omega)), uq_rq, rq_rq]
    rfl
  | succ k ih =>
    intro i r h hr
    have hi : i < 8 := by omega
    rw [e52_2, lp_s, ← ih (i + 1) _ (by omega) (by rw [goF_1, hr])]
    unfold goF
    simp only [nl_n, nl_i, nl_r, x_ci, x_ca, x_bin, x_ife, x_ifl, x_ifg, x_cme, x_cml, x_cmg, x_go, x_no, x_b, x_ps, x_pn, cs_n, cs_i, cs_j, cs_r, en_n, en_i, en_j, en_r, xs1n, xs1i, xs1r, xi1, xa0, g_1_2, g_1_0, l_2, l_9, l_27, g_4_0, l_3, l_5, l_8, l_11, l_12, l_21, l_22, l_23, l_24, l_25, l_26, l_28, l_29, l_30, l_31, l_32, x_k1_4, xn1n, xn1i, xn1r, r_i, r_j, r_v, r_z1, r_z0, r_a, e52_0, e52_1, e52_3, e52_4, e52_7, e52_10, e52_11, e52_14, e52_15, e52_16, e52_19, e52_21, e52_22, e52_25, e52_26, e52_29, e52_30, e52_31, e52_34, e52_37, e52_40, c52, i10, i00, n2, n10, n20, n60, n8, n9, bi0, ite_not, List.replicate, Nat.reduceAdd, Nat.reduceSub, Nat.reduceLeDiff, Nat.reduceLT, if_true, if_false, mg, reduceIte, not_false_eq_true, eq_self, and_self, and_true, true_and, true_or, or_true, Nat.reduceEqDiff, ha, hi, rq_at, hr, (nI_lt (show i < n by omega) (by omega)), nI_add, uq_rq, rq_rq, t_growOlder1]
    split <;> rfl
theorem t_older {X : aX} {q : Nat → Nat → Int32} {D : aD} {r : Nat → Int32} {a n : Nat} (ha : a < 3) (hn : n ≤ 8) (hr : r 1 = nI n) : cl X 52 [aR (1, a, 0)] (mem (rq q a r, D)) = some (none, mem (rq q a (lp goF n 0 r), D)) := by
  simp only [nl_n, nl_i, nl_r, x_ci, x_ca, x_bin, x_ife, x_ifl, x_ifg, x_cme, x_cml, x_cmg, x_go, x_no, x_b, x_ps, x_pn, cs_n, cs_i, cs_j, cs_r, en_n, en_i, en_j, en_r, xs1n, xs1i, xs1r, xi1, xa0, g_1_2, g_1_0, l_2, l_9, l_27, g_4_0, l_3, l_5, l_8, l_11, l_12, l_21, l_22, l_23, l_24, l_25, l_26, l_28, l_29, l_30, l_31, l_32, x_k1_4, xn1n, xn1i, xn1r, r_i, r_j, r_v, r_z1, r_z0, r_a, e52_0, e52_1, e52_3, e52_4, e52_7, e52_10, e52_11, e52_14, e52_15, e52_16, e52_19, e52_21, e52_22, e52_25, e52_26, e52_29, e52_30, e52_31, e52_34, e52_37, e52_40, c52, i10, i00, n2, n10, n20, n60, n8, n9, bi0, ite_not, List.replicate, Nat.reduceAdd, Nat.reduceSub, Nat.reduceLeDiff, Nat.reduceLT, if_true, if_false, mg, reduceIte, not_false_eq_true, eq_self, and_self, and_true, true_and, true_or, or_true, Nat.reduceEqDiff, ha]
  exact l_older ha hn n 0 r (by omega) hr
/-- one day, by the flags that singing on has set -/
abbrev td (r : Nat → Int32) : Int32 := r 0 - r 0 / nI 60 * nI 60
def soR (n : Nat) (r : Nat → Int32) : Nat → Int32 := lp (fun i r => soF r i) n 0 r
def dyF (n : Nat) (e : Nat → Int32) (r : Nat → Int32) : Nat → Int32 :=
  let r2 := lp (ciF n e (td r)) n 0 r
  let r4 := stF (sgS r2 n) (lp (slF n (sgS r2 n)) n 0 r2)
  let r5 := if td r4 = nI 59 then lp goF n 0 r4 else r4
  upd r5 0 (mn (r5 0 + nI 1) (nI 99999))
theorem stF_1 (z : Int32) (r : Nat → Int32) : stF z r 1 = r 1 := rfl
theorem lp_1 {f : Nat → (Nat → Int32) → (Nat → Int32)} (h : ∀ i r, f i r 1 = r 1) (k i : Nat) (r : Nat → Int32) : lp f k i r 1 = r 1 := by
  induction k generalizing i r with
  | zero => rfl
  | succ k ih => rw [lp_s, ih, h]
theorem lp_so (a : Nat) : ∀ k i (r : Nat → Int32) D, (lp (soX a) k i (r, D)).1 = lp (fun i r => soF r i) k i r := by
  intro k
  induction k with
  | zero => intro i r D; rfl
  | succ k ih => intro i r D; rw [lp_s, lp_s]; exact ih _ _ _
theorem soR_1 (n : Nat) (r : Nat → Int32) : soR n r 1 = r 1 := lp_1 (fun i r => soF_1 r i) ..
/-- a day of a square: its row, and the flags -/
def daX (a n : Nat) (z : (Nat → Int32) × aD) : (Nat → Int32) × aD := (dyF n (fun j => (lp (soX a) n 0 z).2 (4, a, j) 1) (lp (soX a) n 0 z).1, (lp (soX a) n 0 z).2)
theorem dyF_1 (n : Nat) (e : Nat → Int32) (r : Nat → Int32) : dyF n e r 1 = r 1 := by
  unfold dyF
  have e1 : ∀ r : Nat → Int32, lp (ciF n e (td r)) n 0 r 1 = r 1 := fun r => lp_1 (fun i r => ciF_1 ..) ..
  have e2 : ∀ z (r : Nat → Int32), stF z (lp (slF n z) n 0 r) 1 = r 1 := fun z r => (stF_1 ..).trans (lp_1 (fun i r => slF_1 ..) ..)
  have e3 : ∀ r : Nat → Int32, lp goF n 0 r 1 = r 1 := fun r => lp_1 (fun i r => goF_1 ..) ..
  split
  · show lp goF n 0 _ 1 = _
    rw [e3, e2, e1]
  · exact (e2 ..).trans (e1 ..)
theorem daX_1 (a n : Nat) (z : (Nat → Int32) × aD) : (daX a n z).1 1 = z.1 1 := by
  unfold daX
  show dyF _ _ _ 1 = _
  rw [dyF_1]
  obtain ⟨r, D⟩ := z
  rw [lp_so]
  exact lp_1 (fun i r => soF_1 r i) ..
def itr {α : Type} (f : α → α) : Nat → α → α
  | 0, a => a
  | k + 1, a => itr f k (f a)
theorem itr_s {α : Type} (f : α → α) (k : Nat) (a : α) : itr f (k + 1) a = itr f k (f a) := rfl
theorem l_passDays {X : aX} {q : Nat → Nat → Int32} {a n c : Nat} (ha : a < 3) (hn : n ≤ 8) (hc : c < 2 ^ 31) : ∀ k i z, i + k = c → z.1 1 = nI n → go X 46 2 [some (aR (1, a, 0)), some (aI (nI c)), some (aI (nI i))] [] (mem (rq q a z.1, z.2)) = some (none, mem (rq q a (itr (daX a n) k z).1, (itr (daX a n) k z).2)) := by
  intro k
  induction k with
  | zero =>
    intro i z h hr
    rw [e46_2]
    simp only [nl_n, nl_i, nl_r, x_ci, x_ca, x_bin, x_ife, x_ifl, x_ifg, x_cme, x_cml, x_cmg, x_go, x_no, x_b, x_ps, x_pn, cs_n, cs_i, cs_j, cs_r, en_n, en_i, en_j, en_r, xs2n, xs2i, xs2r, xi2, xi1, xa0, x_k1_1, g_1_3, x_min, p_1_3, xn2n, xn2i, xn2r, r_i, r_j, r_v, r_z1, r_z0, r_a, e46_0, e46_1, e46_3, e46_4, e46_7, e46_8, e46_11, e46_12, e46_15, e46_16, e46_19, e46_20, e46_23, e46_25, e46_28, e46_29, e46_32, e46_33, e46_34, e46_37, e46_38, e46_39, e46_41, e46_44, e46_47, e46_50, e46_53, c46, i10, i00, n2, n10, n20, n60, n8, n9, bi0, ite_not, List.replicate, Nat.reduceAdd, Nat.reduceSub, Nat.reduceLeDiff, Nat.reduceLT, if_true, if_false, mg, reduceIte, not_false_eq_true, eq_self, and_self, and_true, true_and, true_or, or_true, Nat.reduceEqDiff, ha, (nI_nlt (show c ≤ i by omega) (by omega))]
    rfl
  | succ k ih =>
    intro i z h hr
    rw [e46_2, itr_s, ← ih (i + 1) _ (by omega) (by rw [daX_1, hr])]
    obtain ⟨r, D⟩ := z
    have h1 := t_singOn (X := X) (q := q) (D := D) ha hn hr
    have hr1 : (lp (soX a) n 0 (r, D)).1 1 = nI n := by
      rw [lp_so]
      exact (lp_1 (fun i r => soF_1 r i) ..).trans hr
    unfold daX
    generalize lp (soX a) n 0 (r, D) = z1 at h1 hr1
    obtain ⟨r1, D1⟩ := z1
    have h2 := t_comeIn (X := X) (q := q) (D := D1) ha hn hr1
    have hr2 : lp (ciF n (fun j => D1 (4, a, j) 1) (td r1)) n 0 r1 1 = nI n := (lp_1 (fun i r => ciF_1 ..) ..).trans hr1
    unfold dyF
    dsimp only
    dsimp only at h1 h2
    generalize lp (ciF n (fun j => D1 (4, a, j) 1) (td r1)) n 0 r1 = r2 at h2 hr2
    have h3 := t_sell (X := X) (q := q) (D := D1) ha hn hr2
    have hr3 : stF (sgS r2 n) (lp (slF n (sgS r2 n)) n 0 r2) 1 = nI n := (stF_1 ..).trans ((lp_1 (fun i r => slF_1 ..) ..).trans hr2)
    generalize stF (sgS r2 n) (lp (slF n (sgS r2 n)) n 0 r2) = r3 at h3 hr3
    have h4 := t_older (X := X) (q := q) (D := D1) ha hn hr3
    simp only [nl_n, nl_i, nl_r, x_ci, x_ca, x_bin, x_ife, x_ifl, x_ifg, x_cme, x_cml, x_cmg, x_go, x_no, x_b, x_ps, x_pn, cs_n, cs_i, cs_j, cs_r, en_n, en_i, en_j, en_r, xs2n, xs2i, xs2r, xi2, xi1, xa0, x_k1_1, g_1_3, x_min, p_1_3, xn2n, xn2i, xn2r, r_i, r_j, r_v, r_z1, r_z0, r_a, e46_0, e46_1, e46_3, e46_4, e46_7, e46_8, e46_11, e46_12, e46_15, e46_16, e46_19, e46_20, e46_23, e46_25, e46_28, e46_29, e46_32, e46_33, e46_34, e46_37, e46_38, e46_39, e46_41, e46_44, e46_47, e46_50, e46_53, c46, i10, i00, n2, n10, n20, n60, n8, n9, bi0, ite_not, List.replicate, Nat.reduceAdd, Nat.reduceSub, Nat.reduceLeDiff, Nat.reduceLT, if_true, if_false, mg, reduceIte, not_false_eq_true, eq_self, and_self, and_true, true_and, true_or, or_true, Nat.reduceEqDiff, ha, h1, h2, h3, h4, t_today, (nI_lt (show i < c by omega) (by omega)), nI_add, uq_rq, rq_rq, rq_at]
    split <;> rfl
theorem t_passDays {X : aX} {q : Nat → Nat → Int32} {r : Nat → Int32} {D : aD} {a n c : Nat} (ha : a < 3) (hn : n ≤ 8) (hc : c < 2 ^ 31) (hr : r 1 = nI n) : cl X 46 [aR (1, a, 0), aI (nI c)] (mem (rq q a r, D)) = some (none, mem (rq q a (itr (daX a n) c (r, D)).1, (itr (daX a n) c (r, D)).2)) := by
  simp only [nl_n, nl_i, nl_r, x_ci, x_ca, x_bin, x_ife, x_ifl, x_ifg, x_cme, x_cml, x_cmg, x_go, x_no, x_b, x_ps, x_pn, cs_n, cs_i, cs_j, cs_r, en_n, en_i, en_j, en_r, xs2n, xs2i, xs2r, xi2, xi1, xa0, x_k1_1, g_1_3, x_min, p_1_3, xn2n, xn2i, xn2r, r_i, r_j, r_v, r_z1, r_z0, r_a, e46_0, e46_1, e46_3, e46_4, e46_7, e46_8, e46_11, e46_12, e46_15, e46_16, e46_19, e46_20, e46_23, e46_25, e46_28, e46_29, e46_32, e46_33, e46_34, e46_37, e46_38, e46_39, e46_41, e46_44, e46_47, e46_50, e46_53, c46, i10, i00, n2, n10, n20, n60, n8, n9, bi0, ite_not, List.replicate, Nat.reduceAdd, Nat.reduceSub, Nat.reduceLeDiff, Nat.reduceLT, if_true, if_false, mg, reduceIte, not_false_eq_true, eq_self, and_self, and_true, true_and, true_or, or_true, Nat.reduceEqDiff, ha]
  exact l_passDays ha hn hc c 0 (r, D) (by omega) hr
