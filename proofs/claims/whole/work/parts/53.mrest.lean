/-! THE REFERENCE: SETS, SUMS, ROWS COPIED, FINDINGS -/
theorem l_sing6 {X : aX} {S : aS} {n : Nat} (hr : RI n (S.1 3)) : ∀ k i x, i + k = n → go X 148 4 [some (aR (20, 0, 0)), some (aI x), some (aI (nI i))] [] (mem S) = some (some (aI (lp (fun i x => if sgP (S.1 3) i then x ||| bit1 i else x) k i x)), mem S) := by
  have hn := hr.1
  have hz := hr.2.1
  intro k
  induction k with
  | zero =>
    intro i x h
    rw [e148_4]
    simp only [nl_n, nl_i, nl_r, x_ci, x_ca, x_bin, x_ife, x_ifl, x_ifg, x_cme, x_cml, x_cmg, x_go, x_no, x_b, x_ps, x_pn, cs_n, cs_i, cs_j, cs_r, en_n, en_i, en_j, en_r, xs1n, xs1i, xs1r, xs2n, xs2i, xs2r, xi2, xa0, g_20_0, l_3, l_5, l_8, l_11, l_12, l_21, l_22, l_23, l_24, l_25, l_26, l_28, l_29, l_30, l_31, l_32, xi1, x_k2_20, xn2n, xn2i, xn2r, r_i, r_j, r_v, r_z1, r_z0, r_a, e148_0, e148_1, e148_2, e148_3, e148_5, e148_6, e148_9, e148_10, e148_11, e148_14, e148_15, e148_16, e148_17, e148_20, e148_23, e148_24, e148_25, e148_26, e148_29, e148_30, e148_31, e148_32, e148_35, e148_38, e148_39, c148, i10, i00, n2, n10, n20, n60, n8, n9, bi0, ite_not, List.replicate, Nat.reduceAdd, Nat.reduceSub, Nat.reduceLeDiff, Nat.reduceLT, if_true, if_false, mg, reduceIte, not_false_eq_true, eq_self, and_self, and_true, true_and, true_or, or_true, Nat.reduceEqDiff, hz, (nI_nlt (show n ≤ i by omega) (by omega))]
    rfl
  | succ k ih =>
    intro i x h
    have ih' := fun y => ih (i + 1) y (by omega)
    have hi : i < 8 := by omega
    have td := t_does (X := X) hi (RI_d hr (by omega))
    rw [e148_4]
    simp only [nl_n, nl_i, nl_r, x_ci, x_ca, x_bin, x_ife, x_ifl, x_ifg, x_cme, x_cml, x_cmg, x_go, x_no, x_b, x_ps, x_pn, cs_n, cs_i, cs_j, cs_r, en_n, en_i, en_j, en_r, xs1n, xs1i, xs1r, xs2n, xs2i, xs2r, xi2, xa0, g_20_0, l_3, l_5, l_8, l_11, l_12, l_21, l_22, l_23, l_24, l_25, l_26, l_28, l_29, l_30, l_31, l_32, xi1, x_k2_20, xn2n, xn2i, xn2r, r_i, r_j, r_v, r_z1, r_z0, r_a, e148_0, e148_1, e148_2, e148_3, e148_5, e148_6, e148_9, e148_10, e148_11, e148_14, e148_15, e148_16, e148_17, e148_20, e148_23, e148_24, e148_25, e148_26, e148_29, e148_30, e148_31, e148_32, e148_35, e148_38, e148_39, c148, i10, i00, n2, n10, n20, n60, n8, n9, bi0, ite_not, List.replicate, Nat.reduceAdd, Nat.reduceSub, Nat.reduceLeDiff, Nat.reduceLT, if_true, if_false, mg, reduceIte, not_false_eq_true, eq_self, and_self, and_true, true_and, true_or, or_true, Nat.reduceEqDiff, hi, hz, (nI_lt (show i < n by omega) (by omega)), td, nI_add, or_0, ih', lp_s]
    split <;> rfl
theorem t_sing6 {X : aX} {S : aS} {n : Nat} (hr : RI n (S.1 3)) : cl X 148 [aR (20, 0, 0)] (mem S) = some (some (aI (sgS (S.1 3) n)), mem S) := by
  simp only [nl_n, nl_i, nl_r, x_ci, x_ca, x_bin, x_ife, x_ifl, x_ifg, x_cme, x_cml, x_cmg, x_go, x_no, x_b, x_ps, x_pn, cs_n, cs_i, cs_j, cs_r, en_n, en_i, en_j, en_r, xs1n, xs1i, xs1r, xs2n, xs2i, xs2r, xi2, xa0, g_20_0, l_3, l_5, l_8, l_11, l_12, l_21, l_22, l_23, l_24, l_25, l_26, l_28, l_29, l_30, l_31, l_32, xi1, x_k2_20, xn2n, xn2i, xn2r, r_i, r_j, r_v, r_z1, r_z0, r_a, e148_0, e148_1, e148_2, e148_3, e148_5, e148_6, e148_9, e148_10, e148_11, e148_14, e148_15, e148_16, e148_17, e148_20, e148_23, e148_24, e148_25, e148_26, e148_29, e148_30, e148_31, e148_32, e148_35, e148_38, e148_39, c148, i10, i00, n2, n10, n20, n60, n8, n9, bi0, ite_not, List.replicate, Nat.reduceAdd, Nat.reduceSub, Nat.reduceLeDiff, Nat.reduceLT, if_true, if_false, mg, reduceIte, not_false_eq_true, eq_self, and_self, and_true, true_and, true_or, or_true, Nat.reduceEqDiff]
  exact l_sing6 hr n 0 (nI 0) (by omega)
theorem l_wait6 {X : aX} {S : aS} {n : Nat} (hr : RI n (S.1 3)) : ∀ k i x, i + k = n → go X 150 4 [some (aR (20, 0, 0)), some (aI x), some (aI (nI i))] [] (mem S) = some (some (aI (lp (fun i x => if waP (S.1 3) i then x ||| bit1 i else x) k i x)), mem S) := by
  have hn := hr.1
  have hz := hr.2.1
  intro k
  induction k with
  | zero =>
    intro i x h
    rw [e150_4]
    simp only [nl_n, nl_i, nl_r, x_ci, x_ca, x_bin, x_ife, x_ifl, x_ifg, x_cme, x_cml, x_cmg, x_go, x_no, x_b, x_ps, x_pn, cs_n, cs_i, cs_j, cs_r, en_n, en_i, en_j, en_r, xs1n, xs1i, xs1r, xs2n, xs2i, xs2r, xi2, xa0, g_20_0, l_3, l_5, l_8, l_11, l_12, l_21, l_22, l_23, l_24, l_25, l_26, l_28, l_29, l_30, l_31, l_32, xi1, x_k2_20, x_k3_20, xn2n, xn2i, xn2r, r_i, r_j, r_v, r_z1, r_z0, r_a, e150_0, e150_1, e150_2, e150_3, e150_5, e150_6, e150_9, e150_10, e150_11, e150_14, e150_15, e150_16, e150_17, e150_20, e150_23, e150_24, e150_25, e150_27, e150_30, e150_33, e150_34, e150_35, e150_36, e150_39, e150_40, e150_41, e150_42, e150_45, e150_48, e150_49, c150, i10, i00, n2, n10, n20, n60, n8, n9, bi0, ite_not, List.replicate, Nat.reduceAdd, Nat.reduceSub, Nat.reduceLeDiff, Nat.reduceLT, if_true, if_false, mg, reduceIte, not_false_eq_true, eq_self, and_self, and_true, true_and, true_or, or_true, Nat.reduceEqDiff, hz, (nI_nlt (show n ≤ i by omega) (by omega))]
    rfl
  | succ k ih =>
    intro i x h
    have ih' := fun y => ih (i + 1) y (by omega)
    have hi : i < 8 := by omega
    have td := t_isDead (X := X) hi (RI_d hr (by omega))
    rw [e150_4]
    simp only [nl_n, nl_i, nl_r, x_ci, x_ca, x_bin, x_ife, x_ifl, x_ifg, x_cme, x_cml, x_cmg, x_go, x_no, x_b, x_ps, x_pn, cs_n, cs_i, cs_j, cs_r, en_n, en_i, en_j, en_r, xs1n, xs1i, xs1r, xs2n, xs2i, xs2r, xi2, xa0, g_20_0, l_3, l_5, l_8, l_11, l_12, l_21, l_22, l_23, l_24, l_25, l_26, l_28, l_29, l_30, l_31, l_32, xi1, x_k2_20, x_k3_20, xn2n, xn2i, xn2r, r_i, r_j, r_v, r_z1, r_z0, r_a, e150_0, e150_1, e150_2, e150_3, e150_5, e150_6, e150_9, e150_10, e150_11, e150_14, e150_15, e150_16, e150_17, e150_20, e150_23, e150_24, e150_25, e150_27, e150_30, e150_33, e150_34, e150_35, e150_36, e150_39, e150_40, e150_41, e150_42, e150_45, e150_48, e150_49, c150, i10, i00, n2, n10, n20, n60, n8, n9, bi0, ite_not, List.replicate, Nat.reduceAdd, Nat.reduceSub, Nat.reduceLeDiff, Nat.reduceLT, if_true, if_false, mg, reduceIte, not_false_eq_true, eq_self, and_self, and_true, true_and, true_or, or_true, Nat.reduceEqDiff, hi, hz, (nI_lt (show i < n by omega) (by omega)), td, t_is, nI_add, or_0, ih', lp_s]
    by_cases c1 : 0 < S.1 3 (14 + 10 * i + 8)
    · by_cases c2 : S.1 3 (14 + 10 * i + 6) = 0
      · rw [if_pos (show waP (S.1 3) i from ⟨c1, c2⟩)]
        simp only [c1, c2, if_true, not_true, if_false]
      · rw [if_neg (show ¬ waP (S.1 3) i from fun w => c2 w.2)]
        simp only [c2, if_true, if_false, not_false_eq_true]
    · rw [if_neg (show ¬ waP (S.1 3) i from fun w => c1 w.1)]
      simp only [c1, if_false, ite_self]
theorem t_wait6 {X : aX} {S : aS} {n : Nat} (hr : RI n (S.1 3)) : cl X 150 [aR (20, 0, 0)] (mem S) = some (some (aI (setF (waP (S.1 3)) n)), mem S) := by
  simp only [nl_n, nl_i, nl_r, x_ci, x_ca, x_bin, x_ife, x_ifl, x_ifg, x_cme, x_cml, x_cmg, x_go, x_no, x_b, x_ps, x_pn, cs_n, cs_i, cs_j, cs_r, en_n, en_i, en_j, en_r, xs1n, xs1i, xs1r, xs2n, xs2i, xs2r, xi2, xa0, g_20_0, l_3, l_5, l_8, l_11, l_12, l_21, l_22, l_23, l_24, l_25, l_26, l_28, l_29, l_30, l_31, l_32, xi1, x_k2_20, x_k3_20, xn2n, xn2i, xn2r, r_i, r_j, r_v, r_z1, r_z0, r_a, e150_0, e150_1, e150_2, e150_3, e150_5, e150_6, e150_9, e150_10, e150_11, e150_14, e150_15, e150_16, e150_17, e150_20, e150_23, e150_24, e150_25, e150_27, e150_30, e150_33, e150_34, e150_35, e150_36, e150_39, e150_40, e150_41, e150_42, e150_45, e150_48, e150_49, c150, i10, i00, n2, n10, n20, n60, n8, n9, bi0, ite_not, List.replicate, Nat.reduceAdd, Nat.reduceSub, Nat.reduceLeDiff, Nat.reduceLT, if_true, if_false, mg, reduceIte, not_false_eq_true, eq_self, and_self, and_true, true_and, true_or, or_true, Nat.reduceEqDiff]
  exact l_wait6 hr n 0 (nI 0) (by omega)
theorem sh_0 : ∀ i, i < 8 → nI 0 <<< (nI i &&& 31) = nI 0 := by decide +kernel
theorem l_dead6 {X : aX} {S : aS} {n : Nat} (hr : RI n (S.1 3)) : ∀ k i x, i + k = n → go X 151 4 [some (aR (20, 0, 0)), some (aI x), some (aI (nI i))] [] (mem S) = some (some (aI (lp (fun i x => if S.1 3 (14 + 10 * i + 6) = nI 1 then x ||| bit1 i else x) k i x)), mem S) := by
  have hn := hr.1
  have hz := hr.2.1
  intro k
  induction k with
  | zero =>
    intro i x h
    rw [e151_4]
    simp only [nl_n, nl_i, nl_r, x_ci, x_ca, x_bin, x_ife, x_ifl, x_ifg, x_cme, x_cml, x_cmg, x_go, x_no, x_b, x_ps, x_pn, cs_n, cs_i, cs_j, cs_r, en_n, en_i, en_j, en_r, xs1n, xs1i, xs1r, xs2n, xs2i, xs2r, xi2, xa0, g_20_0, l_3, l_5, l_8, l_11, l_12, l_21, l_22, l_23, l_24, l_25, l_26, l_28, l_29, l_30, l_31, l_32, xi1, x_k3_20, xn2n, xn2i, xn2r, r_i, r_j, r_v, r_z1, r_z0, r_a, e151_0, e151_1, e151_2, e151_3, e151_5, e151_6, e151_9, e151_10, e151_11, e151_14, e151_15, e151_16, e151_17, e151_19, e151_22, e151_23, e151_24, e151_25, e151_26, e151_29, e151_32, e151_33, c151, i10, i00, n2, n10, n20, n60, n8, n9, bi0, ite_not, List.replicate, Nat.reduceAdd, Nat.reduceSub, Nat.reduceLeDiff, Nat.reduceLT, if_true, if_false, mg, reduceIte, not_false_eq_true, eq_self, and_self, and_true, true_and, true_or, or_true, Nat.reduceEqDiff, hz, (nI_nlt (show n ≤ i by omega) (by omega))]
    rfl
  | succ k ih =>
    intro i x h
    have ih' := fun y => ih (i + 1) y (by omega)
    have hi : i < 8 := by omega
    obtain ⟨j, hj, ej⟩ := RI_d hr (show i < n by omega)
    rw [e151_4]
    simp only [nl_n, nl_i, nl_r, x_ci, x_ca, x_bin, x_ife, x_ifl, x_ifg, x_cme, x_cml, x_cmg, x_go, x_no, x_b, x_ps, x_pn, cs_n, cs_i, cs_j, cs_r, en_n, en_i, en_j, en_r, xs1n, xs1i, xs1r, xs2n, xs2i, xs2r, xi2, xa0, g_20_0, l_3, l_5, l_8, l_11, l_12, l_21, l_22, l_23, l_24, l_25, l_26, l_28, l_29, l_30, l_31, l_32, xi1, x_k3_20, xn2n, xn2i, xn2r, r_i, r_j, r_v, r_z1, r_z0, r_a, e151_0, e151_1, e151_2, e151_3, e151_5, e151_6, e151_9, e151_10, e151_11, e151_14, e151_15, e151_16, e151_17, e151_19, e151_22, e151_23, e151_24, e151_25, e151_26, e151_29, e151_32, e151_33, c151, i10, i00, n2, n10, n20, n60, n8, n9, bi0, ite_not, List.replicate, Nat.reduceAdd, Nat.reduceSub, Nat.reduceLeDiff, Nat.reduceLT, if_true, if_false, mg, reduceIte, not_false_eq_true, eq_self, and_self, and_true, true_and, true_or, or_true, Nat.reduceEqDiff, hi, hz, (nI_lt (show i < n by omega) (by omega)), t_is, ej, nI_add, ih', lp_s]
    rcases (show j = 0 ∨ j = 1 by omega) with rfl | rfl
    · rw [sh_0 i hi, or_0, if_neg (by decide +kernel)]
    · rw [if_pos rfl]
theorem t_dead6 {X : aX} {S : aS} {n : Nat} (hr : RI n (S.1 3)) : cl X 151 [aR (20, 0, 0)] (mem S) = some (some (aI (setF (fun i => S.1 3 (14 + 10 * i + 6) = nI 1) n)), mem S) := by
  simp only [nl_n, nl_i, nl_r, x_ci, x_ca, x_bin, x_ife, x_ifl, x_ifg, x_cme, x_cml, x_cmg, x_go, x_no, x_b, x_ps, x_pn, cs_n, cs_i, cs_j, cs_r, en_n, en_i, en_j, en_r, xs1n, xs1i, xs1r, xs2n, xs2i, xs2r, xi2, xa0, g_20_0, l_3, l_5, l_8, l_11, l_12, l_21, l_22, l_23, l_24, l_25, l_26, l_28, l_29, l_30, l_31, l_32, xi1, x_k3_20, xn2n, xn2i, xn2r, r_i, r_j, r_v, r_z1, r_z0, r_a, e151_0, e151_1, e151_2, e151_3, e151_5, e151_6, e151_9, e151_10, e151_11, e151_14, e151_15, e151_16, e151_17, e151_19, e151_22, e151_23, e151_24, e151_25, e151_26, e151_29, e151_32, e151_33, c151, i10, i00, n2, n10, n20, n60, n8, n9, bi0, ite_not, List.replicate, Nat.reduceAdd, Nat.reduceSub, Nat.reduceLeDiff, Nat.reduceLT, if_true, if_false, mg, reduceIte, not_false_eq_true, eq_self, and_self, and_true, true_and, true_or, or_true, Nat.reduceEqDiff]
  exact l_dead6 hr n 0 (nI 0) (by omega)
theorem l_sum6 {X : aX} {S : aS} {n f : Nat} (hn : n ≤ 8) (hz : S.1 3 1 = nI n) (hf : f < 10) : ∀ k i x, i + k = n → go X 152 4 [some (aR (20, 0, 0)), some (aI (nI f)), some (aI x), some (aI (nI i))] [] (mem S) = some (some (aI (lp (fun i x => x + S.1 3 (14 + 10 * i + f)) k i x)), mem S) := by
  intro k
  induction k with
  | zero =>
    intro i x h
    rw [e152_4]
    simp only [nl_n, nl_i, nl_r, x_ci, x_ca, x_bin, x_ife, x_ifl, x_ifg, x_cme, x_cml, x_cmg, x_go, x_no, x_b, x_ps, x_pn, cs_n, cs_i, cs_j, cs_r, en_n, en_i, en_j, en_r, xs2n, xs2i, xs2r, xs3n, xs3i, xs3r, xi3, xa0, g_20_0, l_3, l_5, l_8, l_11, l_12, l_21, l_22, l_23, l_24, l_25, l_26, l_28, l_29, l_30, l_31, l_32, xi2, xi1, x_k3_20, xn3n, xn3i, xn3r, r_i, r_j, r_v, r_z1, r_z0, r_a, e152_0, e152_1, e152_2, e152_3, e152_5, e152_6, e152_9, e152_10, e152_11, e152_14, e152_15, e152_16, e152_17, e152_18, e152_21, e152_22, e152_23, e152_26, e152_29, e152_30, c152, i10, i00, n2, n10, n20, n60, n8, n9, bi0, ite_not, List.replicate, Nat.reduceAdd, Nat.reduceSub, Nat.reduceLeDiff, Nat.reduceLT, if_true, if_false, mg, reduceIte, not_false_eq_true, eq_self, and_self, and_true, true_and, true_or, or_true, Nat.reduceEqDiff, hz, (nI_nlt (show n ≤ i by omega) (by omega))]
    rfl
  | succ k ih =>
    intro i x h
    have ih' := fun y => ih (i + 1) y (by omega)
    have hi : i < 8 := by omega
    rw [e152_4]
    simp only [nl_n, nl_i, nl_r, x_ci, x_ca, x_bin, x_ife, x_ifl, x_ifg, x_cme, x_cml, x_cmg, x_go, x_no, x_b, x_ps, x_pn, cs_n, cs_i, cs_j, cs_r, en_n, en_i, en_j, en_r, xs2n, xs2i, xs2r, xs3n, xs3i, xs3r, xi3, xa0, g_20_0, l_3, l_5, l_8, l_11, l_12, l_21, l_22, l_23, l_24, l_25, l_26, l_28, l_29, l_30, l_31, l_32, xi2, xi1, x_k3_20, xn3n, xn3i, xn3r, r_i, r_j, r_v, r_z1, r_z0, r_a, e152_0, e152_1, e152_2, e152_3, e152_5, e152_6, e152_9, e152_10, e152_11, e152_14, e152_15, e152_16, e152_17, e152_18, e152_21, e152_22, e152_23, e152_26, e152_29, e152_30, c152, i10, i00, n2, n10, n20, n60, n8, n9, bi0, ite_not, List.replicate, Nat.reduceAdd, Nat.reduceSub, Nat.reduceLeDiff, Nat.reduceLT, if_true, if_false, mg, reduceIte, not_false_eq_true, eq_self, and_self, and_true, true_and, true_or, or_true, Nat.reduceEqDiff, hz, (nI_lt (show i < n by omega) (by omega)), (t_is hi hf), nI_add, ih', lp_s]
theorem t_sum6 {X : aX} {S : aS} {n f : Nat} (hn : n ≤ 8) (hz : S.1 3 1 = nI n) (hf : f < 10) : cl X 152 [aR (20, 0, 0), aI (nI f)] (mem S) = some (some (aI (sumF (fun i => S.1 3 (14 + 10 * i + f)) n)), mem S) := by
  simp only [nl_n, nl_i, nl_r, x_ci, x_ca, x_bin, x_ife, x_ifl, x_ifg, x_cme, x_cml, x_cmg, x_go, x_no, x_b, x_ps, x_pn, cs_n, cs_i, cs_j, cs_r, en_n, en_i, en_j, en_r, xs2n, xs2i, xs2r, xs3n, xs3i, xs3r, xi3, xa0, g_20_0, l_3, l_5, l_8, l_11, l_12, l_21, l_22, l_23, l_24, l_25, l_26, l_28, l_29, l_30, l_31, l_32, xi2, xi1, x_k3_20, xn3n, xn3i, xn3r, r_i, r_j, r_v, r_z1, r_z0, r_a, e152_0, e152_1, e152_2, e152_3, e152_5, e152_6, e152_9, e152_10, e152_11, e152_14, e152_15, e152_16, e152_17, e152_18, e152_21, e152_22, e152_23, e152_26, e152_29, e152_30, c152, i10, i00, n2, n10, n20, n60, n8, n9, bi0, ite_not, List.replicate, Nat.reduceAdd, Nat.reduceSub, Nat.reduceLeDiff, Nat.reduceLT, if_true, if_false, mg, reduceIte, not_false_eq_true, eq_self, and_self, and_true, true_and, true_or, or_true, Nat.reduceEqDiff]
  exact l_sum6 hn hz hf n 0 (nI 0) (by omega)
/-- a whole row comes from the other -/
def row94 (r' r : Nat → Int32) : Nat → Int32 := fun p => if p < 94 then r p else r' p
theorem ag_94 {n : Nat} (hn : n ≤ 8) (r' r : Nat → Int32) : ag n (row94 r' r) r := fun p hp => if_pos (by omega)
theorem cp_94 (r' r : Nat → Int32) : ∀ k i, i + k = 94 → lp (fun i r' => upd r' i (r i)) k i r' = fun p => if i ≤ p ∧ p < 94 then r p else r' p := by
  intro k
  induction k generalizing r' with
  | zero =>
    intro i h
    funext p
    rw [if_neg (by omega)]
    rfl
  | succ k ih =>
    intro i h
    rw [lp_s, ih _ (i + 1) (by omega)]
    funext p
    by_cases c : p = i
    · rw [if_neg (by omega), if_pos (by omega), c]
      exact pk_us
    · by_cases c2 : i + 1 ≤ p ∧ p < 94
      · rw [if_pos c2, if_pos (by omega)]
      · rw [if_neg c2, if_neg (by omega)]
        exact pk_un c
theorem l_cp02 {X : aX} {q : Nat → Nat → Int32} {D : aD} : ∀ k i r', i + k = 94 → go X 116 2 [some (aR (21, 0, 0)), some (aR (23, 0, 0)), some (aI (nI i))] [] (mem (rq q 5 r', D)) = some (none, mem (rq q 5 (lp (fun i r' => upd r' i (q 3 i)) k i r'), D)) := by
  intro k
  induction k with
  | zero =>
    intro i r' h
    rw [e116_2]
    simp only [nl_n, nl_i, nl_r, x_ci, x_ca, x_bin, x_ife, x_ifl, x_ifg, x_cme, x_cml, x_cmg, x_go, x_no, x_b, x_ps, x_pn, cs_n, cs_i, cs_j, cs_r, en_n, en_i, en_j, en_r, xs2n, xs2i, xs2r, xi2, xa1, xa0, l_3, l_5, l_8, l_11, l_12, l_21, l_22, l_23, l_24, l_25, l_26, l_28, l_29, l_30, l_31, l_32, s_3, s_5, s_8, s_11, s_12, s_21, s_22, s_23, s_24, s_25, s_26, s_28, s_29, s_30, s_31, s_32, xn2n, xn2i, xn2r, r_i, r_j, r_v, r_z1, r_z0, r_a, e116_0, e116_1, e116_3, e116_5, e116_8, e116_9, e116_10, e116_11, e116_12, e116_13, e116_14, e116_17, e116_20, c116, i10, i00, n2, n10, n20, n60, n8, n9, bi0, ite_not, List.replicate, Nat.reduceAdd, Nat.reduceSub, Nat.reduceLeDiff, Nat.reduceLT, if_true, if_false, mg, reduceIte, not_false_eq_true, eq_self, and_self, and_true, true_and, true_or, or_true, Nat.reduceEqDiff, (nI_nlt (show 94 ≤ i by omega) (by omega))]
    rfl
  | succ k ih =>
    intro i r' h
    have hi : i < 94 := by omega
    rw [e116_2, lp_s, ← ih (i + 1) _ (by omega)]
    simp only [nl_n, nl_i, nl_r, x_ci, x_ca, x_bin, x_ife, x_ifl, x_ifg, x_cme, x_cml, x_cmg, x_go, x_no, x_b, x_ps, x_pn, cs_n, cs_i, cs_j, cs_r, en_n, en_i, en_j, en_r, xs2n, xs2i, xs2r, xi2, xa1, xa0, l_3, l_5, l_8, l_11, l_12, l_21, l_22, l_23, l_24, l_25, l_26, l_28, l_29, l_30, l_31, l_32, s_3, s_5, s_8, s_11, s_12, s_21, s_22, s_23, s_24, s_25, s_26, s_28, s_29, s_30, s_31, s_32, xn2n, xn2i, xn2r, r_i, r_j, r_v, r_z1, r_z0, r_a, e116_0, e116_1, e116_3, e116_5, e116_8, e116_9, e116_10, e116_11, e116_12, e116_13, e116_14, e116_17, e116_20, c116, i10, i00, n2, n10, n20, n60, n8, n9, bi0, ite_not, List.replicate, Nat.reduceAdd, Nat.reduceSub, Nat.reduceLeDiff, Nat.reduceLT, if_true, if_false, mg, reduceIte, not_false_eq_true, eq_self, and_self, and_true, true_and, true_or, or_true, Nat.reduceEqDiff, hi, (nI_lt (show i < 94 by omega) (by omega)), nI_add, rq_at, uq_rq, rq_rq, (rq_ne (q := q) (a := 5) (a2 := 3) (r := r') (by decide))]
theorem t_cp02 {X : aX} {q : Nat → Nat → Int32} {r' : Nat → Int32} {D : aD} : cl X 116 [aR (21, 0, 0), aR (23, 0, 0)] (mem (rq q 5 r', D)) = some (none, mem (rq q 5 (row94 r' (q 3)), D)) := by
  simp only [nl_n, nl_i, nl_r, x_ci, x_ca, x_bin, x_ife, x_ifl, x_ifg, x_cme, x_cml, x_cmg, x_go, x_no, x_b, x_ps, x_pn, cs_n, cs_i, cs_j, cs_r, en_n, en_i, en_j, en_r, xs2n, xs2i, xs2r, xi2, xa1, xa0, l_3, l_5, l_8, l_11, l_12, l_21, l_22, l_23, l_24, l_25, l_26, l_28, l_29, l_30, l_31, l_32, s_3, s_5, s_8, s_11, s_12, s_21, s_22, s_23, s_24, s_25, s_26, s_28, s_29, s_30, s_31, s_32, xn2n, xn2i, xn2r, r_i, r_j, r_v, r_z1, r_z0, r_a, e116_0, e116_1, e116_3, e116_5, e116_8, e116_9, e116_10, e116_11, e116_12, e116_13, e116_14, e116_17, e116_20, c116, i10, i00, n2, n10, n20, n60, n8, n9, bi0, ite_not, List.replicate, Nat.reduceAdd, Nat.reduceSub, Nat.reduceLeDiff, Nat.reduceLT, if_true, if_false, mg, reduceIte, not_false_eq_true, eq_self, and_self, and_true, true_and, true_or, or_true, Nat.reduceEqDiff]
  rw [l_cp02 94 0 r' (by omega), cp_94 r' (q 3) 94 0 (by omega)]
  have e : (fun p => if 0 ≤ p ∧ p < 94 then q 3 p else r' p) = row94 r' (q 3) := by
    funext p
    unfold row94
    simp
  rw [e]
theorem l_cp20 {X : aX} {q : Nat → Nat → Int32} {D : aD} : ∀ k i r', i + k = 94 → go X 116 2 [some (aR (23, 0, 0)), some (aR (21, 0, 0)), some (aI (nI i))] [] (mem (rq q 3 r', D)) = some (none, mem (rq q 3 (lp (fun i r' => upd r' i (q 5 i)) k i r'), D)) := by
  intro k
  induction k with
  | zero =>
    intro i r' h
    rw [e116_2]
    simp only [nl_n, nl_i, nl_r, x_ci, x_ca, x_bin, x_ife, x_ifl, x_ifg, x_cme, x_cml, x_cmg, x_go, x_no, x_b, x_ps, x_pn, cs_n, cs_i, cs_j, cs_r, en_n, en_i, en_j, en_r, xs2n, xs2i, xs2r, xi2, xa1, xa0, l_3, l_5, l_8, l_11, l_12, l_21, l_22, l_23, l_24, l_25, l_26, l_28, l_29, l_30, l_31, l_32, s_3, s_5, s_8, s_11, s_12, s_21, s_22, s_23, s_24, s_25, s_26, s_28, s_29, s_30, s_31, s_32, xn2n, xn2i, xn2r, r_i, r_j, r_v, r_z1, r_z0, r_a, e116_0, e116_1, e116_3, e116_5, e116_8, e116_9, e116_10, e116_11, e116_12, e116_13, e116_14, e116_17, e116_20, c116, i10, i00, n2, n10, n20, n60, n8, n9, bi0, ite_not, List.replicate, Nat.reduceAdd, Nat.reduceSub, Nat.reduceLeDiff, Nat.reduceLT, if_true, if_false, mg, reduceIte, not_false_eq_true, eq_self, and_self, and_true, true_and, true_or, or_true, Nat.reduceEqDiff, (nI_nlt (show 94 ≤ i by omega) (by omega))]
    rfl
  | succ k ih =>
    intro i r' h
    have hi : i < 94 := by omega
    rw [e116_2, lp_s, ← ih (i + 1) _ (by omega)]
    simp only [nl_n, nl_i, nl_r, x_ci, x_ca, x_bin, x_ife, x_ifl, x_ifg, x_cme, x_cml, x_cmg, x_go, x_no, x_b, x_ps, x_pn, cs_n, cs_i, cs_j, cs_r, en_n, en_i, en_j, en_r, xs2n, xs2i, xs2r, xi2, xa1, xa0, l_3, l_5, l_8, l_11, l_12, l_21, l_22, l_23, l_24, l_25, l_26, l_28, l_29, l_30, l_31, l_32, s_3, s_5, s_8, s_11, s_12, s_21, s_22, s_23, s_24, s_25, s_26, s_28, s_29, s_30, s_31, s_32, xn2n, xn2i, xn2r, r_i, r_j, r_v, r_z1, r_z0, r_a, e116_0, e116_1, e116_3, e116_5, e116_8, e116_9, e116_10, e116_11, e116_12, e116_13, e116_14, e116_17, e116_20, c116, i10, i00, n2, n10, n20, n60, n8, n9, bi0, ite_not, List.replicate, Nat.reduceAdd, Nat.reduceSub, Nat.reduceLeDiff, Nat.reduceLT, if_true, if_false, mg, reduceIte, not_false_eq_true, eq_self, and_self, and_true, true_and, true_or, or_true, Nat.reduceEqDiff, hi, (nI_lt (show i < 94 by omega) (by omega)), nI_add, rq_at, uq_rq, rq_rq, (rq_ne (q := q) (a := 3) (a2 := 5) (r := r') (by decide))]
theorem t_cp20 {X : aX} {q : Nat → Nat → Int32} {r' : Nat → Int32} {D : aD} : cl X 116 [aR (23, 0, 0), aR (21, 0, 0)] (mem (rq q 3 r', D)) = some (none, mem (rq q 3 (row94 r' (q 5)), D)) := by
  simp only [nl_n, nl_i, nl_r, x_ci, x_ca, x_bin, x_ife, x_ifl, x_ifg, x_cme, x_cml, x_cmg, x_go, x_no, x_b, x_ps, x_pn, cs_n, cs_i, cs_j, cs_r, en_n, en_i, en_j, en_r, xs2n, xs2i, xs2r, xi2, xa1, xa0, l_3, l_5, l_8, l_11, l_12, l_21, l_22, l_23, l_24, l_25, l_26, l_28, l_29, l_30, l_31, l_32, s_3, s_5, s_8, s_11, s_12, s_21, s_22, s_23, s_24, s_25, s_26, s_28, s_29, s_30, s_31, s_32, xn2n, xn2i, xn2r, r_i, r_j, r_v, r_z1, r_z0, r_a, e116_0, e116_1, e116_3, e116_5, e116_8, e116_9, e116_10, e116_11, e116_12, e116_13, e116_14, e116_17, e116_20, c116, i10, i00, n2, n10, n20, n60, n8, n9, bi0, ite_not, List.replicate, Nat.reduceAdd, Nat.reduceSub, Nat.reduceLeDiff, Nat.reduceLT, if_true, if_false, mg, reduceIte, not_false_eq_true, eq_self, and_self, and_true, true_and, true_or, or_true, Nat.reduceEqDiff]
  rw [l_cp20 94 0 r' (by omega), cp_94 r' (q 5) 94 0 (by omega)]
  have e : (fun p => if 0 ≤ p ∧ p < 94 then q 5 p else r' p) = row94 r' (q 5) := by
    funext p
    unfold row94
    simp
  rw [e]
theorem l_cp01 {X : aX} {q : Nat → Nat → Int32} {D : aD} : ∀ k i r', i + k = 94 → go X 116 2 [some (aR (21, 0, 0)), some (aR (22, 0, 0)), some (aI (nI i))] [] (mem (rq q 4 r', D)) = some (none, mem (rq q 4 (lp (fun i r' => upd r' i (q 3 i)) k i r'), D)) := by
  intro k
  induction k with
  | zero =>
    intro i r' h
    rw [e116_2]
    simp only [nl_n, nl_i, nl_r, x_ci, x_ca, x_bin, x_ife, x_ifl, x_ifg, x_cme, x_cml, x_cmg, x_go, x_no, x_b, x_ps, x_pn, cs_n, cs_i, cs_j, cs_r, en_n, en_i, en_j, en_r, xs2n, xs2i, xs2r, xi2, xa1, xa0, l_3, l_5, l_8, l_11, l_12, l_21, l_22, l_23, l_24, l_25, l_26, l_28, l_29, l_30, l_31, l_32, s_3, s_5, s_8, s_11, s_12, s_21, s_22, s_23, s_24, s_25, s_26, s_28, s_29, s_30, s_31, s_32, xn2n, xn2i, xn2r, r_i, r_j, r_v, r_z1, r_z0, r_a, e116_0, e116_1, e116_3, e116_5, e116_8, e116_9, e116_10, e116_11, e116_12, e116_13, e116_14, e116_17, e116_20, c116, i10, i00, n2, n10, n20, n60, n8, n9, bi0, ite_not, List.replicate, Nat.reduceAdd, Nat.reduceSub, Nat.reduceLeDiff, Nat.reduceLT, if_true, if_false, mg, reduceIte, not_false_eq_true, eq_self, and_self, and_true, true_and, true_or, or_true, Nat.reduceEqDiff, (nI_nlt (show 94 ≤ i by omega) (by omega))]
    rfl
  | succ k ih =>
    intro i r' h
    have hi : i < 94 := by omega
    rw [e116_2, lp_s, ← ih (i + 1) _ (by omega)]
    simp only [nl_n, nl_i, nl_r, x_ci, x_ca, x_bin, x_ife, x_ifl, x_ifg, x_cme, x_cml, x_cmg, x_go, x_no, x_b, x_ps, x_pn, cs_n, cs_i, cs_j, cs_r, en_n, en_i, en_j, en_r, xs2n, xs2i, xs2r, xi2, xa1, xa0, l_3, l_5, l_8, l_11, l_12, l_21, l_22, l_23, l_24, l_25, l_26, l_28, l_29, l_30, l_31, l_32, s_3, s_5, s_8, s_11, s_12, s_21, s_22, s_23, s_24, s_25, s_26, s_28, s_29, s_30, s_31, s_32, xn2n, xn2i, xn2r, r_i, r_j, r_v, r_z1, r_z0, r_a, e116_0, e116_1, e116_3, e116_5, e116_8, e116_9, e116_10, e116_11, e116_12, e116_13, e116_14, e116_17, e116_20, c116, i10, i00, n2, n10, n20, n60, n8, n9, bi0, ite_not, List.replicate, Nat.reduceAdd, Nat.reduceSub, Nat.reduceLeDiff, Nat.reduceLT, if_true, if_false, mg, reduceIte, not_false_eq_true, eq_self, and_self, and_true, true_and, true_or, or_true, Nat.reduceEqDiff, hi, (nI_lt (show i < 94 by omega) (by omega)), nI_add, rq_at, uq_rq, rq_rq, (rq_ne (q := q) (a := 4) (a2 := 3) (r := r') (by decide))]
theorem t_cp01 {X : aX} {q : Nat → Nat → Int32} {r' : Nat → Int32} {D : aD} : cl X 116 [aR (21, 0, 0), aR (22, 0, 0)] (mem (rq q 4 r', D)) = some (none, mem (rq q 4 (row94 r' (q 3)), D)) := by
  simp only [nl_n, nl_i, nl_r, x_ci, x_ca, x_bin, x_ife, x_ifl, x_ifg, x_cme, x_cml, x_cmg, x_go, x_no, x_b, x_ps, x_pn, cs_n, cs_i, cs_j, cs_r, en_n, en_i, en_j, en_r, xs2n, xs2i, xs2r, xi2, xa1, xa0, l_3, l_5, l_8, l_11, l_12, l_21, l_22, l_23, l_24, l_25, l_26, l_28, l_29, l_30, l_31, l_32, s_3, s_5, s_8, s_11, s_12, s_21, s_22, s_23, s_24, s_25, s_26, s_28, s_29, s_30, s_31, s_32, xn2n, xn2i, xn2r, r_i, r_j, r_v, r_z1, r_z0, r_a, e116_0, e116_1, e116_3, e116_5, e116_8, e116_9, e116_10, e116_11, e116_12, e116_13, e116_14, e116_17, e116_20, c116, i10, i00, n2, n10, n20, n60, n8, n9, bi0, ite_not, List.replicate, Nat.reduceAdd, Nat.reduceSub, Nat.reduceLeDiff, Nat.reduceLT, if_true, if_false, mg, reduceIte, not_false_eq_true, eq_self, and_self, and_true, true_and, true_or, or_true, Nat.reduceEqDiff]
  rw [l_cp01 94 0 r' (by omega), cp_94 r' (q 3) 94 0 (by omega)]
  have e : (fun p => if 0 ≤ p ∧ p < 94 then q 3 p else r' p) = row94 r' (q 3) := by
    funext p
    unfold row94
    simp
  rw [e]
theorem l_cp10 {X : aX} {q : Nat → Nat → Int32} {D : aD} : ∀ k i r', i + k = 94 → go X 116 2 [some (aR (22, 0, 0)), some (aR (21, 0, 0)), some (aI (nI i))] [] (mem (rq q 3 r', D)) = some (none, mem (rq q 3 (lp (fun i r' => upd r' i (q 4 i)) k i r'), D)) := by
  intro k
  induction k with
  | zero =>
    intro i r' h
    rw [e116_2]
    simp only [nl_n, nl_i, nl_r, x_ci, x_ca, x_bin, x_ife, x_ifl, x_ifg, x_cme, x_cml, x_cmg, x_go, x_no, x_b, x_ps, x_pn, cs_n, cs_i, cs_j, cs_r, en_n, en_i, en_j, en_r, xs2n, xs2i, xs2r, xi2, xa1, xa0, l_3, l_5, l_8, l_11, l_12, l_21, l_22, l_23, l_24, l_25, l_26, l_28, l_29, l_30, l_31, l_32, s_3, s_5, s_8, s_11, s_12, s_21, s_22, s_23, s_24, s_25, s_26, s_28, s_29, s_30, s_31, s_32, xn2n, xn2i, xn2r, r_i, r_j, r_v, r_z1, r_z0, r_a, e116_0, e116_1, e116_3, e116_5, e116_8, e116_9, e116_10, e116_11, e116_12, e116_13, e116_14, e116_17, e116_20, c116, i10, i00, n2, n10, n20, n60, n8, n9, bi0, ite_not, List.replicate, Nat.reduceAdd, Nat.reduceSub, Nat.reduceLeDiff, Nat.reduceLT, if_true, if_false, mg, reduceIte, not_false_eq_true, eq_self, and_self, and_true, true_and, true_or, or_true, Nat.reduceEqDiff, (nI_nlt (show 94 ≤ i by omega) (by omega))]
    rfl
  | succ k ih =>
    intro i r' h
    have hi : i < 94 := by omega
    rw [e116_2, lp_s, ← ih (i + 1) _ (by omega)]
    simp only [nl_n, nl_i, nl_r, x_ci, x_ca, x_bin, x_ife, x_ifl, x_ifg, x_cme, x_cml, x_cmg, x_go, x_no, x_b, x_ps, x_pn, cs_n, cs_i, cs_j, cs_r, en_n, en_i, en_j, en_r, xs2n, xs2i, xs2r, xi2, xa1, xa0, l_3, l_5, l_8, l_11, l_12, l_21, l_22, l_23, l_24, l_25, l_26, l_28, l_29, l_30, l_31, l_32, s_3, s_5, s_8, s_11, s_12, s_21, s_22, s_23, s_24, s_25, s_26, s_28, s_29, s_30, s_31, s_32, xn2n, xn2i, xn2r, r_i, r_j, r_v, r_z1, r_z0, r_a, e116_0, e116_1, e116_3, e116_5, e116_8, e116_9, e116_10, e116_11, e116_12, e116_13, e116_14, e116_17, e116_20, c116, i10, i00, n2, n10, n20, n60, n8, n9, bi0, ite_not, List.replicate, Nat.reduceAdd, Nat.reduceSub, Nat.reduceLeDiff, Nat.reduceLT, if_true, if_false, mg, reduceIte, not_false_eq_true, eq_self, and_self, and_true, true_and, true_or, or_true, Nat.reduceEqDiff, hi, (nI_lt (show i < 94 by omega) (by omega)), nI_add, rq_at, uq_rq, rq_rq, (rq_ne (q := q) (a := 3) (a2 := 4) (r := r') (by decide))]
theorem t_cp10 {X : aX} {q : Nat → Nat → Int32} {r' : Nat → Int32} {D : aD} : cl X 116 [aR (22, 0, 0), aR (21, 0, 0)] (mem (rq q 3 r', D)) = some (none, mem (rq q 3 (row94 r' (q 4)), D)) := by
  simp only [nl_n, nl_i, nl_r, x_ci, x_ca, x_bin, x_ife, x_ifl, x_ifg, x_cme, x_cml, x_cmg, x_go, x_no, x_b, x_ps, x_pn, cs_n, cs_i, cs_j, cs_r, en_n, en_i, en_j, en_r, xs2n, xs2i, xs2r, xi2, xa1, xa0, l_3, l_5, l_8, l_11, l_12, l_21, l_22, l_23, l_24, l_25, l_26, l_28, l_29, l_30, l_31, l_32, s_3, s_5, s_8, s_11, s_12, s_21, s_22, s_23, s_24, s_25, s_26, s_28, s_29, s_30, s_31, s_32, xn2n, xn2i, xn2r, r_i, r_j, r_v, r_z1, r_z0, r_a, e116_0, e116_1, e116_3, e116_5, e116_8, e116_9, e116_10, e116_11, e116_12, e116_13, e116_14, e116_17, e116_20, c116, i10, i00, n2, n10, n20, n60, n8, n9, bi0, ite_not, List.replicate, Nat.reduceAdd, Nat.reduceSub, Nat.reduceLeDiff, Nat.reduceLT, if_true, if_false, mg, reduceIte, not_false_eq_true, eq_self, and_self, and_true, true_and, true_or, or_true, Nat.reduceEqDiff]
  rw [l_cp10 94 0 r' (by omega), cp_94 r' (q 4) 94 0 (by omega)]
  have e : (fun p => if 0 ≤ p ∧ p < 94 then q 4 p else r' p) = row94 r' (q 4) := by
    funext p
    unfold row94
    simp
  rw [e]
def fdD (k : Nat) (D : aD) : aD := uD (uD D (24, 0, 0) (k + 1) (D (24, 0, 0) (k + 1) + nI 1)) (24, 0, 0) 0 (D (24, 0, 0) 0 + nI 1)
def tlD (k : Nat) (D : aD) : aD := uD D (12, 0, 0) k (D (12, 0, 0) k + nI 1)
theorem t_find {X : aX} {S : aS} {k : Nat} {w : Int32} (hk : k < 7) (h : -1000001 - w + nI 1 = nI (k + 1)) : cl X 113 [aR (20, 0, 0), aI w] (mem S) = some (some (aI w), mem (S.1, fdD k S.2)) := by
  have hk8 : k + 1 < 8 := by omega
  have e : ∀ (D : aD) x, uD D (24, 0, 0) (k + 1) x (24, 0, 0) 0 = D (24, 0, 0) 0 := fun D x => if_neg (fun w => by have := w.2; omega)
  simp only [nl_n, nl_i, nl_r, x_ci, x_ca, x_bin, x_ife, x_ifl, x_ifg, x_cme, x_cml, x_cmg, x_go, x_no, x_b, x_ps, x_pn, cs_n, cs_i, cs_j, cs_r, en_n, en_i, en_j, en_r, xa0, g_20_4, xi1, x_dp2, l_3, l_5, l_8, l_11, l_12, l_21, l_22, l_23, l_24, l_25, l_26, l_28, l_29, l_30, l_31, l_32, s_3, s_5, s_8, s_11, s_12, s_21, s_22, s_23, s_24, s_25, s_26, s_28, s_29, s_30, s_31, s_32, r_i, r_j, r_v, r_z1, r_z0, r_a, e113_0, e113_1, e113_4, e113_6, e113_7, e113_8, e113_9, e113_10, e113_11, e113_12, e113_13, e113_14, e113_15, e113_16, e113_19, e113_20, e113_21, e113_22, e113_23, e113_24, e113_25, e113_26, c113, i10, i00, n2, n10, n20, n60, n8, n9, bi0, ite_not, List.replicate, Nat.reduceAdd, Nat.reduceSub, Nat.reduceLeDiff, Nat.reduceLT, if_true, if_false, mg, reduceIte, not_false_eq_true, eq_self, and_self, and_true, true_and, true_or, or_true, Nat.reduceEqDiff, h, hk8, e]
  rfl
theorem t_tell {X : aX} {S : aS} {k : Nat} (hk : k < 7) : cl X 101 [aR (0, 0, 0), aI (nI k)] (mem S) = some (some (aI (-1000001 - nI k)), mem (S.1, tlD k S.2)) := by
  simp only [nl_n, nl_i, nl_r, x_ci, x_ca, x_bin, x_ife, x_ifl, x_ifg, x_cme, x_cml, x_cmg, x_go, x_no, x_b, x_ps, x_pn, cs_n, cs_i, cs_j, cs_r, en_n, en_i, en_j, en_r, xa0, g_0_5, xi1, x_dp2, l_3, l_5, l_8, l_11, l_12, l_21, l_22, l_23, l_24, l_25, l_26, l_28, l_29, l_30, l_31, l_32, s_3, s_5, s_8, s_11, s_12, s_21, s_22, s_23, s_24, s_25, s_26, s_28, s_29, s_30, s_31, s_32, r_i, r_j, r_v, r_z1, r_z0, r_a, e101_0, e101_1, e101_4, e101_5, e101_6, e101_7, e101_8, e101_9, e101_10, e101_12, e101_13, e101_14, c101, i10, i00, n2, n10, n20, n60, n8, n9, bi0, ite_not, List.replicate, Nat.reduceAdd, Nat.reduceSub, Nat.reduceLeDiff, Nat.reduceLT, if_true, if_false, mg, reduceIte, not_false_eq_true, eq_self, and_self, and_true, true_and, true_or, or_true, Nat.reduceEqDiff, hk]
  rfl
theorem fnd0 {X : aX} {S : aS} : cl X 113 [aR (20, 0, 0), aI (-1000001)] (mem S) = some (some (aI (-1000001)), mem (S.1, fdD 0 S.2)) := t_find (by decide) (by decide +kernel)
theorem tel0 {X : aX} {S : aS} : cl X 101 [aR (0, 0, 0), aI (nI 0)] (mem S) = some (some (aI (-1000001)), mem (S.1, tlD 0 S.2)) := by
  rw [t_tell (by decide), show (-1000001 - nI 0 : Int32) = -1000001 by decide +kernel]
theorem fnd1 {X : aX} {S : aS} : cl X 113 [aR (20, 0, 0), aI (-1000002)] (mem S) = some (some (aI (-1000002)), mem (S.1, fdD 1 S.2)) := t_find (by decide) (by decide +kernel)
theorem tel1 {X : aX} {S : aS} : cl X 101 [aR (0, 0, 0), aI (nI 1)] (mem S) = some (some (aI (-1000002)), mem (S.1, tlD 1 S.2)) := by
  rw [t_tell (by decide), show (-1000001 - nI 1 : Int32) = -1000002 by decide +kernel]
theorem fnd2 {X : aX} {S : aS} : cl X 113 [aR (20, 0, 0), aI (-1000003)] (mem S) = some (some (aI (-1000003)), mem (S.1, fdD 2 S.2)) := t_find (by decide) (by decide +kernel)
theorem tel2 {X : aX} {S : aS} : cl X 101 [aR (0, 0, 0), aI (nI 2)] (mem S) = some (some (aI (-1000003)), mem (S.1, tlD 2 S.2)) := by
  rw [t_tell (by decide), show (-1000001 - nI 2 : Int32) = -1000003 by decide +kernel]
theorem fnd3 {X : aX} {S : aS} : cl X 113 [aR (20, 0, 0), aI (-1000004)] (mem S) = some (some (aI (-1000004)), mem (S.1, fdD 3 S.2)) := t_find (by decide) (by decide +kernel)
theorem tel3 {X : aX} {S : aS} : cl X 101 [aR (0, 0, 0), aI (nI 3)] (mem S) = some (some (aI (-1000004)), mem (S.1, tlD 3 S.2)) := by
  rw [t_tell (by decide), show (-1000001 - nI 3 : Int32) = -1000004 by decide +kernel]
theorem fnd4 {X : aX} {S : aS} : cl X 113 [aR (20, 0, 0), aI (-1000005)] (mem S) = some (some (aI (-1000005)), mem (S.1, fdD 4 S.2)) := t_find (by decide) (by decide +kernel)
theorem tel4 {X : aX} {S : aS} : cl X 101 [aR (0, 0, 0), aI (nI 4)] (mem S) = some (some (aI (-1000005)), mem (S.1, tlD 4 S.2)) := by
  rw [t_tell (by decide), show (-1000001 - nI 4 : Int32) = -1000005 by decide +kernel]
theorem fnd5 {X : aX} {S : aS} : cl X 113 [aR (20, 0, 0), aI (-1000006)] (mem S) = some (some (aI (-1000006)), mem (S.1, fdD 5 S.2)) := t_find (by decide) (by decide +kernel)
theorem tel5 {X : aX} {S : aS} : cl X 101 [aR (0, 0, 0), aI (nI 5)] (mem S) = some (some (aI (-1000006)), mem (S.1, tlD 5 S.2)) := by
  rw [t_tell (by decide), show (-1000001 - nI 5 : Int32) = -1000006 by decide +kernel]
theorem fnd6 {X : aX} {S : aS} : cl X 113 [aR (20, 0, 0), aI (-1000007)] (mem S) = some (some (aI (-1000007)), mem (S.1, fdD 6 S.2)) := t_find (by decide) (by decide +kernel)
theorem tel6 {X : aX} {S : aS} : cl X 101 [aR (0, 0, 0), aI (nI 6)] (mem S) = some (some (aI (-1000007)), mem (S.1, tlD 6 S.2)) := by
  rw [t_tell (by decide), show (-1000001 - nI 6 : Int32) = -1000007 by decide +kernel]
/-! WHAT HOLDS BETWEEN THE CALLS -/
def FJ (D : aD) : Prop := (∀ j, j < 7 → D (24, 0, 0) (j + 1) = D (12, 0, 0) j) ∧ D (24, 0, 0) 0 = sumF (fun j => D (12, 0, 0) j) 7
def TJ (D : aD) : Prop := ∃ t, t ≤ 120 ∧ D (7, 0, 0) 1 = nI t ∧ D (20, 0, 0) 8 = nI t ∧ ∀ j, j < t → D (8, 0, 0) j = D (26, 0, 0) j ∧ inN 255 (D (8, 0, 0) j)
def HJ1 (D : aD) (s : Nat) : Prop := ∃ b m, (b = 0 ∨ b = 8 ∨ b = 16 ∨ b = 32) ∧ m ≤ 40 ∧ (b = 0 → m = 0) ∧ D (10, s, 0) 1 = nI b ∧ D (29, 0, 0) s = nI b ∧ D (10, s, 0) 2 = nI m ∧ D (30, 0, 0) s = nI m ∧ ∀ j, j < 40 → D (11, s, 0) j = D (31, 0, 0) (40 * s + j)
def KJ (D : aD) : Prop := (D (0, 0, 0) 6 = nI 0 ∨ D (0, 0, 0) 6 = nI 1) ∧ D (20, 0, 0) 3 = D (0, 0, 0) 6
def JD (D : aD) : Prop := FJ D ∧ TJ D ∧ (∀ s, s < 4 → HJ1 D s) ∧ KJ D
theorem nj {r : aL} {k : Nat} (h : r.1 = 0 ∨ r.1 = 8 ∨ r.1 = 10 ∨ r.1 = 11 ∨ r.1 = 12 ∨ r.1 = 24 ∨ r.1 = 26 ∨ r.1 = 29 ∨ r.1 = 30 ∨ r.1 = 31 ∨ (r.1 = 7 ∧ k < 2) ∨ (r.1 = 20 ∧ (k = 3 ∨ k = 8))) : ¬ jk r k := by
  unfold jk
  omega
theorem JD_c {D D' : aD} (h : eqJ D D') (hd : JD D) : JD D' := by
  obtain ⟨⟨f1, f2⟩, ⟨t, t1, t2, t3, t4⟩, hs, k1, k2⟩ := hd
  have e24 : ∀ j, D' (24, 0, 0) j = D (24, 0, 0) j := fun j => h _ _ (nj (by simp))
  have e12 : ∀ j, D' (12, 0, 0) j = D (12, 0, 0) j := fun j => h _ _ (nj (by simp))
  have e8 : ∀ j, D' (8, 0, 0) j = D (8, 0, 0) j := fun j => h _ _ (nj (by simp))
  have e26 : ∀ j, D' (26, 0, 0) j = D (26, 0, 0) j := fun j => h _ _ (nj (by simp))
  have e10 : ∀ s j, D' (10, s, 0) j = D (10, s, 0) j := fun s j => h _ _ (nj (by simp))
  have e11 : ∀ s j, D' (11, s, 0) j = D (11, s, 0) j := fun s j => h _ _ (nj (by simp))
  have e29 : ∀ j, D' (29, 0, 0) j = D (29, 0, 0) j := fun j => h _ _ (nj (by simp))
  have e30 : ∀ j, D' (30, 0, 0) j = D (30, 0, 0) j := fun j => h _ _ (nj (by simp))
  have e31 : ∀ j, D' (31, 0, 0) j = D (31, 0, 0) j := fun j => h _ _ (nj (by simp))
  have e0 : ∀ j, D' (0, 0, 0) j = D (0, 0, 0) j := fun j => h _ _ (nj (by simp))
  have e7 : D' (7, 0, 0) 1 = D (7, 0, 0) 1 := h _ _ (nj (by simp))
  have e203 : D' (20, 0, 0) 3 = D (20, 0, 0) 3 := h _ _ (nj (by simp))
  have e208 : D' (20, 0, 0) 8 = D (20, 0, 0) 8 := h _ _ (nj (by simp))
  refine ⟨⟨fun j hj => by rw [e24, e12]; exact f1 j hj, ?_⟩, ⟨t, t1, by rw [e7]; exact t2, by rw [e208]; exact t3, fun j hj => by rw [e8, e26]; exact t4 j hj⟩, fun s h => ?_, by rw [e0]; exact k1, by rw [e203, e0]; exact k2⟩
  · rw [e24]
    simp only [e12]
    exact f2
  · obtain ⟨b, m, h1, h2, h3, h4, h5, h6, h7, h8⟩ := hs s h
    exact ⟨b, m, h1, h2, h3, by rw [e10]; exact h4, by rw [e29]; exact h5, by rw [e10]; exact h6, by rw [e30]; exact h7, fun j hj => by rw [e11, e31]; exact h8 j hj⟩
def J (S : aS) : Prop := (∃ n, RI n (S.1 0) ∧ ag n (S.1 0) (S.1 3)) ∧ (S.2 (0, 0, 0) 6 = nI 1 → ∃ n, RI n (S.1 2) ∧ ag n (S.1 2) (S.1 4)) ∧ JD S.2
