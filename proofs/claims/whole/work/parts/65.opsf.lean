/-! the reference's searches -/
theorem l_up {X : aX} {q : Nat → Nat → Int32} {n p : Nat} {v : Int32} (hp : p < 94) : ∀ k i r D, i + k = 400 → RI n r → ∃ r1 D1, eqJ D D1 ∧ go X 160 13 [some (aR (20, 0, 0)), some (aI (nI p)), some (aI v), some (aI (nI i))] [] (mem (rq q 3 r, D)) = some (some (aI (srch (fun r => ¬ r p < v) n k i r)), mem (rq q 3 (row94 r1 (q 5)), D1)) := by
  have e5 : ∀ (q : Nat → Nat → Int32) r, rq q 3 r 5 = q 5 := fun q r => rfl
  intro k
  induction k with
  | zero =>
    intro i r D h hr
    have hi : i = 400 := by omega
    subst hi
    refine ⟨r, D, eqJ_rfl D, ?_⟩
    rw [e160_13]
    unfold srch
    simp only [nl_n, nl_i, nl_r, x_ci, x_ca, x_bin, x_ife, x_ifl, x_ifg, x_cme, x_cml, x_cmg, x_go, x_no, x_b, x_ps, x_pn, cs_n, cs_i, cs_j, cs_r, en_n, en_i, en_j, en_r, xa0, g_20_0, g_20_2, x_k2_s, xs3n, xs3i, xs3r, xi3, xi1, l_3, l_5, l_8, l_11, l_12, l_21, l_22, l_23, l_24, l_25, l_26, l_28, l_29, l_30, l_31, l_32, xi2, x_k1_20, xn3n, xn3i, xn3r, x_k2_20, r_i, r_j, r_v, r_z1, r_z0, r_a, e160_0, e160_1, e160_4, e160_5, e160_8, e160_11, e160_12, e160_14, e160_17, e160_20, e160_21, e160_24, e160_25, e160_26, e160_27, e160_30, e160_31, e160_34, e160_37, e160_40, e160_41, e160_42, e160_45, e160_46, e160_47, e160_48, e160_51, e160_52, e160_55, e160_56, e160_59, c160, i10, i00, n2, n10, n20, n60, n8, n9, bi0, ite_not, List.replicate, Nat.reduceAdd, Nat.reduceSub, Nat.reduceLeDiff, Nat.reduceLT, if_true, if_false, mg, reduceIte, not_false_eq_true, eq_self, and_self, and_true, true_and, true_or, or_true, Nat.reduceEqDiff, hp, (nI_nlt (Nat.le_refl 400) (by decide)), rq_at, rq_rq, t_putBack, e5]
  | succ k ih =>
    intro i r D h hr
    by_cases c : r p < v
    · obtain ⟨D', hD', hd⟩ := t_day (X := X) (q := q) (D := D) hr
      obtain ⟨r1, D1, hD1, h1⟩ := ih (i + 1) (dayR n r) D' (by omega) (RI_day hr)
      refine ⟨r1, D1, eqJ_tr hD' hD1, ?_⟩
      rw [srch_s, if_neg (fun w => w c), ← h1, e160_13]
      simp only [nl_n, nl_i, nl_r, x_ci, x_ca, x_bin, x_ife, x_ifl, x_ifg, x_cme, x_cml, x_cmg, x_go, x_no, x_b, x_ps, x_pn, cs_n, cs_i, cs_j, cs_r, en_n, en_i, en_j, en_r, xa0, g_20_0, g_20_2, x_k2_s, xs3n, xs3i, xs3r, xi3, xi1, l_3, l_5, l_8, l_11, l_12, l_21, l_22, l_23, l_24, l_25, l_26, l_28, l_29, l_30, l_31, l_32, xi2, x_k1_20, xn3n, xn3i, xn3r, x_k2_20, r_i, r_j, r_v, r_z1, r_z0, r_a, e160_0, e160_1, e160_4, e160_5, e160_8, e160_11, e160_12, e160_14, e160_17, e160_20, e160_21, e160_24, e160_25, e160_26, e160_27, e160_30, e160_31, e160_34, e160_37, e160_41, e160_42, e160_45, e160_46, e160_47, e160_48, e160_51, e160_52, e160_55, e160_56, e160_59, c160, i10, i00, n2, n10, n20, n60, n8, n9, bi0, ite_not, List.replicate, Nat.reduceAdd, Nat.reduceSub, Nat.reduceLeDiff, Nat.reduceLT, if_true, if_false, mg, reduceIte, not_false_eq_true, eq_self, and_self, and_true, true_and, true_or, or_true, Nat.reduceEqDiff, hp, (nI_lt (show i < 400 by omega) (by decide)), rq_at, c, hd, nI_add]
    · refine ⟨r, D, eqJ_rfl D, ?_⟩
      rw [srch_s, if_pos c, e160_13]
      simp only [nl_n, nl_i, nl_r, x_ci, x_ca, x_bin, x_ife, x_ifl, x_ifg, x_cme, x_cml, x_cmg, x_go, x_no, x_b, x_ps, x_pn, cs_n, cs_i, cs_j, cs_r, en_n, en_i, en_j, en_r, xa0, g_20_0, g_20_2, x_k2_s, xs3n, xs3i, xs3r, xi3, xi1, l_3, l_5, l_8, l_11, l_12, l_21, l_22, l_23, l_24, l_25, l_26, l_28, l_29, l_30, l_31, l_32, xi2, x_k1_20, xn3n, xn3i, xn3r, x_k2_20, r_i, r_j, r_v, r_z1, r_z0, r_a, e160_0, e160_1, e160_4, e160_5, e160_8, e160_11, e160_12, e160_14, e160_17, e160_20, e160_21, e160_24, e160_25, e160_26, e160_27, e160_30, e160_31, e160_34, e160_37, e160_40, e160_41, e160_42, e160_45, e160_46, e160_47, e160_48, e160_51, e160_52, e160_55, e160_56, e160_59, c160, i10, i00, n2, n10, n20, n60, n8, n9, bi0, ite_not, List.replicate, Nat.reduceAdd, Nat.reduceSub, Nat.reduceLeDiff, Nat.reduceLT, if_true, if_false, mg, reduceIte, not_false_eq_true, eq_self, and_self, and_true, true_and, true_or, or_true, Nat.reduceEqDiff, hp, (nI_lt (show i < 400 by omega) (by decide)), rq_at, rq_rq, c, t_putBack, e5]
theorem l_to {X : aX} {q : Nat → Nat → Int32} {n a b : Nat} (ha : a < n) (hb : b < n) : ∀ k i r D, i + k = 400 → RI n r → ∃ r1 D1, eqJ D D1 ∧ go X 157 13 [some (aR (20, 0, 0)), some (aI (nI a)), some (aI (nI b)), some (aI (nI i))] [] (mem (rq q 3 r, D)) = some (some (aI (srch (fun r => sgP r a ∧ sgP r b) n k i r)), mem (rq q 3 (row94 r1 (q 5)), D1)) := by
  have e5 : ∀ (q : Nat → Nat → Int32) r, rq q 3 r 5 = q 5 := fun q r => rfl
  intro k
  induction k with
  | zero =>
    intro i r D h hr
    have hn := hr.1
    have hi : i = 400 := by omega
    subst hi
    have ta := t_does (X := X) (S := (rq q 3 r, D)) (i := a) (by omega) (RI_d (rq_RI hr) ha)
    have tb := t_does (X := X) (S := (rq q 3 r, D)) (i := b) (by omega) (RI_d (rq_RI hr) hb)
    refine ⟨r, D, eqJ_rfl D, ?_⟩
    rw [e157_13]
    unfold srch
    simp only [nl_n, nl_i, nl_r, x_ci, x_ca, x_bin, x_ife, x_ifl, x_ifg, x_cme, x_cml, x_cmg, x_go, x_no, x_b, x_ps, x_pn, cs_n, cs_i, cs_j, cs_r, en_n, en_i, en_j, en_r, xa0, g_20_0, g_20_2, x_k2_s, xs3n, xs3i, xs3r, xi3, xi1, x_k2_20, xi2, x_k1_20, xn3n, xn3i, xn3r, r_i, r_j, r_v, r_z1, r_z0, r_a, e157_0, e157_1, e157_4, e157_5, e157_8, e157_11, e157_12, e157_14, e157_17, e157_20, e157_21, e157_22, e157_25, e157_28, e157_29, e157_30, e157_33, e157_36, e157_37, e157_40, e157_43, e157_46, e157_47, e157_48, e157_49, e157_52, e157_55, e157_56, e157_57, e157_60, e157_63, e157_64, e157_67, e157_68, e157_71, c157, i10, i00, n2, n10, n20, n60, n8, n9, bi0, ite_not, List.replicate, Nat.reduceAdd, Nat.reduceSub, Nat.reduceLeDiff, Nat.reduceLT, if_true, if_false, mg, reduceIte, not_false_eq_true, eq_self, and_self, and_true, true_and, true_or, or_true, Nat.reduceEqDiff, (nI_nlt (Nat.le_refl 400) (by decide)), rq_at, rq_rq, ta, tb, t_putBack, e5]
    by_cases c1 : sgP r a
    · by_cases c2 : sgP r b
      · rw [if_pos c1, if_pos c2, if_pos ⟨c1, c2⟩]
      · rw [if_pos c1, if_neg c2, if_neg (fun w => c2 w.2)]
    · rw [if_neg c1, if_neg (fun w => c1 w.1)]
  | succ k ih =>
    intro i r D h hr
    have hn := hr.1
    have ta := t_does (X := X) (S := (rq q 3 r, D)) (i := a) (by omega) (RI_d (rq_RI hr) ha)
    have tb := t_does (X := X) (S := (rq q 3 r, D)) (i := b) (by omega) (RI_d (rq_RI hr) hb)
    by_cases c : sgP r a ∧ sgP r b
    · refine ⟨r, D, eqJ_rfl D, ?_⟩
      rw [srch_s, if_pos c, e157_13]
      simp only [nl_n, nl_i, nl_r, x_ci, x_ca, x_bin, x_ife, x_ifl, x_ifg, x_cme, x_cml, x_cmg, x_go, x_no, x_b, x_ps, x_pn, cs_n, cs_i, cs_j, cs_r, en_n, en_i, en_j, en_r, xa0, g_20_0, g_20_2, x_k2_s, xs3n, xs3i, xs3r, xi3, xi1, x_k2_20, xi2, x_k1_20, xn3n, xn3i, xn3r, r_i, r_j, r_v, r_z1, r_z0, r_a, e157_0, e157_1, e157_4, e157_5, e157_8, e157_11, e157_12, e157_14, e157_17, e157_20, e157_21, e157_22, e157_25, e157_28, e157_29, e157_30, e157_33, e157_36, e157_37, e157_40, e157_43, e157_46, e157_47, e157_48, e157_49, e157_52, e157_55, e157_56, e157_57, e157_60, e157_63, e157_64, e157_67, e157_68, e157_71, c157, i10, i00, n2, n10, n20, n60, n8, n9, bi0, ite_not, List.replicate, Nat.reduceAdd, Nat.reduceSub, Nat.reduceLeDiff, Nat.reduceLT, if_true, if_false, mg, reduceIte, not_false_eq_true, eq_self, and_self, and_true, true_and, true_or, or_true, Nat.reduceEqDiff, (nI_lt (show i < 400 by omega) (by decide)), rq_at, rq_rq, ta, tb, (bi_t c.1), (bi_t c.2), t_putBack, e5]
    · obtain ⟨D', hD', hd⟩ := t_day (X := X) (q := q) (D := D) hr
      obtain ⟨r1, D1, hD1, h1⟩ := ih (i + 1) (dayR n r) D' (by omega) (RI_day hr)
      refine ⟨r1, D1, eqJ_tr hD' hD1, ?_⟩
      rw [srch_s, if_neg c, ← h1, e157_13]
      simp only [nl_n, nl_i, nl_r, x_ci, x_ca, x_bin, x_ife, x_ifl, x_ifg, x_cme, x_cml, x_cmg, x_go, x_no, x_b, x_ps, x_pn, cs_n, cs_i, cs_j, cs_r, en_n, en_i, en_j, en_r, xa0, g_20_0, g_20_2, x_k2_s, xs3n, xs3i, xs3r, xi3, xi1, x_k2_20, xi2, x_k1_20, xn3n, xn3i, xn3r, r_i, r_j, r_v, r_z1, r_z0, r_a, e157_0, e157_1, e157_4, e157_5, e157_8, e157_11, e157_12, e157_14, e157_17, e157_20, e157_21, e157_22, e157_25, e157_28, e157_29, e157_30, e157_33, e157_36, e157_37, e157_40, e157_43, e157_47, e157_48, e157_49, e157_52, e157_55, e157_56, e157_57, e157_60, e157_63, e157_64, e157_67, e157_68, e157_71, c157, i10, i00, n2, n10, n20, n60, n8, n9, bi0, ite_not, List.replicate, Nat.reduceAdd, Nat.reduceSub, Nat.reduceLeDiff, Nat.reduceLT, if_true, if_false, mg, reduceIte, not_false_eq_true, eq_self, and_self, and_true, true_and, true_or, or_true, Nat.reduceEqDiff, (nI_lt (show i < 400 by omega) (by decide)), rq_at, ta, tb, hd, nI_add]
      by_cases c1 : sgP r a
      · rw [if_pos c1, if_neg (fun w => c ⟨c1, w⟩)]
      · rw [if_neg c1]
theorem t_up {X : aX} {S : aS} {n p : Nat} {v : Int32} (hp : p < 94) (hr : RI n (S.1 3)) : ∃ r1 D1, eqJ S.2 D1 ∧ cl X 160 [aR (20, 0, 0), aI (nI p), aI v] (mem S) = some (some (aI (srch (fun r => ¬ r p < v) n 400 0 (S.1 3))), mem (rq (rq S.1 5 (row94 (S.1 5) (S.1 3))) 3 (row94 r1 (row94 (S.1 5) (S.1 3))), D1)) := by
  obtain ⟨r1, D1, h1, h2⟩ := l_up (X := X) (q := rq S.1 5 (row94 (S.1 5) (S.1 3))) (v := v) hp 400 0 (S.1 3) S.2 (by omega) hr
  refine ⟨r1, D1, h1, ?_⟩
  rw [show rq (rq S.1 5 (row94 (S.1 5) (S.1 3))) 3 (S.1 3) = rq S.1 5 (row94 (S.1 5) (S.1 3)) by rw [rq_sw (by decide), rq_self]] at h2
  simp only [nl_n, nl_i, nl_r, x_ci, x_ca, x_bin, x_ife, x_ifl, x_ifg, x_cme, x_cml, x_cmg, x_go, x_no, x_b, x_ps, x_pn, cs_n, cs_i, cs_j, cs_r, en_n, en_i, en_j, en_r, xa0, g_20_0, g_20_2, x_k2_s, xs3n, xs3i, xs3r, xi3, xi1, l_3, l_5, l_8, l_11, l_12, l_21, l_22, l_23, l_24, l_25, l_26, l_28, l_29, l_30, l_31, l_32, xi2, x_k1_20, xn3n, xn3i, xn3r, x_k2_20, r_i, r_j, r_v, r_z1, r_z0, r_a, e160_0, e160_1, e160_4, e160_5, e160_8, e160_11, e160_12, e160_14, e160_17, e160_20, e160_21, e160_24, e160_25, e160_26, e160_27, e160_30, e160_31, e160_34, e160_37, e160_40, e160_41, e160_42, e160_45, e160_46, e160_47, e160_48, e160_51, e160_52, e160_55, e160_56, e160_59, c160, i10, i00, n2, n10, n20, n60, n8, n9, bi0, ite_not, List.replicate, Nat.reduceAdd, Nat.reduceSub, Nat.reduceLeDiff, Nat.reduceLT, if_true, if_false, mg, reduceIte, not_false_eq_true, eq_self, and_self, and_true, true_and, true_or, or_true, Nat.reduceEqDiff, t_aside]
  exact h2
theorem t_to {X : aX} {S : aS} {n a b : Nat} (ha : a < n) (hb : b < n) (hr : RI n (S.1 3)) : ∃ r1 D1, eqJ S.2 D1 ∧ cl X 157 [aR (20, 0, 0), aI (nI a), aI (nI b)] (mem S) = some (some (aI (srch (fun r => sgP r a ∧ sgP r b) n 400 0 (S.1 3))), mem (rq (rq S.1 5 (row94 (S.1 5) (S.1 3))) 3 (row94 r1 (row94 (S.1 5) (S.1 3))), D1)) := by
  obtain ⟨r1, D1, h1, h2⟩ := l_to (X := X) (q := rq S.1 5 (row94 (S.1 5) (S.1 3))) ha hb 400 0 (S.1 3) S.2 (by omega) hr
  refine ⟨r1, D1, h1, ?_⟩
  rw [show rq (rq S.1 5 (row94 (S.1 5) (S.1 3))) 3 (S.1 3) = rq S.1 5 (row94 (S.1 5) (S.1 3)) by rw [rq_sw (by decide), rq_self]] at h2
  simp only [nl_n, nl_i, nl_r, x_ci, x_ca, x_bin, x_ife, x_ifl, x_ifg, x_cme, x_cml, x_cmg, x_go, x_no, x_b, x_ps, x_pn, cs_n, cs_i, cs_j, cs_r, en_n, en_i, en_j, en_r, xa0, g_20_0, g_20_2, x_k2_s, xs3n, xs3i, xs3r, xi3, xi1, x_k2_20, xi2, x_k1_20, xn3n, xn3i, xn3r, r_i, r_j, r_v, r_z1, r_z0, r_a, e157_0, e157_1, e157_4, e157_5, e157_8, e157_11, e157_12, e157_14, e157_17, e157_20, e157_21, e157_22, e157_25, e157_28, e157_29, e157_30, e157_33, e157_36, e157_37, e157_40, e157_43, e157_46, e157_47, e157_48, e157_49, e157_52, e157_55, e157_56, e157_57, e157_60, e157_63, e157_64, e157_67, e157_68, e157_71, c157, i10, i00, n2, n10, n20, n60, n8, n9, bi0, ite_not, List.replicate, Nat.reduceAdd, Nat.reduceSub, Nat.reduceLeDiff, Nat.reduceLT, if_true, if_false, mg, reduceIte, not_false_eq_true, eq_self, and_self, and_true, true_and, true_or, or_true, Nat.reduceEqDiff, t_aside]
  exact h2
theorem t_orNone {X : aX} {S : aS} {z : Int32} (h : z = -1 ∨ ∃ j, j ≤ 400 ∧ z = nI j) : cl X 118 [aR (20, 0, 0), aI z] (mem S) = if z = -1 then some (some (aI (-1000004)), mem (S.1, fdD 3 S.2)) else some (some (aI z), mem S) := by
  rcases h with rfl | ⟨j, hj, rfl⟩
  · simp only [nl_n, nl_i, nl_r, x_ci, x_ca, x_bin, x_ife, x_ifl, x_ifg, x_cme, x_cml, x_cmg, x_go, x_no, x_b, x_ps, x_pn, cs_n, cs_i, cs_j, cs_r, en_n, en_i, en_j, en_r, xi1, xa0, x_k2_20, r_i, r_j, r_v, r_z1, r_z0, r_a, e118_0, e118_1, e118_4, e118_5, e118_7, e118_10, e118_13, e118_14, c118, i10, i00, n2, n10, n20, n60, n8, n9, bi0, ite_not, List.replicate, Nat.reduceAdd, Nat.reduceSub, Nat.reduceLeDiff, Nat.reduceLT, if_true, if_false, mg, reduceIte, not_false_eq_true, eq_self, and_self, and_true, true_and, true_or, or_true, Nat.reduceEqDiff, m1_lt, fnd3]
  · rw [if_neg (nI_m1 (by omega))]
    simp only [nl_n, nl_i, nl_r, x_ci, x_ca, x_bin, x_ife, x_ifl, x_ifg, x_cme, x_cml, x_cmg, x_go, x_no, x_b, x_ps, x_pn, cs_n, cs_i, cs_j, cs_r, en_n, en_i, en_j, en_r, xi1, xa0, x_k2_20, r_i, r_j, r_v, r_z1, r_z0, r_a, e118_0, e118_1, e118_4, e118_5, e118_7, e118_10, e118_13, e118_14, c118, i10, i00, n2, n10, n20, n60, n8, n9, bi0, ite_not, List.replicate, Nat.reduceAdd, Nat.reduceSub, Nat.reduceLeDiff, Nat.reduceLT, if_true, if_false, mg, reduceIte, not_false_eq_true, eq_self, and_self, and_true, true_and, true_or, or_true, Nat.reduceEqDiff, (nI_pos (show j < 2 ^ 31 by omega))]
theorem eqJ_fd {k : Nat} {D D' : aD} (h : eqJ D D') : eqJ (fdD k D) (fdD k D') := by
  intro r j hj
  unfold fdD uD
  rw [h (24, 0, 0) 0 (nj (by simp)), h (24, 0, 0) (k + 1) (nj (by simp)), h r j hj]
theorem eqJ_tl {k : Nat} {D D' : aD} (h : eqJ D D') : eqJ (tlD k D) (tlD k D') := by
  intro r j hj
  unfold tlD uD
  rw [h (12, 0, 0) k (nj (by simp)), h r j hj]
theorem J_f {S : aS} {q' : Nat → Nat → Int32} {D1 D2 : aD} {k n : Nat} (hk : k < 7) (hJ : J S) (hR : RI n (q' 0)) (hA : ag n (q' 0) (q' 3)) (h2 : q' 2 = S.1 2) (h4 : q' 4 = S.1 4) (e1 : eqJ S.2 D1) (e2 : eqJ (tlD k D1) D2) : J (q', fdD k D2) := by
  have hJ' := J_fin hk hJ
  exact J_new (S := (S.1, fdD k (tlD k S.2))) hJ' hR hA h2 h4 (eqJ_fd (eqJ_tr (eqJ_tl e1) e2))
/-- a search on both sides -/
theorem op_sr {X : aX} {a b n : Nat} {as : List aV} {S : aS} {z : Int32} {r1 : Nat → Int32} {D1 : aD} (hJ : J S) (hR : RI n (S.1 0)) (hA : ag n (S.1 0) (S.1 3)) (hz : z = -1 ∨ ∃ j, j ≤ 400 ∧ z = nI j) (h1 : eqJ S.2 D1) (hx : cl X a (aR (0, 0, 0) :: as) (mem S) = rsO z (rq S.1 1 r1) D1) (hm : ∀ D, ∃ r3 D2, eqJ D D2 ∧ cl X b (aR (20, 0, 0) :: as) (mem (rq S.1 1 r1, D)) = if z = -1 then some (some (aI (-1000004)), mem (rq (rq (rq S.1 1 r1) 5 (row94 (S.1 5) (S.1 3))) 3 (row94 r3 (row94 (S.1 5) (S.1 3))), fdD 3 D2)) else some (some (aI z), mem (rq (rq (rq S.1 1 r1) 5 (row94 (S.1 5) (S.1 3))) 3 (row94 r3 (row94 (S.1 5) (S.1 3))), D2))) : opK X a b as S := by
  have hn := hR.1
  have ha : ∀ r3, ag n (S.1 0) (row94 r3 (row94 (S.1 5) (S.1 3))) := fun r3 => ag_tr hA (ag_sym (ag_tr (ag_94 hn _ _) (ag_94 hn _ _)))
  by_cases c : z = -1
  · obtain ⟨r3, D2, e2, h2⟩ := hm (tlD 3 D1)
    rw [if_pos c] at h2
    unfold rsO at hx
    rw [if_pos c] at hx
    exact ⟨_, _, _, hx, h2, J_f (by decide) hJ hR (ha r3) rfl rfl h1 e2⟩
  · obtain ⟨r3, D2, e2, h2⟩ := hm D1
    rw [if_neg c] at h2
    unfold rsO at hx
    rw [if_neg c] at hx
    exact ⟨_, _, _, hx, h2, J_new hJ hR (ha r3) rfl rfl (eqJ_tr h1 e2)⟩
theorem op_ci {α : Type} {c : Prop} [Decidable c] {x y : α} {f : α → aO} : (if c then f x else f y) = f (if c then x else y) := by split <;> rfl
theorem bnd_if {c : Prop} [Decidable c] {x y : aO} {f : Option aV → aM → aO} : bnd (if c then x else y) f = if c then bnd x f else bnd y f := by split <;> rfl
theorem rq13 {q : Nat → Nat → Int32} {r : Nat → Int32} : rq q 1 r 3 = q 3 := rfl
theorem rq15 {q : Nat → Nat → Int32} {r : Nat → Int32} : rq q 1 r 5 = q 5 := rfl
theorem o_rest {X : aX} {S : aS} {v : Int32} (hJ : J S) : opK X 72 161 [aI v] S := by
  obtain ⟨⟨n, hR, hA⟩, hK, hD⟩ := id hJ
  have hR3 := ag_RI hA hR
  have hn := hR.1
  have hz := hR.2.1
  have hz3 := hR3.2.1
  by_cases c1 : wi v (nI 0) (nI 99999)
  · have hm0 := ag_mix n (S.1 1) (S.1 0)
    have hRm := ag_RI (ag_sym hm0) hR
    obtain ⟨r1, D1, e1, h1⟩ := l_rest (X := X) (q := S.1) (v := v) hn 400 0 (mixR n (S.1 1) (S.1 0)) S.2 (by omega) hRm.2.1
    have hs : srch (fun r => ¬ r 3 < v) n 400 0 (mixR n (S.1 1) (S.1 0)) = srch (fun r => ¬ r 3 < v) n 400 0 (S.1 3) := srch_c hn (fun r r' h _ => by rw [h 3 (by omega)]) 400 0 _ _ (ag_tr hm0 hA) hRm
    rw [hs] at h1
    have hv := srch_v (fun r => ¬ r 3 < v) n 400 0 (S.1 3)
    rw [Nat.zero_add] at hv
    refine op_sr hJ hR hA hv e1 (r1 := r1) ?_ (fun D => ?_)
    · simp only [nl_n, nl_i, nl_r, x_ci, x_ca, x_bin, x_ife, x_ifl, x_ifg, x_cme, x_cml, x_cmg, x_go, x_no, x_b, x_ps, x_pn, cs_n, cs_i, cs_j, cs_r, en_n, en_i, en_j, en_r, xi1, x_k3_s, xa0, x_k2_0, r_i, r_j, r_v, r_z1, r_z0, r_a, g_0_1, g_0_0, x_k2_1, xs2n, xs2i, xs2r, xi2, g_1_4, xn2n, xn2i, xn2r, e72_0, e72_1, e72_2, e72_4, e72_7, e72_10, e72_11, e72_12, e72_15, e72_16, e72_17, e72_20, e72_21, e72_24, e72_27, e72_28, e72_30, e72_33, e72_36, e72_37, e72_40, e72_43, e72_44, e72_47, e72_48, e72_49, e72_50, e72_53, e72_54, e72_57, e72_60, e72_63, e72_64, e72_65, e72_68, c72, i10, i00, n2, n10, n20, n60, n8, n9, bi0, ite_not, List.replicate, Nat.reduceAdd, Nat.reduceSub, Nat.reduceLeDiff, Nat.reduceLT, if_true, if_false, mg, reduceIte, not_false_eq_true, eq_self, and_self, and_true, true_and, true_or, or_true, Nat.reduceEqDiff, t_within, (bi_t c1), (t_becS (S := S) (a := 1) (a2 := 0) (by decide) (by decide) (by decide) hn hz)]
      exact h1
    · obtain ⟨r3, D2, e2, h2⟩ := t_up (X := X) (S := (rq S.1 1 r1, D)) (p := 3) (v := v) (by decide) hR3
      refine ⟨r3, D2, e2, ?_⟩
      dsimp only at h2
      rw [rq13, rq15] at h2
      simp only [nl_n, nl_i, nl_r, x_ci, x_ca, x_bin, x_ife, x_ifl, x_ifg, x_cme, x_cml, x_cmg, x_go, x_no, x_b, x_ps, x_pn, cs_n, cs_i, cs_j, cs_r, en_n, en_i, en_j, en_r, xi1, x_k3_s, xa0, x_k3_20, x_k2_20, r_i, r_j, r_v, r_z1, r_z0, r_a, e161_0, e161_1, e161_2, e161_4, e161_7, e161_10, e161_11, e161_12, e161_13, e161_14, e161_17, e161_20, e161_23, e161_24, e161_26, e161_29, c161, i10, i00, n2, n10, n20, n60, n8, n9, bi0, ite_not, List.replicate, Nat.reduceAdd, Nat.reduceSub, Nat.reduceLeDiff, Nat.reduceLT, if_true, if_false, mg, reduceIte, not_false_eq_true, eq_self, and_self, and_true, true_and, true_or, or_true, Nat.reduceEqDiff, t_within6, (bi_t c1), h2, (t_orNone hv), bnd_if]
  · refine op_fin (k := 0) (w := -1000001) (by decide) hJ ?_ ?_
    · simp only [nl_n, nl_i, nl_r, x_ci, x_ca, x_bin, x_ife, x_ifl, x_ifg, x_cme, x_cml, x_cmg, x_go, x_no, x_b, x_ps, x_pn, cs_n, cs_i, cs_j, cs_r, en_n, en_i, en_j, en_r, xi1, x_k3_s, xa0, x_k2_0, r_i, r_j, r_v, r_z1, r_z0, r_a, g_0_1, g_0_0, x_k2_1, xs2n, xs2i, xs2r, xi2, g_1_4, xn2n, xn2i, xn2r, e72_0, e72_1, e72_2, e72_4, e72_7, e72_10, e72_11, e72_12, e72_15, e72_16, e72_17, e72_20, e72_21, e72_24, e72_27, e72_28, e72_30, e72_33, e72_36, e72_37, e72_40, e72_43, e72_44, e72_47, e72_48, e72_49, e72_50, e72_53, e72_54, e72_57, e72_60, e72_63, e72_64, e72_65, e72_68, c72, i10, i00, n2, n10, n20, n60, n8, n9, bi0, ite_not, List.replicate, Nat.reduceAdd, Nat.reduceSub, Nat.reduceLeDiff, Nat.reduceLT, if_true, if_false, mg, reduceIte, not_false_eq_true, eq_self, and_self, and_true, true_and, true_or, or_true, Nat.reduceEqDiff, t_within, (bi_f c1), tel0]
    · simp only [nl_n, nl_i, nl_r, x_ci, x_ca, x_bin, x_ife, x_ifl, x_ifg, x_cme, x_cml, x_cmg, x_go, x_no, x_b, x_ps, x_pn, cs_n, cs_i, cs_j, cs_r, en_n, en_i, en_j, en_r, xi1, x_k3_s, xa0, x_k3_20, x_k2_20, r_i, r_j, r_v, r_z1, r_z0, r_a, e161_0, e161_1, e161_2, e161_4, e161_7, e161_10, e161_11, e161_12, e161_13, e161_14, e161_17, e161_20, e161_23, e161_24, e161_26, e161_29, c161, i10, i00, n2, n10, n20, n60, n8, n9, bi0, ite_not, List.replicate, Nat.reduceAdd, Nat.reduceSub, Nat.reduceLeDiff, Nat.reduceLT, if_true, if_false, mg, reduceIte, not_false_eq_true, eq_self, and_self, and_true, true_and, true_or, or_true, Nat.reduceEqDiff, t_within6, (bi_f c1), fnd0]
theorem o_when {X : aX} {S : aS} {x v : Int32} (hJ : J S) : opK X 73 162 [aI x, aI v] S := by
  obtain ⟨⟨n, hR, hA⟩, hK, hD⟩ := id hJ
  have hR3 := ag_RI hA hR
  have hn := hR.1
  have hz := hR.2.1
  have hz3 := hR3.2.1
  by_cases c0 : hsP n x
  · by_cases c1 : wi v (nI 0) (nI 9999)
    · obtain ⟨i, hi, rfl⟩ := has_of hn c0
      have hm0 := ag_mix n (S.1 1) (S.1 0)
      have hRm := ag_RI (ag_sym hm0) hR
      obtain ⟨r1, D1, e1, h1⟩ := l_when (X := X) (q := S.1) (v := v) hn hi 400 0 (mixR n (S.1 1) (S.1 0)) S.2 (by omega) hRm.2.1
      have hs : srch (fun r => ¬ r (14 + 10 * i + 9) < v) n 400 0 (mixR n (S.1 1) (S.1 0)) = srch (fun r => ¬ r (14 + 10 * i + 9) < v) n 400 0 (S.1 3) := srch_c hn (fun r r' h _ => by rw [ag_f h hi (by decide)]) 400 0 _ _ (ag_tr hm0 hA) hRm
      rw [hs] at h1
      have hv := srch_v (fun r => ¬ r (14 + 10 * i + 9) < v) n 400 0 (S.1 3)
      rw [Nat.zero_add] at hv
      refine op_sr hJ hR hA hv e1 (r1 := r1) ?_ (fun D => ?_)
      · simp only [nl_n, nl_i, nl_r, x_ci, x_ca, x_bin, x_ife, x_ifl, x_ifg, x_cme, x_cml, x_cmg, x_go, x_no, x_b, x_ps, x_pn, cs_n, cs_i, cs_j, cs_r, en_n, en_i, en_j, en_r, xa0, g_0_0, xi1, x_k2_1, xi2, x_k3_s, x_k2_0, r_i, r_j, r_v, r_z1, r_z0, r_a, g_0_1, xs3n, xs3i, xs3r, xi3, x_k3_1, xn3n, xn3i, xn3r, e73_0, e73_1, e73_4, e73_5, e73_8, e73_11, e73_12, e73_13, e73_16, e73_19, e73_22, e73_23, e73_24, e73_27, e73_28, e73_29, e73_32, e73_33, e73_36, e73_39, e73_40, e73_42, e73_45, e73_48, e73_49, e73_52, e73_53, e73_55, e73_58, e73_59, e73_62, e73_63, e73_64, e73_65, e73_68, e73_69, e73_72, e73_75, e73_78, e73_79, e73_80, e73_83, c73, i10, i00, n2, n10, n20, n60, n8, n9, bi0, ite_not, List.replicate, Nat.reduceAdd, Nat.reduceSub, Nat.reduceLeDiff, Nat.reduceLT, if_true, if_false, mg, reduceIte, not_false_eq_true, eq_self, and_self, and_true, true_and, true_or, or_true, Nat.reduceEqDiff, (t_has (a := 0) (by decide) hz), (bi_t c0), t_within, (bi_t c1), (t_becS (S := S) (a := 1) (a2 := 0) (by decide) (by decide) (by decide) hn hz)]
        exact h1
      · obtain ⟨r3, D2, e2, h2⟩ := t_up (X := X) (S := (rq S.1 1 r1, D)) (p := 14 + 10 * i + 9) (v := v) (by omega) hR3
        refine ⟨r3, D2, e2, ?_⟩
        dsimp only at h2
        rw [rq13, rq15] at h2
        simp only [nl_n, nl_i, nl_r, x_ci, x_ca, x_bin, x_ife, x_ifl, x_ifg, x_cme, x_cml, x_cmg, x_go, x_no, x_b, x_ps, x_pn, cs_n, cs_i, cs_j, cs_r, en_n, en_i, en_j, en_r, xa0, xi1, x_k2_20, xi2, x_k3_s, x_k2_s, x_k3_20, r_i, r_j, r_v, r_z1, r_z0, r_a, e162_0, e162_1, e162_2, e162_5, e162_8, e162_9, e162_10, e162_13, e162_16, e162_19, e162_20, e162_21, e162_22, e162_24, e162_27, e162_28, e162_31, e162_34, e162_37, e162_38, e162_40, e162_43, c162, i10, i00, n2, n10, n20, n60, n8, n9, bi0, ite_not, List.replicate, Nat.reduceAdd, Nat.reduceSub, Nat.reduceLeDiff, Nat.reduceLT, if_true, if_false, mg, reduceIte, not_false_eq_true, eq_self, and_self, and_true, true_and, true_or, or_true, Nat.reduceEqDiff, (t_isS (X := X) (S := (rq S.1 1 r1, D)) (x := nI i) hn hz3), (bi_t c0), t_within6, (bi_t c1), t_at, h2, (t_orNone hv), bnd_if]
    · refine op_fin (k := 0) (w := -1000001) (by decide) hJ ?_ ?_
      · simp only [nl_n, nl_i, nl_r, x_ci, x_ca, x_bin, x_ife, x_ifl, x_ifg, x_cme, x_cml, x_cmg, x_go, x_no, x_b, x_ps, x_pn, cs_n, cs_i, cs_j, cs_r, en_n, en_i, en_j, en_r, xa0, g_0_0, xi1, x_k2_1, xi2, x_k3_s, x_k2_0, r_i, r_j, r_v, r_z1, r_z0, r_a, g_0_1, xs3n, xs3i, xs3r, xi3, x_k3_1, xn3n, xn3i, xn3r, e73_0, e73_1, e73_4, e73_5, e73_8, e73_11, e73_12, e73_13, e73_16, e73_19, e73_22, e73_23, e73_24, e73_27, e73_28, e73_29, e73_32, e73_33, e73_36, e73_39, e73_40, e73_42, e73_45, e73_48, e73_49, e73_52, e73_53, e73_55, e73_58, e73_59, e73_62, e73_63, e73_64, e73_65, e73_68, e73_69, e73_72, e73_75, e73_78, e73_79, e73_80, e73_83, c73, i10, i00, n2, n10, n20, n60, n8, n9, bi0, ite_not, List.replicate, Nat.reduceAdd, Nat.reduceSub, Nat.reduceLeDiff, Nat.reduceLT, if_true, if_false, mg, reduceIte, not_false_eq_true, eq_self, and_self, and_true, true_and, true_or, or_true, Nat.reduceEqDiff, (t_has (a := 0) (by decide) hz), (bi_t c0), t_within, (bi_f c1), tel0]
      · simp only [nl_n, nl_i, nl_r, x_ci, x_ca, x_bin, x_ife, x_ifl, x_ifg, x_cme, x_cml, x_cmg, x_go, x_no, x_b, x_ps, x_pn, cs_n, cs_i, cs_j, cs_r, en_n, en_i, en_j, en_r, xa0, xi1, x_k2_20, xi2, x_k3_s, x_k2_s, x_k3_20, r_i, r_j, r_v, r_z1, r_z0, r_a, e162_0, e162_1, e162_2, e162_5, e162_8, e162_9, e162_10, e162_13, e162_16, e162_19, e162_20, e162_21, e162_22, e162_24, e162_27, e162_28, e162_31, e162_34, e162_37, e162_38, e162_40, e162_43, c162, i10, i00, n2, n10, n20, n60, n8, n9, bi0, ite_not, List.replicate, Nat.reduceAdd, Nat.reduceSub, Nat.reduceLeDiff, Nat.reduceLT, if_true, if_false, mg, reduceIte, not_false_eq_true, eq_self, and_self, and_true, true_and, true_or, or_true, Nat.reduceEqDiff, (fun D x => t_isS (X := X) (S := (S.1, D)) (x := x) hn hz3), (bi_t c0), t_within6, (bi_f c1), fnd0]
  · refine op_fin (k := 0) (w := -1000001) (by decide) hJ ?_ ?_
    · simp only [nl_n, nl_i, nl_r, x_ci, x_ca, x_bin, x_ife, x_ifl, x_ifg, x_cme, x_cml, x_cmg, x_go, x_no, x_b, x_ps, x_pn, cs_n, cs_i, cs_j, cs_r, en_n, en_i, en_j, en_r, xa0, g_0_0, xi1, x_k2_1, xi2, x_k3_s, x_k2_0, r_i, r_j, r_v, r_z1, r_z0, r_a, g_0_1, xs3n, xs3i, xs3r, xi3, x_k3_1, xn3n, xn3i, xn3r, e73_0, e73_1, e73_4, e73_5, e73_8, e73_11, e73_12, e73_13, e73_16, e73_19, e73_22, e73_23, e73_24, e73_27, e73_28, e73_29, e73_32, e73_33, e73_36, e73_39, e73_40, e73_42, e73_45, e73_48, e73_49, e73_52, e73_53, e73_55, e73_58, e73_59, e73_62, e73_63, e73_64, e73_65, e73_68, e73_69, e73_72, e73_75, e73_78, e73_79, e73_80, e73_83, c73, i10, i00, n2, n10, n20, n60, n8, n9, bi0, ite_not, List.replicate, Nat.reduceAdd, Nat.reduceSub, Nat.reduceLeDiff, Nat.reduceLT, if_true, if_false, mg, reduceIte, not_false_eq_true, eq_self, and_self, and_true, true_and, true_or, or_true, Nat.reduceEqDiff, (t_has (a := 0) (by decide) hz), (bi_f c0), tel0]
    · simp only [nl_n, nl_i, nl_r, x_ci, x_ca, x_bin, x_ife, x_ifl, x_ifg, x_cme, x_cml, x_cmg, x_go, x_no, x_b, x_ps, x_pn, cs_n, cs_i, cs_j, cs_r, en_n, en_i, en_j, en_r, xa0, xi1, x_k2_20, xi2, x_k3_s, x_k2_s, x_k3_20, r_i, r_j, r_v, r_z1, r_z0, r_a, e162_0, e162_1, e162_2, e162_5, e162_8, e162_9, e162_10, e162_13, e162_16, e162_19, e162_20, e162_21, e162_22, e162_24, e162_27, e162_28, e162_31, e162_34, e162_37, e162_38, e162_40, e162_43, c162, i10, i00, n2, n10, n20, n60, n8, n9, bi0, ite_not, List.replicate, Nat.reduceAdd, Nat.reduceSub, Nat.reduceLeDiff, Nat.reduceLT, if_true, if_false, mg, reduceIte, not_false_eq_true, eq_self, and_self, and_true, true_and, true_or, or_true, Nat.reduceEqDiff, (fun D x => t_isS (X := X) (S := (S.1, D)) (x := x) hn hz3), (bi_f c0), fnd0]
theorem b2_all : ∀ m, m < 256 → ∀ i, i < 8 → ∀ j, j < 8 → (((nI m &&& (bit1 i ||| bit1 j)) = bit1 i ||| bit1 j) ↔ (m.testBit i = true ∧ m.testBit j = true)) := by decide +kernel
theorem b1_all : ∀ m, m < 256 → ∀ i, i < 8 → (((nI m &&& bit1 i) = bit1 i) ↔ m.testBit i = true) := by decide +kernel
theorem sg_2 {n i j : Nat} {r : Nat → Int32} (hn : n ≤ 8) (hi : i < n) (hj : j < n) : ((sgS r n &&& (bit1 i ||| bit1 j)) = (bit1 i ||| bit1 j)) = (sgP r i ∧ sgP r j) := by
  unfold sgS
  rw [setF_N _ n hn, b2_all _ (setN_256 _ hn) i (by omega) j (by omega), setN_bit _ n hn i (by omega), setN_bit _ n hn j (by omega)]
  simp [hi, hj]
theorem sg_1 {n i : Nat} {r : Nat → Int32} (hn : n ≤ 8) (hi : i < n) : ((sgS r n &&& bit1 i) = bit1 i) = (sgP r i ∧ sgP r i) := by
  unfold sgS
  rw [setF_N _ n hn, b1_all _ (setN_256 _ hn) i (by omega), setN_bit _ n hn i (by omega)]
  simp [hi]
theorem o_sings {X : aX} {S : aS} {x : Int32} (hJ : J S) : opK X 70 158 [aI x] S := by
  obtain ⟨⟨n, hR, hA⟩, hK, hD⟩ := id hJ
  have hR3 := ag_RI hA hR
  have hn := hR.1
  have hz := hR.2.1
  have hz3 := hR3.2.1
  by_cases c0 : hsP n x
  · obtain ⟨i, hi, rfl⟩ := has_of hn c0
    have hm0 := ag_mix n (S.1 1) (S.1 0)
    have hRm := ag_RI (ag_sym hm0) hR
    obtain ⟨r1, D1, e1, h1⟩ := l_till (X := X) (q := S.1) (v := bit1 i) hn 400 0 (mixR n (S.1 1) (S.1 0)) S.2 (by omega) hRm.2.1
    have hs : srch (fun r => (sgS r n &&& bit1 i) = bit1 i) n 400 0 (mixR n (S.1 1) (S.1 0)) = srch (fun r => sgP r i ∧ sgP r i) n 400 0 (S.1 3) := srch_c hn (fun r r' h _ => by rw [sg_1 hn hi, ag_sg h hi]) 400 0 _ _ (ag_tr hm0 hA) hRm
    rw [hs] at h1
    have hv := srch_v (fun r => sgP r i ∧ sgP r i) n 400 0 (S.1 3)
    rw [Nat.zero_add] at hv
    obtain ⟨Z, hZ⟩ : ∃ Z, srch (fun r => sgP r i ∧ sgP r i) n 400 0 (S.1 3) = Z := ⟨_, rfl⟩
    rw [hZ] at h1 hv
    have hc : cl X 104 [aR (0, 0, 0), aI (bit1 i)] (mem S) = rsO Z (rq S.1 1 r1) D1 := by
      simp only [nl_n, nl_i, nl_r, x_ci, x_ca, x_bin, x_ife, x_ifl, x_ifg, x_cme, x_cml, x_cmg, x_go, x_no, x_b, x_ps, x_pn, cs_n, cs_i, cs_j, cs_r, en_n, en_i, en_j, en_r, xa0, g_0_1, g_0_0, x_k2_1, xs2n, xs2i, xs2r, xi2, x_k1_1, xi1, r_i, r_j, r_v, r_z1, r_z0, r_a, xn2n, xn2i, xn2r, x_k2_0, e104_0, e104_1, e104_4, e104_5, e104_8, e104_11, e104_12, e104_14, e104_17, e104_20, e104_21, e104_24, e104_27, e104_28, e104_29, e104_30, e104_33, e104_34, e104_35, e104_36, e104_39, e104_40, e104_43, e104_46, e104_49, e104_50, e104_51, e104_54, c104, i10, i00, n2, n10, n20, n60, n8, n9, bi0, ite_not, List.replicate, Nat.reduceAdd, Nat.reduceSub, Nat.reduceLeDiff, Nat.reduceLT, if_true, if_false, mg, reduceIte, not_false_eq_true, eq_self, and_self, and_true, true_and, true_or, or_true, Nat.reduceEqDiff, (t_becS (S := S) (a := 1) (a2 := 0) (by decide) (by decide) (by decide) hn hz)]
      exact h1
    refine op_sr hJ hR hA hv e1 (r1 := r1) ?_ (fun D => ?_)
    · unfold rsO at hc ⊢
      simp only [nl_n, nl_i, nl_r, x_ci, x_ca, x_bin, x_ife, x_ifl, x_ifg, x_cme, x_cml, x_cmg, x_go, x_no, x_b, x_ps, x_pn, cs_n, cs_i, cs_j, cs_r, en_n, en_i, en_j, en_r, xa0, g_0_0, xi1, x_k2_1, x_k2_0, r_i, r_j, r_v, r_z1, r_z0, r_a, e70_0, e70_1, e70_4, e70_5, e70_8, e70_11, e70_12, e70_13, e70_16, e70_17, e70_18, e70_19, e70_20, e70_21, e70_24, c70, i10, i00, n2, n10, n20, n60, n8, n9, bi0, ite_not, List.replicate, Nat.reduceAdd, Nat.reduceSub, Nat.reduceLeDiff, Nat.reduceLT, if_true, if_false, mg, reduceIte, not_false_eq_true, eq_self, and_self, and_true, true_and, true_or, or_true, Nat.reduceEqDiff, (t_has (a := 0) (by decide) hz), (bi_t c0), hc, bnd_if]
    · obtain ⟨r3, D2, e2, h2⟩ := t_to (X := X) (S := (rq S.1 1 r1, D)) hi hi hR3
      refine ⟨r3, D2, e2, ?_⟩
      dsimp only at h2
      rw [rq13, rq15, hZ] at h2
      simp only [nl_n, nl_i, nl_r, x_ci, x_ca, x_bin, x_ife, x_ifl, x_ifg, x_cme, x_cml, x_cmg, x_go, x_no, x_b, x_ps, x_pn, cs_n, cs_i, cs_j, cs_r, en_n, en_i, en_j, en_r, xa0, xi1, x_k2_20, x_k3_20, r_i, r_j, r_v, r_z1, r_z0, r_a, e158_0, e158_1, e158_2, e158_5, e158_8, e158_9, e158_10, e158_11, e158_12, e158_15, e158_18, e158_21, e158_22, e158_24, e158_27, c158, i10, i00, n2, n10, n20, n60, n8, n9, bi0, ite_not, List.replicate, Nat.reduceAdd, Nat.reduceSub, Nat.reduceLeDiff, Nat.reduceLT, if_true, if_false, mg, reduceIte, not_false_eq_true, eq_self, and_self, and_true, true_and, true_or, or_true, Nat.reduceEqDiff, (t_isS (X := X) (S := (rq S.1 1 r1, D)) (x := nI i) hn hz3), (bi_t c0), h2, (t_orNone hv), bnd_if]
  · refine op_fin (k := 0) (w := -1000001) (by decide) hJ ?_ ?_
    · simp only [nl_n, nl_i, nl_r, x_ci, x_ca, x_bin, x_ife, x_ifl, x_ifg, x_cme, x_cml, x_cmg, x_go, x_no, x_b, x_ps, x_pn, cs_n, cs_i, cs_j, cs_r, en_n, en_i, en_j, en_r, xa0, g_0_0, xi1, x_k2_1, x_k2_0, r_i, r_j, r_v, r_z1, r_z0, r_a, e70_0, e70_1, e70_4, e70_5, e70_8, e70_11, e70_12, e70_13, e70_16, e70_17, e70_18, e70_19, e70_20, e70_21, e70_24, c70, i10, i00, n2, n10, n20, n60, n8, n9, bi0, ite_not, List.replicate, Nat.reduceAdd, Nat.reduceSub, Nat.reduceLeDiff, Nat.reduceLT, if_true, if_false, mg, reduceIte, not_false_eq_true, eq_self, and_self, and_true, true_and, true_or, or_true, Nat.reduceEqDiff, (t_has (a := 0) (by decide) hz), (bi_f c0), tel0]
    · simp only [nl_n, nl_i, nl_r, x_ci, x_ca, x_bin, x_ife, x_ifl, x_ifg, x_cme, x_cml, x_cmg, x_go, x_no, x_b, x_ps, x_pn, cs_n, cs_i, cs_j, cs_r, en_n, en_i, en_j, en_r, xa0, xi1, x_k2_20, x_k3_20, r_i, r_j, r_v, r_z1, r_z0, r_a, e158_0, e158_1, e158_2, e158_5, e158_8, e158_9, e158_10, e158_11, e158_12, e158_15, e158_18, e158_21, e158_22, e158_24, e158_27, c158, i10, i00, n2, n10, n20, n60, n8, n9, bi0, ite_not, List.replicate, Nat.reduceAdd, Nat.reduceSub, Nat.reduceLeDiff, Nat.reduceLT, if_true, if_false, mg, reduceIte, not_false_eq_true, eq_self, and_self, and_true, true_and, true_or, or_true, Nat.reduceEqDiff, (fun D x => t_isS (X := X) (S := (S.1, D)) (x := x) hn hz3), (bi_f c0), fnd0]
theorem o_together {X : aX} {S : aS} {x y : Int32} (hJ : J S) : opK X 71 159 [aI x, aI y] S := by
  obtain ⟨⟨n, hR, hA⟩, hK, hD⟩ := id hJ
  have hR3 := ag_RI hA hR
  have hn := hR.1
  have hz := hR.2.1
  have hz3 := hR3.2.1
  by_cases c0 : hsP n x
  · by_cases c1 : hsP n y
    · obtain ⟨i, hi, rfl⟩ := has_of hn c0
      obtain ⟨j, hj, rfl⟩ := has_of hn c1
      by_cases c2 : nI i = nI j
      · refine op_fin (k := 0) (w := -1000001) (by decide) hJ ?_ ?_
        · simp only [nl_n, nl_i, nl_r, x_ci, x_ca, x_bin, x_ife, x_ifl, x_ifg, x_cme, x_cml, x_cmg, x_go, x_no, x_b, x_ps, x_pn, cs_n, cs_i, cs_j, cs_r, en_n, en_i, en_j, en_r, xa0, g_0_0, xi1, x_k2_1, xi2, x_k2_0, r_i, r_j, r_v, r_z1, r_z0, r_a, e71_0, e71_1, e71_4, e71_5, e71_8, e71_11, e71_12, e71_15, e71_16, e71_19, e71_22, e71_23, e71_24, e71_27, e71_28, e71_29, e71_32, e71_33, e71_34, e71_35, e71_36, e71_37, e71_38, e71_39, e71_40, e71_41, e71_44, c71, i10, i00, n2, n10, n20, n60, n8, n9, bi0, ite_not, List.replicate, Nat.reduceAdd, Nat.reduceSub, Nat.reduceLeDiff, Nat.reduceLT, if_true, if_false, mg, reduceIte, not_false_eq_true, eq_self, and_self, and_true, true_and, true_or, or_true, Nat.reduceEqDiff, (t_has (a := 0) (by decide) hz), (bi_t c0), (bi_t c1), c2, tel0]
        · simp only [nl_n, nl_i, nl_r, x_ci, x_ca, x_bin, x_ife, x_ifl, x_ifg, x_cme, x_cml, x_cmg, x_go, x_no, x_b, x_ps, x_pn, cs_n, cs_i, cs_j, cs_r, en_n, en_i, en_j, en_r, xa0, xi1, x_k2_20, xi2, x_k3_20, r_i, r_j, r_v, r_z1, r_z0, r_a, e159_0, e159_1, e159_2, e159_5, e159_8, e159_9, e159_10, e159_13, e159_16, e159_17, e159_18, e159_21, e159_22, e159_23, e159_24, e159_25, e159_28, e159_31, e159_34, e159_35, e159_37, e159_40, c159, i10, i00, n2, n10, n20, n60, n8, n9, bi0, ite_not, List.replicate, Nat.reduceAdd, Nat.reduceSub, Nat.reduceLeDiff, Nat.reduceLT, if_true, if_false, mg, reduceIte, not_false_eq_true, eq_self, and_self, and_true, true_and, true_or, or_true, Nat.reduceEqDiff, (fun D x => t_isS (X := X) (S := (S.1, D)) (x := x) hn hz3), (bi_t c0), (bi_t c1), c2, fnd0]
      · have hm0 := ag_mix n (S.1 1) (S.1 0)
        have hRm := ag_RI (ag_sym hm0) hR
        obtain ⟨r1, D1, e1, h1⟩ := l_till (X := X) (q := S.1) (v := bit1 i ||| bit1 j) hn 400 0 (mixR n (S.1 1) (S.1 0)) S.2 (by omega) hRm.2.1
        have hs : srch (fun r => (sgS r n &&& (bit1 i ||| bit1 j)) = (bit1 i ||| bit1 j)) n 400 0 (mixR n (S.1 1) (S.1 0)) = srch (fun r => sgP r i ∧ sgP r j) n 400 0 (S.1 3) := srch_c hn (fun r r' h _ => by rw [sg_2 hn hi hj, ag_sg h hi, ag_sg h hj]) 400 0 _ _ (ag_tr hm0 hA) hRm
        rw [hs] at h1
        have hv := srch_v (fun r => sgP r i ∧ sgP r j) n 400 0 (S.1 3)
        rw [Nat.zero_add] at hv
        have hc : cl X 104 [aR (0, 0, 0), aI (bit1 i ||| bit1 j)] (mem S) = rsO (srch (fun r => sgP r i ∧ sgP r j) n 400 0 (S.1 3)) (rq S.1 1 r1) D1 := by
          simp only [nl_n, nl_i, nl_r, x_ci, x_ca, x_bin, x_ife, x_ifl, x_ifg, x_cme, x_cml, x_cmg, x_go, x_no, x_b, x_ps, x_pn, cs_n, cs_i, cs_j, cs_r, en_n, en_i, en_j, en_r, xa0, g_0_1, g_0_0, x_k2_1, xs2n, xs2i, xs2r, xi2, x_k1_1, xi1, r_i, r_j, r_v, r_z1, r_z0, r_a, xn2n, xn2i, xn2r, x_k2_0, e104_0, e104_1, e104_4, e104_5, e104_8, e104_11, e104_12, e104_14, e104_17, e104_20, e104_21, e104_24, e104_27, e104_28, e104_29, e104_30, e104_33, e104_34, e104_35, e104_36, e104_39, e104_40, e104_43, e104_46, e104_49, e104_50, e104_51, e104_54, c104, i10, i00, n2, n10, n20, n60, n8, n9, bi0, ite_not, List.replicate, Nat.reduceAdd, Nat.reduceSub, Nat.reduceLeDiff, Nat.reduceLT, if_true, if_false, mg, reduceIte, not_false_eq_true, eq_self, and_self, and_true, true_and, true_or, or_true, Nat.reduceEqDiff, (t_becS (S := S) (a := 1) (a2 := 0) (by decide) (by decide) (by decide) hn hz)]
          exact h1
        refine op_sr hJ hR hA hv e1 (r1 := r1) ?_ (fun D => ?_)
        · unfold rsO at hc ⊢
          simp only [nl_n, nl_i, nl_r, x_ci, x_ca, x_bin, x_ife, x_ifl, x_ifg, x_cme, x_cml, x_cmg, x_go, x_no, x_b, x_ps, x_pn, cs_n, cs_i, cs_j, cs_r, en_n, en_i, en_j, en_r, xa0, g_0_0, xi1, x_k2_1, xi2, x_k2_0, r_i, r_j, r_v, r_z1, r_z0, r_a, e71_0, e71_1, e71_4, e71_5, e71_8, e71_11, e71_12, e71_15, e71_16, e71_19, e71_22, e71_23, e71_24, e71_27, e71_28, e71_29, e71_32, e71_33, e71_34, e71_35, e71_36, e71_37, e71_38, e71_39, e71_40, e71_41, e71_44, c71, i10, i00, n2, n10, n20, n60, n8, n9, bi0, ite_not, List.replicate, Nat.reduceAdd, Nat.reduceSub, Nat.reduceLeDiff, Nat.reduceLT, if_true, if_false, mg, reduceIte, not_false_eq_true, eq_self, and_self, and_true, true_and, true_or, or_true, Nat.reduceEqDiff, (t_has (a := 0) (by decide) hz), (bi_t c0), (bi_t c1), c2, hc, bnd_if]
        · obtain ⟨r3, D2, e2, h2⟩ := t_to (X := X) (S := (rq S.1 1 r1, D)) hi hj hR3
          refine ⟨r3, D2, e2, ?_⟩
          dsimp only at h2
          rw [rq13, rq15] at h2
          simp only [nl_n, nl_i, nl_r, x_ci, x_ca, x_bin, x_ife, x_ifl, x_ifg, x_cme, x_cml, x_cmg, x_go, x_no, x_b, x_ps, x_pn, cs_n, cs_i, cs_j, cs_r, en_n, en_i, en_j, en_r, xa0, xi1, x_k2_20, xi2, x_k3_20, r_i, r_j, r_v, r_z1, r_z0, r_a, e159_0, e159_1, e159_2, e159_5, e159_8, e159_9, e159_10, e159_13, e159_16, e159_17, e159_18, e159_21, e159_22, e159_23, e159_24, e159_25, e159_28, e159_31, e159_34, e159_35, e159_37, e159_40, c159, i10, i00, n2, n10, n20, n60, n8, n9, bi0, ite_not, List.replicate, Nat.reduceAdd, Nat.reduceSub, Nat.reduceLeDiff, Nat.reduceLT, if_true, if_false, mg, reduceIte, not_false_eq_true, eq_self, and_self, and_true, true_and, true_or, or_true, Nat.reduceEqDiff, (fun x => t_isS (X := X) (S := (rq S.1 1 r1, D)) (x := x) hn hz3), (bi_t c0), (bi_t c1), c2, h2, (t_orNone hv), bnd_if]
    · refine op_fin (k := 0) (w := -1000001) (by decide) hJ ?_ ?_
      · simp only [nl_n, nl_i, nl_r, x_ci, x_ca, x_bin, x_ife, x_ifl, x_ifg, x_cme, x_cml, x_cmg, x_go, x_no, x_b, x_ps, x_pn, cs_n, cs_i, cs_j, cs_r, en_n, en_i, en_j, en_r, xa0, g_0_0, xi1, x_k2_1, xi2, x_k2_0, r_i, r_j, r_v, r_z1, r_z0, r_a, e71_0, e71_1, e71_4, e71_5, e71_8, e71_11, e71_12, e71_15, e71_16, e71_19, e71_22, e71_23, e71_24, e71_27, e71_28, e71_29, e71_32, e71_33, e71_34, e71_35, e71_36, e71_37, e71_38, e71_39, e71_40, e71_41, e71_44, c71, i10, i00, n2, n10, n20, n60, n8, n9, bi0, ite_not, List.replicate, Nat.reduceAdd, Nat.reduceSub, Nat.reduceLeDiff, Nat.reduceLT, if_true, if_false, mg, reduceIte, not_false_eq_true, eq_self, and_self, and_true, true_and, true_or, or_true, Nat.reduceEqDiff, (t_has (a := 0) (by decide) hz), (bi_t c0), (bi_f c1), tel0]
      · simp only [nl_n, nl_i, nl_r, x_ci, x_ca, x_bin, x_ife, x_ifl, x_ifg, x_cme, x_cml, x_cmg, x_go, x_no, x_b, x_ps, x_pn, cs_n, cs_i, cs_j, cs_r, en_n, en_i, en_j, en_r, xa0, xi1, x_k2_20, xi2, x_k3_20, r_i, r_j, r_v, r_z1, r_z0, r_a, e159_0, e159_1, e159_2, e159_5, e159_8, e159_9, e159_10, e159_13, e159_16, e159_17, e159_18, e159_21, e159_22, e159_23, e159_24, e159_25, e159_28, e159_31, e159_34, e159_35, e159_37, e159_40, c159, i10, i00, n2, n10, n20, n60, n8, n9, bi0, ite_not, List.replicate, Nat.reduceAdd, Nat.reduceSub, Nat.reduceLeDiff, Nat.reduceLT, if_true, if_false, mg, reduceIte, not_false_eq_true, eq_self, and_self, and_true, true_and, true_or, or_true, Nat.reduceEqDiff, (fun D x => t_isS (X := X) (S := (S.1, D)) (x := x) hn hz3), (bi_t c0), (bi_f c1), fnd0]
  · refine op_fin (k := 0) (w := -1000001) (by decide) hJ ?_ ?_
    · simp only [nl_n, nl_i, nl_r, x_ci, x_ca, x_bin, x_ife, x_ifl, x_ifg, x_cme, x_cml, x_cmg, x_go, x_no, x_b, x_ps, x_pn, cs_n, cs_i, cs_j, cs_r, en_n, en_i, en_j, en_r, xa0, g_0_0, xi1, x_k2_1, xi2, x_k2_0, r_i, r_j, r_v, r_z1, r_z0, r_a, e71_0, e71_1, e71_4, e71_5, e71_8, e71_11, e71_12, e71_15, e71_16, e71_19, e71_22, e71_23, e71_24, e71_27, e71_28, e71_29, e71_32, e71_33, e71_34, e71_35, e71_36, e71_37, e71_38, e71_39, e71_40, e71_41, e71_44, c71, i10, i00, n2, n10, n20, n60, n8, n9, bi0, ite_not, List.replicate, Nat.reduceAdd, Nat.reduceSub, Nat.reduceLeDiff, Nat.reduceLT, if_true, if_false, mg, reduceIte, not_false_eq_true, eq_self, and_self, and_true, true_and, true_or, or_true, Nat.reduceEqDiff, (t_has (a := 0) (by decide) hz), (bi_f c0), tel0]
    · simp only [nl_n, nl_i, nl_r, x_ci, x_ca, x_bin, x_ife, x_ifl, x_ifg, x_cme, x_cml, x_cmg, x_go, x_no, x_b, x_ps, x_pn, cs_n, cs_i, cs_j, cs_r, en_n, en_i, en_j, en_r, xa0, xi1, x_k2_20, xi2, x_k3_20, r_i, r_j, r_v, r_z1, r_z0, r_a, e159_0, e159_1, e159_2, e159_5, e159_8, e159_9, e159_10, e159_13, e159_16, e159_17, e159_18, e159_21, e159_22, e159_23, e159_24, e159_25, e159_28, e159_31, e159_34, e159_35, e159_37, e159_40, c159, i10, i00, n2, n10, n20, n60, n8, n9, bi0, ite_not, List.replicate, Nat.reduceAdd, Nat.reduceSub, Nat.reduceLeDiff, Nat.reduceLT, if_true, if_false, mg, reduceIte, not_false_eq_true, eq_self, and_self, and_true, true_and, true_or, or_true, Nat.reduceEqDiff, (fun D x => t_isS (X := X) (S := (S.1, D)) (x := x) hn hz3), (bi_f c0), fnd0]
