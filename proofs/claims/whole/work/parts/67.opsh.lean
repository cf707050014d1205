theorem wi_m1 {y : Int32} (h : wi y (-1) (nI 6)) : y = -1 ∨ wi y (nI 0) (nI 6) := by
  obtain ⟨h1, h2⟩ := h
  by_cases c : y < 0
  · left
    rw [Int32.lt_iff_toInt_lt] at c h1
    have e0 : (0 : Int32).toInt = 0 := rfl
    have e1 : (-1 : Int32).toInt = -1 := by decide +kernel
    exact Int32.toInt_inj.mp (by omega)
  · right
    exact ⟨by rw [nI_0]; exact c, h2⟩
theorem wi_m1' {y : Int32} (h : wi y (nI 0) (nI 6)) : wi y (-1) (nI 6) := by
  refine ⟨?_, h.2⟩
  have h1 := h.1
  rw [nI_0, Int32.lt_iff_toInt_lt] at h1
  rw [Int32.lt_iff_toInt_lt]
  have e0 : (0 : Int32).toInt = 0 := rfl
  have e1 : (-1 : Int32).toInt = -1 := by decide +kernel
  omega
theorem m1_w6 : wi (-1) (-1) (nI 6) := by decide +kernel
theorem m1_1 : (-1 : Int32) + nI 1 = nI 0 := by decide +kernel
theorem o_status {X : aX} {S : aS} {y : Int32} (hJ : J S) : opK X 100 212 [aI y] S := by
  obtain ⟨⟨n, hR, hA⟩, hK, hD⟩ := id hJ
  have hR3 := ag_RI hA hR
  have hn := hR.1
  have hz := hR.2.1
  have hz3 := hR3.2.1
  obtain ⟨f1, f2⟩ := hD.1
  by_cases c : y = -1
  · subst c
    have l : ∀ k i x, i + k = 7 → go X 100 31 [some (aR (0, 0, 0)), some (aI (-1)), some (aI x), some (aI (nI i))] [] (mem S) = some (some (aI (lp (fun i x => x + S.2 (12, 0, 0) i) k i x)), mem S) := by
      intro k
      induction k with
      | zero =>
        intro i x h
        rw [e100_31]
        simp only [nl_n, nl_i, nl_r, x_ci, x_ca, x_bin, x_ife, x_ifl, x_ifg, x_cme, x_cml, x_cmg, x_go, x_no, x_b, x_ps, x_pn, cs_n, cs_i, cs_j, cs_r, en_n, en_i, en_j, en_r, xi1, x_k3_s, xa0, x_k2_0, r_i, r_j, r_v, r_z1, r_z0, r_a, g_0_5, l_3, l_5, l_8, l_11, l_12, l_21, l_22, l_23, l_24, l_25, l_26, l_28, l_29, l_30, l_31, l_32, xs2n, xs2i, xs2r, xs3n, xs3i, xs3r, xi3, xi2, xn3n, xn3i, xn3r, e100_0, e100_1, e100_2, e100_4, e100_7, e100_10, e100_11, e100_12, e100_15, e100_16, e100_17, e100_20, e100_21, e100_24, e100_25, e100_26, e100_27, e100_28, e100_29, e100_30, e100_32, e100_34, e100_37, e100_38, e100_39, e100_42, e100_43, e100_44, e100_45, e100_46, e100_49, e100_52, e100_53, c100, i10, i00, n2, n10, n20, n60, n8, n9, bi0, ite_not, List.replicate, Nat.reduceAdd, Nat.reduceSub, Nat.reduceLeDiff, Nat.reduceLT, if_true, if_false, mg, reduceIte, not_false_eq_true, eq_self, and_self, and_true, true_and, true_or, or_true, Nat.reduceEqDiff, (nI_nlt (show 7 ≤ i by omega) (by omega))]
        rfl
      | succ k ih =>
        intro i x h
        have ih' := fun y => ih (i + 1) y (by omega)
        have hi : i < 7 := by omega
        rw [e100_31]
        simp only [nl_n, nl_i, nl_r, x_ci, x_ca, x_bin, x_ife, x_ifl, x_ifg, x_cme, x_cml, x_cmg, x_go, x_no, x_b, x_ps, x_pn, cs_n, cs_i, cs_j, cs_r, en_n, en_i, en_j, en_r, xi1, x_k3_s, xa0, x_k2_0, r_i, r_j, r_v, r_z1, r_z0, r_a, g_0_5, l_3, l_5, l_8, l_11, l_12, l_21, l_22, l_23, l_24, l_25, l_26, l_28, l_29, l_30, l_31, l_32, xs2n, xs2i, xs2r, xs3n, xs3i, xs3r, xi3, xi2, xn3n, xn3i, xn3r, e100_0, e100_1, e100_2, e100_4, e100_7, e100_10, e100_11, e100_12, e100_15, e100_16, e100_17, e100_20, e100_21, e100_24, e100_25, e100_26, e100_27, e100_28, e100_29, e100_30, e100_32, e100_34, e100_37, e100_38, e100_39, e100_42, e100_43, e100_44, e100_45, e100_46, e100_49, e100_52, e100_53, c100, i10, i00, n2, n10, n20, n60, n8, n9, bi0, ite_not, List.replicate, Nat.reduceAdd, Nat.reduceSub, Nat.reduceLeDiff, Nat.reduceLT, if_true, if_false, mg, reduceIte, not_false_eq_true, eq_self, and_self, and_true, true_and, true_or, or_true, Nat.reduceEqDiff, hi, (nI_lt hi (by decide)), nI_add, ih', lp_s]
    refine op_eq hJ (v := sumF (fun j => S.2 (12, 0, 0) j) 7) (v' := S.2 (24, 0, 0) 0) ?_ ?_ f2.symm
    · simp only [nl_n, nl_i, nl_r, x_ci, x_ca, x_bin, x_ife, x_ifl, x_ifg, x_cme, x_cml, x_cmg, x_go, x_no, x_b, x_ps, x_pn, cs_n, cs_i, cs_j, cs_r, en_n, en_i, en_j, en_r, xi1, x_k3_s, xa0, x_k2_0, r_i, r_j, r_v, r_z1, r_z0, r_a, g_0_5, l_3, l_5, l_8, l_11, l_12, l_21, l_22, l_23, l_24, l_25, l_26, l_28, l_29, l_30, l_31, l_32, xs2n, xs2i, xs2r, xs3n, xs3i, xs3r, xi3, xi2, xn3n, xn3i, xn3r, e100_0, e100_1, e100_2, e100_4, e100_7, e100_10, e100_11, e100_12, e100_15, e100_16, e100_17, e100_20, e100_21, e100_24, e100_25, e100_26, e100_27, e100_28, e100_29, e100_30, e100_32, e100_34, e100_37, e100_38, e100_39, e100_42, e100_43, e100_44, e100_45, e100_46, e100_49, e100_52, e100_53, c100, i10, i00, n2, n10, n20, n60, n8, n9, bi0, ite_not, List.replicate, Nat.reduceAdd, Nat.reduceSub, Nat.reduceLeDiff, Nat.reduceLT, if_true, if_false, mg, reduceIte, not_false_eq_true, eq_self, and_self, and_true, true_and, true_or, or_true, Nat.reduceEqDiff, t_within, (bi_t m1_w6), m1_lt]
      exact l 7 0 (nI 0) (by omega)
    · simp only [nl_n, nl_i, nl_r, x_ci, x_ca, x_bin, x_ife, x_ifl, x_ifg, x_cme, x_cml, x_cmg, x_go, x_no, x_b, x_ps, x_pn, cs_n, cs_i, cs_j, cs_r, en_n, en_i, en_j, en_r, xi1, x_k3_s, xa0, g_20_4, l_3, l_5, l_8, l_11, l_12, l_21, l_22, l_23, l_24, l_25, l_26, l_28, l_29, l_30, l_31, l_32, x_k2_20, r_i, r_j, r_v, r_z1, r_z0, r_a, e212_0, e212_1, e212_2, e212_4, e212_7, e212_10, e212_11, e212_14, e212_15, e212_16, e212_17, e212_18, e212_21, e212_22, e212_24, e212_27, c212, i10, i00, n2, n10, n20, n60, n8, n9, bi0, ite_not, List.replicate, Nat.reduceAdd, Nat.reduceSub, Nat.reduceLeDiff, Nat.reduceLT, if_true, if_false, mg, reduceIte, not_false_eq_true, eq_self, and_self, and_true, true_and, true_or, or_true, Nat.reduceEqDiff, t_within6, (bi_t m1_w6), m1_1]
  · by_cases c1 : wi y (nI 0) (nI 6)
    · have c2 := wi_m1' c1
      obtain ⟨j, _, hj, rfl⟩ := wi_of (by decide) c1 (by decide)
      have hj7 : j < 7 := by omega
      have hj8 : j + 1 < 8 := by omega
      refine op_eq hJ (v := S.2 (12, 0, 0) j) (v' := S.2 (24, 0, 0) (j + 1)) ?_ ?_ (f1 j hj7).symm
      · simp only [nl_n, nl_i, nl_r, x_ci, x_ca, x_bin, x_ife, x_ifl, x_ifg, x_cme, x_cml, x_cmg, x_go, x_no, x_b, x_ps, x_pn, cs_n, cs_i, cs_j, cs_r, en_n, en_i, en_j, en_r, xi1, x_k3_s, xa0, x_k2_0, r_i, r_j, r_v, r_z1, r_z0, r_a, g_0_5, l_3, l_5, l_8, l_11, l_12, l_21, l_22, l_23, l_24, l_25, l_26, l_28, l_29, l_30, l_31, l_32, xs2n, xs2i, xs2r, xs3n, xs3i, xs3r, xi3, xi2, xn3n, xn3i, xn3r, e100_0, e100_1, e100_2, e100_4, e100_7, e100_10, e100_11, e100_12, e100_15, e100_16, e100_17, e100_20, e100_21, e100_24, e100_25, e100_26, e100_27, e100_28, e100_29, e100_30, e100_32, e100_34, e100_37, e100_38, e100_39, e100_42, e100_43, e100_44, e100_45, e100_46, e100_49, e100_52, e100_53, c100, i10, i00, n2, n10, n20, n60, n8, n9, bi0, ite_not, List.replicate, Nat.reduceAdd, Nat.reduceSub, Nat.reduceLeDiff, Nat.reduceLT, if_true, if_false, mg, reduceIte, not_false_eq_true, eq_self, and_self, and_true, true_and, true_or, or_true, Nat.reduceEqDiff, t_within, (bi_t c2), (nI_pos (show j < 2 ^ 31 by omega)), hj7]
      · simp only [nl_n, nl_i, nl_r, x_ci, x_ca, x_bin, x_ife, x_ifl, x_ifg, x_cme, x_cml, x_cmg, x_go, x_no, x_b, x_ps, x_pn, cs_n, cs_i, cs_j, cs_r, en_n, en_i, en_j, en_r, xi1, x_k3_s, xa0, g_20_4, l_3, l_5, l_8, l_11, l_12, l_21, l_22, l_23, l_24, l_25, l_26, l_28, l_29, l_30, l_31, l_32, x_k2_20, r_i, r_j, r_v, r_z1, r_z0, r_a, e212_0, e212_1, e212_2, e212_4, e212_7, e212_10, e212_11, e212_14, e212_15, e212_16, e212_17, e212_18, e212_21, e212_22, e212_24, e212_27, c212, i10, i00, n2, n10, n20, n60, n8, n9, bi0, ite_not, List.replicate, Nat.reduceAdd, Nat.reduceSub, Nat.reduceLeDiff, Nat.reduceLT, if_true, if_false, mg, reduceIte, not_false_eq_true, eq_self, and_self, and_true, true_and, true_or, or_true, Nat.reduceEqDiff, t_within6, (bi_t c2), nI_add, hj8]
    · have c2 : ¬ wi y (-1) (nI 6) := fun w => (wi_m1 w).elim c c1
      refine op_fin (k := 0) (w := -1000001) (by decide) hJ ?_ ?_
      · simp only [nl_n, nl_i, nl_r, x_ci, x_ca, x_bin, x_ife, x_ifl, x_ifg, x_cme, x_cml, x_cmg, x_go, x_no, x_b, x_ps, x_pn, cs_n, cs_i, cs_j, cs_r, en_n, en_i, en_j, en_r, xi1, x_k3_s, xa0, x_k2_0, r_i, r_j, r_v, r_z1, r_z0, r_a, g_0_5, l_3, l_5, l_8, l_11, l_12, l_21, l_22, l_23, l_24, l_25, l_26, l_28, l_29, l_30, l_31, l_32, xs2n, xs2i, xs2r, xs3n, xs3i, xs3r, xi3, xi2, xn3n, xn3i, xn3r, e100_0, e100_1, e100_2, e100_4, e100_7, e100_10, e100_11, e100_12, e100_15, e100_16, e100_17, e100_20, e100_21, e100_24, e100_25, e100_26, e100_27, e100_28, e100_29, e100_30, e100_32, e100_34, e100_37, e100_38, e100_39, e100_42, e100_43, e100_44, e100_45, e100_46, e100_49, e100_52, e100_53, c100, i10, i00, n2, n10, n20, n60, n8, n9, bi0, ite_not, List.replicate, Nat.reduceAdd, Nat.reduceSub, Nat.reduceLeDiff, Nat.reduceLT, if_true, if_false, mg, reduceIte, not_false_eq_true, eq_self, and_self, and_true, true_and, true_or, or_true, Nat.reduceEqDiff, t_within, (bi_f c2), tel0]
      · simp only [nl_n, nl_i, nl_r, x_ci, x_ca, x_bin, x_ife, x_ifl, x_ifg, x_cme, x_cml, x_cmg, x_go, x_no, x_b, x_ps, x_pn, cs_n, cs_i, cs_j, cs_r, en_n, en_i, en_j, en_r, xi1, x_k3_s, xa0, g_20_4, l_3, l_5, l_8, l_11, l_12, l_21, l_22, l_23, l_24, l_25, l_26, l_28, l_29, l_30, l_31, l_32, x_k2_20, r_i, r_j, r_v, r_z1, r_z0, r_a, e212_0, e212_1, e212_2, e212_4, e212_7, e212_10, e212_11, e212_14, e212_15, e212_16, e212_17, e212_18, e212_21, e212_22, e212_24, e212_27, c212, i10, i00, n2, n10, n20, n60, n8, n9, bi0, ite_not, List.replicate, Nat.reduceAdd, Nat.reduceSub, Nat.reduceLeDiff, Nat.reduceLT, if_true, if_false, mg, reduceIte, not_false_eq_true, eq_self, and_self, and_true, true_and, true_or, or_true, Nat.reduceEqDiff, t_within6, (bi_f c2), fnd0]
/-- the most days that none sings -/
def lgs (n : Nat) : Nat → (Nat → Int32) → Int32 → Int32
  | 0, _, m => m
  | k + 1, r, m => lgs n k (dayR n r) (mxx m (dayR n r 3))
theorem lgs_s (n k : Nat) (r : Nat → Int32) (m : Int32) : lgs n (k + 1) r m = lgs n k (dayR n r) (mxx m (dayR n r 3)) := rfl
theorem lgs_c {n : Nat} (hn : n ≤ 8) : ∀ k (r r' : Nat → Int32) m, ag n r r' → lgs n k r m = lgs n k r' m := by
  intro k
  induction k with
  | zero => intro r r' m _; rfl
  | succ k ih =>
    intro r r' m h
    rw [lgs_s, lgs_s, ih _ _ _ (ag_day hn h), ag_day hn h 3 (by omega)]
theorem day_1 (n : Nat) (r : Nat → Int32) : dayR n r 1 = r 1 := by unfold dayR; rw [dyF_1]; exact soR_1 ..
theorem l_lgx {X : aX} {q : Nat → Nat → Int32} {n c : Nat} (hn : n ≤ 8) (hc : c < 2 ^ 31) : ∀ k i r D m, i + k = c → r 1 = nI n → ∃ r1 D1, eqJ D D1 ∧ go X 79 38 [some (aR (0, 0, 0)), some (aI (nI c)), some (aI m), some (aI (nI i))] [] (mem (rq q 1 r, D)) = some (some (aI (lgs n k r m)), mem (rq q 1 r1, D1)) := by
  intro k
  induction k with
  | zero =>
    intro i r D m h hr
    refine ⟨r, D, eqJ_rfl D, ?_⟩
    rw [e79_38]
    simp only [nl_n, nl_i, nl_r, x_ci, x_ca, x_bin, x_ife, x_ifl, x_ifg, x_cme, x_cml, x_cmg, x_go, x_no, x_b, x_ps, x_pn, cs_n, cs_i, cs_j, cs_r, en_n, en_i, en_j, en_r, xi1, x_k3_s, xa0, x_k2_0, r_i, r_j, r_v, r_z1, r_z0, r_a, g_0_1, g_0_0, x_k2_1, g_1_4, xs2n, xs2i, xs2r, xs3n, xs3i, xs3r, xi3, xi2, x_max, xn3n, xn3i, xn3r, e79_0, e79_1, e79_2, e79_5, e79_8, e79_11, e79_12, e79_13, e79_16, e79_17, e79_18, e79_21, e79_22, e79_25, e79_28, e79_29, e79_32, e79_35, e79_36, e79_37, e79_39, e79_40, e79_43, e79_44, e79_47, e79_48, e79_51, e79_52, e79_53, e79_56, e79_59, e79_62, e79_63, e79_66, e79_69, e79_70, c79, i10, i00, n2, n10, n20, n60, n8, n9, bi0, ite_not, List.replicate, Nat.reduceAdd, Nat.reduceSub, Nat.reduceLeDiff, Nat.reduceLT, if_true, if_false, mg, reduceIte, not_false_eq_true, eq_self, and_self, and_true, true_and, true_or, or_true, Nat.reduceEqDiff, (nI_nlt (show c ≤ i by omega) (by omega))]
    rfl
  | succ k ih =>
    intro i r D m h hr
    obtain ⟨D', hD', hd⟩ := t_days (X := X) (q := q) (D := D) (a := 1) (c := 1) (by decide) hn (by decide) hr
    have hd' : itr (dayR n) 1 r = dayR n r := rfl
    rw [hd'] at hd
    obtain ⟨r1, D1, hD1, h1⟩ := ih (i + 1) (dayR n r) D' (mxx m (dayR n r 3)) (by omega) ((day_1 ..).trans hr)
    refine ⟨r1, D1, eqJ_tr hD' hD1, ?_⟩
    rw [lgs_s, ← h1, e79_38]
    simp only [nl_n, nl_i, nl_r, x_ci, x_ca, x_bin, x_ife, x_ifl, x_ifg, x_cme, x_cml, x_cmg, x_go, x_no, x_b, x_ps, x_pn, cs_n, cs_i, cs_j, cs_r, en_n, en_i, en_j, en_r, xi1, x_k3_s, xa0, x_k2_0, r_i, r_j, r_v, r_z1, r_z0, r_a, g_0_1, g_0_0, x_k2_1, g_1_4, xs2n, xs2i, xs2r, xs3n, xs3i, xs3r, xi3, xi2, x_max, xn3n, xn3i, xn3r, e79_0, e79_1, e79_2, e79_5, e79_8, e79_11, e79_12, e79_13, e79_16, e79_17, e79_18, e79_21, e79_22, e79_25, e79_28, e79_29, e79_32, e79_35, e79_36, e79_37, e79_39, e79_40, e79_43, e79_44, e79_47, e79_48, e79_51, e79_52, e79_53, e79_56, e79_59, e79_62, e79_63, e79_66, e79_69, e79_70, c79, i10, i00, n2, n10, n20, n60, n8, n9, bi0, ite_not, List.replicate, Nat.reduceAdd, Nat.reduceSub, Nat.reduceLeDiff, Nat.reduceLT, if_true, if_false, mg, reduceIte, not_false_eq_true, eq_self, and_self, and_true, true_and, true_or, or_true, Nat.reduceEqDiff, (nI_lt (show i < c by omega) (by omega)), hd, rq_at, nI_add]
    rfl
theorem l_lgm {X : aX} {q : Nat → Nat → Int32} {n c : Nat} (hc : c < 2 ^ 31) : ∀ k i r D m, i + k = c → RI n r → ∃ r1 D1, eqJ D D1 ∧ go X 171 38 [some (aR (20, 0, 0)), some (aI (nI c)), some (aI m), some (aI (nI i))] [] (mem (rq q 3 r, D)) = some (some (aI (lgs n k r m)), mem (rq q 3 (row94 r1 (q 5)), D1)) := by
  have e5 : ∀ (q : Nat → Nat → Int32) r, rq q 3 r 5 = q 5 := fun q r => rfl
  intro k
  induction k with
  | zero =>
    intro i r D m h hr
    refine ⟨r, D, eqJ_rfl D, ?_⟩
    rw [e171_38]
    simp only [nl_n, nl_i, nl_r, x_ci, x_ca, x_bin, x_ife, x_ifl, x_ifg, x_cme, x_cml, x_cmg, x_go, x_no, x_b, x_ps, x_pn, cs_n, cs_i, cs_j, cs_r, en_n, en_i, en_j, en_r, xi1, x_k3_s, xa0, x_k2_20, r_i, r_j, r_v, r_z1, r_z0, r_a, g_20_0, g_20_2, x_k2_s, l_3, l_5, l_8, l_11, l_12, l_21, l_22, l_23, l_24, l_25, l_26, l_28, l_29, l_30, l_31, l_32, xs2n, xs2i, xs2r, xs3n, xs3i, xs3r, xi3, x_k1_20, xi2, x_max, xn3n, xn3i, xn3r, e171_0, e171_1, e171_2, e171_5, e171_8, e171_11, e171_12, e171_14, e171_17, e171_18, e171_19, e171_22, e171_23, e171_26, e171_29, e171_30, e171_33, e171_34, e171_35, e171_36, e171_37, e171_39, e171_40, e171_43, e171_44, e171_47, e171_48, e171_49, e171_52, e171_53, e171_54, e171_57, e171_58, e171_61, e171_64, e171_65, e171_66, e171_69, c171, i10, i00, n2, n10, n20, n60, n8, n9, bi0, ite_not, List.replicate, Nat.reduceAdd, Nat.reduceSub, Nat.reduceLeDiff, Nat.reduceLT, if_true, if_false, mg, reduceIte, not_false_eq_true, eq_self, and_self, and_true, true_and, true_or, or_true, Nat.reduceEqDiff, (nI_nlt (show c ≤ i by omega) (by omega)), t_putBack, rq_at, rq_rq, e5]
    rfl
  | succ k ih =>
    intro i r D m h hr
    obtain ⟨D', hD', hd⟩ := t_day (X := X) (q := q) (D := D) hr
    obtain ⟨r1, D1, hD1, h1⟩ := ih (i + 1) (dayR n r) D' (mxx m (dayR n r 3)) (by omega) (RI_day hr)
    refine ⟨r1, D1, eqJ_tr hD' hD1, ?_⟩
    rw [lgs_s, ← h1, e171_38]
    simp only [nl_n, nl_i, nl_r, x_ci, x_ca, x_bin, x_ife, x_ifl, x_ifg, x_cme, x_cml, x_cmg, x_go, x_no, x_b, x_ps, x_pn, cs_n, cs_i, cs_j, cs_r, en_n, en_i, en_j, en_r, xi1, x_k3_s, xa0, x_k2_20, r_i, r_j, r_v, r_z1, r_z0, r_a, g_20_0, g_20_2, x_k2_s, l_3, l_5, l_8, l_11, l_12, l_21, l_22, l_23, l_24, l_25, l_26, l_28, l_29, l_30, l_31, l_32, xs2n, xs2i, xs2r, xs3n, xs3i, xs3r, xi3, x_k1_20, xi2, x_max, xn3n, xn3i, xn3r, e171_0, e171_1, e171_2, e171_5, e171_8, e171_11, e171_12, e171_14, e171_17, e171_18, e171_19, e171_22, e171_23, e171_26, e171_29, e171_30, e171_33, e171_34, e171_35, e171_36, e171_37, e171_39, e171_40, e171_43, e171_44, e171_47, e171_48, e171_49, e171_52, e171_53, e171_54, e171_57, e171_58, e171_61, e171_64, e171_65, e171_66, e171_69, c171, i10, i00, n2, n10, n20, n60, n8, n9, bi0, ite_not, List.replicate, Nat.reduceAdd, Nat.reduceSub, Nat.reduceLeDiff, Nat.reduceLT, if_true, if_false, mg, reduceIte, not_false_eq_true, eq_self, and_self, and_true, true_and, true_or, or_true, Nat.reduceEqDiff, (nI_lt (show i < c by omega) (by omega)), hd, rq_at, nI_add]
    rfl
theorem o_longest {X : aX} {S : aS} {x : Int32} (hJ : J S) : opK X 79 171 [aI x] S := by
  obtain ⟨⟨n, hR, hA⟩, hK, hD⟩ := id hJ
  have hR3 := ag_RI hA hR
  have hn := hR.1
  have hz := hR.2.1
  have hz3 := hR3.2.1
  by_cases c1 : wi x (nI 0) (nI 200)
  · obtain ⟨c, _, hc, rfl⟩ := wi_of (by decide) c1 (by decide)
    have hm0 := ag_mix n (S.1 1) (S.1 0)
    have hRm := ag_RI (ag_sym hm0) hR
    obtain ⟨r1, D1, e1, h1⟩ := l_lgx (X := X) (q := S.1) (c := c) hn (by omega) c 0 (mixR n (S.1 1) (S.1 0)) S.2 (mixR n (S.1 1) (S.1 0) 3) (by omega) hRm.2.1
    obtain ⟨r3, D2, e2, h2⟩ := l_lgm (X := X) (q := rq (rq S.1 1 r1) 5 (row94 (S.1 5) (S.1 3))) (c := c) (by omega) c 0 (S.1 3) D1 (S.1 3 3) (by omega) hR3
    rw [show rq (rq (rq S.1 1 r1) 5 (row94 (S.1 5) (S.1 3))) 3 (S.1 3) = rq (rq S.1 1 r1) 5 (row94 (S.1 5) (S.1 3)) by
      funext p
      unfold rq
      by_cases h : p = 3
      · subst h; simp
      · simp [h]] at h2
    have ev : lgs n c (mixR n (S.1 1) (S.1 0)) (mixR n (S.1 1) (S.1 0) 3) = lgs n c (S.1 3) (S.1 3 3) := by
      rw [lgs_c hn c _ _ _ (ag_tr hm0 hA), ag_tr hm0 hA 3 (by omega)]
    refine ⟨aI (lgs n c (mixR n (S.1 1) (S.1 0)) (mixR n (S.1 1) (S.1 0) 3)), (rq S.1 1 r1, D1), (rq (rq (rq S.1 1 r1) 5 (row94 (S.1 5) (S.1 3))) 3 (row94 r3 (row94 (S.1 5) (S.1 3))), D2), ?_, ?_, ?_⟩
    · simp only [nl_n, nl_i, nl_r, x_ci, x_ca, x_bin, x_ife, x_ifl, x_ifg, x_cme, x_cml, x_cmg, x_go, x_no, x_b, x_ps, x_pn, cs_n, cs_i, cs_j, cs_r, en_n, en_i, en_j, en_r, xi1, x_k3_s, xa0, x_k2_0, r_i, r_j, r_v, r_z1, r_z0, r_a, g_0_1, g_0_0, x_k2_1, g_1_4, xs2n, xs2i, xs2r, xs3n, xs3i, xs3r, xi3, xi2, x_max, xn3n, xn3i, xn3r, e79_0, e79_1, e79_2, e79_5, e79_8, e79_11, e79_12, e79_13, e79_16, e79_17, e79_18, e79_21, e79_22, e79_25, e79_28, e79_29, e79_32, e79_35, e79_36, e79_37, e79_39, e79_40, e79_43, e79_44, e79_47, e79_48, e79_51, e79_52, e79_53, e79_56, e79_59, e79_62, e79_63, e79_66, e79_69, e79_70, c79, i10, i00, n2, n10, n20, n60, n8, n9, bi0, ite_not, List.replicate, Nat.reduceAdd, Nat.reduceSub, Nat.reduceLeDiff, Nat.reduceLT, if_true, if_false, mg, reduceIte, not_false_eq_true, eq_self, and_self, and_true, true_and, true_or, or_true, Nat.reduceEqDiff, t_within, (bi_t c1), (t_becS (S := S) (a := 1) (a2 := 0) (by decide) (by decide) (by decide) hn hz), rq_at]
      exact h1
    · have h3 := t_aside (X := X) (S := (rq S.1 1 r1, D1))
      dsimp only at h3
      rw [rq13, rq15] at h3
      rw [ev]
      simp only [nl_n, nl_i, nl_r, x_ci, x_ca, x_bin, x_ife, x_ifl, x_ifg, x_cme, x_cml, x_cmg, x_go, x_no, x_b, x_ps, x_pn, cs_n, cs_i, cs_j, cs_r, en_n, en_i, en_j, en_r, xi1, x_k3_s, xa0, x_k2_20, r_i, r_j, r_v, r_z1, r_z0, r_a, g_20_0, g_20_2, x_k2_s, l_3, l_5, l_8, l_11, l_12, l_21, l_22, l_23, l_24, l_25, l_26, l_28, l_29, l_30, l_31, l_32, xs2n, xs2i, xs2r, xs3n, xs3i, xs3r, xi3, x_k1_20, xi2, x_max, xn3n, xn3i, xn3r, e171_0, e171_1, e171_2, e171_5, e171_8, e171_11, e171_12, e171_14, e171_17, e171_18, e171_19, e171_22, e171_23, e171_26, e171_29, e171_30, e171_33, e171_34, e171_35, e171_36, e171_37, e171_39, e171_40, e171_43, e171_44, e171_47, e171_48, e171_49, e171_52, e171_53, e171_54, e171_57, e171_58, e171_61, e171_64, e171_65, e171_66, e171_69, c171, i10, i00, n2, n10, n20, n60, n8, n9, bi0, ite_not, List.replicate, Nat.reduceAdd, Nat.reduceSub, Nat.reduceLeDiff, Nat.reduceLT, if_true, if_false, mg, reduceIte, not_false_eq_true, eq_self, and_self, and_true, true_and, true_or, or_true, Nat.reduceEqDiff, t_within6, (bi_t c1), h3]
      exact h2
    · exact J_new hJ hR (ag_tr hA (ag_sym (ag_tr (ag_94 hn _ _) (ag_94 hn _ _)))) rfl rfl (eqJ_tr e1 e2)
  · refine op_fin (k := 0) (w := -1000001) (by decide) hJ ?_ ?_
    · simp only [nl_n, nl_i, nl_r, x_ci, x_ca, x_bin, x_ife, x_ifl, x_ifg, x_cme, x_cml, x_cmg, x_go, x_no, x_b, x_ps, x_pn, cs_n, cs_i, cs_j, cs_r, en_n, en_i, en_j, en_r, xi1, x_k3_s, xa0, x_k2_0, r_i, r_j, r_v, r_z1, r_z0, r_a, g_0_1, g_0_0, x_k2_1, g_1_4, xs2n, xs2i, xs2r, xs3n, xs3i, xs3r, xi3, xi2, x_max, xn3n, xn3i, xn3r, e79_0, e79_1, e79_2, e79_5, e79_8, e79_11, e79_12, e79_13, e79_16, e79_17, e79_18, e79_21, e79_22, e79_25, e79_28, e79_29, e79_32, e79_35, e79_36, e79_37, e79_39, e79_40, e79_43, e79_44, e79_47, e79_48, e79_51, e79_52, e79_53, e79_56, e79_59, e79_62, e79_63, e79_66, e79_69, e79_70, c79, i10, i00, n2, n10, n20, n60, n8, n9, bi0, ite_not, List.replicate, Nat.reduceAdd, Nat.reduceSub, Nat.reduceLeDiff, Nat.reduceLT, if_true, if_false, mg, reduceIte, not_false_eq_true, eq_self, and_self, and_true, true_and, true_or, or_true, Nat.reduceEqDiff, t_within, (bi_f c1), tel0]
    · simp only [nl_n, nl_i, nl_r, x_ci, x_ca, x_bin, x_ife, x_ifl, x_ifg, x_cme, x_cml, x_cmg, x_go, x_no, x_b, x_ps, x_pn, cs_n, cs_i, cs_j, cs_r, en_n, en_i, en_j, en_r, xi1, x_k3_s, xa0, x_k2_20, r_i, r_j, r_v, r_z1, r_z0, r_a, g_20_0, g_20_2, x_k2_s, l_3, l_5, l_8, l_11, l_12, l_21, l_22, l_23, l_24, l_25, l_26, l_28, l_29, l_30, l_31, l_32, xs2n, xs2i, xs2r, xs3n, xs3i, xs3r, xi3, x_k1_20, xi2, x_max, xn3n, xn3i, xn3r, e171_0, e171_1, e171_2, e171_5, e171_8, e171_11, e171_12, e171_14, e171_17, e171_18, e171_19, e171_22, e171_23, e171_26, e171_29, e171_30, e171_33, e171_34, e171_35, e171_36, e171_37, e171_39, e171_40, e171_43, e171_44, e171_47, e171_48, e171_49, e171_52, e171_53, e171_54, e171_57, e171_58, e171_61, e171_64, e171_65, e171_66, e171_69, c171, i10, i00, n2, n10, n20, n60, n8, n9, bi0, ite_not, List.replicate, Nat.reduceAdd, Nat.reduceSub, Nat.reduceLeDiff, Nat.reduceLT, if_true, if_false, mg, reduceIte, not_false_eq_true, eq_self, and_self, and_true, true_and, true_or, or_true, Nat.reduceEqDiff, t_within6, (bi_f c1), fnd0]
