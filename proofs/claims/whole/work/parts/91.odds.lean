/-! HOW MANY DATES OF BEGINNING; THE ODDS -/
theorem t_bitc {X : aX} {M : aM} {m : Nat} (hm : m < 2 ^ 64) : cl X 214 [aJ (lQ m)] M = some (some (aI (nI (pop 8 m))), M) := by
  obtain ⟨s1, s2, T, t1, t2, t3, b1, b2, b3, b4, b5, l0, h1, h2, h3, h4, h5, h6, h7⟩ := bq_all hm
  have k := mk_k
  have e1 : ((lQ m).toUInt64 >>> ((nI 1).toInt64.toUInt64 &&& Int64.toUInt64 63)).toInt64 = lQ (m / 2) := lQ_shr (s := 1) hm (by decide) (by decide +kernel)
  have e2 : lQ (m / 2) &&& 6148914691236517205 = lQ (m / 2 &&& mk8 85 8) := by rw [bc_k.1, lQ_and (by omega) k.1]
  have e3 : lQ m - lQ (m / 2 &&& mk8 85 8) = lQ s1 := by rw [lQ_sub l0, h1]
  have e4 : ((lQ s1).toUInt64 >>> ((nI 2).toInt64.toUInt64 &&& Int64.toUInt64 63)).toInt64 = lQ (s1 / 4) := lQ_shr (s := 2) b1 (by decide) (by decide +kernel)
  have e5 : lQ (s1 / 4) &&& 3689348814741910323 = lQ (s1 / 4 &&& mk8 51 8) := by rw [bc_k.2.1, lQ_and (by omega) (by omega)]
  have e6 : lQ s1 &&& 3689348814741910323 = lQ (s1 &&& mk8 51 8) := by rw [bc_k.2.1, lQ_and (by omega) (by omega)]
  have e7 : lQ (s1 &&& mk8 51 8) + lQ (s1 / 4 &&& mk8 51 8) = lQ s2 := by rw [lQ_add, h2]
  have e8 : ((lQ s2).toUInt64 >>> ((nI 4).toInt64.toUInt64 &&& Int64.toUInt64 63)).toInt64 = lQ (s2 / 16) := lQ_shr (s := 4) (by omega) (by decide) (by decide +kernel)
  have e9 : (lQ s2 + lQ (s2 / 16)) &&& 1085102592571150095 = lQ T := by rw [bc_k.2.2, lQ_add, lQ_and (by omega) (by omega), h3]
  have f1 : ((lQ T).toUInt64 >>> ((nI 8).toInt64.toUInt64 &&& Int64.toUInt64 63)).toInt64 = lQ (T / 256) := lQ_shr (s := 8) (by omega) (by decide) (by decide +kernel)
  have f2 : lQ T + lQ (T / 256) = lQ t1 := by rw [lQ_add, h4]
  have f3 : ((lQ t1).toUInt64 >>> ((nI 16).toInt64.toUInt64 &&& Int64.toUInt64 63)).toInt64 = lQ (t1 / 65536) := lQ_shr (s := 16) (by omega) (by decide) (by decide +kernel)
  have f4 : lQ t1 + lQ (t1 / 65536) = lQ t2 := by rw [lQ_add, h5]
  have f5 : ((lQ t2).toUInt64 >>> ((nI 32).toInt64.toUInt64 &&& Int64.toUInt64 63)).toInt64 = lQ (t2 / 4294967296) := lQ_shr (s := 32) (by omega) (by decide) (by decide +kernel)
  have f6 : lQ t2 + lQ (t2 / 4294967296) = lQ t3 := by rw [lQ_add, h6]
  have f7 : (lQ t3).toInt32 &&& nI 127 = nI (pop 8 m) := by rw [l2i_127, h7]
  clear h1 h2 h3 h4 h5 h6 h7
  simp only [nl_n, nl_i, nl_r, x_ci, x_ca, x_bin, x_ife, x_ifl, x_ifg, x_cme, x_cml, x_cmg, x_go, x_no, x_b, x_ps, x_pn, cs_n, cs_i, cs_j, cs_r, en_n, en_i, en_j, en_r, xj0, x_shj, x_cj, x_bnj, xt0, x_l2i, r_i, r_j, r_v, r_z1, r_z0, r_a, e214_0, e214_1, e214_2, e214_3, e214_4, e214_7, e214_8, e214_9, e214_10, e214_11, e214_14, e214_15, e214_16, e214_17, e214_18, e214_21, e214_22, e214_23, e214_24, e214_25, e214_26, e214_27, e214_28, e214_29, e214_32, e214_33, e214_34, e214_35, e214_36, e214_38, e214_39, e214_40, e214_41, e214_42, e214_43, e214_45, e214_46, e214_47, e214_48, e214_49, e214_50, e214_52, e214_53, e214_54, e214_55, e214_56, e214_57, e214_59, e214_60, c214, i10, i00, n2, n10, n20, n60, n8, n9, bi0, ite_not, List.replicate, Nat.reduceAdd, Nat.reduceSub, Nat.reduceLeDiff, Nat.reduceLT, if_true, if_false, mg, reduceIte, not_false_eq_true, eq_self, and_self, and_true, true_and, true_or, or_true, Nat.reduceEqDiff, e1, e2, e3, e4, e5, e6, e7, e8, e9, f1, f2, f3, f4, f5, f6, f7]
abbrev bgP (r : Nat → Int32) (i : Nat) : Prop := r (14 + 10 * i + 6) = 0 ∧ r (14 + 10 * i + 2) = -1
def dF (r : Nat → Int32) (i m : Nat) : Nat := if bgP r i then m ||| 2 ^ (r (14 + 10 * i + 1)).toNatClampNeg else m
theorem clN {j : Nat} (h : j < 2 ^ 31) : (nI j).toNatClampNeg = j := by
  unfold Int32.toNatClampNeg
  rw [nI_toInt h]
  rfl
theorem dF_lt {n : Nat} {r : Nat → Int32} {i m : Nat} (hr : RI n r) (hi : i < n) (hm : m < 2 ^ 60) : dF r i m < 2 ^ 60 := by
  unfold dF
  split
  · obtain ⟨j, hj, e⟩ : inN 59 (r (14 + 10 * i + 1)) := hr.2.2.2.2.2 i hi 1 (by decide)
    rw [e, clN (by omega)]
    exact Nat.or_lt_two_pow hm (Nat.pow_lt_pow_right (by decide) (by omega))
  · exact hm
theorem l_dob {X : aX} {S : aS} {n : Nat} (hr : RI n (S.1 0)) : ∀ k i m y, i + k = n → m < 2 ^ 60 → nl y = true → go X 42 4 [some (aR (1, 0, 0)), some (aJ (lQ m)), none, some (aI (nI i)), y] [] (mem S) = some (some (aI (nI (pop 8 (lp (dF (S.1 0)) k i m)))), mem S) := by
  have hn := hr.1
  have hz := hr.2.1
  intro k
  induction k with
  | zero =>
    intro i m y h hm hy
    have tb := fun M => t_bitc (X := X) (M := M) (show m < 2 ^ 64 by omega)
    rw [e42_4]
    simp only [nl_n, nl_i, nl_r, x_ci, x_ca, x_bin, x_ife, x_ifl, x_ifg, x_cme, x_cml, x_cmg, x_go, x_no, x_b, x_ps, x_pn, cs_n, cs_i, cs_j, cs_r, en_n, en_i, en_j, en_r, x_cj, xt1n, xt1i, xt1r, xs3n, xs3i, xs3r, xi3, xa0, g_1_2, g_1_0, l_2, l_9, l_27, g_4_0, xb4n, xb4i, xb4r, xa4, l_3, l_5, l_8, l_11, l_12, l_21, l_22, l_23, l_24, l_25, l_26, l_28, l_29, l_30, l_31, l_32, xj1, x_shj, x_bnj, xn3n, xn3i, xn3r, x_k1_s, r_i, r_j, r_v, r_z1, r_z0, r_a, e42_0, e42_1, e42_2, e42_3, e42_5, e42_6, e42_9, e42_12, e42_13, e42_16, e42_17, e42_18, e42_21, e42_23, e42_25, e42_27, e42_28, e42_31, e42_33, e42_34, e42_35, e42_36, e42_39, e42_40, e42_41, e42_43, e42_44, e42_45, e42_46, e42_47, e42_48, e42_51, e42_54, e42_55, e42_58, c42, i10, i00, n2, n10, n20, n60, n8, n9, bi0, ite_not, List.replicate, Nat.reduceAdd, Nat.reduceSub, Nat.reduceLeDiff, Nat.reduceLT, if_true, if_false, mg, reduceIte, not_false_eq_true, eq_self, and_self, and_true, true_and, true_or, or_true, Nat.reduceEqDiff, hz, (nI_nlt (show n ≤ i by omega) (by omega)), tb]
    rfl
  | succ k ih =>
    intro i m y h hm hy
    have hi : i < 8 := by omega
    have hlt := dF_lt hr (show i < n by omega) hm
    have ih' := fun z hz => ih (i + 1) (dF (S.1 0) i m) z (by omega) hlt hz
    obtain ⟨j, hj, e⟩ : inN 59 (S.1 0 (14 + 10 * i + 1)) := hr.2.2.2.2.2 i (by omega) 1 (by decide)
    rw [e42_4, lp_s, ← ih' (some (aR (5, 0, i))) rfl]
    unfold dF
    rw [e, clN (by omega)]
    have es := lQ_shl j (by omega)
    have eo : lQ m ||| lQ (2 ^ j) = lQ (m ||| 2 ^ j) := lQ_or (by omega) (Nat.pow_lt_pow_right (by decide) (by omega))
    simp only [nl_n, nl_i, nl_r, x_ci, x_ca, x_bin, x_ife, x_ifl, x_ifg, x_cme, x_cml, x_cmg, x_go, x_no, x_b, x_ps, x_pn, cs_n, cs_i, cs_j, cs_r, en_n, en_i, en_j, en_r, x_cj, xt1n, xt1i, xt1r, xs3n, xs3i, xs3r, xi3, xa0, g_1_2, g_1_0, l_2, l_9, l_27, g_4_0, xb4n, xb4i, xb4r, xa4, l_3, l_5, l_8, l_11, l_12, l_21, l_22, l_23, l_24, l_25, l_26, l_28, l_29, l_30, l_31, l_32, xj1, x_shj, x_bnj, xn3n, xn3i, xn3r, x_k1_s, r_i, r_j, r_v, r_z1, r_z0, r_a, e42_0, e42_1, e42_2, e42_3, e42_5, e42_6, e42_9, e42_12, e42_13, e42_16, e42_17, e42_18, e42_21, e42_23, e42_25, e42_27, e42_28, e42_31, e42_33, e42_34, e42_35, e42_36, e42_39, e42_40, e42_41, e42_43, e42_44, e42_45, e42_46, e42_47, e42_48, e42_51, e42_54, e42_55, e42_58, c42, i10, i00, n2, n10, n20, n60, n8, n9, bi0, ite_not, List.replicate, Nat.reduceAdd, Nat.reduceSub, Nat.reduceLeDiff, Nat.reduceLT, if_true, if_false, mg, reduceIte, not_false_eq_true, eq_self, and_self, and_true, true_and, true_or, or_true, Nat.reduceEqDiff, hi, hy, hz, (nI_lt (show i < n by omega) (by omega)), nI_add, e, es, eo]
    by_cases c1 : S.1 0 (14 + 10 * i + 6) = 0
    · by_cases c2 : S.1 0 (14 + 10 * i + 2) = -1
      · rw [if_pos (show bgP (S.1 0) i from ⟨c1, c2⟩)]
        simp only [c1, c2, if_true]
      · rw [if_neg (show ¬ bgP (S.1 0) i from fun w => c2 w.2)]
        simp only [c1, c2, if_true, if_false]
    · rw [if_neg (show ¬ bgP (S.1 0) i from fun w => c1 w.1)]
      simp only [c1, if_false]
theorem t_dob {X : aX} {S : aS} {n : Nat} (hr : RI n (S.1 0)) : cl X 42 [aR (1, 0, 0)] (mem S) = some (some (aI (nI (pop 8 (lp (dF (S.1 0)) n 0 0)))), mem S) := by
  have h := l_dob (X := X) hr n 0 0 none (by omega) (by decide) rfl
  rw [← h]
  simp only [nl_n, nl_i, nl_r, x_ci, x_ca, x_bin, x_ife, x_ifl, x_ifg, x_cme, x_cml, x_cmg, x_go, x_no, x_b, x_ps, x_pn, cs_n, cs_i, cs_j, cs_r, en_n, en_i, en_j, en_r, x_cj, xt1n, xt1i, xt1r, xs3n, xs3i, xs3r, xi3, xa0, g_1_2, g_1_0, l_2, l_9, l_27, g_4_0, xb4n, xb4i, xb4r, xa4, l_3, l_5, l_8, l_11, l_12, l_21, l_22, l_23, l_24, l_25, l_26, l_28, l_29, l_30, l_31, l_32, xj1, x_shj, x_bnj, xn3n, xn3i, xn3r, x_k1_s, r_i, r_j, r_v, r_z1, r_z0, r_a, e42_0, e42_1, e42_2, e42_3, e42_5, e42_6, e42_9, e42_12, e42_13, e42_16, e42_17, e42_18, e42_21, e42_23, e42_25, e42_27, e42_28, e42_31, e42_33, e42_34, e42_35, e42_36, e42_39, e42_40, e42_41, e42_43, e42_44, e42_45, e42_46, e42_47, e42_48, e42_51, e42_54, e42_55, e42_58, c42, i10, i00, n2, n10, n20, n60, n8, n9, bi0, ite_not, List.replicate, Nat.reduceAdd, Nat.reduceSub, Nat.reduceLeDiff, Nat.reduceLT, if_true, if_false, mg, reduceIte, not_false_eq_true, eq_self, and_self, and_true, true_and, true_or, or_true, Nat.reduceEqDiff]
  rfl
def bsF (r : Nat → Int32) (d i : Nat) (b : Bool) : Bool := b || (decide (bgP r i) && decide (r (14 + 10 * i + 1) = nI d))
theorem l_bdi {X : aX} {S : aS} {n d : Nat} {c : Int32} (hr : RI n (S.1 3)) : ∀ k i (b : Bool), i + k = n → go X 180 15 [some (aR (20, 0, 0)), some (aI c), some (aI (nI d)), some (aI (bi (b = true))), some (aI (nI i))] [] (mem S) = go X 180 72 [some (aR (20, 0, 0)), some (aI c), some (aI (nI d)), some (aI (bi (lp (bsF (S.1 3) d) k i b = true))), some (aI (nI n))] [] (mem S) := by
  have hn := hr.1
  have hz := hr.2.1
  intro k
  induction k with
  | zero =>
    intro i b h
    rw [e180_15]
    simp only [nl_n, nl_i, nl_r, x_ci, x_ca, x_bin, x_ife, x_ifl, x_ifg, x_cme, x_cml, x_cmg, x_go, x_no, x_b, x_ps, x_pn, cs_n, cs_i, cs_j, cs_r, en_n, en_i, en_j, en_r, xs1n, xs1i, xs1r, xs2n, xs2i, xs2r, xi2, xs3n, xs3i, xs3r, xs4n, xs4i, xs4r, xi4, xa0, g_20_0, l_3, l_5, l_8, l_11, l_12, l_21, l_22, l_23, l_24, l_25, l_26, l_28, l_29, l_30, l_31, l_32, xi3, x_k2_20, x_k3_20, xn4n, xn4i, xn4r, xi1, xn2n, xn2i, xn2r, r_i, r_j, r_v, r_z1, r_z0, r_a, e180_0, e180_1, e180_2, e180_3, e180_5, e180_7, e180_10, e180_11, e180_12, e180_13, e180_17, e180_18, e180_21, e180_22, e180_23, e180_26, e180_27, e180_30, e180_31, e180_33, e180_36, e180_39, e180_40, e180_42, e180_43, e180_46, e180_49, e180_50, e180_52, e180_53, e180_56, e180_57, e180_60, e180_61, e180_64, e180_65, e180_66, e180_69, e180_73, e180_74, e180_77, e180_78, e180_81, e180_82, e180_83, e180_84, e180_87, e180_90, e180_91, c180, i10, i00, n2, n10, n20, n60, n8, n9, bi0, ite_not, List.replicate, Nat.reduceAdd, Nat.reduceSub, Nat.reduceLeDiff, Nat.reduceLT, if_true, if_false, mg, reduceIte, not_false_eq_true, eq_self, and_self, and_true, true_and, true_or, or_true, Nat.reduceEqDiff, hz, (nI_nlt (show n ≤ i by omega) (show i < 2 ^ 31 by omega))]
    rw [show i = n by omega]
    rfl
  | succ k ih =>
    intro i b h
    have hi : i < 8 := by omega
    have td := t_isDead (X := X) hi (RI_d hr (show i < n by omega))
    have ha : (S.1 3 (14 + 10 * i + 2) < 0) = (S.1 3 (14 + 10 * i + 2) = -1) := by
      have q : ans n (S.1 3 (14 + 10 * i + 2)) := hr.2.2.2.2.2 i (by omega) 2 (by decide)
      rcases q with e | ⟨j, hj, e⟩
      · rw [e]
        exact propext ⟨fun _ => rfl, fun _ => m1_lt⟩
      · rw [e]
        refine propext ⟨fun w => absurd w (nI_pos (by omega)), fun w => absurd w (nI_m1 (by omega))⟩
    rw [e180_15, lp_s, ← ih (i + 1) _ (by omega)]
    unfold bsF
    cases b with
    | true =>
      have e1 : bi ((true || (decide (bgP (S.1 3) i) && decide (S.1 3 (14 + 10 * i + 1) = nI d))) = true) = nI 1 := bi_t rfl
      have e2 : bi (true = true) = nI 1 := bi_t rfl
      simp only [nl_n, nl_i, nl_r, x_ci, x_ca, x_bin, x_ife, x_ifl, x_ifg, x_cme, x_cml, x_cmg, x_go, x_no, x_b, x_ps, x_pn, cs_n, cs_i, cs_j, cs_r, en_n, en_i, en_j, en_r, xs1n, xs1i, xs1r, xs2n, xs2i, xs2r, xi2, xs3n, xs3i, xs3r, xs4n, xs4i, xs4r, xi4, xa0, g_20_0, l_3, l_5, l_8, l_11, l_12, l_21, l_22, l_23, l_24, l_25, l_26, l_28, l_29, l_30, l_31, l_32, xi3, x_k2_20, x_k3_20, xn4n, xn4i, xn4r, xi1, xn2n, xn2i, xn2r, r_i, r_j, r_v, r_z1, r_z0, r_a, e180_0, e180_1, e180_2, e180_3, e180_5, e180_7, e180_10, e180_11, e180_12, e180_13, e180_17, e180_18, e180_21, e180_22, e180_23, e180_26, e180_27, e180_30, e180_31, e180_33, e180_36, e180_39, e180_40, e180_42, e180_43, e180_46, e180_49, e180_50, e180_52, e180_53, e180_56, e180_57, e180_60, e180_61, e180_64, e180_65, e180_66, e180_69, e180_73, e180_74, e180_77, e180_78, e180_81, e180_82, e180_83, e180_84, e180_87, e180_90, e180_91, c180, i10, i00, n2, n10, n20, n60, n8, n9, bi0, ite_not, List.replicate, Nat.reduceAdd, Nat.reduceSub, Nat.reduceLeDiff, Nat.reduceLT, if_true, if_false, mg, reduceIte, not_false_eq_true, eq_self, and_self, and_true, true_and, true_or, or_true, Nat.reduceEqDiff, hi, hz, (nI_lt (show i < n by omega) (show n < 2 ^ 31 by omega)), td, t_is, nI_add, e1, e2]
    | false =>
      have e2 : bi (false = true) = nI 0 := bi_f (by decide)
      simp only [nl_n, nl_i, nl_r, x_ci, x_ca, x_bin, x_ife, x_ifl, x_ifg, x_cme, x_cml, x_cmg, x_go, x_no, x_b, x_ps, x_pn, cs_n, cs_i, cs_j, cs_r, en_n, en_i, en_j, en_r, xs1n, xs1i, xs1r, xs2n, xs2i, xs2r, xi2, xs3n, xs3i, xs3r, xs4n, xs4i, xs4r, xi4, xa0, g_20_0, l_3, l_5, l_8, l_11, l_12, l_21, l_22, l_23, l_24, l_25, l_26, l_28, l_29, l_30, l_31, l_32, xi3, x_k2_20, x_k3_20, xn4n, xn4i, xn4r, xi1, xn2n, xn2i, xn2r, r_i, r_j, r_v, r_z1, r_z0, r_a, e180_0, e180_1, e180_2, e180_3, e180_5, e180_7, e180_10, e180_11, e180_12, e180_13, e180_17, e180_18, e180_21, e180_22, e180_23, e180_26, e180_27, e180_30, e180_31, e180_33, e180_36, e180_39, e180_40, e180_42, e180_43, e180_46, e180_49, e180_50, e180_52, e180_53, e180_56, e180_57, e180_60, e180_61, e180_64, e180_65, e180_66, e180_69, e180_73, e180_74, e180_77, e180_78, e180_81, e180_82, e180_83, e180_84, e180_87, e180_90, e180_91, c180, i10, i00, n2, n10, n20, n60, n8, n9, bi0, ite_not, List.replicate, Nat.reduceAdd, Nat.reduceSub, Nat.reduceLeDiff, Nat.reduceLT, if_true, if_false, mg, reduceIte, not_false_eq_true, eq_self, and_self, and_true, true_and, true_or, or_true, Nat.reduceEqDiff, hi, hz, (nI_lt (show i < n by omega) (show n < 2 ^ 31 by omega)), td, t_is, nI_add, e2, ha]
      by_cases c1 : S.1 3 (14 + 10 * i + 6) = 0
      · by_cases c2 : S.1 3 (14 + 10 * i + 2) = -1
        · by_cases c3 : S.1 3 (14 + 10 * i + 1) = nI d
          · rw [bi_t (show (false || (decide (bgP (S.1 3) i) && decide (S.1 3 (14 + 10 * i + 1) = nI d))) = true by simp [bgP, c1, c2, c3])]
            simp only [c1, c2, c3, if_true, not_true, if_false]
          · rw [bi_f (show ¬ (false || (decide (bgP (S.1 3) i) && decide (S.1 3 (14 + 10 * i + 1) = nI d))) = true by simp [bgP, c1, c2, c3])]
            simp only [c1, c2, c3, if_true, not_true, if_false]
        · rw [bi_f (show ¬ (false || (decide (bgP (S.1 3) i) && decide (S.1 3 (14 + 10 * i + 1) = nI d))) = true by simp [bgP, c2])]
          simp only [c1, c2, if_true, not_true, if_false]
      · rw [bi_f (show ¬ (false || (decide (bgP (S.1 3) i) && decide (S.1 3 (14 + 10 * i + 1) = nI d))) = true by simp [bgP, c1])]
        simp only [c1, if_true, not_false_eq_true, if_false]
def bsP (r : Nat → Int32) (n d : Nat) : Bool := lp (bsF r d) n 0 false
theorem l_bdo {X : aX} {S : aS} {n : Nat} (hr : RI n (S.1 3)) : ∀ k d y z, d + k = 60 → nl y = true → nl z = true → go X 180 4 [some (aR (20, 0, 0)), some (aI (nI (cnB (bsP (S.1 3) n) d))), some (aI (nI d)), y, z] [] (mem S) = some (some (aI (nI (cnB (bsP (S.1 3) n) 60))), mem S) := by
  intro k
  induction k with
  | zero =>
    intro d y z h hy hz
    rw [show d = 60 by omega, e180_4]
    simp only [nl_n, nl_i, nl_r, x_ci, x_ca, x_bin, x_ife, x_ifl, x_ifg, x_cme, x_cml, x_cmg, x_go, x_no, x_b, x_ps, x_pn, cs_n, cs_i, cs_j, cs_r, en_n, en_i, en_j, en_r, xs1n, xs1i, xs1r, xs2n, xs2i, xs2r, xi2, xs3n, xs3i, xs3r, xs4n, xs4i, xs4r, xi4, xa0, g_20_0, l_3, l_5, l_8, l_11, l_12, l_21, l_22, l_23, l_24, l_25, l_26, l_28, l_29, l_30, l_31, l_32, xi3, x_k2_20, x_k3_20, xn4n, xn4i, xn4r, xi1, xn2n, xn2i, xn2r, r_i, r_j, r_v, r_z1, r_z0, r_a, e180_0, e180_1, e180_2, e180_3, e180_5, e180_7, e180_10, e180_11, e180_12, e180_13, e180_17, e180_18, e180_21, e180_22, e180_23, e180_26, e180_27, e180_30, e180_31, e180_33, e180_36, e180_39, e180_40, e180_42, e180_43, e180_46, e180_49, e180_50, e180_52, e180_53, e180_56, e180_57, e180_60, e180_61, e180_64, e180_65, e180_66, e180_69, e180_72, e180_73, e180_74, e180_77, e180_78, e180_81, e180_82, e180_83, e180_84, e180_87, e180_90, e180_91, c180, i10, i00, n2, n10, n20, n60, n8, n9, bi0, ite_not, List.replicate, Nat.reduceAdd, Nat.reduceSub, Nat.reduceLeDiff, Nat.reduceLT, if_true, if_false, mg, reduceIte, not_false_eq_true, eq_self, and_self, and_true, true_and, true_or, or_true, Nat.reduceEqDiff, (nI_nlt (Nat.le_refl 60) (show 60 < 2 ^ 31 by decide))]
  | succ k ih =>
    intro d y z h hy hz
    have hb := l_bdi (X := X) (d := d) (c := nI (cnB (bsP (S.1 3) n) d)) hr n 0 false (by omega)
    rw [bi_f (show ¬ (false = true) by decide)] at hb
    have e : lp (bsF (S.1 3) d) n 0 false = bsP (S.1 3) n d := rfl
    rw [e] at hb
    have ih' := ih (d + 1) (some (aI (bi (bsP (S.1 3) n d = true)))) (some (aI (nI n))) (by omega) rfl rfl
    rw [← ih', e180_4, show cnB (bsP (S.1 3) n) (d + 1) = cnB (bsP (S.1 3) n) d + (if bsP (S.1 3) n d then 1 else 0) from rfl]
    simp only [nl_n, nl_i, nl_r, x_ci, x_ca, x_bin, x_ife, x_ifl, x_ifg, x_cme, x_cml, x_cmg, x_go, x_no, x_b, x_ps, x_pn, cs_n, cs_i, cs_j, cs_r, en_n, en_i, en_j, en_r, xs1n, xs1i, xs1r, xs2n, xs2i, xs2r, xi2, xs3n, xs3i, xs3r, xs4n, xs4i, xs4r, xi4, xa0, g_20_0, l_3, l_5, l_8, l_11, l_12, l_21, l_22, l_23, l_24, l_25, l_26, l_28, l_29, l_30, l_31, l_32, xi3, x_k2_20, x_k3_20, xn4n, xn4i, xn4r, xi1, xn2n, xn2i, xn2r, r_i, r_j, r_v, r_z1, r_z0, r_a, e180_0, e180_1, e180_2, e180_3, e180_5, e180_7, e180_10, e180_11, e180_12, e180_13, e180_17, e180_18, e180_21, e180_22, e180_23, e180_26, e180_27, e180_30, e180_31, e180_33, e180_36, e180_39, e180_40, e180_42, e180_43, e180_46, e180_49, e180_50, e180_52, e180_53, e180_56, e180_57, e180_60, e180_61, e180_64, e180_65, e180_66, e180_69, e180_73, e180_74, e180_77, e180_78, e180_81, e180_82, e180_83, e180_84, e180_87, e180_90, e180_91, c180, i10, i00, n2, n10, n20, n60, n8, n9, bi0, ite_not, List.replicate, Nat.reduceAdd, Nat.reduceSub, Nat.reduceLeDiff, Nat.reduceLT, if_true, if_false, mg, reduceIte, not_false_eq_true, eq_self, and_self, and_true, true_and, true_or, or_true, Nat.reduceEqDiff, hy, hz, (nI_lt (show d < 60 by omega) (show 60 < 2 ^ 31 by decide))]
    rw [hb, e180_72]
    by_cases c : bsP (S.1 3) n d = true
    · simp only [nl_n, nl_i, nl_r, x_ci, x_ca, x_bin, x_ife, x_ifl, x_ifg, x_cme, x_cml, x_cmg, x_go, x_no, x_b, x_ps, x_pn, cs_n, cs_i, cs_j, cs_r, en_n, en_i, en_j, en_r, xs1n, xs1i, xs1r, xs2n, xs2i, xs2r, xi2, xs3n, xs3i, xs3r, xs4n, xs4i, xs4r, xi4, xa0, g_20_0, l_3, l_5, l_8, l_11, l_12, l_21, l_22, l_23, l_24, l_25, l_26, l_28, l_29, l_30, l_31, l_32, xi3, x_k2_20, x_k3_20, xn4n, xn4i, xn4r, xi1, xn2n, xn2i, xn2r, r_i, r_j, r_v, r_z1, r_z0, r_a, e180_0, e180_1, e180_2, e180_3, e180_5, e180_7, e180_10, e180_11, e180_12, e180_13, e180_17, e180_18, e180_21, e180_22, e180_23, e180_26, e180_27, e180_30, e180_31, e180_33, e180_36, e180_39, e180_40, e180_42, e180_43, e180_46, e180_49, e180_50, e180_52, e180_53, e180_56, e180_57, e180_60, e180_61, e180_64, e180_65, e180_66, e180_69, e180_73, e180_74, e180_77, e180_78, e180_81, e180_82, e180_83, e180_84, e180_87, e180_90, e180_91, c180, i10, i00, n2, n10, n20, n60, n8, n9, bi0, ite_not, List.replicate, Nat.reduceAdd, Nat.reduceSub, Nat.reduceLeDiff, Nat.reduceLT, if_true, if_false, mg, reduceIte, not_false_eq_true, eq_self, and_self, and_true, true_and, true_or, or_true, Nat.reduceEqDiff, nI_add, c, (bi_t rfl)]
    · simp only [nl_n, nl_i, nl_r, x_ci, x_ca, x_bin, x_ife, x_ifl, x_ifg, x_cme, x_cml, x_cmg, x_go, x_no, x_b, x_ps, x_pn, cs_n, cs_i, cs_j, cs_r, en_n, en_i, en_j, en_r, xs1n, xs1i, xs1r, xs2n, xs2i, xs2r, xi2, xs3n, xs3i, xs3r, xs4n, xs4i, xs4r, xi4, xa0, g_20_0, l_3, l_5, l_8, l_11, l_12, l_21, l_22, l_23, l_24, l_25, l_26, l_28, l_29, l_30, l_31, l_32, xi3, x_k2_20, x_k3_20, xn4n, xn4i, xn4r, xi1, xn2n, xn2i, xn2r, r_i, r_j, r_v, r_z1, r_z0, r_a, e180_0, e180_1, e180_2, e180_3, e180_5, e180_7, e180_10, e180_11, e180_12, e180_13, e180_17, e180_18, e180_21, e180_22, e180_23, e180_26, e180_27, e180_30, e180_31, e180_33, e180_36, e180_39, e180_40, e180_42, e180_43, e180_46, e180_49, e180_50, e180_52, e180_53, e180_56, e180_57, e180_60, e180_61, e180_64, e180_65, e180_66, e180_69, e180_73, e180_74, e180_77, e180_78, e180_81, e180_82, e180_83, e180_84, e180_87, e180_90, e180_91, c180, i10, i00, n2, n10, n20, n60, n8, n9, bi0, ite_not, List.replicate, Nat.reduceAdd, Nat.reduceSub, Nat.reduceLeDiff, Nat.reduceLT, if_true, if_false, mg, reduceIte, not_false_eq_true, eq_self, and_self, and_true, true_and, true_or, or_true, Nat.reduceEqDiff, nI_add, c, (bi_f c)]
      simp only [Bool.false_eq_true, if_false]
theorem t_bd {X : aX} {S : aS} {n : Nat} (hr : RI n (S.1 3)) : cl X 180 [aR (20, 0, 0)] (mem S) = some (some (aI (nI (cnB (bsP (S.1 3) n) 60))), mem S) := by
  have h := l_bdo (X := X) hr 60 0 none none (by omega) rfl rfl
  rw [← h]
  simp only [nl_n, nl_i, nl_r, x_ci, x_ca, x_bin, x_ife, x_ifl, x_ifg, x_cme, x_cml, x_cmg, x_go, x_no, x_b, x_ps, x_pn, cs_n, cs_i, cs_j, cs_r, en_n, en_i, en_j, en_r, xs1n, xs1i, xs1r, xs2n, xs2i, xs2r, xi2, xs3n, xs3i, xs3r, xs4n, xs4i, xs4r, xi4, xa0, g_20_0, l_3, l_5, l_8, l_11, l_12, l_21, l_22, l_23, l_24, l_25, l_26, l_28, l_29, l_30, l_31, l_32, xi3, x_k2_20, x_k3_20, xn4n, xn4i, xn4r, xi1, xn2n, xn2i, xn2r, r_i, r_j, r_v, r_z1, r_z0, r_a, e180_0, e180_1, e180_2, e180_3, e180_5, e180_7, e180_10, e180_11, e180_12, e180_13, e180_17, e180_18, e180_21, e180_22, e180_23, e180_26, e180_27, e180_30, e180_31, e180_33, e180_36, e180_39, e180_40, e180_42, e180_43, e180_46, e180_49, e180_50, e180_52, e180_53, e180_56, e180_57, e180_60, e180_61, e180_64, e180_65, e180_66, e180_69, e180_72, e180_73, e180_74, e180_77, e180_78, e180_81, e180_82, e180_83, e180_84, e180_87, e180_90, e180_91, c180, i10, i00, n2, n10, n20, n60, n8, n9, bi0, ite_not, List.replicate, Nat.reduceAdd, Nat.reduceSub, Nat.reduceLeDiff, Nat.reduceLT, if_true, if_false, mg, reduceIte, not_false_eq_true, eq_self, and_self, and_true, true_and, true_or, or_true, Nat.reduceEqDiff]
  rfl
theorem dates_eq {n : Nat} {r r' : Nat → Int32} (hr : RI n r) (ha : ag n r r') : pop 8 (lp (dF r) n 0 0) = cnB (bsP r' n) 60 := by
  have hlt : lp (dF r) n 0 0 < 2 ^ 60 := lp_inv (fun m => m < 2 ^ 60) (dF r) (n := n) (fun i m hi hm => dF_lt hr hi hm) n 0 0 (by omega) (by decide)
  rw [pop60 hlt]
  refine cnB_c 60 (fun d hd => ?_)
  refine lp_rel (fun m b => Nat.testBit m d = b) (dF r) (bsF r' d) (n := n) (fun i m b hi hm => ?_) n 0 0 false (by omega) (Nat.zero_testBit d)
  have f6 := ag_f ha hi (show 6 < 10 by decide)
  have f2 := ag_f ha hi (show 2 < 10 by decide)
  have f1 := ag_f ha hi (show 1 < 10 by decide)
  obtain ⟨j, hj, e⟩ : inN 59 (r (14 + 10 * i + 1)) := hr.2.2.2.2.2 i hi 1 (by decide)
  show Nat.testBit (dF r i m) d = bsF r' d i b
  unfold dF bsF
  rw [← f1, e, clN (by omega), ← hm]
  have eb : bgP r' i = bgP r i := by unfold bgP; rw [f6, f2]
  have en : (nI j = nI d) = (j = d) := propext (nI_eq (by omega) (by omega))
  simp only [eb, en]
  by_cases c : bgP r i
  · rw [if_pos c, Nat.testBit_or, Nat.testBit_two_pow]
    simp [c]
  · rw [if_neg c]
    simp [c]
def pwF (u : Int64) (_ : Nat) (v : Int64) : Int64 := v * u
theorem l_od5 {X : aX} {S : aS} {N : Nat} {W G : Int32} {s o : Int32} (hN : N ≤ 10) (hs : ¬ s = 0) : ∀ k i v, i + k = N → go X 84 58 [some (aR (0, 0, 0)), some (aI (nI N)), some (aI W), some (aI G), some (aI s), some (aI o), some (aJ v), none, some (aI (nI i))] [] (mem S) = some (some (aJ (lp (pwF (o / s).toInt64) k i v)), mem S) := by
  intro k
  induction k with
  | zero =>
    intro i v h
    rw [e84_58]
    simp only [nl_n, nl_i, nl_r, x_ci, x_ca, x_bin, x_ife, x_ifl, x_ifg, x_cme, x_cml, x_cmg, x_go, x_no, x_b, x_ps, x_pn, cs_n, cs_i, cs_j, cs_r, en_n, en_i, en_j, en_r, xi1, x_k3_s, xi2, xa0, x_k2_0, x_i2l, r_i, r_j, r_v, r_z1, r_z0, r_a, g_0_0, x_k1_1, xs3n, xs3i, xs3r, xi3, x_k1_s, xs4n, xs4i, xs4r, xs5n, xs5i, xs5r, x_cj, xt6n, xt6i, xt6r, xs8n, xs8i, xs8r, xi8, xj6, xi5, xi4, x_div, x_bnj, xn8n, xn8i, xn8r, e84_0, e84_1, e84_2, e84_4, e84_7, e84_10, e84_11, e84_12, e84_13, e84_16, e84_19, e84_20, e84_21, e84_24, e84_25, e84_26, e84_27, e84_30, e84_33, e84_34, e84_35, e84_38, e84_40, e84_41, e84_44, e84_45, e84_48, e84_50, e84_52, e84_53, e84_55, e84_56, e84_60, e84_61, e84_64, e84_66, e84_68, e84_70, e84_71, e84_72, e84_73, e84_75, e84_78, e84_81, e84_83, c84, i10, i00, n2, n10, n20, n60, n8, n9, bi0, ite_not, List.replicate, Nat.reduceAdd, Nat.reduceSub, Nat.reduceLeDiff, Nat.reduceLT, if_true, if_false, mg, reduceIte, not_false_eq_true, eq_self, and_self, and_true, true_and, true_or, or_true, Nat.reduceEqDiff, (nI_nlt (show N ≤ i by omega) (show i < 2 ^ 31 by omega))]
    rfl
  | succ k ih =>
    intro i v h
    rw [e84_58, lp_s, ← ih (i + 1) _ (by omega)]
    simp only [nl_n, nl_i, nl_r, x_ci, x_ca, x_bin, x_ife, x_ifl, x_ifg, x_cme, x_cml, x_cmg, x_go, x_no, x_b, x_ps, x_pn, cs_n, cs_i, cs_j, cs_r, en_n, en_i, en_j, en_r, xi1, x_k3_s, xi2, xa0, x_k2_0, x_i2l, r_i, r_j, r_v, r_z1, r_z0, r_a, g_0_0, x_k1_1, xs3n, xs3i, xs3r, xi3, x_k1_s, xs4n, xs4i, xs4r, xs5n, xs5i, xs5r, x_cj, xt6n, xt6i, xt6r, xs8n, xs8i, xs8r, xi8, xj6, xi5, xi4, x_div, x_bnj, xn8n, xn8i, xn8r, e84_0, e84_1, e84_2, e84_4, e84_7, e84_10, e84_11, e84_12, e84_13, e84_16, e84_19, e84_20, e84_21, e84_24, e84_25, e84_26, e84_27, e84_30, e84_33, e84_34, e84_35, e84_38, e84_40, e84_41, e84_44, e84_45, e84_48, e84_50, e84_52, e84_53, e84_55, e84_56, e84_60, e84_61, e84_64, e84_66, e84_68, e84_70, e84_71, e84_72, e84_73, e84_75, e84_78, e84_81, e84_83, c84, i10, i00, n2, n10, n20, n60, n8, n9, bi0, ite_not, List.replicate, Nat.reduceAdd, Nat.reduceSub, Nat.reduceLeDiff, Nat.reduceLT, if_true, if_false, mg, reduceIte, not_false_eq_true, eq_self, and_self, and_true, true_and, true_or, or_true, Nat.reduceEqDiff, (nI_lt (show i < N by omega) (show N < 2 ^ 31 by omega)), nI_add, hs]
    rfl
theorem l_od6 {X : aX} {S : aS} {N : Nat} {W G : Int32} {s u : Int32} (hN : N ≤ 10) (hs : ¬ s = 0) : ∀ k i v, i + k = N → go X 181 68 [some (aR (20, 0, 0)), some (aI (nI N)), some (aI W), some (aI G), some (aI s), some (aI u), some (aJ v), none, some (aI (nI i))] [] (mem S) = some (some (aJ (lp (pwF ((if W = 0 then G else nI 60) / s).toInt64) k i v)), mem S) := by
  intro k
  induction k with
  | zero =>
    intro i v h
    rw [e181_68]
    simp only [nl_n, nl_i, nl_r, x_ci, x_ca, x_bin, x_ife, x_ifl, x_ifg, x_cme, x_cml, x_cmg, x_go, x_no, x_b, x_ps, x_pn, cs_n, cs_i, cs_j, cs_r, en_n, en_i, en_j, en_r, xi1, x_k3_s, xi2, xa0, x_k2_20, x_i2l, r_i, r_j, r_v, r_z1, r_z0, r_a, x_k1_20, xs3n, xs3i, xs3r, xs4n, xs4i, xs4r, xi3, xs5n, xs5i, xs5r, xi5, xi4, x_div, xs6n, xs6i, xs6r, xi6, x_cj, xt6n, xt6i, xt6r, xs8n, xs8i, xs8r, xi8, xj6, x_bnj, xn8n, xn8i, xn8r, e181_0, e181_1, e181_2, e181_4, e181_7, e181_10, e181_11, e181_12, e181_13, e181_16, e181_19, e181_20, e181_22, e181_25, e181_26, e181_27, e181_28, e181_31, e181_32, e181_34, e181_36, e181_37, e181_41, e181_44, e181_46, e181_48, e181_49, e181_51, e181_53, e181_55, e181_57, e181_59, e181_63, e181_65, e181_66, e181_70, e181_71, e181_74, e181_76, e181_77, e181_80, e181_81, e181_84, e181_86, e181_88, e181_89, e181_90, e181_91, e181_93, e181_96, e181_99, e181_101, c181, i10, i00, n2, n10, n20, n60, n8, n9, bi0, ite_not, List.replicate, Nat.reduceAdd, Nat.reduceSub, Nat.reduceLeDiff, Nat.reduceLT, if_true, if_false, mg, reduceIte, not_false_eq_true, eq_self, and_self, and_true, true_and, true_or, or_true, Nat.reduceEqDiff, (nI_nlt (show N ≤ i by omega) (show i < 2 ^ 31 by omega))]
    rfl
  | succ k ih =>
    intro i v h
    rw [e181_68, lp_s, ← ih (i + 1) _ (by omega)]
    by_cases c : W = 0
    · simp only [nl_n, nl_i, nl_r, x_ci, x_ca, x_bin, x_ife, x_ifl, x_ifg, x_cme, x_cml, x_cmg, x_go, x_no, x_b, x_ps, x_pn, cs_n, cs_i, cs_j, cs_r, en_n, en_i, en_j, en_r, xi1, x_k3_s, xi2, xa0, x_k2_20, x_i2l, r_i, r_j, r_v, r_z1, r_z0, r_a, x_k1_20, xs3n, xs3i, xs3r, xs4n, xs4i, xs4r, xi3, xs5n, xs5i, xs5r, xi5, xi4, x_div, xs6n, xs6i, xs6r, xi6, x_cj, xt6n, xt6i, xt6r, xs8n, xs8i, xs8r, xi8, xj6, x_bnj, xn8n, xn8i, xn8r, e181_0, e181_1, e181_2, e181_4, e181_7, e181_10, e181_11, e181_12, e181_13, e181_16, e181_19, e181_20, e181_22, e181_25, e181_26, e181_27, e181_28, e181_31, e181_32, e181_34, e181_36, e181_37, e181_41, e181_44, e181_46, e181_48, e181_49, e181_51, e181_53, e181_55, e181_57, e181_59, e181_63, e181_65, e181_66, e181_70, e181_71, e181_74, e181_76, e181_77, e181_80, e181_81, e181_84, e181_86, e181_88, e181_89, e181_90, e181_91, e181_93, e181_96, e181_99, e181_101, c181, i10, i00, n2, n10, n20, n60, n8, n9, bi0, ite_not, List.replicate, Nat.reduceAdd, Nat.reduceSub, Nat.reduceLeDiff, Nat.reduceLT, if_true, if_false, mg, reduceIte, not_false_eq_true, eq_self, and_self, and_true, true_and, true_or, or_true, Nat.reduceEqDiff, (nI_lt (show i < N by omega) (show N < 2 ^ 31 by omega)), nI_add, hs, c]
      rfl
    · simp only [nl_n, nl_i, nl_r, x_ci, x_ca, x_bin, x_ife, x_ifl, x_ifg, x_cme, x_cml, x_cmg, x_go, x_no, x_b, x_ps, x_pn, cs_n, cs_i, cs_j, cs_r, en_n, en_i, en_j, en_r, xi1, x_k3_s, xi2, xa0, x_k2_20, x_i2l, r_i, r_j, r_v, r_z1, r_z0, r_a, x_k1_20, xs3n, xs3i, xs3r, xs4n, xs4i, xs4r, xi3, xs5n, xs5i, xs5r, xi5, xi4, x_div, xs6n, xs6i, xs6r, xi6, x_cj, xt6n, xt6i, xt6r, xs8n, xs8i, xs8r, xi8, xj6, x_bnj, xn8n, xn8i, xn8r, e181_0, e181_1, e181_2, e181_4, e181_7, e181_10, e181_11, e181_12, e181_13, e181_16, e181_19, e181_20, e181_22, e181_25, e181_26, e181_27, e181_28, e181_31, e181_32, e181_34, e181_36, e181_37, e181_41, e181_44, e181_46, e181_48, e181_49, e181_51, e181_53, e181_55, e181_57, e181_59, e181_63, e181_65, e181_66, e181_70, e181_71, e181_74, e181_76, e181_77, e181_80, e181_81, e181_84, e181_86, e181_88, e181_89, e181_90, e181_91, e181_93, e181_96, e181_99, e181_101, c181, i10, i00, n2, n10, n20, n60, n8, n9, bi0, ite_not, List.replicate, Nat.reduceAdd, Nat.reduceSub, Nat.reduceLeDiff, Nat.reduceLT, if_true, if_false, mg, reduceIte, not_false_eq_true, eq_self, and_self, and_true, true_and, true_or, or_true, Nat.reduceEqDiff, (nI_lt (show i < N by omega) (show N < 2 ^ 31 by omega)), nI_add, hs, c]
      rfl
theorem o_odds {X : aX} {S : aS} {x y : Int32} (hJ : J S) : opK X 84 181 [aI x, aI y] S := by
  obtain ⟨⟨n, hR, hA⟩, hK, hD⟩ := id hJ
  have hR3 := ag_RI hA hR
  have hn := hR.1
  have hz := hR.2.1
  have hz3 := hR3.2.1
  by_cases c1 : wi x (nI 0) (nI 10)
  · by_cases c2 : wi y (nI 0) (nI 1)
    · obtain ⟨N, _, hN, rfl⟩ := wi_of (by decide) c1 (by decide)
      have t1 := t_dob (X := X) hR
      have t2 := t_bd (X := X) hR3
      rw [dates_eq hR hA] at t1
      have hg := cnB_le (bsP (S.1 3) n) 60
      generalize cnB (bsP (S.1 3) n) 60 = g at t1 t2 hg
      have hsh := t_shared (X := X) (M := mem S) hg
      have g0 : Nat.gcd 60 g ≠ 0 := fun w => by have := (Nat.gcd_eq_zero_iff.1 w).1; omega
      have gl : Nat.gcd 60 g ≤ 60 := Nat.gcd_le_left g (by decide)
      have hs0 : ¬ nI (Nat.gcd 60 g) = 0 := nI_ne0 (by omega) (by omega)
      have l5 := fun o => l_od5 (X := X) (S := S) (W := y) (G := nI g) (o := o) hN hs0 N 0 1 (by omega)
      have l6 := fun u => l_od6 (X := X) (S := S) (W := y) (G := nI g) (u := u) hN hs0 N 0 1 (by omega)
      obtain ⟨y', hy', he⟩ := l_euc (X := X) (M := mem S) (N := nI N) (W := y) (G := nI g) g 60 none hg (by decide) rfl
      refine ⟨aJ (lp (pwF ((if y = 0 then nI g else nI 60) / nI (Nat.gcd 60 g)).toInt64) N 0 1), S, S, ?_, ?_, hJ⟩
      · by_cases c : y = 0
        · subst c
          simp only [nl_n, nl_i, nl_r, x_ci, x_ca, x_bin, x_ife, x_ifl, x_ifg, x_cme, x_cml, x_cmg, x_go, x_no, x_b, x_ps, x_pn, cs_n, cs_i, cs_j, cs_r, en_n, en_i, en_j, en_r, xi1, x_k3_s, xi2, xa0, x_k2_0, x_i2l, r_i, r_j, r_v, r_z1, r_z0, r_a, g_0_0, x_k1_1, xs3n, xs3i, xs3r, xi3, x_k1_s, xs4n, xs4i, xs4r, xs5n, xs5i, xs5r, x_cj, xt6n, xt6i, xt6r, xs8n, xs8i, xs8r, xi8, xj6, xi5, xi4, x_div, x_bnj, xn8n, xn8i, xn8r, e84_0, e84_1, e84_2, e84_4, e84_7, e84_10, e84_11, e84_12, e84_13, e84_16, e84_19, e84_20, e84_21, e84_24, e84_25, e84_26, e84_27, e84_30, e84_33, e84_34, e84_35, e84_38, e84_40, e84_41, e84_44, e84_45, e84_48, e84_50, e84_52, e84_53, e84_55, e84_56, e84_60, e84_61, e84_64, e84_66, e84_68, e84_70, e84_71, e84_72, e84_73, e84_75, e84_78, e84_81, e84_83, c84, i10, i00, n2, n10, n20, n60, n8, n9, bi0, ite_not, List.replicate, Nat.reduceAdd, Nat.reduceSub, Nat.reduceLeDiff, Nat.reduceLT, if_true, if_false, mg, reduceIte, not_false_eq_true, eq_self, and_self, and_true, true_and, true_or, or_true, Nat.reduceEqDiff, t_within, (bi_t c1), (bi_t c2), t1, hsh]
          exact l5 (nI g)
        · simp only [nl_n, nl_i, nl_r, x_ci, x_ca, x_bin, x_ife, x_ifl, x_ifg, x_cme, x_cml, x_cmg, x_go, x_no, x_b, x_ps, x_pn, cs_n, cs_i, cs_j, cs_r, en_n, en_i, en_j, en_r, xi1, x_k3_s, xi2, xa0, x_k2_0, x_i2l, r_i, r_j, r_v, r_z1, r_z0, r_a, g_0_0, x_k1_1, xs3n, xs3i, xs3r, xi3, x_k1_s, xs4n, xs4i, xs4r, xs5n, xs5i, xs5r, x_cj, xt6n, xt6i, xt6r, xs8n, xs8i, xs8r, xi8, xj6, xi5, xi4, x_div, x_bnj, xn8n, xn8i, xn8r, e84_0, e84_1, e84_2, e84_4, e84_7, e84_10, e84_11, e84_12, e84_13, e84_16, e84_19, e84_20, e84_21, e84_24, e84_25, e84_26, e84_27, e84_30, e84_33, e84_34, e84_35, e84_38, e84_40, e84_41, e84_44, e84_45, e84_48, e84_50, e84_52, e84_53, e84_55, e84_56, e84_60, e84_61, e84_64, e84_66, e84_68, e84_70, e84_71, e84_72, e84_73, e84_75, e84_78, e84_81, e84_83, c84, i10, i00, n2, n10, n20, n60, n8, n9, bi0, ite_not, List.replicate, Nat.reduceAdd, Nat.reduceSub, Nat.reduceLeDiff, Nat.reduceLT, if_true, if_false, mg, reduceIte, not_false_eq_true, eq_self, and_self, and_true, true_and, true_or, or_true, Nat.reduceEqDiff, t_within, (bi_t c1), (bi_t c2), t1, hsh, c]
          exact l5 (nI 60)
      · rw [← l6 (nI 0)]
        simp only [nl_n, nl_i, nl_r, x_ci, x_ca, x_bin, x_ife, x_ifl, x_ifg, x_cme, x_cml, x_cmg, x_go, x_no, x_b, x_ps, x_pn, cs_n, cs_i, cs_j, cs_r, en_n, en_i, en_j, en_r, xi1, x_k3_s, xi2, xa0, x_k2_20, x_i2l, r_i, r_j, r_v, r_z1, r_z0, r_a, x_k1_20, xs3n, xs3i, xs3r, xs4n, xs4i, xs4r, xi3, xs5n, xs5i, xs5r, xi5, xi4, x_div, xs6n, xs6i, xs6r, xi6, x_cj, xt6n, xt6i, xt6r, xs8n, xs8i, xs8r, xi8, xj6, x_bnj, xn8n, xn8i, xn8r, e181_0, e181_1, e181_2, e181_4, e181_7, e181_10, e181_11, e181_12, e181_13, e181_16, e181_19, e181_20, e181_22, e181_25, e181_26, e181_27, e181_28, e181_31, e181_32, e181_34, e181_36, e181_37, e181_41, e181_44, e181_46, e181_48, e181_49, e181_51, e181_53, e181_55, e181_57, e181_59, e181_63, e181_65, e181_66, e181_70, e181_71, e181_74, e181_76, e181_77, e181_80, e181_81, e181_84, e181_86, e181_88, e181_89, e181_90, e181_91, e181_93, e181_96, e181_99, e181_101, c181, i10, i00, n2, n10, n20, n60, n8, n9, bi0, ite_not, List.replicate, Nat.reduceAdd, Nat.reduceSub, Nat.reduceLeDiff, Nat.reduceLT, if_true, if_false, mg, reduceIte, not_false_eq_true, eq_self, and_self, and_true, true_and, true_or, or_true, Nat.reduceEqDiff, t_within6, (bi_t c1), (bi_t c2), t2]
        rw [he, e181_62]
        simp only [nl_n, nl_i, nl_r, x_ci, x_ca, x_bin, x_ife, x_ifl, x_ifg, x_cme, x_cml, x_cmg, x_go, x_no, x_b, x_ps, x_pn, cs_n, cs_i, cs_j, cs_r, en_n, en_i, en_j, en_r, xi1, x_k3_s, xi2, xa0, x_k2_20, x_i2l, r_i, r_j, r_v, r_z1, r_z0, r_a, x_k1_20, xs3n, xs3i, xs3r, xs4n, xs4i, xs4r, xi3, xs5n, xs5i, xs5r, xi5, xi4, x_div, xs6n, xs6i, xs6r, xi6, x_cj, xt6n, xt6i, xt6r, xs8n, xs8i, xs8r, xi8, xj6, x_bnj, xn8n, xn8i, xn8r, e181_0, e181_1, e181_2, e181_4, e181_7, e181_10, e181_11, e181_12, e181_13, e181_16, e181_19, e181_20, e181_22, e181_25, e181_26, e181_27, e181_28, e181_31, e181_32, e181_34, e181_36, e181_37, e181_41, e181_44, e181_46, e181_48, e181_49, e181_51, e181_53, e181_55, e181_57, e181_59, e181_63, e181_65, e181_66, e181_70, e181_71, e181_74, e181_76, e181_77, e181_80, e181_81, e181_84, e181_86, e181_88, e181_89, e181_90, e181_91, e181_93, e181_96, e181_99, e181_101, c181, i10, i00, n2, n10, n20, n60, n8, n9, bi0, ite_not, List.replicate, Nat.reduceAdd, Nat.reduceSub, Nat.reduceLeDiff, Nat.reduceLT, if_true, if_false, mg, reduceIte, not_false_eq_true, eq_self, and_self, and_true, true_and, true_or, or_true, Nat.reduceEqDiff, hy']
    · refine ⟨aJ (-1000001 : Int32).toInt64, (S.1, tlD 0 S.2), (S.1, fdD 0 (tlD 0 S.2)), ?_, ?_, J_fin (k := 0) (by decide) hJ⟩
      · simp only [nl_n, nl_i, nl_r, x_ci, x_ca, x_bin, x_ife, x_ifl, x_ifg, x_cme, x_cml, x_cmg, x_go, x_no, x_b, x_ps, x_pn, cs_n, cs_i, cs_j, cs_r, en_n, en_i, en_j, en_r, xi1, x_k3_s, xi2, xa0, x_k2_0, x_i2l, r_i, r_j, r_v, r_z1, r_z0, r_a, g_0_0, x_k1_1, xs3n, xs3i, xs3r, xi3, x_k1_s, xs4n, xs4i, xs4r, xs5n, xs5i, xs5r, x_cj, xt6n, xt6i, xt6r, xs8n, xs8i, xs8r, xi8, xj6, xi5, xi4, x_div, x_bnj, xn8n, xn8i, xn8r, e84_0, e84_1, e84_2, e84_4, e84_7, e84_10, e84_11, e84_12, e84_13, e84_16, e84_19, e84_20, e84_21, e84_24, e84_25, e84_26, e84_27, e84_30, e84_33, e84_34, e84_35, e84_38, e84_40, e84_41, e84_44, e84_45, e84_48, e84_50, e84_52, e84_53, e84_55, e84_56, e84_60, e84_61, e84_64, e84_66, e84_68, e84_70, e84_71, e84_72, e84_73, e84_75, e84_78, e84_81, e84_83, c84, i10, i00, n2, n10, n20, n60, n8, n9, bi0, ite_not, List.replicate, Nat.reduceAdd, Nat.reduceSub, Nat.reduceLeDiff, Nat.reduceLT, if_true, if_false, mg, reduceIte, not_false_eq_true, eq_self, and_self, and_true, true_and, true_or, or_true, Nat.reduceEqDiff, t_within, (bi_t c1), (bi_f c2), tel0]
      · simp only [nl_n, nl_i, nl_r, x_ci, x_ca, x_bin, x_ife, x_ifl, x_ifg, x_cme, x_cml, x_cmg, x_go, x_no, x_b, x_ps, x_pn, cs_n, cs_i, cs_j, cs_r, en_n, en_i, en_j, en_r, xi1, x_k3_s, xi2, xa0, x_k2_20, x_i2l, r_i, r_j, r_v, r_z1, r_z0, r_a, x_k1_20, xs3n, xs3i, xs3r, xs4n, xs4i, xs4r, xi3, xs5n, xs5i, xs5r, xi5, xi4, x_div, xs6n, xs6i, xs6r, xi6, x_cj, xt6n, xt6i, xt6r, xs8n, xs8i, xs8r, xi8, xj6, x_bnj, xn8n, xn8i, xn8r, e181_0, e181_1, e181_2, e181_4, e181_7, e181_10, e181_11, e181_12, e181_13, e181_16, e181_19, e181_20, e181_22, e181_25, e181_26, e181_27, e181_28, e181_31, e181_32, e181_34, e181_36, e181_37, e181_41, e181_44, e181_46, e181_48, e181_49, e181_51, e181_53, e181_55, e181_57, e181_59, e181_63, e181_65, e181_66, e181_70, e181_71, e181_74, e181_76, e181_77, e181_80, e181_81, e181_84, e181_86, e181_88, e181_89, e181_90, e181_91, e181_93, e181_96, e181_99, e181_101, c181, i10, i00, n2, n10, n20, n60, n8, n9, bi0, ite_not, List.replicate, Nat.reduceAdd, Nat.reduceSub, Nat.reduceLeDiff, Nat.reduceLT, if_true, if_false, mg, reduceIte, not_false_eq_true, eq_self, and_self, and_true, true_and, true_or, or_true, Nat.reduceEqDiff, t_within6, (bi_t c1), (bi_f c2), fnd0]
  · refine ⟨aJ (-1000001 : Int32).toInt64, (S.1, tlD 0 S.2), (S.1, fdD 0 (tlD 0 S.2)), ?_, ?_, J_fin (k := 0) (by decide) hJ⟩
    · simp only [nl_n, nl_i, nl_r, x_ci, x_ca, x_bin, x_ife, x_ifl, x_ifg, x_cme, x_cml, x_cmg, x_go, x_no, x_b, x_ps, x_pn, cs_n, cs_i, cs_j, cs_r, en_n, en_i, en_j, en_r, xi1, x_k3_s, xi2, xa0, x_k2_0, x_i2l, r_i, r_j, r_v, r_z1, r_z0, r_a, g_0_0, x_k1_1, xs3n, xs3i, xs3r, xi3, x_k1_s, xs4n, xs4i, xs4r, xs5n, xs5i, xs5r, x_cj, xt6n, xt6i, xt6r, xs8n, xs8i, xs8r, xi8, xj6, xi5, xi4, x_div, x_bnj, xn8n, xn8i, xn8r, e84_0, e84_1, e84_2, e84_4, e84_7, e84_10, e84_11, e84_12, e84_13, e84_16, e84_19, e84_20, e84_21, e84_24, e84_25, e84_26, e84_27, e84_30, e84_33, e84_34, e84_35, e84_38, e84_40, e84_41, e84_44, e84_45, e84_48, e84_50, e84_52, e84_53, e84_55, e84_56, e84_60, e84_61, e84_64, e84_66, e84_68, e84_70, e84_71, e84_72, e84_73, e84_75, e84_78, e84_81, e84_83, c84, i10, i00, n2, n10, n20, n60, n8, n9, bi0, ite_not, List.replicate, Nat.reduceAdd, Nat.reduceSub, Nat.reduceLeDiff, Nat.reduceLT, if_true, if_false, mg, reduceIte, not_false_eq_true, eq_self, and_self, and_true, true_and, true_or, or_true, Nat.reduceEqDiff, t_within, (bi_f c1), tel0]
    · simp only [nl_n, nl_i, nl_r, x_ci, x_ca, x_bin, x_ife, x_ifl, x_ifg, x_cme, x_cml, x_cmg, x_go, x_no, x_b, x_ps, x_pn, cs_n, cs_i, cs_j, cs_r, en_n, en_i, en_j, en_r, xi1, x_k3_s, xi2, xa0, x_k2_20, x_i2l, r_i, r_j, r_v, r_z1, r_z0, r_a, x_k1_20, xs3n, xs3i, xs3r, xs4n, xs4i, xs4r, xi3, xs5n, xs5i, xs5r, xi5, xi4, x_div, xs6n, xs6i, xs6r, xi6, x_cj, xt6n, xt6i, xt6r, xs8n, xs8i, xs8r, xi8, xj6, x_bnj, xn8n, xn8i, xn8r, e181_0, e181_1, e181_2, e181_4, e181_7, e181_10, e181_11, e181_12, e181_13, e181_16, e181_19, e181_20, e181_22, e181_25, e181_26, e181_27, e181_28, e181_31, e181_32, e181_34, e181_36, e181_37, e181_41, e181_44, e181_46, e181_48, e181_49, e181_51, e181_53, e181_55, e181_57, e181_59, e181_63, e181_65, e181_66, e181_70, e181_71, e181_74, e181_76, e181_77, e181_80, e181_81, e181_84, e181_86, e181_88, e181_89, e181_90, e181_91, e181_93, e181_96, e181_99, e181_101, c181, i10, i00, n2, n10, n20, n60, n8, n9, bi0, ite_not, List.replicate, Nat.reduceAdd, Nat.reduceSub, Nat.reduceLeDiff, Nat.reduceLT, if_true, if_false, mg, reduceIte, not_false_eq_true, eq_self, and_self, and_true, true_and, true_or, or_true, Nat.reduceEqDiff, t_within6, (bi_f c1), fnd0]
