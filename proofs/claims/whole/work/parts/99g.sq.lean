/-! A SQUARE, THE READER, THE SHEETS ARE MADE -/
def cS3 (h : aL → Nat → aV) (a : Nat) (F1 F2 F3 : Nat → aV) : aL → Nat → aV := cu (cu (cu h (1, a, 0) F1) (2, a, 0) F2) (3, a, 0) F3
theorem n12 {a b : Nat} : ((1, a, 0) : aL) ≠ (2, b, 0) := fun z => by cases z
theorem n13 {a b : Nat} : ((1, a, 0) : aL) ≠ (3, b, 0) := fun z => by cases z
theorem n23 {a b : Nat} : ((2, a, 0) : aL) ≠ (3, b, 0) := fun z => by cases z
theorem s3_3 {h : aL → Nat → aV} {a : Nat} {F1 F2 F3 F : Nat → aV} : cu (cS3 h a F1 F2 F3) (3, a, 0) F = cS3 h a F1 F2 F := cu_cu
theorem s3_2 {h : aL → Nat → aV} {a : Nat} {F1 F2 F3 F : Nat → aV} : cu (cS3 h a F1 F2 F3) (2, a, 0) F = cS3 h a F1 F F3 := by
  unfold cS3
  rw [cu_sw (c := (3, a, 0)) (c' := (2, a, 0)) (Ne.symm n23), cu_cu]
theorem s3_1 {h : aL → Nat → aV} {a : Nat} {F1 F2 F3 F : Nat → aV} : cu (cS3 h a F1 F2 F3) (1, a, 0) F = cS3 h a F F2 F3 := by
  unfold cS3
  rw [cu_sw (c := (3, a, 0)) (c' := (1, a, 0)) (Ne.symm n13), cu_sw (c := (2, a, 0)) (c' := (1, a, 0)) (Ne.symm n12), cu_cu]
theorem s3_r1 {h : aL → Nat → aV} {a : Nat} {F1 F2 F3 : Nat → aV} : cS3 h a F1 F2 F3 (1, a, 0) = F1 := by
  unfold cS3
  rw [cu_ne n13, cu_ne n12, cu_at]
theorem s3_r2 {h : aL → Nat → aV} {a : Nat} {F1 F2 F3 : Nat → aV} : cS3 h a F1 F2 F3 (2, a, 0) = F2 := by
  unfold cS3
  rw [cu_ne n23, cu_at]
theorem s3_r3 {h : aL → Nat → aV} {a : Nat} {F1 F2 F3 : Nat → aV} : cS3 h a F1 F2 F3 (3, a, 0) = F3 := cu_at
theorem s3_o {h : aL → Nat → aV} {a : Nat} {F1 F2 F3 : Nat → aV} {r : aL} (hr : 4 ≤ r.1) : cS3 h a F1 F2 F3 r = h r := by
  unfold cS3
  rw [cu_ne (fun z => by subst z; have w : 4 ≤ 3 := hr; omega), cu_ne (fun z => by subst z; have w : 4 ≤ 2 := hr; omega), cu_ne (fun z => by subst z; have w : 4 ≤ 1 := hr; omega)]
theorem s3_in {h : aL → Nat → aV} {a : Nat} {F : Nat → aV} : cu h (1, a, 0) F = cS3 h a F (h (2, a, 0)) (h (3, a, 0)) := by
  unfold cS3
  rw [cu_id (h := cu h (1, a, 0) F) (c := (2, a, 0)) (cu_ne (Ne.symm n12)).symm, cu_id (h := cu h (1, a, 0) F) (c := (3, a, 0)) (cu_ne (Ne.symm n13)).symm]
theorem s3_out {h : aL → Nat → aV} {a : Nat} {F1 F2 F3 : Nat → aV} (e1 : F1 = h (1, a, 0)) (e2 : F2 = h (2, a, 0)) (e3 : F3 = h (3, a, 0)) : cS3 h a F1 F2 F3 = h := by
  unfold cS3
  rw [cu_id e1, cu_id e2, cu_id e3]
def sgR (a b : Nat) : Nat → aV := fun k => if k < b then aR (4, a, k) else aN
def spR (j : Nat) : Nat → aV := fun k => if k < j then aI (-1) else aI (nI 0)
theorem sg_s {a b : Nat} : fup (sgR a b) b (aR (4, a, b)) = sgR a (b + 1) := by
  funext k
  unfold fup sgR
  by_cases w : k = b
  · rw [if_pos w, if_pos (by omega), w]
  · rw [if_neg w]
    by_cases w2 : k < b
    · rw [if_pos w2, if_pos (by omega)]
    · rw [if_neg w2, if_neg (by omega)]
theorem sp_s {j : Nat} : fup (spR j) j (aI (-1)) = spR (j + 1) := by
  funext k
  unfold fup spR
  by_cases w : k = j
  · rw [if_pos w, if_pos (by omega)]
  · rw [if_neg w]
    by_cases w2 : k < j
    · rw [if_pos w2, if_pos (by omega)]
    · rw [if_neg w2, if_neg (by omega)]
theorem aso_2 {i a b : Nat} {h : aL → Nat → aV} (o : okC i (4, a, b)) : aso (i, h) (2, a, 0) (4, a, b) = true := by
  unfold aso
  rw [okC_g o rfl]
  rfl
theorem aso_3 {i s : Nat} {h : aL → Nat → aV} (o : okC i (10, s, 0)) : aso (i, h) (9, 0, 0) (10, s, 0) = true := by
  unfold aso
  rw [okC_g o rfl]
  rfl
theorem l_sq1 {X : aX} {h : aL → Nat → aV} {a : Nat} {F1 F3 : Nat → aV} (ha : a < 3) (hg : ∀ b, b < 8 → h (4, a, b) = g0 (4, a, b) ∧ h (5, a, b) = g0 (5, a, b)) (hF : F1 0 = aR (2, a, 0)) : ∀ k b, b + k = 8 → go X 25 43 [some (aR (1, a, 0)), some (aI (nI b))] [] (4 + 19 * a + 2 * b, cS3 h a F1 (sgR a b) F3) = go X 25 68 [some (aR (1, a, 0)), some (aI (nI 8))] [] (20 + 19 * a, cS3 h a F1 (sgR a 8) F3) := by
  intro k
  induction k with
  | zero =>
    intro b hb
    rw [show b = 8 by omega, show 4 + 19 * a + 2 * 8 = 20 + 19 * a by omega, e25_43]
    simp only [nl_n, nl_i, nl_r, x_ci, x_ca, x_bin, x_ife, x_ifl, x_ifg, x_cme, x_cml, x_cmg, x_go, x_no, x_b, x_ps, x_pn, cs_n, cs_i, cs_j, cs_r, en_n, en_i, en_j, en_r, xa0, x_oin, p_1_2, p_1_3, p_1_4, p_1_5, xs1n, xs1i, xs1r, xi1, g_1_0, x_dupi, x_dupr, x_k1_4, xn1n, xn1i, xn1r, g_1_1, s_3, s_5, s_8, s_11, s_12, s_21, s_22, s_23, s_24, s_25, s_26, s_28, s_29, s_30, s_31, s_32, r_i, r_j, r_v, r_z1, r_z0, r_a, e25_0, e25_1, e25_4, e25_5, e25_7, e25_10, e25_13, e25_14, e25_16, e25_18, e25_21, e25_22, e25_23, e25_26, e25_27, e25_28, e25_31, e25_32, e25_33, e25_36, e25_37, e25_38, e25_41, e25_42, e25_44, e25_46, e25_49, e25_50, e25_53, e25_54, e25_57, e25_58, e25_61, e25_62, e25_65, e25_69, e25_71, e25_73, e25_76, e25_77, e25_80, e25_81, e25_82, e25_83, e25_86, e25_89, c25, i10, i00, n2, n10, n20, n60, n8, n9, bi0, ite_not, List.replicate, Nat.reduceAdd, Nat.reduceSub, Nat.reduceLeDiff, Nat.reduceLT, if_true, if_false, mg, reduceIte, not_false_eq_true, eq_self, and_self, and_true, true_and, true_or, or_true, Nat.reduceEqDiff, (nI_nlt (Nat.le_refl 8) (show 8 < 2 ^ 31 by decide))]
  | succ k ih =>
    intro b hb
    have hb8 : b < 8 := by omega
    have o1 : okC (4 + 19 * a + 2 * b) (1, a, 0) := mkC (show 1 < 80 by decide) (ce1 a ha).1 (ce1 a ha).2 (by omega)
    have o4 : okC (4 + 19 * a + 2 * b + 1) (4, a, b) := mkC (show 4 < 80 by decide) (ce4 a ha b hb8).1 (ce4 a ha b hb8).2 (by omega)
    have o4' : okC (4 + 19 * a + 2 * b + 1 + 1) (4, a, b) := mkC (show 4 < 80 by decide) (ce4 a ha b hb8).1 (ce4 a ha b hb8).2 (by omega)
    have o2 : okC (4 + 19 * a + 2 * b + 1 + 1) (2, a, 0) := mkC (show 2 < 80 by decide) (ce2 a ha).1 (ce2 a ha).2 (by omega)
    have is := i_sing (X := X) (h := cS3 h a F1 (sgR a b) F3) (i := 4 + 19 * a + 2 * b + 1) ha hb8 (by omega) ((s3_o (show 4 ≤ 4 by decide)).trans (hg b hb8).1) ((s3_o (show 4 ≤ 5 by decide)).trans (hg b hb8).2)
    rw [← ih (b + 1) (by omega), e25_43]
    have en : 4 + 19 * a + 2 * (b + 1) = 4 + 19 * a + 2 * b + 1 + 1 := by omega
    rw [en]
    simp only [nl_n, nl_i, nl_r, x_ci, x_ca, x_bin, x_ife, x_ifl, x_ifg, x_cme, x_cml, x_cmg, x_go, x_no, x_b, x_ps, x_pn, cs_n, cs_i, cs_j, cs_r, en_n, en_i, en_j, en_r, xa0, x_oin, p_1_2, p_1_3, p_1_4, p_1_5, xs1n, xs1i, xs1r, xi1, g_1_0, x_dupi, x_dupr, x_k1_4, xn1n, xn1i, xn1r, g_1_1, s_3, s_5, s_8, s_11, s_12, s_21, s_22, s_23, s_24, s_25, s_26, s_28, s_29, s_30, s_31, s_32, r_i, r_j, r_v, r_z1, r_z0, r_a, e25_0, e25_1, e25_4, e25_5, e25_7, e25_10, e25_13, e25_14, e25_16, e25_18, e25_21, e25_22, e25_23, e25_26, e25_27, e25_28, e25_31, e25_32, e25_33, e25_36, e25_37, e25_38, e25_41, e25_42, e25_44, e25_46, e25_49, e25_50, e25_53, e25_54, e25_57, e25_58, e25_61, e25_62, e25_65, e25_69, e25_71, e25_73, e25_76, e25_77, e25_80, e25_81, e25_82, e25_83, e25_86, e25_89, c25, i10, i00, n2, n10, n20, n60, n8, n9, bi0, ite_not, List.replicate, Nat.reduceAdd, Nat.reduceSub, Nat.reduceLeDiff, Nat.reduceLT, if_true, if_false, mg, reduceIte, not_false_eq_true, eq_self, and_self, and_true, true_and, true_or, or_true, Nat.reduceEqDiff, (nI_lt hb8 (show 8 < 2 ^ 31 by decide)), (q_get (c := 3) o1 rfl), s3_r1, hF, (q_new (c := 2) (ce4 a ha b hb8).1 rfl), (q_k1 (rc := 3) (c := 2) rfl (by decide) o4 rfl), is, (q_aas o2 rfl hb8 (by decide) (aso_2 o4')), s3_r2, s3_2, sg_s, nI_add]
theorem l_sq2 {X : aX} {h : aL → Nat → aV} {a N : Nat} {F1 F2 : Nat → aV} (ha : a < 3) (hN : 4 + 19 * a ≤ N) (hF : F1 1 = aR (3, a, 0)) : ∀ k j, j + k = 10 → go X 25 70 [some (aR (1, a, 0)), some (aI (nI j))] [] (N, cS3 h a F1 F2 (spR j)) = some (none, (N, cS3 h a F1 F2 (spR 10))) := by
  have o1 : okC N (1, a, 0) := mkC (show 1 < 80 by decide) (ce1 a ha).1 (ce1 a ha).2 (by omega)
  have o3 : okC N (3, a, 0) := mkC (show 3 < 80 by decide) (ce3 a ha).1 (ce3 a ha).2 (by omega)
  intro k
  induction k with
  | zero =>
    intro j hj
    rw [show j = 10 by omega, e25_70]
    simp only [nl_n, nl_i, nl_r, x_ci, x_ca, x_bin, x_ife, x_ifl, x_ifg, x_cme, x_cml, x_cmg, x_go, x_no, x_b, x_ps, x_pn, cs_n, cs_i, cs_j, cs_r, en_n, en_i, en_j, en_r, xa0, x_oin, p_1_2, p_1_3, p_1_4, p_1_5, xs1n, xs1i, xs1r, xi1, g_1_0, x_dupi, x_dupr, x_k1_4, xn1n, xn1i, xn1r, g_1_1, s_3, s_5, s_8, s_11, s_12, s_21, s_22, s_23, s_24, s_25, s_26, s_28, s_29, s_30, s_31, s_32, r_i, r_j, r_v, r_z1, r_z0, r_a, e25_0, e25_1, e25_4, e25_5, e25_7, e25_10, e25_13, e25_14, e25_16, e25_18, e25_21, e25_22, e25_23, e25_26, e25_27, e25_28, e25_31, e25_32, e25_33, e25_36, e25_37, e25_38, e25_41, e25_42, e25_44, e25_46, e25_49, e25_50, e25_53, e25_54, e25_57, e25_58, e25_61, e25_62, e25_65, e25_69, e25_71, e25_73, e25_76, e25_77, e25_80, e25_81, e25_82, e25_83, e25_86, e25_89, c25, i10, i00, n2, n10, n20, n60, n8, n9, bi0, ite_not, List.replicate, Nat.reduceAdd, Nat.reduceSub, Nat.reduceLeDiff, Nat.reduceLT, if_true, if_false, mg, reduceIte, not_false_eq_true, eq_self, and_self, and_true, true_and, true_or, or_true, Nat.reduceEqDiff, (nI_nlt (Nat.le_refl 10) (show 10 < 2 ^ 31 by decide))]
  | succ k ih =>
    intro j hj
    have hj10 : j < 10 := by omega
    rw [← ih (j + 1) (by omega), e25_70]
    simp only [nl_n, nl_i, nl_r, x_ci, x_ca, x_bin, x_ife, x_ifl, x_ifg, x_cme, x_cml, x_cmg, x_go, x_no, x_b, x_ps, x_pn, cs_n, cs_i, cs_j, cs_r, en_n, en_i, en_j, en_r, xa0, x_oin, p_1_2, p_1_3, p_1_4, p_1_5, xs1n, xs1i, xs1r, xi1, g_1_0, x_dupi, x_dupr, x_k1_4, xn1n, xn1i, xn1r, g_1_1, s_3, s_5, s_8, s_11, s_12, s_21, s_22, s_23, s_24, s_25, s_26, s_28, s_29, s_30, s_31, s_32, r_i, r_j, r_v, r_z1, r_z0, r_a, e25_0, e25_1, e25_4, e25_5, e25_7, e25_10, e25_13, e25_14, e25_16, e25_18, e25_21, e25_22, e25_23, e25_26, e25_27, e25_28, e25_31, e25_32, e25_33, e25_36, e25_37, e25_38, e25_41, e25_42, e25_44, e25_46, e25_49, e25_50, e25_53, e25_54, e25_57, e25_58, e25_61, e25_62, e25_65, e25_69, e25_71, e25_73, e25_76, e25_77, e25_80, e25_81, e25_82, e25_83, e25_86, e25_89, c25, i10, i00, n2, n10, n20, n60, n8, n9, bi0, ite_not, List.replicate, Nat.reduceAdd, Nat.reduceSub, Nat.reduceLeDiff, Nat.reduceLT, if_true, if_false, mg, reduceIte, not_false_eq_true, eq_self, and_self, and_true, true_and, true_or, or_true, Nat.reduceEqDiff, (nI_lt hj10 (show 10 < 2 ^ 31 by decide)), (q_get (c := 3) o1 rfl), s3_r1, hF, (q_ias o3 rfl hj10 (by decide)), s3_r3, s3_3, sp_s, nI_add]
theorem g0_1 {a : Nat} (ha : a < 3) : fup (fup (fup (fup (fup (fup (dfl (1, a, 0)) 0 (aR (2, a, 0))) 1 (aR (3, a, 0))) 2 (aI (nI 0))) 3 (aI (nI 0))) 4 (aI (nI 0))) 5 (aI (nI 1)) = g0 (1, a, 0) := by
  funext k
  have h3 : a ≤ 3 := by omega
  show _ = memv S0 (1, a, 0) k
  rcases k with _ | _ | _ | _ | _ | _ | k
  · rfl
  · rfl
  · simp [fup, memv, rfs, pl, ha, S0, h3, r0R]
  · simp [fup, memv, rfs, pl, ha, S0, h3, r0R]
  · simp [fup, memv, rfs, pl, ha, S0, h3, r0R]
  · simp [fup, memv, rfs, pl, ha, S0, h3, r0R]
  · simp [fup, memv, rfs, pl, ha, S0, h3, r0R]
    rfl
theorem g0_2 {a : Nat} : sgR a 8 = g0 (2, a, 0) := by
  funext k
  show _ = memv S0 (2, a, 0) k
  unfold sgR
  by_cases w : k < 8
  · simp [memv, rfs, rvN, w]
  · simp [memv, rfs, rvN, w]
theorem g0_3 {a : Nat} (ha : a < 3) : spR 10 = g0 (3, a, 0) := by
  funext k
  have h3 : a ≤ 3 := by omega
  show _ = memv S0 (3, a, 0) k
  unfold spR
  by_cases w : k < 10
  · have e1 : ¬ 4 + k = 2 := by omega
    have e2 : 4 ≤ 4 + k ∧ 4 + k < 14 := by omega
    simp [memv, rfs, pl, ha, S0, h3, w, r0R, e1, e2]
  · simp [memv, rfs, pl, ha, S0, w]
theorem i_sq {X : aX} {h : aL → Nat → aV} {a i : Nat} (ha : a < 3) (hi : i = 2 + 19 * a) (hg : ∀ r, 1 ≤ r.1 → r.1 ≤ 5 → r.2.1 = a → h r = g0 r) : cl X 25 [aR (1, a, 0)] (i, cu h (1, a, 0) (dfl (1, a, 0))) = some (none, (20 + 19 * a, h)) := by
  have n2 : nm i = (2, a, 0) := by rw [hi]; exact (ce2 a ha).1
  have n3 : nm (i + 1) = (3, a, 0) := by rw [hi, show 2 + 19 * a + 1 = 3 + 19 * a by omega]; exact (ce3 a ha).1
  have o1 : okC (i + 1) (1, a, 0) := mkC (show 1 < 80 by decide) (ce1 a ha).1 (ce1 a ha).2 (by omega)
  have o1' : okC (i + 1 + 1) (1, a, 0) := mkC (show 1 < 80 by decide) (ce1 a ha).1 (ce1 a ha).2 (by omega)
  have d3 : dfl (3, a, 0) = spR 0 := by
    rw [dfl_1 (n := 10) rfl]
    funext k
    unfold spR
    rw [if_neg (by omega)]
  have d2 : dfl (2, a, 0) = sgR a 0 := by
    funext k
    unfold sgR
    rw [if_neg (by omega)]
    rfl
  have l1 := fun F1 F3 hF => l_sq1 (X := X) (h := h) (a := a) (F1 := F1) (F3 := F3) ha (fun b hb => ⟨hg (4, a, b) (show 1 ≤ 4 by decide) (show 4 ≤ 5 by decide) rfl, hg (5, a, b) (show 1 ≤ 5 by decide) (show 5 ≤ 5 by decide) rfl⟩) hF 8 0 (by omega)
  have l2 := fun F1 F2 hF => l_sq2 (X := X) (h := h) (a := a) (N := 20 + 19 * a) (F1 := F1) (F2 := F2) ha (by omega) hF 10 0 (by omega)
  have ei : i + 1 + 1 = 4 + 19 * a + 2 * 0 := by omega
  rw [s3_in]
  simp only [nl_n, nl_i, nl_r, x_ci, x_ca, x_bin, x_ife, x_ifl, x_ifg, x_cme, x_cml, x_cmg, x_go, x_no, x_b, x_ps, x_pn, cs_n, cs_i, cs_j, cs_r, en_n, en_i, en_j, en_r, xa0, x_oin, p_1_2, p_1_3, p_1_4, p_1_5, xs1n, xs1i, xs1r, xi1, g_1_0, x_dupi, x_dupr, x_k1_4, xn1n, xn1i, xn1r, g_1_1, s_3, s_5, s_8, s_11, s_12, s_21, s_22, s_23, s_24, s_25, s_26, s_28, s_29, s_30, s_31, s_32, r_i, r_j, r_v, r_z1, r_z0, r_a, e25_0, e25_1, e25_4, e25_5, e25_7, e25_10, e25_13, e25_14, e25_16, e25_18, e25_21, e25_22, e25_23, e25_26, e25_27, e25_28, e25_31, e25_32, e25_33, e25_36, e25_37, e25_38, e25_41, e25_42, e25_44, e25_46, e25_49, e25_50, e25_53, e25_54, e25_57, e25_58, e25_61, e25_62, e25_65, e25_69, e25_71, e25_73, e25_76, e25_77, e25_80, e25_81, e25_82, e25_83, e25_86, e25_89, c25, i10, i00, n2, n10, n20, n60, n8, n9, bi0, ite_not, List.replicate, Nat.reduceAdd, Nat.reduceSub, Nat.reduceLeDiff, Nat.reduceLT, if_true, if_false, mg, reduceIte, not_false_eq_true, eq_self, and_self, and_true, true_and, true_or, or_true, Nat.reduceEqDiff, (q_nwq n2 (show 8 < 2 ^ 31 by decide) rfl (by decide)), (q_nwa n3 (show 10 < 2 ^ 31 by decide) rfl), s3_1, s3_2, s3_3, s3_r1, (q_put (c := 3) o1 rfl (show pok 2 (aR (2, a, 0)) = true from rfl)), (q_put (c := 3) o1' rfl (show pok 2 (aR (3, a, 0)) = true from rfl)), (q_pi (c := 3) o1' rfl), d2, d3]
  rw [ei, l1 _ _ rfl, e25_68]
  simp only [nl_n, nl_i, nl_r, x_ci, x_ca, x_bin, x_ife, x_ifl, x_ifg, x_cme, x_cml, x_cmg, x_go, x_no, x_b, x_ps, x_pn, cs_n, cs_i, cs_j, cs_r, en_n, en_i, en_j, en_r, xa0, x_oin, p_1_2, p_1_3, p_1_4, p_1_5, xs1n, xs1i, xs1r, xi1, g_1_0, x_dupi, x_dupr, x_k1_4, xn1n, xn1i, xn1r, g_1_1, s_3, s_5, s_8, s_11, s_12, s_21, s_22, s_23, s_24, s_25, s_26, s_28, s_29, s_30, s_31, s_32, r_i, r_j, r_v, r_z1, r_z0, r_a, e25_0, e25_1, e25_4, e25_5, e25_7, e25_10, e25_13, e25_14, e25_16, e25_18, e25_21, e25_22, e25_23, e25_26, e25_27, e25_28, e25_31, e25_32, e25_33, e25_36, e25_37, e25_38, e25_41, e25_42, e25_44, e25_46, e25_49, e25_50, e25_53, e25_54, e25_57, e25_58, e25_61, e25_62, e25_65, e25_69, e25_71, e25_73, e25_76, e25_77, e25_80, e25_81, e25_82, e25_83, e25_86, e25_89, c25, i10, i00, n2, n10, n20, n60, n8, n9, bi0, ite_not, List.replicate, Nat.reduceAdd, Nat.reduceSub, Nat.reduceLeDiff, Nat.reduceLT, if_true, if_false, mg, reduceIte, not_false_eq_true, eq_self, and_self, and_true, true_and, true_or, or_true, Nat.reduceEqDiff]
  rw [l2 _ _ rfl, s3_out ((g0_1 ha).trans (hg (1, a, 0) (show 1 ≤ 1 by decide) (show 1 ≤ 5 by decide) rfl).symm) (g0_2.trans (hg (2, a, 0) (show 1 ≤ 2 by decide) (show 2 ≤ 5 by decide) rfl).symm) ((g0_3 ha).trans (hg (3, a, 0) (show 1 ≤ 3 by decide) (show 3 ≤ 5 by decide) rfl).symm)]
theorem z_arr {r : aL} {n : Nat} {h : aL → Nat → aV} (hs : shp r = (1, n)) (hg : h r = fun _ => aI (nI 0)) : cu h r (dfl r) = h := cu_id (by rw [hg, dfl_1 hs])
theorem g0_z {t s : Nat} (h : t = 8 ∨ t = 11 ∨ t = 12 ∨ t = 22 ∨ t = 23 ∨ t = 24 ∨ t = 25 ∨ t = 26 ∨ t = 28 ∨ t = 29 ∨ t = 30 ∨ t = 31 ∨ t = 32) : g0 (t, s, 0) = fun _ => aI (nI 0) := by
  funext k
  show memv S0 (t, s, 0) k = _
  by_cases w : s = 0
  · subst w
    rcases h with rfl | rfl | rfl | rfl | rfl | rfl | rfl | rfl | rfl | rfl | rfl | rfl | rfl <;> simp [memv, rfs, pl, S0]
  · rcases h with rfl | rfl | rfl | rfl | rfl | rfl | rfl | rfl | rfl | rfl | rfl | rfl | rfl <;> simp [memv, rfs, pl, S0, w]
theorem i_tape {X : aX} {h : aL → Nat → aV} (h7 : h (7, 0, 0) = g0 (7, 0, 0)) (h8 : h (8, 0, 0) = g0 (8, 0, 0)) : cl X 53 [aR (7, 0, 0)] (60, cu h (7, 0, 0) (dfl (7, 0, 0))) = some (none, (61, h)) := by
  have o7 : okC 61 (7, 0, 0) := mkC (j := 59) (by decide) (by decide +kernel) (by decide +kernel) (by decide)
  have z8 : cu (cu h (7, 0, 0) (dfl (7, 0, 0))) (8, 0, 0) (dfl (8, 0, 0)) = cu h (7, 0, 0) (dfl (7, 0, 0)) := z_arr (n := 120) rfl (by rw [cu_ne (by decide), h8]; exact g0_z (Or.inl rfl))
  have zf : cu h (7, 0, 0) (fup (fup (fup (fup (fup (fup (dfl (7, 0, 0)) 0 (aR (8, 0, 0))) 1 (aI (nI 0))) 2 (aI (nI 0))) 3 (aI (nI 0))) 4 (aI (nI 0))) 5 (aI (nI 0))) = h := cu_id (by
    rw [h7]
    funext k
    rcases k with _ | _ | _ | _ | _ | _ | k <;> rfl)
  simp only [nl_n, nl_i, nl_r, x_ci, x_ca, x_bin, x_ife, x_ifl, x_ifg, x_cme, x_cml, x_cmg, x_go, x_no, x_b, x_ps, x_pn, cs_n, cs_i, cs_j, cs_r, en_n, en_i, en_j, en_r, xa0, x_oin, p_7_1, p_7_2, p_7_3, p_7_4, p_7_5, r_i, r_j, r_v, r_z1, r_z0, r_a, e53_0, e53_1, e53_4, e53_5, e53_7, e53_9, e53_12, e53_13, e53_14, e53_17, e53_18, e53_19, e53_22, e53_23, e53_24, e53_27, e53_28, e53_29, e53_32, e53_33, e53_34, e53_37, c53, i10, i00, n2, n10, n20, n60, n8, n9, bi0, ite_not, List.replicate, Nat.reduceAdd, Nat.reduceSub, Nat.reduceLeDiff, Nat.reduceLT, if_true, if_false, mg, reduceIte, not_false_eq_true, eq_self, and_self, and_true, true_and, true_or, or_true, Nat.reduceEqDiff, (q_nwa (i := 60) (r := (8, 0, 0)) (by decide +kernel) (show 120 < 2 ^ 31 by decide) rfl), z8, (q_put (c := 4) o7 rfl (show pok 2 (aR (8, 0, 0)) = true from rfl)), (q_pi (c := 4) o7 rfl), cu_at, cu_cu, zf]
theorem i_read {X : aX} {h : aL → Nat → aV} (h6 : h (6, 0, 0) = g0 (6, 0, 0)) (h7 : h (7, 0, 0) = g0 (7, 0, 0)) (h8 : h (8, 0, 0) = g0 (8, 0, 0)) : cl X 0 [aR (6, 0, 0)] (59, cu h (6, 0, 0) (dfl (6, 0, 0))) = some (none, (61, h)) := by
  have o6 : okC 61 (6, 0, 0) := mkC (j := 58) (by decide) (by decide +kernel) (by decide +kernel) (by decide)
  have o7 : okC 60 (7, 0, 0) := mkC (j := 59) (by decide) (by decide +kernel) (by decide +kernel) (by decide)
  have it := i_tape (X := X) (h := cu h (6, 0, 0) (dfl (6, 0, 0))) (by rw [cu_ne (by decide)]; exact h7) (by rw [cu_ne (by decide)]; exact h8)
  have zf : cu h (6, 0, 0) (fup (dfl (6, 0, 0)) 0 (aR (7, 0, 0))) = h := cu_id (by
    rw [h6]
    funext k
    rcases k with _ | k <;> rfl)
  simp only [nl_n, nl_i, nl_r, x_ci, x_ca, x_bin, x_ife, x_ifl, x_ifg, x_cme, x_cml, x_cmg, x_go, x_no, x_b, x_ps, x_pn, cs_n, cs_i, cs_j, cs_r, en_n, en_i, en_j, en_r, xa0, x_oin, x_dupi, x_dupr, x_k1_7, r_i, r_j, r_v, r_z1, r_z0, r_a, e0_0, e0_1, e0_4, e0_5, e0_8, e0_9, e0_12, e0_15, c0, i10, i00, n2, n10, n20, n60, n8, n9, bi0, ite_not, List.replicate, Nat.reduceAdd, Nat.reduceSub, Nat.reduceLeDiff, Nat.reduceLT, if_true, if_false, mg, reduceIte, not_false_eq_true, eq_self, and_self, and_true, true_and, true_or, or_true, Nat.reduceEqDiff, (q_new (i := 59) (r := (7, 0, 0)) (c := 4) (by decide +kernel) rfl), (q_k1 (rc := 5) (c := 4) rfl (by decide) o7 rfl), it, (q_put (c := 0) o6 rfl (show pok 2 (aR (7, 0, 0)) = true from rfl)), cu_at, cu_cu, zf]
theorem i_sheet {X : aX} {h : aL → Nat → aV} {s i : Nat} (hs : s < 4) (hi : i = 64 + 2 * s) (h10 : h (10, s, 0) = g0 (10, s, 0)) (h11 : h (11, s, 0) = g0 (11, s, 0)) : cl X 9 [aR (10, s, 0)] (i, cu h (10, s, 0) (dfl (10, s, 0))) = some (none, (i + 1, h)) := by
  have n11 : nm i = (11, s, 0) := by rw [hi]; exact (ce11 s hs).1
  have o10 : okC (i + 1) (10, s, 0) := mkC (show 10 < 80 by decide) (ce10 s hs).1 (ce10 s hs).2 (by omega)
  have z11 : cu (cu h (10, s, 0) (dfl (10, s, 0))) (11, s, 0) (dfl (11, s, 0)) = cu h (10, s, 0) (dfl (10, s, 0)) := z_arr (n := 40) rfl (by rw [cu_ne (fun z => by cases z), h11]; exact g0_z (Or.inr (Or.inl rfl)))
  have zf : cu h (10, s, 0) (fup (fup (fup (dfl (10, s, 0)) 0 (aR (11, s, 0))) 1 (aI (nI 0))) 2 (aI (nI 0))) = h := cu_id (by
    rw [h10]
    funext k
    rcases k with _ | _ | _ | k <;> rfl)
  simp only [nl_n, nl_i, nl_r, x_ci, x_ca, x_bin, x_ife, x_ifl, x_ifg, x_cme, x_cml, x_cmg, x_go, x_no, x_b, x_ps, x_pn, cs_n, cs_i, cs_j, cs_r, en_n, en_i, en_j, en_r, xa0, x_oin, p_10_1, p_10_2, r_i, r_j, r_v, r_z1, r_z0, r_a, e9_0, e9_1, e9_4, e9_5, e9_7, e9_9, e9_12, e9_13, e9_14, e9_17, e9_18, e9_19, e9_22, c9, i10, i00, n2, n10, n20, n60, n8, n9, bi0, ite_not, List.replicate, Nat.reduceAdd, Nat.reduceSub, Nat.reduceLeDiff, Nat.reduceLT, if_true, if_false, mg, reduceIte, not_false_eq_true, eq_self, and_self, and_true, true_and, true_or, or_true, Nat.reduceEqDiff, (q_nwa n11 (show 40 < 2 ^ 31 by decide) rfl), z11, (q_put (c := 1) o10 rfl (show pok 2 (aR (11, s, 0)) = true from rfl)), (q_pi (c := 1) o10 rfl), cu_at, cu_cu, zf]
