/-! load, judge -/
def ldF (N : Nat → Int32) (n : Nat) : Nat → Nat → (Nat → Int32) → Nat × (Nat → Int32)
  | 0, i, r => (i, r)
  | k + 1, i, r => if i < n ∧ wi (N i) (nI 0) (nI 59) then ldF N n k (i + 1) (upd r (14 + 10 * i + 1) (N i)) else (i, r)
theorem ldF_s (N : Nat → Int32) (n k i : Nat) (r : Nat → Int32) : ldF N n (k + 1) i r = if i < n ∧ wi (N i) (nI 0) (nI 59) then ldF N n k (i + 1) (upd r (14 + 10 * i + 1) (N i)) else (i, r) := rfl
theorem ld_1 (N : Nat → Int32) (n : Nat) : ∀ k i r r', (ldF N n k i r).1 = (ldF N n k i r').1 := by
  intro k
  induction k with
  | zero => intro i r r'; rfl
  | succ k ih =>
    intro i r r'
    rw [ldF_s, ldF_s]
    split
    · exact ih _ _ _
    · rfl
theorem ld_R {N : Nat → Int32} {n : Nat} : ∀ k i r, RI n r → RI n (ldF N n k i r).2 := by
  intro k
  induction k with
  | zero => intro i r h; exact h
  | succ k ih =>
    intro i r h
    rw [ldF_s]
    split
    · rename_i c
      refine ih _ _ (RI_u h (by decide) ?_)
      obtain ⟨j, _, h2, e⟩ := wi_of (by decide) c.2 (by decide)
      exact ⟨j, h2, e⟩
    · exact h
theorem ld_A {N : Nat → Int32} {n : Nat} : ∀ k i r r', ag n r r' → ag n (ldF N n k i r).2 (ldF N n k i r').2 := by
  intro k
  induction k with
  | zero => intro i r r' h; exact h
  | succ k ih =>
    intro i r r' h
    rw [ldF_s, ldF_s]
    split
    · exact ih _ _ _ (ag_u h rfl)
    · exact h
theorem has_lt {n i : Nat} (hn : n ≤ 8) (hi : i < 2 ^ 31) : hsP n (nI i) ↔ i < n := ⟨fun w => (nI_ltI hi (by omega)).mp w.2, fun w => has_i hn w⟩
theorem l_loadx {X : aX} {q : Nat → Nat → Int32} {D : aD} {n m s : Nat} {f : Int32} (hn : n ≤ 8) (hm : m ≤ 40) (hs : s < 4) (h2 : D (10, s, 0) 2 = nI m) : ∀ k i r b, i + k = m → r 1 = nI n → nl b = true → go X 94 22 [some (aR (0, 0, 0)), some (aI (nI s)), some (aI f), some (aI (nI i)), some (aI (nI i)), b] [] (mem (rq q 0 r, D)) = some (some (aI (nI (ldF (fun j => D (11, s, 0) j) n k i r).1)), mem (rq q 0 (ldF (fun j => D (11, s, 0) j) n k i r).2, D)) := by
  intro k
  induction k with
  | zero =>
    intro i r b h hr hb
    rw [e94_22]
    simp only [nl_n, nl_i, nl_r, x_ci, x_ca, x_bin, x_ife, x_ifl, x_ifg, x_cme, x_cml, x_cmg, x_go, x_no, x_b, x_ps, x_pn, cs_n, cs_i, cs_j, cs_r, en_n, en_i, en_j, en_r, xa0, xi1, x_k2_0, xs2n, xs2i, xs2r, xi2, r_i, r_j, r_v, r_z1, r_z0, r_a, xs3n, xs3i, xs3r, xs4n, xs4i, xs4r, xi4, g_0_4, l_2, l_9, l_27, g_10_2, g_10_0, l_3, l_5, l_8, l_11, l_12, l_21, l_22, l_23, l_24, l_25, l_26, l_28, l_29, l_30, l_31, l_32, xs5n, xs5i, xs5r, g_0_0, x_k2_1, xi5, x_k3_s, x_k4_1, xn3n, xn3i, xn3r, xn4n, xn4i, xn4r, xi3, e94_0, e94_1, e94_2, e94_5, e94_6, e94_7, e94_8, e94_11, e94_12, e94_13, e94_16, e94_17, e94_18, e94_19, e94_20, e94_24, e94_25, e94_28, e94_29, e94_30, e94_33, e94_36, e94_37, e94_40, e94_41, e94_42, e94_45, e94_47, e94_48, e94_50, e94_51, e94_54, e94_56, e94_59, e94_62, e94_64, e94_65, e94_67, e94_70, e94_73, e94_76, e94_77, e94_80, e94_82, e94_83, e94_85, e94_88, e94_91, e94_94, e94_97, e94_98, c94, i10, i00, n2, n10, n20, n60, n8, n9, bi0, ite_not, List.replicate, Nat.reduceAdd, Nat.reduceSub, Nat.reduceLeDiff, Nat.reduceLT, if_true, if_false, mg, reduceIte, not_false_eq_true, eq_self, and_self, and_true, true_and, true_or, or_true, Nat.reduceEqDiff, hs, h2, (nI_nlt (show m ≤ i by omega) (by omega))]
    rfl
  | succ k ih =>
    intro i r b h hr hb
    have hi40 : i < 40 := by omega
    have th := t_has (X := X) (S := (rq q 0 r, D)) (a := 0) (x := nI i) (by decide) (at_r hr)
    rw [ldF_s]
    by_cases c1 : i < n
    · by_cases c2 : wi (D (11, s, 0) i) (nI 0) (nI 59)
      · have tp := t_put (X := X) (S := (rq q 0 r, D)) (a := 0) (j := 1) (v := D (11, s, 0) i) (by decide) hn c1 (by decide) (at_r hr)
        rw [if_pos ⟨c1, c2⟩, ← ih (i + 1) _ (some (aI (D (11, s, 0) i))) (by omega) ((u_1 ..).trans hr) rfl, e94_22]
        simp only [nl_n, nl_i, nl_r, x_ci, x_ca, x_bin, x_ife, x_ifl, x_ifg, x_cme, x_cml, x_cmg, x_go, x_no, x_b, x_ps, x_pn, cs_n, cs_i, cs_j, cs_r, en_n, en_i, en_j, en_r, xa0, xi1, x_k2_0, xs2n, xs2i, xs2r, xi2, r_i, r_j, r_v, r_z1, r_z0, r_a, xs3n, xs3i, xs3r, xs4n, xs4i, xs4r, xi4, g_0_4, l_2, l_9, l_27, g_10_2, g_10_0, l_3, l_5, l_8, l_11, l_12, l_21, l_22, l_23, l_24, l_25, l_26, l_28, l_29, l_30, l_31, l_32, xs5n, xs5i, xs5r, g_0_0, x_k2_1, xi5, x_k3_s, x_k4_1, xn3n, xn3i, xn3r, xn4n, xn4i, xn4r, xi3, e94_0, e94_1, e94_2, e94_5, e94_6, e94_7, e94_8, e94_11, e94_12, e94_13, e94_16, e94_17, e94_18, e94_19, e94_20, e94_24, e94_25, e94_28, e94_29, e94_30, e94_33, e94_36, e94_37, e94_40, e94_41, e94_42, e94_45, e94_47, e94_48, e94_50, e94_51, e94_54, e94_56, e94_59, e94_62, e94_64, e94_65, e94_67, e94_70, e94_73, e94_76, e94_77, e94_80, e94_82, e94_83, e94_85, e94_88, e94_91, e94_94, e94_97, e94_98, c94, i10, i00, n2, n10, n20, n60, n8, n9, bi0, ite_not, List.replicate, Nat.reduceAdd, Nat.reduceSub, Nat.reduceLeDiff, Nat.reduceLT, if_true, if_false, mg, reduceIte, not_false_eq_true, eq_self, and_self, and_true, true_and, true_or, or_true, Nat.reduceEqDiff, hs, h2, hi40, (nI_lt (show i < m by omega) (by omega)), th, (bi_t ((has_lt hn (show i < 2 ^ 31 by omega)).mpr c1)), t_within, (bi_t c2), tp, rq_rq, rq_at, nI_add]
      · rw [if_neg (fun w => c2 w.2), e94_22]
        simp only [nl_n, nl_i, nl_r, x_ci, x_ca, x_bin, x_ife, x_ifl, x_ifg, x_cme, x_cml, x_cmg, x_go, x_no, x_b, x_ps, x_pn, cs_n, cs_i, cs_j, cs_r, en_n, en_i, en_j, en_r, xa0, xi1, x_k2_0, xs2n, xs2i, xs2r, xi2, r_i, r_j, r_v, r_z1, r_z0, r_a, xs3n, xs3i, xs3r, xs4n, xs4i, xs4r, xi4, g_0_4, l_2, l_9, l_27, g_10_2, g_10_0, l_3, l_5, l_8, l_11, l_12, l_21, l_22, l_23, l_24, l_25, l_26, l_28, l_29, l_30, l_31, l_32, xs5n, xs5i, xs5r, g_0_0, x_k2_1, xi5, x_k3_s, x_k4_1, xn3n, xn3i, xn3r, xn4n, xn4i, xn4r, xi3, e94_0, e94_1, e94_2, e94_5, e94_6, e94_7, e94_8, e94_11, e94_12, e94_13, e94_16, e94_17, e94_18, e94_19, e94_20, e94_24, e94_25, e94_28, e94_29, e94_30, e94_33, e94_36, e94_37, e94_40, e94_41, e94_42, e94_45, e94_47, e94_48, e94_50, e94_51, e94_54, e94_56, e94_59, e94_62, e94_64, e94_65, e94_67, e94_70, e94_73, e94_76, e94_77, e94_80, e94_82, e94_83, e94_85, e94_88, e94_91, e94_94, e94_97, e94_98, c94, i10, i00, n2, n10, n20, n60, n8, n9, bi0, ite_not, List.replicate, Nat.reduceAdd, Nat.reduceSub, Nat.reduceLeDiff, Nat.reduceLT, if_true, if_false, mg, reduceIte, not_false_eq_true, eq_self, and_self, and_true, true_and, true_or, or_true, Nat.reduceEqDiff, hs, h2, hi40, (nI_lt (show i < m by omega) (by omega)), th, (bi_t ((has_lt hn (show i < 2 ^ 31 by omega)).mpr c1)), t_within, (bi_f c2)]
    · rw [if_neg (fun w => c1 w.1), e94_22]
      simp only [nl_n, nl_i, nl_r, x_ci, x_ca, x_bin, x_ife, x_ifl, x_ifg, x_cme, x_cml, x_cmg, x_go, x_no, x_b, x_ps, x_pn, cs_n, cs_i, cs_j, cs_r, en_n, en_i, en_j, en_r, xa0, xi1, x_k2_0, xs2n, xs2i, xs2r, xi2, r_i, r_j, r_v, r_z1, r_z0, r_a, xs3n, xs3i, xs3r, xs4n, xs4i, xs4r, xi4, g_0_4, l_2, l_9, l_27, g_10_2, g_10_0, l_3, l_5, l_8, l_11, l_12, l_21, l_22, l_23, l_24, l_25, l_26, l_28, l_29, l_30, l_31, l_32, xs5n, xs5i, xs5r, g_0_0, x_k2_1, xi5, x_k3_s, x_k4_1, xn3n, xn3i, xn3r, xn4n, xn4i, xn4r, xi3, e94_0, e94_1, e94_2, e94_5, e94_6, e94_7, e94_8, e94_11, e94_12, e94_13, e94_16, e94_17, e94_18, e94_19, e94_20, e94_24, e94_25, e94_28, e94_29, e94_30, e94_33, e94_36, e94_37, e94_40, e94_41, e94_42, e94_45, e94_47, e94_48, e94_50, e94_51, e94_54, e94_56, e94_59, e94_62, e94_64, e94_65, e94_67, e94_70, e94_73, e94_76, e94_77, e94_80, e94_82, e94_83, e94_85, e94_88, e94_91, e94_94, e94_97, e94_98, c94, i10, i00, n2, n10, n20, n60, n8, n9, bi0, ite_not, List.replicate, Nat.reduceAdd, Nat.reduceSub, Nat.reduceLeDiff, Nat.reduceLT, if_true, if_false, mg, reduceIte, not_false_eq_true, eq_self, and_self, and_true, true_and, true_or, or_true, Nat.reduceEqDiff, hs, h2, hi40, (nI_lt (show i < m by omega) (by omega)), th, (bi_f (fun w => c1 ((has_lt hn (show i < 2 ^ 31 by omega)).mp w)))]
theorem l_loadm {X : aX} {q : Nat → Nat → Int32} {D : aD} {n m s : Nat} (hn : n ≤ 8) (hm : m ≤ 40) (hs : s < 4) (h2 : D (30, 0, 0) s = nI m) : ∀ k i r, i + k = m → r 1 = nI n → go X 206 22 [some (aR (20, 0, 0)), some (aI (nI s)), some (aI (nI i))] [] (mem (rq q 3 r, D)) = some (some (aI (nI (ldF (fun j => D (31, 0, 0) (40 * s + j)) n k i r).1)), mem (rq q 3 (ldF (fun j => D (31, 0, 0) (40 * s + j)) n k i r).2, D)) := by
  intro k
  induction k with
  | zero =>
    intro i r h hr
    rw [e206_22]
    simp only [nl_n, nl_i, nl_r, x_ci, x_ca, x_bin, x_ife, x_ifl, x_ifg, x_cme, x_cml, x_cmg, x_go, x_no, x_b, x_ps, x_pn, cs_n, cs_i, cs_j, cs_r, en_n, en_i, en_j, en_r, xa0, xi1, x_k3_20, x_k2_20, r_i, r_j, r_v, r_z1, r_z0, r_a, xs2n, xs2i, xs2r, xi2, g_20_19, l_3, l_5, l_8, l_11, l_12, l_21, l_22, l_23, l_24, l_25, l_26, l_28, l_29, l_30, l_31, l_32, g_20_20, x_k1_s, g_20_0, x_k2_s, s_3, s_5, s_8, s_11, s_12, s_21, s_22, s_23, s_24, s_25, s_26, s_28, s_29, s_30, s_31, s_32, xn2n, xn2i, xn2r, e206_0, e206_1, e206_2, e206_3, e206_6, e206_9, e206_10, e206_11, e206_12, e206_13, e206_16, e206_19, e206_20, e206_21, e206_23, e206_24, e206_27, e206_28, e206_29, e206_32, e206_33, e206_34, e206_37, e206_40, e206_41, e206_44, e206_46, e206_47, e206_48, e206_49, e206_50, e206_51, e206_54, e206_57, e206_58, e206_61, e206_62, e206_63, e206_66, e206_67, e206_70, e206_72, e206_73, e206_74, e206_75, e206_76, e206_77, e206_78, e206_81, e206_84, e206_85, c206, i10, i00, n2, n10, n20, n60, n8, n9, bi0, ite_not, List.replicate, Nat.reduceAdd, Nat.reduceSub, Nat.reduceLeDiff, Nat.reduceLT, if_true, if_false, mg, reduceIte, not_false_eq_true, eq_self, and_self, and_true, true_and, true_or, or_true, Nat.reduceEqDiff, hs, h2, (nI_nlt (show m ≤ i by omega) (by omega))]
    rfl
  | succ k ih =>
    intro i r h hr
    have hp : 40 * s + i < 160 := by omega
    have th := t_isS (X := X) (S := (rq q 3 r, D)) (x := nI i) hn (at_r hr)
    rw [ldF_s]
    by_cases c1 : i < n
    · have hp2 : 14 + 10 * i + 1 < 94 := by omega
      by_cases c2 : wi (D (31, 0, 0) (40 * s + i)) (nI 0) (nI 59)
      · rw [if_pos ⟨c1, c2⟩, ← ih (i + 1) _ (by omega) ((u_1 ..).trans hr), e206_22]
        simp only [nl_n, nl_i, nl_r, x_ci, x_ca, x_bin, x_ife, x_ifl, x_ifg, x_cme, x_cml, x_cmg, x_go, x_no, x_b, x_ps, x_pn, cs_n, cs_i, cs_j, cs_r, en_n, en_i, en_j, en_r, xa0, xi1, x_k3_20, x_k2_20, r_i, r_j, r_v, r_z1, r_z0, r_a, xs2n, xs2i, xs2r, xi2, g_20_19, l_3, l_5, l_8, l_11, l_12, l_21, l_22, l_23, l_24, l_25, l_26, l_28, l_29, l_30, l_31, l_32, g_20_20, x_k1_s, g_20_0, x_k2_s, s_3, s_5, s_8, s_11, s_12, s_21, s_22, s_23, s_24, s_25, s_26, s_28, s_29, s_30, s_31, s_32, xn2n, xn2i, xn2r, e206_0, e206_1, e206_2, e206_3, e206_6, e206_9, e206_10, e206_11, e206_12, e206_13, e206_16, e206_19, e206_20, e206_21, e206_23, e206_24, e206_27, e206_28, e206_29, e206_32, e206_33, e206_34, e206_37, e206_40, e206_41, e206_44, e206_46, e206_47, e206_48, e206_49, e206_50, e206_51, e206_54, e206_57, e206_58, e206_61, e206_62, e206_63, e206_66, e206_67, e206_70, e206_72, e206_73, e206_74, e206_75, e206_76, e206_77, e206_78, e206_81, e206_84, e206_85, c206, i10, i00, n2, n10, n20, n60, n8, n9, bi0, ite_not, List.replicate, Nat.reduceAdd, Nat.reduceSub, Nat.reduceLeDiff, Nat.reduceLT, if_true, if_false, mg, reduceIte, not_false_eq_true, eq_self, and_self, and_true, true_and, true_or, or_true, Nat.reduceEqDiff, hs, h2, hp, hp2, (nI_lt (show i < m by omega) (by omega)), th, (bi_t ((has_lt hn (show i < 2 ^ 31 by omega)).mpr c1)), t_isDate, nI_mul, nI_add, (bi_t c2), t_at, uq_rq, rq_rq, rq_at]
      · rw [if_neg (fun w => c2 w.2), e206_22]
        simp only [nl_n, nl_i, nl_r, x_ci, x_ca, x_bin, x_ife, x_ifl, x_ifg, x_cme, x_cml, x_cmg, x_go, x_no, x_b, x_ps, x_pn, cs_n, cs_i, cs_j, cs_r, en_n, en_i, en_j, en_r, xa0, xi1, x_k3_20, x_k2_20, r_i, r_j, r_v, r_z1, r_z0, r_a, xs2n, xs2i, xs2r, xi2, g_20_19, l_3, l_5, l_8, l_11, l_12, l_21, l_22, l_23, l_24, l_25, l_26, l_28, l_29, l_30, l_31, l_32, g_20_20, x_k1_s, g_20_0, x_k2_s, s_3, s_5, s_8, s_11, s_12, s_21, s_22, s_23, s_24, s_25, s_26, s_28, s_29, s_30, s_31, s_32, xn2n, xn2i, xn2r, e206_0, e206_1, e206_2, e206_3, e206_6, e206_9, e206_10, e206_11, e206_12, e206_13, e206_16, e206_19, e206_20, e206_21, e206_23, e206_24, e206_27, e206_28, e206_29, e206_32, e206_33, e206_34, e206_37, e206_40, e206_41, e206_44, e206_46, e206_47, e206_48, e206_49, e206_50, e206_51, e206_54, e206_57, e206_58, e206_61, e206_62, e206_63, e206_66, e206_67, e206_70, e206_72, e206_73, e206_74, e206_75, e206_76, e206_77, e206_78, e206_81, e206_84, e206_85, c206, i10, i00, n2, n10, n20, n60, n8, n9, bi0, ite_not, List.replicate, Nat.reduceAdd, Nat.reduceSub, Nat.reduceLeDiff, Nat.reduceLT, if_true, if_false, mg, reduceIte, not_false_eq_true, eq_self, and_self, and_true, true_and, true_or, or_true, Nat.reduceEqDiff, hs, h2, hp, (nI_lt (show i < m by omega) (by omega)), th, (bi_t ((has_lt hn (show i < 2 ^ 31 by omega)).mpr c1)), t_isDate, nI_mul, nI_add, (bi_f c2)]
    · rw [if_neg (fun w => c1 w.1), e206_22]
      simp only [nl_n, nl_i, nl_r, x_ci, x_ca, x_bin, x_ife, x_ifl, x_ifg, x_cme, x_cml, x_cmg, x_go, x_no, x_b, x_ps, x_pn, cs_n, cs_i, cs_j, cs_r, en_n, en_i, en_j, en_r, xa0, xi1, x_k3_20, x_k2_20, r_i, r_j, r_v, r_z1, r_z0, r_a, xs2n, xs2i, xs2r, xi2, g_20_19, l_3, l_5, l_8, l_11, l_12, l_21, l_22, l_23, l_24, l_25, l_26, l_28, l_29, l_30, l_31, l_32, g_20_20, x_k1_s, g_20_0, x_k2_s, s_3, s_5, s_8, s_11, s_12, s_21, s_22, s_23, s_24, s_25, s_26, s_28, s_29, s_30, s_31, s_32, xn2n, xn2i, xn2r, e206_0, e206_1, e206_2, e206_3, e206_6, e206_9, e206_10, e206_11, e206_12, e206_13, e206_16, e206_19, e206_20, e206_21, e206_23, e206_24, e206_27, e206_28, e206_29, e206_32, e206_33, e206_34, e206_37, e206_40, e206_41, e206_44, e206_46, e206_47, e206_48, e206_49, e206_50, e206_51, e206_54, e206_57, e206_58, e206_61, e206_62, e206_63, e206_66, e206_67, e206_70, e206_72, e206_73, e206_74, e206_75, e206_76, e206_77, e206_78, e206_81, e206_84, e206_85, c206, i10, i00, n2, n10, n20, n60, n8, n9, bi0, ite_not, List.replicate, Nat.reduceAdd, Nat.reduceSub, Nat.reduceLeDiff, Nat.reduceLT, if_true, if_false, mg, reduceIte, not_false_eq_true, eq_self, and_self, and_true, true_and, true_or, or_true, Nat.reduceEqDiff, hs, h2, (nI_lt (show i < m by omega) (by omega)), th, (bi_f (fun w => c1 ((has_lt hn (show i < 2 ^ 31 by omega)).mp w)))]
theorem ld_c {N N' : Nat → Int32} {n : Nat} : ∀ k i r, (∀ j, j < i + k → N j = N' j) → ldF N n k i r = ldF N' n k i r := by
  intro k
  induction k with
  | zero => intro i r _; rfl
  | succ k ih =>
    intro i r h
    rw [ldF_s, ldF_s, ih _ _ (fun j hj => h j (by omega)), h i (by omega)]
theorem o_load {X : aX} {S : aS} {x : Int32} (hJ : J S) : opK X 94 206 [aI x] S := by
  obtain ⟨⟨n, hR, hA⟩, hK, hD⟩ := id hJ
  have hR3 := ag_RI hA hR
  have hn := hR.1
  have hz := hR.2.1
  have hz3 := hR3.2.1
  have bt : bi True = nI 1 := bi_t trivial
  by_cases c1 : wi x (nI 0) (nI 3)
  · obtain ⟨s, _, hs3, rfl⟩ := wi_of (by decide) c1 (by decide)
    have hs : s < 4 := by omega
    obtain ⟨b, m, g1, g2, g3, g4, g5, g6, g7, g8⟩ := hD.2.2.1 s hs
    have hb1 : b < 1000 := by omega
    have tf := (t_fos (X := X) (S := S) (x := nI s)).2 s hs rfl
    rw [g4] at tf
    simp only [nq0 hb1] at tf
    by_cases cb : b = 0
    · rw [if_pos cb] at tf
      have tk := (t_lacks (X := X) (S := (S.1, tlD 5 S.2)) (x := nI s) (g := True)).2 s hs rfl
      rw [show (S.1, tlD 5 S.2).2 (29, 0, 0) s = nI b from (show tlD 5 S.2 (29, 0, 0) s = nI b from (tl_o (k := 5) (by decide)).trans g5), bt] at tk
      simp only [nq0 hb1] at tk
      rw [if_pos cb] at tk
      refine op_f5 hJ ?_ ?_
      · simp only [nl_n, nl_i, nl_r, x_ci, x_ca, x_bin, x_ife, x_ifl, x_ifg, x_cme, x_cml, x_cmg, x_go, x_no, x_b, x_ps, x_pn, cs_n, cs_i, cs_j, cs_r, en_n, en_i, en_j, en_r, xa0, xi1, x_k2_0, xs2n, xs2i, xs2r, xi2, r_i, r_j, r_v, r_z1, r_z0, r_a, xs3n, xs3i, xs3r, xs4n, xs4i, xs4r, xi4, g_0_4, l_2, l_9, l_27, g_10_2, g_10_0, l_3, l_5, l_8, l_11, l_12, l_21, l_22, l_23, l_24, l_25, l_26, l_28, l_29, l_30, l_31, l_32, xs5n, xs5i, xs5r, g_0_0, x_k2_1, xi5, x_k3_s, x_k4_1, xn3n, xn3i, xn3r, xn4n, xn4i, xn4r, xi3, e94_0, e94_1, e94_2, e94_5, e94_6, e94_7, e94_8, e94_11, e94_12, e94_13, e94_16, e94_17, e94_18, e94_19, e94_20, e94_24, e94_25, e94_28, e94_29, e94_30, e94_33, e94_36, e94_37, e94_40, e94_41, e94_42, e94_45, e94_47, e94_48, e94_50, e94_51, e94_54, e94_56, e94_59, e94_62, e94_64, e94_65, e94_67, e94_70, e94_73, e94_76, e94_77, e94_80, e94_82, e94_83, e94_85, e94_88, e94_91, e94_94, e94_97, e94_98, c94, i10, i00, n2, n10, n20, n60, n8, n9, bi0, ite_not, List.replicate, Nat.reduceAdd, Nat.reduceSub, Nat.reduceLeDiff, Nat.reduceLT, if_true, if_false, mg, reduceIte, not_false_eq_true, eq_self, and_self, and_true, true_and, true_or, or_true, Nat.reduceEqDiff, tf, n5m, tel5]
      · simp only [nl_n, nl_i, nl_r, x_ci, x_ca, x_bin, x_ife, x_ifl, x_ifg, x_cme, x_cml, x_cmg, x_go, x_no, x_b, x_ps, x_pn, cs_n, cs_i, cs_j, cs_r, en_n, en_i, en_j, en_r, xa0, xi1, x_k3_20, x_k2_20, r_i, r_j, r_v, r_z1, r_z0, r_a, xs2n, xs2i, xs2r, xi2, g_20_19, l_3, l_5, l_8, l_11, l_12, l_21, l_22, l_23, l_24, l_25, l_26, l_28, l_29, l_30, l_31, l_32, g_20_20, x_k1_s, g_20_0, x_k2_s, s_3, s_5, s_8, s_11, s_12, s_21, s_22, s_23, s_24, s_25, s_26, s_28, s_29, s_30, s_31, s_32, xn2n, xn2i, xn2r, e206_0, e206_1, e206_2, e206_3, e206_6, e206_9, e206_10, e206_11, e206_12, e206_13, e206_16, e206_19, e206_20, e206_21, e206_23, e206_24, e206_27, e206_28, e206_29, e206_32, e206_33, e206_34, e206_37, e206_40, e206_41, e206_44, e206_46, e206_47, e206_48, e206_49, e206_50, e206_51, e206_54, e206_57, e206_58, e206_61, e206_62, e206_63, e206_66, e206_67, e206_70, e206_72, e206_73, e206_74, e206_75, e206_76, e206_77, e206_78, e206_81, e206_84, e206_85, c206, i10, i00, n2, n10, n20, n60, n8, n9, bi0, ite_not, List.replicate, Nat.reduceAdd, Nat.reduceSub, Nat.reduceLeDiff, Nat.reduceLT, if_true, if_false, mg, reduceIte, not_false_eq_true, eq_self, and_self, and_true, true_and, true_or, or_true, Nat.reduceEqDiff, tk, w6n, fnd5]
    · rw [if_neg cb] at tf
      have h1 := l_loadx (X := X) (q := S.1) (D := S.2) (f := -1) hn g2 hs g6 m 0 (S.1 0) none (by omega) hz rfl
      rw [rq_self] at h1
      generalize hr0 : ldF (fun j => S.2 (11, s, 0) j) n m 0 (S.1 0) = z0 at h1
      have h2 := l_loadm (X := X) (q := rq S.1 0 z0.2) (D := S.2) hn g2 hs g7 m 0 (S.1 3) (by omega) hz3
      rw [show rq (rq S.1 0 z0.2) 3 (S.1 3) = rq S.1 0 z0.2 by rw [rq_sw (by decide), rq_self], ← ld_c (N := fun j => S.2 (11, s, 0) j) m 0 (S.1 3) (fun j hj => g8 j (by omega))] at h2
      generalize hr3 : ldF (fun j => S.2 (11, s, 0) j) n m 0 (S.1 3) = z3 at h2
      have ez : z3.1 = z0.1 := by rw [← hr3, ← hr0]; exact ld_1 _ _ _ _ _ _
      have tk := (t_lacks (X := X) (S := (rq S.1 0 z0.2, S.2)) (x := nI s) (g := True)).2 s hs rfl
      rw [show (rq S.1 0 z0.2, S.2).2 (29, 0, 0) s = nI b from g5, bt] at tk
      simp only [nq0 hb1] at tk
      rw [if_neg cb, if_pos trivial] at tk
      refine ⟨aI (nI z0.1), (rq S.1 0 z0.2, S.2), (rq (rq S.1 0 z0.2) 3 z3.2, S.2), ?_, ?_, ?_⟩
      · simp only [nl_n, nl_i, nl_r, x_ci, x_ca, x_bin, x_ife, x_ifl, x_ifg, x_cme, x_cml, x_cmg, x_go, x_no, x_b, x_ps, x_pn, cs_n, cs_i, cs_j, cs_r, en_n, en_i, en_j, en_r, xa0, xi1, x_k2_0, xs2n, xs2i, xs2r, xi2, r_i, r_j, r_v, r_z1, r_z0, r_a, xs3n, xs3i, xs3r, xs4n, xs4i, xs4r, xi4, g_0_4, l_2, l_9, l_27, g_10_2, g_10_0, l_3, l_5, l_8, l_11, l_12, l_21, l_22, l_23, l_24, l_25, l_26, l_28, l_29, l_30, l_31, l_32, xs5n, xs5i, xs5r, g_0_0, x_k2_1, xi5, x_k3_s, x_k4_1, xn3n, xn3i, xn3r, xn4n, xn4i, xn4r, xi3, e94_0, e94_1, e94_2, e94_5, e94_6, e94_7, e94_8, e94_11, e94_12, e94_13, e94_16, e94_17, e94_18, e94_19, e94_20, e94_24, e94_25, e94_28, e94_29, e94_30, e94_33, e94_36, e94_37, e94_40, e94_41, e94_42, e94_45, e94_47, e94_48, e94_50, e94_51, e94_54, e94_56, e94_59, e94_62, e94_64, e94_65, e94_67, e94_70, e94_73, e94_76, e94_77, e94_80, e94_82, e94_83, e94_85, e94_88, e94_91, e94_94, e94_97, e94_98, c94, i10, i00, n2, n10, n20, n60, n8, n9, bi0, ite_not, List.replicate, Nat.reduceAdd, Nat.reduceSub, Nat.reduceLeDiff, Nat.reduceLT, if_true, if_false, mg, reduceIte, not_false_eq_true, eq_self, and_self, and_true, true_and, true_or, or_true, Nat.reduceEqDiff, tf]
        exact h1
      · rw [ez] at h2
        simp only [nl_n, nl_i, nl_r, x_ci, x_ca, x_bin, x_ife, x_ifl, x_ifg, x_cme, x_cml, x_cmg, x_go, x_no, x_b, x_ps, x_pn, cs_n, cs_i, cs_j, cs_r, en_n, en_i, en_j, en_r, xa0, xi1, x_k3_20, x_k2_20, r_i, r_j, r_v, r_z1, r_z0, r_a, xs2n, xs2i, xs2r, xi2, g_20_19, l_3, l_5, l_8, l_11, l_12, l_21, l_22, l_23, l_24, l_25, l_26, l_28, l_29, l_30, l_31, l_32, g_20_20, x_k1_s, g_20_0, x_k2_s, s_3, s_5, s_8, s_11, s_12, s_21, s_22, s_23, s_24, s_25, s_26, s_28, s_29, s_30, s_31, s_32, xn2n, xn2i, xn2r, e206_0, e206_1, e206_2, e206_3, e206_6, e206_9, e206_10, e206_11, e206_12, e206_13, e206_16, e206_19, e206_20, e206_21, e206_23, e206_24, e206_27, e206_28, e206_29, e206_32, e206_33, e206_34, e206_37, e206_40, e206_41, e206_44, e206_46, e206_47, e206_48, e206_49, e206_50, e206_51, e206_54, e206_57, e206_58, e206_61, e206_62, e206_63, e206_66, e206_67, e206_70, e206_72, e206_73, e206_74, e206_75, e206_76, e206_77, e206_78, e206_81, e206_84, e206_85, c206, i10, i00, n2, n10, n20, n60, n8, n9, bi0, ite_not, List.replicate, Nat.reduceAdd, Nat.reduceSub, Nat.reduceLeDiff, Nat.reduceLT, if_true, if_false, mg, reduceIte, not_false_eq_true, eq_self, and_self, and_true, true_and, true_or, or_true, Nat.reduceEqDiff, tk]
        exact h2
      · refine J_new hJ (n := n) ?_ ?_ rfl rfl (eqJ_rfl _)
        · show RI n z0.2
          rw [← hr0]; exact ld_R _ _ _ hR
        · show ag n z0.2 z3.2
          rw [← hr0, ← hr3]; exact ld_A _ _ _ _ hA
  · have tf := (t_fos (X := X) (S := S) (x := x)).1 c1
    have tk := (t_lacks (X := X) (S := (S.1, tlD 0 S.2)) (x := x) (g := True)).1 c1
    rw [bt] at tk
    refine op_fin (k := 0) (w := -1000001) (by decide) hJ ?_ ?_
    · simp only [nl_n, nl_i, nl_r, x_ci, x_ca, x_bin, x_ife, x_ifl, x_ifg, x_cme, x_cml, x_cmg, x_go, x_no, x_b, x_ps, x_pn, cs_n, cs_i, cs_j, cs_r, en_n, en_i, en_j, en_r, xa0, xi1, x_k2_0, xs2n, xs2i, xs2r, xi2, r_i, r_j, r_v, r_z1, r_z0, r_a, xs3n, xs3i, xs3r, xs4n, xs4i, xs4r, xi4, g_0_4, l_2, l_9, l_27, g_10_2, g_10_0, l_3, l_5, l_8, l_11, l_12, l_21, l_22, l_23, l_24, l_25, l_26, l_28, l_29, l_30, l_31, l_32, xs5n, xs5i, xs5r, g_0_0, x_k2_1, xi5, x_k3_s, x_k4_1, xn3n, xn3i, xn3r, xn4n, xn4i, xn4r, xi3, e94_0, e94_1, e94_2, e94_5, e94_6, e94_7, e94_8, e94_11, e94_12, e94_13, e94_16, e94_17, e94_18, e94_19, e94_20, e94_24, e94_25, e94_28, e94_29, e94_30, e94_33, e94_36, e94_37, e94_40, e94_41, e94_42, e94_45, e94_47, e94_48, e94_50, e94_51, e94_54, e94_56, e94_59, e94_62, e94_64, e94_65, e94_67, e94_70, e94_73, e94_76, e94_77, e94_80, e94_82, e94_83, e94_85, e94_88, e94_91, e94_94, e94_97, e94_98, c94, i10, i00, n2, n10, n20, n60, n8, n9, bi0, ite_not, List.replicate, Nat.reduceAdd, Nat.reduceSub, Nat.reduceLeDiff, Nat.reduceLT, if_true, if_false, mg, reduceIte, not_false_eq_true, eq_self, and_self, and_true, true_and, true_or, or_true, Nat.reduceEqDiff, tf, n0m, tel0]
    · simp only [nl_n, nl_i, nl_r, x_ci, x_ca, x_bin, x_ife, x_ifl, x_ifg, x_cme, x_cml, x_cmg, x_go, x_no, x_b, x_ps, x_pn, cs_n, cs_i, cs_j, cs_r, en_n, en_i, en_j, en_r, xa0, xi1, x_k3_20, x_k2_20, r_i, r_j, r_v, r_z1, r_z0, r_a, xs2n, xs2i, xs2r, xi2, g_20_19, l_3, l_5, l_8, l_11, l_12, l_21, l_22, l_23, l_24, l_25, l_26, l_28, l_29, l_30, l_31, l_32, g_20_20, x_k1_s, g_20_0, x_k2_s, s_3, s_5, s_8, s_11, s_12, s_21, s_22, s_23, s_24, s_25, s_26, s_28, s_29, s_30, s_31, s_32, xn2n, xn2i, xn2r, e206_0, e206_1, e206_2, e206_3, e206_6, e206_9, e206_10, e206_11, e206_12, e206_13, e206_16, e206_19, e206_20, e206_21, e206_23, e206_24, e206_27, e206_28, e206_29, e206_32, e206_33, e206_34, e206_37, e206_40, e206_41, e206_44, e206_46, e206_47, e206_48, e206_49, e206_50, e206_51, e206_54, e206_57, e206_58, e206_61, e206_62, e206_63, e206_66, e206_67, e206_70, e206_72, e206_73, e206_74, e206_75, e206_76, e206_77, e206_78, e206_81, e206_84, e206_85, c206, i10, i00, n2, n10, n20, n60, n8, n9, bi0, ite_not, List.replicate, Nat.reduceAdd, Nat.reduceSub, Nat.reduceLeDiff, Nat.reduceLT, if_true, if_false, mg, reduceIte, not_false_eq_true, eq_self, and_self, and_true, true_and, true_or, or_true, Nat.reduceEqDiff, tk, w1n, fnd0]
def jdF (N : Nat → Int32) (n : Nat) (r : Nat → Int32) : Nat → Nat → Int32
  | 0, _ => nI 0
  | k + 1, i => if i < n ∧ r (14 + 10 * i + 9) = N i then jdF N n r k (i + 1) else nI 1 + nI i
theorem jdF_s (N : Nat → Int32) (n : Nat) (r : Nat → Int32) (k i : Nat) : jdF N n r (k + 1) i = if i < n ∧ r (14 + 10 * i + 9) = N i then jdF N n r k (i + 1) else nI 1 + nI i := rfl
theorem jd_c {N N' : Nat → Int32} {n : Nat} {r r' : Nat → Int32} (hA : ag n r r') : ∀ k i, (∀ j, j < i + k → N j = N' j) → jdF N n r k i = jdF N' n r' k i := by
  intro k
  induction k with
  | zero => intro i _; rfl
  | succ k ih =>
    intro i h
    rw [jdF_s, jdF_s, ih _ (fun j hj => h j (by omega)), h i (by omega)]
    by_cases c : i < n
    · rw [ag_f hA c (show 9 < 10 by decide)]
    · rw [if_neg (fun w => c w.1), if_neg (fun w => c w.1)]
theorem l_judgex {X : aX} {S : aS} {n m s : Nat} {f : Int32} (hn : n ≤ 8) (hm : m ≤ 40) (hs : s < 4) (h2 : S.2 (10, s, 0) 2 = nI m) (hz : S.1 0 1 = nI n) : ∀ k i, i + k = m → go X 95 19 [some (aR (0, 0, 0)), some (aI (nI s)), some (aI f), some (aI (nI i))] [] (mem S) = some (some (aI (jdF (fun j => S.2 (11, s, 0) j) n (S.1 0) k i)), mem S) := by
  intro k
  induction k with
  | zero =>
    intro i h
    rw [e95_19]
    simp only [nl_n, nl_i, nl_r, x_ci, x_ca, x_bin, x_ife, x_ifl, x_ifg, x_cme, x_cml, x_cmg, x_go, x_no, x_b, x_ps, x_pn, cs_n, cs_i, cs_j, cs_r, en_n, en_i, en_j, en_r, xa0, xi1, x_k2_0, xs2n, xs2i, xs2r, xi2, r_i, r_j, r_v, r_z1, r_z0, r_a, xs3n, xs3i, xs3r, xi3, g_0_4, l_2, l_9, l_27, g_10_2, g_0_0, x_k2_1, x_k3_1, g_10_0, l_3, l_5, l_8, l_11, l_12, l_21, l_22, l_23, l_24, l_25, l_26, l_28, l_29, l_30, l_31, l_32, xn3n, xn3i, xn3r, e95_0, e95_1, e95_2, e95_5, e95_6, e95_7, e95_8, e95_11, e95_12, e95_13, e95_16, e95_17, e95_18, e95_20, e95_21, e95_24, e95_25, e95_26, e95_29, e95_32, e95_33, e95_36, e95_37, e95_40, e95_43, e95_44, e95_47, e95_48, e95_50, e95_53, e95_54, e95_57, e95_58, e95_59, e95_62, e95_63, e95_64, e95_67, e95_68, e95_69, e95_70, e95_71, e95_74, e95_77, e95_78, c95, i10, i00, n2, n10, n20, n60, n8, n9, bi0, ite_not, List.replicate, Nat.reduceAdd, Nat.reduceSub, Nat.reduceLeDiff, Nat.reduceLT, if_true, if_false, mg, reduceIte, not_false_eq_true, eq_self, and_self, and_true, true_and, true_or, or_true, Nat.reduceEqDiff, hs, h2, (nI_nlt (show m ≤ i by omega) (by omega))]
    rfl
  | succ k ih =>
    intro i h
    have hi40 : i < 40 := by omega
    have th := t_has (X := X) (S := S) (a := 0) (x := nI i) (by decide) hz
    rw [jdF_s]
    by_cases c1 : i < n
    · have tl := t_look (X := X) (S := S) (a := 0) (j := 9) (by decide) hn c1 (by decide) hz
      rw [lk_f (by decide)] at tl
      by_cases c2 : S.1 0 (14 + 10 * i + 9) = S.2 (11, s, 0) i
      · rw [if_pos ⟨c1, c2⟩, ← ih (i + 1) (by omega), e95_19]
        simp only [nl_n, nl_i, nl_r, x_ci, x_ca, x_bin, x_ife, x_ifl, x_ifg, x_cme, x_cml, x_cmg, x_go, x_no, x_b, x_ps, x_pn, cs_n, cs_i, cs_j, cs_r, en_n, en_i, en_j, en_r, xa0, xi1, x_k2_0, xs2n, xs2i, xs2r, xi2, r_i, r_j, r_v, r_z1, r_z0, r_a, xs3n, xs3i, xs3r, xi3, g_0_4, l_2, l_9, l_27, g_10_2, g_0_0, x_k2_1, x_k3_1, g_10_0, l_3, l_5, l_8, l_11, l_12, l_21, l_22, l_23, l_24, l_25, l_26, l_28, l_29, l_30, l_31, l_32, xn3n, xn3i, xn3r, e95_0, e95_1, e95_2, e95_5, e95_6, e95_7, e95_8, e95_11, e95_12, e95_13, e95_16, e95_17, e95_18, e95_20, e95_21, e95_24, e95_25, e95_26, e95_29, e95_32, e95_33, e95_36, e95_37, e95_40, e95_43, e95_44, e95_47, e95_48, e95_50, e95_53, e95_54, e95_57, e95_58, e95_59, e95_62, e95_63, e95_64, e95_67, e95_68, e95_69, e95_70, e95_71, e95_74, e95_77, e95_78, c95, i10, i00, n2, n10, n20, n60, n8, n9, bi0, ite_not, List.replicate, Nat.reduceAdd, Nat.reduceSub, Nat.reduceLeDiff, Nat.reduceLT, if_true, if_false, mg, reduceIte, not_false_eq_true, eq_self, and_self, and_true, true_and, true_or, or_true, Nat.reduceEqDiff, hs, h2, hi40, (nI_lt (show i < m by omega) (by omega)), th, (bi_t ((has_lt hn (show i < 2 ^ 31 by omega)).mpr c1)), tl, c2, nI_add]
      · rw [if_neg (fun w => c2 w.2), e95_19]
        simp only [nl_n, nl_i, nl_r, x_ci, x_ca, x_bin, x_ife, x_ifl, x_ifg, x_cme, x_cml, x_cmg, x_go, x_no, x_b, x_ps, x_pn, cs_n, cs_i, cs_j, cs_r, en_n, en_i, en_j, en_r, xa0, xi1, x_k2_0, xs2n, xs2i, xs2r, xi2, r_i, r_j, r_v, r_z1, r_z0, r_a, xs3n, xs3i, xs3r, xi3, g_0_4, l_2, l_9, l_27, g_10_2, g_0_0, x_k2_1, x_k3_1, g_10_0, l_3, l_5, l_8, l_11, l_12, l_21, l_22, l_23, l_24, l_25, l_26, l_28, l_29, l_30, l_31, l_32, xn3n, xn3i, xn3r, e95_0, e95_1, e95_2, e95_5, e95_6, e95_7, e95_8, e95_11, e95_12, e95_13, e95_16, e95_17, e95_18, e95_20, e95_21, e95_24, e95_25, e95_26, e95_29, e95_32, e95_33, e95_36, e95_37, e95_40, e95_43, e95_44, e95_47, e95_48, e95_50, e95_53, e95_54, e95_57, e95_58, e95_59, e95_62, e95_63, e95_64, e95_67, e95_68, e95_69, e95_70, e95_71, e95_74, e95_77, e95_78, c95, i10, i00, n2, n10, n20, n60, n8, n9, bi0, ite_not, List.replicate, Nat.reduceAdd, Nat.reduceSub, Nat.reduceLeDiff, Nat.reduceLT, if_true, if_false, mg, reduceIte, not_false_eq_true, eq_self, and_self, and_true, true_and, true_or, or_true, Nat.reduceEqDiff, hs, h2, hi40, (nI_lt (show i < m by omega) (by omega)), th, (bi_t ((has_lt hn (show i < 2 ^ 31 by omega)).mpr c1)), tl, c2]
    · rw [if_neg (fun w => c1 w.1), e95_19]
      simp only [nl_n, nl_i, nl_r, x_ci, x_ca, x_bin, x_ife, x_ifl, x_ifg, x_cme, x_cml, x_cmg, x_go, x_no, x_b, x_ps, x_pn, cs_n, cs_i, cs_j, cs_r, en_n, en_i, en_j, en_r, xa0, xi1, x_k2_0, xs2n, xs2i, xs2r, xi2, r_i, r_j, r_v, r_z1, r_z0, r_a, xs3n, xs3i, xs3r, xi3, g_0_4, l_2, l_9, l_27, g_10_2, g_0_0, x_k2_1, x_k3_1, g_10_0, l_3, l_5, l_8, l_11, l_12, l_21, l_22, l_23, l_24, l_25, l_26, l_28, l_29, l_30, l_31, l_32, xn3n, xn3i, xn3r, e95_0, e95_1, e95_2, e95_5, e95_6, e95_7, e95_8, e95_11, e95_12, e95_13, e95_16, e95_17, e95_18, e95_20, e95_21, e95_24, e95_25, e95_26, e95_29, e95_32, e95_33, e95_36, e95_37, e95_40, e95_43, e95_44, e95_47, e95_48, e95_50, e95_53, e95_54, e95_57, e95_58, e95_59, e95_62, e95_63, e95_64, e95_67, e95_68, e95_69, e95_70, e95_71, e95_74, e95_77, e95_78, c95, i10, i00, n2, n10, n20, n60, n8, n9, bi0, ite_not, List.replicate, Nat.reduceAdd, Nat.reduceSub, Nat.reduceLeDiff, Nat.reduceLT, if_true, if_false, mg, reduceIte, not_false_eq_true, eq_self, and_self, and_true, true_and, true_or, or_true, Nat.reduceEqDiff, hs, h2, hi40, (nI_lt (show i < m by omega) (by omega)), th, (bi_f (fun w => c1 ((has_lt hn (show i < 2 ^ 31 by omega)).mp w)))]
theorem l_judgem {X : aX} {S : aS} {n m s : Nat} (hn : n ≤ 8) (hm : m ≤ 40) (hs : s < 4) (h2 : S.2 (30, 0, 0) s = nI m) (hz : S.1 3 1 = nI n) : ∀ k i, i + k = m → go X 207 22 [some (aR (20, 0, 0)), some (aI (nI s)), some (aI (nI i))] [] (mem S) = some (some (aI (jdF (fun j => S.2 (31, 0, 0) (40 * s + j)) n (S.1 3) k i)), mem S) := by
  intro k
  induction k with
  | zero =>
    intro i h
    have e : i = m := by omega
    subst e
    rw [e207_22]
    simp only [nl_n, nl_i, nl_r, x_ci, x_ca, x_bin, x_ife, x_ifl, x_ifg, x_cme, x_cml, x_cmg, x_go, x_no, x_b, x_ps, x_pn, cs_n, cs_i, cs_j, cs_r, en_n, en_i, en_j, en_r, xa0, xi1, x_k3_20, x_k2_20, r_i, r_j, r_v, r_z1, r_z0, r_a, xs2n, xs2i, xs2r, xi2, g_20_19, l_3, l_5, l_8, l_11, l_12, l_21, l_22, l_23, l_24, l_25, l_26, l_28, l_29, l_30, l_31, l_32, g_20_20, xn2n, xn2i, xn2r, e207_0, e207_1, e207_2, e207_3, e207_6, e207_9, e207_10, e207_11, e207_12, e207_13, e207_16, e207_19, e207_20, e207_21, e207_23, e207_24, e207_27, e207_28, e207_29, e207_32, e207_33, e207_34, e207_37, e207_40, e207_41, e207_44, e207_46, e207_47, e207_48, e207_49, e207_50, e207_51, e207_52, e207_53, e207_55, e207_58, e207_61, e207_64, e207_67, e207_68, e207_69, e207_72, e207_73, e207_74, e207_77, e207_78, e207_81, e207_82, e207_83, e207_84, c207, i10, i00, n2, n10, n20, n60, n8, n9, bi0, ite_not, List.replicate, Nat.reduceAdd, Nat.reduceSub, Nat.reduceLeDiff, Nat.reduceLT, if_true, if_false, mg, reduceIte, not_false_eq_true, eq_self, and_self, and_true, true_and, true_or, or_true, Nat.reduceEqDiff, hs, h2, (nI_nlt (Nat.le_refl i) (show i < 2 ^ 31 by omega))]
    rfl
  | succ k ih =>
    intro i h
    have hp : 40 * s + i < 160 := by omega
    have hne : ¬ nI i = nI m := nx_ne (by omega) (by omega) (by omega)
    have th := t_isS (X := X) (S := S) (x := nI i) hn hz
    rw [jdF_s]
    by_cases c1 : i < n
    · have hi8 : i < 8 := by omega
      by_cases c2 : S.1 3 (14 + 10 * i + 9) = S.2 (31, 0, 0) (40 * s + i)
      · rw [if_pos ⟨c1, c2⟩, ← ih (i + 1) (by omega), e207_22]
        simp only [nl_n, nl_i, nl_r, x_ci, x_ca, x_bin, x_ife, x_ifl, x_ifg, x_cme, x_cml, x_cmg, x_go, x_no, x_b, x_ps, x_pn, cs_n, cs_i, cs_j, cs_r, en_n, en_i, en_j, en_r, xa0, xi1, x_k3_20, x_k2_20, r_i, r_j, r_v, r_z1, r_z0, r_a, xs2n, xs2i, xs2r, xi2, g_20_19, l_3, l_5, l_8, l_11, l_12, l_21, l_22, l_23, l_24, l_25, l_26, l_28, l_29, l_30, l_31, l_32, g_20_20, xn2n, xn2i, xn2r, e207_0, e207_1, e207_2, e207_3, e207_6, e207_9, e207_10, e207_11, e207_12, e207_13, e207_16, e207_19, e207_20, e207_21, e207_23, e207_24, e207_27, e207_28, e207_29, e207_32, e207_33, e207_34, e207_37, e207_40, e207_41, e207_44, e207_46, e207_47, e207_48, e207_49, e207_50, e207_51, e207_52, e207_53, e207_55, e207_58, e207_61, e207_64, e207_68, e207_69, e207_72, e207_73, e207_74, e207_77, e207_78, e207_81, e207_82, e207_83, e207_84, c207, i10, i00, n2, n10, n20, n60, n8, n9, bi0, ite_not, List.replicate, Nat.reduceAdd, Nat.reduceSub, Nat.reduceLeDiff, Nat.reduceLT, if_true, if_false, mg, reduceIte, not_false_eq_true, eq_self, and_self, and_true, true_and, true_or, or_true, Nat.reduceEqDiff, hs, h2, hp, hi8, (nI_lt (show i < m by omega) (by omega)), th, (bi_t ((has_lt hn (show i < 2 ^ 31 by omega)).mpr c1)), nI_mul, nI_add, t_is, c2]
      · have c2' : ¬ S.2 (31, 0, 0) (40 * s + i) = S.1 3 (14 + 10 * i + 9) := fun w => c2 w.symm
        have ea : nI 1 + nI i = nI (1 + i) := nI_add 1 i
        rw [if_neg (fun w => c2 w.2), e207_22]
        simp only [nl_n, nl_i, nl_r, x_ci, x_ca, x_bin, x_ife, x_ifl, x_ifg, x_cme, x_cml, x_cmg, x_go, x_no, x_b, x_ps, x_pn, cs_n, cs_i, cs_j, cs_r, en_n, en_i, en_j, en_r, xa0, xi1, x_k3_20, x_k2_20, r_i, r_j, r_v, r_z1, r_z0, r_a, xs2n, xs2i, xs2r, xi2, g_20_19, l_3, l_5, l_8, l_11, l_12, l_21, l_22, l_23, l_24, l_25, l_26, l_28, l_29, l_30, l_31, l_32, g_20_20, xn2n, xn2i, xn2r, e207_0, e207_1, e207_2, e207_3, e207_6, e207_9, e207_10, e207_11, e207_12, e207_13, e207_16, e207_19, e207_20, e207_21, e207_23, e207_24, e207_27, e207_28, e207_29, e207_32, e207_33, e207_34, e207_37, e207_40, e207_41, e207_44, e207_46, e207_47, e207_48, e207_49, e207_50, e207_51, e207_52, e207_53, e207_55, e207_58, e207_61, e207_64, e207_67, e207_68, e207_69, e207_72, e207_73, e207_74, e207_77, e207_78, e207_81, e207_82, e207_83, e207_84, c207, i10, i00, n2, n10, n20, n60, n8, n9, bi0, ite_not, List.replicate, Nat.reduceAdd, Nat.reduceSub, Nat.reduceLeDiff, Nat.reduceLT, if_true, if_false, mg, reduceIte, not_false_eq_true, eq_self, and_self, and_true, true_and, true_or, or_true, Nat.reduceEqDiff, hs, h2, hp, hi8, (nI_lt (show i < m by omega) (by omega)), th, (bi_t ((has_lt hn (show i < 2 ^ 31 by omega)).mpr c1)), nI_mul, nI_add, t_is, c2', hne]
    · rw [if_neg (fun w => c1 w.1), e207_22]
      simp only [nl_n, nl_i, nl_r, x_ci, x_ca, x_bin, x_ife, x_ifl, x_ifg, x_cme, x_cml, x_cmg, x_go, x_no, x_b, x_ps, x_pn, cs_n, cs_i, cs_j, cs_r, en_n, en_i, en_j, en_r, xa0, xi1, x_k3_20, x_k2_20, r_i, r_j, r_v, r_z1, r_z0, r_a, xs2n, xs2i, xs2r, xi2, g_20_19, l_3, l_5, l_8, l_11, l_12, l_21, l_22, l_23, l_24, l_25, l_26, l_28, l_29, l_30, l_31, l_32, g_20_20, xn2n, xn2i, xn2r, e207_0, e207_1, e207_2, e207_3, e207_6, e207_9, e207_10, e207_11, e207_12, e207_13, e207_16, e207_19, e207_20, e207_21, e207_23, e207_24, e207_27, e207_28, e207_29, e207_32, e207_33, e207_34, e207_37, e207_40, e207_41, e207_44, e207_46, e207_47, e207_48, e207_49, e207_50, e207_51, e207_52, e207_53, e207_55, e207_58, e207_61, e207_64, e207_67, e207_68, e207_69, e207_72, e207_73, e207_74, e207_77, e207_78, e207_81, e207_82, e207_83, e207_84, c207, i10, i00, n2, n10, n20, n60, n8, n9, bi0, ite_not, List.replicate, Nat.reduceAdd, Nat.reduceSub, Nat.reduceLeDiff, Nat.reduceLT, if_true, if_false, mg, reduceIte, not_false_eq_true, eq_self, and_self, and_true, true_and, true_or, or_true, Nat.reduceEqDiff, hs, h2, (nI_lt (show i < m by omega) (by omega)), th, (bi_f (fun w => c1 ((has_lt hn (show i < 2 ^ 31 by omega)).mp w))), hne]
theorem o_judge {X : aX} {S : aS} {x : Int32} (hJ : J S) : opK X 95 207 [aI x] S := by
  obtain ⟨⟨n, hR, hA⟩, hK, hD⟩ := id hJ
  have hR3 := ag_RI hA hR
  have hn := hR.1
  have hz := hR.2.1
  have hz3 := hR3.2.1
  have bt : bi True = nI 1 := bi_t trivial
  by_cases c1 : wi x (nI 0) (nI 3)
  · obtain ⟨s, _, hs3, rfl⟩ := wi_of (by decide) c1 (by decide)
    have hs : s < 4 := by omega
    obtain ⟨b, m, g1, g2, g3, g4, g5, g6, g7, g8⟩ := hD.2.2.1 s hs
    have hb1 : b < 1000 := by omega
    have tf := (t_fos (X := X) (S := S) (x := nI s)).2 s hs rfl
    rw [g4] at tf
    simp only [nq0 hb1] at tf
    by_cases cb : b = 0
    · rw [if_pos cb] at tf
      have tk := (t_lacks (X := X) (S := (S.1, tlD 5 S.2)) (x := nI s) (g := True)).2 s hs rfl
      rw [show (S.1, tlD 5 S.2).2 (29, 0, 0) s = nI b from (show tlD 5 S.2 (29, 0, 0) s = nI b from (tl_o (k := 5) (by decide)).trans g5), bt] at tk
      simp only [nq0 hb1] at tk
      rw [if_pos cb] at tk
      refine op_f5 hJ ?_ ?_
      · simp only [nl_n, nl_i, nl_r, x_ci, x_ca, x_bin, x_ife, x_ifl, x_ifg, x_cme, x_cml, x_cmg, x_go, x_no, x_b, x_ps, x_pn, cs_n, cs_i, cs_j, cs_r, en_n, en_i, en_j, en_r, xa0, xi1, x_k2_0, xs2n, xs2i, xs2r, xi2, r_i, r_j, r_v, r_z1, r_z0, r_a, xs3n, xs3i, xs3r, xi3, g_0_4, l_2, l_9, l_27, g_10_2, g_0_0, x_k2_1, x_k3_1, g_10_0, l_3, l_5, l_8, l_11, l_12, l_21, l_22, l_23, l_24, l_25, l_26, l_28, l_29, l_30, l_31, l_32, xn3n, xn3i, xn3r, e95_0, e95_1, e95_2, e95_5, e95_6, e95_7, e95_8, e95_11, e95_12, e95_13, e95_16, e95_17, e95_18, e95_20, e95_21, e95_24, e95_25, e95_26, e95_29, e95_32, e95_33, e95_36, e95_37, e95_40, e95_43, e95_44, e95_47, e95_48, e95_50, e95_53, e95_54, e95_57, e95_58, e95_59, e95_62, e95_63, e95_64, e95_67, e95_68, e95_69, e95_70, e95_71, e95_74, e95_77, e95_78, c95, i10, i00, n2, n10, n20, n60, n8, n9, bi0, ite_not, List.replicate, Nat.reduceAdd, Nat.reduceSub, Nat.reduceLeDiff, Nat.reduceLT, if_true, if_false, mg, reduceIte, not_false_eq_true, eq_self, and_self, and_true, true_and, true_or, or_true, Nat.reduceEqDiff, tf, n5m, tel5]
      · simp only [nl_n, nl_i, nl_r, x_ci, x_ca, x_bin, x_ife, x_ifl, x_ifg, x_cme, x_cml, x_cmg, x_go, x_no, x_b, x_ps, x_pn, cs_n, cs_i, cs_j, cs_r, en_n, en_i, en_j, en_r, xa0, xi1, x_k3_20, x_k2_20, r_i, r_j, r_v, r_z1, r_z0, r_a, xs2n, xs2i, xs2r, xi2, g_20_19, l_3, l_5, l_8, l_11, l_12, l_21, l_22, l_23, l_24, l_25, l_26, l_28, l_29, l_30, l_31, l_32, g_20_20, xn2n, xn2i, xn2r, e207_0, e207_1, e207_2, e207_3, e207_6, e207_9, e207_10, e207_11, e207_12, e207_13, e207_16, e207_19, e207_20, e207_21, e207_23, e207_24, e207_27, e207_28, e207_29, e207_32, e207_33, e207_34, e207_37, e207_40, e207_41, e207_44, e207_46, e207_47, e207_48, e207_49, e207_50, e207_51, e207_52, e207_53, e207_55, e207_58, e207_61, e207_64, e207_67, e207_68, e207_69, e207_72, e207_73, e207_74, e207_77, e207_78, e207_81, e207_82, e207_83, e207_84, c207, i10, i00, n2, n10, n20, n60, n8, n9, bi0, ite_not, List.replicate, Nat.reduceAdd, Nat.reduceSub, Nat.reduceLeDiff, Nat.reduceLT, if_true, if_false, mg, reduceIte, not_false_eq_true, eq_self, and_self, and_true, true_and, true_or, or_true, Nat.reduceEqDiff, tk, w6n, fnd5]
    · rw [if_neg cb] at tf
      have tk := (t_lacks (X := X) (S := S) (x := nI s) (g := True)).2 s hs rfl
      rw [g5, bt] at tk
      simp only [nq0 hb1] at tk
      rw [if_neg cb, if_pos trivial] at tk
      refine op_eq hJ ?_ ?_ (jd_c (N := fun j => S.2 (11, s, 0) j) (N' := fun j => S.2 (31, 0, 0) (40 * s + j)) hA m 0 (fun j hj => g8 j (by omega)))
      · simp only [nl_n, nl_i, nl_r, x_ci, x_ca, x_bin, x_ife, x_ifl, x_ifg, x_cme, x_cml, x_cmg, x_go, x_no, x_b, x_ps, x_pn, cs_n, cs_i, cs_j, cs_r, en_n, en_i, en_j, en_r, xa0, xi1, x_k2_0, xs2n, xs2i, xs2r, xi2, r_i, r_j, r_v, r_z1, r_z0, r_a, xs3n, xs3i, xs3r, xi3, g_0_4, l_2, l_9, l_27, g_10_2, g_0_0, x_k2_1, x_k3_1, g_10_0, l_3, l_5, l_8, l_11, l_12, l_21, l_22, l_23, l_24, l_25, l_26, l_28, l_29, l_30, l_31, l_32, xn3n, xn3i, xn3r, e95_0, e95_1, e95_2, e95_5, e95_6, e95_7, e95_8, e95_11, e95_12, e95_13, e95_16, e95_17, e95_18, e95_20, e95_21, e95_24, e95_25, e95_26, e95_29, e95_32, e95_33, e95_36, e95_37, e95_40, e95_43, e95_44, e95_47, e95_48, e95_50, e95_53, e95_54, e95_57, e95_58, e95_59, e95_62, e95_63, e95_64, e95_67, e95_68, e95_69, e95_70, e95_71, e95_74, e95_77, e95_78, c95, i10, i00, n2, n10, n20, n60, n8, n9, bi0, ite_not, List.replicate, Nat.reduceAdd, Nat.reduceSub, Nat.reduceLeDiff, Nat.reduceLT, if_true, if_false, mg, reduceIte, not_false_eq_true, eq_self, and_self, and_true, true_and, true_or, or_true, Nat.reduceEqDiff, tf]
        exact l_judgex hn g2 hs g6 hz m 0 (by omega)
      · simp only [nl_n, nl_i, nl_r, x_ci, x_ca, x_bin, x_ife, x_ifl, x_ifg, x_cme, x_cml, x_cmg, x_go, x_no, x_b, x_ps, x_pn, cs_n, cs_i, cs_j, cs_r, en_n, en_i, en_j, en_r, xa0, xi1, x_k3_20, x_k2_20, r_i, r_j, r_v, r_z1, r_z0, r_a, xs2n, xs2i, xs2r, xi2, g_20_19, l_3, l_5, l_8, l_11, l_12, l_21, l_22, l_23, l_24, l_25, l_26, l_28, l_29, l_30, l_31, l_32, g_20_20, xn2n, xn2i, xn2r, e207_0, e207_1, e207_2, e207_3, e207_6, e207_9, e207_10, e207_11, e207_12, e207_13, e207_16, e207_19, e207_20, e207_21, e207_23, e207_24, e207_27, e207_28, e207_29, e207_32, e207_33, e207_34, e207_37, e207_40, e207_41, e207_44, e207_46, e207_47, e207_48, e207_49, e207_50, e207_51, e207_52, e207_53, e207_55, e207_58, e207_61, e207_64, e207_67, e207_68, e207_69, e207_72, e207_73, e207_74, e207_77, e207_78, e207_81, e207_82, e207_83, e207_84, c207, i10, i00, n2, n10, n20, n60, n8, n9, bi0, ite_not, List.replicate, Nat.reduceAdd, Nat.reduceSub, Nat.reduceLeDiff, Nat.reduceLT, if_true, if_false, mg, reduceIte, not_false_eq_true, eq_self, and_self, and_true, true_and, true_or, or_true, Nat.reduceEqDiff, tk]
        exact l_judgem hn g2 hs g7 hz3 m 0 (by omega)
  · have tf := (t_fos (X := X) (S := S) (x := x)).1 c1
    have tk := (t_lacks (X := X) (S := (S.1, tlD 0 S.2)) (x := x) (g := True)).1 c1
    rw [bt] at tk
    refine op_fin (k := 0) (w := -1000001) (by decide) hJ ?_ ?_
    · simp only [nl_n, nl_i, nl_r, x_ci, x_ca, x_bin, x_ife, x_ifl, x_ifg, x_cme, x_cml, x_cmg, x_go, x_no, x_b, x_ps, x_pn, cs_n, cs_i, cs_j, cs_r, en_n, en_i, en_j, en_r, xa0, xi1, x_k2_0, xs2n, xs2i, xs2r, xi2, r_i, r_j, r_v, r_z1, r_z0, r_a, xs3n, xs3i, xs3r, xi3, g_0_4, l_2, l_9, l_27, g_10_2, g_0_0, x_k2_1, x_k3_1, g_10_0, l_3, l_5, l_8, l_11, l_12, l_21, l_22, l_23, l_24, l_25, l_26, l_28, l_29, l_30, l_31, l_32, xn3n, xn3i, xn3r, e95_0, e95_1, e95_2, e95_5, e95_6, e95_7, e95_8, e95_11, e95_12, e95_13, e95_16, e95_17, e95_18, e95_20, e95_21, e95_24, e95_25, e95_26, e95_29, e95_32, e95_33, e95_36, e95_37, e95_40, e95_43, e95_44, e95_47, e95_48, e95_50, e95_53, e95_54, e95_57, e95_58, e95_59, e95_62, e95_63, e95_64, e95_67, e95_68, e95_69, e95_70, e95_71, e95_74, e95_77, e95_78, c95, i10, i00, n2, n10, n20, n60, n8, n9, bi0, ite_not, List.replicate, Nat.reduceAdd, Nat.reduceSub, Nat.reduceLeDiff, Nat.reduceLT, if_true, if_false, mg, reduceIte, not_false_eq_true, eq_self, and_self, and_true, true_and, true_or, or_true, Nat.reduceEqDiff, tf, n0m, tel0]
    · simp only [nl_n, nl_i, nl_r, x_ci, x_ca, x_bin, x_ife, x_ifl, x_ifg, x_cme, x_cml, x_cmg, x_go, x_no, x_b, x_ps, x_pn, cs_n, cs_i, cs_j, cs_r, en_n, en_i, en_j, en_r, xa0, xi1, x_k3_20, x_k2_20, r_i, r_j, r_v, r_z1, r_z0, r_a, xs2n, xs2i, xs2r, xi2, g_20_19, l_3, l_5, l_8, l_11, l_12, l_21, l_22, l_23, l_24, l_25, l_26, l_28, l_29, l_30, l_31, l_32, g_20_20, xn2n, xn2i, xn2r, e207_0, e207_1, e207_2, e207_3, e207_6, e207_9, e207_10, e207_11, e207_12, e207_13, e207_16, e207_19, e207_20, e207_21, e207_23, e207_24, e207_27, e207_28, e207_29, e207_32, e207_33, e207_34, e207_37, e207_40, e207_41, e207_44, e207_46, e207_47, e207_48, e207_49, e207_50, e207_51, e207_52, e207_53, e207_55, e207_58, e207_61, e207_64, e207_67, e207_68, e207_69, e207_72, e207_73, e207_74, e207_77, e207_78, e207_81, e207_82, e207_83, e207_84, c207, i10, i00, n2, n10, n20, n60, n8, n9, bi0, ite_not, List.replicate, Nat.reduceAdd, Nat.reduceSub, Nat.reduceLeDiff, Nat.reduceLT, if_true, if_false, mg, reduceIte, not_false_eq_true, eq_self, and_self, and_true, true_and, true_or, or_true, Nat.reduceEqDiff, tk, w1n, fnd0]
