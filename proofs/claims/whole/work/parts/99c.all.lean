/-! ALL ITEMS -/
def rsP (i : Nat) (o : Bool × tT × List (Nat → Int32)) : Int32 := if o.1 = true then nI (i + o.2.2.length) else -1 - nI o.2.1.1
theorem l_all5 {X : aX} {q : Nat → Nat → Int32} {D : aD} {t : Nat} (h : tpX D t) : ∀ k i n τ r, i + k = 121 → cnT (D (8, 0, 0)) t τ → RI n r → ∃ r', go X 1 9 [some (aR (6, 0, 0)), some (aR (1, 1, 0)), some (aI (nI i))] [] (mem (rq q 1 r, twT D τ)) = some (some (aI (if (prT (D (8, 0, 0)) t k n τ).1 = true then nI (i + (prT (D (8, 0, 0)) t k n τ).2.2.length - 1) else -1 - nI (prT (D (8, 0, 0)) t k n τ).2.1.1)), mem (rq q 1 r', twT D (prT (D (8, 0, 0)) t k n τ).2.1)) ∧ ((prT (D (8, 0, 0)) t k n τ).1 = true → r' = apL n (prT (D (8, 0, 0)) t k n τ).2.2 r) := by
  intro k
  induction k with
  | zero =>
    intro i n τ r hi hc hr
    refine ⟨r, ?_, fun w => by cases w⟩
    rw [e1_9]
    simp only [nl_n, nl_i, nl_r, x_ci, x_ca, x_bin, x_ife, x_ifl, x_ifg, x_cme, x_cml, x_cmg, x_go, x_no, x_b, x_ps, x_pn, cs_n, cs_i, cs_j, cs_r, en_n, en_i, en_j, en_r, xa0, g_6_0, x_k1_7, xs2n, xs2i, xs2r, xi2, xa1, x_k2_6, g_7_2, r_i, r_j, r_v, r_z1, r_z0, r_a, xn2n, xn2i, xn2r, g_7_3, e1_0, e1_1, e1_4, e1_7, e1_8, e1_10, e1_12, e1_15, e1_16, e1_17, e1_20, e1_23, e1_26, e1_27, e1_30, e1_33, e1_36, e1_37, e1_38, e1_39, e1_42, e1_45, e1_46, e1_49, e1_52, e1_53, e1_56, e1_59, e1_62, e1_65, e1_66, e1_67, e1_70, e1_73, e1_74, c1, i10, i00, n2, n10, n20, n60, n8, n9, bi0, ite_not, List.replicate, Nat.reduceAdd, Nat.reduceSub, Nat.reduceLeDiff, Nat.reduceLT, if_true, if_false, mg, reduceIte, not_false_eq_true, eq_self, and_self, and_true, true_and, true_or, or_true, Nat.reduceEqDiff, (nI_lt (show 120 < i by omega) (show i < 2 ^ 31 by omega)), tT_3]
    rfl
  | succ k ih =>
    intro i n τ r hi hc hr
    have hn := hr.1
    have lt := nI_nlt (show i ≤ 120 by omega) (show 120 < 2 ^ 31 by decide)
    obtain ⟨r1, h1, h2⟩ := t_item5 (X := X) (q := q) (r := r) h hc.1 hn hr.2.1
    have io := it_ok hc hn
    rw [pr_s, e1_9]
    by_cases c : (itT (D (8, 0, 0)) t n τ).1 = true
    · rw [if_pos c]
      rw [bi_t c] at h1
      have w := io.2 c
      have hk := io.1.1.2.2.1
      have k0 : (nI (itT (D (8, 0, 0)) t n τ).2.1.2.2.1 = 0) = ((itT (D (8, 0, 0)) t n τ).2.1.2.2.1 = 0) := nq0 (by omega)
      have k3 : (nI (itT (D (8, 0, 0)) t n τ).2.1.2.2.1 = nI 3) = ((itT (D (8, 0, 0)) t n τ).2.1.2.2.1 = 3) := nq (by omega) (by decide)
      by_cases c0 : (itT (D (8, 0, 0)) t n τ).2.1.2.2.1 = 0
      · rw [if_pos c0]
        refine ⟨r1, ?_, fun _ => h2 c⟩
        have k0t := k0.trans (eq_true c0)
        simp only [nl_n, nl_i, nl_r, x_ci, x_ca, x_bin, x_ife, x_ifl, x_ifg, x_cme, x_cml, x_cmg, x_go, x_no, x_b, x_ps, x_pn, cs_n, cs_i, cs_j, cs_r, en_n, en_i, en_j, en_r, xa0, g_6_0, x_k1_7, xs2n, xs2i, xs2r, xi2, xa1, x_k2_6, g_7_2, r_i, r_j, r_v, r_z1, r_z0, r_a, xn2n, xn2i, xn2r, g_7_3, e1_0, e1_1, e1_4, e1_7, e1_8, e1_10, e1_12, e1_15, e1_16, e1_17, e1_20, e1_23, e1_26, e1_27, e1_30, e1_33, e1_36, e1_37, e1_38, e1_39, e1_42, e1_45, e1_46, e1_49, e1_52, e1_53, e1_56, e1_59, e1_62, e1_65, e1_66, e1_67, e1_70, e1_73, e1_74, c1, i10, i00, n2, n10, n20, n60, n8, n9, bi0, ite_not, List.replicate, Nat.reduceAdd, Nat.reduceSub, Nat.reduceLeDiff, Nat.reduceLT, if_true, if_false, mg, reduceIte, not_false_eq_true, eq_self, and_self, and_true, true_and, true_or, or_true, Nat.reduceEqDiff, lt, h1, tT_2, k0t]
        rfl
      · rw [if_neg c0]
        have k0f := k0.trans (eq_false c0)
        by_cases cx : (itT (D (8, 0, 0)) t n τ).2.1.2.2.1 = 3
        · rw [if_pos cx]
          have k3t := k3.trans (eq_true cx)
          have st := fun q => s_T (X := X) (q := q) h io.1.1
          have hr1 : RI (szN n (itT (D (8, 0, 0)) t n τ).2.2) r1 := by rw [h2 c]; exact RI_ap hr w.2
          obtain ⟨r2, g1, g2⟩ := ih (i + 1) (szN n (itT (D (8, 0, 0)) t n τ).2.2) (nxT (D (8, 0, 0)) t (itT (D (8, 0, 0)) t n τ).2.1) r1 (by omega) (cn_nx io.1) hr1
          refine ⟨r2, ?_, fun z => ?_⟩
          · have el : ∀ x, i + 1 + x - 1 = i + (x + 1) - 1 := fun x => by omega
            rw [el] at g1
            simp only [nl_n, nl_i, nl_r, x_ci, x_ca, x_bin, x_ife, x_ifl, x_ifg, x_cme, x_cml, x_cmg, x_go, x_no, x_b, x_ps, x_pn, cs_n, cs_i, cs_j, cs_r, en_n, en_i, en_j, en_r, xa0, g_6_0, x_k1_7, xs2n, xs2i, xs2r, xi2, xa1, x_k2_6, g_7_2, r_i, r_j, r_v, r_z1, r_z0, r_a, xn2n, xn2i, xn2r, g_7_3, e1_0, e1_1, e1_4, e1_7, e1_8, e1_10, e1_12, e1_15, e1_16, e1_17, e1_20, e1_23, e1_26, e1_27, e1_30, e1_33, e1_36, e1_37, e1_38, e1_39, e1_42, e1_45, e1_46, e1_49, e1_52, e1_53, e1_56, e1_59, e1_62, e1_65, e1_66, e1_67, e1_70, e1_73, e1_74, c1, i10, i00, n2, n10, n20, n60, n8, n9, bi0, ite_not, List.replicate, Nat.reduceAdd, Nat.reduceSub, Nat.reduceLeDiff, Nat.reduceLT, if_true, if_false, mg, reduceIte, not_false_eq_true, eq_self, and_self, and_true, true_and, true_or, or_true, Nat.reduceEqDiff, lt, h1, tT_2, k0f, k3t, st, nI_add, g1]
            rfl
          · rw [g2 z, h2 c]
            rfl
        · rw [if_neg cx]
          have k3f := k3.trans (eq_false cx)
          refine ⟨r1, ?_, fun w => by cases w⟩
          simp only [nl_n, nl_i, nl_r, x_ci, x_ca, x_bin, x_ife, x_ifl, x_ifg, x_cme, x_cml, x_cmg, x_go, x_no, x_b, x_ps, x_pn, cs_n, cs_i, cs_j, cs_r, en_n, en_i, en_j, en_r, xa0, g_6_0, x_k1_7, xs2n, xs2i, xs2r, xi2, xa1, x_k2_6, g_7_2, r_i, r_j, r_v, r_z1, r_z0, r_a, xn2n, xn2i, xn2r, g_7_3, e1_0, e1_1, e1_4, e1_7, e1_8, e1_10, e1_12, e1_15, e1_16, e1_17, e1_20, e1_23, e1_26, e1_27, e1_30, e1_33, e1_36, e1_37, e1_38, e1_39, e1_42, e1_45, e1_46, e1_49, e1_52, e1_53, e1_56, e1_59, e1_62, e1_65, e1_66, e1_67, e1_70, e1_73, e1_74, c1, i10, i00, n2, n10, n20, n60, n8, n9, bi0, ite_not, List.replicate, Nat.reduceAdd, Nat.reduceSub, Nat.reduceLeDiff, Nat.reduceLT, if_true, if_false, mg, reduceIte, not_false_eq_true, eq_self, and_self, and_true, true_and, true_or, or_true, Nat.reduceEqDiff, lt, h1, tT_2, tT_3, k0f, k3f]
          rfl
    · rw [if_neg c]
      rw [bi_f c] at h1
      refine ⟨r1, ?_, fun w => by cases w⟩
      simp only [nl_n, nl_i, nl_r, x_ci, x_ca, x_bin, x_ife, x_ifl, x_ifg, x_cme, x_cml, x_cmg, x_go, x_no, x_b, x_ps, x_pn, cs_n, cs_i, cs_j, cs_r, en_n, en_i, en_j, en_r, xa0, g_6_0, x_k1_7, xs2n, xs2i, xs2r, xi2, xa1, x_k2_6, g_7_2, r_i, r_j, r_v, r_z1, r_z0, r_a, xn2n, xn2i, xn2r, g_7_3, e1_0, e1_1, e1_4, e1_7, e1_8, e1_10, e1_12, e1_15, e1_16, e1_17, e1_20, e1_23, e1_26, e1_27, e1_30, e1_33, e1_36, e1_37, e1_38, e1_39, e1_42, e1_45, e1_46, e1_49, e1_52, e1_53, e1_56, e1_59, e1_62, e1_65, e1_66, e1_67, e1_70, e1_73, e1_74, c1, i10, i00, n2, n10, n20, n60, n8, n9, bi0, ite_not, List.replicate, Nat.reduceAdd, Nat.reduceSub, Nat.reduceLeDiff, Nat.reduceLT, if_true, if_false, mg, reduceIte, not_false_eq_true, eq_self, and_self, and_true, true_and, true_or, or_true, Nat.reduceEqDiff, lt, h1, tT_3]
      rfl
/-- the first token -/
def tk0T (b : Nat → Int32) (t : Nat) : tT := (tkP b t 0, tkE b t 0, tkK b t 0, tkV b t 0)
theorem cn_0 {b : Nat → Int32} {t : Nat} : cnT b t (tk0T b t) := by
  have k := tk_b (b := b) (Nat.zero_le t)
  exact ⟨⟨k.2.1, k.2.2.1, k.2.2.2.1, k.2.2.2.2⟩, rfl⟩
theorem t_all5 {X : aX} {q : Nat → Nat → Int32} {r : Nat → Int32} {D : aD} {t n : Nat} (h : tpX D t) (hr : RI n r) : ∃ r', cl X 1 [aR (6, 0, 0), aR (1, 1, 0)] (mem (rq q 1 r, D)) = some (some (aI (rsP 0 (prT (D (8, 0, 0)) t 120 n (tk0T (D (8, 0, 0)) t)))), mem (rq q 1 r', twT D (prT (D (8, 0, 0)) t 120 n (tk0T (D (8, 0, 0)) t)).2.1)) ∧ ((prT (D (8, 0, 0)) t 120 n (tk0T (D (8, 0, 0)) t)).1 = true → r' = apL n (prT (D (8, 0, 0)) t 120 n (tk0T (D (8, 0, 0)) t)).2.2 r) := by
  obtain ⟨r', h1, h2⟩ := l_all5 (X := X) (q := q) h 120 1 n (tk0T (D (8, 0, 0)) t) r (by omega) cn_0 hr
  refine ⟨r', ?_, h2⟩
  have st : ∀ p k v, cl X 57 [aR (7, 0, 0)] (mem (rq q 1 r, twD D p (nI 0) k v)) = some (none, mem (rq q 1 r, twT D (tk0T (D (8, 0, 0)) t))) := fun p k v => t_step h.1 h.2 (Nat.zero_le t)
  have rw0 : cl X 56 [aR (7, 0, 0)] (mem (rq q 1 r, D)) = some (none, mem (rq q 1 r, twT D (tk0T (D (8, 0, 0)) t))) := by
    have e : mem (rq q 1 r, D) = mem (rq q 1 r, twD D (D (7, 0, 0) 3) (D (7, 0, 0) 5) (D (7, 0, 0) 2) (D (7, 0, 0) 4)) := by rw [tw_self]
    rw [e]
    simp only [nl_n, nl_i, nl_r, x_ci, x_ca, x_bin, x_ife, x_ifl, x_ifg, x_cme, x_cml, x_cmg, x_go, x_no, x_b, x_ps, x_pn, cs_n, cs_i, cs_j, cs_r, en_n, en_i, en_j, en_r, xa0, p_7_5, x_k1_7, r_i, r_j, r_v, r_z1, r_z0, r_a, e56_0, e56_1, e56_2, e56_5, e56_6, e56_9, c56, i10, i00, n2, n10, n20, n60, n8, n9, bi0, ite_not, List.replicate, Nat.reduceAdd, Nat.reduceSub, Nat.reduceLeDiff, Nat.reduceLT, if_true, if_false, mg, reduceIte, not_false_eq_true, eq_self, and_self, and_true, true_and, true_or, or_true, Nat.reduceEqDiff, tw_u5, st]
  unfold rsP
  have el : ∀ x, 1 + x - 1 = 0 + x := fun x => by omega
  rw [el] at h1
  rw [← h1]
  simp only [nl_n, nl_i, nl_r, x_ci, x_ca, x_bin, x_ife, x_ifl, x_ifg, x_cme, x_cml, x_cmg, x_go, x_no, x_b, x_ps, x_pn, cs_n, cs_i, cs_j, cs_r, en_n, en_i, en_j, en_r, xa0, g_6_0, x_k1_7, xs2n, xs2i, xs2r, xi2, xa1, x_k2_6, g_7_2, r_i, r_j, r_v, r_z1, r_z0, r_a, xn2n, xn2i, xn2r, g_7_3, e1_0, e1_1, e1_4, e1_7, e1_8, e1_10, e1_12, e1_15, e1_16, e1_17, e1_20, e1_23, e1_26, e1_27, e1_30, e1_33, e1_36, e1_37, e1_38, e1_39, e1_42, e1_45, e1_46, e1_49, e1_52, e1_53, e1_56, e1_59, e1_62, e1_65, e1_66, e1_67, e1_70, e1_73, e1_74, c1, i10, i00, n2, n10, n20, n60, n8, n9, bi0, ite_not, List.replicate, Nat.reduceAdd, Nat.reduceSub, Nat.reduceLeDiff, Nat.reduceLT, if_true, if_false, mg, reduceIte, not_false_eq_true, eq_self, and_self, and_true, true_and, true_or, or_true, Nat.reduceEqDiff, rw0]
