/-! told singing -/
def soT (N : Nat → Int32) (n p : Nat) : Nat → Nat → (Nat → Int32) → Bool
  | 0, _, _ => true
  | k + 1, i, r => decide (N i = -1 ∨ N i = r p) && soT N n p k (i + 1) (dayR n r)
theorem soT_s (N : Nat → Int32) (n p k i : Nat) (r : Nat → Int32) : soT N n p (k + 1) i r = (decide (N i = -1 ∨ N i = r p) && soT N n p k (i + 1) (dayR n r)) := rfl
theorem soT_c {N N' : Nat → Int32} {n p : Nat} (hn : n ≤ 8) (hp : p < 14 + 10 * n) : ∀ k i r r', (∀ j, j < i + k → N j = N' j) → ag n r r' → soT N n p k i r = soT N' n p k i r' := by
  intro k
  induction k with
  | zero => intro i r r' _ _; rfl
  | succ k ih =>
    intro i r r' h hA
    rw [soT_s, soT_s, ih (i + 1) _ _ (fun j hj => h j (by omega)) (ag_day hn hA), h i (by omega), hA p hp]
theorem bi_b {b : Bool} : bi (b = true) = if b then nI 1 else nI 0 := by cases b <;> rfl
/-- the live class's check, from the second number on -/
theorem l_told {X : aX} {q : Nat → Nat → Int32} {n m s i j : Nat} {v : Int32} (hn : n ≤ 8) (hm : m ≤ 40) (hs : s < 4) (hi : i < n) : ∀ k t r D b, t + k = m → D (10, s, 0) 2 = nI m → r 1 = nI n → nl b = true → ∃ r1 D1, eqJ D D1 ∧ go X 107 47 [some (aR (0, 0, 0)), some (aR (10, s, 0)), some (aI (nI i)), some (aI (nI j)), some (aI v), some (aI (nI t)), b] [] (mem (rq q 1 r, D)) = (if t < m then some (some (aI (bi (soT (fun y => D (11, s, 0) y) n (14 + 10 * i + 7) k t r = true))), mem (rq q 1 r1, D1)) else go X 107 47 [some (aR (0, 0, 0)), some (aR (10, s, 0)), some (aI (nI i)), some (aI (nI j)), some (aI v), some (aI (nI t)), b] [] (mem (rq q 1 r, D))) := by
  intro k
  induction k with
  | zero =>
    intro t r D b h hD hr hb
    refine ⟨r, D, eqJ_rfl D, ?_⟩
    rw [if_neg (by omega)]
  | succ k ih =>
    intro t r D b h hD hr hb
    have ht40 : t < 40 := by omega
    have htm : t < m := by omega
    have tl := t_look (X := X) (S := (rq q 1 r, D)) (a := 1) (j := 7) (by decide) hn hi (by decide) (at_r hr)
    rw [lk_f (by decide), show (rq q 1 r, D).1 1 = r from rfl] at tl
    by_cases c : D (11, s, 0) t = -1 ∨ D (11, s, 0) t = r (14 + 10 * i + 7)
    · -- goes on
      by_cases ce : t + 1 < m
      · obtain ⟨D', hD', hd⟩ := t_days (X := X) (q := q) (r := r) (D := D) (a := 1) (c := 1) (by decide) hn (by decide) hr
        rw [show itr (dayR n) 1 r = dayR n r from rfl] at hd
        have hD2 : D' (10, s, 0) 2 = nI m := (hD' (10, s, 0) 2 (nj (by simp))).trans hD
        have e11 : ∀ y, D' (11, s, 0) y = D (11, s, 0) y := fun y => hD' _ _ (nj (by simp))
        obtain ⟨r1, D1, hD1, h1⟩ := ih (t + 1) (dayR n r) D' (some (aI (D (11, s, 0) t))) (by omega) hD2 ((day_1 ..).trans hr) rfl
        rw [if_pos ce] at h1
        simp only [e11] at h1
        refine ⟨r1, D1, eqJ_tr hD' hD1, ?_⟩
        rw [if_pos htm, soT_s, show decide (D (11, s, 0) t = -1 ∨ D (11, s, 0) t = r (14 + 10 * i + 7)) = true from decide_eq_true c, Bool.true_and, ← h1, e107_47]
        have hg : go X 107 25 [some (aR (0, 0, 0)), some (aR (10, s, 0)), some (aI (nI i)), some (aI (nI j)), some (aI v), some (aI (nI (t + 1))), some (aI (D (11, s, 0) t))] [] (mem (rq q 1 r, D)) = go X 107 47 [some (aR (0, 0, 0)), some (aR (10, s, 0)), some (aI (nI i)), some (aI (nI j)), some (aI v), some (aI (nI (t + 1))), some (aI (D (11, s, 0) t))] [] (mem (rq q 1 (dayR n r), D')) := by
          have h0 : (0 : Int32) < nI (t + 1) := by rw [← nI_0]; exact nI_lt (by omega) (by omega)
          simp only [nl_n, nl_i, nl_r, x_ci, x_ca, x_bin, x_ife, x_ifl, x_ifg, x_cme, x_cml, x_cmg, x_go, x_no, x_b, x_ps, x_pn, cs_n, cs_i, cs_j, cs_r, en_n, en_i, en_j, en_r, xa0, g_0_1, g_0_0, x_k2_1, xi2, xi3, xi4, x_k4_1, xs5n, xs5i, xs5r, xi5, xa1, g_10_2, g_10_0, l_3, l_5, l_8, l_11, l_12, l_21, l_22, l_23, l_24, l_25, l_26, l_28, l_29, l_30, l_31, l_32, xs6n, xs6i, xs6r, xi6, x_k3_1, r_i, r_j, r_v, r_z1, r_z0, r_a, xn5n, xn5i, xn5r, e107_0, e107_1, e107_4, e107_5, e107_8, e107_11, e107_12, e107_15, e107_16, e107_17, e107_19, e107_22, e107_23, e107_25, e107_27, e107_28, e107_31, e107_34, e107_36, e107_39, e107_40, e107_43, e107_44, e107_48, e107_51, e107_53, e107_54, e107_56, e107_58, e107_59, e107_62, e107_64, e107_65, e107_68, e107_69, e107_71, e107_74, e107_77, e107_78, e107_79, e107_82, e107_85, e107_86, c107, i10, i00, n2, n10, n20, n60, n8, n9, bi0, ite_not, List.replicate, Nat.reduceAdd, Nat.reduceSub, Nat.reduceLeDiff, Nat.reduceLT, if_true, if_false, mg, reduceIte, not_false_eq_true, eq_self, and_self, and_true, true_and, true_or, or_true, Nat.reduceEqDiff, hs, hD, (nI_lt ce (by omega)), h0, hd]
        simp only [nl_n, nl_i, nl_r, x_ci, x_ca, x_bin, x_ife, x_ifl, x_ifg, x_cme, x_cml, x_cmg, x_go, x_no, x_b, x_ps, x_pn, cs_n, cs_i, cs_j, cs_r, en_n, en_i, en_j, en_r, xa0, g_0_1, g_0_0, x_k2_1, xi2, xi3, xi4, x_k4_1, xs5n, xs5i, xs5r, xi5, xa1, g_10_2, g_10_0, l_3, l_5, l_8, l_11, l_12, l_21, l_22, l_23, l_24, l_25, l_26, l_28, l_29, l_30, l_31, l_32, xs6n, xs6i, xs6r, xi6, x_k3_1, r_i, r_j, r_v, r_z1, r_z0, r_a, xn5n, xn5i, xn5r, e107_0, e107_1, e107_4, e107_5, e107_8, e107_11, e107_12, e107_15, e107_16, e107_17, e107_19, e107_22, e107_23, e107_27, e107_28, e107_31, e107_34, e107_36, e107_39, e107_40, e107_43, e107_44, e107_48, e107_51, e107_53, e107_54, e107_56, e107_58, e107_59, e107_62, e107_64, e107_65, e107_68, e107_69, e107_71, e107_74, e107_77, e107_78, e107_79, e107_82, e107_85, e107_86, c107, i10, i00, n2, n10, n20, n60, n8, n9, bi0, ite_not, List.replicate, Nat.reduceAdd, Nat.reduceSub, Nat.reduceLeDiff, Nat.reduceLT, if_true, if_false, mg, reduceIte, not_false_eq_true, eq_self, and_self, and_true, true_and, true_or, or_true, Nat.reduceEqDiff, hs, ht40, tl, nI_add]
        by_cases c1 : D (11, s, 0) t = -1
        · rw [if_pos c1]
          exact hg
        · rw [if_neg c1, if_pos (c.resolve_left c1)]
          exact hg
      · have ek : k = 0 := by omega
        subst ek
        refine ⟨r, D, eqJ_rfl D, ?_⟩
        rw [if_pos htm, soT_s, show decide (D (11, s, 0) t = -1 ∨ D (11, s, 0) t = r (14 + 10 * i + 7)) = true from decide_eq_true c, Bool.true_and, show soT (fun y => D (11, s, 0) y) n (14 + 10 * i + 7) 0 (t + 1) (dayR n r) = true from rfl, bi_t rfl, e107_47]
        have hg : ∀ b, go X 107 25 [some (aR (0, 0, 0)), some (aR (10, s, 0)), some (aI (nI i)), some (aI (nI j)), some (aI v), some (aI (nI (t + 1))), b] [] (mem (rq q 1 r, D)) = some (some (aI (nI 1)), mem (rq q 1 r, D)) := by
          intro b
          simp only [nl_n, nl_i, nl_r, x_ci, x_ca, x_bin, x_ife, x_ifl, x_ifg, x_cme, x_cml, x_cmg, x_go, x_no, x_b, x_ps, x_pn, cs_n, cs_i, cs_j, cs_r, en_n, en_i, en_j, en_r, xa0, g_0_1, g_0_0, x_k2_1, xi2, xi3, xi4, x_k4_1, xs5n, xs5i, xs5r, xi5, xa1, g_10_2, g_10_0, l_3, l_5, l_8, l_11, l_12, l_21, l_22, l_23, l_24, l_25, l_26, l_28, l_29, l_30, l_31, l_32, xs6n, xs6i, xs6r, xi6, x_k3_1, r_i, r_j, r_v, r_z1, r_z0, r_a, xn5n, xn5i, xn5r, e107_0, e107_1, e107_4, e107_5, e107_8, e107_11, e107_12, e107_15, e107_16, e107_17, e107_19, e107_22, e107_23, e107_25, e107_27, e107_28, e107_31, e107_34, e107_36, e107_39, e107_40, e107_43, e107_44, e107_48, e107_51, e107_53, e107_54, e107_56, e107_58, e107_59, e107_62, e107_64, e107_65, e107_68, e107_69, e107_71, e107_74, e107_77, e107_78, e107_79, e107_82, e107_85, e107_86, c107, i10, i00, n2, n10, n20, n60, n8, n9, bi0, ite_not, List.replicate, Nat.reduceAdd, Nat.reduceSub, Nat.reduceLeDiff, Nat.reduceLT, if_true, if_false, mg, reduceIte, not_false_eq_true, eq_self, and_self, and_true, true_and, true_or, or_true, Nat.reduceEqDiff, hs, hD, (nI_nlt (show m ≤ t + 1 by omega) (show t + 1 < 2 ^ 31 by omega))]
        simp only [nl_n, nl_i, nl_r, x_ci, x_ca, x_bin, x_ife, x_ifl, x_ifg, x_cme, x_cml, x_cmg, x_go, x_no, x_b, x_ps, x_pn, cs_n, cs_i, cs_j, cs_r, en_n, en_i, en_j, en_r, xa0, g_0_1, g_0_0, x_k2_1, xi2, xi3, xi4, x_k4_1, xs5n, xs5i, xs5r, xi5, xa1, g_10_2, g_10_0, l_3, l_5, l_8, l_11, l_12, l_21, l_22, l_23, l_24, l_25, l_26, l_28, l_29, l_30, l_31, l_32, xs6n, xs6i, xs6r, xi6, x_k3_1, r_i, r_j, r_v, r_z1, r_z0, r_a, xn5n, xn5i, xn5r, e107_0, e107_1, e107_4, e107_5, e107_8, e107_11, e107_12, e107_15, e107_16, e107_17, e107_19, e107_22, e107_23, e107_27, e107_28, e107_31, e107_34, e107_36, e107_39, e107_40, e107_43, e107_44, e107_48, e107_51, e107_53, e107_54, e107_56, e107_58, e107_59, e107_62, e107_64, e107_65, e107_68, e107_69, e107_71, e107_74, e107_77, e107_78, e107_79, e107_82, e107_85, e107_86, c107, i10, i00, n2, n10, n20, n60, n8, n9, bi0, ite_not, List.replicate, Nat.reduceAdd, Nat.reduceSub, Nat.reduceLeDiff, Nat.reduceLT, if_true, if_false, mg, reduceIte, not_false_eq_true, eq_self, and_self, and_true, true_and, true_or, or_true, Nat.reduceEqDiff, hs, ht40, tl, nI_add]
        by_cases c1 : D (11, s, 0) t = -1
        · rw [if_pos c1]
          exact hg _
        · rw [if_neg c1, if_pos (c.resolve_left c1)]
          exact hg _
    · refine ⟨r, D, eqJ_rfl D, ?_⟩
      have c1 : ¬ D (11, s, 0) t = -1 := fun w => c (Or.inl w)
      have c2 : ¬ D (11, s, 0) t = r (14 + 10 * i + 7) := fun w => c (Or.inr w)
      rw [if_pos htm, soT_s, show decide (D (11, s, 0) t = -1 ∨ D (11, s, 0) t = r (14 + 10 * i + 7)) = false from decide_eq_false c, Bool.false_and, bi_f (by decide), e107_47]
      simp only [nl_n, nl_i, nl_r, x_ci, x_ca, x_bin, x_ife, x_ifl, x_ifg, x_cme, x_cml, x_cmg, x_go, x_no, x_b, x_ps, x_pn, cs_n, cs_i, cs_j, cs_r, en_n, en_i, en_j, en_r, xa0, g_0_1, g_0_0, x_k2_1, xi2, xi3, xi4, x_k4_1, xs5n, xs5i, xs5r, xi5, xa1, g_10_2, g_10_0, l_3, l_5, l_8, l_11, l_12, l_21, l_22, l_23, l_24, l_25, l_26, l_28, l_29, l_30, l_31, l_32, xs6n, xs6i, xs6r, xi6, x_k3_1, r_i, r_j, r_v, r_z1, r_z0, r_a, xn5n, xn5i, xn5r, e107_0, e107_1, e107_4, e107_5, e107_8, e107_11, e107_12, e107_15, e107_16, e107_17, e107_19, e107_22, e107_23, e107_27, e107_28, e107_31, e107_34, e107_36, e107_39, e107_40, e107_43, e107_44, e107_48, e107_51, e107_53, e107_54, e107_56, e107_58, e107_59, e107_62, e107_64, e107_65, e107_68, e107_69, e107_71, e107_74, e107_77, e107_78, e107_79, e107_82, e107_85, e107_86, c107, i10, i00, n2, n10, n20, n60, n8, n9, bi0, ite_not, List.replicate, Nat.reduceAdd, Nat.reduceSub, Nat.reduceLeDiff, Nat.reduceLT, if_true, if_false, mg, reduceIte, not_false_eq_true, eq_self, and_self, and_true, true_and, true_or, or_true, Nat.reduceEqDiff, hs, ht40, tl, c1, c2]
theorem t_isAsTold {X : aX} {S : aS} {n m s i j : Nat} {v : Int32} (hn : n ≤ 8) (hm : m ≤ 40) (hs : s < 4) (hi : i < n) (hj : j < 10) (hz : S.1 0 1 = nI n) (h2 : S.2 (10, s, 0) 2 = nI m) : ∃ S', kx S S' ∧ cl X 107 [aR (0, 0, 0), aR (10, s, 0), aI (nI i), aI (nI j), aI v] (mem S) = some (some (aI (bi (soT (fun y => S.2 (11, s, 0) y) n (14 + 10 * i + 7) m 0 (upd (S.1 0) (14 + 10 * i + j) v) = true))), mem S') := by
  have hm0 := ag_mix n (S.1 1) (S.1 0)
  have h0 := t_becS (X := X) (S := S) (a := 1) (a2 := 0) (by decide) (by decide) (by decide) hn hz
  have hz1 : mixR n (S.1 1) (S.1 0) 1 = nI n := (hm0 1 (by omega)).trans hz
  generalize mixR n (S.1 1) (S.1 0) = t0 at hm0 h0 hz1
  have h1 := t_put (X := X) (S := (rq S.1 1 t0, S.2)) (a := 1) (v := v) (by decide) hn hi hj hz1
  have hz2 : upd t0 (14 + 10 * i + j) v 1 = nI n := (u_1 ..).trans hz1
  rw [← soT_c hn (show 14 + 10 * i + 7 < 14 + 10 * n by omega) m 0 (upd t0 (14 + 10 * i + j) v) _ (fun _ _ => rfl) (ag_u hm0 rfl)]
  by_cases c : m = 0
  · subst c
    refine ⟨(rq S.1 1 (upd t0 (14 + 10 * i + j) v), S.2), ⟨eqJ_rfl _, fun a ha => rq_ne ha⟩, ?_⟩
    rw [show soT (fun y => S.2 (11, s, 0) y) n (14 + 10 * i + 7) 0 0 (upd t0 (14 + 10 * i + j) v) = true from rfl, bi_t rfl]
    simp only [nl_n, nl_i, nl_r, x_ci, x_ca, x_bin, x_ife, x_ifl, x_ifg, x_cme, x_cml, x_cmg, x_go, x_no, x_b, x_ps, x_pn, cs_n, cs_i, cs_j, cs_r, en_n, en_i, en_j, en_r, xa0, g_0_1, g_0_0, x_k2_1, xi2, xi3, xi4, x_k4_1, xs5n, xs5i, xs5r, xi5, xa1, g_10_2, g_10_0, l_3, l_5, l_8, l_11, l_12, l_21, l_22, l_23, l_24, l_25, l_26, l_28, l_29, l_30, l_31, l_32, xs6n, xs6i, xs6r, xi6, x_k3_1, r_i, r_j, r_v, r_z1, r_z0, r_a, xn5n, xn5i, xn5r, e107_0, e107_1, e107_4, e107_5, e107_8, e107_11, e107_12, e107_15, e107_16, e107_17, e107_19, e107_22, e107_23, e107_25, e107_27, e107_28, e107_31, e107_34, e107_36, e107_39, e107_40, e107_43, e107_44, e107_47, e107_48, e107_51, e107_53, e107_54, e107_56, e107_58, e107_59, e107_62, e107_64, e107_65, e107_68, e107_69, e107_71, e107_74, e107_77, e107_78, e107_79, e107_82, e107_85, e107_86, c107, i10, i00, n2, n10, n20, n60, n8, n9, bi0, ite_not, List.replicate, Nat.reduceAdd, Nat.reduceSub, Nat.reduceLeDiff, Nat.reduceLT, if_true, if_false, mg, reduceIte, not_false_eq_true, eq_self, and_self, and_true, true_and, true_or, or_true, Nat.reduceEqDiff, h0, h1, rq_rq, rq_at, hs, h2, (nI_nlt (Nat.le_refl 0) (show 0 < 2 ^ 31 by decide))]
  · obtain ⟨r1, D1, e1, h3⟩ := l_told (X := X) (q := S.1) (j := j) (v := v) hn hm hs hi m 0 (upd t0 (14 + 10 * i + j) v) S.2 none (by omega) h2 hz2 rfl
    rw [if_pos (by omega)] at h3
    refine ⟨(rq S.1 1 r1, D1), ⟨e1, fun a ha => rq_ne ha⟩, ?_⟩
    rw [← h3]
    have n0 : ¬ (0 : Int32) < nI 0 := by rw [nI_0]; decide
    simp only [nl_n, nl_i, nl_r, x_ci, x_ca, x_bin, x_ife, x_ifl, x_ifg, x_cme, x_cml, x_cmg, x_go, x_no, x_b, x_ps, x_pn, cs_n, cs_i, cs_j, cs_r, en_n, en_i, en_j, en_r, xa0, g_0_1, g_0_0, x_k2_1, xi2, xi3, xi4, x_k4_1, xs5n, xs5i, xs5r, xi5, xa1, g_10_2, g_10_0, l_3, l_5, l_8, l_11, l_12, l_21, l_22, l_23, l_24, l_25, l_26, l_28, l_29, l_30, l_31, l_32, xs6n, xs6i, xs6r, xi6, x_k3_1, r_i, r_j, r_v, r_z1, r_z0, r_a, xn5n, xn5i, xn5r, e107_0, e107_1, e107_4, e107_5, e107_8, e107_11, e107_12, e107_15, e107_16, e107_17, e107_19, e107_22, e107_23, e107_25, e107_27, e107_28, e107_31, e107_34, e107_36, e107_39, e107_40, e107_43, e107_44, e107_48, e107_51, e107_53, e107_54, e107_56, e107_58, e107_59, e107_62, e107_64, e107_65, e107_68, e107_69, e107_71, e107_74, e107_77, e107_78, e107_79, e107_82, e107_85, e107_86, c107, i10, i00, n2, n10, n20, n60, n8, n9, bi0, ite_not, List.replicate, Nat.reduceAdd, Nat.reduceSub, Nat.reduceLeDiff, Nat.reduceLT, if_true, if_false, mg, reduceIte, not_false_eq_true, eq_self, and_self, and_true, true_and, true_or, or_true, Nat.reduceEqDiff, h0, h1, rq_rq, rq_at, hs, h2, (nI_lt (show 0 < m by omega) (show m < 2 ^ 31 by omega)), n0]
theorem l_so {X : aX} {q : Nat → Nat → Int32} {n m s p : Nat} (hm : m ≤ 40) (hs : s < 4) (hp : p < 94) : ∀ k t r D (c : Prop) [Decidable c] b, t + k = m → D (30, 0, 0) s = nI m → RI n r → nl b = true → ∃ r1 D1, eqJ D D1 ∧ go X 173 16 [some (aR (20, 0, 0)), some (aI (nI s)), some (aI (nI p)), some (aI (bi c)), some (aI (nI t)), b] [] (mem (rq q 3 r, D)) = some (some (aI (bi (c ∧ soT (fun y => D (31, 0, 0) (40 * s + y)) n p k t r = true))), mem (rq q 3 (row94 r1 (q 5)), D1)) := by
  have e5 : ∀ (q : Nat → Nat → Int32) r, rq q 3 r 5 = q 5 := fun q r => rfl
  intro k
  induction k with
  | zero =>
    intro t r D c _ b h hD hr hb
    refine ⟨r, D, eqJ_rfl D, ?_⟩
    rw [bi_c (c := c ∧ soT (fun y => D (31, 0, 0) (40 * s + y)) n p 0 t r = true) (c' := c) ⟨fun w => w.1, fun w => ⟨w, rfl⟩⟩, e173_16]
    simp only [nl_n, nl_i, nl_r, x_ci, x_ca, x_bin, x_ife, x_ifl, x_ifg, x_cme, x_cml, x_cmg, x_go, x_no, x_b, x_ps, x_pn, cs_n, cs_i, cs_j, cs_r, en_n, en_i, en_j, en_r, xa0, g_20_0, g_20_2, x_k2_s, xs3n, xs3i, xs3r, xs4n, xs4i, xs4r, xi4, g_20_19, xi1, l_3, l_5, l_8, l_11, l_12, l_21, l_22, l_23, l_24, l_25, l_26, l_28, l_29, l_30, l_31, l_32, xi3, g_20_20, xs5n, xs5i, xs5r, xi5, xi2, x_k1_20, xn4n, xn4i, xn4r, r_i, r_j, r_v, r_z1, r_z0, r_a, e173_0, e173_1, e173_4, e173_5, e173_8, e173_11, e173_12, e173_13, e173_14, e173_18, e173_19, e173_22, e173_23, e173_24, e173_27, e173_28, e173_31, e173_32, e173_35, e173_37, e173_38, e173_39, e173_41, e173_42, e173_43, e173_45, e173_47, e173_48, e173_51, e173_53, e173_54, e173_57, e173_58, e173_59, e173_62, e173_63, e173_66, e173_67, e173_68, e173_69, e173_72, e173_75, e173_78, e173_79, e173_82, e173_83, e173_86, e173_89, e173_90, c173, i10, i00, n2, n10, n20, n60, n8, n9, bi0, ite_not, List.replicate, Nat.reduceAdd, Nat.reduceSub, Nat.reduceLeDiff, Nat.reduceLT, if_true, if_false, mg, reduceIte, not_false_eq_true, eq_self, and_self, and_true, true_and, true_or, or_true, Nat.reduceEqDiff, hs, hD, (nI_nlt (show m ≤ t by omega) (by omega)), t_back, rq_rq, rq_at, e5, biz]
  | succ k ih =>
    intro t r D c _ b h hD hr hb
    have hp2 : 40 * s + t < 160 := by omega
    by_cases cc : c
    · obtain ⟨D', hD', hd⟩ := t_day (X := X) (q := q) (r := r) (D := D) hr
      have hD2 : D' (30, 0, 0) s = nI m := (hD' (30, 0, 0) s (nj (by simp))).trans hD
      have e31 : ∀ y, D' (31, 0, 0) y = D (31, 0, 0) y := fun y => hD' _ _ (nj (by simp))
      obtain ⟨r1, D1, hD1, h1⟩ := ih (t + 1) (dayR n r) D' (D (31, 0, 0) (40 * s + t) = -1 ∨ D (31, 0, 0) (40 * s + t) = r p) (some (aI (D (31, 0, 0) (40 * s + t)))) (by omega) hD2 (RI_day hr) rfl
      simp only [e31] at h1
      refine ⟨r1, D1, eqJ_tr hD' hD1, ?_⟩
      rw [bi_c (c := c ∧ soT (fun y => D (31, 0, 0) (40 * s + y)) n p (k + 1) t r = true) (c' := (D (31, 0, 0) (40 * s + t) = -1 ∨ D (31, 0, 0) (40 * s + t) = r p) ∧ soT (fun y => D (31, 0, 0) (40 * s + y)) n p k (t + 1) (dayR n r) = true) (by rw [soT_s, Bool.and_eq_true, decide_eq_true_eq]; exact ⟨fun w => w.2, fun w => ⟨cc, w⟩⟩), ← h1, bi_t cc, e173_16]
      generalize hb2 : bi (D (31, 0, 0) (40 * s + t) = -1 ∨ D (31, 0, 0) (40 * s + t) = r p) = bb
      simp only [nl_n, nl_i, nl_r, x_ci, x_ca, x_bin, x_ife, x_ifl, x_ifg, x_cme, x_cml, x_cmg, x_go, x_no, x_b, x_ps, x_pn, cs_n, cs_i, cs_j, cs_r, en_n, en_i, en_j, en_r, xa0, g_20_0, g_20_2, x_k2_s, xs3n, xs3i, xs3r, xs4n, xs4i, xs4r, xi4, g_20_19, xi1, l_3, l_5, l_8, l_11, l_12, l_21, l_22, l_23, l_24, l_25, l_26, l_28, l_29, l_30, l_31, l_32, xi3, g_20_20, xs5n, xs5i, xs5r, xi5, xi2, x_k1_20, xn4n, xn4i, xn4r, r_i, r_j, r_v, r_z1, r_z0, r_a, e173_0, e173_1, e173_4, e173_5, e173_8, e173_11, e173_12, e173_13, e173_14, e173_18, e173_19, e173_22, e173_23, e173_24, e173_27, e173_28, e173_31, e173_32, e173_35, e173_37, e173_38, e173_39, e173_41, e173_42, e173_43, e173_45, e173_47, e173_48, e173_51, e173_53, e173_54, e173_57, e173_58, e173_59, e173_62, e173_63, e173_66, e173_67, e173_68, e173_69, e173_72, e173_75, e173_79, e173_82, e173_83, e173_86, e173_89, e173_90, c173, i10, i00, n2, n10, n20, n60, n8, n9, bi0, ite_not, List.replicate, Nat.reduceAdd, Nat.reduceSub, Nat.reduceLeDiff, Nat.reduceLT, if_true, if_false, mg, reduceIte, not_false_eq_true, eq_self, and_self, and_true, true_and, true_or, or_true, Nat.reduceEqDiff, hs, hp, hD, hp2, (nI_lt (show t < m by omega) (by omega)), nI_mul, nI_add, rq_at, hd]
      rw [← hb2]
      by_cases c1 : D (31, 0, 0) (40 * s + t) = -1
      · rw [if_pos c1, bi_t (Or.inl c1)]
      · rw [if_neg c1]
        by_cases c2 : D (31, 0, 0) (40 * s + t) = r p
        · rw [if_pos c2, bi_t (Or.inr c2)]
        · rw [if_neg c2, bi_f (fun w => w.elim c1 c2)]
    · refine ⟨r, D, eqJ_rfl D, ?_⟩
      rw [bi_f (c := c ∧ soT (fun y => D (31, 0, 0) (40 * s + y)) n p (k + 1) t r = true) (fun w => cc w.1), bi_f cc, e173_16]
      simp only [nl_n, nl_i, nl_r, x_ci, x_ca, x_bin, x_ife, x_ifl, x_ifg, x_cme, x_cml, x_cmg, x_go, x_no, x_b, x_ps, x_pn, cs_n, cs_i, cs_j, cs_r, en_n, en_i, en_j, en_r, xa0, g_20_0, g_20_2, x_k2_s, xs3n, xs3i, xs3r, xs4n, xs4i, xs4r, xi4, g_20_19, xi1, l_3, l_5, l_8, l_11, l_12, l_21, l_22, l_23, l_24, l_25, l_26, l_28, l_29, l_30, l_31, l_32, xi3, g_20_20, xs5n, xs5i, xs5r, xi5, xi2, x_k1_20, xn4n, xn4i, xn4r, r_i, r_j, r_v, r_z1, r_z0, r_a, e173_0, e173_1, e173_4, e173_5, e173_8, e173_11, e173_12, e173_13, e173_14, e173_18, e173_19, e173_22, e173_23, e173_24, e173_27, e173_28, e173_31, e173_32, e173_35, e173_37, e173_38, e173_39, e173_41, e173_42, e173_43, e173_45, e173_47, e173_48, e173_51, e173_53, e173_54, e173_57, e173_58, e173_59, e173_62, e173_63, e173_66, e173_67, e173_68, e173_69, e173_72, e173_75, e173_78, e173_79, e173_82, e173_83, e173_86, e173_89, e173_90, c173, i10, i00, n2, n10, n20, n60, n8, n9, bi0, ite_not, List.replicate, Nat.reduceAdd, Nat.reduceSub, Nat.reduceLeDiff, Nat.reduceLT, if_true, if_false, mg, reduceIte, not_false_eq_true, eq_self, and_self, and_true, true_and, true_or, or_true, Nat.reduceEqDiff, hs, hD, (nI_lt (show t < m by omega) (by omega)), t_back, rq_rq, rq_at, e5]
theorem t_isSo {X : aX} {S : aS} {n m s p : Nat} (hm : m ≤ 40) (hs : s < 4) (hp : p < 94) (h2 : S.2 (30, 0, 0) s = nI m) (hr : RI n (S.1 3)) : ∃ S', kp S S' ∧ a94 (S'.1 3) (S.1 3) ∧ cl X 173 [aR (20, 0, 0), aI (nI s), aI (nI p)] (mem S) = some (some (aI (bi (soT (fun y => S.2 (31, 0, 0) (40 * s + y)) n p m 0 (S.1 3) = true))), mem S') := by
  obtain ⟨r1, D1, e1, h1⟩ := l_so (X := X) (q := rq S.1 5 (row94 (S.1 5) (S.1 3))) (n := n) hm hs hp m 0 (S.1 3) S.2 True none (by omega) h2 hr rfl
  rw [show rq (rq S.1 5 (row94 (S.1 5) (S.1 3))) 3 (S.1 3) = rq S.1 5 (row94 (S.1 5) (S.1 3)) by rw [rq_sw (by decide), rq_self], bi_t trivial, bi_c (c := True ∧ soT (fun y => S.2 (31, 0, 0) (40 * s + y)) n p m 0 (S.1 3) = true) (c' := soT (fun y => S.2 (31, 0, 0) (40 * s + y)) n p m 0 (S.1 3) = true) ⟨fun w => w.2, fun w => ⟨trivial, w⟩⟩] at h1
  refine ⟨(rq (rq S.1 5 (row94 (S.1 5) (S.1 3))) 3 (row94 r1 (row94 (S.1 5) (S.1 3))), D1), ⟨e1, fun a h3 h5 => ?_⟩, fun p hp => ?_, ?_⟩
  · show rq (rq S.1 5 _) 3 _ a = S.1 a
    rw [rq_ne h3, rq_ne h5]
  · show row94 _ (row94 _ _) p = _
    unfold row94
    rw [if_pos hp, if_pos hp]
  · simp only [nl_n, nl_i, nl_r, x_ci, x_ca, x_bin, x_ife, x_ifl, x_ifg, x_cme, x_cml, x_cmg, x_go, x_no, x_b, x_ps, x_pn, cs_n, cs_i, cs_j, cs_r, en_n, en_i, en_j, en_r, xa0, g_20_0, g_20_2, x_k2_s, xs3n, xs3i, xs3r, xs4n, xs4i, xs4r, xi4, g_20_19, xi1, l_3, l_5, l_8, l_11, l_12, l_21, l_22, l_23, l_24, l_25, l_26, l_28, l_29, l_30, l_31, l_32, xi3, g_20_20, xs5n, xs5i, xs5r, xi5, xi2, x_k1_20, xn4n, xn4i, xn4r, r_i, r_j, r_v, r_z1, r_z0, r_a, e173_0, e173_1, e173_4, e173_5, e173_8, e173_11, e173_12, e173_13, e173_14, e173_18, e173_19, e173_22, e173_23, e173_24, e173_27, e173_28, e173_31, e173_32, e173_35, e173_37, e173_38, e173_39, e173_41, e173_42, e173_43, e173_45, e173_47, e173_48, e173_51, e173_53, e173_54, e173_57, e173_58, e173_59, e173_62, e173_63, e173_66, e173_67, e173_68, e173_69, e173_72, e173_75, e173_78, e173_79, e173_82, e173_83, e173_86, e173_89, e173_90, c173, i10, i00, n2, n10, n20, n60, n8, n9, bi0, ite_not, List.replicate, Nat.reduceAdd, Nat.reduceSub, Nat.reduceLeDiff, Nat.reduceLT, if_true, if_false, mg, reduceIte, not_false_eq_true, eq_self, and_self, and_true, true_and, true_or, or_true, Nat.reduceEqDiff, t_aside]
    exact h1
