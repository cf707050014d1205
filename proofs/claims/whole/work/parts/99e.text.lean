/-! A SQUARE FROM A TEXT -/
theorem eqJ_uu {D D' : aD} {r : aL} {k : Nat} {x : Int32} (h : eqJ D D') : eqJ (uD D r k x) (uD D' r k x) := by
  intro r' k' hj
  unfold uD
  split
  · rfl
  · exact h r' k' hj
theorem rs_neg {o : Bool × tT × List (Nat → Int32)} (h : ¬ o.1 = true) (hp : o.2.1.1 ≤ 120) : rsP 0 o < 0 := by
  unfold rsP
  rw [if_neg h]
  generalize o.2.1.1 = p at hp
  revert p
  decide +kernel
theorem rs_pos {o : Bool × tT × List (Nat → Int32)} (h : o.1 = true) (hl : o.2.2.length ≤ 120) : ¬ rsP 0 o < 0 := by
  unfold rsP
  rw [if_pos h]
  exact nI_pos (by omega)
theorem t_text6 {X : aX} {q : Nat → Nat → Int32} {D : aD} {b r : Nat → Int32} {t n : Nat} (h : tpO D b t) (hr : RI n r) : ∃ D', eqJ (uD D (20, 0, 0) 8 (nI 0)) D' ∧ cl X 195 [aR (20, 0, 0)] (mem (rq q 3 r, D)) = some (some (aI (rsP 0 (prT b t 120 n (tk0T b t)))), mem (rq q 3 (if (prT b t 120 n (tk0T b t)).1 = true then apL n (prT b t 120 n (tk0T b t)).2.2 r else r), D')) ∧ ((prT b t 120 n (tk0T b t)).1 = true → (prT b t 120 n (tk0T b t)).2.2.length ≤ 120) := by
  have hn := hr.1
  have hz := hr.2.1
  obtain ⟨τ', m', s', it', g1, g2⟩ := l_txt6 (X := X) (q := rq q 3 r) h 120 n (tk0T b t) 0 (D (28, 0, 0)) cn_0 hn (by omega) (by omega)
  have po := pr_ok 120 n (tk0T b t) (cn_0 (b := b) (t := t)) hn
  have tk : ∀ p k v, cl X 186 [aR (20, 0, 0)] (mem (rq q 3 r, mwD D p (nI 0) k v (nI 0) (nI 0) (nI n) (D (28, 0, 0)))) = some (none, mem (rq q 3 r, mwT D (tk0T b t) (nI 0) (nI 0) (nI n) (D (28, 0, 0)))) := fun p k v => t_tok6 h (Nat.zero_le t)
  have e67 : ∀ M, go X 195 29 [some (aR (20, 0, 0)), none] [] (mem M) = go X 195 67 [some (aR (20, 0, 0)), none] [] (mem M) := by
    intro M
    rw [e195_29, e195_67]
    simp only [nl_n, nl_i, nl_r, x_ci, x_ca, x_bin, x_ife, x_ifl, x_ifg, x_cme, x_cml, x_cmg, x_go, x_no, x_b, x_ps, x_pn, cs_n, cs_i, cs_j, cs_r, en_n, en_i, en_j, en_r, xa0, p_20_10, p_20_13, p_20_16, g_20_0, l_3, l_5, l_8, l_11, l_12, l_21, l_22, l_23, l_24, l_25, l_26, l_28, l_29, l_30, l_31, l_32, p_20_17, x_k1_20, g_20_13, g_20_11, g_20_7, g_20_9, x_k2_20, p_20_8, r_i, r_j, r_v, r_z1, r_z0, r_a, xs1n, xs1i, xs1r, xi1, g_20_16, xn1n, xn1i, xn1r, e195_0, e195_1, e195_2, e195_5, e195_6, e195_7, e195_10, e195_11, e195_12, e195_15, e195_16, e195_17, e195_20, e195_21, e195_22, e195_25, e195_26, e195_30, e195_34, e195_37, e195_40, e195_41, e195_44, e195_45, e195_48, e195_49, e195_52, e195_53, e195_56, e195_57, e195_59, e195_62, e195_63, e195_64, e195_68, e195_71, e195_74, e195_75, e195_76, e195_79, e195_82, e195_83, e195_86, e195_87, e195_90, e195_91, e195_92, e195_95, e195_96, e195_99, e195_102, e195_103, e195_104, e195_107, e195_108, e195_109, e195_110, e195_112, e195_113, e195_116, e195_119, e195_120, e195_122, e195_123, e195_124, e195_127, e195_130, e195_133, e195_134, e195_137, c195, i10, i00, n2, n10, n20, n60, n8, n9, bi0, ite_not, List.replicate, Nat.reduceAdd, Nat.reduceSub, Nat.reduceLeDiff, Nat.reduceLT, if_true, if_false, mg, reduceIte, not_false_eq_true, eq_self, and_self, and_true, true_and, true_or, or_true, Nat.reduceEqDiff]
  have st : cl X 195 [aR (20, 0, 0)] (mem (rq q 3 r, D)) = go X 195 67 [some (aR (20, 0, 0)), none] [] (mem (rq q 3 r, mwT D (tk0T b t) (nI 0) (nI 0) (nI n) (D (28, 0, 0)))) := by
    rw [← e67]
    have e : mem (rq q 3 r, D) = mem (rq q 3 r, mwD D (D (20, 0, 0) 9) (D (20, 0, 0) 10) (D (20, 0, 0) 11) (D (20, 0, 0) 12) (D (20, 0, 0) 13) (D (20, 0, 0) 16) (D (20, 0, 0) 17) (D (28, 0, 0))) := by rw [mw_self]
    rw [e]
    simp only [nl_n, nl_i, nl_r, x_ci, x_ca, x_bin, x_ife, x_ifl, x_ifg, x_cme, x_cml, x_cmg, x_go, x_no, x_b, x_ps, x_pn, cs_n, cs_i, cs_j, cs_r, en_n, en_i, en_j, en_r, xa0, p_20_10, p_20_13, p_20_16, g_20_0, l_3, l_5, l_8, l_11, l_12, l_21, l_22, l_23, l_24, l_25, l_26, l_28, l_29, l_30, l_31, l_32, p_20_17, x_k1_20, g_20_13, g_20_11, g_20_7, g_20_9, x_k2_20, p_20_8, r_i, r_j, r_v, r_z1, r_z0, r_a, xs1n, xs1i, xs1r, xi1, g_20_16, xn1n, xn1i, xn1r, e195_0, e195_1, e195_2, e195_5, e195_6, e195_7, e195_10, e195_11, e195_12, e195_15, e195_16, e195_17, e195_20, e195_21, e195_22, e195_25, e195_26, e195_30, e195_34, e195_37, e195_40, e195_41, e195_44, e195_45, e195_48, e195_49, e195_52, e195_53, e195_56, e195_57, e195_59, e195_62, e195_63, e195_64, e195_68, e195_71, e195_74, e195_75, e195_76, e195_79, e195_82, e195_83, e195_86, e195_87, e195_90, e195_91, e195_92, e195_95, e195_96, e195_99, e195_102, e195_103, e195_104, e195_107, e195_108, e195_109, e195_110, e195_112, e195_113, e195_116, e195_119, e195_120, e195_122, e195_123, e195_124, e195_127, e195_130, e195_133, e195_134, e195_137, c195, i10, i00, n2, n10, n20, n60, n8, n9, bi0, ite_not, List.replicate, Nat.reduceAdd, Nat.reduceSub, Nat.reduceLeDiff, Nat.reduceLT, if_true, if_false, mg, reduceIte, not_false_eq_true, eq_self, and_self, and_true, true_and, true_or, or_true, Nat.reduceEqDiff, mw_u10, mw_u13, mw_u16, mw_u17, rq_at, hz, tk]
  rw [st, g1]
  generalize prT b t 120 n (tk0T b t) = P at *
  by_cases c : P.1 = true
  · obtain ⟨g3, g4, g5⟩ := g2 c
    refine ⟨mwT (uD D (20, 0, 0) 8 (nI 0)) τ' (nI 0) (nI (0 + P.2.2.length)) s' it', mw_eqJ, ?_, fun _ => by omega⟩
    rw [if_pos c, if_pos c]
    have la := l_app (X := X) (q := q) (D := uD D (20, 0, 0) 8 (nI 0)) (τ := τ') (w := nI 0) (s := s') (it := it') (m := 0 + P.2.2.length) g3 P.2.2 0 n r rfl g5 hr po.2.1
    rw [la]
    unfold rsP
    rw [if_pos c]
  · refine ⟨mwT (uD D (20, 0, 0) 8 (nI 0)) τ' (nI 1) m' s' it', mw_eqJ, ?_, fun w => absurd w c⟩
    rw [if_neg c, if_neg c]
    unfold rsP
    rw [if_neg c]
theorem o_text {X : aX} {S : aS} (hJ : J S) : opK X 88 195 [] S := by
  obtain ⟨⟨n, hR, hA⟩, hK, hD⟩ := id hJ
  have hR3 := ag_RI hA hR
  have hn := hR.1
  have hz := hR.2.1
  have hz3 := hR3.2.1
  obtain ⟨t, ht, t1, t2, t3⟩ := hD.2.1
  have hmx : ag n (S.1 0) (mixR n (S.1 1) (S.1 0)) := ag_sym (ag_mix n (S.1 1) (S.1 0))
  have hR1 : RI n (mixR n (S.1 1) (S.1 0)) := ag_RI hmx hR
  have tb := t_become (X := X) (q := S.1) (D := S.2) (a := 1) (a2 := 0) (r := S.1 1) (by decide) (by decide) (by decide) hn hz
  rw [rq_self] at tb
  obtain ⟨r', a1, a2⟩ := t_all5 (X := X) (q := S.1) (D := S.2) (t := t) ⟨ht, t1⟩ hR1
  have cn := (pr_ok 120 n (tk0T (S.2 (8, 0, 0)) t) (cn_0 (b := S.2 (8, 0, 0)) (t := t)) hn)
  have hto : ∀ τ, tpO (uD (twT S.2 τ) (7, 0, 0) 1 (nI 0)) (S.2 (8, 0, 0)) t := fun τ => ⟨ht, by
    rw [uD_c (by decide), show twT S.2 τ (20, 0, 0) 8 = S.2 (20, 0, 0) 8 from tw_eqJ _ _ (nj (by simp))]; exact t2, fun j hj => ⟨by
    rw [uD_c (by decide), show twT S.2 τ (26, 0, 0) j = S.2 (26, 0, 0) j from tw_eqJ _ _ (nj (by simp))]; exact (t3 j hj).1.symm, (t3 j hj).2⟩⟩
  have hJD : ∀ τ D', eqJ (uD (uD (twT S.2 τ) (7, 0, 0) 1 (nI 0)) (20, 0, 0) 8 (nI 0)) D' → JD D' ∧ S.2 (0, 0, 0) 6 = D' (0, 0, 0) 6 := by
    intro τ D' he
    have e1 : eqJ (uD (uD S.2 (7, 0, 0) 1 (nI 0)) (20, 0, 0) 8 (nI 0)) D' := eqJ_tr (eqJ_uu (eqJ_uu tw_eqJ)) he
    refine ⟨JD_c e1 (JD_t hD), ?_⟩
    rw [e1 (0, 0, 0) 6 (nj (by simp)), uD_c (by decide), uD_c (by decide)]
  generalize hP : prT (S.2 (8, 0, 0)) t 120 n (tk0T (S.2 (8, 0, 0)) t) = P at *
  by_cases c : P.1 = true
  · have er := a2 c
    have ap := apL_ok P.2.2 n (mixR n (S.1 1) (S.1 0)) (S.1 3) hR1 (ag_tr (ag_mix n (S.1 1) (S.1 0)) hA) cn.2.1
    rw [← er] at ap
    have t6 := t_text6 (X := X) (q := rq (rq S.1 1 r') 0 (mixR (szL n P.2.2) (S.1 0) r')) (r := S.1 3) (hto P.2.1) hR3
    rw [hP] at t6
    obtain ⟨D', d1, d2, d3⟩ := t6
    have q3 : rq (rq (rq S.1 1 r') 0 (mixR (szL n P.2.2) (S.1 0) r')) 3 (S.1 3) = rq (rq S.1 1 r') 0 (mixR (szL n P.2.2) (S.1 0) r') := by
      rw [rq_sw (by decide), rq_sw (a := 1) (b := 3) (by decide), rq_self]
    rw [q3, if_pos c] at d2
    have tb2 := fun D => t_become (X := X) (q := rq S.1 1 r') (D := D) (a := 0) (a2 := 1) (n := szL n P.2.2) (r := rq S.1 1 r' 0) (by decide) (by decide) (by decide) ap.1.1 (by rw [rq_at]; exact ap.1.2.1)
    simp only [rq_self, rq_at] at tb2
    rw [show rq S.1 1 r' 0 = S.1 0 from rq_ne (by decide)] at tb2
    have np := rs_pos c (d3 c)
    have jd := hJD P.2.1 D' d1
    refine ⟨aI (rsP 0 P), (rq (rq S.1 1 r') 0 (mixR (szL n P.2.2) (S.1 0) r'), uD (twT S.2 P.2.1) (7, 0, 0) 1 (nI 0)), (rq (rq (rq S.1 1 r') 0 (mixR (szL n P.2.2) (S.1 0) r')) 3 (apL n P.2.2 (S.1 3)), D'), ?_, d2, ⟨szL n P.2.2, ?_, ?_⟩, ?_, jd.1⟩
    · simp only [nl_n, nl_i, nl_r, x_ci, x_ca, x_bin, x_ife, x_ifl, x_ifg, x_cme, x_cml, x_cmg, x_go, x_no, x_b, x_ps, x_pn, cs_n, cs_i, cs_j, cs_r, en_n, en_i, en_j, en_r, xa0, g_0_1, g_0_0, x_k2_1, g_0_3, x_k2_6, xs1n, xs1i, xs1r, g_6_0, p_7_1, xi1, r_i, r_j, r_v, r_z1, r_z0, r_a, e88_0, e88_1, e88_4, e88_5, e88_8, e88_11, e88_12, e88_15, e88_16, e88_19, e88_22, e88_23, e88_24, e88_27, e88_30, e88_31, e88_34, e88_35, e88_38, e88_39, e88_42, e88_43, e88_46, e88_49, e88_50, c88, i10, i00, n2, n10, n20, n60, n8, n9, bi0, ite_not, List.replicate, Nat.reduceAdd, Nat.reduceSub, Nat.reduceLeDiff, Nat.reduceLT, if_true, if_false, mg, reduceIte, not_false_eq_true, eq_self, and_self, and_true, true_and, true_or, or_true, Nat.reduceEqDiff, tb, a1, np, tb2]
    · show RI (szL n P.2.2) (rq (rq (rq S.1 1 r') 0 (mixR (szL n P.2.2) (S.1 0) r')) 3 (apL n P.2.2 (S.1 3)) 0)
      rw [rq_ne (by decide), rq_at]
      exact ag_RI (ag_sym (ag_mix _ _ _)) ap.1
    · show ag (szL n P.2.2) (rq (rq (rq S.1 1 r') 0 (mixR (szL n P.2.2) (S.1 0) r')) 3 (apL n P.2.2 (S.1 3)) 0) (rq (rq (rq S.1 1 r') 0 (mixR (szL n P.2.2) (S.1 0) r')) 3 (apL n P.2.2 (S.1 3)) 3)
      rw [rq_at, rq_ne (by decide), rq_at]
      exact ag_tr (ag_mix _ _ _) ap.2
    · intro w
      show ∃ k, RI k (rq (rq (rq S.1 1 r') 0 (mixR (szL n P.2.2) (S.1 0) r')) 3 (apL n P.2.2 (S.1 3)) 2) ∧ ag k (rq (rq (rq S.1 1 r') 0 (mixR (szL n P.2.2) (S.1 0) r')) 3 (apL n P.2.2 (S.1 3)) 2) (rq (rq (rq S.1 1 r') 0 (mixR (szL n P.2.2) (S.1 0) r')) 3 (apL n P.2.2 (S.1 3)) 4)
      rw [rq_ne (by decide), rq_ne (by decide), rq_ne (by decide), rq_ne (by decide), rq_ne (by decide), rq_ne (by decide)]
      exact hK (jd.2.trans w)
  · have t6 := t_text6 (X := X) (q := rq S.1 1 r') (r := S.1 3) (hto P.2.1) hR3
    rw [hP] at t6
    obtain ⟨D', d1, d2, d3⟩ := t6
    have q3 : rq (rq S.1 1 r') 3 (S.1 3) = rq S.1 1 r' := by
      rw [rq_sw (by decide), rq_self]
    rw [if_neg c, q3] at d2
    have hp := cn.1.1
    have np := rs_neg c (show P.2.1.1 ≤ 120 by have z1 := hp.1; have z2 := hp.2.1; omega)
    have jd := hJD P.2.1 D' d1
    refine ⟨aI (rsP 0 P), (rq S.1 1 r', uD (twT S.2 P.2.1) (7, 0, 0) 1 (nI 0)), (rq S.1 1 r', D'), ?_, d2, ⟨n, ?_, ?_⟩, ?_, jd.1⟩
    · simp only [nl_n, nl_i, nl_r, x_ci, x_ca, x_bin, x_ife, x_ifl, x_ifg, x_cme, x_cml, x_cmg, x_go, x_no, x_b, x_ps, x_pn, cs_n, cs_i, cs_j, cs_r, en_n, en_i, en_j, en_r, xa0, g_0_1, g_0_0, x_k2_1, g_0_3, x_k2_6, xs1n, xs1i, xs1r, g_6_0, p_7_1, xi1, r_i, r_j, r_v, r_z1, r_z0, r_a, e88_0, e88_1, e88_4, e88_5, e88_8, e88_11, e88_12, e88_15, e88_16, e88_19, e88_22, e88_23, e88_24, e88_27, e88_30, e88_31, e88_34, e88_35, e88_38, e88_39, e88_42, e88_43, e88_46, e88_49, e88_50, c88, i10, i00, n2, n10, n20, n60, n8, n9, bi0, ite_not, List.replicate, Nat.reduceAdd, Nat.reduceSub, Nat.reduceLeDiff, Nat.reduceLT, if_true, if_false, mg, reduceIte, not_false_eq_true, eq_self, and_self, and_true, true_and, true_or, or_true, Nat.reduceEqDiff, tb, a1, np]
    · show RI n (rq S.1 1 r' 0)
      rw [rq_ne (by decide)]
      exact hR
    · show ag n (rq S.1 1 r' 0) (rq S.1 1 r' 3)
      rw [rq_ne (by decide), rq_ne (by decide)]
      exact hA
    · intro w
      show ∃ n, RI n (rq S.1 1 r' 2) ∧ ag n (rq S.1 1 r' 2) (rq S.1 1 r' 4)
      rw [rq_ne (by decide), rq_ne (by decide)]
      exact hK (jd.2.trans w)
