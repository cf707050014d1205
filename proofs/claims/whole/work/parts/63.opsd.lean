/-! the same over a state that is not taken apart -/
theorem t_daysS {X : aX} {S : aS} {a n c : Nat} (ha : a < 3) (hn : n ≤ 8) (hc : c < 2 ^ 31) (hz : S.1 a 1 = nI n) : ∃ D', eqJ S.2 D' ∧ cl X 46 [aR (1, a, 0), aI (nI c)] (mem S) = some (none, mem (rq S.1 a (itr (dayR n) c (S.1 a)), D')) := by
  obtain ⟨D', h1, h2⟩ := t_days (X := X) (q := S.1) (r := S.1 a) (D := S.2) ha hn hc hz
  rw [rq_self] at h2
  exact ⟨D', h1, h2⟩
theorem t_becS {X : aX} {S : aS} {a a2 n : Nat} (ha : a < 3) (ha2 : a2 < 3) (hne : a2 ≠ a) (hn : n ≤ 8) (hz : S.1 a2 1 = nI n) : cl X 26 [aR (1, a, 0), aR (1, a2, 0)] (mem S) = some (none, mem (rq S.1 a (mixR n (S.1 a) (S.1 a2)), S.2)) := by
  have h := t_become (X := X) (q := S.1) (r := S.1 a) (D := S.2) ha ha2 hne hn hz
  rw [rq_self] at h
  exact h
theorem t_goS {X : aX} {S : aS} {n c : Nat} (hc : c < 2 ^ 31) (hr : RI n (S.1 3)) : ∃ D', eqJ S.2 D' ∧ cl X 147 [aR (20, 0, 0), aI (nI c)] (mem S) = some (none, mem (rq S.1 3 (itr (dayR n) c (S.1 3)), D')) := by
  obtain ⟨D', h1, h2⟩ := t_daysGo (X := X) (q := S.1) (r := S.1 3) (D := S.2) hc hr
  rw [rq_self] at h2
  exact ⟨D', h1, h2⟩
theorem t_dayS {X : aX} {S : aS} {n : Nat} (hr : RI n (S.1 3)) : ∃ D', eqJ S.2 D' ∧ cl X 146 [aR (20, 0, 0)] (mem S) = some (none, mem (rq S.1 3 (dayR n (S.1 3)), D')) := by
  obtain ⟨D', h1, h2⟩ := t_day (X := X) (q := S.1) (r := S.1 3) (D := S.2) hr
  rw [rq_self] at h2
  exact ⟨D', h1, h2⟩
theorem t_begS {X : aX} {S : aS} {i : Nat} (hi : i < 8) : cl X 139 [aR (20, 0, 0), aI (nI i)] (mem S) = some (some (aI (mn (lastF (S.1 3) i) (nI 99))), mem (rq S.1 3 (begF (S.1 3) i), S.2)) := by
  have h := t_begins (X := X) (q := S.1) (r := S.1 3) (D := S.2) hi
  rw [rq_self] at h
  exact h
theorem t_aside {X : aX} {S : aS} : cl X 116 [aR (21, 0, 0), aR (23, 0, 0)] (mem S) = some (none, mem (rq S.1 5 (row94 (S.1 5) (S.1 3)), S.2)) := by
  have h := t_cp02 (X := X) (q := S.1) (r' := S.1 5) (D := S.2)
  rw [rq_self] at h
  exact h
theorem t_back {X : aX} {S : aS} : cl X 116 [aR (23, 0, 0), aR (21, 0, 0)] (mem S) = some (none, mem (rq S.1 3 (row94 (S.1 3) (S.1 5)), S.2)) := by
  have h := t_cp20 (X := X) (q := S.1) (r' := S.1 3) (D := S.2)
  rw [rq_self] at h
  exact h
theorem t_putBack {X : aX} {S : aS} {v : Int32} : cl X 117 [aR (20, 0, 0), aI v] (mem S) = some (some (aI v), mem (rq S.1 3 (row94 (S.1 3) (S.1 5)), S.2)) := by
  simp only [nl_n, nl_i, nl_r, x_ci, x_ca, x_bin, x_ife, x_ifl, x_ifg, x_cme, x_cml, x_cmg, x_go, x_no, x_b, x_ps, x_pn, cs_n, cs_i, cs_j, cs_r, en_n, en_i, en_j, en_r, xa0, g_20_2, g_20_0, x_k2_s, xi1, r_i, r_j, r_v, r_z1, r_z0, r_a, e117_0, e117_1, e117_4, e117_5, e117_8, e117_11, e117_12, c117, i10, i00, n2, n10, n20, n60, n8, n9, bi0, ite_not, List.replicate, Nat.reduceAdd, Nat.reduceSub, Nat.reduceLeDiff, Nat.reduceLT, if_true, if_false, mg, reduceIte, not_false_eq_true, eq_self, and_self, and_true, true_and, true_or, or_true, Nat.reduceEqDiff, t_back]
theorem op_f4 {X : aX} {a b : Nat} {as : List aV} {S : aS} (hJ : J S) (hx : cl X a (aR (0, 0, 0) :: as) (mem S) = some (some (aI (-1000005)), mem (S.1, tlD 4 S.2))) (hm : cl X b (aR (20, 0, 0) :: as) (mem (S.1, tlD 4 S.2)) = some (some (aI (-1000005)), mem (S.1, fdD 4 (tlD 4 S.2)))) : opK X a b as S := op_fin (by decide) hJ hx hm
theorem o_answerers {X : aX} {S : aS} {x : Int32} (hJ : J S) : opK X 65 138 [aI x] S := by
  obtain ⟨⟨n, hR, hA⟩, hK, hD⟩ := id hJ
  have hR3 := ag_RI hA hR
  have hn := hR.1
  have hz := hR.2.1
  have hz3 := hR3.2.1
  by_cases c1 : hsP n x
  · refine op_eq hJ (v := setF (fun i => S.1 0 (14 + 10 * i + 2) = x) n) (v' := setF (fun i => S.1 3 (14 + 10 * i + 2) = x) n) ?_ ?_ (ag_setF hA (by decide))
    · simp only [nl_n, nl_i, nl_r, x_ci, x_ca, x_bin, x_ife, x_ifl, x_ifg, x_cme, x_cml, x_cmg, x_go, x_no, x_b, x_ps, x_pn, cs_n, cs_i, cs_j, cs_r, en_n, en_i, en_j, en_r, xa0, g_0_0, xi1, x_k2_1, x_k2_0, r_i, r_j, r_v, r_z1, r_z0, r_a, e65_0, e65_1, e65_4, e65_5, e65_8, e65_11, e65_12, e65_13, e65_16, e65_17, e65_18, e65_21, e65_22, e65_25, c65, i10, i00, n2, n10, n20, n60, n8, n9, bi0, ite_not, List.replicate, Nat.reduceAdd, Nat.reduceSub, Nat.reduceLeDiff, Nat.reduceLT, if_true, if_false, mg, reduceIte, not_false_eq_true, eq_self, and_self, and_true, true_and, true_or, or_true, Nat.reduceEqDiff, (t_has (a := 0) (by decide) hz), (bi_t c1), (t_answering (v := x) (a := 0) (by decide) hn hz)]
    · have l : ∀ k i y, i + k = n → go X 138 19 [some (aR (20, 0, 0)), some (aI x), some (aI y), some (aI (nI i))] [] (mem S) = some (some (aI (lp (fun i y => if S.1 3 (14 + 10 * i + 2) = x then y ||| bit1 i else y) k i y)), mem S) := by
        intro k
        induction k with
        | zero =>
          intro i y h
          rw [e138_19]
          simp only [nl_n, nl_i, nl_r, x_ci, x_ca, x_bin, x_ife, x_ifl, x_ifg, x_cme, x_cml, x_cmg, x_go, x_no, x_b, x_ps, x_pn, cs_n, cs_i, cs_j, cs_r, en_n, en_i, en_j, en_r, xa0, xi1, x_k2_20, r_i, r_j, r_v, r_z1, r_z0, r_a, xs2n, xs2i, xs2r, xs3n, xs3i, xs3r, xi3, g_20_0, l_3, l_5, l_8, l_11, l_12, l_21, l_22, l_23, l_24, l_25, l_26, l_28, l_29, l_30, l_31, l_32, xi2, x_k3_20, xn3n, xn3i, xn3r, e138_0, e138_1, e138_2, e138_5, e138_8, e138_9, e138_11, e138_14, e138_15, e138_16, e138_17, e138_18, e138_20, e138_21, e138_24, e138_25, e138_26, e138_29, e138_30, e138_31, e138_32, e138_33, e138_36, e138_37, e138_40, e138_41, e138_42, e138_43, e138_46, e138_47, e138_48, e138_49, e138_52, e138_55, e138_56, c138, i10, i00, n2, n10, n20, n60, n8, n9, bi0, ite_not, List.replicate, Nat.reduceAdd, Nat.reduceSub, Nat.reduceLeDiff, Nat.reduceLT, if_true, if_false, mg, reduceIte, not_false_eq_true, eq_self, and_self, and_true, true_and, true_or, or_true, Nat.reduceEqDiff, hz3, (nI_nlt (show n ≤ i by omega) (by omega))]
          rfl
        | succ k ih =>
          intro i y h
          have ih' := fun y => ih (i + 1) y (by omega)
          have hi : i < 8 := by omega
          rw [e138_19]
          simp only [nl_n, nl_i, nl_r, x_ci, x_ca, x_bin, x_ife, x_ifl, x_ifg, x_cme, x_cml, x_cmg, x_go, x_no, x_b, x_ps, x_pn, cs_n, cs_i, cs_j, cs_r, en_n, en_i, en_j, en_r, xa0, xi1, x_k2_20, r_i, r_j, r_v, r_z1, r_z0, r_a, xs2n, xs2i, xs2r, xs3n, xs3i, xs3r, xi3, g_20_0, l_3, l_5, l_8, l_11, l_12, l_21, l_22, l_23, l_24, l_25, l_26, l_28, l_29, l_30, l_31, l_32, xi2, x_k3_20, xn3n, xn3i, xn3r, e138_0, e138_1, e138_2, e138_5, e138_8, e138_9, e138_11, e138_14, e138_15, e138_16, e138_17, e138_18, e138_20, e138_21, e138_24, e138_25, e138_26, e138_29, e138_30, e138_31, e138_32, e138_33, e138_36, e138_37, e138_40, e138_41, e138_42, e138_43, e138_46, e138_47, e138_48, e138_49, e138_52, e138_55, e138_56, c138, i10, i00, n2, n10, n20, n60, n8, n9, bi0, ite_not, List.replicate, Nat.reduceAdd, Nat.reduceSub, Nat.reduceLeDiff, Nat.reduceLT, if_true, if_false, mg, reduceIte, not_false_eq_true, eq_self, and_self, and_true, true_and, true_or, or_true, Nat.reduceEqDiff, hi, hz3, (nI_lt (show i < n by omega) (by omega)), t_is, nI_add, or_0, ih', lp_s]
          split <;> rfl
      simp only [nl_n, nl_i, nl_r, x_ci, x_ca, x_bin, x_ife, x_ifl, x_ifg, x_cme, x_cml, x_cmg, x_go, x_no, x_b, x_ps, x_pn, cs_n, cs_i, cs_j, cs_r, en_n, en_i, en_j, en_r, xa0, xi1, x_k2_20, r_i, r_j, r_v, r_z1, r_z0, r_a, xs2n, xs2i, xs2r, xs3n, xs3i, xs3r, xi3, g_20_0, l_3, l_5, l_8, l_11, l_12, l_21, l_22, l_23, l_24, l_25, l_26, l_28, l_29, l_30, l_31, l_32, xi2, x_k3_20, xn3n, xn3i, xn3r, e138_0, e138_1, e138_2, e138_5, e138_8, e138_9, e138_11, e138_14, e138_15, e138_16, e138_17, e138_18, e138_20, e138_21, e138_24, e138_25, e138_26, e138_29, e138_30, e138_31, e138_32, e138_33, e138_36, e138_37, e138_40, e138_41, e138_42, e138_43, e138_46, e138_47, e138_48, e138_49, e138_52, e138_55, e138_56, c138, i10, i00, n2, n10, n20, n60, n8, n9, bi0, ite_not, List.replicate, Nat.reduceAdd, Nat.reduceSub, Nat.reduceLeDiff, Nat.reduceLT, if_true, if_false, mg, reduceIte, not_false_eq_true, eq_self, and_self, and_true, true_and, true_or, or_true, Nat.reduceEqDiff, (t_isS (S := S) hn hz3), (bi_t c1)]
      exact l n 0 (nI 0) (by omega)
  · refine op_fin (k := 0) (w := -1000001) (by decide) hJ ?_ ?_
    · simp only [nl_n, nl_i, nl_r, x_ci, x_ca, x_bin, x_ife, x_ifl, x_ifg, x_cme, x_cml, x_cmg, x_go, x_no, x_b, x_ps, x_pn, cs_n, cs_i, cs_j, cs_r, en_n, en_i, en_j, en_r, xa0, g_0_0, xi1, x_k2_1, x_k2_0, r_i, r_j, r_v, r_z1, r_z0, r_a, e65_0, e65_1, e65_4, e65_5, e65_8, e65_11, e65_12, e65_13, e65_16, e65_17, e65_18, e65_21, e65_22, e65_25, c65, i10, i00, n2, n10, n20, n60, n8, n9, bi0, ite_not, List.replicate, Nat.reduceAdd, Nat.reduceSub, Nat.reduceLeDiff, Nat.reduceLT, if_true, if_false, mg, reduceIte, not_false_eq_true, eq_self, and_self, and_true, true_and, true_or, or_true, Nat.reduceEqDiff, (t_has (a := 0) (by decide) hz), (bi_f c1), tel0]
    · simp only [nl_n, nl_i, nl_r, x_ci, x_ca, x_bin, x_ife, x_ifl, x_ifg, x_cme, x_cml, x_cmg, x_go, x_no, x_b, x_ps, x_pn, cs_n, cs_i, cs_j, cs_r, en_n, en_i, en_j, en_r, xa0, xi1, x_k2_20, r_i, r_j, r_v, r_z1, r_z0, r_a, xs2n, xs2i, xs2r, xs3n, xs3i, xs3r, xi3, g_20_0, l_3, l_5, l_8, l_11, l_12, l_21, l_22, l_23, l_24, l_25, l_26, l_28, l_29, l_30, l_31, l_32, xi2, x_k3_20, xn3n, xn3i, xn3r, e138_0, e138_1, e138_2, e138_5, e138_8, e138_9, e138_11, e138_14, e138_15, e138_16, e138_17, e138_18, e138_20, e138_21, e138_24, e138_25, e138_26, e138_29, e138_30, e138_31, e138_32, e138_33, e138_36, e138_37, e138_40, e138_41, e138_42, e138_43, e138_46, e138_47, e138_48, e138_49, e138_52, e138_55, e138_56, c138, i10, i00, n2, n10, n20, n60, n8, n9, bi0, ite_not, List.replicate, Nat.reduceAdd, Nat.reduceSub, Nat.reduceLeDiff, Nat.reduceLT, if_true, if_false, mg, reduceIte, not_false_eq_true, eq_self, and_self, and_true, true_and, true_or, or_true, Nat.reduceEqDiff, (fun D x => t_isS (X := X) (S := (S.1, D)) (x := x) hn hz3), (bi_f c1), fnd0]
theorem o_strike {X : aX} {S : aS} {x : Int32} (hJ : J S) : opK X 66 140 [aI x] S := by
  obtain ⟨⟨n, hR, hA⟩, hK, hD⟩ := id hJ
  have hR3 := ag_RI hA hR
  have hn := hR.1
  have hz := hR.2.1
  have hz3 := hR3.2.1
  by_cases c1 : hsP n x
  · obtain ⟨i, hi, rfl⟩ := has_of hn c1
    have hi8 : i < 8 := by omega
    have tl := fun (T : aS) (hT : T.1 0 1 = nI n) => t_look (X := X) (S := T) (a := 0) (j := 6) (by decide) hn hi (by decide) hT
    have e6 := ag_f hA hi (show 6 < 10 by decide)
    by_cases c2 : S.1 0 (14 + 10 * i + 6) = 0
    · have c2' := c2
      rw [e6] at c2'
      refine ⟨aI (mn (lastF (S.1 0) i) (nI 99)), (rq S.1 0 (begF (S.1 0) i), S.2), (rq (rq S.1 0 (begF (S.1 0) i)) 3 (begF (S.1 3) i), S.2), ?_, ?_, ?_⟩
      · have t7 := t_look (X := X) (S := (rq S.1 0 (begF (S.1 0) i), S.2)) (a := 0) (j := 7) (by decide) hn hi (by decide) (show begF (S.1 0) i 1 = nI n from (begF_1 ..).trans hz)
        simp only [nl_n, nl_i, nl_r, x_ci, x_ca, x_bin, x_ife, x_ifl, x_ifg, x_cme, x_cml, x_cmg, x_go, x_no, x_b, x_ps, x_pn, cs_n, cs_i, cs_j, cs_r, en_n, en_i, en_j, en_r, xa0, g_0_0, xi1, x_k2_1, x_k2_0, r_i, r_j, r_v, r_z1, r_z0, r_a, x_k3_1, e66_0, e66_1, e66_4, e66_5, e66_8, e66_11, e66_12, e66_13, e66_16, e66_17, e66_18, e66_21, e66_22, e66_24, e66_27, e66_30, e66_31, e66_32, e66_35, e66_36, e66_37, e66_40, e66_41, e66_44, e66_45, e66_48, e66_49, e66_51, e66_54, c66, i10, i00, n2, n10, n20, n60, n8, n9, bi0, ite_not, List.replicate, Nat.reduceAdd, Nat.reduceSub, Nat.reduceLeDiff, Nat.reduceLT, if_true, if_false, mg, reduceIte, not_false_eq_true, eq_self, and_self, and_true, true_and, true_or, or_true, Nat.reduceEqDiff, (t_has (a := 0) (by decide) hz), (bi_t c1), (tl S hz), (lk_f (show 6 < 10 by decide)), c2, (t_beginS (a := 0) (by decide) hn hi hz), t7, (lk_f (show 7 < 10 by decide)), rq_at]
        unfold begF
        rw [u_f, if_neg (by decide), u_f, if_pos rfl]
      · have td := t_isDead (X := X) (S := (rq S.1 0 (begF (S.1 0) i), S.2)) hi8 (RI_d hR3 hi)
        have tb := t_begS (X := X) (S := (rq S.1 0 (begF (S.1 0) i), S.2)) hi8
        simp only [nl_n, nl_i, nl_r, x_ci, x_ca, x_bin, x_ife, x_ifl, x_ifg, x_cme, x_cml, x_cmg, x_go, x_no, x_b, x_ps, x_pn, cs_n, cs_i, cs_j, cs_r, en_n, en_i, en_j, en_r, xa0, xi1, x_k2_20, r_i, r_j, r_v, r_z1, r_z0, r_a, e140_0, e140_1, e140_2, e140_5, e140_8, e140_9, e140_11, e140_14, e140_15, e140_16, e140_17, e140_20, e140_23, e140_24, e140_26, e140_29, e140_32, e140_33, e140_34, e140_37, c140, i10, i00, n2, n10, n20, n60, n8, n9, bi0, ite_not, List.replicate, Nat.reduceAdd, Nat.reduceSub, Nat.reduceLeDiff, Nat.reduceLT, if_true, if_false, mg, reduceIte, not_false_eq_true, eq_self, and_self, and_true, true_and, true_or, or_true, Nat.reduceEqDiff, (t_isS (X := X) (S := (rq S.1 0 (begF (S.1 0) i), S.2)) hn hz3), (bi_t c1), td, (rq_ne (q := S.1) (a := 0) (a2 := 3) (r := begF (S.1 0) i) (by decide)), c2', tb]
        rw [ag_last hA hi]
      · exact J_new hJ (RI_beg hR) (ag_beg hA hi) rfl rfl (eqJ_rfl _)
    · have c2' := c2
      rw [e6] at c2'
      refine op_f4 hJ ?_ ?_
      · simp only [nl_n, nl_i, nl_r, x_ci, x_ca, x_bin, x_ife, x_ifl, x_ifg, x_cme, x_cml, x_cmg, x_go, x_no, x_b, x_ps, x_pn, cs_n, cs_i, cs_j, cs_r, en_n, en_i, en_j, en_r, xa0, g_0_0, xi1, x_k2_1, x_k2_0, r_i, r_j, r_v, r_z1, r_z0, r_a, x_k3_1, e66_0, e66_1, e66_4, e66_5, e66_8, e66_11, e66_12, e66_13, e66_16, e66_17, e66_18, e66_21, e66_22, e66_24, e66_27, e66_30, e66_31, e66_32, e66_35, e66_36, e66_37, e66_40, e66_41, e66_44, e66_45, e66_48, e66_49, e66_51, e66_54, c66, i10, i00, n2, n10, n20, n60, n8, n9, bi0, ite_not, List.replicate, Nat.reduceAdd, Nat.reduceSub, Nat.reduceLeDiff, Nat.reduceLT, if_true, if_false, mg, reduceIte, not_false_eq_true, eq_self, and_self, and_true, true_and, true_or, or_true, Nat.reduceEqDiff, (t_has (a := 0) (by decide) hz), (bi_t c1), (tl S hz), (lk_f (show 6 < 10 by decide)), c2, tel4]
      · have td := t_isDead (X := X) (S := (S.1, tlD 4 S.2)) hi8 (RI_d hR3 hi)
        simp only [nl_n, nl_i, nl_r, x_ci, x_ca, x_bin, x_ife, x_ifl, x_ifg, x_cme, x_cml, x_cmg, x_go, x_no, x_b, x_ps, x_pn, cs_n, cs_i, cs_j, cs_r, en_n, en_i, en_j, en_r, xa0, xi1, x_k2_20, r_i, r_j, r_v, r_z1, r_z0, r_a, e140_0, e140_1, e140_2, e140_5, e140_8, e140_9, e140_11, e140_14, e140_15, e140_16, e140_17, e140_20, e140_23, e140_24, e140_26, e140_29, e140_32, e140_33, e140_34, e140_37, c140, i10, i00, n2, n10, n20, n60, n8, n9, bi0, ite_not, List.replicate, Nat.reduceAdd, Nat.reduceSub, Nat.reduceLeDiff, Nat.reduceLT, if_true, if_false, mg, reduceIte, not_false_eq_true, eq_self, and_self, and_true, true_and, true_or, or_true, Nat.reduceEqDiff, (fun D x => t_isS (X := X) (S := (S.1, D)) (x := x) hn hz3), (bi_t c1), td, c2', fnd4]
  · refine op_fin (k := 0) (w := -1000001) (by decide) hJ ?_ ?_
    · simp only [nl_n, nl_i, nl_r, x_ci, x_ca, x_bin, x_ife, x_ifl, x_ifg, x_cme, x_cml, x_cmg, x_go, x_no, x_b, x_ps, x_pn, cs_n, cs_i, cs_j, cs_r, en_n, en_i, en_j, en_r, xa0, g_0_0, xi1, x_k2_1, x_k2_0, r_i, r_j, r_v, r_z1, r_z0, r_a, x_k3_1, e66_0, e66_1, e66_4, e66_5, e66_8, e66_11, e66_12, e66_13, e66_16, e66_17, e66_18, e66_21, e66_22, e66_24, e66_27, e66_30, e66_31, e66_32, e66_35, e66_36, e66_37, e66_40, e66_41, e66_44, e66_45, e66_48, e66_49, e66_51, e66_54, c66, i10, i00, n2, n10, n20, n60, n8, n9, bi0, ite_not, List.replicate, Nat.reduceAdd, Nat.reduceSub, Nat.reduceLeDiff, Nat.reduceLT, if_true, if_false, mg, reduceIte, not_false_eq_true, eq_self, and_self, and_true, true_and, true_or, or_true, Nat.reduceEqDiff, (t_has (a := 0) (by decide) hz), (bi_f c1), tel0]
    · simp only [nl_n, nl_i, nl_r, x_ci, x_ca, x_bin, x_ife, x_ifl, x_ifg, x_cme, x_cml, x_cmg, x_go, x_no, x_b, x_ps, x_pn, cs_n, cs_i, cs_j, cs_r, en_n, en_i, en_j, en_r, xa0, xi1, x_k2_20, r_i, r_j, r_v, r_z1, r_z0, r_a, e140_0, e140_1, e140_2, e140_5, e140_8, e140_9, e140_11, e140_14, e140_15, e140_16, e140_17, e140_20, e140_23, e140_24, e140_26, e140_29, e140_32, e140_33, e140_34, e140_37, c140, i10, i00, n2, n10, n20, n60, n8, n9, bi0, ite_not, List.replicate, Nat.reduceAdd, Nat.reduceSub, Nat.reduceLeDiff, Nat.reduceLT, if_true, if_false, mg, reduceIte, not_false_eq_true, eq_self, and_self, and_true, true_and, true_or, or_true, Nat.reduceEqDiff, (fun D x => t_isS (X := X) (S := (S.1, D)) (x := x) hn hz3), (bi_f c1), fnd0]
theorem nI_subN {a b : Nat} (h : b ≤ a) : nI a - nI b = nI (a - b) := by
  rw [show nI a = nI (a - b) + nI b by rw [nI_add]; congr 1; omega]
  exact Int32.add_sub_cancel ..
theorem o_go {X : aX} {S : aS} {x : Int32} (hJ : J S) : opK X 67 149 [aI x] S := by
  obtain ⟨⟨n, hR, hA⟩, hK, hD⟩ := id hJ
  have hR3 := ag_RI hA hR
  have hn := hR.1
  have hz := hR.2.1
  have hz3 := hR3.2.1
  by_cases c1 : wi x (nI 1) (nI 60)
  · obtain ⟨c, hc1, hc, rfl⟩ := wi_of (by decide) c1 (by decide)
    obtain ⟨d, hd, ed⟩ := hR.2.2.1
    have ed3 : S.1 3 0 = nI d := (hA 0 (by omega)).symm.trans ed
    by_cases c2 : d + c ≤ 99999
    · have q1 : ¬ nI 99999 - nI c < S.1 0 0 := by rw [nI_subN (by omega), ed]; exact nI_nlt (by omega) (by omega)
      have q3 : ¬ nI 99999 < nI (d + c) := nI_nlt (by omega) (by decide)
      obtain ⟨D1, hJ1, h1⟩ := t_daysS (X := X) (S := S) (a := 0) (c := c) (by decide) hn (by omega) hz
      have hR1 : RI n (itr (dayR n) c (S.1 0)) := RI_days c _ hR
      have hA1 := ag_days hn c _ _ hA
      obtain ⟨D2, hJ2, h2⟩ := t_goS (X := X) (S := (rq S.1 0 (itr (dayR n) c (S.1 0)), D1)) (c := c) (by omega) hR3
      refine ⟨aI (sgS (itr (dayR n) c (S.1 0)) n), (rq S.1 0 (itr (dayR n) c (S.1 0)), D1), (rq (rq S.1 0 (itr (dayR n) c (S.1 0))) 3 (itr (dayR n) c (S.1 3)), D2), ?_, ?_, ?_⟩
      · have ts := t_singing (X := X) (S := (rq S.1 0 (itr (dayR n) c (S.1 0)), D1)) (a := 0) (by decide) hn hR1.2.1
        simp only [nl_n, nl_i, nl_r, x_ci, x_ca, x_bin, x_ife, x_ifl, x_ifg, x_cme, x_cml, x_cmg, x_go, x_no, x_b, x_ps, x_pn, cs_n, cs_i, cs_j, cs_r, en_n, en_i, en_j, en_r, xi1, x_k3_s, xa0, x_k2_0, r_i, r_j, r_v, r_z1, r_z0, r_a, g_0_0, x_k2_1, x_k1_1, e67_0, e67_1, e67_2, e67_4, e67_7, e67_10, e67_11, e67_12, e67_15, e67_16, e67_17, e67_20, e67_21, e67_24, e67_27, e67_28, e67_29, e67_32, e67_33, e67_34, e67_37, e67_38, e67_41, e67_42, e67_45, e67_48, c67, i10, i00, n2, n10, n20, n60, n8, n9, bi0, ite_not, List.replicate, Nat.reduceAdd, Nat.reduceSub, Nat.reduceLeDiff, Nat.reduceLT, if_true, if_false, mg, reduceIte, not_false_eq_true, eq_self, and_self, and_true, true_and, true_or, or_true, Nat.reduceEqDiff, t_within, (bi_t c1), (t_hasDays (a := 0) (by decide)), (bi_t q1), h1, ts, rq_at]
      · have ts := t_sing6 (X := X) (S := (rq (rq S.1 0 (itr (dayR n) c (S.1 0))) 3 (itr (dayR n) c (S.1 3)), D2)) (RI_days c _ hR3)
        simp only [nl_n, nl_i, nl_r, x_ci, x_ca, x_bin, x_ife, x_ifl, x_ifg, x_cme, x_cml, x_cmg, x_go, x_no, x_b, x_ps, x_pn, cs_n, cs_i, cs_j, cs_r, en_n, en_i, en_j, en_r, xi1, x_k3_s, xa0, x_k2_20, r_i, r_j, r_v, r_z1, r_z0, r_a, g_20_0, l_3, l_5, l_8, l_11, l_12, l_21, l_22, l_23, l_24, l_25, l_26, l_28, l_29, l_30, l_31, l_32, x_k1_20, e149_0, e149_1, e149_2, e149_4, e149_7, e149_10, e149_11, e149_13, e149_16, e149_17, e149_18, e149_21, e149_22, e149_23, e149_24, e149_25, e149_27, e149_30, e149_31, e149_33, e149_36, e149_37, e149_38, e149_39, e149_42, e149_43, e149_46, c149, i10, i00, n2, n10, n20, n60, n8, n9, bi0, ite_not, List.replicate, Nat.reduceAdd, Nat.reduceSub, Nat.reduceLeDiff, Nat.reduceLT, if_true, if_false, mg, reduceIte, not_false_eq_true, eq_self, and_self, and_true, true_and, true_or, or_true, Nat.reduceEqDiff, t_within6, (bi_t c1), (rq_ne (q := S.1) (a := 0) (a2 := 3) (r := itr (dayR n) c (S.1 0)) (by decide)), ed3, nI_add, q3, h2, ts, rq_at]
        rw [ag_sgS hA1]
      · exact J_new hJ hR1 hA1 rfl rfl (eqJ_tr hJ1 hJ2)
    · have q1 : ¬ ¬ nI 99999 - nI c < S.1 0 0 := by rw [nI_subN (by omega), ed]; exact fun w => w (nI_lt (by omega) (by omega))
      have q3 : nI 99999 < nI (d + c) := nI_lt (by omega) (by omega)
      refine op_f4 hJ ?_ ?_
      · simp only [nl_n, nl_i, nl_r, x_ci, x_ca, x_bin, x_ife, x_ifl, x_ifg, x_cme, x_cml, x_cmg, x_go, x_no, x_b, x_ps, x_pn, cs_n, cs_i, cs_j, cs_r, en_n, en_i, en_j, en_r, xi1, x_k3_s, xa0, x_k2_0, r_i, r_j, r_v, r_z1, r_z0, r_a, g_0_0, x_k2_1, x_k1_1, e67_0, e67_1, e67_2, e67_4, e67_7, e67_10, e67_11, e67_12, e67_15, e67_16, e67_17, e67_20, e67_21, e67_24, e67_27, e67_28, e67_29, e67_32, e67_33, e67_34, e67_37, e67_38, e67_41, e67_42, e67_45, e67_48, c67, i10, i00, n2, n10, n20, n60, n8, n9, bi0, ite_not, List.replicate, Nat.reduceAdd, Nat.reduceSub, Nat.reduceLeDiff, Nat.reduceLT, if_true, if_false, mg, reduceIte, not_false_eq_true, eq_self, and_self, and_true, true_and, true_or, or_true, Nat.reduceEqDiff, t_within, (bi_t c1), (t_hasDays (a := 0) (by decide)), (bi_f q1), tel4]
      · simp only [nl_n, nl_i, nl_r, x_ci, x_ca, x_bin, x_ife, x_ifl, x_ifg, x_cme, x_cml, x_cmg, x_go, x_no, x_b, x_ps, x_pn, cs_n, cs_i, cs_j, cs_r, en_n, en_i, en_j, en_r, xi1, x_k3_s, xa0, x_k2_20, r_i, r_j, r_v, r_z1, r_z0, r_a, g_20_0, l_3, l_5, l_8, l_11, l_12, l_21, l_22, l_23, l_24, l_25, l_26, l_28, l_29, l_30, l_31, l_32, x_k1_20, e149_0, e149_1, e149_2, e149_4, e149_7, e149_10, e149_11, e149_13, e149_16, e149_17, e149_18, e149_21, e149_22, e149_23, e149_24, e149_25, e149_27, e149_30, e149_31, e149_33, e149_36, e149_37, e149_38, e149_39, e149_42, e149_43, e149_46, c149, i10, i00, n2, n10, n20, n60, n8, n9, bi0, ite_not, List.replicate, Nat.reduceAdd, Nat.reduceSub, Nat.reduceLeDiff, Nat.reduceLT, if_true, if_false, mg, reduceIte, not_false_eq_true, eq_self, and_self, and_true, true_and, true_or, or_true, Nat.reduceEqDiff, t_within6, (bi_t c1), ed3, nI_add, q3, fnd4]
  · refine op_fin (k := 0) (w := -1000001) (by decide) hJ ?_ ?_
    · simp only [nl_n, nl_i, nl_r, x_ci, x_ca, x_bin, x_ife, x_ifl, x_ifg, x_cme, x_cml, x_cmg, x_go, x_no, x_b, x_ps, x_pn, cs_n, cs_i, cs_j, cs_r, en_n, en_i, en_j, en_r, xi1, x_k3_s, xa0, x_k2_0, r_i, r_j, r_v, r_z1, r_z0, r_a, g_0_0, x_k2_1, x_k1_1, e67_0, e67_1, e67_2, e67_4, e67_7, e67_10, e67_11, e67_12, e67_15, e67_16, e67_17, e67_20, e67_21, e67_24, e67_27, e67_28, e67_29, e67_32, e67_33, e67_34, e67_37, e67_38, e67_41, e67_42, e67_45, e67_48, c67, i10, i00, n2, n10, n20, n60, n8, n9, bi0, ite_not, List.replicate, Nat.reduceAdd, Nat.reduceSub, Nat.reduceLeDiff, Nat.reduceLT, if_true, if_false, mg, reduceIte, not_false_eq_true, eq_self, and_self, and_true, true_and, true_or, or_true, Nat.reduceEqDiff, t_within, (bi_f c1), tel0]
    · simp only [nl_n, nl_i, nl_r, x_ci, x_ca, x_bin, x_ife, x_ifl, x_ifg, x_cme, x_cml, x_cmg, x_go, x_no, x_b, x_ps, x_pn, cs_n, cs_i, cs_j, cs_r, en_n, en_i, en_j, en_r, xi1, x_k3_s, xa0, x_k2_20, r_i, r_j, r_v, r_z1, r_z0, r_a, g_20_0, l_3, l_5, l_8, l_11, l_12, l_21, l_22, l_23, l_24, l_25, l_26, l_28, l_29, l_30, l_31, l_32, x_k1_20, e149_0, e149_1, e149_2, e149_4, e149_7, e149_10, e149_11, e149_13, e149_16, e149_17, e149_18, e149_21, e149_22, e149_23, e149_24, e149_25, e149_27, e149_30, e149_31, e149_33, e149_36, e149_37, e149_38, e149_39, e149_42, e149_43, e149_46, c149, i10, i00, n2, n10, n20, n60, n8, n9, bi0, ite_not, List.replicate, Nat.reduceAdd, Nat.reduceSub, Nat.reduceLeDiff, Nat.reduceLT, if_true, if_false, mg, reduceIte, not_false_eq_true, eq_self, and_self, and_true, true_and, true_or, or_true, Nat.reduceEqDiff, t_within6, (bi_f c1), fnd0]
