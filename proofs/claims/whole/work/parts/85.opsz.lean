/-! hushed without some -/
abbrev huP (n c : Nat) (z : Int32) (r : Nat → Int32) : Prop := ¬ itr (dayR n) c (lp (kiF z) n 0 r) 3 < nI c
theorem hu_c {n c : Nat} {z : Int32} {r r' : Nat → Int32} (hn : n ≤ 8) (h : ag n r r') : huP n c z r ↔ huP n c z r' := by
  unfold huP
  rw [ag_days hn c _ _ (ag_lp (g := kiF z) (fun i r r' _ h => ag_ki h) h) 3 (by omega)]
theorem t_stillW {X : aX} {S : aS} {n c : Nat} {z : Int32} (hc : c ≤ 60) (hR : RI n (S.1 0)) : ∃ S', kx S S' ∧ cl X 106 [aR (0, 0, 0), aI z, aI (nI c)] (mem S) = some (some (aI (bi (huP n c z (S.1 0)))), mem S') := by
  have hn := hR.1
  have hz := hR.2.1
  have hm0 := ag_mix n (S.1 1) (S.1 0)
  have h0 := t_becS (X := X) (S := S) (a := 1) (a2 := 0) (by decide) (by decide) (by decide) hn hz
  have hRm := ag_RI (ag_sym hm0) hR
  rw [bi_c (hu_c (c := c) (z := z) hn (ag_sym hm0))]
  generalize mixR n (S.1 1) (S.1 0) = t0 at hm0 h0 hRm
  have h1 := t_kill (X := X) (q := S.1) (D := S.2) (z := z) (a := 1) (by decide) hn hRm.2.1
  obtain ⟨r1, D1, e1, h2⟩ := l_still (X := X) (q := S.1) (z := z) hc c 0 (lp (kiF z) n 0 t0) S.2 (by omega) (RI_lp (fun i r _ h => RI_ki h) hRm)
  refine ⟨(rq S.1 1 r1, D1), ⟨e1, fun a ha => rq_ne ha⟩, ?_⟩
  rw [← h2]
  simp only [nl_n, nl_i, nl_r, x_ci, x_ca, x_bin, x_ife, x_ifl, x_ifg, x_cme, x_cml, x_cmg, x_go, x_no, x_b, x_ps, x_pn, cs_n, cs_i, cs_j, cs_r, en_n, en_i, en_j, en_r, xa0, g_0_1, g_0_0, x_k2_1, xi1, xs3n, xs3i, xs3r, xi3, xi2, g_1_4, r_i, r_j, r_v, r_z1, r_z0, r_a, xn3n, xn3i, xn3r, e106_0, e106_1, e106_4, e106_5, e106_8, e106_11, e106_12, e106_15, e106_16, e106_19, e106_20, e106_22, e106_23, e106_26, e106_27, e106_30, e106_31, e106_34, e106_35, e106_38, e106_41, e106_44, e106_45, e106_46, e106_49, e106_52, e106_53, e106_56, e106_59, e106_60, e106_63, e106_64, e106_67, e106_68, c106, i10, i00, n2, n10, n20, n60, n8, n9, bi0, ite_not, List.replicate, Nat.reduceAdd, Nat.reduceSub, Nat.reduceLeDiff, Nat.reduceLT, if_true, if_false, mg, reduceIte, not_false_eq_true, eq_self, and_self, and_true, true_and, true_or, or_true, Nat.reduceEqDiff, h0, h1]
theorem l_hkill {X : aX} {q : Nat → Nat → Int32} {D : aD} {n m : Nat} {y : Int32} (hm : m < 256) : ∀ k i r, i + k = n → RI n r → go X 169 13 [some (aR (20, 0, 0)), some (aI (nI m)), some (aI y), some (aI (nI i))] [] (mem (rq q 3 r, D)) = go X 169 50 [some (aR (20, 0, 0)), some (aI (nI m)), some (aI y), some (aI (nI n))] [] (mem (rq q 3 (lp (kiF (nI m)) k i r), D)) := by
  intro k
  induction k with
  | zero =>
    intro i r h hr
    have hn := hr.1
    have hz := hr.2.1
    have e : i = n := by omega
    subst e
    rw [e169_13]
    simp only [nl_n, nl_i, nl_r, x_ci, x_ca, x_bin, x_ife, x_ifl, x_ifg, x_cme, x_cml, x_cmg, x_go, x_no, x_b, x_ps, x_pn, cs_n, cs_i, cs_j, cs_r, en_n, en_i, en_j, en_r, xa0, g_20_0, g_20_2, x_k2_s, xs3n, xs3i, xs3r, xi3, l_3, l_5, l_8, l_11, l_12, l_21, l_22, l_23, l_24, l_25, l_26, l_28, l_29, l_30, l_31, l_32, xi1, s_3, s_5, s_8, s_11, s_12, s_21, s_22, s_23, s_24, s_25, s_26, s_28, s_29, s_30, s_31, s_32, xn3n, xn3i, xn3r, xi2, x_k2_20, r_i, r_j, r_v, r_z1, r_z0, r_a, e169_0, e169_1, e169_4, e169_5, e169_8, e169_11, e169_12, e169_14, e169_15, e169_18, e169_19, e169_20, e169_23, e169_24, e169_25, e169_26, e169_27, e169_28, e169_29, e169_32, e169_33, e169_36, e169_37, e169_39, e169_42, e169_43, e169_44, e169_47, e169_51, e169_52, e169_55, e169_56, e169_59, e169_60, e169_61, e169_62, e169_65, e169_66, e169_69, e169_70, e169_71, e169_72, e169_75, e169_76, e169_79, e169_82, e169_83, c169, i10, i00, n2, n10, n20, n60, n8, n9, bi0, ite_not, List.replicate, Nat.reduceAdd, Nat.reduceSub, Nat.reduceLeDiff, Nat.reduceLT, if_true, if_false, mg, reduceIte, not_false_eq_true, eq_self, and_self, and_true, true_and, true_or, or_true, Nat.reduceEqDiff, rq_at, hz, (nI_nlt (Nat.le_refl i) (show i < 2 ^ 31 by omega)), lp_0]
  | succ k ih =>
    intro i r h hr
    have hn := hr.1
    have hz := hr.2.1
    have hp : ∀ f, f < 10 → 14 + 10 * i + f < 94 := fun f hf => by omega
    have hb := bit_at i (by omega) m hm
    rw [e169_13, lp_s, ← ih (i + 1) _ (by omega) (RI_ki hr)]
    unfold kiF
    rw [hb]
    simp only [nl_n, nl_i, nl_r, x_ci, x_ca, x_bin, x_ife, x_ifl, x_ifg, x_cme, x_cml, x_cmg, x_go, x_no, x_b, x_ps, x_pn, cs_n, cs_i, cs_j, cs_r, en_n, en_i, en_j, en_r, xa0, g_20_0, g_20_2, x_k2_s, xs3n, xs3i, xs3r, xi3, l_3, l_5, l_8, l_11, l_12, l_21, l_22, l_23, l_24, l_25, l_26, l_28, l_29, l_30, l_31, l_32, xi1, s_3, s_5, s_8, s_11, s_12, s_21, s_22, s_23, s_24, s_25, s_26, s_28, s_29, s_30, s_31, s_32, xn3n, xn3i, xn3r, xi2, x_k2_20, r_i, r_j, r_v, r_z1, r_z0, r_a, e169_0, e169_1, e169_4, e169_5, e169_8, e169_11, e169_12, e169_14, e169_15, e169_18, e169_19, e169_20, e169_23, e169_24, e169_25, e169_26, e169_27, e169_28, e169_29, e169_32, e169_33, e169_36, e169_37, e169_39, e169_42, e169_43, e169_44, e169_47, e169_51, e169_52, e169_55, e169_56, e169_59, e169_60, e169_61, e169_62, e169_65, e169_66, e169_69, e169_70, e169_71, e169_72, e169_75, e169_76, e169_79, e169_82, e169_83, c169, i10, i00, n2, n10, n20, n60, n8, n9, bi0, ite_not, List.replicate, Nat.reduceAdd, Nat.reduceSub, Nat.reduceLeDiff, Nat.reduceLT, if_true, if_false, mg, reduceIte, not_false_eq_true, eq_self, and_self, and_true, true_and, true_or, or_true, Nat.reduceEqDiff, rq_at, hz, hp, (nI_lt (show i < n by omega) (by omega)), hb, t_at, uq_rq, rq_rq, nI_add]
    cases m.testBit i with
    | true => simp [i10]
    | false => simp [nI_0, show ¬ (0 : Int32) = nI 1 from fun e => i10 e.symm]
theorem t_hushed {X : aX} {S : aS} {n c m : Nat} (hm : m < 256) (hc : c ≤ 60) (hR : RI n (S.1 3)) : ∃ S', kp S S' ∧ a94 (S'.1 3) (S.1 3) ∧ cl X 169 [aR (20, 0, 0), aI (nI m), aI (nI c)] (mem S) = some (some (aI (bi (huP n c (nI m) (S.1 3)))), mem S') := by
  have h0 := t_aside (X := X) (S := S)
  have h1 := l_hkill (X := X) (q := rq S.1 5 (row94 (S.1 5) (S.1 3))) (D := S.2) (y := nI c) hm n 0 (S.1 3) (by omega) hR
  rw [show rq (rq S.1 5 (row94 (S.1 5) (S.1 3))) 3 (S.1 3) = rq S.1 5 (row94 (S.1 5) (S.1 3)) by rw [rq_sw (by decide), rq_self]] at h1
  have hRk : RI n (lp (kiF (nI m)) n 0 (S.1 3)) := RI_lp (g := kiF (nI m)) (fun i r _ h => RI_ki h) hR
  obtain ⟨D', e', h2⟩ := t_daysGo (X := X) (q := rq S.1 5 (row94 (S.1 5) (S.1 3))) (D := S.2) (c := c) (by omega) hRk
  refine ⟨(rq (rq S.1 5 (row94 (S.1 5) (S.1 3))) 3 (row94 (itr (dayR n) c (lp (kiF (nI m)) n 0 (S.1 3))) (row94 (S.1 5) (S.1 3))), D'), ⟨e', fun a h3 h5 => ?_⟩, fun p hp => ?_, ?_⟩
  · show rq (rq S.1 5 _) 3 _ a = S.1 a
    rw [rq_ne h3, rq_ne h5]
  · show row94 _ (row94 _ _) p = _
    unfold row94
    rw [if_pos hp, if_pos hp]
  · have e5 : ∀ r, rq (rq S.1 5 (row94 (S.1 5) (S.1 3))) 3 r 5 = row94 (S.1 5) (S.1 3) := fun r => rfl
    simp only [nl_n, nl_i, nl_r, x_ci, x_ca, x_bin, x_ife, x_ifl, x_ifg, x_cme, x_cml, x_cmg, x_go, x_no, x_b, x_ps, x_pn, cs_n, cs_i, cs_j, cs_r, en_n, en_i, en_j, en_r, xa0, g_20_0, g_20_2, x_k2_s, xs3n, xs3i, xs3r, xi3, l_3, l_5, l_8, l_11, l_12, l_21, l_22, l_23, l_24, l_25, l_26, l_28, l_29, l_30, l_31, l_32, xi1, s_3, s_5, s_8, s_11, s_12, s_21, s_22, s_23, s_24, s_25, s_26, s_28, s_29, s_30, s_31, s_32, xn3n, xn3i, xn3r, xi2, x_k2_20, r_i, r_j, r_v, r_z1, r_z0, r_a, e169_0, e169_1, e169_4, e169_5, e169_8, e169_11, e169_12, e169_14, e169_15, e169_18, e169_19, e169_20, e169_23, e169_24, e169_25, e169_26, e169_27, e169_28, e169_29, e169_32, e169_33, e169_36, e169_37, e169_39, e169_42, e169_43, e169_44, e169_47, e169_51, e169_52, e169_55, e169_56, e169_59, e169_60, e169_61, e169_62, e169_65, e169_66, e169_69, e169_70, e169_71, e169_72, e169_75, e169_76, e169_79, e169_82, e169_83, c169, i10, i00, n2, n10, n20, n60, n8, n9, bi0, ite_not, List.replicate, Nat.reduceAdd, Nat.reduceSub, Nat.reduceLeDiff, Nat.reduceLT, if_true, if_false, mg, reduceIte, not_false_eq_true, eq_self, and_self, and_true, true_and, true_or, or_true, Nat.reduceEqDiff, h0]
    rw [h1, e169_50]
    unfold huP
    simp only [nl_n, nl_i, nl_r, x_ci, x_ca, x_bin, x_ife, x_ifl, x_ifg, x_cme, x_cml, x_cmg, x_go, x_no, x_b, x_ps, x_pn, cs_n, cs_i, cs_j, cs_r, en_n, en_i, en_j, en_r, xa0, g_20_0, g_20_2, x_k2_s, xs3n, xs3i, xs3r, xi3, l_3, l_5, l_8, l_11, l_12, l_21, l_22, l_23, l_24, l_25, l_26, l_28, l_29, l_30, l_31, l_32, xi1, s_3, s_5, s_8, s_11, s_12, s_21, s_22, s_23, s_24, s_25, s_26, s_28, s_29, s_30, s_31, s_32, xn3n, xn3i, xn3r, xi2, x_k2_20, r_i, r_j, r_v, r_z1, r_z0, r_a, e169_0, e169_1, e169_4, e169_5, e169_8, e169_11, e169_12, e169_14, e169_15, e169_18, e169_19, e169_20, e169_23, e169_24, e169_25, e169_26, e169_27, e169_28, e169_29, e169_32, e169_33, e169_36, e169_37, e169_39, e169_42, e169_43, e169_44, e169_47, e169_51, e169_52, e169_55, e169_56, e169_59, e169_60, e169_61, e169_62, e169_65, e169_66, e169_69, e169_70, e169_71, e169_72, e169_75, e169_76, e169_79, e169_82, e169_83, c169, i10, i00, n2, n10, n20, n60, n8, n9, bi0, ite_not, List.replicate, Nat.reduceAdd, Nat.reduceSub, Nat.reduceLeDiff, Nat.reduceLT, if_true, if_false, mg, reduceIte, not_false_eq_true, eq_self, and_self, and_true, true_and, true_or, or_true, Nat.reduceEqDiff, h2, rq_at, t_back, rq_rq, e5]
    by_cases e : itr (dayR n) c (lp (kiF (nI m)) n 0 (S.1 3)) 3 < nI c
    · rw [if_pos e, bi_f (fun w => w e)]
    · rw [if_neg e, bi_t e]
