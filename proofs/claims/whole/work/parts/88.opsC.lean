theorem okH_v {H : Nat → Prop} {N lo : Nat} {b : Int32} (hN : N ≤ 256) (h : okH H N lo b) : b = -1 ∨ ∃ j, j ≤ 400 ∧ b = nI j := by
  rcases h with ⟨h1, _⟩ | ⟨w, _, w2, _, w4, _⟩
  · exact Or.inl h1
  · exact Or.inr ⟨w, by omega, w4⟩
theorem l_hushm {X : aX} {n c : Nat} {r0 : Nat → Int32} (hc : c ≤ 60) (hr0 : RI n r0) : ∀ k b S, k ≤ 2 ^ n → a94 (S.1 3) r0 → okH (fun u => huP n c (nI u) r0) (2 ^ n) k b → ∃ S' b', kp S S' ∧ a94 (S'.1 3) r0 ∧ okH (fun u => huP n c (nI u) r0) (2 ^ n) 0 b' ∧ go X 170 30 [some (aR (20, 0, 0)), some (aI (nI c)), some (aI b), some (aI (nI k - nI 1))] [] (mem S) = if b' = -1 then some (some (aI (-1000004)), mem (S'.1, fdD 3 S'.2)) else some (some (aI b'), mem S') := by
  have hn := hr0.1
  have hN := p2 hn
  intro k
  induction k with
  | zero =>
    intro b S hk hS ho
    have e : nI 0 - nI 1 < 0 := by decide +kernel
    refine ⟨S, b, kp_rfl S, hS, ho, ?_⟩
    rw [e170_30]
    simp only [nl_n, nl_i, nl_r, x_ci, x_ca, x_bin, x_ife, x_ifl, x_ifg, x_cme, x_cml, x_cmg, x_go, x_no, x_b, x_ps, x_pn, cs_n, cs_i, cs_j, cs_r, en_n, en_i, en_j, en_r, xi1, x_k3_s, xa0, x_k2_20, r_i, r_j, r_v, r_z1, r_z0, r_a, xs2n, xs2i, xs2r, g_20_0, l_3, l_5, l_8, l_11, l_12, l_21, l_22, l_23, l_24, l_25, l_26, l_28, l_29, l_30, l_31, l_32, xs3n, xs3i, xs3r, xi3, xi2, x_k1_s, x_k3_20, xn3n, xn3i, xn3r, e170_0, e170_1, e170_2, e170_4, e170_7, e170_10, e170_11, e170_13, e170_16, e170_17, e170_18, e170_19, e170_20, e170_21, e170_24, e170_25, e170_26, e170_27, e170_28, e170_29, e170_31, e170_34, e170_35, e170_38, e170_39, e170_42, e170_43, e170_46, e170_49, e170_50, e170_51, e170_52, e170_55, e170_58, e170_59, e170_62, e170_63, e170_64, e170_67, e170_70, e170_71, e170_72, e170_75, c170, i10, i00, n2, n10, n20, n60, n8, n9, bi0, ite_not, List.replicate, Nat.reduceAdd, Nat.reduceSub, Nat.reduceLeDiff, Nat.reduceLT, if_true, if_false, mg, reduceIte, not_false_eq_true, eq_self, and_self, and_true, true_and, true_or, or_true, Nat.reduceEqDiff, e, (t_orNone (okH_v hN ho)), bnd_if]
  | succ k ih =>
    intro b S hk hS ho
    have hk8 : k < 256 := by omega
    have e : nI (k + 1) - nI 1 = nI k := nI_pred k
    have e1 : nI k + -1 = nI k - nI 1 := by rw [Int32.sub_eq_add_neg, show -(nI 1) = (-1 : Int32) by decide +kernel]
    have np := nI_pos (show k < 2 ^ 31 by omega)
    obtain ⟨S1, k1, a1, h1⟩ := t_hushed (X := X) (S := S) (c := c) hk8 hc (ag_RI (ag_sym (a94_ag hn hS)) hr0)
    rw [bi_c (hu_c (c := c) (z := nI k) hn (a94_ag hn hS))] at h1
    have hS1 : a94 (S1.1 3) r0 := fun p hp => (a1 p hp).trans (hS p hp)
    have tb := fun M => t_bits6 (X := X) (M := M) hk8
    rcases ho with ⟨g1, g2⟩ | ⟨w, w1, w2, w3, w4, w5⟩
    · subst g1
      by_cases cH : huP n c (nI k) r0
      · obtain ⟨S2, b', k2, a2, o2, h2⟩ := ih (nI k) S1 (by omega) hS1 (Or.inr ⟨k, Nat.le_refl k, by omega, cH, rfl, fun u hu hu2 hH => if q : u = k then ⟨by rw [q]; exact Nat.le_refl _, fun z => by omega⟩ else absurd hH (g2 u (by omega) hu2)⟩)
        refine ⟨S2, b', kp_tr k1 k2, a2, o2, ?_⟩
        rw [← h2, e170_30, e]
        simp only [nl_n, nl_i, nl_r, x_ci, x_ca, x_bin, x_ife, x_ifl, x_ifg, x_cme, x_cml, x_cmg, x_go, x_no, x_b, x_ps, x_pn, cs_n, cs_i, cs_j, cs_r, en_n, en_i, en_j, en_r, xi1, x_k3_s, xa0, x_k2_20, r_i, r_j, r_v, r_z1, r_z0, r_a, xs2n, xs2i, xs2r, g_20_0, l_3, l_5, l_8, l_11, l_12, l_21, l_22, l_23, l_24, l_25, l_26, l_28, l_29, l_30, l_31, l_32, xs3n, xs3i, xs3r, xi3, xi2, x_k1_s, x_k3_20, xn3n, xn3i, xn3r, e170_0, e170_1, e170_2, e170_4, e170_7, e170_10, e170_11, e170_13, e170_16, e170_17, e170_18, e170_19, e170_20, e170_21, e170_24, e170_25, e170_26, e170_27, e170_28, e170_29, e170_31, e170_34, e170_35, e170_38, e170_39, e170_42, e170_43, e170_46, e170_49, e170_50, e170_51, e170_52, e170_55, e170_58, e170_59, e170_62, e170_63, e170_64, e170_67, e170_70, e170_71, e170_72, e170_75, c170, i10, i00, n2, n10, n20, n60, n8, n9, bi0, ite_not, List.replicate, Nat.reduceAdd, Nat.reduceSub, Nat.reduceLeDiff, Nat.reduceLT, if_true, if_false, mg, reduceIte, not_false_eq_true, eq_self, and_self, and_true, true_and, true_or, or_true, Nat.reduceEqDiff, np, m1_lt, h1, (bi_t cH), e1]
      · obtain ⟨S2, b', k2, a2, o2, h2⟩ := ih (-1) S1 (by omega) hS1 (Or.inl ⟨rfl, fun u hu hu2 hH => if q : u = k then cH (by rw [q] at hH; exact hH) else g2 u (by omega) hu2 hH⟩)
        refine ⟨S2, b', kp_tr k1 k2, a2, o2, ?_⟩
        rw [← h2, e170_30, e]
        simp only [nl_n, nl_i, nl_r, x_ci, x_ca, x_bin, x_ife, x_ifl, x_ifg, x_cme, x_cml, x_cmg, x_go, x_no, x_b, x_ps, x_pn, cs_n, cs_i, cs_j, cs_r, en_n, en_i, en_j, en_r, xi1, x_k3_s, xa0, x_k2_20, r_i, r_j, r_v, r_z1, r_z0, r_a, xs2n, xs2i, xs2r, g_20_0, l_3, l_5, l_8, l_11, l_12, l_21, l_22, l_23, l_24, l_25, l_26, l_28, l_29, l_30, l_31, l_32, xs3n, xs3i, xs3r, xi3, xi2, x_k1_s, x_k3_20, xn3n, xn3i, xn3r, e170_0, e170_1, e170_2, e170_4, e170_7, e170_10, e170_11, e170_13, e170_16, e170_17, e170_18, e170_19, e170_20, e170_21, e170_24, e170_25, e170_26, e170_27, e170_28, e170_29, e170_31, e170_34, e170_35, e170_38, e170_39, e170_42, e170_43, e170_46, e170_49, e170_50, e170_51, e170_52, e170_55, e170_58, e170_59, e170_62, e170_63, e170_64, e170_67, e170_70, e170_71, e170_72, e170_75, c170, i10, i00, n2, n10, n20, n60, n8, n9, bi0, ite_not, List.replicate, Nat.reduceAdd, Nat.reduceSub, Nat.reduceLeDiff, Nat.reduceLT, if_true, if_false, mg, reduceIte, not_false_eq_true, eq_self, and_self, and_true, true_and, true_or, or_true, Nat.reduceEqDiff, np, m1_lt, h1, (bi_f cH), e1]
    · subst w4
      have hw8 : w < 256 := by omega
      have tw := fun M => t_bits6 (X := X) (M := M) hw8
      have nw := nI_pos (show w < 2 ^ 31 by omega)
      have pk := pc8 k hk8
      have pw := pc8 w hw8
      have el : (nI (pcN w) < nI (pcN k)) = (pcN w < pcN k) := propext (nI_ltI (by omega) (by omega))
      by_cases cl : pcN w < pcN k
      · obtain ⟨S2, b', k2, a2, o2, h2⟩ := ih (nI w) S (by omega) hS (Or.inr ⟨w, by omega, w2, w3, rfl, fun u hu hu2 hH => if q : u = k then ⟨by rw [q]; omega, fun _ => by rw [q]; exact cl⟩ else w5 u (by omega) hu2 hH⟩)
        refine ⟨S2, b', k2, a2, o2, ?_⟩
        rw [← h2, e170_30, e]
        simp only [nl_n, nl_i, nl_r, x_ci, x_ca, x_bin, x_ife, x_ifl, x_ifg, x_cme, x_cml, x_cmg, x_go, x_no, x_b, x_ps, x_pn, cs_n, cs_i, cs_j, cs_r, en_n, en_i, en_j, en_r, xi1, x_k3_s, xa0, x_k2_20, r_i, r_j, r_v, r_z1, r_z0, r_a, xs2n, xs2i, xs2r, g_20_0, l_3, l_5, l_8, l_11, l_12, l_21, l_22, l_23, l_24, l_25, l_26, l_28, l_29, l_30, l_31, l_32, xs3n, xs3i, xs3r, xi3, xi2, x_k1_s, x_k3_20, xn3n, xn3i, xn3r, e170_0, e170_1, e170_2, e170_4, e170_7, e170_10, e170_11, e170_13, e170_16, e170_17, e170_18, e170_19, e170_20, e170_21, e170_24, e170_25, e170_26, e170_27, e170_28, e170_29, e170_31, e170_34, e170_35, e170_38, e170_39, e170_42, e170_43, e170_46, e170_49, e170_50, e170_51, e170_52, e170_55, e170_58, e170_59, e170_62, e170_63, e170_64, e170_67, e170_70, e170_71, e170_72, e170_75, c170, i10, i00, n2, n10, n20, n60, n8, n9, bi0, ite_not, List.replicate, Nat.reduceAdd, Nat.reduceSub, Nat.reduceLeDiff, Nat.reduceLT, if_true, if_false, mg, reduceIte, not_false_eq_true, eq_self, and_self, and_true, true_and, true_or, or_true, Nat.reduceEqDiff, np, nw, tb, tw, el, cl, e1]
      · by_cases cH : huP n c (nI k) r0
        · obtain ⟨S2, b', k2, a2, o2, h2⟩ := ih (nI k) S1 (by omega) hS1 (Or.inr ⟨k, Nat.le_refl k, by omega, cH, rfl, fun u hu hu2 hH => if q : u = k then ⟨by rw [q]; exact Nat.le_refl _, fun z => by omega⟩ else ⟨by have := (w5 u (by omega) hu2 hH).1; omega, fun z => by omega⟩⟩)
          refine ⟨S2, b', kp_tr k1 k2, a2, o2, ?_⟩
          rw [← h2, e170_30, e]
          simp only [nl_n, nl_i, nl_r, x_ci, x_ca, x_bin, x_ife, x_ifl, x_ifg, x_cme, x_cml, x_cmg, x_go, x_no, x_b, x_ps, x_pn, cs_n, cs_i, cs_j, cs_r, en_n, en_i, en_j, en_r, xi1, x_k3_s, xa0, x_k2_20, r_i, r_j, r_v, r_z1, r_z0, r_a, xs2n, xs2i, xs2r, g_20_0, l_3, l_5, l_8, l_11, l_12, l_21, l_22, l_23, l_24, l_25, l_26, l_28, l_29, l_30, l_31, l_32, xs3n, xs3i, xs3r, xi3, xi2, x_k1_s, x_k3_20, xn3n, xn3i, xn3r, e170_0, e170_1, e170_2, e170_4, e170_7, e170_10, e170_11, e170_13, e170_16, e170_17, e170_18, e170_19, e170_20, e170_21, e170_24, e170_25, e170_26, e170_27, e170_28, e170_29, e170_31, e170_34, e170_35, e170_38, e170_39, e170_42, e170_43, e170_46, e170_49, e170_50, e170_51, e170_52, e170_55, e170_58, e170_59, e170_62, e170_63, e170_64, e170_67, e170_70, e170_71, e170_72, e170_75, c170, i10, i00, n2, n10, n20, n60, n8, n9, bi0, ite_not, List.replicate, Nat.reduceAdd, Nat.reduceSub, Nat.reduceLeDiff, Nat.reduceLT, if_true, if_false, mg, reduceIte, not_false_eq_true, eq_self, and_self, and_true, true_and, true_or, or_true, Nat.reduceEqDiff, np, nw, tb, tw, el, cl, h1, (bi_t cH), e1]
        · obtain ⟨S2, b', k2, a2, o2, h2⟩ := ih (nI w) S1 (by omega) hS1 (Or.inr ⟨w, by omega, w2, w3, rfl, fun u hu hu2 hH => if q : u = k then absurd hH (by rw [q]; exact cH) else w5 u (by omega) hu2 hH⟩)
          refine ⟨S2, b', kp_tr k1 k2, a2, o2, ?_⟩
          rw [← h2, e170_30, e]
          simp only [nl_n, nl_i, nl_r, x_ci, x_ca, x_bin, x_ife, x_ifl, x_ifg, x_cme, x_cml, x_cmg, x_go, x_no, x_b, x_ps, x_pn, cs_n, cs_i, cs_j, cs_r, en_n, en_i, en_j, en_r, xi1, x_k3_s, xa0, x_k2_20, r_i, r_j, r_v, r_z1, r_z0, r_a, xs2n, xs2i, xs2r, g_20_0, l_3, l_5, l_8, l_11, l_12, l_21, l_22, l_23, l_24, l_25, l_26, l_28, l_29, l_30, l_31, l_32, xs3n, xs3i, xs3r, xi3, xi2, x_k1_s, x_k3_20, xn3n, xn3i, xn3r, e170_0, e170_1, e170_2, e170_4, e170_7, e170_10, e170_11, e170_13, e170_16, e170_17, e170_18, e170_19, e170_20, e170_21, e170_24, e170_25, e170_26, e170_27, e170_28, e170_29, e170_31, e170_34, e170_35, e170_38, e170_39, e170_42, e170_43, e170_46, e170_49, e170_50, e170_51, e170_52, e170_55, e170_58, e170_59, e170_62, e170_63, e170_64, e170_67, e170_70, e170_71, e170_72, e170_75, c170, i10, i00, n2, n10, n20, n60, n8, n9, bi0, ite_not, List.replicate, Nat.reduceAdd, Nat.reduceSub, Nat.reduceLeDiff, Nat.reduceLT, if_true, if_false, mg, reduceIte, not_false_eq_true, eq_self, and_self, and_true, true_and, true_or, or_true, Nat.reduceEqDiff, np, nw, tb, tw, el, cl, h1, (bi_f cH), e1]
theorem o_hush {X : aX} {S : aS} {y : Int32} (hJ : J S) : opK X 78 170 [aI y] S := by
  obtain ⟨⟨n, hR, hA⟩, hK, hD⟩ := id hJ
  have hR3 := ag_RI hA hR
  have hn := hR.1
  have hz := hR.2.1
  have hz3 := hR3.2.1
  by_cases c1 : wi y (nI 0) (nI 60)
  · obtain ⟨c, _, hc, rfl⟩ := wi_of (by decide) c1 (by decide)
    have hN := p2 hn
    obtain ⟨S1, b1, k1, o1, h1⟩ := l_hushx (X := X) (c := c) hc hR (2 ^ n) 0 (-1) (nI 9) none S (by omega) rfl (Or.inl ⟨rfl, rfl, fun u hu => by omega⟩) rfl
    have e3 : S1.1 3 = S.1 3 := k1.2 3 (by decide)
    have hx : cl X 78 [aR (0, 0, 0), aI (nI c)] (mem S) = rsO b1 S1.1 S1.2 := by
      simp only [nl_n, nl_i, nl_r, x_ci, x_ca, x_bin, x_ife, x_ifl, x_ifg, x_cme, x_cml, x_cmg, x_go, x_no, x_b, x_ps, x_pn, cs_n, cs_i, cs_j, cs_r, en_n, en_i, en_j, en_r, xi1, x_k3_s, xa0, x_k2_0, r_i, r_j, r_v, r_z1, r_z0, r_a, xs2n, xs2i, xs2r, xs3n, xs3i, xs3r, xs4n, xs4i, xs4r, xi4, g_0_0, g_1_2, x_k1_s, xs5n, xs5i, xs5r, xi5, xi3, x_k3_0, xn4n, xn4i, xn4r, xi2, e78_0, e78_1, e78_2, e78_4, e78_7, e78_10, e78_11, e78_12, e78_15, e78_16, e78_17, e78_18, e78_20, e78_21, e78_22, e78_26, e78_27, e78_28, e78_31, e78_34, e78_35, e78_38, e78_40, e78_43, e78_45, e78_47, e78_48, e78_51, e78_52, e78_54, e78_55, e78_58, e78_61, e78_63, e78_64, e78_66, e78_67, e78_70, e78_73, e78_74, e78_77, e78_78, e78_79, e78_82, e78_85, e78_86, c78, i10, i00, n2, n10, n20, n60, n8, n9, bi0, ite_not, List.replicate, Nat.reduceAdd, Nat.reduceSub, Nat.reduceLeDiff, Nat.reduceLT, if_true, if_false, mg, reduceIte, not_false_eq_true, eq_self, and_self, and_true, true_and, true_or, or_true, Nat.reduceEqDiff, t_within, (bi_t c1)]
      exact h1
    have hm : ∀ D, ∃ S2 : aS, kp (S1.1, D) S2 ∧ a94 (S2.1 3) (S.1 3) ∧ cl X 170 [aR (20, 0, 0), aI (nI c)] (mem (S1.1, D)) = if b1 = -1 then some (some (aI (-1000004)), mem (S2.1, fdD 3 S2.2)) else some (some (aI b1), mem S2) := by
      intro D
      obtain ⟨S2, b2, k2, a2, o2, h2⟩ := l_hushm (X := X) (c := c) hc hR3 (2 ^ n) (-1) (S1.1, D) (Nat.le_refl _) (fun p hp => by show S1.1 3 p = _; rw [e3]) (Or.inl ⟨rfl, fun u a b => by omega⟩)
      have eb : b1 = b2 := by
        refine okH_uq o1 ?_
        have eH : (fun u => huP n c (nI u) (S.1 0)) = (fun u => huP n c (nI u) (S.1 3)) := funext (fun u => propext (hu_c hn hA))
        rw [eH]
        exact o2
      rw [← eb] at h2
      refine ⟨S2, k2, a2, ?_⟩
      rw [← h2]
      have hz1 : S1.1 3 1 = nI n := by rw [e3]; exact hz3
      simp only [nl_n, nl_i, nl_r, x_ci, x_ca, x_bin, x_ife, x_ifl, x_ifg, x_cme, x_cml, x_cmg, x_go, x_no, x_b, x_ps, x_pn, cs_n, cs_i, cs_j, cs_r, en_n, en_i, en_j, en_r, xi1, x_k3_s, xa0, x_k2_20, r_i, r_j, r_v, r_z1, r_z0, r_a, xs2n, xs2i, xs2r, g_20_0, l_3, l_5, l_8, l_11, l_12, l_21, l_22, l_23, l_24, l_25, l_26, l_28, l_29, l_30, l_31, l_32, xs3n, xs3i, xs3r, xi3, xi2, x_k1_s, x_k3_20, xn3n, xn3i, xn3r, e170_0, e170_1, e170_2, e170_4, e170_7, e170_10, e170_11, e170_13, e170_16, e170_17, e170_18, e170_19, e170_20, e170_21, e170_24, e170_25, e170_26, e170_27, e170_28, e170_29, e170_31, e170_34, e170_35, e170_38, e170_39, e170_42, e170_43, e170_46, e170_49, e170_50, e170_51, e170_52, e170_55, e170_58, e170_59, e170_62, e170_63, e170_64, e170_67, e170_70, e170_71, e170_72, e170_75, c170, i10, i00, n2, n10, n20, n60, n8, n9, bi0, ite_not, List.replicate, Nat.reduceAdd, Nat.reduceSub, Nat.reduceLeDiff, Nat.reduceLT, if_true, if_false, mg, reduceIte, not_false_eq_true, eq_self, and_self, and_true, true_and, true_or, or_true, Nat.reduceEqDiff, t_within6, (bi_t c1), hz1, (sh2 n hn)]
    by_cases cz : b1 = -1
    · obtain ⟨S2, k2, a2, h2⟩ := hm (tlD 3 S1.2)
      rw [if_pos cz] at h2
      unfold rsO at hx
      rw [if_pos cz] at hx
      have e0 : S2.1 0 = S.1 0 := (k2.2 0 (by decide) (by decide)).trans (k1.2 0 (by decide))
      have e2 : S2.1 2 = S.1 2 := (k2.2 2 (by decide) (by decide)).trans (k1.2 2 (by decide))
      have e4 : S2.1 4 = S.1 4 := (k2.2 4 (by decide) (by decide)).trans (k1.2 4 (by decide))
      exact ⟨_, _, _, hx, h2, J_f (S := S) (D1 := S1.2) (n := n) (by decide) hJ (by rw [e0]; exact hR) (by rw [e0]; exact ag_tr hA (ag_sym (a94_ag hn a2))) e2 e4 k1.1 k2.1⟩
    · obtain ⟨S2, k2, a2, h2⟩ := hm S1.2
      rw [if_neg cz] at h2
      unfold rsO at hx
      rw [if_neg cz] at hx
      exact ⟨_, _, _, hx, h2, J_kk hJ hR hA k1 k2 (by rw [e3]; exact a94_ag hn a2)⟩
  · refine op_fin (k := 0) (w := -1000001) (by decide) hJ ?_ ?_
    · simp only [nl_n, nl_i, nl_r, x_ci, x_ca, x_bin, x_ife, x_ifl, x_ifg, x_cme, x_cml, x_cmg, x_go, x_no, x_b, x_ps, x_pn, cs_n, cs_i, cs_j, cs_r, en_n, en_i, en_j, en_r, xi1, x_k3_s, xa0, x_k2_0, r_i, r_j, r_v, r_z1, r_z0, r_a, xs2n, xs2i, xs2r, xs3n, xs3i, xs3r, xs4n, xs4i, xs4r, xi4, g_0_0, g_1_2, x_k1_s, xs5n, xs5i, xs5r, xi5, xi3, x_k3_0, xn4n, xn4i, xn4r, xi2, e78_0, e78_1, e78_2, e78_4, e78_7, e78_10, e78_11, e78_12, e78_15, e78_16, e78_17, e78_18, e78_20, e78_21, e78_22, e78_26, e78_27, e78_28, e78_31, e78_34, e78_35, e78_38, e78_40, e78_43, e78_45, e78_47, e78_48, e78_51, e78_52, e78_54, e78_55, e78_58, e78_61, e78_63, e78_64, e78_66, e78_67, e78_70, e78_73, e78_74, e78_77, e78_78, e78_79, e78_82, e78_85, e78_86, c78, i10, i00, n2, n10, n20, n60, n8, n9, bi0, ite_not, List.replicate, Nat.reduceAdd, Nat.reduceSub, Nat.reduceLeDiff, Nat.reduceLT, if_true, if_false, mg, reduceIte, not_false_eq_true, eq_self, and_self, and_true, true_and, true_or, or_true, Nat.reduceEqDiff, t_within, (bi_f c1), tel0]
    · simp only [nl_n, nl_i, nl_r, x_ci, x_ca, x_bin, x_ife, x_ifl, x_ifg, x_cme, x_cml, x_cmg, x_go, x_no, x_b, x_ps, x_pn, cs_n, cs_i, cs_j, cs_r, en_n, en_i, en_j, en_r, xi1, x_k3_s, xa0, x_k2_20, r_i, r_j, r_v, r_z1, r_z0, r_a, xs2n, xs2i, xs2r, g_20_0, l_3, l_5, l_8, l_11, l_12, l_21, l_22, l_23, l_24, l_25, l_26, l_28, l_29, l_30, l_31, l_32, xs3n, xs3i, xs3r, xi3, xi2, x_k1_s, x_k3_20, xn3n, xn3i, xn3r, e170_0, e170_1, e170_2, e170_4, e170_7, e170_10, e170_11, e170_13, e170_16, e170_17, e170_18, e170_19, e170_20, e170_21, e170_24, e170_25, e170_26, e170_27, e170_28, e170_29, e170_31, e170_34, e170_35, e170_38, e170_39, e170_42, e170_43, e170_46, e170_49, e170_50, e170_51, e170_52, e170_55, e170_58, e170_59, e170_62, e170_63, e170_64, e170_67, e170_70, e170_71, e170_72, e170_75, c170, i10, i00, n2, n10, n20, n60, n8, n9, bi0, ite_not, List.replicate, Nat.reduceAdd, Nat.reduceSub, Nat.reduceLeDiff, Nat.reduceLT, if_true, if_false, mg, reduceIte, not_false_eq_true, eq_self, and_self, and_true, true_and, true_or, or_true, Nat.reduceEqDiff, t_within6, (bi_f c1), fnd0]
