theorem uD_o {D : aD} {r r' : aL} {k k' : Nat} {x : Int32} (h : r' ≠ r ∨ k' ≠ k) : uD D r k x r' k' = D r' k' := by
  unfold uD
  rw [if_neg (fun w => h.elim (fun u => u w.1) (fun u => u w.2))]
theorem uD_c {D : aD} {r r' : aL} {k k' : Nat} {x : Int32} (h : r'.1 ≠ r.1) : uD D r k x r' k' = D r' k' := uD_o (Or.inl (fun e => h (by rw [e])))
/-- only the cells of a kind, or a place, have changed -/
theorem JD_k {D : aD} {x : Int32} (hx : x = nI 0 ∨ x = nI 1) (h : JD D) : JD (uD (uD D (0, 0, 0) 6 x) (20, 0, 0) 3 x) := by
  obtain ⟨⟨f1, f2⟩, ⟨t, t1, t2, t3, t4⟩, hs, k1, k2⟩ := h
  have o : ∀ (r : aL) j, r.1 ≠ 0 → r.1 ≠ 20 → uD (uD D (0, 0, 0) 6 x) (20, 0, 0) 3 x r j = D r j := fun r j h1 h2 => by rw [uD_c h2, uD_c h1]
  refine ⟨⟨fun j hj => ?_, ?_⟩, ⟨t, t1, ?_, ?_, fun j hj => ?_⟩, fun s h => ?_, ?_, ?_⟩
  · rw [o _ _ (by decide) (by decide), o _ _ (by decide) (by decide)]; exact f1 j hj
  · rw [o _ _ (by decide) (by decide), f2]
    exact congrArg (fun f => sumF f 7) (funext (fun j => (o (12, 0, 0) j (by decide) (by decide)).symm))
  · rw [o _ _ (by decide) (by decide)]; exact t2
  · rw [uD_o (Or.inr (by decide)), uD_c (by decide)]; exact t3
  · rw [o _ _ (by decide) (by decide), o _ _ (by decide) (by decide)]; exact t4 j hj
  · obtain ⟨b, m, h1, h2, h3, h4, h5, h6, h7, h8⟩ := hs s h
    have o10 : ∀ j, uD (uD D (0, 0, 0) 6 x) (20, 0, 0) 3 x (10, s, 0) j = D (10, s, 0) j := fun j => o _ j (Nat.ne_of_beq_eq_false rfl) (Nat.ne_of_beq_eq_false rfl)
    have o11 : ∀ j, uD (uD D (0, 0, 0) 6 x) (20, 0, 0) 3 x (11, s, 0) j = D (11, s, 0) j := fun j => o _ j (Nat.ne_of_beq_eq_false rfl) (Nat.ne_of_beq_eq_false rfl)
    exact ⟨b, m, h1, h2, h3, by rw [o10]; exact h4, by rw [o _ _ (by decide) (by decide)]; exact h5, by rw [o10]; exact h6, by rw [o _ _ (by decide) (by decide)]; exact h7, fun j hj => by rw [o11, o _ _ (by decide) (by decide)]; exact h8 j hj⟩
  · rw [uD_c (by decide), uD_at]; exact hx
  · rw [uD_at, uD_c (by decide), uD_at]
theorem JD_t {D : aD} (h : JD D) : JD (uD (uD D (7, 0, 0) 1 (nI 0)) (20, 0, 0) 8 (nI 0)) := by
  obtain ⟨⟨f1, f2⟩, ⟨t, t1, t2, t3, t4⟩, hs, k1, k2⟩ := h
  have o : ∀ (r : aL) j, r.1 ≠ 7 → r.1 ≠ 20 → uD (uD D (7, 0, 0) 1 (nI 0)) (20, 0, 0) 8 (nI 0) r j = D r j := fun r j h1 h2 => by rw [uD_c h2, uD_c h1]
  refine ⟨⟨fun j hj => ?_, ?_⟩, ⟨0, by omega, ?_, ?_, fun j hj => absurd hj (by omega)⟩, fun s h => ?_, ?_, ?_⟩
  · rw [o _ _ (by decide) (by decide), o _ _ (by decide) (by decide)]; exact f1 j hj
  · rw [o _ _ (by decide) (by decide), f2]
    exact congrArg (fun f => sumF f 7) (funext (fun j => (o (12, 0, 0) j (by decide) (by decide)).symm))
  · rw [uD_c (by decide), uD_at]
  · rw [uD_at]
  · obtain ⟨b, m, h1, h2, h3, h4, h5, h6, h7, h8⟩ := hs s h
    have o10 : ∀ j, uD (uD D (7, 0, 0) 1 (nI 0)) (20, 0, 0) 8 (nI 0) (10, s, 0) j = D (10, s, 0) j := fun j => o _ j (Nat.ne_of_beq_eq_false rfl) (Nat.ne_of_beq_eq_false rfl)
    have o11 : ∀ j, uD (uD D (7, 0, 0) 1 (nI 0)) (20, 0, 0) 8 (nI 0) (11, s, 0) j = D (11, s, 0) j := fun j => o _ j (Nat.ne_of_beq_eq_false rfl) (Nat.ne_of_beq_eq_false rfl)
    exact ⟨b, m, h1, h2, h3, by rw [o10]; exact h4, by rw [o _ _ (by decide) (by decide)]; exact h5, by rw [o10]; exact h6, by rw [o _ _ (by decide) (by decide)]; exact h7, fun j hj => by rw [o11, o _ _ (by decide) (by decide)]; exact h8 j hj⟩
  · rw [o _ _ (by decide) (by decide)]; exact k1
  · rw [uD_o (Or.inr (by decide)), uD_c (by decide), o _ _ (by decide) (by decide)]; exact k2
theorem o_seed {X : aX} {S : aS} {v : Int32} (hJ : J S) : opK X 85 182 [aI v] S := by
  obtain ⟨⟨n, hR, hA⟩, hK, hD⟩ := id hJ
  have hR3 := ag_RI hA hR
  have hn := hR.1
  have hz := hR.2.1
  have hz3 := hR3.2.1
  have t := t_bec6 (X := X) (q := rq S.1 0 (upd (S.1 0) 2 v)) (D := S.2) (r := S.1 3) (p := 2) (v := v) (by decide)
  rw [show rq (rq S.1 0 (upd (S.1 0) 2 v)) 3 (S.1 3) = rq S.1 0 (upd (S.1 0) 2 v) by rw [rq_sw (by decide), rq_self]] at t
  refine ⟨aI (S.1 0 2), (rq S.1 0 (upd (S.1 0) 2 v), S.2), (rq (rq S.1 0 (upd (S.1 0) 2 v)) 3 (upd (S.1 3) 2 v), S.2), ?_, ?_, ?_⟩
  · simp only [nl_n, nl_i, nl_r, x_ci, x_ca, x_bin, x_ife, x_ifl, x_ifg, x_cme, x_cml, x_cmg, x_go, x_no, x_b, x_ps, x_pn, cs_n, cs_i, cs_j, cs_r, en_n, en_i, en_j, en_r, xa0, g_0_0, g_1_5, xs2n, xs2i, xs2r, xi1, p_1_5, xi2, r_i, r_j, r_v, r_z1, r_z0, r_a, e85_0, e85_1, e85_4, e85_7, e85_8, e85_9, e85_12, e85_13, e85_16, e85_17, c85, i10, i00, n2, n10, n20, n60, n8, n9, bi0, ite_not, List.replicate, Nat.reduceAdd, Nat.reduceSub, Nat.reduceLeDiff, Nat.reduceLT, if_true, if_false, mg, reduceIte, not_false_eq_true, eq_self, and_self, and_true, true_and, true_or, or_true, Nat.reduceEqDiff, uq_rq]
  · simp only [nl_n, nl_i, nl_r, x_ci, x_ca, x_bin, x_ife, x_ifl, x_ifg, x_cme, x_cml, x_cmg, x_go, x_no, x_b, x_ps, x_pn, cs_n, cs_i, cs_j, cs_r, en_n, en_i, en_j, en_r, xa0, xi1, x_k3_20, r_i, r_j, r_v, r_z1, r_z0, r_a, e182_0, e182_1, e182_2, e182_3, e182_6, c182, i10, i00, n2, n10, n20, n60, n8, n9, bi0, ite_not, List.replicate, Nat.reduceAdd, Nat.reduceSub, Nat.reduceLeDiff, Nat.reduceLT, if_true, if_false, mg, reduceIte, not_false_eq_true, eq_self, and_self, and_true, true_and, true_or, or_true, Nat.reduceEqDiff, t]
    rw [hA 2 (by omega)]
  · exact J_new hJ (RI_2 hR) (ag_u hA rfl) rfl rfl (eqJ_rfl _)
theorem RI_sp {n j : Nat} {r : Nat → Int32} {x : Int32} (h : RI n r) (hj : j < 10) (hx : ans n x) : RI n (upd r (4 + j) x) := ⟨h.1, by rw [pk_un (by omega)]; exact h.2.1, by rw [pk_un (by omega)]; exact h.2.2.1, by rw [pk_un (by omega)]; exact h.2.2.2.1, fun i hi => by
  by_cases c : i = j
  · subst c; rw [pk_us]; exact hx
  · rw [pk_un (by omega)]; exact h.2.2.2.2.1 i hi, fun i hi f hf => by rw [pk_un (by omega)]; exact h.2.2.2.2.2 i hi f hf⟩
theorem t_isSpot {X : aX} {M : aM} {v : Int32} : cl X 196 [aI v] M = some (some (aI (bi (wi v (nI 0) (nI 9)))), M) := by
  simp only [nl_n, nl_i, nl_r, x_ci, x_ca, x_bin, x_ife, x_ifl, x_ifg, x_cme, x_cml, x_cmg, x_go, x_no, x_b, x_ps, x_pn, cs_n, cs_i, cs_j, cs_r, en_n, en_i, en_j, en_r, xi0, x_k3_s, r_i, r_j, r_v, r_z1, r_z0, r_a, e196_0, e196_1, e196_2, e196_4, e196_7, c196, i10, i00, n2, n10, n20, n60, n8, n9, bi0, ite_not, List.replicate, Nat.reduceAdd, Nat.reduceSub, Nat.reduceLeDiff, Nat.reduceLT, if_true, if_false, mg, reduceIte, not_false_eq_true, eq_self, and_self, and_true, true_and, true_or, or_true, Nat.reduceEqDiff, t_within6, biz]
theorem o_hold {X : aX} {S : aS} {x y : Int32} (hJ : J S) : opK X 89 197 [aI x, aI y] S := by
  obtain ⟨⟨n, hR, hA⟩, hK, hD⟩ := id hJ
  have hR3 := ag_RI hA hR
  have hn := hR.1
  have hz := hR.2.1
  have hz3 := hR3.2.1
  by_cases c1 : wi x (nI 0) (nI 9)
  · obtain ⟨j, _, hj, rfl⟩ := wi_of (by decide) c1 (by decide)
    have hj10 : j < 10 := by omega
    have hp : 4 + j < 94 := by omega
    by_cases c2 : y = -1
    · refine ⟨aI (nI 1), (rq S.1 0 (upd (S.1 0) (4 + j) y), S.2), (rq (rq S.1 0 (upd (S.1 0) (4 + j) y)) 3 (upd (S.1 3) (4 + j) y), S.2), ?_, ?_, ?_⟩
      · simp only [nl_n, nl_i, nl_r, x_ci, x_ca, x_bin, x_ife, x_ifl, x_ifg, x_cme, x_cml, x_cmg, x_go, x_no, x_b, x_ps, x_pn, cs_n, cs_i, cs_j, cs_r, en_n, en_i, en_j, en_r, xi1, x_k3_s, xi2, xa0, g_0_0, x_k2_1, x_k2_0, r_i, r_j, r_v, r_z1, r_z0, r_a, g_1_1, s_3, s_5, s_8, s_11, s_12, s_21, s_22, s_23, s_24, s_25, s_26, s_28, s_29, s_30, s_31, s_32, e89_0, e89_1, e89_2, e89_4, e89_7, e89_10, e89_11, e89_12, e89_15, e89_16, e89_19, e89_20, e89_23, e89_26, e89_27, e89_28, e89_31, e89_32, e89_33, e89_36, e89_39, e89_40, e89_41, e89_42, e89_43, c89, i10, i00, n2, n10, n20, n60, n8, n9, bi0, ite_not, List.replicate, Nat.reduceAdd, Nat.reduceSub, Nat.reduceLeDiff, Nat.reduceLT, if_true, if_false, mg, reduceIte, not_false_eq_true, eq_self, and_self, and_true, true_and, true_or, or_true, Nat.reduceEqDiff, t_within, (bi_t c1), c2, hj10, uq_rq]
      · simp only [nl_n, nl_i, nl_r, x_ci, x_ca, x_bin, x_ife, x_ifl, x_ifg, x_cme, x_cml, x_cmg, x_go, x_no, x_b, x_ps, x_pn, cs_n, cs_i, cs_j, cs_r, en_n, en_i, en_j, en_r, xi1, x_k1_s, xi2, xa0, x_k2_20, r_i, r_j, r_v, r_z1, r_z0, r_a, g_20_0, s_3, s_5, s_8, s_11, s_12, s_21, s_22, s_23, s_24, s_25, s_26, s_28, s_29, s_30, s_31, s_32, e197_0, e197_1, e197_4, e197_7, e197_8, e197_9, e197_12, e197_13, e197_14, e197_17, e197_20, e197_21, e197_23, e197_26, e197_27, e197_28, e197_31, e197_32, e197_33, e197_34, e197_35, e197_36, e197_37, c197, i10, i00, n2, n10, n20, n60, n8, n9, bi0, ite_not, List.replicate, Nat.reduceAdd, Nat.reduceSub, Nat.reduceLeDiff, Nat.reduceLT, if_true, if_false, mg, reduceIte, not_false_eq_true, eq_self, and_self, and_true, true_and, true_or, or_true, Nat.reduceEqDiff, t_isSpot, (bi_t c1), c2, nI_add, hp, uq_rq]
        rfl
      · exact J_new hJ (RI_sp hR hj10 (Or.inl c2)) (ag_u hA rfl) rfl rfl (eqJ_rfl _)
    · by_cases c3 : hsP n y
      · refine ⟨aI (nI 1), (rq S.1 0 (upd (S.1 0) (4 + j) y), S.2), (rq (rq S.1 0 (upd (S.1 0) (4 + j) y)) 3 (upd (S.1 3) (4 + j) y), S.2), ?_, ?_, ?_⟩
        · simp only [nl_n, nl_i, nl_r, x_ci, x_ca, x_bin, x_ife, x_ifl, x_ifg, x_cme, x_cml, x_cmg, x_go, x_no, x_b, x_ps, x_pn, cs_n, cs_i, cs_j, cs_r, en_n, en_i, en_j, en_r, xi1, x_k3_s, xi2, xa0, g_0_0, x_k2_1, x_k2_0, r_i, r_j, r_v, r_z1, r_z0, r_a, g_1_1, s_3, s_5, s_8, s_11, s_12, s_21, s_22, s_23, s_24, s_25, s_26, s_28, s_29, s_30, s_31, s_32, e89_0, e89_1, e89_2, e89_4, e89_7, e89_10, e89_11, e89_12, e89_15, e89_16, e89_19, e89_20, e89_23, e89_26, e89_27, e89_28, e89_31, e89_32, e89_33, e89_36, e89_39, e89_40, e89_41, e89_42, e89_43, c89, i10, i00, n2, n10, n20, n60, n8, n9, bi0, ite_not, List.replicate, Nat.reduceAdd, Nat.reduceSub, Nat.reduceLeDiff, Nat.reduceLT, if_true, if_false, mg, reduceIte, not_false_eq_true, eq_self, and_self, and_true, true_and, true_or, or_true, Nat.reduceEqDiff, t_within, (bi_t c1), c2, (t_has (a := 0) (by decide) hz), (bi_t c3), hj10, uq_rq]
        · simp only [nl_n, nl_i, nl_r, x_ci, x_ca, x_bin, x_ife, x_ifl, x_ifg, x_cme, x_cml, x_cmg, x_go, x_no, x_b, x_ps, x_pn, cs_n, cs_i, cs_j, cs_r, en_n, en_i, en_j, en_r, xi1, x_k1_s, xi2, xa0, x_k2_20, r_i, r_j, r_v, r_z1, r_z0, r_a, g_20_0, s_3, s_5, s_8, s_11, s_12, s_21, s_22, s_23, s_24, s_25, s_26, s_28, s_29, s_30, s_31, s_32, e197_0, e197_1, e197_4, e197_7, e197_8, e197_9, e197_12, e197_13, e197_14, e197_17, e197_20, e197_21, e197_23, e197_26, e197_27, e197_28, e197_31, e197_32, e197_33, e197_34, e197_35, e197_36, e197_37, c197, i10, i00, n2, n10, n20, n60, n8, n9, bi0, ite_not, List.replicate, Nat.reduceAdd, Nat.reduceSub, Nat.reduceLeDiff, Nat.reduceLT, if_true, if_false, mg, reduceIte, not_false_eq_true, eq_self, and_self, and_true, true_and, true_or, or_true, Nat.reduceEqDiff, t_isSpot, (bi_t c1), c2, (t_isS (X := X) (S := (rq S.1 0 (upd (S.1 0) (4 + j) y), S.2)) (x := y) hn hz3), (bi_t c3), nI_add, hp, uq_rq]
          rfl
        · obtain ⟨k, hk, ek⟩ := has_of hn c3
          exact J_new hJ (RI_sp hR hj10 (Or.inr ⟨k, hk, ek⟩)) (ag_u hA rfl) rfl rfl (eqJ_rfl _)
      · refine op_fin (k := 0) (w := -1000001) (by decide) hJ ?_ ?_
        · simp only [nl_n, nl_i, nl_r, x_ci, x_ca, x_bin, x_ife, x_ifl, x_ifg, x_cme, x_cml, x_cmg, x_go, x_no, x_b, x_ps, x_pn, cs_n, cs_i, cs_j, cs_r, en_n, en_i, en_j, en_r, xi1, x_k3_s, xi2, xa0, g_0_0, x_k2_1, x_k2_0, r_i, r_j, r_v, r_z1, r_z0, r_a, g_1_1, s_3, s_5, s_8, s_11, s_12, s_21, s_22, s_23, s_24, s_25, s_26, s_28, s_29, s_30, s_31, s_32, e89_0, e89_1, e89_2, e89_4, e89_7, e89_10, e89_11, e89_12, e89_15, e89_16, e89_19, e89_20, e89_23, e89_26, e89_27, e89_28, e89_31, e89_32, e89_33, e89_36, e89_39, e89_40, e89_41, e89_42, e89_43, c89, i10, i00, n2, n10, n20, n60, n8, n9, bi0, ite_not, List.replicate, Nat.reduceAdd, Nat.reduceSub, Nat.reduceLeDiff, Nat.reduceLT, if_true, if_false, mg, reduceIte, not_false_eq_true, eq_self, and_self, and_true, true_and, true_or, or_true, Nat.reduceEqDiff, t_within, (bi_t c1), c2, (t_has (a := 0) (by decide) hz), (bi_f c3), tel0]
        · simp only [nl_n, nl_i, nl_r, x_ci, x_ca, x_bin, x_ife, x_ifl, x_ifg, x_cme, x_cml, x_cmg, x_go, x_no, x_b, x_ps, x_pn, cs_n, cs_i, cs_j, cs_r, en_n, en_i, en_j, en_r, xi1, x_k1_s, xi2, xa0, x_k2_20, r_i, r_j, r_v, r_z1, r_z0, r_a, g_20_0, s_3, s_5, s_8, s_11, s_12, s_21, s_22, s_23, s_24, s_25, s_26, s_28, s_29, s_30, s_31, s_32, e197_0, e197_1, e197_4, e197_7, e197_8, e197_9, e197_12, e197_13, e197_14, e197_17, e197_20, e197_21, e197_23, e197_26, e197_27, e197_28, e197_31, e197_32, e197_33, e197_34, e197_35, e197_36, e197_37, c197, i10, i00, n2, n10, n20, n60, n8, n9, bi0, ite_not, List.replicate, Nat.reduceAdd, Nat.reduceSub, Nat.reduceLeDiff, Nat.reduceLT, if_true, if_false, mg, reduceIte, not_false_eq_true, eq_self, and_self, and_true, true_and, true_or, or_true, Nat.reduceEqDiff, t_isSpot, (bi_t c1), c2, (fun D x => t_isS (X := X) (S := (S.1, D)) (x := x) hn hz3), (bi_f c3), fnd0]
  · refine op_fin (k := 0) (w := -1000001) (by decide) hJ ?_ ?_
    · simp only [nl_n, nl_i, nl_r, x_ci, x_ca, x_bin, x_ife, x_ifl, x_ifg, x_cme, x_cml, x_cmg, x_go, x_no, x_b, x_ps, x_pn, cs_n, cs_i, cs_j, cs_r, en_n, en_i, en_j, en_r, xi1, x_k3_s, xi2, xa0, g_0_0, x_k2_1, x_k2_0, r_i, r_j, r_v, r_z1, r_z0, r_a, g_1_1, s_3, s_5, s_8, s_11, s_12, s_21, s_22, s_23, s_24, s_25, s_26, s_28, s_29, s_30, s_31, s_32, e89_0, e89_1, e89_2, e89_4, e89_7, e89_10, e89_11, e89_12, e89_15, e89_16, e89_19, e89_20, e89_23, e89_26, e89_27, e89_28, e89_31, e89_32, e89_33, e89_36, e89_39, e89_40, e89_41, e89_42, e89_43, c89, i10, i00, n2, n10, n20, n60, n8, n9, bi0, ite_not, List.replicate, Nat.reduceAdd, Nat.reduceSub, Nat.reduceLeDiff, Nat.reduceLT, if_true, if_false, mg, reduceIte, not_false_eq_true, eq_self, and_self, and_true, true_and, true_or, or_true, Nat.reduceEqDiff, t_within, (bi_f c1), tel0]
    · simp only [nl_n, nl_i, nl_r, x_ci, x_ca, x_bin, x_ife, x_ifl, x_ifg, x_cme, x_cml, x_cmg, x_go, x_no, x_b, x_ps, x_pn, cs_n, cs_i, cs_j, cs_r, en_n, en_i, en_j, en_r, xi1, x_k1_s, xi2, xa0, x_k2_20, r_i, r_j, r_v, r_z1, r_z0, r_a, g_20_0, s_3, s_5, s_8, s_11, s_12, s_21, s_22, s_23, s_24, s_25, s_26, s_28, s_29, s_30, s_31, s_32, e197_0, e197_1, e197_4, e197_7, e197_8, e197_9, e197_12, e197_13, e197_14, e197_17, e197_20, e197_21, e197_23, e197_26, e197_27, e197_28, e197_31, e197_32, e197_33, e197_34, e197_35, e197_36, e197_37, c197, i10, i00, n2, n10, n20, n60, n8, n9, bi0, ite_not, List.replicate, Nat.reduceAdd, Nat.reduceSub, Nat.reduceLeDiff, Nat.reduceLT, if_true, if_false, mg, reduceIte, not_false_eq_true, eq_self, and_self, and_true, true_and, true_or, or_true, Nat.reduceEqDiff, t_isSpot, (bi_f c1), fnd0]
theorem o_wipe {X : aX} {S : aS} (hJ : J S) : opK X 87 184 [] S := by
  obtain ⟨⟨n, hR, hA⟩, hK, hD⟩ := id hJ
  have hR3 := ag_RI hA hR
  have hn := hR.1
  have hz := hR.2.1
  have hz3 := hR3.2.1
  obtain ⟨t, t1, t2, t3, t4⟩ := hD.2.1
  refine ⟨aI (nI t), (S.1, uD S.2 (7, 0, 0) 1 (nI 0)), (S.1, uD (uD S.2 (7, 0, 0) 1 (nI 0)) (20, 0, 0) 8 (nI 0)), ?_, ?_, ?_⟩
  · simp only [nl_n, nl_i, nl_r, x_ci, x_ca, x_bin, x_ife, x_ifl, x_ifg, x_cme, x_cml, x_cmg, x_go, x_no, x_b, x_ps, x_pn, cs_n, cs_i, cs_j, cs_r, en_n, en_i, en_j, en_r, xa0, g_0_3, g_6_0, g_7_1, xs1n, xs1i, xs1r, p_7_1, xi1, r_i, r_j, r_v, r_z1, r_z0, r_a, e87_0, e87_1, e87_4, e87_7, e87_10, e87_11, e87_12, e87_15, e87_18, e87_19, e87_22, e87_23, c87, i10, i00, n2, n10, n20, n60, n8, n9, bi0, ite_not, List.replicate, Nat.reduceAdd, Nat.reduceSub, Nat.reduceLeDiff, Nat.reduceLT, if_true, if_false, mg, reduceIte, not_false_eq_true, eq_self, and_self, and_true, true_and, true_or, or_true, Nat.reduceEqDiff, t2]
  · have e : uD S.2 (7, 0, 0) 1 (nI 0) (20, 0, 0) 8 = nI t := (uD_c (by decide)).trans t3
    simp only [nl_n, nl_i, nl_r, x_ci, x_ca, x_bin, x_ife, x_ifl, x_ifg, x_cme, x_cml, x_cmg, x_go, x_no, x_b, x_ps, x_pn, cs_n, cs_i, cs_j, cs_r, en_n, en_i, en_j, en_r, xa0, g_20_8, xs1n, xs1i, xs1r, p_20_8, xi1, r_i, r_j, r_v, r_z1, r_z0, r_a, e184_0, e184_1, e184_4, e184_5, e184_6, e184_7, e184_10, e184_11, c184, i10, i00, n2, n10, n20, n60, n8, n9, bi0, ite_not, List.replicate, Nat.reduceAdd, Nat.reduceSub, Nat.reduceLeDiff, Nat.reduceLT, if_true, if_false, mg, reduceIte, not_false_eq_true, eq_self, and_self, and_true, true_and, true_or, or_true, Nat.reduceEqDiff, e]
  · exact ⟨⟨n, hR, hA⟩, fun w => hK ((show S.2 (0, 0, 0) 6 = uD (uD S.2 (7, 0, 0) 1 (nI 0)) (20, 0, 0) 8 (nI 0) (0, 0, 0) 6 by rw [uD_c (by decide), uD_c (by decide)]).trans w), JD_t hD⟩
theorem o_image {X : aX} {S : aS} (hJ : J S) : opK X 96 208 [] S := by
  obtain ⟨⟨n, hR, hA⟩, hK, hD⟩ := id hJ
  have hR3 := ag_RI hA hR
  have hn := hR.1
  have hz := hR.2.1
  have hz3 := hR3.2.1
  refine ⟨aI (nI 1), (rq S.1 2 (mixR n (S.1 2) (S.1 0)), uD S.2 (0, 0, 0) 6 (nI 1)), (rq (rq S.1 2 (mixR n (S.1 2) (S.1 0))) 4 (row94 (S.1 4) (S.1 3)), uD (uD S.2 (0, 0, 0) 6 (nI 1)) (20, 0, 0) 3 (nI 1)), ?_, ?_, ?_⟩
  · simp only [nl_n, nl_i, nl_r, x_ci, x_ca, x_bin, x_ife, x_ifl, x_ifg, x_cme, x_cml, x_cmg, x_go, x_no, x_b, x_ps, x_pn, cs_n, cs_i, cs_j, cs_r, en_n, en_i, en_j, en_r, xa0, g_0_2, g_0_0, x_k2_1, p_0_6, r_i, r_j, r_v, r_z1, r_z0, r_a, e96_0, e96_1, e96_4, e96_5, e96_8, e96_11, e96_12, e96_13, e96_16, e96_17, c96, i10, i00, n2, n10, n20, n60, n8, n9, bi0, ite_not, List.replicate, Nat.reduceAdd, Nat.reduceSub, Nat.reduceLeDiff, Nat.reduceLT, if_true, if_false, mg, reduceIte, not_false_eq_true, eq_self, and_self, and_true, true_and, true_or, or_true, Nat.reduceEqDiff, (t_becS (S := S) (a := 2) (a2 := 0) (by decide) (by decide) (by decide) hn hz), o01]
  · have h := t_cp01 (X := X) (q := rq S.1 2 (mixR n (S.1 2) (S.1 0))) (r' := S.1 4) (D := uD S.2 (0, 0, 0) 6 (nI 1))
    rw [show rq (rq S.1 2 (mixR n (S.1 2) (S.1 0))) 4 (S.1 4) = rq S.1 2 (mixR n (S.1 2) (S.1 0)) by rw [rq_sw (by decide), rq_self]] at h
    simp only [nl_n, nl_i, nl_r, x_ci, x_ca, x_bin, x_ife, x_ifl, x_ifg, x_cme, x_cml, x_cmg, x_go, x_no, x_b, x_ps, x_pn, cs_n, cs_i, cs_j, cs_r, en_n, en_i, en_j, en_r, xa0, g_20_0, g_20_1, x_k2_s, p_20_3, r_i, r_j, r_v, r_z1, r_z0, r_a, e208_0, e208_1, e208_4, e208_5, e208_8, e208_11, e208_12, e208_13, e208_16, e208_17, c208, i10, i00, n2, n10, n20, n60, n8, n9, bi0, ite_not, List.replicate, Nat.reduceAdd, Nat.reduceSub, Nat.reduceLeDiff, Nat.reduceLT, if_true, if_false, mg, reduceIte, not_false_eq_true, eq_self, and_self, and_true, true_and, true_or, or_true, Nat.reduceEqDiff, h, o01]
    rfl
  · refine ⟨⟨n, hR, hA⟩, fun _ => ⟨n, ?_, ?_⟩, JD_k (Or.inr rfl) hD⟩
    · show RI n (mixR n (S.1 2) (S.1 0))
      exact ag_RI (ag_sym (ag_mix n _ _)) hR
    · show ag n (mixR n (S.1 2) (S.1 0)) (row94 (S.1 4) (S.1 3))
      exact ag_tr (ag_mix n _ _) (ag_tr hA (ag_sym (ag_94 hn _ _)))
theorem op_f3 {X : aX} {a b : Nat} {as : List aV} {S : aS} (hJ : J S) (hx : cl X a (aR (0, 0, 0) :: as) (mem S) = some (some (aI (-1000004)), mem (S.1, tlD 3 S.2))) (hm : cl X b (aR (20, 0, 0) :: as) (mem (S.1, tlD 3 S.2)) = some (some (aI (-1000004)), mem (S.1, fdD 3 (tlD 3 S.2)))) : opK X a b as S := op_fin (by decide) hJ hx hm
theorem o_undo {X : aX} {S : aS} (hJ : J S) : opK X 97 209 [] S := by
  obtain ⟨⟨n, hR, hA⟩, hK, hD⟩ := id hJ
  have hR3 := ag_RI hA hR
  have hn := hR.1
  have hz := hR.2.1
  have hz3 := hR3.2.1
  obtain ⟨k1, k2⟩ := hD.2.2.2
  rcases k1 with k1 | k1
  · refine op_f3 hJ ?_ ?_
    · simp only [nl_n, nl_i, nl_r, x_ci, x_ca, x_bin, x_ife, x_ifl, x_ifg, x_cme, x_cml, x_cmg, x_go, x_no, x_b, x_ps, x_pn, cs_n, cs_i, cs_j, cs_r, en_n, en_i, en_j, en_r, xa0, g_0_6, x_k2_0, r_i, r_j, r_v, r_z1, r_z0, r_a, g_0_0, g_0_2, x_k2_1, g_1_3, e97_0, e97_1, e97_4, e97_7, e97_8, e97_9, e97_12, e97_13, e97_14, e97_17, e97_18, e97_21, e97_24, e97_25, e97_28, e97_31, c97, i10, i00, n2, n10, n20, n60, n8, n9, bi0, ite_not, List.replicate, Nat.reduceAdd, Nat.reduceSub, Nat.reduceLeDiff, Nat.reduceLT, if_true, if_false, mg, reduceIte, not_false_eq_true, eq_self, and_self, and_true, true_and, true_or, or_true, Nat.reduceEqDiff, k1, tel3]
    · have e : tlD 3 S.2 (20, 0, 0) 3 = nI 0 := (uD_c (by decide)).trans (k2.trans k1)
      simp only [nl_n, nl_i, nl_r, x_ci, x_ca, x_bin, x_ife, x_ifl, x_ifg, x_cme, x_cml, x_cmg, x_go, x_no, x_b, x_ps, x_pn, cs_n, cs_i, cs_j, cs_r, en_n, en_i, en_j, en_r, xa0, g_20_3, x_k2_20, r_i, r_j, r_v, r_z1, r_z0, r_a, g_20_1, g_20_0, x_k2_s, l_3, l_5, l_8, l_11, l_12, l_21, l_22, l_23, l_24, l_25, l_26, l_28, l_29, l_30, l_31, l_32, e209_0, e209_1, e209_4, e209_7, e209_8, e209_10, e209_13, e209_14, e209_15, e209_18, e209_19, e209_22, e209_25, e209_26, e209_29, e209_30, e209_31, c209, i10, i00, n2, n10, n20, n60, n8, n9, bi0, ite_not, List.replicate, Nat.reduceAdd, Nat.reduceSub, Nat.reduceLeDiff, Nat.reduceLT, if_true, if_false, mg, reduceIte, not_false_eq_true, eq_self, and_self, and_true, true_and, true_or, or_true, Nat.reduceEqDiff, e, fnd3]
  · obtain ⟨m, hRm, hAm⟩ := hK k1
    have k3 := k2.trans k1
    refine ⟨aI (S.1 2 0), (rq S.1 0 (mixR m (S.1 0) (S.1 2)), S.2), (rq (rq S.1 0 (mixR m (S.1 0) (S.1 2))) 3 (row94 (S.1 3) (S.1 4)), S.2), ?_, ?_, ?_⟩
    · simp only [nl_n, nl_i, nl_r, x_ci, x_ca, x_bin, x_ife, x_ifl, x_ifg, x_cme, x_cml, x_cmg, x_go, x_no, x_b, x_ps, x_pn, cs_n, cs_i, cs_j, cs_r, en_n, en_i, en_j, en_r, xa0, g_0_6, x_k2_0, r_i, r_j, r_v, r_z1, r_z0, r_a, g_0_0, g_0_2, x_k2_1, g_1_3, e97_0, e97_1, e97_4, e97_7, e97_8, e97_9, e97_12, e97_13, e97_14, e97_17, e97_18, e97_21, e97_24, e97_25, e97_28, e97_31, c97, i10, i00, n2, n10, n20, n60, n8, n9, bi0, ite_not, List.replicate, Nat.reduceAdd, Nat.reduceSub, Nat.reduceLeDiff, Nat.reduceLT, if_true, if_false, mg, reduceIte, not_false_eq_true, eq_self, and_self, and_true, true_and, true_or, or_true, Nat.reduceEqDiff, k1, (t_becS (S := S) (a := 0) (a2 := 2) (by decide) (by decide) (by decide) hRm.1 hRm.2.1), rq_at]
      rw [show mixR m (S.1 0) (S.1 2) 0 = S.1 2 0 from if_pos (by omega)]
    · have h := t_cp10 (X := X) (q := rq S.1 0 (mixR m (S.1 0) (S.1 2))) (r' := S.1 3) (D := S.2)
      rw [show rq (rq S.1 0 (mixR m (S.1 0) (S.1 2))) 3 (S.1 3) = rq S.1 0 (mixR m (S.1 0) (S.1 2)) by rw [rq_sw (by decide), rq_self]] at h
      simp only [nl_n, nl_i, nl_r, x_ci, x_ca, x_bin, x_ife, x_ifl, x_ifg, x_cme, x_cml, x_cmg, x_go, x_no, x_b, x_ps, x_pn, cs_n, cs_i, cs_j, cs_r, en_n, en_i, en_j, en_r, xa0, g_20_3, x_k2_20, r_i, r_j, r_v, r_z1, r_z0, r_a, g_20_1, g_20_0, x_k2_s, l_3, l_5, l_8, l_11, l_12, l_21, l_22, l_23, l_24, l_25, l_26, l_28, l_29, l_30, l_31, l_32, e209_0, e209_1, e209_4, e209_7, e209_8, e209_10, e209_13, e209_14, e209_15, e209_18, e209_19, e209_22, e209_25, e209_26, e209_29, e209_30, e209_31, c209, i10, i00, n2, n10, n20, n60, n8, n9, bi0, ite_not, List.replicate, Nat.reduceAdd, Nat.reduceSub, Nat.reduceLeDiff, Nat.reduceLT, if_true, if_false, mg, reduceIte, not_false_eq_true, eq_self, and_self, and_true, true_and, true_or, or_true, Nat.reduceEqDiff, k3, h, rq_at]
      rw [hAm 0 (by omega)]
      rfl
    · refine ⟨⟨m, ?_, ?_⟩, fun _ => ⟨m, hRm, hAm⟩, hD⟩
      · show RI m (mixR m (S.1 0) (S.1 2))
        exact ag_RI (ag_sym (ag_mix m _ _)) hRm
      · show ag m (mixR m (S.1 0) (S.1 2)) (row94 (S.1 3) (S.1 4))
        exact ag_tr (ag_mix m _ _) (ag_tr hAm (ag_sym (ag_94 hRm.1 _ _)))
theorem o_tear {X : aX} {S : aS} (hJ : J S) : opK X 98 210 [] S := by
  obtain ⟨⟨n, hR, hA⟩, hK, hD⟩ := id hJ
  have hR3 := ag_RI hA hR
  have hn := hR.1
  have hz := hR.2.1
  have hz3 := hR3.2.1
  obtain ⟨k1, k2⟩ := hD.2.2.2
  refine ⟨aI (S.2 (0, 0, 0) 6), (S.1, uD S.2 (0, 0, 0) 6 (nI 0)), (S.1, uD (uD S.2 (0, 0, 0) 6 (nI 0)) (20, 0, 0) 3 (nI 0)), ?_, ?_, ?_⟩
  · rcases k1 with k1 | k1
    · simp only [nl_n, nl_i, nl_r, x_ci, x_ca, x_bin, x_ife, x_ifl, x_ifg, x_cme, x_cml, x_cmg, x_go, x_no, x_b, x_ps, x_pn, cs_n, cs_i, cs_j, cs_r, en_n, en_i, en_j, en_r, xa0, g_0_6, xs1n, xs1i, xs1r, p_0_6, xi1, r_i, r_j, r_v, r_z1, r_z0, r_a, e98_0, e98_1, e98_4, e98_7, e98_8, e98_11, e98_12, e98_13, e98_14, e98_15, e98_18, e98_19, c98, i10, i00, n2, n10, n20, n60, n8, n9, bi0, ite_not, List.replicate, Nat.reduceAdd, Nat.reduceSub, Nat.reduceLeDiff, Nat.reduceLT, if_true, if_false, mg, reduceIte, not_false_eq_true, eq_self, and_self, and_true, true_and, true_or, or_true, Nat.reduceEqDiff, k1, z01]
    · simp only [nl_n, nl_i, nl_r, x_ci, x_ca, x_bin, x_ife, x_ifl, x_ifg, x_cme, x_cml, x_cmg, x_go, x_no, x_b, x_ps, x_pn, cs_n, cs_i, cs_j, cs_r, en_n, en_i, en_j, en_r, xa0, g_0_6, xs1n, xs1i, xs1r, p_0_6, xi1, r_i, r_j, r_v, r_z1, r_z0, r_a, e98_0, e98_1, e98_4, e98_7, e98_8, e98_11, e98_12, e98_13, e98_14, e98_15, e98_18, e98_19, c98, i10, i00, n2, n10, n20, n60, n8, n9, bi0, ite_not, List.replicate, Nat.reduceAdd, Nat.reduceSub, Nat.reduceLeDiff, Nat.reduceLT, if_true, if_false, mg, reduceIte, not_false_eq_true, eq_self, and_self, and_true, true_and, true_or, or_true, Nat.reduceEqDiff, k1, z01]
  · have e : uD S.2 (0, 0, 0) 6 (nI 0) (20, 0, 0) 3 = S.2 (0, 0, 0) 6 := (uD_c (by decide)).trans k2
    rcases k1 with k1 | k1
    · simp only [nl_n, nl_i, nl_r, x_ci, x_ca, x_bin, x_ife, x_ifl, x_ifg, x_cme, x_cml, x_cmg, x_go, x_no, x_b, x_ps, x_pn, cs_n, cs_i, cs_j, cs_r, en_n, en_i, en_j, en_r, xa0, g_20_3, xs1n, xs1i, xs1r, p_20_3, xi1, r_i, r_j, r_v, r_z1, r_z0, r_a, e210_0, e210_1, e210_4, e210_7, e210_8, e210_11, e210_12, e210_13, e210_14, e210_15, e210_18, e210_19, c210, i10, i00, n2, n10, n20, n60, n8, n9, bi0, ite_not, List.replicate, Nat.reduceAdd, Nat.reduceSub, Nat.reduceLeDiff, Nat.reduceLT, if_true, if_false, mg, reduceIte, not_false_eq_true, eq_self, and_self, and_true, true_and, true_or, or_true, Nat.reduceEqDiff, e, k1, z01]
    · simp only [nl_n, nl_i, nl_r, x_ci, x_ca, x_bin, x_ife, x_ifl, x_ifg, x_cme, x_cml, x_cmg, x_go, x_no, x_b, x_ps, x_pn, cs_n, cs_i, cs_j, cs_r, en_n, en_i, en_j, en_r, xa0, g_20_3, xs1n, xs1i, xs1r, p_20_3, xi1, r_i, r_j, r_v, r_z1, r_z0, r_a, e210_0, e210_1, e210_4, e210_7, e210_8, e210_11, e210_12, e210_13, e210_14, e210_15, e210_18, e210_19, c210, i10, i00, n2, n10, n20, n60, n8, n9, bi0, ite_not, List.replicate, Nat.reduceAdd, Nat.reduceSub, Nat.reduceLeDiff, Nat.reduceLT, if_true, if_false, mg, reduceIte, not_false_eq_true, eq_self, and_self, and_true, true_and, true_or, or_true, Nat.reduceEqDiff, e, k1, z01]
  · refine ⟨⟨n, hR, hA⟩, fun w => ?_, JD_k (Or.inl rfl) hD⟩
    have : uD (uD S.2 (0, 0, 0) 6 (nI 0)) (20, 0, 0) 3 (nI 0) (0, 0, 0) 6 = nI 0 := by rw [uD_c (by decide), uD_at]
    exact absurd (this.symm.trans w) (by decide +kernel)
