def cut (b v : Int32) : Int32 := if b = nI 8 then v.toInt8.toInt32 else if b = nI 16 then v.toInt16.toInt32 else v
theorem t_cutTo {X : aX} {M : aM} {b v : Int32} : cl X 200 [aI v, aI b] M = some (some (aI (cut b v)), M) := by
  simp only [nl_n, nl_i, nl_r, x_ci, x_ca, x_bin, x_ife, x_ifl, x_ifg, x_cme, x_cml, x_cmg, x_go, x_no, x_b, x_ps, x_pn, cs_n, cs_i, cs_j, cs_r, en_n, en_i, en_j, en_r, xi1, xi0, x_un, r_i, r_j, r_v, r_z1, r_z0, r_a, e200_0, e200_1, e200_3, e200_6, e200_7, e200_8, e200_11, e200_12, e200_14, e200_17, e200_18, e200_19, e200_22, e200_23, c200, i10, i00, n2, n10, n20, n60, n8, n9, bi0, ite_not, List.replicate, Nat.reduceAdd, Nat.reduceSub, Nat.reduceLeDiff, Nat.reduceLT, if_true, if_false, mg, reduceIte, not_false_eq_true, eq_self, and_self, and_true, true_and, true_or, or_true, Nat.reduceEqDiff]
  rfl
theorem wi_sz {m : Nat} {x : Int32} (hm : m ≤ 40) (h : wi x (nI 0) (nI m - nI 1)) : ∃ j, j < m ∧ x = nI j := by
  obtain ⟨h1, h2⟩ := h
  rw [nI_0] at h1
  obtain ⟨j, hj, rfl⟩ := nI_of h1
  refine ⟨j, ?_, rfl⟩
  cases m with
  | zero =>
    exfalso
    apply h2
    rw [Int32.lt_iff_toInt_lt, nI_toInt hj]
    have : (nI 0 - nI 1).toInt = -1 := by decide +kernel
    omega
  | succ m =>
    rw [show nI (m + 1) - nI 1 = nI m from nI_pred m, nI_ltI (by omega) hj] at h2
    omega
theorem t_fos {X : aX} {S : aS} {x : Int32} : (¬ wi x (nI 0) (nI 3) → cl X 109 [aR (0, 0, 0), aI x] (mem S) = some (some (aI (nI 0)), mem S)) ∧ ∀ s, s < 4 → x = nI s → cl X 109 [aR (0, 0, 0), aI x] (mem S) = some (some (aI (if S.2 (10, s, 0) 1 = 0 then nI 5 else -1)), mem S) := by
  constructor
  · intro c
    simp only [nl_n, nl_i, nl_r, x_ci, x_ca, x_bin, x_ife, x_ifl, x_ifg, x_cme, x_cml, x_cmg, x_go, x_no, x_b, x_ps, x_pn, cs_n, cs_i, cs_j, cs_r, en_n, en_i, en_j, en_r, xi1, x_k1_s, r_i, r_j, r_v, r_z1, r_z0, r_a, xa0, g_0_4, l_2, l_9, l_27, g_10_1, e109_0, e109_1, e109_4, e109_7, e109_8, e109_9, e109_10, e109_13, e109_14, e109_15, e109_18, e109_21, e109_22, e109_25, e109_26, c109, i10, i00, n2, n10, n20, n60, n8, n9, bi0, ite_not, List.replicate, Nat.reduceAdd, Nat.reduceSub, Nat.reduceLeDiff, Nat.reduceLT, if_true, if_false, mg, reduceIte, not_false_eq_true, eq_self, and_self, and_true, true_and, true_or, or_true, Nat.reduceEqDiff, t_isSh5, (bi_f c)]
  · intro s hs e
    subst e
    have c : wi (nI s) (nI 0) (nI 3) := wi_i (by omega) (by omega) (by decide)
    simp only [nl_n, nl_i, nl_r, x_ci, x_ca, x_bin, x_ife, x_ifl, x_ifg, x_cme, x_cml, x_cmg, x_go, x_no, x_b, x_ps, x_pn, cs_n, cs_i, cs_j, cs_r, en_n, en_i, en_j, en_r, xi1, x_k1_s, r_i, r_j, r_v, r_z1, r_z0, r_a, xa0, g_0_4, l_2, l_9, l_27, g_10_1, e109_0, e109_1, e109_4, e109_7, e109_8, e109_9, e109_10, e109_13, e109_14, e109_15, e109_18, e109_21, e109_22, e109_25, e109_26, c109, i10, i00, n2, n10, n20, n60, n8, n9, bi0, ite_not, List.replicate, Nat.reduceAdd, Nat.reduceSub, Nat.reduceLeDiff, Nat.reduceLT, if_true, if_false, mg, reduceIte, not_false_eq_true, eq_self, and_self, and_true, true_and, true_or, or_true, Nat.reduceEqDiff, t_isSh5, (bi_t c), hs]
theorem t_lacks {X : aX} {S : aS} {x : Int32} {g : Prop} [Decidable g] : (¬ wi x (nI 0) (nI 3) → cl X 172 [aR (20, 0, 0), aI x, aI (bi g)] (mem S) = some (some (aI (-1000001)), mem S)) ∧ ∀ s, s < 4 → x = nI s → cl X 172 [aR (20, 0, 0), aI x, aI (bi g)] (mem S) = some (some (aI (if S.2 (29, 0, 0) s = 0 then -1000006 else if g then nI 0 else -1000001)), mem S) := by
  constructor
  · intro c
    simp only [nl_n, nl_i, nl_r, x_ci, x_ca, x_bin, x_ife, x_ifl, x_ifg, x_cme, x_cml, x_cmg, x_go, x_no, x_b, x_ps, x_pn, cs_n, cs_i, cs_j, cs_r, en_n, en_i, en_j, en_r, xi1, x_k1_s, xa0, g_20_18, l_3, l_5, l_8, l_11, l_12, l_21, l_22, l_23, l_24, l_25, l_26, l_28, l_29, l_30, l_31, l_32, xi2, r_i, r_j, r_v, r_z1, r_z0, r_a, e172_0, e172_1, e172_4, e172_7, e172_9, e172_12, e172_13, e172_16, e172_17, e172_18, e172_21, e172_23, e172_26, e172_27, e172_30, e172_31, e172_34, e172_36, c172, i10, i00, n2, n10, n20, n60, n8, n9, bi0, ite_not, List.replicate, Nat.reduceAdd, Nat.reduceSub, Nat.reduceLeDiff, Nat.reduceLT, if_true, if_false, mg, reduceIte, not_false_eq_true, eq_self, and_self, and_true, true_and, true_or, or_true, Nat.reduceEqDiff, t_isSh6, (bi_f c)]
  · intro s hs e
    subst e
    have c : wi (nI s) (nI 0) (nI 3) := wi_i (by omega) (by omega) (by decide)
    simp only [nl_n, nl_i, nl_r, x_ci, x_ca, x_bin, x_ife, x_ifl, x_ifg, x_cme, x_cml, x_cmg, x_go, x_no, x_b, x_ps, x_pn, cs_n, cs_i, cs_j, cs_r, en_n, en_i, en_j, en_r, xi1, x_k1_s, xa0, g_20_18, l_3, l_5, l_8, l_11, l_12, l_21, l_22, l_23, l_24, l_25, l_26, l_28, l_29, l_30, l_31, l_32, xi2, r_i, r_j, r_v, r_z1, r_z0, r_a, e172_0, e172_1, e172_4, e172_7, e172_9, e172_12, e172_13, e172_16, e172_17, e172_18, e172_21, e172_23, e172_26, e172_27, e172_30, e172_31, e172_34, e172_36, c172, i10, i00, n2, n10, n20, n60, n8, n9, bi0, ite_not, List.replicate, Nat.reduceAdd, Nat.reduceSub, Nat.reduceLeDiff, Nat.reduceLT, if_true, if_false, mg, reduceIte, not_false_eq_true, eq_self, and_self, and_true, true_and, true_or, or_true, Nat.reduceEqDiff, t_isSh6, (bi_t c), hs]
theorem op_f5 {X : aX} {a b : Nat} {as : List aV} {S : aS} (hJ : J S) (hx : cl X a (aR (0, 0, 0) :: as) (mem S) = some (some (aI (-1000006)), mem (S.1, tlD 5 S.2))) (hm : cl X b (aR (20, 0, 0) :: as) (mem (S.1, tlD 5 S.2)) = some (some (aI (-1000006)), mem (S.1, fdD 5 (tlD 5 S.2)))) : opK X a b as S := op_fin (by decide) hJ hx hm
theorem tl_o {k : Nat} {D : aD} {r : aL} {j : Nat} (h : r.1 ≠ 12) : tlD k D r j = D r j := uD_c h
theorem t_shput {X : aX} {S : aS} {s j m : Nat} {b v : Int32} (hs : s < 4) (hm : m ≤ 40) (hj : j < m) (h1 : S.2 (10, s, 0) 1 = b) (h2 : S.2 (10, s, 0) 2 = nI m) : cl X 11 [aR (10, s, 0), aI (nI j), aI v] (mem S) = some (none, mem (S.1, uD S.2 (11, s, 0) j (cut b v))) := by
  have c : wi (nI j) (nI 0) (nI m - nI 1) := by
    rw [show nI m - nI 1 = nI (m - 1) from nI_subN (by omega)]
    exact wi_i (by omega) (by omega) (by omega)
  have hj40 : j < 40 := by omega
  simp only [nl_n, nl_i, nl_r, x_ci, x_ca, x_bin, x_ife, x_ifl, x_ifg, x_cme, x_cml, x_cmg, x_go, x_no, x_b, x_ps, x_pn, cs_n, cs_i, cs_j, cs_r, en_n, en_i, en_j, en_r, xi1, xa0, g_10_2, x_k3_s, g_10_0, g_10_1, xi2, x_un, s_3, s_5, s_8, s_11, s_12, s_21, s_22, s_23, s_24, s_25, s_26, s_28, s_29, s_30, s_31, s_32, r_i, r_j, r_v, r_z1, r_z0, r_a, e11_0, e11_1, e11_2, e11_3, e11_6, e11_7, e11_8, e11_11, e11_14, e11_15, e11_18, e11_19, e11_20, e11_23, e11_25, e11_28, e11_29, e11_30, e11_33, e11_34, e11_37, e11_39, e11_42, e11_43, e11_44, e11_47, e11_48, e11_49, c11, i10, i00, n2, n10, n20, n60, n8, n9, bi0, ite_not, List.replicate, Nat.reduceAdd, Nat.reduceSub, Nat.reduceLeDiff, Nat.reduceLT, if_true, if_false, mg, reduceIte, not_false_eq_true, eq_self, and_self, and_true, true_and, true_or, or_true, Nat.reduceEqDiff, hs, h1, h2, t_within, (bi_t c), hj40]
  unfold cut
  by_cases c8 : b = nI 8
  · simp only [c8, if_true]
  · by_cases c16 : b = nI 16
    · simp only [c16, if_true]
      rw [if_neg (by decide +kernel), if_neg (by decide +kernel)]
    · simp only [c8, c16, if_false]
theorem o_write {X : aX} {S : aS} {x y v : Int32} (hJ : J S) : opK X 92 202 [aI x, aI y, aI v] S := by
  obtain ⟨⟨n, hR, hA⟩, hK, hD⟩ := id hJ
  have hR3 := ag_RI hA hR
  have hn := hR.1
  have hz := hR.2.1
  have hz3 := hR3.2.1
  by_cases c1 : wi x (nI 0) (nI 3)
  · obtain ⟨s, _, hs3, rfl⟩ := wi_of (by decide) c1 (by decide)
    have hs : s < 4 := by omega
    obtain ⟨b, m, g1, g2, g3, g4, g5, g6, g7, g8⟩ := hD.2.2.1 s hs
    have hb1 : b < 1000 := by omega
    have tf := (t_fos (X := X) (S := S) (x := nI s)).2 s hs rfl
    rw [g4] at tf
    simp only [nq0 hb1] at tf
    by_cases cb : b = 0
    · rw [if_pos cb] at tf
      have g5' : tlD 5 S.2 (29, 0, 0) s = nI b := (tl_o (by decide)).trans g5
      refine op_f5 hJ ?_ ?_
      · simp only [nl_n, nl_i, nl_r, x_ci, x_ca, x_bin, x_ife, x_ifl, x_ifg, x_cme, x_cml, x_cmg, x_go, x_no, x_b, x_ps, x_pn, cs_n, cs_i, cs_j, cs_r, en_n, en_i, en_j, en_r, xa0, xi1, x_k2_0, xs4n, xs4i, xs4r, xi4, r_i, r_j, r_v, r_z1, r_z0, r_a, xi2, g_0_4, l_2, l_9, l_27, g_10_2, x_k3_s, xi3, x_k3_10, e92_0, e92_1, e92_2, e92_5, e92_7, e92_9, e92_10, e92_13, e92_14, e92_16, e92_19, e92_20, e92_21, e92_22, e92_23, e92_26, e92_27, e92_28, e92_31, e92_32, e92_33, e92_36, e92_39, e92_40, e92_41, e92_44, e92_45, e92_46, e92_49, e92_50, e92_51, e92_52, e92_53, e92_56, e92_57, c92, i10, i00, n2, n10, n20, n60, n8, n9, bi0, ite_not, List.replicate, Nat.reduceAdd, Nat.reduceSub, Nat.reduceLeDiff, Nat.reduceLT, if_true, if_false, mg, reduceIte, not_false_eq_true, eq_self, and_self, and_true, true_and, true_or, or_true, Nat.reduceEqDiff, tf, n5m, tel5]
      · simp only [nl_n, nl_i, nl_r, x_ci, x_ca, x_bin, x_ife, x_ifl, x_ifg, x_cme, x_cml, x_cmg, x_go, x_no, x_b, x_ps, x_pn, cs_n, cs_i, cs_j, cs_r, en_n, en_i, en_j, en_r, xi1, x_k1_s, xa0, x_k2_20, r_i, r_j, r_v, r_z1, r_z0, r_a, g_20_18, l_3, l_5, l_8, l_11, l_12, l_21, l_22, l_23, l_24, l_25, l_26, l_28, l_29, l_30, l_31, l_32, xi2, g_20_19, x_k3_s, g_20_20, xi3, x_k2_s, s_3, s_5, s_8, s_11, s_12, s_21, s_22, s_23, s_24, s_25, s_26, s_28, s_29, s_30, s_31, s_32, e202_0, e202_1, e202_4, e202_7, e202_8, e202_10, e202_13, e202_14, e202_15, e202_18, e202_19, e202_20, e202_23, e202_24, e202_26, e202_29, e202_30, e202_31, e202_32, e202_33, e202_36, e202_37, e202_38, e202_39, e202_40, e202_43, e202_46, e202_47, e202_49, e202_52, e202_53, e202_54, e202_57, e202_59, e202_60, e202_61, e202_62, e202_63, e202_64, e202_65, e202_68, e202_69, e202_70, e202_73, e202_74, e202_75, c202, i10, i00, n2, n10, n20, n60, n8, n9, bi0, ite_not, List.replicate, Nat.reduceAdd, Nat.reduceSub, Nat.reduceLeDiff, Nat.reduceLT, if_true, if_false, mg, reduceIte, not_false_eq_true, eq_self, and_self, and_true, true_and, true_or, or_true, Nat.reduceEqDiff, t_isSh6, (bi_t c1), hs, g5', (nq0 hb1), cb, fnd5]
    · rw [if_neg cb] at tf
      by_cases c2 : wi y (nI 0) (nI m - nI 1)
      · obtain ⟨j, hj, rfl⟩ := wi_sz g2 c2
        have tp := t_shput (X := X) (S := S) (v := v) hs g2 hj g4 g6
        have hp : 40 * s + j < 160 := by omega
        have h5 : uD S.2 (11, s, 0) j (cut (nI b) v) (29, 0, 0) s = nI b := (uD_c (Nat.ne_of_beq_eq_false rfl)).trans g5
        have h7 : uD S.2 (11, s, 0) j (cut (nI b) v) (30, 0, 0) s = nI m := (uD_c (Nat.ne_of_beq_eq_false rfl)).trans g7
        refine ⟨aI (nI 1), (S.1, uD S.2 (11, s, 0) j (cut (nI b) v)), (S.1, uD (uD S.2 (11, s, 0) j (cut (nI b) v)) (31, 0, 0) (40 * s + j) (cut (nI b) v)), ?_, ?_, ?_⟩
        · simp only [nl_n, nl_i, nl_r, x_ci, x_ca, x_bin, x_ife, x_ifl, x_ifg, x_cme, x_cml, x_cmg, x_go, x_no, x_b, x_ps, x_pn, cs_n, cs_i, cs_j, cs_r, en_n, en_i, en_j, en_r, xa0, xi1, x_k2_0, xs4n, xs4i, xs4r, xi4, r_i, r_j, r_v, r_z1, r_z0, r_a, xi2, g_0_4, l_2, l_9, l_27, g_10_2, x_k3_s, xi3, x_k3_10, e92_0, e92_1, e92_2, e92_5, e92_7, e92_9, e92_10, e92_13, e92_14, e92_16, e92_19, e92_20, e92_21, e92_22, e92_23, e92_26, e92_27, e92_28, e92_31, e92_32, e92_33, e92_36, e92_39, e92_40, e92_41, e92_44, e92_45, e92_46, e92_49, e92_50, e92_51, e92_52, e92_53, e92_56, e92_57, c92, i10, i00, n2, n10, n20, n60, n8, n9, bi0, ite_not, List.replicate, Nat.reduceAdd, Nat.reduceSub, Nat.reduceLeDiff, Nat.reduceLT, if_true, if_false, mg, reduceIte, not_false_eq_true, eq_self, and_self, and_true, true_and, true_or, or_true, Nat.reduceEqDiff, tf, hs, g6, t_within, (bi_t c2), tp]
        · simp only [nl_n, nl_i, nl_r, x_ci, x_ca, x_bin, x_ife, x_ifl, x_ifg, x_cme, x_cml, x_cmg, x_go, x_no, x_b, x_ps, x_pn, cs_n, cs_i, cs_j, cs_r, en_n, en_i, en_j, en_r, xi1, x_k1_s, xa0, x_k2_20, r_i, r_j, r_v, r_z1, r_z0, r_a, g_20_18, l_3, l_5, l_8, l_11, l_12, l_21, l_22, l_23, l_24, l_25, l_26, l_28, l_29, l_30, l_31, l_32, xi2, g_20_19, x_k3_s, g_20_20, xi3, x_k2_s, s_3, s_5, s_8, s_11, s_12, s_21, s_22, s_23, s_24, s_25, s_26, s_28, s_29, s_30, s_31, s_32, e202_0, e202_1, e202_4, e202_7, e202_8, e202_10, e202_13, e202_14, e202_15, e202_18, e202_19, e202_20, e202_23, e202_24, e202_26, e202_29, e202_30, e202_31, e202_32, e202_33, e202_36, e202_37, e202_38, e202_39, e202_40, e202_43, e202_46, e202_47, e202_49, e202_52, e202_53, e202_54, e202_57, e202_59, e202_60, e202_61, e202_62, e202_63, e202_64, e202_65, e202_68, e202_69, e202_70, e202_73, e202_74, e202_75, c202, i10, i00, n2, n10, n20, n60, n8, n9, bi0, ite_not, List.replicate, Nat.reduceAdd, Nat.reduceSub, Nat.reduceLeDiff, Nat.reduceLT, if_true, if_false, mg, reduceIte, not_false_eq_true, eq_self, and_self, and_true, true_and, true_or, or_true, Nat.reduceEqDiff, t_isSh6, (bi_t c1), hs, h5, (nq0 hb1), cb, h7, t_within6, (bi_t c2), nI_mul, nI_add, t_cutTo, hp]
        · refine ⟨⟨n, hR, hA⟩, fun w => hK (Eq.trans ?_ w), JD_sh (s := s) hD ?_ ?_⟩
          · show S.2 (0, 0, 0) 6 = uD (uD S.2 (11, s, 0) j (cut (nI b) v)) (31, 0, 0) (40 * s + j) (cut (nI b) v) (0, 0, 0) 6
            rw [uD_c (by decide), uD_c (Nat.ne_of_beq_eq_false rfl)]
          · intro r k h10 h11 h29 h30 h31
            dsimp only
            rw [uD_x (fun w => h31 ⟨by rw [w.1], by omega, by omega⟩), uD_x (fun w => h11 ⟨by rw [w.1], by rw [w.1]⟩)]
          · show HJ1 (uD (uD S.2 (11, s, 0) j (cut (nI b) v)) (31, 0, 0) (40 * s + j) (cut (nI b) v)) s
            have o : ∀ (r : aL) k, r.1 ≠ 11 → r.1 ≠ 31 → uD (uD S.2 (11, s, 0) j (cut (nI b) v)) (31, 0, 0) (40 * s + j) (cut (nI b) v) r k = S.2 r k := fun r k h1 h2 => by rw [uD_c h2, uD_c h1]
            refine ⟨b, m, g1, g2, g3, ?_, ?_, ?_, ?_, fun t ht => ?_⟩
            · rw [o _ _ (Nat.ne_of_beq_eq_false rfl) (Nat.ne_of_beq_eq_false rfl)]; exact g4
            · rw [o _ _ (by decide) (by decide)]; exact g5
            · rw [o _ _ (Nat.ne_of_beq_eq_false rfl) (Nat.ne_of_beq_eq_false rfl)]; exact g6
            · rw [o _ _ (by decide) (by decide)]; exact g7
            · by_cases e : t = j
              · subst e
                rw [uD_c (Nat.ne_of_beq_eq_false rfl), uD_at, uD_at]
              · rw [uD_c (Nat.ne_of_beq_eq_false rfl), uD_o (Or.inr e), uD_o (Or.inr (by omega)), uD_c (Nat.ne_of_beq_eq_false rfl)]
                exact g8 t ht
      · have g5' : tlD 0 S.2 (29, 0, 0) s = nI b := (tl_o (by decide)).trans g5
        have g7' : tlD 0 S.2 (30, 0, 0) s = nI m := (tl_o (by decide)).trans g7
        refine op_fin (k := 0) (w := -1000001) (by decide) hJ ?_ ?_
        · simp only [nl_n, nl_i, nl_r, x_ci, x_ca, x_bin, x_ife, x_ifl, x_ifg, x_cme, x_cml, x_cmg, x_go, x_no, x_b, x_ps, x_pn, cs_n, cs_i, cs_j, cs_r, en_n, en_i, en_j, en_r, xa0, xi1, x_k2_0, xs4n, xs4i, xs4r, xi4, r_i, r_j, r_v, r_z1, r_z0, r_a, xi2, g_0_4, l_2, l_9, l_27, g_10_2, x_k3_s, xi3, x_k3_10, e92_0, e92_1, e92_2, e92_5, e92_7, e92_9, e92_10, e92_13, e92_14, e92_16, e92_19, e92_20, e92_21, e92_22, e92_23, e92_26, e92_27, e92_28, e92_31, e92_32, e92_33, e92_36, e92_39, e92_40, e92_41, e92_44, e92_45, e92_46, e92_49, e92_50, e92_51, e92_52, e92_53, e92_56, e92_57, c92, i10, i00, n2, n10, n20, n60, n8, n9, bi0, ite_not, List.replicate, Nat.reduceAdd, Nat.reduceSub, Nat.reduceLeDiff, Nat.reduceLT, if_true, if_false, mg, reduceIte, not_false_eq_true, eq_self, and_self, and_true, true_and, true_or, or_true, Nat.reduceEqDiff, tf, hs, g6, t_within, (bi_f c2), tel0]
        · simp only [nl_n, nl_i, nl_r, x_ci, x_ca, x_bin, x_ife, x_ifl, x_ifg, x_cme, x_cml, x_cmg, x_go, x_no, x_b, x_ps, x_pn, cs_n, cs_i, cs_j, cs_r, en_n, en_i, en_j, en_r, xi1, x_k1_s, xa0, x_k2_20, r_i, r_j, r_v, r_z1, r_z0, r_a, g_20_18, l_3, l_5, l_8, l_11, l_12, l_21, l_22, l_23, l_24, l_25, l_26, l_28, l_29, l_30, l_31, l_32, xi2, g_20_19, x_k3_s, g_20_20, xi3, x_k2_s, s_3, s_5, s_8, s_11, s_12, s_21, s_22, s_23, s_24, s_25, s_26, s_28, s_29, s_30, s_31, s_32, e202_0, e202_1, e202_4, e202_7, e202_8, e202_10, e202_13, e202_14, e202_15, e202_18, e202_19, e202_20, e202_23, e202_24, e202_26, e202_29, e202_30, e202_31, e202_32, e202_33, e202_36, e202_37, e202_38, e202_39, e202_40, e202_43, e202_46, e202_47, e202_49, e202_52, e202_53, e202_54, e202_57, e202_59, e202_60, e202_61, e202_62, e202_63, e202_64, e202_65, e202_68, e202_69, e202_70, e202_73, e202_74, e202_75, c202, i10, i00, n2, n10, n20, n60, n8, n9, bi0, ite_not, List.replicate, Nat.reduceAdd, Nat.reduceSub, Nat.reduceLeDiff, Nat.reduceLT, if_true, if_false, mg, reduceIte, not_false_eq_true, eq_self, and_self, and_true, true_and, true_or, or_true, Nat.reduceEqDiff, t_isSh6, (bi_t c1), hs, g5', (nq0 hb1), cb, g7', t_within6, (bi_f c2), fnd0]
  · have tf := (t_fos (X := X) (S := S) (x := x)).1 c1
    refine op_fin (k := 0) (w := -1000001) (by decide) hJ ?_ ?_
    · simp only [nl_n, nl_i, nl_r, x_ci, x_ca, x_bin, x_ife, x_ifl, x_ifg, x_cme, x_cml, x_cmg, x_go, x_no, x_b, x_ps, x_pn, cs_n, cs_i, cs_j, cs_r, en_n, en_i, en_j, en_r, xa0, xi1, x_k2_0, xs4n, xs4i, xs4r, xi4, r_i, r_j, r_v, r_z1, r_z0, r_a, xi2, g_0_4, l_2, l_9, l_27, g_10_2, x_k3_s, xi3, x_k3_10, e92_0, e92_1, e92_2, e92_5, e92_7, e92_9, e92_10, e92_13, e92_14, e92_16, e92_19, e92_20, e92_21, e92_22, e92_23, e92_26, e92_27, e92_28, e92_31, e92_32, e92_33, e92_36, e92_39, e92_40, e92_41, e92_44, e92_45, e92_46, e92_49, e92_50, e92_51, e92_52, e92_53, e92_56, e92_57, c92, i10, i00, n2, n10, n20, n60, n8, n9, bi0, ite_not, List.replicate, Nat.reduceAdd, Nat.reduceSub, Nat.reduceLeDiff, Nat.reduceLT, if_true, if_false, mg, reduceIte, not_false_eq_true, eq_self, and_self, and_true, true_and, true_or, or_true, Nat.reduceEqDiff, tf, n0m, tel0]
    · simp only [nl_n, nl_i, nl_r, x_ci, x_ca, x_bin, x_ife, x_ifl, x_ifg, x_cme, x_cml, x_cmg, x_go, x_no, x_b, x_ps, x_pn, cs_n, cs_i, cs_j, cs_r, en_n, en_i, en_j, en_r, xi1, x_k1_s, xa0, x_k2_20, r_i, r_j, r_v, r_z1, r_z0, r_a, g_20_18, l_3, l_5, l_8, l_11, l_12, l_21, l_22, l_23, l_24, l_25, l_26, l_28, l_29, l_30, l_31, l_32, xi2, g_20_19, x_k3_s, g_20_20, xi3, x_k2_s, s_3, s_5, s_8, s_11, s_12, s_21, s_22, s_23, s_24, s_25, s_26, s_28, s_29, s_30, s_31, s_32, e202_0, e202_1, e202_4, e202_7, e202_8, e202_10, e202_13, e202_14, e202_15, e202_18, e202_19, e202_20, e202_23, e202_24, e202_26, e202_29, e202_30, e202_31, e202_32, e202_33, e202_36, e202_37, e202_38, e202_39, e202_40, e202_43, e202_46, e202_47, e202_49, e202_52, e202_53, e202_54, e202_57, e202_59, e202_60, e202_61, e202_62, e202_63, e202_64, e202_65, e202_68, e202_69, e202_70, e202_73, e202_74, e202_75, c202, i10, i00, n2, n10, n20, n60, n8, n9, bi0, ite_not, List.replicate, Nat.reduceAdd, Nat.reduceSub, Nat.reduceLeDiff, Nat.reduceLT, if_true, if_false, mg, reduceIte, not_false_eq_true, eq_self, and_self, and_true, true_and, true_or, or_true, Nat.reduceEqDiff, t_isSh6, (bi_f c1), fnd0]
