/-! springs -/
def zN (z : Int32) : Int32 := z * nI 1103515245 + nI 12345
def zS (z : Int32) : Int32 := (z.toUInt32 >>> ((nI 8).toUInt32 &&& Int32.toUInt32 31)).toInt32
def zW (r : Nat → Int32) : Int32 := zS (zN (r 2)) - zS (zN (r 2)) / nI 8 * nI 8
def zP (r : Nat → Int32) : Int32 := nI 1 + (zS (zN (zN (r 2))) - zS (zN (zN (r 2))) / nI 9 * nI 9)
def zR (r : Nat → Int32) : Nat → Int32 := upd r 2 (zN (zN (r 2)))
def spG (n : Nat) (r : Nat → Int32) : Nat → Int32 :=
  if hsP n (zW r) ∧ r (14 + 10 * (zW r).toNatClampNeg + 6) = 0 then begF (upd (zR r) (14 + 10 * (zW r).toNatClampNeg + 5) (zP r)) (zW r).toNatClampNeg else zR r
def spF (n : Nat) (r : Nat → Int32) : Nat → Int32 := dayR n (spG n r)
theorem t_drawS {X : aX} {q : Nat → Nat → Int32} {r : Nat → Int32} {D : aD} : cl X 45 [aR (1, 0, 0)] (mem (rq q 0 r, D)) = some (some (aI (zS (zN (r 2)))), mem (rq q 0 (upd r 2 (zN (r 2))), D)) := by
  have h := t_draw (X := X) (S := (rq q 0 r, D)) (a := 0) (by decide)
  dsimp only at h
  rw [rq_at, rq_rq] at h
  exact h
theorem t_drawn {X : aX} {q : Nat → Nat → Int32} {r : Nat → Int32} {D : aD} : cl X 178 [aR (20, 0, 0)] (mem (rq q 3 r, D)) = some (some (aI (zS (zN (r 2)))), mem (rq q 3 (upd r 2 (zN (r 2))), D)) := by
  simp only [nl_n, nl_i, nl_r, x_ci, x_ca, x_bin, x_ife, x_ifl, x_ifg, x_cme, x_cml, x_cmg, x_go, x_no, x_b, x_ps, x_pn, cs_n, cs_i, cs_j, cs_r, en_n, en_i, en_j, en_r, xa0, g_20_0, l_3, l_5, l_8, l_11, l_12, l_21, l_22, l_23, l_24, l_25, l_26, l_28, l_29, l_30, l_31, l_32, s_3, s_5, s_8, s_11, s_12, s_21, s_22, s_23, s_24, s_25, s_26, s_28, s_29, s_30, s_31, s_32, r_i, r_j, r_v, r_z1, r_z0, r_a, e178_0, e178_1, e178_4, e178_5, e178_6, e178_9, e178_10, e178_11, e178_13, e178_14, e178_17, e178_18, e178_19, e178_20, e178_23, e178_24, e178_25, e178_27, e178_28, c178, i10, i00, n2, n10, n20, n60, n8, n9, bi0, ite_not, List.replicate, Nat.reduceAdd, Nat.reduceSub, Nat.reduceLeDiff, Nat.reduceLT, if_true, if_false, mg, reduceIte, not_false_eq_true, eq_self, and_self, and_true, true_and, true_or, or_true, Nat.reduceEqDiff, uq_rq, rq_rq, rq_at, pk_us]
  rfl
theorem zR_e (r : Nat → Int32) : upd (upd r 2 (zN (r 2))) 2 (zN (upd r 2 (zN (r 2)) 2)) = zR r := by
  rw [pk_us]
  funext p
  unfold zR upd
  split <;> rfl
theorem zR_f (r : Nat → Int32) (i f : Nat) : zR r (14 + 10 * i + f) = r (14 + 10 * i + f) := pk_un (by omega)
theorem spG_1 (n : Nat) (r : Nat → Int32) : spG n r 1 = r 1 := by
  unfold spG
  split
  · rw [begF_1, u_1]; rfl
  · rfl
theorem RI_spG {n : Nat} {r : Nat → Int32} (h : RI n r) : RI n (spG n r) := by
  unfold spG
  split
  · exact RI_beg (RI_u (RI_2 h) (by decide) (fok_t (by decide)))
  · exact RI_2 h
theorem ag_spG {n : Nat} {r r' : Nat → Int32} (hn : n ≤ 8) (h : ag n r r') : ag n (spG n r) (spG n r') := by
  have e2 := h 2 (by omega)
  have ew : zW r = zW r' := by unfold zW; rw [e2]
  have ep : zP r = zP r' := by unfold zP; rw [e2]
  have er : ag n (zR r) (zR r') := ag_u h (by rw [e2])
  unfold spG
  rw [ew, ep]
  by_cases c : hsP n (zW r')
  · obtain ⟨t, ht, e⟩ := has_of hn c
    rw [e, nI_clamp (by omega), ag_f h ht (show 6 < 10 by decide)]
    split
    · exact ag_beg (ag_u er rfl) ht
    · exact er
  · rw [if_neg (fun w => c w.1), if_neg (fun w => c w.1)]
    exact er
theorem l_springx {X : aX} {q : Nat → Nat → Int32} {n c : Nat} (hn : n ≤ 8) (hc : c < 2 ^ 31) : ∀ k i r D b1 b2, i + k = c → r 1 = nI n → nl b1 = true → nl b2 = true → ∃ D1, eqJ D D1 ∧ go X 83 35 [some (aR (0, 0, 0)), some (aI (nI c)), some (aI (nI i)), b1, b2] [] (mem (rq q 0 r, D)) = some (some (aI (sgS (itr (spF n) k r) n)), mem (rq q 0 (itr (spF n) k r), D1)) := by
  intro k
  induction k with
  | zero =>
    intro i r D b1 b2 h hr _ _
    refine ⟨D, eqJ_rfl D, ?_⟩
    have ts := t_singing (X := X) (S := (rq q 0 r, D)) (a := 0) (by decide) hn (at_r hr)
    rw [e83_35]
    simp only [nl_n, nl_i, nl_r, x_ci, x_ca, x_bin, x_ife, x_ifl, x_ifg, x_cme, x_cml, x_cmg, x_go, x_no, x_b, x_ps, x_pn, cs_n, cs_i, cs_j, cs_r, en_n, en_i, en_j, en_r, xi1, x_k3_s, xa0, x_k2_0, r_i, r_j, r_v, r_z1, r_z0, r_a, g_0_0, x_k2_1, xs2n, xs2i, xs2r, xi2, x_k1_1, x_div, xs3n, xs3i, xs3r, xs4n, xs4i, xs4r, xi3, x_k3_1, xi4, x_k4_1, xn2n, xn2i, xn2r, e83_0, e83_1, e83_2, e83_4, e83_7, e83_10, e83_11, e83_12, e83_15, e83_16, e83_17, e83_20, e83_21, e83_24, e83_27, e83_28, e83_29, e83_32, e83_33, e83_34, e83_36, e83_37, e83_40, e83_41, e83_44, e83_47, e83_49, e83_50, e83_51, e83_52, e83_53, e83_56, e83_59, e83_61, e83_62, e83_63, e83_65, e83_66, e83_69, e83_70, e83_73, e83_76, e83_77, e83_80, e83_81, e83_83, e83_86, e83_89, e83_90, e83_93, e83_94, e83_95, e83_97, e83_100, e83_101, e83_104, e83_105, e83_108, e83_109, e83_112, e83_113, e83_116, e83_119, e83_122, e83_123, e83_126, e83_129, c83, i10, i00, n2, n10, n20, n60, n8, n9, bi0, ite_not, List.replicate, Nat.reduceAdd, Nat.reduceSub, Nat.reduceLeDiff, Nat.reduceLT, if_true, if_false, mg, reduceIte, not_false_eq_true, eq_self, and_self, and_true, true_and, true_or, or_true, Nat.reduceEqDiff, (nI_nlt (show c ≤ i by omega) (by omega)), ts, rq_at]
    rfl
  | succ k ih =>
    intro i r D b1 b2 h hr _ _
    have hg1 : spG n r 1 = nI n := (spG_1 n r).trans hr
    obtain ⟨D', hD', hd⟩ := t_days (X := X) (q := q) (r := spG n r) (D := D) (a := 0) (c := 1) (by decide) hn (by decide) hg1
    rw [show itr (dayR n) 1 (spG n r) = spF n r from rfl] at hd
    obtain ⟨D1, hD1, h1⟩ := ih (i + 1) (spF n r) D' (some (aI (zW r))) (some (aI (zP r))) (by omega) ((day_1 ..).trans hg1) rfl rfl
    refine ⟨D1, eqJ_tr hD' hD1, ?_⟩
    have hz2 : zR r 1 = nI n := hr
    have d1 := t_drawS (X := X) (q := q) (r := r) (D := D)
    have d2 := t_drawS (X := X) (q := q) (r := upd r 2 (zN (r 2))) (D := D)
    rw [zR_e, pk_us] at d2
    have th := t_has (X := X) (S := (rq q 0 (zR r), D)) (a := 0) (x := zW r) (by decide) (at_r hz2)
    have ew : zS (zN (r 2)) - zS (zN (r 2)) / nI 8 * nI 8 = zW r := rfl
    have ep : nI 1 + (zS (zN (zN (r 2))) - zS (zN (zN (r 2))) / nI 9 * nI 9) = zP r := rfl
    rw [itr_s, ← h1, e83_35]
    by_cases cw : hsP n (zW r)
    · obtain ⟨t, ht, et⟩ := has_of hn cw
      have tl := t_look (X := X) (S := (rq q 0 (zR r), D)) (a := 0) (j := 6) (by decide) hn ht (by decide) (at_r hz2)
      rw [lk_f (by decide), show (rq q 0 (zR r), D).1 0 = zR r from rfl, zR_f] at tl
      have tp := t_put (X := X) (S := (rq q 0 (zR r), D)) (a := 0) (j := 5) (v := zP r) (by decide) hn ht (by decide) (at_r hz2)
      have tb := t_beginS (X := X) (S := (rq q 0 (upd (zR r) (14 + 10 * t + 5) (zP r)), D)) (a := 0) (by decide) hn ht (at_r ((u_1 ..).trans hz2))
      have hb := bi_t cw
      rw [et] at th hb ew
      by_cases cd : r (14 + 10 * t + 6) = 0
      · have eg : spG n r = begF (upd (zR r) (14 + 10 * t + 5) (zP r)) t := by
          unfold spG
          rw [if_pos ⟨cw, by rw [et, nI_clamp (by omega)]; exact cd⟩, et, nI_clamp (by omega)]
        rw [eg] at hd
        rw [et]
        simp only [nl_n, nl_i, nl_r, x_ci, x_ca, x_bin, x_ife, x_ifl, x_ifg, x_cme, x_cml, x_cmg, x_go, x_no, x_b, x_ps, x_pn, cs_n, cs_i, cs_j, cs_r, en_n, en_i, en_j, en_r, xi1, x_k3_s, xa0, x_k2_0, r_i, r_j, r_v, r_z1, r_z0, r_a, g_0_0, x_k2_1, xs2n, xs2i, xs2r, xi2, x_k1_1, x_div, xs3n, xs3i, xs3r, xs4n, xs4i, xs4r, xi3, x_k3_1, xi4, x_k4_1, xn2n, xn2i, xn2r, e83_0, e83_1, e83_2, e83_4, e83_7, e83_10, e83_11, e83_12, e83_15, e83_16, e83_17, e83_20, e83_21, e83_24, e83_27, e83_28, e83_29, e83_32, e83_33, e83_34, e83_36, e83_37, e83_40, e83_41, e83_44, e83_47, e83_49, e83_50, e83_51, e83_52, e83_53, e83_56, e83_59, e83_61, e83_62, e83_63, e83_65, e83_66, e83_69, e83_70, e83_73, e83_76, e83_77, e83_80, e83_81, e83_83, e83_86, e83_89, e83_90, e83_93, e83_94, e83_95, e83_97, e83_100, e83_101, e83_104, e83_105, e83_108, e83_109, e83_112, e83_113, e83_116, e83_119, e83_122, e83_123, e83_126, e83_129, c83, i10, i00, n2, n10, n20, n60, n8, n9, bi0, ite_not, List.replicate, Nat.reduceAdd, Nat.reduceSub, Nat.reduceLeDiff, Nat.reduceLT, if_true, if_false, mg, reduceIte, not_false_eq_true, eq_self, and_self, and_true, true_and, true_or, or_true, Nat.reduceEqDiff, (nI_lt (show i < c by omega) (by omega)), d1, ew, d2, ep, th, hb, tl, cd, tp, tb, rq_rq, rq_at, hd, nI_add]
      · have eg : spG n r = zR r := by
          unfold spG
          rw [if_neg (fun w => cd (by have := w.2; rw [et, nI_clamp (by omega)] at this; exact this))]
        rw [eg] at hd
        rw [et]
        simp only [nl_n, nl_i, nl_r, x_ci, x_ca, x_bin, x_ife, x_ifl, x_ifg, x_cme, x_cml, x_cmg, x_go, x_no, x_b, x_ps, x_pn, cs_n, cs_i, cs_j, cs_r, en_n, en_i, en_j, en_r, xi1, x_k3_s, xa0, x_k2_0, r_i, r_j, r_v, r_z1, r_z0, r_a, g_0_0, x_k2_1, xs2n, xs2i, xs2r, xi2, x_k1_1, x_div, xs3n, xs3i, xs3r, xs4n, xs4i, xs4r, xi3, x_k3_1, xi4, x_k4_1, xn2n, xn2i, xn2r, e83_0, e83_1, e83_2, e83_4, e83_7, e83_10, e83_11, e83_12, e83_15, e83_16, e83_17, e83_20, e83_21, e83_24, e83_27, e83_28, e83_29, e83_32, e83_33, e83_34, e83_36, e83_37, e83_40, e83_41, e83_44, e83_47, e83_49, e83_50, e83_51, e83_52, e83_53, e83_56, e83_59, e83_61, e83_62, e83_63, e83_65, e83_66, e83_69, e83_70, e83_73, e83_76, e83_77, e83_80, e83_81, e83_83, e83_86, e83_89, e83_90, e83_93, e83_94, e83_95, e83_97, e83_100, e83_101, e83_104, e83_105, e83_108, e83_109, e83_112, e83_113, e83_116, e83_119, e83_122, e83_123, e83_126, e83_129, c83, i10, i00, n2, n10, n20, n60, n8, n9, bi0, ite_not, List.replicate, Nat.reduceAdd, Nat.reduceSub, Nat.reduceLeDiff, Nat.reduceLT, if_true, if_false, mg, reduceIte, not_false_eq_true, eq_self, and_self, and_true, true_and, true_or, or_true, Nat.reduceEqDiff, (nI_lt (show i < c by omega) (by omega)), d1, ew, d2, ep, th, hb, tl, cd, hd, nI_add]
    · have eg : spG n r = zR r := by
        unfold spG
        rw [if_neg (fun w => cw w.1)]
      rw [eg] at hd
      simp only [nl_n, nl_i, nl_r, x_ci, x_ca, x_bin, x_ife, x_ifl, x_ifg, x_cme, x_cml, x_cmg, x_go, x_no, x_b, x_ps, x_pn, cs_n, cs_i, cs_j, cs_r, en_n, en_i, en_j, en_r, xi1, x_k3_s, xa0, x_k2_0, r_i, r_j, r_v, r_z1, r_z0, r_a, g_0_0, x_k2_1, xs2n, xs2i, xs2r, xi2, x_k1_1, x_div, xs3n, xs3i, xs3r, xs4n, xs4i, xs4r, xi3, x_k3_1, xi4, x_k4_1, xn2n, xn2i, xn2r, e83_0, e83_1, e83_2, e83_4, e83_7, e83_10, e83_11, e83_12, e83_15, e83_16, e83_17, e83_20, e83_21, e83_24, e83_27, e83_28, e83_29, e83_32, e83_33, e83_34, e83_36, e83_37, e83_40, e83_41, e83_44, e83_47, e83_49, e83_50, e83_51, e83_52, e83_53, e83_56, e83_59, e83_61, e83_62, e83_63, e83_65, e83_66, e83_69, e83_70, e83_73, e83_76, e83_77, e83_80, e83_81, e83_83, e83_86, e83_89, e83_90, e83_93, e83_94, e83_95, e83_97, e83_100, e83_101, e83_104, e83_105, e83_108, e83_109, e83_112, e83_113, e83_116, e83_119, e83_122, e83_123, e83_126, e83_129, c83, i10, i00, n2, n10, n20, n60, n8, n9, bi0, ite_not, List.replicate, Nat.reduceAdd, Nat.reduceSub, Nat.reduceLeDiff, Nat.reduceLT, if_true, if_false, mg, reduceIte, not_false_eq_true, eq_self, and_self, and_true, true_and, true_or, or_true, Nat.reduceEqDiff, (nI_lt (show i < c by omega) (by omega)), d1, ew, d2, ep, th, (bi_f cw), hd, nI_add]
theorem l_springm {X : aX} {q : Nat → Nat → Int32} {n c : Nat} (hc : c < 2 ^ 31) : ∀ k i r D b1 b2, i + k = c → RI n r → nl b1 = true → nl b2 = true → ∃ D1, eqJ D D1 ∧ go X 179 39 [some (aR (20, 0, 0)), some (aI (nI c)), some (aI (nI i)), b1, b2] [] (mem (rq q 3 r, D)) = some (some (aI (sgS (itr (spF n) k r) n)), mem (rq q 3 (itr (spF n) k r), D1)) := by
  intro k
  induction k with
  | zero =>
    intro i r D b1 b2 h hr _ _
    refine ⟨D, eqJ_rfl D, ?_⟩
    have ts := t_sing6 (X := X) (S := (rq q 3 r, D)) (rq_RI hr)
    rw [e179_39]
    simp only [nl_n, nl_i, nl_r, x_ci, x_ca, x_bin, x_ife, x_ifl, x_ifg, x_cme, x_cml, x_cmg, x_go, x_no, x_b, x_ps, x_pn, cs_n, cs_i, cs_j, cs_r, en_n, en_i, en_j, en_r, xi1, x_k3_s, xa0, x_k2_20, r_i, r_j, r_v, r_z1, r_z0, r_a, g_20_0, l_3, l_5, l_8, l_11, l_12, l_21, l_22, l_23, l_24, l_25, l_26, l_28, l_29, l_30, l_31, l_32, xs2n, xs2i, xs2r, xi2, x_k1_20, x_div, xs3n, xs3i, xs3r, xs4n, xs4i, xs4r, xi3, x_k2_s, xi4, s_3, s_5, s_8, s_11, s_12, s_21, s_22, s_23, s_24, s_25, s_26, s_28, s_29, s_30, s_31, s_32, x_popi, x_popr, xn2n, xn2i, xn2r, e179_0, e179_1, e179_2, e179_4, e179_7, e179_10, e179_11, e179_13, e179_16, e179_17, e179_18, e179_21, e179_22, e179_23, e179_24, e179_25, e179_27, e179_30, e179_31, e179_33, e179_36, e179_37, e179_38, e179_40, e179_41, e179_44, e179_45, e179_48, e179_50, e179_51, e179_52, e179_53, e179_54, e179_57, e179_59, e179_60, e179_61, e179_63, e179_64, e179_65, e179_68, e179_71, e179_72, e179_73, e179_76, e179_79, e179_80, e179_83, e179_84, e179_85, e179_88, e179_90, e179_91, e179_92, e179_93, e179_96, e179_97, e179_98, e179_101, e179_104, e179_107, e179_108, e179_111, c179, i10, i00, n2, n10, n20, n60, n8, n9, bi0, ite_not, List.replicate, Nat.reduceAdd, Nat.reduceSub, Nat.reduceLeDiff, Nat.reduceLT, if_true, if_false, mg, reduceIte, not_false_eq_true, eq_self, and_self, and_true, true_and, true_or, or_true, Nat.reduceEqDiff, (nI_nlt (show c ≤ i by omega) (by omega)), ts, rq_at]
    rfl
  | succ k ih =>
    intro i r D b1 b2 h hr _ _
    have hn := hr.1
    obtain ⟨D', hD', hd⟩ := t_day (X := X) (q := q) (r := spG n r) (D := D) (RI_spG hr)
    rw [show dayR n (spG n r) = spF n r from rfl] at hd
    obtain ⟨D1, hD1, h1⟩ := ih (i + 1) (spF n r) D' (some (aI (zW r))) (some (aI (zP r))) (by omega) (RI_day (RI_spG hr)) rfl rfl
    refine ⟨D1, eqJ_tr hD' hD1, ?_⟩
    have hz2 : zR r 1 = nI n := hr.2.1
    have d1 := t_drawn (X := X) (q := q) (r := r) (D := D)
    have d2 := t_drawn (X := X) (q := q) (r := upd r 2 (zN (r 2))) (D := D)
    rw [zR_e, pk_us] at d2
    have th := t_isS (X := X) (S := (rq q 3 (zR r), D)) (x := zW r) hn (at_r hz2)
    have ew : zS (zN (r 2)) - zS (zN (r 2)) / nI 8 * nI 8 = zW r := rfl
    have ep : nI 1 + (zS (zN (zN (r 2))) - zS (zN (zN (r 2))) / nI 9 * nI 9) = zP r := rfl
    rw [itr_s, ← h1, e179_39]
    by_cases cw : hsP n (zW r)
    · obtain ⟨t, ht, et⟩ := has_of hn cw
      have ht8 : t < 8 := by omega
      have hp : ∀ f, f < 10 → 14 + 10 * t + f < 94 := fun f hf => by omega
      have tl := t_isDead (X := X) (S := (rq q 3 (zR r), D)) ht8 (RI_d (rq_RI (RI_2 hr)) ht)
      rw [show (rq q 3 (zR r), D).1 3 = zR r from rfl, zR_f] at tl
      have tb := t_begins (X := X) (q := q) (r := upd (zR r) (14 + 10 * t + 5) (zP r)) (D := D) ht8
      have hb := bi_t cw
      rw [et] at th hb ew
      by_cases cd : r (14 + 10 * t + 6) = 0
      · have eg : spG n r = begF (upd (zR r) (14 + 10 * t + 5) (zP r)) t := by
          unfold spG
          rw [if_pos ⟨cw, by rw [et, nI_clamp (by omega)]; exact cd⟩, et, nI_clamp (by omega)]
        rw [eg] at hd
        rw [et]
        simp only [nl_n, nl_i, nl_r, x_ci, x_ca, x_bin, x_ife, x_ifl, x_ifg, x_cme, x_cml, x_cmg, x_go, x_no, x_b, x_ps, x_pn, cs_n, cs_i, cs_j, cs_r, en_n, en_i, en_j, en_r, xi1, x_k3_s, xa0, x_k2_20, r_i, r_j, r_v, r_z1, r_z0, r_a, g_20_0, l_3, l_5, l_8, l_11, l_12, l_21, l_22, l_23, l_24, l_25, l_26, l_28, l_29, l_30, l_31, l_32, xs2n, xs2i, xs2r, xi2, x_k1_20, x_div, xs3n, xs3i, xs3r, xs4n, xs4i, xs4r, xi3, x_k2_s, xi4, s_3, s_5, s_8, s_11, s_12, s_21, s_22, s_23, s_24, s_25, s_26, s_28, s_29, s_30, s_31, s_32, x_popi, x_popr, xn2n, xn2i, xn2r, e179_0, e179_1, e179_2, e179_4, e179_7, e179_10, e179_11, e179_13, e179_16, e179_17, e179_18, e179_21, e179_22, e179_23, e179_24, e179_25, e179_27, e179_30, e179_31, e179_33, e179_36, e179_37, e179_38, e179_40, e179_41, e179_44, e179_45, e179_48, e179_50, e179_51, e179_52, e179_53, e179_54, e179_57, e179_59, e179_60, e179_61, e179_63, e179_64, e179_65, e179_68, e179_71, e179_72, e179_73, e179_76, e179_79, e179_80, e179_83, e179_84, e179_85, e179_88, e179_90, e179_91, e179_92, e179_93, e179_96, e179_97, e179_98, e179_101, e179_104, e179_107, e179_108, e179_111, c179, i10, i00, n2, n10, n20, n60, n8, n9, bi0, ite_not, List.replicate, Nat.reduceAdd, Nat.reduceSub, Nat.reduceLeDiff, Nat.reduceLT, if_true, if_false, mg, reduceIte, not_false_eq_true, eq_self, and_self, and_true, true_and, true_or, or_true, Nat.reduceEqDiff, (nI_lt (show i < c by omega) (by omega)), d1, ew, d2, ep, th, hb, tl, cd, t_at, hp, uq_rq, tb, rq_rq, rq_at, hd, nI_add]
      · have eg : spG n r = zR r := by
          unfold spG
          rw [if_neg (fun w => cd (by have := w.2; rw [et, nI_clamp (by omega)] at this; exact this))]
        rw [eg] at hd
        rw [et]
        simp only [nl_n, nl_i, nl_r, x_ci, x_ca, x_bin, x_ife, x_ifl, x_ifg, x_cme, x_cml, x_cmg, x_go, x_no, x_b, x_ps, x_pn, cs_n, cs_i, cs_j, cs_r, en_n, en_i, en_j, en_r, xi1, x_k3_s, xa0, x_k2_20, r_i, r_j, r_v, r_z1, r_z0, r_a, g_20_0, l_3, l_5, l_8, l_11, l_12, l_21, l_22, l_23, l_24, l_25, l_26, l_28, l_29, l_30, l_31, l_32, xs2n, xs2i, xs2r, xi2, x_k1_20, x_div, xs3n, xs3i, xs3r, xs4n, xs4i, xs4r, xi3, x_k2_s, xi4, s_3, s_5, s_8, s_11, s_12, s_21, s_22, s_23, s_24, s_25, s_26, s_28, s_29, s_30, s_31, s_32, x_popi, x_popr, xn2n, xn2i, xn2r, e179_0, e179_1, e179_2, e179_4, e179_7, e179_10, e179_11, e179_13, e179_16, e179_17, e179_18, e179_21, e179_22, e179_23, e179_24, e179_25, e179_27, e179_30, e179_31, e179_33, e179_36, e179_37, e179_38, e179_40, e179_41, e179_44, e179_45, e179_48, e179_50, e179_51, e179_52, e179_53, e179_54, e179_57, e179_59, e179_60, e179_61, e179_63, e179_64, e179_65, e179_68, e179_71, e179_72, e179_73, e179_76, e179_79, e179_80, e179_83, e179_84, e179_85, e179_88, e179_90, e179_91, e179_92, e179_93, e179_96, e179_97, e179_98, e179_101, e179_104, e179_107, e179_108, e179_111, c179, i10, i00, n2, n10, n20, n60, n8, n9, bi0, ite_not, List.replicate, Nat.reduceAdd, Nat.reduceSub, Nat.reduceLeDiff, Nat.reduceLT, if_true, if_false, mg, reduceIte, not_false_eq_true, eq_self, and_self, and_true, true_and, true_or, or_true, Nat.reduceEqDiff, (nI_lt (show i < c by omega) (by omega)), d1, ew, d2, ep, th, hb, tl, cd, hd, nI_add]
    · have eg : spG n r = zR r := by
        unfold spG
        rw [if_neg (fun w => cw w.1)]
      rw [eg] at hd
      simp only [nl_n, nl_i, nl_r, x_ci, x_ca, x_bin, x_ife, x_ifl, x_ifg, x_cme, x_cml, x_cmg, x_go, x_no, x_b, x_ps, x_pn, cs_n, cs_i, cs_j, cs_r, en_n, en_i, en_j, en_r, xi1, x_k3_s, xa0, x_k2_20, r_i, r_j, r_v, r_z1, r_z0, r_a, g_20_0, l_3, l_5, l_8, l_11, l_12, l_21, l_22, l_23, l_24, l_25, l_26, l_28, l_29, l_30, l_31, l_32, xs2n, xs2i, xs2r, xi2, x_k1_20, x_div, xs3n, xs3i, xs3r, xs4n, xs4i, xs4r, xi3, x_k2_s, xi4, s_3, s_5, s_8, s_11, s_12, s_21, s_22, s_23, s_24, s_25, s_26, s_28, s_29, s_30, s_31, s_32, x_popi, x_popr, xn2n, xn2i, xn2r, e179_0, e179_1, e179_2, e179_4, e179_7, e179_10, e179_11, e179_13, e179_16, e179_17, e179_18, e179_21, e179_22, e179_23, e179_24, e179_25, e179_27, e179_30, e179_31, e179_33, e179_36, e179_37, e179_38, e179_40, e179_41, e179_44, e179_45, e179_48, e179_50, e179_51, e179_52, e179_53, e179_54, e179_57, e179_59, e179_60, e179_61, e179_63, e179_64, e179_65, e179_68, e179_71, e179_72, e179_73, e179_76, e179_79, e179_80, e179_83, e179_84, e179_85, e179_88, e179_90, e179_91, e179_92, e179_93, e179_96, e179_97, e179_98, e179_101, e179_104, e179_107, e179_108, e179_111, c179, i10, i00, n2, n10, n20, n60, n8, n9, bi0, ite_not, List.replicate, Nat.reduceAdd, Nat.reduceSub, Nat.reduceLeDiff, Nat.reduceLT, if_true, if_false, mg, reduceIte, not_false_eq_true, eq_self, and_self, and_true, true_and, true_or, or_true, Nat.reduceEqDiff, (nI_lt (show i < c by omega) (by omega)), d1, ew, d2, ep, th, (bi_f cw), hd, nI_add]
theorem o_spring {X : aX} {S : aS} {x : Int32} (hJ : J S) : opK X 83 179 [aI x] S := by
  obtain ⟨⟨n, hR, hA⟩, hK, hD⟩ := id hJ
  have hR3 := ag_RI hA hR
  have hn := hR.1
  have hz := hR.2.1
  have hz3 := hR3.2.1
  by_cases c1 : wi x (nI 1) (nI 20)
  · obtain ⟨c, hc1, hc, rfl⟩ := wi_of (by decide) c1 (by decide)
    obtain ⟨d, hd, ed⟩ := hR.2.2.1
    have ed3 : S.1 3 0 = nI d := (hA 0 (by omega)).symm.trans ed
    by_cases c2 : d + c ≤ 99999
    · have q1 : ¬ nI 99999 - nI c < S.1 0 0 := by rw [nI_subN (by omega), ed]; exact nI_nlt (by omega) (by omega)
      have q3 : ¬ nI 99999 < nI (d + c) := nI_nlt (by omega) (by decide)
      obtain ⟨D1, hJ1, h1⟩ := l_springx (X := X) (q := S.1) (c := c) hn (by omega) c 0 (S.1 0) S.2 none none (by omega) hz rfl rfl
      rw [rq_self] at h1
      obtain ⟨D2, hJ2, h2⟩ := l_springm (X := X) (q := rq S.1 0 (itr (spF n) c (S.1 0))) (n := n) (c := c) (by omega) c 0 (S.1 3) D1 none none (by omega) hR3 rfl rfl
      rw [show rq (rq S.1 0 (itr (spF n) c (S.1 0))) 3 (S.1 3) = rq S.1 0 (itr (spF n) c (S.1 0)) by rw [rq_sw (by decide), rq_self]] at h2
      have hR1 : ∀ c (r : Nat → Int32), RI n r → RI n (itr (spF n) c r) := by
        intro c
        induction c with
        | zero => intro r h; exact h
        | succ c ih => intro r h; exact ih _ (RI_day (RI_spG h))
      have hA1 : ∀ c (r r' : Nat → Int32), ag n r r' → ag n (itr (spF n) c r) (itr (spF n) c r') := by
        intro c
        induction c with
        | zero => intro r r' h; exact h
        | succ c ih => intro r r' h; exact ih _ _ (ag_day hn (ag_spG hn h))
      refine ⟨aI (sgS (itr (spF n) c (S.1 0)) n), (rq S.1 0 (itr (spF n) c (S.1 0)), D1), (rq (rq S.1 0 (itr (spF n) c (S.1 0))) 3 (itr (spF n) c (S.1 3)), D2), ?_, ?_, ?_⟩
      · simp only [nl_n, nl_i, nl_r, x_ci, x_ca, x_bin, x_ife, x_ifl, x_ifg, x_cme, x_cml, x_cmg, x_go, x_no, x_b, x_ps, x_pn, cs_n, cs_i, cs_j, cs_r, en_n, en_i, en_j, en_r, xi1, x_k3_s, xa0, x_k2_0, r_i, r_j, r_v, r_z1, r_z0, r_a, g_0_0, x_k2_1, xs2n, xs2i, xs2r, xi2, x_k1_1, x_div, xs3n, xs3i, xs3r, xs4n, xs4i, xs4r, xi3, x_k3_1, xi4, x_k4_1, xn2n, xn2i, xn2r, e83_0, e83_1, e83_2, e83_4, e83_7, e83_10, e83_11, e83_12, e83_15, e83_16, e83_17, e83_20, e83_21, e83_24, e83_27, e83_28, e83_29, e83_32, e83_33, e83_34, e83_36, e83_37, e83_40, e83_41, e83_44, e83_47, e83_49, e83_50, e83_51, e83_52, e83_53, e83_56, e83_59, e83_61, e83_62, e83_63, e83_65, e83_66, e83_69, e83_70, e83_73, e83_76, e83_77, e83_80, e83_81, e83_83, e83_86, e83_89, e83_90, e83_93, e83_94, e83_95, e83_97, e83_100, e83_101, e83_104, e83_105, e83_108, e83_109, e83_112, e83_113, e83_116, e83_119, e83_122, e83_123, e83_126, e83_129, c83, i10, i00, n2, n10, n20, n60, n8, n9, bi0, ite_not, List.replicate, Nat.reduceAdd, Nat.reduceSub, Nat.reduceLeDiff, Nat.reduceLT, if_true, if_false, mg, reduceIte, not_false_eq_true, eq_self, and_self, and_true, true_and, true_or, or_true, Nat.reduceEqDiff, t_within, (bi_t c1), (t_hasDays (a := 0) (by decide)), (bi_t q1)]
        exact h1
      · rw [ag_sgS (hA1 c _ _ hA)]
        simp only [nl_n, nl_i, nl_r, x_ci, x_ca, x_bin, x_ife, x_ifl, x_ifg, x_cme, x_cml, x_cmg, x_go, x_no, x_b, x_ps, x_pn, cs_n, cs_i, cs_j, cs_r, en_n, en_i, en_j, en_r, xi1, x_k3_s, xa0, x_k2_20, r_i, r_j, r_v, r_z1, r_z0, r_a, g_20_0, l_3, l_5, l_8, l_11, l_12, l_21, l_22, l_23, l_24, l_25, l_26, l_28, l_29, l_30, l_31, l_32, xs2n, xs2i, xs2r, xi2, x_k1_20, x_div, xs3n, xs3i, xs3r, xs4n, xs4i, xs4r, xi3, x_k2_s, xi4, s_3, s_5, s_8, s_11, s_12, s_21, s_22, s_23, s_24, s_25, s_26, s_28, s_29, s_30, s_31, s_32, x_popi, x_popr, xn2n, xn2i, xn2r, e179_0, e179_1, e179_2, e179_4, e179_7, e179_10, e179_11, e179_13, e179_16, e179_17, e179_18, e179_21, e179_22, e179_23, e179_24, e179_25, e179_27, e179_30, e179_31, e179_33, e179_36, e179_37, e179_38, e179_40, e179_41, e179_44, e179_45, e179_48, e179_50, e179_51, e179_52, e179_53, e179_54, e179_57, e179_59, e179_60, e179_61, e179_63, e179_64, e179_65, e179_68, e179_71, e179_72, e179_73, e179_76, e179_79, e179_80, e179_83, e179_84, e179_85, e179_88, e179_90, e179_91, e179_92, e179_93, e179_96, e179_97, e179_98, e179_101, e179_104, e179_107, e179_108, e179_111, c179, i10, i00, n2, n10, n20, n60, n8, n9, bi0, ite_not, List.replicate, Nat.reduceAdd, Nat.reduceSub, Nat.reduceLeDiff, Nat.reduceLT, if_true, if_false, mg, reduceIte, not_false_eq_true, eq_self, and_self, and_true, true_and, true_or, or_true, Nat.reduceEqDiff, t_within6, (bi_t c1), (rq_ne (q := S.1) (a := 0) (a2 := 3) (r := itr (spF n) c (S.1 0)) (by decide)), ed3, nI_add, q3]
        exact h2
      · exact J_new hJ (hR1 c _ hR) (hA1 c _ _ hA) rfl rfl (eqJ_tr hJ1 hJ2)
    · have q1 : ¬ ¬ nI 99999 - nI c < S.1 0 0 := by rw [nI_subN (by omega), ed]; exact fun w => w (nI_lt (by omega) (by omega))
      have q3 : nI 99999 < nI (d + c) := nI_lt (by omega) (by omega)
      refine op_f4 hJ ?_ ?_
      · simp only [nl_n, nl_i, nl_r, x_ci, x_ca, x_bin, x_ife, x_ifl, x_ifg, x_cme, x_cml, x_cmg, x_go, x_no, x_b, x_ps, x_pn, cs_n, cs_i, cs_j, cs_r, en_n, en_i, en_j, en_r, xi1, x_k3_s, xa0, x_k2_0, r_i, r_j, r_v, r_z1, r_z0, r_a, g_0_0, x_k2_1, xs2n, xs2i, xs2r, xi2, x_k1_1, x_div, xs3n, xs3i, xs3r, xs4n, xs4i, xs4r, xi3, x_k3_1, xi4, x_k4_1, xn2n, xn2i, xn2r, e83_0, e83_1, e83_2, e83_4, e83_7, e83_10, e83_11, e83_12, e83_15, e83_16, e83_17, e83_20, e83_21, e83_24, e83_27, e83_28, e83_29, e83_32, e83_33, e83_34, e83_36, e83_37, e83_40, e83_41, e83_44, e83_47, e83_49, e83_50, e83_51, e83_52, e83_53, e83_56, e83_59, e83_61, e83_62, e83_63, e83_65, e83_66, e83_69, e83_70, e83_73, e83_76, e83_77, e83_80, e83_81, e83_83, e83_86, e83_89, e83_90, e83_93, e83_94, e83_95, e83_97, e83_100, e83_101, e83_104, e83_105, e83_108, e83_109, e83_112, e83_113, e83_116, e83_119, e83_122, e83_123, e83_126, e83_129, c83, i10, i00, n2, n10, n20, n60, n8, n9, bi0, ite_not, List.replicate, Nat.reduceAdd, Nat.reduceSub, Nat.reduceLeDiff, Nat.reduceLT, if_true, if_false, mg, reduceIte, not_false_eq_true, eq_self, and_self, and_true, true_and, true_or, or_true, Nat.reduceEqDiff, t_within, (bi_t c1), (t_hasDays (a := 0) (by decide)), (bi_f q1), tel4]
      · simp only [nl_n, nl_i, nl_r, x_ci, x_ca, x_bin, x_ife, x_ifl, x_ifg, x_cme, x_cml, x_cmg, x_go, x_no, x_b, x_ps, x_pn, cs_n, cs_i, cs_j, cs_r, en_n, en_i, en_j, en_r, xi1, x_k3_s, xa0, x_k2_20, r_i, r_j, r_v, r_z1, r_z0, r_a, g_20_0, l_3, l_5, l_8, l_11, l_12, l_21, l_22, l_23, l_24, l_25, l_26, l_28, l_29, l_30, l_31, l_32, xs2n, xs2i, xs2r, xi2, x_k1_20, x_div, xs3n, xs3i, xs3r, xs4n, xs4i, xs4r, xi3, x_k2_s, xi4, s_3, s_5, s_8, s_11, s_12, s_21, s_22, s_23, s_24, s_25, s_26, s_28, s_29, s_30, s_31, s_32, x_popi, x_popr, xn2n, xn2i, xn2r, e179_0, e179_1, e179_2, e179_4, e179_7, e179_10, e179_11, e179_13, e179_16, e179_17, e179_18, e179_21, e179_22, e179_23, e179_24, e179_25, e179_27, e179_30, e179_31, e179_33, e179_36, e179_37, e179_38, e179_40, e179_41, e179_44, e179_45, e179_48, e179_50, e179_51, e179_52, e179_53, e179_54, e179_57, e179_59, e179_60, e179_61, e179_63, e179_64, e179_65, e179_68, e179_71, e179_72, e179_73, e179_76, e179_79, e179_80, e179_83, e179_84, e179_85, e179_88, e179_90, e179_91, e179_92, e179_93, e179_96, e179_97, e179_98, e179_101, e179_104, e179_107, e179_108, e179_111, c179, i10, i00, n2, n10, n20, n60, n8, n9, bi0, ite_not, List.replicate, Nat.reduceAdd, Nat.reduceSub, Nat.reduceLeDiff, Nat.reduceLT, if_true, if_false, mg, reduceIte, not_false_eq_true, eq_self, and_self, and_true, true_and, true_or, or_true, Nat.reduceEqDiff, t_within6, (bi_t c1), ed3, nI_add, q3, fnd4]
  · refine op_fin (k := 0) (w := -1000001) (by decide) hJ ?_ ?_
    · simp only [nl_n, nl_i, nl_r, x_ci, x_ca, x_bin, x_ife, x_ifl, x_ifg, x_cme, x_cml, x_cmg, x_go, x_no, x_b, x_ps, x_pn, cs_n, cs_i, cs_j, cs_r, en_n, en_i, en_j, en_r, xi1, x_k3_s, xa0, x_k2_0, r_i, r_j, r_v, r_z1, r_z0, r_a, g_0_0, x_k2_1, xs2n, xs2i, xs2r, xi2, x_k1_1, x_div, xs3n, xs3i, xs3r, xs4n, xs4i, xs4r, xi3, x_k3_1, xi4, x_k4_1, xn2n, xn2i, xn2r, e83_0, e83_1, e83_2, e83_4, e83_7, e83_10, e83_11, e83_12, e83_15, e83_16, e83_17, e83_20, e83_21, e83_24, e83_27, e83_28, e83_29, e83_32, e83_33, e83_34, e83_36, e83_37, e83_40, e83_41, e83_44, e83_47, e83_49, e83_50, e83_51, e83_52, e83_53, e83_56, e83_59, e83_61, e83_62, e83_63, e83_65, e83_66, e83_69, e83_70, e83_73, e83_76, e83_77, e83_80, e83_81, e83_83, e83_86, e83_89, e83_90, e83_93, e83_94, e83_95, e83_97, e83_100, e83_101, e83_104, e83_105, e83_108, e83_109, e83_112, e83_113, e83_116, e83_119, e83_122, e83_123, e83_126, e83_129, c83, i10, i00, n2, n10, n20, n60, n8, n9, bi0, ite_not, List.replicate, Nat.reduceAdd, Nat.reduceSub, Nat.reduceLeDiff, Nat.reduceLT, if_true, if_false, mg, reduceIte, not_false_eq_true, eq_self, and_self, and_true, true_and, true_or, or_true, Nat.reduceEqDiff, t_within, (bi_f c1), tel0]
    · simp only [nl_n, nl_i, nl_r, x_ci, x_ca, x_bin, x_ife, x_ifl, x_ifg, x_cme, x_cml, x_cmg, x_go, x_no, x_b, x_ps, x_pn, cs_n, cs_i, cs_j, cs_r, en_n, en_i, en_j, en_r, xi1, x_k3_s, xa0, x_k2_20, r_i, r_j, r_v, r_z1, r_z0, r_a, g_20_0, l_3, l_5, l_8, l_11, l_12, l_21, l_22, l_23, l_24, l_25, l_26, l_28, l_29, l_30, l_31, l_32, xs2n, xs2i, xs2r, xi2, x_k1_20, x_div, xs3n, xs3i, xs3r, xs4n, xs4i, xs4r, xi3, x_k2_s, xi4, s_3, s_5, s_8, s_11, s_12, s_21, s_22, s_23, s_24, s_25, s_26, s_28, s_29, s_30, s_31, s_32, x_popi, x_popr, xn2n, xn2i, xn2r, e179_0, e179_1, e179_2, e179_4, e179_7, e179_10, e179_11, e179_13, e179_16, e179_17, e179_18, e179_21, e179_22, e179_23, e179_24, e179_25, e179_27, e179_30, e179_31, e179_33, e179_36, e179_37, e179_38, e179_40, e179_41, e179_44, e179_45, e179_48, e179_50, e179_51, e179_52, e179_53, e179_54, e179_57, e179_59, e179_60, e179_61, e179_63, e179_64, e179_65, e179_68, e179_71, e179_72, e179_73, e179_76, e179_79, e179_80, e179_83, e179_84, e179_85, e179_88, e179_90, e179_91, e179_92, e179_93, e179_96, e179_97, e179_98, e179_101, e179_104, e179_107, e179_108, e179_111, c179, i10, i00, n2, n10, n20, n60, n8, n9, bi0, ite_not, List.replicate, Nat.reduceAdd, Nat.reduceSub, Nat.reduceLeDiff, Nat.reduceLT, if_true, if_false, mg, reduceIte, not_false_eq_true, eq_self, and_self, and_true, true_and, true_or, or_true, Nat.reduceEqDiff, t_within6, (bi_f c1), fnd0]
