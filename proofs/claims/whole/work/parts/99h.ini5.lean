/-! BOTH ARE MADE -/
def cS2 (F0 F9 : Nat → aV) : aL → Nat → aV := cu (cu g0 (0, 0, 0) F0) (9, 0, 0) F9
theorem s2_9 {F0 F9 F : Nat → aV} : cu (cS2 F0 F9) (9, 0, 0) F = cS2 F0 F := cu_cu
theorem s2_0 {F0 F9 F : Nat → aV} : cu (cS2 F0 F9) (0, 0, 0) F = cS2 F F9 := by
  unfold cS2
  rw [cu_sw (c := (9, 0, 0)) (c' := (0, 0, 0)) (by decide), cu_cu]
theorem s2_r0 {F0 F9 : Nat → aV} : cS2 F0 F9 (0, 0, 0) = F0 := by
  unfold cS2
  rw [cu_ne (by decide), cu_at]
theorem s2_r9 {F0 F9 : Nat → aV} : cS2 F0 F9 (9, 0, 0) = F9 := cu_at
theorem s2_o {F0 F9 : Nat → aV} {r : aL} (h0 : r.1 ≠ 0) (h9 : r.1 ≠ 9) : cS2 F0 F9 r = g0 r := by
  unfold cS2
  rw [cu_ne (fun z => h9 (by rw [z])), cu_ne (fun z => h0 (by rw [z]))]
theorem s2_in {F : Nat → aV} : cu g0 (0, 0, 0) F = cS2 F (g0 (9, 0, 0)) := by
  unfold cS2
  rw [cu_id (h := cu g0 (0, 0, 0) F) (c := (9, 0, 0)) (cu_ne (by decide)).symm]
theorem s2_out {F0 F9 : Nat → aV} (e0 : F0 = g0 (0, 0, 0)) (e9 : F9 = g0 (9, 0, 0)) : cS2 F0 F9 = g0 := by
  unfold cS2
  rw [cu_id e0, cu_id e9]
def shR (b : Nat) : Nat → aV := fun k => if k < b then aR (10, k, 0) else aN
theorem sh_sR {b : Nat} : fup (shR b) b (aR (10, b, 0)) = shR (b + 1) := by
  funext k
  unfold fup shR
  by_cases w : k = b
  · rw [if_pos w, if_pos (by omega), w]
  · rw [if_neg w]
    by_cases w2 : k < b
    · rw [if_pos w2, if_pos (by omega)]
    · rw [if_neg w2, if_neg (by omega)]
theorem l_shs {X : aX} {F0 : Nat → aV} (hF : F0 4 = aR (9, 0, 0)) (hE : F0 = g0 (0, 0, 0)) : ∀ k s, s + k = 4 → go X 61 71 [some (aR (0, 0, 0)), some (aI (nI s))] [] (63 + 2 * s, cS2 F0 (shR s)) = some (none, (71, g0)) := by
  intro k
  induction k with
  | zero =>
    intro s hs
    have o0 : okC 71 (0, 0, 0) := mkC (j := 0) (by decide) (by decide +kernel) (by decide +kernel) (by decide)
    have o9 : okC 71 (9, 0, 0) := mkC (j := 61) (by decide) (by decide +kernel) (by decide +kernel) (by decide)
    have e9 : shR 4 = g0 (9, 0, 0) := by
      funext k
      show _ = memv S0 (9, 0, 0) k
      unfold shR
      by_cases w : k < 4
      · simp [memv, rfs, rvN, w]
      · simp [memv, rfs, rvN, w]
    rw [show s = 4 by omega, e61_71]
    simp only [nl_n, nl_i, nl_r, x_ci, x_ca, x_bin, x_ife, x_ifl, x_ifg, x_cme, x_cml, x_cmg, x_go, x_no, x_b, x_ps, x_pn, cs_n, cs_i, cs_j, cs_r, en_n, en_i, en_j, en_r, xa0, x_oin, x_dupi, x_dupr, x_k1_1, x_k1_6, p_0_6, xs1n, xs1i, xs1r, xi1, g_0_4, n_l2, n_l3, n_l5, n_l8, n_l9, n_l11, n_l12, n_l21, n_l22, n_l23, n_l24, n_l25, n_l26, n_l27, n_l28, n_l29, n_l30, n_l31, n_l32, x_k1_10, xn1n, xn1i, xn1r, r_i, r_j, r_v, r_z1, r_z0, r_a, e61_0, e61_1, e61_4, e61_5, e61_8, e61_9, e61_12, e61_15, e61_16, e61_19, e61_20, e61_23, e61_26, e61_27, e61_30, e61_31, e61_34, e61_37, e61_38, e61_41, e61_42, e61_45, e61_48, e61_49, e61_50, e61_53, e61_56, e61_57, e61_59, e61_61, e61_64, e61_65, e61_66, e61_69, e61_70, e61_72, e61_73, e61_76, e61_77, e61_80, e61_81, e61_84, e61_85, e61_88, e61_89, e61_92, e61_93, e61_96, e61_99, c61, i10, i00, n2, n10, n20, n60, n8, n9, bi0, ite_not, List.replicate, Nat.reduceAdd, Nat.reduceSub, Nat.reduceLeDiff, Nat.reduceLT, if_true, if_false, mg, reduceIte, not_false_eq_true, eq_self, and_self, and_true, true_and, true_or, or_true, Nat.reduceEqDiff, (q_get (c := 5) o0 rfl), s2_r0, hF, (q_aln (kd := 3) (n := 4) o9 rfl (by decide)), (nI_nlt (Nat.le_refl 4) (show 4 < 2 ^ 31 by decide))]
    rw [s2_out hE e9]
  | succ k ih =>
    intro s hs
    have hs4 : s < 4 := by omega
    have o0 : okC (63 + 2 * s) (0, 0, 0) := mkC (j := 0) (by decide) (by decide +kernel) (by decide +kernel) (by omega)
    have o9 : okC (63 + 2 * s) (9, 0, 0) := mkC (j := 61) (by decide) (by decide +kernel) (by decide +kernel) (by omega)
    have o9' : okC (63 + 2 * s + 1 + 1) (9, 0, 0) := mkC (j := 61) (by decide) (by decide +kernel) (by decide +kernel) (by omega)
    have oa : okC (63 + 2 * s + 1) (10, s, 0) := mkC (show 10 < 80 by decide) (ce10 s hs4).1 (ce10 s hs4).2 (by omega)
    have oa' : okC (63 + 2 * s + 1 + 1) (10, s, 0) := mkC (show 10 < 80 by decide) (ce10 s hs4).1 (ce10 s hs4).2 (by omega)
    have is := i_sheet (X := X) (h := cS2 F0 (shR s)) (i := 63 + 2 * s + 1) hs4 (by omega) (s2_o (show 10 ≠ 0 by decide) (show 10 ≠ 9 by decide)) (s2_o (show 11 ≠ 0 by decide) (show 11 ≠ 9 by decide))
    rw [← ih (s + 1) (by omega), e61_71]
    have en : 63 + 2 * (s + 1) = 63 + 2 * s + 1 + 1 := by omega
    rw [en]
    simp only [nl_n, nl_i, nl_r, x_ci, x_ca, x_bin, x_ife, x_ifl, x_ifg, x_cme, x_cml, x_cmg, x_go, x_no, x_b, x_ps, x_pn, cs_n, cs_i, cs_j, cs_r, en_n, en_i, en_j, en_r, xa0, x_oin, x_dupi, x_dupr, x_k1_1, x_k1_6, p_0_6, xs1n, xs1i, xs1r, xi1, g_0_4, n_l2, n_l3, n_l5, n_l8, n_l9, n_l11, n_l12, n_l21, n_l22, n_l23, n_l24, n_l25, n_l26, n_l27, n_l28, n_l29, n_l30, n_l31, n_l32, x_k1_10, xn1n, xn1i, xn1r, r_i, r_j, r_v, r_z1, r_z0, r_a, e61_0, e61_1, e61_4, e61_5, e61_8, e61_9, e61_12, e61_15, e61_16, e61_19, e61_20, e61_23, e61_26, e61_27, e61_30, e61_31, e61_34, e61_37, e61_38, e61_41, e61_42, e61_45, e61_48, e61_49, e61_50, e61_53, e61_56, e61_57, e61_59, e61_61, e61_64, e61_65, e61_66, e61_69, e61_70, e61_72, e61_73, e61_76, e61_77, e61_80, e61_81, e61_84, e61_85, e61_88, e61_89, e61_92, e61_93, e61_96, e61_99, c61, i10, i00, n2, n10, n20, n60, n8, n9, bi0, ite_not, List.replicate, Nat.reduceAdd, Nat.reduceSub, Nat.reduceLeDiff, Nat.reduceLT, if_true, if_false, mg, reduceIte, not_false_eq_true, eq_self, and_self, and_true, true_and, true_or, or_true, Nat.reduceEqDiff, (q_get (c := 5) o0 rfl), s2_r0, hF, (q_aln (kd := 3) (n := 4) o9 rfl (by decide)), (nI_lt hs4 (show 4 < 2 ^ 31 by decide)), (q_new (c := 1) (ce10 s hs4).1 rfl), (q_k1 (rc := 2) (c := 1) rfl (by decide) oa rfl), is, (q_aas o9' rfl hs4 (by decide) (aso_3 oa')), s2_r9, s2_9, sh_sR, nI_add]
theorem i_lav {X : aX} : cl X 61 [aR (0, 0, 0)] (1, cu g0 (0, 0, 0) (dfl (0, 0, 0))) = some (none, (71, g0)) := by
  have o0 : ∀ i, 1 ≤ i → okC i (0, 0, 0) := fun i hi => mkC (j := 0) (by decide) (by decide +kernel) (by decide +kernel) (by omega)
  have q0 : okC 2 (1, 0, 0) := mkC (j := 1) (by decide) (by decide +kernel) (by decide +kernel) (by decide)
  have q1 : okC 21 (1, 1, 0) := mkC (j := 20) (by decide) (by decide +kernel) (by decide +kernel) (by decide)
  have q2 : okC 40 (1, 2, 0) := mkC (j := 39) (by decide) (by decide +kernel) (by decide +kernel) (by decide)
  have q6 : okC 59 (6, 0, 0) := mkC (j := 58) (by decide) (by decide +kernel) (by decide +kernel) (by decide)
  have hq : ∀ F a r, 1 ≤ r.1 → r.1 ≤ 5 → r.2.1 = a → cu g0 (0, 0, 0) F r = g0 r := fun F a r h1 _ _ => cu_ne (fun z => by subst z; have w : 1 ≤ 0 := h1; omega)
  have s0 := fun F => i_sq (X := X) (h := cu g0 (0, 0, 0) F) (a := 0) (i := 2) (by decide) rfl (hq F 0)
  have s1 := fun F => i_sq (X := X) (h := cu g0 (0, 0, 0) F) (a := 1) (i := 21) (by decide) rfl (hq F 1)
  have s2 := fun F => i_sq (X := X) (h := cu g0 (0, 0, 0) F) (a := 2) (i := 40) (by decide) rfl (hq F 2)
  have rd := fun F => i_read (X := X) (h := cu g0 (0, 0, 0) F) (cu_ne (by decide)) (cu_ne (by decide)) (cu_ne (by decide))
  have z12 : ∀ F0 F9, cu (cS2 F0 F9) (12, 0, 0) (dfl (12, 0, 0)) = cS2 F0 F9 := fun F0 F9 => z_arr (n := 7) rfl (by rw [s2_o (by decide) (by decide)]; exact g0_z (by decide))
  have d9 : dfl (9, 0, 0) = shR 0 := by
    funext k
    unfold shR
    rw [if_neg (by omega)]
    rfl
  have c9 : ∀ F F', cu (cu g0 (0, 0, 0) F) (9, 0, 0) F' = cS2 F F' := fun F F' => rfl
  have ls := fun F0 hF hE => l_shs (X := X) (F0 := F0) hF hE 4 0 (by omega)
  simp only [nl_n, nl_i, nl_r, x_ci, x_ca, x_bin, x_ife, x_ifl, x_ifg, x_cme, x_cml, x_cmg, x_go, x_no, x_b, x_ps, x_pn, cs_n, cs_i, cs_j, cs_r, en_n, en_i, en_j, en_r, xa0, x_oin, x_dupi, x_dupr, x_k1_1, x_k1_6, p_0_6, xs1n, xs1i, xs1r, xi1, g_0_4, n_l2, n_l3, n_l5, n_l8, n_l9, n_l11, n_l12, n_l21, n_l22, n_l23, n_l24, n_l25, n_l26, n_l27, n_l28, n_l29, n_l30, n_l31, n_l32, x_k1_10, xn1n, xn1i, xn1r, r_i, r_j, r_v, r_z1, r_z0, r_a, e61_0, e61_1, e61_4, e61_5, e61_8, e61_9, e61_12, e61_15, e61_16, e61_19, e61_20, e61_23, e61_26, e61_27, e61_30, e61_31, e61_34, e61_37, e61_38, e61_41, e61_42, e61_45, e61_48, e61_49, e61_50, e61_53, e61_56, e61_57, e61_59, e61_61, e61_64, e61_65, e61_66, e61_69, e61_70, e61_72, e61_73, e61_76, e61_77, e61_80, e61_81, e61_84, e61_85, e61_88, e61_89, e61_92, e61_93, e61_96, e61_99, c61, i10, i00, n2, n10, n20, n60, n8, n9, bi0, ite_not, List.replicate, Nat.reduceAdd, Nat.reduceSub, Nat.reduceLeDiff, Nat.reduceLT, if_true, if_false, mg, reduceIte, not_false_eq_true, eq_self, and_self, and_true, true_and, true_or, or_true, Nat.reduceEqDiff, (q_new (i := 1) (r := (1, 0, 0)) (c := 3) (by decide +kernel) rfl), (q_new (i := 20) (r := (1, 1, 0)) (c := 3) (by decide +kernel) rfl), (q_new (i := 39) (r := (1, 2, 0)) (c := 3) (by decide +kernel) rfl), (q_new (i := 58) (r := (6, 0, 0)) (c := 0) (by decide +kernel) rfl), (q_k1 (rc := 4) (c := 3) rfl (by decide) q0 rfl), (q_k1 (rc := 4) (c := 3) rfl (by decide) q1 rfl), (q_k1 (rc := 4) (c := 3) rfl (by decide) q2 rfl), (q_k1 (rc := 1) (c := 0) rfl (by decide) q6 rfl), s0, s1, s2, rd, (q_put (c := 5) (o0 20 (by decide)) rfl (show pok 2 (aR (1, 0, 0)) = true from rfl)), (q_put (c := 5) (o0 39 (by decide)) rfl (show pok 2 (aR (1, 1, 0)) = true from rfl)), (q_put (c := 5) (o0 58 (by decide)) rfl (show pok 2 (aR (1, 2, 0)) = true from rfl)), (q_put (c := 5) (o0 61 (by decide)) rfl (show pok 2 (aR (6, 0, 0)) = true from rfl)), (q_put (c := 5) (o0 62 (by decide)) rfl (show pok 2 (aR (9, 0, 0)) = true from rfl)), (q_put (c := 5) (o0 63 (by decide)) rfl (show pok 2 (aR (12, 0, 0)) = true from rfl)), (q_put (c := 5) (o0 63 (by decide)) rfl (show pok 1 (aI (nI 0)) = true from rfl)), (q_nwq (i := 61) (r := (9, 0, 0)) (by decide +kernel) (show 4 < 2 ^ 31 by decide) rfl (by decide)), (q_nwa (i := 62) (r := (12, 0, 0)) (by decide +kernel) (show 7 < 2 ^ 31 by decide) rfl), cu_at, cu_cu, c9, d9, s2_r0, s2_0, z12]
  refine ls _ rfl ?_
  funext k
  rcases k with _ | _ | _ | _ | _ | _ | _ | k <;> rfl
