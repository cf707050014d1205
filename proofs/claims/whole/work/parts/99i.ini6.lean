/-! THE REFERENCE IS MADE -/
def cS6 (F20 F21 F27 : Nat → aV) : aL → Nat → aV := cu (cu (cu g0 (20, 0, 0) F20) (21, 0, 0) F21) (27, 0, 0) F27
theorem s6_27 {F20 F21 F27 F : Nat → aV} : cu (cS6 F20 F21 F27) (27, 0, 0) F = cS6 F20 F21 F := cu_cu
theorem s6_21 {F20 F21 F27 F : Nat → aV} : cu (cS6 F20 F21 F27) (21, 0, 0) F = cS6 F20 F F27 := by
  unfold cS6
  rw [cu_sw (c := (27, 0, 0)) (c' := (21, 0, 0)) (by decide), cu_cu]
theorem s6_20 {F20 F21 F27 F : Nat → aV} : cu (cS6 F20 F21 F27) (20, 0, 0) F = cS6 F F21 F27 := by
  unfold cS6
  rw [cu_sw (c := (27, 0, 0)) (c' := (20, 0, 0)) (by decide), cu_sw (c := (21, 0, 0)) (c' := (20, 0, 0)) (by decide), cu_cu]
theorem s6_r20 {F20 F21 F27 : Nat → aV} : cS6 F20 F21 F27 (20, 0, 0) = F20 := by
  unfold cS6
  rw [cu_ne (by decide), cu_ne (by decide), cu_at]
theorem s6_r21 {F20 F21 F27 : Nat → aV} : cS6 F20 F21 F27 (21, 0, 0) = F21 := by
  unfold cS6
  rw [cu_ne (by decide), cu_at]
theorem s6_r27 {F20 F21 F27 : Nat → aV} : cS6 F20 F21 F27 (27, 0, 0) = F27 := cu_at
theorem s6_o {F20 F21 F27 : Nat → aV} {r : aL} (h0 : r.1 ≠ 20) (h1 : r.1 ≠ 21) (h2 : r.1 ≠ 27) : cS6 F20 F21 F27 r = g0 r := by
  unfold cS6
  rw [cu_ne (fun z => h2 (by rw [z])), cu_ne (fun z => h1 (by rw [z])), cu_ne (fun z => h0 (by rw [z]))]
theorem s6_in {F : Nat → aV} : cu g0 (20, 0, 0) F = cS6 F (g0 (21, 0, 0)) (g0 (27, 0, 0)) := by
  unfold cS6
  rw [cu_id (h := cu g0 (20, 0, 0) F) (c := (21, 0, 0)) (cu_ne (by decide)).symm, cu_id (h := cu g0 (20, 0, 0) F) (c := (27, 0, 0)) (cu_ne (by decide)).symm]
theorem s6_out {F20 F21 F27 : Nat → aV} (e0 : F20 = g0 (20, 0, 0)) (e1 : F21 = g0 (21, 0, 0)) (e2 : F27 = g0 (27, 0, 0)) : cS6 F20 F21 F27 = g0 := by
  unfold cS6
  rw [cu_id e0, cu_id e1, cu_id e2]
theorem s6_z {F20 F21 F27 : Nat → aV} {t n : Nat} (hs : shp (t, 0, 0) = (1, n)) (h : t = 8 ∨ t = 11 ∨ t = 12 ∨ t = 22 ∨ t = 23 ∨ t = 24 ∨ t = 25 ∨ t = 26 ∨ t = 28 ∨ t = 29 ∨ t = 30 ∨ t = 31 ∨ t = 32) : cu (cS6 F20 F21 F27) (t, 0, 0) (dfl (t, 0, 0)) = cS6 F20 F21 F27 := z_arr hs (by rw [s6_o (show t ≠ 20 by omega) (show t ≠ 21 by omega) (show t ≠ 27 by omega)]; exact g0_z h)
def nwR (j : Nat) : Nat → aV := fun k => if k = 2 then aI (nI 1) else if 4 ≤ k ∧ k < 4 + j then aI (-1) else aI (nI 0)
theorem nw_s {j : Nat} : fup (nwR j) (4 + j) (aI (-1)) = nwR (j + 1) := by
  funext k
  unfold fup nwR
  by_cases w : k = 4 + j
  · rw [if_pos w, if_neg (by omega), if_pos (by omega)]
  · rw [if_neg w]
    by_cases w2 : k = 2
    · rw [if_pos w2, if_pos w2]
    · rw [if_neg w2, if_neg w2]
      by_cases w3 : 4 ≤ k ∧ k < 4 + j
      · rw [if_pos w3, if_pos (by omega)]
      · rw [if_neg w3, if_neg (by omega)]
theorem l_now0 {X : aX} {F20 F27 : Nat → aV} (hF : F20 0 = aR (21, 0, 0)) : ∀ k j, j + k = 10 → go X 112 146 [some (aR (20, 0, 0)), some (aI (nI j))] [] (84, cS6 F20 (nwR j) F27) = some (none, (84, cS6 F20 (nwR 10) F27)) := by
  have oa : okC 84 (20, 0, 0) := mkC (j := 71) (by decide) (by decide +kernel) (by decide +kernel) (by decide)
  have ob : okC 84 (21, 0, 0) := mkC (j := 72) (by decide) (by decide +kernel) (by decide +kernel) (by decide)
  intro k
  induction k with
  | zero =>
    intro j hj
    rw [show j = 10 by omega, e112_146]
    simp only [nl_n, nl_i, nl_r, x_ci, x_ca, x_bin, x_ife, x_ifl, x_ifg, x_cme, x_cml, x_cmg, x_go, x_no, x_b, x_ps, x_pn, cs_n, cs_i, cs_j, cs_r, en_n, en_i, en_j, en_r, xa0, x_oin, x_dupi, x_dupr, g_20_0, s_3, s_5, s_8, s_11, s_12, s_21, s_22, s_23, s_24, s_25, s_26, s_28, s_29, s_30, s_31, s_32, xs1n, xs1i, xs1r, xi1, xn1n, xn1i, xn1r, r_i, r_j, r_v, r_z1, r_z0, r_a, e112_0, e112_1, e112_4, e112_5, e112_7, e112_9, e112_12, e112_13, e112_15, e112_17, e112_20, e112_21, e112_23, e112_25, e112_28, e112_29, e112_31, e112_33, e112_36, e112_37, e112_39, e112_41, e112_44, e112_45, e112_47, e112_49, e112_52, e112_53, e112_55, e112_58, e112_59, e112_60, e112_62, e112_63, e112_64, e112_65, e112_67, e112_68, e112_69, e112_70, e112_72, e112_73, e112_74, e112_75, e112_77, e112_78, e112_79, e112_80, e112_82, e112_83, e112_84, e112_85, e112_87, e112_88, e112_89, e112_91, e112_93, e112_94, e112_97, e112_98, e112_101, e112_103, e112_106, e112_107, e112_108, e112_110, e112_113, e112_114, e112_115, e112_117, e112_120, e112_121, e112_124, e112_126, e112_129, e112_130, e112_132, e112_134, e112_137, e112_138, e112_141, e112_142, e112_143, e112_144, e112_145, e112_147, e112_149, e112_152, e112_153, e112_156, e112_157, e112_158, e112_159, e112_160, e112_161, e112_164, e112_167, c112, i10, i00, n2, n10, n20, n60, n8, n9, bi0, ite_not, List.replicate, Nat.reduceAdd, Nat.reduceSub, Nat.reduceLeDiff, Nat.reduceLT, if_true, if_false, mg, reduceIte, not_false_eq_true, eq_self, and_self, and_true, true_and, true_or, or_true, Nat.reduceEqDiff, (nI_nlt (Nat.le_refl 10) (show 10 < 2 ^ 31 by decide))]
  | succ k ih =>
    intro j hj
    have h94 : 4 + j < 94 := by omega
    rw [← ih (j + 1) (by omega), e112_146]
    simp only [nl_n, nl_i, nl_r, x_ci, x_ca, x_bin, x_ife, x_ifl, x_ifg, x_cme, x_cml, x_cmg, x_go, x_no, x_b, x_ps, x_pn, cs_n, cs_i, cs_j, cs_r, en_n, en_i, en_j, en_r, xa0, x_oin, x_dupi, x_dupr, g_20_0, s_3, s_5, s_8, s_11, s_12, s_21, s_22, s_23, s_24, s_25, s_26, s_28, s_29, s_30, s_31, s_32, xs1n, xs1i, xs1r, xi1, xn1n, xn1i, xn1r, r_i, r_j, r_v, r_z1, r_z0, r_a, e112_0, e112_1, e112_4, e112_5, e112_7, e112_9, e112_12, e112_13, e112_15, e112_17, e112_20, e112_21, e112_23, e112_25, e112_28, e112_29, e112_31, e112_33, e112_36, e112_37, e112_39, e112_41, e112_44, e112_45, e112_47, e112_49, e112_52, e112_53, e112_55, e112_58, e112_59, e112_60, e112_62, e112_63, e112_64, e112_65, e112_67, e112_68, e112_69, e112_70, e112_72, e112_73, e112_74, e112_75, e112_77, e112_78, e112_79, e112_80, e112_82, e112_83, e112_84, e112_85, e112_87, e112_88, e112_89, e112_91, e112_93, e112_94, e112_97, e112_98, e112_101, e112_103, e112_106, e112_107, e112_108, e112_110, e112_113, e112_114, e112_115, e112_117, e112_120, e112_121, e112_124, e112_126, e112_129, e112_130, e112_132, e112_134, e112_137, e112_138, e112_141, e112_142, e112_143, e112_144, e112_145, e112_147, e112_149, e112_152, e112_153, e112_156, e112_157, e112_158, e112_159, e112_160, e112_161, e112_164, e112_167, c112, i10, i00, n2, n10, n20, n60, n8, n9, bi0, ite_not, List.replicate, Nat.reduceAdd, Nat.reduceSub, Nat.reduceLeDiff, Nat.reduceLT, if_true, if_false, mg, reduceIte, not_false_eq_true, eq_self, and_self, and_true, true_and, true_or, or_true, Nat.reduceEqDiff, (nI_lt (show j < 10 by omega) (show 10 < 2 ^ 31 by decide)), (q_get (c := 6) oa rfl), s6_r20, hF, (q_ias (n := 94) ob rfl h94 (by decide)), s6_r21, s6_21, nw_s, nI_add]
theorem i_mod {X : aX} : cl X 112 [aR (20, 0, 0)] (72, cu g0 (20, 0, 0) (dfl (20, 0, 0))) = some (none, (84, g0)) := by
  have oa : ∀ i, 72 ≤ i → okC i (20, 0, 0) := fun i hi => mkC (j := 71) (by decide) (by decide +kernel) (by decide +kernel) (by omega)
  have ob : okC 84 (21, 0, 0) := mkC (j := 72) (by decide) (by decide +kernel) (by decide +kernel) (by decide)
  have od : okC 79 (27, 0, 0) := mkC (j := 78) (by decide) (by decide +kernel) (by decide +kernel) (by decide)
  have e20 : fup (fup (fup (fup (fup (fup (fup (fup (fup (fup (fup (fup (dfl (20, 0, 0)) 0 (aR (21, 0, 0))) 1 (aR (22, 0, 0))) 2 (aR (23, 0, 0))) 4 (aR (24, 0, 0))) 5 (aR (25, 0, 0))) 7 (aR (26, 0, 0))) 14 (aR (27, 0, 0))) 15 (aR (28, 0, 0))) 18 (aR (29, 0, 0))) 19 (aR (30, 0, 0))) 20 (aR (31, 0, 0))) 21 (aR (32, 0, 0)) = g0 (20, 0, 0) := by
    funext k
    rcases k with _ | _ | _ | _ | _ | _ | _ | _ | _ | _ | _ | _ | _ | _ | _ | _ | _ | _ | _ | _ | _ | _ | k <;> rfl
  have e27 : fup (fup (fup (fup (fup (fup (fup (dfl (27, 0, 0)) 0 (aR (80, 0, 0))) 1 (aR (80, 1, 0))) 2 (aR (80, 2, 0))) 3 (aR (80, 3, 0))) 4 (aR (80, 4, 0))) 5 (aR (80, 5, 0))) 6 (aR (80, 6, 0)) = g0 (27, 0, 0) := by
    funext k
    rcases k with _ | _ | _ | _ | _ | _ | _ | k
    · rfl
    · rfl
    · rfl
    · rfl
    · rfl
    · rfl
    · rfl
    · show aN = memv S0 (27, 0, 0) (k + 7)
      have w : ¬ k + 7 < 7 := by omega
      simp [memv, rfs, rvN, w]
  have e21 : nwR 10 = g0 (21, 0, 0) := by
    funext k
    show _ = memv S0 (21, 0, 0) k
    unfold nwR
    simp only [memv, rfs, pl, S0, r0R]
    by_cases w : k = 2
    · simp [w, r0R]
    · by_cases w2 : 4 ≤ k ∧ k < 14
      · simp [w, w2, r0R]
      · simp [w, w2, r0R]
  have ln := fun F20 F27 hF => l_now0 (X := X) (F20 := F20) (F27 := F27) hF 10 0 (by omega)
  have n0 : fup (dfl (21, 0, 0)) 2 (aI (nI 1)) = nwR 0 := by
    funext k
    unfold fup nwR
    by_cases w : k = 2
    · rw [if_pos w, if_pos w]
    · rw [if_neg w, if_neg w, if_neg (by omega), dfl_1 (n := 94) rfl]
  have f0 : ∀ F k v, k ≠ 0 → fup F k v 0 = F 0 := fun F k v h => if_neg (Ne.symm h)
  rw [s6_in]
  simp only [nl_n, nl_i, nl_r, x_ci, x_ca, x_bin, x_ife, x_ifl, x_ifg, x_cme, x_cml, x_cmg, x_go, x_no, x_b, x_ps, x_pn, cs_n, cs_i, cs_j, cs_r, en_n, en_i, en_j, en_r, xa0, x_oin, x_dupi, x_dupr, g_20_0, s_3, s_5, s_8, s_11, s_12, s_21, s_22, s_23, s_24, s_25, s_26, s_28, s_29, s_30, s_31, s_32, xs1n, xs1i, xs1r, xi1, xn1n, xn1i, xn1r, r_i, r_j, r_v, r_z1, r_z0, r_a, e112_0, e112_1, e112_4, e112_5, e112_7, e112_9, e112_12, e112_13, e112_15, e112_17, e112_20, e112_21, e112_23, e112_25, e112_28, e112_29, e112_31, e112_33, e112_36, e112_37, e112_39, e112_41, e112_44, e112_45, e112_47, e112_49, e112_52, e112_53, e112_55, e112_58, e112_59, e112_60, e112_62, e112_63, e112_64, e112_65, e112_67, e112_68, e112_69, e112_70, e112_72, e112_73, e112_74, e112_75, e112_77, e112_78, e112_79, e112_80, e112_82, e112_83, e112_84, e112_85, e112_87, e112_88, e112_89, e112_91, e112_93, e112_94, e112_97, e112_98, e112_101, e112_103, e112_106, e112_107, e112_108, e112_110, e112_113, e112_114, e112_115, e112_117, e112_120, e112_121, e112_124, e112_126, e112_129, e112_130, e112_132, e112_134, e112_137, e112_138, e112_141, e112_142, e112_143, e112_144, e112_145, e112_147, e112_149, e112_152, e112_153, e112_156, e112_157, e112_158, e112_159, e112_160, e112_161, e112_164, e112_167, c112, i10, i00, n2, n10, n20, n60, n8, n9, bi0, ite_not, List.replicate, Nat.reduceAdd, Nat.reduceSub, Nat.reduceLeDiff, Nat.reduceLT, if_true, if_false, mg, reduceIte, not_false_eq_true, eq_self, and_self, and_true, true_and, true_or, or_true, Nat.reduceEqDiff, (q_nwa (i := 72) (r := (21, 0, 0)) (by decide +kernel) (show 94 < 2 ^ 31 by decide) rfl), (q_put (c := 6) (oa 73 (by decide)) rfl (show pok 2 (aR (21, 0, 0)) = true from rfl)), (q_nwa (i := 73) (r := (22, 0, 0)) (by decide +kernel) (show 94 < 2 ^ 31 by decide) rfl), (q_put (c := 6) (oa 74 (by decide)) rfl (show pok 2 (aR (22, 0, 0)) = true from rfl)), (s6_z (t := 22) (n := 94) rfl (by decide)), (q_nwa (i := 74) (r := (23, 0, 0)) (by decide +kernel) (show 94 < 2 ^ 31 by decide) rfl), (q_put (c := 6) (oa 75 (by decide)) rfl (show pok 2 (aR (23, 0, 0)) = true from rfl)), (s6_z (t := 23) (n := 94) rfl (by decide)), (q_nwa (i := 75) (r := (24, 0, 0)) (by decide +kernel) (show 8 < 2 ^ 31 by decide) rfl), (q_put (c := 6) (oa 76 (by decide)) rfl (show pok 2 (aR (24, 0, 0)) = true from rfl)), (s6_z (t := 24) (n := 8) rfl (by decide)), (q_nwa (i := 76) (r := (25, 0, 0)) (by decide +kernel) (show 8 < 2 ^ 31 by decide) rfl), (q_put (c := 6) (oa 77 (by decide)) rfl (show pok 2 (aR (25, 0, 0)) = true from rfl)), (s6_z (t := 25) (n := 8) rfl (by decide)), (q_nwa (i := 77) (r := (26, 0, 0)) (by decide +kernel) (show 120 < 2 ^ 31 by decide) rfl), (q_put (c := 6) (oa 78 (by decide)) rfl (show pok 2 (aR (26, 0, 0)) = true from rfl)), (s6_z (t := 26) (n := 120) rfl (by decide)), (q_nwa (i := 79) (r := (28, 0, 0)) (by decide +kernel) (show 720 < 2 ^ 31 by decide) rfl), (q_put (c := 6) (oa 80 (by decide)) rfl (show pok 2 (aR (28, 0, 0)) = true from rfl)), (s6_z (t := 28) (n := 720) rfl (by decide)), (q_nwa (i := 80) (r := (29, 0, 0)) (by decide +kernel) (show 4 < 2 ^ 31 by decide) rfl), (q_put (c := 6) (oa 81 (by decide)) rfl (show pok 2 (aR (29, 0, 0)) = true from rfl)), (s6_z (t := 29) (n := 4) rfl (by decide)), (q_nwa (i := 81) (r := (30, 0, 0)) (by decide +kernel) (show 4 < 2 ^ 31 by decide) rfl), (q_put (c := 6) (oa 82 (by decide)) rfl (show pok 2 (aR (30, 0, 0)) = true from rfl)), (s6_z (t := 30) (n := 4) rfl (by decide)), (q_nwa (i := 82) (r := (31, 0, 0)) (by decide +kernel) (show 160 < 2 ^ 31 by decide) rfl), (q_put (c := 6) (oa 83 (by decide)) rfl (show pok 2 (aR (31, 0, 0)) = true from rfl)), (s6_z (t := 31) (n := 160) rfl (by decide)), (q_nwa (i := 83) (r := (32, 0, 0)) (by decide +kernel) (show 40 < 2 ^ 31 by decide) rfl), (q_put (c := 6) (oa 84 (by decide)) rfl (show pok 2 (aR (32, 0, 0)) = true from rfl)), (s6_z (t := 32) (n := 40) rfl (by decide)), (q_nwq (i := 78) (r := (27, 0, 0)) (by decide +kernel) (show 7 < 2 ^ 31 by decide) rfl (by decide)), (q_put (c := 6) (oa 79 (by decide)) rfl (show pok 2 (aR (27, 0, 0)) = true from rfl)), (q_aas (j := 0) (q := (80, 0, 0)) od rfl (show 0 < 7 by decide) (by decide) rfl), (q_aas (j := 1) (q := (80, 1, 0)) od rfl (show 1 < 7 by decide) (by decide) rfl), (q_aas (j := 2) (q := (80, 2, 0)) od rfl (show 2 < 7 by decide) (by decide) rfl), (q_aas (j := 3) (q := (80, 3, 0)) od rfl (show 3 < 7 by decide) (by decide) rfl), (q_aas (j := 4) (q := (80, 4, 0)) od rfl (show 4 < 7 by decide) (by decide) rfl), (q_aas (j := 5) (q := (80, 5, 0)) od rfl (show 5 < 7 by decide) (by decide) rfl), (q_aas (j := 6) (q := (80, 6, 0)) od rfl (show 6 < 7 by decide) (by decide) rfl), (q_get (c := 6) (oa 84 (by decide)) rfl), (q_ias (n := 94) ob rfl (show 2 < 94 by decide) (by decide)), s6_20, s6_21, s6_27, s6_r20, s6_r21, s6_r27]
  rw [e20, e27]
  have g20 : g0 (20, 0, 0) 0 = aR (21, 0, 0) := rfl
  rw [g20]
  simp only [nl_n, nl_i, nl_r, x_ci, x_ca, x_bin, x_ife, x_ifl, x_ifg, x_cme, x_cml, x_cmg, x_go, x_no, x_b, x_ps, x_pn, cs_n, cs_i, cs_j, cs_r, en_n, en_i, en_j, en_r, xa0, x_oin, x_dupi, x_dupr, g_20_0, s_3, s_5, s_8, s_11, s_12, s_21, s_22, s_23, s_24, s_25, s_26, s_28, s_29, s_30, s_31, s_32, xs1n, xs1i, xs1r, xi1, xn1n, xn1i, xn1r, r_i, r_j, r_v, r_z1, r_z0, r_a, e112_0, e112_1, e112_4, e112_5, e112_7, e112_9, e112_12, e112_13, e112_15, e112_17, e112_20, e112_21, e112_23, e112_25, e112_28, e112_29, e112_31, e112_33, e112_36, e112_37, e112_39, e112_41, e112_44, e112_45, e112_47, e112_49, e112_52, e112_53, e112_55, e112_58, e112_59, e112_60, e112_62, e112_63, e112_64, e112_65, e112_67, e112_68, e112_69, e112_70, e112_72, e112_73, e112_74, e112_75, e112_77, e112_78, e112_79, e112_80, e112_82, e112_83, e112_84, e112_85, e112_87, e112_88, e112_89, e112_91, e112_93, e112_94, e112_97, e112_98, e112_101, e112_103, e112_106, e112_107, e112_108, e112_110, e112_113, e112_114, e112_115, e112_117, e112_120, e112_121, e112_124, e112_126, e112_129, e112_130, e112_132, e112_134, e112_137, e112_138, e112_141, e112_142, e112_143, e112_144, e112_145, e112_147, e112_149, e112_152, e112_153, e112_156, e112_157, e112_158, e112_159, e112_160, e112_161, e112_164, e112_167, c112, i10, i00, n2, n10, n20, n60, n8, n9, bi0, ite_not, List.replicate, Nat.reduceAdd, Nat.reduceSub, Nat.reduceLeDiff, Nat.reduceLT, if_true, if_false, mg, reduceIte, not_false_eq_true, eq_self, and_self, and_true, true_and, true_or, or_true, Nat.reduceEqDiff, (q_ias (n := 94) ob rfl (show 2 < 94 by decide) (by decide)), s6_r21, s6_21, n0]
  rw [ln _ _ rfl, s6_out rfl e21 rfl]
