/-! ALL ITEMS, BY THE REFERENCE -/
theorem mT_u8 {D : aD} {τ : tT} {w m s x : Int32} {it : Nat → Int32} : uD (mwT D τ w m s it) (20, 0, 0) 8 x = mwT (uD D (20, 0, 0) 8 x) τ w m s it := by
  funext r j
  unfold mwT mwD
  by_cases c : r = (20, 0, 0) ∧ j = 8
  · obtain ⟨rfl, rfl⟩ := c
    simp [uD]
  · have e : uD D (20, 0, 0) 8 x r j = D r j := if_neg c
    rw [e]
    exact if_neg c
theorem i11f : (nI 11 = nI 10) = False := eq_false (by decide +kernel)
theorem kde : ∀ k, k ≤ 6 → ¬ nI k = nI 10 ∧ ¬ nI k = nI 11 := by decide +kernel
theorem t_told6 {X : aX} {q : Nat → Nat → Int32} {D : aD} {r : Nat → Int32} {τ : tT} {w m s : Int32} {it f : Nat → Int32} {n i : Nat} (hi : i < 120) (hit : ∀ j, j < 6 → it (6 * i + j) = f j) (hn : n ≤ 8) (hz : r 1 = nI n) (hf : okF n f) : cl X 194 [aR (20, 0, 0), aI (nI (6 * i))] (mem (rq q 3 r, mwT D τ w m s it)) = some (none, mem (rq q 3 (apI n f r), mwT D τ w m s it)) := by
  have g0 : it (6 * i) = f 0 := hit 0 (by decide)
  have g1 := hit 1 (by decide)
  have g2 := hit 2 (by decide)
  have g3 := hit 3 (by decide)
  have g4 := hit 4 (by decide)
  have g5 := hit 5 (by decide)
  have h0 : 6 * i < 720 := by omega
  have h1 : 6 * i + 1 < 720 := by omega
  have h2 : 6 * i + 2 < 720 := by omega
  have h3 : 6 * i + 3 < 720 := by omega
  have h4 : 6 * i + 4 < 720 := by omega
  have h5 : 6 * i + 5 < 720 := by omega
  rcases hf with ⟨e, a, ha, e1⟩ | ⟨e, a, ha, e1⟩ | ⟨h8, ⟨kd, hk, e⟩, _, _, _⟩
  · have hp : 14 + 10 * a + 6 < 94 := by omega
    rw [(ok_10 e (show a < 2 ^ 31 by omega) e1 r).2]
    simp only [nl_n, nl_i, nl_r, x_ci, x_ca, x_bin, x_ife, x_ifl, x_ifg, x_cme, x_cml, x_cmg, x_go, x_no, x_b, x_ps, x_pn, cs_n, cs_i, cs_j, cs_r, en_n, en_i, en_j, en_r, xa0, g_20_15, xi1, l_3, l_5, l_8, l_11, l_12, l_21, l_22, l_23, l_24, l_25, l_26, l_28, l_29, l_30, l_31, l_32, xs2n, xs2i, xs2r, x_sw, x_sw0, g_20_0, xi2, x_k2_s, s_3, s_5, s_8, s_11, s_12, s_21, s_22, s_23, s_24, s_25, s_26, s_28, s_29, s_30, s_31, s_32, x_k3_20, xs3n, xs3i, xs3r, xi3, r_i, r_j, r_v, r_z1, r_z0, r_a, e194_0, e194_1, e194_4, e194_5, e194_6, e194_7, e194_8, e194_9, e194_10, e194_13, e194_14, e194_15, e194_40, e194_41, e194_44, e194_45, e194_47, e194_50, e194_51, e194_52, e194_55, e194_56, e194_59, e194_60, e194_62, e194_65, e194_66, e194_69, e194_70, e194_71, e194_72, e194_73, e194_74, e194_77, e194_78, e194_79, e194_82, e194_83, e194_84, e194_85, e194_88, e194_89, e194_90, e194_93, e194_94, e194_95, e194_98, e194_99, e194_102, e194_103, e194_104, e194_105, e194_106, e194_107, e194_108, e194_111, e194_112, e194_113, e194_116, e194_117, e194_120, e194_121, e194_122, e194_123, e194_124, e194_125, e194_126, e194_129, e194_130, e194_131, e194_134, e194_135, e194_138, e194_139, e194_140, e194_141, e194_142, e194_143, e194_144, e194_147, e194_148, e194_149, e194_152, e194_153, e194_156, e194_157, e194_158, e194_159, e194_160, e194_161, c194, i10, i00, n2, n10, n20, n60, n8, n9, bi0, ite_not, List.replicate, Nat.reduceAdd, Nat.reduceSub, Nat.reduceLeDiff, Nat.reduceLT, if_true, if_false, mg, reduceIte, not_false_eq_true, eq_self, and_self, and_true, true_and, true_or, or_true, Nat.reduceEqDiff, mT_28, nI_add, h0, h1, g0, g1, e, e1, t_at, hp, uq_rq, rq_rq, rq_at]
  · have hp : 14 + 10 * a + 7 < 94 := by omega
    rw [(ok_11 e (show a < 2 ^ 31 by omega) e1 r).2]
    simp only [nl_n, nl_i, nl_r, x_ci, x_ca, x_bin, x_ife, x_ifl, x_ifg, x_cme, x_cml, x_cmg, x_go, x_no, x_b, x_ps, x_pn, cs_n, cs_i, cs_j, cs_r, en_n, en_i, en_j, en_r, xa0, g_20_15, xi1, l_3, l_5, l_8, l_11, l_12, l_21, l_22, l_23, l_24, l_25, l_26, l_28, l_29, l_30, l_31, l_32, xs2n, xs2i, xs2r, x_sw, x_sw0, g_20_0, xi2, x_k2_s, s_3, s_5, s_8, s_11, s_12, s_21, s_22, s_23, s_24, s_25, s_26, s_28, s_29, s_30, s_31, s_32, x_k3_20, xs3n, xs3i, xs3r, xi3, r_i, r_j, r_v, r_z1, r_z0, r_a, e194_0, e194_1, e194_4, e194_5, e194_6, e194_7, e194_8, e194_9, e194_10, e194_13, e194_14, e194_15, e194_40, e194_41, e194_44, e194_45, e194_47, e194_50, e194_51, e194_52, e194_55, e194_56, e194_59, e194_60, e194_62, e194_65, e194_66, e194_69, e194_70, e194_71, e194_72, e194_73, e194_74, e194_77, e194_78, e194_79, e194_82, e194_83, e194_84, e194_85, e194_88, e194_89, e194_90, e194_93, e194_94, e194_95, e194_98, e194_99, e194_102, e194_103, e194_104, e194_105, e194_106, e194_107, e194_108, e194_111, e194_112, e194_113, e194_116, e194_117, e194_120, e194_121, e194_122, e194_123, e194_124, e194_125, e194_126, e194_129, e194_130, e194_131, e194_134, e194_135, e194_138, e194_139, e194_140, e194_141, e194_142, e194_143, e194_144, e194_147, e194_148, e194_149, e194_152, e194_153, e194_156, e194_157, e194_158, e194_159, e194_160, e194_161, c194, i10, i00, n2, n10, n20, n60, n8, n9, bi0, ite_not, List.replicate, Nat.reduceAdd, Nat.reduceSub, Nat.reduceLeDiff, Nat.reduceLT, if_true, if_false, mg, reduceIte, not_false_eq_true, eq_self, and_self, and_true, true_and, true_or, or_true, Nat.reduceEqDiff, mT_28, nI_add, h0, h1, h2, g0, g1, g2, e, e1, i11f, t_at, hp, uq_rq, rq_rq, rq_at]
  · have hp2 : 14 + 10 * n + 2 < 94 := by omega
    have hp3 : 14 + 10 * n + 3 < 94 := by omega
    have hp4 : 14 + 10 * n + 4 < 94 := by omega
    have hp5 : 14 + 10 * n + 5 < 94 := by omega
    have tc := fun D kd bg => t_comes (X := X) (q := q) (D := D) (r := r) (kd := kd) (bg := bg) h8 hz
    have e' := kde kd hk
    rw [(ok_kd hk e r).2]
    simp only [nl_n, nl_i, nl_r, x_ci, x_ca, x_bin, x_ife, x_ifl, x_ifg, x_cme, x_cml, x_cmg, x_go, x_no, x_b, x_ps, x_pn, cs_n, cs_i, cs_j, cs_r, en_n, en_i, en_j, en_r, xa0, g_20_15, xi1, l_3, l_5, l_8, l_11, l_12, l_21, l_22, l_23, l_24, l_25, l_26, l_28, l_29, l_30, l_31, l_32, xs2n, xs2i, xs2r, x_sw, x_sw0, g_20_0, xi2, x_k2_s, s_3, s_5, s_8, s_11, s_12, s_21, s_22, s_23, s_24, s_25, s_26, s_28, s_29, s_30, s_31, s_32, x_k3_20, xs3n, xs3i, xs3r, xi3, r_i, r_j, r_v, r_z1, r_z0, r_a, e194_0, e194_1, e194_4, e194_5, e194_6, e194_7, e194_8, e194_9, e194_10, e194_13, e194_14, e194_15, e194_40, e194_41, e194_44, e194_45, e194_47, e194_50, e194_51, e194_52, e194_55, e194_56, e194_59, e194_60, e194_62, e194_65, e194_66, e194_69, e194_70, e194_71, e194_72, e194_73, e194_74, e194_77, e194_78, e194_79, e194_82, e194_83, e194_84, e194_85, e194_88, e194_89, e194_90, e194_93, e194_94, e194_95, e194_98, e194_99, e194_102, e194_103, e194_104, e194_105, e194_106, e194_107, e194_108, e194_111, e194_112, e194_113, e194_116, e194_117, e194_120, e194_121, e194_122, e194_123, e194_124, e194_125, e194_126, e194_129, e194_130, e194_131, e194_134, e194_135, e194_138, e194_139, e194_140, e194_141, e194_142, e194_143, e194_144, e194_147, e194_148, e194_149, e194_152, e194_153, e194_156, e194_157, e194_158, e194_159, e194_160, e194_161, c194, i10, i00, n2, n10, n20, n60, n8, n9, bi0, ite_not, List.replicate, Nat.reduceAdd, Nat.reduceSub, Nat.reduceLeDiff, Nat.reduceLT, if_true, if_false, mg, reduceIte, not_false_eq_true, eq_self, and_self, and_true, true_and, true_or, or_true, Nat.reduceEqDiff, mT_28, nI_add, h0, h1, h2, h3, h4, h5, g0, g1, g2, g3, g4, g5, e, e', tc, t_at, hp2, hp3, hp4, hp5, uq_rq, rq_rq, rq_at]
theorem l_app {X : aX} {q : Nat → Nat → Int32} {D : aD} {τ : tT} {w s : Int32} {it : Nat → Int32} {m : Nat} (hm : m ≤ 120) : ∀ l i n r, i + l.length = m → (∀ k, k < l.length → ∀ j, j < 6 → it (6 * (i + k) + j) = l.getD k no6 j) → RI n r → okL n l → go X 195 111 [some (aR (20, 0, 0)), some (aI (nI i))] [] (mem (rq q 3 r, mwT D τ w (nI m) s it)) = some (some (aI (nI m)), mem (rq q 3 (apL n l r), mwT D τ w (nI m) s it)) := by
  intro l
  induction l with
  | nil =>
    intro i n r hi _ _ _
    have hi' : i = m := hi
    subst hi'
    rw [e195_111]
    simp only [nl_n, nl_i, nl_r, x_ci, x_ca, x_bin, x_ife, x_ifl, x_ifg, x_cme, x_cml, x_cmg, x_go, x_no, x_b, x_ps, x_pn, cs_n, cs_i, cs_j, cs_r, en_n, en_i, en_j, en_r, xa0, p_20_10, p_20_13, p_20_16, g_20_0, l_3, l_5, l_8, l_11, l_12, l_21, l_22, l_23, l_24, l_25, l_26, l_28, l_29, l_30, l_31, l_32, p_20_17, x_k1_20, g_20_13, g_20_11, g_20_7, g_20_9, x_k2_20, p_20_8, r_i, r_j, r_v, r_z1, r_z0, r_a, xs1n, xs1i, xs1r, xi1, g_20_16, xn1n, xn1i, xn1r, e195_0, e195_1, e195_2, e195_5, e195_6, e195_7, e195_10, e195_11, e195_12, e195_15, e195_16, e195_17, e195_20, e195_21, e195_22, e195_25, e195_26, e195_29, e195_30, e195_34, e195_37, e195_40, e195_41, e195_44, e195_45, e195_48, e195_49, e195_52, e195_53, e195_56, e195_57, e195_59, e195_62, e195_63, e195_64, e195_68, e195_71, e195_74, e195_75, e195_76, e195_79, e195_82, e195_83, e195_86, e195_87, e195_90, e195_91, e195_92, e195_95, e195_96, e195_99, e195_102, e195_103, e195_104, e195_107, e195_108, e195_109, e195_110, e195_112, e195_113, e195_116, e195_119, e195_120, e195_122, e195_123, e195_124, e195_127, e195_130, e195_133, e195_134, e195_137, c195, i10, i00, n2, n10, n20, n60, n8, n9, bi0, ite_not, List.replicate, Nat.reduceAdd, Nat.reduceSub, Nat.reduceLeDiff, Nat.reduceLT, if_true, if_false, mg, reduceIte, not_false_eq_true, eq_self, and_self, and_true, true_and, true_or, or_true, Nat.reduceEqDiff, mT_16, (nI_nlt (Nat.le_refl i) (show i < 2 ^ 31 by omega))]
    rfl
  | cons f l ih =>
    intro i n r hi hit hr ho
    have hl : i + (l.length + 1) = m := hi
    have tt := t_told6 (X := X) (q := q) (D := D) (r := r) (τ := τ) (w := w) (m := nI m) (s := s) (it := it) (f := f) (n := n) (i := i) (by omega) (fun j hj => hit 0 (Nat.succ_pos _) j hj) hr.1 hr.2.1 ho.1
    have i1 := ih (i + 1) (szN n f) (apI n f r) (by omega) (fun k hk j hj => by
      have z := hit (k + 1) (Nat.succ_lt_succ hk) j hj
      rw [show i + 1 + k = i + (k + 1) by omega]
      exact z) (RI_ap hr ho.1) ho.2
    rw [show apL n (f :: l) r = apL (szN n f) l (apI n f r) from rfl, ← i1, e195_111]
    simp only [nl_n, nl_i, nl_r, x_ci, x_ca, x_bin, x_ife, x_ifl, x_ifg, x_cme, x_cml, x_cmg, x_go, x_no, x_b, x_ps, x_pn, cs_n, cs_i, cs_j, cs_r, en_n, en_i, en_j, en_r, xa0, p_20_10, p_20_13, p_20_16, g_20_0, l_3, l_5, l_8, l_11, l_12, l_21, l_22, l_23, l_24, l_25, l_26, l_28, l_29, l_30, l_31, l_32, p_20_17, x_k1_20, g_20_13, g_20_11, g_20_7, g_20_9, x_k2_20, p_20_8, r_i, r_j, r_v, r_z1, r_z0, r_a, xs1n, xs1i, xs1r, xi1, g_20_16, xn1n, xn1i, xn1r, e195_0, e195_1, e195_2, e195_5, e195_6, e195_7, e195_10, e195_11, e195_12, e195_15, e195_16, e195_17, e195_20, e195_21, e195_22, e195_25, e195_26, e195_29, e195_30, e195_34, e195_37, e195_40, e195_41, e195_44, e195_45, e195_48, e195_49, e195_52, e195_53, e195_56, e195_57, e195_59, e195_62, e195_63, e195_64, e195_68, e195_71, e195_74, e195_75, e195_76, e195_79, e195_82, e195_83, e195_86, e195_87, e195_90, e195_91, e195_92, e195_95, e195_96, e195_99, e195_102, e195_103, e195_104, e195_107, e195_108, e195_109, e195_110, e195_112, e195_113, e195_116, e195_119, e195_120, e195_122, e195_123, e195_124, e195_127, e195_130, e195_133, e195_134, e195_137, c195, i10, i00, n2, n10, n20, n60, n8, n9, bi0, ite_not, List.replicate, Nat.reduceAdd, Nat.reduceSub, Nat.reduceLeDiff, Nat.reduceLT, if_true, if_false, mg, reduceIte, not_false_eq_true, eq_self, and_self, and_true, true_and, true_or, or_true, Nat.reduceEqDiff, mT_16, (nI_lt (show i < m by omega) (show m < 2 ^ 31 by omega)), nI_mul, nI_add, tt]
