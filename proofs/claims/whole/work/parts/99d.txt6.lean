/-! ALL ITEMS, BY THE REFERENCE -/
theorem mT_u8 {D : aD} {τ : tT} {w m s x : Int32} {it : Nat → Int32} : uD (mwT D τ w m s it) (20, 0, 0) 8 x = mwT (uD D (20, 0, 0) 8 x) τ w m s it := by
  funext r j
  unfold mwT mwD
  by_cases c : r = (20, 0, 0) ∧ j = 8
  · obtain ⟨rfl, rfl⟩ := c
    simp [uD]
  · have e : uD D (20, 0, 0) 8 x r j = D r j := if_neg c
    rw [e]
    exact if_neg c
theorem i11f : (nI 11 = nI 10) = False := eq_false (by decide +kernel)
theorem kde : ∀ k, k ≤ 6 → ¬ nI k = nI 10 ∧ ¬ nI k = nI 11 := by decide +kernel
theorem t_told6 {X : aX} {q : Nat → Nat → Int32} {D : aD} {r : Nat → Int32} {τ : tT} {w m s : Int32} {it f : Nat → Int32} {n i : Nat} (hi : i < 120) (hit : ∀ j, j < 6 → it (6 * i + j) = f j) (hn : n ≤ 8) (hz : r 1 = nI n) (hf : okF n f) : cl X 194 [aR (20, 0, 0), aI (nI (6 * i))] (mem (rq q 3 r, mwT D τ w m s it)) = some (none, mem (rq q 3 (apI n f r), mwT D τ w m s it)) := by
  have g0 : it (6 * i) = f 0 := hit 0 (by decide)
  have g1 := hit 1 (by decide)
  have g2 := hit 2 (by decide)
  have g3 := hit 3 (by decide)
  have g4 := hit 4 (by decide)
  have g5 := hit 5 (by decide)
  have h0 : 6 * i < 720 := by omega
  have h1 : 6 * i + 1 < 720 := by omega
  have h2 : 6 * i + 2 < 720 := by omega
  have h3 : 6 * i + 3 < 720 := by omega
  have h4 : 6 * i + 4 < 720 := by omega
  have h5 : 6 * i + 5 < 720 := by omega
  rcases hf with ⟨e, a, ha, e1⟩ | ⟨e, a, ha, e1⟩ | ⟨h8, ⟨kd, hk, e⟩, _, _, _⟩
  · have hp : 14 + 10 * a + 6 < 94 := by omega
    rw [(ok_10 e (show a < 2 ^ 31 by omega) e1 r).2]
    simp only [nl_n, nl_i, nl_r, x_ci, x_ca, x_bin, x_ife, x_ifl, x_ifg, x_cme, x_cml, x_cmg, x_go, x_no, x_b, x_ps, x_pn, cs_n, cs_i, cs_j, cs_r, en_n, en_i, en_j, en_r, xa0, g_20_15, xi1, l_3, l_5, l_8, l_11, l_12, l_21, l_22, l_23, l_24, l_25, l_26, l_28, l_29, l_30, l_31, l_32, xs2n, xs2i, xs2r, x_sw, x_sw0, g_20_0, xi2, x_k2_s, s_3, s_5, s_8, s_11, s_12, s_21, s_22, s_23, s_24, s_25, s_26, s_28, s_29, s_30, s_31, s_32, x_k3_20, xs3n, xs3i, xs3r, xi3, r_i, r_j, r_v, r_z1, r_z0, r_a, e194_0, e194_1, e194_4, e194_5, e194_6, e194_7, e194_8, e194_9, e194_10, e194_13, e194_14, e194_15, e194_40, e194_41, e194_44, e194_45, e194_47, e194_50, e194_51, e194_52, e194_55, e194_56, e194_59, e194_60, e194_62, e194_65, e194_66, e194_69, e194_70, e194_71, e194_72, e194_73, e194_74, e194_77, e194_78, e194_79, e194_82, e194_83, e194_84, e194_85, e194_88, e194_89, e194_90, e194_93, e194_94, e194_95, e194_98, e194_99, e194_102, e194_103, e194_104, e194_105, e194_106, e194_107, e194_108, e194_111, e194_112, e194_113, e194_116, e194_117, e194_120, e194_121, e194_122, e194_123, e194_124, e194_125, e194_126, e194_129, e194_130, e194_131, e194_134, e194_135, e194_138, e194_139, e194_140, e194_141, e194_142, e194_143, e194_144, e194_147, e194_148, e194_149, e194_152, e194_153, e194_156, e194_157, e194_158, e194_159, e194_160, e194_161, c194, i10, i00, n2, n10, n20, n60, n8, n9, bi0, ite_not, List.replicate, Nat.reduceAdd, Nat.reduceSub, Nat.reduceLeDiff, Nat.reduceLT, if_true, if_false, mg, reduceIte, not_false_eq_true, eq_self, and_self, and_true, true_and, true_or, or_true, Nat.reduceEqDiff, mT_28, nI_add, h0, h1, g0, g1, e, e1, t_at, hp, uq_rq, rq_rq, rq_at]
  · have hp : 14 + 10 * a + 7 < 94 := by omega
    rw [(ok_11 e (show a < 2 ^ 31 by omega) e1 r).2]
    simp only [nl_n, nl_i, nl_r, x_ci, x_ca, x_bin, x_ife, x_ifl, x_ifg, x_cme, x_cml, x_cmg, x_go, x_no, x_b, x_ps, x_pn, cs_n, cs_i, cs_j, cs_r, en_n, en_i, en_j, en_r, xa0, g_20_15, xi1, l_3, l_5, l_8, l_11, l_12, l_21, l_22, l_23, l_24, l_25, l_26, l_28, l_29, l_30, l_31, l_32, xs2n, xs2i, xs2r, x_sw, x_sw0, g_20_0, xi2, x_k2_s, s_3, s_5, s_8, s_11, s_12, s_21, s_22, s_23, s_24, s_25, s_26, s_28, s_29, s_30, s_31, s_32, x_k3_20, xs3n, xs3i, xs3r, xi3, r_i, r_j, r_v, r_z1, r_z0, r_a, e194_0, e194_1, e194_4, e194_5, e194_6, e194_7, e194_8, e194_9, e194_10, e194_13, e194_14, e194_15, e194_40, e194_41, e194_44, e194_45, e194_47, e194_50, e194_51, e194_52, e194_55, e194_56, e194_59, e194_60, e194_62, e194_65, e194_66, e194_69, e194_70, e194_71, e194_72, e194_73, e194_74, e194_77, e194_78, e194_79, e194_82, e194_83, e194_84, e194_85, e194_88, e194_89, e194_90, e194_93, e194_94, e194_95, e194_98, e194_99, e194_102, e194_103, e194_104, e194_105, e194_106, e194_107, e194_108, e194_111, e194_112, e194_113, e194_116, e194_117, e194_120, e194_121, e194_122, e194_123, e194_124, e194_125, e194_126, e194_129, e194_130, e194_131, e194_134, e194_135, e194_138, e194_139, e194_140, e194_141, e194_142, e194_143, e194_144, e194_147, e194_148, e194_149, e194_152, e194_153, e194_156, e194_157, e194_158, e194_159, e194_160, e194_161, c194, i10, i00, n2, n10, n20, n60, n8, n9, bi0, ite_not, List.replicate, Nat.reduceAdd, Nat.reduceSub, Nat.reduceLeDiff, Nat.reduceLT, if_true, if_false, mg, reduceIte, not_false_eq_true, eq_self, and_self, and_true, true_and, true_or, or_true, Nat.reduceEqDiff, mT_28, nI_add, h0, h1, h2, g0, g1, g2, e, e1, i11f, t_at, hp, uq_rq, rq_rq, rq_at]
  · have hp2 : 14 + 10 * n + 2 < 94 := by omega
    have hp3 : 14 + 10 * n + 3 < 94 := by omega
    have hp4 : 14 + 10 * n + 4 < 94 := by omega
    have hp5 : 14 + 10 * n + 5 < 94 := by omega
    have tc := fun D kd bg => t_comes (X := X) (q := q) (D := D) (r := r) (kd := kd) (bg := bg) h8 hz
    have e' := kde kd hk
    rw [(ok_kd hk e r).2]
    simp only [nl_n, nl_i, nl_r, x_ci, x_ca, x_bin, x_ife, x_ifl, x_ifg, x_cme, x_cml, x_cmg, x_go, x_no, x_b, x_ps, x_pn, cs_n, cs_i, cs_j, cs_r, en_n, en_i, en_j, en_r, xa0, g_20_15, xi1, l_3, l_5, l_8, l_11, l_12, l_21, l_22, l_23, l_24, l_25, l_26, l_28, l_29, l_30, l_31, l_32, xs2n, xs2i, xs2r, x_sw, x_sw0, g_20_0, xi2, x_k2_s, s_3, s_5, s_8, s_11, s_12, s_21, s_22, s_23, s_24, s_25, s_26, s_28, s_29, s_30, s_31, s_32, x_k3_20, xs3n, xs3i, xs3r, xi3, r_i, r_j, r_v, r_z1, r_z0, r_a, e194_0, e194_1, e194_4, e194_5, e194_6, e194_7, e194_8, e194_9, e194_10, e194_13, e194_14, e194_15, e194_40, e194_41, e194_44, e194_45, e194_47, e194_50, e194_51, e194_52, e194_55, e194_56, e194_59, e194_60, e194_62, e194_65, e194_66, e194_69, e194_70, e194_71, e194_72, e194_73, e194_74, e194_77, e194_78, e194_79, e194_82, e194_83, e194_84, e194_85, e194_88, e194_89, e194_90, e194_93, e194_94, e194_95, e194_98, e194_99, e194_102, e194_103, e194_104, e194_105, e194_106, e194_107, e194_108, e194_111, e194_112, e194_113, e194_116, e194_117, e194_120, e194_121, e194_122, e194_123, e194_124, e194_125, e194_126, e194_129, e194_130, e194_131, e194_134, e194_135, e194_138, e194_139, e194_140, e194_141, e194_142, e194_143, e194_144, e194_147, e194_148, e194_149, e194_152, e194_153, e194_156, e194_157, e194_158, e194_159, e194_160, e194_161, c194, i10, i00, n2, n10, n20, n60, n8, n9, bi0, ite_not, List.replicate, Nat.reduceAdd, Nat.reduceSub, Nat.reduceLeDiff, Nat.reduceLT, if_true, if_false, mg, reduceIte, not_false_eq_true, eq_self, and_self, and_true, true_and, true_or, or_true, Nat.reduceEqDiff, mT_28, nI_add, h0, h1, h2, h3, h4, h5, g0, g1, g2, g3, g4, g5, e, e', tc, t_at, hp2, hp3, hp4, hp5, uq_rq, rq_rq, rq_at]
theorem l_app {X : aX} {q : Nat → Nat → Int32} {D : aD} {τ : tT} {w s : Int32} {it : Nat → Int32} {m : Nat} (hm : m ≤ 120) : ∀ l i n r, i + l.length = m → (∀ k, k < l.length → ∀ j, j < 6 → it (6 * (i + k) + j) = l.getD k no6 j) → RI n r → okL n l → go X 195 111 [some (aR (20, 0, 0)), some (aI (nI i))] [] (mem (rq q 3 r, mwT D τ w (nI m) s it)) = some (some (aI (nI m)), mem (rq q 3 (apL n l r), mwT D τ w (nI m) s it)) := by
  intro l
  induction l with
  | nil =>
    intro i n r hi _ _ _
    have hi' : i = m := hi
    subst hi'
    rw [e195_111]
    simp only [nl_n, nl_i, nl_r, x_ci, x_ca, x_bin, x_ife, x_ifl, x_ifg, x_cme, x_cml, x_cmg, x_go, x_no, x_b, x_ps, x_pn, cs_n, cs_i, cs_j, cs_r, en_n, en_i, en_j, en_r, xa0, p_20_10, p_20_13, p_20_16, g_20_0, l_3, l_5, l_8, l_11, l_12, l_21, l_22, l_23, l_24, l_25, l_26, l_28, l_29, l_30, l_31, l_32, p_20_17, x_k1_20, g_20_13, g_20_11, g_20_7, g_20_9, x_k2_20, p_20_8, r_i, r_j, r_v, r_z1, r_z0, r_a, xs1n, xs1i, xs1r, xi1, g_20_16, xn1n, xn1i, xn1r, e195_0, e195_1, e195_2, e195_5, e195_6, e195_7, e195_10, e195_11, e195_12, e195_15, e195_16, e195_17, e195_20, e195_21, e195_22, e195_25, e195_26, e195_29, e195_30, e195_34, e195_37, e195_40, e195_41, e195_44, e195_45, e195_48, e195_49, e195_52, e195_53, e195_56, e195_57, e195_59, e195_62, e195_63, e195_64, e195_68, e195_71, e195_74, e195_75, e195_76, e195_79, e195_82, e195_83, e195_86, e195_87, e195_90, e195_91, e195_92, e195_95, e195_96, e195_99, e195_102, e195_103, e195_104, e195_107, e195_108, e195_109, e195_110, e195_112, e195_113, e195_116, e195_119, e195_120, e195_122, e195_123, e195_124, e195_127, e195_130, e195_133, e195_134, e195_137, c195, i10, i00, n2, n10, n20, n60, n8, n9, bi0, ite_not, List.replicate, Nat.reduceAdd, Nat.reduceSub, Nat.reduceLeDiff, Nat.reduceLT, if_true, if_false, mg, reduceIte, not_false_eq_true, eq_self, and_self, and_true, true_and, true_or, or_true, Nat.reduceEqDiff, mT_16, (nI_nlt (Nat.le_refl i) (show i < 2 ^ 31 by omega))]
    rfl
  | cons f l ih =>
    intro i n r hi hit hr ho
    have hl : i + (l.length + 1) = m := hi
    have tt := t_told6 (X := X) (q := q) (D := D) (r := r) (τ := τ) (w := w) (m := nI m) (s := s) (it := it) (f := f) (n := n) (i := i) (by omega) (fun j hj => hit 0 (Nat.succ_pos _) j hj) hr.1 hr.2.1 ho.1
    have i1 := ih (i + 1) (szN n f) (apI n f r) (by omega) (fun k hk j hj => by
      have z := hit (k + 1) (Nat.succ_lt_succ hk) j hj
      rw [show i + 1 + k = i + (k + 1) by omega]
      exact z) (RI_ap hr ho.1) ho.2
    rw [show apL n (f :: l) r = apL (szN n f) l (apI n f r) from rfl, ← i1, e195_111]
    simp only [nl_n, nl_i, nl_r, x_ci, x_ca, x_bin, x_ife, x_ifl, x_ifg, x_cme, x_cml, x_cmg, x_go, x_no, x_b, x_ps, x_pn, cs_n, cs_i, cs_j, cs_r, en_n, en_i, en_j, en_r, xa0, p_20_10, p_20_13, p_20_16, g_20_0, l_3, l_5, l_8, l_11, l_12, l_21, l_22, l_23, l_24, l_25, l_26, l_28, l_29, l_30, l_31, l_32, p_20_17, x_k1_20, g_20_13, g_20_11, g_20_7, g_20_9, x_k2_20, p_20_8, r_i, r_j, r_v, r_z1, r_z0, r_a, xs1n, xs1i, xs1r, xi1, g_20_16, xn1n, xn1i, xn1r, e195_0, e195_1, e195_2, e195_5, e195_6, e195_7, e195_10, e195_11, e195_12, e195_15, e195_16, e195_17, e195_20, e195_21, e195_22, e195_25, e195_26, e195_29, e195_30, e195_34, e195_37, e195_40, e195_41, e195_44, e195_45, e195_48, e195_49, e195_52, e195_53, e195_56, e195_57, e195_59, e195_62, e195_63, e195_64, e195_68, e195_71, e195_74, e195_75, e195_76, e195_79, e195_82, e195_83, e195_86, e195_87, e195_90, e195_91, e195_92, e195_95, e195_96, e195_99, e195_102, e195_103, e195_104, e195_107, e195_108, e195_109, e195_110, e195_112, e195_113, e195_116, e195_119, e195_120, e195_122, e195_123, e195_124, e195_127, e195_130, e195_133, e195_134, e195_137, c195, i10, i00, n2, n10, n20, n60, n8, n9, bi0, ite_not, List.replicate, Nat.reduceAdd, Nat.reduceSub, Nat.reduceLeDiff, Nat.reduceLT, if_true, if_false, mg, reduceIte, not_false_eq_true, eq_self, and_self, and_true, true_and, true_or, or_true, Nat.reduceEqDiff, mT_16, (nI_lt (show i < m by omega) (show m < 2 ^ 31 by omega)), nI_mul, nI_add, tt]
theorem t_itemE {X : aX} {q : Nat → Nat → Int32} {D : aD} {b : Nat → Int32} {t : Nat} {τ : tT} {m s : Int32} {it : Nat → Int32} (h : tpO D b t) (hv : tvT t τ) (hk : τ.2.2.1 = 0) : cl X 193 [aR (20, 0, 0)] (mem (q, mwT D τ (nI 0) m s it)) = some (none, mem (q, mwT D τ (nI 1) m s it)) := by
  have na : ∀ w, ¬ atT b τ w := fun w z => by have := z.1; omega
  have lk := l_kw6 (X := X) (q := q) (w := nI 0) (m := m) (s := s) (it := it) h hv 7 0 (by omega)
  rw [if_neg (Nat.not_lt_zero _)] at lk
  have k7 : ¬ kwF b τ 7 < 7 := by
    intro z
    rcases kw_b (b := b) (τ := τ) 7 (Nat.le_refl 7) with ⟨h1, _⟩ | ⟨_, _, h3⟩
    · omega
    · exact na _ h3
  rw [if_neg k7] at lk
  have tk0 := t_tk0 (X := X) (q := q) (m := m) (s := s) (it := it) h hv (show 12 < 14 by decide) (na 12)
  have tk1 := t_tk0 (X := X) (q := q) (m := m) (s := s) (it := it) h hv (show 13 < 14 by decide) (na 13)
  simp only [nl_n, nl_i, nl_r, x_ci, x_ca, x_bin, x_ife, x_ifl, x_ifg, x_cme, x_cml, x_cmg, x_go, x_no, x_b, x_ps, x_pn, cs_n, cs_i, cs_j, cs_r, en_n, en_i, en_j, en_r, xs1n, xs1i, xs1r, xs2n, xs2i, xs2r, xi2, xa0, g_20_14, n_l2, n_l3, n_l5, n_l8, n_l9, n_l11, n_l12, n_l21, n_l22, n_l23, n_l24, n_l25, n_l26, n_l27, n_l28, n_l29, n_l30, n_l31, n_l32, l_2, l_9, l_27, x_k2_20, xi1, xn2n, xn2i, xn2r, g_20_17, x_k3_20, x_k7_20, r_i, r_j, r_v, r_z1, r_z0, r_a, e193_0, e193_1, e193_2, e193_3, e193_5, e193_6, e193_9, e193_10, e193_13, e193_14, e193_15, e193_18, e193_19, e193_20, e193_23, e193_26, e193_27, e193_30, e193_31, e193_32, e193_35, e193_39, e193_42, e193_43, e193_44, e193_47, e193_50, e193_51, e193_54, e193_57, e193_60, e193_61, e193_63, e193_64, e193_65, e193_66, e193_69, e193_70, e193_71, e193_74, e193_75, e193_76, e193_77, e193_78, e193_81, e193_84, e193_85, e193_88, e193_91, e193_94, e193_95, e193_96, e193_97, e193_100, e193_101, e193_102, e193_105, e193_106, e193_107, e193_109, e193_110, e193_111, e193_112, e193_114, e193_117, e193_118, e193_119, e193_120, e193_123, e193_126, e193_127, e193_128, e193_131, c193, i10, i00, n2, n10, n20, n60, n8, n9, bi0, ite_not, List.replicate, Nat.reduceAdd, Nat.reduceSub, Nat.reduceLeDiff, Nat.reduceLT, if_true, if_false, mg, reduceIte, not_false_eq_true, eq_self, and_self, and_true, true_and, true_or, or_true, Nat.reduceEqDiff]
  rw [lk, e193_38]
  simp only [nl_n, nl_i, nl_r, x_ci, x_ca, x_bin, x_ife, x_ifl, x_ifg, x_cme, x_cml, x_cmg, x_go, x_no, x_b, x_ps, x_pn, cs_n, cs_i, cs_j, cs_r, en_n, en_i, en_j, en_r, xs1n, xs1i, xs1r, xs2n, xs2i, xs2r, xi2, xa0, g_20_14, n_l2, n_l3, n_l5, n_l8, n_l9, n_l11, n_l12, n_l21, n_l22, n_l23, n_l24, n_l25, n_l26, n_l27, n_l28, n_l29, n_l30, n_l31, n_l32, l_2, l_9, l_27, x_k2_20, xi1, xn2n, xn2i, xn2r, g_20_17, x_k3_20, x_k7_20, r_i, r_j, r_v, r_z1, r_z0, r_a, e193_0, e193_1, e193_2, e193_3, e193_5, e193_6, e193_9, e193_10, e193_13, e193_14, e193_15, e193_18, e193_19, e193_20, e193_23, e193_26, e193_27, e193_30, e193_31, e193_32, e193_35, e193_39, e193_42, e193_43, e193_44, e193_47, e193_50, e193_51, e193_54, e193_57, e193_60, e193_61, e193_63, e193_64, e193_65, e193_66, e193_69, e193_70, e193_71, e193_74, e193_75, e193_76, e193_77, e193_78, e193_81, e193_84, e193_85, e193_88, e193_91, e193_94, e193_95, e193_96, e193_97, e193_100, e193_101, e193_102, e193_105, e193_106, e193_107, e193_109, e193_110, e193_111, e193_112, e193_114, e193_117, e193_118, e193_119, e193_120, e193_123, e193_126, e193_127, e193_128, e193_131, c193, i10, i00, n2, n10, n20, n60, n8, n9, bi0, ite_not, List.replicate, Nat.reduceAdd, Nat.reduceSub, Nat.reduceLeDiff, Nat.reduceLT, if_true, if_false, mg, reduceIte, not_false_eq_true, eq_self, and_self, and_true, true_and, true_or, or_true, Nat.reduceEqDiff, m1_lt, tk0, tk1, t_must0]
theorem srt3 {k : Nat} : (nI (min k 3) = nI 3) = (3 ≤ k) := by
  rw [nq (by omega) (by decide)]
  exact propext ⟨fun z => by omega, fun z => by omega⟩
theorem srt0 {k : Nat} : (nI (min k 3) = 0) = (k = 0) := by
  rw [nq0 (by omega)]
  exact propext ⟨fun z => by omega, fun z => by omega⟩
theorem tcl_3 {b : Nat → Int32} {t p : Nat} (h : tcl b t p = 3) : b p = nI 59 := by
  unfold tcl at h
  revert h
  split
  · split
    · intro h; cases h
    · split
      · intro h; cases h
      · split
        · intro _; assumption
        · intro h; cases h
  · intro h; cases h
theorem tcl_4 {b : Nat → Int32} {t p : Nat} (h : tcl b t p = 4) : ¬ b p = nI 59 := by
  unfold tcl at h
  revert h
  split
  · split
    · intro h; cases h
    · split
      · intro h; cases h
      · split
        · intro h; cases h
        · intro _; assumption
  · intro h; cases h
theorem l_end {X : aX} {q : Nat → Nat → Int32} {D : aD} {τ : tT} {m s : Int32} {it : Nat → Int32} : go X 195 33 [some (aR (20, 0, 0)), none] [] (mem (q, mwT D τ (nI 1) m s it)) = some (some (aI (-1 - nI τ.1)), mem (q, mwT (uD D (20, 0, 0) 8 (nI 0)) τ (nI 1) m s it)) := by
  rw [e195_33]
  simp only [nl_n, nl_i, nl_r, x_ci, x_ca, x_bin, x_ife, x_ifl, x_ifg, x_cme, x_cml, x_cmg, x_go, x_no, x_b, x_ps, x_pn, cs_n, cs_i, cs_j, cs_r, en_n, en_i, en_j, en_r, xa0, p_20_10, p_20_13, p_20_16, g_20_0, l_3, l_5, l_8, l_11, l_12, l_21, l_22, l_23, l_24, l_25, l_26, l_28, l_29, l_30, l_31, l_32, p_20_17, x_k1_20, g_20_13, g_20_11, g_20_7, g_20_9, x_k2_20, p_20_8, r_i, r_j, r_v, r_z1, r_z0, r_a, xs1n, xs1i, xs1r, xi1, g_20_16, xn1n, xn1i, xn1r, e195_0, e195_1, e195_2, e195_5, e195_6, e195_7, e195_10, e195_11, e195_12, e195_15, e195_16, e195_17, e195_20, e195_21, e195_22, e195_25, e195_26, e195_29, e195_30, e195_34, e195_37, e195_40, e195_41, e195_44, e195_45, e195_48, e195_49, e195_52, e195_53, e195_56, e195_57, e195_59, e195_62, e195_63, e195_64, e195_68, e195_71, e195_74, e195_75, e195_76, e195_79, e195_82, e195_83, e195_86, e195_87, e195_90, e195_91, e195_92, e195_95, e195_96, e195_99, e195_102, e195_103, e195_104, e195_107, e195_108, e195_109, e195_110, e195_112, e195_113, e195_116, e195_119, e195_120, e195_122, e195_123, e195_124, e195_127, e195_130, e195_133, e195_134, e195_137, c195, i10, i00, n2, n10, n20, n60, n8, n9, bi0, ite_not, List.replicate, Nat.reduceAdd, Nat.reduceSub, Nat.reduceLeDiff, Nat.reduceLT, if_true, if_false, mg, reduceIte, not_false_eq_true, eq_self, and_self, and_true, true_and, true_or, or_true, Nat.reduceEqDiff, mT_13, mT_11, t_mustw, mT_u8, mT_9, srt0]
  split <;> rfl
theorem l_txt6 {X : aX} {q : Nat → Nat → Int32} {D : aD} {b : Nat → Int32} {t : Nat} (h : tpO D b t) : ∀ k n τ m it, cnT b t τ → n ≤ 8 → 120 ≤ τ.1 + k → m + k = 120 → ∃ τ' m' s' it', go X 195 67 [some (aR (20, 0, 0)), none] [] (mem (q, mwT D τ (nI 0) (nI m) (nI n) it)) = (if (prT b t k n τ).1 = true then go X 195 111 [some (aR (20, 0, 0)), some (aI (nI 0))] [] (mem (q, mwT (uD D (20, 0, 0) 8 (nI 0)) τ' (nI 0) (nI (m + (prT b t k n τ).2.2.length)) s' it')) else some (some (aI (-1 - nI (prT b t k n τ).2.1.1)), mem (q, mwT (uD D (20, 0, 0) 8 (nI 0)) τ' (nI 1) m' s' it'))) ∧ ((prT b t k n τ).1 = true → m + (prT b t k n τ).2.2.length ≤ 120 ∧ (∀ i, i < m → ∀ j, j < 6 → it' (6 * i + j) = it (6 * i + j)) ∧ ∀ i, i < (prT b t k n τ).2.2.length → ∀ j, j < 6 → it' (6 * (m + i) + j) = (prT b t k n τ).2.2.getD i no6 j) := by
  have ht := h.1
  intro k
  induction k with
  | zero =>
    intro n τ m it hc hn hp hm
    have k0 : τ.2.2.1 = 0 := by rw [hc.2]; exact tcl0.2 (by omega)
    have te := t_itemE (X := X) (q := q) (m := nI m) (s := nI n) (it := it) h hc.1 k0
    refine ⟨τ, nI m, nI n, it, ?_, fun w => by cases w⟩
    rw [e195_67]
    simp only [nl_n, nl_i, nl_r, x_ci, x_ca, x_bin, x_ife, x_ifl, x_ifg, x_cme, x_cml, x_cmg, x_go, x_no, x_b, x_ps, x_pn, cs_n, cs_i, cs_j, cs_r, en_n, en_i, en_j, en_r, xa0, p_20_10, p_20_13, p_20_16, g_20_0, l_3, l_5, l_8, l_11, l_12, l_21, l_22, l_23, l_24, l_25, l_26, l_28, l_29, l_30, l_31, l_32, p_20_17, x_k1_20, g_20_13, g_20_11, g_20_7, g_20_9, x_k2_20, p_20_8, r_i, r_j, r_v, r_z1, r_z0, r_a, xs1n, xs1i, xs1r, xi1, g_20_16, xn1n, xn1i, xn1r, e195_0, e195_1, e195_2, e195_5, e195_6, e195_7, e195_10, e195_11, e195_12, e195_15, e195_16, e195_17, e195_20, e195_21, e195_22, e195_25, e195_26, e195_29, e195_30, e195_34, e195_37, e195_40, e195_41, e195_44, e195_45, e195_48, e195_49, e195_52, e195_53, e195_56, e195_57, e195_59, e195_62, e195_63, e195_64, e195_68, e195_71, e195_74, e195_75, e195_76, e195_79, e195_82, e195_83, e195_86, e195_87, e195_90, e195_91, e195_92, e195_95, e195_96, e195_99, e195_102, e195_103, e195_104, e195_107, e195_108, e195_109, e195_110, e195_112, e195_113, e195_116, e195_119, e195_120, e195_122, e195_123, e195_124, e195_127, e195_130, e195_133, e195_134, e195_137, c195, i10, i00, n2, n10, n20, n60, n8, n9, bi0, ite_not, List.replicate, Nat.reduceAdd, Nat.reduceSub, Nat.reduceLeDiff, Nat.reduceLT, if_true, if_false, mg, reduceIte, not_false_eq_true, eq_self, and_self, and_true, true_and, true_or, or_true, Nat.reduceEqDiff, te, l_end]
    rfl
  | succ k ih =>
    intro n τ m it hc hn hp hm
    obtain ⟨m1, s1, it1, h1, h2⟩ := t_item6 (X := X) (q := q) (n := n) (m := m) (it := it) h hc.1 hn (by omega)
    have io := it_ok hc hn
    rw [pr_s, e195_67]
    by_cases c : (itT b t n τ).1 = true
    · rw [if_pos c]
      obtain ⟨e1, e2, e3⟩ := h2 c
      have w := io.2 c
      subst e1
      subst e2
      subst e3
      rw [show okI (itT b t n τ).1 = nI 0 from if_pos c] at h1
      have ic := io.1
      generalize itT b t n τ = O at *
      have hk := ic.1.2.2.1
      have mu := t_must1 (X := X) (q := q) (m := nI (m + 1)) (s := nI (szN n O.2.2)) (it := pu6 it m O.2.2) h ic.1
      by_cases c0 : O.2.1.2.2.1 = 0
      · rw [if_pos c0]
        have q3 : (3 ≤ O.2.1.2.2.1) = False := eq_false (by omega)
        have q0 := eq_true c0
        refine ⟨nxT b t O.2.1, nI 0, nI (szN n O.2.2), pu6 it m O.2.2, ?_, fun _ => ⟨by show m + 1 ≤ 120; omega, fun i hi j hj => pu_ne hj (by omega), fun i hi j hj => ?_⟩⟩
        · simp only [nl_n, nl_i, nl_r, x_ci, x_ca, x_bin, x_ife, x_ifl, x_ifg, x_cme, x_cml, x_cmg, x_go, x_no, x_b, x_ps, x_pn, cs_n, cs_i, cs_j, cs_r, en_n, en_i, en_j, en_r, xa0, p_20_10, p_20_13, p_20_16, g_20_0, l_3, l_5, l_8, l_11, l_12, l_21, l_22, l_23, l_24, l_25, l_26, l_28, l_29, l_30, l_31, l_32, p_20_17, x_k1_20, g_20_13, g_20_11, g_20_7, g_20_9, x_k2_20, p_20_8, r_i, r_j, r_v, r_z1, r_z0, r_a, xs1n, xs1i, xs1r, xi1, g_20_16, xn1n, xn1i, xn1r, e195_0, e195_1, e195_2, e195_5, e195_6, e195_7, e195_10, e195_11, e195_12, e195_15, e195_16, e195_17, e195_20, e195_21, e195_22, e195_25, e195_26, e195_29, e195_30, e195_33, e195_34, e195_37, e195_40, e195_41, e195_44, e195_45, e195_48, e195_49, e195_52, e195_53, e195_56, e195_57, e195_59, e195_62, e195_63, e195_64, e195_68, e195_71, e195_74, e195_75, e195_76, e195_79, e195_82, e195_83, e195_86, e195_87, e195_90, e195_91, e195_92, e195_95, e195_96, e195_99, e195_102, e195_103, e195_104, e195_107, e195_108, e195_109, e195_110, e195_112, e195_113, e195_116, e195_119, e195_120, e195_122, e195_123, e195_124, e195_127, e195_130, e195_133, e195_134, e195_137, c195, i10, i00, n2, n10, n20, n60, n8, n9, bi0, ite_not, List.replicate, Nat.reduceAdd, Nat.reduceSub, Nat.reduceLeDiff, Nat.reduceLT, if_true, if_false, mg, reduceIte, not_false_eq_true, eq_self, and_self, and_true, true_and, true_or, or_true, Nat.reduceEqDiff, h1, mT_13, mT_11, srt3, srt0, q3, q0, mu, mT_u8]
          rfl
        · have hi0 : i = 0 := by have z : i < 1 := hi; omega
          subst hi0
          exact pu_at hj
      · rw [if_neg c0]
        have q0 := eq_false c0
        have hpt := (ic.1.2.2.2 c0).1
        have hb := (h.2.2 O.2.1.1 hpt).1
        have h120 : O.2.1.1 < 120 := by omega
        by_cases cx : O.2.1.2.2.1 = 3
        · rw [if_pos cx]
          have q3 : (3 ≤ O.2.1.2.2.1) = True := eq_true (by omega)
          have e59 : b O.2.1.1 = nI 59 := tcl_3 (t := t) (by rw [← ic.2]; exact cx)
          have np := nx_p (b := b) ic.1
          have hq := ic.1.1
          obtain ⟨τ', m', s', it', g1, g2⟩ := ih (szN n O.2.2) (nxT b t O.2.1) (m + 1) (pu6 it m O.2.2) (cn_nx ic) (sz_8 hn w.2) (by omega) (by omega)
          refine ⟨τ', m', s', it', ?_, fun z => ?_⟩
          · rw [show m + 1 + (prT b t k (szN n O.2.2) (nxT b t O.2.1)).2.2.length = m + ((prT b t k (szN n O.2.2) (nxT b t O.2.1)).2.2.length + 1) by omega] at g1
            simp only [nl_n, nl_i, nl_r, x_ci, x_ca, x_bin, x_ife, x_ifl, x_ifg, x_cme, x_cml, x_cmg, x_go, x_no, x_b, x_ps, x_pn, cs_n, cs_i, cs_j, cs_r, en_n, en_i, en_j, en_r, xa0, p_20_10, p_20_13, p_20_16, g_20_0, l_3, l_5, l_8, l_11, l_12, l_21, l_22, l_23, l_24, l_25, l_26, l_28, l_29, l_30, l_31, l_32, p_20_17, x_k1_20, g_20_13, g_20_11, g_20_7, g_20_9, x_k2_20, p_20_8, r_i, r_j, r_v, r_z1, r_z0, r_a, xs1n, xs1i, xs1r, xi1, g_20_16, xn1n, xn1i, xn1r, e195_0, e195_1, e195_2, e195_5, e195_6, e195_7, e195_10, e195_11, e195_12, e195_15, e195_16, e195_17, e195_20, e195_21, e195_22, e195_25, e195_26, e195_29, e195_30, e195_33, e195_34, e195_37, e195_40, e195_41, e195_44, e195_45, e195_48, e195_49, e195_52, e195_53, e195_56, e195_57, e195_59, e195_62, e195_63, e195_64, e195_68, e195_71, e195_74, e195_75, e195_76, e195_79, e195_82, e195_83, e195_86, e195_87, e195_90, e195_91, e195_92, e195_95, e195_96, e195_99, e195_102, e195_103, e195_104, e195_107, e195_108, e195_109, e195_110, e195_112, e195_113, e195_116, e195_119, e195_120, e195_122, e195_123, e195_124, e195_127, e195_130, e195_133, e195_134, e195_137, c195, i10, i00, n2, n10, n20, n60, n8, n9, bi0, ite_not, List.replicate, Nat.reduceAdd, Nat.reduceSub, Nat.reduceLeDiff, Nat.reduceLT, if_true, if_false, mg, reduceIte, not_false_eq_true, eq_self, and_self, and_true, true_and, true_or, or_true, Nat.reduceEqDiff, h1, mT_13, mT_11, mT_9, mT_26, hb, e59, h120, srt3, q3, mu, g1]
            rfl
          · obtain ⟨g3, g4, g5⟩ := g2 z
            refine ⟨?_, fun i hi j hj => (g4 i (by omega) j hj).trans (pu_ne hj (by omega)), fun i hi j hj => ?_⟩
            · show m + ((prT b t k (szN n O.2.2) (nxT b t O.2.1)).2.2.length + 1) ≤ 120
              omega
            · cases i with
              | zero => exact (g4 m (by omega) j hj).trans (pu_at hj)
              | succ i =>
                have z5 := g5 i (Nat.lt_of_succ_lt_succ hi) j hj
                rw [show m + (i + 1) = m + 1 + i by omega]
                exact z5
        · rw [if_neg cx]
          by_cases c4 : O.2.1.2.2.1 = 4
          · have q3 : (3 ≤ O.2.1.2.2.1) = True := eq_true (by omega)
            have e59 : (b O.2.1.1 = nI 59) = False := eq_false (tcl_4 (t := t) (by rw [← ic.2]; exact c4))
            refine ⟨O.2.1, nI (m + 1), nI (szN n O.2.2), pu6 it m O.2.2, ?_, fun z => by cases z⟩
            simp only [nl_n, nl_i, nl_r, x_ci, x_ca, x_bin, x_ife, x_ifl, x_ifg, x_cme, x_cml, x_cmg, x_go, x_no, x_b, x_ps, x_pn, cs_n, cs_i, cs_j, cs_r, en_n, en_i, en_j, en_r, xa0, p_20_10, p_20_13, p_20_16, g_20_0, l_3, l_5, l_8, l_11, l_12, l_21, l_22, l_23, l_24, l_25, l_26, l_28, l_29, l_30, l_31, l_32, p_20_17, x_k1_20, g_20_13, g_20_11, g_20_7, g_20_9, x_k2_20, p_20_8, r_i, r_j, r_v, r_z1, r_z0, r_a, xs1n, xs1i, xs1r, xi1, g_20_16, xn1n, xn1i, xn1r, e195_0, e195_1, e195_2, e195_5, e195_6, e195_7, e195_10, e195_11, e195_12, e195_15, e195_16, e195_17, e195_20, e195_21, e195_22, e195_25, e195_26, e195_29, e195_30, e195_33, e195_34, e195_37, e195_40, e195_41, e195_44, e195_45, e195_48, e195_49, e195_52, e195_53, e195_56, e195_57, e195_59, e195_62, e195_63, e195_64, e195_68, e195_71, e195_74, e195_75, e195_76, e195_79, e195_82, e195_83, e195_86, e195_87, e195_90, e195_91, e195_92, e195_95, e195_96, e195_99, e195_102, e195_103, e195_104, e195_107, e195_108, e195_109, e195_110, e195_112, e195_113, e195_116, e195_119, e195_120, e195_122, e195_123, e195_124, e195_127, e195_130, e195_133, e195_134, e195_137, c195, i10, i00, n2, n10, n20, n60, n8, n9, bi0, ite_not, List.replicate, Nat.reduceAdd, Nat.reduceSub, Nat.reduceLeDiff, Nat.reduceLT, if_true, if_false, mg, reduceIte, not_false_eq_true, eq_self, and_self, and_true, true_and, true_or, or_true, Nat.reduceEqDiff, h1, mT_13, mT_11, mT_9, mT_26, hb, e59, h120, srt3, srt0, q3, q0, t_must0, mT_u8]
            rfl
          · have q3 : (3 ≤ O.2.1.2.2.1) = False := eq_false (by omega)
            refine ⟨O.2.1, nI (m + 1), nI (szN n O.2.2), pu6 it m O.2.2, ?_, fun z => by cases z⟩
            simp only [nl_n, nl_i, nl_r, x_ci, x_ca, x_bin, x_ife, x_ifl, x_ifg, x_cme, x_cml, x_cmg, x_go, x_no, x_b, x_ps, x_pn, cs_n, cs_i, cs_j, cs_r, en_n, en_i, en_j, en_r, xa0, p_20_10, p_20_13, p_20_16, g_20_0, l_3, l_5, l_8, l_11, l_12, l_21, l_22, l_23, l_24, l_25, l_26, l_28, l_29, l_30, l_31, l_32, p_20_17, x_k1_20, g_20_13, g_20_11, g_20_7, g_20_9, x_k2_20, p_20_8, r_i, r_j, r_v, r_z1, r_z0, r_a, xs1n, xs1i, xs1r, xi1, g_20_16, xn1n, xn1i, xn1r, e195_0, e195_1, e195_2, e195_5, e195_6, e195_7, e195_10, e195_11, e195_12, e195_15, e195_16, e195_17, e195_20, e195_21, e195_22, e195_25, e195_26, e195_29, e195_30, e195_33, e195_34, e195_37, e195_40, e195_41, e195_44, e195_45, e195_48, e195_49, e195_52, e195_53, e195_56, e195_57, e195_59, e195_62, e195_63, e195_64, e195_68, e195_71, e195_74, e195_75, e195_76, e195_79, e195_82, e195_83, e195_86, e195_87, e195_90, e195_91, e195_92, e195_95, e195_96, e195_99, e195_102, e195_103, e195_104, e195_107, e195_108, e195_109, e195_110, e195_112, e195_113, e195_116, e195_119, e195_120, e195_122, e195_123, e195_124, e195_127, e195_130, e195_133, e195_134, e195_137, c195, i10, i00, n2, n10, n20, n60, n8, n9, bi0, ite_not, List.replicate, Nat.reduceAdd, Nat.reduceSub, Nat.reduceLeDiff, Nat.reduceLT, if_true, if_false, mg, reduceIte, not_false_eq_true, eq_self, and_self, and_true, true_and, true_or, or_true, Nat.reduceEqDiff, h1, mT_13, mT_11, mT_9, srt3, srt0, q3, q0, t_must0, mT_u8]
            rfl
    · rw [if_neg c]
      rw [show okI (itT b t n τ).1 = nI 1 from if_neg c] at h1
      refine ⟨(itT b t n τ).2.1, m1, s1, it1, ?_, fun w => by cases w⟩
      simp only [nl_n, nl_i, nl_r, x_ci, x_ca, x_bin, x_ife, x_ifl, x_ifg, x_cme, x_cml, x_cmg, x_go, x_no, x_b, x_ps, x_pn, cs_n, cs_i, cs_j, cs_r, en_n, en_i, en_j, en_r, xa0, p_20_10, p_20_13, p_20_16, g_20_0, l_3, l_5, l_8, l_11, l_12, l_21, l_22, l_23, l_24, l_25, l_26, l_28, l_29, l_30, l_31, l_32, p_20_17, x_k1_20, g_20_13, g_20_11, g_20_7, g_20_9, x_k2_20, p_20_8, r_i, r_j, r_v, r_z1, r_z0, r_a, xs1n, xs1i, xs1r, xi1, g_20_16, xn1n, xn1i, xn1r, e195_0, e195_1, e195_2, e195_5, e195_6, e195_7, e195_10, e195_11, e195_12, e195_15, e195_16, e195_17, e195_20, e195_21, e195_22, e195_25, e195_26, e195_29, e195_30, e195_34, e195_37, e195_40, e195_41, e195_44, e195_45, e195_48, e195_49, e195_52, e195_53, e195_56, e195_57, e195_59, e195_62, e195_63, e195_64, e195_68, e195_71, e195_74, e195_75, e195_76, e195_79, e195_82, e195_83, e195_86, e195_87, e195_90, e195_91, e195_92, e195_95, e195_96, e195_99, e195_102, e195_103, e195_104, e195_107, e195_108, e195_109, e195_110, e195_112, e195_113, e195_116, e195_119, e195_120, e195_122, e195_123, e195_124, e195_127, e195_130, e195_133, e195_134, e195_137, c195, i10, i00, n2, n10, n20, n60, n8, n9, bi0, ite_not, List.replicate, Nat.reduceAdd, Nat.reduceSub, Nat.reduceLeDiff, Nat.reduceLT, if_true, if_false, mg, reduceIte, not_false_eq_true, eq_self, and_self, and_true, true_and, true_or, or_true, Nat.reduceEqDiff, h1, l_end]
      rfl
