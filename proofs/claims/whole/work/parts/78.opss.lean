theorem t_fot {X : aX} {S : aS} {n : Nat} {x y : Int32} (hz : S.1 0 1 = nI n) : (¬ wi x (nI 0) (nI 3) → cl X 110 [aR (0, 0, 0), aI x, aI y] (mem S) = some (some (aI (nI 0)), mem S)) ∧ ∀ s b, s < 4 → b < 1000 → x = nI s → S.2 (10, s, 0) 1 = nI b → cl X 110 [aR (0, 0, 0), aI x, aI y] (mem S) = some (some (aI (if b = 0 then nI 5 else if hsP n y then -1 else nI 0)), mem S) := by
  constructor
  · intro c
    have tf := (t_fos (X := X) (S := S) (x := x)).1 c
    simp only [nl_n, nl_i, nl_r, x_ci, x_ca, x_bin, x_ife, x_ifl, x_ifg, x_cme, x_cml, x_cmg, x_go, x_no, x_b, x_ps, x_pn, cs_n, cs_i, cs_j, cs_r, en_n, en_i, en_j, en_r, xa0, xi1, x_k2_0, xs3n, xs3i, xs3r, xi3, r_i, r_j, r_v, r_z1, r_z0, r_a, g_0_0, xi2, x_k2_1, e110_0, e110_1, e110_2, e110_5, e110_6, e110_7, e110_8, e110_11, e110_12, e110_13, e110_14, e110_17, e110_18, e110_21, e110_24, e110_25, e110_28, e110_29, c110, i10, i00, n2, n10, n20, n60, n8, n9, bi0, ite_not, List.replicate, Nat.reduceAdd, Nat.reduceSub, Nat.reduceLeDiff, Nat.reduceLT, if_true, if_false, mg, reduceIte, not_false_eq_true, eq_self, and_self, and_true, true_and, true_or, or_true, Nat.reduceEqDiff, tf, n0m]
  · intro s b hs hb e h
    have tf := (t_fos (X := X) (S := S) (x := x)).2 s hs e
    rw [h] at tf
    simp only [nq0 hb] at tf
    by_cases cb : b = 0
    · rw [if_pos cb] at tf
      rw [if_pos cb]
      simp only [nl_n, nl_i, nl_r, x_ci, x_ca, x_bin, x_ife, x_ifl, x_ifg, x_cme, x_cml, x_cmg, x_go, x_no, x_b, x_ps, x_pn, cs_n, cs_i, cs_j, cs_r, en_n, en_i, en_j, en_r, xa0, xi1, x_k2_0, xs3n, xs3i, xs3r, xi3, r_i, r_j, r_v, r_z1, r_z0, r_a, g_0_0, xi2, x_k2_1, e110_0, e110_1, e110_2, e110_5, e110_6, e110_7, e110_8, e110_11, e110_12, e110_13, e110_14, e110_17, e110_18, e110_21, e110_24, e110_25, e110_28, e110_29, c110, i10, i00, n2, n10, n20, n60, n8, n9, bi0, ite_not, List.replicate, Nat.reduceAdd, Nat.reduceSub, Nat.reduceLeDiff, Nat.reduceLT, if_true, if_false, mg, reduceIte, not_false_eq_true, eq_self, and_self, and_true, true_and, true_or, or_true, Nat.reduceEqDiff, tf, n5m]
    · rw [if_neg cb] at tf
      rw [if_neg cb]
      simp only [nl_n, nl_i, nl_r, x_ci, x_ca, x_bin, x_ife, x_ifl, x_ifg, x_cme, x_cml, x_cmg, x_go, x_no, x_b, x_ps, x_pn, cs_n, cs_i, cs_j, cs_r, en_n, en_i, en_j, en_r, xa0, xi1, x_k2_0, xs3n, xs3i, xs3r, xi3, r_i, r_j, r_v, r_z1, r_z0, r_a, g_0_0, xi2, x_k2_1, e110_0, e110_1, e110_2, e110_5, e110_6, e110_7, e110_8, e110_11, e110_12, e110_13, e110_14, e110_17, e110_18, e110_21, e110_24, e110_25, e110_28, e110_29, c110, i10, i00, n2, n10, n20, n60, n8, n9, bi0, ite_not, List.replicate, Nat.reduceAdd, Nat.reduceSub, Nat.reduceLeDiff, Nat.reduceLT, if_true, if_false, mg, reduceIte, not_false_eq_true, eq_self, and_self, and_true, true_and, true_or, or_true, Nat.reduceEqDiff, tf, (t_has (a := 0) (by decide) hz)]
theorem t_fitting {X : aX} {S : aS} {n m s i j M : Nat} (hn : n ≤ 8) (hm : m ≤ 40) (hs : s < 4) (hi : i < n) (hj : j < 10) (hM : M ≤ 60) (hV : ∀ v, v < M → RI n (upd (S.1 3) (14 + 10 * i + j) (nI v))) (h2 : S.2 (30, 0, 0) s = nI m) : ∃ S', (∀ a, a ≠ 3 → a ≠ 5 → S'.1 a = S.1 a) ∧ a94 (S'.1 3) (S.1 3) ∧ eqJ (uD S.2 (20, 0, 0) 6 (fsF (tTm S.2 (S.1 3) n m s i j) M 0)) S'.2 ∧ cl X 174 [aR (20, 0, 0), aI (nI s), aI (nI i), aI (nI (14 + 10 * i + j)), aI (nI M)] (mem S) = some (some (aI (if M = 60 then lp (cnS (tTm S.2 (S.1 3) n m s i j)) M 0 (nI 0) else lp (stS (tTm S.2 (S.1 3) n m s i j)) M 0 (nI 0))), mem S') := by
  obtain ⟨S', k1, a1, d1, h1⟩ := l_fit (X := X) (D0 := S.2) (r0 := S.1 3) hn hm hs hi hj hM rfl hV h2 M 0 (nI 0) (nI 0) (-1) (S.1, uD S.2 (20, 0, 0) 6 (-1)) (by omega) (fun _ _ _ => rfl) (eqJ_rfl _)
  rw [ff_fs _ M 0 (by omega)] at d1
  refine ⟨S', k1, a1, d1, ?_⟩
  have hp : 14 + 10 * i + j < 94 := by omega
  simp only [nl_n, nl_i, nl_r, x_ci, x_ca, x_bin, x_ife, x_ifl, x_ifg, x_cme, x_cml, x_cmg, x_go, x_no, x_b, x_ps, x_pn, cs_n, cs_i, cs_j, cs_r, en_n, en_i, en_j, en_r, xa0, g_20_0, xi3, l_3, l_5, l_8, l_11, l_12, l_21, l_22, l_23, l_24, l_25, l_26, l_28, l_29, l_30, l_31, l_32, xs5n, xs5i, xs5r, xs6n, xs6i, xs6r, xs7n, xs7i, xs7r, p_20_6, xs8n, xs8i, xs8r, xi8, xi4, s_3, s_5, s_8, s_11, s_12, s_21, s_22, s_23, s_24, s_25, s_26, s_28, s_29, s_30, s_31, s_32, xi1, xi2, x_k2_s, x_k3_20, xn7n, xn7i, xn7r, g_20_6, xi6, xn8n, xn8i, xn8r, xi5, xi7, r_i, r_j, r_v, r_z1, r_z0, r_a, e174_0, e174_1, e174_4, e174_5, e174_6, e174_8, e174_9, e174_11, e174_12, e174_14, e174_15, e174_16, e174_19, e174_20, e174_24, e174_26, e174_29, e174_30, e174_33, e174_34, e174_36, e174_37, e174_38, e174_39, e174_40, e174_42, e174_45, e174_48, e174_51, e174_54, e174_55, e174_56, e174_59, e174_62, e174_64, e174_67, e174_68, e174_71, e174_74, e174_76, e174_78, e174_80, e174_83, e174_84, e174_86, e174_87, e174_90, e174_91, e174_92, e174_94, e174_97, e174_100, e174_101, e174_104, e174_105, e174_107, e174_108, e174_110, e174_112, e174_115, e174_117, e174_120, e174_122, c174, i10, i00, n2, n10, n20, n60, n8, n9, bi0, ite_not, List.replicate, Nat.reduceAdd, Nat.reduceSub, Nat.reduceLeDiff, Nat.reduceLT, if_true, if_false, mg, reduceIte, not_false_eq_true, eq_self, and_self, and_true, true_and, true_or, or_true, Nat.reduceEqDiff, hp]
  exact h1
theorem lp_T {f : (Nat → Bool) → Nat → Int32 → Int32} {T T' : Nat → Bool} (h : ∀ v, T v = T' v) (k v : Nat) (a : Int32) : lp (f T) k v a = lp (f T') k v a := by rw [show T = T' from funext h]
theorem tT_eq {S : aS} {n m s i j : Nat} (hn : n ≤ 8) (hm : m ≤ 40) (hi : i < n) (hA : ag n (S.1 0) (S.1 3)) (g8 : ∀ y, y < 40 → S.2 (11, s, 0) y = S.2 (31, 0, 0) (40 * s + y)) (v : Nat) : tTv S.2 (S.1 0) n m s i j v = tTm S.2 (S.1 3) n m s i j v := soT_c hn (by omega) m 0 _ _ (fun y hy => g8 y (by omega)) (ag_u hA rfl)
theorem J_fit {S S1 S2 : aS} {n : Nat} {f : Int32} (hJ : J S) (hR : RI n (S.1 0)) (hA : ag n (S.1 0) (S.1 3)) (k1 : kx S S1) (k2 : ∀ a, a ≠ 3 → a ≠ 5 → S2.1 a = S1.1 a) (a2 : a94 (S2.1 3) (S1.1 3)) (d2 : eqJ (uD S1.2 (20, 0, 0) 6 f) S2.2) : J S2 := by
  have e0 : S2.1 0 = S.1 0 := (k2 0 (by decide) (by decide)).trans (k1.2 0 (by decide))
  have e2 : S2.1 2 = S.1 2 := (k2 2 (by decide) (by decide)).trans (k1.2 2 (by decide))
  have e4 : S2.1 4 = S.1 4 := (k2 4 (by decide) (by decide)).trans (k1.2 4 (by decide))
  have eD : eqJ (uD S.2 (20, 0, 0) 6 f) (uD S1.2 (20, 0, 0) 6 f) := by
    intro r y hy
    by_cases e : r = (20, 0, 0) ∧ y = 6
    · rw [e.1, e.2, uD_at, uD_at]
    · rw [uD_x e, uD_x e]; exact k1.1 r y hy
  refine J_new (S := (S.1, uD S.2 (20, 0, 0) 6 f)) (J_6 hJ) (n := n) (by rw [e0]; exact hR) ?_ e2 e4 (eqJ_tr eD d2)
  rw [e0]
  refine ag_tr hA (ag_sym ?_)
  rw [← k1.2 3 (by decide)]
  exact a94_ag hR.1 a2
theorem o_fits {X : aX} {S : aS} {x y : Int32} (hJ : J S) : opK X 80 175 [aI x, aI y] S := by
  obtain ⟨⟨n, hR, hA⟩, hK, hD⟩ := id hJ
  have hR3 := ag_RI hA hR
  have hn := hR.1
  have hz := hR.2.1
  have hz3 := hR3.2.1
  by_cases c1 : wi x (nI 0) (nI 3)
  · obtain ⟨s, _, hs3, rfl⟩ := wi_of (by decide) c1 (by decide)
    have hs : s < 4 := by omega
    obtain ⟨b, m, g1, g2, g3, g4, g5, g6, g7, g8⟩ := hD.2.2.1 s hs
    have hb1 : b < 1000 := by omega
    have tf := (t_fot (X := X) (S := S) (x := nI s) (y := y) hz).2 s b hs hb1 rfl g4
    have tk := fun (T : aS) (h : T.2 (29, 0, 0) s = nI b) => (t_lacks (X := X) (S := T) (x := nI s) (g := hsP n y)).2 s hs rfl
    by_cases cb : b = 0
    · rw [if_pos cb] at tf
      have g5' : tlD 5 S.2 (29, 0, 0) s = nI b := (tl_o (by decide)).trans g5
      have tk5 := tk (S.1, tlD 5 S.2) g5'
      simp only [g5', nq0 hb1] at tk5
      rw [if_pos cb] at tk5
      refine op_f5 hJ ?_ ?_
      · simp only [nl_n, nl_i, nl_r, x_ci, x_ca, x_bin, x_ife, x_ifl, x_ifg, x_cme, x_cml, x_cmg, x_go, x_no, x_b, x_ps, x_pn, cs_n, cs_i, cs_j, cs_r, en_n, en_i, en_j, en_r, xa0, xi1, xi2, x_k3_0, xs3n, xs3i, xs3r, xi3, x_k2_0, r_i, r_j, r_v, r_z1, r_z0, r_a, xs4n, xs4i, xs4r, xs5n, xs5i, xs5r, xi5, g_0_4, l_2, l_9, l_27, x_k5_0, xn4n, xn4i, xn4r, xn5n, xn5i, xn5r, xi4, e80_0, e80_1, e80_2, e80_3, e80_6, e80_7, e80_8, e80_9, e80_12, e80_13, e80_14, e80_17, e80_18, e80_19, e80_21, e80_22, e80_26, e80_28, e80_31, e80_32, e80_33, e80_36, e80_37, e80_38, e80_39, e80_40, e80_42, e80_45, e80_48, e80_51, e80_54, e80_57, e80_59, c80, i10, i00, n2, n10, n20, n60, n8, n9, bi0, ite_not, List.replicate, Nat.reduceAdd, Nat.reduceSub, Nat.reduceLeDiff, Nat.reduceLT, if_true, if_false, mg, reduceIte, not_false_eq_true, eq_self, and_self, and_true, true_and, true_or, or_true, Nat.reduceEqDiff, tf, n5m, tel5]
      · simp only [nl_n, nl_i, nl_r, x_ci, x_ca, x_bin, x_ife, x_ifl, x_ifg, x_cme, x_cml, x_cmg, x_go, x_no, x_b, x_ps, x_pn, cs_n, cs_i, cs_j, cs_r, en_n, en_i, en_j, en_r, xa0, xi1, xi2, x_k2_20, x_k3_20, xs3n, xs3i, xs3r, xi3, x_k2_s, x_k5_20, r_i, r_j, r_v, r_z1, r_z0, r_a, e175_0, e175_1, e175_2, e175_3, e175_4, e175_7, e175_10, e175_11, e175_12, e175_15, e175_16, e175_17, e175_20, e175_23, e175_24, e175_25, e175_26, e175_27, e175_28, e175_31, e175_33, e175_36, c175, i10, i00, n2, n10, n20, n60, n8, n9, bi0, ite_not, List.replicate, Nat.reduceAdd, Nat.reduceSub, Nat.reduceLeDiff, Nat.reduceLT, if_true, if_false, mg, reduceIte, not_false_eq_true, eq_self, and_self, and_true, true_and, true_or, or_true, Nat.reduceEqDiff, (fun D x => t_isS (X := X) (S := (S.1, D)) (x := x) hn hz3), tk5, w6n, fnd5]
    · rw [if_neg cb] at tf
      by_cases c2 : hsP n y
      · rw [if_pos c2] at tf
        obtain ⟨i, hi, rfl⟩ := has_of hn c2
        obtain ⟨S1, k1, h1⟩ := l_fitsx (X := X) (D0 := S.2) (r0 := S.1 0) (f := -1) hn g2 hs hi hz g6 60 0 (nI 0) S (by omega) rfl (eqJ_rfl _)
        have e3 : S1.1 3 = S.1 3 := k1.2 3 (by decide)
        have e30 : S1.2 (30, 0, 0) s = nI m := (k1.1 (30, 0, 0) s (nj (by simp))).trans g7
        have e29 : S1.2 (29, 0, 0) s = nI b := (k1.1 (29, 0, 0) s (nj (by simp))).trans g5
        have hV : ∀ v, v < 60 → RI n (upd (S1.1 3) (14 + 10 * i + 1) (nI v)) := fun v hv => by rw [e3]; exact RI_u hR3 (by decide) (show inN 59 (nI v) from ⟨v, by omega, rfl⟩)
        obtain ⟨S2, k2, a2, d2, h2⟩ := t_fitting (X := X) (S := S1) (j := 1) (M := 60) hn g2 hs hi (by decide) (by decide) hV e30
        have eT : ∀ v, tTv S.2 (S.1 0) n m s i 1 v = tTm S1.2 (S1.1 3) n m s i 1 v := fun v => (tT_eq hn g2 hi hA g8 v).trans (soT_c hn (by omega) m 0 _ _ (fun w _ => (k1.1 (31, 0, 0) (40 * s + w) (nj (by simp))).symm) (by rw [e3]; exact ag_rfl _ _))
        rw [if_pos rfl, ← lp_T (f := cnS) eT] at h2
        have tk1 := tk S1 e29
        simp only [e29, nq0 hb1] at tk1
        rw [if_neg cb, if_pos c2] at tk1
        have ti := t_isS (X := X) (S := S1) (x := nI i) hn (by rw [e3]; exact hz3)
        refine ⟨aI (lp (cnS (tTv S.2 (S.1 0) n m s i 1)) 60 0 (nI 0)), S1, S2, ?_, ?_, J_fit hJ hR hA k1 k2 a2 d2⟩
        · simp only [nl_n, nl_i, nl_r, x_ci, x_ca, x_bin, x_ife, x_ifl, x_ifg, x_cme, x_cml, x_cmg, x_go, x_no, x_b, x_ps, x_pn, cs_n, cs_i, cs_j, cs_r, en_n, en_i, en_j, en_r, xa0, xi1, xi2, x_k3_0, xs3n, xs3i, xs3r, xi3, x_k2_0, r_i, r_j, r_v, r_z1, r_z0, r_a, xs4n, xs4i, xs4r, xs5n, xs5i, xs5r, xi5, g_0_4, l_2, l_9, l_27, x_k5_0, xn4n, xn4i, xn4r, xn5n, xn5i, xn5r, xi4, e80_0, e80_1, e80_2, e80_3, e80_6, e80_7, e80_8, e80_9, e80_12, e80_13, e80_14, e80_17, e80_18, e80_19, e80_21, e80_22, e80_26, e80_28, e80_31, e80_32, e80_33, e80_36, e80_37, e80_38, e80_39, e80_40, e80_42, e80_45, e80_48, e80_51, e80_54, e80_57, e80_59, c80, i10, i00, n2, n10, n20, n60, n8, n9, bi0, ite_not, List.replicate, Nat.reduceAdd, Nat.reduceSub, Nat.reduceLeDiff, Nat.reduceLT, if_true, if_false, mg, reduceIte, not_false_eq_true, eq_self, and_self, and_true, true_and, true_or, or_true, Nat.reduceEqDiff, tf]
          exact h1
        · simp only [nl_n, nl_i, nl_r, x_ci, x_ca, x_bin, x_ife, x_ifl, x_ifg, x_cme, x_cml, x_cmg, x_go, x_no, x_b, x_ps, x_pn, cs_n, cs_i, cs_j, cs_r, en_n, en_i, en_j, en_r, xa0, xi1, xi2, x_k2_20, x_k3_20, xs3n, xs3i, xs3r, xi3, x_k2_s, x_k5_20, r_i, r_j, r_v, r_z1, r_z0, r_a, e175_0, e175_1, e175_2, e175_3, e175_4, e175_7, e175_10, e175_11, e175_12, e175_15, e175_16, e175_17, e175_20, e175_23, e175_24, e175_25, e175_26, e175_27, e175_28, e175_31, e175_33, e175_36, c175, i10, i00, n2, n10, n20, n60, n8, n9, bi0, ite_not, List.replicate, Nat.reduceAdd, Nat.reduceSub, Nat.reduceLeDiff, Nat.reduceLT, if_true, if_false, mg, reduceIte, not_false_eq_true, eq_self, and_self, and_true, true_and, true_or, or_true, Nat.reduceEqDiff, ti, tk1, t_at, h2]
      · rw [if_neg c2] at tf
        have g5' : tlD 0 S.2 (29, 0, 0) s = nI b := (tl_o (by decide)).trans g5
        have tk0 := tk (S.1, tlD 0 S.2) g5'
        simp only [g5', nq0 hb1] at tk0
        rw [if_neg cb, if_neg c2] at tk0
        refine op_fin (k := 0) (w := -1000001) (by decide) hJ ?_ ?_
        · simp only [nl_n, nl_i, nl_r, x_ci, x_ca, x_bin, x_ife, x_ifl, x_ifg, x_cme, x_cml, x_cmg, x_go, x_no, x_b, x_ps, x_pn, cs_n, cs_i, cs_j, cs_r, en_n, en_i, en_j, en_r, xa0, xi1, xi2, x_k3_0, xs3n, xs3i, xs3r, xi3, x_k2_0, r_i, r_j, r_v, r_z1, r_z0, r_a, xs4n, xs4i, xs4r, xs5n, xs5i, xs5r, xi5, g_0_4, l_2, l_9, l_27, x_k5_0, xn4n, xn4i, xn4r, xn5n, xn5i, xn5r, xi4, e80_0, e80_1, e80_2, e80_3, e80_6, e80_7, e80_8, e80_9, e80_12, e80_13, e80_14, e80_17, e80_18, e80_19, e80_21, e80_22, e80_26, e80_28, e80_31, e80_32, e80_33, e80_36, e80_37, e80_38, e80_39, e80_40, e80_42, e80_45, e80_48, e80_51, e80_54, e80_57, e80_59, c80, i10, i00, n2, n10, n20, n60, n8, n9, bi0, ite_not, List.replicate, Nat.reduceAdd, Nat.reduceSub, Nat.reduceLeDiff, Nat.reduceLT, if_true, if_false, mg, reduceIte, not_false_eq_true, eq_self, and_self, and_true, true_and, true_or, or_true, Nat.reduceEqDiff, tf, n0m, tel0]
        · simp only [nl_n, nl_i, nl_r, x_ci, x_ca, x_bin, x_ife, x_ifl, x_ifg, x_cme, x_cml, x_cmg, x_go, x_no, x_b, x_ps, x_pn, cs_n, cs_i, cs_j, cs_r, en_n, en_i, en_j, en_r, xa0, xi1, xi2, x_k2_20, x_k3_20, xs3n, xs3i, xs3r, xi3, x_k2_s, x_k5_20, r_i, r_j, r_v, r_z1, r_z0, r_a, e175_0, e175_1, e175_2, e175_3, e175_4, e175_7, e175_10, e175_11, e175_12, e175_15, e175_16, e175_17, e175_20, e175_23, e175_24, e175_25, e175_26, e175_27, e175_28, e175_31, e175_33, e175_36, c175, i10, i00, n2, n10, n20, n60, n8, n9, bi0, ite_not, List.replicate, Nat.reduceAdd, Nat.reduceSub, Nat.reduceLeDiff, Nat.reduceLT, if_true, if_false, mg, reduceIte, not_false_eq_true, eq_self, and_self, and_true, true_and, true_or, or_true, Nat.reduceEqDiff, (fun D x => t_isS (X := X) (S := (S.1, D)) (x := x) hn hz3), tk0, w1n, fnd0]
  · have tf := (t_fot (X := X) (S := S) (x := x) (y := y) hz).1 c1
    have tk := (t_lacks (X := X) (S := (S.1, tlD 0 S.2)) (x := x) (g := hsP n y)).1 c1
    refine op_fin (k := 0) (w := -1000001) (by decide) hJ ?_ ?_
    · simp only [nl_n, nl_i, nl_r, x_ci, x_ca, x_bin, x_ife, x_ifl, x_ifg, x_cme, x_cml, x_cmg, x_go, x_no, x_b, x_ps, x_pn, cs_n, cs_i, cs_j, cs_r, en_n, en_i, en_j, en_r, xa0, xi1, xi2, x_k3_0, xs3n, xs3i, xs3r, xi3, x_k2_0, r_i, r_j, r_v, r_z1, r_z0, r_a, xs4n, xs4i, xs4r, xs5n, xs5i, xs5r, xi5, g_0_4, l_2, l_9, l_27, x_k5_0, xn4n, xn4i, xn4r, xn5n, xn5i, xn5r, xi4, e80_0, e80_1, e80_2, e80_3, e80_6, e80_7, e80_8, e80_9, e80_12, e80_13, e80_14, e80_17, e80_18, e80_19, e80_21, e80_22, e80_26, e80_28, e80_31, e80_32, e80_33, e80_36, e80_37, e80_38, e80_39, e80_40, e80_42, e80_45, e80_48, e80_51, e80_54, e80_57, e80_59, c80, i10, i00, n2, n10, n20, n60, n8, n9, bi0, ite_not, List.replicate, Nat.reduceAdd, Nat.reduceSub, Nat.reduceLeDiff, Nat.reduceLT, if_true, if_false, mg, reduceIte, not_false_eq_true, eq_self, and_self, and_true, true_and, true_or, or_true, Nat.reduceEqDiff, tf, n0m, tel0]
    · simp only [nl_n, nl_i, nl_r, x_ci, x_ca, x_bin, x_ife, x_ifl, x_ifg, x_cme, x_cml, x_cmg, x_go, x_no, x_b, x_ps, x_pn, cs_n, cs_i, cs_j, cs_r, en_n, en_i, en_j, en_r, xa0, xi1, xi2, x_k2_20, x_k3_20, xs3n, xs3i, xs3r, xi3, x_k2_s, x_k5_20, r_i, r_j, r_v, r_z1, r_z0, r_a, e175_0, e175_1, e175_2, e175_3, e175_4, e175_7, e175_10, e175_11, e175_12, e175_15, e175_16, e175_17, e175_20, e175_23, e175_24, e175_25, e175_26, e175_27, e175_28, e175_31, e175_33, e175_36, c175, i10, i00, n2, n10, n20, n60, n8, n9, bi0, ite_not, List.replicate, Nat.reduceAdd, Nat.reduceSub, Nat.reduceLeDiff, Nat.reduceLT, if_true, if_false, mg, reduceIte, not_false_eq_true, eq_self, and_self, and_true, true_and, true_or, or_true, Nat.reduceEqDiff, (fun D x => t_isS (X := X) (S := (S.1, D)) (x := x) hn hz3), tk, w1n, fnd0]
theorem o_kinds {X : aX} {S : aS} {x y : Int32} (hJ : J S) : opK X 82 177 [aI x, aI y] S := by
  obtain ⟨⟨n, hR, hA⟩, hK, hD⟩ := id hJ
  have hR3 := ag_RI hA hR
  have hn := hR.1
  have hz := hR.2.1
  have hz3 := hR3.2.1
  by_cases c1 : wi x (nI 0) (nI 3)
  · obtain ⟨s, _, hs3, rfl⟩ := wi_of (by decide) c1 (by decide)
    have hs : s < 4 := by omega
    obtain ⟨b, m, g1, g2, g3, g4, g5, g6, g7, g8⟩ := hD.2.2.1 s hs
    have hb1 : b < 1000 := by omega
    have tf := (t_fot (X := X) (S := S) (x := nI s) (y := y) hz).2 s b hs hb1 rfl g4
    have tk := fun (T : aS) (h : T.2 (29, 0, 0) s = nI b) => (t_lacks (X := X) (S := T) (x := nI s) (g := hsP n y)).2 s hs rfl
    by_cases cb : b = 0
    · rw [if_pos cb] at tf
      have g5' : tlD 5 S.2 (29, 0, 0) s = nI b := (tl_o (by decide)).trans g5
      have tk5 := tk (S.1, tlD 5 S.2) g5'
      simp only [g5', nq0 hb1] at tk5
      rw [if_pos cb] at tk5
      refine op_f5 hJ ?_ ?_
      · simp only [nl_n, nl_i, nl_r, x_ci, x_ca, x_bin, x_ife, x_ifl, x_ifg, x_cme, x_cml, x_cmg, x_go, x_no, x_b, x_ps, x_pn, cs_n, cs_i, cs_j, cs_r, en_n, en_i, en_j, en_r, xa0, xi1, xi2, x_k3_0, xs3n, xs3i, xs3r, xi3, x_k2_0, r_i, r_j, r_v, r_z1, r_z0, r_a, xs4n, xs4i, xs4r, xs5n, xs5i, xs5r, xi5, g_0_4, l_2, l_9, l_27, x_k5_0, xi4, xn5n, xn5i, xn5r, e82_0, e82_1, e82_2, e82_3, e82_6, e82_7, e82_8, e82_9, e82_12, e82_13, e82_14, e82_17, e82_18, e82_19, e82_21, e82_22, e82_26, e82_28, e82_31, e82_32, e82_33, e82_36, e82_37, e82_38, e82_39, e82_40, e82_42, e82_45, e82_48, e82_50, e82_51, e82_53, e82_54, e82_55, e82_57, e82_60, e82_63, e82_65, c82, i10, i00, n2, n10, n20, n60, n8, n9, bi0, ite_not, List.replicate, Nat.reduceAdd, Nat.reduceSub, Nat.reduceLeDiff, Nat.reduceLT, if_true, if_false, mg, reduceIte, not_false_eq_true, eq_self, and_self, and_true, true_and, true_or, or_true, Nat.reduceEqDiff, tf, n5m, tel5]
      · simp only [nl_n, nl_i, nl_r, x_ci, x_ca, x_bin, x_ife, x_ifl, x_ifg, x_cme, x_cml, x_cmg, x_go, x_no, x_b, x_ps, x_pn, cs_n, cs_i, cs_j, cs_r, en_n, en_i, en_j, en_r, xa0, xi1, xi2, x_k2_20, x_k3_20, xs3n, xs3i, xs3r, xi3, x_k2_s, x_k5_20, r_i, r_j, r_v, r_z1, r_z0, r_a, e177_0, e177_1, e177_2, e177_3, e177_4, e177_7, e177_10, e177_11, e177_12, e177_15, e177_16, e177_17, e177_20, e177_23, e177_24, e177_25, e177_26, e177_27, e177_28, e177_31, e177_33, e177_36, c177, i10, i00, n2, n10, n20, n60, n8, n9, bi0, ite_not, List.replicate, Nat.reduceAdd, Nat.reduceSub, Nat.reduceLeDiff, Nat.reduceLT, if_true, if_false, mg, reduceIte, not_false_eq_true, eq_self, and_self, and_true, true_and, true_or, or_true, Nat.reduceEqDiff, (fun D x => t_isS (X := X) (S := (S.1, D)) (x := x) hn hz3), tk5, w6n, fnd5]
    · rw [if_neg cb] at tf
      by_cases c2 : hsP n y
      · rw [if_pos c2] at tf
        obtain ⟨i, hi, rfl⟩ := has_of hn c2
        obtain ⟨S1, k1, h1⟩ := l_kindsx (X := X) (D0 := S.2) (r0 := S.1 0) (f := -1) hn g2 hs hi hz g6 7 0 (nI 0) S (by omega) rfl (eqJ_rfl _)
        have e3 : S1.1 3 = S.1 3 := k1.2 3 (by decide)
        have e30 : S1.2 (30, 0, 0) s = nI m := (k1.1 (30, 0, 0) s (nj (by simp))).trans g7
        have e29 : S1.2 (29, 0, 0) s = nI b := (k1.1 (29, 0, 0) s (nj (by simp))).trans g5
        have hV : ∀ v, v < 7 → RI n (upd (S1.1 3) (14 + 10 * i + 0) (nI v)) := fun v hv => by rw [e3]; exact RI_u hR3 (by decide) (show inN 6 (nI v) from ⟨v, by omega, rfl⟩)
        obtain ⟨S2, k2, a2, d2, h2⟩ := t_fitting (X := X) (S := S1) (j := 0) (M := 7) hn g2 hs hi (by decide) (by decide) hV e30
        have eT : ∀ v, tTv S.2 (S.1 0) n m s i 0 v = tTm S1.2 (S1.1 3) n m s i 0 v := fun v => (tT_eq hn g2 hi hA g8 v).trans (soT_c hn (by omega) m 0 _ _ (fun w _ => (k1.1 (31, 0, 0) (40 * s + w) (nj (by simp))).symm) (by rw [e3]; exact ag_rfl _ _))
        rw [if_neg (by decide), ← lp_T (f := stS) eT] at h2
        have tk1 := tk S1 e29
        simp only [e29, nq0 hb1] at tk1
        rw [if_neg cb, if_pos c2] at tk1
        have ti := t_isS (X := X) (S := S1) (x := nI i) hn (by rw [e3]; exact hz3)
        refine ⟨aI (lp (stS (tTv S.2 (S.1 0) n m s i 0)) 7 0 (nI 0)), S1, S2, ?_, ?_, J_fit hJ hR hA k1 k2 a2 d2⟩
        · simp only [nl_n, nl_i, nl_r, x_ci, x_ca, x_bin, x_ife, x_ifl, x_ifg, x_cme, x_cml, x_cmg, x_go, x_no, x_b, x_ps, x_pn, cs_n, cs_i, cs_j, cs_r, en_n, en_i, en_j, en_r, xa0, xi1, xi2, x_k3_0, xs3n, xs3i, xs3r, xi3, x_k2_0, r_i, r_j, r_v, r_z1, r_z0, r_a, xs4n, xs4i, xs4r, xs5n, xs5i, xs5r, xi5, g_0_4, l_2, l_9, l_27, x_k5_0, xi4, xn5n, xn5i, xn5r, e82_0, e82_1, e82_2, e82_3, e82_6, e82_7, e82_8, e82_9, e82_12, e82_13, e82_14, e82_17, e82_18, e82_19, e82_21, e82_22, e82_26, e82_28, e82_31, e82_32, e82_33, e82_36, e82_37, e82_38, e82_39, e82_40, e82_42, e82_45, e82_48, e82_50, e82_51, e82_53, e82_54, e82_55, e82_57, e82_60, e82_63, e82_65, c82, i10, i00, n2, n10, n20, n60, n8, n9, bi0, ite_not, List.replicate, Nat.reduceAdd, Nat.reduceSub, Nat.reduceLeDiff, Nat.reduceLT, if_true, if_false, mg, reduceIte, not_false_eq_true, eq_self, and_self, and_true, true_and, true_or, or_true, Nat.reduceEqDiff, tf]
          exact h1
        · simp only [nl_n, nl_i, nl_r, x_ci, x_ca, x_bin, x_ife, x_ifl, x_ifg, x_cme, x_cml, x_cmg, x_go, x_no, x_b, x_ps, x_pn, cs_n, cs_i, cs_j, cs_r, en_n, en_i, en_j, en_r, xa0, xi1, xi2, x_k2_20, x_k3_20, xs3n, xs3i, xs3r, xi3, x_k2_s, x_k5_20, r_i, r_j, r_v, r_z1, r_z0, r_a, e177_0, e177_1, e177_2, e177_3, e177_4, e177_7, e177_10, e177_11, e177_12, e177_15, e177_16, e177_17, e177_20, e177_23, e177_24, e177_25, e177_26, e177_27, e177_28, e177_31, e177_33, e177_36, c177, i10, i00, n2, n10, n20, n60, n8, n9, bi0, ite_not, List.replicate, Nat.reduceAdd, Nat.reduceSub, Nat.reduceLeDiff, Nat.reduceLT, if_true, if_false, mg, reduceIte, not_false_eq_true, eq_self, and_self, and_true, true_and, true_or, or_true, Nat.reduceEqDiff, ti, tk1, t_at, h2]
      · rw [if_neg c2] at tf
        have g5' : tlD 0 S.2 (29, 0, 0) s = nI b := (tl_o (by decide)).trans g5
        have tk0 := tk (S.1, tlD 0 S.2) g5'
        simp only [g5', nq0 hb1] at tk0
        rw [if_neg cb, if_neg c2] at tk0
        refine op_fin (k := 0) (w := -1000001) (by decide) hJ ?_ ?_
        · simp only [nl_n, nl_i, nl_r, x_ci, x_ca, x_bin, x_ife, x_ifl, x_ifg, x_cme, x_cml, x_cmg, x_go, x_no, x_b, x_ps, x_pn, cs_n, cs_i, cs_j, cs_r, en_n, en_i, en_j, en_r, xa0, xi1, xi2, x_k3_0, xs3n, xs3i, xs3r, xi3, x_k2_0, r_i, r_j, r_v, r_z1, r_z0, r_a, xs4n, xs4i, xs4r, xs5n, xs5i, xs5r, xi5, g_0_4, l_2, l_9, l_27, x_k5_0, xi4, xn5n, xn5i, xn5r, e82_0, e82_1, e82_2, e82_3, e82_6, e82_7, e82_8, e82_9, e82_12, e82_13, e82_14, e82_17, e82_18, e82_19, e82_21, e82_22, e82_26, e82_28, e82_31, e82_32, e82_33, e82_36, e82_37, e82_38, e82_39, e82_40, e82_42, e82_45, e82_48, e82_50, e82_51, e82_53, e82_54, e82_55, e82_57, e82_60, e82_63, e82_65, c82, i10, i00, n2, n10, n20, n60, n8, n9, bi0, ite_not, List.replicate, Nat.reduceAdd, Nat.reduceSub, Nat.reduceLeDiff, Nat.reduceLT, if_true, if_false, mg, reduceIte, not_false_eq_true, eq_self, and_self, and_true, true_and, true_or, or_true, Nat.reduceEqDiff, tf, n0m, tel0]
        · simp only [nl_n, nl_i, nl_r, x_ci, x_ca, x_bin, x_ife, x_ifl, x_ifg, x_cme, x_cml, x_cmg, x_go, x_no, x_b, x_ps, x_pn, cs_n, cs_i, cs_j, cs_r, en_n, en_i, en_j, en_r, xa0, xi1, xi2, x_k2_20, x_k3_20, xs3n, xs3i, xs3r, xi3, x_k2_s, x_k5_20, r_i, r_j, r_v, r_z1, r_z0, r_a, e177_0, e177_1, e177_2, e177_3, e177_4, e177_7, e177_10, e177_11, e177_12, e177_15, e177_16, e177_17, e177_20, e177_23, e177_24, e177_25, e177_26, e177_27, e177_28, e177_31, e177_33, e177_36, c177, i10, i00, n2, n10, n20, n60, n8, n9, bi0, ite_not, List.replicate, Nat.reduceAdd, Nat.reduceSub, Nat.reduceLeDiff, Nat.reduceLT, if_true, if_false, mg, reduceIte, not_false_eq_true, eq_self, and_self, and_true, true_and, true_or, or_true, Nat.reduceEqDiff, (fun D x => t_isS (X := X) (S := (S.1, D)) (x := x) hn hz3), tk0, w1n, fnd0]
  · have tf := (t_fot (X := X) (S := S) (x := x) (y := y) hz).1 c1
    have tk := (t_lacks (X := X) (S := (S.1, tlD 0 S.2)) (x := x) (g := hsP n y)).1 c1
    refine op_fin (k := 0) (w := -1000001) (by decide) hJ ?_ ?_
    · simp only [nl_n, nl_i, nl_r, x_ci, x_ca, x_bin, x_ife, x_ifl, x_ifg, x_cme, x_cml, x_cmg, x_go, x_no, x_b, x_ps, x_pn, cs_n, cs_i, cs_j, cs_r, en_n, en_i, en_j, en_r, xa0, xi1, xi2, x_k3_0, xs3n, xs3i, xs3r, xi3, x_k2_0, r_i, r_j, r_v, r_z1, r_z0, r_a, xs4n, xs4i, xs4r, xs5n, xs5i, xs5r, xi5, g_0_4, l_2, l_9, l_27, x_k5_0, xi4, xn5n, xn5i, xn5r, e82_0, e82_1, e82_2, e82_3, e82_6, e82_7, e82_8, e82_9, e82_12, e82_13, e82_14, e82_17, e82_18, e82_19, e82_21, e82_22, e82_26, e82_28, e82_31, e82_32, e82_33, e82_36, e82_37, e82_38, e82_39, e82_40, e82_42, e82_45, e82_48, e82_50, e82_51, e82_53, e82_54, e82_55, e82_57, e82_60, e82_63, e82_65, c82, i10, i00, n2, n10, n20, n60, n8, n9, bi0, ite_not, List.replicate, Nat.reduceAdd, Nat.reduceSub, Nat.reduceLeDiff, Nat.reduceLT, if_true, if_false, mg, reduceIte, not_false_eq_true, eq_self, and_self, and_true, true_and, true_or, or_true, Nat.reduceEqDiff, tf, n0m, tel0]
    · simp only [nl_n, nl_i, nl_r, x_ci, x_ca, x_bin, x_ife, x_ifl, x_ifg, x_cme, x_cml, x_cmg, x_go, x_no, x_b, x_ps, x_pn, cs_n, cs_i, cs_j, cs_r, en_n, en_i, en_j, en_r, xa0, xi1, xi2, x_k2_20, x_k3_20, xs3n, xs3i, xs3r, xi3, x_k2_s, x_k5_20, r_i, r_j, r_v, r_z1, r_z0, r_a, e177_0, e177_1, e177_2, e177_3, e177_4, e177_7, e177_10, e177_11, e177_12, e177_15, e177_16, e177_17, e177_20, e177_23, e177_24, e177_25, e177_26, e177_27, e177_28, e177_31, e177_33, e177_36, c177, i10, i00, n2, n10, n20, n60, n8, n9, bi0, ite_not, List.replicate, Nat.reduceAdd, Nat.reduceSub, Nat.reduceLeDiff, Nat.reduceLT, if_true, if_false, mg, reduceIte, not_false_eq_true, eq_self, and_self, and_true, true_and, true_or, or_true, Nat.reduceEqDiff, (fun D x => t_isS (X := X) (S := (S.1, D)) (x := x) hn hz3), tk, w1n, fnd0]
theorem tl_u {k : Nat} {D : aD} {x : Int32} : tlD k (uD D (20, 0, 0) 6 x) = uD (tlD k D) (20, 0, 0) 6 x := by
  funext r y
  unfold tlD
  by_cases e : r = (20, 0, 0) ∧ y = 6
  · rw [e.1, e.2, uD_c (by decide), uD_at, uD_at]
  · rw [uD_x e]
    by_cases e2 : r = (12, 0, 0) ∧ y = k
    · rw [e2.1, e2.2, uD_at, uD_at, uD_c (by decide)]
    · rw [uD_x e2, uD_x e2, uD_x e]
theorem o_date {X : aX} {S : aS} {x y : Int32} (hJ : J S) : opK X 81 176 [aI x, aI y] S := by
  obtain ⟨⟨n, hR, hA⟩, hK, hD⟩ := id hJ
  have hR3 := ag_RI hA hR
  have hn := hR.1
  have hz := hR.2.1
  have hz3 := hR3.2.1
  have w1l : (-1000001 : Int32) < 0 := by decide +kernel
  have w6l : (-1000006 : Int32) < 0 := by decide +kernel
  by_cases c1 : wi x (nI 0) (nI 3)
  · obtain ⟨s, _, hs3, rfl⟩ := wi_of (by decide) c1 (by decide)
    have hs : s < 4 := by omega
    obtain ⟨b, m, g1, g2, g3, g4, g5, g6, g7, g8⟩ := hD.2.2.1 s hs
    have hb1 : b < 1000 := by omega
    have tf := (t_fot (X := X) (S := S) (x := nI s) (y := y) hz).2 s b hs hb1 rfl g4
    have tk := fun (T : aS) (h : T.2 (29, 0, 0) s = nI b) => (t_lacks (X := X) (S := T) (x := nI s) (g := hsP n y)).2 s hs rfl
    by_cases cb : b = 0
    · rw [if_pos cb] at tf
      have g5' : tlD 5 S.2 (29, 0, 0) s = nI b := (tl_o (by decide)).trans g5
      have tk5 := tk (S.1, tlD 5 S.2) g5'
      simp only [g5', nq0 hb1] at tk5
      rw [if_pos cb] at tk5
      have tq : cl X 175 [aR (20, 0, 0), aI (nI s), aI y] (mem (S.1, tlD 5 S.2)) = some (some (aI (-1000006)), mem (S.1, fdD 5 (tlD 5 S.2))) := by
        simp only [nl_n, nl_i, nl_r, x_ci, x_ca, x_bin, x_ife, x_ifl, x_ifg, x_cme, x_cml, x_cmg, x_go, x_no, x_b, x_ps, x_pn, cs_n, cs_i, cs_j, cs_r, en_n, en_i, en_j, en_r, xa0, xi1, xi2, x_k2_20, x_k3_20, xs3n, xs3i, xs3r, xi3, x_k2_s, x_k5_20, r_i, r_j, r_v, r_z1, r_z0, r_a, e175_0, e175_1, e175_2, e175_3, e175_4, e175_7, e175_10, e175_11, e175_12, e175_15, e175_16, e175_17, e175_20, e175_23, e175_24, e175_25, e175_26, e175_27, e175_28, e175_31, e175_33, e175_36, c175, i10, i00, n2, n10, n20, n60, n8, n9, bi0, ite_not, List.replicate, Nat.reduceAdd, Nat.reduceSub, Nat.reduceLeDiff, Nat.reduceLT, if_true, if_false, mg, reduceIte, not_false_eq_true, eq_self, and_self, and_true, true_and, true_or, or_true, Nat.reduceEqDiff, (fun D x => t_isS (X := X) (S := (S.1, D)) (x := x) hn hz3), tk5, w6n, fnd5]
      refine op_f5 hJ ?_ ?_
      · simp only [nl_n, nl_i, nl_r, x_ci, x_ca, x_bin, x_ife, x_ifl, x_ifg, x_cme, x_cml, x_cmg, x_go, x_no, x_b, x_ps, x_pn, cs_n, cs_i, cs_j, cs_r, en_n, en_i, en_j, en_r, xa0, xi1, xi2, x_k3_0, xs3n, xs3i, xs3r, xi3, x_k2_0, r_i, r_j, r_v, r_z1, r_z0, r_a, xs4n, xs4i, xs4r, xi4, g_0_4, l_2, l_9, l_27, x_k5_0, xn4n, xn4i, xn4r, e81_0, e81_1, e81_2, e81_3, e81_6, e81_7, e81_8, e81_9, e81_12, e81_13, e81_14, e81_17, e81_18, e81_19, e81_23, e81_25, e81_28, e81_29, e81_30, e81_33, e81_34, e81_35, e81_36, e81_37, e81_39, e81_42, e81_45, e81_47, e81_48, e81_51, e81_54, e81_55, e81_56, e81_59, c81, i10, i00, n2, n10, n20, n60, n8, n9, bi0, ite_not, List.replicate, Nat.reduceAdd, Nat.reduceSub, Nat.reduceLeDiff, Nat.reduceLT, if_true, if_false, mg, reduceIte, not_false_eq_true, eq_self, and_self, and_true, true_and, true_or, or_true, Nat.reduceEqDiff, tf, n5m, tel5]
      · simp only [nl_n, nl_i, nl_r, x_ci, x_ca, x_bin, x_ife, x_ifl, x_ifg, x_cme, x_cml, x_cmg, x_go, x_no, x_b, x_ps, x_pn, cs_n, cs_i, cs_j, cs_r, en_n, en_i, en_j, en_r, xa0, xi1, xi2, x_k3_20, xs3n, xs3i, xs3r, xi3, g_20_6, x_k2_20, r_i, r_j, r_v, r_z1, r_z0, r_a, e176_0, e176_1, e176_2, e176_3, e176_6, e176_7, e176_8, e176_11, e176_12, e176_15, e176_16, e176_17, e176_20, e176_23, c176, i10, i00, n2, n10, n20, n60, n8, n9, bi0, ite_not, List.replicate, Nat.reduceAdd, Nat.reduceSub, Nat.reduceLeDiff, Nat.reduceLT, if_true, if_false, mg, reduceIte, not_false_eq_true, eq_self, and_self, and_true, true_and, true_or, or_true, Nat.reduceEqDiff, tq, w6l]
    · rw [if_neg cb] at tf
      by_cases c2 : hsP n y
      · rw [if_pos c2] at tf
        obtain ⟨i, hi, rfl⟩ := has_of hn c2
        obtain ⟨S1, k1, h1⟩ := l_datex (X := X) (D0 := S.2) (r0 := S.1 0) (f := -1) hn g2 hs hi hz g6 60 0 S (by omega) rfl (eqJ_rfl _)
        have e3 : S1.1 3 = S.1 3 := k1.2 3 (by decide)
        have hx : cl X 81 [aR (0, 0, 0), aI (nI s), aI (nI i)] (mem S) = rsO (fsF (tTv S.2 (S.1 0) n m s i 1) 60 0) S1.1 S1.2 := by
          simp only [nl_n, nl_i, nl_r, x_ci, x_ca, x_bin, x_ife, x_ifl, x_ifg, x_cme, x_cml, x_cmg, x_go, x_no, x_b, x_ps, x_pn, cs_n, cs_i, cs_j, cs_r, en_n, en_i, en_j, en_r, xa0, xi1, xi2, x_k3_0, xs3n, xs3i, xs3r, xi3, x_k2_0, r_i, r_j, r_v, r_z1, r_z0, r_a, xs4n, xs4i, xs4r, xi4, g_0_4, l_2, l_9, l_27, x_k5_0, xn4n, xn4i, xn4r, e81_0, e81_1, e81_2, e81_3, e81_6, e81_7, e81_8, e81_9, e81_12, e81_13, e81_14, e81_17, e81_18, e81_19, e81_23, e81_25, e81_28, e81_29, e81_30, e81_33, e81_34, e81_35, e81_36, e81_37, e81_39, e81_42, e81_45, e81_47, e81_48, e81_51, e81_54, e81_55, e81_56, e81_59, c81, i10, i00, n2, n10, n20, n60, n8, n9, bi0, ite_not, List.replicate, Nat.reduceAdd, Nat.reduceSub, Nat.reduceLeDiff, Nat.reduceLT, if_true, if_false, mg, reduceIte, not_false_eq_true, eq_self, and_self, and_true, true_and, true_or, or_true, Nat.reduceEqDiff, tf]
          exact h1
        have hv := fs_v (tTv S.2 (S.1 0) n m s i 1) 60 0 (by omega)
        have hm : ∀ D, (∀ w, D (31, 0, 0) w = S.2 (31, 0, 0) w) → D (30, 0, 0) s = nI m → D (29, 0, 0) s = nI b → ∃ S2 : aS, (∀ a, a ≠ 3 → a ≠ 5 → S2.1 a = S1.1 a) ∧ a94 (S2.1 3) (S1.1 3) ∧ eqJ (uD D (20, 0, 0) 6 (fsF (tTv S.2 (S.1 0) n m s i 1) 60 0)) S2.2 ∧ cl X 176 [aR (20, 0, 0), aI (nI s), aI (nI i)] (mem (S1.1, D)) = (if fsF (tTv S.2 (S.1 0) n m s i 1) 60 0 = -1 then some (some (aI (-1000004)), mem (S2.1, fdD 3 S2.2)) else some (some (aI (fsF (tTv S.2 (S.1 0) n m s i 1) 60 0)), mem S2)) := by
          intro D e31 e30 e29
          have hV : ∀ v, v < 60 → RI n (upd (((S1.1, D) : aS).1 3) (14 + 10 * i + 1) (nI v)) := fun v hv => by
            show RI n (upd (S1.1 3) (14 + 10 * i + 1) (nI v))
            rw [e3]; exact RI_u hR3 (by decide) (show inN 59 (nI v) from ⟨v, by omega, rfl⟩)
          obtain ⟨S2, k2, a2, d2, h2⟩ := t_fitting (X := X) (S := (S1.1, D)) (j := 1) (M := 60) hn g2 hs hi (by decide) (by decide) hV e30
          have eT : ∀ v, tTv S.2 (S.1 0) n m s i 1 v = tTm D (S1.1 3) n m s i 1 v := fun v => (tT_eq hn g2 hi hA g8 v).trans (soT_c hn (by omega) m 0 _ _ (fun w _ => (e31 _).symm) (by rw [e3]; exact ag_rfl _ _))
          rw [show (fsF (tTm ((S1.1, D) : aS).2 (((S1.1, D) : aS).1 3) n m s i 1) 60 0) = fsF (tTv S.2 (S.1 0) n m s i 1) 60 0 by rw [show tTv S.2 (S.1 0) n m s i 1 = tTm D (S1.1 3) n m s i 1 from funext eT]] at d2
          rw [if_pos rfl] at h2
          obtain ⟨cn, hcn, ecn⟩ := cn_v (tTm D (S1.1 3) n m s i 1) 60 0 0
          dsimp only at h2
          rw [ecn] at h2
          refine ⟨S2, k2, a2, d2, ?_⟩
          have tk1 := tk (S1.1, D) e29
          simp only [e29, nq0 hb1] at tk1
          rw [if_neg cb, if_pos c2] at tk1
          have ti := t_isS (X := X) (S := (S1.1, D)) (x := nI i) hn (show S1.1 3 1 = nI n by rw [e3]; exact hz3)
          have tq : cl X 175 [aR (20, 0, 0), aI (nI s), aI (nI i)] (mem (S1.1, D)) = some (some (aI (nI cn)), mem S2) := by
            simp only [nl_n, nl_i, nl_r, x_ci, x_ca, x_bin, x_ife, x_ifl, x_ifg, x_cme, x_cml, x_cmg, x_go, x_no, x_b, x_ps, x_pn, cs_n, cs_i, cs_j, cs_r, en_n, en_i, en_j, en_r, xa0, xi1, xi2, x_k2_20, x_k3_20, xs3n, xs3i, xs3r, xi3, x_k2_s, x_k5_20, r_i, r_j, r_v, r_z1, r_z0, r_a, e175_0, e175_1, e175_2, e175_3, e175_4, e175_7, e175_10, e175_11, e175_12, e175_15, e175_16, e175_17, e175_20, e175_23, e175_24, e175_25, e175_26, e175_27, e175_28, e175_31, e175_33, e175_36, c175, i10, i00, n2, n10, n20, n60, n8, n9, bi0, ite_not, List.replicate, Nat.reduceAdd, Nat.reduceSub, Nat.reduceLeDiff, Nat.reduceLT, if_true, if_false, mg, reduceIte, not_false_eq_true, eq_self, and_self, and_true, true_and, true_or, or_true, Nat.reduceEqDiff, ti, tk1, t_at, h2]
          have e6 : S2.2 (20, 0, 0) 6 = fsF (tTv S.2 (S.1 0) n m s i 1) 60 0 := (d2 (20, 0, 0) 6 (by unfold jk; omega)).trans (uD_at ..)
          simp only [nl_n, nl_i, nl_r, x_ci, x_ca, x_bin, x_ife, x_ifl, x_ifg, x_cme, x_cml, x_cmg, x_go, x_no, x_b, x_ps, x_pn, cs_n, cs_i, cs_j, cs_r, en_n, en_i, en_j, en_r, xa0, xi1, xi2, x_k3_20, xs3n, xs3i, xs3r, xi3, g_20_6, x_k2_20, r_i, r_j, r_v, r_z1, r_z0, r_a, e176_0, e176_1, e176_2, e176_3, e176_6, e176_7, e176_8, e176_11, e176_12, e176_15, e176_16, e176_17, e176_20, e176_23, c176, i10, i00, n2, n10, n20, n60, n8, n9, bi0, ite_not, List.replicate, Nat.reduceAdd, Nat.reduceSub, Nat.reduceLeDiff, Nat.reduceLT, if_true, if_false, mg, reduceIte, not_false_eq_true, eq_self, and_self, and_true, true_and, true_or, or_true, Nat.reduceEqDiff, tq, (nI_pos (show cn < 2 ^ 31 by omega)), e6, (t_orNone hv), bnd_if]
        generalize fsF (tTv S.2 (S.1 0) n m s i 1) 60 0 = Z at hx hm hv
        by_cases cz : Z = -1
        · obtain ⟨S2, k2, a2, d2, h2⟩ := hm (tlD 3 S1.2) (fun w => (tl_o (by decide)).trans (k1.1 (31, 0, 0) w (nj (by simp)))) ((tl_o (by decide)).trans ((k1.1 (30, 0, 0) s (nj (by simp))).trans g7)) ((tl_o (by decide)).trans ((k1.1 (29, 0, 0) s (nj (by simp))).trans g5))
          rw [if_pos cz] at h2
          unfold rsO at hx
          rw [if_pos cz] at hx
          have e0 : S2.1 0 = S.1 0 := (k2 0 (by decide) (by decide)).trans (k1.2 0 (by decide))
          have e2 : S2.1 2 = S.1 2 := (k2 2 (by decide) (by decide)).trans (k1.2 2 (by decide))
          have e4 : S2.1 4 = S.1 4 := (k2 4 (by decide) (by decide)).trans (k1.2 4 (by decide))
          have eD : eqJ (uD S.2 (20, 0, 0) 6 Z) (uD S1.2 (20, 0, 0) 6 Z) := by
            intro r y hy
            by_cases e : r = (20, 0, 0) ∧ y = 6
            · rw [e.1, e.2, uD_at, uD_at]
            · rw [uD_x e, uD_x e]; exact k1.1 r y hy
          refine ⟨_, _, _, hx, h2, J_f (S := (S.1, uD S.2 (20, 0, 0) 6 Z)) (D1 := uD S1.2 (20, 0, 0) 6 Z) (n := n) (by decide) (J_6 hJ) (by rw [e0]; exact hR) ?_ e2 e4 eD (by rw [tl_u]; exact d2)⟩
          rw [e0]
          refine ag_tr hA (ag_sym ?_)
          rw [← e3]
          exact a94_ag hn a2
        · obtain ⟨S2, k2, a2, d2, h2⟩ := hm S1.2 (fun w => k1.1 (31, 0, 0) w (nj (by simp))) ((k1.1 (30, 0, 0) s (nj (by simp))).trans g7) ((k1.1 (29, 0, 0) s (nj (by simp))).trans g5)
          rw [if_neg cz] at h2
          unfold rsO at hx
          rw [if_neg cz] at hx
          exact ⟨_, _, _, hx, h2, J_fit hJ hR hA k1 k2 a2 d2⟩
      · rw [if_neg c2] at tf
        have g5' : tlD 0 S.2 (29, 0, 0) s = nI b := (tl_o (by decide)).trans g5
        have tk0 := tk (S.1, tlD 0 S.2) g5'
        simp only [g5', nq0 hb1] at tk0
        rw [if_neg cb, if_neg c2] at tk0
        have tq : cl X 175 [aR (20, 0, 0), aI (nI s), aI y] (mem (S.1, tlD 0 S.2)) = some (some (aI (-1000001)), mem (S.1, fdD 0 (tlD 0 S.2))) := by
          simp only [nl_n, nl_i, nl_r, x_ci, x_ca, x_bin, x_ife, x_ifl, x_ifg, x_cme, x_cml, x_cmg, x_go, x_no, x_b, x_ps, x_pn, cs_n, cs_i, cs_j, cs_r, en_n, en_i, en_j, en_r, xa0, xi1, xi2, x_k2_20, x_k3_20, xs3n, xs3i, xs3r, xi3, x_k2_s, x_k5_20, r_i, r_j, r_v, r_z1, r_z0, r_a, e175_0, e175_1, e175_2, e175_3, e175_4, e175_7, e175_10, e175_11, e175_12, e175_15, e175_16, e175_17, e175_20, e175_23, e175_24, e175_25, e175_26, e175_27, e175_28, e175_31, e175_33, e175_36, c175, i10, i00, n2, n10, n20, n60, n8, n9, bi0, ite_not, List.replicate, Nat.reduceAdd, Nat.reduceSub, Nat.reduceLeDiff, Nat.reduceLT, if_true, if_false, mg, reduceIte, not_false_eq_true, eq_self, and_self, and_true, true_and, true_or, or_true, Nat.reduceEqDiff, (fun D x => t_isS (X := X) (S := (S.1, D)) (x := x) hn hz3), tk0, w1n, fnd0]
        refine op_fin (k := 0) (w := -1000001) (by decide) hJ ?_ ?_
        · simp only [nl_n, nl_i, nl_r, x_ci, x_ca, x_bin, x_ife, x_ifl, x_ifg, x_cme, x_cml, x_cmg, x_go, x_no, x_b, x_ps, x_pn, cs_n, cs_i, cs_j, cs_r, en_n, en_i, en_j, en_r, xa0, xi1, xi2, x_k3_0, xs3n, xs3i, xs3r, xi3, x_k2_0, r_i, r_j, r_v, r_z1, r_z0, r_a, xs4n, xs4i, xs4r, xi4, g_0_4, l_2, l_9, l_27, x_k5_0, xn4n, xn4i, xn4r, e81_0, e81_1, e81_2, e81_3, e81_6, e81_7, e81_8, e81_9, e81_12, e81_13, e81_14, e81_17, e81_18, e81_19, e81_23, e81_25, e81_28, e81_29, e81_30, e81_33, e81_34, e81_35, e81_36, e81_37, e81_39, e81_42, e81_45, e81_47, e81_48, e81_51, e81_54, e81_55, e81_56, e81_59, c81, i10, i00, n2, n10, n20, n60, n8, n9, bi0, ite_not, List.replicate, Nat.reduceAdd, Nat.reduceSub, Nat.reduceLeDiff, Nat.reduceLT, if_true, if_false, mg, reduceIte, not_false_eq_true, eq_self, and_self, and_true, true_and, true_or, or_true, Nat.reduceEqDiff, tf, n0m, tel0]
        · simp only [nl_n, nl_i, nl_r, x_ci, x_ca, x_bin, x_ife, x_ifl, x_ifg, x_cme, x_cml, x_cmg, x_go, x_no, x_b, x_ps, x_pn, cs_n, cs_i, cs_j, cs_r, en_n, en_i, en_j, en_r, xa0, xi1, xi2, x_k3_20, xs3n, xs3i, xs3r, xi3, g_20_6, x_k2_20, r_i, r_j, r_v, r_z1, r_z0, r_a, e176_0, e176_1, e176_2, e176_3, e176_6, e176_7, e176_8, e176_11, e176_12, e176_15, e176_16, e176_17, e176_20, e176_23, c176, i10, i00, n2, n10, n20, n60, n8, n9, bi0, ite_not, List.replicate, Nat.reduceAdd, Nat.reduceSub, Nat.reduceLeDiff, Nat.reduceLT, if_true, if_false, mg, reduceIte, not_false_eq_true, eq_self, and_self, and_true, true_and, true_or, or_true, Nat.reduceEqDiff, tq, w1l]
  · have tf := (t_fot (X := X) (S := S) (x := x) (y := y) hz).1 c1
    have tk := (t_lacks (X := X) (S := (S.1, tlD 0 S.2)) (x := x) (g := hsP n y)).1 c1
    have tq : cl X 175 [aR (20, 0, 0), aI x, aI y] (mem (S.1, tlD 0 S.2)) = some (some (aI (-1000001)), mem (S.1, fdD 0 (tlD 0 S.2))) := by
      simp only [nl_n, nl_i, nl_r, x_ci, x_ca, x_bin, x_ife, x_ifl, x_ifg, x_cme, x_cml, x_cmg, x_go, x_no, x_b, x_ps, x_pn, cs_n, cs_i, cs_j, cs_r, en_n, en_i, en_j, en_r, xa0, xi1, xi2, x_k2_20, x_k3_20, xs3n, xs3i, xs3r, xi3, x_k2_s, x_k5_20, r_i, r_j, r_v, r_z1, r_z0, r_a, e175_0, e175_1, e175_2, e175_3, e175_4, e175_7, e175_10, e175_11, e175_12, e175_15, e175_16, e175_17, e175_20, e175_23, e175_24, e175_25, e175_26, e175_27, e175_28, e175_31, e175_33, e175_36, c175, i10, i00, n2, n10, n20, n60, n8, n9, bi0, ite_not, List.replicate, Nat.reduceAdd, Nat.reduceSub, Nat.reduceLeDiff, Nat.reduceLT, if_true, if_false, mg, reduceIte, not_false_eq_true, eq_self, and_self, and_true, true_and, true_or, or_true, Nat.reduceEqDiff, (fun D x => t_isS (X := X) (S := (S.1, D)) (x := x) hn hz3), tk, w1n, fnd0]
    refine op_fin (k := 0) (w := -1000001) (by decide) hJ ?_ ?_
    · simp only [nl_n, nl_i, nl_r, x_ci, x_ca, x_bin, x_ife, x_ifl, x_ifg, x_cme, x_cml, x_cmg, x_go, x_no, x_b, x_ps, x_pn, cs_n, cs_i, cs_j, cs_r, en_n, en_i, en_j, en_r, xa0, xi1, xi2, x_k3_0, xs3n, xs3i, xs3r, xi3, x_k2_0, r_i, r_j, r_v, r_z1, r_z0, r_a, xs4n, xs4i, xs4r, xi4, g_0_4, l_2, l_9, l_27, x_k5_0, xn4n, xn4i, xn4r, e81_0, e81_1, e81_2, e81_3, e81_6, e81_7, e81_8, e81_9, e81_12, e81_13, e81_14, e81_17, e81_18, e81_19, e81_23, e81_25, e81_28, e81_29, e81_30, e81_33, e81_34, e81_35, e81_36, e81_37, e81_39, e81_42, e81_45, e81_47, e81_48, e81_51, e81_54, e81_55, e81_56, e81_59, c81, i10, i00, n2, n10, n20, n60, n8, n9, bi0, ite_not, List.replicate, Nat.reduceAdd, Nat.reduceSub, Nat.reduceLeDiff, Nat.reduceLT, if_true, if_false, mg, reduceIte, not_false_eq_true, eq_self, and_self, and_true, true_and, true_or, or_true, Nat.reduceEqDiff, tf, n0m, tel0]
    · simp only [nl_n, nl_i, nl_r, x_ci, x_ca, x_bin, x_ife, x_ifl, x_ifg, x_cme, x_cml, x_cmg, x_go, x_no, x_b, x_ps, x_pn, cs_n, cs_i, cs_j, cs_r, en_n, en_i, en_j, en_r, xa0, xi1, xi2, x_k3_20, xs3n, xs3i, xs3r, xi3, g_20_6, x_k2_20, r_i, r_j, r_v, r_z1, r_z0, r_a, e176_0, e176_1, e176_2, e176_3, e176_6, e176_7, e176_8, e176_11, e176_12, e176_15, e176_16, e176_17, e176_20, e176_23, c176, i10, i00, n2, n10, n20, n60, n8, n9, bi0, ite_not, List.replicate, Nat.reduceAdd, Nat.reduceSub, Nat.reduceLeDiff, Nat.reduceLT, if_true, if_false, mg, reduceIte, not_false_eq_true, eq_self, and_self, and_true, true_and, true_or, or_true, Nat.reduceEqDiff, tq, w1l]
