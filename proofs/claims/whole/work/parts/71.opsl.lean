/-! sheets -/
theorem w1n : ¬ (-1000001 : Int32) = 0 := by decide +kernel
theorem w6n : ¬ (-1000006 : Int32) = 0 := by decide +kernel
theorem n5m : ¬ nI 5 = -1 := by decide +kernel
theorem n0m : ¬ nI 0 = -1 := by decide +kernel
theorem t_isSh5 {X : aX} {M : aM} {v : Int32} : cl X 108 [aI v] M = some (some (aI (bi (wi v (nI 0) (nI 3)))), M) := by
  simp only [nl_n, nl_i, nl_r, x_ci, x_ca, x_bin, x_ife, x_ifl, x_ifg, x_cme, x_cml, x_cmg, x_go, x_no, x_b, x_ps, x_pn, cs_n, cs_i, cs_j, cs_r, en_n, en_i, en_j, en_r, xi0, x_k3_s, r_i, r_j, r_v, r_z1, r_z0, r_a, e108_0, e108_1, e108_2, e108_3, e108_6, c108, i10, i00, n2, n10, n20, n60, n8, n9, bi0, ite_not, List.replicate, Nat.reduceAdd, Nat.reduceSub, Nat.reduceLeDiff, Nat.reduceLT, if_true, if_false, mg, reduceIte, not_false_eq_true, eq_self, and_self, and_true, true_and, true_or, or_true, Nat.reduceEqDiff, t_within, biz]
theorem t_isSh6 {X : aX} {M : aM} {v : Int32} : cl X 199 [aI v] M = some (some (aI (bi (wi v (nI 0) (nI 3)))), M) := by
  simp only [nl_n, nl_i, nl_r, x_ci, x_ca, x_bin, x_ife, x_ifl, x_ifg, x_cme, x_cml, x_cmg, x_go, x_no, x_b, x_ps, x_pn, cs_n, cs_i, cs_j, cs_r, en_n, en_i, en_j, en_r, xi0, x_k3_s, r_i, r_j, r_v, r_z1, r_z0, r_a, e199_0, e199_1, e199_2, e199_3, e199_6, c199, i10, i00, n2, n10, n20, n60, n8, n9, bi0, ite_not, List.replicate, Nat.reduceAdd, Nat.reduceSub, Nat.reduceLeDiff, Nat.reduceLT, if_true, if_false, mg, reduceIte, not_false_eq_true, eq_self, and_self, and_true, true_and, true_or, or_true, Nat.reduceEqDiff, t_within6, biz]
theorem nq {a b : Nat} (ha : a < 1000) (hb : b < 1000) : (nI a = nI b) = (a = b) := propext (nI_eq (by omega) (by omega))
theorem nq0 {a : Nat} (ha : a < 1000) : (nI a = 0) = (a = 0) := by rw [← nI_0]; exact nq ha (by decide)
theorem JD_sh {D D' : aD} {s : Nat} (hJ : JD D) (ho : ∀ r k, ¬ (r.1 = 10 ∧ r.2.1 = s) → ¬ (r.1 = 11 ∧ r.2.1 = s) → ¬ (r.1 = 29 ∧ k = s) → ¬ (r.1 = 30 ∧ k = s) → ¬ (r.1 = 31 ∧ 40 * s ≤ k ∧ k < 40 * s + 40) → D' r k = D r k) (h1 : HJ1 D' s) : JD D' := by
  obtain ⟨⟨f1, f2⟩, ⟨t, t1, t2, t3, t4⟩, hs, k1, k2⟩ := hJ
  have o : ∀ (r : aL) j, r.1 ≠ 10 → r.1 ≠ 11 → r.1 ≠ 29 → r.1 ≠ 30 → r.1 ≠ 31 → D' r j = D r j := fun r j a b c d e => ho r j (fun w => a w.1) (fun w => b w.1) (fun w => c w.1) (fun w => d w.1) (fun w => e w.1)
  refine ⟨⟨fun j hj => ?_, ?_⟩, ⟨t, t1, ?_, ?_, fun j hj => ?_⟩, fun s' h => ?_, ?_, ?_⟩
  · rw [o _ _ (by decide) (by decide) (by decide) (by decide) (by decide), o _ _ (by decide) (by decide) (by decide) (by decide) (by decide)]; exact f1 j hj
  · rw [o _ _ (by decide) (by decide) (by decide) (by decide) (by decide), f2]
    exact congrArg (fun f => sumF f 7) (funext (fun j => (o (12, 0, 0) j (by decide) (by decide) (by decide) (by decide) (by decide)).symm))
  · rw [o _ _ (by decide) (by decide) (by decide) (by decide) (by decide)]; exact t2
  · rw [o _ _ (by decide) (by decide) (by decide) (by decide) (by decide)]; exact t3
  · rw [o _ _ (by decide) (by decide) (by decide) (by decide) (by decide), o _ _ (by decide) (by decide) (by decide) (by decide) (by decide)]; exact t4 j hj
  · by_cases c : s' = s
    · rw [c]; exact h1
    · obtain ⟨b, m, g1, g2, g3, g4, g5, g6, g7, g8⟩ := hs s' h
      have o10 : ∀ j, D' (10, s', 0) j = D (10, s', 0) j := fun j => ho _ _ (fun w => c w.2) (fun w => by cases w.1) (fun w => by cases w.1) (fun w => by cases w.1) (fun w => by cases w.1)
      have o11 : ∀ j, D' (11, s', 0) j = D (11, s', 0) j := fun j => ho _ _ (fun w => by cases w.1) (fun w => c w.2) (fun w => by cases w.1) (fun w => by cases w.1) (fun w => by cases w.1)
      have o29 : D' (29, 0, 0) s' = D (29, 0, 0) s' := ho _ _ (fun w => by cases w.1) (fun w => by cases w.1) (fun w => c w.2) (fun w => by cases w.1) (fun w => by cases w.1)
      have o30 : D' (30, 0, 0) s' = D (30, 0, 0) s' := ho _ _ (fun w => by cases w.1) (fun w => by cases w.1) (fun w => by cases w.1) (fun w => c w.2) (fun w => by cases w.1)
      have o31 : ∀ j, j < 40 → D' (31, 0, 0) (40 * s' + j) = D (31, 0, 0) (40 * s' + j) := fun j hj => ho _ _ (fun w => by cases w.1) (fun w => by cases w.1) (fun w => by cases w.1) (fun w => by cases w.1) (fun w => by have := w.2; omega)
      exact ⟨b, m, g1, g2, g3, by rw [o10]; exact g4, by rw [o29]; exact g5, by rw [o10]; exact g6, by rw [o30]; exact g7, fun j hj => by rw [o11, o31 j hj]; exact g8 j hj⟩
  · rw [o _ _ (by decide) (by decide) (by decide) (by decide) (by decide)]; exact k1
  · rw [o _ _ (by decide) (by decide) (by decide) (by decide) (by decide), o _ _ (by decide) (by decide) (by decide) (by decide) (by decide)]; exact k2
theorem uD_x {D : aD} {r r' : aL} {k k' : Nat} {x : Int32} (h : ¬ (r' = r ∧ k' = k)) : uD D r k x r' k' = D r' k' := if_neg h
def zlD (r : aL) (p i : Nat) (D : aD) : aD := uD D r (p + i) (nI 0)
theorem zl_at (r : aL) (p : Nat) : ∀ k i D r' k', lp (zlD r p) k i D r' k' = if r' = r ∧ p + i ≤ k' ∧ k' < p + i + k then nI 0 else D r' k' := by
  intro k
  induction k with
  | zero => intro i D r' k'; rw [if_neg (by omega)]; rfl
  | succ k ih =>
    intro i D r' k'
    rw [lp_s, ih]
    unfold zlD uD
    by_cases c : r' = r
    · by_cases c2 : k' = p + i
      · rw [if_neg (by omega), if_pos ⟨c, c2⟩, if_pos ⟨c, by omega, by omega⟩]
      · rw [if_neg (fun w : r' = r ∧ k' = p + i => c2 w.2)]
        by_cases c3 : p + (i + 1) ≤ k' ∧ k' < p + (i + 1) + k
        · rw [if_pos ⟨c, c3⟩, if_pos ⟨c, by omega, by omega⟩]
        · rw [if_neg (fun w => c3 w.2), if_neg (fun w => by have := w.2; omega)]
    · rw [if_neg (fun w => c w.1), if_neg (fun w => c w.1), if_neg (fun w => c w.1)]
theorem l_lay {X : aX} {q : Nat → Nat → Int32} {s : Nat} {y z : Int32} (hs : s < 4) : ∀ k i D, i + k = 40 → go X 10 20 [some (aR (10, s, 0)), some (aI y), some (aI z), some (aI (nI i))] [] (mem (q, D)) = some (none, mem (q, lp (zlD (11, s, 0) 0) k i D)) := by
  intro k
  induction k with
  | zero =>
    intro i D h
    rw [e10_20]
    simp only [nl_n, nl_i, nl_r, x_ci, x_ca, x_bin, x_ife, x_ifl, x_ifg, x_cme, x_cml, x_cmg, x_go, x_no, x_b, x_ps, x_pn, cs_n, cs_i, cs_j, cs_r, en_n, en_i, en_j, en_r, xa0, xi1, p_10_1, xi2, p_10_2, xs3n, xs3i, xs3r, xi3, g_10_0, s_3, s_5, s_8, s_11, s_12, s_21, s_22, s_23, s_24, s_25, s_26, s_28, s_29, s_30, s_31, s_32, xn3n, xn3i, xn3r, r_i, r_j, r_v, r_z1, r_z0, r_a, e10_0, e10_1, e10_2, e10_5, e10_6, e10_7, e10_10, e10_11, e10_14, e10_15, e10_18, e10_19, e10_21, e10_23, e10_26, e10_27, e10_30, e10_31, e10_32, e10_33, e10_36, e10_39, c10, i10, i00, n2, n10, n20, n60, n8, n9, bi0, ite_not, List.replicate, Nat.reduceAdd, Nat.reduceSub, Nat.reduceLeDiff, Nat.reduceLT, if_true, if_false, mg, reduceIte, not_false_eq_true, eq_self, and_self, and_true, true_and, true_or, or_true, Nat.reduceEqDiff, (nI_nlt (show 40 ≤ i by omega) (by omega))]
    rfl
  | succ k ih =>
    intro i D h
    have hi : i < 40 := by omega
    rw [e10_20, lp_s, ← ih (i + 1) _ (by omega)]
    simp only [nl_n, nl_i, nl_r, x_ci, x_ca, x_bin, x_ife, x_ifl, x_ifg, x_cme, x_cml, x_cmg, x_go, x_no, x_b, x_ps, x_pn, cs_n, cs_i, cs_j, cs_r, en_n, en_i, en_j, en_r, xa0, xi1, p_10_1, xi2, p_10_2, xs3n, xs3i, xs3r, xi3, g_10_0, s_3, s_5, s_8, s_11, s_12, s_21, s_22, s_23, s_24, s_25, s_26, s_28, s_29, s_30, s_31, s_32, xn3n, xn3i, xn3r, r_i, r_j, r_v, r_z1, r_z0, r_a, e10_0, e10_1, e10_2, e10_5, e10_6, e10_7, e10_10, e10_11, e10_14, e10_15, e10_18, e10_19, e10_21, e10_23, e10_26, e10_27, e10_30, e10_31, e10_32, e10_33, e10_36, e10_39, c10, i10, i00, n2, n10, n20, n60, n8, n9, bi0, ite_not, List.replicate, Nat.reduceAdd, Nat.reduceSub, Nat.reduceLeDiff, Nat.reduceLT, if_true, if_false, mg, reduceIte, not_false_eq_true, eq_self, and_self, and_true, true_and, true_or, or_true, Nat.reduceEqDiff, hs, hi, (nI_lt hi (by decide)), nI_add]
    unfold zlD
    rw [Nat.zero_add]
theorem t_layS {X : aX} {S : aS} {s : Nat} {y z : Int32} (hs : s < 4) : cl X 10 [aR (10, s, 0), aI y, aI z] (mem S) = some (none, mem (S.1, lp (zlD (11, s, 0) 0) 40 0 (uD (uD S.2 (10, s, 0) 1 y) (10, s, 0) 2 (if y = 0 then nI 0 else z)))) := by
  simp only [nl_n, nl_i, nl_r, x_ci, x_ca, x_bin, x_ife, x_ifl, x_ifg, x_cme, x_cml, x_cmg, x_go, x_no, x_b, x_ps, x_pn, cs_n, cs_i, cs_j, cs_r, en_n, en_i, en_j, en_r, xa0, xi1, p_10_1, xi2, p_10_2, xs3n, xs3i, xs3r, xi3, g_10_0, s_3, s_5, s_8, s_11, s_12, s_21, s_22, s_23, s_24, s_25, s_26, s_28, s_29, s_30, s_31, s_32, xn3n, xn3i, xn3r, r_i, r_j, r_v, r_z1, r_z0, r_a, e10_0, e10_1, e10_2, e10_5, e10_6, e10_7, e10_10, e10_11, e10_14, e10_15, e10_18, e10_19, e10_21, e10_23, e10_26, e10_27, e10_30, e10_31, e10_32, e10_33, e10_36, e10_39, c10, i10, i00, n2, n10, n20, n60, n8, n9, bi0, ite_not, List.replicate, Nat.reduceAdd, Nat.reduceSub, Nat.reduceLeDiff, Nat.reduceLT, if_true, if_false, mg, reduceIte, not_false_eq_true, eq_self, and_self, and_true, true_and, true_or, or_true, Nat.reduceEqDiff, hs]
  by_cases c : y = 0
  · rw [if_pos c, if_pos c]
    exact l_lay hs 40 0 _ (by omega)
  · rw [if_neg c, if_neg c]
    exact l_lay hs 40 0 _ (by omega)
theorem l_sheet6 {X : aX} {q : Nat → Nat → Int32} {s : Nat} {y z m : Int32} (hs : s < 4) : ∀ k i D, i + k = 40 → D (30, 0, 0) s = m → go X 201 86 [some (aR (20, 0, 0)), some (aI (nI s)), some (aI y), some (aI z), some (aI (nI i))] [] (mem (q, D)) = some (some (aI m), mem (q, lp (zlD (31, 0, 0) (40 * s)) k i D)) := by
  intro k
  induction k with
  | zero =>
    intro i D h hm
    rw [e201_86]
    simp only [nl_n, nl_i, nl_r, x_ci, x_ca, x_bin, x_ife, x_ifl, x_ifg, x_cme, x_cml, x_cmg, x_go, x_no, x_b, x_ps, x_pn, cs_n, cs_i, cs_j, cs_r, en_n, en_i, en_j, en_r, xi1, x_k1_s, xi2, xa0, x_k2_20, r_i, r_j, r_v, r_z1, r_z0, r_a, xi3, g_20_18, s_3, s_5, s_8, s_11, s_12, s_21, s_22, s_23, s_24, s_25, s_26, s_28, s_29, s_30, s_31, s_32, g_20_19, xs4n, xs4i, xs4r, xi4, g_20_20, xn4n, xn4i, xn4r, l_3, l_5, l_8, l_11, l_12, l_21, l_22, l_23, l_24, l_25, l_26, l_28, l_29, l_30, l_31, l_32, e201_0, e201_1, e201_4, e201_7, e201_8, e201_11, e201_12, e201_14, e201_17, e201_18, e201_20, e201_23, e201_24, e201_26, e201_29, e201_30, e201_32, e201_35, e201_36, e201_37, e201_40, e201_41, e201_44, e201_47, e201_48, e201_49, e201_51, e201_54, e201_55, e201_57, e201_60, e201_61, e201_62, e201_65, e201_66, e201_67, e201_68, e201_69, e201_72, e201_73, e201_74, e201_77, e201_78, e201_81, e201_82, e201_83, e201_84, e201_88, e201_90, e201_93, e201_94, e201_97, e201_99, e201_100, e201_101, e201_103, e201_104, e201_105, e201_106, e201_109, e201_112, e201_113, e201_116, e201_117, e201_118, c201, i10, i00, n2, n10, n20, n60, n8, n9, bi0, ite_not, List.replicate, Nat.reduceAdd, Nat.reduceSub, Nat.reduceLeDiff, Nat.reduceLT, if_true, if_false, mg, reduceIte, not_false_eq_true, eq_self, and_self, and_true, true_and, true_or, or_true, Nat.reduceEqDiff, (nI_nlt (show 40 ≤ i by omega) (by omega)), hs, hm]
    rfl
  | succ k ih =>
    intro i D h hm
    have hi : i < 40 := by omega
    have hp : 40 * s + i < 160 := by omega
    rw [e201_86, lp_s, ← ih (i + 1) _ (by omega) (by unfold zlD; rw [uD_c (by decide)]; exact hm)]
    simp only [nl_n, nl_i, nl_r, x_ci, x_ca, x_bin, x_ife, x_ifl, x_ifg, x_cme, x_cml, x_cmg, x_go, x_no, x_b, x_ps, x_pn, cs_n, cs_i, cs_j, cs_r, en_n, en_i, en_j, en_r, xi1, x_k1_s, xi2, xa0, x_k2_20, r_i, r_j, r_v, r_z1, r_z0, r_a, xi3, g_20_18, s_3, s_5, s_8, s_11, s_12, s_21, s_22, s_23, s_24, s_25, s_26, s_28, s_29, s_30, s_31, s_32, g_20_19, xs4n, xs4i, xs4r, xi4, g_20_20, xn4n, xn4i, xn4r, l_3, l_5, l_8, l_11, l_12, l_21, l_22, l_23, l_24, l_25, l_26, l_28, l_29, l_30, l_31, l_32, e201_0, e201_1, e201_4, e201_7, e201_8, e201_11, e201_12, e201_14, e201_17, e201_18, e201_20, e201_23, e201_24, e201_26, e201_29, e201_30, e201_32, e201_35, e201_36, e201_37, e201_40, e201_41, e201_44, e201_47, e201_48, e201_49, e201_51, e201_54, e201_55, e201_57, e201_60, e201_61, e201_62, e201_65, e201_66, e201_67, e201_68, e201_69, e201_72, e201_73, e201_74, e201_77, e201_78, e201_81, e201_82, e201_83, e201_84, e201_88, e201_90, e201_93, e201_94, e201_97, e201_99, e201_100, e201_101, e201_103, e201_104, e201_105, e201_106, e201_109, e201_112, e201_113, e201_116, e201_117, e201_118, c201, i10, i00, n2, n10, n20, n60, n8, n9, bi0, ite_not, List.replicate, Nat.reduceAdd, Nat.reduceSub, Nat.reduceLeDiff, Nat.reduceLT, if_true, if_false, mg, reduceIte, not_false_eq_true, eq_self, and_self, and_true, true_and, true_or, or_true, Nat.reduceEqDiff, hs, hp, (nI_lt hi (by decide)), nI_add, nI_mul]
    rfl
theorem o_sheet {X : aX} {S : aS} {x y z : Int32} (hJ : J S) : opK X 91 201 [aI x, aI y, aI z] S := by
  obtain ⟨⟨n, hR, hA⟩, hK, hD⟩ := id hJ
  have hR3 := ag_RI hA hR
  have hn := hR.1
  have hz := hR.2.1
  have hz3 := hR3.2.1
  by_cases c1 : wi x (nI 0) (nI 3)
  · obtain ⟨s, _, hs3, rfl⟩ := wi_of (by decide) c1 (by decide)
    have hs : s < 4 := by omega
    by_cases c2 : y = nI 0 ∨ y = nI 8 ∨ y = nI 16 ∨ y = nI 32
    · have hy : ∃ b, (b = 0 ∨ b = 8 ∨ b = 16 ∨ b = 32) ∧ y = nI b := by
        rcases c2 with e | e | e | e
        · exact ⟨0, by omega, e⟩
        · exact ⟨8, by omega, e⟩
        · exact ⟨16, by omega, e⟩
        · exact ⟨32, by omega, e⟩
      obtain ⟨b, hb, rfl⟩ := hy
      have hb1 : b < 1000 := by omega
      have gx : ∀ {α : Type} (u v : α), (if b = 0 then u else if b = 8 then u else if b = 16 then u else if b = 32 then u else v) = u := by
        intro α u v
        rcases hb with rfl | rfl | rfl | rfl <;> simp
      by_cases c3 : z < 0
      · refine op_fin (k := 6) (w := -1000007) (by decide) hJ ?_ ?_
        · simp only [nl_n, nl_i, nl_r, x_ci, x_ca, x_bin, x_ife, x_ifl, x_ifg, x_cme, x_cml, x_cmg, x_go, x_no, x_b, x_ps, x_pn, cs_n, cs_i, cs_j, cs_r, en_n, en_i, en_j, en_r, xi1, x_k1_s, xi2, xa0, x_k2_0, r_i, r_j, r_v, r_z1, r_z0, r_a, xi3, g_0_4, l_2, l_9, l_27, x_k3_10, g_10_2, e91_0, e91_1, e91_4, e91_7, e91_8, e91_11, e91_12, e91_14, e91_17, e91_18, e91_20, e91_23, e91_24, e91_26, e91_29, e91_30, e91_31, e91_34, e91_35, e91_36, e91_39, e91_40, e91_42, e91_45, e91_46, e91_47, e91_49, e91_52, e91_53, e91_54, e91_57, e91_58, e91_59, e91_62, e91_63, e91_64, e91_65, e91_66, e91_69, e91_70, e91_73, e91_74, e91_75, e91_78, c91, i10, i00, n2, n10, n20, n60, n8, n9, bi0, ite_not, List.replicate, Nat.reduceAdd, Nat.reduceSub, Nat.reduceLeDiff, Nat.reduceLT, if_true, if_false, mg, reduceIte, not_false_eq_true, eq_self, and_self, and_true, true_and, true_or, or_true, Nat.reduceEqDiff, t_isSh5, (bi_t c1), (nq hb1 (show 8 < 1000 by decide)), (nq hb1 (show 16 < 1000 by decide)), (nq hb1 (show 32 < 1000 by decide)), (nq0 hb1), c3, tel6]
          exact gx _ _
        · simp only [nl_n, nl_i, nl_r, x_ci, x_ca, x_bin, x_ife, x_ifl, x_ifg, x_cme, x_cml, x_cmg, x_go, x_no, x_b, x_ps, x_pn, cs_n, cs_i, cs_j, cs_r, en_n, en_i, en_j, en_r, xi1, x_k1_s, xi2, xa0, x_k2_20, r_i, r_j, r_v, r_z1, r_z0, r_a, xi3, g_20_18, s_3, s_5, s_8, s_11, s_12, s_21, s_22, s_23, s_24, s_25, s_26, s_28, s_29, s_30, s_31, s_32, g_20_19, xs4n, xs4i, xs4r, xi4, g_20_20, xn4n, xn4i, xn4r, l_3, l_5, l_8, l_11, l_12, l_21, l_22, l_23, l_24, l_25, l_26, l_28, l_29, l_30, l_31, l_32, e201_0, e201_1, e201_4, e201_7, e201_8, e201_11, e201_12, e201_14, e201_17, e201_18, e201_20, e201_23, e201_24, e201_26, e201_29, e201_30, e201_32, e201_35, e201_36, e201_37, e201_40, e201_41, e201_44, e201_47, e201_48, e201_49, e201_51, e201_54, e201_55, e201_57, e201_60, e201_61, e201_62, e201_65, e201_66, e201_67, e201_68, e201_69, e201_72, e201_73, e201_74, e201_77, e201_78, e201_81, e201_82, e201_83, e201_84, e201_88, e201_90, e201_93, e201_94, e201_97, e201_99, e201_100, e201_101, e201_103, e201_104, e201_105, e201_106, e201_109, e201_112, e201_113, e201_116, e201_117, e201_118, c201, i10, i00, n2, n10, n20, n60, n8, n9, bi0, ite_not, List.replicate, Nat.reduceAdd, Nat.reduceSub, Nat.reduceLeDiff, Nat.reduceLT, if_true, if_false, mg, reduceIte, not_false_eq_true, eq_self, and_self, and_true, true_and, true_or, or_true, Nat.reduceEqDiff, t_isSh6, (bi_t c1), (nq hb1 (show 8 < 1000 by decide)), (nq hb1 (show 16 < 1000 by decide)), (nq hb1 (show 32 < 1000 by decide)), (nq0 hb1), c3, fnd6]
          exact gx _ _
      · by_cases c4 : nI 40 < z
        · refine op_fin (k := 0) (w := -1000001) (by decide) hJ ?_ ?_
          · simp only [nl_n, nl_i, nl_r, x_ci, x_ca, x_bin, x_ife, x_ifl, x_ifg, x_cme, x_cml, x_cmg, x_go, x_no, x_b, x_ps, x_pn, cs_n, cs_i, cs_j, cs_r, en_n, en_i, en_j, en_r, xi1, x_k1_s, xi2, xa0, x_k2_0, r_i, r_j, r_v, r_z1, r_z0, r_a, xi3, g_0_4, l_2, l_9, l_27, x_k3_10, g_10_2, e91_0, e91_1, e91_4, e91_7, e91_8, e91_11, e91_12, e91_14, e91_17, e91_18, e91_20, e91_23, e91_24, e91_26, e91_29, e91_30, e91_31, e91_34, e91_35, e91_36, e91_39, e91_40, e91_42, e91_45, e91_46, e91_47, e91_49, e91_52, e91_53, e91_54, e91_57, e91_58, e91_59, e91_62, e91_63, e91_64, e91_65, e91_66, e91_69, e91_70, e91_73, e91_74, e91_75, e91_78, c91, i10, i00, n2, n10, n20, n60, n8, n9, bi0, ite_not, List.replicate, Nat.reduceAdd, Nat.reduceSub, Nat.reduceLeDiff, Nat.reduceLT, if_true, if_false, mg, reduceIte, not_false_eq_true, eq_self, and_self, and_true, true_and, true_or, or_true, Nat.reduceEqDiff, t_isSh5, (bi_t c1), (nq hb1 (show 8 < 1000 by decide)), (nq hb1 (show 16 < 1000 by decide)), (nq hb1 (show 32 < 1000 by decide)), (nq0 hb1), c3, c4, tel0]
            simp only [ite_self]
          · simp only [nl_n, nl_i, nl_r, x_ci, x_ca, x_bin, x_ife, x_ifl, x_ifg, x_cme, x_cml, x_cmg, x_go, x_no, x_b, x_ps, x_pn, cs_n, cs_i, cs_j, cs_r, en_n, en_i, en_j, en_r, xi1, x_k1_s, xi2, xa0, x_k2_20, r_i, r_j, r_v, r_z1, r_z0, r_a, xi3, g_20_18, s_3, s_5, s_8, s_11, s_12, s_21, s_22, s_23, s_24, s_25, s_26, s_28, s_29, s_30, s_31, s_32, g_20_19, xs4n, xs4i, xs4r, xi4, g_20_20, xn4n, xn4i, xn4r, l_3, l_5, l_8, l_11, l_12, l_21, l_22, l_23, l_24, l_25, l_26, l_28, l_29, l_30, l_31, l_32, e201_0, e201_1, e201_4, e201_7, e201_8, e201_11, e201_12, e201_14, e201_17, e201_18, e201_20, e201_23, e201_24, e201_26, e201_29, e201_30, e201_32, e201_35, e201_36, e201_37, e201_40, e201_41, e201_44, e201_47, e201_48, e201_49, e201_51, e201_54, e201_55, e201_57, e201_60, e201_61, e201_62, e201_65, e201_66, e201_67, e201_68, e201_69, e201_72, e201_73, e201_74, e201_77, e201_78, e201_81, e201_82, e201_83, e201_84, e201_88, e201_90, e201_93, e201_94, e201_97, e201_99, e201_100, e201_101, e201_103, e201_104, e201_105, e201_106, e201_109, e201_112, e201_113, e201_116, e201_117, e201_118, c201, i10, i00, n2, n10, n20, n60, n8, n9, bi0, ite_not, List.replicate, Nat.reduceAdd, Nat.reduceSub, Nat.reduceLeDiff, Nat.reduceLT, if_true, if_false, mg, reduceIte, not_false_eq_true, eq_self, and_self, and_true, true_and, true_or, or_true, Nat.reduceEqDiff, t_isSh6, (bi_t c1), (nq hb1 (show 8 < 1000 by decide)), (nq hb1 (show 16 < 1000 by decide)), (nq hb1 (show 32 < 1000 by decide)), (nq0 hb1), c3, c4, fnd0]
            simp only [ite_self]
        · obtain ⟨m, _, hm, rfl⟩ := wi_of (x := z) (l := 0) (h := 40) (by decide) ⟨by rw [nI_0]; exact c3, c4⟩ (by decide)
          have em : (if nI b = 0 then nI 0 else nI m) = nI (if b = 0 then 0 else m) := by
            simp only [nq0 hb1]
            split <;> rfl
          have em2 : (if b = 0 then nI 0 else nI m) = nI (if b = 0 then 0 else m) := by split <;> rfl
          obtain ⟨m', hm'⟩ : ∃ m', (if b = 0 then 0 else m) = m' := ⟨_, rfl⟩
          rw [hm'] at em em2
          have hm40 : m' ≤ 40 := by rw [← hm']; split <;> omega
          have tl := t_layS (X := X) (S := S) (y := nI b) (z := nI m) hs
          rw [em] at tl
          have er : lp (zlD (11, s, 0) 0) 40 0 (uD (uD S.2 (10, s, 0) 1 (nI b)) (10, s, 0) 2 (nI m')) (10, s, 0) 2 = nI m' := by
            rw [zl_at, if_neg (fun w => by cases w.1), uD_at]
          generalize hD1 : lp (zlD (11, s, 0) 0) 40 0 (uD (uD S.2 (10, s, 0) 1 (nI b)) (10, s, 0) 2 (nI m')) = D1 at tl er
          refine ⟨aI (nI m'), (S.1, D1), (S.1, lp (zlD (31, 0, 0) (40 * s)) 40 0 (uD (uD D1 (29, 0, 0) s (nI b)) (30, 0, 0) s (nI m'))), ?_, ?_, ?_⟩
          · simp only [nl_n, nl_i, nl_r, x_ci, x_ca, x_bin, x_ife, x_ifl, x_ifg, x_cme, x_cml, x_cmg, x_go, x_no, x_b, x_ps, x_pn, cs_n, cs_i, cs_j, cs_r, en_n, en_i, en_j, en_r, xi1, x_k1_s, xi2, xa0, x_k2_0, r_i, r_j, r_v, r_z1, r_z0, r_a, xi3, g_0_4, l_2, l_9, l_27, x_k3_10, g_10_2, e91_0, e91_1, e91_4, e91_7, e91_8, e91_11, e91_12, e91_14, e91_17, e91_18, e91_20, e91_23, e91_24, e91_26, e91_29, e91_30, e91_31, e91_34, e91_35, e91_36, e91_39, e91_40, e91_42, e91_45, e91_46, e91_47, e91_49, e91_52, e91_53, e91_54, e91_57, e91_58, e91_59, e91_62, e91_63, e91_64, e91_65, e91_66, e91_69, e91_70, e91_73, e91_74, e91_75, e91_78, c91, i10, i00, n2, n10, n20, n60, n8, n9, bi0, ite_not, List.replicate, Nat.reduceAdd, Nat.reduceSub, Nat.reduceLeDiff, Nat.reduceLT, if_true, if_false, mg, reduceIte, not_false_eq_true, eq_self, and_self, and_true, true_and, true_or, or_true, Nat.reduceEqDiff, t_isSh5, (bi_t c1), (nq hb1 (show 8 < 1000 by decide)), (nq hb1 (show 16 < 1000 by decide)), (nq hb1 (show 32 < 1000 by decide)), (nq0 hb1), c3, c4, hs, tl, er]
            exact gx _ _
          · have l6 := l_sheet6 (X := X) (q := S.1) (y := nI b) (z := nI m) (m := nI m') hs 40 0 (uD (uD D1 (29, 0, 0) s (nI b)) (30, 0, 0) s (nI m')) (by omega) (uD_at ..)
            rw [← l6]
            simp only [nl_n, nl_i, nl_r, x_ci, x_ca, x_bin, x_ife, x_ifl, x_ifg, x_cme, x_cml, x_cmg, x_go, x_no, x_b, x_ps, x_pn, cs_n, cs_i, cs_j, cs_r, en_n, en_i, en_j, en_r, xi1, x_k1_s, xi2, xa0, x_k2_20, r_i, r_j, r_v, r_z1, r_z0, r_a, xi3, g_20_18, s_3, s_5, s_8, s_11, s_12, s_21, s_22, s_23, s_24, s_25, s_26, s_28, s_29, s_30, s_31, s_32, g_20_19, xs4n, xs4i, xs4r, xi4, g_20_20, xn4n, xn4i, xn4r, l_3, l_5, l_8, l_11, l_12, l_21, l_22, l_23, l_24, l_25, l_26, l_28, l_29, l_30, l_31, l_32, e201_0, e201_1, e201_4, e201_7, e201_8, e201_11, e201_12, e201_14, e201_17, e201_18, e201_20, e201_23, e201_24, e201_26, e201_29, e201_30, e201_32, e201_35, e201_36, e201_37, e201_40, e201_41, e201_44, e201_47, e201_48, e201_49, e201_51, e201_54, e201_55, e201_57, e201_60, e201_61, e201_62, e201_65, e201_66, e201_67, e201_68, e201_69, e201_72, e201_73, e201_74, e201_77, e201_78, e201_81, e201_82, e201_83, e201_84, e201_88, e201_90, e201_93, e201_94, e201_97, e201_99, e201_100, e201_101, e201_103, e201_104, e201_105, e201_106, e201_109, e201_112, e201_113, e201_116, e201_117, e201_118, c201, i10, i00, n2, n10, n20, n60, n8, n9, bi0, ite_not, List.replicate, Nat.reduceAdd, Nat.reduceSub, Nat.reduceLeDiff, Nat.reduceLT, if_true, if_false, mg, reduceIte, not_false_eq_true, eq_self, and_self, and_true, true_and, true_or, or_true, Nat.reduceEqDiff, t_isSh6, (bi_t c1), (nq hb1 (show 8 < 1000 by decide)), (nq hb1 (show 16 < 1000 by decide)), (nq hb1 (show 32 < 1000 by decide)), (nq0 hb1), c3, c4, hs]
            rw [gx, ← em2]
            split <;> rfl
          · refine ⟨⟨n, hR, hA⟩, fun w => hK (Eq.trans ?_ w), JD_sh (s := s) hD ?_ ?_⟩
            · show S.2 (0, 0, 0) 6 = lp (zlD (31, 0, 0) (40 * s)) 40 0 (uD (uD D1 (29, 0, 0) s (nI b)) (30, 0, 0) s (nI m')) (0, 0, 0) 6
              rw [zl_at, if_neg (fun w => by cases w.1), uD_c (by decide), uD_c (by decide), ← hD1, zl_at, if_neg (fun w => by cases w.1), uD_c (Nat.ne_of_beq_eq_false rfl), uD_c (Nat.ne_of_beq_eq_false rfl)]
            · intro r k h10 h11 h29 h30 h31
              dsimp only
              rw [zl_at, if_neg (fun w => h31 ⟨by rw [w.1], by have := w.2.1; omega, by have := w.2.2; omega⟩), uD_x (fun w => h30 ⟨by rw [w.1], w.2⟩), uD_x (fun w => h29 ⟨by rw [w.1], w.2⟩), ← hD1, zl_at, if_neg (fun w => h11 ⟨by rw [w.1], by rw [w.1]⟩), uD_x (fun w => h10 ⟨by rw [w.1], by rw [w.1]⟩), uD_x (fun w => h10 ⟨by rw [w.1], by rw [w.1]⟩)]
            · show HJ1 (lp (zlD (31, 0, 0) (40 * s)) 40 0 (uD (uD D1 (29, 0, 0) s (nI b)) (30, 0, 0) s (nI m'))) s
              have z0 : ∀ j D, lp (zlD (31, 0, 0) (40 * s)) 40 0 D (10, s, 0) j = D (10, s, 0) j := fun j D => by rw [zl_at, if_neg (fun w => by cases w.1)]
              have z1 : ∀ j, uD (uD D1 (29, 0, 0) s (nI b)) (30, 0, 0) s (nI m') (10, s, 0) j = D1 (10, s, 0) j := fun j => by rw [uD_c (Nat.ne_of_beq_eq_false rfl), uD_c (Nat.ne_of_beq_eq_false rfl)]
              refine ⟨b, m', hb, hm40, fun e => by rw [← hm', if_pos e], ?_, ?_, ?_, ?_, fun j hj => ?_⟩
              · rw [z0, z1, ← hD1, zl_at, if_neg (fun w => by cases w.1), uD_o (Or.inr (by decide)), uD_at]
              · rw [zl_at, if_neg (fun w => by cases w.1), uD_c (by decide), uD_at]
              · rw [z0, z1]; exact er
              · rw [zl_at, if_neg (fun w => by cases w.1), uD_at]
              · rw [zl_at, if_neg (fun w => by cases w.1), uD_c (Nat.ne_of_beq_eq_false rfl), uD_c (Nat.ne_of_beq_eq_false rfl), ← hD1, zl_at, if_pos ⟨rfl, by omega, by omega⟩, zl_at, if_pos ⟨rfl, by omega, by omega⟩]
    · have y0 : ¬ y = 0 := fun e => c2 (Or.inl (by rw [nI_0]; exact e))
      have y1 : ¬ y = nI 8 := fun e => c2 (Or.inr (Or.inl e))
      have y2 : ¬ y = nI 16 := fun e => c2 (Or.inr (Or.inr (Or.inl e)))
      have y3 : ¬ y = nI 32 := fun e => c2 (Or.inr (Or.inr (Or.inr e)))
      refine op_fin (k := 0) (w := -1000001) (by decide) hJ ?_ ?_
      · simp only [nl_n, nl_i, nl_r, x_ci, x_ca, x_bin, x_ife, x_ifl, x_ifg, x_cme, x_cml, x_cmg, x_go, x_no, x_b, x_ps, x_pn, cs_n, cs_i, cs_j, cs_r, en_n, en_i, en_j, en_r, xi1, x_k1_s, xi2, xa0, x_k2_0, r_i, r_j, r_v, r_z1, r_z0, r_a, xi3, g_0_4, l_2, l_9, l_27, x_k3_10, g_10_2, e91_0, e91_1, e91_4, e91_7, e91_8, e91_11, e91_12, e91_14, e91_17, e91_18, e91_20, e91_23, e91_24, e91_26, e91_29, e91_30, e91_31, e91_34, e91_35, e91_36, e91_39, e91_40, e91_42, e91_45, e91_46, e91_47, e91_49, e91_52, e91_53, e91_54, e91_57, e91_58, e91_59, e91_62, e91_63, e91_64, e91_65, e91_66, e91_69, e91_70, e91_73, e91_74, e91_75, e91_78, c91, i10, i00, n2, n10, n20, n60, n8, n9, bi0, ite_not, List.replicate, Nat.reduceAdd, Nat.reduceSub, Nat.reduceLeDiff, Nat.reduceLT, if_true, if_false, mg, reduceIte, not_false_eq_true, eq_self, and_self, and_true, true_and, true_or, or_true, Nat.reduceEqDiff, t_isSh5, (bi_t c1), y0, y1, y2, y3, tel0]
      · simp only [nl_n, nl_i, nl_r, x_ci, x_ca, x_bin, x_ife, x_ifl, x_ifg, x_cme, x_cml, x_cmg, x_go, x_no, x_b, x_ps, x_pn, cs_n, cs_i, cs_j, cs_r, en_n, en_i, en_j, en_r, xi1, x_k1_s, xi2, xa0, x_k2_20, r_i, r_j, r_v, r_z1, r_z0, r_a, xi3, g_20_18, s_3, s_5, s_8, s_11, s_12, s_21, s_22, s_23, s_24, s_25, s_26, s_28, s_29, s_30, s_31, s_32, g_20_19, xs4n, xs4i, xs4r, xi4, g_20_20, xn4n, xn4i, xn4r, l_3, l_5, l_8, l_11, l_12, l_21, l_22, l_23, l_24, l_25, l_26, l_28, l_29, l_30, l_31, l_32, e201_0, e201_1, e201_4, e201_7, e201_8, e201_11, e201_12, e201_14, e201_17, e201_18, e201_20, e201_23, e201_24, e201_26, e201_29, e201_30, e201_32, e201_35, e201_36, e201_37, e201_40, e201_41, e201_44, e201_47, e201_48, e201_49, e201_51, e201_54, e201_55, e201_57, e201_60, e201_61, e201_62, e201_65, e201_66, e201_67, e201_68, e201_69, e201_72, e201_73, e201_74, e201_77, e201_78, e201_81, e201_82, e201_83, e201_84, e201_88, e201_90, e201_93, e201_94, e201_97, e201_99, e201_100, e201_101, e201_103, e201_104, e201_105, e201_106, e201_109, e201_112, e201_113, e201_116, e201_117, e201_118, c201, i10, i00, n2, n10, n20, n60, n8, n9, bi0, ite_not, List.replicate, Nat.reduceAdd, Nat.reduceSub, Nat.reduceLeDiff, Nat.reduceLT, if_true, if_false, mg, reduceIte, not_false_eq_true, eq_self, and_self, and_true, true_and, true_or, or_true, Nat.reduceEqDiff, t_isSh6, (bi_t c1), y0, y1, y2, y3, fnd0]
  · refine op_fin (k := 0) (w := -1000001) (by decide) hJ ?_ ?_
    · simp only [nl_n, nl_i, nl_r, x_ci, x_ca, x_bin, x_ife, x_ifl, x_ifg, x_cme, x_cml, x_cmg, x_go, x_no, x_b, x_ps, x_pn, cs_n, cs_i, cs_j, cs_r, en_n, en_i, en_j, en_r, xi1, x_k1_s, xi2, xa0, x_k2_0, r_i, r_j, r_v, r_z1, r_z0, r_a, xi3, g_0_4, l_2, l_9, l_27, x_k3_10, g_10_2, e91_0, e91_1, e91_4, e91_7, e91_8, e91_11, e91_12, e91_14, e91_17, e91_18, e91_20, e91_23, e91_24, e91_26, e91_29, e91_30, e91_31, e91_34, e91_35, e91_36, e91_39, e91_40, e91_42, e91_45, e91_46, e91_47, e91_49, e91_52, e91_53, e91_54, e91_57, e91_58, e91_59, e91_62, e91_63, e91_64, e91_65, e91_66, e91_69, e91_70, e91_73, e91_74, e91_75, e91_78, c91, i10, i00, n2, n10, n20, n60, n8, n9, bi0, ite_not, List.replicate, Nat.reduceAdd, Nat.reduceSub, Nat.reduceLeDiff, Nat.reduceLT, if_true, if_false, mg, reduceIte, not_false_eq_true, eq_self, and_self, and_true, true_and, true_or, or_true, Nat.reduceEqDiff, t_isSh5, (bi_f c1), tel0]
    · simp only [nl_n, nl_i, nl_r, x_ci, x_ca, x_bin, x_ife, x_ifl, x_ifg, x_cme, x_cml, x_cmg, x_go, x_no, x_b, x_ps, x_pn, cs_n, cs_i, cs_j, cs_r, en_n, en_i, en_j, en_r, xi1, x_k1_s, xi2, xa0, x_k2_20, r_i, r_j, r_v, r_z1, r_z0, r_a, xi3, g_20_18, s_3, s_5, s_8, s_11, s_12, s_21, s_22, s_23, s_24, s_25, s_26, s_28, s_29, s_30, s_31, s_32, g_20_19, xs4n, xs4i, xs4r, xi4, g_20_20, xn4n, xn4i, xn4r, l_3, l_5, l_8, l_11, l_12, l_21, l_22, l_23, l_24, l_25, l_26, l_28, l_29, l_30, l_31, l_32, e201_0, e201_1, e201_4, e201_7, e201_8, e201_11, e201_12, e201_14, e201_17, e201_18, e201_20, e201_23, e201_24, e201_26, e201_29, e201_30, e201_32, e201_35, e201_36, e201_37, e201_40, e201_41, e201_44, e201_47, e201_48, e201_49, e201_51, e201_54, e201_55, e201_57, e201_60, e201_61, e201_62, e201_65, e201_66, e201_67, e201_68, e201_69, e201_72, e201_73, e201_74, e201_77, e201_78, e201_81, e201_82, e201_83, e201_84, e201_88, e201_90, e201_93, e201_94, e201_97, e201_99, e201_100, e201_101, e201_103, e201_104, e201_105, e201_106, e201_109, e201_112, e201_113, e201_116, e201_117, e201_118, c201, i10, i00, n2, n10, n20, n60, n8, n9, bi0, ite_not, List.replicate, Nat.reduceAdd, Nat.reduceSub, Nat.reduceLeDiff, Nat.reduceLT, if_true, if_false, mg, reduceIte, not_false_eq_true, eq_self, and_self, and_true, true_and, true_or, or_true, Nat.reduceEqDiff, t_isSh6, (bi_f c1), fnd0]
