/-! whom to answer -/
def dsA (F : Nat → Int32) (i : Nat) : Nat → Int32 → Int32 → Int32
  | 0, b, _ => b
  | k + 1, b, m => if k = i then dsA F i k b m else if F k < m then dsA F i k b m else dsA F i k (nI k) (F k)
theorem dsA_s (F : Nat → Int32) (i k : Nat) (b m : Int32) : dsA F i (k + 1) b m = if k = i then dsA F i k b m else if F k < m then dsA F i k b m else dsA F i k (nI k) (F k) := rfl
theorem l_ansx {X : aX} {n i c : Nat} {r0 : Nat → Int32} (hn : n ≤ 8) (hi : i < n) (hc : c < 2 ^ 31) (hr0 : r0 1 = nI n) : ∀ k b m y S, k ≤ n → S.1 0 = r0 → nl y = true → ∃ S', kx S S' ∧ go X 75 59 [some (aR (0, 0, 0)), some (aI (nI i)), some (aI (nI c)), some (aI b), some (aI m), some (aI (nI k - nI 1)), y] [] (mem S) = some (some (aI (dsA (fun v => sold1 n c (14 + 10 * i + 2) r0 (nI v)) i k b m)), mem S') := by
  intro k
  induction k with
  | zero =>
    intro b m y S h hS hy
    have e : nI 0 - nI 1 < 0 := by decide +kernel
    refine ⟨S, kx_rfl S, ?_⟩
    rw [e75_59]
    simp only [nl_n, nl_i, nl_r, x_ci, x_ca, x_bin, x_ife, x_ifl, x_ifg, x_cme, x_cml, x_cmg, x_go, x_no, x_b, x_ps, x_pn, cs_n, cs_i, cs_j, cs_r, en_n, en_i, en_j, en_r, xa0, g_0_0, xi1, x_k2_1, xi2, x_k3_s, x_k2_0, r_i, r_j, r_v, r_z1, r_z0, r_a, x_k5_0, xs3n, xs3i, xs3r, g_0_1, xs4n, xs4i, xs4r, g_1_2, xs5n, xs5i, xs5r, xi5, xs6n, xs6i, xs6r, xi6, xi4, xn5n, xn5i, xn5r, xi3, e75_0, e75_1, e75_4, e75_5, e75_8, e75_11, e75_12, e75_13, e75_15, e75_18, e75_21, e75_22, e75_23, e75_26, e75_27, e75_28, e75_29, e75_30, e75_31, e75_32, e75_35, e75_36, e75_37, e75_38, e75_41, e75_43, e75_46, e75_48, e75_49, e75_52, e75_55, e75_56, e75_57, e75_61, e75_64, e75_66, e75_67, e75_70, e75_71, e75_72, e75_73, e75_75, e75_76, e75_79, e75_80, e75_83, e75_85, e75_88, e75_90, e75_92, e75_94, e75_97, e75_99, e75_101, e75_103, e75_104, e75_107, e75_110, e75_111, c75, i10, i00, n2, n10, n20, n60, n8, n9, bi0, ite_not, List.replicate, Nat.reduceAdd, Nat.reduceSub, Nat.reduceLeDiff, Nat.reduceLT, if_true, if_false, mg, reduceIte, not_false_eq_true, eq_self, and_self, and_true, true_and, true_or, or_true, Nat.reduceEqDiff, e]
    rfl
  | succ k ih =>
    intro b m y S h hS hy
    have e : nI (k + 1) - nI 1 = nI k := nI_pred k
    have e1 : nI k + -1 = nI k - nI 1 := by rw [Int32.sub_eq_add_neg, show -(nI 1) = (-1 : Int32) by decide +kernel]
    have ei : (nI k = nI i) = (k = i) := nq (by omega) (by omega)
    rw [dsA_s, e75_59, e]
    by_cases ci : k = i
    · obtain ⟨S2, k2, h3⟩ := ih b m y S (by omega) hS hy
      refine ⟨S2, k2, ?_⟩
      rw [if_pos ci, ← h3]
      subst ci
      simp only [nl_n, nl_i, nl_r, x_ci, x_ca, x_bin, x_ife, x_ifl, x_ifg, x_cme, x_cml, x_cmg, x_go, x_no, x_b, x_ps, x_pn, cs_n, cs_i, cs_j, cs_r, en_n, en_i, en_j, en_r, xa0, g_0_0, xi1, x_k2_1, xi2, x_k3_s, x_k2_0, r_i, r_j, r_v, r_z1, r_z0, r_a, x_k5_0, xs3n, xs3i, xs3r, g_0_1, xs4n, xs4i, xs4r, g_1_2, xs5n, xs5i, xs5r, xi5, xs6n, xs6i, xs6r, xi6, xi4, xn5n, xn5i, xn5r, xi3, e75_0, e75_1, e75_4, e75_5, e75_8, e75_11, e75_12, e75_13, e75_15, e75_18, e75_21, e75_22, e75_23, e75_26, e75_27, e75_28, e75_29, e75_30, e75_31, e75_32, e75_35, e75_36, e75_37, e75_38, e75_41, e75_43, e75_46, e75_48, e75_49, e75_52, e75_55, e75_56, e75_57, e75_61, e75_64, e75_66, e75_67, e75_70, e75_71, e75_72, e75_73, e75_75, e75_76, e75_79, e75_80, e75_83, e75_85, e75_88, e75_90, e75_92, e75_94, e75_97, e75_99, e75_101, e75_103, e75_104, e75_107, e75_110, e75_111, c75, i10, i00, n2, n10, n20, n60, n8, n9, bi0, ite_not, List.replicate, Nat.reduceAdd, Nat.reduceSub, Nat.reduceLeDiff, Nat.reduceLT, if_true, if_false, mg, reduceIte, not_false_eq_true, eq_self, and_self, and_true, true_and, true_or, or_true, Nat.reduceEqDiff, (nI_pos (show k < 2 ^ 31 by omega)), e1]
    · obtain ⟨S1, k1, a1, z1, h1⟩ := t_tryOut (X := X) (S := S) (j := 2) (v := nI k) hn hi (by decide) hc (by rw [hS]; exact hr0)
      rw [hS] at a1
      have h2 := t_total (X := X) (S := S1) (a := 1) (j := 9) (by decide) hn (by decide) z1
      have e2 : sumF (fun t => S1.1 1 (14 + 10 * t + 9)) n = sold1 n c (14 + 10 * i + 2) r0 (nI k) := ag_sum a1 (by decide)
      rw [e2] at h2
      have hS1 : S1.1 0 = r0 := (k1.2 0 (by decide)).trans hS
      rw [if_neg ci]
      by_cases c1 : sold1 n c (14 + 10 * i + 2) r0 (nI k) < m
      · obtain ⟨S2, k2, h3⟩ := ih b m (some (aI (sold1 n c (14 + 10 * i + 2) r0 (nI k)))) S1 (by omega) hS1 rfl
        refine ⟨S2, kx_tr k1 k2, ?_⟩
        rw [if_pos c1, ← h3]
        simp only [nl_n, nl_i, nl_r, x_ci, x_ca, x_bin, x_ife, x_ifl, x_ifg, x_cme, x_cml, x_cmg, x_go, x_no, x_b, x_ps, x_pn, cs_n, cs_i, cs_j, cs_r, en_n, en_i, en_j, en_r, xa0, g_0_0, xi1, x_k2_1, xi2, x_k3_s, x_k2_0, r_i, r_j, r_v, r_z1, r_z0, r_a, x_k5_0, xs3n, xs3i, xs3r, g_0_1, xs4n, xs4i, xs4r, g_1_2, xs5n, xs5i, xs5r, xi5, xs6n, xs6i, xs6r, xi6, xi4, xn5n, xn5i, xn5r, xi3, e75_0, e75_1, e75_4, e75_5, e75_8, e75_11, e75_12, e75_13, e75_15, e75_18, e75_21, e75_22, e75_23, e75_26, e75_27, e75_28, e75_29, e75_30, e75_31, e75_32, e75_35, e75_36, e75_37, e75_38, e75_41, e75_43, e75_46, e75_48, e75_49, e75_52, e75_55, e75_56, e75_57, e75_61, e75_64, e75_66, e75_67, e75_70, e75_71, e75_72, e75_73, e75_75, e75_76, e75_79, e75_80, e75_83, e75_85, e75_88, e75_90, e75_92, e75_94, e75_97, e75_99, e75_101, e75_103, e75_104, e75_107, e75_110, e75_111, c75, i10, i00, n2, n10, n20, n60, n8, n9, bi0, ite_not, List.replicate, Nat.reduceAdd, Nat.reduceSub, Nat.reduceLeDiff, Nat.reduceLT, if_true, if_false, mg, reduceIte, not_false_eq_true, eq_self, and_self, and_true, true_and, true_or, or_true, Nat.reduceEqDiff, (nI_pos (show k < 2 ^ 31 by omega)), ei, ci, h1, h2, c1, e1]
      · obtain ⟨S2, k2, h3⟩ := ih (nI k) (sold1 n c (14 + 10 * i + 2) r0 (nI k)) (some (aI (sold1 n c (14 + 10 * i + 2) r0 (nI k)))) S1 (by omega) hS1 rfl
        refine ⟨S2, kx_tr k1 k2, ?_⟩
        rw [if_neg c1, ← h3]
        simp only [nl_n, nl_i, nl_r, x_ci, x_ca, x_bin, x_ife, x_ifl, x_ifg, x_cme, x_cml, x_cmg, x_go, x_no, x_b, x_ps, x_pn, cs_n, cs_i, cs_j, cs_r, en_n, en_i, en_j, en_r, xa0, g_0_0, xi1, x_k2_1, xi2, x_k3_s, x_k2_0, r_i, r_j, r_v, r_z1, r_z0, r_a, x_k5_0, xs3n, xs3i, xs3r, g_0_1, xs4n, xs4i, xs4r, g_1_2, xs5n, xs5i, xs5r, xi5, xs6n, xs6i, xs6r, xi6, xi4, xn5n, xn5i, xn5r, xi3, e75_0, e75_1, e75_4, e75_5, e75_8, e75_11, e75_12, e75_13, e75_15, e75_18, e75_21, e75_22, e75_23, e75_26, e75_27, e75_28, e75_29, e75_30, e75_31, e75_32, e75_35, e75_36, e75_37, e75_38, e75_41, e75_43, e75_46, e75_48, e75_49, e75_52, e75_55, e75_56, e75_57, e75_61, e75_64, e75_66, e75_67, e75_70, e75_71, e75_72, e75_73, e75_75, e75_76, e75_79, e75_80, e75_83, e75_85, e75_88, e75_90, e75_92, e75_94, e75_97, e75_99, e75_101, e75_103, e75_104, e75_107, e75_110, e75_111, c75, i10, i00, n2, n10, n20, n60, n8, n9, bi0, ite_not, List.replicate, Nat.reduceAdd, Nat.reduceSub, Nat.reduceLeDiff, Nat.reduceLT, if_true, if_false, mg, reduceIte, not_false_eq_true, eq_self, and_self, and_true, true_and, true_or, or_true, Nat.reduceEqDiff, (nI_pos (show k < 2 ^ 31 by omega)), ei, ci, h1, h2, c1, e1]
def vA (n v : Nat) : Int32 := if v = n then -1 else nI v
def asA (F : Int32 → Int32) (n i : Nat) : Nat → Nat → Int32 → Int32 → Int32
  | 0, _, b, _ => b
  | k + 1, v, b, m => if v = i then asA F n i k (v + 1) b m else if m < F (vA n v) then asA F n i k (v + 1) (vA n v) (F (vA n v)) else asA F n i k (v + 1) b m
theorem asA_s (F : Int32 → Int32) (n i k v : Nat) (b m : Int32) : asA F n i (k + 1) v b m = if v = i then asA F n i k (v + 1) b m else if m < F (vA n v) then asA F n i k (v + 1) (vA n v) (F (vA n v)) else asA F n i k (v + 1) b m := rfl
theorem l_ansm {X : aX} {n i c : Nat} {r0 : Nat → Int32} {w : Int32} (hi : i < n) (hc : c < 2 ^ 31) (hw : r0 (14 + 10 * i + 2) = w) (hr0 : RI n r0) : ∀ k v b m y S, v + k = n + 1 → (∀ p, p < 94 → p ≠ 14 + 10 * i + 2 → S.1 3 p = r0 p) → nl y = true → ∃ S', kp S S' ∧ a94 (S'.1 3) r0 ∧ go X 166 45 [some (aR (20, 0, 0)), some (aI (nI i)), some (aI (nI c)), some (aI (nI (14 + 10 * i + 2))), some (aI w), some (aI b), some (aI m), some (aI (nI v)), y] [] (mem S) = some (some (aI (asA (sold1 n c (14 + 10 * i + 2) r0) n i k v b m)), mem S') := by
  have hn := hr0.1
  have hp : 14 + 10 * i + 2 < 94 := by omega
  intro k
  induction k with
  | zero =>
    intro v b m y S h hI hy
    have hz : S.1 3 1 = nI n := (hI 1 (by decide) (by omega)).trans hr0.2.1
    refine ⟨(rq S.1 3 (upd (S.1 3) (14 + 10 * i + 2) w), S.2), ⟨eqJ_rfl _, fun a h3 h5 => rq_ne h3⟩, ?_, ?_⟩
    · intro p hp
      show upd (S.1 3) (14 + 10 * i + 2) w p = _
      by_cases c : p = 14 + 10 * i + 2
      · rw [c, pk_us, hw]
      · rw [pk_un c]; exact hI p hp c
    · rw [e166_45]
      simp only [nl_n, nl_i, nl_r, x_ci, x_ca, x_bin, x_ife, x_ifl, x_ifg, x_cme, x_cml, x_cmg, x_go, x_no, x_b, x_ps, x_pn, cs_n, cs_i, cs_j, cs_r, en_n, en_i, en_j, en_r, xa0, xi1, x_k2_20, xi2, x_k1_s, r_i, r_j, r_v, r_z1, r_z0, r_a, x_k2_s, xs3n, xs3i, xs3r, g_20_0, xi3, l_3, l_5, l_8, l_11, l_12, l_21, l_22, l_23, l_24, l_25, l_26, l_28, l_29, l_30, l_31, l_32, xs4n, xs4i, xs4r, xs5n, xs5i, xs5r, xs6n, xs6i, xs6r, xs7n, xs7i, xs7r, xi7, s_3, s_5, s_8, s_11, s_12, s_21, s_22, s_23, s_24, s_25, s_26, s_28, s_29, s_30, s_31, s_32, xs8n, xs8i, xs8r, xi8, xi6, xn7n, xn7i, xn7r, xi4, xi5, e166_0, e166_1, e166_2, e166_5, e166_8, e166_9, e166_12, e166_15, e166_16, e166_18, e166_21, e166_22, e166_23, e166_24, e166_27, e166_28, e166_29, e166_32, e166_33, e166_34, e166_36, e166_37, e166_39, e166_40, e166_42, e166_43, e166_47, e166_48, e166_51, e166_52, e166_53, e166_56, e166_58, e166_59, e166_62, e166_63, e166_66, e166_67, e166_69, e166_70, e166_73, e166_74, e166_75, e166_78, e166_79, e166_82, e166_84, e166_85, e166_86, e166_87, e166_90, e166_92, e166_94, e166_96, e166_99, e166_100, e166_103, e166_104, e166_105, e166_107, e166_109, e166_111, e166_114, e166_117, e166_118, e166_121, e166_122, e166_124, e166_125, e166_127, c166, i10, i00, n2, n10, n20, n60, n8, n9, bi0, ite_not, List.replicate, Nat.reduceAdd, Nat.reduceSub, Nat.reduceLeDiff, Nat.reduceLT, if_true, if_false, mg, reduceIte, not_false_eq_true, eq_self, and_self, and_true, true_and, true_or, or_true, Nat.reduceEqDiff, hz, (nI_lt (show n < v by omega) (by omega)), hp, uq_rq]
      rfl
  | succ k ih =>
    intro v b m y S h hI hy
    have hz : S.1 3 1 = nI n := (hI 1 (by decide) (by omega)).trans hr0.2.1
    have ei : (nI v = nI i) = (v = i) := nq (by omega) (by omega)
    have en : (nI v = nI n) = (v = n) := nq (by omega) (by omega)
    rw [asA_s, e166_45]
    by_cases ci : v = i
    · obtain ⟨S2, k2, a2, h3⟩ := ih (v + 1) b m y S (by omega) hI hy
      refine ⟨S2, k2, a2, ?_⟩
      rw [if_pos ci, ← h3]
      subst ci
      simp only [nl_n, nl_i, nl_r, x_ci, x_ca, x_bin, x_ife, x_ifl, x_ifg, x_cme, x_cml, x_cmg, x_go, x_no, x_b, x_ps, x_pn, cs_n, cs_i, cs_j, cs_r, en_n, en_i, en_j, en_r, xa0, xi1, x_k2_20, xi2, x_k1_s, r_i, r_j, r_v, r_z1, r_z0, r_a, x_k2_s, xs3n, xs3i, xs3r, g_20_0, xi3, l_3, l_5, l_8, l_11, l_12, l_21, l_22, l_23, l_24, l_25, l_26, l_28, l_29, l_30, l_31, l_32, xs4n, xs4i, xs4r, xs5n, xs5i, xs5r, xs6n, xs6i, xs6r, xs7n, xs7i, xs7r, xi7, s_3, s_5, s_8, s_11, s_12, s_21, s_22, s_23, s_24, s_25, s_26, s_28, s_29, s_30, s_31, s_32, xs8n, xs8i, xs8r, xi8, xi6, xn7n, xn7i, xn7r, xi4, xi5, e166_0, e166_1, e166_2, e166_5, e166_8, e166_9, e166_12, e166_15, e166_16, e166_18, e166_21, e166_22, e166_23, e166_24, e166_27, e166_28, e166_29, e166_32, e166_33, e166_34, e166_36, e166_37, e166_39, e166_40, e166_42, e166_43, e166_47, e166_48, e166_51, e166_52, e166_53, e166_56, e166_58, e166_59, e166_62, e166_63, e166_66, e166_67, e166_69, e166_70, e166_73, e166_74, e166_75, e166_78, e166_79, e166_82, e166_84, e166_85, e166_86, e166_87, e166_90, e166_92, e166_94, e166_96, e166_99, e166_100, e166_103, e166_104, e166_105, e166_107, e166_109, e166_111, e166_114, e166_117, e166_118, e166_121, e166_122, e166_124, e166_125, e166_127, c166, i10, i00, n2, n10, n20, n60, n8, n9, bi0, ite_not, List.replicate, Nat.reduceAdd, Nat.reduceSub, Nat.reduceLeDiff, Nat.reduceLT, if_true, if_false, mg, reduceIte, not_false_eq_true, eq_self, and_self, and_true, true_and, true_or, or_true, Nat.reduceEqDiff, hz, (nI_nlt (show v ≤ n by omega) (by omega)), nI_add]
    · have hfv : fok n 2 (vA n v) := by
        unfold vA
        by_cases e : v = n
        · rw [if_pos e]; exact Or.inl rfl
        · rw [if_neg e]; exact Or.inr ⟨v, by omega, rfl⟩
      have hRv : RI n (upd (S.1 3) (14 + 10 * i + 2) (vA n v)) := ag_RI (ag_sym (a94_ag hn (a94_u hI))) (RI_u hr0 (by decide) hfv)
      obtain ⟨S1, k1, a1, h1⟩ := t_soldB (X := X) (S := (rq S.1 3 (upd (S.1 3) (14 + 10 * i + 2) (vA n v)), S.2)) (n := n) hRv hc
      have k0 : kp S (rq S.1 3 (upd (S.1 3) (14 + 10 * i + 2) (vA n v)), S.2) := ⟨eqJ_rfl _, fun a h3 h5 => rq_ne h3⟩
      have hI1 : ∀ p, p < 94 → p ≠ 14 + 10 * i + 2 → S1.1 3 p = r0 p := fun p hp hne => (a1 p hp).trans ((show upd (S.1 3) (14 + 10 * i + 2) (vA n v) p = S.1 3 p from pk_un hne).trans (hI p hp hne))
      have hat : S1.1 3 (14 + 10 * i + 2) = vA n v := (a1 _ hp).trans (show upd (S.1 3) (14 + 10 * i + 2) (vA n v) (14 + 10 * i + 2) = vA n v from pk_us)
      rw [show (rq S.1 3 (upd (S.1 3) (14 + 10 * i + 2) (vA n v)), S.2).1 3 = upd (S.1 3) (14 + 10 * i + 2) (vA n v) from rfl] at h1
      have e2 : sumF (fun t => itr (dayR n) c (upd (S.1 3) (14 + 10 * i + 2) (vA n v)) (14 + 10 * t + 9)) n = sold1 n c (14 + 10 * i + 2) r0 (vA n v) := ag_sum (ag_days hn c _ _ (a94_ag hn (a94_u hI))) (by decide)
      rw [e2] at h1
      rw [if_neg ci]
      by_cases c1 : m < sold1 n c (14 + 10 * i + 2) r0 (vA n v)
      · obtain ⟨S2, k2, a2, h3⟩ := ih (v + 1) (vA n v) (sold1 n c (14 + 10 * i + 2) r0 (vA n v)) (some (aI (sold1 n c (14 + 10 * i + 2) r0 (vA n v)))) S1 (by omega) hI1 rfl
        refine ⟨S2, kp_tr k0 (kp_tr k1 k2), a2, ?_⟩
        rw [if_pos c1, ← h3]
        by_cases cn : v = n
        · have ev : vA n v = -1 := if_pos cn
          rw [ev] at h1 c1 hat
          rw [ev]
          subst cn
          simp only [nl_n, nl_i, nl_r, x_ci, x_ca, x_bin, x_ife, x_ifl, x_ifg, x_cme, x_cml, x_cmg, x_go, x_no, x_b, x_ps, x_pn, cs_n, cs_i, cs_j, cs_r, en_n, en_i, en_j, en_r, xa0, xi1, x_k2_20, xi2, x_k1_s, r_i, r_j, r_v, r_z1, r_z0, r_a, x_k2_s, xs3n, xs3i, xs3r, g_20_0, xi3, l_3, l_5, l_8, l_11, l_12, l_21, l_22, l_23, l_24, l_25, l_26, l_28, l_29, l_30, l_31, l_32, xs4n, xs4i, xs4r, xs5n, xs5i, xs5r, xs6n, xs6i, xs6r, xs7n, xs7i, xs7r, xi7, s_3, s_5, s_8, s_11, s_12, s_21, s_22, s_23, s_24, s_25, s_26, s_28, s_29, s_30, s_31, s_32, xs8n, xs8i, xs8r, xi8, xi6, xn7n, xn7i, xn7r, xi4, xi5, e166_0, e166_1, e166_2, e166_5, e166_8, e166_9, e166_12, e166_15, e166_16, e166_18, e166_21, e166_22, e166_23, e166_24, e166_27, e166_28, e166_29, e166_32, e166_33, e166_34, e166_36, e166_37, e166_39, e166_40, e166_42, e166_43, e166_47, e166_48, e166_51, e166_52, e166_53, e166_56, e166_58, e166_59, e166_62, e166_63, e166_66, e166_67, e166_69, e166_70, e166_73, e166_74, e166_75, e166_78, e166_79, e166_82, e166_84, e166_85, e166_86, e166_87, e166_90, e166_92, e166_94, e166_96, e166_99, e166_100, e166_103, e166_104, e166_105, e166_107, e166_109, e166_111, e166_114, e166_117, e166_118, e166_121, e166_122, e166_124, e166_125, e166_127, c166, i10, i00, n2, n10, n20, n60, n8, n9, bi0, ite_not, List.replicate, Nat.reduceAdd, Nat.reduceSub, Nat.reduceLeDiff, Nat.reduceLT, if_true, if_false, mg, reduceIte, not_false_eq_true, eq_self, and_self, and_true, true_and, true_or, or_true, Nat.reduceEqDiff, hz, (nI_nlt (Nat.le_refl v) (show v < 2 ^ 31 by omega)), ei, ci, hp, uq_rq, h1, c1, hat, nI_add]
        · have ev : vA n v = nI v := if_neg cn
          rw [ev] at h1 c1 hat
          rw [ev]
          simp only [nl_n, nl_i, nl_r, x_ci, x_ca, x_bin, x_ife, x_ifl, x_ifg, x_cme, x_cml, x_cmg, x_go, x_no, x_b, x_ps, x_pn, cs_n, cs_i, cs_j, cs_r, en_n, en_i, en_j, en_r, xa0, xi1, x_k2_20, xi2, x_k1_s, r_i, r_j, r_v, r_z1, r_z0, r_a, x_k2_s, xs3n, xs3i, xs3r, g_20_0, xi3, l_3, l_5, l_8, l_11, l_12, l_21, l_22, l_23, l_24, l_25, l_26, l_28, l_29, l_30, l_31, l_32, xs4n, xs4i, xs4r, xs5n, xs5i, xs5r, xs6n, xs6i, xs6r, xs7n, xs7i, xs7r, xi7, s_3, s_5, s_8, s_11, s_12, s_21, s_22, s_23, s_24, s_25, s_26, s_28, s_29, s_30, s_31, s_32, xs8n, xs8i, xs8r, xi8, xi6, xn7n, xn7i, xn7r, xi4, xi5, e166_0, e166_1, e166_2, e166_5, e166_8, e166_9, e166_12, e166_15, e166_16, e166_18, e166_21, e166_22, e166_23, e166_24, e166_27, e166_28, e166_29, e166_32, e166_33, e166_34, e166_36, e166_37, e166_39, e166_40, e166_42, e166_43, e166_47, e166_48, e166_51, e166_52, e166_53, e166_56, e166_58, e166_59, e166_62, e166_63, e166_66, e166_67, e166_69, e166_70, e166_73, e166_74, e166_75, e166_78, e166_79, e166_82, e166_84, e166_85, e166_86, e166_87, e166_90, e166_92, e166_94, e166_96, e166_99, e166_100, e166_103, e166_104, e166_105, e166_107, e166_109, e166_111, e166_114, e166_117, e166_118, e166_121, e166_122, e166_124, e166_125, e166_127, c166, i10, i00, n2, n10, n20, n60, n8, n9, bi0, ite_not, List.replicate, Nat.reduceAdd, Nat.reduceSub, Nat.reduceLeDiff, Nat.reduceLT, if_true, if_false, mg, reduceIte, not_false_eq_true, eq_self, and_self, and_true, true_and, true_or, or_true, Nat.reduceEqDiff, hz, (nI_nlt (show v ≤ n by omega) (by omega)), ei, ci, en, cn, hp, uq_rq, h1, c1, hat, nI_add]
      · obtain ⟨S2, k2, a2, h3⟩ := ih (v + 1) b m (some (aI (sold1 n c (14 + 10 * i + 2) r0 (vA n v)))) S1 (by omega) hI1 rfl
        refine ⟨S2, kp_tr k0 (kp_tr k1 k2), a2, ?_⟩
        rw [if_neg c1, ← h3]
        by_cases cn : v = n
        · have ev : vA n v = -1 := if_pos cn
          rw [ev] at h1 c1 hat
          rw [ev]
          subst cn
          simp only [nl_n, nl_i, nl_r, x_ci, x_ca, x_bin, x_ife, x_ifl, x_ifg, x_cme, x_cml, x_cmg, x_go, x_no, x_b, x_ps, x_pn, cs_n, cs_i, cs_j, cs_r, en_n, en_i, en_j, en_r, xa0, xi1, x_k2_20, xi2, x_k1_s, r_i, r_j, r_v, r_z1, r_z0, r_a, x_k2_s, xs3n, xs3i, xs3r, g_20_0, xi3, l_3, l_5, l_8, l_11, l_12, l_21, l_22, l_23, l_24, l_25, l_26, l_28, l_29, l_30, l_31, l_32, xs4n, xs4i, xs4r, xs5n, xs5i, xs5r, xs6n, xs6i, xs6r, xs7n, xs7i, xs7r, xi7, s_3, s_5, s_8, s_11, s_12, s_21, s_22, s_23, s_24, s_25, s_26, s_28, s_29, s_30, s_31, s_32, xs8n, xs8i, xs8r, xi8, xi6, xn7n, xn7i, xn7r, xi4, xi5, e166_0, e166_1, e166_2, e166_5, e166_8, e166_9, e166_12, e166_15, e166_16, e166_18, e166_21, e166_22, e166_23, e166_24, e166_27, e166_28, e166_29, e166_32, e166_33, e166_34, e166_36, e166_37, e166_39, e166_40, e166_42, e166_43, e166_47, e166_48, e166_51, e166_52, e166_53, e166_56, e166_58, e166_59, e166_62, e166_63, e166_66, e166_67, e166_69, e166_70, e166_73, e166_74, e166_75, e166_78, e166_79, e166_82, e166_84, e166_85, e166_86, e166_87, e166_90, e166_92, e166_94, e166_96, e166_99, e166_100, e166_103, e166_104, e166_105, e166_107, e166_109, e166_111, e166_114, e166_117, e166_118, e166_121, e166_122, e166_124, e166_125, e166_127, c166, i10, i00, n2, n10, n20, n60, n8, n9, bi0, ite_not, List.replicate, Nat.reduceAdd, Nat.reduceSub, Nat.reduceLeDiff, Nat.reduceLT, if_true, if_false, mg, reduceIte, not_false_eq_true, eq_self, and_self, and_true, true_and, true_or, or_true, Nat.reduceEqDiff, hz, (nI_nlt (Nat.le_refl v) (show v < 2 ^ 31 by omega)), ei, ci, hp, uq_rq, h1, c1, hat, nI_add]
        · have ev : vA n v = nI v := if_neg cn
          rw [ev] at h1 c1 hat
          rw [ev]
          simp only [nl_n, nl_i, nl_r, x_ci, x_ca, x_bin, x_ife, x_ifl, x_ifg, x_cme, x_cml, x_cmg, x_go, x_no, x_b, x_ps, x_pn, cs_n, cs_i, cs_j, cs_r, en_n, en_i, en_j, en_r, xa0, xi1, x_k2_20, xi2, x_k1_s, r_i, r_j, r_v, r_z1, r_z0, r_a, x_k2_s, xs3n, xs3i, xs3r, g_20_0, xi3, l_3, l_5, l_8, l_11, l_12, l_21, l_22, l_23, l_24, l_25, l_26, l_28, l_29, l_30, l_31, l_32, xs4n, xs4i, xs4r, xs5n, xs5i, xs5r, xs6n, xs6i, xs6r, xs7n, xs7i, xs7r, xi7, s_3, s_5, s_8, s_11, s_12, s_21, s_22, s_23, s_24, s_25, s_26, s_28, s_29, s_30, s_31, s_32, xs8n, xs8i, xs8r, xi8, xi6, xn7n, xn7i, xn7r, xi4, xi5, e166_0, e166_1, e166_2, e166_5, e166_8, e166_9, e166_12, e166_15, e166_16, e166_18, e166_21, e166_22, e166_23, e166_24, e166_27, e166_28, e166_29, e166_32, e166_33, e166_34, e166_36, e166_37, e166_39, e166_40, e166_42, e166_43, e166_47, e166_48, e166_51, e166_52, e166_53, e166_56, e166_58, e166_59, e166_62, e166_63, e166_66, e166_67, e166_69, e166_70, e166_73, e166_74, e166_75, e166_78, e166_79, e166_82, e166_84, e166_85, e166_86, e166_87, e166_90, e166_92, e166_94, e166_96, e166_99, e166_100, e166_103, e166_104, e166_105, e166_107, e166_109, e166_111, e166_114, e166_117, e166_118, e166_121, e166_122, e166_124, e166_125, e166_127, c166, i10, i00, n2, n10, n20, n60, n8, n9, bi0, ite_not, List.replicate, Nat.reduceAdd, Nat.reduceSub, Nat.reduceLeDiff, Nat.reduceLT, if_true, if_false, mg, reduceIte, not_false_eq_true, eq_self, and_self, and_true, true_and, true_or, or_true, Nat.reduceEqDiff, hz, (nI_nlt (show v ≤ n by omega) (by omega)), ei, ci, en, cn, hp, uq_rq, h1, c1, hat, nI_add]
