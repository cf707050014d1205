theorem sh2 : ∀ n, n ≤ 8 → nI 1 <<< (nI n &&& 31) = nI (2 ^ n) := by decide +kernel
theorem p2 {n : Nat} (hn : n ≤ 8) : 2 ^ n ≤ 256 := Nat.le_trans (Nat.pow_le_pow_right (n := 2) (by decide) hn) (by decide)
theorem pc8 : ∀ m, m < 256 → pcN m < 9 := by decide +kernel
def inH (H : Nat → Prop) (v : Nat) (b fw : Int32) : Prop := (b = -1 ∧ fw = nI 9 ∧ ∀ u, u < v → ¬ H u) ∨ (∃ w, w < v ∧ H w ∧ b = nI w ∧ fw = nI (pcN w) ∧ ∀ u, u < v → H u → pcN w ≤ pcN u ∧ (u < w → pcN w < pcN u))
theorem l_hushx {X : aX} {n c : Nat} {r0 : Nat → Int32} (hc : c ≤ 60) (hr0 : RI n r0) : ∀ k v b fw y S, v + k = 2 ^ n → S.1 0 = r0 → inH (fun u => huP n c (nI u) r0) v b fw → nl y = true → ∃ S' b', kx S S' ∧ okH (fun u => huP n c (nI u) r0) (2 ^ n) 0 b' ∧ go X 78 24 [some (aR (0, 0, 0)), some (aI (nI c)), some (aI b), some (aI fw), some (aI (nI v)), y] [] (mem S) = rsO b' S'.1 S'.2 := by
  have hn := hr0.1
  have hN := p2 hn
  intro k
  induction k with
  | zero =>
    intro v b fw y S h hS hI hy
    have hz : S.1 0 1 = nI n := by rw [hS]; exact hr0.2.1
    refine ⟨S, b, kx_rfl S, ?_, ?_⟩
    · rcases hI with ⟨h1, h2, h3⟩ | ⟨w, w1, w2, w3, w4, w5⟩
      · exact Or.inl ⟨h1, fun u _ hu => h3 u (by omega)⟩
      · exact Or.inr ⟨w, by omega, by omega, w2, w3, fun u _ hu => w5 u (by omega)⟩
    · rw [e78_24]
      have hv : v = 2 ^ n := by omega
      rcases hI with ⟨h1, h2, h3⟩ | ⟨w, w1, w2, w3, w4, w5⟩
      · subst h1
        simp only [nl_n, nl_i, nl_r, x_ci, x_ca, x_bin, x_ife, x_ifl, x_ifg, x_cme, x_cml, x_cmg, x_go, x_no, x_b, x_ps, x_pn, cs_n, cs_i, cs_j, cs_r, en_n, en_i, en_j, en_r, xi1, x_k3_s, xa0, x_k2_0, r_i, r_j, r_v, r_z1, r_z0, r_a, xs2n, xs2i, xs2r, xs3n, xs3i, xs3r, xs4n, xs4i, xs4r, xi4, g_0_0, g_1_2, x_k1_s, xs5n, xs5i, xs5r, xi5, xi3, x_k3_0, xn4n, xn4i, xn4r, xi2, e78_0, e78_1, e78_2, e78_4, e78_7, e78_10, e78_11, e78_12, e78_15, e78_16, e78_17, e78_18, e78_20, e78_21, e78_22, e78_26, e78_27, e78_28, e78_31, e78_34, e78_35, e78_38, e78_40, e78_43, e78_45, e78_47, e78_48, e78_51, e78_52, e78_54, e78_55, e78_58, e78_61, e78_63, e78_64, e78_66, e78_67, e78_70, e78_73, e78_74, e78_77, e78_78, e78_79, e78_82, e78_85, e78_86, c78, i10, i00, n2, n10, n20, n60, n8, n9, bi0, ite_not, List.replicate, Nat.reduceAdd, Nat.reduceSub, Nat.reduceLeDiff, Nat.reduceLT, if_true, if_false, mg, reduceIte, not_false_eq_true, eq_self, and_self, and_true, true_and, true_or, or_true, Nat.reduceEqDiff, hz, (sh2 n hn), (nI_nlt (show 2 ^ n ≤ v by omega) (by omega)), m1_lt, tel3]
        rfl
      · subst w3
        rw [rsO_n (by omega)]
        simp only [nl_n, nl_i, nl_r, x_ci, x_ca, x_bin, x_ife, x_ifl, x_ifg, x_cme, x_cml, x_cmg, x_go, x_no, x_b, x_ps, x_pn, cs_n, cs_i, cs_j, cs_r, en_n, en_i, en_j, en_r, xi1, x_k3_s, xa0, x_k2_0, r_i, r_j, r_v, r_z1, r_z0, r_a, xs2n, xs2i, xs2r, xs3n, xs3i, xs3r, xs4n, xs4i, xs4r, xi4, g_0_0, g_1_2, x_k1_s, xs5n, xs5i, xs5r, xi5, xi3, x_k3_0, xn4n, xn4i, xn4r, xi2, e78_0, e78_1, e78_2, e78_4, e78_7, e78_10, e78_11, e78_12, e78_15, e78_16, e78_17, e78_18, e78_20, e78_21, e78_22, e78_26, e78_27, e78_28, e78_31, e78_34, e78_35, e78_38, e78_40, e78_43, e78_45, e78_47, e78_48, e78_51, e78_52, e78_54, e78_55, e78_58, e78_61, e78_63, e78_64, e78_66, e78_67, e78_70, e78_73, e78_74, e78_77, e78_78, e78_79, e78_82, e78_85, e78_86, c78, i10, i00, n2, n10, n20, n60, n8, n9, bi0, ite_not, List.replicate, Nat.reduceAdd, Nat.reduceSub, Nat.reduceLeDiff, Nat.reduceLT, if_true, if_false, mg, reduceIte, not_false_eq_true, eq_self, and_self, and_true, true_and, true_or, or_true, Nat.reduceEqDiff, hz, (sh2 n hn), (nI_nlt (show 2 ^ n ≤ v by omega) (by omega)), (nI_pos (show w < 2 ^ 31 by omega))]
  | succ k ih =>
    intro v b fw y S h hS hI hy
    have hz : S.1 0 1 = nI n := by rw [hS]; exact hr0.2.1
    have hv : v < 256 := by omega
    have hp := pc8 v hv
    have tb := fun M => t_bits (X := X) (M := M) hv
    have lt := nI_lt (show v < 2 ^ n by omega) (show 2 ^ n < 2 ^ 31 by omega)
    by_cases c1 : nI (pcN v) < fw
    · obtain ⟨S1, k1, h1⟩ := t_stillW (X := X) (S := S) (z := nI v) hc (by rw [hS]; exact hr0)
      rw [hS] at h1
      have hS1 : S1.1 0 = r0 := (k1.2 0 (by decide)).trans hS
      by_cases cH : huP n c (nI v) r0
      · have hI2 : inH (fun u => huP n c (nI u) r0) (v + 1) (nI v) (nI (pcN v)) := by
          refine Or.inr ⟨v, by omega, cH, rfl, rfl, fun u hu hH => ?_⟩
          by_cases e : u = v
          · subst e; exact ⟨Nat.le_refl _, fun q => absurd q (Nat.lt_irrefl _)⟩
          · rcases hI with ⟨g1, g2, g3⟩ | ⟨w, w1, w2, w3, w4, w5⟩
            · exact absurd hH (g3 u (by omega))
            · have q1 := (w5 u (by omega) hH).1
              rw [w4, nI_ltI (by omega) (by have := pc8 w (by omega); omega)] at c1
              exact ⟨by omega, fun _ => by omega⟩
        obtain ⟨S2, b', k2, o2, h2⟩ := ih (v + 1) (nI v) (nI (pcN v)) (some (aI (nI (pcN v)))) S1 (by omega) hS1 hI2 rfl
        refine ⟨S2, b', kx_tr k1 k2, o2, ?_⟩
        rw [← h2, e78_24]
        simp only [nl_n, nl_i, nl_r, x_ci, x_ca, x_bin, x_ife, x_ifl, x_ifg, x_cme, x_cml, x_cmg, x_go, x_no, x_b, x_ps, x_pn, cs_n, cs_i, cs_j, cs_r, en_n, en_i, en_j, en_r, xi1, x_k3_s, xa0, x_k2_0, r_i, r_j, r_v, r_z1, r_z0, r_a, xs2n, xs2i, xs2r, xs3n, xs3i, xs3r, xs4n, xs4i, xs4r, xi4, g_0_0, g_1_2, x_k1_s, xs5n, xs5i, xs5r, xi5, xi3, x_k3_0, xn4n, xn4i, xn4r, xi2, e78_0, e78_1, e78_2, e78_4, e78_7, e78_10, e78_11, e78_12, e78_15, e78_16, e78_17, e78_18, e78_20, e78_21, e78_22, e78_26, e78_27, e78_28, e78_31, e78_34, e78_35, e78_38, e78_40, e78_43, e78_45, e78_47, e78_48, e78_51, e78_52, e78_54, e78_55, e78_58, e78_61, e78_63, e78_64, e78_66, e78_67, e78_70, e78_73, e78_74, e78_77, e78_78, e78_79, e78_82, e78_85, e78_86, c78, i10, i00, n2, n10, n20, n60, n8, n9, bi0, ite_not, List.replicate, Nat.reduceAdd, Nat.reduceSub, Nat.reduceLeDiff, Nat.reduceLT, if_true, if_false, mg, reduceIte, not_false_eq_true, eq_self, and_self, and_true, true_and, true_or, or_true, Nat.reduceEqDiff, hz, (sh2 n hn), lt, tb, c1, h1, (bi_t cH), nI_add]
      · have hI2 : inH (fun u => huP n c (nI u) r0) (v + 1) b fw := by
          rcases hI with ⟨g1, g2, g3⟩ | ⟨w, w1, w2, w3, w4, w5⟩
          · exact Or.inl ⟨g1, g2, fun u hu hH => if e : u = v then cH (by rw [e] at hH; exact hH) else g3 u (by omega) hH⟩
          · exact Or.inr ⟨w, by omega, w2, w3, w4, fun u hu hH => if e : u = v then absurd hH (by rw [e]; exact cH) else w5 u (by omega) hH⟩
        obtain ⟨S2, b', k2, o2, h2⟩ := ih (v + 1) b fw (some (aI (nI (pcN v)))) S1 (by omega) hS1 hI2 rfl
        refine ⟨S2, b', kx_tr k1 k2, o2, ?_⟩
        rw [← h2, e78_24]
        simp only [nl_n, nl_i, nl_r, x_ci, x_ca, x_bin, x_ife, x_ifl, x_ifg, x_cme, x_cml, x_cmg, x_go, x_no, x_b, x_ps, x_pn, cs_n, cs_i, cs_j, cs_r, en_n, en_i, en_j, en_r, xi1, x_k3_s, xa0, x_k2_0, r_i, r_j, r_v, r_z1, r_z0, r_a, xs2n, xs2i, xs2r, xs3n, xs3i, xs3r, xs4n, xs4i, xs4r, xi4, g_0_0, g_1_2, x_k1_s, xs5n, xs5i, xs5r, xi5, xi3, x_k3_0, xn4n, xn4i, xn4r, xi2, e78_0, e78_1, e78_2, e78_4, e78_7, e78_10, e78_11, e78_12, e78_15, e78_16, e78_17, e78_18, e78_20, e78_21, e78_22, e78_26, e78_27, e78_28, e78_31, e78_34, e78_35, e78_38, e78_40, e78_43, e78_45, e78_47, e78_48, e78_51, e78_52, e78_54, e78_55, e78_58, e78_61, e78_63, e78_64, e78_66, e78_67, e78_70, e78_73, e78_74, e78_77, e78_78, e78_79, e78_82, e78_85, e78_86, c78, i10, i00, n2, n10, n20, n60, n8, n9, bi0, ite_not, List.replicate, Nat.reduceAdd, Nat.reduceSub, Nat.reduceLeDiff, Nat.reduceLT, if_true, if_false, mg, reduceIte, not_false_eq_true, eq_self, and_self, and_true, true_and, true_or, or_true, Nat.reduceEqDiff, hz, (sh2 n hn), lt, tb, c1, h1, (bi_f cH), nI_add]
    · have hI2 : inH (fun u => huP n c (nI u) r0) (v + 1) b fw := by
        rcases hI with ⟨g1, g2, g3⟩ | ⟨w, w1, w2, w3, w4, w5⟩
        · rw [g2] at c1
          exact absurd (nI_lt hp (by decide)) c1
        · refine Or.inr ⟨w, by omega, w2, w3, w4, fun u hu hH => ?_⟩
          by_cases e : u = v
          · subst e
            rw [w4, nI_ltI (by omega) (by have := pc8 w (by omega); omega)] at c1
            exact ⟨by omega, fun q => by omega⟩
          · exact w5 u (by omega) hH
      obtain ⟨S2, b', k2, o2, h2⟩ := ih (v + 1) b fw (some (aI (nI (pcN v)))) S (by omega) hS hI2 rfl
      refine ⟨S2, b', k2, o2, ?_⟩
      rw [← h2, e78_24]
      simp only [nl_n, nl_i, nl_r, x_ci, x_ca, x_bin, x_ife, x_ifl, x_ifg, x_cme, x_cml, x_cmg, x_go, x_no, x_b, x_ps, x_pn, cs_n, cs_i, cs_j, cs_r, en_n, en_i, en_j, en_r, xi1, x_k3_s, xa0, x_k2_0, r_i, r_j, r_v, r_z1, r_z0, r_a, xs2n, xs2i, xs2r, xs3n, xs3i, xs3r, xs4n, xs4i, xs4r, xi4, g_0_0, g_1_2, x_k1_s, xs5n, xs5i, xs5r, xi5, xi3, x_k3_0, xn4n, xn4i, xn4r, xi2, e78_0, e78_1, e78_2, e78_4, e78_7, e78_10, e78_11, e78_12, e78_15, e78_16, e78_17, e78_18, e78_20, e78_21, e78_22, e78_26, e78_27, e78_28, e78_31, e78_34, e78_35, e78_38, e78_40, e78_43, e78_45, e78_47, e78_48, e78_51, e78_52, e78_54, e78_55, e78_58, e78_61, e78_63, e78_64, e78_66, e78_67, e78_70, e78_73, e78_74, e78_77, e78_78, e78_79, e78_82, e78_85, e78_86, c78, i10, i00, n2, n10, n20, n60, n8, n9, bi0, ite_not, List.replicate, Nat.reduceAdd, Nat.reduceSub, Nat.reduceLeDiff, Nat.reduceLT, if_true, if_false, mg, reduceIte, not_false_eq_true, eq_self, and_self, and_true, true_and, true_or, or_true, Nat.reduceEqDiff, hz, (sh2 n hn), lt, tb, c1, nI_add]
