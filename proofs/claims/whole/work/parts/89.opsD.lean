/-! the greatest that both share -/
def gsF (g : Nat) : Nat → Nat
  | 0 => 1
  | d + 1 => if d = 0 then 1 else if g % (d + 1) = 0 ∧ 60 % (d + 1) = 0 then d + 1 else gsF g d
theorem gs_s (g d : Nat) : gsF g (d + 1) = if d = 0 then 1 else if g % (d + 1) = 0 ∧ 60 % (d + 1) = 0 then d + 1 else gsF g d := rfl
theorem rmz : ∀ g, g ≤ 60 → ∀ d, d ≤ 60 → d ≠ 0 → (nI g - nI g / nI d * nI d = 0 ↔ g % d = 0) := by decide +kernel
theorem gs_g : ∀ g, g ≤ 60 → gsF g 60 = Nat.gcd 60 g := by decide +kernel
theorem l_shared {X : aX} {M : aM} {g : Nat} (hg : g ≤ 60) : ∀ d, 1 ≤ d → d ≤ 60 → go X 111 3 [some (aI (nI g)), some (aI (nI d))] [] M = some (some (aI (nI (gsF g d))), M) := by
  intro d
  induction d with
  | zero => intro h _; omega
  | succ d ih =>
    intro _ h
    have h0 : ¬ nI (d + 1) = 0 := nI_ne0 (by omega) (by omega)
    have e1 : nI (d + 1) + -1 = nI d := by rw [show (-1 : Int32) = -(nI 1) by decide +kernel, ← Int32.sub_eq_add_neg]; exact nI_pred d
    have r1 : (nI g - nI g / nI (d + 1) * nI (d + 1) = 0) = (g % (d + 1) = 0) := propext (rmz g hg (d + 1) h (by omega))
    have r2 : (nI 60 - nI 60 / nI (d + 1) * nI (d + 1) = 0) = (60 % (d + 1) = 0) := propext (rmz 60 (by decide) (d + 1) h (by omega))
    rw [gs_s, e111_3]
    by_cases c : d = 0
    · subst c
      rw [if_pos rfl]
      simp only [nl_n, nl_i, nl_r, x_ci, x_ca, x_bin, x_ife, x_ifl, x_ifg, x_cme, x_cml, x_cmg, x_go, x_no, x_b, x_ps, x_pn, cs_n, cs_i, cs_j, cs_r, en_n, en_i, en_j, en_r, xs1n, xs1i, xs1r, xi1, xi0, x_div, r_i, r_j, r_v, r_z1, r_z0, r_a, xn1n, xn1i, xn1r, e111_0, e111_2, e111_4, e111_5, e111_8, e111_9, e111_10, e111_11, e111_14, e111_16, e111_17, e111_18, e111_21, e111_22, e111_23, e111_26, e111_29, e111_30, c111, i10, i00, n2, n10, n20, n60, n8, n9, bi0, ite_not, List.replicate, Nat.reduceAdd, Nat.reduceSub, Nat.reduceLeDiff, Nat.reduceLT, if_true, if_false, mg, reduceIte, not_false_eq_true, eq_self, and_self, and_true, true_and, true_or, or_true, Nat.reduceEqDiff, (nI_nlt (Nat.le_refl 1) (show 1 < 2 ^ 31 by decide))]
    · rw [if_neg c]
      have i := ih (by omega) (by omega)
      have lt := nI_lt (show 1 < d + 1 by omega) (show d + 1 < 2 ^ 31 by omega)
      simp only [nl_n, nl_i, nl_r, x_ci, x_ca, x_bin, x_ife, x_ifl, x_ifg, x_cme, x_cml, x_cmg, x_go, x_no, x_b, x_ps, x_pn, cs_n, cs_i, cs_j, cs_r, en_n, en_i, en_j, en_r, xs1n, xs1i, xs1r, xi1, xi0, x_div, r_i, r_j, r_v, r_z1, r_z0, r_a, xn1n, xn1i, xn1r, e111_0, e111_2, e111_4, e111_5, e111_8, e111_9, e111_10, e111_11, e111_14, e111_16, e111_17, e111_18, e111_21, e111_22, e111_23, e111_26, e111_29, e111_30, c111, i10, i00, n2, n10, n20, n60, n8, n9, bi0, ite_not, List.replicate, Nat.reduceAdd, Nat.reduceSub, Nat.reduceLeDiff, Nat.reduceLT, if_true, if_false, mg, reduceIte, not_false_eq_true, eq_self, and_self, and_true, true_and, true_or, or_true, Nat.reduceEqDiff, lt, h0, r1, r2, e1, i]
      by_cases c1 : g % (d + 1) = 0
      · by_cases c2 : 60 % (d + 1) = 0
        · rw [if_pos (show g % (d + 1) = 0 ∧ 60 % (d + 1) = 0 from ⟨c1, c2⟩)]
          simp only [c1, c2, if_true]
        · rw [if_neg (show ¬ (g % (d + 1) = 0 ∧ 60 % (d + 1) = 0) from fun w => c2 w.2)]
          simp only [c1, c2, if_true, if_false]
      · rw [if_neg (show ¬ (g % (d + 1) = 0 ∧ 60 % (d + 1) = 0) from fun w => c1 w.1)]
        simp only [c1, if_false]
theorem t_shared {X : aX} {M : aM} {g : Nat} (hg : g ≤ 60) : cl X 111 [aI (nI g)] M = some (some (aI (nI (Nat.gcd 60 g))), M) := by
  simp only [nl_n, nl_i, nl_r, x_ci, x_ca, x_bin, x_ife, x_ifl, x_ifg, x_cme, x_cml, x_cmg, x_go, x_no, x_b, x_ps, x_pn, cs_n, cs_i, cs_j, cs_r, en_n, en_i, en_j, en_r, xs1n, xs1i, xs1r, xi1, xi0, x_div, r_i, r_j, r_v, r_z1, r_z0, r_a, xn1n, xn1i, xn1r, e111_0, e111_2, e111_4, e111_5, e111_8, e111_9, e111_10, e111_11, e111_14, e111_16, e111_17, e111_18, e111_21, e111_22, e111_23, e111_26, e111_29, e111_30, c111, i10, i00, n2, n10, n20, n60, n8, n9, bi0, ite_not, List.replicate, Nat.reduceAdd, Nat.reduceSub, Nat.reduceLeDiff, Nat.reduceLT, if_true, if_false, mg, reduceIte, not_false_eq_true, eq_self, and_self, and_true, true_and, true_or, or_true, Nat.reduceEqDiff]
  rw [l_shared hg 60 (by decide) (by decide), gs_g g hg]
theorem rmN : ∀ b, b ≤ 60 → ∀ o, o ≤ 60 → o ≠ 0 → nI b - nI b / nI o * nI o = nI (b % o) := by decide +kernel
theorem l_euc {X : aX} {M : aM} {N W G : Int32} : ∀ o b y, o ≤ 60 → b ≤ 60 → nl y = true → ∃ y', nl y' = true ∧ go X 181 39 [some (aR (20, 0, 0)), some (aI N), some (aI W), some (aI G), some (aI (nI b)), some (aI (nI o)), y, none, none] [] M = go X 181 62 [some (aR (20, 0, 0)), some (aI N), some (aI W), some (aI G), some (aI (nI (Nat.gcd b o))), some (aI (nI 0)), y', none, none] [] M := by
  intro o
  induction o using Nat.strongRecOn with
  | _ o ih =>
    intro b y ho hb hy
    by_cases c : o = 0
    · subst c
      refine ⟨y, hy, ?_⟩
      rw [Nat.gcd_zero_right, e181_39]
      simp only [nl_n, nl_i, nl_r, x_ci, x_ca, x_bin, x_ife, x_ifl, x_ifg, x_cme, x_cml, x_cmg, x_go, x_no, x_b, x_ps, x_pn, cs_n, cs_i, cs_j, cs_r, en_n, en_i, en_j, en_r, xi1, x_k3_s, xi2, xa0, x_k2_20, x_i2l, r_i, r_j, r_v, r_z1, r_z0, r_a, x_k1_20, xs3n, xs3i, xs3r, xs4n, xs4i, xs4r, xi3, xs5n, xs5i, xs5r, xi5, xi4, x_div, xs6n, xs6i, xs6r, xi6, x_cj, xt6n, xt6i, xt6r, xs8n, xs8i, xs8r, xi8, xj6, x_bnj, xn8n, xn8i, xn8r, e181_0, e181_1, e181_2, e181_4, e181_7, e181_10, e181_11, e181_12, e181_13, e181_16, e181_19, e181_20, e181_22, e181_25, e181_26, e181_27, e181_28, e181_31, e181_32, e181_34, e181_36, e181_37, e181_41, e181_44, e181_46, e181_48, e181_49, e181_51, e181_53, e181_55, e181_57, e181_59, e181_63, e181_65, e181_66, e181_68, e181_70, e181_71, e181_74, e181_76, e181_77, e181_80, e181_81, e181_84, e181_86, e181_88, e181_89, e181_90, e181_91, e181_93, e181_96, e181_99, e181_101, c181, i10, i00, n2, n10, n20, n60, n8, n9, bi0, ite_not, List.replicate, Nat.reduceAdd, Nat.reduceSub, Nat.reduceLeDiff, Nat.reduceLT, if_true, if_false, mg, reduceIte, not_false_eq_true, eq_self, and_self, and_true, true_and, true_or, or_true, Nat.reduceEqDiff]
    · have h0 : ¬ nI o = 0 := nI_ne0 (by omega) (by omega)
      have hm : b % o < o := Nat.mod_lt _ (by omega)
      have hr := rmN b hb o ho c
      obtain ⟨y', hy', h1⟩ := ih (b % o) hm o (some (aI (nI (b % o)))) (by omega) ho rfl
      refine ⟨y', hy', ?_⟩
      rw [Nat.gcd_comm b o, Nat.gcd_rec o b, Nat.gcd_comm (b % o) o, ← h1, e181_39]
      simp only [nl_n, nl_i, nl_r, x_ci, x_ca, x_bin, x_ife, x_ifl, x_ifg, x_cme, x_cml, x_cmg, x_go, x_no, x_b, x_ps, x_pn, cs_n, cs_i, cs_j, cs_r, en_n, en_i, en_j, en_r, xi1, x_k3_s, xi2, xa0, x_k2_20, x_i2l, r_i, r_j, r_v, r_z1, r_z0, r_a, x_k1_20, xs3n, xs3i, xs3r, xs4n, xs4i, xs4r, xi3, xs5n, xs5i, xs5r, xi5, xi4, x_div, xs6n, xs6i, xs6r, xi6, x_cj, xt6n, xt6i, xt6r, xs8n, xs8i, xs8r, xi8, xj6, x_bnj, xn8n, xn8i, xn8r, e181_0, e181_1, e181_2, e181_4, e181_7, e181_10, e181_11, e181_12, e181_13, e181_16, e181_19, e181_20, e181_22, e181_25, e181_26, e181_27, e181_28, e181_31, e181_32, e181_34, e181_36, e181_37, e181_41, e181_44, e181_46, e181_48, e181_49, e181_51, e181_53, e181_55, e181_57, e181_59, e181_63, e181_65, e181_66, e181_68, e181_70, e181_71, e181_74, e181_76, e181_77, e181_80, e181_81, e181_84, e181_86, e181_88, e181_89, e181_90, e181_91, e181_93, e181_96, e181_99, e181_101, c181, i10, i00, n2, n10, n20, n60, n8, n9, bi0, ite_not, List.replicate, Nat.reduceAdd, Nat.reduceSub, Nat.reduceLeDiff, Nat.reduceLT, if_true, if_false, mg, reduceIte, not_false_eq_true, eq_self, and_self, and_true, true_and, true_or, or_true, Nat.reduceEqDiff, h0, hr]
