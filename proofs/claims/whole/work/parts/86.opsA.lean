/-! the fewest to hush -/
def okH (H : Nat → Prop) (N lo : Nat) (b : Int32) : Prop := (b = -1 ∧ ∀ u, lo ≤ u → u < N → ¬ H u) ∨ (∃ w, lo ≤ w ∧ w < N ∧ H w ∧ b = nI w ∧ ∀ u, lo ≤ u → u < N → H u → pcN w ≤ pcN u ∧ (u < w → pcN w < pcN u))
theorem okH_uq {H : Nat → Prop} {N : Nat} {b b' : Int32} (h : okH H N 0 b) (h' : okH H N 0 b') : b = b' := by
  rcases h with ⟨h1, h2⟩ | ⟨w, w1, w2, w3, w4, w5⟩
  · rcases h' with ⟨k1, k2⟩ | ⟨v, v1, v2, v3, v4, v5⟩
    · rw [h1, k1]
    · exact absurd v3 (h2 v v1 v2)
  · rcases h' with ⟨k1, k2⟩ | ⟨v, v1, v2, v3, v4, v5⟩
    · exact absurd w3 (k2 w w1 w2)
    · have a := w5 v v1 v2 v3
      have b := v5 w w1 w2 w3
      have : w = v := by
        rcases Nat.lt_trichotomy w v with q | q | q
        · have := b.2 q; omega
        · exact q
        · have := a.2 q; omega
      rw [w4, v4, this]
theorem bt_s : ∀ m, m < 256 → m ≠ 0 → nI m &&& (nI m - nI 1) = nI (m &&& (m - 1)) ∧ pcN m = pcN (m &&& (m - 1)) + 1 ∧ m &&& (m - 1) < m := by decide +kernel
theorem l_bits6 {X : aX} {M : aM} {y : Int32} : ∀ m a, m < 256 → go X 119 4 [some (aI y), some (aI (nI a)), some (aI (nI m))] [] M = some (some (aI (nI (a + pcN m))), M) := by
  intro m
  induction m using Nat.strongRecOn with
  | _ m ih =>
    intro a hm
    by_cases c : m = 0
    · subst c
      rw [e119_4]
      simp only [nl_n, nl_i, nl_r, x_ci, x_ca, x_bin, x_ife, x_ifl, x_ifg, x_cme, x_cml, x_cmg, x_go, x_no, x_b, x_ps, x_pn, cs_n, cs_i, cs_j, cs_r, en_n, en_i, en_j, en_r, xs1n, xs1i, xs1r, xi0, xs2n, xs2i, xs2r, xi2, xn1n, xn1i, xn1r, xi1, r_i, r_j, r_v, r_z1, r_z0, r_a, e119_0, e119_1, e119_2, e119_3, e119_5, e119_8, e119_11, e119_12, e119_13, e119_14, e119_15, e119_16, e119_17, e119_20, e119_21, c119, i10, i00, n2, n10, n20, n60, n8, n9, bi0, ite_not, List.replicate, Nat.reduceAdd, Nat.reduceSub, Nat.reduceLeDiff, Nat.reduceLT, if_true, if_false, mg, reduceIte, not_false_eq_true, eq_self, and_self, and_true, true_and, true_or, or_true, Nat.reduceEqDiff]
      rfl
    · obtain ⟨h1, h2, h3⟩ := bt_s m hm c
      have h0 : ¬ nI m = 0 := nI_ne0 (by omega) (by omega)
      rw [h2, show a + (pcN (m &&& (m - 1)) + 1) = (a + 1) + pcN (m &&& (m - 1)) by omega, ← ih _ h3 (a + 1) (by omega), e119_4]
      simp only [nl_n, nl_i, nl_r, x_ci, x_ca, x_bin, x_ife, x_ifl, x_ifg, x_cme, x_cml, x_cmg, x_go, x_no, x_b, x_ps, x_pn, cs_n, cs_i, cs_j, cs_r, en_n, en_i, en_j, en_r, xs1n, xs1i, xs1r, xi0, xs2n, xs2i, xs2r, xi2, xn1n, xn1i, xn1r, xi1, r_i, r_j, r_v, r_z1, r_z0, r_a, e119_0, e119_1, e119_2, e119_3, e119_5, e119_8, e119_11, e119_12, e119_13, e119_14, e119_15, e119_16, e119_17, e119_20, e119_21, c119, i10, i00, n2, n10, n20, n60, n8, n9, bi0, ite_not, List.replicate, Nat.reduceAdd, Nat.reduceSub, Nat.reduceLeDiff, Nat.reduceLT, if_true, if_false, mg, reduceIte, not_false_eq_true, eq_self, and_self, and_true, true_and, true_or, or_true, Nat.reduceEqDiff, h0, h1, nI_add]
theorem t_bits6 {X : aX} {M : aM} {m : Nat} (hm : m < 256) : cl X 119 [aI (nI m)] M = some (some (aI (nI (pcN m))), M) := by
  have h := l_bits6 (X := X) (M := M) (y := nI m) m 0 hm
  rw [Nat.zero_add] at h
  simp only [nl_n, nl_i, nl_r, x_ci, x_ca, x_bin, x_ife, x_ifl, x_ifg, x_cme, x_cml, x_cmg, x_go, x_no, x_b, x_ps, x_pn, cs_n, cs_i, cs_j, cs_r, en_n, en_i, en_j, en_r, xs1n, xs1i, xs1r, xi0, xs2n, xs2i, xs2r, xi2, xn1n, xn1i, xn1r, xi1, r_i, r_j, r_v, r_z1, r_z0, r_a, e119_0, e119_1, e119_2, e119_3, e119_5, e119_8, e119_11, e119_12, e119_13, e119_14, e119_15, e119_16, e119_17, e119_20, e119_21, c119, i10, i00, n2, n10, n20, n60, n8, n9, bi0, ite_not, List.replicate, Nat.reduceAdd, Nat.reduceSub, Nat.reduceLeDiff, Nat.reduceLT, if_true, if_false, mg, reduceIte, not_false_eq_true, eq_self, and_self, and_true, true_and, true_or, or_true, Nat.reduceEqDiff]
  exact h
