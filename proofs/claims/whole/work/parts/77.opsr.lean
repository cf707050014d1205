/-! told singing: how many, which first, which kinds -/
theorem JD_6 {D : aD} {x : Int32} (h : JD D) : JD (uD D (20, 0, 0) 6 x) := by
  obtain ⟨⟨f1, f2⟩, ⟨t, t1, t2, t3, t4⟩, hs, k1, k2⟩ := h
  have o : ∀ (r : aL) j, r.1 ≠ 20 → uD D (20, 0, 0) 6 x r j = D r j := fun r j h2 => uD_c h2
  refine ⟨⟨fun j hj => ?_, ?_⟩, ⟨t, t1, ?_, ?_, fun j hj => ?_⟩, fun s h => ?_, ?_, ?_⟩
  · rw [o _ _ (by decide), o _ _ (by decide)]; exact f1 j hj
  · rw [o _ _ (by decide), f2]
    exact congrArg (fun f => sumF f 7) (funext (fun j => (o (12, 0, 0) j (by decide)).symm))
  · rw [o _ _ (by decide)]; exact t2
  · rw [uD_o (Or.inr (by decide))]; exact t3
  · rw [o _ _ (by decide), o _ _ (by decide)]; exact t4 j hj
  · obtain ⟨b, m, h1, h2, h3, h4, h5, h6, h7, h8⟩ := hs s h
    have o10 : ∀ j, uD D (20, 0, 0) 6 x (10, s, 0) j = D (10, s, 0) j := fun j => o _ j (Nat.ne_of_beq_eq_false rfl)
    have o11 : ∀ j, uD D (20, 0, 0) 6 x (11, s, 0) j = D (11, s, 0) j := fun j => o _ j (Nat.ne_of_beq_eq_false rfl)
    exact ⟨b, m, h1, h2, h3, by rw [o10]; exact h4, by rw [o _ _ (by decide)]; exact h5, by rw [o10]; exact h6, by rw [o _ _ (by decide)]; exact h7, fun j hj => by rw [o11, o _ _ (by decide)]; exact h8 j hj⟩
  · rw [o _ _ (by decide)]; exact k1
  · rw [uD_o (Or.inr (by decide)), o _ _ (by decide)]; exact k2
theorem J_6 {S : aS} {x : Int32} (h : J S) : J (S.1, uD S.2 (20, 0, 0) 6 x) := ⟨h.1, fun w => h.2.1 ((show S.2 (0, 0, 0) 6 = uD S.2 (20, 0, 0) 6 x (0, 0, 0) 6 from (uD_c (by decide)).symm).trans w), JD_6 h.2.2⟩
abbrev cnS (T : Nat → Bool) (v : Nat) (a : Int32) : Int32 := if T v = true then a + nI 1 else a
abbrev stS (T : Nat → Bool) (v : Nat) (a : Int32) : Int32 := if T v = true then a ||| (if v < 32 then bit1 v else nI 0) else a
abbrev ffS (T : Nat → Bool) (v : Nat) (a : Int32) : Int32 := if T v = true then (if a < 0 then nI v else a) else a
def fsF (T : Nat → Bool) : Nat → Nat → Int32
  | 0, _ => -1
  | k + 1, v => if T v = true then nI v else fsF T k (v + 1)
theorem fsF_s (T : Nat → Bool) (k v : Nat) : fsF T (k + 1) v = if T v = true then nI v else fsF T k (v + 1) := rfl
theorem ff_id (T : Nat → Bool) : ∀ k v j, j < 2 ^ 31 → lp (ffS T) k v (nI j) = nI j := by
  intro k
  induction k with
  | zero => intro v j _; rfl
  | succ k ih =>
    intro v j hj
    rw [lp_s, show ffS T v (nI j) = nI j by unfold ffS; rw [if_neg (nI_pos hj)]; exact ite_self ..]
    exact ih _ _ hj
theorem ff_fs (T : Nat → Bool) : ∀ k v, v + k < 2 ^ 31 → lp (ffS T) k v (-1) = fsF T k v := by
  intro k
  induction k with
  | zero => intro v _; rfl
  | succ k ih =>
    intro v h
    rw [lp_s, fsF_s]
    by_cases c : T v = true
    · rw [if_pos c, show ffS T v (-1) = nI v by unfold ffS; rw [if_pos c, if_pos m1_lt]]
      exact ff_id T _ _ _ (by omega)
    · rw [if_neg c, show ffS T v (-1) = -1 from if_neg c]
      exact ih _ (by omega)
theorem fs_v (T : Nat → Bool) : ∀ k v, v + k ≤ 400 → fsF T k v = -1 ∨ ∃ j, j ≤ 400 ∧ fsF T k v = nI j := by
  intro k
  induction k with
  | zero => intro v _; exact Or.inl rfl
  | succ k ih =>
    intro v h
    rw [fsF_s]
    split
    · exact Or.inr ⟨v, by omega, rfl⟩
    · exact ih _ (by omega)
theorem cn_v (T : Nat → Bool) : ∀ k v a, ∃ b, b ≤ a + k ∧ lp (cnS T) k v (nI a) = nI b := by
  intro k
  induction k with
  | zero => intro v a; exact ⟨a, by omega, rfl⟩
  | succ k ih =>
    intro v a
    rw [lp_s]
    unfold cnS
    split
    · rw [nI_add]
      obtain ⟨b, h1, h2⟩ := ih (v + 1) (a + 1)
      exact ⟨b, by omega, h2⟩
    · obtain ⟨b, h1, h2⟩ := ih (v + 1) a
      exact ⟨b, by omega, h2⟩
abbrev tTv (D0 : aD) (r0 : Nat → Int32) (n m s i j : Nat) (v : Nat) : Bool := soT (fun y => D0 (11, s, 0) y) n (14 + 10 * i + 7) m 0 (upd r0 (14 + 10 * i + j) (nI v))
abbrev tTm (D0 : aD) (r0 : Nat → Int32) (n m s i j : Nat) (v : Nat) : Bool := soT (fun y => D0 (31, 0, 0) (40 * s + y)) n (14 + 10 * i + 7) m 0 (upd r0 (14 + 10 * i + j) (nI v))
theorem l_fitsx {X : aX} {D0 : aD} {r0 : Nat → Int32} {n m s i : Nat} {f : Int32} (hn : n ≤ 8) (hm : m ≤ 40) (hs : s < 4) (hi : i < n) (hz : r0 1 = nI n) (h2 : D0 (10, s, 0) 2 = nI m) : ∀ k v a S, v + k = 60 → S.1 0 = r0 → eqJ D0 S.2 → ∃ S', kx S S' ∧ go X 80 24 [some (aR (0, 0, 0)), some (aI (nI s)), some (aI (nI i)), some (aI f), some (aI a), some (aI (nI v))] [] (mem S) = some (some (aI (lp (cnS (tTv D0 r0 n m s i 1)) k v a)), mem S') := by
  intro k
  induction k with
  | zero =>
    intro v a S h hS hD
    refine ⟨S, kx_rfl S, ?_⟩
    rw [e80_24]
    simp only [nl_n, nl_i, nl_r, x_ci, x_ca, x_bin, x_ife, x_ifl, x_ifg, x_cme, x_cml, x_cmg, x_go, x_no, x_b, x_ps, x_pn, cs_n, cs_i, cs_j, cs_r, en_n, en_i, en_j, en_r, xa0, xi1, xi2, x_k3_0, xs3n, xs3i, xs3r, xi3, x_k2_0, r_i, r_j, r_v, r_z1, r_z0, r_a, xs4n, xs4i, xs4r, xs5n, xs5i, xs5r, xi5, g_0_4, l_2, l_9, l_27, x_k5_0, xn4n, xn4i, xn4r, xn5n, xn5i, xn5r, xi4, e80_0, e80_1, e80_2, e80_3, e80_6, e80_7, e80_8, e80_9, e80_12, e80_13, e80_14, e80_17, e80_18, e80_19, e80_21, e80_22, e80_26, e80_28, e80_31, e80_32, e80_33, e80_36, e80_37, e80_38, e80_39, e80_40, e80_42, e80_45, e80_48, e80_51, e80_54, e80_57, e80_59, c80, i10, i00, n2, n10, n20, n60, n8, n9, bi0, ite_not, List.replicate, Nat.reduceAdd, Nat.reduceSub, Nat.reduceLeDiff, Nat.reduceLT, if_true, if_false, mg, reduceIte, not_false_eq_true, eq_self, and_self, and_true, true_and, true_or, or_true, Nat.reduceEqDiff, (nI_nlt (show 60 ≤ v by omega) (by omega))]
    rfl
  | succ k ih =>
    intro v a S h hS hD
    obtain ⟨S1, k1, h1⟩ := t_isAsTold (X := X) (S := S) (j := 1) (v := nI v) hn hm hs hi (by decide) (by rw [hS]; exact hz) ((hD (10, s, 0) 2 (nj (by simp))).trans h2)
    have e11 : (fun y => S.2 (11, s, 0) y) = (fun y => D0 (11, s, 0) y) := funext (fun y => hD (11, s, 0) y (nj (by simp)))
    rw [hS, e11] at h1
    obtain ⟨S2, k2, h3⟩ := ih (v + 1) (cnS (tTv D0 r0 n m s i 1) v a) S1 (by omega) ((k1.2 0 (by decide)).trans hS) (eqJ_tr hD k1.1)
    refine ⟨S2, kx_tr k1 k2, ?_⟩
    rw [lp_s, ← h3, e80_24]
    simp only [nl_n, nl_i, nl_r, x_ci, x_ca, x_bin, x_ife, x_ifl, x_ifg, x_cme, x_cml, x_cmg, x_go, x_no, x_b, x_ps, x_pn, cs_n, cs_i, cs_j, cs_r, en_n, en_i, en_j, en_r, xa0, xi1, xi2, x_k3_0, xs3n, xs3i, xs3r, xi3, x_k2_0, r_i, r_j, r_v, r_z1, r_z0, r_a, xs4n, xs4i, xs4r, xs5n, xs5i, xs5r, xi5, g_0_4, l_2, l_9, l_27, x_k5_0, xn4n, xn4i, xn4r, xn5n, xn5i, xn5r, xi4, e80_0, e80_1, e80_2, e80_3, e80_6, e80_7, e80_8, e80_9, e80_12, e80_13, e80_14, e80_17, e80_18, e80_19, e80_21, e80_22, e80_26, e80_28, e80_31, e80_32, e80_33, e80_36, e80_37, e80_38, e80_39, e80_40, e80_42, e80_45, e80_48, e80_51, e80_54, e80_57, e80_59, c80, i10, i00, n2, n10, n20, n60, n8, n9, bi0, ite_not, List.replicate, Nat.reduceAdd, Nat.reduceSub, Nat.reduceLeDiff, Nat.reduceLT, if_true, if_false, mg, reduceIte, not_false_eq_true, eq_self, and_self, and_true, true_and, true_or, or_true, Nat.reduceEqDiff, (nI_lt (show v < 60 by omega) (by decide)), hs, h1, nI_add]
    unfold cnS
    by_cases c : tTv D0 r0 n m s i 1 v = true
    · rw [if_pos c, if_pos c]
    · rw [if_neg c, if_neg c]
theorem l_kindsx {X : aX} {D0 : aD} {r0 : Nat → Int32} {n m s i : Nat} {f : Int32} (hn : n ≤ 8) (hm : m ≤ 40) (hs : s < 4) (hi : i < n) (hz : r0 1 = nI n) (h2 : D0 (10, s, 0) 2 = nI m) : ∀ k v a S, v + k = 7 → S.1 0 = r0 → eqJ D0 S.2 → ∃ S', kx S S' ∧ go X 82 24 [some (aR (0, 0, 0)), some (aI (nI s)), some (aI (nI i)), some (aI f), some (aI a), some (aI (nI v))] [] (mem S) = some (some (aI (lp (stS (tTv D0 r0 n m s i 0)) k v a)), mem S') := by
  intro k
  induction k with
  | zero =>
    intro v a S h hS hD
    refine ⟨S, kx_rfl S, ?_⟩
    rw [e82_24]
    simp only [nl_n, nl_i, nl_r, x_ci, x_ca, x_bin, x_ife, x_ifl, x_ifg, x_cme, x_cml, x_cmg, x_go, x_no, x_b, x_ps, x_pn, cs_n, cs_i, cs_j, cs_r, en_n, en_i, en_j, en_r, xa0, xi1, xi2, x_k3_0, xs3n, xs3i, xs3r, xi3, x_k2_0, r_i, r_j, r_v, r_z1, r_z0, r_a, xs4n, xs4i, xs4r, xs5n, xs5i, xs5r, xi5, g_0_4, l_2, l_9, l_27, x_k5_0, xi4, xn5n, xn5i, xn5r, e82_0, e82_1, e82_2, e82_3, e82_6, e82_7, e82_8, e82_9, e82_12, e82_13, e82_14, e82_17, e82_18, e82_19, e82_21, e82_22, e82_26, e82_28, e82_31, e82_32, e82_33, e82_36, e82_37, e82_38, e82_39, e82_40, e82_42, e82_45, e82_48, e82_50, e82_51, e82_53, e82_54, e82_55, e82_57, e82_60, e82_63, e82_65, c82, i10, i00, n2, n10, n20, n60, n8, n9, bi0, ite_not, List.replicate, Nat.reduceAdd, Nat.reduceSub, Nat.reduceLeDiff, Nat.reduceLT, if_true, if_false, mg, reduceIte, not_false_eq_true, eq_self, and_self, and_true, true_and, true_or, or_true, Nat.reduceEqDiff, (nI_lt (show 6 < v by omega) (by omega))]
    rfl
  | succ k ih =>
    intro v a S h hS hD
    obtain ⟨S1, k1, h1⟩ := t_isAsTold (X := X) (S := S) (j := 0) (v := nI v) hn hm hs hi (by decide) (by rw [hS]; exact hz) ((hD (10, s, 0) 2 (nj (by simp))).trans h2)
    have e11 : (fun y => S.2 (11, s, 0) y) = (fun y => D0 (11, s, 0) y) := funext (fun y => hD (11, s, 0) y (nj (by simp)))
    rw [hS, e11] at h1
    obtain ⟨S2, k2, h3⟩ := ih (v + 1) (stS (tTv D0 r0 n m s i 0) v a) S1 (by omega) ((k1.2 0 (by decide)).trans hS) (eqJ_tr hD k1.1)
    refine ⟨S2, kx_tr k1 k2, ?_⟩
    rw [lp_s, ← h3, e82_24]
    simp only [nl_n, nl_i, nl_r, x_ci, x_ca, x_bin, x_ife, x_ifl, x_ifg, x_cme, x_cml, x_cmg, x_go, x_no, x_b, x_ps, x_pn, cs_n, cs_i, cs_j, cs_r, en_n, en_i, en_j, en_r, xa0, xi1, xi2, x_k3_0, xs3n, xs3i, xs3r, xi3, x_k2_0, r_i, r_j, r_v, r_z1, r_z0, r_a, xs4n, xs4i, xs4r, xs5n, xs5i, xs5r, xi5, g_0_4, l_2, l_9, l_27, x_k5_0, xi4, xn5n, xn5i, xn5r, e82_0, e82_1, e82_2, e82_3, e82_6, e82_7, e82_8, e82_9, e82_12, e82_13, e82_14, e82_17, e82_18, e82_19, e82_21, e82_22, e82_26, e82_28, e82_31, e82_32, e82_33, e82_36, e82_37, e82_38, e82_39, e82_40, e82_42, e82_45, e82_48, e82_50, e82_51, e82_53, e82_54, e82_55, e82_57, e82_60, e82_63, e82_65, c82, i10, i00, n2, n10, n20, n60, n8, n9, bi0, ite_not, List.replicate, Nat.reduceAdd, Nat.reduceSub, Nat.reduceLeDiff, Nat.reduceLT, if_true, if_false, mg, reduceIte, not_false_eq_true, eq_self, and_self, and_true, true_and, true_or, or_true, Nat.reduceEqDiff, (nI_nlt (show v ≤ 6 by omega) (by decide)), hs, h1, nI_add]
    unfold stS
    by_cases c : tTv D0 r0 n m s i 0 v = true
    · rw [if_pos c, if_pos c]
      rw [if_pos (show v < 32 by omega)]
    · rw [if_neg c, if_neg c]
theorem l_datex {X : aX} {D0 : aD} {r0 : Nat → Int32} {n m s i : Nat} {f : Int32} (hn : n ≤ 8) (hm : m ≤ 40) (hs : s < 4) (hi : i < n) (hz : r0 1 = nI n) (h2 : D0 (10, s, 0) 2 = nI m) : ∀ k v S, v + k = 60 → S.1 0 = r0 → eqJ D0 S.2 → ∃ S', kx S S' ∧ go X 81 21 [some (aR (0, 0, 0)), some (aI (nI s)), some (aI (nI i)), some (aI f), some (aI (nI v))] [] (mem S) = rsO (fsF (tTv D0 r0 n m s i 1) k v) S'.1 S'.2 := by
  intro k
  induction k with
  | zero =>
    intro v S h hS hD
    refine ⟨S, kx_rfl S, ?_⟩
    rw [e81_21]
    simp only [nl_n, nl_i, nl_r, x_ci, x_ca, x_bin, x_ife, x_ifl, x_ifg, x_cme, x_cml, x_cmg, x_go, x_no, x_b, x_ps, x_pn, cs_n, cs_i, cs_j, cs_r, en_n, en_i, en_j, en_r, xa0, xi1, xi2, x_k3_0, xs3n, xs3i, xs3r, xi3, x_k2_0, r_i, r_j, r_v, r_z1, r_z0, r_a, xs4n, xs4i, xs4r, xi4, g_0_4, l_2, l_9, l_27, x_k5_0, xn4n, xn4i, xn4r, e81_0, e81_1, e81_2, e81_3, e81_6, e81_7, e81_8, e81_9, e81_12, e81_13, e81_14, e81_17, e81_18, e81_19, e81_23, e81_25, e81_28, e81_29, e81_30, e81_33, e81_34, e81_35, e81_36, e81_37, e81_39, e81_42, e81_45, e81_47, e81_48, e81_51, e81_54, e81_55, e81_56, e81_59, c81, i10, i00, n2, n10, n20, n60, n8, n9, bi0, ite_not, List.replicate, Nat.reduceAdd, Nat.reduceSub, Nat.reduceLeDiff, Nat.reduceLT, if_true, if_false, mg, reduceIte, not_false_eq_true, eq_self, and_self, and_true, true_and, true_or, or_true, Nat.reduceEqDiff, (nI_nlt (show 60 ≤ v by omega) (by omega)), tel3]
    rfl
  | succ k ih =>
    intro v S h hS hD
    obtain ⟨S1, k1, h1⟩ := t_isAsTold (X := X) (S := S) (j := 1) (v := nI v) hn hm hs hi (by decide) (by rw [hS]; exact hz) ((hD (10, s, 0) 2 (nj (by simp))).trans h2)
    have e11 : (fun y => S.2 (11, s, 0) y) = (fun y => D0 (11, s, 0) y) := funext (fun y => hD (11, s, 0) y (nj (by simp)))
    rw [hS, e11] at h1
    rw [fsF_s]
    by_cases c : tTv D0 r0 n m s i 1 v = true
    · refine ⟨S1, k1, ?_⟩
      rw [if_pos c, rsO_n (by omega), e81_21]
      simp only [nl_n, nl_i, nl_r, x_ci, x_ca, x_bin, x_ife, x_ifl, x_ifg, x_cme, x_cml, x_cmg, x_go, x_no, x_b, x_ps, x_pn, cs_n, cs_i, cs_j, cs_r, en_n, en_i, en_j, en_r, xa0, xi1, xi2, x_k3_0, xs3n, xs3i, xs3r, xi3, x_k2_0, r_i, r_j, r_v, r_z1, r_z0, r_a, xs4n, xs4i, xs4r, xi4, g_0_4, l_2, l_9, l_27, x_k5_0, xn4n, xn4i, xn4r, e81_0, e81_1, e81_2, e81_3, e81_6, e81_7, e81_8, e81_9, e81_12, e81_13, e81_14, e81_17, e81_18, e81_19, e81_23, e81_25, e81_28, e81_29, e81_30, e81_33, e81_34, e81_35, e81_36, e81_37, e81_39, e81_42, e81_45, e81_47, e81_48, e81_51, e81_54, e81_55, e81_56, e81_59, c81, i10, i00, n2, n10, n20, n60, n8, n9, bi0, ite_not, List.replicate, Nat.reduceAdd, Nat.reduceSub, Nat.reduceLeDiff, Nat.reduceLT, if_true, if_false, mg, reduceIte, not_false_eq_true, eq_self, and_self, and_true, true_and, true_or, or_true, Nat.reduceEqDiff, (nI_lt (show v < 60 by omega) (by decide)), hs, h1, (bi_t c)]
    · obtain ⟨S2, k2, h3⟩ := ih (v + 1) S1 (by omega) ((k1.2 0 (by decide)).trans hS) (eqJ_tr hD k1.1)
      refine ⟨S2, kx_tr k1 k2, ?_⟩
      rw [if_neg c, ← h3, e81_21]
      simp only [nl_n, nl_i, nl_r, x_ci, x_ca, x_bin, x_ife, x_ifl, x_ifg, x_cme, x_cml, x_cmg, x_go, x_no, x_b, x_ps, x_pn, cs_n, cs_i, cs_j, cs_r, en_n, en_i, en_j, en_r, xa0, xi1, xi2, x_k3_0, xs3n, xs3i, xs3r, xi3, x_k2_0, r_i, r_j, r_v, r_z1, r_z0, r_a, xs4n, xs4i, xs4r, xi4, g_0_4, l_2, l_9, l_27, x_k5_0, xn4n, xn4i, xn4r, e81_0, e81_1, e81_2, e81_3, e81_6, e81_7, e81_8, e81_9, e81_12, e81_13, e81_14, e81_17, e81_18, e81_19, e81_23, e81_25, e81_28, e81_29, e81_30, e81_33, e81_34, e81_35, e81_36, e81_37, e81_39, e81_42, e81_45, e81_47, e81_48, e81_51, e81_54, e81_55, e81_56, e81_59, c81, i10, i00, n2, n10, n20, n60, n8, n9, bi0, ite_not, List.replicate, Nat.reduceAdd, Nat.reduceSub, Nat.reduceLeDiff, Nat.reduceLT, if_true, if_false, mg, reduceIte, not_false_eq_true, eq_self, and_self, and_true, true_and, true_or, or_true, Nat.reduceEqDiff, (nI_lt (show v < 60 by omega) (by decide)), hs, h1, (bi_f c), nI_add]
theorem l_fit {X : aX} {D0 : aD} {r0 : Nat → Int32} {n m s i j M : Nat} {w : Int32} (hn : n ≤ 8) (hm : m ≤ 40) (hs : s < 4) (hi : i < n) (hj : j < 10) (hM : M ≤ 60) (hw : r0 (14 + 10 * i + j) = w) (hV : ∀ v, v < M → RI n (upd r0 (14 + 10 * i + j) (nI v))) (h2 : D0 (30, 0, 0) s = nI m) : ∀ k v st nn f S, v + k = M → (∀ p, p < 94 → p ≠ 14 + 10 * i + j → S.1 3 p = r0 p) → eqJ (uD D0 (20, 0, 0) 6 f) S.2 → ∃ S', (∀ a, a ≠ 3 → a ≠ 5 → S'.1 a = S.1 a) ∧ a94 (S'.1 3) r0 ∧ eqJ (uD D0 (20, 0, 0) 6 (lp (ffS (tTm D0 r0 n m s i j)) k v f)) S'.2 ∧ go X 174 22 [some (aR (20, 0, 0)), some (aI (nI s)), some (aI (nI i)), some (aI (nI (14 + 10 * i + j))), some (aI (nI M)), some (aI w), some (aI st), some (aI nn), some (aI (nI v))] [] (mem S) = some (some (aI (if M = 60 then lp (cnS (tTm D0 r0 n m s i j)) k v nn else lp (stS (tTm D0 r0 n m s i j)) k v st)), mem S') := by
  have hp : 14 + 10 * i + j < 94 := by omega
  have hp7 : 14 + 10 * i + 7 < 94 := by omega
  intro k
  induction k with
  | zero =>
    intro v st nn f S h hI hD
    refine ⟨(rq S.1 3 (upd (S.1 3) (14 + 10 * i + j) w), S.2), fun a h3 h5 => rq_ne h3, ?_, hD, ?_⟩
    · intro p hp
      show upd (S.1 3) (14 + 10 * i + j) w p = _
      by_cases c : p = 14 + 10 * i + j
      · rw [c, pk_us, hw]
      · rw [pk_un c]; exact hI p hp c
    · rw [e174_22]
      simp only [nl_n, nl_i, nl_r, x_ci, x_ca, x_bin, x_ife, x_ifl, x_ifg, x_cme, x_cml, x_cmg, x_go, x_no, x_b, x_ps, x_pn, cs_n, cs_i, cs_j, cs_r, en_n, en_i, en_j, en_r, xa0, g_20_0, xi3, l_3, l_5, l_8, l_11, l_12, l_21, l_22, l_23, l_24, l_25, l_26, l_28, l_29, l_30, l_31, l_32, xs5n, xs5i, xs5r, xs6n, xs6i, xs6r, xs7n, xs7i, xs7r, p_20_6, xs8n, xs8i, xs8r, xi8, xi4, s_3, s_5, s_8, s_11, s_12, s_21, s_22, s_23, s_24, s_25, s_26, s_28, s_29, s_30, s_31, s_32, xi1, xi2, x_k2_s, x_k3_20, xn7n, xn7i, xn7r, g_20_6, xi6, xn8n, xn8i, xn8r, xi5, xi7, r_i, r_j, r_v, r_z1, r_z0, r_a, e174_0, e174_1, e174_4, e174_5, e174_6, e174_8, e174_9, e174_11, e174_12, e174_14, e174_15, e174_16, e174_19, e174_20, e174_24, e174_26, e174_29, e174_30, e174_33, e174_34, e174_36, e174_37, e174_38, e174_39, e174_40, e174_42, e174_45, e174_48, e174_51, e174_54, e174_55, e174_56, e174_59, e174_62, e174_64, e174_67, e174_68, e174_71, e174_74, e174_76, e174_78, e174_80, e174_83, e174_84, e174_86, e174_87, e174_90, e174_91, e174_92, e174_94, e174_97, e174_100, e174_101, e174_104, e174_105, e174_107, e174_108, e174_110, e174_112, e174_115, e174_117, e174_120, e174_122, c174, i10, i00, n2, n10, n20, n60, n8, n9, bi0, ite_not, List.replicate, Nat.reduceAdd, Nat.reduceSub, Nat.reduceLeDiff, Nat.reduceLT, if_true, if_false, mg, reduceIte, not_false_eq_true, eq_self, and_self, and_true, true_and, true_or, or_true, Nat.reduceEqDiff, (nI_nlt (show M ≤ v by omega) (by omega)), hp, uq_rq, (nq (show M < 1000 by omega) (show 60 < 1000 by decide))]
      rfl
  | succ k ih =>
    intro v st nn f S h hI hD
    have hRv : RI n (upd (S.1 3) (14 + 10 * i + j) (nI v)) := ag_RI (ag_sym (a94_ag hn (a94_u hI))) (hV v (by omega))
    have e30 : S.2 (30, 0, 0) s = nI m := (hD (30, 0, 0) s (nj (by simp))).trans ((uD_c (by decide)).trans h2)
    have e6 : S.2 (20, 0, 0) 6 = f := (hD (20, 0, 0) 6 (by unfold jk; omega)).trans (uD_at ..)
    obtain ⟨S1, k1, a1, h1⟩ := t_isSo (X := X) (S := (rq S.1 3 (upd (S.1 3) (14 + 10 * i + j) (nI v)), S.2)) hm hs hp7 e30 (show RI n (rq S.1 3 (upd (S.1 3) (14 + 10 * i + j) (nI v)) 3) from hRv)
    have eT : soT (fun y => S.2 (31, 0, 0) (40 * s + y)) n (14 + 10 * i + 7) m 0 (upd (S.1 3) (14 + 10 * i + j) (nI v)) = tTm D0 r0 n m s i j v := soT_c hn (by omega) m 0 _ _ (fun y _ => (hD (31, 0, 0) (40 * s + y) (nj (by simp))).trans (uD_c (by decide))) (a94_ag hn (a94_u hI))
    rw [show (rq S.1 3 (upd (S.1 3) (14 + 10 * i + j) (nI v)), S.2).1 3 = upd (S.1 3) (14 + 10 * i + j) (nI v) from rfl, show (rq S.1 3 (upd (S.1 3) (14 + 10 * i + j) (nI v)), S.2).2 = S.2 from rfl, eT] at h1
    have hI1 : ∀ p, p < 94 → p ≠ 14 + 10 * i + j → S1.1 3 p = r0 p := fun p hp hne => (a1 p hp).trans ((show upd (S.1 3) (14 + 10 * i + j) (nI v) p = S.1 3 p from pk_un hne).trans (hI p hp hne))
    have k0 : ∀ a, a ≠ 3 → a ≠ 5 → S1.1 a = S.1 a := fun a h3 h5 => (k1.2 a h3 h5).trans (rq_ne h3)
    have hD1 : eqJ (uD D0 (20, 0, 0) 6 f) S1.2 := eqJ_tr hD k1.1
    have e61 : S1.2 (20, 0, 0) 6 = f := (hD1 (20, 0, 0) 6 (by unfold jk; omega)).trans (uD_at ..)
    rw [lp_s, lp_s, lp_s]
    by_cases c : tTm D0 r0 n m s i j v = true
    · have hD2 : eqJ (uD D0 (20, 0, 0) 6 (if f < 0 then nI v else f)) (uD S1.2 (20, 0, 0) 6 (if f < 0 then nI v else f)) := by
        intro r y hy
        by_cases e : r = (20, 0, 0) ∧ y = 6
        · rw [e.1, e.2, uD_at, uD_at]
        · rw [uD_x e, uD_x e]
          exact (hD1 r y hy).trans (uD_x e)
      obtain ⟨S2, k2, a2, d2, h3⟩ := ih (v + 1) (st ||| (if v < 32 then bit1 v else nI 0)) (nn + nI 1) (if f < 0 then nI v else f) (S1.1, uD S1.2 (20, 0, 0) 6 (if f < 0 then nI v else f)) (by omega) hI1 hD2
      refine ⟨S2, fun a h3 h5 => (k2 a h3 h5).trans (k0 a h3 h5), a2, ?_, ?_⟩
      · rw [show ffS (tTm D0 r0 n m s i j) v f = (if f < 0 then nI v else f) from if_pos c]; exact d2
      · rw [show cnS (tTm D0 r0 n m s i j) v nn = nn + nI 1 from if_pos c, show stS (tTm D0 r0 n m s i j) v st = st ||| (if v < 32 then bit1 v else nI 0) from if_pos c, ← h3, e174_22]
        have e32 : (nI v < nI 32) = (v < 32) := propext (nI_ltI (by omega) (by decide))
        simp only [nl_n, nl_i, nl_r, x_ci, x_ca, x_bin, x_ife, x_ifl, x_ifg, x_cme, x_cml, x_cmg, x_go, x_no, x_b, x_ps, x_pn, cs_n, cs_i, cs_j, cs_r, en_n, en_i, en_j, en_r, xa0, g_20_0, xi3, l_3, l_5, l_8, l_11, l_12, l_21, l_22, l_23, l_24, l_25, l_26, l_28, l_29, l_30, l_31, l_32, xs5n, xs5i, xs5r, xs6n, xs6i, xs6r, xs7n, xs7i, xs7r, p_20_6, xs8n, xs8i, xs8r, xi8, xi4, s_3, s_5, s_8, s_11, s_12, s_21, s_22, s_23, s_24, s_25, s_26, s_28, s_29, s_30, s_31, s_32, xi1, xi2, x_k2_s, x_k3_20, xn7n, xn7i, xn7r, g_20_6, xi6, xn8n, xn8i, xn8r, xi5, xi7, r_i, r_j, r_v, r_z1, r_z0, r_a, e174_0, e174_1, e174_4, e174_5, e174_6, e174_8, e174_9, e174_11, e174_12, e174_14, e174_15, e174_16, e174_19, e174_20, e174_24, e174_26, e174_29, e174_30, e174_33, e174_34, e174_36, e174_37, e174_38, e174_39, e174_40, e174_42, e174_45, e174_48, e174_51, e174_54, e174_55, e174_56, e174_59, e174_62, e174_64, e174_67, e174_68, e174_71, e174_74, e174_76, e174_78, e174_80, e174_83, e174_84, e174_86, e174_87, e174_90, e174_91, e174_92, e174_94, e174_97, e174_100, e174_101, e174_104, e174_105, e174_107, e174_108, e174_110, e174_112, e174_115, e174_117, e174_120, e174_122, c174, i10, i00, n2, n10, n20, n60, n8, n9, bi0, ite_not, List.replicate, Nat.reduceAdd, Nat.reduceSub, Nat.reduceLeDiff, Nat.reduceLT, if_true, if_false, mg, reduceIte, not_false_eq_true, eq_self, and_self, and_true, true_and, true_or, or_true, Nat.reduceEqDiff, (nI_lt (show v < M by omega) (by omega)), hp, uq_rq, t_at, h1, (bi_t c), e61, e32, nI_add]
        by_cases c3 : f < 0
        · simp only [if_pos c3]
          by_cases c4 : v < 32
          · simp only [if_pos c4]
          · simp only [if_neg c4]
        · simp only [if_neg c3]
          by_cases c4 : v < 32
          · simp only [if_pos c4]
          · simp only [if_neg c4]
    · obtain ⟨S2, k2, a2, d2, h3⟩ := ih (v + 1) st nn f S1 (by omega) hI1 hD1
      refine ⟨S2, fun a h3 h5 => (k2 a h3 h5).trans (k0 a h3 h5), a2, ?_, ?_⟩
      · rw [show ffS (tTm D0 r0 n m s i j) v f = f from if_neg c]; exact d2
      · rw [show cnS (tTm D0 r0 n m s i j) v nn = nn from if_neg c, show stS (tTm D0 r0 n m s i j) v st = st from if_neg c, ← h3, e174_22]
        simp only [nl_n, nl_i, nl_r, x_ci, x_ca, x_bin, x_ife, x_ifl, x_ifg, x_cme, x_cml, x_cmg, x_go, x_no, x_b, x_ps, x_pn, cs_n, cs_i, cs_j, cs_r, en_n, en_i, en_j, en_r, xa0, g_20_0, xi3, l_3, l_5, l_8, l_11, l_12, l_21, l_22, l_23, l_24, l_25, l_26, l_28, l_29, l_30, l_31, l_32, xs5n, xs5i, xs5r, xs6n, xs6i, xs6r, xs7n, xs7i, xs7r, p_20_6, xs8n, xs8i, xs8r, xi8, xi4, s_3, s_5, s_8, s_11, s_12, s_21, s_22, s_23, s_24, s_25, s_26, s_28, s_29, s_30, s_31, s_32, xi1, xi2, x_k2_s, x_k3_20, xn7n, xn7i, xn7r, g_20_6, xi6, xn8n, xn8i, xn8r, xi5, xi7, r_i, r_j, r_v, r_z1, r_z0, r_a, e174_0, e174_1, e174_4, e174_5, e174_6, e174_8, e174_9, e174_11, e174_12, e174_14, e174_15, e174_16, e174_19, e174_20, e174_24, e174_26, e174_29, e174_30, e174_33, e174_34, e174_36, e174_37, e174_38, e174_39, e174_40, e174_42, e174_45, e174_48, e174_51, e174_54, e174_55, e174_56, e174_59, e174_62, e174_64, e174_67, e174_68, e174_71, e174_74, e174_76, e174_78, e174_80, e174_83, e174_84, e174_86, e174_87, e174_90, e174_91, e174_92, e174_94, e174_97, e174_100, e174_101, e174_104, e174_105, e174_107, e174_108, e174_110, e174_112, e174_115, e174_117, e174_120, e174_122, c174, i10, i00, n2, n10, n20, n60, n8, n9, bi0, ite_not, List.replicate, Nat.reduceAdd, Nat.reduceSub, Nat.reduceLeDiff, Nat.reduceLT, if_true, if_false, mg, reduceIte, not_false_eq_true, eq_self, and_self, and_true, true_and, true_or, or_true, Nat.reduceEqDiff, (nI_lt (show v < M by omega) (by omega)), hp, uq_rq, t_at, h1, (bi_f c), nI_add]
