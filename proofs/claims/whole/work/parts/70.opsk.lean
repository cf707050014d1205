/-! the greatest age -/
def dsc (Q : Nat → Prop) [DecidablePred Q] : Nat → Int32
  | 0 => -1
  | a + 1 => if Q a then nI a else dsc Q a
theorem dsc_s (Q : Nat → Prop) [DecidablePred Q] (a : Nat) : dsc Q (a + 1) = if Q a then nI a else dsc Q a := rfl
theorem dsc_v (Q : Nat → Prop) [DecidablePred Q] : ∀ a, a ≤ 121 → dsc Q a = -1 ∨ ∃ j, j ≤ 400 ∧ dsc Q a = nI j := by
  intro a
  induction a with
  | zero => intro _; exact Or.inl rfl
  | succ a ih =>
    intro h
    rw [dsc_s]
    split
    · exact Or.inr ⟨a, by omega, rfl⟩
    · exact ih (by omega)
theorem dsc_lp (Q : Nat → Prop) [DecidablePred Q] : ∀ k, lp (fun a b => if Q a then nI a else b) k 0 (-1) = dsc Q k := by
  intro k
  induction k with
  | zero => rfl
  | succ k ih => rw [lp_r, ih, Nat.zero_add]; rfl
theorem dsc_c {Q Q' : Nat → Prop} [DecidablePred Q] [DecidablePred Q'] (h : ∀ a, Q a = Q' a) : ∀ k, dsc Q k = dsc Q' k := by
  intro k
  induction k with
  | zero => rfl
  | succ k ih => rw [dsc_s, dsc_s, ih]; simp only [h]
theorem gap_u4 {r r' : Nat → Int32} {i : Nat} {x : Int32} (h0 : r (14 + 10 * i + 0) = r' (14 + 10 * i + 0)) (h3 : r (14 + 10 * i + 3) = r' (14 + 10 * i + 3)) : gapF (upd r (14 + 10 * i + 4) x) i = gapF (upd r' (14 + 10 * i + 4) x) i := by
  unfold gapF
  simp only [u_f, if_true]
  simp only [h0, h3]
theorem l_agex {X : aX} {q : Nat → Nat → Int32} {D : aD} {n i : Nat} {v : Int32} {r0 : Nat → Int32} (hn : n ≤ 8) (hi : i < n) : ∀ k r, k ≤ 121 → r 1 = nI n → r (14 + 10 * i + 0) = r0 (14 + 10 * i + 0) → r (14 + 10 * i + 3) = r0 (14 + 10 * i + 3) → ∃ r1, go X 77 41 [some (aR (0, 0, 0)), some (aI (nI i)), some (aI v), some (aI (nI k - nI 1))] [] (mem (rq q 1 r, D)) = rsO (dsc (fun a => ¬ v < gapF (upd r0 (14 + 10 * i + 4) (nI a)) i) k) (rq q 1 r1) D := by
  intro k
  induction k with
  | zero =>
    intro r hk hr h0 h3
    refine ⟨r, ?_⟩
    have e : nI 0 - nI 1 < 0 := by decide +kernel
    rw [e77_41]
    simp only [nl_n, nl_i, nl_r, x_ci, x_ca, x_bin, x_ife, x_ifl, x_ifg, x_cme, x_cml, x_cmg, x_go, x_no, x_b, x_ps, x_pn, cs_n, cs_i, cs_j, cs_r, en_n, en_i, en_j, en_r, xa0, g_0_0, xi1, x_k2_1, xi2, x_k3_s, x_k2_0, r_i, r_j, r_v, r_z1, r_z0, r_a, g_0_1, xs3n, xs3i, xs3r, xi3, x_k4_1, x_k3_1, xn3n, xn3i, xn3r, e77_0, e77_1, e77_4, e77_5, e77_8, e77_11, e77_12, e77_13, e77_15, e77_18, e77_21, e77_22, e77_23, e77_26, e77_27, e77_28, e77_31, e77_32, e77_35, e77_38, e77_40, e77_42, e77_45, e77_46, e77_49, e77_50, e77_51, e77_52, e77_55, e77_56, e77_59, e77_60, e77_62, e77_65, e77_66, e77_69, e77_70, e77_71, e77_74, e77_77, e77_78, e77_79, e77_82, c77, i10, i00, n2, n10, n20, n60, n8, n9, bi0, ite_not, List.replicate, Nat.reduceAdd, Nat.reduceSub, Nat.reduceLeDiff, Nat.reduceLT, if_true, if_false, mg, reduceIte, not_false_eq_true, eq_self, and_self, and_true, true_and, true_or, or_true, Nat.reduceEqDiff, e, tel3]
    rfl
  | succ k ih =>
    intro r hk hr h0 h3
    have e : nI (k + 1) - nI 1 = nI k := nI_pred k
    have e1 : nI k + -1 = nI k - nI 1 := by rw [Int32.sub_eq_add_neg, show -(nI 1) = (-1 : Int32) by decide +kernel]
    have hp := t_put (X := X) (S := (rq q 1 r, D)) (a := 1) (j := 4) (v := nI k) (by decide) hn hi (by decide) (at_r hr)
    have hl := t_look (X := X) (S := (rq q 1 (upd r (14 + 10 * i + 4) (nI k)), D)) (a := 1) (j := 10) (by decide) hn hi (by decide) (at_r ((u_1 ..).trans hr))
    have eg : lkF n (upd r (14 + 10 * i + 4) (nI k)) i 10 = gapF (upd r0 (14 + 10 * i + 4) (nI k)) i := gap_u4 h0 h3
    rw [show (rq q 1 (upd r (14 + 10 * i + 4) (nI k)), D).1 1 = upd r (14 + 10 * i + 4) (nI k) from rfl, eg] at hl
    by_cases c : v < gapF (upd r0 (14 + 10 * i + 4) (nI k)) i
    · obtain ⟨r1, h1⟩ := ih (upd r (14 + 10 * i + 4) (nI k)) (by omega) ((u_1 ..).trans hr) (by rw [u_f]; exact h0) (by rw [u_f]; exact h3)
      refine ⟨r1, ?_⟩
      rw [dsc_s, if_neg (fun w => w c), ← h1, e77_41, e]
      simp only [nl_n, nl_i, nl_r, x_ci, x_ca, x_bin, x_ife, x_ifl, x_ifg, x_cme, x_cml, x_cmg, x_go, x_no, x_b, x_ps, x_pn, cs_n, cs_i, cs_j, cs_r, en_n, en_i, en_j, en_r, xa0, g_0_0, xi1, x_k2_1, xi2, x_k3_s, x_k2_0, r_i, r_j, r_v, r_z1, r_z0, r_a, g_0_1, xs3n, xs3i, xs3r, xi3, x_k4_1, x_k3_1, xn3n, xn3i, xn3r, e77_0, e77_1, e77_4, e77_5, e77_8, e77_11, e77_12, e77_13, e77_15, e77_18, e77_21, e77_22, e77_23, e77_26, e77_27, e77_28, e77_31, e77_32, e77_35, e77_38, e77_40, e77_42, e77_45, e77_46, e77_49, e77_50, e77_51, e77_52, e77_55, e77_56, e77_59, e77_60, e77_62, e77_65, e77_66, e77_69, e77_70, e77_71, e77_74, e77_77, e77_78, e77_79, e77_82, c77, i10, i00, n2, n10, n20, n60, n8, n9, bi0, ite_not, List.replicate, Nat.reduceAdd, Nat.reduceSub, Nat.reduceLeDiff, Nat.reduceLT, if_true, if_false, mg, reduceIte, not_false_eq_true, eq_self, and_self, and_true, true_and, true_or, or_true, Nat.reduceEqDiff, (nI_pos (show k < 2 ^ 31 by omega)), hp, rq_rq, rq_at, hl, c, e1]
    · refine ⟨upd r (14 + 10 * i + 4) (nI k), ?_⟩
      rw [dsc_s, if_pos c, rsO_n (by omega), e77_41, e]
      simp only [nl_n, nl_i, nl_r, x_ci, x_ca, x_bin, x_ife, x_ifl, x_ifg, x_cme, x_cml, x_cmg, x_go, x_no, x_b, x_ps, x_pn, cs_n, cs_i, cs_j, cs_r, en_n, en_i, en_j, en_r, xa0, g_0_0, xi1, x_k2_1, xi2, x_k3_s, x_k2_0, r_i, r_j, r_v, r_z1, r_z0, r_a, g_0_1, xs3n, xs3i, xs3r, xi3, x_k4_1, x_k3_1, xn3n, xn3i, xn3r, e77_0, e77_1, e77_4, e77_5, e77_8, e77_11, e77_12, e77_13, e77_15, e77_18, e77_21, e77_22, e77_23, e77_26, e77_27, e77_28, e77_31, e77_32, e77_35, e77_38, e77_40, e77_42, e77_45, e77_46, e77_49, e77_50, e77_51, e77_52, e77_55, e77_56, e77_59, e77_60, e77_62, e77_65, e77_66, e77_69, e77_70, e77_71, e77_74, e77_77, e77_78, e77_79, e77_82, c77, i10, i00, n2, n10, n20, n60, n8, n9, bi0, ite_not, List.replicate, Nat.reduceAdd, Nat.reduceSub, Nat.reduceLeDiff, Nat.reduceLT, if_true, if_false, mg, reduceIte, not_false_eq_true, eq_self, and_self, and_true, true_and, true_or, or_true, Nat.reduceEqDiff, (nI_pos (show k < 2 ^ 31 by omega)), hp, rq_rq, rq_at, hl, c]
theorem l_agem {X : aX} {q : Nat → Nat → Int32} {D : aD} {n i p0 : Nat} {v w : Int32} {r0 : Nat → Int32} (hn : n ≤ 8) (hi : i < n) (hp0 : p0 = 14 + 10 * i + 4) (hw : r0 p0 = w) : ∀ k a b r, a + k = 121 → (∀ p, p < 94 → p ≠ p0 → r p = r0 p) → (b = -1 ∨ ∃ j, j ≤ 400 ∧ b = nI j) → ∃ r1, a94 r1 r0 ∧ go X 168 45 [some (aR (20, 0, 0)), some (aI (nI i)), some (aI v), some (aI (nI p0)), some (aI w), some (aI b), some (aI (nI a))] [] (mem (rq q 3 r, D)) = (if lp (fun a b => if ¬ v < gapF (upd r0 (14 + 10 * i + 4) (nI a)) i then nI a else b) k a b = -1 then some (some (aI (-1000004)), mem (rq q 3 r1, fdD 3 D)) else some (some (aI (lp (fun a b => if ¬ v < gapF (upd r0 (14 + 10 * i + 4) (nI a)) i then nI a else b) k a b)), mem (rq q 3 r1, D))) := by
  have hp : p0 < 94 := by omega
  intro k
  induction k with
  | zero =>
    intro a b r h hI hb
    refine ⟨upd r p0 w, ?_, ?_⟩
    · intro p hp
      by_cases c : p = p0
      · rw [c, pk_us, hw]
      · rw [pk_un c]; exact hI p hp c
    · rw [lp_0, e168_45]
      simp only [nl_n, nl_i, nl_r, x_ci, x_ca, x_bin, x_ife, x_ifl, x_ifg, x_cme, x_cml, x_cmg, x_go, x_no, x_b, x_ps, x_pn, cs_n, cs_i, cs_j, cs_r, en_n, en_i, en_j, en_r, xa0, xi1, x_k2_20, xi2, x_k3_s, r_i, r_j, r_v, r_z1, r_z0, r_a, x_k2_s, xs3n, xs3i, xs3r, g_20_0, xi3, l_3, l_5, l_8, l_11, l_12, l_21, l_22, l_23, l_24, l_25, l_26, l_28, l_29, l_30, l_31, l_32, xs4n, xs4i, xs4r, xs5n, xs5i, xs5r, xs6n, xs6i, xs6r, xi6, s_3, s_5, s_8, s_11, s_12, s_21, s_22, s_23, s_24, s_25, s_26, s_28, s_29, s_30, s_31, s_32, xi5, xn6n, xn6i, xn6r, xi4, e168_0, e168_1, e168_2, e168_5, e168_8, e168_9, e168_10, e168_12, e168_15, e168_18, e168_19, e168_21, e168_24, e168_25, e168_26, e168_27, e168_30, e168_31, e168_32, e168_35, e168_36, e168_37, e168_39, e168_40, e168_42, e168_43, e168_47, e168_49, e168_52, e168_53, e168_56, e168_57, e168_59, e168_60, e168_61, e168_62, e168_65, e168_66, e168_69, e168_71, e168_74, e168_76, e168_78, e168_81, e168_84, e168_85, e168_88, e168_89, e168_91, e168_92, e168_93, e168_95, e168_98, c168, i10, i00, n2, n10, n20, n60, n8, n9, bi0, ite_not, List.replicate, Nat.reduceAdd, Nat.reduceSub, Nat.reduceLeDiff, Nat.reduceLT, if_true, if_false, mg, reduceIte, not_false_eq_true, eq_self, and_self, and_true, true_and, true_or, or_true, Nat.reduceEqDiff, (nI_lt (show 120 < a by omega) (by omega)), hp, uq_rq, rq_rq, rq_at, (t_orNone hb), bnd_if]
  | succ k ih =>
    intro a b r h hI hb
    have hi8 : i < 8 := by omega
    have hg := t_gap6 (X := X) (S := (rq q 3 (upd r p0 (nI a)), D)) hi8
    have eg : gapF (upd r p0 (nI a)) i = gapF (upd r0 (14 + 10 * i + 4) (nI a)) i := by
      rw [hp0]
      exact gap_u4 (hI _ (by omega) (by omega)) (hI _ (by omega) (by omega))
    rw [show (rq q 3 (upd r p0 (nI a)), D).1 3 = upd r p0 (nI a) from rfl, eg] at hg
    obtain ⟨r1, a1, h1⟩ := ih (a + 1) (if ¬ v < gapF (upd r0 (14 + 10 * i + 4) (nI a)) i then nI a else b) (upd r p0 (nI a)) (by omega) (fun p hp hne => (pk_un hne).trans (hI p hp hne)) (by
      split
      · exact Or.inr ⟨a, by omega, rfl⟩
      · exact hb)
    refine ⟨r1, a1, ?_⟩
    rw [lp_s, ← h1, e168_45]
    simp only [nl_n, nl_i, nl_r, x_ci, x_ca, x_bin, x_ife, x_ifl, x_ifg, x_cme, x_cml, x_cmg, x_go, x_no, x_b, x_ps, x_pn, cs_n, cs_i, cs_j, cs_r, en_n, en_i, en_j, en_r, xa0, xi1, x_k2_20, xi2, x_k3_s, r_i, r_j, r_v, r_z1, r_z0, r_a, x_k2_s, xs3n, xs3i, xs3r, g_20_0, xi3, l_3, l_5, l_8, l_11, l_12, l_21, l_22, l_23, l_24, l_25, l_26, l_28, l_29, l_30, l_31, l_32, xs4n, xs4i, xs4r, xs5n, xs5i, xs5r, xs6n, xs6i, xs6r, xi6, s_3, s_5, s_8, s_11, s_12, s_21, s_22, s_23, s_24, s_25, s_26, s_28, s_29, s_30, s_31, s_32, xi5, xn6n, xn6i, xn6r, xi4, e168_0, e168_1, e168_2, e168_5, e168_8, e168_9, e168_10, e168_12, e168_15, e168_18, e168_19, e168_21, e168_24, e168_25, e168_26, e168_27, e168_30, e168_31, e168_32, e168_35, e168_36, e168_37, e168_39, e168_40, e168_42, e168_43, e168_47, e168_49, e168_52, e168_53, e168_56, e168_57, e168_59, e168_60, e168_61, e168_62, e168_65, e168_66, e168_69, e168_71, e168_74, e168_76, e168_78, e168_81, e168_84, e168_85, e168_88, e168_89, e168_91, e168_92, e168_93, e168_95, e168_98, c168, i10, i00, n2, n10, n20, n60, n8, n9, bi0, ite_not, List.replicate, Nat.reduceAdd, Nat.reduceSub, Nat.reduceLeDiff, Nat.reduceLT, if_true, if_false, mg, reduceIte, not_false_eq_true, eq_self, and_self, and_true, true_and, true_or, or_true, Nat.reduceEqDiff, (nI_nlt (show a ≤ 120 by omega) (by decide)), hp, uq_rq, rq_rq, rq_at, hg, nI_add]
    split <;> rfl
theorem o_ageFor {X : aX} {S : aS} {x v : Int32} (hJ : J S) : opK X 77 168 [aI x, aI v] S := by
  obtain ⟨⟨n, hR, hA⟩, hK, hD⟩ := id hJ
  have hR3 := ag_RI hA hR
  have hn := hR.1
  have hz := hR.2.1
  have hz3 := hR3.2.1
  by_cases c0 : hsP n x
  · by_cases c1 : wi v (nI 0) (nI 99)
    · obtain ⟨i, hi, rfl⟩ := has_of hn c0
      have hm0 := ag_mix n (S.1 1) (S.1 0)
      have hRm := ag_RI (ag_sym hm0) hR
      have hA1 := ag_tr hm0 hA
      obtain ⟨r1, h1⟩ := l_agex (X := X) (q := S.1) (D := S.2) (v := v) (r0 := S.1 3) hn hi 121 (mixR n (S.1 1) (S.1 0)) (by omega) hRm.2.1 (ag_f hA1 hi (by decide)) (ag_f hA1 hi (by decide))
      rw [show nI 121 - nI 1 = nI 120 from nI_pred 120] at h1
      have hv := dsc_v (fun a => ¬ v < gapF (upd (S.1 3) (14 + 10 * i + 4) (nI a)) i) 121 (by omega)
      obtain ⟨Z, hZ⟩ : ∃ Z, dsc (fun a => ¬ v < gapF (upd (S.1 3) (14 + 10 * i + 4) (nI a)) i) 121 = Z := ⟨_, rfl⟩
      have hx : cl X 77 [aR (0, 0, 0), aI (nI i), aI v] (mem S) = rsO Z (rq S.1 1 r1) S.2 := by
        rw [← hZ, ← h1]
        simp only [nl_n, nl_i, nl_r, x_ci, x_ca, x_bin, x_ife, x_ifl, x_ifg, x_cme, x_cml, x_cmg, x_go, x_no, x_b, x_ps, x_pn, cs_n, cs_i, cs_j, cs_r, en_n, en_i, en_j, en_r, xa0, g_0_0, xi1, x_k2_1, xi2, x_k3_s, x_k2_0, r_i, r_j, r_v, r_z1, r_z0, r_a, g_0_1, xs3n, xs3i, xs3r, xi3, x_k4_1, x_k3_1, xn3n, xn3i, xn3r, e77_0, e77_1, e77_4, e77_5, e77_8, e77_11, e77_12, e77_13, e77_15, e77_18, e77_21, e77_22, e77_23, e77_26, e77_27, e77_28, e77_31, e77_32, e77_35, e77_38, e77_40, e77_42, e77_45, e77_46, e77_49, e77_50, e77_51, e77_52, e77_55, e77_56, e77_59, e77_60, e77_62, e77_65, e77_66, e77_69, e77_70, e77_71, e77_74, e77_77, e77_78, e77_79, e77_82, c77, i10, i00, n2, n10, n20, n60, n8, n9, bi0, ite_not, List.replicate, Nat.reduceAdd, Nat.reduceSub, Nat.reduceLeDiff, Nat.reduceLT, if_true, if_false, mg, reduceIte, not_false_eq_true, eq_self, and_self, and_true, true_and, true_or, or_true, Nat.reduceEqDiff, (t_has (a := 0) (by decide) hz), (bi_t c0), t_within, (bi_t c1), (t_becS (S := S) (a := 1) (a2 := 0) (by decide) (by decide) (by decide) hn hz)]
      have hm : ∀ D, ∃ r3, a94 r3 (S.1 3) ∧ cl X 168 [aR (20, 0, 0), aI (nI i), aI v] (mem (rq S.1 1 r1, D)) = if Z = -1 then some (some (aI (-1000004)), mem (rq (rq S.1 1 r1) 3 r3, fdD 3 D)) else some (some (aI Z), mem (rq (rq S.1 1 r1) 3 r3, D)) := by
        intro D
        obtain ⟨r3, a3, h3⟩ := l_agem (X := X) (q := rq S.1 1 r1) (D := D) (p0 := 14 + 10 * i + 4) (v := v) (r0 := S.1 3) hn hi rfl rfl 121 0 (-1) (S.1 3) (by omega) (fun _ _ _ => rfl) (Or.inl rfl)
        refine ⟨r3, a3, ?_⟩
        rw [dsc_lp, hZ, show rq (rq S.1 1 r1) 3 (S.1 3) = rq S.1 1 r1 by rw [rq_sw (by decide), rq_self]] at h3
        rw [← h3]
        have hp : 14 + 10 * i + 4 < 94 := by omega
        simp only [nl_n, nl_i, nl_r, x_ci, x_ca, x_bin, x_ife, x_ifl, x_ifg, x_cme, x_cml, x_cmg, x_go, x_no, x_b, x_ps, x_pn, cs_n, cs_i, cs_j, cs_r, en_n, en_i, en_j, en_r, xa0, xi1, x_k2_20, xi2, x_k3_s, r_i, r_j, r_v, r_z1, r_z0, r_a, x_k2_s, xs3n, xs3i, xs3r, g_20_0, xi3, l_3, l_5, l_8, l_11, l_12, l_21, l_22, l_23, l_24, l_25, l_26, l_28, l_29, l_30, l_31, l_32, xs4n, xs4i, xs4r, xs5n, xs5i, xs5r, xs6n, xs6i, xs6r, xi6, s_3, s_5, s_8, s_11, s_12, s_21, s_22, s_23, s_24, s_25, s_26, s_28, s_29, s_30, s_31, s_32, xi5, xn6n, xn6i, xn6r, xi4, e168_0, e168_1, e168_2, e168_5, e168_8, e168_9, e168_10, e168_12, e168_15, e168_18, e168_19, e168_21, e168_24, e168_25, e168_26, e168_27, e168_30, e168_31, e168_32, e168_35, e168_36, e168_37, e168_39, e168_40, e168_42, e168_43, e168_47, e168_49, e168_52, e168_53, e168_56, e168_57, e168_59, e168_60, e168_61, e168_62, e168_65, e168_66, e168_69, e168_71, e168_74, e168_76, e168_78, e168_81, e168_84, e168_85, e168_88, e168_89, e168_91, e168_92, e168_93, e168_95, e168_98, c168, i10, i00, n2, n10, n20, n60, n8, n9, bi0, ite_not, List.replicate, Nat.reduceAdd, Nat.reduceSub, Nat.reduceLeDiff, Nat.reduceLT, if_true, if_false, mg, reduceIte, not_false_eq_true, eq_self, and_self, and_true, true_and, true_or, or_true, Nat.reduceEqDiff, (t_isS (X := X) (S := (rq S.1 1 r1, D)) (x := nI i) hn hz3), (bi_t c0), t_within6, (bi_t c1), t_at, hp, rq13]
      by_cases c : Z = -1
      · obtain ⟨r3, a3, h3⟩ := hm (tlD 3 S.2)
        rw [if_pos c] at h3
        unfold rsO at hx
        rw [if_pos c] at hx
        exact ⟨_, _, _, hx, h3, J_f (S := S) (D1 := S.2) (by decide) hJ hR (ag_tr hA (ag_sym (a94_ag hn a3))) rfl rfl (eqJ_rfl _) (eqJ_rfl _)⟩
      · obtain ⟨r3, a3, h3⟩ := hm S.2
        rw [if_neg c] at h3
        unfold rsO at hx
        rw [if_neg c] at hx
        exact ⟨_, _, _, hx, h3, J_new hJ hR (ag_tr hA (ag_sym (a94_ag hn a3))) rfl rfl (eqJ_rfl _)⟩
    · refine op_fin (k := 0) (w := -1000001) (by decide) hJ ?_ ?_
      · simp only [nl_n, nl_i, nl_r, x_ci, x_ca, x_bin, x_ife, x_ifl, x_ifg, x_cme, x_cml, x_cmg, x_go, x_no, x_b, x_ps, x_pn, cs_n, cs_i, cs_j, cs_r, en_n, en_i, en_j, en_r, xa0, g_0_0, xi1, x_k2_1, xi2, x_k3_s, x_k2_0, r_i, r_j, r_v, r_z1, r_z0, r_a, g_0_1, xs3n, xs3i, xs3r, xi3, x_k4_1, x_k3_1, xn3n, xn3i, xn3r, e77_0, e77_1, e77_4, e77_5, e77_8, e77_11, e77_12, e77_13, e77_15, e77_18, e77_21, e77_22, e77_23, e77_26, e77_27, e77_28, e77_31, e77_32, e77_35, e77_38, e77_40, e77_42, e77_45, e77_46, e77_49, e77_50, e77_51, e77_52, e77_55, e77_56, e77_59, e77_60, e77_62, e77_65, e77_66, e77_69, e77_70, e77_71, e77_74, e77_77, e77_78, e77_79, e77_82, c77, i10, i00, n2, n10, n20, n60, n8, n9, bi0, ite_not, List.replicate, Nat.reduceAdd, Nat.reduceSub, Nat.reduceLeDiff, Nat.reduceLT, if_true, if_false, mg, reduceIte, not_false_eq_true, eq_self, and_self, and_true, true_and, true_or, or_true, Nat.reduceEqDiff, (t_has (a := 0) (by decide) hz), (bi_t c0), t_within, (bi_f c1), tel0]
      · simp only [nl_n, nl_i, nl_r, x_ci, x_ca, x_bin, x_ife, x_ifl, x_ifg, x_cme, x_cml, x_cmg, x_go, x_no, x_b, x_ps, x_pn, cs_n, cs_i, cs_j, cs_r, en_n, en_i, en_j, en_r, xa0, xi1, x_k2_20, xi2, x_k3_s, r_i, r_j, r_v, r_z1, r_z0, r_a, x_k2_s, xs3n, xs3i, xs3r, g_20_0, xi3, l_3, l_5, l_8, l_11, l_12, l_21, l_22, l_23, l_24, l_25, l_26, l_28, l_29, l_30, l_31, l_32, xs4n, xs4i, xs4r, xs5n, xs5i, xs5r, xs6n, xs6i, xs6r, xi6, s_3, s_5, s_8, s_11, s_12, s_21, s_22, s_23, s_24, s_25, s_26, s_28, s_29, s_30, s_31, s_32, xi5, xn6n, xn6i, xn6r, xi4, e168_0, e168_1, e168_2, e168_5, e168_8, e168_9, e168_10, e168_12, e168_15, e168_18, e168_19, e168_21, e168_24, e168_25, e168_26, e168_27, e168_30, e168_31, e168_32, e168_35, e168_36, e168_37, e168_39, e168_40, e168_42, e168_43, e168_47, e168_49, e168_52, e168_53, e168_56, e168_57, e168_59, e168_60, e168_61, e168_62, e168_65, e168_66, e168_69, e168_71, e168_74, e168_76, e168_78, e168_81, e168_84, e168_85, e168_88, e168_89, e168_91, e168_92, e168_93, e168_95, e168_98, c168, i10, i00, n2, n10, n20, n60, n8, n9, bi0, ite_not, List.replicate, Nat.reduceAdd, Nat.reduceSub, Nat.reduceLeDiff, Nat.reduceLT, if_true, if_false, mg, reduceIte, not_false_eq_true, eq_self, and_self, and_true, true_and, true_or, or_true, Nat.reduceEqDiff, (fun D x => t_isS (X := X) (S := (S.1, D)) (x := x) hn hz3), (bi_t c0), t_within6, (bi_f c1), fnd0]
  · refine op_fin (k := 0) (w := -1000001) (by decide) hJ ?_ ?_
    · simp only [nl_n, nl_i, nl_r, x_ci, x_ca, x_bin, x_ife, x_ifl, x_ifg, x_cme, x_cml, x_cmg, x_go, x_no, x_b, x_ps, x_pn, cs_n, cs_i, cs_j, cs_r, en_n, en_i, en_j, en_r, xa0, g_0_0, xi1, x_k2_1, xi2, x_k3_s, x_k2_0, r_i, r_j, r_v, r_z1, r_z0, r_a, g_0_1, xs3n, xs3i, xs3r, xi3, x_k4_1, x_k3_1, xn3n, xn3i, xn3r, e77_0, e77_1, e77_4, e77_5, e77_8, e77_11, e77_12, e77_13, e77_15, e77_18, e77_21, e77_22, e77_23, e77_26, e77_27, e77_28, e77_31, e77_32, e77_35, e77_38, e77_40, e77_42, e77_45, e77_46, e77_49, e77_50, e77_51, e77_52, e77_55, e77_56, e77_59, e77_60, e77_62, e77_65, e77_66, e77_69, e77_70, e77_71, e77_74, e77_77, e77_78, e77_79, e77_82, c77, i10, i00, n2, n10, n20, n60, n8, n9, bi0, ite_not, List.replicate, Nat.reduceAdd, Nat.reduceSub, Nat.reduceLeDiff, Nat.reduceLT, if_true, if_false, mg, reduceIte, not_false_eq_true, eq_self, and_self, and_true, true_and, true_or, or_true, Nat.reduceEqDiff, (t_has (a := 0) (by decide) hz), (bi_f c0), tel0]
    · simp only [nl_n, nl_i, nl_r, x_ci, x_ca, x_bin, x_ife, x_ifl, x_ifg, x_cme, x_cml, x_cmg, x_go, x_no, x_b, x_ps, x_pn, cs_n, cs_i, cs_j, cs_r, en_n, en_i, en_j, en_r, xa0, xi1, x_k2_20, xi2, x_k3_s, r_i, r_j, r_v, r_z1, r_z0, r_a, x_k2_s, xs3n, xs3i, xs3r, g_20_0, xi3, l_3, l_5, l_8, l_11, l_12, l_21, l_22, l_23, l_24, l_25, l_26, l_28, l_29, l_30, l_31, l_32, xs4n, xs4i, xs4r, xs5n, xs5i, xs5r, xs6n, xs6i, xs6r, xi6, s_3, s_5, s_8, s_11, s_12, s_21, s_22, s_23, s_24, s_25, s_26, s_28, s_29, s_30, s_31, s_32, xi5, xn6n, xn6i, xn6r, xi4, e168_0, e168_1, e168_2, e168_5, e168_8, e168_9, e168_10, e168_12, e168_15, e168_18, e168_19, e168_21, e168_24, e168_25, e168_26, e168_27, e168_30, e168_31, e168_32, e168_35, e168_36, e168_37, e168_39, e168_40, e168_42, e168_43, e168_47, e168_49, e168_52, e168_53, e168_56, e168_57, e168_59, e168_60, e168_61, e168_62, e168_65, e168_66, e168_69, e168_71, e168_74, e168_76, e168_78, e168_81, e168_84, e168_85, e168_88, e168_89, e168_91, e168_92, e168_93, e168_95, e168_98, c168, i10, i00, n2, n10, n20, n60, n8, n9, bi0, ite_not, List.replicate, Nat.reduceAdd, Nat.reduceSub, Nat.reduceLeDiff, Nat.reduceLT, if_true, if_false, mg, reduceIte, not_false_eq_true, eq_self, and_self, and_true, true_and, true_or, or_true, Nat.reduceEqDiff, (fun D x => t_isS (X := X) (S := (S.1, D)) (x := x) hn hz3), (bi_f c0), fnd0]
