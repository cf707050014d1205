theorem ans_s {n : Nat} {x : Int32} (h : ans n x) : ans (n + 1) x := by
  rcases h with h | ⟨j, hj, h⟩
  · exact Or.inl h
  · exact Or.inr ⟨j, by omega, h⟩
theorem fok_s {n f : Nat} {x : Int32} (h : fok n f x) : fok (n + 1) f x := by
  unfold fok at h ⊢
  by_cases c : f = 2
  · subst c
    exact ans_s h
  · simp only [c, if_false] at h ⊢
    exact h
theorem at_fok (n f : Nat) (hf : f < 10) (h0 : f ≠ 0) (h1 : f ≠ 1) : fok n f (atF f) := by
  rcases (show f = 2 ∨ f = 3 ∨ f = 4 ∨ f = 5 ∨ f = 6 ∨ f = 7 ∨ f = 8 ∨ f = 9 by omega) with rfl | rfl | rfl | rfl | rfl | rfl | rfl | rfl
  · exact Or.inl rfl
  · exact ⟨60, by decide, rfl⟩
  · exact fok_t (by decide)
  · exact fok_t (by decide)
  · exact ⟨0, by decide, rfl⟩
  · exact fok_t (by decide)
  · exact fok_t (by decide)
  · exact ⟨0, by decide, rfl⟩
theorem ad_lo {n : Nat} {r : Nat → Int32} {kd bg : Int32} {p : Nat} (h1 : p ≠ 1) (h : p < 14 + 10 * n) : adF n r kd bg p = r p := by
  unfold adF
  rw [if_neg h1, if_neg (by omega)]
theorem RI_ad {n : Nat} {r : Nat → Int32} {kd bg : Int32} (h : RI n r) (hn : n < 8) (hk : inN 6 kd) (hb : inN 59 bg) : RI (n + 1) (adF n r kd bg) := by
  obtain ⟨h0, h1, h2, h3, h4, h5⟩ := h
  refine ⟨by omega, if_pos rfl, by rw [ad_lo (by decide) (by omega)]; exact h2, by rw [ad_lo (by decide) (by omega)]; exact h3, fun j hj => by rw [ad_lo (by omega) (by omega)]; exact ans_s (h4 j hj), fun i hi f hf => ?_⟩
  by_cases c : i = n
  · subst c
    unfold adF
    rw [if_neg (by omega), if_pos (by omega)]
    by_cases c0 : f = 0
    · subst c0
      rw [if_pos (by omega)]
      exact hk
    · rw [if_neg (by omega)]
      by_cases c1 : f = 1
      · subst c1
        rw [if_pos rfl]
        exact hb
      · rw [if_neg (by omega), show 14 + 10 * i + f - (14 + 10 * i) = f by omega]
        exact at_fok _ f hf c0 c1
  · rw [ad_lo (by omega) (by omega)]
    exact fok_s (h5 i (by omega) f hf)
theorem ag_ad {n : Nat} {r r' : Nat → Int32} {kd bg : Int32} (h : ag n r r') : ag (n + 1) (adF n r kd bg) (adF n r' kd bg) := by
  intro p hp
  unfold adF
  by_cases c1 : p = 1
  · rw [if_pos c1, if_pos c1]
  · rw [if_neg c1, if_neg c1]
    by_cases c2 : 14 + 10 * n ≤ p ∧ p < 14 + 10 * n + 10
    · rw [if_pos c2, if_pos c2]
    · rw [if_neg c2, if_neg c2]
      exact h p (by omega)
theorem l_comes {X : aX} {q : Nat → Nat → Int32} {D : aD} {n : Nat} {kd bg : Int32} (hn : n < 8) : ∀ k f r, f + k = 10 → go X 125 10 [some (aR (20, 0, 0)), some (aI kd), some (aI bg), some (aI (nI n)), some (aI (nI f))] [] (mem (rq q 3 r, D)) = go X 125 35 [some (aR (20, 0, 0)), some (aI kd), some (aI bg), some (aI (nI n)), some (aI (nI 10))] [] (mem (rq q 3 (lp (fun f r => upd r (14 + 10 * n + f) (nI 0)) k f r), D)) := by
  intro k
  induction k with
  | zero =>
    intro f r h
    have hf : f = 10 := by omega
    subst hf
    rw [e125_10]
    simp only [nl_n, nl_i, nl_r, x_ci, x_ca, x_bin, x_ife, x_ifl, x_ifg, x_cme, x_cml, x_cmg, x_go, x_no, x_b, x_ps, x_pn, cs_n, cs_i, cs_j, cs_r, en_n, en_i, en_j, en_r, xa0, g_20_0, l_3, l_5, l_8, l_11, l_12, l_21, l_22, l_23, l_24, l_25, l_26, l_28, l_29, l_30, l_31, l_32, xs3n, xs3i, xs3r, xs4n, xs4i, xs4r, xi4, xi3, x_k2_s, s_3, s_5, s_8, s_11, s_12, s_21, s_22, s_23, s_24, s_25, s_26, s_28, s_29, s_30, s_31, s_32, xn4n, xn4i, xn4r, xi1, xi2, x_dp2, r_i, r_j, r_v, r_z1, r_z0, r_a, e125_0, e125_1, e125_4, e125_5, e125_6, e125_7, e125_8, e125_12, e125_14, e125_17, e125_18, e125_21, e125_22, e125_24, e125_27, e125_28, e125_29, e125_32, e125_36, e125_39, e125_40, e125_41, e125_44, e125_45, e125_46, e125_47, e125_50, e125_51, e125_52, e125_55, e125_56, e125_57, e125_58, e125_61, e125_62, e125_63, e125_66, e125_67, e125_68, e125_69, e125_72, e125_73, e125_74, e125_77, e125_79, e125_80, e125_81, e125_84, e125_85, e125_86, e125_89, e125_91, e125_92, e125_93, e125_96, e125_97, e125_98, e125_101, e125_102, e125_103, e125_104, e125_107, e125_108, e125_109, e125_110, e125_111, e125_112, e125_113, e125_114, c125, i10, i00, n2, n10, n20, n60, n8, n9, bi0, ite_not, List.replicate, Nat.reduceAdd, Nat.reduceSub, Nat.reduceLeDiff, Nat.reduceLT, if_true, if_false, mg, reduceIte, not_false_eq_true, eq_self, and_self, and_true, true_and, true_or, or_true, Nat.reduceEqDiff, (nI_nlt (Nat.le_refl 10) (by decide)), lp_0]
  | succ k ih =>
    intro f r h
    have hp : 14 + 10 * n + f < 94 := by omega
    rw [e125_10, lp_s, ← ih (f + 1) _ (by omega)]
    simp only [nl_n, nl_i, nl_r, x_ci, x_ca, x_bin, x_ife, x_ifl, x_ifg, x_cme, x_cml, x_cmg, x_go, x_no, x_b, x_ps, x_pn, cs_n, cs_i, cs_j, cs_r, en_n, en_i, en_j, en_r, xa0, g_20_0, l_3, l_5, l_8, l_11, l_12, l_21, l_22, l_23, l_24, l_25, l_26, l_28, l_29, l_30, l_31, l_32, xs3n, xs3i, xs3r, xs4n, xs4i, xs4r, xi4, xi3, x_k2_s, s_3, s_5, s_8, s_11, s_12, s_21, s_22, s_23, s_24, s_25, s_26, s_28, s_29, s_30, s_31, s_32, xn4n, xn4i, xn4r, xi1, xi2, x_dp2, r_i, r_j, r_v, r_z1, r_z0, r_a, e125_0, e125_1, e125_4, e125_5, e125_6, e125_7, e125_8, e125_12, e125_14, e125_17, e125_18, e125_21, e125_22, e125_24, e125_27, e125_28, e125_29, e125_32, e125_36, e125_39, e125_40, e125_41, e125_44, e125_45, e125_46, e125_47, e125_50, e125_51, e125_52, e125_55, e125_56, e125_57, e125_58, e125_61, e125_62, e125_63, e125_66, e125_67, e125_68, e125_69, e125_72, e125_73, e125_74, e125_77, e125_79, e125_80, e125_81, e125_84, e125_85, e125_86, e125_89, e125_91, e125_92, e125_93, e125_96, e125_97, e125_98, e125_101, e125_102, e125_103, e125_104, e125_107, e125_108, e125_109, e125_110, e125_111, e125_112, e125_113, e125_114, c125, i10, i00, n2, n10, n20, n60, n8, n9, bi0, ite_not, List.replicate, Nat.reduceAdd, Nat.reduceSub, Nat.reduceLeDiff, Nat.reduceLT, if_true, if_false, mg, reduceIte, not_false_eq_true, eq_self, and_self, and_true, true_and, true_or, or_true, Nat.reduceEqDiff, hp, (nI_lt (show f < 10 by omega) (by decide)), t_at, nI_add, uq_rq, rq_rq, rq_at]
theorem z10 (n : Nat) : ∀ k f (r : Nat → Int32) p, lp (fun f r => upd r (14 + 10 * n + f) (nI 0)) k f r p = if 14 + 10 * n + f ≤ p ∧ p < 14 + 10 * n + f + k then nI 0 else r p := by
  intro k
  induction k with
  | zero => intro f r p; rw [if_neg (by omega)]; rfl
  | succ k ih =>
    intro f r p
    rw [lp_s, ih]
    by_cases c : p = 14 + 10 * n + f
    · rw [if_neg (by omega), if_pos (by omega), c]
      exact pk_us
    · by_cases c2 : 14 + 10 * n + (f + 1) ≤ p ∧ p < 14 + 10 * n + (f + 1) + k
      · rw [if_pos c2, if_pos (by omega)]
      · rw [if_neg c2, if_neg (by omega)]
        exact pk_un c
theorem com_eq (n : Nat) (r : Nat → Int32) (kd bg : Int32) : upd (upd (upd (upd (upd (upd (upd (lp (fun f r => upd r (14 + 10 * n + f) (nI 0)) 10 0 r) (14 + 10 * n + 0) kd) (14 + 10 * n + 1) bg) (14 + 10 * n + 2) (-1)) (14 + 10 * n + 3) (nI 60)) (14 + 10 * n + 4) (nI 30)) (14 + 10 * n + 5) (nI 3)) 1 (nI (n + 1)) = adF n r kd bg := by
  funext p
  unfold adF
  by_cases c : p = 1
  · rw [if_pos c, c]
    exact pk_us
  · rw [if_neg c, pk_un c]
    by_cases c2 : 14 + 10 * n ≤ p ∧ p < 14 + 10 * n + 10
    · rw [if_pos c2]
      obtain ⟨f, hf, rfl⟩ : ∃ f, f < 10 ∧ p = 14 + 10 * n + f := ⟨p - (14 + 10 * n), by omega, by omega⟩
      rw [u_f, u_f, u_f, u_f, u_f, u_f, z10, if_pos (c := 14 + 10 * n + 0 ≤ 14 + 10 * n + f ∧ 14 + 10 * n + f < 14 + 10 * n + 0 + 10) (by omega)]
      rw [show 14 + 10 * n + f - (14 + 10 * n) = f by omega]
      have e0 : (14 + 10 * n + f = 14 + 10 * n) = (f = 0) := propext (by omega)
      have e1 : (14 + 10 * n + f = 14 + 10 * n + 1) = (f = 1) := propext (by omega)
      simp only [e0, e1]
      unfold atF
      rcases (show f = 0 ∨ f = 1 ∨ f = 2 ∨ f = 3 ∨ f = 4 ∨ f = 5 ∨ f = 6 ∨ f = 7 ∨ f = 8 ∨ f = 9 by omega) with rfl | rfl | rfl | rfl | rfl | rfl | rfl | rfl | rfl | rfl <;> simp
    · rw [if_neg c2, pk_un (by omega), pk_un (by omega), pk_un (by omega), pk_un (by omega), pk_un (by omega), pk_un (by omega), z10, if_neg (by omega)]
theorem t_comes {X : aX} {q : Nat → Nat → Int32} {D : aD} {n : Nat} {r : Nat → Int32} {kd bg : Int32} (hn : n < 8) (hz : r 1 = nI n) : cl X 125 [aR (20, 0, 0), aI kd, aI bg] (mem (rq q 3 r, D)) = some (some (aI (nI n)), mem (rq q 3 (adF n r kd bg), D)) := by
  have hp : ∀ f, f < 10 → 14 + 10 * n + f < 94 := fun f hf => by omega
  have e1 : lp (fun f r => upd r (14 + 10 * n + f) (nI 0)) 10 0 r 1 = nI n := by
    rw [z10, if_neg (by omega), hz]
  simp only [nl_n, nl_i, nl_r, x_ci, x_ca, x_bin, x_ife, x_ifl, x_ifg, x_cme, x_cml, x_cmg, x_go, x_no, x_b, x_ps, x_pn, cs_n, cs_i, cs_j, cs_r, en_n, en_i, en_j, en_r, xa0, g_20_0, l_3, l_5, l_8, l_11, l_12, l_21, l_22, l_23, l_24, l_25, l_26, l_28, l_29, l_30, l_31, l_32, xs3n, xs3i, xs3r, xs4n, xs4i, xs4r, xi4, xi3, x_k2_s, s_3, s_5, s_8, s_11, s_12, s_21, s_22, s_23, s_24, s_25, s_26, s_28, s_29, s_30, s_31, s_32, xn4n, xn4i, xn4r, xi1, xi2, x_dp2, r_i, r_j, r_v, r_z1, r_z0, r_a, e125_0, e125_1, e125_4, e125_5, e125_6, e125_7, e125_8, e125_12, e125_14, e125_17, e125_18, e125_21, e125_22, e125_24, e125_27, e125_28, e125_29, e125_32, e125_35, e125_36, e125_39, e125_40, e125_41, e125_44, e125_45, e125_46, e125_47, e125_50, e125_51, e125_52, e125_55, e125_56, e125_57, e125_58, e125_61, e125_62, e125_63, e125_66, e125_67, e125_68, e125_69, e125_72, e125_73, e125_74, e125_77, e125_79, e125_80, e125_81, e125_84, e125_85, e125_86, e125_89, e125_91, e125_92, e125_93, e125_96, e125_97, e125_98, e125_101, e125_102, e125_103, e125_104, e125_107, e125_108, e125_109, e125_110, e125_111, e125_112, e125_113, e125_114, c125, i10, i00, n2, n10, n20, n60, n8, n9, bi0, ite_not, List.replicate, Nat.reduceAdd, Nat.reduceSub, Nat.reduceLeDiff, Nat.reduceLT, if_true, if_false, mg, reduceIte, not_false_eq_true, eq_self, and_self, and_true, true_and, true_or, or_true, Nat.reduceEqDiff, rq_at, hz]
  rw [l_comes hn 10 0 r (by omega)]
  simp only [nl_n, nl_i, nl_r, x_ci, x_ca, x_bin, x_ife, x_ifl, x_ifg, x_cme, x_cml, x_cmg, x_go, x_no, x_b, x_ps, x_pn, cs_n, cs_i, cs_j, cs_r, en_n, en_i, en_j, en_r, xa0, g_20_0, l_3, l_5, l_8, l_11, l_12, l_21, l_22, l_23, l_24, l_25, l_26, l_28, l_29, l_30, l_31, l_32, xs3n, xs3i, xs3r, xs4n, xs4i, xs4r, xi4, xi3, x_k2_s, s_3, s_5, s_8, s_11, s_12, s_21, s_22, s_23, s_24, s_25, s_26, s_28, s_29, s_30, s_31, s_32, xn4n, xn4i, xn4r, xi1, xi2, x_dp2, r_i, r_j, r_v, r_z1, r_z0, r_a, e125_0, e125_1, e125_4, e125_5, e125_6, e125_7, e125_8, e125_12, e125_14, e125_17, e125_18, e125_21, e125_22, e125_24, e125_27, e125_28, e125_29, e125_32, e125_35, e125_36, e125_39, e125_40, e125_41, e125_44, e125_45, e125_46, e125_47, e125_50, e125_51, e125_52, e125_55, e125_56, e125_57, e125_58, e125_61, e125_62, e125_63, e125_66, e125_67, e125_68, e125_69, e125_72, e125_73, e125_74, e125_77, e125_79, e125_80, e125_81, e125_84, e125_85, e125_86, e125_89, e125_91, e125_92, e125_93, e125_96, e125_97, e125_98, e125_101, e125_102, e125_103, e125_104, e125_107, e125_108, e125_109, e125_110, e125_111, e125_112, e125_113, e125_114, c125, i10, i00, n2, n10, n20, n60, n8, n9, bi0, ite_not, List.replicate, Nat.reduceAdd, Nat.reduceSub, Nat.reduceLeDiff, Nat.reduceLT, if_true, if_false, mg, reduceIte, not_false_eq_true, eq_self, and_self, and_true, true_and, true_or, or_true, Nat.reduceEqDiff, hp, t_at, rq_at, uq_rq, rq_rq, u_1, e1, nI_add, com_eq]
theorem J_new {S S' : aS} (hJ : J S) {n : Nat} (hR : RI n (S'.1 0)) (hA : ag n (S'.1 0) (S'.1 3)) (h2 : S'.1 2 = S.1 2) (h4 : S'.1 4 = S.1 4) (hD : eqJ S.2 S'.2) : J S' := by
  refine ⟨⟨n, hR, hA⟩, fun w => ?_, JD_c hD hJ.2.2⟩
  rw [h2, h4]
  exact hJ.2.1 ((hD (0, 0, 0) 6 (nj (by simp))).symm.trans w)
theorem rqs (q : Nat → Nat → Int32) (a : Nat) (D : aD) : ((q, D) : aS) = (rq q a (q a), D) := by rw [rq_self]
theorem o_singer {X : aX} {S : aS} {kd dt : Int32} (hJ : J S) : opK X 62 126 [aI kd, aI dt] S := by
  obtain ⟨⟨n, hR, hA⟩, hK, hD⟩ := id hJ
  have hR3 := ag_RI hA hR
  have hn := hR.1
  have hz := hR.2.1
  have hz3 := hR3.2.1
  by_cases c1 : wi kd (nI 0) (nI 6)
  · by_cases c2 : wi dt (nI 0) (nI 59)
    · by_cases c3 : n < 8
      · have h8 : ¬ nI n = nI 8 := nx_ne (by omega) (by omega) (by decide)
        have t := t_comes (X := X) (q := rq S.1 0 (adF n (S.1 0) kd dt)) (D := S.2) (r := S.1 3) (kd := kd) (bg := dt) c3 hz3
        have e : rq (rq S.1 0 (adF n (S.1 0) kd dt)) 3 (S.1 3) = rq S.1 0 (adF n (S.1 0) kd dt) := by
          rw [rq_sw (by decide), rq_self]
        rw [e] at t
        refine ⟨aI (nI n), (rq S.1 0 (adF n (S.1 0) kd dt), S.2), (rq (rq S.1 0 (adF n (S.1 0) kd dt)) 3 (adF n (S.1 3) kd dt), S.2), ?_, ?_, ?_⟩
        · simp only [nl_n, nl_i, nl_r, x_ci, x_ca, x_bin, x_ife, x_ifl, x_ifg, x_cme, x_cml, x_cmg, x_go, x_no, x_b, x_ps, x_pn, cs_n, cs_i, cs_j, cs_r, en_n, en_i, en_j, en_r, xi1, x_k3_s, xi2, xa0, x_k2_0, r_i, r_j, r_v, r_z1, r_z0, r_a, g_0_0, x_k1_1, x_k3_1, e62_0, e62_1, e62_2, e62_4, e62_7, e62_10, e62_11, e62_12, e62_14, e62_17, e62_20, e62_21, e62_22, e62_25, e62_26, e62_27, e62_30, e62_33, e62_36, e62_37, e62_38, e62_41, e62_42, e62_43, e62_46, e62_47, e62_48, e62_51, c62, i10, i00, n2, n10, n20, n60, n8, n9, bi0, ite_not, List.replicate, Nat.reduceAdd, Nat.reduceSub, Nat.reduceLeDiff, Nat.reduceLT, if_true, if_false, mg, reduceIte, not_false_eq_true, eq_self, and_self, and_true, true_and, true_or, or_true, Nat.reduceEqDiff, t_within, (bi_t c1), (bi_t c2), (t_isFull (a := 0) (by decide) hz), (bi_f (fun h : ¬ nI n < nI 8 => h (nI_lt c3 (by decide)))), (t_add (a := 0) (by decide) c3 hz)]
        · simp only [nl_n, nl_i, nl_r, x_ci, x_ca, x_bin, x_ife, x_ifl, x_ifg, x_cme, x_cml, x_cmg, x_go, x_no, x_b, x_ps, x_pn, cs_n, cs_i, cs_j, cs_r, en_n, en_i, en_j, en_r, xi1, x_k1_s, xi2, xa0, x_k2_20, r_i, r_j, r_v, r_z1, r_z0, r_a, g_20_0, l_3, l_5, l_8, l_11, l_12, l_21, l_22, l_23, l_24, l_25, l_26, l_28, l_29, l_30, l_31, l_32, x_k3_20, e126_0, e126_1, e126_4, e126_7, e126_8, e126_11, e126_14, e126_15, e126_17, e126_20, e126_21, e126_22, e126_25, e126_26, e126_27, e126_29, e126_32, e126_33, e126_35, e126_38, e126_41, e126_42, e126_43, e126_44, e126_47, c126, i10, i00, n2, n10, n20, n60, n8, n9, bi0, ite_not, List.replicate, Nat.reduceAdd, Nat.reduceSub, Nat.reduceLeDiff, Nat.reduceLT, if_true, if_false, mg, reduceIte, not_false_eq_true, eq_self, and_self, and_true, true_and, true_or, or_true, Nat.reduceEqDiff, t_isKind, t_isDate, (bi_t c1), (bi_t c2), h8, t, (rq_ne (q := S.1) (a := 0) (a2 := 3) (r := adF n (S.1 0) kd dt) (by decide)), hz3]
        · obtain ⟨k1, _, hk1, ek1⟩ := wi_of (by decide) c1 (by decide)
          obtain ⟨k2, _, hk2, ek2⟩ := wi_of (by decide) c2 (by decide)
          exact J_new hJ (n := n + 1) (RI_ad hR c3 ⟨k1, hk1, ek1⟩ ⟨k2, hk2, ek2⟩) (ag_ad hA) rfl rfl (eqJ_rfl _)
      · have e8 : n = 8 := by omega
        subst e8
        refine op_fin (k := 1) (w := -1000002) (by decide) hJ ?_ ?_
        · simp only [nl_n, nl_i, nl_r, x_ci, x_ca, x_bin, x_ife, x_ifl, x_ifg, x_cme, x_cml, x_cmg, x_go, x_no, x_b, x_ps, x_pn, cs_n, cs_i, cs_j, cs_r, en_n, en_i, en_j, en_r, xi1, x_k3_s, xi2, xa0, x_k2_0, r_i, r_j, r_v, r_z1, r_z0, r_a, g_0_0, x_k1_1, x_k3_1, e62_0, e62_1, e62_2, e62_4, e62_7, e62_10, e62_11, e62_12, e62_14, e62_17, e62_20, e62_21, e62_22, e62_25, e62_26, e62_27, e62_30, e62_33, e62_36, e62_37, e62_38, e62_41, e62_42, e62_43, e62_46, e62_47, e62_48, e62_51, c62, i10, i00, n2, n10, n20, n60, n8, n9, bi0, ite_not, List.replicate, Nat.reduceAdd, Nat.reduceSub, Nat.reduceLeDiff, Nat.reduceLT, if_true, if_false, mg, reduceIte, not_false_eq_true, eq_self, and_self, and_true, true_and, true_or, or_true, Nat.reduceEqDiff, t_within, (bi_t c1), (bi_t c2), (t_isFull (a := 0) (by decide) hz), tel1]
          rw [if_neg (nI_nlt (Nat.le_refl 8) (by decide))]
        · simp only [nl_n, nl_i, nl_r, x_ci, x_ca, x_bin, x_ife, x_ifl, x_ifg, x_cme, x_cml, x_cmg, x_go, x_no, x_b, x_ps, x_pn, cs_n, cs_i, cs_j, cs_r, en_n, en_i, en_j, en_r, xi1, x_k1_s, xi2, xa0, x_k2_20, r_i, r_j, r_v, r_z1, r_z0, r_a, g_20_0, l_3, l_5, l_8, l_11, l_12, l_21, l_22, l_23, l_24, l_25, l_26, l_28, l_29, l_30, l_31, l_32, x_k3_20, e126_0, e126_1, e126_4, e126_7, e126_8, e126_11, e126_14, e126_15, e126_17, e126_20, e126_21, e126_22, e126_25, e126_26, e126_27, e126_29, e126_32, e126_33, e126_35, e126_38, e126_41, e126_42, e126_43, e126_44, e126_47, c126, i10, i00, n2, n10, n20, n60, n8, n9, bi0, ite_not, List.replicate, Nat.reduceAdd, Nat.reduceSub, Nat.reduceLeDiff, Nat.reduceLT, if_true, if_false, mg, reduceIte, not_false_eq_true, eq_self, and_self, and_true, true_and, true_or, or_true, Nat.reduceEqDiff, t_isKind, t_isDate, (bi_t c1), (bi_t c2), hz3, fnd1]
    · refine op_fin (k := 0) (w := -1000001) (by decide) hJ ?_ ?_
      · simp only [nl_n, nl_i, nl_r, x_ci, x_ca, x_bin, x_ife, x_ifl, x_ifg, x_cme, x_cml, x_cmg, x_go, x_no, x_b, x_ps, x_pn, cs_n, cs_i, cs_j, cs_r, en_n, en_i, en_j, en_r, xi1, x_k3_s, xi2, xa0, x_k2_0, r_i, r_j, r_v, r_z1, r_z0, r_a, g_0_0, x_k1_1, x_k3_1, e62_0, e62_1, e62_2, e62_4, e62_7, e62_10, e62_11, e62_12, e62_14, e62_17, e62_20, e62_21, e62_22, e62_25, e62_26, e62_27, e62_30, e62_33, e62_36, e62_37, e62_38, e62_41, e62_42, e62_43, e62_46, e62_47, e62_48, e62_51, c62, i10, i00, n2, n10, n20, n60, n8, n9, bi0, ite_not, List.replicate, Nat.reduceAdd, Nat.reduceSub, Nat.reduceLeDiff, Nat.reduceLT, if_true, if_false, mg, reduceIte, not_false_eq_true, eq_self, and_self, and_true, true_and, true_or, or_true, Nat.reduceEqDiff, t_within, (bi_t c1), (bi_f c2), tel0]
      · simp only [nl_n, nl_i, nl_r, x_ci, x_ca, x_bin, x_ife, x_ifl, x_ifg, x_cme, x_cml, x_cmg, x_go, x_no, x_b, x_ps, x_pn, cs_n, cs_i, cs_j, cs_r, en_n, en_i, en_j, en_r, xi1, x_k1_s, xi2, xa0, x_k2_20, r_i, r_j, r_v, r_z1, r_z0, r_a, g_20_0, l_3, l_5, l_8, l_11, l_12, l_21, l_22, l_23, l_24, l_25, l_26, l_28, l_29, l_30, l_31, l_32, x_k3_20, e126_0, e126_1, e126_4, e126_7, e126_8, e126_11, e126_14, e126_15, e126_17, e126_20, e126_21, e126_22, e126_25, e126_26, e126_27, e126_29, e126_32, e126_33, e126_35, e126_38, e126_41, e126_42, e126_43, e126_44, e126_47, c126, i10, i00, n2, n10, n20, n60, n8, n9, bi0, ite_not, List.replicate, Nat.reduceAdd, Nat.reduceSub, Nat.reduceLeDiff, Nat.reduceLT, if_true, if_false, mg, reduceIte, not_false_eq_true, eq_self, and_self, and_true, true_and, true_or, or_true, Nat.reduceEqDiff, t_isKind, t_isDate, (bi_t c1), (bi_f c2), fnd0]
  · refine op_fin (k := 0) (w := -1000001) (by decide) hJ ?_ ?_
    · simp only [nl_n, nl_i, nl_r, x_ci, x_ca, x_bin, x_ife, x_ifl, x_ifg, x_cme, x_cml, x_cmg, x_go, x_no, x_b, x_ps, x_pn, cs_n, cs_i, cs_j, cs_r, en_n, en_i, en_j, en_r, xi1, x_k3_s, xi2, xa0, x_k2_0, r_i, r_j, r_v, r_z1, r_z0, r_a, g_0_0, x_k1_1, x_k3_1, e62_0, e62_1, e62_2, e62_4, e62_7, e62_10, e62_11, e62_12, e62_14, e62_17, e62_20, e62_21, e62_22, e62_25, e62_26, e62_27, e62_30, e62_33, e62_36, e62_37, e62_38, e62_41, e62_42, e62_43, e62_46, e62_47, e62_48, e62_51, c62, i10, i00, n2, n10, n20, n60, n8, n9, bi0, ite_not, List.replicate, Nat.reduceAdd, Nat.reduceSub, Nat.reduceLeDiff, Nat.reduceLT, if_true, if_false, mg, reduceIte, not_false_eq_true, eq_self, and_self, and_true, true_and, true_or, or_true, Nat.reduceEqDiff, t_within, (bi_f c1), tel0]
    · simp only [nl_n, nl_i, nl_r, x_ci, x_ca, x_bin, x_ife, x_ifl, x_ifg, x_cme, x_cml, x_cmg, x_go, x_no, x_b, x_ps, x_pn, cs_n, cs_i, cs_j, cs_r, en_n, en_i, en_j, en_r, xi1, x_k1_s, xi2, xa0, x_k2_20, r_i, r_j, r_v, r_z1, r_z0, r_a, g_20_0, l_3, l_5, l_8, l_11, l_12, l_21, l_22, l_23, l_24, l_25, l_26, l_28, l_29, l_30, l_31, l_32, x_k3_20, e126_0, e126_1, e126_4, e126_7, e126_8, e126_11, e126_14, e126_15, e126_17, e126_20, e126_21, e126_22, e126_25, e126_26, e126_27, e126_29, e126_32, e126_33, e126_35, e126_38, e126_41, e126_42, e126_43, e126_44, e126_47, c126, i10, i00, n2, n10, n20, n60, n8, n9, bi0, ite_not, List.replicate, Nat.reduceAdd, Nat.reduceSub, Nat.reduceLeDiff, Nat.reduceLT, if_true, if_false, mg, reduceIte, not_false_eq_true, eq_self, and_self, and_true, true_and, true_or, or_true, Nat.reduceEqDiff, t_isKind, t_isDate, (bi_f c1), fnd0]
/-! what may be set -/
def hiN (j : Nat) : Nat := if j = 0 then 6 else if j = 1 then 59 else if j = 2 then 7 else if j = 4 then 120 else if j = 5 then 9 else if j = 6 then 1 else if j = 9 then 9999 else 99
def loI (j : Nat) : Int32 := if j = 2 then -1 else if j = 5 then nI 1 else nI 0
theorem st_1 : ∀ j, j < 10 → (stA.getD 1 []).getD j 0 = loI j := by decide +kernel
theorem st_2 : ∀ j, j < 10 → (stA.getD 2 []).getD j 0 = nI (hiN j) := by decide +kernel
theorem l_821 {X : aX} {m nx : Nat} {la : aLs} {st : List aV} {M : aM} {j : Nat} (hj : j < 10) : kC X m (i_ial X nx la (aI (nI j) :: aR (82, 1, 0) :: st) M) = go X m nx la (aI (loI j) :: st) M := by
  unfold i_ial
  dsimp only
  rw [show aln X M (82, 1, 0) = some 10 from rfl]
  dsimp only
  rw [if_pos (inb_nI hj (by decide)), nI_clamp (by omega), ← st_1 j hj]
  rfl
theorem l_822 {X : aX} {m nx : Nat} {la : aLs} {st : List aV} {M : aM} {j : Nat} (hj : j < 10) : kC X m (i_ial X nx la (aI (nI j) :: aR (82, 2, 0) :: st) M) = go X m nx la (aI (nI (hiN j)) :: st) M := by
  unfold i_ial
  dsimp only
  rw [show aln X M (82, 2, 0) = some 10 from rfl]
  dsimp only
  rw [if_pos (inb_nI hj (by decide)), nI_clamp (by omega), ← st_2 j hj]
  rfl
theorem t_inR {X : aX} {M : aM} {j : Nat} {v : Int32} (hj : j < 10) : cl X 16 [aI (nI j), aI v] M = some (some (aI (bi (wi v (loI j) (nI (hiN j))))), M) := by
  simp only [nl_n, nl_i, nl_r, x_ci, x_ca, x_bin, x_ife, x_ifl, x_ifg, x_cme, x_cml, x_cmg, x_go, x_no, x_b, x_ps, x_pn, cs_n, cs_i, cs_j, cs_r, en_n, en_i, en_j, en_r, xi0, x_k3_s, xi1, l_3, l_5, l_8, l_11, l_12, l_21, l_22, l_23, l_24, l_25, l_26, l_28, l_29, l_30, l_31, l_32, r_i, r_j, r_v, r_z1, r_z0, r_a, e16_0, e16_1, e16_2, e16_4, e16_7, e16_10, e16_11, e16_14, e16_15, e16_16, e16_19, e16_20, e16_21, e16_24, e16_27, e16_28, e16_31, e16_32, c16, i10, i00, n2, n10, n20, n60, n8, n9, bi0, ite_not, List.replicate, Nat.reduceAdd, Nat.reduceSub, Nat.reduceLeDiff, Nat.reduceLT, if_true, if_false, mg, reduceIte, not_false_eq_true, eq_self, and_self, and_true, true_and, true_or, or_true, Nat.reduceEqDiff, hj, t_within, (bi_t (wi_i (Nat.zero_le j) (show j ≤ 9 by omega) (by decide))), l_821, l_822]
  by_cases c : wi v (loI j) (nI (hiN j))
  · rw [if_pos c, bi_t c]
  · rw [if_neg c, bi_f c]
def chP (n i j : Nat) (v : Int32) : Prop := if j = 2 then (v = -1 ∨ hsP n v ∧ ¬ v = nI i) else wi v (loI j) (nI (hiN j))
def ch_dec (n i j : Nat) (v : Int32) : Decidable (chP n i j v) := by unfold chP; exact inferInstance
theorem m1_w : wi (-1) (-1) (nI 7) := by decide +kernel
theorem t_canBe {X : aX} {S : aS} {a n i j : Nat} {v : Int32} [Decidable (chP n i j v)] (ha : a < 3) (hn : n ≤ 8) (hi : i < n) (hj : j < 10) (hz : S.1 a 1 = nI n) : cl X 31 [aR (1, a, 0), aI (nI i), aI (nI j), aI v] (mem S) = some (some (aI (bi (chP n i j v))), mem S) := by
  by_cases c2 : j = 2
  · subst c2
    by_cases c3 : v = -1
    · subst c3
      rw [bi_t (show chP n i 2 (-1) from Or.inl rfl)]
      simp only [nl_n, nl_i, nl_r, x_ci, x_ca, x_bin, x_ife, x_ifl, x_ifg, x_cme, x_cml, x_cmg, x_go, x_no, x_b, x_ps, x_pn, cs_n, cs_i, cs_j, cs_r, en_n, en_i, en_j, en_r, xi2, xi3, x_k2_s, r_i, r_j, r_v, r_z1, r_z0, r_a, xa0, x_k2_1, xi1, e31_0, e31_1, e31_2, e31_5, e31_8, e31_9, e31_10, e31_11, e31_12, e31_15, e31_16, e31_17, e31_20, e31_21, e31_22, e31_25, e31_28, e31_29, e31_30, e31_33, e31_34, e31_37, e31_38, c31, i10, i00, n2, n10, n20, n60, n8, n9, bi0, ite_not, List.replicate, Nat.reduceAdd, Nat.reduceSub, Nat.reduceLeDiff, Nat.reduceLT, if_true, if_false, mg, reduceIte, not_false_eq_true, eq_self, and_self, and_true, true_and, true_or, or_true, Nat.reduceEqDiff, ha, (t_inR (show 2 < 10 by decide)), (bi_t (show wi (-1) (loI 2) (nI (hiN 2)) from m1_w))]
    · by_cases c4 : hsP n v
      · obtain ⟨k, hk, rfl⟩ := has_of hn c4
        have hw : wi (nI k) (loI 2) (nI (hiN 2)) := by
          refine ⟨?_, nI_nlt (by show k ≤ 7; omega) (by decide)⟩
          rw [Int32.lt_iff_toInt_lt, nI_toInt (by omega)]
          have : (loI 2).toInt = -1 := by decide +kernel
          omega
        simp only [nl_n, nl_i, nl_r, x_ci, x_ca, x_bin, x_ife, x_ifl, x_ifg, x_cme, x_cml, x_cmg, x_go, x_no, x_b, x_ps, x_pn, cs_n, cs_i, cs_j, cs_r, en_n, en_i, en_j, en_r, xi2, xi3, x_k2_s, r_i, r_j, r_v, r_z1, r_z0, r_a, xa0, x_k2_1, xi1, e31_0, e31_1, e31_2, e31_5, e31_8, e31_9, e31_10, e31_11, e31_12, e31_15, e31_16, e31_17, e31_20, e31_21, e31_22, e31_25, e31_28, e31_29, e31_30, e31_33, e31_34, e31_37, e31_38, c31, i10, i00, n2, n10, n20, n60, n8, n9, bi0, ite_not, List.replicate, Nat.reduceAdd, Nat.reduceSub, Nat.reduceLeDiff, Nat.reduceLT, if_true, if_false, mg, reduceIte, not_false_eq_true, eq_self, and_self, and_true, true_and, true_or, or_true, Nat.reduceEqDiff, ha, (t_inR (show 2 < 10 by decide)), (bi_t hw), c3, (t_has ha hz), (bi_t c4)]
        by_cases c5 : nI k = nI i
        · rw [if_pos c5, bi_f (fun w => w.elim c3 (fun u => u.2 c5))]
        · rw [if_neg c5, bi_t (show chP n i 2 (nI k) from Or.inr ⟨c4, c5⟩)]
      · rw [bi_f (show ¬ chP n i 2 v from fun w => w.elim c3 (fun u => c4 u.1))]
        simp only [nl_n, nl_i, nl_r, x_ci, x_ca, x_bin, x_ife, x_ifl, x_ifg, x_cme, x_cml, x_cmg, x_go, x_no, x_b, x_ps, x_pn, cs_n, cs_i, cs_j, cs_r, en_n, en_i, en_j, en_r, xi2, xi3, x_k2_s, r_i, r_j, r_v, r_z1, r_z0, r_a, xa0, x_k2_1, xi1, e31_0, e31_1, e31_2, e31_5, e31_8, e31_9, e31_10, e31_11, e31_12, e31_15, e31_16, e31_17, e31_20, e31_21, e31_22, e31_25, e31_28, e31_29, e31_30, e31_33, e31_34, e31_37, e31_38, c31, i10, i00, n2, n10, n20, n60, n8, n9, bi0, ite_not, List.replicate, Nat.reduceAdd, Nat.reduceSub, Nat.reduceLeDiff, Nat.reduceLT, if_true, if_false, mg, reduceIte, not_false_eq_true, eq_self, and_self, and_true, true_and, true_or, or_true, Nat.reduceEqDiff, ha, (t_inR (show 2 < 10 by decide)), c3, (t_has ha hz), (bi_f c4)]
        split <;> rfl
  · have e : chP n i j v = wi v (loI j) (nI (hiN j)) := if_neg c2
    have hne : ¬ nI j = nI 2 := nx_ne c2 (by omega) (by decide)
    have e2 : bi (chP n i j v) = bi (wi v (loI j) (nI (hiN j))) := bi_c (by rw [e])
    rw [e2]
    simp only [nl_n, nl_i, nl_r, x_ci, x_ca, x_bin, x_ife, x_ifl, x_ifg, x_cme, x_cml, x_cmg, x_go, x_no, x_b, x_ps, x_pn, cs_n, cs_i, cs_j, cs_r, en_n, en_i, en_j, en_r, xi2, xi3, x_k2_s, r_i, r_j, r_v, r_z1, r_z0, r_a, xa0, x_k2_1, xi1, e31_0, e31_1, e31_2, e31_5, e31_8, e31_9, e31_10, e31_11, e31_12, e31_15, e31_16, e31_17, e31_20, e31_21, e31_22, e31_25, e31_28, e31_29, e31_30, e31_33, e31_34, e31_37, e31_38, c31, i10, i00, n2, n10, n20, n60, n8, n9, bi0, ite_not, List.replicate, Nat.reduceAdd, Nat.reduceSub, Nat.reduceLeDiff, Nat.reduceLT, if_true, if_false, mg, reduceIte, not_false_eq_true, eq_self, and_self, and_true, true_and, true_or, or_true, Nat.reduceEqDiff, ha, (t_inR hj), hne]
    by_cases c : wi v (loI j) (nI (hiN j))
    · rw [if_pos c, bi_t c]
    · rw [if_neg c, bi_f c]
theorem t_isField {X : aX} {S : aS} {n i j : Nat} {v : Int32} [Decidable (chP n i j v)] (hn : n ≤ 8) (hj : j < 10) (hz : S.1 3 1 = nI n) : cl X 136 [aR (20, 0, 0), aI (nI i), aI (nI j), aI v] (mem S) = some (some (aI (bi (chP n i j v))), mem S) := by
  have hd : ∀ a b, a < 10 → b < 10 → (nI a = nI b) = (a = b) := fun a b h1 h2 => propext (nI_eq (by omega) (by omega))
  by_cases c2 : j = 2
  · subst c2
    simp only [nl_n, nl_i, nl_r, x_ci, x_ca, x_bin, x_ife, x_ifl, x_ifg, x_cme, x_cml, x_cmg, x_go, x_no, x_b, x_ps, x_pn, cs_n, cs_i, cs_j, cs_r, en_n, en_i, en_j, en_r, xi2, x_sw, x_sw0, xi3, x_k1_s, r_i, r_j, r_v, r_z1, r_z0, r_a, xa0, x_k2_20, xi1, x_k3_s, e136_0, e136_1, e136_56, e136_57, e136_60, e136_61, e136_62, e136_65, e136_66, e136_67, e136_68, e136_71, e136_72, e136_73, e136_76, e136_79, e136_80, e136_81, e136_84, e136_85, e136_88, e136_89, e136_90, e136_91, e136_92, e136_94, e136_97, e136_98, e136_99, e136_100, e136_102, e136_105, e136_106, e136_107, e136_108, e136_110, e136_113, e136_114, e136_115, e136_116, e136_117, e136_120, e136_121, e136_122, e136_123, e136_126, e136_129, e136_130, e136_131, c136, i10, i00, n2, n10, n20, n60, n8, n9, bi0, ite_not, List.replicate, Nat.reduceAdd, Nat.reduceSub, Nat.reduceLeDiff, Nat.reduceLT, if_true, if_false, mg, reduceIte, not_false_eq_true, eq_self, and_self, and_true, true_and, true_or, or_true, Nat.reduceEqDiff, hd, (t_isS hn hz), biz]
    by_cases c3 : v = -1
    · rw [if_pos c3, bi_t (show chP n i 2 v from Or.inl c3)]
    · rw [if_neg c3]
      by_cases c4 : hsP n v
      · rw [if_pos c4]
        by_cases c5 : v = nI i
        · rw [if_pos c5, bi_f (show ¬ chP n i 2 v from fun w => w.elim c3 (fun u => u.2 c5))]
        · rw [if_neg c5, bi_t (show chP n i 2 v from Or.inr ⟨c4, c5⟩)]
      · rw [if_neg c4, bi_f (show ¬ chP n i 2 v from fun w => w.elim c3 (fun u => c4 u.1))]
  · have e2 : bi (chP n i j v) = bi (wi v (loI j) (nI (hiN j))) := bi_c (by rw [show chP n i j v = wi v (loI j) (nI (hiN j)) from if_neg c2])
    rw [e2]
    rcases (show j = 0 ∨ j = 1 ∨ j = 3 ∨ j = 4 ∨ j = 5 ∨ j = 6 ∨ j = 7 ∨ j = 8 ∨ j = 9 by omega) with rfl | rfl | rfl | rfl | rfl | rfl | rfl | rfl | rfl
    all_goals
      simp only [nl_n, nl_i, nl_r, x_ci, x_ca, x_bin, x_ife, x_ifl, x_ifg, x_cme, x_cml, x_cmg, x_go, x_no, x_b, x_ps, x_pn, cs_n, cs_i, cs_j, cs_r, en_n, en_i, en_j, en_r, xi2, x_sw, x_sw0, xi3, x_k1_s, r_i, r_j, r_v, r_z1, r_z0, r_a, xa0, x_k2_20, xi1, x_k3_s, e136_0, e136_1, e136_56, e136_57, e136_60, e136_61, e136_62, e136_65, e136_66, e136_67, e136_68, e136_71, e136_72, e136_73, e136_76, e136_79, e136_80, e136_81, e136_84, e136_85, e136_88, e136_89, e136_90, e136_91, e136_92, e136_94, e136_97, e136_98, e136_99, e136_100, e136_102, e136_105, e136_106, e136_107, e136_108, e136_110, e136_113, e136_114, e136_115, e136_116, e136_117, e136_120, e136_121, e136_122, e136_123, e136_126, e136_129, e136_130, e136_131, c136, i10, i00, n2, n10, n20, n60, n8, n9, bi0, ite_not, List.replicate, Nat.reduceAdd, Nat.reduceSub, Nat.reduceLeDiff, Nat.reduceLT, if_true, if_false, mg, reduceIte, not_false_eq_true, eq_self, and_self, and_true, true_and, true_or, or_true, Nat.reduceEqDiff, hd, t_isKind, t_isDate, t_within6, biz]
      rfl
