/-! bytes fed -/
theorem sh_u : ∀ s, s < 32 → (((nI s).toUInt32 &&& Int32.toUInt32 31).toBitVec % 32).toNat = s := by decide +kernel
theorem sh_s : ∀ s, s < 32 → ((nI s &&& 31).toBitVec.smod 32).toNat = s := by decide +kernel
theorem bit255 : ∀ j, j < 32 → (nI 255).toBitVec.getLsbD j = decide (j < 8) := by decide +kernel
theorem by8 (b : Int32) (s : Nat) (hs : s ≤ 24) : (ushr b (nI s) &&& nI 255) = ((b >>> (nI s &&& 31)) &&& nI 255) := by
  apply Int32.toBitVec_inj.mp
  apply BitVec.eq_of_getLsbD_eq
  intro j hj
  rw [Int32.toBitVec_and, Int32.toBitVec_and, BitVec.getLsbD_and, BitVec.getLsbD_and, bit255 j hj]
  by_cases c : j < 8
  · congr 1
    unfold ushr
    have h1 : (b.toUInt32 >>> ((nI s).toUInt32 &&& Int32.toUInt32 31)).toInt32.toBitVec = b.toBitVec >>> s := by
      show (b.toUInt32 >>> ((nI s).toUInt32 &&& Int32.toUInt32 31)).toBitVec = _
      rw [UInt32.toBitVec_shiftRight, BitVec.ushiftRight_eq', sh_u s (by omega)]
      rfl
    have h2 : (b >>> (nI s &&& 31)).toBitVec = b.toBitVec.sshiftRight s := by
      rw [Int32.toBitVec_shiftRight, BitVec.sshiftRight_eq', sh_s s (by omega)]
    rw [h1, h2, BitVec.getLsbD_ushiftRight, BitVec.getLsbD_sshiftRight]
    rw [if_pos (show s + j < 32 by omega), decide_eq_false (show ¬ 32 ≤ j by omega)]
    rfl
  · simp [c]
theorem in255 (b : Int32) : inN 255 (b &&& nI 255) := by
  refine ⟨(b &&& nI 255).toBitVec.toNat, ?_, ?_⟩
  · rw [Int32.toBitVec_and, BitVec.toNat_and]
    exact Nat.and_le_right
  · exact Int32.toBitVec_inj.mp (by show _ = BitVec.ofNat 32 _; simp)
theorem t_room {X : aX} {S : aS} {t c : Nat} (h : S.2 (7, 0, 0) 1 = nI t) (ht : t ≤ 120) (hc : c ≤ 120) : cl X 54 [aR (7, 0, 0), aI (nI c)] (mem S) = some (some (aI (bi (t + c ≤ 120))), mem S) := by
  simp only [nl_n, nl_i, nl_r, x_ci, x_ca, x_bin, x_ife, x_ifl, x_ifg, x_cme, x_cml, x_cmg, x_go, x_no, x_b, x_ps, x_pn, cs_n, cs_i, cs_j, cs_r, en_n, en_i, en_j, en_r, xa0, g_7_1, xi1, r_i, r_j, r_v, r_z1, r_z0, r_a, e54_0, e54_1, e54_4, e54_5, e54_6, e54_8, e54_11, e54_12, e54_15, e54_16, c54, i10, i00, n2, n10, n20, n60, n8, n9, bi0, ite_not, List.replicate, Nat.reduceAdd, Nat.reduceSub, Nat.reduceLeDiff, Nat.reduceLT, if_true, if_false, mg, reduceIte, not_false_eq_true, eq_self, and_self, and_true, true_and, true_or, or_true, Nat.reduceEqDiff, h, nI_add]
  by_cases e : t + c ≤ 120
  · rw [if_neg (nI_nlt e (by decide)), bi_t e]
  · rw [if_pos (nI_lt (by omega) (by omega)), bi_f e]
def fxD (b : Int32) : Nat → Nat → aD → aD
  | 0, _, D => D
  | k + 1, t, D => fxD b k (t + 1) (uD (uD D (8, 0, 0) t (ushr b (nI (8 * k)) &&& nI 255)) (7, 0, 0) 1 (nI (t + 1)))
def fmD (b : Int32) : Nat → Nat → aD → aD
  | 0, _, D => D
  | k + 1, t, D => fmD b k (t + 1) (uD (uD D (26, 0, 0) t ((b >>> (nI (8 * k) &&& 31)) &&& nI 255)) (20, 0, 0) 8 (nI (t + 1)))
theorem fx_s (b : Int32) (k t : Nat) (D : aD) : fxD b (k + 1) t D = fxD b k (t + 1) (uD (uD D (8, 0, 0) t (ushr b (nI (8 * k)) &&& nI 255)) (7, 0, 0) 1 (nI (t + 1))) := rfl
theorem fm_s (b : Int32) (k t : Nat) (D : aD) : fmD b (k + 1) t D = fmD b k (t + 1) (uD (uD D (26, 0, 0) t ((b >>> (nI (8 * k) &&& 31)) &&& nI 255)) (20, 0, 0) 8 (nI (t + 1))) := rfl
theorem fx_at (b : Int32) : ∀ k t D, D (7, 0, 0) 1 = nI t → (fxD b k t D (7, 0, 0) 1 = nI (t + k)) ∧ (∀ y, fxD b k t D (8, 0, 0) y = if t ≤ y ∧ y < t + k then (ushr b (nI (8 * (t + k - 1 - y))) &&& nI 255) else D (8, 0, 0) y) ∧ ∀ r y, r ≠ (8, 0, 0) → (r ≠ (7, 0, 0) ∨ y ≠ 1) → fxD b k t D r y = D r y := by
  intro k
  induction k with
  | zero =>
    intro t D h
    exact ⟨h, fun y => by rw [if_neg (by omega)]; rfl, fun _ _ _ _ => rfl⟩
  | succ k ih =>
    intro t D h
    obtain ⟨h1, h2, h3⟩ := ih (t + 1) (uD (uD D (8, 0, 0) t (ushr b (nI (8 * k)) &&& nI 255)) (7, 0, 0) 1 (nI (t + 1))) (uD_at ..)
    rw [fx_s]
    refine ⟨by rw [h1]; congr 1; omega, fun y => ?_, fun r y hr hy => ?_⟩
    · rw [h2, uD_c (by decide)]
      by_cases c : y = t
      · subst c
        rw [if_neg (by omega), if_pos (by omega), uD_at, show y + (k + 1) - 1 - y = k by omega]
      · rw [uD_o (Or.inr c)]
        by_cases c2 : t + 1 ≤ y ∧ y < t + 1 + k
        · rw [if_pos c2, if_pos (by omega), show t + (k + 1) - 1 - y = t + 1 + k - 1 - y by omega]
        · rw [if_neg c2, if_neg (by omega)]
    · rw [h3 r y hr hy, uD_o hy, uD_o (Or.inl hr)]
theorem fm_at (b : Int32) : ∀ k t D, D (20, 0, 0) 8 = nI t → (fmD b k t D (20, 0, 0) 8 = nI (t + k)) ∧ (∀ y, fmD b k t D (26, 0, 0) y = if t ≤ y ∧ y < t + k then ((b >>> (nI (8 * (t + k - 1 - y)) &&& 31)) &&& nI 255) else D (26, 0, 0) y) ∧ ∀ r y, r ≠ (26, 0, 0) → (r ≠ (20, 0, 0) ∨ y ≠ 8) → fmD b k t D r y = D r y := by
  intro k
  induction k with
  | zero =>
    intro t D h
    exact ⟨h, fun y => by rw [if_neg (by omega)]; rfl, fun _ _ _ _ => rfl⟩
  | succ k ih =>
    intro t D h
    obtain ⟨h1, h2, h3⟩ := ih (t + 1) (uD (uD D (26, 0, 0) t ((b >>> (nI (8 * k) &&& 31)) &&& nI 255)) (20, 0, 0) 8 (nI (t + 1))) (uD_at ..)
    rw [fm_s]
    refine ⟨by rw [h1]; congr 1; omega, fun y => ?_, fun r y hr hy => ?_⟩
    · rw [h2, uD_c (by decide)]
      by_cases c : y = t
      · subst c
        rw [if_neg (by omega), if_pos (by omega), uD_at, show y + (k + 1) - 1 - y = k by omega]
      · rw [uD_o (Or.inr c)]
        by_cases c2 : t + 1 ≤ y ∧ y < t + 1 + k
        · rw [if_pos c2, if_pos (by omega), show t + (k + 1) - 1 - y = t + 1 + k - 1 - y by omega]
        · rw [if_neg c2, if_neg (by omega)]
    · rw [h3 r y hr hy, uD_o hy, uD_o (Or.inl hr)]
theorem t_tadd {X : aX} {S : aS} {t : Nat} {x : Int32} (h : S.2 (7, 0, 0) 1 = nI t) (ht : t < 120) : cl X 55 [aR (7, 0, 0), aI x] (mem S) = some (none, mem (S.1, uD (uD S.2 (8, 0, 0) t x) (7, 0, 0) 1 (nI (t + 1)))) := by
  have e : ∀ y, uD S.2 (8, 0, 0) t y (7, 0, 0) 1 = nI t := fun y => (uD_c (by decide)).trans h
  simp only [nl_n, nl_i, nl_r, x_ci, x_ca, x_bin, x_ife, x_ifl, x_ifg, x_cme, x_cml, x_cmg, x_go, x_no, x_b, x_ps, x_pn, cs_n, cs_i, cs_j, cs_r, en_n, en_i, en_j, en_r, xa0, x_k2_7, g_7_0, g_7_1, xi1, s_3, s_5, s_8, s_11, s_12, s_21, s_22, s_23, s_24, s_25, s_26, s_28, s_29, s_30, s_31, s_32, x_dupi, x_dupr, p_7_1, r_i, r_j, r_v, r_z1, r_z0, r_a, e55_0, e55_1, e55_2, e55_5, e55_8, e55_9, e55_12, e55_13, e55_16, e55_17, e55_18, e55_19, e55_20, e55_23, e55_24, e55_25, e55_28, c55, i10, i00, n2, n10, n20, n60, n8, n9, bi0, ite_not, List.replicate, Nat.reduceAdd, Nat.reduceSub, Nat.reduceLeDiff, Nat.reduceLT, if_true, if_false, mg, reduceIte, not_false_eq_true, eq_self, and_self, and_true, true_and, true_or, or_true, Nat.reduceEqDiff, (t_room (c := 1) h (by omega) (by decide)), (bi_t (show t + 1 ≤ 120 by omega)), h, ht, e, nI_add]
  rw [if_pos (by omega)]
theorem l_feedx {X : aX} {q : Nat → Nat → Int32} {b z : Int32} : ∀ k t D, k ≤ 4 → t + k ≤ 120 → D (7, 0, 0) 1 = nI t → go X 86 39 [some (aR (0, 0, 0)), some (aI b), some (aI z), some (aI (nI k - nI 1))] [] (mem (q, D)) = some (some (aI (nI (t + k))), mem (q, fxD b k t D)) := by
  intro k
  induction k with
  | zero =>
    intro t D hk ht h
    have e : nI 0 - nI 1 < 0 := by decide +kernel
    rw [e86_39]
    simp only [nl_n, nl_i, nl_r, x_ci, x_ca, x_bin, x_ife, x_ifl, x_ifg, x_cme, x_cml, x_cmg, x_go, x_no, x_b, x_ps, x_pn, cs_n, cs_i, cs_j, cs_r, en_n, en_i, en_j, en_r, xi2, x_k3_s, xa0, x_k2_0, r_i, r_j, r_v, r_z1, r_z0, r_a, g_0_3, g_6_0, x_k2_7, xs3n, xs3i, xs3r, xi3, xi1, xn3n, xn3i, xn3r, g_7_1, e86_0, e86_1, e86_2, e86_3, e86_6, e86_9, e86_10, e86_11, e86_14, e86_15, e86_16, e86_19, e86_22, e86_23, e86_26, e86_29, e86_30, e86_31, e86_34, e86_35, e86_36, e86_37, e86_38, e86_40, e86_43, e86_44, e86_47, e86_50, e86_51, e86_53, e86_54, e86_55, e86_56, e86_59, e86_60, e86_63, e86_66, e86_69, e86_70, e86_73, e86_76, e86_79, c86, i10, i00, n2, n10, n20, n60, n8, n9, bi0, ite_not, List.replicate, Nat.reduceAdd, Nat.reduceSub, Nat.reduceLeDiff, Nat.reduceLT, if_true, if_false, mg, reduceIte, not_false_eq_true, eq_self, and_self, and_true, true_and, true_or, or_true, Nat.reduceEqDiff, e, h]
    rfl
  | succ k ih =>
    intro t D hk ht h
    have e : nI (k + 1) - nI 1 = nI k := nI_pred k
    have e1 : nI k + -1 = nI k - nI 1 := by rw [Int32.sub_eq_add_neg, show -(nI 1) = (-1 : Int32) by decide +kernel]
    have ta := fun x => t_tadd (X := X) (S := (q, D)) (x := x) h (by omega)
    have hi := ih (t + 1) (uD (uD D (8, 0, 0) t (ushr b (nI (8 * k)) &&& nI 255)) (7, 0, 0) 1 (nI (t + 1))) (by omega) (by omega) (uD_at ..)
    rw [fx_s, show t + (k + 1) = t + 1 + k by omega, ← hi, e86_39, e]
    simp only [nl_n, nl_i, nl_r, x_ci, x_ca, x_bin, x_ife, x_ifl, x_ifg, x_cme, x_cml, x_cmg, x_go, x_no, x_b, x_ps, x_pn, cs_n, cs_i, cs_j, cs_r, en_n, en_i, en_j, en_r, xi2, x_k3_s, xa0, x_k2_0, r_i, r_j, r_v, r_z1, r_z0, r_a, g_0_3, g_6_0, x_k2_7, xs3n, xs3i, xs3r, xi3, xi1, xn3n, xn3i, xn3r, g_7_1, e86_0, e86_1, e86_2, e86_3, e86_6, e86_9, e86_10, e86_11, e86_14, e86_15, e86_16, e86_19, e86_22, e86_23, e86_26, e86_29, e86_30, e86_31, e86_34, e86_35, e86_36, e86_37, e86_38, e86_40, e86_43, e86_44, e86_47, e86_50, e86_51, e86_53, e86_54, e86_55, e86_56, e86_59, e86_60, e86_63, e86_66, e86_69, e86_70, e86_73, e86_76, e86_79, c86, i10, i00, n2, n10, n20, n60, n8, n9, bi0, ite_not, List.replicate, Nat.reduceAdd, Nat.reduceSub, Nat.reduceLeDiff, Nat.reduceLT, if_true, if_false, mg, reduceIte, not_false_eq_true, eq_self, and_self, and_true, true_and, true_or, or_true, Nat.reduceEqDiff, (nI_pos (show k < 2 ^ 31 by omega)), nI_mul, ta, e1]
    rfl
theorem l_feedm {X : aX} {q : Nat → Nat → Int32} {b z : Int32} : ∀ k t D, k ≤ 4 → t + k ≤ 120 → D (20, 0, 0) 8 = nI t → go X 183 38 [some (aR (20, 0, 0)), some (aI b), some (aI z), some (aI (nI k - nI 1))] [] (mem (q, D)) = some (some (aI (nI (t + k))), mem (q, fmD b k t D)) := by
  intro k
  induction k with
  | zero =>
    intro t D hk ht h
    have e : nI 0 - nI 1 < 0 := by decide +kernel
    rw [e183_38]
    simp only [nl_n, nl_i, nl_r, x_ci, x_ca, x_bin, x_ife, x_ifl, x_ifg, x_cme, x_cml, x_cmg, x_go, x_no, x_b, x_ps, x_pn, cs_n, cs_i, cs_j, cs_r, en_n, en_i, en_j, en_r, xi2, x_k3_s, xa0, x_k2_20, r_i, r_j, r_v, r_z1, r_z0, r_a, g_20_8, xs3n, xs3i, xs3r, xi3, g_20_7, xi1, s_3, s_5, s_8, s_11, s_12, s_21, s_22, s_23, s_24, s_25, s_26, s_28, s_29, s_30, s_31, s_32, x_dupi, x_dupr, p_20_8, xn3n, xn3i, xn3r, e183_0, e183_1, e183_2, e183_3, e183_6, e183_9, e183_10, e183_12, e183_15, e183_16, e183_17, e183_20, e183_21, e183_22, e183_24, e183_27, e183_28, e183_30, e183_33, e183_34, e183_35, e183_36, e183_37, e183_39, e183_42, e183_43, e183_46, e183_47, e183_50, e183_51, e183_53, e183_54, e183_55, e183_56, e183_59, e183_60, e183_61, e183_62, e183_63, e183_66, e183_67, e183_68, e183_71, e183_74, e183_77, e183_78, e183_81, c183, i10, i00, n2, n10, n20, n60, n8, n9, bi0, ite_not, List.replicate, Nat.reduceAdd, Nat.reduceSub, Nat.reduceLeDiff, Nat.reduceLT, if_true, if_false, mg, reduceIte, not_false_eq_true, eq_self, and_self, and_true, true_and, true_or, or_true, Nat.reduceEqDiff, e, h]
    rfl
  | succ k ih =>
    intro t D hk ht h
    have e : nI (k + 1) - nI 1 = nI k := nI_pred k
    have e1 : nI k + -1 = nI k - nI 1 := by rw [Int32.sub_eq_add_neg, show -(nI 1) = (-1 : Int32) by decide +kernel]
    have ht2 : t < 120 := by omega
    have e8 : ∀ y, uD D (26, 0, 0) t y (20, 0, 0) 8 = nI t := fun y => (uD_c (by decide)).trans h
    have hi := ih (t + 1) (uD (uD D (26, 0, 0) t ((b >>> (nI (8 * k) &&& 31)) &&& nI 255)) (20, 0, 0) 8 (nI (t + 1))) (by omega) (by omega) (uD_at ..)
    rw [fm_s, show t + (k + 1) = t + 1 + k by omega, ← hi, e183_38, e]
    simp only [nl_n, nl_i, nl_r, x_ci, x_ca, x_bin, x_ife, x_ifl, x_ifg, x_cme, x_cml, x_cmg, x_go, x_no, x_b, x_ps, x_pn, cs_n, cs_i, cs_j, cs_r, en_n, en_i, en_j, en_r, xi2, x_k3_s, xa0, x_k2_20, r_i, r_j, r_v, r_z1, r_z0, r_a, g_20_8, xs3n, xs3i, xs3r, xi3, g_20_7, xi1, s_3, s_5, s_8, s_11, s_12, s_21, s_22, s_23, s_24, s_25, s_26, s_28, s_29, s_30, s_31, s_32, x_dupi, x_dupr, p_20_8, xn3n, xn3i, xn3r, e183_0, e183_1, e183_2, e183_3, e183_6, e183_9, e183_10, e183_12, e183_15, e183_16, e183_17, e183_20, e183_21, e183_22, e183_24, e183_27, e183_28, e183_30, e183_33, e183_34, e183_35, e183_36, e183_37, e183_39, e183_42, e183_43, e183_46, e183_47, e183_50, e183_51, e183_53, e183_54, e183_55, e183_56, e183_59, e183_60, e183_61, e183_62, e183_63, e183_66, e183_67, e183_68, e183_71, e183_74, e183_77, e183_78, e183_81, c183, i10, i00, n2, n10, n20, n60, n8, n9, bi0, ite_not, List.replicate, Nat.reduceAdd, Nat.reduceSub, Nat.reduceLeDiff, Nat.reduceLT, if_true, if_false, mg, reduceIte, not_false_eq_true, eq_self, and_self, and_true, true_and, true_or, or_true, Nat.reduceEqDiff, (nI_pos (show k < 2 ^ 31 by omega)), nI_mul, nI_add, h, ht2, e8, e1]
theorem op_f1 {X : aX} {a b : Nat} {as : List aV} {S : aS} (hJ : J S) (hx : cl X a (aR (0, 0, 0) :: as) (mem S) = some (some (aI (-1000002)), mem (S.1, tlD 1 S.2))) (hm : cl X b (aR (20, 0, 0) :: as) (mem (S.1, tlD 1 S.2)) = some (some (aI (-1000002)), mem (S.1, fdD 1 (tlD 1 S.2)))) : opK X a b as S := op_fin (by decide) hJ hx hm
theorem o_feed {X : aX} {S : aS} {b y : Int32} (hJ : J S) : opK X 86 183 [aI b, aI y] S := by
  obtain ⟨⟨n, hR, hA⟩, hK, hD⟩ := id hJ
  have hR3 := ag_RI hA hR
  have hn := hR.1
  have hz := hR.2.1
  have hz3 := hR3.2.1
  obtain ⟨⟨f1, f2⟩, ⟨t, t1, t2, t3, t4⟩, hs, kk1, kk2⟩ := id hD
  by_cases c1 : wi y (nI 1) (nI 4)
  · obtain ⟨c, hc1, hc, rfl⟩ := wi_of (by decide) c1 (by decide)
    have tr := t_room (X := X) (S := S) (c := c) t2 t1 (by omega)
    by_cases c2 : t + c ≤ 120
    · have h1 := l_feedx (X := X) (q := S.1) (b := b) (z := nI c) c t S.2 hc c2 t2
      obtain ⟨x1, x2, x3⟩ := fx_at b c t S.2 t2
      generalize hD1 : fxD b c t S.2 = D1 at h1 x1 x2 x3
      have t3' : D1 (20, 0, 0) 8 = nI t := (x3 (20, 0, 0) 8 (by decide) (Or.inl (by decide))).trans t3
      have h2 := l_feedm (X := X) (q := S.1) (b := b) (z := nI c) c t D1 hc c2 t3'
      obtain ⟨m1, m2, m3⟩ := fm_at b c t D1 t3'
      generalize hD2 : fmD b c t D1 = D2 at h2 m1 m2 m3
      have q3 : ¬ nI 120 < nI (t + c) := nI_nlt c2 (by decide)
      have o : ∀ (r : aL) k, r.1 ≠ 7 → r.1 ≠ 8 → r.1 ≠ 20 → r.1 ≠ 26 → D2 r k = S.2 r k := fun r k a7 a8 a20 a26 => (m3 r k (fun e => a26 (by rw [e])) (Or.inl (fun e => a20 (by rw [e])))).trans (x3 r k (fun e => a8 (by rw [e])) (Or.inl (fun e => a7 (by rw [e]))))
      refine ⟨aI (nI (t + c)), (S.1, D1), (S.1, D2), ?_, ?_, ?_⟩
      · simp only [nl_n, nl_i, nl_r, x_ci, x_ca, x_bin, x_ife, x_ifl, x_ifg, x_cme, x_cml, x_cmg, x_go, x_no, x_b, x_ps, x_pn, cs_n, cs_i, cs_j, cs_r, en_n, en_i, en_j, en_r, xi2, x_k3_s, xa0, x_k2_0, r_i, r_j, r_v, r_z1, r_z0, r_a, g_0_3, g_6_0, x_k2_7, xs3n, xs3i, xs3r, xi3, xi1, xn3n, xn3i, xn3r, g_7_1, e86_0, e86_1, e86_2, e86_3, e86_6, e86_9, e86_10, e86_11, e86_14, e86_15, e86_16, e86_19, e86_22, e86_23, e86_26, e86_29, e86_30, e86_31, e86_34, e86_35, e86_36, e86_37, e86_38, e86_40, e86_43, e86_44, e86_47, e86_50, e86_51, e86_53, e86_54, e86_55, e86_56, e86_59, e86_60, e86_63, e86_66, e86_69, e86_70, e86_73, e86_76, e86_79, c86, i10, i00, n2, n10, n20, n60, n8, n9, bi0, ite_not, List.replicate, Nat.reduceAdd, Nat.reduceSub, Nat.reduceLeDiff, Nat.reduceLT, if_true, if_false, mg, reduceIte, not_false_eq_true, eq_self, and_self, and_true, true_and, true_or, or_true, Nat.reduceEqDiff, t_within, (bi_t c1), tr, (bi_t c2)]
        exact h1
      · simp only [nl_n, nl_i, nl_r, x_ci, x_ca, x_bin, x_ife, x_ifl, x_ifg, x_cme, x_cml, x_cmg, x_go, x_no, x_b, x_ps, x_pn, cs_n, cs_i, cs_j, cs_r, en_n, en_i, en_j, en_r, xi2, x_k3_s, xa0, x_k2_20, r_i, r_j, r_v, r_z1, r_z0, r_a, g_20_8, xs3n, xs3i, xs3r, xi3, g_20_7, xi1, s_3, s_5, s_8, s_11, s_12, s_21, s_22, s_23, s_24, s_25, s_26, s_28, s_29, s_30, s_31, s_32, x_dupi, x_dupr, p_20_8, xn3n, xn3i, xn3r, e183_0, e183_1, e183_2, e183_3, e183_6, e183_9, e183_10, e183_12, e183_15, e183_16, e183_17, e183_20, e183_21, e183_22, e183_24, e183_27, e183_28, e183_30, e183_33, e183_34, e183_35, e183_36, e183_37, e183_39, e183_42, e183_43, e183_46, e183_47, e183_50, e183_51, e183_53, e183_54, e183_55, e183_56, e183_59, e183_60, e183_61, e183_62, e183_63, e183_66, e183_67, e183_68, e183_71, e183_74, e183_77, e183_78, e183_81, c183, i10, i00, n2, n10, n20, n60, n8, n9, bi0, ite_not, List.replicate, Nat.reduceAdd, Nat.reduceSub, Nat.reduceLeDiff, Nat.reduceLT, if_true, if_false, mg, reduceIte, not_false_eq_true, eq_self, and_self, and_true, true_and, true_or, or_true, Nat.reduceEqDiff, t_within6, (bi_t c1), t3', nI_add, q3]
        exact h2
      · refine ⟨⟨n, hR, hA⟩, fun w => hK ((o (0, 0, 0) 6 (by decide) (by decide) (by decide) (by decide)).symm.trans w), ⟨fun j hj => ?_, ?_⟩, ⟨t + c, c2, ?_, m1, fun j hj => ?_⟩, fun s h => ?_, ?_, ?_⟩
        · show D2 _ _ = D2 _ _
          rw [o _ _ (by decide) (by decide) (by decide) (by decide), o _ _ (by decide) (by decide) (by decide) (by decide)]; exact f1 j hj
        · show D2 _ _ = sumF (fun j => D2 _ j) 7
          rw [o _ _ (by decide) (by decide) (by decide) (by decide), f2]
          exact congrArg (fun f => sumF f 7) (funext (fun j => (o (12, 0, 0) j (by decide) (by decide) (by decide) (by decide)).symm))
        · show D2 (7, 0, 0) 1 = nI (t + c)
          rw [m3 (7, 0, 0) 1 (by decide) (Or.inl (by decide))]; exact x1
        · show D2 (8, 0, 0) j = D2 (26, 0, 0) j ∧ inN 255 (D2 (8, 0, 0) j)
          rw [m3 (8, 0, 0) j (by decide) (Or.inl (by decide)), x2, m2, x3 (26, 0, 0) j (by decide) (Or.inl (by decide))]
          by_cases e : t ≤ j ∧ j < t + c
          · rw [if_pos e, if_pos e]
            exact ⟨by8 b _ (by omega), in255 _⟩
          · rw [if_neg e, if_neg e]
            exact t4 j (by omega)
        · obtain ⟨b', m, g1, g2, g3, g4, g5, g6, g7, g8⟩ := hs s h
          have o10 : ∀ j, D2 (10, s, 0) j = S.2 (10, s, 0) j := fun j => o _ j (Nat.ne_of_beq_eq_false rfl) (Nat.ne_of_beq_eq_false rfl) (Nat.ne_of_beq_eq_false rfl) (Nat.ne_of_beq_eq_false rfl)
          have o11 : ∀ j, D2 (11, s, 0) j = S.2 (11, s, 0) j := fun j => o _ j (Nat.ne_of_beq_eq_false rfl) (Nat.ne_of_beq_eq_false rfl) (Nat.ne_of_beq_eq_false rfl) (Nat.ne_of_beq_eq_false rfl)
          show HJ1 D2 s
          exact ⟨b', m, g1, g2, g3, by rw [o10]; exact g4, by rw [o _ _ (by decide) (by decide) (by decide) (by decide)]; exact g5, by rw [o10]; exact g6, by rw [o _ _ (by decide) (by decide) (by decide) (by decide)]; exact g7, fun j hj => by rw [o11, o _ _ (by decide) (by decide) (by decide) (by decide)]; exact g8 j hj⟩
        · show D2 _ _ = nI 0 ∨ D2 _ _ = nI 1
          rw [o _ _ (by decide) (by decide) (by decide) (by decide)]; exact kk1
        · show D2 _ _ = D2 _ _
          rw [m3 (20, 0, 0) 3 (by decide) (Or.inr (by decide)), x3 (20, 0, 0) 3 (by decide) (Or.inl (by decide)), o _ _ (by decide) (by decide) (by decide) (by decide)]; exact kk2
    · have q3 : nI 120 < nI (t + c) := nI_lt (by omega) (by omega)
      have t3' : tlD 1 S.2 (20, 0, 0) 8 = nI t := (tl_o (by decide)).trans t3
      refine op_f1 hJ ?_ ?_
      · simp only [nl_n, nl_i, nl_r, x_ci, x_ca, x_bin, x_ife, x_ifl, x_ifg, x_cme, x_cml, x_cmg, x_go, x_no, x_b, x_ps, x_pn, cs_n, cs_i, cs_j, cs_r, en_n, en_i, en_j, en_r, xi2, x_k3_s, xa0, x_k2_0, r_i, r_j, r_v, r_z1, r_z0, r_a, g_0_3, g_6_0, x_k2_7, xs3n, xs3i, xs3r, xi3, xi1, xn3n, xn3i, xn3r, g_7_1, e86_0, e86_1, e86_2, e86_3, e86_6, e86_9, e86_10, e86_11, e86_14, e86_15, e86_16, e86_19, e86_22, e86_23, e86_26, e86_29, e86_30, e86_31, e86_34, e86_35, e86_36, e86_37, e86_38, e86_40, e86_43, e86_44, e86_47, e86_50, e86_51, e86_53, e86_54, e86_55, e86_56, e86_59, e86_60, e86_63, e86_66, e86_69, e86_70, e86_73, e86_76, e86_79, c86, i10, i00, n2, n10, n20, n60, n8, n9, bi0, ite_not, List.replicate, Nat.reduceAdd, Nat.reduceSub, Nat.reduceLeDiff, Nat.reduceLT, if_true, if_false, mg, reduceIte, not_false_eq_true, eq_self, and_self, and_true, true_and, true_or, or_true, Nat.reduceEqDiff, t_within, (bi_t c1), tr, (bi_f c2), tel1]
      · simp only [nl_n, nl_i, nl_r, x_ci, x_ca, x_bin, x_ife, x_ifl, x_ifg, x_cme, x_cml, x_cmg, x_go, x_no, x_b, x_ps, x_pn, cs_n, cs_i, cs_j, cs_r, en_n, en_i, en_j, en_r, xi2, x_k3_s, xa0, x_k2_20, r_i, r_j, r_v, r_z1, r_z0, r_a, g_20_8, xs3n, xs3i, xs3r, xi3, g_20_7, xi1, s_3, s_5, s_8, s_11, s_12, s_21, s_22, s_23, s_24, s_25, s_26, s_28, s_29, s_30, s_31, s_32, x_dupi, x_dupr, p_20_8, xn3n, xn3i, xn3r, e183_0, e183_1, e183_2, e183_3, e183_6, e183_9, e183_10, e183_12, e183_15, e183_16, e183_17, e183_20, e183_21, e183_22, e183_24, e183_27, e183_28, e183_30, e183_33, e183_34, e183_35, e183_36, e183_37, e183_39, e183_42, e183_43, e183_46, e183_47, e183_50, e183_51, e183_53, e183_54, e183_55, e183_56, e183_59, e183_60, e183_61, e183_62, e183_63, e183_66, e183_67, e183_68, e183_71, e183_74, e183_77, e183_78, e183_81, c183, i10, i00, n2, n10, n20, n60, n8, n9, bi0, ite_not, List.replicate, Nat.reduceAdd, Nat.reduceSub, Nat.reduceLeDiff, Nat.reduceLT, if_true, if_false, mg, reduceIte, not_false_eq_true, eq_self, and_self, and_true, true_and, true_or, or_true, Nat.reduceEqDiff, t_within6, (bi_t c1), t3', nI_add, q3, fnd1]
  · refine op_fin (k := 0) (w := -1000001) (by decide) hJ ?_ ?_
    · simp only [nl_n, nl_i, nl_r, x_ci, x_ca, x_bin, x_ife, x_ifl, x_ifg, x_cme, x_cml, x_cmg, x_go, x_no, x_b, x_ps, x_pn, cs_n, cs_i, cs_j, cs_r, en_n, en_i, en_j, en_r, xi2, x_k3_s, xa0, x_k2_0, r_i, r_j, r_v, r_z1, r_z0, r_a, g_0_3, g_6_0, x_k2_7, xs3n, xs3i, xs3r, xi3, xi1, xn3n, xn3i, xn3r, g_7_1, e86_0, e86_1, e86_2, e86_3, e86_6, e86_9, e86_10, e86_11, e86_14, e86_15, e86_16, e86_19, e86_22, e86_23, e86_26, e86_29, e86_30, e86_31, e86_34, e86_35, e86_36, e86_37, e86_38, e86_40, e86_43, e86_44, e86_47, e86_50, e86_51, e86_53, e86_54, e86_55, e86_56, e86_59, e86_60, e86_63, e86_66, e86_69, e86_70, e86_73, e86_76, e86_79, c86, i10, i00, n2, n10, n20, n60, n8, n9, bi0, ite_not, List.replicate, Nat.reduceAdd, Nat.reduceSub, Nat.reduceLeDiff, Nat.reduceLT, if_true, if_false, mg, reduceIte, not_false_eq_true, eq_self, and_self, and_true, true_and, true_or, or_true, Nat.reduceEqDiff, t_within, (bi_f c1), tel0]
    · simp only [nl_n, nl_i, nl_r, x_ci, x_ca, x_bin, x_ife, x_ifl, x_ifg, x_cme, x_cml, x_cmg, x_go, x_no, x_b, x_ps, x_pn, cs_n, cs_i, cs_j, cs_r, en_n, en_i, en_j, en_r, xi2, x_k3_s, xa0, x_k2_20, r_i, r_j, r_v, r_z1, r_z0, r_a, g_20_8, xs3n, xs3i, xs3r, xi3, g_20_7, xi1, s_3, s_5, s_8, s_11, s_12, s_21, s_22, s_23, s_24, s_25, s_26, s_28, s_29, s_30, s_31, s_32, x_dupi, x_dupr, p_20_8, xn3n, xn3i, xn3r, e183_0, e183_1, e183_2, e183_3, e183_6, e183_9, e183_10, e183_12, e183_15, e183_16, e183_17, e183_20, e183_21, e183_22, e183_24, e183_27, e183_28, e183_30, e183_33, e183_34, e183_35, e183_36, e183_37, e183_39, e183_42, e183_43, e183_46, e183_47, e183_50, e183_51, e183_53, e183_54, e183_55, e183_56, e183_59, e183_60, e183_61, e183_62, e183_63, e183_66, e183_67, e183_68, e183_71, e183_74, e183_77, e183_78, e183_81, c183, i10, i00, n2, n10, n20, n60, n8, n9, bi0, ite_not, List.replicate, Nat.reduceAdd, Nat.reduceSub, Nat.reduceLeDiff, Nat.reduceLT, if_true, if_false, mg, reduceIte, not_false_eq_true, eq_self, and_self, and_true, true_and, true_or, or_true, Nat.reduceEqDiff, t_within6, (bi_f c1), fnd0]
