/-! THE REFERENCE: WHAT IT TELLS OF ONE SINGER -/
theorem nI_mul (a b : Nat) : nI a * nI b = nI (a * b) := (Int32.ofNat_mul a b).symm
theorem m1_lt : (-1 : Int32) < 0 := by decide +kernel
theorem p94 {i f : Nat} (hi : i < 8) (hf : f < 10) : 14 + 10 * i + f < 94 := by omega
theorem bi1 {c : Prop} [Decidable c] : (bi c = nI 1) = c := by
  unfold bi
  by_cases h : c
  · rw [if_pos h]; simp [h]
  · rw [if_neg h]
    exact propext ⟨fun e => absurd e (by decide +kernel), fun e => absurd e h⟩
theorem bi_c {c c' : Prop} [Decidable c] [Decidable c'] (h : c ↔ c') : bi c = bi c' := by
  by_cases e : c
  · rw [bi_t e, bi_t (h.mp e)]
  · rw [bi_f e, bi_f (fun w => e (h.mpr w))]
theorem mn_comm (x y : Int32) : mn x y = mn y x := by
  unfold mn
  by_cases h : y < x
  · rw [if_pos h, if_neg]
    intro h2
    rw [Int32.lt_iff_toInt_lt] at h h2
    omega
  · rw [if_neg h]
    by_cases h2 : x < y
    · rw [if_pos h2]
    · rw [if_neg h2]
      rw [Int32.lt_iff_toInt_lt] at h h2
      exact Int32.toInt_inj.mp (by omega)
theorem t_at {X : aX} {M : aM} {i f : Nat} : cl X 121 [aI (nI i), aI (nI f)] M = some (some (aI (nI (14 + 10 * i + f))), M) := by
  simp only [nl_n, nl_i, nl_r, x_ci, x_ca, x_bin, x_ife, x_ifl, x_ifg, x_cme, x_cml, x_cmg, x_go, x_no, x_b, x_ps, x_pn, cs_n, cs_i, cs_j, cs_r, en_n, en_i, en_j, en_r, xi0, xi1, r_i, r_j, r_v, r_z1, r_z0, r_a, e121_0, e121_2, e121_4, e121_5, e121_6, e121_7, e121_8, e121_9, c121, i10, i00, n2, n10, n20, n60, n8, n9, bi0, ite_not, List.replicate, Nat.reduceAdd, Nat.reduceSub, Nat.reduceLeDiff, Nat.reduceLT, if_true, if_false, mg, reduceIte, not_false_eq_true, eq_self, and_self, and_true, true_and, true_or, or_true, Nat.reduceEqDiff, nI_mul, nI_add]
theorem t_is {X : aX} {S : aS} {i f : Nat} (hi : i < 8) (hf : f < 10) : cl X 122 [aR (20, 0, 0), aI (nI i), aI (nI f)] (mem S) = some (some (aI (S.1 3 (14 + 10 * i + f))), mem S) := by
  simp only [nl_n, nl_i, nl_r, x_ci, x_ca, x_bin, x_ife, x_ifl, x_ifg, x_cme, x_cml, x_cmg, x_go, x_no, x_b, x_ps, x_pn, cs_n, cs_i, cs_j, cs_r, en_n, en_i, en_j, en_r, xa0, g_20_0, xi1, xi2, x_k2_s, l_3, l_5, l_8, l_11, l_12, l_21, l_22, l_23, l_24, l_25, l_26, l_28, l_29, l_30, l_31, l_32, r_i, r_j, r_v, r_z1, r_z0, r_a, e122_0, e122_1, e122_4, e122_5, e122_6, e122_9, e122_10, c122, i10, i00, n2, n10, n20, n60, n8, n9, bi0, ite_not, List.replicate, Nat.reduceAdd, Nat.reduceSub, Nat.reduceLeDiff, Nat.reduceLT, if_true, if_false, mg, reduceIte, not_false_eq_true, eq_self, and_self, and_true, true_and, true_or, or_true, Nat.reduceEqDiff, t_at, (p94 hi hf)]
theorem sub1 : ∀ n, n ≤ 8 → (nI n - nI 1).toInt = (n : Int) - 1 := by decide +kernel
theorem wi_has {n : Nat} {x : Int32} (hn : n ≤ 8) : wi x (nI 0) (nI n - nI 1) ↔ hsP n x := by
  unfold wi hsP
  rw [nI_0, Int32.lt_iff_toInt_lt (x := nI n - nI 1), Int32.lt_iff_toInt_lt (y := nI n), sub1 n hn, nI_toInt (by omega)]
  constructor
  · exact fun h => ⟨h.1, by omega⟩
  · exact fun h => ⟨h.1, by omega⟩
theorem t_isS {X : aX} {S : aS} {n : Nat} {x : Int32} (hn : n ≤ 8) (hz : S.1 3 1 = nI n) : cl X 123 [aR (20, 0, 0), aI x] (mem S) = some (some (aI (bi (hsP n x))), mem S) := by
  simp only [nl_n, nl_i, nl_r, x_ci, x_ca, x_bin, x_ife, x_ifl, x_ifg, x_cme, x_cml, x_cmg, x_go, x_no, x_b, x_ps, x_pn, cs_n, cs_i, cs_j, cs_r, en_n, en_i, en_j, en_r, xi1, xa0, g_20_0, l_3, l_5, l_8, l_11, l_12, l_21, l_22, l_23, l_24, l_25, l_26, l_28, l_29, l_30, l_31, l_32, x_k3_s, r_i, r_j, r_v, r_z1, r_z0, r_a, e123_0, e123_1, e123_2, e123_3, e123_6, e123_7, e123_8, e123_9, e123_10, e123_13, c123, i10, i00, n2, n10, n20, n60, n8, n9, bi0, ite_not, List.replicate, Nat.reduceAdd, Nat.reduceSub, Nat.reduceLeDiff, Nat.reduceLT, if_true, if_false, mg, reduceIte, not_false_eq_true, eq_self, and_self, and_true, true_and, true_or, or_true, Nat.reduceEqDiff, hz, t_within6, biz]
  rw [bi_c (wi_has hn)]
theorem t_isDead {X : aX} {S : aS} {i : Nat} (hi : i < 8) (hd : inN 1 (S.1 3 (14 + 10 * i + 6))) : cl X 127 [aR (20, 0, 0), aI (nI i)] (mem S) = some (some (aI (bi (¬ S.1 3 (14 + 10 * i + 6) = 0))), mem S) := by
  simp only [nl_n, nl_i, nl_r, x_ci, x_ca, x_bin, x_ife, x_ifl, x_ifg, x_cme, x_cml, x_cmg, x_go, x_no, x_b, x_ps, x_pn, cs_n, cs_i, cs_j, cs_r, en_n, en_i, en_j, en_r, xa0, xi1, x_k3_20, r_i, r_j, r_v, r_z1, r_z0, r_a, e127_0, e127_1, e127_2, e127_4, e127_7, e127_8, e127_11, e127_12, e127_15, e127_16, c127, i10, i00, n2, n10, n20, n60, n8, n9, bi0, ite_not, List.replicate, Nat.reduceAdd, Nat.reduceSub, Nat.reduceLeDiff, Nat.reduceLT, if_true, if_false, mg, reduceIte, not_false_eq_true, eq_self, and_self, and_true, true_and, true_or, or_true, Nat.reduceEqDiff, hi, t_is]
  obtain ⟨j, hj, e⟩ := hd
  rw [e]
  rcases (show j = 0 ∨ j = 1 by omega) with rfl | rfl
  · rw [if_neg (by decide +kernel), bi_f (by decide +kernel)]
  · rw [if_pos rfl, bi_t (by decide +kernel)]
theorem t_does {X : aX} {S : aS} {i : Nat} (hi : i < 8) (hd : inN 1 (S.1 3 (14 + 10 * i + 6))) : cl X 128 [aR (20, 0, 0), aI (nI i)] (mem S) = some (some (aI (bi (sgP (S.1 3) i))), mem S) := by
  simp only [nl_n, nl_i, nl_r, x_ci, x_ca, x_bin, x_ife, x_ifl, x_ifg, x_cme, x_cml, x_cmg, x_go, x_no, x_b, x_ps, x_pn, cs_n, cs_i, cs_j, cs_r, en_n, en_i, en_j, en_r, xa0, xi1, x_k2_20, x_k3_20, r_i, r_j, r_v, r_z1, r_z0, r_a, e128_0, e128_1, e128_2, e128_5, e128_8, e128_9, e128_10, e128_12, e128_15, e128_18, e128_19, e128_22, e128_23, c128, i10, i00, n2, n10, n20, n60, n8, n9, bi0, ite_not, List.replicate, Nat.reduceAdd, Nat.reduceSub, Nat.reduceLeDiff, Nat.reduceLT, if_true, if_false, mg, reduceIte, not_false_eq_true, eq_self, and_self, and_true, true_and, true_or, or_true, Nat.reduceEqDiff, hi, t_is, (t_isDead hi hd)]
  by_cases c : S.1 3 (14 + 10 * i + 6) = 0
  · by_cases c2 : 0 < S.1 3 (14 + 10 * i + 7)
    · rw [bi_t ⟨c2, c⟩]; simp only [c, c2, if_true, not_true, not_false_eq_true]
    · rw [bi_f (fun w => c2 w.1)]; simp only [c, c2, if_true, if_false, not_true, not_false_eq_true]
  · rw [bi_f (fun w => c w.2)]; simp only [c, if_false, not_false_eq_true, not_true]
theorem t_gap6 {X : aX} {S : aS} {i : Nat} (hi : i < 8) : cl X 129 [aR (20, 0, 0), aI (nI i)] (mem S) = some (some (aI (gapF (S.1 3) i)), mem S) := by
  simp only [nl_n, nl_i, nl_r, x_ci, x_ca, x_bin, x_ife, x_ifl, x_ifg, x_cme, x_cml, x_cmg, x_go, x_no, x_b, x_ps, x_pn, cs_n, cs_i, cs_j, cs_r, en_n, en_i, en_j, en_r, xa0, xi1, x_k3_20, x_div, xs2n, xs2i, xs2r, x_sw, x_sw0, xi2, r_i, r_j, r_v, r_z1, r_z0, r_a, e129_0, e129_1, e129_2, e129_3, e129_4, e129_7, e129_9, e129_10, e129_11, e129_12, e129_13, e129_14, e129_15, e129_18, e129_56, e129_57, e129_58, e129_59, e129_60, e129_61, e129_62, e129_63, e129_64, e129_65, e129_66, e129_67, e129_68, e129_69, e129_70, e129_71, e129_72, e129_73, e129_76, e129_78, e129_81, e129_82, e129_85, e129_86, e129_87, e129_88, c129, i10, i00, n2, n10, n20, n60, n8, n9, bi0, ite_not, List.replicate, Nat.reduceAdd, Nat.reduceSub, Nat.reduceLeDiff, Nat.reduceLT, if_true, if_false, mg, reduceIte, not_false_eq_true, eq_self, and_self, and_true, true_and, true_or, or_true, Nat.reduceEqDiff, hi, t_is]
  rfl
theorem t_lasts {X : aX} {S : aS} {i : Nat} (hi : i < 8) : cl X 130 [aR (20, 0, 0), aI (nI i)] (mem S) = some (some (aI (lastF (S.1 3) i)), mem S) := by
  simp only [nl_n, nl_i, nl_r, x_ci, x_ca, x_bin, x_ife, x_ifl, x_ifg, x_cme, x_cml, x_cmg, x_go, x_no, x_b, x_ps, x_pn, cs_n, cs_i, cs_j, cs_r, en_n, en_i, en_j, en_r, xa0, xi1, x_k3_20, xs2n, xs2i, xs2r, x_sw, x_sw0, xi2, r_i, r_j, r_v, r_z1, r_z0, r_a, x_div, e130_0, e130_1, e130_2, e130_3, e130_6, e130_7, e130_8, e130_9, e130_10, e130_13, e130_52, e130_53, e130_54, e130_55, e130_56, e130_57, e130_58, e130_59, e130_60, e130_61, e130_62, e130_65, e130_67, e130_68, e130_69, e130_70, e130_71, e130_72, e130_73, e130_74, e130_75, e130_76, e130_77, e130_78, e130_79, e130_80, e130_81, e130_82, e130_83, e130_84, e130_85, c130, i10, i00, n2, n10, n20, n60, n8, n9, bi0, ite_not, List.replicate, Nat.reduceAdd, Nat.reduceSub, Nat.reduceLeDiff, Nat.reduceLT, if_true, if_false, mg, reduceIte, not_false_eq_true, eq_self, and_self, and_true, true_and, true_or, or_true, Nat.reduceEqDiff, hi, t_is]
  unfold lastF
  rw [Int32.add_assoc (S.1 3 (14 + 10 * i + 5) / nI 2), nI_add 1 2]
  try rfl
theorem t_wears {X : aX} {S : aS} {i : Nat} (hi : i < 8) : cl X 133 [aR (20, 0, 0), aI (nI i)] (mem S) = some (some (aI (weaF (S.1 3) i)), mem S) := by
  simp only [nl_n, nl_i, nl_r, x_ci, x_ca, x_bin, x_ife, x_ifl, x_ifg, x_cme, x_cml, x_cmg, x_go, x_no, x_b, x_ps, x_pn, cs_n, cs_i, cs_j, cs_r, en_n, en_i, en_j, en_r, xa0, xi1, x_k3_20, x_sw, x_sw0, r_i, r_j, r_v, r_z1, r_z0, r_a, e133_0, e133_1, e133_2, e133_3, e133_6, e133_40, e133_41, e133_42, e133_43, e133_44, e133_45, e133_46, e133_47, e133_48, e133_49, e133_50, e133_51, e133_54, e133_56, e133_59, e133_61, e133_64, e133_65, e133_66, e133_67, c133, i10, i00, n2, n10, n20, n60, n8, n9, bi0, ite_not, List.replicate, Nat.reduceAdd, Nat.reduceSub, Nat.reduceLeDiff, Nat.reduceLT, if_true, if_false, mg, reduceIte, not_false_eq_true, eq_self, and_self, and_true, true_and, true_or, or_true, Nat.reduceEqDiff, hi, t_is]
  rfl
def alF (r : Nat → Int32) (i t : Nat) (b : Int32) : Int32 := bi (¬ b = 0 ∧ (t = i ∨ ¬ sgP r t))
theorem l_alone {X : aX} {S : aS} {n i : Nat} (hn : n ≤ 8) (hi : i < 8) (hz : S.1 3 1 = nI n) (hd : ∀ t, t < n → inN 1 (S.1 3 (14 + 10 * t + 6))) : ∀ k t (c : Prop) [Decidable c], t + k = n → go X 131 4 [some (aR (20, 0, 0)), some (aI (nI i)), some (aI (bi c)), some (aI (nI t))] [] (mem S) = some (some (aI (lp (alF (S.1 3) i) k t (bi c))), mem S) := by
  intro k
  induction k with
  | zero =>
    intro t c _ h
    rw [e131_4]
    simp only [nl_n, nl_i, nl_r, x_ci, x_ca, x_bin, x_ife, x_ifl, x_ifg, x_cme, x_cml, x_cmg, x_go, x_no, x_b, x_ps, x_pn, cs_n, cs_i, cs_j, cs_r, en_n, en_i, en_j, en_r, xs2n, xs2i, xs2r, xs3n, xs3i, xs3r, xi3, xa0, g_20_0, l_3, l_5, l_8, l_11, l_12, l_21, l_22, l_23, l_24, l_25, l_26, l_28, l_29, l_30, l_31, l_32, xi2, xi1, x_k2_20, xn3n, xn3i, xn3r, r_i, r_j, r_v, r_z1, r_z0, r_a, e131_0, e131_1, e131_2, e131_3, e131_5, e131_6, e131_9, e131_10, e131_11, e131_14, e131_15, e131_18, e131_19, e131_20, e131_23, e131_24, e131_25, e131_28, e131_31, e131_32, e131_35, e131_36, e131_37, e131_40, e131_43, e131_44, c131, i10, i00, n2, n10, n20, n60, n8, n9, bi0, ite_not, List.replicate, Nat.reduceAdd, Nat.reduceSub, Nat.reduceLeDiff, Nat.reduceLT, if_true, if_false, mg, reduceIte, not_false_eq_true, eq_self, and_self, and_true, true_and, true_or, or_true, Nat.reduceEqDiff, hz, (nI_nlt (show n ≤ t by omega) (by omega)), biz]
    rfl
  | succ k ih =>
    intro t c _ h
    have ht : t < 8 := by omega
    have e2 : (nI t = nI i) = (t = i) := propext (nI_eq (by omega) (by omega))
    rw [e131_4, lp_s, show alF (S.1 3) i t (bi c) = bi (¬ bi c = 0 ∧ (t = i ∨ ¬ sgP (S.1 3) t)) from rfl, ← ih (t + 1) _ (by omega)]
    simp only [nl_n, nl_i, nl_r, x_ci, x_ca, x_bin, x_ife, x_ifl, x_ifg, x_cme, x_cml, x_cmg, x_go, x_no, x_b, x_ps, x_pn, cs_n, cs_i, cs_j, cs_r, en_n, en_i, en_j, en_r, xs2n, xs2i, xs2r, xs3n, xs3i, xs3r, xi3, xa0, g_20_0, l_3, l_5, l_8, l_11, l_12, l_21, l_22, l_23, l_24, l_25, l_26, l_28, l_29, l_30, l_31, l_32, xi2, xi1, x_k2_20, xn3n, xn3i, xn3r, r_i, r_j, r_v, r_z1, r_z0, r_a, e131_0, e131_1, e131_2, e131_3, e131_5, e131_6, e131_9, e131_10, e131_11, e131_14, e131_15, e131_18, e131_19, e131_20, e131_23, e131_24, e131_25, e131_28, e131_31, e131_32, e131_35, e131_36, e131_37, e131_40, e131_43, e131_44, c131, i10, i00, n2, n10, n20, n60, n8, n9, bi0, ite_not, List.replicate, Nat.reduceAdd, Nat.reduceSub, Nat.reduceLeDiff, Nat.reduceLT, if_true, if_false, mg, reduceIte, not_false_eq_true, eq_self, and_self, and_true, true_and, true_or, or_true, Nat.reduceEqDiff, hz, ht, hi, (nI_lt (show t < n by omega) (by omega)), (t_does (X := X) ht (hd t (by omega))), e2, nI_add]
    by_cases c1 : c
    · by_cases c2 : t = i
      · rw [bi_t (c := ¬ ¬ c ∧ (t = i ∨ ¬ sgP (S.1 3) t)) ⟨fun w => w c1, Or.inl c2⟩]
        simp only [c1, c2, if_true, not_true, if_false]
      · by_cases c3 : sgP (S.1 3) t
        · rw [bi_f (c := ¬ ¬ c ∧ (t = i ∨ ¬ sgP (S.1 3) t)) (fun w => w.2.elim c2 (fun v => v c3))]
          simp only [c1, c2, if_true, not_true, if_false, if_pos c3]
        · rw [bi_t (c := ¬ ¬ c ∧ (t = i ∨ ¬ sgP (S.1 3) t)) ⟨fun w => w c1, Or.inr c3⟩]
          simp only [c1, c2, if_true, not_true, if_false, if_neg c3]
    · rw [bi_f (c := ¬ ¬ c ∧ (t = i ∨ ¬ sgP (S.1 3) t)) (fun w => w.1 c1)]
      simp only [c1, if_true, if_false, not_false_eq_true]
theorem al_all (r : Nat → Int32) (i : Nat) : ∀ k t (b : Int32), (lp (alF r i) k t b = 0) = ¬ (¬ b = 0 ∧ ∀ u, u < k → (t + u = i ∨ ¬ sgP r (t + u))) := by
  intro k
  induction k with
  | zero =>
    intro t b
    apply propext
    constructor
    · exact fun h w => w.1 h
    · intro h
      exact Classical.byContradiction (fun w => h ⟨w, fun u hu => absurd hu (by omega)⟩)
  | succ k ih =>
    intro t b
    rw [lp_s, ih]
    unfold alF
    rw [bi0]
    apply propext
    constructor
    · rintro h ⟨w1, w2⟩
      refine h ⟨fun v => v ⟨w1, w2 0 (by omega)⟩, fun u hu => ?_⟩
      have := w2 (u + 1) (by omega)
      rw [show t + 1 + u = t + (u + 1) by omega]
      exact this
    · rintro h ⟨w1, w2⟩
      have w1 := Classical.not_not.mp w1
      refine h ⟨w1.1, fun u hu => ?_⟩
      cases u with
      | zero => exact w1.2
      | succ u =>
        have := w2 u (by omega)
        rw [show t + 1 + u = t + (u + 1) by omega] at this
        exact this
abbrev aloP (n : Nat) (r : Nat → Int32) (i : Nat) : Prop := ∀ k, k < n → (k = i ∨ ¬ sgP r k)
theorem al_bi (r : Nat → Int32) (i : Nat) : ∀ k t (c : Prop) [Decidable c], lp (alF r i) k t (bi c) = nI 0 ∨ lp (alF r i) k t (bi c) = nI 1 := by
  intro k
  induction k with
  | zero => intro t c _; exact bi01
  | succ k ih => intro t c _; exact ih _ _
theorem t_alone {X : aX} {S : aS} {n i : Nat} (hn : n ≤ 8) (hi : i < 8) (hz : S.1 3 1 = nI n) (hd : ∀ t, t < n → inN 1 (S.1 3 (14 + 10 * t + 6))) : cl X 131 [aR (20, 0, 0), aI (nI i)] (mem S) = some (some (aI (bi (aloP n (S.1 3) i))), mem S) := by
  simp only [nl_n, nl_i, nl_r, x_ci, x_ca, x_bin, x_ife, x_ifl, x_ifg, x_cme, x_cml, x_cmg, x_go, x_no, x_b, x_ps, x_pn, cs_n, cs_i, cs_j, cs_r, en_n, en_i, en_j, en_r, xs2n, xs2i, xs2r, xs3n, xs3i, xs3r, xi3, xa0, g_20_0, l_3, l_5, l_8, l_11, l_12, l_21, l_22, l_23, l_24, l_25, l_26, l_28, l_29, l_30, l_31, l_32, xi2, xi1, x_k2_20, xn3n, xn3i, xn3r, r_i, r_j, r_v, r_z1, r_z0, r_a, e131_0, e131_1, e131_2, e131_3, e131_5, e131_6, e131_9, e131_10, e131_11, e131_14, e131_15, e131_18, e131_19, e131_20, e131_23, e131_24, e131_25, e131_28, e131_31, e131_32, e131_35, e131_36, e131_37, e131_40, e131_43, e131_44, c131, i10, i00, n2, n10, n20, n60, n8, n9, bi0, ite_not, List.replicate, Nat.reduceAdd, Nat.reduceSub, Nat.reduceLeDiff, Nat.reduceLT, if_true, if_false, mg, reduceIte, not_false_eq_true, eq_self, and_self, and_true, true_and, true_or, or_true, Nat.reduceEqDiff]
  have h := l_alone (X := X) hn hi hz hd n 0 True (by omega)
  rw [bi_t trivial] at h
  rw [h]
  have e := al_all (S.1 3) i n 0 (nI 1)
  have b := al_bi (S.1 3) i n 0 True
  rw [bi_t trivial] at b
  by_cases c : aloP n (S.1 3) i
  · rw [bi_t c]
    rcases b with b | b
    · exfalso
      rw [b] at e
      exact (e.mp nI_0) ⟨i10, fun u hu => by rw [Nat.zero_add]; exact c u hu⟩
    · rw [b]
  · rw [bi_f c]
    rcases b with b | b
    · rw [b]
    · exfalso
      rw [b] at e
      refine i10 (e.mpr ?_)
      rintro ⟨_, w⟩
      exact c (fun k hk => by have := w k hk; rw [Nat.zero_add] at this; exact this)
theorem t_sells {X : aX} {S : aS} {n i : Nat} (hi : i < n) (hR : RI n (S.1 3)) : cl X 132 [aR (20, 0, 0), aI (nI i)] (mem S) = some (some (aI (sqSell n (S.1 3) i (sgS (S.1 3) n))), mem S) := by
  have hn := hR.1
  have hi8 : i < 8 := by omega
  have hd : ∀ t, t < n → inN 1 (S.1 3 (14 + 10 * t + 6)) := fun t ht => hR.2.2.2.2.2 t ht 6 (by decide)
  have ha : ans n (S.1 3 (14 + 10 * i + 2)) := hR.2.2.2.2.2 i hi 2 (by decide)
  have ta := t_alone (X := X) hn hi8 hR.2.1 hd
  unfold sqSell
  simp only [set_al (sgP (S.1 3)) hn hi]
  rcases ha with ha | ⟨j, hj, ha⟩
  · have hav : avP n (S.1 3) i = False := by
      unfold avP
      rw [ha]
      exact eq_false (fun w => w.1.1 (by decide +kernel))
    simp only [hav]
    simp only [nl_n, nl_i, nl_r, x_ci, x_ca, x_bin, x_ife, x_ifl, x_ifg, x_cme, x_cml, x_cmg, x_go, x_no, x_b, x_ps, x_pn, cs_n, cs_i, cs_j, cs_r, en_n, en_i, en_j, en_r, xa0, xi1, x_k3_20, x_div, xs2n, xs2i, xs2r, xs3n, xs3i, xs3r, xi3, x_k2_20, xi2, xs4n, xs4i, xs4r, x_sw, x_sw0, xi4, r_i, r_j, r_v, r_z1, r_z0, r_a, e132_0, e132_1, e132_2, e132_3, e132_6, e132_8, e132_9, e132_10, e132_11, e132_12, e132_13, e132_16, e132_17, e132_18, e132_21, e132_22, e132_23, e132_26, e132_29, e132_30, e132_31, e132_32, e132_35, e132_36, e132_38, e132_39, e132_40, e132_41, e132_44, e132_84, e132_86, e132_87, e132_88, e132_89, e132_92, e132_95, e132_97, e132_100, e132_102, e132_103, e132_104, e132_105, e132_106, e132_107, e132_108, e132_109, e132_110, e132_111, e132_112, c132, i10, i00, n2, n10, n20, n60, n8, n9, bi0, ite_not, List.replicate, Nat.reduceAdd, Nat.reduceSub, Nat.reduceLeDiff, Nat.reduceLT, if_true, if_false, mg, reduceIte, not_false_eq_true, eq_self, and_self, and_true, true_and, true_or, or_true, Nat.reduceEqDiff, hi8, t_is, ha, m1_lt, ta]
    unfold selF
    simp only [if_false]
    repeat' split
    all_goals first | rfl | simp_all
  · have hj8 : j < 8 := by omega
    have hav : avP n (S.1 3) i = (S.1 3 (14 + 10 * j + 6) = 0) := by
      unfold avP
      rw [ha, nI_clamp (by omega)]
      exact propext ⟨fun w => w.2, fun w => ⟨has_i hn hj, w⟩⟩
    simp only [hav]
    simp only [nl_n, nl_i, nl_r, x_ci, x_ca, x_bin, x_ife, x_ifl, x_ifg, x_cme, x_cml, x_cmg, x_go, x_no, x_b, x_ps, x_pn, cs_n, cs_i, cs_j, cs_r, en_n, en_i, en_j, en_r, xa0, xi1, x_k3_20, x_div, xs2n, xs2i, xs2r, xs3n, xs3i, xs3r, xi3, x_k2_20, xi2, xs4n, xs4i, xs4r, x_sw, x_sw0, xi4, r_i, r_j, r_v, r_z1, r_z0, r_a, e132_0, e132_1, e132_2, e132_3, e132_6, e132_8, e132_9, e132_10, e132_11, e132_12, e132_13, e132_16, e132_17, e132_18, e132_21, e132_22, e132_23, e132_26, e132_29, e132_30, e132_31, e132_32, e132_35, e132_36, e132_38, e132_39, e132_40, e132_41, e132_44, e132_84, e132_86, e132_87, e132_88, e132_89, e132_92, e132_95, e132_97, e132_100, e132_102, e132_103, e132_104, e132_105, e132_106, e132_107, e132_108, e132_109, e132_110, e132_111, e132_112, c132, i10, i00, n2, n10, n20, n60, n8, n9, bi0, ite_not, List.replicate, Nat.reduceAdd, Nat.reduceSub, Nat.reduceLeDiff, Nat.reduceLT, if_true, if_false, mg, reduceIte, not_false_eq_true, eq_self, and_self, and_true, true_and, true_or, or_true, Nat.reduceEqDiff, hi8, hj8, t_is, ha, (nI_pos (show j < 2 ^ 31 by omega)), ta, (t_isDead hj8 (hd j hj))]
    unfold selF
    by_cases c : S.1 3 (14 + 10 * j + 6) = 0
    · simp only [c, if_true, not_true, if_false]
      try (repeat' split) <;> first | rfl | simp_all
    · simp only [c, if_false, not_false_eq_true, if_true]
      try (repeat' split) <;> first | rfl | simp_all
theorem t_told {X : aX} {S : aS} {n i j : Nat} (hi : i < n) (hj : j ≤ 13) (hR : RI n (S.1 3)) : cl X 134 [aR (20, 0, 0), aI (nI i), aI (nI j)] (mem S) = some (some (aI (lkF n (S.1 3) i j)), mem S) := by
  have hi8 : i < 8 := by have := hR.1; omega
  have h10 : (nI j = nI 10) = (j = 10) := propext (nI_eq (by omega) (by omega))
  have h11 : (nI j = nI 11) = (j = 11) := propext (nI_eq (by omega) (by omega))
  have h12 : (nI j = nI 12) = (j = 12) := propext (nI_eq (by omega) (by omega))
  have h13 : (nI j = nI 13) = (j = 13) := propext (nI_eq (by omega) (by omega))
  have ts := t_sells (X := X) hi hR
  unfold lkF
  by_cases hj10 : j < 10
  · have e0 : ¬ j = 10 ∧ ¬ j = 11 ∧ ¬ j = 12 ∧ ¬ j = 13 := by omega
    simp only [nl_n, nl_i, nl_r, x_ci, x_ca, x_bin, x_ife, x_ifl, x_ifg, x_cme, x_cml, x_cmg, x_go, x_no, x_b, x_ps, x_pn, cs_n, cs_i, cs_j, cs_r, en_n, en_i, en_j, en_r, xi2, x_sw, x_sw0, xa0, xi1, x_k2_20, r_i, r_j, r_v, r_z1, r_z0, r_a, x_k3_20, e134_0, e134_1, e134_32, e134_33, e134_34, e134_37, e134_38, e134_39, e134_40, e134_43, e134_44, e134_45, e134_46, e134_49, e134_50, e134_51, e134_52, e134_55, e134_56, e134_57, e134_58, e134_59, e134_62, c134, i10, i00, n2, n10, n20, n60, n8, n9, bi0, ite_not, List.replicate, Nat.reduceAdd, Nat.reduceSub, Nat.reduceLeDiff, Nat.reduceLT, if_true, if_false, mg, reduceIte, not_false_eq_true, eq_self, and_self, and_true, true_and, true_or, or_true, Nat.reduceEqDiff, hi8, h10, h11, h12, h13, e0, (t_is hi8 hj10)]
  · simp only [nl_n, nl_i, nl_r, x_ci, x_ca, x_bin, x_ife, x_ifl, x_ifg, x_cme, x_cml, x_cmg, x_go, x_no, x_b, x_ps, x_pn, cs_n, cs_i, cs_j, cs_r, en_n, en_i, en_j, en_r, xi2, x_sw, x_sw0, xa0, xi1, x_k2_20, r_i, r_j, r_v, r_z1, r_z0, r_a, x_k3_20, e134_0, e134_1, e134_32, e134_33, e134_34, e134_37, e134_38, e134_39, e134_40, e134_43, e134_44, e134_45, e134_46, e134_49, e134_50, e134_51, e134_52, e134_55, e134_57, e134_58, e134_59, e134_62, c134, i10, i00, n2, n10, n20, n60, n8, n9, bi0, ite_not, List.replicate, Nat.reduceAdd, Nat.reduceSub, Nat.reduceLeDiff, Nat.reduceLT, if_true, if_false, mg, reduceIte, not_false_eq_true, eq_self, and_self, and_true, true_and, true_or, or_true, Nat.reduceEqDiff, hi8, h10, h11, h12, h13, t_gap6, t_lasts, t_wears, ts]
    rcases (show j = 10 ∨ j = 11 ∨ j = 12 ∨ j = 13 by omega) with rfl | rfl | rfl | rfl <;> simp
theorem t_begins {X : aX} {q : Nat → Nat → Int32} {r : Nat → Int32} {D : aD} {i : Nat} (hi : i < 8) : cl X 139 [aR (20, 0, 0), aI (nI i)] (mem (rq q 3 r, D)) = some (some (aI (mn (lastF r i) (nI 99))), mem (rq q 3 (begF r i), D)) := by
  have hp : ∀ f, f < 10 → 14 + 10 * i + f < 94 := fun f hf => by omega
  simp only [nl_n, nl_i, nl_r, x_ci, x_ca, x_bin, x_ife, x_ifl, x_ifg, x_cme, x_cml, x_cmg, x_go, x_no, x_b, x_ps, x_pn, cs_n, cs_i, cs_j, cs_r, en_n, en_i, en_j, en_r, xa0, g_20_0, xi1, x_k2_s, x_k2_20, x_min, s_3, s_5, s_8, s_11, s_12, s_21, s_22, s_23, s_24, s_25, s_26, s_28, s_29, s_30, s_31, s_32, x_k3_20, r_i, r_j, r_v, r_z1, r_z0, r_a, e139_0, e139_1, e139_4, e139_5, e139_7, e139_10, e139_12, e139_13, e139_14, e139_17, e139_20, e139_21, e139_22, e139_25, e139_26, e139_28, e139_31, e139_32, e139_33, e139_34, e139_35, e139_37, e139_40, c139, i10, i00, n2, n10, n20, n60, n8, n9, bi0, ite_not, List.replicate, Nat.reduceAdd, Nat.reduceSub, Nat.reduceLeDiff, Nat.reduceLT, if_true, if_false, mg, reduceIte, not_false_eq_true, eq_self, and_self, and_true, true_and, true_or, or_true, Nat.reduceEqDiff, hi, hp, t_at, t_is, t_lasts, rq_at, uq_rq, rq_rq, u_f]
  unfold begF
  rw [mn_comm]
  rfl
theorem t_more {X : aX} {q : Nat → Nat → Int32} {r : Nat → Int32} {D : aD} {p : Nat} {x h : Int32} (hp : p < 94) : cl X 141 [aR (20, 0, 0), aI (nI p), aI x, aI h] (mem (rq q 3 r, D)) = some (none, mem (rq q 3 (upd r p (mn (r p + x) h)), D)) := by
  simp only [nl_n, nl_i, nl_r, x_ci, x_ca, x_bin, x_ife, x_ifl, x_ifg, x_cme, x_cml, x_cmg, x_go, x_no, x_b, x_ps, x_pn, cs_n, cs_i, cs_j, cs_r, en_n, en_i, en_j, en_r, xa0, g_20_0, xi1, xi3, l_3, l_5, l_8, l_11, l_12, l_21, l_22, l_23, l_24, l_25, l_26, l_28, l_29, l_30, l_31, l_32, xi2, x_min, s_3, s_5, s_8, s_11, s_12, s_21, s_22, s_23, s_24, s_25, s_26, s_28, s_29, s_30, s_31, s_32, r_i, r_j, r_v, r_z1, r_z0, r_a, e141_0, e141_1, e141_4, e141_5, e141_6, e141_7, e141_10, e141_11, e141_12, e141_13, e141_14, e141_17, e141_18, c141, i10, i00, n2, n10, n20, n60, n8, n9, bi0, ite_not, List.replicate, Nat.reduceAdd, Nat.reduceSub, Nat.reduceLeDiff, Nat.reduceLT, if_true, if_false, mg, reduceIte, not_false_eq_true, eq_self, and_self, and_true, true_and, true_or, or_true, Nat.reduceEqDiff, hp, rq_at, uq_rq, rq_rq]
  rw [mn_comm]
  rfl
