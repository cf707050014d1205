/-! A SQUARE'S DAY -/
theorem u_f (r : Nat → Int32) (i f g : Nat) (x : Int32) : upd r (14 + 10 * i + f) x (14 + 10 * i + g) = if g = f then x else r (14 + 10 * i + g) := by
  unfold upd
  by_cases h : g = f
  · subst h; simp
  · rw [if_neg h, if_neg (by omega)]
theorem u_lo {r : Nat → Int32} {i f p : Nat} {x : Int32} (h : p < 14) : upd r (14 + 10 * i + f) x p = r p := by
  unfold upd
  rw [if_neg (by omega)]
theorem u_0 (r : Nat → Int32) (i f : Nat) (x : Int32) : upd r (14 + 10 * i + f) x 0 = r 0 := u_lo (by decide)
theorem u_1 (r : Nat → Int32) (i f : Nat) (x : Int32) : upd r (14 + 10 * i + f) x 1 = r 1 := u_lo (by decide)
theorem u_2 (r : Nat → Int32) (i f : Nat) (x : Int32) : upd r (14 + 10 * i + f) x 2 = r 2 := u_lo (by decide)
theorem u_3 (r : Nat → Int32) (i f : Nat) (x : Int32) : upd r (14 + 10 * i + f) x 3 = r 3 := u_lo (by decide)
theorem uD_uD (D : aD) (r : aL) (k : Nat) (x y : Int32) : uD (uD D r k x) r k y = uD D r k y := by
  funext r' k'
  unfold uD
  split <;> rfl
theorem uD_at (D : aD) (r : aL) (k : Nat) (x : Int32) : uD D r k x r k = x := by simp [uD]
theorem bi_t {c : Prop} [Decidable c] (h : c) : bi c = nI 1 := if_pos h
theorem bi_f {c : Prop} [Decidable c] (h : ¬ c) : bi c = nI 0 := if_neg h
theorem at_r {q : Nat → Nat → Int32} {r : Nat → Int32} {D : aD} {a n : Nat} (hr : r 1 = nI n) : (rq q a r, D).1 a 1 = nI n := by
  show rq q a r a 1 = nI n
  rw [rq_at, hr]
theorem z01 : nI 0 = nI 0 ∨ nI 0 = nI 1 := Or.inl rfl
theorem o01 : nI 1 = nI 0 ∨ nI 1 = nI 1 := Or.inr rfl
/-- she who sings sings on -/
def soF (r : Nat → Int32) (i : Nat) : Nat → Int32 := if sgP r i then upd r (14 + 10 * i + 7) (r (14 + 10 * i + 7) - nI 1) else r
def seF (r : Nat → Int32) (i : Nat) : Int32 := bi (sgP r i ∧ r (14 + 10 * i + 7) - nI 1 = 0)
def soX (a : Nat) (i : Nat) (z : (Nat → Int32) × aD) : (Nat → Int32) × aD := (soF z.1 i, uD z.2 (4, a, i) 1 (seF z.1 i))
theorem soF_1 (r : Nat → Int32) (i : Nat) : soF r i 1 = r 1 := by
  unfold soF
  split
  · exact u_1 ..
  · rfl
theorem l_singOn {X : aX} {q : Nat → Nat → Int32} {a n : Nat} (ha : a < 3) (hn : n ≤ 8) (b : Option aV) : ∀ k i r D b, i + k = n → r 1 = nI n → nl b = true → go X 47 2 [some (aR (1, a, 0)), some (aI (nI i)), b] [] (mem (rq q a r, D)) = some (none, mem (rq q a (lp (soX a) k i (r, D)).1, (lp (soX a) k i (r, D)).2)) := by
  intro k
  induction k with
  | zero =>
    intro i r D b h hr hb
    rw [e47_2]
    simp only [nl_n, nl_i, nl_r, x_ci, x_ca, x_bin, x_ife, x_ifl, x_ifg, x_cme, x_cml, x_cmg, x_go, x_no, x_b, x_ps, x_pn, cs_n, cs_i, cs_j, cs_r, en_n, en_i, en_j, en_r, xs1n, xs1i, xs1r, xi1, xa0, g_1_2, g_1_0, l_2, l_9, l_27, xb2n, xb2i, xb2r, xa2, p_4_1, x_k1_4, g_4_0, x_dp2, l_3, l_5, l_8, l_11, l_12, l_21, l_22, l_23, l_24, l_25, l_26, l_28, l_29, l_30, l_31, l_32, s_3, s_5, s_8, s_11, s_12, s_21, s_22, s_23, s_24, s_25, s_26, s_28, s_29, s_30, s_31, s_32, xn1n, xn1i, xn1r, r_i, r_j, r_v, r_z1, r_z0, r_a, e47_0, e47_1, e47_3, e47_4, e47_7, e47_10, e47_11, e47_14, e47_15, e47_16, e47_17, e47_18, e47_19, e47_22, e47_23, e47_26, e47_29, e47_30, e47_33, e47_35, e47_36, e47_37, e47_38, e47_39, e47_40, e47_41, e47_42, e47_45, e47_47, e47_48, e47_51, e47_52, e47_55, e47_56, e47_59, e47_62, e47_65, c47, i10, i00, n2, n10, n20, n60, n8, n9, bi0, ite_not, List.replicate, Nat.reduceAdd, Nat.reduceSub, Nat.reduceLeDiff, Nat.reduceLT, if_true, if_false, mg, reduceIte, not_false_eq_true, eq_self, and_self, and_true, true_and, true_or, or_true, Nat.reduceEqDiff, ha, rq_at, hr, (nI_nlt (show n ≤ i by omega) (by omega))]
    rfl
  | succ k ih =>
    intro i r D b h hr hb
    have ih' := fun r' D' (hr : r' 1 = nI n) => ih (i + 1) r' D' (some (aR (4, a, i))) (by omega) hr rfl
    have hi : i < 8 := by omega
    rw [e47_2, lp_s]
    show _ = some (none, mem (rq q a (lp (soX a) k (i + 1) (soF r i, uD D (4, a, i) 1 (seF r i))).1, (lp (soX a) k (i + 1) (soF r i, uD D (4, a, i) 1 (seF r i))).2))
    rw [← ih' _ _ (by rw [soF_1, hr])]
    simp only [nl_n, nl_i, nl_r, x_ci, x_ca, x_bin, x_ife, x_ifl, x_ifg, x_cme, x_cml, x_cmg, x_go, x_no, x_b, x_ps, x_pn, cs_n, cs_i, cs_j, cs_r, en_n, en_i, en_j, en_r, xs1n, xs1i, xs1r, xi1, xa0, g_1_2, g_1_0, l_2, l_9, l_27, xb2n, xb2i, xb2r, xa2, p_4_1, x_k1_4, g_4_0, x_dp2, l_3, l_5, l_8, l_11, l_12, l_21, l_22, l_23, l_24, l_25, l_26, l_28, l_29, l_30, l_31, l_32, s_3, s_5, s_8, s_11, s_12, s_21, s_22, s_23, s_24, s_25, s_26, s_28, s_29, s_30, s_31, s_32, xn1n, xn1i, xn1r, r_i, r_j, r_v, r_z1, r_z0, r_a, e47_0, e47_1, e47_3, e47_4, e47_7, e47_10, e47_11, e47_14, e47_15, e47_16, e47_17, e47_18, e47_19, e47_22, e47_23, e47_26, e47_29, e47_30, e47_33, e47_35, e47_36, e47_37, e47_38, e47_39, e47_40, e47_41, e47_42, e47_45, e47_47, e47_48, e47_51, e47_52, e47_55, e47_56, e47_59, e47_62, e47_65, c47, i10, i00, n2, n10, n20, n60, n8, n9, bi0, ite_not, List.replicate, Nat.reduceAdd, Nat.reduceSub, Nat.reduceLeDiff, Nat.reduceLT, if_true, if_false, mg, reduceIte, not_false_eq_true, eq_self, and_self, and_true, true_and, true_or, or_true, Nat.reduceEqDiff, ha, hi, rq_at, hr, (nI_lt (show i < n by omega) (by omega)), t_isSinging, nI_add, uq_rq, rq_rq, uD_uD, u_f, z01, o01]
    unfold soF seF
    by_cases c : sgP r i
    · rw [if_pos c, if_pos c]
      by_cases c2 : r (14 + 10 * i + 7) - nI 1 = 0
      · rw [if_pos c2, bi_t ⟨c, c2⟩]
      · rw [if_neg c2, bi_f (fun w => c2 w.2)]
    · rw [if_neg c, if_neg c, bi_f (fun w => c w.1)]
theorem t_singOn {X : aX} {q : Nat → Nat → Int32} {r : Nat → Int32} {D : aD} {a n : Nat} (ha : a < 3) (hn : n ≤ 8) (hr : r 1 = nI n) : cl X 47 [aR (1, a, 0)] (mem (rq q a r, D)) = some (none, mem (rq q a (lp (soX a) n 0 (r, D)).1, (lp (soX a) n 0 (r, D)).2)) := by
  simp only [nl_n, nl_i, nl_r, x_ci, x_ca, x_bin, x_ife, x_ifl, x_ifg, x_cme, x_cml, x_cmg, x_go, x_no, x_b, x_ps, x_pn, cs_n, cs_i, cs_j, cs_r, en_n, en_i, en_j, en_r, xs1n, xs1i, xs1r, xi1, xa0, g_1_2, g_1_0, l_2, l_9, l_27, xb2n, xb2i, xb2r, xa2, p_4_1, x_k1_4, g_4_0, x_dp2, l_3, l_5, l_8, l_11, l_12, l_21, l_22, l_23, l_24, l_25, l_26, l_28, l_29, l_30, l_31, l_32, s_3, s_5, s_8, s_11, s_12, s_21, s_22, s_23, s_24, s_25, s_26, s_28, s_29, s_30, s_31, s_32, xn1n, xn1i, xn1r, r_i, r_j, r_v, r_z1, r_z0, r_a, e47_0, e47_1, e47_3, e47_4, e47_7, e47_10, e47_11, e47_14, e47_15, e47_16, e47_17, e47_18, e47_19, e47_22, e47_23, e47_26, e47_29, e47_30, e47_33, e47_35, e47_36, e47_37, e47_38, e47_39, e47_40, e47_41, e47_42, e47_45, e47_47, e47_48, e47_51, e47_52, e47_55, e47_56, e47_59, e47_62, e47_65, c47, i10, i00, n2, n10, n20, n60, n8, n9, bi0, ite_not, List.replicate, Nat.reduceAdd, Nat.reduceSub, Nat.reduceLeDiff, Nat.reduceLT, if_true, if_false, mg, reduceIte, not_false_eq_true, eq_self, and_self, and_true, true_and, true_or, or_true, Nat.reduceEqDiff]
  exact l_singOn ha hn none n 0 r D none (by omega) hr rfl
theorem t_today {X : aX} {q : Nat → Nat → Int32} {r : Nat → Int32} {D : aD} {a : Nat} (ha : a < 3) : cl X 43 [aR (1, a, 0)] (mem (rq q a r, D)) = some (some (aI (r 0 - r 0 / nI 60 * nI 60)), mem (rq q a r, D)) := by
  simp only [nl_n, nl_i, nl_r, x_ci, x_ca, x_bin, x_ife, x_ifl, x_ifg, x_cme, x_cml, x_cmg, x_go, x_no, x_b, x_ps, x_pn, cs_n, cs_i, cs_j, cs_r, en_n, en_i, en_j, en_r, xa0, g_1_3, x_div, r_i, r_j, r_v, r_z1, r_z0, r_a, e43_0, e43_1, e43_4, e43_6, e43_7, c43, i10, i00, n2, n10, n20, n60, n8, n9, bi0, ite_not, List.replicate, Nat.reduceAdd, Nat.reduceSub, Nat.reduceLeDiff, Nat.reduceLT, if_true, if_false, mg, reduceIte, not_false_eq_true, eq_self, and_self, and_true, true_and, true_or, or_true, Nat.reduceEqDiff, ha, rq_at]
/-- who does not sing hears -/
def liF (n : Nat) (e : Nat → Int32) (d : Int32) (r : Nat → Int32) (i : Nat) : Nat → Int32 :=
  if 0 < r (14 + 10 * i + 8) then (if r (14 + 10 * i + 8) - nI 1 = 0 then begF (upd r (14 + 10 * i + 8) (r (14 + 10 * i + 8) - nI 1)) i else upd r (14 + 10 * i + 8) (r (14 + 10 * i + 8) - nI 1))
  else if hsP n (r (14 + 10 * i + 2)) then (if e (r (14 + 10 * i + 2)).toNatClampNeg = 0 then r else upd r (14 + 10 * i + 8) (mn (gapF r i) (nI 99)))
  else if r (14 + 10 * i + 1) = d then begF r i else r
theorem t_listen {X : aX} {q : Nat → Nat → Int32} {r : Nat → Int32} {D : aD} {a n i : Nat} {d : Int32} (ha : a < 3) (hn : n ≤ 8) (hi : i < 8) (hr : r 1 = nI n) : cl X 49 [aR (1, a, 0), aR (4, a, i), aI d] (mem (rq q a r, D)) = some (none, mem (rq q a (liF n (fun j => D (4, a, j) 1) d r i), D)) := by
  unfold liF
  have hz : (rq q a r, D).1 a 1 = nI n := at_r hr
  by_cases c1 : 0 < r (14 + 10 * i + 8)
  · rw [if_pos c1]
    simp only [nl_n, nl_i, nl_r, x_ci, x_ca, x_bin, x_ife, x_ifl, x_ifg, x_cme, x_cml, x_cmg, x_go, x_no, x_b, x_ps, x_pn, cs_n, cs_i, cs_j, cs_r, en_n, en_i, en_j, en_r, xa1, g_4_0, l_3, l_5, l_8, l_11, l_12, l_21, l_22, l_23, l_24, l_25, l_26, l_28, l_29, l_30, l_31, l_32, xs3n, xs3i, xs3r, x_dp2, s_3, s_5, s_8, s_11, s_12, s_21, s_22, s_23, s_24, s_25, s_26, s_28, s_29, s_30, s_31, s_32, x_k1_4, xa0, xi3, x_k2_1, g_1_0, l_2, l_9, l_27, g_4_1, x_min, xi2, r_i, r_j, r_v, r_z1, r_z0, r_a, e49_0, e49_1, e49_4, e49_5, e49_6, e49_7, e49_8, e49_11, e49_13, e49_14, e49_17, e49_18, e49_21, e49_23, e49_24, e49_25, e49_26, e49_27, e49_28, e49_29, e49_32, e49_34, e49_35, e49_38, e49_39, e49_42, e49_45, e49_46, e49_47, e49_50, e49_53, e49_54, e49_57, e49_58, e49_59, e49_62, e49_65, e49_66, e49_69, e49_71, e49_72, e49_75, e49_77, e49_80, e49_81, e49_84, e49_85, e49_88, e49_89, e49_90, e49_91, e49_94, e49_95, e49_98, c49, i10, i00, n2, n10, n20, n60, n8, n9, bi0, ite_not, List.replicate, Nat.reduceAdd, Nat.reduceSub, Nat.reduceLeDiff, Nat.reduceLT, if_true, if_false, mg, reduceIte, not_false_eq_true, eq_self, and_self, and_true, true_and, true_or, or_true, Nat.reduceEqDiff, ha, hi, c1, rq_at, hr, uq_rq, rq_rq, u_f, t_begin1]
    split <;> rfl
  · rw [if_neg c1]
    by_cases c2 : hsP n (r (14 + 10 * i + 2))
    · rw [if_pos c2]
      obtain ⟨j, hj, ej⟩ := has_of hn c2
      have hj8 : j < 8 := by omega
      rw [ej] at c2
      simp only [nl_n, nl_i, nl_r, x_ci, x_ca, x_bin, x_ife, x_ifl, x_ifg, x_cme, x_cml, x_cmg, x_go, x_no, x_b, x_ps, x_pn, cs_n, cs_i, cs_j, cs_r, en_n, en_i, en_j, en_r, xa1, g_4_0, l_3, l_5, l_8, l_11, l_12, l_21, l_22, l_23, l_24, l_25, l_26, l_28, l_29, l_30, l_31, l_32, xs3n, xs3i, xs3r, x_dp2, s_3, s_5, s_8, s_11, s_12, s_21, s_22, s_23, s_24, s_25, s_26, s_28, s_29, s_30, s_31, s_32, x_k1_4, xa0, xi3, x_k2_1, g_1_0, l_2, l_9, l_27, g_4_1, x_min, xi2, r_i, r_j, r_v, r_z1, r_z0, r_a, e49_0, e49_1, e49_4, e49_5, e49_6, e49_7, e49_8, e49_11, e49_13, e49_14, e49_17, e49_18, e49_21, e49_23, e49_24, e49_25, e49_26, e49_27, e49_28, e49_29, e49_32, e49_34, e49_35, e49_38, e49_39, e49_42, e49_45, e49_46, e49_47, e49_50, e49_53, e49_54, e49_57, e49_58, e49_59, e49_62, e49_65, e49_66, e49_69, e49_71, e49_72, e49_75, e49_77, e49_80, e49_81, e49_84, e49_85, e49_88, e49_89, e49_90, e49_91, e49_94, e49_95, e49_98, c49, i10, i00, n2, n10, n20, n60, n8, n9, bi0, ite_not, List.replicate, Nat.reduceAdd, Nat.reduceSub, Nat.reduceLeDiff, Nat.reduceLT, if_true, if_false, mg, reduceIte, not_false_eq_true, eq_self, and_self, and_true, true_and, true_or, or_true, Nat.reduceEqDiff, ha, hi, c1, ej, (bi_t c2), hj8, (nI_clamp (show j < 2 ^ 31 by omega)), rq_at, hr, uq_rq, rq_rq, u_f, t_begin1, t_gap, (t_has (x := nI j) ha hz)]
      split <;> rfl
    · rw [if_neg c2]
      simp only [nl_n, nl_i, nl_r, x_ci, x_ca, x_bin, x_ife, x_ifl, x_ifg, x_cme, x_cml, x_cmg, x_go, x_no, x_b, x_ps, x_pn, cs_n, cs_i, cs_j, cs_r, en_n, en_i, en_j, en_r, xa1, g_4_0, l_3, l_5, l_8, l_11, l_12, l_21, l_22, l_23, l_24, l_25, l_26, l_28, l_29, l_30, l_31, l_32, xs3n, xs3i, xs3r, x_dp2, s_3, s_5, s_8, s_11, s_12, s_21, s_22, s_23, s_24, s_25, s_26, s_28, s_29, s_30, s_31, s_32, x_k1_4, xa0, xi3, x_k2_1, g_1_0, l_2, l_9, l_27, g_4_1, x_min, xi2, r_i, r_j, r_v, r_z1, r_z0, r_a, e49_0, e49_1, e49_4, e49_5, e49_6, e49_7, e49_8, e49_11, e49_13, e49_14, e49_17, e49_18, e49_21, e49_23, e49_24, e49_25, e49_26, e49_27, e49_28, e49_29, e49_32, e49_34, e49_35, e49_38, e49_39, e49_42, e49_45, e49_46, e49_47, e49_50, e49_53, e49_54, e49_57, e49_58, e49_59, e49_62, e49_65, e49_66, e49_69, e49_71, e49_72, e49_75, e49_77, e49_80, e49_81, e49_84, e49_85, e49_88, e49_89, e49_90, e49_91, e49_94, e49_95, e49_98, c49, i10, i00, n2, n10, n20, n60, n8, n9, bi0, ite_not, List.replicate, Nat.reduceAdd, Nat.reduceSub, Nat.reduceLeDiff, Nat.reduceLT, if_true, if_false, mg, reduceIte, not_false_eq_true, eq_self, and_self, and_true, true_and, true_or, or_true, Nat.reduceEqDiff, ha, hi, c1, (bi_f c2), rq_at, hr, uq_rq, rq_rq, u_f, t_begin1, (t_has ha hz)]
      split <;> rfl
/-- all who do not sing hear -/
def ciF (n : Nat) (e : Nat → Int32) (d : Int32) (i : Nat) (r : Nat → Int32) : Nat → Int32 :=
  if r (14 + 10 * i + 6) = 0 then (if r (14 + 10 * i + 7) = 0 then (if e i = 0 then liF n e d r i else r) else r) else r
theorem begF_1 (r : Nat → Int32) (i : Nat) : begF r i 1 = r 1 := by unfold begF; rw [u_1, u_1]
theorem liF_1 (n : Nat) (e : Nat → Int32) (d : Int32) (r : Nat → Int32) (i : Nat) : liF n e d r i 1 = r 1 := by
  unfold liF
  repeat' split
  all_goals first | rfl | (simp only [begF_1, u_1])
theorem ciF_1 (n : Nat) (e : Nat → Int32) (d : Int32) (r : Nat → Int32) (i : Nat) : ciF n e d i r 1 = r 1 := by
  unfold ciF
  repeat' split
  all_goals first | rfl | exact liF_1 ..
theorem l_comeIn {X : aX} {q : Nat → Nat → Int32} {D : aD} {a n : Nat} {d : Int32} (ha : a < 3) (hn : n ≤ 8) : ∀ k i r b, i + k = n → r 1 = nI n → nl b = true → go X 48 7 [some (aR (1, a, 0)), some (aI d), some (aI (nI i)), b] [] (mem (rq q a r, D)) = some (none, mem (rq q a (lp (ciF n (fun j => D (4, a, j) 1) d) k i r), D)) := by
  intro k
  induction k with
  | zero =>
    intro i r b h hr hb
    rw [e48_7]
    simp only [nl_n, nl_i, nl_r, x_ci, x_ca, x_bin, x_ife, x_ifl, x_ifg, x_cme, x_cml, x_cmg, x_go, x_no, x_b, x_ps, x_pn, cs_n, cs_i, cs_j, cs_r, en_n, en_i, en_j, en_r, xa0, x_k1_1, xs1n, xs1i, xs1r, xs2n, xs2i, xs2r, xi2, g_1_2, g_1_0, l_2, l_9, l_27, xb3n, xb3i, xb3r, xa3, g_4_0, l_3, l_5, l_8, l_11, l_12, l_21, l_22, l_23, l_24, l_25, l_26, l_28, l_29, l_30, l_31, l_32, g_4_1, xi1, x_k3_1, xn2n, xn2i, xn2r, r_i, r_j, r_v, r_z1, r_z0, r_a, e48_0, e48_1, e48_4, e48_5, e48_6, e48_8, e48_9, e48_12, e48_15, e48_16, e48_19, e48_20, e48_21, e48_22, e48_23, e48_26, e48_28, e48_29, e48_32, e48_33, e48_36, e48_38, e48_39, e48_42, e48_43, e48_46, e48_49, e48_50, e48_51, e48_52, e48_55, e48_58, e48_61, c48, i10, i00, n2, n10, n20, n60, n8, n9, bi0, ite_not, List.replicate, Nat.reduceAdd, Nat.reduceSub, Nat.reduceLeDiff, Nat.reduceLT, if_true, if_false, mg, reduceIte, not_false_eq_true, eq_self, and_self, and_true, true_and, true_or, or_true, Nat.reduceEqDiff, ha, rq_at, hr, (nI_nlt (show n ≤ i by omega) (by omega))]
    rfl
  | succ k ih =>
    intro i r b h hr hb
    have hi : i < 8 := by omega
    rw [e48_7, lp_s, ← ih (i + 1) _ (some (aR (4, a, i))) (by omega) (by rw [ciF_1, hr]) rfl]
    simp only [nl_n, nl_i, nl_r, x_ci, x_ca, x_bin, x_ife, x_ifl, x_ifg, x_cme, x_cml, x_cmg, x_go, x_no, x_b, x_ps, x_pn, cs_n, cs_i, cs_j, cs_r, en_n, en_i, en_j, en_r, xa0, x_k1_1, xs1n, xs1i, xs1r, xs2n, xs2i, xs2r, xi2, g_1_2, g_1_0, l_2, l_9, l_27, xb3n, xb3i, xb3r, xa3, g_4_0, l_3, l_5, l_8, l_11, l_12, l_21, l_22, l_23, l_24, l_25, l_26, l_28, l_29, l_30, l_31, l_32, g_4_1, xi1, x_k3_1, xn2n, xn2i, xn2r, r_i, r_j, r_v, r_z1, r_z0, r_a, e48_0, e48_1, e48_4, e48_5, e48_6, e48_8, e48_9, e48_12, e48_15, e48_16, e48_19, e48_20, e48_21, e48_22, e48_23, e48_26, e48_28, e48_29, e48_32, e48_33, e48_36, e48_38, e48_39, e48_42, e48_43, e48_46, e48_49, e48_50, e48_51, e48_52, e48_55, e48_58, e48_61, c48, i10, i00, n2, n10, n20, n60, n8, n9, bi0, ite_not, List.replicate, Nat.reduceAdd, Nat.reduceSub, Nat.reduceLeDiff, Nat.reduceLT, if_true, if_false, mg, reduceIte, not_false_eq_true, eq_self, and_self, and_true, true_and, true_or, or_true, Nat.reduceEqDiff, ha, hi, rq_at, hr, (nI_lt (show i < n by omega) (by omega)), nI_add, uq_rq, rq_rq, (fun d => t_listen (X := X) (q := q) (D := D) (d := d) ha hn hi hr)]
    unfold ciF
    repeat' split
    all_goals first | rfl | simp_all
theorem t_comeIn {X : aX} {q : Nat → Nat → Int32} {D : aD} {r : Nat → Int32} {a n : Nat} (ha : a < 3) (hn : n ≤ 8) (hr : r 1 = nI n) : cl X 48 [aR (1, a, 0)] (mem (rq q a r, D)) = some (none, mem (rq q a (lp (ciF n (fun j => D (4, a, j) 1) (r 0 - r 0 / nI 60 * nI 60)) n 0 r), D)) := by
  simp only [nl_n, nl_i, nl_r, x_ci, x_ca, x_bin, x_ife, x_ifl, x_ifg, x_cme, x_cml, x_cmg, x_go, x_no, x_b, x_ps, x_pn, cs_n, cs_i, cs_j, cs_r, en_n, en_i, en_j, en_r, xa0, x_k1_1, xs1n, xs1i, xs1r, xs2n, xs2i, xs2r, xi2, g_1_2, g_1_0, l_2, l_9, l_27, xb3n, xb3i, xb3r, xa3, g_4_0, l_3, l_5, l_8, l_11, l_12, l_21, l_22, l_23, l_24, l_25, l_26, l_28, l_29, l_30, l_31, l_32, g_4_1, xi1, x_k3_1, xn2n, xn2i, xn2r, r_i, r_j, r_v, r_z1, r_z0, r_a, e48_0, e48_1, e48_4, e48_5, e48_6, e48_8, e48_9, e48_12, e48_15, e48_16, e48_19, e48_20, e48_21, e48_22, e48_23, e48_26, e48_28, e48_29, e48_32, e48_33, e48_36, e48_38, e48_39, e48_42, e48_43, e48_46, e48_49, e48_50, e48_51, e48_52, e48_55, e48_58, e48_61, c48, i10, i00, n2, n10, n20, n60, n8, n9, bi0, ite_not, List.replicate, Nat.reduceAdd, Nat.reduceSub, Nat.reduceLeDiff, Nat.reduceLT, if_true, if_false, mg, reduceIte, not_false_eq_true, eq_self, and_self, and_true, true_and, true_or, or_true, Nat.reduceEqDiff, ha, t_today]
  exact l_comeIn ha hn n 0 r none (by omega) hr rfl
