/-! ONE SINGER, BY THE ROW IN WHICH SHE STANDS -/
theorem mg {c : Prop} [Decidable c] {x y : Int32} {M : aM} : (if c then (some (some (aI x), M) : aO) else some (some (aI y), M)) = some (some (aI (if c then x else y)), M) := by split <;> rfl
theorem n2 : ¬ nI 2 = 0 := by decide +kernel
theorem n10 : ¬ nI 10 = 0 := by decide +kernel
theorem n20 : ¬ nI 20 = 0 := by decide +kernel
theorem n60 : ¬ nI 60 = 0 := by decide +kernel
theorem n8 : ¬ nI 8 = 0 := by decide +kernel
theorem n9 : ¬ nI 9 = 0 := by decide +kernel
theorem i10 : ¬ nI 1 = 0 := by decide +kernel
theorem i00 : (nI 0 = 0) = True := eq_true nI_0
/-- a truth as a number -/
def bi (c : Prop) [Decidable c] : Int32 := if c then nI 1 else nI 0
theorem bi0 {c : Prop} [Decidable c] : (bi c = 0) = ¬ c := by
  unfold bi
  by_cases h : c
  · rw [if_pos h]; simp [h, i10]
  · rw [if_neg h]; simp [h, nI_0]
theorem biz {c : Prop} [Decidable c] {M : aM} : i_zrt [aI (bi c)] M = some (some (aI (bi c)), M) := by
  unfold bi
  split
  · exact r_z1
  · exact r_z0
theorem bi01 {c : Prop} [Decidable c] : bi c = nI 0 ∨ bi c = nI 1 := by
  unfold bi
  split
  · exact Or.inr rfl
  · exact Or.inl rfl
def gapF (r : Nat → Int32) (i : Nat) : Int32 :=
  if r (14 + 10 * i + 0) = nI 1 then nI 1 + r (14 + 10 * i + 4) / nI 10
  else if r (14 + 10 * i + 0) = nI 2 then nI 3
  else if r (14 + 10 * i + 0) = nI 3 then nI 2 * (nI 1 + r (14 + 10 * i + 4) / nI 10)
  else if r (14 + 10 * i + 0) = nI 4 then nI 2 * (nI 1 + r (14 + 10 * i + 4) / nI 10) + nI 5
  else if r (14 + 10 * i + 0) = nI 5 then nI 1
  else if r (14 + 10 * i + 0) = nI 6 then (if r (14 + 10 * i + 3) < nI 50 then nI 3 else nI 2) else nI 1
theorem t_gap {X : aX} {S : aS} {a b : Nat} (ha : a < 3) (hb : b < 8) : cl X 20 [aR (4, a, b)] (mem S) = some (some (aI (gapF (S.1 a) b)), mem S) := by
  simp only [nl_n, nl_i, nl_r, x_ci, x_ca, x_bin, x_ife, x_ifl, x_ifg, x_cme, x_cml, x_cmg, x_go, x_no, x_b, x_ps, x_pn, cs_n, cs_i, cs_j, cs_r, en_n, en_i, en_j, en_r, xa0, g_4_0, l_3, l_5, l_8, l_11, l_12, l_21, l_22, l_23, l_24, l_25, l_26, l_28, l_29, l_30, l_31, l_32, x_div, xs1n, xs1i, xs1r, x_sw, x_sw0, xi1, r_i, r_j, r_v, r_z1, r_z0, r_a, e20_0, e20_1, e20_2, e20_5, e20_6, e20_7, e20_9, e20_10, e20_11, e20_12, e20_13, e20_16, e20_17, e20_18, e20_56, e20_57, e20_58, e20_59, e20_60, e20_61, e20_62, e20_63, e20_64, e20_65, e20_66, e20_67, e20_68, e20_69, e20_70, e20_71, e20_74, e20_75, e20_76, e20_78, e20_81, e20_82, e20_85, e20_86, e20_87, e20_88, c20, i10, i00, n2, n10, n20, n60, n8, n9, bi0, ite_not, List.replicate, Nat.reduceAdd, Nat.reduceSub, Nat.reduceLeDiff, Nat.reduceLT, if_true, if_false, mg, reduceIte, not_false_eq_true, eq_self, and_self, and_true, true_and, true_or, or_true, Nat.reduceEqDiff, ha, hb]
  rfl
def lastF (r : Nat → Int32) (i : Nat) : Int32 :=
  if r (14 + 10 * i + 0) = nI 1 then r (14 + 10 * i + 5) + nI 1
  else if r (14 + 10 * i + 0) = nI 2 then r (14 + 10 * i + 5) / nI 2 + nI 1
  else if r (14 + 10 * i + 0) = nI 3 then r (14 + 10 * i + 5) + nI 1 + r (14 + 10 * i + 4) / nI 20
  else if r (14 + 10 * i + 0) = nI 4 then r (14 + 10 * i + 5) + nI 1 + r (14 + 10 * i + 4) / nI 20
  else if r (14 + 10 * i + 0) = nI 5 then nI 1
  else if r (14 + 10 * i + 0) = nI 6 then r (14 + 10 * i + 5) / nI 2 + nI 1 + nI 2 else r (14 + 10 * i + 5)
theorem t_lasting {X : aX} {S : aS} {a b : Nat} (ha : a < 3) (hb : b < 8) : cl X 21 [aR (4, a, b)] (mem S) = some (some (aI (lastF (S.1 a) b)), mem S) := by
  simp only [nl_n, nl_i, nl_r, x_ci, x_ca, x_bin, x_ife, x_ifl, x_ifg, x_cme, x_cml, x_cmg, x_go, x_no, x_b, x_ps, x_pn, cs_n, cs_i, cs_j, cs_r, en_n, en_i, en_j, en_r, xa0, g_4_0, l_3, l_5, l_8, l_11, l_12, l_21, l_22, l_23, l_24, l_25, l_26, l_28, l_29, l_30, l_31, l_32, xs1n, xs1i, xs1r, x_div, xs2n, xs2i, xs2r, x_sw, x_sw0, xi1, r_i, r_j, r_v, r_z1, r_z0, r_a, xi2, e21_0, e21_1, e21_4, e21_5, e21_6, e21_7, e21_8, e21_9, e21_10, e21_13, e21_14, e21_15, e21_16, e21_17, e21_18, e21_19, e21_20, e21_21, e21_24, e21_25, e21_26, e21_64, e21_65, e21_66, e21_67, e21_68, e21_71, e21_72, e21_73, e21_75, e21_76, e21_77, e21_78, e21_79, e21_80, e21_81, e21_82, e21_83, e21_84, e21_85, e21_86, e21_87, e21_90, e21_91, e21_92, c21, i10, i00, n2, n10, n20, n60, n8, n9, bi0, ite_not, List.replicate, Nat.reduceAdd, Nat.reduceSub, Nat.reduceLeDiff, Nat.reduceLT, if_true, if_false, mg, reduceIte, not_false_eq_true, eq_self, and_self, and_true, true_and, true_or, or_true, Nat.reduceEqDiff, ha, hb]
  rfl
/-- she sings -/
abbrev sgP (r : Nat → Int32) (i : Nat) : Prop := 0 < r (14 + 10 * i + 7) ∧ r (14 + 10 * i + 6) = 0
theorem t_isSinging {X : aX} {S : aS} {a b : Nat} (ha : a < 3) (hb : b < 8) : cl X 18 [aR (4, a, b)] (mem S) = some (some (aI (bi (sgP (S.1 a) b))), mem S) := by
  simp only [nl_n, nl_i, nl_r, x_ci, x_ca, x_bin, x_ife, x_ifl, x_ifg, x_cme, x_cml, x_cmg, x_go, x_no, x_b, x_ps, x_pn, cs_n, cs_i, cs_j, cs_r, en_n, en_i, en_j, en_r, xa0, g_4_0, l_3, l_5, l_8, l_11, l_12, l_21, l_22, l_23, l_24, l_25, l_26, l_28, l_29, l_30, l_31, l_32, r_i, r_j, r_v, r_z1, r_z0, r_a, e18_0, e18_1, e18_4, e18_6, e18_7, e18_10, e18_11, e18_14, e18_16, e18_17, e18_20, e18_21, e18_24, e18_25, c18, i10, i00, n2, n10, n20, n60, n8, n9, bi0, ite_not, List.replicate, Nat.reduceAdd, Nat.reduceSub, Nat.reduceLeDiff, Nat.reduceLT, if_true, if_false, mg, reduceIte, not_false_eq_true, eq_self, and_self, and_true, true_and, true_or, or_true, Nat.reduceEqDiff, ha, hb]
  unfold bi
  (repeat' split) <;> simp_all
def mn (x y : Int32) : Int32 := if y < x then y else x
def mxx (x y : Int32) : Int32 := if x < y then y else x
/-- she begins -/
def begF (r : Nat → Int32) (i : Nat) : Nat → Int32 := upd (upd r (14 + 10 * i + 7) (mn (lastF r i) (nI 99))) (14 + 10 * i + 8) (nI 0)
def rq (q : Nat → Nat → Int32) (a : Nat) (r : Nat → Int32) : Nat → Nat → Int32 := fun a' => if a' = a then r else q a'
theorem uq_rq (q : Nat → Nat → Int32) (a p : Nat) (x : Int32) : uq q a p x = rq q a (upd (q a) p x) := by
  funext a' p'
  unfold uq rq upd
  by_cases h : a' = a
  · subst h
    by_cases h2 : p' = p <;> simp [h2]
  · simp [h]
theorem rq_rq (q : Nat → Nat → Int32) (a : Nat) (r r' : Nat → Int32) : rq (rq q a r) a r' = rq q a r' := by
  funext a'
  unfold rq
  split <;> rfl
theorem rq_at (q : Nat → Nat → Int32) (a : Nat) (r : Nat → Int32) : rq q a r a = r := by simp [rq]
theorem rq_self (q : Nat → Nat → Int32) (a : Nat) : rq q a (q a) = q := by
  funext a'
  unfold rq
  split
  · rename_i h; rw [h]
  · rfl
theorem t_begin1 {X : aX} {S : aS} {a b : Nat} (ha : a < 3) (hb : b < 8) : cl X 19 [aR (4, a, b)] (mem S) = some (none, mem (rq S.1 a (begF (S.1 a) b), S.2)) := by
  simp only [nl_n, nl_i, nl_r, x_ci, x_ca, x_bin, x_ife, x_ifl, x_ifg, x_cme, x_cml, x_cmg, x_go, x_no, x_b, x_ps, x_pn, cs_n, cs_i, cs_j, cs_r, en_n, en_i, en_j, en_r, xa0, g_4_0, x_k1_4, x_min, s_3, s_5, s_8, s_11, s_12, s_21, s_22, s_23, s_24, s_25, s_26, s_28, s_29, s_30, s_31, s_32, r_i, r_j, r_v, r_z1, r_z0, r_a, e19_0, e19_1, e19_4, e19_6, e19_7, e19_10, e19_12, e19_15, e19_16, e19_17, e19_20, e19_22, e19_23, e19_24, c19, i10, i00, n2, n10, n20, n60, n8, n9, bi0, ite_not, List.replicate, Nat.reduceAdd, Nat.reduceSub, Nat.reduceLeDiff, Nat.reduceLT, if_true, if_false, mg, reduceIte, not_false_eq_true, eq_self, and_self, and_true, true_and, true_or, or_true, Nat.reduceEqDiff, ha, hb, t_lasting]
  simp only [uq_rq, rq_rq, rq_at]
  rfl
/-- what she sells, by whether whom she answers lives, and whether she is alone -/
def selF (r : Nat → Int32) (i : Nat) (al lo : Prop) [Decidable al] [Decidable lo] : Int32 :=
  if r (14 + 10 * i + 0) = nI 1 then (if al then r (14 + 10 * i + 3) / nI 10 + nI 1 else r (14 + 10 * i + 3) / nI 10)
  else if r (14 + 10 * i + 0) = nI 2 then nI 1
  else if r (14 + 10 * i + 0) = nI 3 then (if al then r (14 + 10 * i + 3) / nI 10 + nI 1 else r (14 + 10 * i + 3) / nI 10)
  else if r (14 + 10 * i + 0) = nI 4 then (if lo then nI 16 else if al then r (14 + 10 * i + 3) / nI 10 + nI 1 else r (14 + 10 * i + 3) / nI 10)
  else if r (14 + 10 * i + 0) = nI 5 then r (14 + 10 * i + 3) / nI 10 + nI 3
  else if r (14 + 10 * i + 0) = nI 6 then nI 3 else r (14 + 10 * i + 3) / nI 10
theorem t_selling1 {X : aX} {S : aS} {a b : Nat} (ha : a < 3) (hb : b < 8) {al lo : Prop} [Decidable al] [Decidable lo] : cl X 22 [aR (4, a, b), aI (bi al), aI (bi lo)] (mem S) = some (some (aI (selF (S.1 a) b al lo)), mem S) := by
  simp only [nl_n, nl_i, nl_r, x_ci, x_ca, x_bin, x_ife, x_ifl, x_ifg, x_cme, x_cml, x_cmg, x_go, x_no, x_b, x_ps, x_pn, cs_n, cs_i, cs_j, cs_r, en_n, en_i, en_j, en_r, xa0, g_4_0, l_3, l_5, l_8, l_11, l_12, l_21, l_22, l_23, l_24, l_25, l_26, l_28, l_29, l_30, l_31, l_32, x_div, xs3n, xs3i, xs3r, xi1, xi3, xs4n, xs4i, xs4r, x_sw, x_sw0, xi4, r_i, r_j, r_v, r_z1, r_z0, r_a, xi2, e22_0, e22_1, e22_4, e22_5, e22_6, e22_8, e22_9, e22_10, e22_11, e22_14, e22_15, e22_16, e22_17, e22_20, e22_21, e22_23, e22_24, e22_27, e22_28, e22_29, e22_68, e22_70, e22_71, e22_72, e22_75, e22_77, e22_80, e22_82, e22_83, e22_84, e22_85, e22_86, e22_87, e22_88, e22_89, e22_90, e22_91, e22_92, c22, i10, i00, n2, n10, n20, n60, n8, n9, bi0, ite_not, List.replicate, Nat.reduceAdd, Nat.reduceSub, Nat.reduceLeDiff, Nat.reduceLT, if_true, if_false, mg, reduceIte, not_false_eq_true, eq_self, and_self, and_true, true_and, true_or, or_true, Nat.reduceEqDiff, ha, hb]
  unfold selF
  (repeat' split) <;> simp_all
def weaF (r : Nat → Int32) (i : Nat) : Int32 :=
  if r (14 + 10 * i + 0) = nI 2 then nI 0 else if r (14 + 10 * i + 0) = nI 3 then nI 4 else if r (14 + 10 * i + 0) = nI 4 then nI 3
  else if r (14 + 10 * i + 0) = nI 5 then (if r (14 + 10 * i + 4) < nI 15 then -5 else nI 0) else if r (14 + 10 * i + 0) = nI 6 then nI 1 else nI 2
theorem t_wearing {X : aX} {S : aS} {a b : Nat} (ha : a < 3) (hb : b < 8) : cl X 23 [aR (4, a, b)] (mem S) = some (some (aI (weaF (S.1 a) b)), mem S) := by
  simp only [nl_n, nl_i, nl_r, x_ci, x_ca, x_bin, x_ife, x_ifl, x_ifg, x_cme, x_cml, x_cmg, x_go, x_no, x_b, x_ps, x_pn, cs_n, cs_i, cs_j, cs_r, en_n, en_i, en_j, en_r, xa0, g_4_0, l_3, l_5, l_8, l_11, l_12, l_21, l_22, l_23, l_24, l_25, l_26, l_28, l_29, l_30, l_31, l_32, x_sw, x_sw0, r_i, r_j, r_v, r_z1, r_z0, r_a, e23_0, e23_1, e23_4, e23_5, e23_6, e23_40, e23_41, e23_42, e23_43, e23_44, e23_45, e23_46, e23_47, e23_48, e23_49, e23_52, e23_53, e23_54, e23_56, e23_59, e23_60, e23_63, e23_65, e23_66, e23_67, c23, i10, i00, n2, n10, n20, n60, n8, n9, bi0, ite_not, List.replicate, Nat.reduceAdd, Nat.reduceSub, Nat.reduceLeDiff, Nat.reduceLT, if_true, if_false, mg, reduceIte, not_false_eq_true, eq_self, and_self, and_true, true_and, true_or, or_true, Nat.reduceEqDiff, ha, hb]
  rfl
/-- a year older -/
def oldF (r : Nat → Int32) (i : Nat) : Nat → Int32 := upd (upd r (14 + 10 * i + 3) (mxx (nI 0) (mn (r (14 + 10 * i + 3) - weaF r i) (nI 99)))) (14 + 10 * i + 4) (mn (r (14 + 10 * i + 4) + nI 1) (nI 120))
theorem t_growOlder1 {X : aX} {S : aS} {a b : Nat} (ha : a < 3) (hb : b < 8) : cl X 24 [aR (4, a, b)] (mem S) = some (none, mem (rq S.1 a (oldF (S.1 a) b), S.2)) := by
  simp only [nl_n, nl_i, nl_r, x_ci, x_ca, x_bin, x_ife, x_ifl, x_ifg, x_cme, x_cml, x_cmg, x_go, x_no, x_b, x_ps, x_pn, cs_n, cs_i, cs_j, cs_r, en_n, en_i, en_j, en_r, xa0, g_4_0, l_3, l_5, l_8, l_11, l_12, l_21, l_22, l_23, l_24, l_25, l_26, l_28, l_29, l_30, l_31, l_32, x_k1_4, x_min, x_max, s_3, s_5, s_8, s_11, s_12, s_21, s_22, s_23, s_24, s_25, s_26, s_28, s_29, s_30, s_31, s_32, r_i, r_j, r_v, r_z1, r_z0, r_a, e24_0, e24_1, e24_4, e24_5, e24_6, e24_7, e24_10, e24_11, e24_12, e24_13, e24_16, e24_17, e24_19, e24_22, e24_25, e24_26, e24_27, e24_30, e24_31, e24_32, e24_35, e24_36, e24_37, e24_38, e24_39, e24_41, e24_44, e24_45, c24, i10, i00, n2, n10, n20, n60, n8, n9, bi0, ite_not, List.replicate, Nat.reduceAdd, Nat.reduceSub, Nat.reduceLeDiff, Nat.reduceLT, if_true, if_false, mg, reduceIte, not_false_eq_true, eq_self, and_self, and_true, true_and, true_or, or_true, Nat.reduceEqDiff, ha, hb, t_wearing]
  simp only [uq_rq, rq_rq, rq_at]
  have e : upd (S.1 a) (14 + 10 * b + 3) (if nI 0 < (if nI 99 < S.1 a (14 + 10 * b + 3) - weaF (S.1 a) b then nI 99 else S.1 a (14 + 10 * b + 3) - weaF (S.1 a) b) then (if nI 99 < S.1 a (14 + 10 * b + 3) - weaF (S.1 a) b then nI 99 else S.1 a (14 + 10 * b + 3) - weaF (S.1 a) b) else nI 0) (14 + 10 * b + 4) = S.1 a (14 + 10 * b + 4) := by
    simp [upd]
  simp only [e]
  rfl
