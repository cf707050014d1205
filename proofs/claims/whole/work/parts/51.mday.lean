/-! THE REFERENCE'S DAY -/
theorem or_0 (x : Int32) : x ||| nI 0 = x := by rw [nI_0]; exact Int32.or_zero
def enX (i : Nat) (z : (Nat → Int32) × Int32) : (Nat → Int32) × Int32 := (soF z.1 i, if seF z.1 i = 0 then z.2 else z.2 ||| bit1 i)
theorem RI_d {n t : Nat} {r : Nat → Int32} (h : RI n r) (ht : t < n) : inN 1 (r (14 + 10 * t + 6)) := h.2.2.2.2.2 t ht 6 (by decide)
theorem rq_RI {n : Nat} {q : Nat → Nat → Int32} {r : Nat → Int32} {D : aD} {a : Nat} (h : RI n r) : RI n ((rq q a r, D).1 a) := by
  show RI n (rq q a r a)
  rw [rq_at]
  exact h
theorem l_ended {X : aX} {q : Nat → Nat → Int32} {D : aD} {n : Nat} : ∀ k i r x, i + k = n → RI n r → go X 142 4 [some (aR (20, 0, 0)), some (aI x), some (aI (nI i))] [] (mem (rq q 3 r, D)) = some (some (aI (lp enX k i (r, x)).2), mem (rq q 3 (lp enX k i (r, x)).1, D)) := by
  intro k
  induction k with
  | zero =>
    intro i r x h hr
    have hn := hr.1
    have hz := hr.2.1
    rw [e142_4]
    simp only [nl_n, nl_i, nl_r, x_ci, x_ca, x_bin, x_ife, x_ifl, x_ifg, x_cme, x_cml, x_cmg, x_go, x_no, x_b, x_ps, x_pn, cs_n, cs_i, cs_j, cs_r, en_n, en_i, en_j, en_r, xs1n, xs1i, xs1r, xs2n, xs2i, xs2r, xi2, xa0, g_20_0, l_3, l_5, l_8, l_11, l_12, l_21, l_22, l_23, l_24, l_25, l_26, l_28, l_29, l_30, l_31, l_32, x_k2_20, x_k2_s, x_dp2, s_3, s_5, s_8, s_11, s_12, s_21, s_22, s_23, s_24, s_25, s_26, s_28, s_29, s_30, s_31, s_32, xi1, x_k3_20, xn2n, xn2i, xn2r, r_i, r_j, r_v, r_z1, r_z0, r_a, e142_0, e142_1, e142_2, e142_3, e142_5, e142_6, e142_9, e142_10, e142_11, e142_14, e142_15, e142_16, e142_19, e142_22, e142_23, e142_26, e142_27, e142_29, e142_32, e142_33, e142_34, e142_35, e142_36, e142_37, e142_38, e142_39, e142_40, e142_42, e142_45, e142_48, e142_49, e142_50, e142_51, e142_54, e142_55, e142_56, e142_57, e142_60, e142_63, e142_64, c142, i10, i00, n2, n10, n20, n60, n8, n9, bi0, ite_not, List.replicate, Nat.reduceAdd, Nat.reduceSub, Nat.reduceLeDiff, Nat.reduceLT, if_true, if_false, mg, reduceIte, not_false_eq_true, eq_self, and_self, and_true, true_and, true_or, or_true, Nat.reduceEqDiff, rq_at, hz, (nI_nlt (show n ≤ i by omega) (by omega))]
    rfl
  | succ k ih =>
    intro i r x h hr
    have hn := hr.1
    have hz := hr.2.1
    have hi : i < 8 := by omega
    have hp : ∀ f, f < 10 → 14 + 10 * i + f < 94 := fun f hf => by omega
    have td := t_does (X := X) (S := (rq q 3 r, D)) hi (RI_d (rq_RI hr) (by omega))
    rw [e142_4, lp_s]
    show _ = some (some (aI (lp enX k (i + 1) (soF r i, if seF r i = 0 then x else x ||| bit1 i)).2), mem (rq q 3 (lp enX k (i + 1) (soF r i, if seF r i = 0 then x else x ||| bit1 i)).1, D))
    rw [← ih (i + 1) _ _ (by omega) (RI_so hr)]
    simp only [nl_n, nl_i, nl_r, x_ci, x_ca, x_bin, x_ife, x_ifl, x_ifg, x_cme, x_cml, x_cmg, x_go, x_no, x_b, x_ps, x_pn, cs_n, cs_i, cs_j, cs_r, en_n, en_i, en_j, en_r, xs1n, xs1i, xs1r, xs2n, xs2i, xs2r, xi2, xa0, g_20_0, l_3, l_5, l_8, l_11, l_12, l_21, l_22, l_23, l_24, l_25, l_26, l_28, l_29, l_30, l_31, l_32, x_k2_20, x_k2_s, x_dp2, s_3, s_5, s_8, s_11, s_12, s_21, s_22, s_23, s_24, s_25, s_26, s_28, s_29, s_30, s_31, s_32, xi1, x_k3_20, xn2n, xn2i, xn2r, r_i, r_j, r_v, r_z1, r_z0, r_a, e142_0, e142_1, e142_2, e142_3, e142_5, e142_6, e142_9, e142_10, e142_11, e142_14, e142_15, e142_16, e142_19, e142_22, e142_23, e142_26, e142_27, e142_29, e142_32, e142_33, e142_34, e142_35, e142_36, e142_37, e142_38, e142_39, e142_40, e142_42, e142_45, e142_48, e142_49, e142_50, e142_51, e142_54, e142_55, e142_56, e142_57, e142_60, e142_63, e142_64, c142, i10, i00, n2, n10, n20, n60, n8, n9, bi0, ite_not, List.replicate, Nat.reduceAdd, Nat.reduceSub, Nat.reduceLeDiff, Nat.reduceLT, if_true, if_false, mg, reduceIte, not_false_eq_true, eq_self, and_self, and_true, true_and, true_or, or_true, Nat.reduceEqDiff, rq_at, hz, hi, hp, (nI_lt (show i < n by omega) (by omega)), td, t_at, t_is, uq_rq, rq_rq, u_f, nI_add, or_0]
    unfold soF seF
    by_cases c : sgP r i
    · rw [if_pos c, if_pos c]
      by_cases c2 : r (14 + 10 * i + 7) - nI 1 = 0
      · rw [if_pos c2, bi_t ⟨c, c2⟩, if_neg i10]
      · rw [if_neg c2, bi_f (fun w => c2 w.2), if_pos nI_0]
    · rw [if_neg c, if_neg c, bi_f (fun w => c w.1), if_pos nI_0]
theorem lp_cg {α : Type} {f g : Nat → α → α} : ∀ k i a, (∀ j a, i ≤ j → j < i + k → f j a = g j a) → lp f k i a = lp g k i a := by
  intro k
  induction k with
  | zero => intro i a _; rfl
  | succ k ih =>
    intro i a h
    rw [lp_s, lp_s, h i a (by omega) (by omega), ih _ _ (fun j a h1 h2 => h j a (by omega) (by omega))]
theorem en_1 : ∀ k i (r : Nat → Int32) x, (lp enX k i (r, x)).1 = lp (fun i r => soF r i) k i r := by
  intro k
  induction k with
  | zero => intro i r x; rfl
  | succ k ih => intro i r x; rw [lp_s, lp_s]; exact ih _ _ _
theorem en_2 : ∀ k i (r : Nat → Int32) x, (lp enX k i (r, x)).2 = lp (fun i x => if ¬ seF r i = 0 then x ||| bit1 i else x) k i x := by
  intro k
  induction k with
  | zero => intro i r x; rfl
  | succ k ih =>
    intro i r x
    rw [lp_s, lp_s]
    show (lp enX k (i + 1) (soF r i, if seF r i = 0 then x else x ||| bit1 i)).2 = _
    rw [ih]
    rw [lp_cg (f := fun j x => if ¬ seF (soF r i) j = 0 then x ||| bit1 j else x) (g := fun j x => if ¬ seF r j = 0 then x ||| bit1 j else x) k (i + 1) _ (fun j a h1 h2 => by rw [seF_so (show j ≠ i by omega)])]
    congr 1
    by_cases c : seF r i = 0
    · rw [if_pos c, if_neg (by simp [c])]
    · rw [if_neg c, if_pos c]
theorem t_ended {X : aX} {q : Nat → Nat → Int32} {D : aD} {n : Nat} {r : Nat → Int32} (hr : RI n r) : cl X 142 [aR (20, 0, 0)] (mem (rq q 3 r, D)) = some (some (aI (setF (fun j => ¬ seF r j = 0) n)), mem (rq q 3 (soR n r), D)) := by
  simp only [nl_n, nl_i, nl_r, x_ci, x_ca, x_bin, x_ife, x_ifl, x_ifg, x_cme, x_cml, x_cmg, x_go, x_no, x_b, x_ps, x_pn, cs_n, cs_i, cs_j, cs_r, en_n, en_i, en_j, en_r, xs1n, xs1i, xs1r, xs2n, xs2i, xs2r, xi2, xa0, g_20_0, l_3, l_5, l_8, l_11, l_12, l_21, l_22, l_23, l_24, l_25, l_26, l_28, l_29, l_30, l_31, l_32, x_k2_20, x_k2_s, x_dp2, s_3, s_5, s_8, s_11, s_12, s_21, s_22, s_23, s_24, s_25, s_26, s_28, s_29, s_30, s_31, s_32, xi1, x_k3_20, xn2n, xn2i, xn2r, r_i, r_j, r_v, r_z1, r_z0, r_a, e142_0, e142_1, e142_2, e142_3, e142_5, e142_6, e142_9, e142_10, e142_11, e142_14, e142_15, e142_16, e142_19, e142_22, e142_23, e142_26, e142_27, e142_29, e142_32, e142_33, e142_34, e142_35, e142_36, e142_37, e142_38, e142_39, e142_40, e142_42, e142_45, e142_48, e142_49, e142_50, e142_51, e142_54, e142_55, e142_56, e142_57, e142_60, e142_63, e142_64, c142, i10, i00, n2, n10, n20, n60, n8, n9, bi0, ite_not, List.replicate, Nat.reduceAdd, Nat.reduceSub, Nat.reduceLeDiff, Nat.reduceLT, if_true, if_false, mg, reduceIte, not_false_eq_true, eq_self, and_self, and_true, true_and, true_or, or_true, Nat.reduceEqDiff]
  rw [l_ended n 0 r (nI 0) (by omega) hr, en_1, en_2]
  rfl
theorem t_comesIn {X : aX} {q : Nat → Nat → Int32} {D : aD} {n i : Nat} {r : Nat → Int32} {z : Int32} {e : Nat → Int32} (hr : RI n r) (hi : i < n) (hz : ∀ j, j < n → ((z >>> (nI j &&& 31)) &&& nI 1) = e j) (he : ∀ j, e j = nI 0 ∨ e j = nI 1) : cl X 143 [aR (20, 0, 0), aI (nI i), aI z] (mem (rq q 3 r, D)) = some (none, mem (rq q 3 (liF n e (td r) r i), D)) := by
  have hn := hr.1
  have hi8 : i < 8 := by omega
  have hp : ∀ f, f < 10 → 14 + 10 * i + f < 94 := fun f hf => by omega
  unfold liF
  by_cases c1 : 0 < r (14 + 10 * i + 8)
  · rw [if_pos c1]
    simp only [nl_n, nl_i, nl_r, x_ci, x_ca, x_bin, x_ife, x_ifl, x_ifg, x_cme, x_cml, x_cmg, x_go, x_no, x_b, x_ps, x_pn, cs_n, cs_i, cs_j, cs_r, en_n, en_i, en_j, en_r, xa0, xi1, x_k3_20, xs3n, xs3i, xs3r, g_20_0, x_k2_s, x_dp2, l_3, l_5, l_8, l_11, l_12, l_21, l_22, l_23, l_24, l_25, l_26, l_28, l_29, l_30, l_31, l_32, s_3, s_5, s_8, s_11, s_12, s_21, s_22, s_23, s_24, s_25, s_26, s_28, s_29, s_30, s_31, s_32, x_k2_20, x_popi, x_popr, xi3, xi2, x_min, x_div, r_i, r_j, r_v, r_z1, r_z0, r_a, e143_0, e143_1, e143_2, e143_3, e143_6, e143_7, e143_8, e143_9, e143_11, e143_14, e143_17, e143_18, e143_21, e143_22, e143_24, e143_27, e143_28, e143_29, e143_30, e143_31, e143_32, e143_33, e143_34, e143_36, e143_39, e143_42, e143_43, e143_44, e143_47, e143_48, e143_51, e143_52, e143_55, e143_56, e143_57, e143_58, e143_59, e143_60, e143_61, e143_64, e143_65, e143_68, e143_69, e143_71, e143_74, e143_76, e143_77, e143_78, e143_81, e143_84, e143_85, e143_88, e143_89, e143_92, e143_93, e143_96, e143_97, e143_98, e143_100, e143_101, e143_102, e143_103, e143_104, e143_107, e143_110, e143_111, e143_112, e143_115, e143_116, c143, i10, i00, n2, n10, n20, n60, n8, n9, bi0, ite_not, List.replicate, Nat.reduceAdd, Nat.reduceSub, Nat.reduceLeDiff, Nat.reduceLT, if_true, if_false, mg, reduceIte, not_false_eq_true, eq_self, and_self, and_true, true_and, true_or, or_true, Nat.reduceEqDiff, hi8, hp, c1, rq_at, t_at, t_is, uq_rq, rq_rq, u_f, t_begins]
    split <;> rfl
  · rw [if_neg c1]
    have ha : ans n (r (14 + 10 * i + 2)) := hr.2.2.2.2.2 i hi 2 (by decide)
    rcases ha with ha | ⟨j, hj, ha⟩
    · rw [if_neg (show ¬ hsP n (r (14 + 10 * i + 2)) by rw [ha]; exact fun w => w.1 m1_lt)]
      simp only [nl_n, nl_i, nl_r, x_ci, x_ca, x_bin, x_ife, x_ifl, x_ifg, x_cme, x_cml, x_cmg, x_go, x_no, x_b, x_ps, x_pn, cs_n, cs_i, cs_j, cs_r, en_n, en_i, en_j, en_r, xa0, xi1, x_k3_20, xs3n, xs3i, xs3r, g_20_0, x_k2_s, x_dp2, l_3, l_5, l_8, l_11, l_12, l_21, l_22, l_23, l_24, l_25, l_26, l_28, l_29, l_30, l_31, l_32, s_3, s_5, s_8, s_11, s_12, s_21, s_22, s_23, s_24, s_25, s_26, s_28, s_29, s_30, s_31, s_32, x_k2_20, x_popi, x_popr, xi3, xi2, x_min, x_div, r_i, r_j, r_v, r_z1, r_z0, r_a, e143_0, e143_1, e143_2, e143_3, e143_6, e143_7, e143_8, e143_9, e143_11, e143_14, e143_17, e143_18, e143_21, e143_22, e143_24, e143_27, e143_28, e143_29, e143_30, e143_31, e143_32, e143_33, e143_34, e143_36, e143_39, e143_42, e143_43, e143_44, e143_47, e143_48, e143_51, e143_52, e143_55, e143_56, e143_57, e143_58, e143_59, e143_60, e143_61, e143_64, e143_65, e143_68, e143_69, e143_71, e143_74, e143_76, e143_77, e143_78, e143_81, e143_84, e143_85, e143_88, e143_89, e143_92, e143_93, e143_96, e143_97, e143_98, e143_100, e143_101, e143_102, e143_103, e143_104, e143_107, e143_110, e143_111, e143_112, e143_115, e143_116, c143, i10, i00, n2, n10, n20, n60, n8, n9, bi0, ite_not, List.replicate, Nat.reduceAdd, Nat.reduceSub, Nat.reduceLeDiff, Nat.reduceLT, if_true, if_false, mg, reduceIte, not_false_eq_true, eq_self, and_self, and_true, true_and, true_or, or_true, Nat.reduceEqDiff, hi8, hp, c1, ha, m1_lt, rq_at, t_at, t_is, uq_rq, rq_rq, u_f, t_begins]
      by_cases c : r (14 + 10 * i + 1) = td r
      · rw [if_pos c, if_pos c.symm]
      · rw [if_neg c, if_neg (fun w => c w.symm)]
    · rw [if_pos (show hsP n (r (14 + 10 * i + 2)) by rw [ha]; exact has_i hn hj), ha, nI_clamp (by omega)]
      simp only [nl_n, nl_i, nl_r, x_ci, x_ca, x_bin, x_ife, x_ifl, x_ifg, x_cme, x_cml, x_cmg, x_go, x_no, x_b, x_ps, x_pn, cs_n, cs_i, cs_j, cs_r, en_n, en_i, en_j, en_r, xa0, xi1, x_k3_20, xs3n, xs3i, xs3r, g_20_0, x_k2_s, x_dp2, l_3, l_5, l_8, l_11, l_12, l_21, l_22, l_23, l_24, l_25, l_26, l_28, l_29, l_30, l_31, l_32, s_3, s_5, s_8, s_11, s_12, s_21, s_22, s_23, s_24, s_25, s_26, s_28, s_29, s_30, s_31, s_32, x_k2_20, x_popi, x_popr, xi3, xi2, x_min, x_div, r_i, r_j, r_v, r_z1, r_z0, r_a, e143_0, e143_1, e143_2, e143_3, e143_6, e143_7, e143_8, e143_9, e143_11, e143_14, e143_17, e143_18, e143_21, e143_22, e143_24, e143_27, e143_28, e143_29, e143_30, e143_31, e143_32, e143_33, e143_34, e143_36, e143_39, e143_42, e143_43, e143_44, e143_47, e143_48, e143_51, e143_52, e143_55, e143_56, e143_57, e143_58, e143_59, e143_60, e143_61, e143_64, e143_65, e143_68, e143_69, e143_71, e143_74, e143_76, e143_77, e143_78, e143_81, e143_84, e143_85, e143_88, e143_89, e143_92, e143_93, e143_96, e143_97, e143_98, e143_100, e143_101, e143_102, e143_103, e143_104, e143_107, e143_110, e143_111, e143_112, e143_115, e143_116, c143, i10, i00, n2, n10, n20, n60, n8, n9, bi0, ite_not, List.replicate, Nat.reduceAdd, Nat.reduceSub, Nat.reduceLeDiff, Nat.reduceLT, if_true, if_false, mg, reduceIte, not_false_eq_true, eq_self, and_self, and_true, true_and, true_or, or_true, Nat.reduceEqDiff, hi8, hp, c1, ha, (nI_pos (show j < 2 ^ 31 by omega)), rq_at, t_at, t_is, uq_rq, rq_rq, u_f, t_begins, t_gap6, (hz j hj)]
      rcases he j with h | h
      · rw [h, if_neg (by decide +kernel), if_pos nI_0]
      · rw [h, if_pos rfl, if_neg i10, mn_comm]
        rfl
theorem begF_0 (r : Nat → Int32) (i : Nat) : begF r i 0 = r 0 := by unfold begF; rw [u_0, u_0]
theorem ciF_0 (n : Nat) (e : Nat → Int32) (d : Int32) (r : Nat → Int32) (i : Nat) : ciF n e d i r 0 = r 0 := by
  unfold ciF liF
  repeat' split
  all_goals first | rfl | (simp only [begF_0, u_0])
theorem goF_0 (r : Nat → Int32) (i : Nat) : goF i r 0 = r 0 := by
  unfold goF oldF
  split
  · rw [u_0, u_0]
  · rfl
theorem l_day1 {X : aX} {q : Nat → Nat → Int32} {D : aD} {n : Nat} {z : Int32} {e : Nat → Int32} {d : Int32} (hz : ∀ j, j < n → ((z >>> (nI j &&& 31)) &&& nI 1) = e j) (he : ∀ j, e j = nI 0 ∨ e j = nI 1) : ∀ k i r, i + k = n → RI n r → td r = d → go X 146 7 [some (aR (20, 0, 0)), some (aI z), some (aI (nI i))] [] (mem (rq q 3 r, D)) = go X 146 55 [some (aR (20, 0, 0)), some (aI z), some (aI (nI n))] [] (mem (rq q 3 (lp (ciF n e d) k i r), D)) := by
  intro k
  induction k with
  | zero =>
    intro i r h hr hd
    have hn := hr.1
    have hz1 := hr.2.1
    have hin : i = n := by omega
    subst hin
    rw [e146_7]
    simp only [nl_n, nl_i, nl_r, x_ci, x_ca, x_bin, x_ife, x_ifl, x_ifg, x_cme, x_cml, x_cmg, x_go, x_no, x_b, x_ps, x_pn, cs_n, cs_i, cs_j, cs_r, en_n, en_i, en_j, en_r, xa0, x_k1_20, xs1n, xs1i, xs1r, xs2n, xs2i, xs2r, xi2, g_20_0, l_3, l_5, l_8, l_11, l_12, l_21, l_22, l_23, l_24, l_25, l_26, l_28, l_29, l_30, l_31, l_32, x_k2_20, x_k3_20, xi1, xn2n, xn2i, xn2r, x_div, x_k4_20, r_i, r_j, r_v, r_z1, r_z0, r_a, e146_0, e146_1, e146_4, e146_5, e146_6, e146_8, e146_9, e146_12, e146_13, e146_14, e146_17, e146_18, e146_19, e146_22, e146_25, e146_26, e146_27, e146_29, e146_32, e146_35, e146_36, e146_37, e146_38, e146_39, e146_40, e146_43, e146_44, e146_45, e146_46, e146_49, e146_52, e146_56, e146_59, e146_60, e146_61, e146_62, e146_63, e146_66, e146_67, e146_68, e146_71, e146_72, e146_75, e146_76, e146_77, e146_79, e146_80, e146_82, e146_85, e146_86, e146_87, e146_90, e146_93, e146_94, e146_95, e146_98, e146_101, e146_104, e146_105, e146_106, e146_107, e146_109, e146_112, c146, i10, i00, n2, n10, n20, n60, n8, n9, bi0, ite_not, List.replicate, Nat.reduceAdd, Nat.reduceSub, Nat.reduceLeDiff, Nat.reduceLT, if_true, if_false, mg, reduceIte, not_false_eq_true, eq_self, and_self, and_true, true_and, true_or, or_true, Nat.reduceEqDiff, rq_at, hz1, (nI_nlt (Nat.le_refl i) (show i < 2 ^ 31 by omega)), lp_0]
  | succ k ih =>
    intro i r h hr hd
    have hn := hr.1
    have hz1 := hr.2.1
    have hi : i < 8 := by omega
    have tdd := t_isDead (X := X) (S := (rq q 3 r, D)) hi (RI_d (rq_RI hr) (by omega))
    have tc := t_comesIn (X := X) (q := q) (D := D) hr (show i < n by omega) hz he
    rw [e146_7, lp_s, ← ih (i + 1) _ (by omega) (RI_ci hr) (by unfold td; rw [ciF_0]; exact hd)]
    simp only [nl_n, nl_i, nl_r, x_ci, x_ca, x_bin, x_ife, x_ifl, x_ifg, x_cme, x_cml, x_cmg, x_go, x_no, x_b, x_ps, x_pn, cs_n, cs_i, cs_j, cs_r, en_n, en_i, en_j, en_r, xa0, x_k1_20, xs1n, xs1i, xs1r, xs2n, xs2i, xs2r, xi2, g_20_0, l_3, l_5, l_8, l_11, l_12, l_21, l_22, l_23, l_24, l_25, l_26, l_28, l_29, l_30, l_31, l_32, x_k2_20, x_k3_20, xi1, xn2n, xn2i, xn2r, x_div, x_k4_20, r_i, r_j, r_v, r_z1, r_z0, r_a, e146_0, e146_1, e146_4, e146_5, e146_6, e146_8, e146_9, e146_12, e146_13, e146_14, e146_17, e146_18, e146_19, e146_22, e146_25, e146_26, e146_27, e146_29, e146_32, e146_35, e146_36, e146_37, e146_38, e146_39, e146_40, e146_43, e146_44, e146_45, e146_46, e146_49, e146_52, e146_56, e146_59, e146_60, e146_61, e146_62, e146_63, e146_66, e146_67, e146_68, e146_71, e146_72, e146_75, e146_76, e146_77, e146_79, e146_80, e146_82, e146_85, e146_86, e146_87, e146_90, e146_93, e146_94, e146_95, e146_98, e146_101, e146_104, e146_105, e146_106, e146_107, e146_109, e146_112, c146, i10, i00, n2, n10, n20, n60, n8, n9, bi0, ite_not, List.replicate, Nat.reduceAdd, Nat.reduceSub, Nat.reduceLeDiff, Nat.reduceLT, if_true, if_false, mg, reduceIte, not_false_eq_true, eq_self, and_self, and_true, true_and, true_or, or_true, Nat.reduceEqDiff, rq_at, hz1, hi, (nI_lt (show i < n by omega) (by omega)), tdd, t_is, tc, (hz i (by omega)), nI_add]
    unfold ciF
    rw [hd]
    repeat' split
    all_goals first | rfl | simp_all
