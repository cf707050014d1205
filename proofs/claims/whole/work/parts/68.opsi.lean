/-! what would be best -/
def kx (S S' : aS) : Prop := eqJ S.2 S'.2 ∧ ∀ a, a ≠ 1 → S'.1 a = S.1 a
def kp (S S' : aS) : Prop := eqJ S.2 S'.2 ∧ ∀ a, a ≠ 3 → a ≠ 5 → S'.1 a = S.1 a
theorem kx_rfl (S : aS) : kx S S := ⟨eqJ_rfl _, fun _ _ => rfl⟩
theorem kx_tr {S S' S'' : aS} (h : kx S S') (h' : kx S' S'') : kx S S'' := ⟨eqJ_tr h.1 h'.1, fun a ha => (h'.2 a ha).trans (h.2 a ha)⟩
theorem kp_rfl (S : aS) : kp S S := ⟨eqJ_rfl _, fun _ _ _ => rfl⟩
theorem kp_tr {S S' S'' : aS} (h : kp S S') (h' : kp S' S'') : kp S S'' := ⟨eqJ_tr h.1 h'.1, fun a h3 h5 => (h'.2 a h3 h5).trans (h.2 a h3 h5)⟩
def a94 (r r' : Nat → Int32) : Prop := ∀ p, p < 94 → r p = r' p
theorem a94_ag {n : Nat} {r r' : Nat → Int32} (hn : n ≤ 8) (h : a94 r r') : ag n r r' := fun p hp => h p (by omega)
theorem J_kk {S S1 S2 : aS} {n : Nat} (hJ : J S) (hR : RI n (S.1 0)) (hA : ag n (S.1 0) (S.1 3)) (h1 : kx S S1) (h2 : kp S1 S2) (h3 : ag n (S2.1 3) (S1.1 3)) : J S2 := by
  have e0 : S2.1 0 = S.1 0 := (h2.2 0 (by decide) (by decide)).trans (h1.2 0 (by decide))
  have e2 : S2.1 2 = S.1 2 := (h2.2 2 (by decide) (by decide)).trans (h1.2 2 (by decide))
  have e4 : S2.1 4 = S.1 4 := (h2.2 4 (by decide) (by decide)).trans (h1.2 4 (by decide))
  refine J_new hJ (n := n) (by rw [e0]; exact hR) ?_ e2 e4 (eqJ_tr h1.1 h2.1)
  rw [e0]
  refine ag_tr hA (ag_sym ?_)
  rw [← h1.2 3 (by decide)]
  exact h3
/-- a trial: she with something else, some days on -/
theorem t_tryOut {X : aX} {S : aS} {n i j c : Nat} {v : Int32} (hn : n ≤ 8) (hi : i < n) (hj : j < 10) (hc : c < 2 ^ 31) (hz : S.1 0 1 = nI n) : ∃ S', kx S S' ∧ ag n (S'.1 1) (itr (dayR n) c (upd (S.1 0) (14 + 10 * i + j) v)) ∧ S'.1 1 1 = nI n ∧ cl X 105 [aR (0, 0, 0), aI (nI i), aI (nI j), aI v, aI (nI c)] (mem S) = some (none, mem S') := by
  have hm0 := ag_mix n (S.1 1) (S.1 0)
  have h0 := t_becS (X := X) (S := S) (a := 1) (a2 := 0) (by decide) (by decide) (by decide) hn hz
  have hz1 : mixR n (S.1 1) (S.1 0) 1 = nI n := (hm0 1 (by omega)).trans hz
  generalize mixR n (S.1 1) (S.1 0) = t0 at hm0 h0 hz1
  have h1 := t_put (X := X) (S := (rq S.1 1 t0, S.2)) (a := 1) (v := v) (by decide) hn hi hj hz1
  have hz2 : upd t0 (14 + 10 * i + j) v 1 = nI n := (u_1 ..).trans hz1
  obtain ⟨D1, e1, h2⟩ := t_daysS (X := X) (S := (rq S.1 1 (upd t0 (14 + 10 * i + j) v), S.2)) (a := 1) (c := c) (by decide) hn hc hz2
  refine ⟨(rq S.1 1 (itr (dayR n) c (upd t0 (14 + 10 * i + j) v)), D1), ⟨e1, fun a ha => rq_ne ha⟩, ?_, ?_, ?_⟩
  · show ag n (itr (dayR n) c (upd t0 (14 + 10 * i + j) v)) _
    exact ag_days hn c _ _ (ag_u hm0 rfl)
  · show itr (dayR n) c (upd t0 (14 + 10 * i + j) v) 1 = nI n
    have : ∀ c (r : Nat → Int32), itr (dayR n) c r 1 = r 1 := by
      intro c
      induction c with
      | zero => intro r; rfl
      | succ c ih => intro r; rw [itr_s, ih, day_1]
    rw [this]
    exact hz2
  · simp only [nl_n, nl_i, nl_r, x_ci, x_ca, x_bin, x_ife, x_ifl, x_ifg, x_cme, x_cml, x_cmg, x_go, x_no, x_b, x_ps, x_pn, cs_n, cs_i, cs_j, cs_r, en_n, en_i, en_j, en_r, xa0, g_0_1, g_0_0, x_k2_1, xi1, xi2, xi3, x_k4_1, xi4, r_i, r_j, r_v, r_z1, r_z0, r_a, e105_0, e105_1, e105_4, e105_5, e105_8, e105_11, e105_12, e105_15, e105_16, e105_17, e105_18, e105_21, e105_22, e105_25, e105_27, e105_30, c105, i10, i00, n2, n10, n20, n60, n8, n9, bi0, ite_not, List.replicate, Nat.reduceAdd, Nat.reduceSub, Nat.reduceLeDiff, Nat.reduceLT, if_true, if_false, mg, reduceIte, not_false_eq_true, eq_self, and_self, and_true, true_and, true_or, or_true, Nat.reduceEqDiff, h0, h1, rq_rq, rq_at, h2]
def bst (f : Nat → Int32) : Nat → Nat → Int32 → Int32 → Int32
  | 0, _, b, _ => b
  | k + 1, v, b, m => if m < f v then bst f k (v + 1) (nI v) (f v) else bst f k (v + 1) b m
theorem bst_s (f : Nat → Int32) (k v : Nat) (b m : Int32) : bst f (k + 1) v b m = if m < f v then bst f k (v + 1) (nI v) (f v) else bst f k (v + 1) b m := rfl
theorem bst_c {f g : Nat → Int32} (h : ∀ v, f v = g v) : ∀ k v b m, bst f k v b m = bst g k v b m := by
  intro k
  induction k with
  | zero => intro v b m; rfl
  | succ k ih => intro v b m; rw [bst_s, bst_s, h v, ih, ih]
def sold1 (n c p : Nat) (r : Nat → Int32) (v : Int32) : Int32 := sumF (fun t => itr (dayR n) c (upd r p v) (14 + 10 * t + 9)) n
def sold2 (n c p s : Nat) (r : Nat → Int32) (v : Int32) : Int32 := itr (dayR n) c (upd r p v) s
theorem l_beginx {X : aX} {n i c : Nat} {r0 : Nat → Int32} (hn : n ≤ 8) (hi : i < n) (hc : c < 2 ^ 31) (hr0 : r0 1 = nI n) : ∀ k v b m y S, v + k = 60 → S.1 0 = r0 → nl y = true → ∃ S', kx S S' ∧ go X 74 35 [some (aR (0, 0, 0)), some (aI (nI i)), some (aI (nI c)), some (aI b), some (aI m), some (aI (nI v)), y] [] (mem S) = some (some (aI (bst (fun v => sold1 n c (14 + 10 * i + 1) r0 (nI v)) k v b m)), mem S') := by
  intro k
  induction k with
  | zero =>
    intro v b m y S h hS hy
    refine ⟨S, kx_rfl S, ?_⟩
    rw [e74_35]
    simp only [nl_n, nl_i, nl_r, x_ci, x_ca, x_bin, x_ife, x_ifl, x_ifg, x_cme, x_cml, x_cmg, x_go, x_no, x_b, x_ps, x_pn, cs_n, cs_i, cs_j, cs_r, en_n, en_i, en_j, en_r, xa0, g_0_0, xi1, x_k2_1, xi2, x_k3_s, x_k2_0, r_i, r_j, r_v, r_z1, r_z0, r_a, xs3n, xs3i, xs3r, xs4n, xs4i, xs4r, xs5n, xs5i, xs5r, xi5, x_k5_0, g_0_1, xs6n, xs6i, xs6r, xi6, xi4, xn5n, xn5i, xn5r, xi3, e74_0, e74_1, e74_4, e74_5, e74_8, e74_11, e74_12, e74_13, e74_15, e74_18, e74_21, e74_22, e74_23, e74_26, e74_27, e74_28, e74_29, e74_30, e74_32, e74_33, e74_37, e74_39, e74_42, e74_43, e74_44, e74_45, e74_47, e74_48, e74_51, e74_52, e74_55, e74_57, e74_60, e74_62, e74_64, e74_66, e74_69, e74_71, e74_73, e74_75, e74_76, e74_79, e74_82, e74_83, c74, i10, i00, n2, n10, n20, n60, n8, n9, bi0, ite_not, List.replicate, Nat.reduceAdd, Nat.reduceSub, Nat.reduceLeDiff, Nat.reduceLT, if_true, if_false, mg, reduceIte, not_false_eq_true, eq_self, and_self, and_true, true_and, true_or, or_true, Nat.reduceEqDiff, (nI_nlt (show 60 ≤ v by omega) (by omega))]
    rfl
  | succ k ih =>
    intro v b m y S h hS hy
    obtain ⟨S1, k1, a1, z1, h1⟩ := t_tryOut (X := X) (S := S) (j := 1) (v := nI v) hn hi (by decide) hc (by rw [hS]; exact hr0)
    rw [hS] at a1
    have h2 := t_total (X := X) (S := S1) (a := 1) (j := 9) (by decide) hn (by decide) z1
    have e2 : sumF (fun t => S1.1 1 (14 + 10 * t + 9)) n = sold1 n c (14 + 10 * i + 1) r0 (nI v) := ag_sum a1 (by decide)
    rw [e2] at h2
    have hS1 : S1.1 0 = r0 := (k1.2 0 (by decide)).trans hS
    rw [bst_s]
    by_cases c1 : m < sold1 n c (14 + 10 * i + 1) r0 (nI v)
    · obtain ⟨S2, k2, h3⟩ := ih (v + 1) (nI v) (sold1 n c (14 + 10 * i + 1) r0 (nI v)) (some (aI (sold1 n c (14 + 10 * i + 1) r0 (nI v)))) S1 (by omega) hS1 rfl
      refine ⟨S2, kx_tr k1 k2, ?_⟩
      rw [if_pos c1, ← h3, e74_35]
      simp only [nl_n, nl_i, nl_r, x_ci, x_ca, x_bin, x_ife, x_ifl, x_ifg, x_cme, x_cml, x_cmg, x_go, x_no, x_b, x_ps, x_pn, cs_n, cs_i, cs_j, cs_r, en_n, en_i, en_j, en_r, xa0, g_0_0, xi1, x_k2_1, xi2, x_k3_s, x_k2_0, r_i, r_j, r_v, r_z1, r_z0, r_a, xs3n, xs3i, xs3r, xs4n, xs4i, xs4r, xs5n, xs5i, xs5r, xi5, x_k5_0, g_0_1, xs6n, xs6i, xs6r, xi6, xi4, xn5n, xn5i, xn5r, xi3, e74_0, e74_1, e74_4, e74_5, e74_8, e74_11, e74_12, e74_13, e74_15, e74_18, e74_21, e74_22, e74_23, e74_26, e74_27, e74_28, e74_29, e74_30, e74_32, e74_33, e74_37, e74_39, e74_42, e74_43, e74_44, e74_45, e74_47, e74_48, e74_51, e74_52, e74_55, e74_57, e74_60, e74_62, e74_64, e74_66, e74_69, e74_71, e74_73, e74_75, e74_76, e74_79, e74_82, e74_83, c74, i10, i00, n2, n10, n20, n60, n8, n9, bi0, ite_not, List.replicate, Nat.reduceAdd, Nat.reduceSub, Nat.reduceLeDiff, Nat.reduceLT, if_true, if_false, mg, reduceIte, not_false_eq_true, eq_self, and_self, and_true, true_and, true_or, or_true, Nat.reduceEqDiff, (nI_lt (show v < 60 by omega) (by decide)), h1, h2, c1, nI_add]
    · obtain ⟨S2, k2, h3⟩ := ih (v + 1) b m (some (aI (sold1 n c (14 + 10 * i + 1) r0 (nI v)))) S1 (by omega) hS1 rfl
      refine ⟨S2, kx_tr k1 k2, ?_⟩
      rw [if_neg c1, ← h3, e74_35]
      simp only [nl_n, nl_i, nl_r, x_ci, x_ca, x_bin, x_ife, x_ifl, x_ifg, x_cme, x_cml, x_cmg, x_go, x_no, x_b, x_ps, x_pn, cs_n, cs_i, cs_j, cs_r, en_n, en_i, en_j, en_r, xa0, g_0_0, xi1, x_k2_1, xi2, x_k3_s, x_k2_0, r_i, r_j, r_v, r_z1, r_z0, r_a, xs3n, xs3i, xs3r, xs4n, xs4i, xs4r, xs5n, xs5i, xs5r, xi5, x_k5_0, g_0_1, xs6n, xs6i, xs6r, xi6, xi4, xn5n, xn5i, xn5r, xi3, e74_0, e74_1, e74_4, e74_5, e74_8, e74_11, e74_12, e74_13, e74_15, e74_18, e74_21, e74_22, e74_23, e74_26, e74_27, e74_28, e74_29, e74_30, e74_32, e74_33, e74_37, e74_39, e74_42, e74_43, e74_44, e74_45, e74_47, e74_48, e74_51, e74_52, e74_55, e74_57, e74_60, e74_62, e74_64, e74_66, e74_69, e74_71, e74_73, e74_75, e74_76, e74_79, e74_82, e74_83, c74, i10, i00, n2, n10, n20, n60, n8, n9, bi0, ite_not, List.replicate, Nat.reduceAdd, Nat.reduceSub, Nat.reduceLeDiff, Nat.reduceLT, if_true, if_false, mg, reduceIte, not_false_eq_true, eq_self, and_self, and_true, true_and, true_or, or_true, Nat.reduceEqDiff, (nI_lt (show v < 60 by omega) (by decide)), h1, h2, c1, nI_add]
theorem l_kindx {X : aX} {n i c : Nat} {r0 : Nat → Int32} (hn : n ≤ 8) (hi : i < n) (hc : c < 2 ^ 31) (hr0 : r0 1 = nI n) : ∀ k v b m y S, v + k = 7 → S.1 0 = r0 → nl y = true → ∃ S', kx S S' ∧ go X 76 35 [some (aR (0, 0, 0)), some (aI (nI i)), some (aI (nI c)), some (aI b), some (aI m), some (aI (nI v)), y] [] (mem S) = some (some (aI (bst (fun v => sold2 n c (14 + 10 * i + 0) (14 + 10 * i + 9) r0 (nI v)) k v b m)), mem S') := by
  intro k
  induction k with
  | zero =>
    intro v b m y S h hS hy
    refine ⟨S, kx_rfl S, ?_⟩
    rw [e76_35]
    simp only [nl_n, nl_i, nl_r, x_ci, x_ca, x_bin, x_ife, x_ifl, x_ifg, x_cme, x_cml, x_cmg, x_go, x_no, x_b, x_ps, x_pn, cs_n, cs_i, cs_j, cs_r, en_n, en_i, en_j, en_r, xa0, g_0_0, xi1, x_k2_1, xi2, x_k3_s, x_k2_0, r_i, r_j, r_v, r_z1, r_z0, r_a, xs3n, xs3i, xs3r, xs4n, xs4i, xs4r, xs5n, xs5i, xs5r, xi5, x_k5_0, g_0_1, x_k3_1, xs6n, xs6i, xs6r, xi6, xi4, xn5n, xn5i, xn5r, xi3, e76_0, e76_1, e76_4, e76_5, e76_8, e76_11, e76_12, e76_13, e76_15, e76_18, e76_21, e76_22, e76_23, e76_26, e76_27, e76_28, e76_29, e76_30, e76_32, e76_33, e76_37, e76_39, e76_42, e76_43, e76_44, e76_45, e76_47, e76_48, e76_51, e76_52, e76_55, e76_56, e76_58, e76_61, e76_63, e76_65, e76_67, e76_70, e76_72, e76_74, e76_76, e76_77, e76_80, e76_83, e76_84, c76, i10, i00, n2, n10, n20, n60, n8, n9, bi0, ite_not, List.replicate, Nat.reduceAdd, Nat.reduceSub, Nat.reduceLeDiff, Nat.reduceLT, if_true, if_false, mg, reduceIte, not_false_eq_true, eq_self, and_self, and_true, true_and, true_or, or_true, Nat.reduceEqDiff, (nI_lt (show 6 < v by omega) (by omega))]
    rfl
  | succ k ih =>
    intro v b m y S h hS hy
    obtain ⟨S1, k1, a1, z1, h1⟩ := t_tryOut (X := X) (S := S) (j := 0) (v := nI v) hn hi (by decide) hc (by rw [hS]; exact hr0)
    rw [hS] at a1
    have h2 := t_look (X := X) (S := S1) (a := 1) (j := 9) (by decide) hn hi (by decide) z1
    have e2 : lkF n (S1.1 1) i 9 = sold2 n c (14 + 10 * i + 0) (14 + 10 * i + 9) r0 (nI v) := (lk_f (by decide)).trans (ag_f a1 hi (by decide))
    rw [e2] at h2
    have hS1 : S1.1 0 = r0 := (k1.2 0 (by decide)).trans hS
    rw [bst_s]
    by_cases c1 : m < sold2 n c (14 + 10 * i + 0) (14 + 10 * i + 9) r0 (nI v)
    · obtain ⟨S2, k2, h3⟩ := ih (v + 1) (nI v) (sold2 n c (14 + 10 * i + 0) (14 + 10 * i + 9) r0 (nI v)) (some (aI (sold2 n c (14 + 10 * i + 0) (14 + 10 * i + 9) r0 (nI v)))) S1 (by omega) hS1 rfl
      refine ⟨S2, kx_tr k1 k2, ?_⟩
      rw [if_pos c1, ← h3, e76_35]
      simp only [nl_n, nl_i, nl_r, x_ci, x_ca, x_bin, x_ife, x_ifl, x_ifg, x_cme, x_cml, x_cmg, x_go, x_no, x_b, x_ps, x_pn, cs_n, cs_i, cs_j, cs_r, en_n, en_i, en_j, en_r, xa0, g_0_0, xi1, x_k2_1, xi2, x_k3_s, x_k2_0, r_i, r_j, r_v, r_z1, r_z0, r_a, xs3n, xs3i, xs3r, xs4n, xs4i, xs4r, xs5n, xs5i, xs5r, xi5, x_k5_0, g_0_1, x_k3_1, xs6n, xs6i, xs6r, xi6, xi4, xn5n, xn5i, xn5r, xi3, e76_0, e76_1, e76_4, e76_5, e76_8, e76_11, e76_12, e76_13, e76_15, e76_18, e76_21, e76_22, e76_23, e76_26, e76_27, e76_28, e76_29, e76_30, e76_32, e76_33, e76_37, e76_39, e76_42, e76_43, e76_44, e76_45, e76_47, e76_48, e76_51, e76_52, e76_55, e76_56, e76_58, e76_61, e76_63, e76_65, e76_67, e76_70, e76_72, e76_74, e76_76, e76_77, e76_80, e76_83, e76_84, c76, i10, i00, n2, n10, n20, n60, n8, n9, bi0, ite_not, List.replicate, Nat.reduceAdd, Nat.reduceSub, Nat.reduceLeDiff, Nat.reduceLT, if_true, if_false, mg, reduceIte, not_false_eq_true, eq_self, and_self, and_true, true_and, true_or, or_true, Nat.reduceEqDiff, (nI_nlt (show v ≤ 6 by omega) (by decide)), h1, h2, c1, nI_add]
    · obtain ⟨S2, k2, h3⟩ := ih (v + 1) b m (some (aI (sold2 n c (14 + 10 * i + 0) (14 + 10 * i + 9) r0 (nI v)))) S1 (by omega) hS1 rfl
      refine ⟨S2, kx_tr k1 k2, ?_⟩
      rw [if_neg c1, ← h3, e76_35]
      simp only [nl_n, nl_i, nl_r, x_ci, x_ca, x_bin, x_ife, x_ifl, x_ifg, x_cme, x_cml, x_cmg, x_go, x_no, x_b, x_ps, x_pn, cs_n, cs_i, cs_j, cs_r, en_n, en_i, en_j, en_r, xa0, g_0_0, xi1, x_k2_1, xi2, x_k3_s, x_k2_0, r_i, r_j, r_v, r_z1, r_z0, r_a, xs3n, xs3i, xs3r, xs4n, xs4i, xs4r, xs5n, xs5i, xs5r, xi5, x_k5_0, g_0_1, x_k3_1, xs6n, xs6i, xs6r, xi6, xi4, xn5n, xn5i, xn5r, xi3, e76_0, e76_1, e76_4, e76_5, e76_8, e76_11, e76_12, e76_13, e76_15, e76_18, e76_21, e76_22, e76_23, e76_26, e76_27, e76_28, e76_29, e76_30, e76_32, e76_33, e76_37, e76_39, e76_42, e76_43, e76_44, e76_45, e76_47, e76_48, e76_51, e76_52, e76_55, e76_56, e76_58, e76_61, e76_63, e76_65, e76_67, e76_70, e76_72, e76_74, e76_76, e76_77, e76_80, e76_83, e76_84, c76, i10, i00, n2, n10, n20, n60, n8, n9, bi0, ite_not, List.replicate, Nat.reduceAdd, Nat.reduceSub, Nat.reduceLeDiff, Nat.reduceLT, if_true, if_false, mg, reduceIte, not_false_eq_true, eq_self, and_self, and_true, true_and, true_or, or_true, Nat.reduceEqDiff, (nI_nlt (show v ≤ 6 by omega) (by decide)), h1, h2, c1, nI_add]
theorem t_behind {X : aX} {S : aS} {n c p : Nat} (hr : RI n (S.1 3)) (hp : p < 94) (hc : c < 2 ^ 31) : ∃ S', kp S S' ∧ a94 (S'.1 3) (S.1 3) ∧ cl X 154 [aR (20, 0, 0), aI (nI p), aI (nI c)] (mem S) = some (some (aI (itr (dayR n) c (S.1 3) p)), mem S') := by
  have h0 := t_aside (X := X) (S := S)
  obtain ⟨D', e', h1⟩ := t_goS (X := X) (S := (rq S.1 5 (row94 (S.1 5) (S.1 3)), S.2)) (n := n) (c := c) hc hr
  have e3 : rq S.1 5 (row94 (S.1 5) (S.1 3)) 3 = S.1 3 := rfl
  dsimp only at h1
  rw [e3] at h1
  refine ⟨(rq (rq S.1 5 (row94 (S.1 5) (S.1 3))) 3 (row94 (itr (dayR n) c (S.1 3)) (row94 (S.1 5) (S.1 3))), D'), ⟨e', fun a h3 h5 => ?_⟩, fun p hp => ?_, ?_⟩
  · show rq (rq S.1 5 _) 3 _ a = S.1 a
    rw [rq_ne h3, rq_ne h5]
  · show row94 _ (row94 _ _) p = _
    unfold row94
    rw [if_pos hp, if_pos hp]
  · have e5 : ∀ r, rq (rq S.1 5 (row94 (S.1 5) (S.1 3))) 3 r 5 = row94 (S.1 5) (S.1 3) := fun r => rfl
    simp only [nl_n, nl_i, nl_r, x_ci, x_ca, x_bin, x_ife, x_ifl, x_ifg, x_cme, x_cml, x_cmg, x_go, x_no, x_b, x_ps, x_pn, cs_n, cs_i, cs_j, cs_r, en_n, en_i, en_j, en_r, xa0, g_20_0, g_20_2, x_k2_s, xi2, x_k2_20, xi1, l_3, l_5, l_8, l_11, l_12, l_21, l_22, l_23, l_24, l_25, l_26, l_28, l_29, l_30, l_31, l_32, r_i, r_j, r_v, r_z1, r_z0, r_a, e154_0, e154_1, e154_4, e154_5, e154_8, e154_11, e154_12, e154_13, e154_16, e154_17, e154_18, e154_21, e154_22, e154_23, e154_26, c154, i10, i00, n2, n10, n20, n60, n8, n9, bi0, ite_not, List.replicate, Nat.reduceAdd, Nat.reduceSub, Nat.reduceLeDiff, Nat.reduceLT, if_true, if_false, mg, reduceIte, not_false_eq_true, eq_self, and_self, and_true, true_and, true_or, or_true, Nat.reduceEqDiff, h0, h1, hp, rq_at, t_putBack, rq_rq, e5]
theorem t_soldB {X : aX} {S : aS} {n c : Nat} (hr : RI n (S.1 3)) (hc : c < 2 ^ 31) : ∃ S', kp S S' ∧ a94 (S'.1 3) (S.1 3) ∧ cl X 155 [aR (20, 0, 0), aI (nI c)] (mem S) = some (some (aI (sumF (fun t => itr (dayR n) c (S.1 3) (14 + 10 * t + 9)) n)), mem S') := by
  have h0 := t_aside (X := X) (S := S)
  obtain ⟨D', e', h1⟩ := t_goS (X := X) (S := (rq S.1 5 (row94 (S.1 5) (S.1 3)), S.2)) (n := n) (c := c) hc hr
  have e3 : rq S.1 5 (row94 (S.1 5) (S.1 3)) 3 = S.1 3 := rfl
  dsimp only at h1
  rw [e3] at h1
  have h2 := t_sum6 (X := X) (S := (rq (rq S.1 5 (row94 (S.1 5) (S.1 3))) 3 (itr (dayR n) c (S.1 3)), D')) (f := 9) hr.1 (RI_days c _ hr).2.1 (by decide)
  refine ⟨(rq (rq S.1 5 (row94 (S.1 5) (S.1 3))) 3 (row94 (itr (dayR n) c (S.1 3)) (row94 (S.1 5) (S.1 3))), D'), ⟨e', fun a h3 h5 => ?_⟩, fun p hp => ?_, ?_⟩
  · show rq (rq S.1 5 _) 3 _ a = S.1 a
    rw [rq_ne h3, rq_ne h5]
  · show row94 _ (row94 _ _) p = _
    unfold row94
    rw [if_pos hp, if_pos hp]
  · have e5 : ∀ r, rq (rq S.1 5 (row94 (S.1 5) (S.1 3))) 3 r 5 = row94 (S.1 5) (S.1 3) := fun r => rfl
    simp only [nl_n, nl_i, nl_r, x_ci, x_ca, x_bin, x_ife, x_ifl, x_ifg, x_cme, x_cml, x_cmg, x_go, x_no, x_b, x_ps, x_pn, cs_n, cs_i, cs_j, cs_r, en_n, en_i, en_j, en_r, xa0, g_20_0, g_20_2, x_k2_s, xi1, x_k2_20, r_i, r_j, r_v, r_z1, r_z0, r_a, e155_0, e155_1, e155_4, e155_5, e155_8, e155_11, e155_12, e155_13, e155_16, e155_17, e155_18, e155_20, e155_23, e155_26, c155, i10, i00, n2, n10, n20, n60, n8, n9, bi0, ite_not, List.replicate, Nat.reduceAdd, Nat.reduceSub, Nat.reduceLeDiff, Nat.reduceLT, if_true, if_false, mg, reduceIte, not_false_eq_true, eq_self, and_self, and_true, true_and, true_or, or_true, Nat.reduceEqDiff, h0, h1, h2, rq_at, t_putBack, rq_rq, e5]
