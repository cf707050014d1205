/-! ROWS COPIED -/
/-- k of them from there on -/
def cpR (r r' : Nat → Int32) (p k : Nat) : Nat → Int32 := fun j => if p ≤ j ∧ j < p + k then r' j else r j
theorem rd_own {S : aS} {X : aX} {a b k : Nat} (ha : a < 3) (hk : k < 10) : ard X (mem S) (5, a, b) k = S.1 a (14 + 10 * b + k) := by
  unfold ard
  rw [if_pos (show (5 : Nat) < 80 by decide)]
  have e1 : rfs (5, a, b) k = none := rfl
  have e2 : pl (5, a, b) k = some (a, 14 + 10 * b + k) := by simp [pl, ha, hk]
  show iv (memv S (5, a, b) k) = _
  unfold memv
  rw [e1, e2]
  rfl
theorem rd_spot {S : aS} {X : aX} {a k : Nat} (ha : a < 3) (hk : k < 10) : ard X (mem S) (3, a, 0) k = S.1 a (4 + k) := by
  unfold ard
  rw [if_pos (show (3 : Nat) < 80 by decide)]
  have e1 : rfs (3, a, 0) k = none := rfl
  have e2 : pl (3, a, 0) k = some (a, 4 + k) := by simp [pl, ha, hk]
  show iv (memv S (3, a, 0) k) = _
  unfold memv
  rw [e1, e2]
  rfl
/-- cells copied into a row -/
theorem cp_q {S : aS} {X : aX} {d s : aL} {a p k : Nat} (g : Nat → Int32) (h1 : ∀ j, j < k → rfs d j = none ∧ pl d j = some (a, p + j)) (h2 : ∀ j, j < k → ard X (mem S) s j = g (p + j)) : cpM X (mem S) s 0 d 0 k = mem (rq S.1 a (cpR (S.1 a) g p k), S.2) := by
  unfold cpM mem
  congr 1
  funext r j
  by_cases c : r = d ∧ 0 ≤ j ∧ j < 0 + k
  · rw [if_pos c]
    obtain ⟨rfl, _, hj⟩ := c
    have hj : j < k := by omega
    show aI (ard X (mem S) s (0 + (j - 0))) = memv _ r j
    rw [show 0 + (j - 0) = j by omega, h2 j hj]
    unfold memv
    rw [(h1 j hj).1, (h1 j hj).2]
    show _ = aI (rq S.1 a (cpR (S.1 a) g p k) a (p + j))
    rw [rq_at]
    unfold cpR
    rw [if_pos (by omega)]
  · rw [if_neg c]
    show memv S r j = memv _ r j
    unfold memv
    cases rfs r j with
    | some q => rfl
    | none =>
      cases hp : pl r j with
      | none => rfl
      | some z =>
        show aI (S.1 z.1 z.2) = aI (rq S.1 a (cpR (S.1 a) g p k) z.1 z.2)
        unfold rq
        by_cases e : z.1 = a
        · rw [if_pos e]
          unfold cpR
          by_cases e2 : p ≤ z.2 ∧ z.2 < p + k
          · exfalso
            have h3 := (h1 (z.2 - p) (by omega)).2
            rw [show p + (z.2 - p) = z.2 by omega] at h3
            obtain ⟨u1, u2⟩ := pl_inj hp (show pl d (z.2 - p) = some z by rw [h3, ← e])
            exact c ⟨u1, by omega, by omega⟩
          · rw [if_neg e2, e]
        · rw [if_neg e]
theorem acp_x {X : aX} {M : aM} {m nx : Nat} {la : aLs} {st : List aV} {d s : aL} {k n0 : Nat} (hk : k < 2 ^ 31) (hs : aln X M s = some n0) (h1 : s.1 < 90) (h2 : d.1 < 80) (h3 : vld M d = true) (h4 : (shp d).1 = 1) (h5 : k ≤ n0) (h6 : k ≤ (shp d).2) : kC X m (i_acp X nx la (aI (nI k) :: aI (nI 0) :: aR d :: aI (nI 0) :: aR s :: st) M) = if cs st ≤ 8 then go X m nx la st (cpM X M s 0 d 0 k) else none := by
  unfold i_acp
  dsimp only
  rw [hs]
  dsimp only
  have e0 : (nI 0).toNatClampNeg = 0 := nI_clamp (by decide)
  have e1 : ¬ nI 0 < 0 := nI_pos (by decide)
  have e2 : ¬ nI k < 0 := nI_pos hk
  rw [nI_clamp hk, e0]
  by_cases c : cs st ≤ 8
  · rw [if_pos c, if_pos (by simp [h1, h2, h3, h4, h5, h6, c, e1, e2])]
    rfl
  · rw [if_neg c, if_neg (by simp [c])]
    rfl
theorem pl_own {a b j : Nat} (ha : a < 3) (hj : j < 10) : rfs (5, a, b) j = none ∧ pl (5, a, b) j = some (a, 14 + 10 * b + j) := ⟨rfl, by simp [pl, ha, hj]⟩
theorem pl_spot {a j : Nat} (ha : a < 3) (hj : j < 10) : rfs (3, a, 0) j = none ∧ pl (3, a, 0) j = some (a, 4 + j) := ⟨rfl, by simp [pl, ha, hj]⟩
theorem a_own {X : aX} {S : aS} {m nx : Nat} {la : aLs} {st : List aV} {a b a2 : Nat} (ha : a < 3) (hb : b < 8) (ha2 : a2 < 3) : kC X m (i_acp X nx la (aI (nI 10) :: aI (nI 0) :: aR (5, a, b) :: aI (nI 0) :: aR (5, a2, b) :: st) (mem S)) = if cs st ≤ 8 then go X m nx la st (mem (rq S.1 a (cpR (S.1 a) (S.1 a2) (14 + 10 * b) 10), S.2)) else none := by
  rw [acp_x (by decide) (aln_m (n := 10) (Nat.le_of_ble_eq_true rfl) (vl_5 ha2 hb) rfl) (Nat.le_of_ble_eq_true rfl) (Nat.le_of_ble_eq_true rfl) (vl_5 ha hb) rfl (by decide) (Nat.le_refl 10), cp_q (S.1 a2) (fun j hj => pl_own ha hj) (fun j hj => rd_own ha2 hj)]
theorem a_spot {X : aX} {S : aS} {m nx : Nat} {la : aLs} {st : List aV} {a a2 : Nat} (ha : a < 3) (ha2 : a2 < 3) : kC X m (i_acp X nx la (aI (nI 10) :: aI (nI 0) :: aR (3, a, 0) :: aI (nI 0) :: aR (3, a2, 0) :: st) (mem S)) = if cs st ≤ 8 then go X m nx la st (mem (rq S.1 a (cpR (S.1 a) (S.1 a2) 4 10), S.2)) else none := by
  rw [acp_x (by decide) (aln_m (n := 10) (Nat.le_of_ble_eq_true rfl) (vl_3 ha2) rfl) (Nat.le_of_ble_eq_true rfl) (Nat.le_of_ble_eq_true rfl) (vl_3 ha) rfl (by decide) (Nat.le_refl 10), cp_q (S.1 a2) (fun j hj => pl_spot ha hj) (fun j hj => rd_spot ha2 hj)]
/-- as she is at first -/
def atF (j : Nat) : Int32 := if j = 2 then -1 else if j = 3 then nI 60 else if j = 4 then nI 30 else if j = 5 then nI 3 else nI 0
theorem st_at : ∀ j, j < 10 → (stA.getD 0 []).getD j 0 = atF j := by decide +kernel
theorem a_first {X : aX} {S : aS} {m nx : Nat} {la : aLs} {st : List aV} {a b : Nat} (ha : a < 3) (hb : b < 8) : kC X m (i_acp X nx la (aI (nI 10) :: aI (nI 0) :: aR (5, a, b) :: aI (nI 0) :: aR (82, 0, 0) :: st) (mem S)) = if cs st ≤ 8 then go X m nx la st (mem (rq S.1 a (cpR (S.1 a) (fun j => atF (j - (14 + 10 * b))) (14 + 10 * b) 10), S.2)) else none := by
  rw [acp_x (n0 := 10) (by decide) rfl (by decide) (Nat.le_of_ble_eq_true rfl) (vl_5 ha hb) rfl (by decide) (Nat.le_refl 10), cp_q (fun j => atF (j - (14 + 10 * b))) (fun j hj => pl_own ha hj) (show ∀ j, j < 10 → ard X (mem S) (82, 0, 0) j = atF (14 + 10 * b + j - (14 + 10 * b)) from fun j hj => by rw [show 14 + 10 * b + j - (14 + 10 * b) = j by omega]; exact st_at j hj)]
theorem t_become1 {X : aX} {S : aS} {a b a2 : Nat} (ha : a < 3) (hb : b < 8) (ha2 : a2 < 3) : cl X 15 [aR (4, a, b), aR (4, a2, b)] (mem S) = some (none, mem (rq S.1 a (cpR (S.1 a) (S.1 a2) (14 + 10 * b) 10), S.2)) := by
  simp only [nl_n, nl_i, nl_r, x_ci, x_ca, x_bin, x_ife, x_ifl, x_ifg, x_cme, x_cml, x_cmg, x_go, x_no, x_b, x_ps, x_pn, cs_n, cs_i, cs_j, cs_r, en_n, en_i, en_j, en_r, xa1, g_4_0, xa0, n_l2, n_l3, n_l5, n_l8, n_l9, n_l11, n_l12, n_l21, n_l22, n_l23, n_l24, n_l25, n_l26, n_l27, n_l28, n_l29, n_l30, n_l31, n_l32, r_i, r_j, r_v, r_z1, r_z0, r_a, e15_0, e15_1, e15_4, e15_5, e15_6, e15_9, e15_10, e15_11, e15_14, e15_15, e15_18, c15, i10, i00, n2, n10, n20, n60, n8, n9, bi0, ite_not, List.replicate, Nat.reduceAdd, Nat.reduceSub, Nat.reduceLeDiff, Nat.reduceLT, if_true, if_false, mg, reduceIte, not_false_eq_true, eq_self, and_self, and_true, true_and, true_or, or_true, Nat.reduceEqDiff, ha, hb, ha2, a_own]
theorem t_reset {X : aX} {S : aS} {a b : Nat} (ha : a < 3) (hb : b < 8) : cl X 14 [aR (4, a, b)] (mem S) = some (none, mem (rq S.1 a (cpR (S.1 a) (fun j => atF (j - (14 + 10 * b))) (14 + 10 * b) 10), S.2)) := by
  simp only [nl_n, nl_i, nl_r, x_ci, x_ca, x_bin, x_ife, x_ifl, x_ifg, x_cme, x_cml, x_cmg, x_go, x_no, x_b, x_ps, x_pn, cs_n, cs_i, cs_j, cs_r, en_n, en_i, en_j, en_r, xa0, g_4_0, n_l2, n_l3, n_l5, n_l8, n_l9, n_l11, n_l12, n_l21, n_l22, n_l23, n_l24, n_l25, n_l26, n_l27, n_l28, n_l29, n_l30, n_l31, n_l32, r_i, r_j, r_v, r_z1, r_z0, r_a, e14_0, e14_3, e14_4, e14_5, e14_8, e14_9, e14_10, e14_13, e14_14, e14_17, c14, i10, i00, n2, n10, n20, n60, n8, n9, bi0, ite_not, List.replicate, Nat.reduceAdd, Nat.reduceSub, Nat.reduceLeDiff, Nat.reduceLT, if_true, if_false, mg, reduceIte, not_false_eq_true, eq_self, and_self, and_true, true_and, true_or, or_true, Nat.reduceEqDiff, ha, hb, a_first]
theorem rq_ne {q : Nat → Nat → Int32} {a a2 : Nat} {r : Nat → Int32} (h : a2 ≠ a) : rq q a r a2 = q a2 := by
  unfold rq
  rw [if_neg h]
/-- what lies below comes from the other -/
def mixR (n : Nat) (r r' : Nat → Int32) : Nat → Int32 := fun p => if p < 14 + 10 * n then r' p else r p
theorem cpR_lo {r r' : Nat → Int32} {p k j : Nat} (h : j < p) : cpR r r' p k j = r j := by
  unfold cpR
  rw [if_neg (by omega)]
theorem l_become {X : aX} {q : Nat → Nat → Int32} {D : aD} {a a2 n : Nat} (ha : a < 3) (ha2 : a2 < 3) (hne : a2 ≠ a) (hn : n ≤ 8) : ∀ k i r, i + k = n → r 1 = nI n → go X 26 34 [some (aR (1, a, 0)), some (aR (1, a2, 0)), some (aI (nI i))] [] (mem (rq q a r, D)) = some (none, mem (rq q a (cpR (lp (fun i r => cpR r (q a2) (14 + 10 * i) 10) k i r) (q a2) 4 10), D)) := by
  intro k
  induction k with
  | zero =>
    intro i r h hr
    rw [e26_34]
    simp only [nl_n, nl_i, nl_r, x_ci, x_ca, x_bin, x_ife, x_ifl, x_ifg, x_cme, x_cml, x_cmg, x_go, x_no, x_b, x_ps, x_pn, cs_n, cs_i, cs_j, cs_r, en_n, en_i, en_j, en_r, xa0, xa1, g_1_2, p_1_2, g_1_3, p_1_3, g_1_4, p_1_4, g_1_5, p_1_5, xs2n, xs2i, xs2r, xi2, g_1_0, l_2, l_9, l_27, x_k2_4, xn2n, xn2i, xn2r, g_1_1, r_i, r_j, r_v, r_z1, r_z0, r_a, e26_0, e26_1, e26_2, e26_5, e26_8, e26_9, e26_10, e26_13, e26_16, e26_17, e26_18, e26_21, e26_24, e26_25, e26_26, e26_29, e26_32, e26_33, e26_35, e26_36, e26_39, e26_42, e26_43, e26_46, e26_47, e26_48, e26_49, e26_52, e26_53, e26_54, e26_57, e26_60, e26_63, e26_64, e26_67, e26_68, e26_69, e26_72, e26_73, e26_75, e26_78, c26, i10, i00, n2, n10, n20, n60, n8, n9, bi0, ite_not, List.replicate, Nat.reduceAdd, Nat.reduceSub, Nat.reduceLeDiff, Nat.reduceLT, if_true, if_false, mg, reduceIte, not_false_eq_true, eq_self, and_self, and_true, true_and, true_or, or_true, Nat.reduceEqDiff, ha, ha2, rq_at, hr, (nI_nlt (show n ≤ i by omega) (by omega)), a_spot, (rq_ne hne), rq_rq]
    rfl
  | succ k ih =>
    intro i r h hr
    have hi : i < 8 := by omega
    have t := t_become1 (X := X) (S := (rq q a r, D)) ha hi ha2
    rw [e26_34, lp_s, ← ih (i + 1) _ (by omega) ((cpR_lo (by omega)).trans hr)]
    simp only [nl_n, nl_i, nl_r, x_ci, x_ca, x_bin, x_ife, x_ifl, x_ifg, x_cme, x_cml, x_cmg, x_go, x_no, x_b, x_ps, x_pn, cs_n, cs_i, cs_j, cs_r, en_n, en_i, en_j, en_r, xa0, xa1, g_1_2, p_1_2, g_1_3, p_1_3, g_1_4, p_1_4, g_1_5, p_1_5, xs2n, xs2i, xs2r, xi2, g_1_0, l_2, l_9, l_27, x_k2_4, xn2n, xn2i, xn2r, g_1_1, r_i, r_j, r_v, r_z1, r_z0, r_a, e26_0, e26_1, e26_2, e26_5, e26_8, e26_9, e26_10, e26_13, e26_16, e26_17, e26_18, e26_21, e26_24, e26_25, e26_26, e26_29, e26_32, e26_33, e26_35, e26_36, e26_39, e26_42, e26_43, e26_46, e26_47, e26_48, e26_49, e26_52, e26_53, e26_54, e26_57, e26_60, e26_63, e26_64, e26_67, e26_68, e26_69, e26_72, e26_73, e26_75, e26_78, c26, i10, i00, n2, n10, n20, n60, n8, n9, bi0, ite_not, List.replicate, Nat.reduceAdd, Nat.reduceSub, Nat.reduceLeDiff, Nat.reduceLT, if_true, if_false, mg, reduceIte, not_false_eq_true, eq_self, and_self, and_true, true_and, true_or, or_true, Nat.reduceEqDiff, ha, ha2, hi, rq_at, hr, (nI_lt (show i < n by omega) (by omega)), nI_add, t, rq_rq, (rq_ne hne)]
theorem lp_cp (g : Nat → Int32) : ∀ k i (r : Nat → Int32), lp (fun i r => cpR r g (14 + 10 * i) 10) k i r = cpR r g (14 + 10 * i) (10 * k) := by
  intro k
  induction k with
  | zero =>
    intro i r
    funext p
    unfold cpR
    rw [if_neg (by omega)]
    rfl
  | succ k ih =>
    intro i r
    rw [lp_s, ih]
    funext p
    unfold cpR
    by_cases c : 14 + 10 * i ≤ p ∧ p < 14 + 10 * i + 10 * (k + 1)
    · rw [if_pos c]
      split
      · rfl
      · rw [if_pos (by omega)]
    · rw [if_neg c, if_neg (by omega), if_neg (by omega)]
theorem mix_eq (n : Nat) (r g : Nat → Int32) : cpR (cpR (upd (upd (upd (upd r 1 (g 1)) 0 (g 0)) 3 (g 3)) 2 (g 2)) g (14 + 10 * 0) (10 * n)) g 4 10 = mixR n r g := by
  funext p
  unfold cpR mixR upd
  by_cases c : p < 14 + 10 * n
  · rw [if_pos c]
    by_cases c2 : 4 ≤ p
    · by_cases c3 : p < 4 + 10
      · rw [if_pos ⟨c2, c3⟩]
      · rw [if_neg (by omega), if_pos (by omega)]
    · rw [if_neg (by omega), if_neg (by omega)]
      rcases (show p = 0 ∨ p = 1 ∨ p = 2 ∨ p = 3 by omega) with rfl | rfl | rfl | rfl <;> simp
  · rw [if_neg c, if_neg (by omega), if_neg (by omega), if_neg (by omega), if_neg (by omega), if_neg (by omega), if_neg (by omega)]
theorem t_become {X : aX} {q : Nat → Nat → Int32} {D : aD} {a a2 n : Nat} {r : Nat → Int32} (ha : a < 3) (ha2 : a2 < 3) (hne : a2 ≠ a) (hn : n ≤ 8) (hz : q a2 1 = nI n) : cl X 26 [aR (1, a, 0), aR (1, a2, 0)] (mem (rq q a r, D)) = some (none, mem (rq q a (mixR n r (q a2)), D)) := by
  simp only [nl_n, nl_i, nl_r, x_ci, x_ca, x_bin, x_ife, x_ifl, x_ifg, x_cme, x_cml, x_cmg, x_go, x_no, x_b, x_ps, x_pn, cs_n, cs_i, cs_j, cs_r, en_n, en_i, en_j, en_r, xa0, xa1, g_1_2, p_1_2, g_1_3, p_1_3, g_1_4, p_1_4, g_1_5, p_1_5, xs2n, xs2i, xs2r, xi2, g_1_0, l_2, l_9, l_27, x_k2_4, xn2n, xn2i, xn2r, g_1_1, r_i, r_j, r_v, r_z1, r_z0, r_a, e26_0, e26_1, e26_2, e26_5, e26_8, e26_9, e26_10, e26_13, e26_16, e26_17, e26_18, e26_21, e26_24, e26_25, e26_26, e26_29, e26_32, e26_33, e26_35, e26_36, e26_39, e26_42, e26_43, e26_46, e26_47, e26_48, e26_49, e26_52, e26_53, e26_54, e26_57, e26_60, e26_63, e26_64, e26_67, e26_68, e26_69, e26_72, e26_73, e26_75, e26_78, c26, i10, i00, n2, n10, n20, n60, n8, n9, bi0, ite_not, List.replicate, Nat.reduceAdd, Nat.reduceSub, Nat.reduceLeDiff, Nat.reduceLT, if_true, if_false, mg, reduceIte, not_false_eq_true, eq_self, and_self, and_true, true_and, true_or, or_true, Nat.reduceEqDiff, ha, ha2, rq_at, uq_rq, rq_rq, (rq_ne hne)]
  rw [l_become ha ha2 hne hn n 0 _ (by omega) (by simp [upd, hz]), lp_cp, mix_eq]
/-- one more comes -/
def adF (n : Nat) (r : Nat → Int32) (kd bg : Int32) : Nat → Int32 := fun p => if p = 1 then nI (n + 1) else if 14 + 10 * n ≤ p ∧ p < 14 + 10 * n + 10 then (if p = 14 + 10 * n then kd else if p = 14 + 10 * n + 1 then bg else atF (p - (14 + 10 * n))) else r p
theorem ad_eq (n : Nat) (r : Nat → Int32) (kd bg : Int32) : upd (upd (upd (cpR r (fun j => atF (j - (14 + 10 * n))) (14 + 10 * n) 10) (14 + 10 * n + 0) kd) (14 + 10 * n + 1) bg) 1 (nI (n + 1)) = adF n r kd bg := by
  funext p
  unfold upd cpR adF
  by_cases c : p = 1
  · rw [if_pos c, if_pos c]
  · rw [if_neg c, if_neg c]
    by_cases c1 : p = 14 + 10 * n + 1
    · rw [if_pos c1, if_pos (by omega), if_neg (by omega), if_pos c1]
    · rw [if_neg c1]
      by_cases c0 : p = 14 + 10 * n
      · rw [if_pos (by omega), if_pos (by omega), if_pos c0]
      · rw [if_neg (by omega)]
        by_cases c2 : 14 + 10 * n ≤ p ∧ p < 14 + 10 * n + 10
        · rw [if_pos c2, if_pos c2, if_neg c0, if_neg c1]
        · rw [if_neg c2, if_neg c2]
theorem t_add {X : aX} {S : aS} {a n : Nat} {kd bg : Int32} (ha : a < 3) (hn : n < 8) (hz : S.1 a 1 = nI n) : cl X 29 [aR (1, a, 0), aI kd, aI bg] (mem S) = some (some (aI (nI n)), mem (rq S.1 a (adF n (S.1 a) kd bg), S.2)) := by
  have e1 : ∀ (r g : Nat → Int32), cpR r g (14 + 10 * n) 10 1 = r 1 := fun r g => cpR_lo (by omega)
  have e2 : ∀ (r : Nat → Int32) x, upd r 1 x 1 = x := fun r x => if_pos rfl
  have e3 : nI (n + 1) - nI 1 = nI n := nI_pred n
  simp only [nl_n, nl_i, nl_r, x_ci, x_ca, x_bin, x_ife, x_ifl, x_ifg, x_cme, x_cml, x_cmg, x_go, x_no, x_b, x_ps, x_pn, cs_n, cs_i, cs_j, cs_r, en_n, en_i, en_j, en_r, xa0, x_k1_1, r_i, r_j, r_v, r_z1, r_z0, r_a, g_1_0, g_1_2, l_2, l_9, l_27, x_k1_4, g_4_0, xi1, s_3, s_5, s_8, s_11, s_12, s_21, s_22, s_23, s_24, s_25, s_26, s_28, s_29, s_30, s_31, s_32, xi2, x_dupi, x_dupr, p_1_2, e29_0, e29_1, e29_4, e29_7, e29_8, e29_9, e29_10, e29_13, e29_14, e29_17, e29_18, e29_21, e29_22, e29_25, e29_26, e29_29, e29_30, e29_33, e29_34, e29_35, e29_36, e29_37, e29_40, e29_41, e29_44, e29_45, e29_48, e29_49, e29_50, e29_51, e29_52, e29_53, e29_56, e29_57, e29_58, e29_61, e29_62, e29_65, e29_66, e29_67, c29, i10, i00, n2, n10, n20, n60, n8, n9, bi0, ite_not, List.replicate, Nat.reduceAdd, Nat.reduceSub, Nat.reduceLeDiff, Nat.reduceLT, if_true, if_false, mg, reduceIte, not_false_eq_true, eq_self, and_self, and_true, true_and, true_or, or_true, Nat.reduceEqDiff, ha, hn, hz, (t_isFull ha hz), (bi_f (fun h : ¬ nI n < nI 8 => h (nI_lt hn (by decide)))), t_reset, uq_rq, rq_rq, rq_at, e1, u_1, nI_add, e2, e3, ad_eq]
  rw [show adF n (S.1 a) kd bg 1 = nI (n + 1) from if_pos rfl, e3]
