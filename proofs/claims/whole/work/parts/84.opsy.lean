/-! the days on which none sings -/
theorem lp_3 {f : Nat → (Nat → Int32) → (Nat → Int32)} (h : ∀ i r, f i r 3 = r 3) (k i : Nat) (r : Nat → Int32) : lp f k i r 3 = r 3 := by
  induction k generalizing i r with
  | zero => rfl
  | succ k ih => rw [lp_s, ih, h]
theorem soF_3 (r : Nat → Int32) (i : Nat) : soF r i 3 = r 3 := by
  unfold soF
  split
  · exact u_3 ..
  · rfl
theorem begF_3 (r : Nat → Int32) (i : Nat) : begF r i 3 = r 3 := by unfold begF; rw [u_3, u_3]
theorem ciF_3 (n : Nat) (e : Nat → Int32) (d : Int32) (i : Nat) (r : Nat → Int32) : ciF n e d i r 3 = r 3 := by
  unfold ciF liF
  repeat' split
  all_goals first | rfl | (simp only [begF_3, u_3])
theorem slF_3 (n : Nat) (z : Int32) (i : Nat) (r : Nat → Int32) : slF n z i r 3 = r 3 := by
  unfold slF
  split
  · rfl
  · exact u_3 ..
theorem goF_3 (i : Nat) (r : Nat → Int32) : goF i r 3 = r 3 := by
  unfold goF oldF
  split
  · rw [u_3, u_3]
  · rfl
theorem day_3 (n : Nat) (r : Nat → Int32) : dayR n r 3 = nI 0 ∨ dayR n r 3 = mn (r 3 + nI 1) (nI 99999) := by
  unfold dayR dyF
  try dsimp only
  have h1 : soR n r 3 = r 3 := lp_3 (fun i r => soF_3 r i) ..
  generalize soR n r = r1 at h1
  have h2 : lp (ciF n (seF r) (td r1)) n 0 r1 3 = r 3 := (lp_3 (fun i r => ciF_3 ..) ..).trans h1
  generalize lp (ciF n (seF r) (td r1)) n 0 r1 = r2 at h2
  have h3 : lp (slF n (sgS r2 n)) n 0 r2 3 = r 3 := (lp_3 (fun i r => slF_3 ..) ..).trans h2
  generalize lp (slF n (sgS r2 n)) n 0 r2 = r3 at h3
  have h4 : stF (sgS r2 n) r3 3 = nI 0 ∨ stF (sgS r2 n) r3 3 = mn (r 3 + nI 1) (nI 99999) := by
    show (if sgS r2 n = 0 then mn (r3 3 + nI 1) (nI 99999) else nI 0) = nI 0 ∨ (if sgS r2 n = 0 then mn (r3 3 + nI 1) (nI 99999) else nI 0) = _
    rw [h3]
    split
    · exact Or.inr rfl
    · exact Or.inl rfl
  generalize stF (sgS r2 n) r3 = r4 at h4
  have h5 : (if td r4 = nI 59 then lp goF n 0 r4 else r4) 3 = r4 3 := by
    split
    · exact lp_3 (fun i r => goF_3 ..) ..
    · rfl
  show (if td r4 = nI 59 then lp goF n 0 r4 else r4) 3 = nI 0 ∨ (if td r4 = nI 59 then lp goF n 0 r4 else r4) 3 = _
  rw [h5]
  exact h4
/-- from s still days on, no more than a day a day -/
theorem still_le {n : Nat} : ∀ k (r : Nat → Int32) s, r 3 = nI s → s ≤ 99999 → ∃ t, t ≤ s + k ∧ t ≤ 99999 ∧ itr (dayR n) k r 3 = nI t := by
  intro k
  induction k with
  | zero => intro r s h hs; exact ⟨s, by omega, hs, h⟩
  | succ k ih =>
    intro r s h hs
    rw [itr_s]
    rcases day_3 n r with e | e
    · obtain ⟨t, h1, h2, h3⟩ := ih (dayR n r) 0 e (by omega)
      exact ⟨t, by omega, h2, h3⟩
    · rw [h, nI_add, mn_N (by omega) (by omega)] at e
      obtain ⟨t, h1, h2, h3⟩ := ih (dayR n r) _ e (Nat.min_le_right _ _)
      exact ⟨t, by have := Nat.min_le_left (s + 1) 99999; omega, h2, h3⟩
theorem RI_ki {n i : Nat} {z : Int32} {r : Nat → Int32} (h : RI n r) : RI n (kiF z i r) := by
  unfold kiF
  split
  · exact h
  · exact RI_u h (by decide) (show inN 1 (nI 1) from ⟨1, by decide, rfl⟩)
theorem ag_ki {n i : Nat} {z : Int32} {r r' : Nat → Int32} (h : ag n r r') : ag n (kiF z i r) (kiF z i r') := by
  unfold kiF
  split
  · exact h
  · exact ag_u h rfl
theorem l_still {X : aX} {q : Nat → Nat → Int32} {n c : Nat} {z : Int32} (hc : c ≤ 60) : ∀ k i r D, i + k = c → RI n r → ∃ r1 D1, eqJ D D1 ∧ go X 106 21 [some (aR (0, 0, 0)), some (aI z), some (aI (nI c)), some (aI (nI i))] [] (mem (rq q 1 r, D)) = some (some (aI (bi (¬ itr (dayR n) k r 3 < nI c))), mem (rq q 1 r1, D1)) := by
  intro k
  induction k with
  | zero =>
    intro i r D h hr
    refine ⟨r, D, eqJ_rfl D, ?_⟩
    rw [e106_21]
    simp only [nl_n, nl_i, nl_r, x_ci, x_ca, x_bin, x_ife, x_ifl, x_ifg, x_cme, x_cml, x_cmg, x_go, x_no, x_b, x_ps, x_pn, cs_n, cs_i, cs_j, cs_r, en_n, en_i, en_j, en_r, xa0, g_0_1, g_0_0, x_k2_1, xi1, xs3n, xs3i, xs3r, xi3, xi2, g_1_4, r_i, r_j, r_v, r_z1, r_z0, r_a, xn3n, xn3i, xn3r, e106_0, e106_1, e106_4, e106_5, e106_8, e106_11, e106_12, e106_15, e106_16, e106_19, e106_20, e106_22, e106_23, e106_26, e106_27, e106_30, e106_31, e106_34, e106_35, e106_38, e106_41, e106_44, e106_45, e106_46, e106_49, e106_52, e106_53, e106_56, e106_59, e106_60, e106_63, e106_64, e106_67, e106_68, c106, i10, i00, n2, n10, n20, n60, n8, n9, bi0, ite_not, List.replicate, Nat.reduceAdd, Nat.reduceSub, Nat.reduceLeDiff, Nat.reduceLT, if_true, if_false, mg, reduceIte, not_false_eq_true, eq_self, and_self, and_true, true_and, true_or, or_true, Nat.reduceEqDiff, (nI_nlt (show c ≤ i by omega) (by omega)), rq_at]
    show _ = some (some (aI (bi (¬ r 3 < nI c))), _)
    by_cases e : r 3 < nI c
    · rw [if_pos e, bi_f (fun w => w e)]
    · rw [if_neg e, bi_t e]
  | succ k ih =>
    intro i r D h hr
    have hn := hr.1
    obtain ⟨D', hD', hd⟩ := t_days (X := X) (q := q) (r := r) (D := D) (a := 1) (c := 1) (by decide) hn (by decide) hr.2.1
    rw [show itr (dayR n) 1 r = dayR n r from rfl] at hd
    by_cases e : dayR n r 3 = 0
    · refine ⟨dayR n r, D', hD', ?_⟩
      obtain ⟨t, t1, t2, t3⟩ := still_le (n := n) k (dayR n r) 0 (e.trans nI_0.symm) (by omega)
      rw [itr_s, t3, bi_f (fun w => w (nI_lt (by omega) (by omega))), e106_21]
      simp only [nl_n, nl_i, nl_r, x_ci, x_ca, x_bin, x_ife, x_ifl, x_ifg, x_cme, x_cml, x_cmg, x_go, x_no, x_b, x_ps, x_pn, cs_n, cs_i, cs_j, cs_r, en_n, en_i, en_j, en_r, xa0, g_0_1, g_0_0, x_k2_1, xi1, xs3n, xs3i, xs3r, xi3, xi2, g_1_4, r_i, r_j, r_v, r_z1, r_z0, r_a, xn3n, xn3i, xn3r, e106_0, e106_1, e106_4, e106_5, e106_8, e106_11, e106_12, e106_15, e106_16, e106_19, e106_20, e106_22, e106_23, e106_26, e106_27, e106_30, e106_31, e106_34, e106_35, e106_38, e106_41, e106_44, e106_45, e106_46, e106_49, e106_52, e106_53, e106_56, e106_59, e106_60, e106_63, e106_64, e106_67, e106_68, c106, i10, i00, n2, n10, n20, n60, n8, n9, bi0, ite_not, List.replicate, Nat.reduceAdd, Nat.reduceSub, Nat.reduceLeDiff, Nat.reduceLT, if_true, if_false, mg, reduceIte, not_false_eq_true, eq_self, and_self, and_true, true_and, true_or, or_true, Nat.reduceEqDiff, (nI_lt (show i < c by omega) (by omega)), hd, rq_at, e]
    · obtain ⟨r1, D1, hD1, h1⟩ := ih (i + 1) (dayR n r) D' (by omega) (RI_day hr)
      refine ⟨r1, D1, eqJ_tr hD' hD1, ?_⟩
      rw [itr_s, ← h1, e106_21]
      simp only [nl_n, nl_i, nl_r, x_ci, x_ca, x_bin, x_ife, x_ifl, x_ifg, x_cme, x_cml, x_cmg, x_go, x_no, x_b, x_ps, x_pn, cs_n, cs_i, cs_j, cs_r, en_n, en_i, en_j, en_r, xa0, g_0_1, g_0_0, x_k2_1, xi1, xs3n, xs3i, xs3r, xi3, xi2, g_1_4, r_i, r_j, r_v, r_z1, r_z0, r_a, xn3n, xn3i, xn3r, e106_0, e106_1, e106_4, e106_5, e106_8, e106_11, e106_12, e106_15, e106_16, e106_19, e106_20, e106_22, e106_23, e106_26, e106_27, e106_30, e106_31, e106_34, e106_35, e106_38, e106_41, e106_44, e106_45, e106_46, e106_49, e106_52, e106_53, e106_56, e106_59, e106_60, e106_63, e106_64, e106_67, e106_68, c106, i10, i00, n2, n10, n20, n60, n8, n9, bi0, ite_not, List.replicate, Nat.reduceAdd, Nat.reduceSub, Nat.reduceLeDiff, Nat.reduceLT, if_true, if_false, mg, reduceIte, not_false_eq_true, eq_self, and_self, and_true, true_and, true_or, or_true, Nat.reduceEqDiff, (nI_lt (show i < c by omega) (by omega)), hd, rq_at, e, nI_add]
