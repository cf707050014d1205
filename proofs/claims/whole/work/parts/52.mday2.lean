/-! THE REFERENCE'S SELLING, AND DAYS -/
def vF (n : Nat) (r : Nat → Int32) (i : Nat) : Int32 := if sgP r i then sqSell n r i (sgS r n) else nI 0
def flF (r : Nat → Int32) (t : Nat) (b : Int32) : Int32 := bi (¬ b = 0 ∨ sgP r t)
def dsF (n : Nat) (r : Nat → Int32) (i : Nat) (D : aD) : aD := uD D (25, 0, 0) i (vF n r i)
theorem l_sell1 {X : aX} {q : Nat → Nat → Int32} {n : Nat} {r : Nat → Int32} (hr : RI n r) : ∀ k i D (c : Prop) [Decidable c], i + k = n → go X 144 4 [some (aR (20, 0, 0)), some (aI (bi c)), some (aI (nI i))] [] (mem (rq q 3 r, D)) = go X 144 63 [some (aR (20, 0, 0)), some (aI (lp (flF r) k i (bi c))), some (aI (nI 0))] [] (mem (rq q 3 r, lp (dsF n r) k i D)) := by
  have hn := hr.1
  have hz := hr.2.1
  intro k
  induction k with
  | zero =>
    intro i D c _ h
    rw [e144_4]
    simp only [nl_n, nl_i, nl_r, x_ci, x_ca, x_bin, x_ife, x_ifl, x_ifg, x_cme, x_cml, x_cmg, x_go, x_no, x_b, x_ps, x_pn, cs_n, cs_i, cs_j, cs_r, en_n, en_i, en_j, en_r, xs1n, xs1i, xs1r, xs2n, xs2i, xs2r, xi2, xa0, g_20_0, l_3, l_5, l_8, l_11, l_12, l_21, l_22, l_23, l_24, l_25, l_26, l_28, l_29, l_30, l_31, l_32, g_20_5, x_k2_20, s_3, s_5, s_8, s_11, s_12, s_21, s_22, s_23, s_24, s_25, s_26, s_28, s_29, s_30, s_31, s_32, xi1, xn2n, xn2i, xn2r, x_k2_s, x_k4_20, x_min, r_i, r_j, r_v, r_z1, r_z0, r_a, e144_0, e144_1, e144_2, e144_3, e144_5, e144_6, e144_9, e144_10, e144_11, e144_14, e144_15, e144_18, e144_19, e144_20, e144_21, e144_24, e144_27, e144_28, e144_29, e144_32, e144_35, e144_36, e144_37, e144_38, e144_41, e144_42, e144_43, e144_46, e144_49, e144_50, e144_53, e144_54, e144_55, e144_58, e144_61, e144_62, e144_64, e144_65, e144_68, e144_69, e144_70, e144_73, e144_74, e144_75, e144_77, e144_80, e144_81, e144_84, e144_85, e144_86, e144_89, e144_92, e144_95, e144_98, e144_99, e144_102, e144_103, e144_104, e144_107, e144_108, e144_111, e144_113, e144_114, e144_117, e144_118, e144_119, e144_120, e144_121, e144_124, e144_125, c144, i10, i00, n2, n10, n20, n60, n8, n9, bi0, ite_not, List.replicate, Nat.reduceAdd, Nat.reduceSub, Nat.reduceLeDiff, Nat.reduceLT, if_true, if_false, mg, reduceIte, not_false_eq_true, eq_self, and_self, and_true, true_and, true_or, or_true, Nat.reduceEqDiff, rq_at, hz, (nI_nlt (show n ≤ i by omega) (by omega)), lp_0]
  | succ k ih =>
    intro i D c _ h
    have hi : i < 8 := by omega
    have t1 := t_does (X := X) (S := (rq q 3 r, D)) hi (RI_d (rq_RI hr) (by omega))
    have t1' := fun D => t_does (X := X) (S := (rq q 3 r, D)) hi (RI_d (rq_RI hr) (by omega))
    have t2 : cl X 132 [aR (20, 0, 0), aI (nI i)] (mem (rq q 3 r, D)) = some (some (aI (sqSell n r i (sgS r n))), mem (rq q 3 r, D)) := by
      have := t_sells (X := X) (S := (rq q 3 r, D)) (show i < n by omega) (rq_RI hr)
      rw [show (rq q 3 r, D).1 3 = r from rq_at q 3 r] at this
      exact this
    rw [e144_4, lp_s, lp_s, show flF r i (bi c) = bi (¬ bi c = 0 ∨ sgP r i) from rfl, ← ih (i + 1) _ _ (by omega)]
    unfold dsF vF
    generalize hb : bi (¬ bi c = 0 ∨ sgP r i) = b
    simp only [nl_n, nl_i, nl_r, x_ci, x_ca, x_bin, x_ife, x_ifl, x_ifg, x_cme, x_cml, x_cmg, x_go, x_no, x_b, x_ps, x_pn, cs_n, cs_i, cs_j, cs_r, en_n, en_i, en_j, en_r, xs1n, xs1i, xs1r, xs2n, xs2i, xs2r, xi2, xa0, g_20_0, l_3, l_5, l_8, l_11, l_12, l_21, l_22, l_23, l_24, l_25, l_26, l_28, l_29, l_30, l_31, l_32, g_20_5, x_k2_20, s_3, s_5, s_8, s_11, s_12, s_21, s_22, s_23, s_24, s_25, s_26, s_28, s_29, s_30, s_31, s_32, xi1, xn2n, xn2i, xn2r, x_k2_s, x_k4_20, x_min, r_i, r_j, r_v, r_z1, r_z0, r_a, e144_0, e144_1, e144_2, e144_3, e144_5, e144_6, e144_9, e144_10, e144_11, e144_14, e144_15, e144_18, e144_19, e144_20, e144_21, e144_24, e144_27, e144_28, e144_29, e144_32, e144_35, e144_36, e144_37, e144_38, e144_41, e144_42, e144_43, e144_46, e144_49, e144_50, e144_53, e144_54, e144_55, e144_58, e144_61, e144_62, e144_64, e144_65, e144_68, e144_69, e144_70, e144_73, e144_74, e144_75, e144_77, e144_80, e144_81, e144_84, e144_85, e144_86, e144_89, e144_92, e144_95, e144_98, e144_99, e144_102, e144_103, e144_104, e144_107, e144_108, e144_111, e144_113, e144_114, e144_117, e144_118, e144_119, e144_120, e144_121, e144_124, e144_125, c144, i10, i00, n2, n10, n20, n60, n8, n9, bi0, ite_not, List.replicate, Nat.reduceAdd, Nat.reduceSub, Nat.reduceLeDiff, Nat.reduceLT, if_true, if_false, mg, reduceIte, not_false_eq_true, eq_self, and_self, and_true, true_and, true_or, or_true, Nat.reduceEqDiff, rq_at, hz, hi, (nI_lt (show i < n by omega) (by omega)), t1', t2, nI_add]
    rw [← hb]
    by_cases c1 : sgP r i
    · rw [bi_t (Or.inr c1)]
      simp only [if_pos c1, ite_self]
    · by_cases c2 : c
      · rw [bi_t (Or.inl (by rw [bi0]; exact fun w => w c2))]
        simp only [if_neg c1, if_pos c2]
      · rw [bi_f (fun w => w.elim (fun v => v (by rw [bi0]; exact c2)) c1)]
        simp only [if_neg c2, if_neg c1]
theorem fl_0 (r : Nat → Int32) : ∀ k t (b : Int32), (lp (flF r) k t b = 0) = (b = 0 ∧ ∀ u, u < k → ¬ sgP r (t + u)) := by
  intro k
  induction k with
  | zero =>
    intro t b
    exact propext ⟨fun h => ⟨h, fun u hu => absurd hu (by omega)⟩, fun h => h.1⟩
  | succ k ih =>
    intro t b
    rw [lp_s, ih]
    unfold flF
    rw [bi0]
    apply propext
    constructor
    · rintro ⟨w1, w2⟩
      refine ⟨Classical.byContradiction (fun v => w1 (Or.inl v)), fun u hu => ?_⟩
      cases u with
      | zero => exact fun v => w1 (Or.inr v)
      | succ u =>
        have := w2 u (by omega)
        rw [show t + 1 + u = t + (u + 1) by omega] at this
        exact this
    · rintro ⟨w1, w2⟩
      refine ⟨fun v => v.elim (fun x => x w1) (w2 0 (by omega)), fun u hu => ?_⟩
      have := w2 (u + 1) (by omega)
      rw [show t + 1 + u = t + (u + 1) by omega]
      exact this
theorem ds_at {n : Nat} {r : Nat → Int32} : ∀ k i D j, (lp (dsF n r) k i D) (25, 0, 0) j = if i ≤ j ∧ j < i + k then vF n r j else D (25, 0, 0) j := by
  intro k
  induction k with
  | zero => intro i D j; rw [if_neg (by omega)]; rfl
  | succ k ih =>
    intro i D j
    rw [lp_s, ih]
    by_cases c : j = i
    · subst c
      rw [if_neg (by omega), if_pos (by omega)]
      unfold dsF
      rw [uD_at]
    · by_cases c2 : i + 1 ≤ j ∧ j < i + 1 + k
      · rw [if_pos c2, if_pos (by omega)]
      · rw [if_neg c2, if_neg (by omega)]
        unfold dsF uD
        rw [if_neg (fun w => c w.2)]
theorem jk25 (k : Nat) : jk (25, 0, 0) k := Or.inr (Or.inl rfl)
theorem ds_J {n : Nat} {r : Nat → Int32} : ∀ k i D, eqJ D (lp (dsF n r) k i D) := by
  intro k
  induction k with
  | zero => intro i D; exact eqJ_rfl D
  | succ k ih => intro i D; exact eqJ_tr (eqJ_u (jk25 i)) (ih _ _)
def m2F (v : Nat → Int32) (i : Nat) (r : Nat → Int32) : Nat → Int32 := upd r (14 + 10 * i + 9) (mn (r (14 + 10 * i + 9) + v i) (nI 9999))
theorem l_sell2 {X : aX} {q : Nat → Nat → Int32} {D : aD} {n : Nat} {b : Int32} (hn : n ≤ 8) : ∀ k i r, i + k = n → r 1 = nI n → go X 144 63 [some (aR (20, 0, 0)), some (aI b), some (aI (nI i))] [] (mem (rq q 3 r, D)) = some (none, mem (rq q 3 (stF b (lp (m2F (fun j => D (25, 0, 0) j)) k i r)), D)) := by
  intro k
  induction k with
  | zero =>
    intro i r h hz
    rw [e144_63]
    simp only [nl_n, nl_i, nl_r, x_ci, x_ca, x_bin, x_ife, x_ifl, x_ifg, x_cme, x_cml, x_cmg, x_go, x_no, x_b, x_ps, x_pn, cs_n, cs_i, cs_j, cs_r, en_n, en_i, en_j, en_r, xs1n, xs1i, xs1r, xs2n, xs2i, xs2r, xi2, xa0, g_20_0, l_3, l_5, l_8, l_11, l_12, l_21, l_22, l_23, l_24, l_25, l_26, l_28, l_29, l_30, l_31, l_32, g_20_5, x_k2_20, s_3, s_5, s_8, s_11, s_12, s_21, s_22, s_23, s_24, s_25, s_26, s_28, s_29, s_30, s_31, s_32, xi1, xn2n, xn2i, xn2r, x_k2_s, x_k4_20, x_min, r_i, r_j, r_v, r_z1, r_z0, r_a, e144_0, e144_1, e144_2, e144_3, e144_4, e144_5, e144_6, e144_9, e144_10, e144_11, e144_14, e144_15, e144_18, e144_19, e144_20, e144_21, e144_24, e144_27, e144_28, e144_29, e144_32, e144_35, e144_36, e144_37, e144_38, e144_41, e144_42, e144_43, e144_46, e144_49, e144_50, e144_53, e144_54, e144_55, e144_58, e144_61, e144_62, e144_64, e144_65, e144_68, e144_69, e144_70, e144_73, e144_74, e144_75, e144_77, e144_80, e144_81, e144_84, e144_85, e144_86, e144_89, e144_92, e144_95, e144_98, e144_99, e144_102, e144_103, e144_104, e144_107, e144_108, e144_111, e144_113, e144_114, e144_117, e144_118, e144_119, e144_120, e144_121, e144_124, e144_125, c144, i10, i00, n2, n10, n20, n60, n8, n9, bi0, ite_not, List.replicate, Nat.reduceAdd, Nat.reduceSub, Nat.reduceLeDiff, Nat.reduceLT, if_true, if_false, mg, reduceIte, not_false_eq_true, eq_self, and_self, and_true, true_and, true_or, or_true, Nat.reduceEqDiff, rq_at, hz, (nI_nlt (show n ≤ i by omega) (by omega)), uq_rq, rq_rq]
    rw [lp_0]
    unfold stF
    rw [mn_comm]
    split <;> rfl
  | succ k ih =>
    intro i r h hz
    have hi : i < 8 := by omega
    have hp : ∀ f, f < 10 → 14 + 10 * i + f < 94 := fun f hf => by omega
    rw [e144_63, lp_s, ← ih (i + 1) _ (by omega) (show m2F (fun j => D (25, 0, 0) j) i r 1 = nI n from (u_1 ..).trans hz)]
    simp only [nl_n, nl_i, nl_r, x_ci, x_ca, x_bin, x_ife, x_ifl, x_ifg, x_cme, x_cml, x_cmg, x_go, x_no, x_b, x_ps, x_pn, cs_n, cs_i, cs_j, cs_r, en_n, en_i, en_j, en_r, xs1n, xs1i, xs1r, xs2n, xs2i, xs2r, xi2, xa0, g_20_0, l_3, l_5, l_8, l_11, l_12, l_21, l_22, l_23, l_24, l_25, l_26, l_28, l_29, l_30, l_31, l_32, g_20_5, x_k2_20, s_3, s_5, s_8, s_11, s_12, s_21, s_22, s_23, s_24, s_25, s_26, s_28, s_29, s_30, s_31, s_32, xi1, xn2n, xn2i, xn2r, x_k2_s, x_k4_20, x_min, r_i, r_j, r_v, r_z1, r_z0, r_a, e144_0, e144_1, e144_2, e144_3, e144_4, e144_5, e144_6, e144_9, e144_10, e144_11, e144_14, e144_15, e144_18, e144_19, e144_20, e144_21, e144_24, e144_27, e144_28, e144_29, e144_32, e144_35, e144_36, e144_37, e144_38, e144_41, e144_42, e144_43, e144_46, e144_49, e144_50, e144_53, e144_54, e144_55, e144_58, e144_61, e144_62, e144_64, e144_65, e144_68, e144_69, e144_70, e144_73, e144_74, e144_75, e144_77, e144_80, e144_81, e144_84, e144_85, e144_86, e144_89, e144_92, e144_95, e144_98, e144_99, e144_102, e144_103, e144_104, e144_107, e144_108, e144_111, e144_113, e144_114, e144_117, e144_118, e144_119, e144_120, e144_121, e144_124, e144_125, c144, i10, i00, n2, n10, n20, n60, n8, n9, bi0, ite_not, List.replicate, Nat.reduceAdd, Nat.reduceSub, Nat.reduceLeDiff, Nat.reduceLT, if_true, if_false, mg, reduceIte, not_false_eq_true, eq_self, and_self, and_true, true_and, true_or, or_true, Nat.reduceEqDiff, rq_at, hz, hi, hp, (nI_lt (show i < n by omega) (by omega)), t_at, t_more, nI_add]
    rfl
/-- all but what is sold is the same -/
def ag9 (n : Nat) (r r' : Nat → Int32) : Prop := ∀ i, i < n → ∀ f, f < 9 → r (14 + 10 * i + f) = r' (14 + 10 * i + f)
theorem av9 {n i : Nat} {r r' : Nat → Int32} (hn : n ≤ 8) (h : ag9 n r r') (hi : i < n) : avP n r i = avP n r' i := by
  unfold avP
  rw [h i hi 2 (by decide)]
  by_cases c : hsP n (r' (14 + 10 * i + 2))
  · obtain ⟨j, hj, ej⟩ := has_of hn c
    rw [ej, nI_clamp (by omega), h j hj 6 (by decide)]
  · simp only [c, false_and]
theorem sel9 {n i : Nat} {z : Int32} {r r' : Nat → Int32} (hn : n ≤ 8) (h : ag9 n r r') (hi : i < n) : sqSell n r i z = sqSell n r' i z := by
  unfold sqSell selF
  simp only [h i hi 0 (by decide), h i hi 3 (by decide), av9 hn h hi]
theorem lp_ci {α : Type} (P : α → Prop) {f g : Nat → α → α} {n : Nat} (h : ∀ i a, i < n → P a → f i a = g i a ∧ P (f i a)) : ∀ k i a, i + k ≤ n → P a → lp f k i a = lp g k i a := by
  intro k
  induction k with
  | zero => intro i a _ _; rfl
  | succ k ih =>
    intro i a hi ha
    have := h i a (by omega) ha
    rw [lp_s, lp_s, ← this.1]
    exact ih _ _ (by omega) this.2
theorem m2_eq {n : Nat} {r : Nat → Int32} (hr : RI n r) : lp (m2F (vF n r)) n 0 r = lp (slF n (sgS r n)) n 0 r := by
  have hn := hr.1
  refine lp_ci (fun r' => RI n r' ∧ ag9 n r' r) (n := n) (fun i r' hi hP => ?_) n 0 r (by omega) ⟨hr, fun _ _ _ _ => rfl⟩
  obtain ⟨h1, h2⟩ := hP
  have e : m2F (vF n r) i r' = slF n (sgS r n) i r' := by
    unfold m2F slF vF
    rw [set_at (sgP r) hn hi]
    by_cases c : sgP r i
    · rw [if_pos c, bi_t c, if_neg i10, sel9 hn h2 hi]
    · rw [if_neg c, bi_f c, if_pos nI_0]
      obtain ⟨j, hj, ej⟩ : inN 9999 (r' (14 + 10 * i + 9)) := h1.2.2.2.2.2 i hi 9 (by decide)
      rw [ej, nI_add, mn_N (by omega) (by omega), Nat.min_eq_left (by omega), Nat.add_zero]
      funext p
      unfold upd
      split
      · rename_i e; rw [e, ej]; rfl
      · rfl
  refine ⟨e, ?_, ?_⟩
  · rw [e]
    exact RI_sl h1 hi
  · intro j hj f hf
    unfold m2F
    by_cases c : j = i
    · subst c
      rw [u_f, if_neg (by omega)]
      exact h2 j hj f hf
    · rw [u_ne c (by decide) (by omega)]
      exact h2 j hj f hf
theorem t_sell6 {X : aX} {q : Nat → Nat → Int32} {D : aD} {n : Nat} {r : Nat → Int32} (hr : RI n r) : ∃ D', eqJ D D' ∧ cl X 144 [aR (20, 0, 0)] (mem (rq q 3 r, D)) = some (none, mem (rq q 3 (stF (sgS r n) (lp (slF n (sgS r n)) n 0 r)), D')) := by
  refine ⟨_, ds_J (n := n) (r := r) n 0 D, ?_⟩
  simp only [nl_n, nl_i, nl_r, x_ci, x_ca, x_bin, x_ife, x_ifl, x_ifg, x_cme, x_cml, x_cmg, x_go, x_no, x_b, x_ps, x_pn, cs_n, cs_i, cs_j, cs_r, en_n, en_i, en_j, en_r, xs1n, xs1i, xs1r, xs2n, xs2i, xs2r, xi2, xa0, g_20_0, l_3, l_5, l_8, l_11, l_12, l_21, l_22, l_23, l_24, l_25, l_26, l_28, l_29, l_30, l_31, l_32, g_20_5, x_k2_20, s_3, s_5, s_8, s_11, s_12, s_21, s_22, s_23, s_24, s_25, s_26, s_28, s_29, s_30, s_31, s_32, xi1, xn2n, xn2i, xn2r, x_k2_s, x_k4_20, x_min, r_i, r_j, r_v, r_z1, r_z0, r_a, e144_0, e144_1, e144_2, e144_3, e144_5, e144_6, e144_9, e144_10, e144_11, e144_14, e144_15, e144_18, e144_19, e144_20, e144_21, e144_24, e144_27, e144_28, e144_29, e144_32, e144_35, e144_36, e144_37, e144_38, e144_41, e144_42, e144_43, e144_46, e144_49, e144_50, e144_53, e144_54, e144_55, e144_58, e144_61, e144_62, e144_64, e144_65, e144_68, e144_69, e144_70, e144_73, e144_74, e144_75, e144_77, e144_80, e144_81, e144_84, e144_85, e144_86, e144_89, e144_92, e144_95, e144_98, e144_99, e144_102, e144_103, e144_104, e144_107, e144_108, e144_111, e144_113, e144_114, e144_117, e144_118, e144_119, e144_120, e144_121, e144_124, e144_125, c144, i10, i00, n2, n10, n20, n60, n8, n9, bi0, ite_not, List.replicate, Nat.reduceAdd, Nat.reduceSub, Nat.reduceLeDiff, Nat.reduceLT, if_true, if_false, mg, reduceIte, not_false_eq_true, eq_self, and_self, and_true, true_and, true_or, or_true, Nat.reduceEqDiff]
  have h := l_sell1 (X := X) (q := q) hr n 0 D False (by omega)
  rw [bi_f (fun w => w)] at h
  rw [h, l_sell2 hr.1 n 0 r (by omega) hr.2.1]
  have e1 : lp (m2F (fun j => lp (dsF n r) n 0 D (25, 0, 0) j)) n 0 r = lp (m2F (vF n r)) n 0 r := lp_congr (n := n) (fun i a hi => by unfold m2F; rw [show (fun j => lp (dsF n r) n 0 D (25, 0, 0) j) i = vF n r i from (ds_at n 0 D i).trans (if_pos (by omega))]) n 0 r (by omega)
  rw [e1, m2_eq hr]
  unfold stF
  have e2 : (lp (flF r) n 0 (nI 0) = 0) = (sgS r n = 0) := by
    rw [fl_0, set_0 (sgP r) hr.1]
    exact propext ⟨fun w i hi => by have := w.2 i hi; rw [Nat.zero_add] at this; exact this, fun w => ⟨nI_0, fun u hu => by rw [Nat.zero_add]; exact w u hu⟩⟩
  simp only [e2]
theorem t_ages {X : aX} {q : Nat → Nat → Int32} {D : aD} {i : Nat} {r : Nat → Int32} (hi : i < 8) : cl X 145 [aR (20, 0, 0), aI (nI i)] (mem (rq q 3 r, D)) = some (none, mem (rq q 3 (oldF r i), D)) := by
  have hp : ∀ f, f < 10 → 14 + 10 * i + f < 94 := fun f hf => by omega
  simp only [nl_n, nl_i, nl_r, x_ci, x_ca, x_bin, x_ife, x_ifl, x_ifg, x_cme, x_cml, x_cmg, x_go, x_no, x_b, x_ps, x_pn, cs_n, cs_i, cs_j, cs_r, en_n, en_i, en_j, en_r, xa0, xi1, x_k2_20, xs2n, xs2i, xs2r, g_20_0, x_k2_s, x_k3_20, xi2, x_min, x_max, s_3, s_5, s_8, s_11, s_12, s_21, s_22, s_23, s_24, s_25, s_26, s_28, s_29, s_30, s_31, s_32, x_k4_20, r_i, r_j, r_v, r_z1, r_z0, r_a, e145_0, e145_1, e145_2, e145_5, e145_6, e145_7, e145_10, e145_11, e145_12, e145_15, e145_16, e145_18, e145_19, e145_20, e145_21, e145_24, e145_25, e145_26, e145_29, e145_32, e145_33, e145_34, e145_35, e145_36, e145_39, e145_40, e145_42, e145_45, c145, i10, i00, n2, n10, n20, n60, n8, n9, bi0, ite_not, List.replicate, Nat.reduceAdd, Nat.reduceSub, Nat.reduceLeDiff, Nat.reduceLT, if_true, if_false, mg, reduceIte, not_false_eq_true, eq_self, and_self, and_true, true_and, true_or, or_true, Nat.reduceEqDiff, hi, hp, rq_at, uq_rq, rq_rq, t_at, t_is, t_wears, t_more, u_f]
  unfold oldF
  rw [mn_comm (r (14 + 10 * i + 3) - weaF r i)]
  rfl
theorem l_day3 {X : aX} {q : Nat → Nat → Int32} {D : aD} {n : Nat} {z : Int32} : ∀ k i r, i + k = n → RI n r → td r = nI 59 → go X 146 61 [some (aR (20, 0, 0)), some (aI z), some (aI (nI i))] [] (mem (rq q 3 r, D)) = some (none, mem (rq q 3 (upd (lp goF k i r) 0 (mn (lp goF k i r 0 + nI 1) (nI 99999))), D)) := by
  intro k
  induction k with
  | zero =>
    intro i r h hr hd
    have hn := hr.1
    have hz1 := hr.2.1
    rw [e146_61]
    simp only [nl_n, nl_i, nl_r, x_ci, x_ca, x_bin, x_ife, x_ifl, x_ifg, x_cme, x_cml, x_cmg, x_go, x_no, x_b, x_ps, x_pn, cs_n, cs_i, cs_j, cs_r, en_n, en_i, en_j, en_r, xa0, x_k1_20, xs1n, xs1i, xs1r, xs2n, xs2i, xs2r, xi2, g_20_0, l_3, l_5, l_8, l_11, l_12, l_21, l_22, l_23, l_24, l_25, l_26, l_28, l_29, l_30, l_31, l_32, x_k2_20, x_k3_20, xi1, xn2n, xn2i, xn2r, x_div, x_k4_20, r_i, r_j, r_v, r_z1, r_z0, r_a, e146_0, e146_1, e146_4, e146_5, e146_6, e146_7, e146_8, e146_9, e146_12, e146_13, e146_14, e146_17, e146_18, e146_19, e146_22, e146_25, e146_26, e146_27, e146_29, e146_32, e146_35, e146_36, e146_37, e146_38, e146_39, e146_40, e146_43, e146_44, e146_45, e146_46, e146_49, e146_52, e146_55, e146_56, e146_59, e146_60, e146_62, e146_63, e146_66, e146_67, e146_68, e146_71, e146_72, e146_75, e146_76, e146_77, e146_79, e146_80, e146_82, e146_85, e146_86, e146_87, e146_90, e146_93, e146_94, e146_95, e146_98, e146_101, e146_104, e146_105, e146_106, e146_107, e146_109, e146_112, c146, i10, i00, n2, n10, n20, n60, n8, n9, bi0, ite_not, List.replicate, Nat.reduceAdd, Nat.reduceSub, Nat.reduceLeDiff, Nat.reduceLT, if_true, if_false, mg, reduceIte, not_false_eq_true, eq_self, and_self, and_true, true_and, true_or, or_true, Nat.reduceEqDiff, rq_at, hz1, (nI_nlt (show n ≤ i by omega) (show i < 2 ^ 31 by omega)), lp_0, t_more]
  | succ k ih =>
    intro i r h hr hd
    have hn := hr.1
    have hz1 := hr.2.1
    have hi : i < 8 := by omega
    have hd' : r 0 - r 0 / nI 60 * nI 60 = nI 59 := hd
    have tdd := t_isDead (X := X) (S := (rq q 3 r, D)) hi (RI_d (rq_RI hr) (by omega))
    rw [e146_61, lp_s, ← ih (i + 1) _ (by omega) (RI_go hr (by omega)) (by unfold td; rw [goF_0]; exact hd)]
    unfold goF
    simp only [nl_n, nl_i, nl_r, x_ci, x_ca, x_bin, x_ife, x_ifl, x_ifg, x_cme, x_cml, x_cmg, x_go, x_no, x_b, x_ps, x_pn, cs_n, cs_i, cs_j, cs_r, en_n, en_i, en_j, en_r, xa0, x_k1_20, xs1n, xs1i, xs1r, xs2n, xs2i, xs2r, xi2, g_20_0, l_3, l_5, l_8, l_11, l_12, l_21, l_22, l_23, l_24, l_25, l_26, l_28, l_29, l_30, l_31, l_32, x_k2_20, x_k3_20, xi1, xn2n, xn2i, xn2r, x_div, x_k4_20, r_i, r_j, r_v, r_z1, r_z0, r_a, e146_0, e146_1, e146_4, e146_5, e146_6, e146_7, e146_8, e146_9, e146_12, e146_13, e146_14, e146_17, e146_18, e146_19, e146_22, e146_25, e146_26, e146_27, e146_29, e146_32, e146_35, e146_36, e146_37, e146_38, e146_39, e146_40, e146_43, e146_44, e146_45, e146_46, e146_49, e146_52, e146_55, e146_56, e146_59, e146_60, e146_62, e146_63, e146_66, e146_67, e146_68, e146_71, e146_72, e146_75, e146_76, e146_77, e146_79, e146_80, e146_82, e146_85, e146_86, e146_87, e146_90, e146_93, e146_94, e146_95, e146_98, e146_101, e146_104, e146_105, e146_106, e146_107, e146_109, e146_112, c146, i10, i00, n2, n10, n20, n60, n8, n9, bi0, ite_not, List.replicate, Nat.reduceAdd, Nat.reduceSub, Nat.reduceLeDiff, Nat.reduceLT, if_true, if_false, mg, reduceIte, not_false_eq_true, eq_self, and_self, and_true, true_and, true_or, or_true, Nat.reduceEqDiff, rq_at, hz1, hi, hd', (nI_lt (show i < n by omega) (by omega)), tdd, t_ages, nI_add]
    split <;> simp_all
theorem l_day3n {X : aX} {q : Nat → Nat → Int32} {D : aD} {n : Nat} {z : Int32} {r : Nat → Int32} (hr : RI n r) (hd : ¬ td r = nI 59) : go X 146 61 [some (aR (20, 0, 0)), some (aI z), some (aI (nI 0))] [] (mem (rq q 3 r, D)) = some (none, mem (rq q 3 (upd r 0 (mn (r 0 + nI 1) (nI 99999))), D)) := by
  have hn := hr.1
  have hz1 := hr.2.1
  have hd' : ¬ r 0 - r 0 / nI 60 * nI 60 = nI 59 := hd
  rw [e146_61]
  simp only [nl_n, nl_i, nl_r, x_ci, x_ca, x_bin, x_ife, x_ifl, x_ifg, x_cme, x_cml, x_cmg, x_go, x_no, x_b, x_ps, x_pn, cs_n, cs_i, cs_j, cs_r, en_n, en_i, en_j, en_r, xa0, x_k1_20, xs1n, xs1i, xs1r, xs2n, xs2i, xs2r, xi2, g_20_0, l_3, l_5, l_8, l_11, l_12, l_21, l_22, l_23, l_24, l_25, l_26, l_28, l_29, l_30, l_31, l_32, x_k2_20, x_k3_20, xi1, xn2n, xn2i, xn2r, x_div, x_k4_20, r_i, r_j, r_v, r_z1, r_z0, r_a, e146_0, e146_1, e146_4, e146_5, e146_6, e146_7, e146_8, e146_9, e146_12, e146_13, e146_14, e146_17, e146_18, e146_19, e146_22, e146_25, e146_26, e146_27, e146_29, e146_32, e146_35, e146_36, e146_37, e146_38, e146_39, e146_40, e146_43, e146_44, e146_45, e146_46, e146_49, e146_52, e146_55, e146_56, e146_59, e146_60, e146_62, e146_63, e146_66, e146_67, e146_68, e146_71, e146_72, e146_75, e146_76, e146_77, e146_79, e146_80, e146_82, e146_85, e146_86, e146_87, e146_90, e146_93, e146_94, e146_95, e146_98, e146_101, e146_104, e146_105, e146_106, e146_107, e146_109, e146_112, c146, i10, i00, n2, n10, n20, n60, n8, n9, bi0, ite_not, List.replicate, Nat.reduceAdd, Nat.reduceSub, Nat.reduceLeDiff, Nat.reduceLT, if_true, if_false, mg, reduceIte, not_false_eq_true, eq_self, and_self, and_true, true_and, true_or, or_true, Nat.reduceEqDiff, rq_at, hz1, hd', t_more]
  split <;> rfl
theorem t_day {X : aX} {q : Nat → Nat → Int32} {D : aD} {n : Nat} {r : Nat → Int32} (hr : RI n r) : ∃ D', eqJ D D' ∧ cl X 146 [aR (20, 0, 0)] (mem (rq q 3 r, D)) = some (none, mem (rq q 3 (dayR n r), D')) := by
  have h0 := t_ended (X := X) (q := q) (D := D) hr
  have hr1 : RI n (soR n r) := by
    unfold soR
    exact RI_lp (g := fun i r => soF r i) (fun i r _ h => RI_so h) hr
  unfold dayR
  generalize soR n r = r1 at h0 hr1
  have hs : ∀ j, seF r j = nI 0 ∨ seF r j = nI 1 := fun j => bi01
  have hz : ∀ j, j < n → ((setF (fun j => ¬ seF r j = 0) n >>> (nI j &&& 31)) &&& nI 1) = seF r j := by
    intro j hj
    rw [set_at (fun j => ¬ seF r j = 0) hr.1 hj]
    rcases hs j with e | e
    · rw [e, bi_f (fun w => w nI_0)]
    · rw [e, bi_t i10]
  have h1 := l_day1 (X := X) (q := q) (D := D) (d := td r1) hz hs n 0 r1 (by omega) hr1 rfl
  have hr2 : RI n (lp (ciF n (seF r) (td r1)) n 0 r1) := RI_lp (g := ciF n (seF r) (td r1)) (fun i r _ h => RI_ci h) hr1
  unfold dyF
  try dsimp only
  generalize lp (ciF n (seF r) (td r1)) n 0 r1 = r2 at h1 hr2
  obtain ⟨D', hJ, h2⟩ := t_sell6 (X := X) (q := q) (D := D) hr2
  have hr4 : RI n (stF (sgS r2 n) (lp (slF n (sgS r2 n)) n 0 r2)) := RI_st (RI_lp (g := slF n (sgS r2 n)) (fun i r hi h => RI_sl h hi) hr2)
  generalize stF (sgS r2 n) (lp (slF n (sgS r2 n)) n 0 r2) = r4 at h2 hr4
  refine ⟨D', hJ, ?_⟩
  simp only [nl_n, nl_i, nl_r, x_ci, x_ca, x_bin, x_ife, x_ifl, x_ifg, x_cme, x_cml, x_cmg, x_go, x_no, x_b, x_ps, x_pn, cs_n, cs_i, cs_j, cs_r, en_n, en_i, en_j, en_r, xa0, x_k1_20, xs1n, xs1i, xs1r, xs2n, xs2i, xs2r, xi2, g_20_0, l_3, l_5, l_8, l_11, l_12, l_21, l_22, l_23, l_24, l_25, l_26, l_28, l_29, l_30, l_31, l_32, x_k2_20, x_k3_20, xi1, xn2n, xn2i, xn2r, x_div, x_k4_20, r_i, r_j, r_v, r_z1, r_z0, r_a, e146_0, e146_1, e146_4, e146_5, e146_6, e146_8, e146_9, e146_12, e146_13, e146_14, e146_17, e146_18, e146_19, e146_22, e146_25, e146_26, e146_27, e146_29, e146_32, e146_35, e146_36, e146_37, e146_38, e146_39, e146_40, e146_43, e146_44, e146_45, e146_46, e146_49, e146_52, e146_56, e146_59, e146_60, e146_62, e146_63, e146_66, e146_67, e146_68, e146_71, e146_72, e146_75, e146_76, e146_77, e146_79, e146_80, e146_82, e146_85, e146_86, e146_87, e146_90, e146_93, e146_94, e146_95, e146_98, e146_101, e146_104, e146_105, e146_106, e146_107, e146_109, e146_112, c146, i10, i00, n2, n10, n20, n60, n8, n9, bi0, ite_not, List.replicate, Nat.reduceAdd, Nat.reduceSub, Nat.reduceLeDiff, Nat.reduceLT, if_true, if_false, mg, reduceIte, not_false_eq_true, eq_self, and_self, and_true, true_and, true_or, or_true, Nat.reduceEqDiff, h0]
  rw [h1]
  rw [e146_55]
  simp only [nl_n, nl_i, nl_r, x_ci, x_ca, x_bin, x_ife, x_ifl, x_ifg, x_cme, x_cml, x_cmg, x_go, x_no, x_b, x_ps, x_pn, cs_n, cs_i, cs_j, cs_r, en_n, en_i, en_j, en_r, xa0, x_k1_20, xs1n, xs1i, xs1r, xs2n, xs2i, xs2r, xi2, g_20_0, l_3, l_5, l_8, l_11, l_12, l_21, l_22, l_23, l_24, l_25, l_26, l_28, l_29, l_30, l_31, l_32, x_k2_20, x_k3_20, xi1, xn2n, xn2i, xn2r, x_div, x_k4_20, r_i, r_j, r_v, r_z1, r_z0, r_a, e146_0, e146_1, e146_4, e146_5, e146_6, e146_8, e146_9, e146_12, e146_13, e146_14, e146_17, e146_18, e146_19, e146_22, e146_25, e146_26, e146_27, e146_29, e146_32, e146_35, e146_36, e146_37, e146_38, e146_39, e146_40, e146_43, e146_44, e146_45, e146_46, e146_49, e146_52, e146_56, e146_59, e146_60, e146_62, e146_63, e146_66, e146_67, e146_68, e146_71, e146_72, e146_75, e146_76, e146_77, e146_79, e146_80, e146_82, e146_85, e146_86, e146_87, e146_90, e146_93, e146_94, e146_95, e146_98, e146_101, e146_104, e146_105, e146_106, e146_107, e146_109, e146_112, c146, i10, i00, n2, n10, n20, n60, n8, n9, bi0, ite_not, List.replicate, Nat.reduceAdd, Nat.reduceSub, Nat.reduceLeDiff, Nat.reduceLT, if_true, if_false, mg, reduceIte, not_false_eq_true, eq_self, and_self, and_true, true_and, true_or, or_true, Nat.reduceEqDiff, h2]
  by_cases c : td r4 = nI 59
  · rw [if_pos c]
    exact l_day3 n 0 r4 (by omega) hr4 c
  · rw [if_neg c]
    exact l_day3n hr4 c
theorem l_daysGo {X : aX} {q : Nat → Nat → Int32} {n c : Nat} (hc : c < 2 ^ 31) : ∀ k i r D, i + k = c → RI n r → ∃ D', eqJ D D' ∧ go X 147 2 [some (aR (20, 0, 0)), some (aI (nI c)), some (aI (nI i))] [] (mem (rq q 3 r, D)) = some (none, mem (rq q 3 (itr (dayR n) k r), D')) := by
  intro k
  induction k with
  | zero =>
    intro i r D h hr
    refine ⟨D, eqJ_rfl D, ?_⟩
    rw [e147_2]
    simp only [nl_n, nl_i, nl_r, x_ci, x_ca, x_bin, x_ife, x_ifl, x_ifg, x_cme, x_cml, x_cmg, x_go, x_no, x_b, x_ps, x_pn, cs_n, cs_i, cs_j, cs_r, en_n, en_i, en_j, en_r, xs2n, xs2i, xs2r, xi2, xi1, xa0, x_k1_20, xn2n, xn2i, xn2r, r_i, r_j, r_v, r_z1, r_z0, r_a, e147_0, e147_1, e147_3, e147_4, e147_7, e147_8, e147_11, e147_14, e147_17, c147, i10, i00, n2, n10, n20, n60, n8, n9, bi0, ite_not, List.replicate, Nat.reduceAdd, Nat.reduceSub, Nat.reduceLeDiff, Nat.reduceLT, if_true, if_false, mg, reduceIte, not_false_eq_true, eq_self, and_self, and_true, true_and, true_or, or_true, Nat.reduceEqDiff, (nI_nlt (show c ≤ i by omega) (by omega))]
    rfl
  | succ k ih =>
    intro i r D h hr
    obtain ⟨D1, hJ1, h1⟩ := t_day (X := X) (q := q) (D := D) hr
    obtain ⟨D2, hJ2, h2⟩ := ih (i + 1) _ D1 (by omega) (RI_day hr)
    refine ⟨D2, eqJ_tr hJ1 hJ2, ?_⟩
    rw [e147_2, itr_s, ← h2]
    simp only [nl_n, nl_i, nl_r, x_ci, x_ca, x_bin, x_ife, x_ifl, x_ifg, x_cme, x_cml, x_cmg, x_go, x_no, x_b, x_ps, x_pn, cs_n, cs_i, cs_j, cs_r, en_n, en_i, en_j, en_r, xs2n, xs2i, xs2r, xi2, xi1, xa0, x_k1_20, xn2n, xn2i, xn2r, r_i, r_j, r_v, r_z1, r_z0, r_a, e147_0, e147_1, e147_3, e147_4, e147_7, e147_8, e147_11, e147_14, e147_17, c147, i10, i00, n2, n10, n20, n60, n8, n9, bi0, ite_not, List.replicate, Nat.reduceAdd, Nat.reduceSub, Nat.reduceLeDiff, Nat.reduceLT, if_true, if_false, mg, reduceIte, not_false_eq_true, eq_self, and_self, and_true, true_and, true_or, or_true, Nat.reduceEqDiff, h1, (nI_lt (show i < c by omega) (by omega)), nI_add]
theorem t_daysGo {X : aX} {q : Nat → Nat → Int32} {D : aD} {n c : Nat} {r : Nat → Int32} (hc : c < 2 ^ 31) (hr : RI n r) : ∃ D', eqJ D D' ∧ cl X 147 [aR (20, 0, 0), aI (nI c)] (mem (rq q 3 r, D)) = some (none, mem (rq q 3 (itr (dayR n) c r), D')) := by
  obtain ⟨D', hJ, h⟩ := l_daysGo (X := X) (q := q) (n := n) hc c 0 r D (by omega) hr
  refine ⟨D', hJ, ?_⟩
  simp only [nl_n, nl_i, nl_r, x_ci, x_ca, x_bin, x_ife, x_ifl, x_ifg, x_cme, x_cml, x_cmg, x_go, x_no, x_b, x_ps, x_pn, cs_n, cs_i, cs_j, cs_r, en_n, en_i, en_j, en_r, xs2n, xs2i, xs2r, xi2, xi1, xa0, x_k1_20, xn2n, xn2i, xn2r, r_i, r_j, r_v, r_z1, r_z0, r_a, e147_0, e147_1, e147_3, e147_4, e147_7, e147_8, e147_11, e147_14, e147_17, c147, i10, i00, n2, n10, n20, n60, n8, n9, bi0, ite_not, List.replicate, Nat.reduceAdd, Nat.reduceSub, Nat.reduceLeDiff, Nat.reduceLT, if_true, if_false, mg, reduceIte, not_false_eq_true, eq_self, and_self, and_true, true_and, true_or, or_true, Nat.reduceEqDiff]
  exact h
