/-! THE READER -/
abbrev tT : Type := Nat × Nat × Nat × Int32
def nxT (b : Nat → Int32) (t : Nat) (τ : tT) : tT := (tkP b t τ.2.1, tkE b t τ.2.1, tkK b t τ.2.1, tkV b t τ.2.1)
abbrev tvT (t : Nat) (τ : tT) : Prop := τ.1 ≤ τ.2.1 ∧ τ.2.1 ≤ t ∧ τ.2.2.1 ≤ 4 ∧ (τ.2.2.1 ≠ 0 → τ.1 < t ∧ τ.1 < τ.2.1)
abbrev atT (b : Nat → Int32) (τ : tT) (w : Nat) : Prop := atP b τ.1 τ.2.1 τ.2.2.1 w
abbrev nuT (τ : tT) (lo hi : Int32) : Prop := τ.2.2.1 = 2 ∧ wi τ.2.2.2 lo hi
def twT (D : aD) (τ : tT) : aD := twD D (nI τ.1) (nI τ.2.1) (nI τ.2.2.1) τ.2.2.2
theorem tv_nx {b : Nat → Int32} {t : Nat} {τ : tT} (h : tvT t τ) : tvT t (nxT b t τ) := by
  have k := tk_b (b := b) h.2.1
  exact ⟨k.2.1, k.2.2.1, k.2.2.2.1, k.2.2.2.2⟩
theorem nx_p {b : Nat → Int32} {t : Nat} {τ : tT} (h : tvT t τ) : τ.2.1 ≤ (nxT b t τ).1 := (tk_b (b := b) h.2.1).1
abbrev tpX (D : aD) (t : Nat) : Prop := t ≤ 120 ∧ D (7, 0, 0) 1 = nI t
theorem s_T {X : aX} {q : Nat → Nat → Int32} {D : aD} {t : Nat} {τ : tT} (h : tpX D t) (hv : tvT t τ) : cl X 57 [aR (7, 0, 0)] (mem (q, twT D τ)) = some (none, mem (q, twT D (nxT (D (8, 0, 0)) t τ))) := t_step h.1 h.2 hv.2.1
theorem a_T {X : aX} {q : Nat → Nat → Int32} {D : aD} {t w : Nat} {τ : tT} (h : tpX D t) (hv : tvT t τ) (hw : w < 14) : cl X 60 [aR (7, 0, 0), aR (80, w, 0)] (mem (q, twT D τ)) = some (some (aI (bi (atT (D (8, 0, 0)) τ w))), mem (q, twT D τ)) := t_isAt hw hv.1 (Nat.le_trans hv.2.1 h.1) hv.2.2.1
theorem tT_2 {D : aD} {τ : tT} : twT D τ (7, 0, 0) 2 = nI τ.2.2.1 := tw_2
theorem tT_3 {D : aD} {τ : tT} : twT D τ (7, 0, 0) 3 = nI τ.1 := tw_3
theorem tT_4 {D : aD} {τ : tT} : twT D τ (7, 0, 0) 4 = τ.2.2.2 := tw_4
theorem t_rdN1 {X : aX} {q : Nat → Nat → Int32} {D : aD} {t : Nat} {τ : tT} {lo hi : Int32} (h : tpX D t) (hv : tvT t τ) (hn : nuT τ lo hi) : cl X 6 [aR (6, 0, 0), aI lo, aI hi] (mem (q, twT D τ)) = some (some (aI (nI 1)), mem (q, twT D (nxT (D (8, 0, 0)) t τ))) := by
  have k2 : (nI τ.2.2.1 = nI 2) = True := eq_true (by rw [hn.1])
  have st := s_T (X := X) (q := q) h hv
  simp only [nl_n, nl_i, nl_r, x_ci, x_ca, x_bin, x_ife, x_ifl, x_ifg, x_cme, x_cml, x_cmg, x_go, x_no, x_b, x_ps, x_pn, cs_n, cs_i, cs_j, cs_r, en_n, en_i, en_j, en_r, xa0, g_6_0, g_7_2, g_7_4, xi1, xi2, x_k3_s, r_i, r_j, r_v, r_z1, r_z0, r_a, x_k1_7, e6_0, e6_1, e6_4, e6_7, e6_8, e6_11, e6_12, e6_15, e6_18, e6_19, e6_20, e6_23, e6_26, e6_27, e6_28, e6_29, e6_32, e6_35, e6_36, c6, i10, i00, n2, n10, n20, n60, n8, n9, bi0, ite_not, List.replicate, Nat.reduceAdd, Nat.reduceSub, Nat.reduceLeDiff, Nat.reduceLT, if_true, if_false, mg, reduceIte, not_false_eq_true, eq_self, and_self, and_true, true_and, true_or, or_true, Nat.reduceEqDiff, tT_2, tT_4, k2, t_within, (bi_t hn.2), st]
theorem t_rdN0 {X : aX} {q : Nat → Nat → Int32} {D : aD} {t : Nat} {τ : tT} {lo hi : Int32} (hv : tvT t τ) (hn : ¬ nuT τ lo hi) : cl X 6 [aR (6, 0, 0), aI lo, aI hi] (mem (q, twT D τ)) = some (some (aI (nI 0)), mem (q, twT D τ)) := by
  have hk := hv.2.2.1
  have k2 : (nI τ.2.2.1 = nI 2) = (τ.2.2.1 = 2) := nq (by omega) (by decide)
  by_cases c : τ.2.2.1 = 2
  · have c2 : ¬ wi τ.2.2.2 lo hi := fun z => hn ⟨c, z⟩
    have k2t : (nI τ.2.2.1 = nI 2) = True := k2.trans (eq_true c)
    simp only [nl_n, nl_i, nl_r, x_ci, x_ca, x_bin, x_ife, x_ifl, x_ifg, x_cme, x_cml, x_cmg, x_go, x_no, x_b, x_ps, x_pn, cs_n, cs_i, cs_j, cs_r, en_n, en_i, en_j, en_r, xa0, g_6_0, g_7_2, g_7_4, xi1, xi2, x_k3_s, r_i, r_j, r_v, r_z1, r_z0, r_a, x_k1_7, e6_0, e6_1, e6_4, e6_7, e6_8, e6_11, e6_12, e6_15, e6_18, e6_19, e6_20, e6_23, e6_26, e6_27, e6_28, e6_29, e6_32, e6_35, e6_36, c6, i10, i00, n2, n10, n20, n60, n8, n9, bi0, ite_not, List.replicate, Nat.reduceAdd, Nat.reduceSub, Nat.reduceLeDiff, Nat.reduceLT, if_true, if_false, mg, reduceIte, not_false_eq_true, eq_self, and_self, and_true, true_and, true_or, or_true, Nat.reduceEqDiff, tT_2, tT_4, k2t, t_within, (bi_f c2)]
  · have k2f : (nI τ.2.2.1 = nI 2) = False := k2.trans (eq_false c)
    simp only [nl_n, nl_i, nl_r, x_ci, x_ca, x_bin, x_ife, x_ifl, x_ifg, x_cme, x_cml, x_cmg, x_go, x_no, x_b, x_ps, x_pn, cs_n, cs_i, cs_j, cs_r, en_n, en_i, en_j, en_r, xa0, g_6_0, g_7_2, g_7_4, xi1, xi2, x_k3_s, r_i, r_j, r_v, r_z1, r_z0, r_a, x_k1_7, e6_0, e6_1, e6_4, e6_7, e6_8, e6_11, e6_12, e6_15, e6_18, e6_19, e6_20, e6_23, e6_26, e6_27, e6_28, e6_29, e6_32, e6_35, e6_36, c6, i10, i00, n2, n10, n20, n60, n8, n9, bi0, ite_not, List.replicate, Nat.reduceAdd, Nat.reduceSub, Nat.reduceLeDiff, Nat.reduceLT, if_true, if_false, mg, reduceIte, not_false_eq_true, eq_self, and_self, and_true, true_and, true_or, or_true, Nat.reduceEqDiff, tT_2, k2f]
/-- a word with its number, or as it was -/
def owT (b : Nat → Int32) (t w : Nat) (lo hi df : Int32) (τ : tT) : Bool × tT × Int32 :=
  if atT b τ w then (if nuT (nxT b t τ) lo hi then (true, nxT b t (nxT b t τ), (nxT b t τ).2.2.2) else (false, nxT b t τ, (nxT b t τ).2.2.2)) else (true, τ, df)
theorem ow_n {b : Nat → Int32} {t w : Nat} {lo hi df : Int32} {τ : tT} (c : ¬ atT b τ w) : owT b t w lo hi df τ = (true, τ, df) := if_neg c
theorem ow_1 {b : Nat → Int32} {t w : Nat} {lo hi df : Int32} {τ : tT} (c : atT b τ w) (c2 : nuT (nxT b t τ) lo hi) : owT b t w lo hi df τ = (true, nxT b t (nxT b t τ), (nxT b t τ).2.2.2) := (if_pos c).trans (if_pos c2)
theorem ow_0 {b : Nat → Int32} {t w : Nat} {lo hi df : Int32} {τ : tT} (c : atT b τ w) (c2 : ¬ nuT (nxT b t τ) lo hi) : owT b t w lo hi df τ = (false, nxT b t τ, (nxT b t τ).2.2.2) := (if_pos c).trans (if_neg c2)
theorem ow_v {b : Nat → Int32} {t w : Nat} {lo hi df : Int32} {τ : tT} (h : tvT t τ) : tvT t (owT b t w lo hi df τ).2.1 ∧ τ.1 ≤ (owT b t w lo hi df τ).2.1.1 := by
  have h1 := tv_nx (b := b) h
  have h2 := tv_nx (b := b) h1
  have p1 := nx_p (b := b) h
  have p2 := nx_p (b := b) h1
  have q0 := h.1
  have q1 := h1.1
  unfold owT
  split
  · split
    · exact ⟨h2, by show τ.1 ≤ (nxT b t (nxT b t τ)).1; omega⟩
    · exact ⟨h1, by show τ.1 ≤ (nxT b t τ).1; omega⟩
  · exact ⟨h, Nat.le_refl _⟩
theorem ow_r {b : Nat → Int32} {t w : Nat} {lo hi df : Int32} {τ : tT} (h : (owT b t w lo hi df τ).1 = true) : (owT b t w lo hi df τ).2.2 = df ∨ wi (owT b t w lo hi df τ).2.2 lo hi := by
  by_cases c : atT b τ w
  · by_cases c2 : nuT (nxT b t τ) lo hi
    · rw [ow_1 c c2]; exact Or.inr c2.2
    · rw [ow_0 c c2] at h; cases h
  · rw [ow_n c]; exact Or.inl rfl
theorem upd_id {r : Nat → Int32} {p : Nat} {x : Int32} (h : r p = x) : upd r p x = r := by
  funext j
  unfold upd
  split
  · rename_i c; rw [c, h]
  · rfl
theorem t_own {X : aX} {q : Nat → Nat → Int32} {r : Nat → Int32} {D : aD} {t w n who what : Nat} {τ : tT} {lo hi df : Int32} (h : tpX D t) (hv : tvT t τ) (hw : w < 14) (hn : n ≤ 8) (hwo : who < n) (hf : what < 10) (hz : r 1 = nI n) (hd : r (14 + 10 * who + what) = df) : cl X 5 [aR (6, 0, 0), aR (1, 1, 0), aR (80, w, 0), aI (nI who), aI (nI what), aI lo, aI hi] (mem (rq q 1 r, twT D τ)) = some (some (aI (bi ((owT (D (8, 0, 0)) t w lo hi df τ).1 = true))), mem (rq q 1 (if (owT (D (8, 0, 0)) t w lo hi df τ).1 = true then upd r (14 + 10 * who + what) (owT (D (8, 0, 0)) t w lo hi df τ).2.2 else r), twT D (owT (D (8, 0, 0)) t w lo hi df τ).2.1)) := by
  have at' := fun q => a_T (X := X) (q := q) h hv hw
  by_cases c : atT (D (8, 0, 0)) τ w
  · have st := fun q => s_T (X := X) (q := q) h hv
    have hv1 := tv_nx (b := D (8, 0, 0)) hv
    by_cases c2 : nuT (nxT (D (8, 0, 0)) t τ) lo hi
    · rw [ow_1 c c2]
      have rn := fun q => t_rdN1 (X := X) (q := q) h hv1 c2
      have pt := fun D v => t_put (X := X) (S := (rq q 1 r, D)) (a := 1) (v := v) (by decide) hn hwo hf (by show rq q 1 r 1 1 = nI n; rw [rq_at]; exact hz)
      simp only [nl_n, nl_i, nl_r, x_ci, x_ca, x_bin, x_ife, x_ifl, x_ifg, x_cme, x_cml, x_cmg, x_go, x_no, x_b, x_ps, x_pn, cs_n, cs_i, cs_j, cs_r, en_n, en_i, en_j, en_r, xa0, g_6_0, xa2, x_k2_7, r_i, r_j, r_v, r_z1, r_z0, r_a, x_k1_7, g_7_4, xs7n, xs7i, xs7r, xi5, xi6, x_k3_6, xa1, xi3, xi4, xi7, x_k4_1, e5_0, e5_1, e5_4, e5_5, e5_8, e5_11, e5_12, e5_13, e5_14, e5_17, e5_20, e5_21, e5_24, e5_27, e5_29, e5_30, e5_32, e5_34, e5_37, e5_40, e5_41, e5_42, e5_43, e5_44, e5_46, e5_48, e5_51, e5_52, c5, i10, i00, n2, n10, n20, n60, n8, n9, bi0, ite_not, List.replicate, Nat.reduceAdd, Nat.reduceSub, Nat.reduceLeDiff, Nat.reduceLT, if_true, if_false, mg, reduceIte, not_false_eq_true, eq_self, and_self, and_true, true_and, true_or, or_true, Nat.reduceEqDiff, at', (bi_t c), st, tT_4, rn, pt, rq_at, rq_rq]
      rfl
    · rw [ow_0 c c2]
      have rn := fun q => t_rdN0 (X := X) (q := q) (D := D) hv1 c2
      simp only [nl_n, nl_i, nl_r, x_ci, x_ca, x_bin, x_ife, x_ifl, x_ifg, x_cme, x_cml, x_cmg, x_go, x_no, x_b, x_ps, x_pn, cs_n, cs_i, cs_j, cs_r, en_n, en_i, en_j, en_r, xa0, g_6_0, xa2, x_k2_7, r_i, r_j, r_v, r_z1, r_z0, r_a, x_k1_7, g_7_4, xs7n, xs7i, xs7r, xi5, xi6, x_k3_6, xa1, xi3, xi4, xi7, x_k4_1, e5_0, e5_1, e5_4, e5_5, e5_8, e5_11, e5_12, e5_13, e5_14, e5_17, e5_20, e5_21, e5_24, e5_27, e5_29, e5_30, e5_32, e5_34, e5_37, e5_40, e5_41, e5_42, e5_43, e5_44, e5_46, e5_48, e5_51, e5_52, c5, i10, i00, n2, n10, n20, n60, n8, n9, bi0, ite_not, List.replicate, Nat.reduceAdd, Nat.reduceSub, Nat.reduceLeDiff, Nat.reduceLT, if_true, if_false, mg, reduceIte, not_false_eq_true, eq_self, and_self, and_true, true_and, true_or, or_true, Nat.reduceEqDiff, at', (bi_t c), st, tT_4, rn, (bi_f Bool.false_ne_true)]
      simp only [Bool.false_eq_true, if_false]
  · rw [ow_n c]
    simp only [nl_n, nl_i, nl_r, x_ci, x_ca, x_bin, x_ife, x_ifl, x_ifg, x_cme, x_cml, x_cmg, x_go, x_no, x_b, x_ps, x_pn, cs_n, cs_i, cs_j, cs_r, en_n, en_i, en_j, en_r, xa0, g_6_0, xa2, x_k2_7, r_i, r_j, r_v, r_z1, r_z0, r_a, x_k1_7, g_7_4, xs7n, xs7i, xs7r, xi5, xi6, x_k3_6, xa1, xi3, xi4, xi7, x_k4_1, e5_0, e5_1, e5_4, e5_5, e5_8, e5_11, e5_12, e5_13, e5_14, e5_17, e5_20, e5_21, e5_24, e5_27, e5_29, e5_30, e5_32, e5_34, e5_37, e5_40, e5_41, e5_42, e5_43, e5_44, e5_46, e5_48, e5_51, e5_52, c5, i10, i00, n2, n10, n20, n60, n8, n9, bi0, ite_not, List.replicate, Nat.reduceAdd, Nat.reduceSub, Nat.reduceLeDiff, Nat.reduceLT, if_true, if_false, mg, reduceIte, not_false_eq_true, eq_self, and_self, and_true, true_and, true_or, or_true, Nat.reduceEqDiff, at', (bi_f c)]
    rw [upd_id hd]
    rfl
