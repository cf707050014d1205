/-! ONE ITEM OF THE TEXT -/
def fld (a0 a1 a2 a3 a4 a5 : Int32) : Nat → Int32 := fun j => if j = 0 then a0 else if j = 1 then a1 else if j = 2 then a2 else if j = 3 then a3 else if j = 4 then a4 else a5
def no6 : Nat → Int32 := fun _ => nI 0
def kwF (b : Nat → Int32) (τ : tT) : Nat → Nat
  | 0 => 7
  | m + 1 => if atT b τ (7 - (m + 1)) then 7 - (m + 1) else kwF b τ m
theorem kw_s (b : Nat → Int32) (τ : tT) (m : Nat) : kwF b τ (m + 1) = if atT b τ (7 - (m + 1)) then 7 - (m + 1) else kwF b τ m := rfl
theorem wd_un : ∀ w, w < 14 → ∀ w', w' < 14 → wln w = wln w' → (∀ i, i < wln w → wby w i = wby w' i) → w = w' := by decide +kernel
theorem at_un {b : Nat → Int32} {τ : tT} {w w' : Nat} (hw : w < 14) (hw' : w' < 14) (h : atT b τ w) (h' : atT b τ w') : w = w' := by
  have e : wln w = wln w' := by have a := h.2.1; have c := h'.2.1; omega
  exact wd_un w hw w' hw' e (fun i hi => (h.2.2 i hi).symm.trans (h'.2.2 i (by omega)))
theorem kw_b {b : Nat → Int32} {τ : tT} : ∀ m, m ≤ 7 → (kwF b τ m = 7 ∧ (∀ k, 7 - m ≤ k → k < 7 → ¬ atT b τ k)) ∨ (7 - m ≤ kwF b τ m ∧ kwF b τ m < 7 ∧ atT b τ (kwF b τ m)) := by
  intro m
  induction m with
  | zero => intro _; exact Or.inl ⟨rfl, fun k h1 h2 => by omega⟩
  | succ m ih =>
    intro hm
    rw [kw_s]
    by_cases c : atT b τ (7 - (m + 1))
    · rw [if_pos c]
      exact Or.inr ⟨Nat.le_refl _, by omega, c⟩
    · rw [if_neg c]
      rcases ih (by omega) with ⟨h1, h2⟩ | ⟨h1, h2, h3⟩
      · refine Or.inl ⟨h1, fun k k1 k2 => ?_⟩
        by_cases e : k = 7 - (m + 1)
        · rw [e]; exact c
        · exact h2 k (by omega) k2
      · exact Or.inr ⟨by omega, h2, h3⟩
def siT (b : Nat → Int32) (t n kd : Nat) (τ : tT) : Bool × tT × (Nat → Int32) :=
  if n < 8 then
    (let o1 := owT b t 7 (nI 0) (nI 59) (nI 0) (nxT b t τ)
     if o1.1 = true then
      (let o2 := owT b t 8 (nI 0) (nI n - nI 1) (-1) o1.2.1
       if o2.1 = true then
        (let o3 := owT b t 9 (nI 0) (nI 99) (nI 60) o2.2.1
         if o3.1 = true then
          (let o4 := owT b t 10 (nI 0) (nI 120) (nI 30) o3.2.1
           if o4.1 = true then
            (let o5 := owT b t 11 (nI 1) (nI 9) (nI 3) o4.2.1
             if o5.1 = true then (true, o5.2.1, fld (nI kd) o1.2.2 o2.2.2 o3.2.2 o4.2.2 o5.2.2) else (false, o5.2.1, no6))
           else (false, o4.2.1, no6))
         else (false, o3.2.1, no6))
       else (false, o2.2.1, no6))
     else (false, o1.2.1, no6))
  else (false, τ, no6)
def itT (b : Nat → Int32) (t n : Nat) (τ : tT) : Bool × tT × (Nat → Int32) :=
  if atT b τ 12 then
    (if nuT (nxT b t τ) (nI 0) (nI n - nI 1) then (true, nxT b t (nxT b t τ), fld (nI 10) (nxT b t τ).2.2.2 (nI 0) (nI 0) (nI 0) (nI 0)) else (false, nxT b t τ, no6))
  else if atT b τ 13 then
    (if nuT (nxT b t τ) (nI 0) (nI n - nI 1) then
      (if nuT (nxT b t (nxT b t τ)) (nI 1) (nI 99) then (true, nxT b t (nxT b t (nxT b t τ)), fld (nI 11) (nxT b t τ).2.2.2 (nxT b t (nxT b t τ)).2.2.2 (nI 0) (nI 0) (nI 0)) else (false, nxT b t (nxT b t τ), no6))
     else (false, nxT b t τ, no6))
  else if kwF b τ 7 < 7 then siT b t n (kwF b τ 7) τ else (false, τ, no6)
/-- what an item does to a row -/
def apI (n : Nat) (f : Nat → Int32) (r : Nat → Int32) : Nat → Int32 :=
  if f 0 = nI 10 then upd r (14 + 10 * (f 1).toNatClampNeg + 6) (nI 1)
  else if f 0 = nI 11 then upd r (14 + 10 * (f 1).toNatClampNeg + 7) (f 2)
  else upd (upd (upd (upd (adF n r (f 0) (f 1)) (14 + 10 * n + 2) (f 2)) (14 + 10 * n + 3) (f 3)) (14 + 10 * n + 4) (f 4)) (14 + 10 * n + 5) (f 5)
theorem l_kow {X : aX} {q : Nat → Nat → Int32} {D : aD} {t : Nat} {τ : tT} (h : tpX D t) (hv : tvT t τ) : ∀ m k, k + m = 7 → go X 7 2 [some (aR (6, 0, 0)), some (aI (nI k))] [] (mem (q, twT D τ)) = some (some (aI (if kwF (D (8, 0, 0)) τ m < 7 then nI (kwF (D (8, 0, 0)) τ m) else -1)), mem (q, twT D τ)) := by
  have wo : ∀ k, k < 7 → cl X 8 [aI (nI k)] (mem (q, twT D τ)) = some (some (aR (80, k, 0)), mem (q, twT D τ)) := by
    intro k hk
    rcases (show k = 0 ∨ k = 1 ∨ k = 2 ∨ k = 3 ∨ k = 4 ∨ k = 5 ∨ k = 6 by omega) with rfl | rfl | rfl | rfl | rfl | rfl | rfl <;> simp only [nl_n, nl_i, nl_r, x_ci, x_ca, x_bin, x_ife, x_ifl, x_ifg, x_cme, x_cml, x_cmg, x_go, x_no, x_b, x_ps, x_pn, cs_n, cs_i, cs_j, cs_r, en_n, en_i, en_j, en_r, xi0, x_sw, x_sw0, r_i, r_j, r_v, r_z1, r_z0, r_a, e8_0, e8_1, e8_40, e8_42, e8_43, e8_45, e8_46, e8_48, e8_49, e8_51, e8_52, e8_54, e8_55, e8_57, e8_58, e8_60, c8, i10, i00, n2, n10, n20, n60, n8, n9, bi0, ite_not, List.replicate, Nat.reduceAdd, Nat.reduceSub, Nat.reduceLeDiff, Nat.reduceLT, if_true, if_false, mg, reduceIte, not_false_eq_true, eq_self, and_self, and_true, true_and, true_or, or_true, Nat.reduceEqDiff] <;> rfl
  intro m
  induction m with
  | zero =>
    intro k hk
    have e : kwF (D (8, 0, 0)) τ 0 = 7 := rfl
    rw [e, if_neg (by decide), e7_2]
    simp only [nl_n, nl_i, nl_r, x_ci, x_ca, x_bin, x_ife, x_ifl, x_ifg, x_cme, x_cml, x_cmg, x_go, x_no, x_b, x_ps, x_pn, cs_n, cs_i, cs_j, cs_r, en_n, en_i, en_j, en_r, xs1n, xs1i, xs1r, xi1, xa0, g_6_0, x_k1_s, x_k2_7, r_i, r_j, r_v, r_z1, r_z0, r_a, xn1n, xn1i, xn1r, e7_0, e7_1, e7_3, e7_5, e7_8, e7_9, e7_12, e7_13, e7_16, e7_19, e7_22, e7_23, e7_24, e7_27, e7_30, e7_31, c7, i10, i00, n2, n10, n20, n60, n8, n9, bi0, ite_not, List.replicate, Nat.reduceAdd, Nat.reduceSub, Nat.reduceLeDiff, Nat.reduceLT, if_true, if_false, mg, reduceIte, not_false_eq_true, eq_self, and_self, and_true, true_and, true_or, or_true, Nat.reduceEqDiff, (nI_lt (show 6 < k by omega) (show k < 2 ^ 31 by omega))]
  | succ m ih =>
    intro k hk
    have a := a_T (X := X) (q := q) h hv (show k < 14 by omega)
    have w := wo k (by omega)
    have ek : 7 - (m + 1) = k := by omega
    rw [kw_s, ek, e7_2]
    by_cases c : atT (D (8, 0, 0)) τ k
    · rw [if_pos c, if_pos (by omega)]
      simp only [nl_n, nl_i, nl_r, x_ci, x_ca, x_bin, x_ife, x_ifl, x_ifg, x_cme, x_cml, x_cmg, x_go, x_no, x_b, x_ps, x_pn, cs_n, cs_i, cs_j, cs_r, en_n, en_i, en_j, en_r, xs1n, xs1i, xs1r, xi1, xa0, g_6_0, x_k1_s, x_k2_7, r_i, r_j, r_v, r_z1, r_z0, r_a, xn1n, xn1i, xn1r, e7_0, e7_1, e7_3, e7_5, e7_8, e7_9, e7_12, e7_13, e7_16, e7_19, e7_22, e7_23, e7_24, e7_27, e7_30, e7_31, c7, i10, i00, n2, n10, n20, n60, n8, n9, bi0, ite_not, List.replicate, Nat.reduceAdd, Nat.reduceSub, Nat.reduceLeDiff, Nat.reduceLT, if_true, if_false, mg, reduceIte, not_false_eq_true, eq_self, and_self, and_true, true_and, true_or, or_true, Nat.reduceEqDiff, (nI_nlt (show k ≤ 6 by omega) (show 6 < 2 ^ 31 by decide)), w, a, (bi_t c)]
    · rw [if_neg c, ← ih (k + 1) (by omega)]
      simp only [nl_n, nl_i, nl_r, x_ci, x_ca, x_bin, x_ife, x_ifl, x_ifg, x_cme, x_cml, x_cmg, x_go, x_no, x_b, x_ps, x_pn, cs_n, cs_i, cs_j, cs_r, en_n, en_i, en_j, en_r, xs1n, xs1i, xs1r, xi1, xa0, g_6_0, x_k1_s, x_k2_7, r_i, r_j, r_v, r_z1, r_z0, r_a, xn1n, xn1i, xn1r, e7_0, e7_1, e7_3, e7_5, e7_8, e7_9, e7_12, e7_13, e7_16, e7_19, e7_22, e7_23, e7_24, e7_27, e7_30, e7_31, c7, i10, i00, n2, n10, n20, n60, n8, n9, bi0, ite_not, List.replicate, Nat.reduceAdd, Nat.reduceSub, Nat.reduceLeDiff, Nat.reduceLT, if_true, if_false, mg, reduceIte, not_false_eq_true, eq_self, and_self, and_true, true_and, true_or, or_true, Nat.reduceEqDiff, (nI_nlt (show k ≤ 6 by omega) (show 6 < 2 ^ 31 by decide)), w, a, (bi_f c), nI_add]
theorem t_kow {X : aX} {q : Nat → Nat → Int32} {D : aD} {t : Nat} {τ : tT} (h : tpX D t) (hv : tvT t τ) : cl X 7 [aR (6, 0, 0)] (mem (q, twT D τ)) = some (some (aI (if kwF (D (8, 0, 0)) τ 7 < 7 then nI (kwF (D (8, 0, 0)) τ 7) else -1)), mem (q, twT D τ)) := by
  rw [← l_kow (X := X) (q := q) h hv 7 0 (by omega)]
  simp only [nl_n, nl_i, nl_r, x_ci, x_ca, x_bin, x_ife, x_ifl, x_ifg, x_cme, x_cml, x_cmg, x_go, x_no, x_b, x_ps, x_pn, cs_n, cs_i, cs_j, cs_r, en_n, en_i, en_j, en_r, xs1n, xs1i, xs1r, xi1, xa0, g_6_0, x_k1_s, x_k2_7, r_i, r_j, r_v, r_z1, r_z0, r_a, xn1n, xn1i, xn1r, e7_0, e7_1, e7_3, e7_5, e7_8, e7_9, e7_12, e7_13, e7_16, e7_19, e7_22, e7_23, e7_24, e7_27, e7_30, e7_31, c7, i10, i00, n2, n10, n20, n60, n8, n9, bi0, ite_not, List.replicate, Nat.reduceAdd, Nat.reduceSub, Nat.reduceLeDiff, Nat.reduceLT, if_true, if_false, mg, reduceIte, not_false_eq_true, eq_self, and_self, and_true, true_and, true_or, or_true, Nat.reduceEqDiff]
theorem nu_a {τ : tT} {n : Nat} (hn : n ≤ 8) (h : nuT τ (nI 0) (nI n - nI 1)) : ∃ a, a < n ∧ τ.2.2.2 = nI a := wi_sz (by omega) h.2
theorem t_dead1 {X : aX} {q : Nat → Nat → Int32} {r : Nat → Int32} {D : aD} {t n : Nat} {τ : tT} (h : tpX D t) (hv : tvT t τ) (hn : n ≤ 8) (hz : r 1 = nI n) (c : nuT (nxT (D (8, 0, 0)) t τ) (nI 0) (nI n - nI 1)) : cl X 3 [aR (6, 0, 0), aR (1, 1, 0)] (mem (rq q 1 r, twT D τ)) = some (some (aI (nI 1)), mem (rq q 1 (upd r (14 + 10 * (nxT (D (8, 0, 0)) t τ).2.2.2.toNatClampNeg + 6) (nI 1)), twT D (nxT (D (8, 0, 0)) t (nxT (D (8, 0, 0)) t τ)))) := by
  obtain ⟨a, ha, ea⟩ := nu_a hn c
  have st := fun q => s_T (X := X) (q := q) h hv
  have rn := fun q => t_rdN1 (X := X) (q := q) h (tv_nx (b := D (8, 0, 0)) hv) c
  have pt := fun D v => t_put (X := X) (S := (rq q 1 r, D)) (a := 1) (v := v) (j := 6) (by decide) hn ha (by decide) (by show rq q 1 r 1 1 = nI n; rw [rq_at]; exact hz)
  rw [ea, clN (by omega)]
  simp only [nl_n, nl_i, nl_r, x_ci, x_ca, x_bin, x_ife, x_ifl, x_ifg, x_cme, x_cml, x_cmg, x_go, x_no, x_b, x_ps, x_pn, cs_n, cs_i, cs_j, cs_r, en_n, en_i, en_j, en_r, xa0, g_6_0, x_k1_7, g_7_4, xs2n, xs2i, xs2r, xa1, g_1_2, x_k3_6, r_i, r_j, r_v, r_z1, r_z0, r_a, xi2, x_k4_1, e3_0, e3_1, e3_4, e3_7, e3_8, e3_11, e3_14, e3_15, e3_16, e3_17, e3_18, e3_21, e3_22, e3_23, e3_26, e3_29, e3_30, e3_31, e3_32, e3_33, e3_35, e3_36, e3_39, e3_40, c3, i10, i00, n2, n10, n20, n60, n8, n9, bi0, ite_not, List.replicate, Nat.reduceAdd, Nat.reduceSub, Nat.reduceLeDiff, Nat.reduceLT, if_true, if_false, mg, reduceIte, not_false_eq_true, eq_self, and_self, and_true, true_and, true_or, or_true, Nat.reduceEqDiff, st, tT_4, rq_at, hz, rn, ea, pt, rq_rq]
theorem t_dead0 {X : aX} {q : Nat → Nat → Int32} {r : Nat → Int32} {D : aD} {t n : Nat} {τ : tT} (h : tpX D t) (hv : tvT t τ) (hz : r 1 = nI n) (c : ¬ nuT (nxT (D (8, 0, 0)) t τ) (nI 0) (nI n - nI 1)) : cl X 3 [aR (6, 0, 0), aR (1, 1, 0)] (mem (rq q 1 r, twT D τ)) = some (some (aI (nI 0)), mem (rq q 1 r, twT D (nxT (D (8, 0, 0)) t τ))) := by
  have st := fun q => s_T (X := X) (q := q) h hv
  have rn := fun q => t_rdN0 (X := X) (q := q) (D := D) (tv_nx (b := D (8, 0, 0)) hv) c
  simp only [nl_n, nl_i, nl_r, x_ci, x_ca, x_bin, x_ife, x_ifl, x_ifg, x_cme, x_cml, x_cmg, x_go, x_no, x_b, x_ps, x_pn, cs_n, cs_i, cs_j, cs_r, en_n, en_i, en_j, en_r, xa0, g_6_0, x_k1_7, g_7_4, xs2n, xs2i, xs2r, xa1, g_1_2, x_k3_6, r_i, r_j, r_v, r_z1, r_z0, r_a, xi2, x_k4_1, e3_0, e3_1, e3_4, e3_7, e3_8, e3_11, e3_14, e3_15, e3_16, e3_17, e3_18, e3_21, e3_22, e3_23, e3_26, e3_29, e3_30, e3_31, e3_32, e3_33, e3_35, e3_36, e3_39, e3_40, c3, i10, i00, n2, n10, n20, n60, n8, n9, bi0, ite_not, List.replicate, Nat.reduceAdd, Nat.reduceSub, Nat.reduceLeDiff, Nat.reduceLT, if_true, if_false, mg, reduceIte, not_false_eq_true, eq_self, and_self, and_true, true_and, true_or, or_true, Nat.reduceEqDiff, st, tT_4, rq_at, hz, rn]
theorem t_sgs1 {X : aX} {q : Nat → Nat → Int32} {r : Nat → Int32} {D : aD} {t n : Nat} {τ : tT} (h : tpX D t) (hv : tvT t τ) (hn : n ≤ 8) (hz : r 1 = nI n) (c : nuT (nxT (D (8, 0, 0)) t τ) (nI 0) (nI n - nI 1)) (c2 : nuT (nxT (D (8, 0, 0)) t (nxT (D (8, 0, 0)) t τ)) (nI 1) (nI 99)) : cl X 4 [aR (6, 0, 0), aR (1, 1, 0)] (mem (rq q 1 r, twT D τ)) = some (some (aI (nI 1)), mem (rq q 1 (upd r (14 + 10 * (nxT (D (8, 0, 0)) t τ).2.2.2.toNatClampNeg + 7) (nxT (D (8, 0, 0)) t (nxT (D (8, 0, 0)) t τ)).2.2.2), twT D (nxT (D (8, 0, 0)) t (nxT (D (8, 0, 0)) t (nxT (D (8, 0, 0)) t τ))))) := by
  obtain ⟨a, ha, ea⟩ := nu_a hn c
  have st := fun q => s_T (X := X) (q := q) h hv
  have hv1 := tv_nx (b := D (8, 0, 0)) hv
  have rn := fun q => t_rdN1 (X := X) (q := q) h hv1 c
  have rn2 := fun q => t_rdN1 (X := X) (q := q) h (tv_nx (b := D (8, 0, 0)) hv1) c2
  have pt := fun D v => t_put (X := X) (S := (rq q 1 r, D)) (a := 1) (v := v) (j := 7) (by decide) hn ha (by decide) (by show rq q 1 r 1 1 = nI n; rw [rq_at]; exact hz)
  rw [ea, clN (by omega)]
  simp only [nl_n, nl_i, nl_r, x_ci, x_ca, x_bin, x_ife, x_ifl, x_ifg, x_cme, x_cml, x_cmg, x_go, x_no, x_b, x_ps, x_pn, cs_n, cs_i, cs_j, cs_r, en_n, en_i, en_j, en_r, xa0, g_6_0, x_k1_7, g_7_4, xs2n, xs2i, xs2r, xa1, g_1_2, x_k3_6, r_i, r_j, r_v, r_z1, r_z0, r_a, xs3n, xs3i, xs3r, xi2, xi3, x_k4_1, e4_0, e4_1, e4_4, e4_7, e4_8, e4_11, e4_14, e4_15, e4_16, e4_17, e4_18, e4_21, e4_22, e4_23, e4_26, e4_29, e4_30, e4_31, e4_32, e4_35, e4_38, e4_39, e4_40, e4_41, e4_43, e4_46, e4_49, e4_50, e4_51, e4_52, e4_53, e4_55, e4_56, e4_59, e4_60, c4, i10, i00, n2, n10, n20, n60, n8, n9, bi0, ite_not, List.replicate, Nat.reduceAdd, Nat.reduceSub, Nat.reduceLeDiff, Nat.reduceLT, if_true, if_false, mg, reduceIte, not_false_eq_true, eq_self, and_self, and_true, true_and, true_or, or_true, Nat.reduceEqDiff, st, tT_4, rq_at, hz, rn, rn2, ea, pt, rq_rq]
theorem t_sgs2 {X : aX} {q : Nat → Nat → Int32} {r : Nat → Int32} {D : aD} {t n : Nat} {τ : tT} (h : tpX D t) (hv : tvT t τ) (hz : r 1 = nI n) (c : nuT (nxT (D (8, 0, 0)) t τ) (nI 0) (nI n - nI 1)) (c2 : ¬ nuT (nxT (D (8, 0, 0)) t (nxT (D (8, 0, 0)) t τ)) (nI 1) (nI 99)) : cl X 4 [aR (6, 0, 0), aR (1, 1, 0)] (mem (rq q 1 r, twT D τ)) = some (some (aI (nI 0)), mem (rq q 1 r, twT D (nxT (D (8, 0, 0)) t (nxT (D (8, 0, 0)) t τ)))) := by
  have st := fun q => s_T (X := X) (q := q) h hv
  have hv1 := tv_nx (b := D (8, 0, 0)) hv
  have rn := fun q => t_rdN1 (X := X) (q := q) h hv1 c
  have rn2 := fun q => t_rdN0 (X := X) (q := q) (D := D) (tv_nx (b := D (8, 0, 0)) hv1) c2
  simp only [nl_n, nl_i, nl_r, x_ci, x_ca, x_bin, x_ife, x_ifl, x_ifg, x_cme, x_cml, x_cmg, x_go, x_no, x_b, x_ps, x_pn, cs_n, cs_i, cs_j, cs_r, en_n, en_i, en_j, en_r, xa0, g_6_0, x_k1_7, g_7_4, xs2n, xs2i, xs2r, xa1, g_1_2, x_k3_6, r_i, r_j, r_v, r_z1, r_z0, r_a, xs3n, xs3i, xs3r, xi2, xi3, x_k4_1, e4_0, e4_1, e4_4, e4_7, e4_8, e4_11, e4_14, e4_15, e4_16, e4_17, e4_18, e4_21, e4_22, e4_23, e4_26, e4_29, e4_30, e4_31, e4_32, e4_35, e4_38, e4_39, e4_40, e4_41, e4_43, e4_46, e4_49, e4_50, e4_51, e4_52, e4_53, e4_55, e4_56, e4_59, e4_60, c4, i10, i00, n2, n10, n20, n60, n8, n9, bi0, ite_not, List.replicate, Nat.reduceAdd, Nat.reduceSub, Nat.reduceLeDiff, Nat.reduceLT, if_true, if_false, mg, reduceIte, not_false_eq_true, eq_self, and_self, and_true, true_and, true_or, or_true, Nat.reduceEqDiff, st, tT_4, rq_at, hz, rn, rn2]
theorem t_sgs0 {X : aX} {q : Nat → Nat → Int32} {r : Nat → Int32} {D : aD} {t n : Nat} {τ : tT} (h : tpX D t) (hv : tvT t τ) (hz : r 1 = nI n) (c : ¬ nuT (nxT (D (8, 0, 0)) t τ) (nI 0) (nI n - nI 1)) : cl X 4 [aR (6, 0, 0), aR (1, 1, 0)] (mem (rq q 1 r, twT D τ)) = some (some (aI (nI 0)), mem (rq q 1 r, twT D (nxT (D (8, 0, 0)) t τ))) := by
  have st := fun q => s_T (X := X) (q := q) h hv
  have rn := fun q => t_rdN0 (X := X) (q := q) (D := D) (tv_nx (b := D (8, 0, 0)) hv) c
  simp only [nl_n, nl_i, nl_r, x_ci, x_ca, x_bin, x_ife, x_ifl, x_ifg, x_cme, x_cml, x_cmg, x_go, x_no, x_b, x_ps, x_pn, cs_n, cs_i, cs_j, cs_r, en_n, en_i, en_j, en_r, xa0, g_6_0, x_k1_7, g_7_4, xs2n, xs2i, xs2r, xa1, g_1_2, x_k3_6, r_i, r_j, r_v, r_z1, r_z0, r_a, xs3n, xs3i, xs3r, xi2, xi3, x_k4_1, e4_0, e4_1, e4_4, e4_7, e4_8, e4_11, e4_14, e4_15, e4_16, e4_17, e4_18, e4_21, e4_22, e4_23, e4_26, e4_29, e4_30, e4_31, e4_32, e4_35, e4_38, e4_39, e4_40, e4_41, e4_43, e4_46, e4_49, e4_50, e4_51, e4_52, e4_53, e4_55, e4_56, e4_59, e4_60, c4, i10, i00, n2, n10, n20, n60, n8, n9, bi0, ite_not, List.replicate, Nat.reduceAdd, Nat.reduceSub, Nat.reduceLeDiff, Nat.reduceLT, if_true, if_false, mg, reduceIte, not_false_eq_true, eq_self, and_self, and_true, true_and, true_or, or_true, Nat.reduceEqDiff, st, tT_4, rq_at, hz, rn]
theorem ad_bg {n : Nat} {r : Nat → Int32} {kd bg bg' : Int32} : upd (adF n r kd bg) (14 + 10 * n + 1) bg' = adF n r kd bg' := by
  funext p
  unfold upd adF
  by_cases c : p = 14 + 10 * n + 1
  · rw [if_pos c, if_neg (by omega), if_pos (by omega), if_neg (by omega), if_pos c]
  · rw [if_neg c]
    by_cases c1 : p = 1
    · rw [if_pos c1, if_pos c1]
    · rw [if_neg c1, if_neg c1]
      by_cases c2 : 14 + 10 * n ≤ p ∧ p < 14 + 10 * n + 10
      · rw [if_pos c2, if_pos c2, if_neg c, if_neg c]
      · rw [if_neg c2, if_neg c2]
theorem ad_f {n f : Nat} {r : Nat → Int32} {kd bg : Int32} (h2 : 2 ≤ f) (hf : f < 10) : adF n r kd bg (14 + 10 * n + f) = atF f := by
  unfold adF
  rw [if_neg (by omega), if_pos (by omega), if_neg (by omega), if_neg (by omega), show 14 + 10 * n + f - (14 + 10 * n) = f by omega]
theorem ad_1 {n : Nat} {r : Nat → Int32} {kd bg : Int32} : adF n r kd bg 1 = nI (n + 1) := if_pos rfl
theorem upd_n {r : Nat → Int32} {p p' : Nat} {x : Int32} (h : p' ≠ p) : upd r p x p' = r p' := if_neg h
theorem t_sin5 {X : aX} {q : Nat → Nat → Int32} {r : Nat → Int32} {D : aD} {t n kd : Nat} {τ : tT} (h : tpX D t) (hv : tvT t τ) (hn : n ≤ 8) (hz : r 1 = nI n) (h12 : ¬ atT (D (8, 0, 0)) τ 12) (h13 : ¬ atT (D (8, 0, 0)) τ 13) (hk : kwF (D (8, 0, 0)) τ 7 = kd) (hk7 : kd < 7) : ∃ r', cl X 2 [aR (6, 0, 0), aR (1, 1, 0)] (mem (rq q 1 r, twT D τ)) = some (some (aI (bi ((siT (D (8, 0, 0)) t n kd τ).1 = true))), mem (rq q 1 r', twT D (siT (D (8, 0, 0)) t n kd τ).2.1)) ∧ ((siT (D (8, 0, 0)) t n kd τ).1 = true → r' = apI n (siT (D (8, 0, 0)) t n kd τ).2.2 r) := by
  have a12 := fun q => a_T (X := X) (q := q) h hv (show 12 < 14 by decide)
  have a13 := fun q => a_T (X := X) (q := q) h hv (show 13 < 14 by decide)
  have kw := fun q => t_kow (X := X) (q := q) h hv
  rw [hk, if_pos hk7] at kw
  have np := nI_pos (show kd < 2 ^ 31 by omega)
  have tf := fun D => t_isFull (X := X) (S := (rq q 1 r, D)) (a := 1) (n := n) (by decide) (by show rq q 1 r 1 1 = nI n; rw [rq_at]; exact hz)
  have st := fun q => s_T (X := X) (q := q) h hv
  by_cases c8 : n < 8
  · have ta := fun D => t_add (X := X) (S := (rq q 1 r, D)) (a := 1) (kd := nI kd) (bg := nI 0) (by decide) c8 (by show rq q 1 r 1 1 = nI n; rw [rq_at]; exact hz)
    have f8 := bi_f (fun w : ¬ nI n < nI 8 => w (nI_lt c8 (by decide)))
    have hv1 := tv_nx (b := D (8, 0, 0)) hv
    unfold siT
    rw [if_pos c8]
    dsimp only
    have o1 := t_own (X := X) (q := q) (r := adF n r (nI kd) (nI 0)) (who := n) (what := 1) (n := n + 1) (lo := nI 0) (hi := nI 59) (df := nI 0) h hv1 (show 7 < 14 by decide) (by omega) (by omega) (by decide) ad_1 (by unfold adF; rw [if_neg (by omega), if_pos (by omega), if_neg (by omega), if_pos rfl])
    have v1 := (ow_v (b := D (8, 0, 0)) (w := 7) (lo := nI 0) (hi := nI 59) (df := nI 0) hv1).1
    generalize owT (D (8, 0, 0)) t 7 (nI 0) (nI 59) (nI 0) (nxT (D (8, 0, 0)) t τ) = O1 at *
    by_cases k1 : O1.1 = true
    · rw [if_pos k1] at o1 ⊢
      rw [bi_t k1, ad_bg] at o1
      have o2 := t_own (X := X) (q := q) (r := adF n r (nI kd) O1.2.2) (who := n) (what := 2) (n := n + 1) (lo := nI 0) (hi := nI n - nI 1) (df := -1) h v1 (show 8 < 14 by decide) (by omega) (by omega) (by decide) ad_1 (ad_f (by decide) (by decide))
      have v2 := (ow_v (b := D (8, 0, 0)) (w := 8) (lo := nI 0) (hi := nI n - nI 1) (df := -1) v1).1
      generalize owT (D (8, 0, 0)) t 8 (nI 0) (nI n - nI 1) (-1) O1.2.1 = O2 at *
      by_cases k2 : O2.1 = true
      · rw [if_pos k2] at o2 ⊢
        rw [bi_t k2] at o2
        have o3 := t_own (X := X) (q := q) (r := upd (adF n r (nI kd) O1.2.2) (14 + 10 * n + 2) O2.2.2) (who := n) (what := 3) (n := n + 1) (lo := nI 0) (hi := nI 99) (df := nI 60) h v2 (show 9 < 14 by decide) (by omega) (by omega) (by decide) (by rw [upd_n (by omega)]; exact ad_1) (by rw [upd_n (by omega)]; exact ad_f (by decide) (by decide))
        have v3 := (ow_v (b := D (8, 0, 0)) (w := 9) (lo := nI 0) (hi := nI 99) (df := nI 60) v2).1
        generalize owT (D (8, 0, 0)) t 9 (nI 0) (nI 99) (nI 60) O2.2.1 = O3 at *
        by_cases k3 : O3.1 = true
        · rw [if_pos k3] at o3 ⊢
          rw [bi_t k3] at o3
          have o4 := t_own (X := X) (q := q) (r := upd (upd (adF n r (nI kd) O1.2.2) (14 + 10 * n + 2) O2.2.2) (14 + 10 * n + 3) O3.2.2) (who := n) (what := 4) (n := n + 1) (lo := nI 0) (hi := nI 120) (df := nI 30) h v3 (show 10 < 14 by decide) (by omega) (by omega) (by decide) (by rw [upd_n (by omega), upd_n (by omega)]; exact ad_1) (by rw [upd_n (by omega), upd_n (by omega)]; exact ad_f (by decide) (by decide))
          have v4 := (ow_v (b := D (8, 0, 0)) (w := 10) (lo := nI 0) (hi := nI 120) (df := nI 30) v3).1
          generalize owT (D (8, 0, 0)) t 10 (nI 0) (nI 120) (nI 30) O3.2.1 = O4 at *
          by_cases k4 : O4.1 = true
          · rw [if_pos k4] at o4 ⊢
            rw [bi_t k4] at o4
            have o5 := t_own (X := X) (q := q) (r := upd (upd (upd (adF n r (nI kd) O1.2.2) (14 + 10 * n + 2) O2.2.2) (14 + 10 * n + 3) O3.2.2) (14 + 10 * n + 4) O4.2.2) (who := n) (what := 5) (n := n + 1) (lo := nI 1) (hi := nI 9) (df := nI 3) h v4 (show 11 < 14 by decide) (by omega) (by omega) (by decide) (by rw [upd_n (by omega), upd_n (by omega), upd_n (by omega)]; exact ad_1) (by rw [upd_n (by omega), upd_n (by omega), upd_n (by omega)]; exact ad_f (by decide) (by decide))
            generalize owT (D (8, 0, 0)) t 11 (nI 1) (nI 9) (nI 3) O4.2.1 = O5 at *
            by_cases k5 : O5.1 = true
            · rw [if_pos k5] at o5 ⊢
              rw [bi_t k5] at o5
              refine ⟨upd (upd (upd (upd (adF n r (nI kd) O1.2.2) (14 + 10 * n + 2) O2.2.2) (14 + 10 * n + 3) O3.2.2) (14 + 10 * n + 4) O4.2.2) (14 + 10 * n + 5) O5.2.2, ?_, fun _ => ?_⟩
              · simp only [nl_n, nl_i, nl_r, x_ci, x_ca, x_bin, x_ife, x_ifl, x_ifg, x_cme, x_cml, x_cmg, x_go, x_no, x_b, x_ps, x_pn, cs_n, cs_i, cs_j, cs_r, en_n, en_i, en_j, en_r, xa0, g_6_0, x_k2_7, xa1, x_k2_6, r_i, r_j, r_v, r_z1, r_z0, r_a, x_k1_6, xs2n, xs2i, xs2r, xi2, x_k1_1, x_k1_7, x_k3_1, xs3n, xs3i, xs3r, xi3, x_k7_6, e2_0, e2_1, e2_4, e2_6, e2_9, e2_12, e2_13, e2_14, e2_17, e2_18, e2_19, e2_22, e2_24, e2_27, e2_30, e2_31, e2_32, e2_35, e2_36, e2_37, e2_40, e2_41, e2_42, e2_45, e2_46, e2_49, e2_52, e2_53, e2_54, e2_55, e2_58, e2_61, e2_62, e2_63, e2_64, e2_67, e2_68, e2_69, e2_70, e2_72, e2_73, e2_74, e2_75, e2_77, e2_80, e2_83, e2_84, e2_85, e2_87, e2_88, e2_89, e2_90, e2_91, e2_92, e2_93, e2_96, e2_99, e2_100, e2_101, e2_103, e2_104, e2_105, e2_106, e2_108, e2_111, e2_114, e2_115, e2_116, e2_118, e2_119, e2_120, e2_121, e2_123, e2_126, e2_129, e2_130, e2_131, e2_133, e2_134, e2_135, e2_136, e2_138, e2_141, e2_144, e2_145, e2_148, e2_149, c2, i10, i00, n2, n10, n20, n60, n8, n9, bi0, ite_not, List.replicate, Nat.reduceAdd, Nat.reduceSub, Nat.reduceLeDiff, Nat.reduceLT, if_true, if_false, mg, reduceIte, not_false_eq_true, eq_self, and_self, and_true, true_and, true_or, or_true, Nat.reduceEqDiff, a12, a13, (bi_f h12), (bi_f h13), kw, np, tf, f8, st, ta, rq_at, rq_rq, o1, o2, o3, o4, o5]
                rfl
              · have e0 : fld (nI kd) O1.2.2 O2.2.2 O3.2.2 O4.2.2 O5.2.2 0 = nI kd := rfl
                show _ = apI n (fld (nI kd) O1.2.2 O2.2.2 O3.2.2 O4.2.2 O5.2.2) r
                unfold apI
                rw [e0, if_neg (show ¬ nI kd = nI 10 from nx_ne (by omega) (by omega) (by decide)), if_neg (show ¬ nI kd = nI 11 from nx_ne (by omega) (by omega) (by decide))]
                rfl
            · rw [if_neg k5] at o5 ⊢
              rw [bi_f k5] at o5
              refine ⟨upd (upd (upd (adF n r (nI kd) O1.2.2) (14 + 10 * n + 2) O2.2.2) (14 + 10 * n + 3) O3.2.2) (14 + 10 * n + 4) O4.2.2, ?_, fun w => by cases w⟩
              simp only [nl_n, nl_i, nl_r, x_ci, x_ca, x_bin, x_ife, x_ifl, x_ifg, x_cme, x_cml, x_cmg, x_go, x_no, x_b, x_ps, x_pn, cs_n, cs_i, cs_j, cs_r, en_n, en_i, en_j, en_r, xa0, g_6_0, x_k2_7, xa1, x_k2_6, r_i, r_j, r_v, r_z1, r_z0, r_a, x_k1_6, xs2n, xs2i, xs2r, xi2, x_k1_1, x_k1_7, x_k3_1, xs3n, xs3i, xs3r, xi3, x_k7_6, e2_0, e2_1, e2_4, e2_6, e2_9, e2_12, e2_13, e2_14, e2_17, e2_18, e2_19, e2_22, e2_24, e2_27, e2_30, e2_31, e2_32, e2_35, e2_36, e2_37, e2_40, e2_41, e2_42, e2_45, e2_46, e2_49, e2_52, e2_53, e2_54, e2_55, e2_58, e2_61, e2_62, e2_63, e2_64, e2_67, e2_68, e2_69, e2_70, e2_72, e2_73, e2_74, e2_75, e2_77, e2_80, e2_83, e2_84, e2_85, e2_87, e2_88, e2_89, e2_90, e2_91, e2_92, e2_93, e2_96, e2_99, e2_100, e2_101, e2_103, e2_104, e2_105, e2_106, e2_108, e2_111, e2_114, e2_115, e2_116, e2_118, e2_119, e2_120, e2_121, e2_123, e2_126, e2_129, e2_130, e2_131, e2_133, e2_134, e2_135, e2_136, e2_138, e2_141, e2_144, e2_145, e2_148, e2_149, c2, i10, i00, n2, n10, n20, n60, n8, n9, bi0, ite_not, List.replicate, Nat.reduceAdd, Nat.reduceSub, Nat.reduceLeDiff, Nat.reduceLT, if_true, if_false, mg, reduceIte, not_false_eq_true, eq_self, and_self, and_true, true_and, true_or, or_true, Nat.reduceEqDiff, a12, a13, (bi_f h12), (bi_f h13), kw, np, tf, f8, st, ta, rq_at, rq_rq, o1, o2, o3, o4, o5]
              rfl
          · rw [if_neg k4] at o4 ⊢
            rw [bi_f k4] at o4
            refine ⟨upd (upd (adF n r (nI kd) O1.2.2) (14 + 10 * n + 2) O2.2.2) (14 + 10 * n + 3) O3.2.2, ?_, fun w => by cases w⟩
            simp only [nl_n, nl_i, nl_r, x_ci, x_ca, x_bin, x_ife, x_ifl, x_ifg, x_cme, x_cml, x_cmg, x_go, x_no, x_b, x_ps, x_pn, cs_n, cs_i, cs_j, cs_r, en_n, en_i, en_j, en_r, xa0, g_6_0, x_k2_7, xa1, x_k2_6, r_i, r_j, r_v, r_z1, r_z0, r_a, x_k1_6, xs2n, xs2i, xs2r, xi2, x_k1_1, x_k1_7, x_k3_1, xs3n, xs3i, xs3r, xi3, x_k7_6, e2_0, e2_1, e2_4, e2_6, e2_9, e2_12, e2_13, e2_14, e2_17, e2_18, e2_19, e2_22, e2_24, e2_27, e2_30, e2_31, e2_32, e2_35, e2_36, e2_37, e2_40, e2_41, e2_42, e2_45, e2_46, e2_49, e2_52, e2_53, e2_54, e2_55, e2_58, e2_61, e2_62, e2_63, e2_64, e2_67, e2_68, e2_69, e2_70, e2_72, e2_73, e2_74, e2_75, e2_77, e2_80, e2_83, e2_84, e2_85, e2_87, e2_88, e2_89, e2_90, e2_91, e2_92, e2_93, e2_96, e2_99, e2_100, e2_101, e2_103, e2_104, e2_105, e2_106, e2_108, e2_111, e2_114, e2_115, e2_116, e2_118, e2_119, e2_120, e2_121, e2_123, e2_126, e2_129, e2_130, e2_131, e2_133, e2_134, e2_135, e2_136, e2_138, e2_141, e2_144, e2_145, e2_148, e2_149, c2, i10, i00, n2, n10, n20, n60, n8, n9, bi0, ite_not, List.replicate, Nat.reduceAdd, Nat.reduceSub, Nat.reduceLeDiff, Nat.reduceLT, if_true, if_false, mg, reduceIte, not_false_eq_true, eq_self, and_self, and_true, true_and, true_or, or_true, Nat.reduceEqDiff, a12, a13, (bi_f h12), (bi_f h13), kw, np, tf, f8, st, ta, rq_at, rq_rq, o1, o2, o3, o4]
            rfl
        · rw [if_neg k3] at o3 ⊢
          rw [bi_f k3] at o3
          refine ⟨upd (adF n r (nI kd) O1.2.2) (14 + 10 * n + 2) O2.2.2, ?_, fun w => by cases w⟩
          simp only [nl_n, nl_i, nl_r, x_ci, x_ca, x_bin, x_ife, x_ifl, x_ifg, x_cme, x_cml, x_cmg, x_go, x_no, x_b, x_ps, x_pn, cs_n, cs_i, cs_j, cs_r, en_n, en_i, en_j, en_r, xa0, g_6_0, x_k2_7, xa1, x_k2_6, r_i, r_j, r_v, r_z1, r_z0, r_a, x_k1_6, xs2n, xs2i, xs2r, xi2, x_k1_1, x_k1_7, x_k3_1, xs3n, xs3i, xs3r, xi3, x_k7_6, e2_0, e2_1, e2_4, e2_6, e2_9, e2_12, e2_13, e2_14, e2_17, e2_18, e2_19, e2_22, e2_24, e2_27, e2_30, e2_31, e2_32, e2_35, e2_36, e2_37, e2_40, e2_41, e2_42, e2_45, e2_46, e2_49, e2_52, e2_53, e2_54, e2_55, e2_58, e2_61, e2_62, e2_63, e2_64, e2_67, e2_68, e2_69, e2_70, e2_72, e2_73, e2_74, e2_75, e2_77, e2_80, e2_83, e2_84, e2_85, e2_87, e2_88, e2_89, e2_90, e2_91, e2_92, e2_93, e2_96, e2_99, e2_100, e2_101, e2_103, e2_104, e2_105, e2_106, e2_108, e2_111, e2_114, e2_115, e2_116, e2_118, e2_119, e2_120, e2_121, e2_123, e2_126, e2_129, e2_130, e2_131, e2_133, e2_134, e2_135, e2_136, e2_138, e2_141, e2_144, e2_145, e2_148, e2_149, c2, i10, i00, n2, n10, n20, n60, n8, n9, bi0, ite_not, List.replicate, Nat.reduceAdd, Nat.reduceSub, Nat.reduceLeDiff, Nat.reduceLT, if_true, if_false, mg, reduceIte, not_false_eq_true, eq_self, and_self, and_true, true_and, true_or, or_true, Nat.reduceEqDiff, a12, a13, (bi_f h12), (bi_f h13), kw, np, tf, f8, st, ta, rq_at, rq_rq, o1, o2, o3]
          rfl
      · rw [if_neg k2] at o2 ⊢
        rw [bi_f k2] at o2
        refine ⟨adF n r (nI kd) O1.2.2, ?_, fun w => by cases w⟩
        simp only [nl_n, nl_i, nl_r, x_ci, x_ca, x_bin, x_ife, x_ifl, x_ifg, x_cme, x_cml, x_cmg, x_go, x_no, x_b, x_ps, x_pn, cs_n, cs_i, cs_j, cs_r, en_n, en_i, en_j, en_r, xa0, g_6_0, x_k2_7, xa1, x_k2_6, r_i, r_j, r_v, r_z1, r_z0, r_a, x_k1_6, xs2n, xs2i, xs2r, xi2, x_k1_1, x_k1_7, x_k3_1, xs3n, xs3i, xs3r, xi3, x_k7_6, e2_0, e2_1, e2_4, e2_6, e2_9, e2_12, e2_13, e2_14, e2_17, e2_18, e2_19, e2_22, e2_24, e2_27, e2_30, e2_31, e2_32, e2_35, e2_36, e2_37, e2_40, e2_41, e2_42, e2_45, e2_46, e2_49, e2_52, e2_53, e2_54, e2_55, e2_58, e2_61, e2_62, e2_63, e2_64, e2_67, e2_68, e2_69, e2_70, e2_72, e2_73, e2_74, e2_75, e2_77, e2_80, e2_83, e2_84, e2_85, e2_87, e2_88, e2_89, e2_90, e2_91, e2_92, e2_93, e2_96, e2_99, e2_100, e2_101, e2_103, e2_104, e2_105, e2_106, e2_108, e2_111, e2_114, e2_115, e2_116, e2_118, e2_119, e2_120, e2_121, e2_123, e2_126, e2_129, e2_130, e2_131, e2_133, e2_134, e2_135, e2_136, e2_138, e2_141, e2_144, e2_145, e2_148, e2_149, c2, i10, i00, n2, n10, n20, n60, n8, n9, bi0, ite_not, List.replicate, Nat.reduceAdd, Nat.reduceSub, Nat.reduceLeDiff, Nat.reduceLT, if_true, if_false, mg, reduceIte, not_false_eq_true, eq_self, and_self, and_true, true_and, true_or, or_true, Nat.reduceEqDiff, a12, a13, (bi_f h12), (bi_f h13), kw, np, tf, f8, st, ta, rq_at, rq_rq, o1, o2]
        rfl
    · rw [if_neg k1] at o1 ⊢
      rw [bi_f k1] at o1
      refine ⟨adF n r (nI kd) (nI 0), ?_, fun w => by cases w⟩
      simp only [nl_n, nl_i, nl_r, x_ci, x_ca, x_bin, x_ife, x_ifl, x_ifg, x_cme, x_cml, x_cmg, x_go, x_no, x_b, x_ps, x_pn, cs_n, cs_i, cs_j, cs_r, en_n, en_i, en_j, en_r, xa0, g_6_0, x_k2_7, xa1, x_k2_6, r_i, r_j, r_v, r_z1, r_z0, r_a, x_k1_6, xs2n, xs2i, xs2r, xi2, x_k1_1, x_k1_7, x_k3_1, xs3n, xs3i, xs3r, xi3, x_k7_6, e2_0, e2_1, e2_4, e2_6, e2_9, e2_12, e2_13, e2_14, e2_17, e2_18, e2_19, e2_22, e2_24, e2_27, e2_30, e2_31, e2_32, e2_35, e2_36, e2_37, e2_40, e2_41, e2_42, e2_45, e2_46, e2_49, e2_52, e2_53, e2_54, e2_55, e2_58, e2_61, e2_62, e2_63, e2_64, e2_67, e2_68, e2_69, e2_70, e2_72, e2_73, e2_74, e2_75, e2_77, e2_80, e2_83, e2_84, e2_85, e2_87, e2_88, e2_89, e2_90, e2_91, e2_92, e2_93, e2_96, e2_99, e2_100, e2_101, e2_103, e2_104, e2_105, e2_106, e2_108, e2_111, e2_114, e2_115, e2_116, e2_118, e2_119, e2_120, e2_121, e2_123, e2_126, e2_129, e2_130, e2_131, e2_133, e2_134, e2_135, e2_136, e2_138, e2_141, e2_144, e2_145, e2_148, e2_149, c2, i10, i00, n2, n10, n20, n60, n8, n9, bi0, ite_not, List.replicate, Nat.reduceAdd, Nat.reduceSub, Nat.reduceLeDiff, Nat.reduceLT, if_true, if_false, mg, reduceIte, not_false_eq_true, eq_self, and_self, and_true, true_and, true_or, or_true, Nat.reduceEqDiff, a12, a13, (bi_f h12), (bi_f h13), kw, np, tf, f8, st, ta, rq_at, rq_rq, o1]
      rfl
  · have t8 := bi_t (show ¬ nI n < nI 8 from nI_nlt (by omega) (by omega))
    unfold siT
    rw [if_neg c8]
    refine ⟨r, ?_, fun w => by cases w⟩
    simp only [nl_n, nl_i, nl_r, x_ci, x_ca, x_bin, x_ife, x_ifl, x_ifg, x_cme, x_cml, x_cmg, x_go, x_no, x_b, x_ps, x_pn, cs_n, cs_i, cs_j, cs_r, en_n, en_i, en_j, en_r, xa0, g_6_0, x_k2_7, xa1, x_k2_6, r_i, r_j, r_v, r_z1, r_z0, r_a, x_k1_6, xs2n, xs2i, xs2r, xi2, x_k1_1, x_k1_7, x_k3_1, xs3n, xs3i, xs3r, xi3, x_k7_6, e2_0, e2_1, e2_4, e2_6, e2_9, e2_12, e2_13, e2_14, e2_17, e2_18, e2_19, e2_22, e2_24, e2_27, e2_30, e2_31, e2_32, e2_35, e2_36, e2_37, e2_40, e2_41, e2_42, e2_45, e2_46, e2_49, e2_52, e2_53, e2_54, e2_55, e2_58, e2_61, e2_62, e2_63, e2_64, e2_67, e2_68, e2_69, e2_70, e2_72, e2_73, e2_74, e2_75, e2_77, e2_80, e2_83, e2_84, e2_85, e2_87, e2_88, e2_89, e2_90, e2_91, e2_92, e2_93, e2_96, e2_99, e2_100, e2_101, e2_103, e2_104, e2_105, e2_106, e2_108, e2_111, e2_114, e2_115, e2_116, e2_118, e2_119, e2_120, e2_121, e2_123, e2_126, e2_129, e2_130, e2_131, e2_133, e2_134, e2_135, e2_136, e2_138, e2_141, e2_144, e2_145, e2_148, e2_149, c2, i10, i00, n2, n10, n20, n60, n8, n9, bi0, ite_not, List.replicate, Nat.reduceAdd, Nat.reduceSub, Nat.reduceLeDiff, Nat.reduceLT, if_true, if_false, mg, reduceIte, not_false_eq_true, eq_self, and_self, and_true, true_and, true_or, or_true, Nat.reduceEqDiff, a12, a13, (bi_f h12), (bi_f h13), kw, np, tf, t8]
    rfl
theorem t_item5 {X : aX} {q : Nat → Nat → Int32} {r : Nat → Int32} {D : aD} {t n : Nat} {τ : tT} (h : tpX D t) (hv : tvT t τ) (hn : n ≤ 8) (hz : r 1 = nI n) : ∃ r', cl X 2 [aR (6, 0, 0), aR (1, 1, 0)] (mem (rq q 1 r, twT D τ)) = some (some (aI (bi ((itT (D (8, 0, 0)) t n τ).1 = true))), mem (rq q 1 r', twT D (itT (D (8, 0, 0)) t n τ).2.1)) ∧ ((itT (D (8, 0, 0)) t n τ).1 = true → r' = apI n (itT (D (8, 0, 0)) t n τ).2.2 r) := by
  have a12 := fun q => a_T (X := X) (q := q) h hv (show 12 < 14 by decide)
  have a13 := fun q => a_T (X := X) (q := q) h hv (show 13 < 14 by decide)
  unfold itT
  by_cases c12 : atT (D (8, 0, 0)) τ 12
  · rw [if_pos c12]
    by_cases c : nuT (nxT (D (8, 0, 0)) t τ) (nI 0) (nI n - nI 1)
    · rw [if_pos c]
      refine ⟨apI n (fld (nI 10) (nxT (D (8, 0, 0)) t τ).2.2.2 (nI 0) (nI 0) (nI 0) (nI 0)) r, ?_, fun _ => rfl⟩
      have td := t_dead1 (X := X) (q := q) h hv hn hz c
      simp only [nl_n, nl_i, nl_r, x_ci, x_ca, x_bin, x_ife, x_ifl, x_ifg, x_cme, x_cml, x_cmg, x_go, x_no, x_b, x_ps, x_pn, cs_n, cs_i, cs_j, cs_r, en_n, en_i, en_j, en_r, xa0, g_6_0, x_k2_7, xa1, x_k2_6, r_i, r_j, r_v, r_z1, r_z0, r_a, x_k1_6, xs2n, xs2i, xs2r, xi2, x_k1_1, x_k1_7, x_k3_1, xs3n, xs3i, xs3r, xi3, x_k7_6, e2_0, e2_1, e2_4, e2_6, e2_9, e2_12, e2_13, e2_14, e2_17, e2_18, e2_19, e2_22, e2_24, e2_27, e2_30, e2_31, e2_32, e2_35, e2_36, e2_37, e2_40, e2_41, e2_42, e2_45, e2_46, e2_49, e2_52, e2_53, e2_54, e2_55, e2_58, e2_61, e2_62, e2_63, e2_64, e2_67, e2_68, e2_69, e2_70, e2_72, e2_73, e2_74, e2_75, e2_77, e2_80, e2_83, e2_84, e2_85, e2_87, e2_88, e2_89, e2_90, e2_91, e2_92, e2_93, e2_96, e2_99, e2_100, e2_101, e2_103, e2_104, e2_105, e2_106, e2_108, e2_111, e2_114, e2_115, e2_116, e2_118, e2_119, e2_120, e2_121, e2_123, e2_126, e2_129, e2_130, e2_131, e2_133, e2_134, e2_135, e2_136, e2_138, e2_141, e2_144, e2_145, e2_148, e2_149, c2, i10, i00, n2, n10, n20, n60, n8, n9, bi0, ite_not, List.replicate, Nat.reduceAdd, Nat.reduceSub, Nat.reduceLeDiff, Nat.reduceLT, if_true, if_false, mg, reduceIte, not_false_eq_true, eq_self, and_self, and_true, true_and, true_or, or_true, Nat.reduceEqDiff, a12, (bi_t c12), td]
      rfl
    · rw [if_neg c]
      refine ⟨r, ?_, fun w => by cases w⟩
      have td := t_dead0 (X := X) (q := q) h hv hz c
      simp only [nl_n, nl_i, nl_r, x_ci, x_ca, x_bin, x_ife, x_ifl, x_ifg, x_cme, x_cml, x_cmg, x_go, x_no, x_b, x_ps, x_pn, cs_n, cs_i, cs_j, cs_r, en_n, en_i, en_j, en_r, xa0, g_6_0, x_k2_7, xa1, x_k2_6, r_i, r_j, r_v, r_z1, r_z0, r_a, x_k1_6, xs2n, xs2i, xs2r, xi2, x_k1_1, x_k1_7, x_k3_1, xs3n, xs3i, xs3r, xi3, x_k7_6, e2_0, e2_1, e2_4, e2_6, e2_9, e2_12, e2_13, e2_14, e2_17, e2_18, e2_19, e2_22, e2_24, e2_27, e2_30, e2_31, e2_32, e2_35, e2_36, e2_37, e2_40, e2_41, e2_42, e2_45, e2_46, e2_49, e2_52, e2_53, e2_54, e2_55, e2_58, e2_61, e2_62, e2_63, e2_64, e2_67, e2_68, e2_69, e2_70, e2_72, e2_73, e2_74, e2_75, e2_77, e2_80, e2_83, e2_84, e2_85, e2_87, e2_88, e2_89, e2_90, e2_91, e2_92, e2_93, e2_96, e2_99, e2_100, e2_101, e2_103, e2_104, e2_105, e2_106, e2_108, e2_111, e2_114, e2_115, e2_116, e2_118, e2_119, e2_120, e2_121, e2_123, e2_126, e2_129, e2_130, e2_131, e2_133, e2_134, e2_135, e2_136, e2_138, e2_141, e2_144, e2_145, e2_148, e2_149, c2, i10, i00, n2, n10, n20, n60, n8, n9, bi0, ite_not, List.replicate, Nat.reduceAdd, Nat.reduceSub, Nat.reduceLeDiff, Nat.reduceLT, if_true, if_false, mg, reduceIte, not_false_eq_true, eq_self, and_self, and_true, true_and, true_or, or_true, Nat.reduceEqDiff, a12, (bi_t c12), td]
      rfl
  · rw [if_neg c12]
    by_cases c13 : atT (D (8, 0, 0)) τ 13
    · rw [if_pos c13]
      by_cases c : nuT (nxT (D (8, 0, 0)) t τ) (nI 0) (nI n - nI 1)
      · rw [if_pos c]
        by_cases cc2 : nuT (nxT (D (8, 0, 0)) t (nxT (D (8, 0, 0)) t τ)) (nI 1) (nI 99)
        · rw [if_pos cc2]
          refine ⟨apI n (fld (nI 11) (nxT (D (8, 0, 0)) t τ).2.2.2 (nxT (D (8, 0, 0)) t (nxT (D (8, 0, 0)) t τ)).2.2.2 (nI 0) (nI 0) (nI 0)) r, ?_, fun _ => rfl⟩
          have td := t_sgs1 (X := X) (q := q) h hv hn hz c cc2
          simp only [nl_n, nl_i, nl_r, x_ci, x_ca, x_bin, x_ife, x_ifl, x_ifg, x_cme, x_cml, x_cmg, x_go, x_no, x_b, x_ps, x_pn, cs_n, cs_i, cs_j, cs_r, en_n, en_i, en_j, en_r, xa0, g_6_0, x_k2_7, xa1, x_k2_6, r_i, r_j, r_v, r_z1, r_z0, r_a, x_k1_6, xs2n, xs2i, xs2r, xi2, x_k1_1, x_k1_7, x_k3_1, xs3n, xs3i, xs3r, xi3, x_k7_6, e2_0, e2_1, e2_4, e2_6, e2_9, e2_12, e2_13, e2_14, e2_17, e2_18, e2_19, e2_22, e2_24, e2_27, e2_30, e2_31, e2_32, e2_35, e2_36, e2_37, e2_40, e2_41, e2_42, e2_45, e2_46, e2_49, e2_52, e2_53, e2_54, e2_55, e2_58, e2_61, e2_62, e2_63, e2_64, e2_67, e2_68, e2_69, e2_70, e2_72, e2_73, e2_74, e2_75, e2_77, e2_80, e2_83, e2_84, e2_85, e2_87, e2_88, e2_89, e2_90, e2_91, e2_92, e2_93, e2_96, e2_99, e2_100, e2_101, e2_103, e2_104, e2_105, e2_106, e2_108, e2_111, e2_114, e2_115, e2_116, e2_118, e2_119, e2_120, e2_121, e2_123, e2_126, e2_129, e2_130, e2_131, e2_133, e2_134, e2_135, e2_136, e2_138, e2_141, e2_144, e2_145, e2_148, e2_149, c2, i10, i00, n2, n10, n20, n60, n8, n9, bi0, ite_not, List.replicate, Nat.reduceAdd, Nat.reduceSub, Nat.reduceLeDiff, Nat.reduceLT, if_true, if_false, mg, reduceIte, not_false_eq_true, eq_self, and_self, and_true, true_and, true_or, or_true, Nat.reduceEqDiff, a12, a13, (bi_f c12), (bi_t c13), td]
          rfl
        · rw [if_neg cc2]
          refine ⟨r, ?_, fun w => by cases w⟩
          have td := t_sgs2 (X := X) (q := q) h hv hz c cc2
          simp only [nl_n, nl_i, nl_r, x_ci, x_ca, x_bin, x_ife, x_ifl, x_ifg, x_cme, x_cml, x_cmg, x_go, x_no, x_b, x_ps, x_pn, cs_n, cs_i, cs_j, cs_r, en_n, en_i, en_j, en_r, xa0, g_6_0, x_k2_7, xa1, x_k2_6, r_i, r_j, r_v, r_z1, r_z0, r_a, x_k1_6, xs2n, xs2i, xs2r, xi2, x_k1_1, x_k1_7, x_k3_1, xs3n, xs3i, xs3r, xi3, x_k7_6, e2_0, e2_1, e2_4, e2_6, e2_9, e2_12, e2_13, e2_14, e2_17, e2_18, e2_19, e2_22, e2_24, e2_27, e2_30, e2_31, e2_32, e2_35, e2_36, e2_37, e2_40, e2_41, e2_42, e2_45, e2_46, e2_49, e2_52, e2_53, e2_54, e2_55, e2_58, e2_61, e2_62, e2_63, e2_64, e2_67, e2_68, e2_69, e2_70, e2_72, e2_73, e2_74, e2_75, e2_77, e2_80, e2_83, e2_84, e2_85, e2_87, e2_88, e2_89, e2_90, e2_91, e2_92, e2_93, e2_96, e2_99, e2_100, e2_101, e2_103, e2_104, e2_105, e2_106, e2_108, e2_111, e2_114, e2_115, e2_116, e2_118, e2_119, e2_120, e2_121, e2_123, e2_126, e2_129, e2_130, e2_131, e2_133, e2_134, e2_135, e2_136, e2_138, e2_141, e2_144, e2_145, e2_148, e2_149, c2, i10, i00, n2, n10, n20, n60, n8, n9, bi0, ite_not, List.replicate, Nat.reduceAdd, Nat.reduceSub, Nat.reduceLeDiff, Nat.reduceLT, if_true, if_false, mg, reduceIte, not_false_eq_true, eq_self, and_self, and_true, true_and, true_or, or_true, Nat.reduceEqDiff, a12, a13, (bi_f c12), (bi_t c13), td]
          rfl
      · rw [if_neg c]
        refine ⟨r, ?_, fun w => by cases w⟩
        have td := t_sgs0 (X := X) (q := q) h hv hz c
        simp only [nl_n, nl_i, nl_r, x_ci, x_ca, x_bin, x_ife, x_ifl, x_ifg, x_cme, x_cml, x_cmg, x_go, x_no, x_b, x_ps, x_pn, cs_n, cs_i, cs_j, cs_r, en_n, en_i, en_j, en_r, xa0, g_6_0, x_k2_7, xa1, x_k2_6, r_i, r_j, r_v, r_z1, r_z0, r_a, x_k1_6, xs2n, xs2i, xs2r, xi2, x_k1_1, x_k1_7, x_k3_1, xs3n, xs3i, xs3r, xi3, x_k7_6, e2_0, e2_1, e2_4, e2_6, e2_9, e2_12, e2_13, e2_14, e2_17, e2_18, e2_19, e2_22, e2_24, e2_27, e2_30, e2_31, e2_32, e2_35, e2_36, e2_37, e2_40, e2_41, e2_42, e2_45, e2_46, e2_49, e2_52, e2_53, e2_54, e2_55, e2_58, e2_61, e2_62, e2_63, e2_64, e2_67, e2_68, e2_69, e2_70, e2_72, e2_73, e2_74, e2_75, e2_77, e2_80, e2_83, e2_84, e2_85, e2_87, e2_88, e2_89, e2_90, e2_91, e2_92, e2_93, e2_96, e2_99, e2_100, e2_101, e2_103, e2_104, e2_105, e2_106, e2_108, e2_111, e2_114, e2_115, e2_116, e2_118, e2_119, e2_120, e2_121, e2_123, e2_126, e2_129, e2_130, e2_131, e2_133, e2_134, e2_135, e2_136, e2_138, e2_141, e2_144, e2_145, e2_148, e2_149, c2, i10, i00, n2, n10, n20, n60, n8, n9, bi0, ite_not, List.replicate, Nat.reduceAdd, Nat.reduceSub, Nat.reduceLeDiff, Nat.reduceLT, if_true, if_false, mg, reduceIte, not_false_eq_true, eq_self, and_self, and_true, true_and, true_or, or_true, Nat.reduceEqDiff, a12, a13, (bi_f c12), (bi_t c13), td]
        rfl
    · rw [if_neg c13]
      by_cases c7 : kwF (D (8, 0, 0)) τ 7 < 7
      · rw [if_pos c7]
        exact t_sin5 h hv hn hz c12 c13 rfl c7
      · rw [if_neg c7]
        have kw := fun q => t_kow (X := X) (q := q) h hv
        rw [if_neg c7] at kw
        refine ⟨r, ?_, fun w => by cases w⟩
        simp only [nl_n, nl_i, nl_r, x_ci, x_ca, x_bin, x_ife, x_ifl, x_ifg, x_cme, x_cml, x_cmg, x_go, x_no, x_b, x_ps, x_pn, cs_n, cs_i, cs_j, cs_r, en_n, en_i, en_j, en_r, xa0, g_6_0, x_k2_7, xa1, x_k2_6, r_i, r_j, r_v, r_z1, r_z0, r_a, x_k1_6, xs2n, xs2i, xs2r, xi2, x_k1_1, x_k1_7, x_k3_1, xs3n, xs3i, xs3r, xi3, x_k7_6, e2_0, e2_1, e2_4, e2_6, e2_9, e2_12, e2_13, e2_14, e2_17, e2_18, e2_19, e2_22, e2_24, e2_27, e2_30, e2_31, e2_32, e2_35, e2_36, e2_37, e2_40, e2_41, e2_42, e2_45, e2_46, e2_49, e2_52, e2_53, e2_54, e2_55, e2_58, e2_61, e2_62, e2_63, e2_64, e2_67, e2_68, e2_69, e2_70, e2_72, e2_73, e2_74, e2_75, e2_77, e2_80, e2_83, e2_84, e2_85, e2_87, e2_88, e2_89, e2_90, e2_91, e2_92, e2_93, e2_96, e2_99, e2_100, e2_101, e2_103, e2_104, e2_105, e2_106, e2_108, e2_111, e2_114, e2_115, e2_116, e2_118, e2_119, e2_120, e2_121, e2_123, e2_126, e2_129, e2_130, e2_131, e2_133, e2_134, e2_135, e2_136, e2_138, e2_141, e2_144, e2_145, e2_148, e2_149, c2, i10, i00, n2, n10, n20, n60, n8, n9, bi0, ite_not, List.replicate, Nat.reduceAdd, Nat.reduceSub, Nat.reduceLeDiff, Nat.reduceLT, if_true, if_false, mg, reduceIte, not_false_eq_true, eq_self, and_self, and_true, true_and, true_or, or_true, Nat.reduceEqDiff, a12, a13, (bi_f c12), (bi_f c13), kw, m1_lt]
        rfl
