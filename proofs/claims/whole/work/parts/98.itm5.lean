/-! ONE ITEM OF THE TEXT -/
def fld (a0 a1 a2 a3 a4 a5 : Int32) : Nat → Int32 := fun j => if j = 0 then a0 else if j = 1 then a1 else if j = 2 then a2 else if j = 3 then a3 else if j = 4 then a4 else a5
def no6 : Nat → Int32 := fun _ => nI 0
def kwF (b : Nat → Int32) (τ : tT) : Nat → Nat
  | 0 => 7
  | m + 1 => if atT b τ (7 - (m + 1)) then 7 - (m + 1) else kwF b τ m
theorem kw_s (b : Nat → Int32) (τ : tT) (m : Nat) : kwF b τ (m + 1) = if atT b τ (7 - (m + 1)) then 7 - (m + 1) else kwF b τ m := rfl
theorem wd_un : ∀ w, w < 14 → ∀ w', w' < 14 → wln w = wln w' → (∀ i, i < wln w → wby w i = wby w' i) → w = w' := by decide +kernel
theorem at_un {b : Nat → Int32} {τ : tT} {w w' : Nat} (hw : w < 14) (hw' : w' < 14) (h : atT b τ w) (h' : atT b τ w') : w = w' := by
  have e : wln w = wln w' := by have a := h.2.1; have c := h'.2.1; omega
  exact wd_un w hw w' hw' e (fun i hi => (h.2.2 i hi).symm.trans (h'.2.2 i (by omega)))
theorem kw_b {b : Nat → Int32} {τ : tT} : ∀ m, m ≤ 7 → (kwF b τ m = 7 ∧ (∀ k, 7 - m ≤ k → k < 7 → ¬ atT b τ k)) ∨ (7 - m ≤ kwF b τ m ∧ kwF b τ m < 7 ∧ atT b τ (kwF b τ m)) := by
  intro m
  induction m with
  | zero => intro _; exact Or.inl ⟨rfl, fun k h1 h2 => by omega⟩
  | succ m ih =>
    intro hm
    rw [kw_s]
    by_cases c : atT b τ (7 - (m + 1))
    · rw [if_pos c]
      exact Or.inr ⟨Nat.le_refl _, by omega, c⟩
    · rw [if_neg c]
      rcases ih (by omega) with ⟨h1, h2⟩ | ⟨h1, h2, h3⟩
      · refine Or.inl ⟨h1, fun k k1 k2 => ?_⟩
        by_cases e : k = 7 - (m + 1)
        · rw [e]; exact c
        · exact h2 k (by omega) k2
      · exact Or.inr ⟨by omega, h2, h3⟩
def siT (b : Nat → Int32) (t n kd : Nat) (τ : tT) : Bool × tT × (Nat → Int32) :=
  if n < 8 then
    (let o1 := owT b t 7 (nI 0) (nI 59) (nI 0) (nxT b t τ)
     if o1.1 = true then
      (let o2 := owT b t 8 (nI 0) (nI n - nI 1) (-1) o1.2.1
       if o2.1 = true then
        (let o3 := owT b t 9 (nI 0) (nI 99) (nI 60) o2.2.1
         if o3.1 = true then
          (let o4 := owT b t 10 (nI 0) (nI 120) (nI 30) o3.2.1
           if o4.1 = true then
            (let o5 := owT b t 11 (nI 1) (nI 9) (nI 3) o4.2.1
             if o5.1 = true then (true, o5.2.1, fld (nI kd) o1.2.2 o2.2.2 o3.2.2 o4.2.2 o5.2.2) else (false, o5.2.1, no6))
           else (false, o4.2.1, no6))
         else (false, o3.2.1, no6))
       else (false, o2.2.1, no6))
     else (false, o1.2.1, no6))
  else (false, τ, no6)
def itT (b : Nat → Int32) (t n : Nat) (τ : tT) : Bool × tT × (Nat → Int32) :=
  if atT b τ 12 then
    (if nuT (nxT b t τ) (nI 0) (nI n - nI 1) then (true, nxT b t (nxT b t τ), fld (nI 10) (nxT b t τ).2.2.2 (nI 0) (nI 0) (nI 0) (nI 0)) else (false, nxT b t τ, no6))
  else if atT b τ 13 then
    (if nuT (nxT b t τ) (nI 0) (nI n - nI 1) then
      (if nuT (nxT b t (nxT b t τ)) (nI 1) (nI 99) then (true, nxT b t (nxT b t (nxT b t τ)), fld (nI 11) (nxT b t τ).2.2.2 (nxT b t (nxT b t τ)).2.2.2 (nI 0) (nI 0) (nI 0)) else (false, nxT b t (nxT b t τ), no6))
     else (false, nxT b t τ, no6))
  else if kwF b τ 7 < 7 then siT b t n (kwF b τ 7) τ else (false, τ, no6)
/-- what an item does to a row -/
def apI (n : Nat) (f : Nat → Int32) (r : Nat → Int32) : Nat → Int32 :=
  if f 0 = nI 10 then upd r (14 + 10 * (f 1).toNatClampNeg + 6) (nI 1)
  else if f 0 = nI 11 then upd r (14 + 10 * (f 1).toNatClampNeg + 7) (f 2)
  else upd (upd (upd (upd (adF n r (f 0) (f 1)) (14 + 10 * n + 2) (f 2)) (14 + 10 * n + 3) (f 3)) (14 + 10 * n + 4) (f 4)) (14 + 10 * n + 5) (f 5)
theorem l_kow {X : aX} {q : Nat → Nat → Int32} {D : aD} {t : Nat} {τ : tT} (h : tpX D t) (hv : tvT t τ) : ∀ m k, k + m = 7 → go X 7 2 [some (aR (6, 0, 0)), some (aI (nI k))] [] (mem (q, twT D τ)) = some (some (aI (if kwF (D (8, 0, 0)) τ m < 7 then nI (kwF (D (8, 0, 0)) τ m) else -1)), mem (q, twT D τ)) := by
  have wo : ∀ k, k < 7 → cl X 8 [aI (nI k)] (mem (q, twT D τ)) = some (some (aR (80, k, 0)), mem (q, twT D τ)) := by
    intro k hk
    rcases (show k = 0 ∨ k = 1 ∨ k = 2 ∨ k = 3 ∨ k = 4 ∨ k = 5 ∨ k = 6 by omega) with rfl | rfl | rfl | rfl | rfl | rfl | rfl <;> simp only [nl_n, nl_i, nl_r, x_ci, x_ca, x_bin, x_ife, x_ifl, x_ifg, x_cme, x_cml, x_cmg, x_go, x_no, x_b, x_ps, x_pn, cs_n, cs_i, cs_j, cs_r, en_n, en_i, en_j, en_r, xi0, x_sw, x_sw0, r_i, r_j, r_v, r_z1, r_z0, r_a, e8_0, e8_1, e8_40, e8_42, e8_43, e8_45, e8_46, e8_48, e8_49, e8_51, e8_52, e8_54, e8_55, e8_57, e8_58, e8_60, c8, i10, i00, n2, n10, n20, n60, n8, n9, bi0, ite_not, List.replicate, Nat.reduceAdd, Nat.reduceSub, Nat.reduceLeDiff, Nat.reduceLT, if_true, if_false, mg, reduceIte, not_false_eq_true, eq_self, and_self, and_true, true_and, true_or, or_true, Nat.reduceEqDiff] <;> rfl
  intro m
  induction m with
  | zero =>
    intro k hk
    have e : kwF (D (8, 0, 0)) τ 0 = 7 := rfl
    rw [e, if_neg (by decide), e7_2]
    simp only [nl_n, nl_i, nl_r, x_ci, x_ca, x_bin, x_ife, x_ifl, x_ifg, x_cme, x_cml, x_cmg, x_go, x_no, x_b, x_ps, x_pn, cs_n, cs_i, cs_j, cs_r, en_n, en_i, en_j, en_r, xs1n, xs1i, xs1r, xi1, xa0, g_6_0, x_k1_s, x_k2_7, r_i, r_j, r_v, r_z1, r_z0, r_a, xn1n, xn1i, xn1r, e7_0, e7_1, e7_3, e7_5, e7_8, e7_9, e7_12, e7_13, e7_16, e7_19, e7_22, e7_23, e7_24, e7_27, e7_30, e7_31, c7, i10, i00, n2, n10, n20, n60, n8, n9, bi0, ite_not, List.replicate, Nat.reduceAdd, Nat.reduceSub, Nat.reduceLeDiff, Nat.reduceLT, if_true, if_false, mg, reduceIte, not_false_eq_true, eq_self, and_self, and_true, true_and, true_or, or_true, Nat.reduceEqDiff, (nI_lt (show 6 < k by omega) (show k < 2 ^ 31 by omega))]
  | succ m ih =>
    intro k hk
    have a := a_T (X := X) (q := q) h hv (show k < 14 by omega)
    have w := wo k (by omega)
    have ek : 7 - (m + 1) = k := by omega
    rw [kw_s, ek, e7_2]
    by_cases c : atT (D (8, 0, 0)) τ k
    · rw [if_pos c, if_pos (by omega)]
      simp only [nl_n, nl_i, nl_r, x_ci, x_ca, x_bin, x_ife, x_ifl, x_ifg, x_cme, x_cml, x_cmg, x_go, x_no, x_b, x_ps, x_pn, cs_n, cs_i, cs_j, cs_r, en_n, en_i, en_j, en_r, xs1n, xs1i, xs1r, xi1, xa0, g_6_0, x_k1_s, x_k2_7, r_i, r_j, r_v, r_z1, r_z0, r_a, xn1n, xn1i, xn1r, e7_0, e7_1, e7_3, e7_5, e7_8, e7_9, e7_12, e7_13, e7_16, e7_19, e7_22, e7_23, e7_24, e7_27, e7_30, e7_31, c7, i10, i00, n2, n10, n20, n60, n8, n9, bi0, ite_not, List.replicate, Nat.reduceAdd, Nat.reduceSub, Nat.reduceLeDiff, Nat.reduceLT, if_true, if_false, mg, reduceIte, not_false_eq_true, eq_self, and_self, and_true, true_and, true_or, or_true, Nat.reduceEqDiff, (nI_nlt (show k ≤ 6 by omega) (show 6 < 2 ^ 31 by decide)), w, a, (bi_t c)]
    · rw [if_neg c, ← ih (k + 1) (by omega)]
      simp only [nl_n, nl_i, nl_r, x_ci, x_ca, x_bin, x_ife, x_ifl, x_ifg, x_cme, x_cml, x_cmg, x_go, x_no, x_b, x_ps, x_pn, cs_n, cs_i, cs_j, cs_r, en_n, en_i, en_j, en_r, xs1n, xs1i, xs1r, xi1, xa0, g_6_0, x_k1_s, x_k2_7, r_i, r_j, r_v, r_z1, r_z0, r_a, xn1n, xn1i, xn1r, e7_0, e7_1, e7_3, e7_5, e7_8, e7_9, e7_12, e7_13, e7_16, e7_19, e7_22, e7_23, e7_24, e7_27, e7_30, e7_31, c7, i10, i00, n2, n10, n20, n60, n8, n9, bi0, ite_not, List.replicate, Nat.reduceAdd, Nat.reduceSub, Nat.reduceLeDiff, Nat.reduceLT, if_true, if_false, mg, reduceIte, not_false_eq_true, eq_self, and_self, and_true, true_and, true_or, or_true, Nat.reduceEqDiff, (nI_nlt (show k ≤ 6 by omega) (show 6 < 2 ^ 31 by decide)), w, a, (bi_f c), nI_add]
theorem t_kow {X : aX} {q : Nat → Nat → Int32} {D : aD} {t : Nat} {τ : tT} (h : tpX D t) (hv : tvT t τ) : cl X 7 [aR (6, 0, 0)] (mem (q, twT D τ)) = some (some (aI (if kwF (D (8, 0, 0)) τ 7 < 7 then nI (kwF (D (8, 0, 0)) τ 7) else -1)), mem (q, twT D τ)) := by
  rw [← l_kow (X := X) (q := q) h hv 7 0 (by omega)]
  simp only [nl_n, nl_i, nl_r, x_ci, x_ca, x_bin, x_ife, x_ifl, x_ifg, x_cme, x_cml, x_cmg, x_go, x_no, x_b, x_ps, x_pn, cs_n, cs_i, cs_j, cs_r, en_n, en_i, en_j, en_r, xs1n, xs1i, xs1r, xi1, xa0, g_6_0, x_k1_s, x_k2_7, r_i, r_j, r_v, r_z1, r_z0, r_a, xn1n, xn1i, xn1r, e7_0, e7_1, e7_3, e7_5, e7_8, e7_9, e7_12, e7_13, e7_16, e7_19, e7_22, e7_23, e7_24, e7_27, e7_30, e7_31, c7, i10, i00, n2, n10, n20, n60, n8, n9, bi0, ite_not, List.replicate, Nat.reduceAdd, Nat.reduceSub, Nat.reduceLeDiff, Nat.reduceLT, if_true, if_false, mg, reduceIte, not_false_eq_true, eq_self, and_self, and_true, true_and, true_or, or_true, Nat.reduceEqDiff]
theorem nu_a {τ : tT} {n : Nat} (hn : n ≤ 8) (h : nuT τ (nI 0) (nI n - nI 1)) : ∃ a, a < n ∧ τ.2.2.2 = nI a := wi_sz (by omega) h.2
