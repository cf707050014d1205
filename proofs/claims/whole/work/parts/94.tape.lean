/-! THE TAPE, TOKEN BY TOKEN -/
def tcl (b : Nat → Int32) (t p : Nat) : Nat := if p < t then (if wi (b p) (nI 97) (nI 122) then 1 else if wi (b p) (nI 48) (nI 57) then 2 else if b p = nI 59 then 3 else 4) else 0
def skF (b : Nat → Int32) : Nat → Nat → Nat
  | 0, p => p
  | k + 1, p => if b p = nI 32 then skF b k (p + 1) else p
def rnF (b : Nat → Int32) (t c : Nat) : Nat → Nat → Nat
  | 0, p => p
  | k + 1, p => if tcl b t p = c then rnF b t c k (p + 1) else p
def dgF (b : Nat → Int32) (i : Nat) (v : Int32) : Int32 := mn (v * nI 10 + b i - nI 48) (nI 1000)
theorem skF_s (b : Nat → Int32) (k p : Nat) : skF b (k + 1) p = if b p = nI 32 then skF b k (p + 1) else p := rfl
theorem rnF_s (b : Nat → Int32) (t c k p : Nat) : rnF b t c (k + 1) p = if tcl b t p = c then rnF b t c k (p + 1) else p := rfl
theorem sk_b (b : Nat → Int32) : ∀ k p, p ≤ skF b k p ∧ skF b k p ≤ p + k := by
  intro k
  induction k with
  | zero => intro p; exact ⟨Nat.le_refl p, Nat.le_refl p⟩
  | succ k ih =>
    intro p
    rw [skF_s]
    split
    · have := ih (p + 1); omega
    · omega
theorem rn_b (b : Nat → Int32) (t c : Nat) : ∀ k p, p ≤ rnF b t c k p ∧ rnF b t c k p ≤ p + k := by
  intro k
  induction k with
  | zero => intro p; exact ⟨Nat.le_refl p, Nat.le_refl p⟩
  | succ k ih =>
    intro p
    rw [rnF_s]
    split
    · have := ih (p + 1); omega
    · omega
theorem tcl4 (b : Nat → Int32) (t p : Nat) : tcl b t p ≤ 4 := by
  unfold tcl
  (repeat' split) <;> decide
theorem tcl0 {b : Nat → Int32} {t p : Nat} : tcl b t p = 0 ↔ t ≤ p := by
  unfold tcl
  by_cases c : p < t
  · rw [if_pos c]
    constructor
    · intro h
      exfalso
      revert h
      (repeat' split) <;> decide
    · intro h; omega
  · rw [if_neg c]
    exact ⟨fun _ => by omega, fun _ => rfl⟩
/-- the token from e on: where it begins, its sort, where it ends, its number -/
def tkP (b : Nat → Int32) (t e : Nat) : Nat := skF b (t - e) e
def tkK (b : Nat → Int32) (t e : Nat) : Nat := tcl b t (tkP b t e)
def tkE (b : Nat → Int32) (t e : Nat) : Nat := if tkK b t e = 0 then tkP b t e else if tkK b t e = 1 ∨ tkK b t e = 2 then rnF b t (tkK b t e) (t - (tkP b t e + 1)) (tkP b t e + 1) else tkP b t e + 1
def tkV (b : Nat → Int32) (t e : Nat) : Int32 := if tkK b t e = 2 then lp (dgF b) (tkE b t e - tkP b t e) (tkP b t e) (nI 0) else nI 0
theorem tk_b {b : Nat → Int32} {t e : Nat} (h : e ≤ t) : e ≤ tkP b t e ∧ tkP b t e ≤ tkE b t e ∧ tkE b t e ≤ t ∧ tkK b t e ≤ 4 ∧ (tkK b t e ≠ 0 → tkP b t e < t ∧ tkP b t e < tkE b t e) := by
  have h1 := sk_b b (t - e) e
  have e1 : tkP b t e = skF b (t - e) e := rfl
  rw [← e1] at h1
  have h4 : tkK b t e ≤ 4 := tcl4 ..
  have h0 : tkK b t e = 0 ↔ t ≤ tkP b t e := tcl0
  have h2 := rn_b b t (tkK b t e) (t - (tkP b t e + 1)) (tkP b t e + 1)
  unfold tkE
  by_cases c : tkK b t e = 0
  · rw [if_pos c]
    exact ⟨h1.1, Nat.le_refl _, by omega, h4, fun w => absurd c w⟩
  · rw [if_neg c]
    have hp : tkP b t e < t := Nat.lt_of_not_le (fun w => c (h0.2 w))
    split
    · exact ⟨h1.1, by omega, by omega, h4, fun _ => ⟨hp, by omega⟩⟩
    · exact ⟨h1.1, by omega, by omega, h4, fun _ => ⟨hp, by omega⟩⟩
def twD (D : aD) (p e k v : Int32) : aD := fun r j => if r = (7, 0, 0) ∧ j = 2 then k else if r = (7, 0, 0) ∧ j = 3 then p else if r = (7, 0, 0) ∧ j = 4 then v else if r = (7, 0, 0) ∧ j = 5 then e else D r j
theorem tw_1 {D : aD} {p e k v : Int32} : twD D p e k v (7, 0, 0) 1 = D (7, 0, 0) 1 := by simp [twD]
theorem tw_2 {D : aD} {p e k v : Int32} : twD D p e k v (7, 0, 0) 2 = k := by simp [twD]
theorem tw_3 {D : aD} {p e k v : Int32} : twD D p e k v (7, 0, 0) 3 = p := by simp [twD]
theorem tw_4 {D : aD} {p e k v : Int32} : twD D p e k v (7, 0, 0) 4 = v := by simp [twD]
theorem tw_5 {D : aD} {p e k v : Int32} : twD D p e k v (7, 0, 0) 5 = e := by simp [twD]
theorem tw_8 {D : aD} {p e k v : Int32} {j : Nat} : twD D p e k v (8, 0, 0) j = D (8, 0, 0) j := by simp [twD]
theorem tw_8f {D : aD} {p e k v : Int32} : twD D p e k v (8, 0, 0) = D (8, 0, 0) := funext (fun _ => tw_8)
theorem tw_u2 {D : aD} {p e k v x : Int32} : uD (twD D p e k v) (7, 0, 0) 2 x = twD D p e x v := by
  funext r j
  unfold uD twD
  by_cases c : r = (7, 0, 0) ∧ j = 2
  · rw [if_pos c, if_pos c]
  · rw [if_neg c, if_neg c, if_neg c]
theorem tw_u3 {D : aD} {p e k v x : Int32} : uD (twD D p e k v) (7, 0, 0) 3 x = twD D x e k v := by
  funext r j
  unfold uD twD
  by_cases c : r = (7, 0, 0) ∧ j = 3
  · rw [if_pos c, if_neg (fun w => by have := c.2.symm.trans w.2; omega), if_pos c]
  · rw [if_neg c, if_neg c, if_neg c]
theorem tw_u4 {D : aD} {p e k v x : Int32} : uD (twD D p e k v) (7, 0, 0) 4 x = twD D p e k x := by
  funext r j
  unfold uD twD
  by_cases c : r = (7, 0, 0) ∧ j = 4
  · rw [if_pos c, if_neg (fun w => by have := c.2.symm.trans w.2; omega), if_neg (fun w => by have := c.2.symm.trans w.2; omega), if_pos c]
  · rw [if_neg c, if_neg c, if_neg c]
theorem tw_u5 {D : aD} {p e k v x : Int32} : uD (twD D p e k v) (7, 0, 0) 5 x = twD D p x k v := by
  funext r j
  unfold uD twD
  by_cases c : r = (7, 0, 0) ∧ j = 5
  · rw [if_pos c, if_neg (fun w => by have := c.2.symm.trans w.2; omega), if_neg (fun w => by have := c.2.symm.trans w.2; omega), if_neg (fun w => by have := c.2.symm.trans w.2; omega), if_pos c]
  · rw [if_neg c, if_neg c, if_neg c]
theorem tw_self (D : aD) : twD D (D (7, 0, 0) 3) (D (7, 0, 0) 5) (D (7, 0, 0) 2) (D (7, 0, 0) 4) = D := by
  funext r j
  unfold twD
  split
  · rename_i c; rw [c.1, c.2]
  · split
    · rename_i c; rw [c.1, c.2]
    · split
      · rename_i c; rw [c.1, c.2]
      · split
        · rename_i c; rw [c.1, c.2]
        · rfl
theorem tw_eqJ {D : aD} {p e k v : Int32} : eqJ D (twD D p e k v) := by
  intro r j h
  have h7 : ¬ (r.1 = 7 ∧ 2 ≤ j) := fun w => h (Or.inr (Or.inr (Or.inr (Or.inr (Or.inl w)))))
  unfold twD
  rw [if_neg (fun w => h7 ⟨by rw [w.1], by omega⟩), if_neg (fun w => h7 ⟨by rw [w.1], by omega⟩), if_neg (fun w => h7 ⟨by rw [w.1], by omega⟩), if_neg (fun w => h7 ⟨by rw [w.1], by omega⟩)]
theorem t_tokW {X : aX} {S : aS} {t p : Nat} (ht : t ≤ 120) (h : S.2 (7, 0, 0) 1 = nI t) (hp : p < 2 ^ 31) : cl X 59 [aR (7, 0, 0), aI (nI p)] (mem S) = some (some (aI (nI (tcl (S.2 (8, 0, 0)) t p))), mem S) := by
  unfold tcl
  have lt : (nI p < nI t) = (p < t) := propext (nI_ltI hp (by omega))
  by_cases c : p < t
  · have h120 : p < 120 := by omega
    rw [if_pos c]
    simp only [nl_n, nl_i, nl_r, x_ci, x_ca, x_bin, x_ife, x_ifl, x_ifg, x_cme, x_cml, x_cmg, x_go, x_no, x_b, x_ps, x_pn, cs_n, cs_i, cs_j, cs_r, en_n, en_i, en_j, en_r, xi1, xa0, g_7_1, r_i, r_j, r_v, r_z1, r_z0, r_a, g_7_0, l_3, l_5, l_8, l_11, l_12, l_21, l_22, l_23, l_24, l_25, l_26, l_28, l_29, l_30, l_31, l_32, xs2n, xs2i, xs2r, xi2, e59_0, e59_1, e59_4, e59_5, e59_6, e59_9, e59_12, e59_13, e59_14, e59_15, e59_18, e59_19, e59_20, e59_21, e59_22, e59_24, e59_27, e59_28, e59_30, e59_33, e59_34, e59_35, e59_36, e59_38, e59_41, e59_42, e59_44, e59_47, e59_48, e59_49, e59_50, e59_52, e59_55, e59_56, e59_59, e59_60, c59, i10, i00, n2, n10, n20, n60, n8, n9, bi0, ite_not, List.replicate, Nat.reduceAdd, Nat.reduceSub, Nat.reduceLeDiff, Nat.reduceLT, if_true, if_false, mg, reduceIte, not_false_eq_true, eq_self, and_self, and_true, true_and, true_or, or_true, Nat.reduceEqDiff, h, (nI_pos hp), lt, c, h120]
    by_cases a1 : S.2 (8, 0, 0) p < nI 97
    · rw [if_neg (show ¬ wi (S.2 (8, 0, 0) p) (nI 97) (nI 122) from fun w => w.1 a1)]
      by_cases a3 : S.2 (8, 0, 0) p < nI 48
      · rw [if_neg (show ¬ wi (S.2 (8, 0, 0) p) (nI 48) (nI 57) from fun w => w.1 a3)]
        simp only [a1, a3, if_true]
        split <;> rfl
      · by_cases a4 : nI 57 < S.2 (8, 0, 0) p
        · rw [if_neg (show ¬ wi (S.2 (8, 0, 0) p) (nI 48) (nI 57) from fun w => w.2 a4)]
          simp only [a1, a3, a4, if_true, if_false]
          split <;> rfl
        · rw [if_pos (show wi (S.2 (8, 0, 0) p) (nI 48) (nI 57) from ⟨a3, a4⟩)]
          simp only [a1, a3, a4, if_true, if_false]
    · by_cases a2 : nI 122 < S.2 (8, 0, 0) p
      · rw [if_neg (show ¬ wi (S.2 (8, 0, 0) p) (nI 97) (nI 122) from fun w => w.2 a2)]
        by_cases a3 : S.2 (8, 0, 0) p < nI 48
        · rw [if_neg (show ¬ wi (S.2 (8, 0, 0) p) (nI 48) (nI 57) from fun w => w.1 a3)]
          simp only [a1, a2, a3, if_true, if_false]
          split <;> rfl
        · by_cases a4 : nI 57 < S.2 (8, 0, 0) p
          · rw [if_neg (show ¬ wi (S.2 (8, 0, 0) p) (nI 48) (nI 57) from fun w => w.2 a4)]
            simp only [a1, a2, a3, a4, if_true, if_false]
            split <;> rfl
          · rw [if_pos (show wi (S.2 (8, 0, 0) p) (nI 48) (nI 57) from ⟨a3, a4⟩)]
            simp only [a1, a2, a3, a4, if_true, if_false]
      · rw [if_pos (show wi (S.2 (8, 0, 0) p) (nI 97) (nI 122) from ⟨a1, a2⟩)]
        simp only [a1, a2, if_false]
  · rw [if_neg c]
    simp only [nl_n, nl_i, nl_r, x_ci, x_ca, x_bin, x_ife, x_ifl, x_ifg, x_cme, x_cml, x_cmg, x_go, x_no, x_b, x_ps, x_pn, cs_n, cs_i, cs_j, cs_r, en_n, en_i, en_j, en_r, xi1, xa0, g_7_1, r_i, r_j, r_v, r_z1, r_z0, r_a, g_7_0, l_3, l_5, l_8, l_11, l_12, l_21, l_22, l_23, l_24, l_25, l_26, l_28, l_29, l_30, l_31, l_32, xs2n, xs2i, xs2r, xi2, e59_0, e59_1, e59_4, e59_5, e59_6, e59_9, e59_12, e59_13, e59_14, e59_15, e59_18, e59_19, e59_20, e59_21, e59_22, e59_24, e59_27, e59_28, e59_30, e59_33, e59_34, e59_35, e59_36, e59_38, e59_41, e59_42, e59_44, e59_47, e59_48, e59_49, e59_50, e59_52, e59_55, e59_56, e59_59, e59_60, c59, i10, i00, n2, n10, n20, n60, n8, n9, bi0, ite_not, List.replicate, Nat.reduceAdd, Nat.reduceSub, Nat.reduceLeDiff, Nat.reduceLT, if_true, if_false, mg, reduceIte, not_false_eq_true, eq_self, and_self, and_true, true_and, true_or, or_true, Nat.reduceEqDiff, h, (nI_pos hp), lt, c]
theorem l_dig {X : aX} {S : aS} {e : Nat} (he : e ≤ 120) (h : S.2 (7, 0, 0) 5 = nI e) : ∀ k i v, i + k = e → go X 58 7 [some (aR (7, 0, 0)), some (aI v), some (aI (nI i))] [] (mem S) = some (some (aI (lp (dgF (S.2 (8, 0, 0))) k i v)), mem S) := by
  intro k
  induction k with
  | zero =>
    intro i v hi
    rw [e58_7]
    simp only [nl_n, nl_i, nl_r, x_ci, x_ca, x_bin, x_ife, x_ifl, x_ifg, x_cme, x_cml, x_cmg, x_go, x_no, x_b, x_ps, x_pn, cs_n, cs_i, cs_j, cs_r, en_n, en_i, en_j, en_r, xs1n, xs1i, xs1r, xa0, g_7_3, xs2n, xs2i, xs2r, xi2, g_7_5, xi1, g_7_0, l_3, l_5, l_8, l_11, l_12, l_21, l_22, l_23, l_24, l_25, l_26, l_28, l_29, l_30, l_31, l_32, x_min, xn2n, xn2i, xn2r, r_i, r_j, r_v, r_z1, r_z0, r_a, e58_0, e58_1, e58_2, e58_3, e58_6, e58_8, e58_9, e58_12, e58_15, e58_16, e58_18, e58_19, e58_20, e58_23, e58_24, e58_25, e58_26, e58_28, e58_29, e58_32, e58_35, e58_36, e58_39, e58_42, e58_43, c58, i10, i00, n2, n10, n20, n60, n8, n9, bi0, ite_not, List.replicate, Nat.reduceAdd, Nat.reduceSub, Nat.reduceLeDiff, Nat.reduceLT, if_true, if_false, mg, reduceIte, not_false_eq_true, eq_self, and_self, and_true, true_and, true_or, or_true, Nat.reduceEqDiff, h, (nI_nlt (show e ≤ i by omega) (show i < 2 ^ 31 by omega))]
    rfl
  | succ k ih =>
    intro i v hi
    have h120 : i < 120 := by omega
    rw [e58_7, lp_s, ← ih (i + 1) _ (by omega)]
    simp only [nl_n, nl_i, nl_r, x_ci, x_ca, x_bin, x_ife, x_ifl, x_ifg, x_cme, x_cml, x_cmg, x_go, x_no, x_b, x_ps, x_pn, cs_n, cs_i, cs_j, cs_r, en_n, en_i, en_j, en_r, xs1n, xs1i, xs1r, xa0, g_7_3, xs2n, xs2i, xs2r, xi2, g_7_5, xi1, g_7_0, l_3, l_5, l_8, l_11, l_12, l_21, l_22, l_23, l_24, l_25, l_26, l_28, l_29, l_30, l_31, l_32, x_min, xn2n, xn2i, xn2r, r_i, r_j, r_v, r_z1, r_z0, r_a, e58_0, e58_1, e58_2, e58_3, e58_6, e58_8, e58_9, e58_12, e58_15, e58_16, e58_18, e58_19, e58_20, e58_23, e58_24, e58_25, e58_26, e58_28, e58_29, e58_32, e58_35, e58_36, e58_39, e58_42, e58_43, c58, i10, i00, n2, n10, n20, n60, n8, n9, bi0, ite_not, List.replicate, Nat.reduceAdd, Nat.reduceSub, Nat.reduceLeDiff, Nat.reduceLT, if_true, if_false, mg, reduceIte, not_false_eq_true, eq_self, and_self, and_true, true_and, true_or, or_true, Nat.reduceEqDiff, h, (nI_lt (show i < e by omega) (show e < 2 ^ 31 by omega)), h120, nI_add]
    rfl
theorem l_skip {X : aX} {q : Nat → Nat → Int32} {D : aD} {t : Nat} {e k0 v : Int32} (ht : t ≤ 120) (h : D (7, 0, 0) 1 = nI t) : ∀ k p, p + k = t → go X 57 8 [some (aR (7, 0, 0))] [] (mem (q, twD D (nI p) e k0 v)) = go X 57 46 [some (aR (7, 0, 0))] [] (mem (q, twD D (nI (skF (D (8, 0, 0)) k p)) e k0 v)) := by
  intro k
  induction k with
  | zero =>
    intro p hp
    rw [e57_8]
    simp only [nl_n, nl_i, nl_r, x_ci, x_ca, x_bin, x_ife, x_ifl, x_ifg, x_cme, x_cml, x_cmg, x_go, x_no, x_b, x_ps, x_pn, cs_n, cs_i, cs_j, cs_r, en_n, en_i, en_j, en_r, xa0, g_7_5, p_7_3, g_7_3, g_7_1, g_7_0, l_3, l_5, l_8, l_11, l_12, l_21, l_22, l_23, l_24, l_25, l_26, l_28, l_29, l_30, l_31, l_32, x_dupi, x_dupr, x_k2_7, p_7_2, g_7_2, p_7_5, x_k1_7, p_7_4, r_i, r_j, r_v, r_z1, r_z0, r_a, e57_0, e57_1, e57_2, e57_5, e57_9, e57_12, e57_13, e57_16, e57_19, e57_20, e57_23, e57_24, e57_27, e57_28, e57_30, e57_33, e57_34, e57_35, e57_38, e57_39, e57_40, e57_43, e57_47, e57_48, e57_49, e57_52, e57_55, e57_58, e57_59, e57_60, e57_63, e57_66, e57_67, e57_70, e57_73, e57_74, e57_77, e57_78, e57_79, e57_82, e57_83, e57_86, e57_87, e57_90, e57_91, e57_94, e57_95, e57_99, e57_102, e57_103, e57_106, e57_109, e57_110, e57_111, e57_114, e57_117, e57_118, e57_121, e57_124, e57_125, e57_126, e57_129, e57_130, e57_131, e57_134, e57_137, e57_138, e57_139, e57_142, e57_143, e57_146, e57_147, e57_150, e57_153, e57_154, e57_157, c57, i10, i00, n2, n10, n20, n60, n8, n9, bi0, ite_not, List.replicate, Nat.reduceAdd, Nat.reduceSub, Nat.reduceLeDiff, Nat.reduceLT, if_true, if_false, mg, reduceIte, not_false_eq_true, eq_self, and_self, and_true, true_and, true_or, or_true, Nat.reduceEqDiff, tw_1, tw_3, h, (nI_nlt (show t ≤ p by omega) (show p < 2 ^ 31 by omega))]
    rfl
  | succ k ih =>
    intro p hp
    have h120 : p < 120 := by omega
    rw [e57_8, skF_s]
    simp only [nl_n, nl_i, nl_r, x_ci, x_ca, x_bin, x_ife, x_ifl, x_ifg, x_cme, x_cml, x_cmg, x_go, x_no, x_b, x_ps, x_pn, cs_n, cs_i, cs_j, cs_r, en_n, en_i, en_j, en_r, xa0, g_7_5, p_7_3, g_7_3, g_7_1, g_7_0, l_3, l_5, l_8, l_11, l_12, l_21, l_22, l_23, l_24, l_25, l_26, l_28, l_29, l_30, l_31, l_32, x_dupi, x_dupr, x_k2_7, p_7_2, g_7_2, p_7_5, x_k1_7, p_7_4, r_i, r_j, r_v, r_z1, r_z0, r_a, e57_0, e57_1, e57_2, e57_5, e57_9, e57_12, e57_13, e57_16, e57_19, e57_20, e57_23, e57_24, e57_27, e57_28, e57_30, e57_33, e57_34, e57_35, e57_38, e57_39, e57_40, e57_43, e57_47, e57_48, e57_49, e57_52, e57_55, e57_58, e57_59, e57_60, e57_63, e57_66, e57_67, e57_70, e57_73, e57_74, e57_77, e57_78, e57_79, e57_82, e57_83, e57_86, e57_87, e57_90, e57_91, e57_94, e57_95, e57_99, e57_102, e57_103, e57_106, e57_109, e57_110, e57_111, e57_114, e57_117, e57_118, e57_121, e57_124, e57_125, e57_126, e57_129, e57_130, e57_131, e57_134, e57_137, e57_138, e57_139, e57_142, e57_143, e57_146, e57_147, e57_150, e57_153, e57_154, e57_157, c57, i10, i00, n2, n10, n20, n60, n8, n9, bi0, ite_not, List.replicate, Nat.reduceAdd, Nat.reduceSub, Nat.reduceLeDiff, Nat.reduceLT, if_true, if_false, mg, reduceIte, not_false_eq_true, eq_self, and_self, and_true, true_and, true_or, or_true, Nat.reduceEqDiff, tw_1, tw_3, tw_8, h, (nI_lt (show p < t by omega) (show t < 2 ^ 31 by omega)), h120, nI_add, tw_u3]
    by_cases c : D (8, 0, 0) p = nI 32
    · rw [if_pos c, if_pos c]
      exact ih (p + 1) (by omega)
    · rw [if_neg c, if_neg c]
theorem t_tokT {X : aX} {q : Nat → Nat → Int32} {D : aD} {t i : Nat} {p e k v : Int32} (ht : t ≤ 120) (h : D (7, 0, 0) 1 = nI t) (hi : i < 2 ^ 31) : cl X 59 [aR (7, 0, 0), aI (nI i)] (mem (q, twD D p e k v)) = some (some (aI (nI (tcl (D (8, 0, 0)) t i))), mem (q, twD D p e k v)) := by
  have tt := t_tokW (X := X) (S := (q, twD D p e k v)) (p := i) ht (show twD D p e k v (7, 0, 0) 1 = nI t from tw_1.trans h) hi
  rw [show (q, twD D p e k v).2 (8, 0, 0) = D (8, 0, 0) from tw_8f (D := D) (p := p) (e := e) (k := k) (v := v)] at tt
  exact tt
theorem l_run {X : aX} {q : Nat → Nat → Int32} {D : aD} {t c : Nat} {p v : Int32} (ht : t ≤ 120) (hc : c ≤ 4) (h : D (7, 0, 0) 1 = nI t) : ∀ k e, e + k = t → go X 57 98 [some (aR (7, 0, 0))] [] (mem (q, twD D p (nI e) (nI c) v)) = go X 57 137 [some (aR (7, 0, 0))] [] (mem (q, twD D p (nI (rnF (D (8, 0, 0)) t c k e)) (nI c) v)) := by
  intro k
  induction k with
  | zero =>
    intro e he
    rw [e57_98]
    simp only [nl_n, nl_i, nl_r, x_ci, x_ca, x_bin, x_ife, x_ifl, x_ifg, x_cme, x_cml, x_cmg, x_go, x_no, x_b, x_ps, x_pn, cs_n, cs_i, cs_j, cs_r, en_n, en_i, en_j, en_r, xa0, g_7_5, p_7_3, g_7_3, g_7_1, g_7_0, l_3, l_5, l_8, l_11, l_12, l_21, l_22, l_23, l_24, l_25, l_26, l_28, l_29, l_30, l_31, l_32, x_dupi, x_dupr, x_k2_7, p_7_2, g_7_2, p_7_5, x_k1_7, p_7_4, r_i, r_j, r_v, r_z1, r_z0, r_a, e57_0, e57_1, e57_2, e57_5, e57_8, e57_9, e57_12, e57_13, e57_16, e57_19, e57_20, e57_23, e57_24, e57_27, e57_28, e57_30, e57_33, e57_34, e57_35, e57_38, e57_39, e57_40, e57_43, e57_46, e57_47, e57_48, e57_49, e57_52, e57_55, e57_58, e57_59, e57_60, e57_63, e57_66, e57_67, e57_70, e57_73, e57_74, e57_77, e57_78, e57_79, e57_82, e57_83, e57_86, e57_87, e57_90, e57_91, e57_94, e57_95, e57_99, e57_102, e57_103, e57_106, e57_109, e57_110, e57_111, e57_114, e57_117, e57_118, e57_121, e57_124, e57_125, e57_126, e57_129, e57_130, e57_131, e57_134, e57_138, e57_139, e57_142, e57_143, e57_146, e57_147, e57_150, e57_153, e57_154, e57_157, c57, i10, i00, n2, n10, n20, n60, n8, n9, bi0, ite_not, List.replicate, Nat.reduceAdd, Nat.reduceSub, Nat.reduceLeDiff, Nat.reduceLT, if_true, if_false, mg, reduceIte, not_false_eq_true, eq_self, and_self, and_true, true_and, true_or, or_true, Nat.reduceEqDiff, tw_1, tw_5, h, (nI_nlt (show t ≤ e by omega) (show e < 2 ^ 31 by omega))]
    rfl
  | succ k ih =>
    intro e he
    have tt := t_tokT (X := X) (q := q) (D := D) (p := p) (e := nI e) (k := nI c) (v := v) (i := e) ht h (by omega)
    have h4 := tcl4 (D (8, 0, 0)) t e
    have q1 : (nI (tcl (D (8, 0, 0)) t e) = nI c) = (tcl (D (8, 0, 0)) t e = c) := propext (nI_eq (by omega) (by omega))
    rw [e57_98, rnF_s]
    simp only [nl_n, nl_i, nl_r, x_ci, x_ca, x_bin, x_ife, x_ifl, x_ifg, x_cme, x_cml, x_cmg, x_go, x_no, x_b, x_ps, x_pn, cs_n, cs_i, cs_j, cs_r, en_n, en_i, en_j, en_r, xa0, g_7_5, p_7_3, g_7_3, g_7_1, g_7_0, l_3, l_5, l_8, l_11, l_12, l_21, l_22, l_23, l_24, l_25, l_26, l_28, l_29, l_30, l_31, l_32, x_dupi, x_dupr, x_k2_7, p_7_2, g_7_2, p_7_5, x_k1_7, p_7_4, r_i, r_j, r_v, r_z1, r_z0, r_a, e57_0, e57_1, e57_2, e57_5, e57_8, e57_9, e57_12, e57_13, e57_16, e57_19, e57_20, e57_23, e57_24, e57_27, e57_28, e57_30, e57_33, e57_34, e57_35, e57_38, e57_39, e57_40, e57_43, e57_46, e57_47, e57_48, e57_49, e57_52, e57_55, e57_58, e57_59, e57_60, e57_63, e57_66, e57_67, e57_70, e57_73, e57_74, e57_77, e57_78, e57_79, e57_82, e57_83, e57_86, e57_87, e57_90, e57_91, e57_94, e57_95, e57_99, e57_102, e57_103, e57_106, e57_109, e57_110, e57_111, e57_114, e57_117, e57_118, e57_121, e57_124, e57_125, e57_126, e57_129, e57_130, e57_131, e57_134, e57_138, e57_139, e57_142, e57_143, e57_146, e57_147, e57_150, e57_153, e57_154, e57_157, c57, i10, i00, n2, n10, n20, n60, n8, n9, bi0, ite_not, List.replicate, Nat.reduceAdd, Nat.reduceSub, Nat.reduceLeDiff, Nat.reduceLT, if_true, if_false, mg, reduceIte, not_false_eq_true, eq_self, and_self, and_true, true_and, true_or, or_true, Nat.reduceEqDiff, tw_1, tw_5, tw_2, h, (nI_lt (show e < t by omega) (show t < 2 ^ 31 by omega)), tt, q1, nI_add, tw_u5]
    by_cases cc : tcl (D (8, 0, 0)) t e = c
    · rw [if_pos cc, if_pos cc]
      exact ih (e + 1) (by omega)
    · rw [if_neg cc, if_neg cc]
theorem t_digT {X : aX} {q : Nat → Nat → Int32} {D : aD} {p e : Nat} {k v : Int32} (he : e ≤ 120) (hp : p ≤ e) : cl X 58 [aR (7, 0, 0)] (mem (q, twD D (nI p) (nI e) k v)) = some (some (aI (lp (dgF (D (8, 0, 0))) (e - p) p (nI 0))), mem (q, twD D (nI p) (nI e) k v)) := by
  have d := l_dig (X := X) (S := (q, twD D (nI p) (nI e) k v)) (e := e) he (tw_5 (D := D) (p := nI p) (e := nI e) (k := k) (v := v)) (e - p) p (nI 0) (by omega)
  rw [show (q, twD D (nI p) (nI e) k v).2 (8, 0, 0) = D (8, 0, 0) from tw_8f (D := D) (p := nI p) (e := nI e) (k := k) (v := v)] at d
  rw [← d]
  simp only [nl_n, nl_i, nl_r, x_ci, x_ca, x_bin, x_ife, x_ifl, x_ifg, x_cme, x_cml, x_cmg, x_go, x_no, x_b, x_ps, x_pn, cs_n, cs_i, cs_j, cs_r, en_n, en_i, en_j, en_r, xs1n, xs1i, xs1r, xa0, g_7_3, xs2n, xs2i, xs2r, xi2, g_7_5, xi1, g_7_0, l_3, l_5, l_8, l_11, l_12, l_21, l_22, l_23, l_24, l_25, l_26, l_28, l_29, l_30, l_31, l_32, x_min, xn2n, xn2i, xn2r, r_i, r_j, r_v, r_z1, r_z0, r_a, e58_0, e58_1, e58_2, e58_3, e58_6, e58_8, e58_9, e58_12, e58_15, e58_16, e58_18, e58_19, e58_20, e58_23, e58_24, e58_25, e58_26, e58_28, e58_29, e58_32, e58_35, e58_36, e58_39, e58_42, e58_43, c58, i10, i00, n2, n10, n20, n60, n8, n9, bi0, ite_not, List.replicate, Nat.reduceAdd, Nat.reduceSub, Nat.reduceLeDiff, Nat.reduceLT, if_true, if_false, mg, reduceIte, not_false_eq_true, eq_self, and_self, and_true, true_and, true_or, or_true, Nat.reduceEqDiff, tw_3]
theorem t_step {X : aX} {q : Nat → Nat → Int32} {D : aD} {t e : Nat} {p k v : Int32} (ht : t ≤ 120) (h : D (7, 0, 0) 1 = nI t) (he : e ≤ t) : cl X 57 [aR (7, 0, 0)] (mem (q, twD D p (nI e) k v)) = some (none, mem (q, twD D (nI (tkP (D (8, 0, 0)) t e)) (nI (tkE (D (8, 0, 0)) t e)) (nI (tkK (D (8, 0, 0)) t e)) (tkV (D (8, 0, 0)) t e))) := by
  have hb := tk_b (b := D (8, 0, 0)) he
  have l1 := l_skip (X := X) (q := q) (D := D) (e := nI e) (k0 := k) (v := v) ht h (t - e) e (by omega)
  have e1 : skF (D (8, 0, 0)) (t - e) e = tkP (D (8, 0, 0)) t e := rfl
  have ek : tcl (D (8, 0, 0)) t (tkP (D (8, 0, 0)) t e) = tkK (D (8, 0, 0)) t e := rfl
  rw [e1] at l1
  have tt := fun x y z w => t_tokT (X := X) (q := q) (D := D) (p := x) (e := y) (k := z) (v := w) (i := tkP (D (8, 0, 0)) t e) ht h (by omega)
  rw [ek] at tt
  have td := fun k v => t_digT (X := X) (q := q) (D := D) (p := tkP (D (8, 0, 0)) t e) (e := tkE (D (8, 0, 0)) t e) (k := k) (v := v) (by omega) hb.2.1
  have ev : tkV (D (8, 0, 0)) t e = if tkK (D (8, 0, 0)) t e = 2 then lp (dgF (D (8, 0, 0))) (tkE (D (8, 0, 0)) t e - tkP (D (8, 0, 0)) t e) (tkP (D (8, 0, 0)) t e) (nI 0) else nI 0 := rfl
  rw [ev]
  have ee : tkE (D (8, 0, 0)) t e = if tkK (D (8, 0, 0)) t e = 0 then tkP (D (8, 0, 0)) t e else if tkK (D (8, 0, 0)) t e = 1 ∨ tkK (D (8, 0, 0)) t e = 2 then rnF (D (8, 0, 0)) t (tkK (D (8, 0, 0)) t e) (t - (tkP (D (8, 0, 0)) t e + 1)) (tkP (D (8, 0, 0)) t e + 1) else tkP (D (8, 0, 0)) t e + 1 := rfl
  generalize tkE (D (8, 0, 0)) t e = E at *
  generalize tkP (D (8, 0, 0)) t e = P at *
  generalize tkK (D (8, 0, 0)) t e = K at *
  have n0 : (nI K = 0) = (K = 0) := nq0 (by omega)
  have n1 : (nI K = nI 1) = (K = 1) := nq (by omega) (by decide)
  have n2 : (nI K = nI 2) = (K = 2) := nq (by omega) (by decide)
  simp only [nl_n, nl_i, nl_r, x_ci, x_ca, x_bin, x_ife, x_ifl, x_ifg, x_cme, x_cml, x_cmg, x_go, x_no, x_b, x_ps, x_pn, cs_n, cs_i, cs_j, cs_r, en_n, en_i, en_j, en_r, xa0, g_7_5, p_7_3, g_7_3, g_7_1, g_7_0, l_3, l_5, l_8, l_11, l_12, l_21, l_22, l_23, l_24, l_25, l_26, l_28, l_29, l_30, l_31, l_32, x_dupi, x_dupr, x_k2_7, p_7_2, g_7_2, p_7_5, x_k1_7, p_7_4, r_i, r_j, r_v, r_z1, r_z0, r_a, e57_0, e57_1, e57_2, e57_5, e57_9, e57_12, e57_13, e57_16, e57_19, e57_20, e57_23, e57_24, e57_27, e57_28, e57_30, e57_33, e57_34, e57_35, e57_38, e57_39, e57_40, e57_43, e57_47, e57_48, e57_49, e57_52, e57_55, e57_58, e57_59, e57_60, e57_63, e57_66, e57_67, e57_70, e57_73, e57_74, e57_77, e57_78, e57_79, e57_82, e57_83, e57_86, e57_87, e57_90, e57_91, e57_94, e57_95, e57_99, e57_102, e57_103, e57_106, e57_109, e57_110, e57_111, e57_114, e57_117, e57_118, e57_121, e57_124, e57_125, e57_126, e57_129, e57_130, e57_131, e57_134, e57_138, e57_139, e57_142, e57_143, e57_146, e57_147, e57_150, e57_153, e57_154, e57_157, c57, i10, i00, n2, n10, n20, n60, n8, n9, bi0, ite_not, List.replicate, Nat.reduceAdd, Nat.reduceSub, Nat.reduceLeDiff, Nat.reduceLT, if_true, if_false, mg, reduceIte, not_false_eq_true, eq_self, and_self, and_true, true_and, true_or, or_true, Nat.reduceEqDiff, tw_5, tw_u3]
  rw [l1, e57_46]
  by_cases c0 : K = 0
  · rw [if_pos c0] at ee
    subst c0
    subst ee
    simp only [nl_n, nl_i, nl_r, x_ci, x_ca, x_bin, x_ife, x_ifl, x_ifg, x_cme, x_cml, x_cmg, x_go, x_no, x_b, x_ps, x_pn, cs_n, cs_i, cs_j, cs_r, en_n, en_i, en_j, en_r, xa0, g_7_5, p_7_3, g_7_3, g_7_1, g_7_0, l_3, l_5, l_8, l_11, l_12, l_21, l_22, l_23, l_24, l_25, l_26, l_28, l_29, l_30, l_31, l_32, x_dupi, x_dupr, x_k2_7, p_7_2, g_7_2, p_7_5, x_k1_7, p_7_4, r_i, r_j, r_v, r_z1, r_z0, r_a, e57_0, e57_1, e57_2, e57_5, e57_9, e57_12, e57_13, e57_16, e57_19, e57_20, e57_23, e57_24, e57_27, e57_28, e57_30, e57_33, e57_34, e57_35, e57_38, e57_39, e57_40, e57_43, e57_47, e57_48, e57_49, e57_52, e57_55, e57_58, e57_59, e57_60, e57_63, e57_66, e57_67, e57_70, e57_73, e57_74, e57_77, e57_78, e57_79, e57_82, e57_83, e57_86, e57_87, e57_90, e57_91, e57_94, e57_95, e57_99, e57_102, e57_103, e57_106, e57_109, e57_110, e57_111, e57_114, e57_117, e57_118, e57_121, e57_124, e57_125, e57_126, e57_129, e57_130, e57_131, e57_134, e57_138, e57_139, e57_142, e57_143, e57_146, e57_147, e57_150, e57_153, e57_154, e57_157, c57, i10, i00, n2, n10, n20, n60, n8, n9, bi0, ite_not, List.replicate, Nat.reduceAdd, Nat.reduceSub, Nat.reduceLeDiff, Nat.reduceLT, if_true, if_false, mg, reduceIte, not_false_eq_true, eq_self, and_self, and_true, true_and, true_or, or_true, Nat.reduceEqDiff, tw_1, tw_2, tw_3, tw_5, tw_u2, tw_u3, tw_u4, tw_u5, tt, n0, n1, n2]
    rw [e57_137]
    simp only [nl_n, nl_i, nl_r, x_ci, x_ca, x_bin, x_ife, x_ifl, x_ifg, x_cme, x_cml, x_cmg, x_go, x_no, x_b, x_ps, x_pn, cs_n, cs_i, cs_j, cs_r, en_n, en_i, en_j, en_r, xa0, g_7_5, p_7_3, g_7_3, g_7_1, g_7_0, l_3, l_5, l_8, l_11, l_12, l_21, l_22, l_23, l_24, l_25, l_26, l_28, l_29, l_30, l_31, l_32, x_dupi, x_dupr, x_k2_7, p_7_2, g_7_2, p_7_5, x_k1_7, p_7_4, r_i, r_j, r_v, r_z1, r_z0, r_a, e57_0, e57_1, e57_2, e57_5, e57_9, e57_12, e57_13, e57_16, e57_19, e57_20, e57_23, e57_24, e57_27, e57_28, e57_30, e57_33, e57_34, e57_35, e57_38, e57_39, e57_40, e57_43, e57_47, e57_48, e57_49, e57_52, e57_55, e57_58, e57_59, e57_60, e57_63, e57_66, e57_67, e57_70, e57_73, e57_74, e57_77, e57_78, e57_79, e57_82, e57_83, e57_86, e57_87, e57_90, e57_91, e57_94, e57_95, e57_99, e57_102, e57_103, e57_106, e57_109, e57_110, e57_111, e57_114, e57_117, e57_118, e57_121, e57_124, e57_125, e57_126, e57_129, e57_130, e57_131, e57_134, e57_138, e57_139, e57_142, e57_143, e57_146, e57_147, e57_150, e57_153, e57_154, e57_157, c57, i10, i00, n2, n10, n20, n60, n8, n9, bi0, ite_not, List.replicate, Nat.reduceAdd, Nat.reduceSub, Nat.reduceLeDiff, Nat.reduceLT, if_true, if_false, mg, reduceIte, not_false_eq_true, eq_self, and_self, and_true, true_and, true_or, or_true, Nat.reduceEqDiff, tw_1, tw_2, tw_3, tw_5, tw_u2, tw_u3, tw_u4, tw_u5, tt, n0, n1, n2]
  · have hP := hb.2.2.2.2 c0
    rw [if_neg c0] at ee
    by_cases c1 : K = 1 ∨ K = 2
    · rw [if_pos c1] at ee
      have lr := fun v => l_run (X := X) (q := q) (D := D) (p := nI P) (v := v) (c := K) ht (by omega) h (t - (P + 1)) (P + 1) (by omega)
      rw [← ee] at lr
      have g1 : nI P + nI 1 = nI (P + 1) := nI_add ..
      rcases c1 with c1 | c1
      · subst c1
        simp only [nl_n, nl_i, nl_r, x_ci, x_ca, x_bin, x_ife, x_ifl, x_ifg, x_cme, x_cml, x_cmg, x_go, x_no, x_b, x_ps, x_pn, cs_n, cs_i, cs_j, cs_r, en_n, en_i, en_j, en_r, xa0, g_7_5, p_7_3, g_7_3, g_7_1, g_7_0, l_3, l_5, l_8, l_11, l_12, l_21, l_22, l_23, l_24, l_25, l_26, l_28, l_29, l_30, l_31, l_32, x_dupi, x_dupr, x_k2_7, p_7_2, g_7_2, p_7_5, x_k1_7, p_7_4, r_i, r_j, r_v, r_z1, r_z0, r_a, e57_0, e57_1, e57_2, e57_5, e57_9, e57_12, e57_13, e57_16, e57_19, e57_20, e57_23, e57_24, e57_27, e57_28, e57_30, e57_33, e57_34, e57_35, e57_38, e57_39, e57_40, e57_43, e57_47, e57_48, e57_49, e57_52, e57_55, e57_58, e57_59, e57_60, e57_63, e57_66, e57_67, e57_70, e57_73, e57_74, e57_77, e57_78, e57_79, e57_82, e57_83, e57_86, e57_87, e57_90, e57_91, e57_94, e57_95, e57_99, e57_102, e57_103, e57_106, e57_109, e57_110, e57_111, e57_114, e57_117, e57_118, e57_121, e57_124, e57_125, e57_126, e57_129, e57_130, e57_131, e57_134, e57_138, e57_139, e57_142, e57_143, e57_146, e57_147, e57_150, e57_153, e57_154, e57_157, c57, i10, i00, n2, n10, n20, n60, n8, n9, bi0, ite_not, List.replicate, Nat.reduceAdd, Nat.reduceSub, Nat.reduceLeDiff, Nat.reduceLT, if_true, if_false, mg, reduceIte, not_false_eq_true, eq_self, and_self, and_true, true_and, true_or, or_true, Nat.reduceEqDiff, tw_1, tw_2, tw_3, tw_5, tw_u2, tw_u3, tw_u4, tw_u5, tt, n0, n1, n2, nI_add]
        rw [lr, e57_137]
        simp only [nl_n, nl_i, nl_r, x_ci, x_ca, x_bin, x_ife, x_ifl, x_ifg, x_cme, x_cml, x_cmg, x_go, x_no, x_b, x_ps, x_pn, cs_n, cs_i, cs_j, cs_r, en_n, en_i, en_j, en_r, xa0, g_7_5, p_7_3, g_7_3, g_7_1, g_7_0, l_3, l_5, l_8, l_11, l_12, l_21, l_22, l_23, l_24, l_25, l_26, l_28, l_29, l_30, l_31, l_32, x_dupi, x_dupr, x_k2_7, p_7_2, g_7_2, p_7_5, x_k1_7, p_7_4, r_i, r_j, r_v, r_z1, r_z0, r_a, e57_0, e57_1, e57_2, e57_5, e57_9, e57_12, e57_13, e57_16, e57_19, e57_20, e57_23, e57_24, e57_27, e57_28, e57_30, e57_33, e57_34, e57_35, e57_38, e57_39, e57_40, e57_43, e57_47, e57_48, e57_49, e57_52, e57_55, e57_58, e57_59, e57_60, e57_63, e57_66, e57_67, e57_70, e57_73, e57_74, e57_77, e57_78, e57_79, e57_82, e57_83, e57_86, e57_87, e57_90, e57_91, e57_94, e57_95, e57_99, e57_102, e57_103, e57_106, e57_109, e57_110, e57_111, e57_114, e57_117, e57_118, e57_121, e57_124, e57_125, e57_126, e57_129, e57_130, e57_131, e57_134, e57_138, e57_139, e57_142, e57_143, e57_146, e57_147, e57_150, e57_153, e57_154, e57_157, c57, i10, i00, n2, n10, n20, n60, n8, n9, bi0, ite_not, List.replicate, Nat.reduceAdd, Nat.reduceSub, Nat.reduceLeDiff, Nat.reduceLT, if_true, if_false, mg, reduceIte, not_false_eq_true, eq_self, and_self, and_true, true_and, true_or, or_true, Nat.reduceEqDiff, tw_1, tw_2, tw_3, tw_5, tw_u2, tw_u3, tw_u4, tw_u5, tt, n0, n1, n2]
      · subst c1
        simp only [nl_n, nl_i, nl_r, x_ci, x_ca, x_bin, x_ife, x_ifl, x_ifg, x_cme, x_cml, x_cmg, x_go, x_no, x_b, x_ps, x_pn, cs_n, cs_i, cs_j, cs_r, en_n, en_i, en_j, en_r, xa0, g_7_5, p_7_3, g_7_3, g_7_1, g_7_0, l_3, l_5, l_8, l_11, l_12, l_21, l_22, l_23, l_24, l_25, l_26, l_28, l_29, l_30, l_31, l_32, x_dupi, x_dupr, x_k2_7, p_7_2, g_7_2, p_7_5, x_k1_7, p_7_4, r_i, r_j, r_v, r_z1, r_z0, r_a, e57_0, e57_1, e57_2, e57_5, e57_9, e57_12, e57_13, e57_16, e57_19, e57_20, e57_23, e57_24, e57_27, e57_28, e57_30, e57_33, e57_34, e57_35, e57_38, e57_39, e57_40, e57_43, e57_47, e57_48, e57_49, e57_52, e57_55, e57_58, e57_59, e57_60, e57_63, e57_66, e57_67, e57_70, e57_73, e57_74, e57_77, e57_78, e57_79, e57_82, e57_83, e57_86, e57_87, e57_90, e57_91, e57_94, e57_95, e57_99, e57_102, e57_103, e57_106, e57_109, e57_110, e57_111, e57_114, e57_117, e57_118, e57_121, e57_124, e57_125, e57_126, e57_129, e57_130, e57_131, e57_134, e57_138, e57_139, e57_142, e57_143, e57_146, e57_147, e57_150, e57_153, e57_154, e57_157, c57, i10, i00, n2, n10, n20, n60, n8, n9, bi0, ite_not, List.replicate, Nat.reduceAdd, Nat.reduceSub, Nat.reduceLeDiff, Nat.reduceLT, if_true, if_false, mg, reduceIte, not_false_eq_true, eq_self, and_self, and_true, true_and, true_or, or_true, Nat.reduceEqDiff, tw_1, tw_2, tw_3, tw_5, tw_u2, tw_u3, tw_u4, tw_u5, tt, n0, n1, n2, nI_add]
        rw [lr, e57_137]
        simp only [nl_n, nl_i, nl_r, x_ci, x_ca, x_bin, x_ife, x_ifl, x_ifg, x_cme, x_cml, x_cmg, x_go, x_no, x_b, x_ps, x_pn, cs_n, cs_i, cs_j, cs_r, en_n, en_i, en_j, en_r, xa0, g_7_5, p_7_3, g_7_3, g_7_1, g_7_0, l_3, l_5, l_8, l_11, l_12, l_21, l_22, l_23, l_24, l_25, l_26, l_28, l_29, l_30, l_31, l_32, x_dupi, x_dupr, x_k2_7, p_7_2, g_7_2, p_7_5, x_k1_7, p_7_4, r_i, r_j, r_v, r_z1, r_z0, r_a, e57_0, e57_1, e57_2, e57_5, e57_9, e57_12, e57_13, e57_16, e57_19, e57_20, e57_23, e57_24, e57_27, e57_28, e57_30, e57_33, e57_34, e57_35, e57_38, e57_39, e57_40, e57_43, e57_47, e57_48, e57_49, e57_52, e57_55, e57_58, e57_59, e57_60, e57_63, e57_66, e57_67, e57_70, e57_73, e57_74, e57_77, e57_78, e57_79, e57_82, e57_83, e57_86, e57_87, e57_90, e57_91, e57_94, e57_95, e57_99, e57_102, e57_103, e57_106, e57_109, e57_110, e57_111, e57_114, e57_117, e57_118, e57_121, e57_124, e57_125, e57_126, e57_129, e57_130, e57_131, e57_134, e57_138, e57_139, e57_142, e57_143, e57_146, e57_147, e57_150, e57_153, e57_154, e57_157, c57, i10, i00, n2, n10, n20, n60, n8, n9, bi0, ite_not, List.replicate, Nat.reduceAdd, Nat.reduceSub, Nat.reduceLeDiff, Nat.reduceLT, if_true, if_false, mg, reduceIte, not_false_eq_true, eq_self, and_self, and_true, true_and, true_or, or_true, Nat.reduceEqDiff, tw_1, tw_2, tw_3, tw_5, tw_u2, tw_u3, tw_u4, tw_u5, tt, n0, n1, n2, td]
    · rw [if_neg c1] at ee
      have c1' : ¬ K = 1 := fun w => c1 (Or.inl w)
      have c2' : ¬ K = 2 := fun w => c1 (Or.inr w)
      subst ee
      simp only [nl_n, nl_i, nl_r, x_ci, x_ca, x_bin, x_ife, x_ifl, x_ifg, x_cme, x_cml, x_cmg, x_go, x_no, x_b, x_ps, x_pn, cs_n, cs_i, cs_j, cs_r, en_n, en_i, en_j, en_r, xa0, g_7_5, p_7_3, g_7_3, g_7_1, g_7_0, l_3, l_5, l_8, l_11, l_12, l_21, l_22, l_23, l_24, l_25, l_26, l_28, l_29, l_30, l_31, l_32, x_dupi, x_dupr, x_k2_7, p_7_2, g_7_2, p_7_5, x_k1_7, p_7_4, r_i, r_j, r_v, r_z1, r_z0, r_a, e57_0, e57_1, e57_2, e57_5, e57_9, e57_12, e57_13, e57_16, e57_19, e57_20, e57_23, e57_24, e57_27, e57_28, e57_30, e57_33, e57_34, e57_35, e57_38, e57_39, e57_40, e57_43, e57_47, e57_48, e57_49, e57_52, e57_55, e57_58, e57_59, e57_60, e57_63, e57_66, e57_67, e57_70, e57_73, e57_74, e57_77, e57_78, e57_79, e57_82, e57_83, e57_86, e57_87, e57_90, e57_91, e57_94, e57_95, e57_99, e57_102, e57_103, e57_106, e57_109, e57_110, e57_111, e57_114, e57_117, e57_118, e57_121, e57_124, e57_125, e57_126, e57_129, e57_130, e57_131, e57_134, e57_138, e57_139, e57_142, e57_143, e57_146, e57_147, e57_150, e57_153, e57_154, e57_157, c57, i10, i00, n2, n10, n20, n60, n8, n9, bi0, ite_not, List.replicate, Nat.reduceAdd, Nat.reduceSub, Nat.reduceLeDiff, Nat.reduceLT, if_true, if_false, mg, reduceIte, not_false_eq_true, eq_self, and_self, and_true, true_and, true_or, or_true, Nat.reduceEqDiff, tw_1, tw_2, tw_3, tw_5, tw_u2, tw_u3, tw_u4, tw_u5, tt, n0, n1, n2, c0, c1', c2', nI_add]
      rw [e57_137]
      simp only [nl_n, nl_i, nl_r, x_ci, x_ca, x_bin, x_ife, x_ifl, x_ifg, x_cme, x_cml, x_cmg, x_go, x_no, x_b, x_ps, x_pn, cs_n, cs_i, cs_j, cs_r, en_n, en_i, en_j, en_r, xa0, g_7_5, p_7_3, g_7_3, g_7_1, g_7_0, l_3, l_5, l_8, l_11, l_12, l_21, l_22, l_23, l_24, l_25, l_26, l_28, l_29, l_30, l_31, l_32, x_dupi, x_dupr, x_k2_7, p_7_2, g_7_2, p_7_5, x_k1_7, p_7_4, r_i, r_j, r_v, r_z1, r_z0, r_a, e57_0, e57_1, e57_2, e57_5, e57_9, e57_12, e57_13, e57_16, e57_19, e57_20, e57_23, e57_24, e57_27, e57_28, e57_30, e57_33, e57_34, e57_35, e57_38, e57_39, e57_40, e57_43, e57_47, e57_48, e57_49, e57_52, e57_55, e57_58, e57_59, e57_60, e57_63, e57_66, e57_67, e57_70, e57_73, e57_74, e57_77, e57_78, e57_79, e57_82, e57_83, e57_86, e57_87, e57_90, e57_91, e57_94, e57_95, e57_99, e57_102, e57_103, e57_106, e57_109, e57_110, e57_111, e57_114, e57_117, e57_118, e57_121, e57_124, e57_125, e57_126, e57_129, e57_130, e57_131, e57_134, e57_138, e57_139, e57_142, e57_143, e57_146, e57_147, e57_150, e57_153, e57_154, e57_157, c57, i10, i00, n2, n10, n20, n60, n8, n9, bi0, ite_not, List.replicate, Nat.reduceAdd, Nat.reduceSub, Nat.reduceLeDiff, Nat.reduceLT, if_true, if_false, mg, reduceIte, not_false_eq_true, eq_self, and_self, and_true, true_and, true_or, or_true, Nat.reduceEqDiff, tw_1, tw_2, tw_3, tw_5, tw_u2, tw_u3, tw_u4, tw_u5, tt, n0, n1, n2, c0, c1', c2']
