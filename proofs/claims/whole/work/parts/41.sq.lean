/-! LOOPS, SETS, AND WHAT A SQUARE TELLS -/
def lp {α : Type} (f : Nat → α → α) : Nat → Nat → α → α
  | 0, _, a => a
  | k + 1, i, a => lp f k (i + 1) (f i a)
theorem lp_0 {α : Type} (f : Nat → α → α) (i : Nat) (a : α) : lp f 0 i a = a := rfl
theorem lp_s {α : Type} (f : Nat → α → α) (k i : Nat) (a : α) : lp f (k + 1) i a = lp f k (i + 1) (f i a) := rfl
theorem lp_r {α : Type} (f : Nat → α → α) : ∀ (k i : Nat) (a : α), lp f (k + 1) i a = f (i + k) (lp f k i a) := by
  intro k
  induction k with
  | zero => intro i a; rfl
  | succ k ih => intro i a; rw [lp_s, ih, lp_s, show i + 1 + k = i + (k + 1) by omega]
/-- two loops whose steps keep a relation -/
theorem lp_rel {α β : Type} (R : α → β → Prop) (f : Nat → α → α) (g : Nat → β → β) {n : Nat} (h : ∀ i a b, i < n → R a b → R (f i a) (g i b)) : ∀ k i a b, i + k ≤ n → R a b → R (lp f k i a) (lp g k i b) := by
  intro k
  induction k with
  | zero => intro i a b _ r; exact r
  | succ k ih => intro i a b hi r; exact ih (i + 1) _ _ (by omega) (h i a b (by omega) r)
theorem lp_inv {α : Type} (P : α → Prop) (f : Nat → α → α) {n : Nat} (h : ∀ i a, i < n → P a → P (f i a)) : ∀ k i a, i + k ≤ n → P a → P (lp f k i a) := by
  intro k
  induction k with
  | zero => intro i a _ r; exact r
  | succ k ih => intro i a hi r; exact ih (i + 1) _ (by omega) (h i a (by omega) r)
theorem lp_congr {α : Type} {f g : Nat → α → α} {n : Nat} (h : ∀ i a, i < n → f i a = g i a) : ∀ k i a, i + k ≤ n → lp f k i a = lp g k i a := by
  intro k
  induction k with
  | zero => intro i a _; rfl
  | succ k ih => intro i a hi; rw [lp_s, lp_s, h i a (by omega), ih _ _ (by omega)]
/-- a set of those of whom p holds -/
abbrev bit1 (i : Nat) : Int32 := nI 1 <<< (nI i &&& 31)
def setF (p : Nat → Prop) [DecidablePred p] (n : Nat) : Int32 := lp (fun i x => if p i then x ||| bit1 i else x) n 0 (nI 0)
def setN (p : Nat → Prop) [DecidablePred p] : Nat → Nat
  | 0 => 0
  | n + 1 => if p n then setN p n + 2 ^ n else setN p n
theorem setN_s (p : Nat → Prop) [DecidablePred p] (n : Nat) : setN p (n + 1) = if p n then setN p n + 2 ^ n else setN p n := rfl
theorem setN_lt (p : Nat → Prop) [DecidablePred p] : ∀ n, setN p n < 2 ^ n := by
  intro n
  induction n with
  | zero => simp [setN]
  | succ n ih =>
    rw [setN_s]
    rw [Nat.pow_succ]
    split <;> omega
theorem or_bit : ∀ n, n < 8 → ∀ m, m < 2 ^ n → nI m ||| bit1 n = nI (m + 2 ^ n) := by decide +kernel
theorem setF_N (p : Nat → Prop) [DecidablePred p] : ∀ n, n ≤ 8 → setF p n = nI (setN p n) := by
  intro n
  induction n with
  | zero => intro _; rfl
  | succ n ih =>
    intro h
    unfold setF
    rw [lp_r]
    have e := ih (by omega)
    unfold setF at e
    rw [e, Nat.zero_add, setN_s]
    by_cases c : p n
    · rw [if_pos c, if_pos c]
      exact or_bit n (by omega) _ (setN_lt p n)
    · rw [if_neg c, if_neg c]
theorem tb_top : ∀ n, n < 8 → ∀ m, m < 2 ^ n → ∀ i, i < 8 → (m + 2 ^ n).testBit i = (decide (i = n) || m.testBit i) := by decide +kernel
theorem setN_bit (p : Nat → Prop) [DecidablePred p] : ∀ n, n ≤ 8 → ∀ i, i < 8 → (setN p n).testBit i = decide (i < n ∧ p i) := by
  intro n
  induction n with
  | zero => intro _ i _; simp [setN]
  | succ n ih =>
    intro h i hi
    rw [setN_s]
    by_cases c : p n
    · rw [if_pos c, tb_top n (by omega) _ (setN_lt p n) i hi, ih (by omega) i hi]
      by_cases e : i = n
      · subst e; simp [c]
      · simp only [e, decide_false, Bool.false_or]
        congr 1
        apply propext
        constructor
        · exact fun q => ⟨by omega, q.2⟩
        · exact fun q => ⟨by omega, q.2⟩
    · rw [if_neg c, ih (by omega) i hi]
      congr 1
      apply propext
      constructor
      · exact fun q => ⟨by omega, q.2⟩
      · intro q
        refine ⟨?_, q.2⟩
        by_cases e : i = n
        · subst e; exact absurd q.2 c
        · omega
theorem setN_256 (p : Nat → Prop) [DecidablePred p] {n : Nat} (h : n ≤ 8) : setN p n < 256 := Nat.lt_of_lt_of_le (setN_lt p n) (Nat.pow_le_pow_right (n := 2) (by decide) h)
theorem bit_at : ∀ i, i < 8 → ∀ m, m < 256 → ((nI m >>> (nI i &&& 31)) &&& nI 1) = if m.testBit i then nI 1 else nI 0 := by decide +kernel
theorem set_at (p : Nat → Prop) [DecidablePred p] {n i : Nat} (h : n ≤ 8) (hi : i < n) : ((setF p n >>> (nI i &&& 31)) &&& nI 1) = bi (p i) := by
  rw [setF_N p n h, bit_at i (by omega) _ (setN_256 p h), setN_bit p n h i (by omega)]
  unfold bi
  by_cases c : p i <;> simp [hi, c]
theorem bit_0 : ∀ m, m < 256 → (nI m = 0 ↔ ∀ i, i < 8 → m.testBit i = false) := by decide +kernel
theorem set_0 (p : Nat → Prop) [DecidablePred p] {n : Nat} (h : n ≤ 8) : (setF p n = 0) = ∀ i, i < n → ¬ p i := by
  rw [setF_N p n h, bit_0 _ (setN_256 p h)]
  apply propext
  constructor
  · intro q i hi
    have e := q i (by omega)
    rw [setN_bit p n h i (by omega)] at e
    simp [hi] at e
    exact e
  · intro q i hi
    rw [setN_bit p n h i hi]
    simp
    exact q i
theorem bit_al : ∀ m, m < 256 → ∀ i, i < 8 → ((nI m &&& (bit1 i ^^^ -1)) = 0 ↔ ∀ k, k < 8 → (k = i ∨ m.testBit k = false)) := by decide +kernel
theorem set_al (p : Nat → Prop) [DecidablePred p] {n i : Nat} (h : n ≤ 8) (hi : i < n) : ((setF p n &&& (bit1 i ^^^ -1)) = 0) = ∀ k, k < n → (k = i ∨ ¬ p k) := by
  rw [setF_N p n h, bit_al _ (setN_256 p h) i (by omega)]
  apply propext
  constructor
  · intro q k hk
    rcases q k (by omega) with e | e
    · exact Or.inl e
    · rw [setN_bit p n h k (by omega)] at e
      simp [hk] at e
      exact Or.inr e
  · intro q k hk
    by_cases e : k < n
    · rcases q k e with f | f
      · exact Or.inl f
      · right
        rw [setN_bit p n h k hk]
        simp [f]
    · right
      rw [setN_bit p n h k hk]
      simp [e]
/-- from least to most -/
abbrev wi (v l h : Int32) : Prop := ¬ v < l ∧ ¬ h < v
theorem t_within {X : aX} {M : aM} {v l h : Int32} : cl X 102 [aI v, aI l, aI h] M = some (some (aI (bi (wi v l h))), M) := by
  simp only [nl_n, nl_i, nl_r, x_ci, x_ca, x_bin, x_ife, x_ifl, x_ifg, x_cme, x_cml, x_cmg, x_go, x_no, x_b, x_ps, x_pn, cs_n, cs_i, cs_j, cs_r, en_n, en_i, en_j, en_r, xi0, xi1, xi2, r_i, r_j, r_v, r_z1, r_z0, r_a, e102_0, e102_1, e102_2, e102_5, e102_6, e102_7, e102_10, e102_11, e102_14, e102_15, c102, i10, i00, n2, n10, n20, n60, n8, n9, bi0, ite_not, List.replicate, Nat.reduceAdd, Nat.reduceSub, Nat.reduceLeDiff, Nat.reduceLT, if_true, if_false, mg, reduceIte, not_false_eq_true, eq_self, and_self, and_true, true_and, true_or, or_true, Nat.reduceEqDiff]
  unfold bi
  (repeat' split) <;> simp_all
theorem t_within6 {X : aX} {M : aM} {v l h : Int32} : cl X 114 [aI v, aI l, aI h] M = some (some (aI (bi (wi v l h))), M) := by
  simp only [nl_n, nl_i, nl_r, x_ci, x_ca, x_bin, x_ife, x_ifl, x_ifg, x_cme, x_cml, x_cmg, x_go, x_no, x_b, x_ps, x_pn, cs_n, cs_i, cs_j, cs_r, en_n, en_i, en_j, en_r, xi0, xi1, xi2, r_i, r_j, r_v, r_z1, r_z0, r_a, e114_0, e114_1, e114_2, e114_5, e114_6, e114_7, e114_10, e114_11, e114_14, e114_15, c114, i10, i00, n2, n10, n20, n60, n8, n9, bi0, ite_not, List.replicate, Nat.reduceAdd, Nat.reduceSub, Nat.reduceLeDiff, Nat.reduceLT, if_true, if_false, mg, reduceIte, not_false_eq_true, eq_self, and_self, and_true, true_and, true_or, or_true, Nat.reduceEqDiff]
  unfold bi
  (repeat' split) <;> simp_all
/-- such a singer is there -/
abbrev hsP (n : Nat) (x : Int32) : Prop := ¬ x < 0 ∧ x < nI n
theorem t_has {X : aX} {S : aS} {a n : Nat} {x : Int32} (ha : a < 3) (hz : S.1 a 1 = nI n) : cl X 27 [aR (1, a, 0), aI x] (mem S) = some (some (aI (bi (hsP n x))), mem S) := by
  simp only [nl_n, nl_i, nl_r, x_ci, x_ca, x_bin, x_ife, x_ifl, x_ifg, x_cme, x_cml, x_cmg, x_go, x_no, x_b, x_ps, x_pn, cs_n, cs_i, cs_j, cs_r, en_n, en_i, en_j, en_r, xi1, xa0, g_1_2, r_i, r_j, r_v, r_z1, r_z0, r_a, e27_0, e27_1, e27_4, e27_5, e27_6, e27_9, e27_12, e27_13, e27_16, e27_17, c27, i10, i00, n2, n10, n20, n60, n8, n9, bi0, ite_not, List.replicate, Nat.reduceAdd, Nat.reduceSub, Nat.reduceLeDiff, Nat.reduceLT, if_true, if_false, mg, reduceIte, not_false_eq_true, eq_self, and_self, and_true, true_and, true_or, or_true, Nat.reduceEqDiff, ha, hz]
  unfold bi
  (repeat' split) <;> simp_all
theorem t_isFull {X : aX} {S : aS} {a n : Nat} (ha : a < 3) (hz : S.1 a 1 = nI n) : cl X 28 [aR (1, a, 0)] (mem S) = some (some (aI (bi (¬ nI n < nI 8))), mem S) := by
  simp only [nl_n, nl_i, nl_r, x_ci, x_ca, x_bin, x_ife, x_ifl, x_ifg, x_cme, x_cml, x_cmg, x_go, x_no, x_b, x_ps, x_pn, cs_n, cs_i, cs_j, cs_r, en_n, en_i, en_j, en_r, xa0, g_1_2, r_i, r_j, r_v, r_z1, r_z0, r_a, e28_0, e28_1, e28_4, e28_6, e28_9, e28_10, e28_13, e28_14, c28, i10, i00, n2, n10, n20, n60, n8, n9, bi0, ite_not, List.replicate, Nat.reduceAdd, Nat.reduceSub, Nat.reduceLeDiff, Nat.reduceLT, if_true, if_false, mg, reduceIte, not_false_eq_true, eq_self, and_self, and_true, true_and, true_or, or_true, Nat.reduceEqDiff, ha, hz]
  unfold bi
  (repeat' split) <;> simp_all
theorem has_i {n i : Nat} (hn : n ≤ 8) (hi : i < n) : hsP n (nI i) := ⟨nI_pos (by omega), nI_lt hi (by omega)⟩
theorem has_of {n : Nat} {x : Int32} (hn : n ≤ 8) (h : hsP n x) : ∃ i, i < n ∧ x = nI i := by
  obtain ⟨j, hj, rfl⟩ := nI_of h.1
  exact ⟨j, (nI_ltI hj (by omega)).mp h.2, rfl⟩
theorem l_singing {X : aX} {S : aS} {a n : Nat} (ha : a < 3) (hn : n ≤ 8) (hz : S.1 a 1 = nI n) : ∀ k i x, i + k = n → go X 35 4 [some (aR (1, a, 0)), some (aI x), some (aI (nI i))] [] (mem S) = some (some (aI (lp (fun i x => if sgP (S.1 a) i then x ||| bit1 i else x) k i x)), mem S) := by
  intro k
  induction k with
  | zero =>
    intro i x h
    rw [e35_4]
    simp only [nl_n, nl_i, nl_r, x_ci, x_ca, x_bin, x_ife, x_ifl, x_ifg, x_cme, x_cml, x_cmg, x_go, x_no, x_b, x_ps, x_pn, cs_n, cs_i, cs_j, cs_r, en_n, en_i, en_j, en_r, xs1n, xs1i, xs1r, xs2n, xs2i, xs2r, xi2, xa0, g_1_2, g_1_0, l_2, l_9, l_27, x_k1_4, xi1, xn2n, xn2i, xn2r, r_i, r_j, r_v, r_z1, r_z0, r_a, e35_0, e35_1, e35_2, e35_3, e35_5, e35_6, e35_9, e35_12, e35_13, e35_16, e35_17, e35_18, e35_21, e35_24, e35_25, e35_26, e35_27, e35_28, e35_29, e35_30, e35_33, e35_36, e35_37, c35, i10, i00, n2, n10, n20, n60, n8, n9, bi0, ite_not, List.replicate, Nat.reduceAdd, Nat.reduceSub, Nat.reduceLeDiff, Nat.reduceLT, if_true, if_false, mg, reduceIte, not_false_eq_true, eq_self, and_self, and_true, true_and, true_or, or_true, Nat.reduceEqDiff, ha, hz, (nI_nlt (show n ≤ i by omega) (by omega))]
    rfl
  | succ k ih =>
    intro i x h
    have ih' := fun y => ih (i + 1) y (by omega)
    have hi : i < 8 := by omega
    rw [e35_4]
    simp only [nl_n, nl_i, nl_r, x_ci, x_ca, x_bin, x_ife, x_ifl, x_ifg, x_cme, x_cml, x_cmg, x_go, x_no, x_b, x_ps, x_pn, cs_n, cs_i, cs_j, cs_r, en_n, en_i, en_j, en_r, xs1n, xs1i, xs1r, xs2n, xs2i, xs2r, xi2, xa0, g_1_2, g_1_0, l_2, l_9, l_27, x_k1_4, xi1, xn2n, xn2i, xn2r, r_i, r_j, r_v, r_z1, r_z0, r_a, e35_0, e35_1, e35_2, e35_3, e35_5, e35_6, e35_9, e35_12, e35_13, e35_16, e35_17, e35_18, e35_21, e35_24, e35_25, e35_26, e35_27, e35_28, e35_29, e35_30, e35_33, e35_36, e35_37, c35, i10, i00, n2, n10, n20, n60, n8, n9, bi0, ite_not, List.replicate, Nat.reduceAdd, Nat.reduceSub, Nat.reduceLeDiff, Nat.reduceLT, if_true, if_false, mg, reduceIte, not_false_eq_true, eq_self, and_self, and_true, true_and, true_or, or_true, Nat.reduceEqDiff, ha, hi, hz, (nI_lt (show i < n by omega) (by omega)), t_isSinging, nI_add, ih', lp_s]
    split <;> rfl
abbrev sgS (r : Nat → Int32) (n : Nat) : Int32 := setF (sgP r) n
theorem t_singing {X : aX} {S : aS} {a n : Nat} (ha : a < 3) (hn : n ≤ 8) (hz : S.1 a 1 = nI n) : cl X 35 [aR (1, a, 0)] (mem S) = some (some (aI (sgS (S.1 a) n)), mem S) := by
  simp only [nl_n, nl_i, nl_r, x_ci, x_ca, x_bin, x_ife, x_ifl, x_ifg, x_cme, x_cml, x_cmg, x_go, x_no, x_b, x_ps, x_pn, cs_n, cs_i, cs_j, cs_r, en_n, en_i, en_j, en_r, xs1n, xs1i, xs1r, xs2n, xs2i, xs2r, xi2, xa0, g_1_2, g_1_0, l_2, l_9, l_27, x_k1_4, xi1, xn2n, xn2i, xn2r, r_i, r_j, r_v, r_z1, r_z0, r_a, e35_0, e35_1, e35_2, e35_3, e35_5, e35_6, e35_9, e35_12, e35_13, e35_16, e35_17, e35_18, e35_21, e35_24, e35_25, e35_26, e35_27, e35_28, e35_29, e35_30, e35_33, e35_36, e35_37, c35, i10, i00, n2, n10, n20, n60, n8, n9, bi0, ite_not, List.replicate, Nat.reduceAdd, Nat.reduceSub, Nat.reduceLeDiff, Nat.reduceLT, if_true, if_false, mg, reduceIte, not_false_eq_true, eq_self, and_self, and_true, true_and, true_or, or_true, Nat.reduceEqDiff]
  exact l_singing ha hn hz n 0 (nI 0) (by omega)
