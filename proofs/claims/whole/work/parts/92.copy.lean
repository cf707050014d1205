/-! NUMBERS COPIED FROM SHEET TO SHEET -/
theorem lQ_i {m : Nat} (h : m < 2 ^ 63) : (lQ m).toInt = m := Int64.toInt_ofNat_of_lt h
theorem i2l_N {a : Nat} (h : a < 2 ^ 31) : (nI a).toInt64 = lQ a := by
  apply Int64.toInt_inj.1
  rw [Int32.toInt_toInt64, nI_toInt h, lQ_i (by omega)]
theorem lc_g {a c m : Nat} (ha : a < 2 ^ 31) (hc : c < 2 ^ 31) (hm : m < 2 ^ 31) : (0 < lg_cmp ((nI a).toInt64 + (nI c).toInt64) (nI m).toInt64) = (m < a + c) := by
  rw [i2l_N ha, i2l_N hc, i2l_N hm, lQ_add]
  unfold lg_cmp
  have e : (lQ (a + c) > lQ m) = (m < a + c) := by
    show (lQ m < lQ (a + c)) = _
    rw [Int64.lt_iff_toInt_lt, lQ_i (by omega), lQ_i (by omega)]
    exact propext Int.ofNat_lt
  simp only [e]
  by_cases h : m < a + c
  · rw [if_pos h]; exact propext ⟨fun _ => h, fun _ => by decide⟩
  · rw [if_neg h]
    refine propext ⟨fun w => absurd w ?_, fun w => absurd w h⟩
    split <;> decide
def cpD (D : aD) (s u a b k : Nat) : aD := fun r j => if r = (11, u, 0) ∧ b ≤ j ∧ j < b + k then D (11, s, 0) (a + (j - b)) else D r j
theorem rd_sh {S : aS} {X : aX} {s k : Nat} : ard X (mem S) (11, s, 0) k = S.2 (11, s, 0) k := by
  unfold ard
  rw [if_pos (show (11 : Nat) < 80 by decide)]
  have e1 : rfs (11, s, 0) k = none := rfl
  have e2 : pl (11, s, 0) k = none := by simp [pl]
  show iv (memv S (11, s, 0) k) = _
  unfold memv
  rw [e1, e2]
  rfl
theorem cp_sh {S : aS} {X : aX} {s u a b k : Nat} : cpM X (mem S) (11, s, 0) a (11, u, 0) b k = mem (S.1, cpD S.2 s u a b k) := by
  unfold cpM mem
  congr 1
  funext r j
  by_cases c : r = (11, u, 0) ∧ b ≤ j ∧ j < b + k
  · rw [if_pos c]
    show aI (ard X (mem S) (11, s, 0) (a + (j - b))) = memv _ r j
    rw [rd_sh]
    obtain ⟨rfl, h1, h2⟩ := c
    unfold memv
    have e1 : rfs (11, u, 0) j = none := rfl
    have e2 : pl (11, u, 0) j = none := by simp [pl]
    rw [e1, e2]
    show _ = aI (cpD S.2 s u a b k (11, u, 0) j)
    unfold cpD
    rw [if_pos ⟨rfl, h1, h2⟩]
  · rw [if_neg c]
    show memv S r j = memv _ r j
    unfold memv
    cases rfs r j with
    | some q => rfl
    | none =>
      cases hp : pl r j with
      | some z => rfl
      | none =>
        show aI (S.2 r j) = aI (cpD S.2 s u a b k r j)
        unfold cpD
        rw [if_neg c]
theorem a_sh {X : aX} {S : aS} {m nx : Nat} {la : aLs} {st : List aV} {s u a b k : Nat} (hs : s < 4) (hu : u < 4) (h1 : a + k ≤ 40) (h2 : b + k ≤ 40) : kC X m (i_acp X nx la (aI (nI k) :: aI (nI b) :: aR (11, u, 0) :: aI (nI a) :: aR (11, s, 0) :: st) (mem S)) = if cs st ≤ 8 then go X m nx la st (mem (S.1, cpD S.2 s u a b k)) else none := by
  rw [← cp_sh (X := X)]
  unfold i_acp
  dsimp only
  rw [aln_m (n := 40) (Nat.le_of_ble_eq_true rfl) (vl_11 hs) rfl]
  dsimp only
  rw [nI_clamp (show k < 2 ^ 31 by omega), nI_clamp (show a < 2 ^ 31 by omega), nI_clamp (show b < 2 ^ 31 by omega)]
  have e2 : ¬ nI k < 0 := nI_pos (by omega)
  have e3 : ¬ nI a < 0 := nI_pos (by omega)
  have e4 : ¬ nI b < 0 := nI_pos (by omega)
  have e5 : shp (11, u, 0) = (1, 40) := rfl
  by_cases c : cs st ≤ 8
  · rw [if_pos c, if_pos (by rw [vl_11 hu, e5]; simp [c, h1, h2, e2, e3, e4])]
    rfl
  · rw [if_neg c, if_neg (by simp [c])]
    rfl
abbrev ruP (m : Nat) (f c : Int32) : Prop := ¬ f < 0 ∧ ¬ c < 0 ∧ ¬ nI m < f ∧ ¬ nI m - f < c
theorem t_hasRun {X : aX} {S : aS} {s m : Nat} {f c : Int32} (hs : s < 4) (hm : S.2 (10, s, 0) 2 = nI m) : cl X 12 [aR (10, s, 0), aI f, aI c] (mem S) = some (some (aI (bi (ruP m f c))), mem S) := by
  simp only [nl_n, nl_i, nl_r, x_ci, x_ca, x_bin, x_ife, x_ifl, x_ifg, x_cme, x_cml, x_cmg, x_go, x_no, x_b, x_ps, x_pn, cs_n, cs_i, cs_j, cs_r, en_n, en_i, en_j, en_r, xi1, xi2, xa0, g_10_2, r_i, r_j, r_v, r_z1, r_z0, r_a, e12_0, e12_1, e12_4, e12_5, e12_8, e12_9, e12_10, e12_13, e12_16, e12_17, e12_18, e12_21, e12_22, e12_23, e12_26, e12_27, e12_30, e12_31, c12, i10, i00, n2, n10, n20, n60, n8, n9, bi0, ite_not, List.replicate, Nat.reduceAdd, Nat.reduceSub, Nat.reduceLeDiff, Nat.reduceLT, if_true, if_false, mg, reduceIte, not_false_eq_true, eq_self, and_self, and_true, true_and, true_or, or_true, Nat.reduceEqDiff, hs, hm]
  by_cases c1 : f < 0
  · simp only [c1, if_true]
    rw [bi_f (fun w : ruP m f c => w.1 c1)]
  · by_cases c2 : c < 0
    · simp only [c1, c2, if_true, if_false]
      rw [bi_f (fun w : ruP m f c => w.2.1 c2)]
    · by_cases c3 : nI m < f
      · simp only [c1, c2, c3, if_true, if_false]
        rw [bi_f (fun w : ruP m f c => w.2.2.1 c3)]
      · by_cases c4 : nI m - f < c
        · simp only [c1, c2, c3, c4, if_true, if_false]
          rw [bi_f (fun w : ruP m f c => w.2.2.2 c4)]
        · simp only [c1, c2, c3, c4, if_false]
          rw [bi_t (show ruP m f c from ⟨c1, c2, c3, c4⟩)]
theorem ru_N {m a c : Nat} (hm : m ≤ 40) (ha : a < 2 ^ 31) (hc : c < 2 ^ 31) : ruP m (nI a) (nI c) ↔ a + c ≤ m := by
  have e1 : (nI m < nI a) = (m < a) := propext (nI_ltI (by omega) ha)
  constructor
  · rintro ⟨_, _, h3, h4⟩
    rw [e1] at h3
    rw [nI_subN (by omega), nI_ltI (by omega) hc] at h4
    omega
  · intro h
    refine ⟨nI_pos ha, nI_pos hc, by rw [e1]; omega, ?_⟩
    rw [nI_subN (by omega), nI_ltI (by omega) hc]
    omega
def mvD (p i : Nat) (D : aD) : aD := uD D (32, 0, 0) i (D (31, 0, 0) (p + i))
def bkD (p i : Nat) (D : aD) : aD := uD D (31, 0, 0) (p + i) (D (32, 0, 0) i)
theorem mv_at (p : Nat) : ∀ k i D r j, lp (mvD p) k i D r j = if r = (32, 0, 0) ∧ i ≤ j ∧ j < i + k then D (31, 0, 0) (p + j) else D r j := by
  intro k
  induction k with
  | zero => intro i D r j; rw [if_neg (by omega)]; rfl
  | succ k ih =>
    intro i D r j
    rw [lp_s, ih]
    by_cases c : r = (32, 0, 0)
    · subst c
      by_cases c1 : i + 1 ≤ j ∧ j < i + 1 + k
      · rw [if_pos ⟨rfl, c1⟩, if_pos ⟨rfl, by omega⟩]
        exact uD_c (by decide)
      · rw [if_neg (fun w => c1 w.2)]
        by_cases c2 : j = i
        · subst c2
          rw [if_pos ⟨rfl, by omega⟩]
          exact uD_at ..
        · rw [if_neg (fun w => by have := w.2; omega)]
          exact uD_o (Or.inr c2)
    · rw [if_neg (fun w => c w.1), if_neg (fun w => c w.1)]
      exact uD_o (Or.inl c)
theorem bk_at (p : Nat) : ∀ k i D r j, lp (bkD p) k i D r j = if r = (31, 0, 0) ∧ p + i ≤ j ∧ j < p + i + k then D (32, 0, 0) (j - p) else D r j := by
  intro k
  induction k with
  | zero => intro i D r j; rw [if_neg (by omega)]; rfl
  | succ k ih =>
    intro i D r j
    rw [lp_s, ih]
    by_cases c : r = (31, 0, 0)
    · subst c
      by_cases c1 : p + (i + 1) ≤ j ∧ j < p + (i + 1) + k
      · rw [if_pos ⟨rfl, c1⟩, if_pos ⟨rfl, by omega⟩]
        exact uD_c (by decide)
      · rw [if_neg (fun w => c1 w.2)]
        by_cases c2 : j = p + i
        · subst c2
          rw [if_pos ⟨rfl, by omega⟩, show p + i - p = i by omega]
          exact uD_at ..
        · rw [if_neg (fun w => by have := w.2; omega)]
          exact uD_o (Or.inr c2)
    · rw [if_neg (fun w => c w.1), if_neg (fun w => c w.1)]
      exact uD_o (Or.inl c)
theorem l_back {X : aX} {q : Nat → Nat → Int32} {c b : Nat} {x f y : Int32} (hc : c ≤ 40) (hy : y = nI b) : ∀ k i d D, i + k = c → 40 * b + d + c ≤ 160 → go X 203 165 [some (aR (20, 0, 0)), some (aI x), some (aI f), some (aI y), some (aI (nI d)), some (aI (nI c)), some (aI (nI i))] [] (mem (q, D)) = some (some (aI (nI c)), mem (q, lp (bkD (40 * b + d)) k i D)) := by
  subst hy
  intro k
  induction k with
  | zero =>
    intro i d D h hp
    rw [e203_165]
    simp only [nl_n, nl_i, nl_r, x_ci, x_ca, x_bin, x_ife, x_ifl, x_ifg, x_cme, x_cml, x_cmg, x_go, x_no, x_b, x_ps, x_pn, cs_n, cs_i, cs_j, cs_r, en_n, en_i, en_j, en_r, xi1, x_k1_s, xi3, xa0, x_k2_20, r_i, r_j, r_v, r_z1, r_z0, r_a, g_20_18, l_3, l_5, l_8, l_11, l_12, l_21, l_22, l_23, l_24, l_25, l_26, l_28, l_29, l_30, l_31, l_32, xi2, xi4, xi5, x_i2l, x_bnj, g_20_19, x_lcm, xs6n, xs6i, xs6r, xi6, g_20_21, g_20_20, s_3, s_5, s_8, s_11, s_12, s_21, s_22, s_23, s_24, s_25, s_26, s_28, s_29, s_30, s_31, s_32, xn6n, xn6i, xn6r, e203_0, e203_1, e203_4, e203_7, e203_8, e203_11, e203_14, e203_15, e203_17, e203_20, e203_21, e203_22, e203_25, e203_26, e203_27, e203_30, e203_31, e203_34, e203_35, e203_36, e203_39, e203_40, e203_42, e203_45, e203_46, e203_47, e203_50, e203_51, e203_52, e203_53, e203_56, e203_57, e203_58, e203_61, e203_62, e203_65, e203_68, e203_69, e203_70, e203_73, e203_75, e203_78, e203_80, e203_83, e203_84, e203_85, e203_87, e203_88, e203_89, e203_90, e203_93, e203_94, e203_95, e203_96, e203_97, e203_100, e203_102, e203_103, e203_105, e203_106, e203_107, e203_108, e203_111, e203_112, e203_113, e203_114, e203_115, e203_118, e203_119, e203_121, e203_124, e203_125, e203_126, e203_128, e203_130, e203_132, e203_135, e203_136, e203_139, e203_141, e203_142, e203_145, e203_147, e203_148, e203_149, e203_150, e203_151, e203_153, e203_154, e203_155, e203_156, e203_159, e203_162, e203_163, e203_167, e203_169, e203_172, e203_173, e203_176, e203_178, e203_179, e203_180, e203_182, e203_183, e203_185, e203_186, e203_187, e203_190, e203_192, e203_193, e203_194, e203_197, e203_200, e203_202, c203, i10, i00, n2, n10, n20, n60, n8, n9, bi0, ite_not, List.replicate, Nat.reduceAdd, Nat.reduceSub, Nat.reduceLeDiff, Nat.reduceLT, if_true, if_false, mg, reduceIte, not_false_eq_true, eq_self, and_self, and_true, true_and, true_or, or_true, Nat.reduceEqDiff, (nI_nlt (show c ≤ i by omega) (show i < 2 ^ 31 by omega))]
    rfl
  | succ k ih =>
    intro i d D h hp
    have h1 : 40 * b + d + i < 160 := by omega
    have h2 : i < 40 := by omega
    rw [e203_165, lp_s, ← ih (i + 1) d _ (by omega) hp]
    simp only [nl_n, nl_i, nl_r, x_ci, x_ca, x_bin, x_ife, x_ifl, x_ifg, x_cme, x_cml, x_cmg, x_go, x_no, x_b, x_ps, x_pn, cs_n, cs_i, cs_j, cs_r, en_n, en_i, en_j, en_r, xi1, x_k1_s, xi3, xa0, x_k2_20, r_i, r_j, r_v, r_z1, r_z0, r_a, g_20_18, l_3, l_5, l_8, l_11, l_12, l_21, l_22, l_23, l_24, l_25, l_26, l_28, l_29, l_30, l_31, l_32, xi2, xi4, xi5, x_i2l, x_bnj, g_20_19, x_lcm, xs6n, xs6i, xs6r, xi6, g_20_21, g_20_20, s_3, s_5, s_8, s_11, s_12, s_21, s_22, s_23, s_24, s_25, s_26, s_28, s_29, s_30, s_31, s_32, xn6n, xn6i, xn6r, e203_0, e203_1, e203_4, e203_7, e203_8, e203_11, e203_14, e203_15, e203_17, e203_20, e203_21, e203_22, e203_25, e203_26, e203_27, e203_30, e203_31, e203_34, e203_35, e203_36, e203_39, e203_40, e203_42, e203_45, e203_46, e203_47, e203_50, e203_51, e203_52, e203_53, e203_56, e203_57, e203_58, e203_61, e203_62, e203_65, e203_68, e203_69, e203_70, e203_73, e203_75, e203_78, e203_80, e203_83, e203_84, e203_85, e203_87, e203_88, e203_89, e203_90, e203_93, e203_94, e203_95, e203_96, e203_97, e203_100, e203_102, e203_103, e203_105, e203_106, e203_107, e203_108, e203_111, e203_112, e203_113, e203_114, e203_115, e203_118, e203_119, e203_121, e203_124, e203_125, e203_126, e203_128, e203_130, e203_132, e203_135, e203_136, e203_139, e203_141, e203_142, e203_145, e203_147, e203_148, e203_149, e203_150, e203_151, e203_153, e203_154, e203_155, e203_156, e203_159, e203_162, e203_163, e203_167, e203_169, e203_172, e203_173, e203_176, e203_178, e203_179, e203_180, e203_182, e203_183, e203_185, e203_186, e203_187, e203_190, e203_192, e203_193, e203_194, e203_197, e203_200, e203_202, c203, i10, i00, n2, n10, n20, n60, n8, n9, bi0, ite_not, List.replicate, Nat.reduceAdd, Nat.reduceSub, Nat.reduceLeDiff, Nat.reduceLT, if_true, if_false, mg, reduceIte, not_false_eq_true, eq_self, and_self, and_true, true_and, true_or, or_true, Nat.reduceEqDiff, (nI_lt (show i < c by omega) (show c < 2 ^ 31 by omega)), nI_mul, nI_add, h1, h2]
    rfl
theorem l_move {X : aX} {q : Nat → Nat → Int32} {c s a b d : Nat} (hc : c ≤ 40) (h0 : 40 * b + d + c ≤ 160) (hp : 40 * s + a + c ≤ 160) : ∀ k i D, i + k = c → go X 203 128 [some (aR (20, 0, 0)), some (aI (nI s)), some (aI (nI a)), some (aI (nI b)), some (aI (nI d)), some (aI (nI c)), some (aI (nI i))] [] (mem (q, D)) = some (some (aI (nI c)), mem (q, lp (bkD (40 * b + d)) c 0 (lp (mvD (40 * s + a)) k i D))) := by
  intro k
  induction k with
  | zero =>
    intro i D h
    rw [e203_128]
    simp only [nl_n, nl_i, nl_r, x_ci, x_ca, x_bin, x_ife, x_ifl, x_ifg, x_cme, x_cml, x_cmg, x_go, x_no, x_b, x_ps, x_pn, cs_n, cs_i, cs_j, cs_r, en_n, en_i, en_j, en_r, xi1, x_k1_s, xi3, xa0, x_k2_20, r_i, r_j, r_v, r_z1, r_z0, r_a, g_20_18, l_3, l_5, l_8, l_11, l_12, l_21, l_22, l_23, l_24, l_25, l_26, l_28, l_29, l_30, l_31, l_32, xi2, xi4, xi5, x_i2l, x_bnj, g_20_19, x_lcm, xs6n, xs6i, xs6r, xi6, g_20_21, g_20_20, s_3, s_5, s_8, s_11, s_12, s_21, s_22, s_23, s_24, s_25, s_26, s_28, s_29, s_30, s_31, s_32, xn6n, xn6i, xn6r, e203_0, e203_1, e203_4, e203_7, e203_8, e203_11, e203_14, e203_15, e203_17, e203_20, e203_21, e203_22, e203_25, e203_26, e203_27, e203_30, e203_31, e203_34, e203_35, e203_36, e203_39, e203_40, e203_42, e203_45, e203_46, e203_47, e203_50, e203_51, e203_52, e203_53, e203_56, e203_57, e203_58, e203_61, e203_62, e203_65, e203_68, e203_69, e203_70, e203_73, e203_75, e203_78, e203_80, e203_83, e203_84, e203_85, e203_87, e203_88, e203_89, e203_90, e203_93, e203_94, e203_95, e203_96, e203_97, e203_100, e203_102, e203_103, e203_105, e203_106, e203_107, e203_108, e203_111, e203_112, e203_113, e203_114, e203_115, e203_118, e203_119, e203_121, e203_124, e203_125, e203_126, e203_130, e203_132, e203_135, e203_136, e203_139, e203_141, e203_142, e203_145, e203_147, e203_148, e203_149, e203_150, e203_151, e203_153, e203_154, e203_155, e203_156, e203_159, e203_162, e203_163, e203_167, e203_169, e203_172, e203_173, e203_176, e203_178, e203_179, e203_180, e203_182, e203_183, e203_185, e203_186, e203_187, e203_190, e203_192, e203_193, e203_194, e203_197, e203_200, e203_202, c203, i10, i00, n2, n10, n20, n60, n8, n9, bi0, ite_not, List.replicate, Nat.reduceAdd, Nat.reduceSub, Nat.reduceLeDiff, Nat.reduceLT, if_true, if_false, mg, reduceIte, not_false_eq_true, eq_self, and_self, and_true, true_and, true_or, or_true, Nat.reduceEqDiff, (nI_nlt (show c ≤ i by omega) (show i < 2 ^ 31 by omega))]
    exact l_back hc rfl c 0 d D (by omega) h0
  | succ k ih =>
    intro i D h
    have h1 : 40 * s + a + i < 160 := by omega
    have h2 : i < 40 := by omega
    rw [e203_128, lp_s, ← ih (i + 1) _ (by omega)]
    simp only [nl_n, nl_i, nl_r, x_ci, x_ca, x_bin, x_ife, x_ifl, x_ifg, x_cme, x_cml, x_cmg, x_go, x_no, x_b, x_ps, x_pn, cs_n, cs_i, cs_j, cs_r, en_n, en_i, en_j, en_r, xi1, x_k1_s, xi3, xa0, x_k2_20, r_i, r_j, r_v, r_z1, r_z0, r_a, g_20_18, l_3, l_5, l_8, l_11, l_12, l_21, l_22, l_23, l_24, l_25, l_26, l_28, l_29, l_30, l_31, l_32, xi2, xi4, xi5, x_i2l, x_bnj, g_20_19, x_lcm, xs6n, xs6i, xs6r, xi6, g_20_21, g_20_20, s_3, s_5, s_8, s_11, s_12, s_21, s_22, s_23, s_24, s_25, s_26, s_28, s_29, s_30, s_31, s_32, xn6n, xn6i, xn6r, e203_0, e203_1, e203_4, e203_7, e203_8, e203_11, e203_14, e203_15, e203_17, e203_20, e203_21, e203_22, e203_25, e203_26, e203_27, e203_30, e203_31, e203_34, e203_35, e203_36, e203_39, e203_40, e203_42, e203_45, e203_46, e203_47, e203_50, e203_51, e203_52, e203_53, e203_56, e203_57, e203_58, e203_61, e203_62, e203_65, e203_68, e203_69, e203_70, e203_73, e203_75, e203_78, e203_80, e203_83, e203_84, e203_85, e203_87, e203_88, e203_89, e203_90, e203_93, e203_94, e203_95, e203_96, e203_97, e203_100, e203_102, e203_103, e203_105, e203_106, e203_107, e203_108, e203_111, e203_112, e203_113, e203_114, e203_115, e203_118, e203_119, e203_121, e203_124, e203_125, e203_126, e203_130, e203_132, e203_135, e203_136, e203_139, e203_141, e203_142, e203_145, e203_147, e203_148, e203_149, e203_150, e203_151, e203_153, e203_154, e203_155, e203_156, e203_159, e203_162, e203_163, e203_167, e203_169, e203_172, e203_173, e203_176, e203_178, e203_179, e203_180, e203_182, e203_183, e203_185, e203_186, e203_187, e203_190, e203_192, e203_193, e203_194, e203_197, e203_200, e203_202, c203, i10, i00, n2, n10, n20, n60, n8, n9, bi0, ite_not, List.replicate, Nat.reduceAdd, Nat.reduceSub, Nat.reduceLeDiff, Nat.reduceLT, if_true, if_false, mg, reduceIte, not_false_eq_true, eq_self, and_self, and_true, true_and, true_or, or_true, Nat.reduceEqDiff, (nI_lt (show i < c by omega) (show c < 2 ^ 31 by omega)), nI_mul, nI_add, h1, h2]
    rfl
theorem o_copy {X : aX} {S : aS} {x f y t c : Int32} (hJ : J S) : opK X 93 203 [aI x, aI f, aI y, aI t, aI c] S := by
  obtain ⟨⟨n, hR, hA⟩, hK, hD⟩ := id hJ
  have hR3 := ag_RI hA hR
  have hn := hR.1
  have hz := hR.2.1
  have hz3 := hR3.2.1
  by_cases c1 : wi x (nI 0) (nI 3)
  · by_cases c2 : wi y (nI 0) (nI 3)
    · obtain ⟨s, _, hs3, rfl⟩ := wi_of (by decide) c1 (by decide)
      obtain ⟨u, _, hu3, rfl⟩ := wi_of (by decide) c2 (by decide)
      have hs : s < 4 := by omega
      have hu : u < 4 := by omega
      obtain ⟨b, m, g1, g2, g3, g4, g5, g6, g7, g8⟩ := hD.2.2.1 s hs
      obtain ⟨b', m', k1, k2, k3, k4, k5, k6, k7, k8⟩ := hD.2.2.1 u hu
      have hb1 : b < 1000 := by omega
      have hb2 : b' < 1000 := by omega
      have g5' : ∀ k, tlD k S.2 (29, 0, 0) s = nI b := fun k => (tl_o (by decide)).trans g5
      have k5' : ∀ k, tlD k S.2 (29, 0, 0) u = nI b' := fun k => (tl_o (by decide)).trans k5
      have g7' : ∀ k, tlD k S.2 (30, 0, 0) s = nI m := fun k => (tl_o (by decide)).trans g7
      have k7' : ∀ k, tlD k S.2 (30, 0, 0) u = nI m' := fun k => (tl_o (by decide)).trans k7
      by_cases cb : b = 0
      · refine op_f5 hJ ?_ ?_
        · simp only [nl_n, nl_i, nl_r, x_ci, x_ca, x_bin, x_ife, x_ifl, x_ifg, x_cme, x_cml, x_cmg, x_go, x_no, x_b, x_ps, x_pn, cs_n, cs_i, cs_j, cs_r, en_n, en_i, en_j, en_r, xi1, x_k1_s, xi3, xa0, x_k2_0, r_i, r_j, r_v, r_z1, r_z0, r_a, g_0_4, l_2, l_9, l_27, xb6n, xb6i, xb6r, xb7n, xb7i, xb7r, xa6, g_10_1, xa7, xi2, xi5, x_k3_10, xi4, g_10_0, e93_0, e93_1, e93_4, e93_7, e93_8, e93_11, e93_14, e93_15, e93_16, e93_19, e93_20, e93_21, e93_24, e93_25, e93_26, e93_28, e93_29, e93_32, e93_33, e93_34, e93_36, e93_38, e93_41, e93_44, e93_46, e93_49, e93_52, e93_53, e93_54, e93_57, e93_58, e93_60, e93_63, e93_65, e93_68, e93_71, e93_72, e93_73, e93_76, e93_77, e93_79, e93_80, e93_82, e93_85, e93_88, e93_90, e93_92, e93_94, e93_97, e93_100, e93_101, e93_102, e93_105, e93_106, e93_108, e93_111, e93_112, e93_114, e93_117, e93_119, e93_121, e93_124, e93_126, c93, i10, i00, n2, n10, n20, n60, n8, n9, bi0, ite_not, List.replicate, Nat.reduceAdd, Nat.reduceSub, Nat.reduceLeDiff, Nat.reduceLT, if_true, if_false, mg, reduceIte, not_false_eq_true, eq_self, and_self, and_true, true_and, true_or, or_true, Nat.reduceEqDiff, t_isSh5, (bi_t c1), (bi_t c2), hs, hu, g4, (nq0 hb1), cb, tel5]
        · simp only [nl_n, nl_i, nl_r, x_ci, x_ca, x_bin, x_ife, x_ifl, x_ifg, x_cme, x_cml, x_cmg, x_go, x_no, x_b, x_ps, x_pn, cs_n, cs_i, cs_j, cs_r, en_n, en_i, en_j, en_r, xi1, x_k1_s, xi3, xa0, x_k2_20, r_i, r_j, r_v, r_z1, r_z0, r_a, g_20_18, l_3, l_5, l_8, l_11, l_12, l_21, l_22, l_23, l_24, l_25, l_26, l_28, l_29, l_30, l_31, l_32, xi2, xi4, xi5, x_i2l, x_bnj, g_20_19, x_lcm, xs6n, xs6i, xs6r, xi6, g_20_21, g_20_20, s_3, s_5, s_8, s_11, s_12, s_21, s_22, s_23, s_24, s_25, s_26, s_28, s_29, s_30, s_31, s_32, xn6n, xn6i, xn6r, e203_0, e203_1, e203_4, e203_7, e203_8, e203_11, e203_14, e203_15, e203_17, e203_20, e203_21, e203_22, e203_25, e203_26, e203_27, e203_30, e203_31, e203_34, e203_35, e203_36, e203_39, e203_40, e203_42, e203_45, e203_46, e203_47, e203_50, e203_51, e203_52, e203_53, e203_56, e203_57, e203_58, e203_61, e203_62, e203_65, e203_68, e203_69, e203_70, e203_73, e203_75, e203_78, e203_80, e203_83, e203_84, e203_85, e203_87, e203_88, e203_89, e203_90, e203_93, e203_94, e203_95, e203_96, e203_97, e203_100, e203_102, e203_103, e203_105, e203_106, e203_107, e203_108, e203_111, e203_112, e203_113, e203_114, e203_115, e203_118, e203_119, e203_121, e203_124, e203_125, e203_126, e203_130, e203_132, e203_135, e203_136, e203_139, e203_141, e203_142, e203_145, e203_147, e203_148, e203_149, e203_150, e203_151, e203_153, e203_154, e203_155, e203_156, e203_159, e203_162, e203_163, e203_167, e203_169, e203_172, e203_173, e203_176, e203_178, e203_179, e203_180, e203_182, e203_183, e203_185, e203_186, e203_187, e203_190, e203_192, e203_193, e203_194, e203_197, e203_200, e203_202, c203, i10, i00, n2, n10, n20, n60, n8, n9, bi0, ite_not, List.replicate, Nat.reduceAdd, Nat.reduceSub, Nat.reduceLeDiff, Nat.reduceLT, if_true, if_false, mg, reduceIte, not_false_eq_true, eq_self, and_self, and_true, true_and, true_or, or_true, Nat.reduceEqDiff, t_isSh6, (bi_t c1), (bi_t c2), hs, hu, g5', (nq0 hb1), cb, fnd5]
      · by_cases cb' : b' = 0
        · refine op_f5 hJ ?_ ?_
          · simp only [nl_n, nl_i, nl_r, x_ci, x_ca, x_bin, x_ife, x_ifl, x_ifg, x_cme, x_cml, x_cmg, x_go, x_no, x_b, x_ps, x_pn, cs_n, cs_i, cs_j, cs_r, en_n, en_i, en_j, en_r, xi1, x_k1_s, xi3, xa0, x_k2_0, r_i, r_j, r_v, r_z1, r_z0, r_a, g_0_4, l_2, l_9, l_27, xb6n, xb6i, xb6r, xb7n, xb7i, xb7r, xa6, g_10_1, xa7, xi2, xi5, x_k3_10, xi4, g_10_0, e93_0, e93_1, e93_4, e93_7, e93_8, e93_11, e93_14, e93_15, e93_16, e93_19, e93_20, e93_21, e93_24, e93_25, e93_26, e93_28, e93_29, e93_32, e93_33, e93_34, e93_36, e93_38, e93_41, e93_44, e93_46, e93_49, e93_52, e93_53, e93_54, e93_57, e93_58, e93_60, e93_63, e93_65, e93_68, e93_71, e93_72, e93_73, e93_76, e93_77, e93_79, e93_80, e93_82, e93_85, e93_88, e93_90, e93_92, e93_94, e93_97, e93_100, e93_101, e93_102, e93_105, e93_106, e93_108, e93_111, e93_112, e93_114, e93_117, e93_119, e93_121, e93_124, e93_126, c93, i10, i00, n2, n10, n20, n60, n8, n9, bi0, ite_not, List.replicate, Nat.reduceAdd, Nat.reduceSub, Nat.reduceLeDiff, Nat.reduceLT, if_true, if_false, mg, reduceIte, not_false_eq_true, eq_self, and_self, and_true, true_and, true_or, or_true, Nat.reduceEqDiff, t_isSh5, (bi_t c1), (bi_t c2), hs, hu, g4, k4, (nq0 hb1), (nq0 hb2), cb, cb', tel5]
          · simp only [nl_n, nl_i, nl_r, x_ci, x_ca, x_bin, x_ife, x_ifl, x_ifg, x_cme, x_cml, x_cmg, x_go, x_no, x_b, x_ps, x_pn, cs_n, cs_i, cs_j, cs_r, en_n, en_i, en_j, en_r, xi1, x_k1_s, xi3, xa0, x_k2_20, r_i, r_j, r_v, r_z1, r_z0, r_a, g_20_18, l_3, l_5, l_8, l_11, l_12, l_21, l_22, l_23, l_24, l_25, l_26, l_28, l_29, l_30, l_31, l_32, xi2, xi4, xi5, x_i2l, x_bnj, g_20_19, x_lcm, xs6n, xs6i, xs6r, xi6, g_20_21, g_20_20, s_3, s_5, s_8, s_11, s_12, s_21, s_22, s_23, s_24, s_25, s_26, s_28, s_29, s_30, s_31, s_32, xn6n, xn6i, xn6r, e203_0, e203_1, e203_4, e203_7, e203_8, e203_11, e203_14, e203_15, e203_17, e203_20, e203_21, e203_22, e203_25, e203_26, e203_27, e203_30, e203_31, e203_34, e203_35, e203_36, e203_39, e203_40, e203_42, e203_45, e203_46, e203_47, e203_50, e203_51, e203_52, e203_53, e203_56, e203_57, e203_58, e203_61, e203_62, e203_65, e203_68, e203_69, e203_70, e203_73, e203_75, e203_78, e203_80, e203_83, e203_84, e203_85, e203_87, e203_88, e203_89, e203_90, e203_93, e203_94, e203_95, e203_96, e203_97, e203_100, e203_102, e203_103, e203_105, e203_106, e203_107, e203_108, e203_111, e203_112, e203_113, e203_114, e203_115, e203_118, e203_119, e203_121, e203_124, e203_125, e203_126, e203_130, e203_132, e203_135, e203_136, e203_139, e203_141, e203_142, e203_145, e203_147, e203_148, e203_149, e203_150, e203_151, e203_153, e203_154, e203_155, e203_156, e203_159, e203_162, e203_163, e203_167, e203_169, e203_172, e203_173, e203_176, e203_178, e203_179, e203_180, e203_182, e203_183, e203_185, e203_186, e203_187, e203_190, e203_192, e203_193, e203_194, e203_197, e203_200, e203_202, c203, i10, i00, n2, n10, n20, n60, n8, n9, bi0, ite_not, List.replicate, Nat.reduceAdd, Nat.reduceSub, Nat.reduceLeDiff, Nat.reduceLT, if_true, if_false, mg, reduceIte, not_false_eq_true, eq_self, and_self, and_true, true_and, true_or, or_true, Nat.reduceEqDiff, t_isSh6, (bi_t c1), (bi_t c2), hs, hu, g5', k5', (nq0 hb1), (nq0 hb2), cb, cb', fnd5]
        · by_cases ce : b = b'
          · subst ce
            have r1 := t_hasRun (X := X) (S := S) (f := f) (c := c) hs g6
            have r2 := t_hasRun (X := X) (S := S) (f := t) (c := c) hu k6
            by_cases cr : ruP m f c ∧ ruP m' t c
            · obtain ⟨cr1, cr2⟩ := cr
              obtain ⟨a, ha, rfl⟩ := nI_of cr1.1
              obtain ⟨d, hd, rfl⟩ := nI_of cr2.1
              obtain ⟨k, hk, rfl⟩ := nI_of cr1.2.1
              have q1 := (ru_N g2 ha hk).1 cr1
              have q2 := (ru_N k2 hd hk).1 cr2
              have a40 : a + k ≤ 40 := by omega
              have d40 : d + k ≤ 40 := by omega
              have o1 : ∀ (r : aL) j, r.1 ≠ 11 → cpD S.2 s u a d k r j = S.2 r j := fun r j h => if_neg (fun w => h (by rw [w.1]))
              have e1 : cpD S.2 s u a d k (29, 0, 0) s = nI b := (o1 _ _ (by decide)).trans g5
              have e2 : cpD S.2 s u a d k (29, 0, 0) u = nI b := (o1 _ _ (by decide)).trans k5
              have e3 : cpD S.2 s u a d k (30, 0, 0) s = nI m := (o1 _ _ (by decide)).trans g7
              have e4 : cpD S.2 s u a d k (30, 0, 0) u = nI m' := (o1 _ _ (by decide)).trans k7
              have l1 := lc_g ha hk (show m < 2 ^ 31 by omega)
              have l2 := lc_g hd hk (show m' < 2 ^ 31 by omega)
              have n1 : ¬ m < a + k := by omega
              have n2 : ¬ m' < d + k := by omega
              have lm := l_move (X := X) (q := S.1) (c := k) (s := s) (a := a) (b := u) (d := d) (by omega) (by omega) (by omega) k 0 (cpD S.2 s u a d k) (by omega)
              refine ⟨aI (nI k), (S.1, cpD S.2 s u a d k), (S.1, lp (bkD (40 * u + d)) k 0 (lp (mvD (40 * s + a)) k 0 (cpD S.2 s u a d k))), ?_, ?_, ?_⟩
              · simp only [nl_n, nl_i, nl_r, x_ci, x_ca, x_bin, x_ife, x_ifl, x_ifg, x_cme, x_cml, x_cmg, x_go, x_no, x_b, x_ps, x_pn, cs_n, cs_i, cs_j, cs_r, en_n, en_i, en_j, en_r, xi1, x_k1_s, xi3, xa0, x_k2_0, r_i, r_j, r_v, r_z1, r_z0, r_a, g_0_4, l_2, l_9, l_27, xb6n, xb6i, xb6r, xb7n, xb7i, xb7r, xa6, g_10_1, xa7, xi2, xi5, x_k3_10, xi4, g_10_0, e93_0, e93_1, e93_4, e93_7, e93_8, e93_11, e93_14, e93_15, e93_16, e93_19, e93_20, e93_21, e93_24, e93_25, e93_26, e93_28, e93_29, e93_32, e93_33, e93_34, e93_36, e93_38, e93_41, e93_44, e93_46, e93_49, e93_52, e93_53, e93_54, e93_57, e93_58, e93_60, e93_63, e93_65, e93_68, e93_71, e93_72, e93_73, e93_76, e93_77, e93_79, e93_80, e93_82, e93_85, e93_88, e93_90, e93_92, e93_94, e93_97, e93_100, e93_101, e93_102, e93_105, e93_106, e93_108, e93_111, e93_112, e93_114, e93_117, e93_119, e93_121, e93_124, e93_126, c93, i10, i00, n2, n10, n20, n60, n8, n9, bi0, ite_not, List.replicate, Nat.reduceAdd, Nat.reduceSub, Nat.reduceLeDiff, Nat.reduceLT, if_true, if_false, mg, reduceIte, not_false_eq_true, eq_self, and_self, and_true, true_and, true_or, or_true, Nat.reduceEqDiff, t_isSh5, (bi_t c1), (bi_t c2), hs, hu, g4, k4, (nq0 hb1), cb, r1, r2, (bi_t cr1), (bi_t cr2), (a_sh hs hu a40 d40)]
              · rw [← lm]
                simp only [nl_n, nl_i, nl_r, x_ci, x_ca, x_bin, x_ife, x_ifl, x_ifg, x_cme, x_cml, x_cmg, x_go, x_no, x_b, x_ps, x_pn, cs_n, cs_i, cs_j, cs_r, en_n, en_i, en_j, en_r, xi1, x_k1_s, xi3, xa0, x_k2_20, r_i, r_j, r_v, r_z1, r_z0, r_a, g_20_18, l_3, l_5, l_8, l_11, l_12, l_21, l_22, l_23, l_24, l_25, l_26, l_28, l_29, l_30, l_31, l_32, xi2, xi4, xi5, x_i2l, x_bnj, g_20_19, x_lcm, xs6n, xs6i, xs6r, xi6, g_20_21, g_20_20, s_3, s_5, s_8, s_11, s_12, s_21, s_22, s_23, s_24, s_25, s_26, s_28, s_29, s_30, s_31, s_32, xn6n, xn6i, xn6r, e203_0, e203_1, e203_4, e203_7, e203_8, e203_11, e203_14, e203_15, e203_17, e203_20, e203_21, e203_22, e203_25, e203_26, e203_27, e203_30, e203_31, e203_34, e203_35, e203_36, e203_39, e203_40, e203_42, e203_45, e203_46, e203_47, e203_50, e203_51, e203_52, e203_53, e203_56, e203_57, e203_58, e203_61, e203_62, e203_65, e203_68, e203_69, e203_70, e203_73, e203_75, e203_78, e203_80, e203_83, e203_84, e203_85, e203_87, e203_88, e203_89, e203_90, e203_93, e203_94, e203_95, e203_96, e203_97, e203_100, e203_102, e203_103, e203_105, e203_106, e203_107, e203_108, e203_111, e203_112, e203_113, e203_114, e203_115, e203_118, e203_119, e203_121, e203_124, e203_125, e203_126, e203_130, e203_132, e203_135, e203_136, e203_139, e203_141, e203_142, e203_145, e203_147, e203_148, e203_149, e203_150, e203_151, e203_153, e203_154, e203_155, e203_156, e203_159, e203_162, e203_163, e203_167, e203_169, e203_172, e203_173, e203_176, e203_178, e203_179, e203_180, e203_182, e203_183, e203_185, e203_186, e203_187, e203_190, e203_192, e203_193, e203_194, e203_197, e203_200, e203_202, c203, i10, i00, n2, n10, n20, n60, n8, n9, bi0, ite_not, List.replicate, Nat.reduceAdd, Nat.reduceSub, Nat.reduceLeDiff, Nat.reduceLT, if_true, if_false, mg, reduceIte, not_false_eq_true, eq_self, and_self, and_true, true_and, true_or, or_true, Nat.reduceEqDiff, t_isSh6, (bi_t c1), (bi_t c2), hs, hu, e1, e2, e3, e4, (nq0 hb1), cb, (nI_pos ha), (nI_pos hd), (nI_pos hk), l1, l2, n1, n2]
              · have fin : ∀ r j, lp (bkD (40 * u + d)) k 0 (lp (mvD (40 * s + a)) k 0 (cpD S.2 s u a d k)) r j = if r = (31, 0, 0) ∧ 40 * u + d ≤ j ∧ j < 40 * u + d + k then S.2 (31, 0, 0) (40 * s + a + (j - (40 * u + d))) else if r = (32, 0, 0) ∧ j < k then S.2 (31, 0, 0) (40 * s + a + j) else cpD S.2 s u a d k r j := by
                  intro r j
                  rw [bk_at, mv_at, mv_at]
                  by_cases w1 : r = (31, 0, 0) ∧ 40 * u + d ≤ j ∧ j < 40 * u + d + k
                  · rw [if_pos (by rw [Nat.add_zero]; exact w1), if_pos w1, if_pos ⟨rfl, by omega, by omega⟩, o1 _ _ (by decide)]
                  · rw [if_neg (by rw [Nat.add_zero]; exact w1), if_neg w1]
                    by_cases w2 : r = (32, 0, 0) ∧ j < k
                    · rw [if_pos ⟨w2.1, by omega, by omega⟩, if_pos w2, o1 _ _ (by decide)]
                    · rw [if_neg (fun w => w2 ⟨w.1, by omega⟩), if_neg w2]
                generalize lp (bkD (40 * u + d)) k 0 (lp (mvD (40 * s + a)) k 0 (cpD S.2 s u a d k)) = D3 at fin
                have o3 : ∀ (r : aL) j, r.1 ≠ 11 → r.1 ≠ 31 → r.1 ≠ 32 → D3 r j = S.2 r j := by
                  intro r j h1 h2 h3
                  rw [fin, if_neg (fun w => h2 (by rw [w.1])), if_neg (fun w => h3 (by rw [w.1])), o1 _ _ h1]
                have hDm : JD (fun r j => if r.1 = 32 then D3 r j else S.2 r j) := by
                  refine JD_c (fun r j hj => ?_) hD
                  rw [if_neg (fun w => hj (Or.inr (Or.inr (Or.inl w))))]
                refine ⟨⟨n, hR, hA⟩, fun w => hK (Eq.trans (o3 _ _ (by decide) (by decide) (by decide)).symm w), JD_sh (s := u) hDm ?_ ?_⟩
                · intro r j h10 h11 h29 h30 h31
                  show D3 r j = if r.1 = 32 then D3 r j else S.2 r j
                  by_cases w : r.1 = 32
                  · rw [if_pos w]
                  · rw [if_neg w, fin, if_neg (fun z => h31 ⟨by rw [z.1], by omega, by omega⟩), if_neg (fun z => w (by rw [z.1]))]
                    exact if_neg (fun z => h11 ⟨by rw [z.1], by rw [z.1]⟩)
                · refine ⟨b, m', k1, k2, k3, ?_, ?_, ?_, ?_, fun j hj => ?_⟩
                  · exact (o3 _ _ (Nat.ne_of_beq_eq_false rfl) (Nat.ne_of_beq_eq_false rfl) (Nat.ne_of_beq_eq_false rfl)).trans k4
                  · exact (o3 _ _ (by decide) (by decide) (by decide)).trans k5
                  · exact (o3 _ _ (Nat.ne_of_beq_eq_false rfl) (Nat.ne_of_beq_eq_false rfl) (Nat.ne_of_beq_eq_false rfl)).trans k6
                  · exact (o3 _ _ (by decide) (by decide) (by decide)).trans k7
                  · have y1 : D3 (11, u, 0) j = if d ≤ j ∧ j < d + k then S.2 (11, s, 0) (a + (j - d)) else S.2 (11, u, 0) j := by
                      rw [fin, if_neg (fun w => by cases w.1), if_neg (fun w => by cases w.1)]
                      unfold cpD
                      by_cases w : d ≤ j ∧ j < d + k
                      · rw [if_pos ⟨rfl, w⟩, if_pos w]
                      · rw [if_neg (fun z => w z.2), if_neg w]
                    have y2 : D3 (31, 0, 0) (40 * u + j) = if d ≤ j ∧ j < d + k then S.2 (31, 0, 0) (40 * s + (a + (j - d))) else S.2 (31, 0, 0) (40 * u + j) := by
                      rw [fin]
                      by_cases w : d ≤ j ∧ j < d + k
                      · rw [if_pos ⟨rfl, by omega, by omega⟩, if_pos w, show 40 * s + a + (40 * u + j - (40 * u + d)) = 40 * s + (a + (j - d)) by omega]
                      · rw [if_neg (fun z => w (by omega)), if_neg (fun z => by cases z.1), if_neg w, o1 _ _ (by decide)]
                    show D3 (11, u, 0) j = D3 (31, 0, 0) (40 * u + j)
                    rw [y1, y2]
                    by_cases w : d ≤ j ∧ j < d + k
                    · rw [if_pos w, if_pos w]
                      exact g8 _ (by omega)
                    · rw [if_neg w, if_neg w]
                      exact k8 j hj
            · refine op_fin (k := 0) (w := -1000001) (by decide) hJ ?_ ?_
              · by_cases z1 : ruP m f c
                · have z2 : ¬ ruP m' t c := fun w => cr ⟨z1, w⟩
                  simp only [nl_n, nl_i, nl_r, x_ci, x_ca, x_bin, x_ife, x_ifl, x_ifg, x_cme, x_cml, x_cmg, x_go, x_no, x_b, x_ps, x_pn, cs_n, cs_i, cs_j, cs_r, en_n, en_i, en_j, en_r, xi1, x_k1_s, xi3, xa0, x_k2_0, r_i, r_j, r_v, r_z1, r_z0, r_a, g_0_4, l_2, l_9, l_27, xb6n, xb6i, xb6r, xb7n, xb7i, xb7r, xa6, g_10_1, xa7, xi2, xi5, x_k3_10, xi4, g_10_0, e93_0, e93_1, e93_4, e93_7, e93_8, e93_11, e93_14, e93_15, e93_16, e93_19, e93_20, e93_21, e93_24, e93_25, e93_26, e93_28, e93_29, e93_32, e93_33, e93_34, e93_36, e93_38, e93_41, e93_44, e93_46, e93_49, e93_52, e93_53, e93_54, e93_57, e93_58, e93_60, e93_63, e93_65, e93_68, e93_71, e93_72, e93_73, e93_76, e93_77, e93_79, e93_80, e93_82, e93_85, e93_88, e93_90, e93_92, e93_94, e93_97, e93_100, e93_101, e93_102, e93_105, e93_108, e93_111, e93_112, e93_114, e93_117, e93_119, e93_121, e93_124, e93_126, c93, i10, i00, n2, n10, n20, n60, n8, n9, bi0, ite_not, List.replicate, Nat.reduceAdd, Nat.reduceSub, Nat.reduceLeDiff, Nat.reduceLT, if_true, if_false, mg, reduceIte, not_false_eq_true, eq_self, and_self, and_true, true_and, true_or, or_true, Nat.reduceEqDiff, t_isSh5, (bi_t c1), (bi_t c2), hs, hu, g4, k4, (nq0 hb1), cb, r1, r2, (bi_t z1), (bi_f z2), tel0]
                · simp only [nl_n, nl_i, nl_r, x_ci, x_ca, x_bin, x_ife, x_ifl, x_ifg, x_cme, x_cml, x_cmg, x_go, x_no, x_b, x_ps, x_pn, cs_n, cs_i, cs_j, cs_r, en_n, en_i, en_j, en_r, xi1, x_k1_s, xi3, xa0, x_k2_0, r_i, r_j, r_v, r_z1, r_z0, r_a, g_0_4, l_2, l_9, l_27, xb6n, xb6i, xb6r, xb7n, xb7i, xb7r, xa6, g_10_1, xa7, xi2, xi5, x_k3_10, xi4, g_10_0, e93_0, e93_1, e93_4, e93_7, e93_8, e93_11, e93_14, e93_15, e93_16, e93_19, e93_20, e93_21, e93_24, e93_25, e93_26, e93_28, e93_29, e93_32, e93_33, e93_34, e93_36, e93_38, e93_41, e93_44, e93_46, e93_49, e93_52, e93_53, e93_54, e93_57, e93_58, e93_60, e93_63, e93_65, e93_68, e93_71, e93_72, e93_73, e93_76, e93_77, e93_79, e93_80, e93_82, e93_85, e93_88, e93_90, e93_92, e93_94, e93_97, e93_100, e93_101, e93_102, e93_105, e93_108, e93_111, e93_112, e93_114, e93_117, e93_119, e93_121, e93_124, e93_126, c93, i10, i00, n2, n10, n20, n60, n8, n9, bi0, ite_not, List.replicate, Nat.reduceAdd, Nat.reduceSub, Nat.reduceLeDiff, Nat.reduceLT, if_true, if_false, mg, reduceIte, not_false_eq_true, eq_self, and_self, and_true, true_and, true_or, or_true, Nat.reduceEqDiff, t_isSh5, (bi_t c1), (bi_t c2), hs, hu, g4, k4, (nq0 hb1), cb, r1, (bi_f z1), tel0]
              · by_cases z1 : f < 0
                · simp only [nl_n, nl_i, nl_r, x_ci, x_ca, x_bin, x_ife, x_ifl, x_ifg, x_cme, x_cml, x_cmg, x_go, x_no, x_b, x_ps, x_pn, cs_n, cs_i, cs_j, cs_r, en_n, en_i, en_j, en_r, xi1, x_k1_s, xi3, xa0, x_k2_20, r_i, r_j, r_v, r_z1, r_z0, r_a, g_20_18, l_3, l_5, l_8, l_11, l_12, l_21, l_22, l_23, l_24, l_25, l_26, l_28, l_29, l_30, l_31, l_32, xi2, xi4, xi5, x_i2l, x_bnj, g_20_19, x_lcm, xs6n, xs6i, xs6r, xi6, g_20_21, g_20_20, s_3, s_5, s_8, s_11, s_12, s_21, s_22, s_23, s_24, s_25, s_26, s_28, s_29, s_30, s_31, s_32, xn6n, xn6i, xn6r, e203_0, e203_1, e203_4, e203_7, e203_8, e203_11, e203_14, e203_15, e203_17, e203_20, e203_21, e203_22, e203_25, e203_26, e203_27, e203_30, e203_31, e203_34, e203_35, e203_36, e203_39, e203_40, e203_42, e203_45, e203_46, e203_47, e203_50, e203_51, e203_52, e203_53, e203_56, e203_57, e203_58, e203_61, e203_62, e203_65, e203_68, e203_69, e203_70, e203_73, e203_75, e203_78, e203_80, e203_83, e203_84, e203_85, e203_87, e203_88, e203_89, e203_90, e203_93, e203_94, e203_95, e203_96, e203_97, e203_100, e203_102, e203_103, e203_105, e203_106, e203_107, e203_108, e203_111, e203_112, e203_113, e203_114, e203_115, e203_118, e203_119, e203_121, e203_124, e203_125, e203_126, e203_130, e203_132, e203_135, e203_136, e203_139, e203_141, e203_142, e203_145, e203_147, e203_148, e203_149, e203_150, e203_151, e203_153, e203_154, e203_155, e203_156, e203_159, e203_162, e203_163, e203_167, e203_169, e203_172, e203_173, e203_176, e203_178, e203_179, e203_180, e203_182, e203_183, e203_185, e203_186, e203_187, e203_190, e203_192, e203_193, e203_194, e203_197, e203_200, e203_202, c203, i10, i00, n2, n10, n20, n60, n8, n9, bi0, ite_not, List.replicate, Nat.reduceAdd, Nat.reduceSub, Nat.reduceLeDiff, Nat.reduceLT, if_true, if_false, mg, reduceIte, not_false_eq_true, eq_self, and_self, and_true, true_and, true_or, or_true, Nat.reduceEqDiff, t_isSh6, (bi_t c1), (bi_t c2), hs, hu, g5', k5', (nq0 hb1), cb, z1, fnd0]
                · by_cases z2 : t < 0
                  · simp only [nl_n, nl_i, nl_r, x_ci, x_ca, x_bin, x_ife, x_ifl, x_ifg, x_cme, x_cml, x_cmg, x_go, x_no, x_b, x_ps, x_pn, cs_n, cs_i, cs_j, cs_r, en_n, en_i, en_j, en_r, xi1, x_k1_s, xi3, xa0, x_k2_20, r_i, r_j, r_v, r_z1, r_z0, r_a, g_20_18, l_3, l_5, l_8, l_11, l_12, l_21, l_22, l_23, l_24, l_25, l_26, l_28, l_29, l_30, l_31, l_32, xi2, xi4, xi5, x_i2l, x_bnj, g_20_19, x_lcm, xs6n, xs6i, xs6r, xi6, g_20_21, g_20_20, s_3, s_5, s_8, s_11, s_12, s_21, s_22, s_23, s_24, s_25, s_26, s_28, s_29, s_30, s_31, s_32, xn6n, xn6i, xn6r, e203_0, e203_1, e203_4, e203_7, e203_8, e203_11, e203_14, e203_15, e203_17, e203_20, e203_21, e203_22, e203_25, e203_26, e203_27, e203_30, e203_31, e203_34, e203_35, e203_36, e203_39, e203_40, e203_42, e203_45, e203_46, e203_47, e203_50, e203_51, e203_52, e203_53, e203_56, e203_57, e203_58, e203_61, e203_62, e203_65, e203_68, e203_69, e203_70, e203_73, e203_75, e203_78, e203_80, e203_83, e203_84, e203_85, e203_87, e203_88, e203_89, e203_90, e203_93, e203_94, e203_95, e203_96, e203_97, e203_100, e203_102, e203_103, e203_105, e203_106, e203_107, e203_108, e203_111, e203_112, e203_113, e203_114, e203_115, e203_118, e203_119, e203_121, e203_124, e203_125, e203_126, e203_130, e203_132, e203_135, e203_136, e203_139, e203_141, e203_142, e203_145, e203_147, e203_148, e203_149, e203_150, e203_151, e203_153, e203_154, e203_155, e203_156, e203_159, e203_162, e203_163, e203_167, e203_169, e203_172, e203_173, e203_176, e203_178, e203_179, e203_180, e203_182, e203_183, e203_185, e203_186, e203_187, e203_190, e203_192, e203_193, e203_194, e203_197, e203_200, e203_202, c203, i10, i00, n2, n10, n20, n60, n8, n9, bi0, ite_not, List.replicate, Nat.reduceAdd, Nat.reduceSub, Nat.reduceLeDiff, Nat.reduceLT, if_true, if_false, mg, reduceIte, not_false_eq_true, eq_self, and_self, and_true, true_and, true_or, or_true, Nat.reduceEqDiff, t_isSh6, (bi_t c1), (bi_t c2), hs, hu, g5', k5', (nq0 hb1), cb, z1, z2, fnd0]
                  · by_cases z3 : c < 0
                    · simp only [nl_n, nl_i, nl_r, x_ci, x_ca, x_bin, x_ife, x_ifl, x_ifg, x_cme, x_cml, x_cmg, x_go, x_no, x_b, x_ps, x_pn, cs_n, cs_i, cs_j, cs_r, en_n, en_i, en_j, en_r, xi1, x_k1_s, xi3, xa0, x_k2_20, r_i, r_j, r_v, r_z1, r_z0, r_a, g_20_18, l_3, l_5, l_8, l_11, l_12, l_21, l_22, l_23, l_24, l_25, l_26, l_28, l_29, l_30, l_31, l_32, xi2, xi4, xi5, x_i2l, x_bnj, g_20_19, x_lcm, xs6n, xs6i, xs6r, xi6, g_20_21, g_20_20, s_3, s_5, s_8, s_11, s_12, s_21, s_22, s_23, s_24, s_25, s_26, s_28, s_29, s_30, s_31, s_32, xn6n, xn6i, xn6r, e203_0, e203_1, e203_4, e203_7, e203_8, e203_11, e203_14, e203_15, e203_17, e203_20, e203_21, e203_22, e203_25, e203_26, e203_27, e203_30, e203_31, e203_34, e203_35, e203_36, e203_39, e203_40, e203_42, e203_45, e203_46, e203_47, e203_50, e203_51, e203_52, e203_53, e203_56, e203_57, e203_58, e203_61, e203_62, e203_65, e203_68, e203_69, e203_70, e203_73, e203_75, e203_78, e203_80, e203_83, e203_84, e203_85, e203_87, e203_88, e203_89, e203_90, e203_93, e203_94, e203_95, e203_96, e203_97, e203_100, e203_102, e203_103, e203_105, e203_106, e203_107, e203_108, e203_111, e203_112, e203_113, e203_114, e203_115, e203_118, e203_119, e203_121, e203_124, e203_125, e203_126, e203_130, e203_132, e203_135, e203_136, e203_139, e203_141, e203_142, e203_145, e203_147, e203_148, e203_149, e203_150, e203_151, e203_153, e203_154, e203_155, e203_156, e203_159, e203_162, e203_163, e203_167, e203_169, e203_172, e203_173, e203_176, e203_178, e203_179, e203_180, e203_182, e203_183, e203_185, e203_186, e203_187, e203_190, e203_192, e203_193, e203_194, e203_197, e203_200, e203_202, c203, i10, i00, n2, n10, n20, n60, n8, n9, bi0, ite_not, List.replicate, Nat.reduceAdd, Nat.reduceSub, Nat.reduceLeDiff, Nat.reduceLT, if_true, if_false, mg, reduceIte, not_false_eq_true, eq_self, and_self, and_true, true_and, true_or, or_true, Nat.reduceEqDiff, t_isSh6, (bi_t c1), (bi_t c2), hs, hu, g5', k5', (nq0 hb1), cb, z1, z2, z3, fnd0]
                    · obtain ⟨a, ha, rfl⟩ := nI_of z1
                      obtain ⟨d, hd, rfl⟩ := nI_of z2
                      obtain ⟨k, hk, rfl⟩ := nI_of z3
                      have l1 := lc_g ha hk (show m < 2 ^ 31 by omega)
                      have l2 := lc_g hd hk (show m' < 2 ^ 31 by omega)
                      rw [ru_N g2 ha hk, ru_N k2 hd hk] at cr
                      by_cases z4 : m < a + k
                      · simp only [nl_n, nl_i, nl_r, x_ci, x_ca, x_bin, x_ife, x_ifl, x_ifg, x_cme, x_cml, x_cmg, x_go, x_no, x_b, x_ps, x_pn, cs_n, cs_i, cs_j, cs_r, en_n, en_i, en_j, en_r, xi1, x_k1_s, xi3, xa0, x_k2_20, r_i, r_j, r_v, r_z1, r_z0, r_a, g_20_18, l_3, l_5, l_8, l_11, l_12, l_21, l_22, l_23, l_24, l_25, l_26, l_28, l_29, l_30, l_31, l_32, xi2, xi4, xi5, x_i2l, x_bnj, g_20_19, x_lcm, xs6n, xs6i, xs6r, xi6, g_20_21, g_20_20, s_3, s_5, s_8, s_11, s_12, s_21, s_22, s_23, s_24, s_25, s_26, s_28, s_29, s_30, s_31, s_32, xn6n, xn6i, xn6r, e203_0, e203_1, e203_4, e203_7, e203_8, e203_11, e203_14, e203_15, e203_17, e203_20, e203_21, e203_22, e203_25, e203_26, e203_27, e203_30, e203_31, e203_34, e203_35, e203_36, e203_39, e203_40, e203_42, e203_45, e203_46, e203_47, e203_50, e203_51, e203_52, e203_53, e203_56, e203_57, e203_58, e203_61, e203_62, e203_65, e203_68, e203_69, e203_70, e203_73, e203_75, e203_78, e203_80, e203_83, e203_84, e203_85, e203_87, e203_88, e203_89, e203_90, e203_93, e203_94, e203_95, e203_96, e203_97, e203_100, e203_102, e203_103, e203_105, e203_106, e203_107, e203_108, e203_111, e203_112, e203_113, e203_114, e203_115, e203_118, e203_119, e203_121, e203_124, e203_125, e203_126, e203_130, e203_132, e203_135, e203_136, e203_139, e203_141, e203_142, e203_145, e203_147, e203_148, e203_149, e203_150, e203_151, e203_153, e203_154, e203_155, e203_156, e203_159, e203_162, e203_163, e203_167, e203_169, e203_172, e203_173, e203_176, e203_178, e203_179, e203_180, e203_182, e203_183, e203_185, e203_186, e203_187, e203_190, e203_192, e203_193, e203_194, e203_197, e203_200, e203_202, c203, i10, i00, n2, n10, n20, n60, n8, n9, bi0, ite_not, List.replicate, Nat.reduceAdd, Nat.reduceSub, Nat.reduceLeDiff, Nat.reduceLT, if_true, if_false, mg, reduceIte, not_false_eq_true, eq_self, and_self, and_true, true_and, true_or, or_true, Nat.reduceEqDiff, t_isSh6, (bi_t c1), (bi_t c2), hs, hu, g5', k5', (nq0 hb1), cb, z1, z2, z3, g7', k7', l1, l2, z4, fnd0]
                      · have z5 : m' < d + k := by omega
                        simp only [nl_n, nl_i, nl_r, x_ci, x_ca, x_bin, x_ife, x_ifl, x_ifg, x_cme, x_cml, x_cmg, x_go, x_no, x_b, x_ps, x_pn, cs_n, cs_i, cs_j, cs_r, en_n, en_i, en_j, en_r, xi1, x_k1_s, xi3, xa0, x_k2_20, r_i, r_j, r_v, r_z1, r_z0, r_a, g_20_18, l_3, l_5, l_8, l_11, l_12, l_21, l_22, l_23, l_24, l_25, l_26, l_28, l_29, l_30, l_31, l_32, xi2, xi4, xi5, x_i2l, x_bnj, g_20_19, x_lcm, xs6n, xs6i, xs6r, xi6, g_20_21, g_20_20, s_3, s_5, s_8, s_11, s_12, s_21, s_22, s_23, s_24, s_25, s_26, s_28, s_29, s_30, s_31, s_32, xn6n, xn6i, xn6r, e203_0, e203_1, e203_4, e203_7, e203_8, e203_11, e203_14, e203_15, e203_17, e203_20, e203_21, e203_22, e203_25, e203_26, e203_27, e203_30, e203_31, e203_34, e203_35, e203_36, e203_39, e203_40, e203_42, e203_45, e203_46, e203_47, e203_50, e203_51, e203_52, e203_53, e203_56, e203_57, e203_58, e203_61, e203_62, e203_65, e203_68, e203_69, e203_70, e203_73, e203_75, e203_78, e203_80, e203_83, e203_84, e203_85, e203_87, e203_88, e203_89, e203_90, e203_93, e203_94, e203_95, e203_96, e203_97, e203_100, e203_102, e203_103, e203_105, e203_106, e203_107, e203_108, e203_111, e203_112, e203_113, e203_114, e203_115, e203_118, e203_119, e203_121, e203_124, e203_125, e203_126, e203_130, e203_132, e203_135, e203_136, e203_139, e203_141, e203_142, e203_145, e203_147, e203_148, e203_149, e203_150, e203_151, e203_153, e203_154, e203_155, e203_156, e203_159, e203_162, e203_163, e203_167, e203_169, e203_172, e203_173, e203_176, e203_178, e203_179, e203_180, e203_182, e203_183, e203_185, e203_186, e203_187, e203_190, e203_192, e203_193, e203_194, e203_197, e203_200, e203_202, c203, i10, i00, n2, n10, n20, n60, n8, n9, bi0, ite_not, List.replicate, Nat.reduceAdd, Nat.reduceSub, Nat.reduceLeDiff, Nat.reduceLT, if_true, if_false, mg, reduceIte, not_false_eq_true, eq_self, and_self, and_true, true_and, true_or, or_true, Nat.reduceEqDiff, t_isSh6, (bi_t c1), (bi_t c2), hs, hu, g5', k5', (nq0 hb1), cb, z1, z2, z3, g7', k7', l1, l2, z4, z5, fnd0]
          · refine op_fin (k := 2) (w := -1000003) (by decide) hJ ?_ ?_
            · simp only [nl_n, nl_i, nl_r, x_ci, x_ca, x_bin, x_ife, x_ifl, x_ifg, x_cme, x_cml, x_cmg, x_go, x_no, x_b, x_ps, x_pn, cs_n, cs_i, cs_j, cs_r, en_n, en_i, en_j, en_r, xi1, x_k1_s, xi3, xa0, x_k2_0, r_i, r_j, r_v, r_z1, r_z0, r_a, g_0_4, l_2, l_9, l_27, xb6n, xb6i, xb6r, xb7n, xb7i, xb7r, xa6, g_10_1, xa7, xi2, xi5, x_k3_10, xi4, g_10_0, e93_0, e93_1, e93_4, e93_7, e93_8, e93_11, e93_14, e93_15, e93_16, e93_19, e93_20, e93_21, e93_24, e93_25, e93_26, e93_28, e93_29, e93_32, e93_33, e93_34, e93_36, e93_38, e93_41, e93_44, e93_46, e93_49, e93_52, e93_53, e93_54, e93_57, e93_58, e93_60, e93_63, e93_65, e93_68, e93_71, e93_72, e93_73, e93_76, e93_77, e93_79, e93_80, e93_82, e93_85, e93_88, e93_90, e93_92, e93_94, e93_97, e93_100, e93_101, e93_102, e93_105, e93_108, e93_111, e93_112, e93_114, e93_117, e93_119, e93_121, e93_124, e93_126, c93, i10, i00, n2, n10, n20, n60, n8, n9, bi0, ite_not, List.replicate, Nat.reduceAdd, Nat.reduceSub, Nat.reduceLeDiff, Nat.reduceLT, if_true, if_false, mg, reduceIte, not_false_eq_true, eq_self, and_self, and_true, true_and, true_or, or_true, Nat.reduceEqDiff, t_isSh5, (bi_t c1), (bi_t c2), hs, hu, g4, k4, (nq0 hb1), (nq0 hb2), (nq hb1 hb2), cb, cb', ce, tel2]
            · simp only [nl_n, nl_i, nl_r, x_ci, x_ca, x_bin, x_ife, x_ifl, x_ifg, x_cme, x_cml, x_cmg, x_go, x_no, x_b, x_ps, x_pn, cs_n, cs_i, cs_j, cs_r, en_n, en_i, en_j, en_r, xi1, x_k1_s, xi3, xa0, x_k2_20, r_i, r_j, r_v, r_z1, r_z0, r_a, g_20_18, l_3, l_5, l_8, l_11, l_12, l_21, l_22, l_23, l_24, l_25, l_26, l_28, l_29, l_30, l_31, l_32, xi2, xi4, xi5, x_i2l, x_bnj, g_20_19, x_lcm, xs6n, xs6i, xs6r, xi6, g_20_21, g_20_20, s_3, s_5, s_8, s_11, s_12, s_21, s_22, s_23, s_24, s_25, s_26, s_28, s_29, s_30, s_31, s_32, xn6n, xn6i, xn6r, e203_0, e203_1, e203_4, e203_7, e203_8, e203_11, e203_14, e203_15, e203_17, e203_20, e203_21, e203_22, e203_25, e203_26, e203_27, e203_30, e203_31, e203_34, e203_35, e203_36, e203_39, e203_40, e203_42, e203_45, e203_46, e203_47, e203_50, e203_51, e203_52, e203_53, e203_56, e203_57, e203_58, e203_61, e203_62, e203_65, e203_68, e203_69, e203_70, e203_73, e203_75, e203_78, e203_80, e203_83, e203_84, e203_85, e203_87, e203_88, e203_89, e203_90, e203_93, e203_94, e203_95, e203_96, e203_97, e203_100, e203_102, e203_103, e203_105, e203_106, e203_107, e203_108, e203_111, e203_112, e203_113, e203_114, e203_115, e203_118, e203_119, e203_121, e203_124, e203_125, e203_126, e203_130, e203_132, e203_135, e203_136, e203_139, e203_141, e203_142, e203_145, e203_147, e203_148, e203_149, e203_150, e203_151, e203_153, e203_154, e203_155, e203_156, e203_159, e203_162, e203_163, e203_167, e203_169, e203_172, e203_173, e203_176, e203_178, e203_179, e203_180, e203_182, e203_183, e203_185, e203_186, e203_187, e203_190, e203_192, e203_193, e203_194, e203_197, e203_200, e203_202, c203, i10, i00, n2, n10, n20, n60, n8, n9, bi0, ite_not, List.replicate, Nat.reduceAdd, Nat.reduceSub, Nat.reduceLeDiff, Nat.reduceLT, if_true, if_false, mg, reduceIte, not_false_eq_true, eq_self, and_self, and_true, true_and, true_or, or_true, Nat.reduceEqDiff, t_isSh6, (bi_t c1), (bi_t c2), hs, hu, g5', k5', (nq0 hb1), (nq0 hb2), (nq hb1 hb2), cb, cb', ce, fnd2]
    · refine op_fin (k := 0) (w := -1000001) (by decide) hJ ?_ ?_
      · simp only [nl_n, nl_i, nl_r, x_ci, x_ca, x_bin, x_ife, x_ifl, x_ifg, x_cme, x_cml, x_cmg, x_go, x_no, x_b, x_ps, x_pn, cs_n, cs_i, cs_j, cs_r, en_n, en_i, en_j, en_r, xi1, x_k1_s, xi3, xa0, x_k2_0, r_i, r_j, r_v, r_z1, r_z0, r_a, g_0_4, l_2, l_9, l_27, xb6n, xb6i, xb6r, xb7n, xb7i, xb7r, xa6, g_10_1, xa7, xi2, xi5, x_k3_10, xi4, g_10_0, e93_0, e93_1, e93_4, e93_7, e93_8, e93_11, e93_14, e93_15, e93_16, e93_19, e93_20, e93_21, e93_24, e93_25, e93_26, e93_28, e93_29, e93_32, e93_33, e93_34, e93_36, e93_38, e93_41, e93_44, e93_46, e93_49, e93_52, e93_53, e93_54, e93_57, e93_58, e93_60, e93_63, e93_65, e93_68, e93_71, e93_72, e93_73, e93_76, e93_77, e93_79, e93_80, e93_82, e93_85, e93_88, e93_90, e93_92, e93_94, e93_97, e93_100, e93_101, e93_102, e93_105, e93_106, e93_108, e93_111, e93_112, e93_114, e93_117, e93_119, e93_121, e93_124, e93_126, c93, i10, i00, n2, n10, n20, n60, n8, n9, bi0, ite_not, List.replicate, Nat.reduceAdd, Nat.reduceSub, Nat.reduceLeDiff, Nat.reduceLT, if_true, if_false, mg, reduceIte, not_false_eq_true, eq_self, and_self, and_true, true_and, true_or, or_true, Nat.reduceEqDiff, t_isSh5, (bi_t c1), (bi_f c2), tel0]
      · simp only [nl_n, nl_i, nl_r, x_ci, x_ca, x_bin, x_ife, x_ifl, x_ifg, x_cme, x_cml, x_cmg, x_go, x_no, x_b, x_ps, x_pn, cs_n, cs_i, cs_j, cs_r, en_n, en_i, en_j, en_r, xi1, x_k1_s, xi3, xa0, x_k2_20, r_i, r_j, r_v, r_z1, r_z0, r_a, g_20_18, l_3, l_5, l_8, l_11, l_12, l_21, l_22, l_23, l_24, l_25, l_26, l_28, l_29, l_30, l_31, l_32, xi2, xi4, xi5, x_i2l, x_bnj, g_20_19, x_lcm, xs6n, xs6i, xs6r, xi6, g_20_21, g_20_20, s_3, s_5, s_8, s_11, s_12, s_21, s_22, s_23, s_24, s_25, s_26, s_28, s_29, s_30, s_31, s_32, xn6n, xn6i, xn6r, e203_0, e203_1, e203_4, e203_7, e203_8, e203_11, e203_14, e203_15, e203_17, e203_20, e203_21, e203_22, e203_25, e203_26, e203_27, e203_30, e203_31, e203_34, e203_35, e203_36, e203_39, e203_40, e203_42, e203_45, e203_46, e203_47, e203_50, e203_51, e203_52, e203_53, e203_56, e203_57, e203_58, e203_61, e203_62, e203_65, e203_68, e203_69, e203_70, e203_73, e203_75, e203_78, e203_80, e203_83, e203_84, e203_85, e203_87, e203_88, e203_89, e203_90, e203_93, e203_94, e203_95, e203_96, e203_97, e203_100, e203_102, e203_103, e203_105, e203_106, e203_107, e203_108, e203_111, e203_112, e203_113, e203_114, e203_115, e203_118, e203_119, e203_121, e203_124, e203_125, e203_126, e203_130, e203_132, e203_135, e203_136, e203_139, e203_141, e203_142, e203_145, e203_147, e203_148, e203_149, e203_150, e203_151, e203_153, e203_154, e203_155, e203_156, e203_159, e203_162, e203_163, e203_167, e203_169, e203_172, e203_173, e203_176, e203_178, e203_179, e203_180, e203_182, e203_183, e203_185, e203_186, e203_187, e203_190, e203_192, e203_193, e203_194, e203_197, e203_200, e203_202, c203, i10, i00, n2, n10, n20, n60, n8, n9, bi0, ite_not, List.replicate, Nat.reduceAdd, Nat.reduceSub, Nat.reduceLeDiff, Nat.reduceLT, if_true, if_false, mg, reduceIte, not_false_eq_true, eq_self, and_self, and_true, true_and, true_or, or_true, Nat.reduceEqDiff, t_isSh6, (bi_t c1), (bi_f c2), fnd0]
  · refine op_fin (k := 0) (w := -1000001) (by decide) hJ ?_ ?_
    · simp only [nl_n, nl_i, nl_r, x_ci, x_ca, x_bin, x_ife, x_ifl, x_ifg, x_cme, x_cml, x_cmg, x_go, x_no, x_b, x_ps, x_pn, cs_n, cs_i, cs_j, cs_r, en_n, en_i, en_j, en_r, xi1, x_k1_s, xi3, xa0, x_k2_0, r_i, r_j, r_v, r_z1, r_z0, r_a, g_0_4, l_2, l_9, l_27, xb6n, xb6i, xb6r, xb7n, xb7i, xb7r, xa6, g_10_1, xa7, xi2, xi5, x_k3_10, xi4, g_10_0, e93_0, e93_1, e93_4, e93_7, e93_8, e93_11, e93_14, e93_15, e93_16, e93_19, e93_20, e93_21, e93_24, e93_25, e93_26, e93_28, e93_29, e93_32, e93_33, e93_34, e93_36, e93_38, e93_41, e93_44, e93_46, e93_49, e93_52, e93_53, e93_54, e93_57, e93_58, e93_60, e93_63, e93_65, e93_68, e93_71, e93_72, e93_73, e93_76, e93_77, e93_79, e93_80, e93_82, e93_85, e93_88, e93_90, e93_92, e93_94, e93_97, e93_100, e93_101, e93_102, e93_105, e93_106, e93_108, e93_111, e93_112, e93_114, e93_117, e93_119, e93_121, e93_124, e93_126, c93, i10, i00, n2, n10, n20, n60, n8, n9, bi0, ite_not, List.replicate, Nat.reduceAdd, Nat.reduceSub, Nat.reduceLeDiff, Nat.reduceLT, if_true, if_false, mg, reduceIte, not_false_eq_true, eq_self, and_self, and_true, true_and, true_or, or_true, Nat.reduceEqDiff, t_isSh5, (bi_f c1), tel0]
    · simp only [nl_n, nl_i, nl_r, x_ci, x_ca, x_bin, x_ife, x_ifl, x_ifg, x_cme, x_cml, x_cmg, x_go, x_no, x_b, x_ps, x_pn, cs_n, cs_i, cs_j, cs_r, en_n, en_i, en_j, en_r, xi1, x_k1_s, xi3, xa0, x_k2_20, r_i, r_j, r_v, r_z1, r_z0, r_a, g_20_18, l_3, l_5, l_8, l_11, l_12, l_21, l_22, l_23, l_24, l_25, l_26, l_28, l_29, l_30, l_31, l_32, xi2, xi4, xi5, x_i2l, x_bnj, g_20_19, x_lcm, xs6n, xs6i, xs6r, xi6, g_20_21, g_20_20, s_3, s_5, s_8, s_11, s_12, s_21, s_22, s_23, s_24, s_25, s_26, s_28, s_29, s_30, s_31, s_32, xn6n, xn6i, xn6r, e203_0, e203_1, e203_4, e203_7, e203_8, e203_11, e203_14, e203_15, e203_17, e203_20, e203_21, e203_22, e203_25, e203_26, e203_27, e203_30, e203_31, e203_34, e203_35, e203_36, e203_39, e203_40, e203_42, e203_45, e203_46, e203_47, e203_50, e203_51, e203_52, e203_53, e203_56, e203_57, e203_58, e203_61, e203_62, e203_65, e203_68, e203_69, e203_70, e203_73, e203_75, e203_78, e203_80, e203_83, e203_84, e203_85, e203_87, e203_88, e203_89, e203_90, e203_93, e203_94, e203_95, e203_96, e203_97, e203_100, e203_102, e203_103, e203_105, e203_106, e203_107, e203_108, e203_111, e203_112, e203_113, e203_114, e203_115, e203_118, e203_119, e203_121, e203_124, e203_125, e203_126, e203_130, e203_132, e203_135, e203_136, e203_139, e203_141, e203_142, e203_145, e203_147, e203_148, e203_149, e203_150, e203_151, e203_153, e203_154, e203_155, e203_156, e203_159, e203_162, e203_163, e203_167, e203_169, e203_172, e203_173, e203_176, e203_178, e203_179, e203_180, e203_182, e203_183, e203_185, e203_186, e203_187, e203_190, e203_192, e203_193, e203_194, e203_197, e203_200, e203_202, c203, i10, i00, n2, n10, n20, n60, n8, n9, bi0, ite_not, List.replicate, Nat.reduceAdd, Nat.reduceSub, Nat.reduceLeDiff, Nat.reduceLT, if_true, if_false, mg, reduceIte, not_false_eq_true, eq_self, and_self, and_true, true_and, true_or, or_true, Nat.reduceEqDiff, t_isSh6, (bi_f c1), fnd0]
