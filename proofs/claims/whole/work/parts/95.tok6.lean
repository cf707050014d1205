/-! THE REFERENCE'S TOKENS -/
def mwD (D : aD) (p e k v w m s : Int32) (it : Nat → Int32) : aD := fun r j => if r = (20, 0, 0) ∧ j = 9 then p else if r = (20, 0, 0) ∧ j = 10 then e else if r = (20, 0, 0) ∧ j = 11 then k else if r = (20, 0, 0) ∧ j = 12 then v else if r = (20, 0, 0) ∧ j = 13 then w else if r = (20, 0, 0) ∧ j = 16 then m else if r = (20, 0, 0) ∧ j = 17 then s else if r = (28, 0, 0) then it j else D r j
theorem mw_9 {D : aD} {p e k v w m s : Int32} {it : Nat → Int32} : mwD D p e k v w m s it (20, 0, 0) 9 = p := by simp [mwD]
theorem mw_10 {D : aD} {p e k v w m s : Int32} {it : Nat → Int32} : mwD D p e k v w m s it (20, 0, 0) 10 = e := by simp [mwD]
theorem mw_11 {D : aD} {p e k v w m s : Int32} {it : Nat → Int32} : mwD D p e k v w m s it (20, 0, 0) 11 = k := by simp [mwD]
theorem mw_12 {D : aD} {p e k v w m s : Int32} {it : Nat → Int32} : mwD D p e k v w m s it (20, 0, 0) 12 = v := by simp [mwD]
theorem mw_13 {D : aD} {p e k v w m s : Int32} {it : Nat → Int32} : mwD D p e k v w m s it (20, 0, 0) 13 = w := by simp [mwD]
theorem mw_16 {D : aD} {p e k v w m s : Int32} {it : Nat → Int32} : mwD D p e k v w m s it (20, 0, 0) 16 = m := by simp [mwD]
theorem mw_17 {D : aD} {p e k v w m s : Int32} {it : Nat → Int32} : mwD D p e k v w m s it (20, 0, 0) 17 = s := by simp [mwD]
theorem mw_8 {D : aD} {p e k v w m s : Int32} {it : Nat → Int32} : mwD D p e k v w m s it (20, 0, 0) 8 = D (20, 0, 0) 8 := by simp [mwD]
theorem mw_26 {D : aD} {p e k v w m s : Int32} {it : Nat → Int32} {j : Nat} : mwD D p e k v w m s it (26, 0, 0) j = D (26, 0, 0) j := by simp [mwD]
theorem mw_28 {D : aD} {p e k v w m s : Int32} {it : Nat → Int32} {j : Nat} : mwD D p e k v w m s it (28, 0, 0) j = it j := by simp [mwD]
theorem mw_u9 {D : aD} {p e k v w m s : Int32} {it : Nat → Int32} {x : Int32} : uD (mwD D p e k v w m s it) (20, 0, 0) 9 x = mwD D x e k v w m s it := by
  funext r j
  unfold uD mwD
  by_cases c : r = (20, 0, 0) ∧ j = 9
  · rw [if_pos c, if_pos c]
  · rw [if_neg c, if_neg c, if_neg c]
theorem mw_u10 {D : aD} {p e k v w m s : Int32} {it : Nat → Int32} {x : Int32} : uD (mwD D p e k v w m s it) (20, 0, 0) 10 x = mwD D p x k v w m s it := by
  funext r j
  unfold uD mwD
  by_cases c : r = (20, 0, 0) ∧ j = 10
  · rw [if_pos c, if_neg (fun z => by have := c.2.symm.trans z.2; omega), if_pos c]
  · rw [if_neg c, if_neg c, if_neg c]
theorem mw_u11 {D : aD} {p e k v w m s : Int32} {it : Nat → Int32} {x : Int32} : uD (mwD D p e k v w m s it) (20, 0, 0) 11 x = mwD D p e x v w m s it := by
  funext r j
  unfold uD mwD
  by_cases c : r = (20, 0, 0) ∧ j = 11
  · rw [if_pos c, if_neg (fun z => by have := c.2.symm.trans z.2; omega), if_neg (fun z => by have := c.2.symm.trans z.2; omega), if_pos c]
  · rw [if_neg c, if_neg c, if_neg c]
theorem mw_u12 {D : aD} {p e k v w m s : Int32} {it : Nat → Int32} {x : Int32} : uD (mwD D p e k v w m s it) (20, 0, 0) 12 x = mwD D p e k x w m s it := by
  funext r j
  unfold uD mwD
  by_cases c : r = (20, 0, 0) ∧ j = 12
  · rw [if_pos c, if_neg (fun z => by have := c.2.symm.trans z.2; omega), if_neg (fun z => by have := c.2.symm.trans z.2; omega), if_neg (fun z => by have := c.2.symm.trans z.2; omega), if_pos c]
  · rw [if_neg c, if_neg c, if_neg c]
theorem mw_u13 {D : aD} {p e k v w m s : Int32} {it : Nat → Int32} {x : Int32} : uD (mwD D p e k v w m s it) (20, 0, 0) 13 x = mwD D p e k v x m s it := by
  funext r j
  unfold uD mwD
  by_cases c : r = (20, 0, 0) ∧ j = 13
  · rw [if_pos c, if_neg (fun z => by have := c.2.symm.trans z.2; omega), if_neg (fun z => by have := c.2.symm.trans z.2; omega), if_neg (fun z => by have := c.2.symm.trans z.2; omega), if_neg (fun z => by have := c.2.symm.trans z.2; omega), if_pos c]
  · rw [if_neg c, if_neg c, if_neg c]
theorem mw_u16 {D : aD} {p e k v w m s : Int32} {it : Nat → Int32} {x : Int32} : uD (mwD D p e k v w m s it) (20, 0, 0) 16 x = mwD D p e k v w x s it := by
  funext r j
  unfold uD mwD
  by_cases c : r = (20, 0, 0) ∧ j = 16
  · rw [if_pos c, if_neg (fun z => by have := c.2.symm.trans z.2; omega), if_neg (fun z => by have := c.2.symm.trans z.2; omega), if_neg (fun z => by have := c.2.symm.trans z.2; omega), if_neg (fun z => by have := c.2.symm.trans z.2; omega), if_neg (fun z => by have := c.2.symm.trans z.2; omega), if_pos c]
  · rw [if_neg c, if_neg c, if_neg c]
theorem mw_u17 {D : aD} {p e k v w m s : Int32} {it : Nat → Int32} {x : Int32} : uD (mwD D p e k v w m s it) (20, 0, 0) 17 x = mwD D p e k v w m x it := by
  funext r j
  unfold uD mwD
  by_cases c : r = (20, 0, 0) ∧ j = 17
  · rw [if_pos c, if_neg (fun z => by have := c.2.symm.trans z.2; omega), if_neg (fun z => by have := c.2.symm.trans z.2; omega), if_neg (fun z => by have := c.2.symm.trans z.2; omega), if_neg (fun z => by have := c.2.symm.trans z.2; omega), if_neg (fun z => by have := c.2.symm.trans z.2; omega), if_neg (fun z => by have := c.2.symm.trans z.2; omega), if_pos c]
  · rw [if_neg c, if_neg c, if_neg c]
theorem mw_ui {D : aD} {p e k v w m s : Int32} {it : Nat → Int32} {i : Nat} {x : Int32} : uD (mwD D p e k v w m s it) (28, 0, 0) i x = mwD D p e k v w m s (upd it i x) := by
  funext r j
  unfold uD mwD
  by_cases c : r = (28, 0, 0)
  · subst c
    have h : ∀ n, ¬ (((28, 0, 0) : aL) = (20, 0, 0) ∧ j = n) := fun n z => by cases z.1
    rw [if_neg (h _), if_neg (h _), if_neg (h _), if_neg (h _), if_neg (h _), if_neg (h _), if_neg (h _), if_pos rfl]
    rw [if_neg (h _), if_neg (h _), if_neg (h _), if_neg (h _), if_neg (h _), if_neg (h _), if_neg (h _), if_pos rfl]
    by_cases c2 : j = i
    · subst c2
      rw [if_pos ⟨rfl, rfl⟩]
      unfold upd
      rw [if_pos rfl]
    · rw [if_neg (fun z => c2 z.2)]
      unfold upd
      rw [if_neg c2]
  · rw [if_neg (fun z => c z.1), if_neg c, if_neg c]
theorem mw_self (D : aD) : mwD D (D (20, 0, 0) 9) (D (20, 0, 0) 10) (D (20, 0, 0) 11) (D (20, 0, 0) 12) (D (20, 0, 0) 13) (D (20, 0, 0) 16) (D (20, 0, 0) 17) (D (28, 0, 0)) = D := by
  funext r j
  unfold mwD
  (repeat' split)
  all_goals first | rfl | (rename_i c; rw [c.1, c.2]) | (rename_i c; rw [c])
theorem mw_eqJ {D : aD} {p e k v w m s : Int32} {it : Nat → Int32} : eqJ D (mwD D p e k v w m s it) := by
  intro r j h
  unfold mwD
  have h20 : ¬ (r.1 = 20 ∧ ((9 ≤ j ∧ j ≤ 13) ∨ j = 16 ∨ j = 17)) := fun z => h (Or.inr (Or.inr (Or.inr (Or.inr (Or.inr z)))))
  have h28 : ¬ r.1 = 28 := fun z => h (Or.inr (Or.inr (Or.inr (Or.inl z))))
  have hn : ∀ n, ((9 ≤ n ∧ n ≤ 13) ∨ n = 16 ∨ n = 17) → ¬ (r = (20, 0, 0) ∧ j = n) := fun n hn z => h20 ⟨by rw [z.1], by rw [z.2]; exact hn⟩
  rw [if_neg (hn _ (by decide)), if_neg (hn _ (by decide)), if_neg (hn _ (by decide)), if_neg (hn _ (by decide)), if_neg (hn _ (by decide)), if_neg (hn _ (by decide)), if_neg (hn _ (by decide)), if_neg (fun z => h28 (by rw [z]))]
/-- the reference's tape holds the same -/
def tpO (D : aD) (b : Nat → Int32) (t : Nat) : Prop := t ≤ 120 ∧ D (20, 0, 0) 8 = nI t ∧ ∀ j, j < t → D (26, 0, 0) j = b j ∧ inN 255 (b j)
def byF (b : Nat → Int32) (t p : Nat) : Int32 := if p < t then b p else -1
theorem t_byte {X : aX} {q : Nat → Nat → Int32} {D : aD} {p e k v w m s : Int32} {it : Nat → Int32} {b : Nat → Int32} {t i : Nat} (h : tpO D b t) (hi : i < 2 ^ 31) : cl X 185 [aR (20, 0, 0), aI (nI i)] (mem (q, mwD D p e k v w m s it)) = some (some (aI (byF b t i)), mem (q, mwD D p e k v w m s it)) := by
  obtain ⟨h1, h2, h3⟩ := h
  have lt : (nI i < nI t) = (i < t) := propext (nI_ltI hi (by omega))
  unfold byF
  by_cases c : i < t
  · have h120 : i < 120 := by omega
    rw [if_pos c]
    simp only [nl_n, nl_i, nl_r, x_ci, x_ca, x_bin, x_ife, x_ifl, x_ifg, x_cme, x_cml, x_cmg, x_go, x_no, x_b, x_ps, x_pn, cs_n, cs_i, cs_j, cs_r, en_n, en_i, en_j, en_r, xi1, xa0, g_20_8, g_20_7, l_3, l_5, l_8, l_11, l_12, l_21, l_22, l_23, l_24, l_25, l_26, l_28, l_29, l_30, l_31, l_32, r_i, r_j, r_v, r_z1, r_z0, r_a, e185_0, e185_1, e185_2, e185_5, e185_8, e185_9, e185_12, e185_13, e185_14, e185_17, e185_18, c185, i10, i00, n2, n10, n20, n60, n8, n9, bi0, ite_not, List.replicate, Nat.reduceAdd, Nat.reduceSub, Nat.reduceLeDiff, Nat.reduceLT, if_true, if_false, mg, reduceIte, not_false_eq_true, eq_self, and_self, and_true, true_and, true_or, or_true, Nat.reduceEqDiff, mw_8, mw_26, h2, lt, c, h120, (h3 i c).1]
  · rw [if_neg c]
    simp only [nl_n, nl_i, nl_r, x_ci, x_ca, x_bin, x_ife, x_ifl, x_ifg, x_cme, x_cml, x_cmg, x_go, x_no, x_b, x_ps, x_pn, cs_n, cs_i, cs_j, cs_r, en_n, en_i, en_j, en_r, xi1, xa0, g_20_8, g_20_7, l_3, l_5, l_8, l_11, l_12, l_21, l_22, l_23, l_24, l_25, l_26, l_28, l_29, l_30, l_31, l_32, r_i, r_j, r_v, r_z1, r_z0, r_a, e185_0, e185_1, e185_2, e185_5, e185_8, e185_9, e185_12, e185_13, e185_14, e185_17, e185_18, c185, i10, i00, n2, n10, n20, n60, n8, n9, bi0, ite_not, List.replicate, Nat.reduceAdd, Nat.reduceSub, Nat.reduceLeDiff, Nat.reduceLT, if_true, if_false, mg, reduceIte, not_false_eq_true, eq_self, and_self, and_true, true_and, true_or, or_true, Nat.reduceEqDiff, mw_8, mw_26, h2, lt, c]
theorem by32 {b : Nat → Int32} {t p : Nat} : (byF b t p = nI 32) = (p < t ∧ b p = nI 32) := by
  unfold byF
  by_cases c : p < t
  · rw [if_pos c]; exact propext ⟨fun h => ⟨c, h⟩, fun h => h.2⟩
  · rw [if_neg c]; exact propext ⟨fun h => absurd h (by decide +kernel), fun h => absurd h.1 c⟩
theorem by_w {b : Nat → Int32} {t p : Nat} : wi (byF b t p) (nI 97) (nI 122) ↔ tcl b t p = 1 := by
  unfold byF tcl
  by_cases c : p < t
  · rw [if_pos c, if_pos c]
    by_cases d : wi (b p) (nI 97) (nI 122)
    · rw [if_pos d]; exact ⟨fun _ => rfl, fun _ => d⟩
    · rw [if_neg d]
      refine ⟨fun h => absurd h d, fun h => ?_⟩
      exfalso
      revert h
      (repeat' split) <;> decide
  · rw [if_neg c, if_neg c]
    exact ⟨fun h => absurd h.1 (by decide +kernel), fun h => by cases h⟩
theorem wi_ex {x : Int32} (h : wi x (nI 48) (nI 57)) : ¬ wi x (nI 97) (nI 122) := by
  intro g
  have h2 := h.2
  have g1 := g.1
  rw [Int32.lt_iff_toInt_lt] at h2 g1
  have e1 : (nI 57).toInt = 57 := by decide +kernel
  have e2 : (nI 97).toInt = 97 := by decide +kernel
  omega
theorem by_n {b : Nat → Int32} {t p : Nat} : wi (byF b t p) (nI 48) (nI 57) ↔ tcl b t p = 2 := by
  unfold byF tcl
  by_cases c : p < t
  · rw [if_pos c, if_pos c]
    by_cases d : wi (b p) (nI 48) (nI 57)
    · rw [if_neg (wi_ex d), if_pos d]; exact ⟨fun _ => rfl, fun _ => d⟩
    · refine ⟨fun h => absurd h d, fun h => ?_⟩
      exfalso
      revert h
      rw [if_neg d]
      (repeat' split) <;> decide
  · rw [if_neg c, if_neg c]
    exact ⟨fun h => absurd h.1 (by decide +kernel), fun h => by cases h⟩
theorem by_0 {b : Nat → Int32} {t p : Nat} (h : ∀ j, j < t → inN 255 (b j)) : (byF b t p < 0) = (tcl b t p = 0) := by
  rw [tcl0]
  unfold byF
  by_cases c : p < t
  · rw [if_pos c]
    obtain ⟨j, hj, e⟩ := h p c
    rw [e]
    exact propext ⟨fun w => absurd w (nI_pos (by omega)), fun w => by omega⟩
  · rw [if_neg c]
    exact propext ⟨fun _ => by omega, fun _ => m1_lt⟩
theorem l_sk6 {X : aX} {q : Nat → Nat → Int32} {D : aD} {e k0 v w m s : Int32} {it : Nat → Int32} {b : Nat → Int32} {t : Nat} {y : Option aV} (h : tpO D b t) : ∀ k p, p + k = t → go X 186 8 [some (aR (20, 0, 0)), y] [] (mem (q, mwD D (nI p) e k0 v w m s it)) = go X 186 34 [some (aR (20, 0, 0)), y] [] (mem (q, mwD D (nI (skF b k p)) e k0 v w m s it)) := by
  have h1 := h.1
  intro k
  induction k with
  | zero =>
    intro p hp
    have tb := t_byte (X := X) (q := q) (p := nI p) (e := e) (k := k0) (v := v) (w := w) (m := m) (s := s) (it := it) (i := p) h (by omega)
    have c : ¬ (p < t ∧ b p = nI 32) := by omega
    rw [e186_8]
    simp only [nl_n, nl_i, nl_r, x_ci, x_ca, x_bin, x_ife, x_ifl, x_ifg, x_cme, x_cml, x_cmg, x_go, x_no, x_b, x_ps, x_pn, cs_n, cs_i, cs_j, cs_r, en_n, en_i, en_j, en_r, xa0, g_20_10, p_20_9, g_20_9, x_k2_20, x_dupi, x_dupr, xs1n, xs1i, xs1r, p_20_10, p_20_12, xi1, p_20_11, x_k3_s, g_20_12, x_min, r_i, r_j, r_v, r_z1, r_z0, r_a, e186_0, e186_1, e186_2, e186_5, e186_9, e186_10, e186_13, e186_16, e186_18, e186_21, e186_22, e186_23, e186_26, e186_27, e186_28, e186_31, e186_35, e186_36, e186_39, e186_42, e186_43, e186_44, e186_45, e186_48, e186_51, e186_52, e186_53, e186_56, e186_57, e186_60, e186_61, e186_62, e186_65, e186_68, e186_69, e186_71, e186_73, e186_76, e186_79, e186_80, e186_81, e186_85, e186_86, e186_89, e186_92, e186_94, e186_96, e186_99, e186_102, e186_103, e186_104, e186_107, e186_108, e186_109, e186_112, e186_115, e186_116, e186_118, e186_120, e186_123, e186_126, e186_127, e186_128, e186_132, e186_133, e186_136, e186_139, e186_141, e186_143, e186_146, e186_149, e186_150, e186_153, e186_155, e186_156, e186_159, e186_160, e186_161, e186_162, e186_165, e186_168, e186_169, e186_171, e186_172, e186_175, e186_178, e186_179, e186_180, e186_183, e186_184, e186_185, e186_188, e186_191, e186_192, e186_193, e186_196, e186_197, e186_198, e186_201, e186_202, e186_203, c186, i10, i00, n2, n10, n20, n60, n8, n9, bi0, ite_not, List.replicate, Nat.reduceAdd, Nat.reduceSub, Nat.reduceLeDiff, Nat.reduceLT, if_true, if_false, mg, reduceIte, not_false_eq_true, eq_self, and_self, and_true, true_and, true_or, or_true, Nat.reduceEqDiff, mw_9, tb, by32, c]
    rfl
  | succ k ih =>
    intro p hp
    have tb := t_byte (X := X) (q := q) (p := nI p) (e := e) (k := k0) (v := v) (w := w) (m := m) (s := s) (it := it) (i := p) h (by omega)
    have c0 : p < t := by omega
    rw [e186_8, skF_s]
    simp only [nl_n, nl_i, nl_r, x_ci, x_ca, x_bin, x_ife, x_ifl, x_ifg, x_cme, x_cml, x_cmg, x_go, x_no, x_b, x_ps, x_pn, cs_n, cs_i, cs_j, cs_r, en_n, en_i, en_j, en_r, xa0, g_20_10, p_20_9, g_20_9, x_k2_20, x_dupi, x_dupr, xs1n, xs1i, xs1r, p_20_10, p_20_12, xi1, p_20_11, x_k3_s, g_20_12, x_min, r_i, r_j, r_v, r_z1, r_z0, r_a, e186_0, e186_1, e186_2, e186_5, e186_9, e186_10, e186_13, e186_16, e186_18, e186_21, e186_22, e186_23, e186_26, e186_27, e186_28, e186_31, e186_35, e186_36, e186_39, e186_42, e186_43, e186_44, e186_45, e186_48, e186_51, e186_52, e186_53, e186_56, e186_57, e186_60, e186_61, e186_62, e186_65, e186_68, e186_69, e186_71, e186_73, e186_76, e186_79, e186_80, e186_81, e186_85, e186_86, e186_89, e186_92, e186_94, e186_96, e186_99, e186_102, e186_103, e186_104, e186_107, e186_108, e186_109, e186_112, e186_115, e186_116, e186_118, e186_120, e186_123, e186_126, e186_127, e186_128, e186_132, e186_133, e186_136, e186_139, e186_141, e186_143, e186_146, e186_149, e186_150, e186_153, e186_155, e186_156, e186_159, e186_160, e186_161, e186_162, e186_165, e186_168, e186_169, e186_171, e186_172, e186_175, e186_178, e186_179, e186_180, e186_183, e186_184, e186_185, e186_188, e186_191, e186_192, e186_193, e186_196, e186_197, e186_198, e186_201, e186_202, e186_203, c186, i10, i00, n2, n10, n20, n60, n8, n9, bi0, ite_not, List.replicate, Nat.reduceAdd, Nat.reduceSub, Nat.reduceLeDiff, Nat.reduceLT, if_true, if_false, mg, reduceIte, not_false_eq_true, eq_self, and_self, and_true, true_and, true_or, or_true, Nat.reduceEqDiff, mw_9, tb, by32, c0, nI_add, mw_u9]
    by_cases c : b p = nI 32
    · rw [if_pos c, if_pos c]
      exact ih (p + 1) (by omega)
    · rw [if_neg c, if_neg c]
theorem l_wd6 {X : aX} {q : Nat → Nat → Int32} {D : aD} {p k0 v w m s : Int32} {it : Nat → Int32} {b : Nat → Int32} {t : Nat} {y : Option aV} (h : tpO D b t) : ∀ k e, e + k = t → go X 186 84 [some (aR (20, 0, 0)), y] [] (mem (q, mwD D p (nI e) k0 v w m s it)) = go X 186 206 [some (aR (20, 0, 0)), y] [] (mem (q, mwD D p (nI (rnF b t 1 k e)) k0 v w m s it)) := by
  have h1 := h.1
  intro k
  induction k with
  | zero =>
    intro e he
    have tb := t_byte (X := X) (q := q) (p := p) (e := nI e) (k := k0) (v := v) (w := w) (m := m) (s := s) (it := it) (i := e) h (by omega)
    have c : ¬ wi (byF b t e) (nI 97) (nI 122) := fun z => by
      have z1 := by_w.1 z
      have z0 : tcl b t e = 0 := tcl0.2 (by omega)
      omega
    rw [e186_84]
    simp only [nl_n, nl_i, nl_r, x_ci, x_ca, x_bin, x_ife, x_ifl, x_ifg, x_cme, x_cml, x_cmg, x_go, x_no, x_b, x_ps, x_pn, cs_n, cs_i, cs_j, cs_r, en_n, en_i, en_j, en_r, xa0, g_20_10, p_20_9, g_20_9, x_k2_20, x_dupi, x_dupr, xs1n, xs1i, xs1r, p_20_10, p_20_12, xi1, p_20_11, x_k3_s, g_20_12, x_min, r_i, r_j, r_v, r_z1, r_z0, r_a, e186_0, e186_1, e186_2, e186_5, e186_9, e186_10, e186_13, e186_16, e186_18, e186_21, e186_22, e186_23, e186_26, e186_27, e186_28, e186_31, e186_35, e186_36, e186_39, e186_42, e186_43, e186_44, e186_45, e186_48, e186_51, e186_52, e186_53, e186_56, e186_57, e186_60, e186_61, e186_62, e186_65, e186_68, e186_69, e186_71, e186_73, e186_76, e186_79, e186_80, e186_81, e186_85, e186_86, e186_89, e186_92, e186_94, e186_96, e186_99, e186_102, e186_103, e186_104, e186_107, e186_108, e186_109, e186_112, e186_115, e186_116, e186_118, e186_120, e186_123, e186_126, e186_127, e186_128, e186_132, e186_133, e186_136, e186_139, e186_141, e186_143, e186_146, e186_149, e186_150, e186_153, e186_155, e186_156, e186_159, e186_160, e186_161, e186_162, e186_165, e186_168, e186_169, e186_171, e186_172, e186_175, e186_178, e186_179, e186_180, e186_183, e186_184, e186_185, e186_188, e186_191, e186_192, e186_193, e186_196, e186_197, e186_198, e186_201, e186_202, e186_203, c186, i10, i00, n2, n10, n20, n60, n8, n9, bi0, ite_not, List.replicate, Nat.reduceAdd, Nat.reduceSub, Nat.reduceLeDiff, Nat.reduceLT, if_true, if_false, mg, reduceIte, not_false_eq_true, eq_self, and_self, and_true, true_and, true_or, or_true, Nat.reduceEqDiff, mw_10, tb, t_within6, (bi_f c)]
    rfl
  | succ k ih =>
    intro e he
    have tb := t_byte (X := X) (q := q) (p := p) (e := nI e) (k := k0) (v := v) (w := w) (m := m) (s := s) (it := it) (i := e) h (by omega)
    rw [e186_84, rnF_s]
    by_cases c : tcl b t e = 1
    · rw [if_pos c]
      simp only [nl_n, nl_i, nl_r, x_ci, x_ca, x_bin, x_ife, x_ifl, x_ifg, x_cme, x_cml, x_cmg, x_go, x_no, x_b, x_ps, x_pn, cs_n, cs_i, cs_j, cs_r, en_n, en_i, en_j, en_r, xa0, g_20_10, p_20_9, g_20_9, x_k2_20, x_dupi, x_dupr, xs1n, xs1i, xs1r, p_20_10, p_20_12, xi1, p_20_11, x_k3_s, g_20_12, x_min, r_i, r_j, r_v, r_z1, r_z0, r_a, e186_0, e186_1, e186_2, e186_5, e186_9, e186_10, e186_13, e186_16, e186_18, e186_21, e186_22, e186_23, e186_26, e186_27, e186_28, e186_31, e186_35, e186_36, e186_39, e186_42, e186_43, e186_44, e186_45, e186_48, e186_51, e186_52, e186_53, e186_56, e186_57, e186_60, e186_61, e186_62, e186_65, e186_68, e186_69, e186_71, e186_73, e186_76, e186_79, e186_80, e186_81, e186_85, e186_86, e186_89, e186_92, e186_94, e186_96, e186_99, e186_102, e186_103, e186_104, e186_107, e186_108, e186_109, e186_112, e186_115, e186_116, e186_118, e186_120, e186_123, e186_126, e186_127, e186_128, e186_132, e186_133, e186_136, e186_139, e186_141, e186_143, e186_146, e186_149, e186_150, e186_153, e186_155, e186_156, e186_159, e186_160, e186_161, e186_162, e186_165, e186_168, e186_169, e186_171, e186_172, e186_175, e186_178, e186_179, e186_180, e186_183, e186_184, e186_185, e186_188, e186_191, e186_192, e186_193, e186_196, e186_197, e186_198, e186_201, e186_202, e186_203, c186, i10, i00, n2, n10, n20, n60, n8, n9, bi0, ite_not, List.replicate, Nat.reduceAdd, Nat.reduceSub, Nat.reduceLeDiff, Nat.reduceLT, if_true, if_false, mg, reduceIte, not_false_eq_true, eq_self, and_self, and_true, true_and, true_or, or_true, Nat.reduceEqDiff, mw_10, tb, t_within6, (bi_t (by_w.2 c)), nI_add, mw_u10]
      exact ih (e + 1) (by omega)
    · rw [if_neg c]
      simp only [nl_n, nl_i, nl_r, x_ci, x_ca, x_bin, x_ife, x_ifl, x_ifg, x_cme, x_cml, x_cmg, x_go, x_no, x_b, x_ps, x_pn, cs_n, cs_i, cs_j, cs_r, en_n, en_i, en_j, en_r, xa0, g_20_10, p_20_9, g_20_9, x_k2_20, x_dupi, x_dupr, xs1n, xs1i, xs1r, p_20_10, p_20_12, xi1, p_20_11, x_k3_s, g_20_12, x_min, r_i, r_j, r_v, r_z1, r_z0, r_a, e186_0, e186_1, e186_2, e186_5, e186_9, e186_10, e186_13, e186_16, e186_18, e186_21, e186_22, e186_23, e186_26, e186_27, e186_28, e186_31, e186_35, e186_36, e186_39, e186_42, e186_43, e186_44, e186_45, e186_48, e186_51, e186_52, e186_53, e186_56, e186_57, e186_60, e186_61, e186_62, e186_65, e186_68, e186_69, e186_71, e186_73, e186_76, e186_79, e186_80, e186_81, e186_85, e186_86, e186_89, e186_92, e186_94, e186_96, e186_99, e186_102, e186_103, e186_104, e186_107, e186_108, e186_109, e186_112, e186_115, e186_116, e186_118, e186_120, e186_123, e186_126, e186_127, e186_128, e186_132, e186_133, e186_136, e186_139, e186_141, e186_143, e186_146, e186_149, e186_150, e186_153, e186_155, e186_156, e186_159, e186_160, e186_161, e186_162, e186_165, e186_168, e186_169, e186_171, e186_172, e186_175, e186_178, e186_179, e186_180, e186_183, e186_184, e186_185, e186_188, e186_191, e186_192, e186_193, e186_196, e186_197, e186_198, e186_201, e186_202, e186_203, c186, i10, i00, n2, n10, n20, n60, n8, n9, bi0, ite_not, List.replicate, Nat.reduceAdd, Nat.reduceSub, Nat.reduceLeDiff, Nat.reduceLT, if_true, if_false, mg, reduceIte, not_false_eq_true, eq_self, and_self, and_true, true_and, true_or, or_true, Nat.reduceEqDiff, mw_10, tb, t_within6, (bi_f (fun z => c (by_w.1 z))), nI_add, mw_u10]
theorem dg6 {b : Nat → Int32} {t e : Nat} {v : Int32} (h : e < t) : mn (nI 1000) (nI 10 * v + byF b t e - nI 48) = dgF b e v := by
  unfold dgF byF
  rw [if_pos h, mn_comm, Int32.mul_comm]
theorem l_nm6 {X : aX} {q : Nat → Nat → Int32} {D : aD} {p k0 w m s : Int32} {it : Nat → Int32} {b : Nat → Int32} {t : Nat} {y : Option aV} (h : tpO D b t) : ∀ k e v, e + k = t → go X 186 131 [some (aR (20, 0, 0)), y] [] (mem (q, mwD D p (nI e) k0 v w m s it)) = go X 186 206 [some (aR (20, 0, 0)), y] [] (mem (q, mwD D p (nI (rnF b t 2 k e)) k0 (lp (dgF b) (rnF b t 2 k e - e) e v) w m s it)) := by
  have h1 := h.1
  intro k
  induction k with
  | zero =>
    intro e v he
    have tb := t_byte (X := X) (q := q) (p := p) (e := nI e) (k := k0) (v := v) (w := w) (m := m) (s := s) (it := it) (i := e) h (by omega)
    have c : ¬ wi (byF b t e) (nI 48) (nI 57) := fun z => by
      have z1 := by_n.1 z
      have z0 : tcl b t e = 0 := tcl0.2 (by omega)
      omega
    have e0 : rnF b t 2 0 e - e = 0 := Nat.sub_self e
    rw [e0, e186_131]
    simp only [nl_n, nl_i, nl_r, x_ci, x_ca, x_bin, x_ife, x_ifl, x_ifg, x_cme, x_cml, x_cmg, x_go, x_no, x_b, x_ps, x_pn, cs_n, cs_i, cs_j, cs_r, en_n, en_i, en_j, en_r, xa0, g_20_10, p_20_9, g_20_9, x_k2_20, x_dupi, x_dupr, xs1n, xs1i, xs1r, p_20_10, p_20_12, xi1, p_20_11, x_k3_s, g_20_12, x_min, r_i, r_j, r_v, r_z1, r_z0, r_a, e186_0, e186_1, e186_2, e186_5, e186_9, e186_10, e186_13, e186_16, e186_18, e186_21, e186_22, e186_23, e186_26, e186_27, e186_28, e186_31, e186_35, e186_36, e186_39, e186_42, e186_43, e186_44, e186_45, e186_48, e186_51, e186_52, e186_53, e186_56, e186_57, e186_60, e186_61, e186_62, e186_65, e186_68, e186_69, e186_71, e186_73, e186_76, e186_79, e186_80, e186_81, e186_85, e186_86, e186_89, e186_92, e186_94, e186_96, e186_99, e186_102, e186_103, e186_104, e186_107, e186_108, e186_109, e186_112, e186_115, e186_116, e186_118, e186_120, e186_123, e186_126, e186_127, e186_128, e186_132, e186_133, e186_136, e186_139, e186_141, e186_143, e186_146, e186_149, e186_150, e186_153, e186_155, e186_156, e186_159, e186_160, e186_161, e186_162, e186_165, e186_168, e186_169, e186_171, e186_172, e186_175, e186_178, e186_179, e186_180, e186_183, e186_184, e186_185, e186_188, e186_191, e186_192, e186_193, e186_196, e186_197, e186_198, e186_201, e186_202, e186_203, c186, i10, i00, n2, n10, n20, n60, n8, n9, bi0, ite_not, List.replicate, Nat.reduceAdd, Nat.reduceSub, Nat.reduceLeDiff, Nat.reduceLT, if_true, if_false, mg, reduceIte, not_false_eq_true, eq_self, and_self, and_true, true_and, true_or, or_true, Nat.reduceEqDiff, mw_10, tb, t_within6, (bi_f c)]
    rfl
  | succ k ih =>
    intro e v he
    have tb := fun e' v' => t_byte (X := X) (q := q) (p := p) (e := e') (k := k0) (v := v') (w := w) (m := m) (s := s) (it := it) (i := e) h (by omega)
    have hg := dg6 (b := b) (v := v) (show e < t by omega)
    rw [e186_131, rnF_s]
    by_cases c : tcl b t e = 2
    · rw [if_pos c]
      have rb := rn_b b t 2 k (e + 1)
      have el : rnF b t 2 k (e + 1) - e = (rnF b t 2 k (e + 1) - (e + 1)) + 1 := by omega
      rw [el, lp_s, ← ih (e + 1) _ (by omega), ← hg]
      simp only [nl_n, nl_i, nl_r, x_ci, x_ca, x_bin, x_ife, x_ifl, x_ifg, x_cme, x_cml, x_cmg, x_go, x_no, x_b, x_ps, x_pn, cs_n, cs_i, cs_j, cs_r, en_n, en_i, en_j, en_r, xa0, g_20_10, p_20_9, g_20_9, x_k2_20, x_dupi, x_dupr, xs1n, xs1i, xs1r, p_20_10, p_20_12, xi1, p_20_11, x_k3_s, g_20_12, x_min, r_i, r_j, r_v, r_z1, r_z0, r_a, e186_0, e186_1, e186_2, e186_5, e186_9, e186_10, e186_13, e186_16, e186_18, e186_21, e186_22, e186_23, e186_26, e186_27, e186_28, e186_31, e186_35, e186_36, e186_39, e186_42, e186_43, e186_44, e186_45, e186_48, e186_51, e186_52, e186_53, e186_56, e186_57, e186_60, e186_61, e186_62, e186_65, e186_68, e186_69, e186_71, e186_73, e186_76, e186_79, e186_80, e186_81, e186_85, e186_86, e186_89, e186_92, e186_94, e186_96, e186_99, e186_102, e186_103, e186_104, e186_107, e186_108, e186_109, e186_112, e186_115, e186_116, e186_118, e186_120, e186_123, e186_126, e186_127, e186_128, e186_132, e186_133, e186_136, e186_139, e186_141, e186_143, e186_146, e186_149, e186_150, e186_153, e186_155, e186_156, e186_159, e186_160, e186_161, e186_162, e186_165, e186_168, e186_169, e186_171, e186_172, e186_175, e186_178, e186_179, e186_180, e186_183, e186_184, e186_185, e186_188, e186_191, e186_192, e186_193, e186_196, e186_197, e186_198, e186_201, e186_202, e186_203, c186, i10, i00, n2, n10, n20, n60, n8, n9, bi0, ite_not, List.replicate, Nat.reduceAdd, Nat.reduceSub, Nat.reduceLeDiff, Nat.reduceLT, if_true, if_false, mg, reduceIte, not_false_eq_true, eq_self, and_self, and_true, true_and, true_or, or_true, Nat.reduceEqDiff, mw_10, mw_12, tb, t_within6, (bi_t (by_n.2 c)), nI_add, mw_u10, mw_u12]
      rfl
    · rw [if_neg c, Nat.sub_self]
      simp only [nl_n, nl_i, nl_r, x_ci, x_ca, x_bin, x_ife, x_ifl, x_ifg, x_cme, x_cml, x_cmg, x_go, x_no, x_b, x_ps, x_pn, cs_n, cs_i, cs_j, cs_r, en_n, en_i, en_j, en_r, xa0, g_20_10, p_20_9, g_20_9, x_k2_20, x_dupi, x_dupr, xs1n, xs1i, xs1r, p_20_10, p_20_12, xi1, p_20_11, x_k3_s, g_20_12, x_min, r_i, r_j, r_v, r_z1, r_z0, r_a, e186_0, e186_1, e186_2, e186_5, e186_9, e186_10, e186_13, e186_16, e186_18, e186_21, e186_22, e186_23, e186_26, e186_27, e186_28, e186_31, e186_35, e186_36, e186_39, e186_42, e186_43, e186_44, e186_45, e186_48, e186_51, e186_52, e186_53, e186_56, e186_57, e186_60, e186_61, e186_62, e186_65, e186_68, e186_69, e186_71, e186_73, e186_76, e186_79, e186_80, e186_81, e186_85, e186_86, e186_89, e186_92, e186_94, e186_96, e186_99, e186_102, e186_103, e186_104, e186_107, e186_108, e186_109, e186_112, e186_115, e186_116, e186_118, e186_120, e186_123, e186_126, e186_127, e186_128, e186_132, e186_133, e186_136, e186_139, e186_141, e186_143, e186_146, e186_149, e186_150, e186_153, e186_155, e186_156, e186_159, e186_160, e186_161, e186_162, e186_165, e186_168, e186_169, e186_171, e186_172, e186_175, e186_178, e186_179, e186_180, e186_183, e186_184, e186_185, e186_188, e186_191, e186_192, e186_193, e186_196, e186_197, e186_198, e186_201, e186_202, e186_203, c186, i10, i00, n2, n10, n20, n60, n8, n9, bi0, ite_not, List.replicate, Nat.reduceAdd, Nat.reduceSub, Nat.reduceLeDiff, Nat.reduceLT, if_true, if_false, mg, reduceIte, not_false_eq_true, eq_self, and_self, and_true, true_and, true_or, or_true, Nat.reduceEqDiff, mw_10, tb, t_within6, (bi_f (fun z => c (by_n.1 z)))]
      rfl
theorem t_tok6 {X : aX} {q : Nat → Nat → Int32} {D : aD} {p k v w m s : Int32} {it : Nat → Int32} {b : Nat → Int32} {t e : Nat} (h : tpO D b t) (he : e ≤ t) : cl X 186 [aR (20, 0, 0)] (mem (q, mwD D p (nI e) k v w m s it)) = some (none, mem (q, mwD D (nI (tkP b t e)) (nI (tkE b t e)) (nI (min (tkK b t e) 3)) (tkV b t e) w m s it)) := by
  have ht := h.1
  have hb := tk_b (b := b) he
  have l1 := l_sk6 (X := X) (q := q) (e := nI e) (k0 := k) (v := v) (w := w) (m := m) (s := s) (it := it) (y := none) h (t - e) e (by omega)
  have e1 : skF b (t - e) e = tkP b t e := rfl
  have ek : tcl b t (tkP b t e) = tkK b t e := rfl
  rw [e1] at l1
  have tt := fun x y z u => t_byte (X := X) (q := q) (p := x) (e := y) (k := z) (v := u) (w := w) (m := m) (s := s) (it := it) (i := tkP b t e) h (by omega)
  have z0 : (byF b t (tkP b t e) < 0) = (tkK b t e = 0) := by_0 (fun j hj => (h.2.2 j hj).2)
  have z1 : wi (byF b t (tkP b t e)) (nI 97) (nI 122) ↔ tkK b t e = 1 := by_w
  have z2 : wi (byF b t (tkP b t e)) (nI 48) (nI 57) ↔ tkK b t e = 2 := by_n
  have ev : tkV b t e = if tkK b t e = 2 then lp (dgF b) (tkE b t e - tkP b t e) (tkP b t e) (nI 0) else nI 0 := rfl
  rw [ev]
  have ee : tkE b t e = if tkK b t e = 0 then tkP b t e else if tkK b t e = 1 ∨ tkK b t e = 2 then rnF b t (tkK b t e) (t - (tkP b t e + 1)) (tkP b t e + 1) else tkP b t e + 1 := rfl
  generalize tkE b t e = E at *
  generalize tkP b t e = P at *
  generalize tkK b t e = K at *
  simp only [nl_n, nl_i, nl_r, x_ci, x_ca, x_bin, x_ife, x_ifl, x_ifg, x_cme, x_cml, x_cmg, x_go, x_no, x_b, x_ps, x_pn, cs_n, cs_i, cs_j, cs_r, en_n, en_i, en_j, en_r, xa0, g_20_10, p_20_9, g_20_9, x_k2_20, x_dupi, x_dupr, xs1n, xs1i, xs1r, p_20_10, p_20_12, xi1, p_20_11, x_k3_s, g_20_12, x_min, r_i, r_j, r_v, r_z1, r_z0, r_a, e186_0, e186_1, e186_2, e186_5, e186_9, e186_10, e186_13, e186_16, e186_18, e186_21, e186_22, e186_23, e186_26, e186_27, e186_28, e186_31, e186_35, e186_36, e186_39, e186_42, e186_43, e186_44, e186_45, e186_48, e186_51, e186_52, e186_53, e186_56, e186_57, e186_60, e186_61, e186_62, e186_65, e186_68, e186_69, e186_71, e186_73, e186_76, e186_79, e186_80, e186_81, e186_85, e186_86, e186_89, e186_92, e186_94, e186_96, e186_99, e186_102, e186_103, e186_104, e186_107, e186_108, e186_109, e186_112, e186_115, e186_116, e186_118, e186_120, e186_123, e186_126, e186_127, e186_128, e186_132, e186_133, e186_136, e186_139, e186_141, e186_143, e186_146, e186_149, e186_150, e186_153, e186_155, e186_156, e186_159, e186_160, e186_161, e186_162, e186_165, e186_168, e186_169, e186_171, e186_172, e186_175, e186_178, e186_179, e186_180, e186_183, e186_184, e186_185, e186_188, e186_191, e186_192, e186_193, e186_196, e186_197, e186_198, e186_201, e186_202, e186_203, c186, i10, i00, n2, n10, n20, n60, n8, n9, bi0, ite_not, List.replicate, Nat.reduceAdd, Nat.reduceSub, Nat.reduceLeDiff, Nat.reduceLT, if_true, if_false, mg, reduceIte, not_false_eq_true, eq_self, and_self, and_true, true_and, true_or, or_true, Nat.reduceEqDiff, mw_10, mw_u9]
  rw [l1, e186_34]
  by_cases c0 : K = 0
  · rw [if_pos c0] at ee
    subst c0
    subst ee
    simp only [nl_n, nl_i, nl_r, x_ci, x_ca, x_bin, x_ife, x_ifl, x_ifg, x_cme, x_cml, x_cmg, x_go, x_no, x_b, x_ps, x_pn, cs_n, cs_i, cs_j, cs_r, en_n, en_i, en_j, en_r, xa0, g_20_10, p_20_9, g_20_9, x_k2_20, x_dupi, x_dupr, xs1n, xs1i, xs1r, p_20_10, p_20_12, xi1, p_20_11, x_k3_s, g_20_12, x_min, r_i, r_j, r_v, r_z1, r_z0, r_a, e186_0, e186_1, e186_2, e186_5, e186_9, e186_10, e186_13, e186_16, e186_18, e186_21, e186_22, e186_23, e186_26, e186_27, e186_28, e186_31, e186_35, e186_36, e186_39, e186_42, e186_43, e186_44, e186_45, e186_48, e186_51, e186_52, e186_53, e186_56, e186_57, e186_60, e186_61, e186_62, e186_65, e186_68, e186_69, e186_71, e186_73, e186_76, e186_79, e186_80, e186_81, e186_85, e186_86, e186_89, e186_92, e186_94, e186_96, e186_99, e186_102, e186_103, e186_104, e186_107, e186_108, e186_109, e186_112, e186_115, e186_116, e186_118, e186_120, e186_123, e186_126, e186_127, e186_128, e186_132, e186_133, e186_136, e186_139, e186_141, e186_143, e186_146, e186_149, e186_150, e186_153, e186_155, e186_156, e186_159, e186_160, e186_161, e186_162, e186_165, e186_168, e186_169, e186_171, e186_172, e186_175, e186_178, e186_179, e186_180, e186_183, e186_184, e186_185, e186_188, e186_191, e186_192, e186_193, e186_196, e186_197, e186_198, e186_201, e186_202, e186_203, c186, i10, i00, n2, n10, n20, n60, n8, n9, bi0, ite_not, List.replicate, Nat.reduceAdd, Nat.reduceSub, Nat.reduceLeDiff, Nat.reduceLT, if_true, if_false, mg, reduceIte, not_false_eq_true, eq_self, and_self, and_true, true_and, true_or, or_true, Nat.reduceEqDiff, mw_9, mw_10, mw_u10, mw_u12, mw_u11, tt, z0]
    rw [e186_206]
    simp only [nl_n, nl_i, nl_r, x_ci, x_ca, x_bin, x_ife, x_ifl, x_ifg, x_cme, x_cml, x_cmg, x_go, x_no, x_b, x_ps, x_pn, cs_n, cs_i, cs_j, cs_r, en_n, en_i, en_j, en_r, xa0, g_20_10, p_20_9, g_20_9, x_k2_20, x_dupi, x_dupr, xs1n, xs1i, xs1r, p_20_10, p_20_12, xi1, p_20_11, x_k3_s, g_20_12, x_min, r_i, r_j, r_v, r_z1, r_z0, r_a, e186_0, e186_1, e186_2, e186_5, e186_9, e186_10, e186_13, e186_16, e186_18, e186_21, e186_22, e186_23, e186_26, e186_27, e186_28, e186_31, e186_35, e186_36, e186_39, e186_42, e186_43, e186_44, e186_45, e186_48, e186_51, e186_52, e186_53, e186_56, e186_57, e186_60, e186_61, e186_62, e186_65, e186_68, e186_69, e186_71, e186_73, e186_76, e186_79, e186_80, e186_81, e186_85, e186_86, e186_89, e186_92, e186_94, e186_96, e186_99, e186_102, e186_103, e186_104, e186_107, e186_108, e186_109, e186_112, e186_115, e186_116, e186_118, e186_120, e186_123, e186_126, e186_127, e186_128, e186_132, e186_133, e186_136, e186_139, e186_141, e186_143, e186_146, e186_149, e186_150, e186_153, e186_155, e186_156, e186_159, e186_160, e186_161, e186_162, e186_165, e186_168, e186_169, e186_171, e186_172, e186_175, e186_178, e186_179, e186_180, e186_183, e186_184, e186_185, e186_188, e186_191, e186_192, e186_193, e186_196, e186_197, e186_198, e186_201, e186_202, e186_203, c186, i10, i00, n2, n10, n20, n60, n8, n9, bi0, ite_not, List.replicate, Nat.reduceAdd, Nat.reduceSub, Nat.reduceLeDiff, Nat.reduceLT, if_true, if_false, mg, reduceIte, not_false_eq_true, eq_self, and_self, and_true, true_and, true_or, or_true, Nat.reduceEqDiff]
    rfl
  · have hP := hb.2.2.2.2 c0
    rw [if_neg c0] at ee
    have tl : t - P = (t - (P + 1)) + 1 := by omega
    by_cases c1 : K = 1
    · subst c1
      rw [if_pos (Or.inl rfl)] at ee
      have lr := fun k0 v y => l_wd6 (X := X) (q := q) (p := nI P) (k0 := k0) (v := v) (w := w) (m := m) (s := s) (it := it) (y := y) h (t - P) P (by omega)
      have er : rnF b t 1 (t - P) P = E := by rw [tl, rnF_s, if_pos ek, ee]
      rw [er] at lr
      simp only [nl_n, nl_i, nl_r, x_ci, x_ca, x_bin, x_ife, x_ifl, x_ifg, x_cme, x_cml, x_cmg, x_go, x_no, x_b, x_ps, x_pn, cs_n, cs_i, cs_j, cs_r, en_n, en_i, en_j, en_r, xa0, g_20_10, p_20_9, g_20_9, x_k2_20, x_dupi, x_dupr, xs1n, xs1i, xs1r, p_20_10, p_20_12, xi1, p_20_11, x_k3_s, g_20_12, x_min, r_i, r_j, r_v, r_z1, r_z0, r_a, e186_0, e186_1, e186_2, e186_5, e186_9, e186_10, e186_13, e186_16, e186_18, e186_21, e186_22, e186_23, e186_26, e186_27, e186_28, e186_31, e186_35, e186_36, e186_39, e186_42, e186_43, e186_44, e186_45, e186_48, e186_51, e186_52, e186_53, e186_56, e186_57, e186_60, e186_61, e186_62, e186_65, e186_68, e186_69, e186_71, e186_73, e186_76, e186_79, e186_80, e186_81, e186_85, e186_86, e186_89, e186_92, e186_94, e186_96, e186_99, e186_102, e186_103, e186_104, e186_107, e186_108, e186_109, e186_112, e186_115, e186_116, e186_118, e186_120, e186_123, e186_126, e186_127, e186_128, e186_132, e186_133, e186_136, e186_139, e186_141, e186_143, e186_146, e186_149, e186_150, e186_153, e186_155, e186_156, e186_159, e186_160, e186_161, e186_162, e186_165, e186_168, e186_169, e186_171, e186_172, e186_175, e186_178, e186_179, e186_180, e186_183, e186_184, e186_185, e186_188, e186_191, e186_192, e186_193, e186_196, e186_197, e186_198, e186_201, e186_202, e186_203, c186, i10, i00, n2, n10, n20, n60, n8, n9, bi0, ite_not, List.replicate, Nat.reduceAdd, Nat.reduceSub, Nat.reduceLeDiff, Nat.reduceLT, if_true, if_false, mg, reduceIte, not_false_eq_true, eq_self, and_self, and_true, true_and, true_or, or_true, Nat.reduceEqDiff, mw_9, mw_10, mw_u10, mw_u12, mw_u11, tt, z0, t_within6, (bi_t (z1.2 rfl))]
      rw [lr, e186_206]
      simp only [nl_n, nl_i, nl_r, x_ci, x_ca, x_bin, x_ife, x_ifl, x_ifg, x_cme, x_cml, x_cmg, x_go, x_no, x_b, x_ps, x_pn, cs_n, cs_i, cs_j, cs_r, en_n, en_i, en_j, en_r, xa0, g_20_10, p_20_9, g_20_9, x_k2_20, x_dupi, x_dupr, xs1n, xs1i, xs1r, p_20_10, p_20_12, xi1, p_20_11, x_k3_s, g_20_12, x_min, r_i, r_j, r_v, r_z1, r_z0, r_a, e186_0, e186_1, e186_2, e186_5, e186_9, e186_10, e186_13, e186_16, e186_18, e186_21, e186_22, e186_23, e186_26, e186_27, e186_28, e186_31, e186_35, e186_36, e186_39, e186_42, e186_43, e186_44, e186_45, e186_48, e186_51, e186_52, e186_53, e186_56, e186_57, e186_60, e186_61, e186_62, e186_65, e186_68, e186_69, e186_71, e186_73, e186_76, e186_79, e186_80, e186_81, e186_85, e186_86, e186_89, e186_92, e186_94, e186_96, e186_99, e186_102, e186_103, e186_104, e186_107, e186_108, e186_109, e186_112, e186_115, e186_116, e186_118, e186_120, e186_123, e186_126, e186_127, e186_128, e186_132, e186_133, e186_136, e186_139, e186_141, e186_143, e186_146, e186_149, e186_150, e186_153, e186_155, e186_156, e186_159, e186_160, e186_161, e186_162, e186_165, e186_168, e186_169, e186_171, e186_172, e186_175, e186_178, e186_179, e186_180, e186_183, e186_184, e186_185, e186_188, e186_191, e186_192, e186_193, e186_196, e186_197, e186_198, e186_201, e186_202, e186_203, c186, i10, i00, n2, n10, n20, n60, n8, n9, bi0, ite_not, List.replicate, Nat.reduceAdd, Nat.reduceSub, Nat.reduceLeDiff, Nat.reduceLT, if_true, if_false, mg, reduceIte, not_false_eq_true, eq_self, and_self, and_true, true_and, true_or, or_true, Nat.reduceEqDiff]
      rfl
    · by_cases c2 : K = 2
      · subst c2
        rw [if_pos (Or.inr rfl)] at ee
        have lr := fun k0 v y => l_nm6 (X := X) (q := q) (p := nI P) (k0 := k0) (w := w) (m := m) (s := s) (it := it) (y := y) h (t - P) P v (by omega)
        have er : rnF b t 2 (t - P) P = E := by rw [tl, rnF_s, if_pos ek, ee]
        rw [er] at lr
        have n1 : ¬ wi (byF b t P) (nI 97) (nI 122) := fun z => c1 (z1.1 z)
        simp only [nl_n, nl_i, nl_r, x_ci, x_ca, x_bin, x_ife, x_ifl, x_ifg, x_cme, x_cml, x_cmg, x_go, x_no, x_b, x_ps, x_pn, cs_n, cs_i, cs_j, cs_r, en_n, en_i, en_j, en_r, xa0, g_20_10, p_20_9, g_20_9, x_k2_20, x_dupi, x_dupr, xs1n, xs1i, xs1r, p_20_10, p_20_12, xi1, p_20_11, x_k3_s, g_20_12, x_min, r_i, r_j, r_v, r_z1, r_z0, r_a, e186_0, e186_1, e186_2, e186_5, e186_9, e186_10, e186_13, e186_16, e186_18, e186_21, e186_22, e186_23, e186_26, e186_27, e186_28, e186_31, e186_35, e186_36, e186_39, e186_42, e186_43, e186_44, e186_45, e186_48, e186_51, e186_52, e186_53, e186_56, e186_57, e186_60, e186_61, e186_62, e186_65, e186_68, e186_69, e186_71, e186_73, e186_76, e186_79, e186_80, e186_81, e186_85, e186_86, e186_89, e186_92, e186_94, e186_96, e186_99, e186_102, e186_103, e186_104, e186_107, e186_108, e186_109, e186_112, e186_115, e186_116, e186_118, e186_120, e186_123, e186_126, e186_127, e186_128, e186_132, e186_133, e186_136, e186_139, e186_141, e186_143, e186_146, e186_149, e186_150, e186_153, e186_155, e186_156, e186_159, e186_160, e186_161, e186_162, e186_165, e186_168, e186_169, e186_171, e186_172, e186_175, e186_178, e186_179, e186_180, e186_183, e186_184, e186_185, e186_188, e186_191, e186_192, e186_193, e186_196, e186_197, e186_198, e186_201, e186_202, e186_203, c186, i10, i00, n2, n10, n20, n60, n8, n9, bi0, ite_not, List.replicate, Nat.reduceAdd, Nat.reduceSub, Nat.reduceLeDiff, Nat.reduceLT, if_true, if_false, mg, reduceIte, not_false_eq_true, eq_self, and_self, and_true, true_and, true_or, or_true, Nat.reduceEqDiff, mw_9, mw_10, mw_u10, mw_u12, mw_u11, tt, z0, t_within6, (bi_f n1), (bi_t (z2.2 rfl))]
        rw [lr, e186_206]
        simp only [nl_n, nl_i, nl_r, x_ci, x_ca, x_bin, x_ife, x_ifl, x_ifg, x_cme, x_cml, x_cmg, x_go, x_no, x_b, x_ps, x_pn, cs_n, cs_i, cs_j, cs_r, en_n, en_i, en_j, en_r, xa0, g_20_10, p_20_9, g_20_9, x_k2_20, x_dupi, x_dupr, xs1n, xs1i, xs1r, p_20_10, p_20_12, xi1, p_20_11, x_k3_s, g_20_12, x_min, r_i, r_j, r_v, r_z1, r_z0, r_a, e186_0, e186_1, e186_2, e186_5, e186_9, e186_10, e186_13, e186_16, e186_18, e186_21, e186_22, e186_23, e186_26, e186_27, e186_28, e186_31, e186_35, e186_36, e186_39, e186_42, e186_43, e186_44, e186_45, e186_48, e186_51, e186_52, e186_53, e186_56, e186_57, e186_60, e186_61, e186_62, e186_65, e186_68, e186_69, e186_71, e186_73, e186_76, e186_79, e186_80, e186_81, e186_85, e186_86, e186_89, e186_92, e186_94, e186_96, e186_99, e186_102, e186_103, e186_104, e186_107, e186_108, e186_109, e186_112, e186_115, e186_116, e186_118, e186_120, e186_123, e186_126, e186_127, e186_128, e186_132, e186_133, e186_136, e186_139, e186_141, e186_143, e186_146, e186_149, e186_150, e186_153, e186_155, e186_156, e186_159, e186_160, e186_161, e186_162, e186_165, e186_168, e186_169, e186_171, e186_172, e186_175, e186_178, e186_179, e186_180, e186_183, e186_184, e186_185, e186_188, e186_191, e186_192, e186_193, e186_196, e186_197, e186_198, e186_201, e186_202, e186_203, c186, i10, i00, n2, n10, n20, n60, n8, n9, bi0, ite_not, List.replicate, Nat.reduceAdd, Nat.reduceSub, Nat.reduceLeDiff, Nat.reduceLT, if_true, if_false, mg, reduceIte, not_false_eq_true, eq_self, and_self, and_true, true_and, true_or, or_true, Nat.reduceEqDiff]
        rfl
      · rw [if_neg (fun z => z.elim c1 c2)] at ee
        subst ee
        have n1 : ¬ wi (byF b t P) (nI 97) (nI 122) := fun z => c1 (z1.1 z)
        have n2 : ¬ wi (byF b t P) (nI 48) (nI 57) := fun z => c2 (z2.1 z)
        have m3 : min K 3 = 3 := by omega
        simp only [nl_n, nl_i, nl_r, x_ci, x_ca, x_bin, x_ife, x_ifl, x_ifg, x_cme, x_cml, x_cmg, x_go, x_no, x_b, x_ps, x_pn, cs_n, cs_i, cs_j, cs_r, en_n, en_i, en_j, en_r, xa0, g_20_10, p_20_9, g_20_9, x_k2_20, x_dupi, x_dupr, xs1n, xs1i, xs1r, p_20_10, p_20_12, xi1, p_20_11, x_k3_s, g_20_12, x_min, r_i, r_j, r_v, r_z1, r_z0, r_a, e186_0, e186_1, e186_2, e186_5, e186_9, e186_10, e186_13, e186_16, e186_18, e186_21, e186_22, e186_23, e186_26, e186_27, e186_28, e186_31, e186_35, e186_36, e186_39, e186_42, e186_43, e186_44, e186_45, e186_48, e186_51, e186_52, e186_53, e186_56, e186_57, e186_60, e186_61, e186_62, e186_65, e186_68, e186_69, e186_71, e186_73, e186_76, e186_79, e186_80, e186_81, e186_85, e186_86, e186_89, e186_92, e186_94, e186_96, e186_99, e186_102, e186_103, e186_104, e186_107, e186_108, e186_109, e186_112, e186_115, e186_116, e186_118, e186_120, e186_123, e186_126, e186_127, e186_128, e186_132, e186_133, e186_136, e186_139, e186_141, e186_143, e186_146, e186_149, e186_150, e186_153, e186_155, e186_156, e186_159, e186_160, e186_161, e186_162, e186_165, e186_168, e186_169, e186_171, e186_172, e186_175, e186_178, e186_179, e186_180, e186_183, e186_184, e186_185, e186_188, e186_191, e186_192, e186_193, e186_196, e186_197, e186_198, e186_201, e186_202, e186_203, c186, i10, i00, n2, n10, n20, n60, n8, n9, bi0, ite_not, List.replicate, Nat.reduceAdd, Nat.reduceSub, Nat.reduceLeDiff, Nat.reduceLT, if_true, if_false, mg, reduceIte, not_false_eq_true, eq_self, and_self, and_true, true_and, true_or, or_true, Nat.reduceEqDiff, mw_9, mw_10, mw_u10, mw_u12, mw_u11, tt, z0, c0, c2, m3, t_within6, (bi_f n1), (bi_f n2), nI_add]
        rw [e186_206]
        simp only [nl_n, nl_i, nl_r, x_ci, x_ca, x_bin, x_ife, x_ifl, x_ifg, x_cme, x_cml, x_cmg, x_go, x_no, x_b, x_ps, x_pn, cs_n, cs_i, cs_j, cs_r, en_n, en_i, en_j, en_r, xa0, g_20_10, p_20_9, g_20_9, x_k2_20, x_dupi, x_dupr, xs1n, xs1i, xs1r, p_20_10, p_20_12, xi1, p_20_11, x_k3_s, g_20_12, x_min, r_i, r_j, r_v, r_z1, r_z0, r_a, e186_0, e186_1, e186_2, e186_5, e186_9, e186_10, e186_13, e186_16, e186_18, e186_21, e186_22, e186_23, e186_26, e186_27, e186_28, e186_31, e186_35, e186_36, e186_39, e186_42, e186_43, e186_44, e186_45, e186_48, e186_51, e186_52, e186_53, e186_56, e186_57, e186_60, e186_61, e186_62, e186_65, e186_68, e186_69, e186_71, e186_73, e186_76, e186_79, e186_80, e186_81, e186_85, e186_86, e186_89, e186_92, e186_94, e186_96, e186_99, e186_102, e186_103, e186_104, e186_107, e186_108, e186_109, e186_112, e186_115, e186_116, e186_118, e186_120, e186_123, e186_126, e186_127, e186_128, e186_132, e186_133, e186_136, e186_139, e186_141, e186_143, e186_146, e186_149, e186_150, e186_153, e186_155, e186_156, e186_159, e186_160, e186_161, e186_162, e186_165, e186_168, e186_169, e186_171, e186_172, e186_175, e186_178, e186_179, e186_180, e186_183, e186_184, e186_185, e186_188, e186_191, e186_192, e186_193, e186_196, e186_197, e186_198, e186_201, e186_202, e186_203, c186, i10, i00, n2, n10, n20, n60, n8, n9, bi0, ite_not, List.replicate, Nat.reduceAdd, Nat.reduceSub, Nat.reduceLeDiff, Nat.reduceLT, if_true, if_false, mg, reduceIte, not_false_eq_true, eq_self, and_self, and_true, true_and, true_or, or_true, Nat.reduceEqDiff]
