/-! WORDS -/
def wln (w : Nat) : Nat := (txL.getD w []).length
def wby (w j : Nat) : Int32 := (txL.getD w []).getD j 0
theorem g_sv {X : aX} {m nx w : Nat} {la : aLs} {st : List aV} {M : aM} (hw : w < 14) : kC X m (i_gsv nx la (aR (80, w, 0) :: st) M) = go X m nx la (aR (81, w, 0) :: st) M := by
  unfold i_gsv
  dsimp only
  rw [if_pos (by simp [txo, hw])]
  rfl
theorem g_sc {X : aX} {m nx w : Nat} {la : aLs} {st : List aV} {M : aM} (hw : w < 14) : kC X m (i_gsc nx la (aR (80, w, 0) :: st) M) = go X m nx la (aI (nI 0) :: st) M := by
  unfold i_gsc
  dsimp only
  rw [if_pos (by simp [txo, hw])]
  rfl
theorem n_81 {X : aX} {m nx w : Nat} {la : aLs} {st : List aV} {M : aM} (hw : w < 14) : kC X m (i_aln X nx la (aR (81, w, 0) :: st) M) = go X m nx la (aI (nI (wln w)) :: st) M := by
  unfold i_aln
  dsimp only
  rw [if_neg (Nat.not_lt_of_le (Nat.le_of_ble_eq_true rfl)), if_pos ⟨rfl, hw, rfl⟩]
  rfl
theorem wln8 : ∀ w, w < 14 → wln w ≤ 8 := by decide +kernel
theorem b_al {X : aX} {m nx w j : Nat} {la : aLs} {st : List aV} {M : aM} (hw : w < 14) (hj : j < wln w) : kC X m (i_bal nx la (aI (nI j) :: aR (81, w, 0) :: st) M) = go X m nx la (aI (wby w j) :: st) M := by
  have h8 := wln8 w hw
  unfold i_bal
  dsimp only
  rw [if_pos ⟨rfl, hw, rfl, inb_nI hj (by show wln w < 2 ^ 31; omega)⟩, nI_clamp (by omega)]
  rfl
theorem r_nc {M : aM} {w j : Nat} (hw : w < 14) (hj : j < wln w) : i_nrt .char [aI (wby w j)] M = some (some (aI (wby w j)), M) := by
  have h : ∀ w, w < 14 → ∀ j, j < wln w → (wby w j).toUInt32.toUInt16.toUInt32.toInt32 = wby w j := by decide +kernel
  unfold i_nrt
  dsimp only
  rw [if_pos (by show Value.int _ = Value.int _; rw [h w hw j hj])]
theorem r_nb0 {M : aM} : i_nrt .byte [aI (nI 0)] M = some (some (aI (nI 0)), M) := by
  unfold i_nrt
  dsimp only
  rw [if_pos (by show Value.int _ = Value.int _; exact congrArg _ (by decide +kernel))]
theorem one0 : ¬ (1 : Int32) = 0 := by decide +kernel
theorem t_coder {X : aX} {M : aM} {w : Nat} (hw : w < 14) : cl X 217 [aR (80, w, 0)] M = some (some (aI (nI 0)), M) := by
  simp only [nl_n, nl_i, nl_r, x_ci, x_ca, x_bin, x_ife, x_ifl, x_ifg, x_cme, x_cml, x_cmg, x_go, x_no, x_b, x_ps, x_pn, cs_n, cs_i, cs_j, cs_r, en_n, en_i, en_j, en_r, xa0, r_i, r_j, r_v, r_z1, r_z0, r_a, e217_0, e217_3, e217_6, e217_7, e217_10, e217_13, e217_14, c217, i10, i00, n2, n10, n20, n60, n8, n9, bi0, ite_not, List.replicate, Nat.reduceAdd, Nat.reduceSub, Nat.reduceLeDiff, Nat.reduceLT, if_true, if_false, mg, reduceIte, not_false_eq_true, eq_self, and_self, and_true, true_and, true_or, or_true, Nat.reduceEqDiff, hw, g_sc, r_nb0, one0]
theorem t_latin {X : aX} {M : aM} {w : Nat} (hw : w < 14) : cl X 218 [aR (80, w, 0)] M = some (some (aI (nI 1)), M) := by
  simp only [nl_n, nl_i, nl_r, x_ci, x_ca, x_bin, x_ife, x_ifl, x_ifg, x_cme, x_cml, x_cmg, x_go, x_no, x_b, x_ps, x_pn, cs_n, cs_i, cs_j, cs_r, en_n, en_i, en_j, en_r, xa0, r_i, r_j, r_v, r_z1, r_z0, r_a, e218_0, e218_3, e218_6, e218_7, e218_10, e218_13, e218_14, e218_17, e218_18, c218, i10, i00, n2, n10, n20, n60, n8, n9, bi0, ite_not, List.replicate, Nat.reduceAdd, Nat.reduceSub, Nat.reduceLeDiff, Nat.reduceLT, if_true, if_false, mg, reduceIte, not_false_eq_true, eq_self, and_self, and_true, true_and, true_or, or_true, Nat.reduceEqDiff, hw, g_sc, one0]
theorem wl_sh : ∀ w, w < 14 → nI (wln w) >>> (nI 0 &&& 31) = nI (wln w) := by decide +kernel
theorem t_length {X : aX} {M : aM} {w : Nat} (hw : w < 14) : cl X 215 [aR (80, w, 0)] M = some (some (aI (nI (wln w))), M) := by
  simp only [nl_n, nl_i, nl_r, x_ci, x_ca, x_bin, x_ife, x_ifl, x_ifg, x_cme, x_cml, x_cmg, x_go, x_no, x_b, x_ps, x_pn, cs_n, cs_i, cs_j, cs_r, en_n, en_i, en_j, en_r, xa0, n_l2, n_l3, n_l5, n_l8, n_l9, n_l11, n_l12, n_l21, n_l22, n_l23, n_l24, n_l25, n_l26, n_l27, n_l28, n_l29, n_l30, n_l31, n_l32, x_k1_T, r_i, r_j, r_v, r_z1, r_z0, r_a, e215_0, e215_1, e215_4, e215_5, e215_6, e215_9, e215_10, c215, i10, i00, n2, n10, n20, n60, n8, n9, bi0, ite_not, List.replicate, Nat.reduceAdd, Nat.reduceSub, Nat.reduceLeDiff, Nat.reduceLT, if_true, if_false, mg, reduceIte, not_false_eq_true, eq_self, and_self, and_true, true_and, true_or, or_true, Nat.reduceEqDiff, hw, g_sv, n_81, (t_coder (X := X) hw), (wl_sh w hw)]
theorem t_chk3 {X : aX} {M : aM} {j n : Nat} (hj : j < n) (hn : n < 2 ^ 31) : cl X 221 [aI (nI j), aI (nI n), aR (95, 0, 0)] M = some (some (aI (nI j)), M) := by
  simp only [nl_n, nl_i, nl_r, x_ci, x_ca, x_bin, x_ife, x_ifl, x_ifg, x_cme, x_cml, x_cmg, x_go, x_no, x_b, x_ps, x_pn, cs_n, cs_i, cs_j, cs_r, en_n, en_i, en_j, en_r, xi0, xi1, xa2, r_i, r_j, r_v, r_z1, r_z0, r_a, e221_0, e221_1, e221_4, e221_5, e221_6, e221_9, e221_10, e221_11, e221_12, e221_15, e221_16, e221_17, c221, i10, i00, n2, n10, n20, n60, n8, n9, bi0, ite_not, List.replicate, Nat.reduceAdd, Nat.reduceSub, Nat.reduceLeDiff, Nat.reduceLT, if_true, if_false, mg, reduceIte, not_false_eq_true, eq_self, and_self, and_true, true_and, true_or, or_true, Nat.reduceEqDiff, (nI_pos (show j < 2 ^ 31 by omega)), (nI_lt hj hn)]
theorem t_chk0 {X : aX} {M : aM} {j n : Nat} (hj : j < n) (hn : n < 2 ^ 31) : cl X 219 [aI (nI j), aI (nI n)] M = some (none, M) := by
  simp only [nl_n, nl_i, nl_r, x_ci, x_ca, x_bin, x_ife, x_ifl, x_ifg, x_cme, x_cml, x_cmg, x_go, x_no, x_b, x_ps, x_pn, cs_n, cs_i, cs_j, cs_r, en_n, en_i, en_j, en_r, xi0, xi1, x_k3_s, x_popi, x_popr, r_i, r_j, r_v, r_z1, r_z0, r_a, e219_0, e219_1, e219_2, e219_5, e219_8, e219_9, c219, i10, i00, n2, n10, n20, n60, n8, n9, bi0, ite_not, List.replicate, Nat.reduceAdd, Nat.reduceSub, Nat.reduceLeDiff, Nat.reduceLT, if_true, if_false, mg, reduceIte, not_false_eq_true, eq_self, and_self, and_true, true_and, true_or, or_true, Nat.reduceEqDiff, (t_chk3 (X := X) hj hn)]
theorem wb_c : ∀ w, w < 14 → ∀ j, j < wln w → ((wby w j &&& nI 255).toUInt32 % 65536).toInt32 = wby w j := by decide +kernel
theorem t_char1 {X : aX} {M : aM} {w j : Nat} (hw : w < 14) (hj : j < wln w) : cl X 220 [aR (81, w, 0), aI (nI j)] M = some (some (aI (wby w j)), M) := by
  have h8 := wln8 w hw
  simp only [nl_n, nl_i, nl_r, x_ci, x_ca, x_bin, x_ife, x_ifl, x_ifg, x_cme, x_cml, x_cmg, x_go, x_no, x_b, x_ps, x_pn, cs_n, cs_i, cs_j, cs_r, en_n, en_i, en_j, en_r, xi1, xa0, n_l2, n_l3, n_l5, n_l8, n_l9, n_l11, n_l12, n_l21, n_l22, n_l23, n_l24, n_l25, n_l26, n_l27, n_l28, n_l29, n_l30, n_l31, n_l32, x_k2_s, x_un, r_i, r_j, r_v, r_z1, r_z0, r_a, e220_0, e220_1, e220_2, e220_3, e220_6, e220_7, e220_8, e220_9, e220_12, e220_13, e220_14, c220, i10, i00, n2, n10, n20, n60, n8, n9, bi0, ite_not, List.replicate, Nat.reduceAdd, Nat.reduceSub, Nat.reduceLeDiff, Nat.reduceLT, if_true, if_false, mg, reduceIte, not_false_eq_true, eq_self, and_self, and_true, true_and, true_or, or_true, Nat.reduceEqDiff, hw, hj, n_81, b_al, (t_chk0 (X := X) hj (show wln w < 2 ^ 31 by omega)), (wb_c w hw j hj), r_nc]
theorem t_charAt {X : aX} {M : aM} {w j : Nat} (hw : w < 14) (hj : j < wln w) : cl X 216 [aR (80, w, 0), aI (nI j)] M = some (some (aI (wby w j)), M) := by
  simp only [nl_n, nl_i, nl_r, x_ci, x_ca, x_bin, x_ife, x_ifl, x_ifg, x_cme, x_cml, x_cmg, x_go, x_no, x_b, x_ps, x_pn, cs_n, cs_i, cs_j, cs_r, en_n, en_i, en_j, en_r, xa0, x_k1_T, xi1, x_k2_s, r_i, r_j, r_v, r_z1, r_z0, r_a, e216_0, e216_1, e216_4, e216_7, e216_8, e216_11, e216_12, e216_15, e216_16, e216_17, e216_20, e216_21, e216_24, c216, i10, i00, n2, n10, n20, n60, n8, n9, bi0, ite_not, List.replicate, Nat.reduceAdd, Nat.reduceSub, Nat.reduceLeDiff, Nat.reduceLT, if_true, if_false, mg, reduceIte, not_false_eq_true, eq_self, and_self, and_true, true_and, true_or, or_true, Nat.reduceEqDiff, hw, hj, g_sv, (t_latin (X := X) hw), (t_char1 (X := X) hw hj), r_nc]
