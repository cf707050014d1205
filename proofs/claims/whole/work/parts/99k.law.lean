/-! THE LAW -/
theorem rd90 {X : aX} {m nx j : Nat} {la : aLs} {st : List aV} {M : aM} (hj : j < X.1) (hL : X.1 ≤ 3072) : kC X m (i_ial X nx la (aI (nI j) :: aR (90, 0, 0) :: st) M) = go X m nx la (aI (X.2 j) :: st) M := by
  unfold i_ial
  dsimp only
  rw [show aln X M (90, 0, 0) = some X.1 from rfl]
  dsimp only
  rw [if_pos (inb_nI hj (by omega)), nI_clamp (by omega)]
  rfl
theorem n_90 {X : aX} {m nx : Nat} {la : aLs} {st : List aV} {M : aM} : kC X m (i_aln X nx la (aR (90, 0, 0) :: st) M) = go X m nx la (aI (nI X.1) :: st) M := rfl
theorem lcSelf (x : Int64) : (lg_cmp x x = 0) = True := by
  unfold lg_cmp
  rw [if_neg (by show ¬ x < x; rw [Int64.lt_iff_toInt_lt]; omega), if_pos rfl]
  exact eq_true rfl
theorem e_if {x : Int32} : (x = x) = True := eq_true rfl
theorem lw_0 {X : aX} {S : aS} {i : Nat} (hJ : J S) (hi : i + 6 ≤ X.1) (hL : X.1 ≤ 3072) : ∃ S', J S' ∧ go X 222 204 [some (aR (90, 0, 0)), some (aR (0, 0, 0)), some (aR (20, 0, 0)), some (aI (nI i))] [] (mem S) = go X 222 1322 [some (aR (90, 0, 0)), some (aR (0, 0, 0)), some (aR (20, 0, 0)), some (aI (nI i))] [] (mem S') := by
  have h1 : i + 1 < X.1 := by omega
  have h2 : i + 2 < X.1 := by omega
  have op : opK X 62 126 [aI (X.2 (i + 1)), aI (X.2 (i + 2))] S := o_singer hJ
  obtain ⟨v, S1, S2, g1, g2, g3⟩ := op
  obtain ⟨x, rfl⟩ := cl_I (pm62 X) (rt62 X) g1
  refine ⟨S2, g3, ?_⟩
  simp only [nl_n, nl_i, nl_r, x_ci, x_ca, x_bin, x_ife, x_ifl, x_ifg, x_cme, x_cml, x_cmg, x_go, x_no, x_b, x_ps, x_pn, cs_n, cs_i, cs_j, cs_r, en_n, en_i, en_j, en_r, xa1, xa0, xi3, l_3, l_5, l_8, l_11, l_12, l_21, l_22, l_23, l_24, l_25, l_26, l_28, l_29, l_30, l_31, l_32, x_k3_0, xa2, x_k3_20, r_i, r_j, r_v, r_z1, r_z0, r_a, e222_204, e222_205, e222_206, e222_207, e222_208, e222_209, e222_210, e222_211, e222_212, e222_213, e222_214, e222_215, e222_218, e222_219, e222_220, e222_221, e222_222, e222_223, e222_224, e222_225, e222_226, e222_227, e222_228, e222_229, e222_232, e222_235, e222_236, c222, i10, i00, n2, n10, n20, n60, n8, n9, bi0, ite_not, List.replicate, Nat.reduceAdd, Nat.reduceSub, Nat.reduceLeDiff, Nat.reduceLT, if_true, if_false, mg, reduceIte, not_false_eq_true, eq_self, and_self, and_true, true_and, true_or, or_true, Nat.reduceEqDiff, nI_add, (rd90 (X := X) h1 hL), (rd90 (X := X) h2 hL), g1, g2, e_if]
theorem lw_1 {X : aX} {S : aS} {i : Nat} (hJ : J S) (hi : i + 6 ≤ X.1) (hL : X.1 ≤ 3072) : ∃ S', J S' ∧ go X 222 237 [some (aR (90, 0, 0)), some (aR (0, 0, 0)), some (aR (20, 0, 0)), some (aI (nI i))] [] (mem S) = go X 222 1322 [some (aR (90, 0, 0)), some (aR (0, 0, 0)), some (aR (20, 0, 0)), some (aI (nI i))] [] (mem S') := by
  have h1 : i + 1 < X.1 := by omega
  have h2 : i + 2 < X.1 := by omega
  have op : opK X 63 135 [aI (X.2 (i + 1)), aI (X.2 (i + 2))] S := o_of hJ
  obtain ⟨v, S1, S2, g1, g2, g3⟩ := op
  obtain ⟨x, rfl⟩ := cl_I (pm63 X) (rt63 X) g1
  refine ⟨S2, g3, ?_⟩
  simp only [nl_n, nl_i, nl_r, x_ci, x_ca, x_bin, x_ife, x_ifl, x_ifg, x_cme, x_cml, x_cmg, x_go, x_no, x_b, x_ps, x_pn, cs_n, cs_i, cs_j, cs_r, en_n, en_i, en_j, en_r, xa1, xa0, xi3, l_3, l_5, l_8, l_11, l_12, l_21, l_22, l_23, l_24, l_25, l_26, l_28, l_29, l_30, l_31, l_32, x_k3_0, xa2, x_k3_20, r_i, r_j, r_v, r_z1, r_z0, r_a, e222_237, e222_238, e222_239, e222_240, e222_241, e222_242, e222_243, e222_244, e222_245, e222_246, e222_247, e222_248, e222_251, e222_252, e222_253, e222_254, e222_255, e222_256, e222_257, e222_258, e222_259, e222_260, e222_261, e222_262, e222_265, e222_268, e222_269, c222, i10, i00, n2, n10, n20, n60, n8, n9, bi0, ite_not, List.replicate, Nat.reduceAdd, Nat.reduceSub, Nat.reduceLeDiff, Nat.reduceLT, if_true, if_false, mg, reduceIte, not_false_eq_true, eq_self, and_self, and_true, true_and, true_or, or_true, Nat.reduceEqDiff, nI_add, (rd90 (X := X) h1 hL), (rd90 (X := X) h2 hL), g1, g2, e_if]
theorem lw_2 {X : aX} {S : aS} {i : Nat} (hJ : J S) (hi : i + 6 ≤ X.1) (hL : X.1 ≤ 3072) : ∃ S', J S' ∧ go X 222 270 [some (aR (90, 0, 0)), some (aR (0, 0, 0)), some (aR (20, 0, 0)), some (aI (nI i))] [] (mem S) = go X 222 1322 [some (aR (90, 0, 0)), some (aR (0, 0, 0)), some (aR (20, 0, 0)), some (aI (nI i))] [] (mem S') := by
  have h1 : i + 1 < X.1 := by omega
  have h2 : i + 2 < X.1 := by omega
  have h3 : i + 3 < X.1 := by omega
  have op : opK X 64 137 [aI (X.2 (i + 1)), aI (X.2 (i + 2)), aI (X.2 (i + 3))] S := o_change hJ
  obtain ⟨v, S1, S2, g1, g2, g3⟩ := op
  obtain ⟨x, rfl⟩ := cl_I (pm64 X) (rt64 X) g1
  refine ⟨S2, g3, ?_⟩
  simp only [nl_n, nl_i, nl_r, x_ci, x_ca, x_bin, x_ife, x_ifl, x_ifg, x_cme, x_cml, x_cmg, x_go, x_no, x_b, x_ps, x_pn, cs_n, cs_i, cs_j, cs_r, en_n, en_i, en_j, en_r, xa1, xa0, xi3, l_3, l_5, l_8, l_11, l_12, l_21, l_22, l_23, l_24, l_25, l_26, l_28, l_29, l_30, l_31, l_32, x_k4_0, xa2, x_k4_20, r_i, r_j, r_v, r_z1, r_z0, r_a, e222_270, e222_271, e222_272, e222_273, e222_274, e222_275, e222_276, e222_277, e222_278, e222_279, e222_280, e222_281, e222_282, e222_283, e222_284, e222_285, e222_286, e222_289, e222_290, e222_291, e222_292, e222_293, e222_294, e222_295, e222_296, e222_297, e222_298, e222_299, e222_300, e222_301, e222_302, e222_303, e222_304, e222_305, e222_308, e222_311, e222_312, c222, i10, i00, n2, n10, n20, n60, n8, n9, bi0, ite_not, List.replicate, Nat.reduceAdd, Nat.reduceSub, Nat.reduceLeDiff, Nat.reduceLT, if_true, if_false, mg, reduceIte, not_false_eq_true, eq_self, and_self, and_true, true_and, true_or, or_true, Nat.reduceEqDiff, nI_add, (rd90 (X := X) h1 hL), (rd90 (X := X) h2 hL), (rd90 (X := X) h3 hL), g1, g2, e_if]
theorem lw_3 {X : aX} {S : aS} {i : Nat} (hJ : J S) (hi : i + 6 ≤ X.1) (hL : X.1 ≤ 3072) : ∃ S', J S' ∧ go X 222 313 [some (aR (90, 0, 0)), some (aR (0, 0, 0)), some (aR (20, 0, 0)), some (aI (nI i))] [] (mem S) = go X 222 1322 [some (aR (90, 0, 0)), some (aR (0, 0, 0)), some (aR (20, 0, 0)), some (aI (nI i))] [] (mem S') := by
  have h1 : i + 1 < X.1 := by omega
  have op : opK X 65 138 [aI (X.2 (i + 1))] S := o_answerers hJ
  obtain ⟨v, S1, S2, g1, g2, g3⟩ := op
  obtain ⟨x, rfl⟩ := cl_I (pm65 X) (rt65 X) g1
  refine ⟨S2, g3, ?_⟩
  simp only [nl_n, nl_i, nl_r, x_ci, x_ca, x_bin, x_ife, x_ifl, x_ifg, x_cme, x_cml, x_cmg, x_go, x_no, x_b, x_ps, x_pn, cs_n, cs_i, cs_j, cs_r, en_n, en_i, en_j, en_r, xa1, xa0, xi3, l_3, l_5, l_8, l_11, l_12, l_21, l_22, l_23, l_24, l_25, l_26, l_28, l_29, l_30, l_31, l_32, x_k2_0, xa2, x_k2_20, r_i, r_j, r_v, r_z1, r_z0, r_a, e222_313, e222_314, e222_315, e222_316, e222_317, e222_318, e222_319, e222_322, e222_323, e222_324, e222_325, e222_326, e222_327, e222_328, e222_331, e222_334, e222_335, c222, i10, i00, n2, n10, n20, n60, n8, n9, bi0, ite_not, List.replicate, Nat.reduceAdd, Nat.reduceSub, Nat.reduceLeDiff, Nat.reduceLT, if_true, if_false, mg, reduceIte, not_false_eq_true, eq_self, and_self, and_true, true_and, true_or, or_true, Nat.reduceEqDiff, nI_add, (rd90 (X := X) h1 hL), g1, g2, e_if]
theorem lw_4 {X : aX} {S : aS} {i : Nat} (hJ : J S) (hi : i + 6 ≤ X.1) (hL : X.1 ≤ 3072) : ∃ S', J S' ∧ go X 222 336 [some (aR (90, 0, 0)), some (aR (0, 0, 0)), some (aR (20, 0, 0)), some (aI (nI i))] [] (mem S) = go X 222 1322 [some (aR (90, 0, 0)), some (aR (0, 0, 0)), some (aR (20, 0, 0)), some (aI (nI i))] [] (mem S') := by
  have h1 : i + 1 < X.1 := by omega
  have op : opK X 66 140 [aI (X.2 (i + 1))] S := o_strike hJ
  obtain ⟨v, S1, S2, g1, g2, g3⟩ := op
  obtain ⟨x, rfl⟩ := cl_I (pm66 X) (rt66 X) g1
  refine ⟨S2, g3, ?_⟩
  simp only [nl_n, nl_i, nl_r, x_ci, x_ca, x_bin, x_ife, x_ifl, x_ifg, x_cme, x_cml, x_cmg, x_go, x_no, x_b, x_ps, x_pn, cs_n, cs_i, cs_j, cs_r, en_n, en_i, en_j, en_r, xa1, xa0, xi3, l_3, l_5, l_8, l_11, l_12, l_21, l_22, l_23, l_24, l_25, l_26, l_28, l_29, l_30, l_31, l_32, x_k2_0, xa2, x_k2_20, r_i, r_j, r_v, r_z1, r_z0, r_a, e222_336, e222_337, e222_338, e222_339, e222_340, e222_341, e222_342, e222_345, e222_346, e222_347, e222_348, e222_349, e222_350, e222_351, e222_354, e222_357, e222_358, c222, i10, i00, n2, n10, n20, n60, n8, n9, bi0, ite_not, List.replicate, Nat.reduceAdd, Nat.reduceSub, Nat.reduceLeDiff, Nat.reduceLT, if_true, if_false, mg, reduceIte, not_false_eq_true, eq_self, and_self, and_true, true_and, true_or, or_true, Nat.reduceEqDiff, nI_add, (rd90 (X := X) h1 hL), g1, g2, e_if]
theorem lw_5 {X : aX} {S : aS} {i : Nat} (hJ : J S) (hi : i + 6 ≤ X.1) (hL : X.1 ≤ 3072) : ∃ S', J S' ∧ go X 222 359 [some (aR (90, 0, 0)), some (aR (0, 0, 0)), some (aR (20, 0, 0)), some (aI (nI i))] [] (mem S) = go X 222 1322 [some (aR (90, 0, 0)), some (aR (0, 0, 0)), some (aR (20, 0, 0)), some (aI (nI i))] [] (mem S') := by
  have h1 : i + 1 < X.1 := by omega
  have op : opK X 67 149 [aI (X.2 (i + 1))] S := o_go hJ
  obtain ⟨v, S1, S2, g1, g2, g3⟩ := op
  obtain ⟨x, rfl⟩ := cl_I (pm67 X) (rt67 X) g1
  refine ⟨S2, g3, ?_⟩
  simp only [nl_n, nl_i, nl_r, x_ci, x_ca, x_bin, x_ife, x_ifl, x_ifg, x_cme, x_cml, x_cmg, x_go, x_no, x_b, x_ps, x_pn, cs_n, cs_i, cs_j, cs_r, en_n, en_i, en_j, en_r, xa1, xa0, xi3, l_3, l_5, l_8, l_11, l_12, l_21, l_22, l_23, l_24, l_25, l_26, l_28, l_29, l_30, l_31, l_32, x_k2_0, xa2, x_k2_20, r_i, r_j, r_v, r_z1, r_z0, r_a, e222_359, e222_360, e222_361, e222_362, e222_363, e222_364, e222_365, e222_368, e222_369, e222_370, e222_371, e222_372, e222_373, e222_374, e222_377, e222_380, e222_381, c222, i10, i00, n2, n10, n20, n60, n8, n9, bi0, ite_not, List.replicate, Nat.reduceAdd, Nat.reduceSub, Nat.reduceLeDiff, Nat.reduceLT, if_true, if_false, mg, reduceIte, not_false_eq_true, eq_self, and_self, and_true, true_and, true_or, or_true, Nat.reduceEqDiff, nI_add, (rd90 (X := X) h1 hL), g1, g2, e_if]
theorem lw_6 {X : aX} {S : aS} {i : Nat} (hJ : J S) (hi : i + 6 ≤ X.1) (hL : X.1 ≤ 3072) : ∃ S', J S' ∧ go X 222 382 [some (aR (90, 0, 0)), some (aR (0, 0, 0)), some (aR (20, 0, 0)), some (aI (nI i))] [] (mem S) = go X 222 1322 [some (aR (90, 0, 0)), some (aR (0, 0, 0)), some (aR (20, 0, 0)), some (aI (nI i))] [] (mem S') := by
  have h1 : i + 1 < X.1 := by omega
  have op : opK X 68 153 [aI (X.2 (i + 1))] S := o_now hJ
  obtain ⟨v, S1, S2, g1, g2, g3⟩ := op
  obtain ⟨x, rfl⟩ := cl_I (pm68 X) (rt68 X) g1
  refine ⟨S2, g3, ?_⟩
  simp only [nl_n, nl_i, nl_r, x_ci, x_ca, x_bin, x_ife, x_ifl, x_ifg, x_cme, x_cml, x_cmg, x_go, x_no, x_b, x_ps, x_pn, cs_n, cs_i, cs_j, cs_r, en_n, en_i, en_j, en_r, xa1, xa0, xi3, l_3, l_5, l_8, l_11, l_12, l_21, l_22, l_23, l_24, l_25, l_26, l_28, l_29, l_30, l_31, l_32, x_k2_0, xa2, x_k2_20, r_i, r_j, r_v, r_z1, r_z0, r_a, e222_382, e222_383, e222_384, e222_385, e222_386, e222_387, e222_388, e222_391, e222_392, e222_393, e222_394, e222_395, e222_396, e222_397, e222_400, e222_403, e222_404, c222, i10, i00, n2, n10, n20, n60, n8, n9, bi0, ite_not, List.replicate, Nat.reduceAdd, Nat.reduceSub, Nat.reduceLeDiff, Nat.reduceLT, if_true, if_false, mg, reduceIte, not_false_eq_true, eq_self, and_self, and_true, true_and, true_or, or_true, Nat.reduceEqDiff, nI_add, (rd90 (X := X) h1 hL), g1, g2, e_if]
theorem lw_7 {X : aX} {S : aS} {i : Nat} (hJ : J S) (hi : i + 6 ≤ X.1) (hL : X.1 ≤ 3072) : ∃ S', J S' ∧ go X 222 405 [some (aR (90, 0, 0)), some (aR (0, 0, 0)), some (aR (20, 0, 0)), some (aI (nI i))] [] (mem S) = go X 222 1322 [some (aR (90, 0, 0)), some (aR (0, 0, 0)), some (aR (20, 0, 0)), some (aI (nI i))] [] (mem S') := by
  have h1 : i + 1 < X.1 := by omega
  have h2 : i + 2 < X.1 := by omega
  have h3 : i + 3 < X.1 := by omega
  have op : opK X 69 156 [aI (X.2 (i + 1)), aI (X.2 (i + 2)), aI (X.2 (i + 3))] S := o_ahead hJ
  obtain ⟨v, S1, S2, g1, g2, g3⟩ := op
  obtain ⟨x, rfl⟩ := cl_I (pm69 X) (rt69 X) g1
  refine ⟨S2, g3, ?_⟩
  simp only [nl_n, nl_i, nl_r, x_ci, x_ca, x_bin, x_ife, x_ifl, x_ifg, x_cme, x_cml, x_cmg, x_go, x_no, x_b, x_ps, x_pn, cs_n, cs_i, cs_j, cs_r, en_n, en_i, en_j, en_r, xa1, xa0, xi3, l_3, l_5, l_8, l_11, l_12, l_21, l_22, l_23, l_24, l_25, l_26, l_28, l_29, l_30, l_31, l_32, x_k4_0, xa2, x_k4_20, r_i, r_j, r_v, r_z1, r_z0, r_a, e222_405, e222_406, e222_407, e222_408, e222_409, e222_410, e222_411, e222_412, e222_413, e222_414, e222_415, e222_416, e222_417, e222_418, e222_419, e222_420, e222_421, e222_424, e222_425, e222_426, e222_427, e222_428, e222_429, e222_430, e222_431, e222_432, e222_433, e222_434, e222_435, e222_436, e222_437, e222_438, e222_439, e222_440, e222_443, e222_446, e222_447, c222, i10, i00, n2, n10, n20, n60, n8, n9, bi0, ite_not, List.replicate, Nat.reduceAdd, Nat.reduceSub, Nat.reduceLeDiff, Nat.reduceLT, if_true, if_false, mg, reduceIte, not_false_eq_true, eq_self, and_self, and_true, true_and, true_or, or_true, Nat.reduceEqDiff, nI_add, (rd90 (X := X) h1 hL), (rd90 (X := X) h2 hL), (rd90 (X := X) h3 hL), g1, g2, e_if]
theorem lw_8 {X : aX} {S : aS} {i : Nat} (hJ : J S) (hi : i + 6 ≤ X.1) (hL : X.1 ≤ 3072) : ∃ S', J S' ∧ go X 222 448 [some (aR (90, 0, 0)), some (aR (0, 0, 0)), some (aR (20, 0, 0)), some (aI (nI i))] [] (mem S) = go X 222 1322 [some (aR (90, 0, 0)), some (aR (0, 0, 0)), some (aR (20, 0, 0)), some (aI (nI i))] [] (mem S') := by
  have h1 : i + 1 < X.1 := by omega
  have op : opK X 70 158 [aI (X.2 (i + 1))] S := o_sings hJ
  obtain ⟨v, S1, S2, g1, g2, g3⟩ := op
  obtain ⟨x, rfl⟩ := cl_I (pm70 X) (rt70 X) g1
  refine ⟨S2, g3, ?_⟩
  simp only [nl_n, nl_i, nl_r, x_ci, x_ca, x_bin, x_ife, x_ifl, x_ifg, x_cme, x_cml, x_cmg, x_go, x_no, x_b, x_ps, x_pn, cs_n, cs_i, cs_j, cs_r, en_n, en_i, en_j, en_r, xa1, xa0, xi3, l_3, l_5, l_8, l_11, l_12, l_21, l_22, l_23, l_24, l_25, l_26, l_28, l_29, l_30, l_31, l_32, x_k2_0, xa2, x_k2_20, r_i, r_j, r_v, r_z1, r_z0, r_a, e222_448, e222_449, e222_450, e222_451, e222_452, e222_453, e222_454, e222_457, e222_458, e222_459, e222_460, e222_461, e222_462, e222_463, e222_466, e222_469, e222_470, c222, i10, i00, n2, n10, n20, n60, n8, n9, bi0, ite_not, List.replicate, Nat.reduceAdd, Nat.reduceSub, Nat.reduceLeDiff, Nat.reduceLT, if_true, if_false, mg, reduceIte, not_false_eq_true, eq_self, and_self, and_true, true_and, true_or, or_true, Nat.reduceEqDiff, nI_add, (rd90 (X := X) h1 hL), g1, g2, e_if]
theorem lw_9 {X : aX} {S : aS} {i : Nat} (hJ : J S) (hi : i + 6 ≤ X.1) (hL : X.1 ≤ 3072) : ∃ S', J S' ∧ go X 222 471 [some (aR (90, 0, 0)), some (aR (0, 0, 0)), some (aR (20, 0, 0)), some (aI (nI i))] [] (mem S) = go X 222 1322 [some (aR (90, 0, 0)), some (aR (0, 0, 0)), some (aR (20, 0, 0)), some (aI (nI i))] [] (mem S') := by
  have h1 : i + 1 < X.1 := by omega
  have h2 : i + 2 < X.1 := by omega
  have op : opK X 71 159 [aI (X.2 (i + 1)), aI (X.2 (i + 2))] S := o_together hJ
  obtain ⟨v, S1, S2, g1, g2, g3⟩ := op
  obtain ⟨x, rfl⟩ := cl_I (pm71 X) (rt71 X) g1
  refine ⟨S2, g3, ?_⟩
  simp only [nl_n, nl_i, nl_r, x_ci, x_ca, x_bin, x_ife, x_ifl, x_ifg, x_cme, x_cml, x_cmg, x_go, x_no, x_b, x_ps, x_pn, cs_n, cs_i, cs_j, cs_r, en_n, en_i, en_j, en_r, xa1, xa0, xi3, l_3, l_5, l_8, l_11, l_12, l_21, l_22, l_23, l_24, l_25, l_26, l_28, l_29, l_30, l_31, l_32, x_k3_0, xa2, x_k3_20, r_i, r_j, r_v, r_z1, r_z0, r_a, e222_471, e222_472, e222_473, e222_474, e222_475, e222_476, e222_477, e222_478, e222_479, e222_480, e222_481, e222_482, e222_485, e222_486, e222_487, e222_488, e222_489, e222_490, e222_491, e222_492, e222_493, e222_494, e222_495, e222_496, e222_499, e222_502, e222_503, c222, i10, i00, n2, n10, n20, n60, n8, n9, bi0, ite_not, List.replicate, Nat.reduceAdd, Nat.reduceSub, Nat.reduceLeDiff, Nat.reduceLT, if_true, if_false, mg, reduceIte, not_false_eq_true, eq_self, and_self, and_true, true_and, true_or, or_true, Nat.reduceEqDiff, nI_add, (rd90 (X := X) h1 hL), (rd90 (X := X) h2 hL), g1, g2, e_if]
theorem lw_10 {X : aX} {S : aS} {i : Nat} (hJ : J S) (hi : i + 6 ≤ X.1) (hL : X.1 ≤ 3072) : ∃ S', J S' ∧ go X 222 504 [some (aR (90, 0, 0)), some (aR (0, 0, 0)), some (aR (20, 0, 0)), some (aI (nI i))] [] (mem S) = go X 222 1322 [some (aR (90, 0, 0)), some (aR (0, 0, 0)), some (aR (20, 0, 0)), some (aI (nI i))] [] (mem S') := by
  have h1 : i + 1 < X.1 := by omega
  have op : opK X 72 161 [aI (X.2 (i + 1))] S := o_rest hJ
  obtain ⟨v, S1, S2, g1, g2, g3⟩ := op
  obtain ⟨x, rfl⟩ := cl_I (pm72 X) (rt72 X) g1
  refine ⟨S2, g3, ?_⟩
  simp only [nl_n, nl_i, nl_r, x_ci, x_ca, x_bin, x_ife, x_ifl, x_ifg, x_cme, x_cml, x_cmg, x_go, x_no, x_b, x_ps, x_pn, cs_n, cs_i, cs_j, cs_r, en_n, en_i, en_j, en_r, xa1, xa0, xi3, l_3, l_5, l_8, l_11, l_12, l_21, l_22, l_23, l_24, l_25, l_26, l_28, l_29, l_30, l_31, l_32, x_k2_0, xa2, x_k2_20, r_i, r_j, r_v, r_z1, r_z0, r_a, e222_504, e222_505, e222_506, e222_507, e222_508, e222_509, e222_510, e222_513, e222_514, e222_515, e222_516, e222_517, e222_518, e222_519, e222_522, e222_525, e222_526, c222, i10, i00, n2, n10, n20, n60, n8, n9, bi0, ite_not, List.replicate, Nat.reduceAdd, Nat.reduceSub, Nat.reduceLeDiff, Nat.reduceLT, if_true, if_false, mg, reduceIte, not_false_eq_true, eq_self, and_self, and_true, true_and, true_or, or_true, Nat.reduceEqDiff, nI_add, (rd90 (X := X) h1 hL), g1, g2, e_if]
theorem lw_11 {X : aX} {S : aS} {i : Nat} (hJ : J S) (hi : i + 6 ≤ X.1) (hL : X.1 ≤ 3072) : ∃ S', J S' ∧ go X 222 527 [some (aR (90, 0, 0)), some (aR (0, 0, 0)), some (aR (20, 0, 0)), some (aI (nI i))] [] (mem S) = go X 222 1322 [some (aR (90, 0, 0)), some (aR (0, 0, 0)), some (aR (20, 0, 0)), some (aI (nI i))] [] (mem S') := by
  have h1 : i + 1 < X.1 := by omega
  have h2 : i + 2 < X.1 := by omega
  have op : opK X 73 162 [aI (X.2 (i + 1)), aI (X.2 (i + 2))] S := o_when hJ
  obtain ⟨v, S1, S2, g1, g2, g3⟩ := op
  obtain ⟨x, rfl⟩ := cl_I (pm73 X) (rt73 X) g1
  refine ⟨S2, g3, ?_⟩
  simp only [nl_n, nl_i, nl_r, x_ci, x_ca, x_bin, x_ife, x_ifl, x_ifg, x_cme, x_cml, x_cmg, x_go, x_no, x_b, x_ps, x_pn, cs_n, cs_i, cs_j, cs_r, en_n, en_i, en_j, en_r, xa1, xa0, xi3, l_3, l_5, l_8, l_11, l_12, l_21, l_22, l_23, l_24, l_25, l_26, l_28, l_29, l_30, l_31, l_32, x_k3_0, xa2, x_k3_20, r_i, r_j, r_v, r_z1, r_z0, r_a, e222_527, e222_528, e222_529, e222_530, e222_531, e222_532, e222_533, e222_534, e222_535, e222_536, e222_537, e222_538, e222_541, e222_542, e222_543, e222_544, e222_545, e222_546, e222_547, e222_548, e222_549, e222_550, e222_551, e222_552, e222_555, e222_558, e222_559, c222, i10, i00, n2, n10, n20, n60, n8, n9, bi0, ite_not, List.replicate, Nat.reduceAdd, Nat.reduceSub, Nat.reduceLeDiff, Nat.reduceLT, if_true, if_false, mg, reduceIte, not_false_eq_true, eq_self, and_self, and_true, true_and, true_or, or_true, Nat.reduceEqDiff, nI_add, (rd90 (X := X) h1 hL), (rd90 (X := X) h2 hL), g1, g2, e_if]
theorem lw_12 {X : aX} {S : aS} {i : Nat} (hJ : J S) (hi : i + 6 ≤ X.1) (hL : X.1 ≤ 3072) : ∃ S', J S' ∧ go X 222 560 [some (aR (90, 0, 0)), some (aR (0, 0, 0)), some (aR (20, 0, 0)), some (aI (nI i))] [] (mem S) = go X 222 1322 [some (aR (90, 0, 0)), some (aR (0, 0, 0)), some (aR (20, 0, 0)), some (aI (nI i))] [] (mem S') := by
  have h1 : i + 1 < X.1 := by omega
  have h2 : i + 2 < X.1 := by omega
  have op : opK X 74 165 [aI (X.2 (i + 1)), aI (X.2 (i + 2))] S := o_beginFor hJ
  obtain ⟨v, S1, S2, g1, g2, g3⟩ := op
  obtain ⟨x, rfl⟩ := cl_I (pm74 X) (rt74 X) g1
  refine ⟨S2, g3, ?_⟩
  simp only [nl_n, nl_i, nl_r, x_ci, x_ca, x_bin, x_ife, x_ifl, x_ifg, x_cme, x_cml, x_cmg, x_go, x_no, x_b, x_ps, x_pn, cs_n, cs_i, cs_j, cs_r, en_n, en_i, en_j, en_r, xa1, xa0, xi3, l_3, l_5, l_8, l_11, l_12, l_21, l_22, l_23, l_24, l_25, l_26, l_28, l_29, l_30, l_31, l_32, x_k3_0, xa2, x_k3_20, r_i, r_j, r_v, r_z1, r_z0, r_a, e222_560, e222_561, e222_562, e222_563, e222_564, e222_565, e222_566, e222_567, e222_568, e222_569, e222_570, e222_571, e222_574, e222_575, e222_576, e222_577, e222_578, e222_579, e222_580, e222_581, e222_582, e222_583, e222_584, e222_585, e222_588, e222_591, e222_592, c222, i10, i00, n2, n10, n20, n60, n8, n9, bi0, ite_not, List.replicate, Nat.reduceAdd, Nat.reduceSub, Nat.reduceLeDiff, Nat.reduceLT, if_true, if_false, mg, reduceIte, not_false_eq_true, eq_self, and_self, and_true, true_and, true_or, or_true, Nat.reduceEqDiff, nI_add, (rd90 (X := X) h1 hL), (rd90 (X := X) h2 hL), g1, g2, e_if]
theorem lw_13 {X : aX} {S : aS} {i : Nat} (hJ : J S) (hi : i + 6 ≤ X.1) (hL : X.1 ≤ 3072) : ∃ S', J S' ∧ go X 222 593 [some (aR (90, 0, 0)), some (aR (0, 0, 0)), some (aR (20, 0, 0)), some (aI (nI i))] [] (mem S) = go X 222 1322 [some (aR (90, 0, 0)), some (aR (0, 0, 0)), some (aR (20, 0, 0)), some (aI (nI i))] [] (mem S') := by
  have h1 : i + 1 < X.1 := by omega
  have h2 : i + 2 < X.1 := by omega
  have op : opK X 75 166 [aI (X.2 (i + 1)), aI (X.2 (i + 2))] S := o_answerFor hJ
  obtain ⟨v, S1, S2, g1, g2, g3⟩ := op
  obtain ⟨x, rfl⟩ := cl_I (pm75 X) (rt75 X) g1
  refine ⟨S2, g3, ?_⟩
  simp only [nl_n, nl_i, nl_r, x_ci, x_ca, x_bin, x_ife, x_ifl, x_ifg, x_cme, x_cml, x_cmg, x_go, x_no, x_b, x_ps, x_pn, cs_n, cs_i, cs_j, cs_r, en_n, en_i, en_j, en_r, xa1, xa0, xi3, l_3, l_5, l_8, l_11, l_12, l_21, l_22, l_23, l_24, l_25, l_26, l_28, l_29, l_30, l_31, l_32, x_k3_0, xa2, x_k3_20, r_i, r_j, r_v, r_z1, r_z0, r_a, e222_593, e222_594, e222_595, e222_596, e222_597, e222_598, e222_599, e222_600, e222_601, e222_602, e222_603, e222_604, e222_607, e222_608, e222_609, e222_610, e222_611, e222_612, e222_613, e222_614, e222_615, e222_616, e222_617, e222_618, e222_621, e222_624, e222_625, c222, i10, i00, n2, n10, n20, n60, n8, n9, bi0, ite_not, List.replicate, Nat.reduceAdd, Nat.reduceSub, Nat.reduceLeDiff, Nat.reduceLT, if_true, if_false, mg, reduceIte, not_false_eq_true, eq_self, and_self, and_true, true_and, true_or, or_true, Nat.reduceEqDiff, nI_add, (rd90 (X := X) h1 hL), (rd90 (X := X) h2 hL), g1, g2, e_if]
theorem lw_14 {X : aX} {S : aS} {i : Nat} (hJ : J S) (hi : i + 6 ≤ X.1) (hL : X.1 ≤ 3072) : ∃ S', J S' ∧ go X 222 626 [some (aR (90, 0, 0)), some (aR (0, 0, 0)), some (aR (20, 0, 0)), some (aI (nI i))] [] (mem S) = go X 222 1322 [some (aR (90, 0, 0)), some (aR (0, 0, 0)), some (aR (20, 0, 0)), some (aI (nI i))] [] (mem S') := by
  have h1 : i + 1 < X.1 := by omega
  have h2 : i + 2 < X.1 := by omega
  have op : opK X 76 167 [aI (X.2 (i + 1)), aI (X.2 (i + 2))] S := o_kindFor hJ
  obtain ⟨v, S1, S2, g1, g2, g3⟩ := op
  obtain ⟨x, rfl⟩ := cl_I (pm76 X) (rt76 X) g1
  refine ⟨S2, g3, ?_⟩
  simp only [nl_n, nl_i, nl_r, x_ci, x_ca, x_bin, x_ife, x_ifl, x_ifg, x_cme, x_cml, x_cmg, x_go, x_no, x_b, x_ps, x_pn, cs_n, cs_i, cs_j, cs_r, en_n, en_i, en_j, en_r, xa1, xa0, xi3, l_3, l_5, l_8, l_11, l_12, l_21, l_22, l_23, l_24, l_25, l_26, l_28, l_29, l_30, l_31, l_32, x_k3_0, xa2, x_k3_20, r_i, r_j, r_v, r_z1, r_z0, r_a, e222_626, e222_627, e222_628, e222_629, e222_630, e222_631, e222_632, e222_633, e222_634, e222_635, e222_636, e222_637, e222_640, e222_641, e222_642, e222_643, e222_644, e222_645, e222_646, e222_647, e222_648, e222_649, e222_650, e222_651, e222_654, e222_657, e222_658, c222, i10, i00, n2, n10, n20, n60, n8, n9, bi0, ite_not, List.replicate, Nat.reduceAdd, Nat.reduceSub, Nat.reduceLeDiff, Nat.reduceLT, if_true, if_false, mg, reduceIte, not_false_eq_true, eq_self, and_self, and_true, true_and, true_or, or_true, Nat.reduceEqDiff, nI_add, (rd90 (X := X) h1 hL), (rd90 (X := X) h2 hL), g1, g2, e_if]
theorem lw_15 {X : aX} {S : aS} {i : Nat} (hJ : J S) (hi : i + 6 ≤ X.1) (hL : X.1 ≤ 3072) : ∃ S', J S' ∧ go X 222 659 [some (aR (90, 0, 0)), some (aR (0, 0, 0)), some (aR (20, 0, 0)), some (aI (nI i))] [] (mem S) = go X 222 1322 [some (aR (90, 0, 0)), some (aR (0, 0, 0)), some (aR (20, 0, 0)), some (aI (nI i))] [] (mem S') := by
  have h1 : i + 1 < X.1 := by omega
  have h2 : i + 2 < X.1 := by omega
  have op : opK X 77 168 [aI (X.2 (i + 1)), aI (X.2 (i + 2))] S := o_ageFor hJ
  obtain ⟨v, S1, S2, g1, g2, g3⟩ := op
  obtain ⟨x, rfl⟩ := cl_I (pm77 X) (rt77 X) g1
  refine ⟨S2, g3, ?_⟩
  simp only [nl_n, nl_i, nl_r, x_ci, x_ca, x_bin, x_ife, x_ifl, x_ifg, x_cme, x_cml, x_cmg, x_go, x_no, x_b, x_ps, x_pn, cs_n, cs_i, cs_j, cs_r, en_n, en_i, en_j, en_r, xa1, xa0, xi3, l_3, l_5, l_8, l_11, l_12, l_21, l_22, l_23, l_24, l_25, l_26, l_28, l_29, l_30, l_31, l_32, x_k3_0, xa2, x_k3_20, r_i, r_j, r_v, r_z1, r_z0, r_a, e222_659, e222_660, e222_661, e222_662, e222_663, e222_664, e222_665, e222_666, e222_667, e222_668, e222_669, e222_670, e222_673, e222_674, e222_675, e222_676, e222_677, e222_678, e222_679, e222_680, e222_681, e222_682, e222_683, e222_684, e222_687, e222_690, e222_691, c222, i10, i00, n2, n10, n20, n60, n8, n9, bi0, ite_not, List.replicate, Nat.reduceAdd, Nat.reduceSub, Nat.reduceLeDiff, Nat.reduceLT, if_true, if_false, mg, reduceIte, not_false_eq_true, eq_self, and_self, and_true, true_and, true_or, or_true, Nat.reduceEqDiff, nI_add, (rd90 (X := X) h1 hL), (rd90 (X := X) h2 hL), g1, g2, e_if]
theorem lw_16 {X : aX} {S : aS} {i : Nat} (hJ : J S) (hi : i + 6 ≤ X.1) (hL : X.1 ≤ 3072) : ∃ S', J S' ∧ go X 222 692 [some (aR (90, 0, 0)), some (aR (0, 0, 0)), some (aR (20, 0, 0)), some (aI (nI i))] [] (mem S) = go X 222 1322 [some (aR (90, 0, 0)), some (aR (0, 0, 0)), some (aR (20, 0, 0)), some (aI (nI i))] [] (mem S') := by
  have h1 : i + 1 < X.1 := by omega
  have op : opK X 78 170 [aI (X.2 (i + 1))] S := o_hush hJ
  obtain ⟨v, S1, S2, g1, g2, g3⟩ := op
  obtain ⟨x, rfl⟩ := cl_I (pm78 X) (rt78 X) g1
  refine ⟨S2, g3, ?_⟩
  simp only [nl_n, nl_i, nl_r, x_ci, x_ca, x_bin, x_ife, x_ifl, x_ifg, x_cme, x_cml, x_cmg, x_go, x_no, x_b, x_ps, x_pn, cs_n, cs_i, cs_j, cs_r, en_n, en_i, en_j, en_r, xa1, xa0, xi3, l_3, l_5, l_8, l_11, l_12, l_21, l_22, l_23, l_24, l_25, l_26, l_28, l_29, l_30, l_31, l_32, x_k2_0, xa2, x_k2_20, r_i, r_j, r_v, r_z1, r_z0, r_a, e222_692, e222_693, e222_694, e222_695, e222_696, e222_697, e222_698, e222_701, e222_702, e222_703, e222_704, e222_705, e222_706, e222_707, e222_710, e222_713, e222_714, c222, i10, i00, n2, n10, n20, n60, n8, n9, bi0, ite_not, List.replicate, Nat.reduceAdd, Nat.reduceSub, Nat.reduceLeDiff, Nat.reduceLT, if_true, if_false, mg, reduceIte, not_false_eq_true, eq_self, and_self, and_true, true_and, true_or, or_true, Nat.reduceEqDiff, nI_add, (rd90 (X := X) h1 hL), g1, g2, e_if]
theorem lw_17 {X : aX} {S : aS} {i : Nat} (hJ : J S) (hi : i + 6 ≤ X.1) (hL : X.1 ≤ 3072) : ∃ S', J S' ∧ go X 222 715 [some (aR (90, 0, 0)), some (aR (0, 0, 0)), some (aR (20, 0, 0)), some (aI (nI i))] [] (mem S) = go X 222 1322 [some (aR (90, 0, 0)), some (aR (0, 0, 0)), some (aR (20, 0, 0)), some (aI (nI i))] [] (mem S') := by
  have h1 : i + 1 < X.1 := by omega
  have op : opK X 79 171 [aI (X.2 (i + 1))] S := o_longest hJ
  obtain ⟨v, S1, S2, g1, g2, g3⟩ := op
  obtain ⟨x, rfl⟩ := cl_I (pm79 X) (rt79 X) g1
  refine ⟨S2, g3, ?_⟩
  simp only [nl_n, nl_i, nl_r, x_ci, x_ca, x_bin, x_ife, x_ifl, x_ifg, x_cme, x_cml, x_cmg, x_go, x_no, x_b, x_ps, x_pn, cs_n, cs_i, cs_j, cs_r, en_n, en_i, en_j, en_r, xa1, xa0, xi3, l_3, l_5, l_8, l_11, l_12, l_21, l_22, l_23, l_24, l_25, l_26, l_28, l_29, l_30, l_31, l_32, x_k2_0, xa2, x_k2_20, r_i, r_j, r_v, r_z1, r_z0, r_a, e222_715, e222_716, e222_717, e222_718, e222_719, e222_720, e222_721, e222_724, e222_725, e222_726, e222_727, e222_728, e222_729, e222_730, e222_733, e222_736, e222_737, c222, i10, i00, n2, n10, n20, n60, n8, n9, bi0, ite_not, List.replicate, Nat.reduceAdd, Nat.reduceSub, Nat.reduceLeDiff, Nat.reduceLT, if_true, if_false, mg, reduceIte, not_false_eq_true, eq_self, and_self, and_true, true_and, true_or, or_true, Nat.reduceEqDiff, nI_add, (rd90 (X := X) h1 hL), g1, g2, e_if]
theorem lw_18 {X : aX} {S : aS} {i : Nat} (hJ : J S) (hi : i + 6 ≤ X.1) (hL : X.1 ≤ 3072) : ∃ S', J S' ∧ go X 222 738 [some (aR (90, 0, 0)), some (aR (0, 0, 0)), some (aR (20, 0, 0)), some (aI (nI i))] [] (mem S) = go X 222 1322 [some (aR (90, 0, 0)), some (aR (0, 0, 0)), some (aR (20, 0, 0)), some (aI (nI i))] [] (mem S') := by
  have h1 : i + 1 < X.1 := by omega
  have h2 : i + 2 < X.1 := by omega
  have op : opK X 80 175 [aI (X.2 (i + 1)), aI (X.2 (i + 2))] S := o_fits hJ
  obtain ⟨v, S1, S2, g1, g2, g3⟩ := op
  obtain ⟨x, rfl⟩ := cl_I (pm80 X) (rt80 X) g1
  refine ⟨S2, g3, ?_⟩
  simp only [nl_n, nl_i, nl_r, x_ci, x_ca, x_bin, x_ife, x_ifl, x_ifg, x_cme, x_cml, x_cmg, x_go, x_no, x_b, x_ps, x_pn, cs_n, cs_i, cs_j, cs_r, en_n, en_i, en_j, en_r, xa1, xa0, xi3, l_3, l_5, l_8, l_11, l_12, l_21, l_22, l_23, l_24, l_25, l_26, l_28, l_29, l_30, l_31, l_32, x_k3_0, xa2, x_k3_20, r_i, r_j, r_v, r_z1, r_z0, r_a, e222_738, e222_739, e222_740, e222_741, e222_742, e222_743, e222_744, e222_745, e222_746, e222_747, e222_748, e222_749, e222_752, e222_753, e222_754, e222_755, e222_756, e222_757, e222_758, e222_759, e222_760, e222_761, e222_762, e222_763, e222_766, e222_769, e222_770, c222, i10, i00, n2, n10, n20, n60, n8, n9, bi0, ite_not, List.replicate, Nat.reduceAdd, Nat.reduceSub, Nat.reduceLeDiff, Nat.reduceLT, if_true, if_false, mg, reduceIte, not_false_eq_true, eq_self, and_self, and_true, true_and, true_or, or_true, Nat.reduceEqDiff, nI_add, (rd90 (X := X) h1 hL), (rd90 (X := X) h2 hL), g1, g2, e_if]
theorem lw_19 {X : aX} {S : aS} {i : Nat} (hJ : J S) (hi : i + 6 ≤ X.1) (hL : X.1 ≤ 3072) : ∃ S', J S' ∧ go X 222 771 [some (aR (90, 0, 0)), some (aR (0, 0, 0)), some (aR (20, 0, 0)), some (aI (nI i))] [] (mem S) = go X 222 1322 [some (aR (90, 0, 0)), some (aR (0, 0, 0)), some (aR (20, 0, 0)), some (aI (nI i))] [] (mem S') := by
  have h1 : i + 1 < X.1 := by omega
  have h2 : i + 2 < X.1 := by omega
  have op : opK X 81 176 [aI (X.2 (i + 1)), aI (X.2 (i + 2))] S := o_date hJ
  obtain ⟨v, S1, S2, g1, g2, g3⟩ := op
  obtain ⟨x, rfl⟩ := cl_I (pm81 X) (rt81 X) g1
  refine ⟨S2, g3, ?_⟩
  simp only [nl_n, nl_i, nl_r, x_ci, x_ca, x_bin, x_ife, x_ifl, x_ifg, x_cme, x_cml, x_cmg, x_go, x_no, x_b, x_ps, x_pn, cs_n, cs_i, cs_j, cs_r, en_n, en_i, en_j, en_r, xa1, xa0, xi3, l_3, l_5, l_8, l_11, l_12, l_21, l_22, l_23, l_24, l_25, l_26, l_28, l_29, l_30, l_31, l_32, x_k3_0, xa2, x_k3_20, r_i, r_j, r_v, r_z1, r_z0, r_a, e222_771, e222_772, e222_773, e222_774, e222_775, e222_776, e222_777, e222_778, e222_779, e222_780, e222_781, e222_782, e222_785, e222_786, e222_787, e222_788, e222_789, e222_790, e222_791, e222_792, e222_793, e222_794, e222_795, e222_796, e222_799, e222_802, e222_803, c222, i10, i00, n2, n10, n20, n60, n8, n9, bi0, ite_not, List.replicate, Nat.reduceAdd, Nat.reduceSub, Nat.reduceLeDiff, Nat.reduceLT, if_true, if_false, mg, reduceIte, not_false_eq_true, eq_self, and_self, and_true, true_and, true_or, or_true, Nat.reduceEqDiff, nI_add, (rd90 (X := X) h1 hL), (rd90 (X := X) h2 hL), g1, g2, e_if]
theorem lw_20 {X : aX} {S : aS} {i : Nat} (hJ : J S) (hi : i + 6 ≤ X.1) (hL : X.1 ≤ 3072) : ∃ S', J S' ∧ go X 222 804 [some (aR (90, 0, 0)), some (aR (0, 0, 0)), some (aR (20, 0, 0)), some (aI (nI i))] [] (mem S) = go X 222 1322 [some (aR (90, 0, 0)), some (aR (0, 0, 0)), some (aR (20, 0, 0)), some (aI (nI i))] [] (mem S') := by
  have h1 : i + 1 < X.1 := by omega
  have h2 : i + 2 < X.1 := by omega
  have op : opK X 82 177 [aI (X.2 (i + 1)), aI (X.2 (i + 2))] S := o_kinds hJ
  obtain ⟨v, S1, S2, g1, g2, g3⟩ := op
  obtain ⟨x, rfl⟩ := cl_I (pm82 X) (rt82 X) g1
  refine ⟨S2, g3, ?_⟩
  simp only [nl_n, nl_i, nl_r, x_ci, x_ca, x_bin, x_ife, x_ifl, x_ifg, x_cme, x_cml, x_cmg, x_go, x_no, x_b, x_ps, x_pn, cs_n, cs_i, cs_j, cs_r, en_n, en_i, en_j, en_r, xa1, xa0, xi3, l_3, l_5, l_8, l_11, l_12, l_21, l_22, l_23, l_24, l_25, l_26, l_28, l_29, l_30, l_31, l_32, x_k3_0, xa2, x_k3_20, r_i, r_j, r_v, r_z1, r_z0, r_a, e222_804, e222_805, e222_806, e222_807, e222_808, e222_809, e222_810, e222_811, e222_812, e222_813, e222_814, e222_815, e222_818, e222_819, e222_820, e222_821, e222_822, e222_823, e222_824, e222_825, e222_826, e222_827, e222_828, e222_829, e222_832, e222_835, e222_836, c222, i10, i00, n2, n10, n20, n60, n8, n9, bi0, ite_not, List.replicate, Nat.reduceAdd, Nat.reduceSub, Nat.reduceLeDiff, Nat.reduceLT, if_true, if_false, mg, reduceIte, not_false_eq_true, eq_self, and_self, and_true, true_and, true_or, or_true, Nat.reduceEqDiff, nI_add, (rd90 (X := X) h1 hL), (rd90 (X := X) h2 hL), g1, g2, e_if]
theorem lw_21 {X : aX} {S : aS} {i : Nat} (hJ : J S) (hi : i + 6 ≤ X.1) (hL : X.1 ≤ 3072) : ∃ S', J S' ∧ go X 222 837 [some (aR (90, 0, 0)), some (aR (0, 0, 0)), some (aR (20, 0, 0)), some (aI (nI i))] [] (mem S) = go X 222 1322 [some (aR (90, 0, 0)), some (aR (0, 0, 0)), some (aR (20, 0, 0)), some (aI (nI i))] [] (mem S') := by
  have h1 : i + 1 < X.1 := by omega
  have op : opK X 83 179 [aI (X.2 (i + 1))] S := o_spring hJ
  obtain ⟨v, S1, S2, g1, g2, g3⟩ := op
  obtain ⟨x, rfl⟩ := cl_I (pm83 X) (rt83 X) g1
  refine ⟨S2, g3, ?_⟩
  simp only [nl_n, nl_i, nl_r, x_ci, x_ca, x_bin, x_ife, x_ifl, x_ifg, x_cme, x_cml, x_cmg, x_go, x_no, x_b, x_ps, x_pn, cs_n, cs_i, cs_j, cs_r, en_n, en_i, en_j, en_r, xa1, xa0, xi3, l_3, l_5, l_8, l_11, l_12, l_21, l_22, l_23, l_24, l_25, l_26, l_28, l_29, l_30, l_31, l_32, x_k2_0, xa2, x_k2_20, r_i, r_j, r_v, r_z1, r_z0, r_a, e222_837, e222_838, e222_839, e222_840, e222_841, e222_842, e222_843, e222_846, e222_847, e222_848, e222_849, e222_850, e222_851, e222_852, e222_855, e222_858, e222_859, c222, i10, i00, n2, n10, n20, n60, n8, n9, bi0, ite_not, List.replicate, Nat.reduceAdd, Nat.reduceSub, Nat.reduceLeDiff, Nat.reduceLT, if_true, if_false, mg, reduceIte, not_false_eq_true, eq_self, and_self, and_true, true_and, true_or, or_true, Nat.reduceEqDiff, nI_add, (rd90 (X := X) h1 hL), g1, g2, e_if]
theorem lw_22 {X : aX} {S : aS} {i : Nat} (hJ : J S) (hi : i + 6 ≤ X.1) (hL : X.1 ≤ 3072) : ∃ S', J S' ∧ go X 222 860 [some (aR (90, 0, 0)), some (aR (0, 0, 0)), some (aR (20, 0, 0)), some (aI (nI i))] [] (mem S) = go X 222 1322 [some (aR (90, 0, 0)), some (aR (0, 0, 0)), some (aR (20, 0, 0)), some (aI (nI i))] [] (mem S') := by
  have h1 : i + 1 < X.1 := by omega
  have h2 : i + 2 < X.1 := by omega
  have op : opK X 84 181 [aI (X.2 (i + 1)), aI (X.2 (i + 2))] S := o_odds hJ
  obtain ⟨v, S1, S2, g1, g2, g3⟩ := op
  obtain ⟨x, rfl⟩ := cl_J (pm84 X) (rt84 X) g1
  refine ⟨S2, g3, ?_⟩
  simp only [nl_n, nl_i, nl_r, x_ci, x_ca, x_bin, x_ife, x_ifl, x_ifg, x_cme, x_cml, x_cmg, x_go, x_no, x_b, x_ps, x_pn, cs_n, cs_i, cs_j, cs_r, en_n, en_i, en_j, en_r, xa1, xa0, xi3, l_3, l_5, l_8, l_11, l_12, l_21, l_22, l_23, l_24, l_25, l_26, l_28, l_29, l_30, l_31, l_32, x_k3_0, xa2, x_k3_20, x_lcm, r_i, r_j, r_v, r_z1, r_z0, r_a, e222_860, e222_861, e222_862, e222_863, e222_864, e222_865, e222_866, e222_867, e222_868, e222_869, e222_870, e222_871, e222_874, e222_875, e222_876, e222_877, e222_878, e222_879, e222_880, e222_881, e222_882, e222_883, e222_884, e222_885, e222_888, e222_889, e222_892, e222_893, c222, i10, i00, n2, n10, n20, n60, n8, n9, bi0, ite_not, List.replicate, Nat.reduceAdd, Nat.reduceSub, Nat.reduceLeDiff, Nat.reduceLT, if_true, if_false, mg, reduceIte, not_false_eq_true, eq_self, and_self, and_true, true_and, true_or, or_true, Nat.reduceEqDiff, nI_add, (rd90 (X := X) h1 hL), (rd90 (X := X) h2 hL), g1, g2, lcSelf]
theorem lw_23 {X : aX} {S : aS} {i : Nat} (hJ : J S) (hi : i + 6 ≤ X.1) (hL : X.1 ≤ 3072) : ∃ S', J S' ∧ go X 222 894 [some (aR (90, 0, 0)), some (aR (0, 0, 0)), some (aR (20, 0, 0)), some (aI (nI i))] [] (mem S) = go X 222 1322 [some (aR (90, 0, 0)), some (aR (0, 0, 0)), some (aR (20, 0, 0)), some (aI (nI i))] [] (mem S') := by
  have h1 : i + 1 < X.1 := by omega
  have op : opK X 85 182 [aI (X.2 (i + 1))] S := o_seed hJ
  obtain ⟨v, S1, S2, g1, g2, g3⟩ := op
  obtain ⟨x, rfl⟩ := cl_I (pm85 X) (rt85 X) g1
  refine ⟨S2, g3, ?_⟩
  simp only [nl_n, nl_i, nl_r, x_ci, x_ca, x_bin, x_ife, x_ifl, x_ifg, x_cme, x_cml, x_cmg, x_go, x_no, x_b, x_ps, x_pn, cs_n, cs_i, cs_j, cs_r, en_n, en_i, en_j, en_r, xa1, xa0, xi3, l_3, l_5, l_8, l_11, l_12, l_21, l_22, l_23, l_24, l_25, l_26, l_28, l_29, l_30, l_31, l_32, x_k2_0, xa2, x_k2_20, r_i, r_j, r_v, r_z1, r_z0, r_a, e222_894, e222_895, e222_896, e222_897, e222_898, e222_899, e222_900, e222_903, e222_904, e222_905, e222_906, e222_907, e222_908, e222_909, e222_912, e222_915, e222_916, c222, i10, i00, n2, n10, n20, n60, n8, n9, bi0, ite_not, List.replicate, Nat.reduceAdd, Nat.reduceSub, Nat.reduceLeDiff, Nat.reduceLT, if_true, if_false, mg, reduceIte, not_false_eq_true, eq_self, and_self, and_true, true_and, true_or, or_true, Nat.reduceEqDiff, nI_add, (rd90 (X := X) h1 hL), g1, g2, e_if]
theorem lw_24 {X : aX} {S : aS} {i : Nat} (hJ : J S) (hi : i + 6 ≤ X.1) (hL : X.1 ≤ 3072) : ∃ S', J S' ∧ go X 222 917 [some (aR (90, 0, 0)), some (aR (0, 0, 0)), some (aR (20, 0, 0)), some (aI (nI i))] [] (mem S) = go X 222 1322 [some (aR (90, 0, 0)), some (aR (0, 0, 0)), some (aR (20, 0, 0)), some (aI (nI i))] [] (mem S') := by
  have h1 : i + 1 < X.1 := by omega
  have h2 : i + 2 < X.1 := by omega
  have op : opK X 86 183 [aI (X.2 (i + 1)), aI (X.2 (i + 2))] S := o_feed hJ
  obtain ⟨v, S1, S2, g1, g2, g3⟩ := op
  obtain ⟨x, rfl⟩ := cl_I (pm86 X) (rt86 X) g1
  refine ⟨S2, g3, ?_⟩
  simp only [nl_n, nl_i, nl_r, x_ci, x_ca, x_bin, x_ife, x_ifl, x_ifg, x_cme, x_cml, x_cmg, x_go, x_no, x_b, x_ps, x_pn, cs_n, cs_i, cs_j, cs_r, en_n, en_i, en_j, en_r, xa1, xa0, xi3, l_3, l_5, l_8, l_11, l_12, l_21, l_22, l_23, l_24, l_25, l_26, l_28, l_29, l_30, l_31, l_32, x_k3_0, xa2, x_k3_20, r_i, r_j, r_v, r_z1, r_z0, r_a, e222_917, e222_918, e222_919, e222_920, e222_921, e222_922, e222_923, e222_924, e222_925, e222_926, e222_927, e222_928, e222_931, e222_932, e222_933, e222_934, e222_935, e222_936, e222_937, e222_938, e222_939, e222_940, e222_941, e222_942, e222_945, e222_948, e222_949, c222, i10, i00, n2, n10, n20, n60, n8, n9, bi0, ite_not, List.replicate, Nat.reduceAdd, Nat.reduceSub, Nat.reduceLeDiff, Nat.reduceLT, if_true, if_false, mg, reduceIte, not_false_eq_true, eq_self, and_self, and_true, true_and, true_or, or_true, Nat.reduceEqDiff, nI_add, (rd90 (X := X) h1 hL), (rd90 (X := X) h2 hL), g1, g2, e_if]
theorem lw_25 {X : aX} {S : aS} {i : Nat} (hJ : J S) (hi : i + 6 ≤ X.1) (hL : X.1 ≤ 3072) : ∃ S', J S' ∧ go X 222 950 [some (aR (90, 0, 0)), some (aR (0, 0, 0)), some (aR (20, 0, 0)), some (aI (nI i))] [] (mem S) = go X 222 1322 [some (aR (90, 0, 0)), some (aR (0, 0, 0)), some (aR (20, 0, 0)), some (aI (nI i))] [] (mem S') := by
  have op : opK X 87 184 [] S := o_wipe hJ
  obtain ⟨v, S1, S2, g1, g2, g3⟩ := op
  obtain ⟨x, rfl⟩ := cl_I (pm87 X) (rt87 X) g1
  refine ⟨S2, g3, ?_⟩
  simp only [nl_n, nl_i, nl_r, x_ci, x_ca, x_bin, x_ife, x_ifl, x_ifg, x_cme, x_cml, x_cmg, x_go, x_no, x_b, x_ps, x_pn, cs_n, cs_i, cs_j, cs_r, en_n, en_i, en_j, en_r, xa1, x_k1_0, xa2, x_k1_20, r_i, r_j, r_v, r_z1, r_z0, r_a, e222_950, e222_951, e222_954, e222_955, e222_958, e222_961, e222_962, c222, i10, i00, n2, n10, n20, n60, n8, n9, bi0, ite_not, List.replicate, Nat.reduceAdd, Nat.reduceSub, Nat.reduceLeDiff, Nat.reduceLT, if_true, if_false, mg, reduceIte, not_false_eq_true, eq_self, and_self, and_true, true_and, true_or, or_true, Nat.reduceEqDiff, nI_add, g1, g2, e_if]
theorem lw_26 {X : aX} {S : aS} {i : Nat} (hJ : J S) (hi : i + 6 ≤ X.1) (hL : X.1 ≤ 3072) : ∃ S', J S' ∧ go X 222 963 [some (aR (90, 0, 0)), some (aR (0, 0, 0)), some (aR (20, 0, 0)), some (aI (nI i))] [] (mem S) = go X 222 1322 [some (aR (90, 0, 0)), some (aR (0, 0, 0)), some (aR (20, 0, 0)), some (aI (nI i))] [] (mem S') := by
  have op : opK X 88 195 [] S := o_text hJ
  obtain ⟨v, S1, S2, g1, g2, g3⟩ := op
  obtain ⟨x, rfl⟩ := cl_I (pm88 X) (rt88 X) g1
  refine ⟨S2, g3, ?_⟩
  simp only [nl_n, nl_i, nl_r, x_ci, x_ca, x_bin, x_ife, x_ifl, x_ifg, x_cme, x_cml, x_cmg, x_go, x_no, x_b, x_ps, x_pn, cs_n, cs_i, cs_j, cs_r, en_n, en_i, en_j, en_r, xa1, x_k1_0, xa2, x_k1_20, r_i, r_j, r_v, r_z1, r_z0, r_a, e222_963, e222_964, e222_967, e222_968, e222_971, e222_974, e222_975, c222, i10, i00, n2, n10, n20, n60, n8, n9, bi0, ite_not, List.replicate, Nat.reduceAdd, Nat.reduceSub, Nat.reduceLeDiff, Nat.reduceLT, if_true, if_false, mg, reduceIte, not_false_eq_true, eq_self, and_self, and_true, true_and, true_or, or_true, Nat.reduceEqDiff, nI_add, g1, g2, e_if]
theorem lw_27 {X : aX} {S : aS} {i : Nat} (hJ : J S) (hi : i + 6 ≤ X.1) (hL : X.1 ≤ 3072) : ∃ S', J S' ∧ go X 222 976 [some (aR (90, 0, 0)), some (aR (0, 0, 0)), some (aR (20, 0, 0)), some (aI (nI i))] [] (mem S) = go X 222 1322 [some (aR (90, 0, 0)), some (aR (0, 0, 0)), some (aR (20, 0, 0)), some (aI (nI i))] [] (mem S') := by
  have h1 : i + 1 < X.1 := by omega
  have h2 : i + 2 < X.1 := by omega
  have op : opK X 89 197 [aI (X.2 (i + 1)), aI (X.2 (i + 2))] S := o_hold hJ
  obtain ⟨v, S1, S2, g1, g2, g3⟩ := op
  obtain ⟨x, rfl⟩ := cl_I (pm89 X) (rt89 X) g1
  refine ⟨S2, g3, ?_⟩
  simp only [nl_n, nl_i, nl_r, x_ci, x_ca, x_bin, x_ife, x_ifl, x_ifg, x_cme, x_cml, x_cmg, x_go, x_no, x_b, x_ps, x_pn, cs_n, cs_i, cs_j, cs_r, en_n, en_i, en_j, en_r, xa1, xa0, xi3, l_3, l_5, l_8, l_11, l_12, l_21, l_22, l_23, l_24, l_25, l_26, l_28, l_29, l_30, l_31, l_32, x_k3_0, xa2, x_k3_20, r_i, r_j, r_v, r_z1, r_z0, r_a, e222_976, e222_977, e222_978, e222_979, e222_980, e222_981, e222_982, e222_983, e222_984, e222_985, e222_986, e222_987, e222_990, e222_991, e222_992, e222_993, e222_994, e222_995, e222_996, e222_997, e222_998, e222_999, e222_1000, e222_1001, e222_1004, e222_1007, e222_1008, c222, i10, i00, n2, n10, n20, n60, n8, n9, bi0, ite_not, List.replicate, Nat.reduceAdd, Nat.reduceSub, Nat.reduceLeDiff, Nat.reduceLT, if_true, if_false, mg, reduceIte, not_false_eq_true, eq_self, and_self, and_true, true_and, true_or, or_true, Nat.reduceEqDiff, nI_add, (rd90 (X := X) h1 hL), (rd90 (X := X) h2 hL), g1, g2, e_if]
theorem lw_28 {X : aX} {S : aS} {i : Nat} (hJ : J S) (hi : i + 6 ≤ X.1) (hL : X.1 ≤ 3072) : ∃ S', J S' ∧ go X 222 1009 [some (aR (90, 0, 0)), some (aR (0, 0, 0)), some (aR (20, 0, 0)), some (aI (nI i))] [] (mem S) = go X 222 1322 [some (aR (90, 0, 0)), some (aR (0, 0, 0)), some (aR (20, 0, 0)), some (aI (nI i))] [] (mem S') := by
  have h1 : i + 1 < X.1 := by omega
  have h2 : i + 2 < X.1 := by omega
  have op : opK X 90 198 [aI (X.2 (i + 1)), aI (X.2 (i + 2))] S := o_as hJ
  obtain ⟨v, S1, S2, g1, g2, g3⟩ := op
  obtain ⟨x, rfl⟩ := cl_I (pm90 X) (rt90 X) g1
  refine ⟨S2, g3, ?_⟩
  simp only [nl_n, nl_i, nl_r, x_ci, x_ca, x_bin, x_ife, x_ifl, x_ifg, x_cme, x_cml, x_cmg, x_go, x_no, x_b, x_ps, x_pn, cs_n, cs_i, cs_j, cs_r, en_n, en_i, en_j, en_r, xa1, xa0, xi3, l_3, l_5, l_8, l_11, l_12, l_21, l_22, l_23, l_24, l_25, l_26, l_28, l_29, l_30, l_31, l_32, x_k3_0, xa2, x_k3_20, r_i, r_j, r_v, r_z1, r_z0, r_a, e222_1009, e222_1010, e222_1011, e222_1012, e222_1013, e222_1014, e222_1015, e222_1016, e222_1017, e222_1018, e222_1019, e222_1020, e222_1023, e222_1024, e222_1025, e222_1026, e222_1027, e222_1028, e222_1029, e222_1030, e222_1031, e222_1032, e222_1033, e222_1034, e222_1037, e222_1040, e222_1041, c222, i10, i00, n2, n10, n20, n60, n8, n9, bi0, ite_not, List.replicate, Nat.reduceAdd, Nat.reduceSub, Nat.reduceLeDiff, Nat.reduceLT, if_true, if_false, mg, reduceIte, not_false_eq_true, eq_self, and_self, and_true, true_and, true_or, or_true, Nat.reduceEqDiff, nI_add, (rd90 (X := X) h1 hL), (rd90 (X := X) h2 hL), g1, g2, e_if]
theorem lw_29 {X : aX} {S : aS} {i : Nat} (hJ : J S) (hi : i + 6 ≤ X.1) (hL : X.1 ≤ 3072) : ∃ S', J S' ∧ go X 222 1042 [some (aR (90, 0, 0)), some (aR (0, 0, 0)), some (aR (20, 0, 0)), some (aI (nI i))] [] (mem S) = go X 222 1322 [some (aR (90, 0, 0)), some (aR (0, 0, 0)), some (aR (20, 0, 0)), some (aI (nI i))] [] (mem S') := by
  have h1 : i + 1 < X.1 := by omega
  have h2 : i + 2 < X.1 := by omega
  have h3 : i + 3 < X.1 := by omega
  have op : opK X 91 201 [aI (X.2 (i + 1)), aI (X.2 (i + 2)), aI (X.2 (i + 3))] S := o_sheet hJ
  obtain ⟨v, S1, S2, g1, g2, g3⟩ := op
  obtain ⟨x, rfl⟩ := cl_I (pm91 X) (rt91 X) g1
  refine ⟨S2, g3, ?_⟩
  simp only [nl_n, nl_i, nl_r, x_ci, x_ca, x_bin, x_ife, x_ifl, x_ifg, x_cme, x_cml, x_cmg, x_go, x_no, x_b, x_ps, x_pn, cs_n, cs_i, cs_j, cs_r, en_n, en_i, en_j, en_r, xa1, xa0, xi3, l_3, l_5, l_8, l_11, l_12, l_21, l_22, l_23, l_24, l_25, l_26, l_28, l_29, l_30, l_31, l_32, x_k4_0, xa2, x_k4_20, r_i, r_j, r_v, r_z1, r_z0, r_a, e222_1042, e222_1043, e222_1044, e222_1045, e222_1046, e222_1047, e222_1048, e222_1049, e222_1050, e222_1051, e222_1052, e222_1053, e222_1054, e222_1055, e222_1056, e222_1057, e222_1058, e222_1061, e222_1062, e222_1063, e222_1064, e222_1065, e222_1066, e222_1067, e222_1068, e222_1069, e222_1070, e222_1071, e222_1072, e222_1073, e222_1074, e222_1075, e222_1076, e222_1077, e222_1080, e222_1083, e222_1084, c222, i10, i00, n2, n10, n20, n60, n8, n9, bi0, ite_not, List.replicate, Nat.reduceAdd, Nat.reduceSub, Nat.reduceLeDiff, Nat.reduceLT, if_true, if_false, mg, reduceIte, not_false_eq_true, eq_self, and_self, and_true, true_and, true_or, or_true, Nat.reduceEqDiff, nI_add, (rd90 (X := X) h1 hL), (rd90 (X := X) h2 hL), (rd90 (X := X) h3 hL), g1, g2, e_if]
theorem lw_30 {X : aX} {S : aS} {i : Nat} (hJ : J S) (hi : i + 6 ≤ X.1) (hL : X.1 ≤ 3072) : ∃ S', J S' ∧ go X 222 1085 [some (aR (90, 0, 0)), some (aR (0, 0, 0)), some (aR (20, 0, 0)), some (aI (nI i))] [] (mem S) = go X 222 1322 [some (aR (90, 0, 0)), some (aR (0, 0, 0)), some (aR (20, 0, 0)), some (aI (nI i))] [] (mem S') := by
  have h1 : i + 1 < X.1 := by omega
  have h2 : i + 2 < X.1 := by omega
  have h3 : i + 3 < X.1 := by omega
  have op : opK X 92 202 [aI (X.2 (i + 1)), aI (X.2 (i + 2)), aI (X.2 (i + 3))] S := o_write hJ
  obtain ⟨v, S1, S2, g1, g2, g3⟩ := op
  obtain ⟨x, rfl⟩ := cl_I (pm92 X) (rt92 X) g1
  refine ⟨S2, g3, ?_⟩
  simp only [nl_n, nl_i, nl_r, x_ci, x_ca, x_bin, x_ife, x_ifl, x_ifg, x_cme, x_cml, x_cmg, x_go, x_no, x_b, x_ps, x_pn, cs_n, cs_i, cs_j, cs_r, en_n, en_i, en_j, en_r, xa1, xa0, xi3, l_3, l_5, l_8, l_11, l_12, l_21, l_22, l_23, l_24, l_25, l_26, l_28, l_29, l_30, l_31, l_32, x_k4_0, xa2, x_k4_20, r_i, r_j, r_v, r_z1, r_z0, r_a, e222_1085, e222_1086, e222_1087, e222_1088, e222_1089, e222_1090, e222_1091, e222_1092, e222_1093, e222_1094, e222_1095, e222_1096, e222_1097, e222_1098, e222_1099, e222_1100, e222_1101, e222_1104, e222_1105, e222_1106, e222_1107, e222_1108, e222_1109, e222_1110, e222_1111, e222_1112, e222_1113, e222_1114, e222_1115, e222_1116, e222_1117, e222_1118, e222_1119, e222_1120, e222_1123, e222_1126, e222_1127, c222, i10, i00, n2, n10, n20, n60, n8, n9, bi0, ite_not, List.replicate, Nat.reduceAdd, Nat.reduceSub, Nat.reduceLeDiff, Nat.reduceLT, if_true, if_false, mg, reduceIte, not_false_eq_true, eq_self, and_self, and_true, true_and, true_or, or_true, Nat.reduceEqDiff, nI_add, (rd90 (X := X) h1 hL), (rd90 (X := X) h2 hL), (rd90 (X := X) h3 hL), g1, g2, e_if]
theorem lw_31 {X : aX} {S : aS} {i : Nat} (hJ : J S) (hi : i + 6 ≤ X.1) (hL : X.1 ≤ 3072) : ∃ S', J S' ∧ go X 222 1128 [some (aR (90, 0, 0)), some (aR (0, 0, 0)), some (aR (20, 0, 0)), some (aI (nI i))] [] (mem S) = go X 222 1322 [some (aR (90, 0, 0)), some (aR (0, 0, 0)), some (aR (20, 0, 0)), some (aI (nI i))] [] (mem S') := by
  have h1 : i + 1 < X.1 := by omega
  have h2 : i + 2 < X.1 := by omega
  have h3 : i + 3 < X.1 := by omega
  have h4 : i + 4 < X.1 := by omega
  have h5 : i + 5 < X.1 := by omega
  have op : opK X 93 203 [aI (X.2 (i + 1)), aI (X.2 (i + 2)), aI (X.2 (i + 3)), aI (X.2 (i + 4)), aI (X.2 (i + 5))] S := o_copy hJ
  obtain ⟨v, S1, S2, g1, g2, g3⟩ := op
  obtain ⟨x, rfl⟩ := cl_I (pm93 X) (rt93 X) g1
  refine ⟨S2, g3, ?_⟩
  simp only [nl_n, nl_i, nl_r, x_ci, x_ca, x_bin, x_ife, x_ifl, x_ifg, x_cme, x_cml, x_cmg, x_go, x_no, x_b, x_ps, x_pn, cs_n, cs_i, cs_j, cs_r, en_n, en_i, en_j, en_r, xa1, xa0, xi3, l_3, l_5, l_8, l_11, l_12, l_21, l_22, l_23, l_24, l_25, l_26, l_28, l_29, l_30, l_31, l_32, x_k6_0, xa2, x_k6_20, r_i, r_j, r_v, r_z1, r_z0, r_a, e222_1128, e222_1129, e222_1130, e222_1131, e222_1132, e222_1133, e222_1134, e222_1135, e222_1136, e222_1137, e222_1138, e222_1139, e222_1140, e222_1141, e222_1142, e222_1143, e222_1144, e222_1145, e222_1146, e222_1147, e222_1148, e222_1149, e222_1150, e222_1151, e222_1152, e222_1153, e222_1154, e222_1157, e222_1158, e222_1159, e222_1160, e222_1161, e222_1162, e222_1163, e222_1164, e222_1165, e222_1166, e222_1167, e222_1168, e222_1169, e222_1170, e222_1171, e222_1172, e222_1173, e222_1174, e222_1175, e222_1176, e222_1177, e222_1178, e222_1179, e222_1180, e222_1181, e222_1182, e222_1183, e222_1186, e222_1189, e222_1190, c222, i10, i00, n2, n10, n20, n60, n8, n9, bi0, ite_not, List.replicate, Nat.reduceAdd, Nat.reduceSub, Nat.reduceLeDiff, Nat.reduceLT, if_true, if_false, mg, reduceIte, not_false_eq_true, eq_self, and_self, and_true, true_and, true_or, or_true, Nat.reduceEqDiff, nI_add, (rd90 (X := X) h1 hL), (rd90 (X := X) h2 hL), (rd90 (X := X) h3 hL), (rd90 (X := X) h4 hL), (rd90 (X := X) h5 hL), g1, g2, e_if]
theorem lw_32 {X : aX} {S : aS} {i : Nat} (hJ : J S) (hi : i + 6 ≤ X.1) (hL : X.1 ≤ 3072) : ∃ S', J S' ∧ go X 222 1191 [some (aR (90, 0, 0)), some (aR (0, 0, 0)), some (aR (20, 0, 0)), some (aI (nI i))] [] (mem S) = go X 222 1322 [some (aR (90, 0, 0)), some (aR (0, 0, 0)), some (aR (20, 0, 0)), some (aI (nI i))] [] (mem S') := by
  have h1 : i + 1 < X.1 := by omega
  have op : opK X 94 206 [aI (X.2 (i + 1))] S := o_load hJ
  obtain ⟨v, S1, S2, g1, g2, g3⟩ := op
  obtain ⟨x, rfl⟩ := cl_I (pm94 X) (rt94 X) g1
  refine ⟨S2, g3, ?_⟩
  simp only [nl_n, nl_i, nl_r, x_ci, x_ca, x_bin, x_ife, x_ifl, x_ifg, x_cme, x_cml, x_cmg, x_go, x_no, x_b, x_ps, x_pn, cs_n, cs_i, cs_j, cs_r, en_n, en_i, en_j, en_r, xa1, xa0, xi3, l_3, l_5, l_8, l_11, l_12, l_21, l_22, l_23, l_24, l_25, l_26, l_28, l_29, l_30, l_31, l_32, x_k2_0, xa2, x_k2_20, r_i, r_j, r_v, r_z1, r_z0, r_a, e222_1191, e222_1192, e222_1193, e222_1194, e222_1195, e222_1196, e222_1197, e222_1200, e222_1201, e222_1202, e222_1203, e222_1204, e222_1205, e222_1206, e222_1209, e222_1212, e222_1213, c222, i10, i00, n2, n10, n20, n60, n8, n9, bi0, ite_not, List.replicate, Nat.reduceAdd, Nat.reduceSub, Nat.reduceLeDiff, Nat.reduceLT, if_true, if_false, mg, reduceIte, not_false_eq_true, eq_self, and_self, and_true, true_and, true_or, or_true, Nat.reduceEqDiff, nI_add, (rd90 (X := X) h1 hL), g1, g2, e_if]
theorem lw_33 {X : aX} {S : aS} {i : Nat} (hJ : J S) (hi : i + 6 ≤ X.1) (hL : X.1 ≤ 3072) : ∃ S', J S' ∧ go X 222 1214 [some (aR (90, 0, 0)), some (aR (0, 0, 0)), some (aR (20, 0, 0)), some (aI (nI i))] [] (mem S) = go X 222 1322 [some (aR (90, 0, 0)), some (aR (0, 0, 0)), some (aR (20, 0, 0)), some (aI (nI i))] [] (mem S') := by
  have h1 : i + 1 < X.1 := by omega
  have op : opK X 95 207 [aI (X.2 (i + 1))] S := o_judge hJ
  obtain ⟨v, S1, S2, g1, g2, g3⟩ := op
  obtain ⟨x, rfl⟩ := cl_I (pm95 X) (rt95 X) g1
  refine ⟨S2, g3, ?_⟩
  simp only [nl_n, nl_i, nl_r, x_ci, x_ca, x_bin, x_ife, x_ifl, x_ifg, x_cme, x_cml, x_cmg, x_go, x_no, x_b, x_ps, x_pn, cs_n, cs_i, cs_j, cs_r, en_n, en_i, en_j, en_r, xa1, xa0, xi3, l_3, l_5, l_8, l_11, l_12, l_21, l_22, l_23, l_24, l_25, l_26, l_28, l_29, l_30, l_31, l_32, x_k2_0, xa2, x_k2_20, r_i, r_j, r_v, r_z1, r_z0, r_a, e222_1214, e222_1215, e222_1216, e222_1217, e222_1218, e222_1219, e222_1220, e222_1223, e222_1224, e222_1225, e222_1226, e222_1227, e222_1228, e222_1229, e222_1232, e222_1235, e222_1236, c222, i10, i00, n2, n10, n20, n60, n8, n9, bi0, ite_not, List.replicate, Nat.reduceAdd, Nat.reduceSub, Nat.reduceLeDiff, Nat.reduceLT, if_true, if_false, mg, reduceIte, not_false_eq_true, eq_self, and_self, and_true, true_and, true_or, or_true, Nat.reduceEqDiff, nI_add, (rd90 (X := X) h1 hL), g1, g2, e_if]
theorem lw_34 {X : aX} {S : aS} {i : Nat} (hJ : J S) (hi : i + 6 ≤ X.1) (hL : X.1 ≤ 3072) : ∃ S', J S' ∧ go X 222 1237 [some (aR (90, 0, 0)), some (aR (0, 0, 0)), some (aR (20, 0, 0)), some (aI (nI i))] [] (mem S) = go X 222 1322 [some (aR (90, 0, 0)), some (aR (0, 0, 0)), some (aR (20, 0, 0)), some (aI (nI i))] [] (mem S') := by
  have op : opK X 96 208 [] S := o_image hJ
  obtain ⟨v, S1, S2, g1, g2, g3⟩ := op
  obtain ⟨x, rfl⟩ := cl_I (pm96 X) (rt96 X) g1
  refine ⟨S2, g3, ?_⟩
  simp only [nl_n, nl_i, nl_r, x_ci, x_ca, x_bin, x_ife, x_ifl, x_ifg, x_cme, x_cml, x_cmg, x_go, x_no, x_b, x_ps, x_pn, cs_n, cs_i, cs_j, cs_r, en_n, en_i, en_j, en_r, xa1, x_k1_0, xa2, x_k1_20, r_i, r_j, r_v, r_z1, r_z0, r_a, e222_1237, e222_1238, e222_1241, e222_1242, e222_1245, e222_1248, e222_1249, c222, i10, i00, n2, n10, n20, n60, n8, n9, bi0, ite_not, List.replicate, Nat.reduceAdd, Nat.reduceSub, Nat.reduceLeDiff, Nat.reduceLT, if_true, if_false, mg, reduceIte, not_false_eq_true, eq_self, and_self, and_true, true_and, true_or, or_true, Nat.reduceEqDiff, nI_add, g1, g2, e_if]
theorem lw_35 {X : aX} {S : aS} {i : Nat} (hJ : J S) (hi : i + 6 ≤ X.1) (hL : X.1 ≤ 3072) : ∃ S', J S' ∧ go X 222 1250 [some (aR (90, 0, 0)), some (aR (0, 0, 0)), some (aR (20, 0, 0)), some (aI (nI i))] [] (mem S) = go X 222 1322 [some (aR (90, 0, 0)), some (aR (0, 0, 0)), some (aR (20, 0, 0)), some (aI (nI i))] [] (mem S') := by
  have op : opK X 97 209 [] S := o_undo hJ
  obtain ⟨v, S1, S2, g1, g2, g3⟩ := op
  obtain ⟨x, rfl⟩ := cl_I (pm97 X) (rt97 X) g1
  refine ⟨S2, g3, ?_⟩
  simp only [nl_n, nl_i, nl_r, x_ci, x_ca, x_bin, x_ife, x_ifl, x_ifg, x_cme, x_cml, x_cmg, x_go, x_no, x_b, x_ps, x_pn, cs_n, cs_i, cs_j, cs_r, en_n, en_i, en_j, en_r, xa1, x_k1_0, xa2, x_k1_20, r_i, r_j, r_v, r_z1, r_z0, r_a, e222_1250, e222_1251, e222_1254, e222_1255, e222_1258, e222_1261, e222_1262, c222, i10, i00, n2, n10, n20, n60, n8, n9, bi0, ite_not, List.replicate, Nat.reduceAdd, Nat.reduceSub, Nat.reduceLeDiff, Nat.reduceLT, if_true, if_false, mg, reduceIte, not_false_eq_true, eq_self, and_self, and_true, true_and, true_or, or_true, Nat.reduceEqDiff, nI_add, g1, g2, e_if]
theorem lw_36 {X : aX} {S : aS} {i : Nat} (hJ : J S) (hi : i + 6 ≤ X.1) (hL : X.1 ≤ 3072) : ∃ S', J S' ∧ go X 222 1263 [some (aR (90, 0, 0)), some (aR (0, 0, 0)), some (aR (20, 0, 0)), some (aI (nI i))] [] (mem S) = go X 222 1322 [some (aR (90, 0, 0)), some (aR (0, 0, 0)), some (aR (20, 0, 0)), some (aI (nI i))] [] (mem S') := by
  have op : opK X 98 210 [] S := o_tear hJ
  obtain ⟨v, S1, S2, g1, g2, g3⟩ := op
  obtain ⟨x, rfl⟩ := cl_I (pm98 X) (rt98 X) g1
  refine ⟨S2, g3, ?_⟩
  simp only [nl_n, nl_i, nl_r, x_ci, x_ca, x_bin, x_ife, x_ifl, x_ifg, x_cme, x_cml, x_cmg, x_go, x_no, x_b, x_ps, x_pn, cs_n, cs_i, cs_j, cs_r, en_n, en_i, en_j, en_r, xa1, x_k1_0, xa2, x_k1_20, r_i, r_j, r_v, r_z1, r_z0, r_a, e222_1263, e222_1264, e222_1267, e222_1268, e222_1271, e222_1274, e222_1275, c222, i10, i00, n2, n10, n20, n60, n8, n9, bi0, ite_not, List.replicate, Nat.reduceAdd, Nat.reduceSub, Nat.reduceLeDiff, Nat.reduceLT, if_true, if_false, mg, reduceIte, not_false_eq_true, eq_self, and_self, and_true, true_and, true_or, or_true, Nat.reduceEqDiff, nI_add, g1, g2, e_if]
theorem lw_37 {X : aX} {S : aS} {i : Nat} (hJ : J S) (hi : i + 6 ≤ X.1) (hL : X.1 ≤ 3072) : ∃ S', J S' ∧ go X 222 1276 [some (aR (90, 0, 0)), some (aR (0, 0, 0)), some (aR (20, 0, 0)), some (aI (nI i))] [] (mem S) = go X 222 1322 [some (aR (90, 0, 0)), some (aR (0, 0, 0)), some (aR (20, 0, 0)), some (aI (nI i))] [] (mem S') := by
  have h1 : i + 1 < X.1 := by omega
  have op : opK X 99 211 [aI (X.2 (i + 1))] S := o_count hJ
  obtain ⟨v, S1, S2, g1, g2, g3⟩ := op
  obtain ⟨x, rfl⟩ := cl_I (pm99 X) (rt99 X) g1
  refine ⟨S2, g3, ?_⟩
  simp only [nl_n, nl_i, nl_r, x_ci, x_ca, x_bin, x_ife, x_ifl, x_ifg, x_cme, x_cml, x_cmg, x_go, x_no, x_b, x_ps, x_pn, cs_n, cs_i, cs_j, cs_r, en_n, en_i, en_j, en_r, xa1, xa0, xi3, l_3, l_5, l_8, l_11, l_12, l_21, l_22, l_23, l_24, l_25, l_26, l_28, l_29, l_30, l_31, l_32, x_k2_0, xa2, x_k2_20, r_i, r_j, r_v, r_z1, r_z0, r_a, e222_1276, e222_1277, e222_1278, e222_1279, e222_1280, e222_1281, e222_1282, e222_1285, e222_1286, e222_1287, e222_1288, e222_1289, e222_1290, e222_1291, e222_1294, e222_1297, e222_1298, c222, i10, i00, n2, n10, n20, n60, n8, n9, bi0, ite_not, List.replicate, Nat.reduceAdd, Nat.reduceSub, Nat.reduceLeDiff, Nat.reduceLT, if_true, if_false, mg, reduceIte, not_false_eq_true, eq_self, and_self, and_true, true_and, true_or, or_true, Nat.reduceEqDiff, nI_add, (rd90 (X := X) h1 hL), g1, g2, e_if]
theorem lw_38 {X : aX} {S : aS} {i : Nat} (hJ : J S) (hi : i + 6 ≤ X.1) (hL : X.1 ≤ 3072) : ∃ S', J S' ∧ go X 222 1299 [some (aR (90, 0, 0)), some (aR (0, 0, 0)), some (aR (20, 0, 0)), some (aI (nI i))] [] (mem S) = go X 222 1322 [some (aR (90, 0, 0)), some (aR (0, 0, 0)), some (aR (20, 0, 0)), some (aI (nI i))] [] (mem S') := by
  have h1 : i + 1 < X.1 := by omega
  have op : opK X 100 212 [aI (X.2 (i + 1))] S := o_status hJ
  obtain ⟨v, S1, S2, g1, g2, g3⟩ := op
  obtain ⟨x, rfl⟩ := cl_I (pm100 X) (rt100 X) g1
  refine ⟨S2, g3, ?_⟩
  simp only [nl_n, nl_i, nl_r, x_ci, x_ca, x_bin, x_ife, x_ifl, x_ifg, x_cme, x_cml, x_cmg, x_go, x_no, x_b, x_ps, x_pn, cs_n, cs_i, cs_j, cs_r, en_n, en_i, en_j, en_r, xa1, xa0, xi3, l_3, l_5, l_8, l_11, l_12, l_21, l_22, l_23, l_24, l_25, l_26, l_28, l_29, l_30, l_31, l_32, x_k2_0, xa2, x_k2_20, r_i, r_j, r_v, r_z1, r_z0, r_a, e222_1299, e222_1300, e222_1301, e222_1302, e222_1303, e222_1304, e222_1305, e222_1308, e222_1309, e222_1310, e222_1311, e222_1312, e222_1313, e222_1314, e222_1317, e222_1320, e222_1321, c222, i10, i00, n2, n10, n20, n60, n8, n9, bi0, ite_not, List.replicate, Nat.reduceAdd, Nat.reduceSub, Nat.reduceLeDiff, Nat.reduceLT, if_true, if_false, mg, reduceIte, not_false_eq_true, eq_self, and_self, and_true, true_and, true_or, or_true, Nat.reduceEqDiff, nI_add, (rd90 (X := X) h1 hL), g1, g2, e_if]
theorem lw_all {X : aX} {S : aS} {i k : Nat} (hk : k < 39) (hJ : J S) (hi : i + 6 ≤ X.1) (hL : X.1 ≤ 3072) : ∃ S', J S' ∧ go X 222 33 [some (aR (90, 0, 0)), some (aR (0, 0, 0)), some (aR (20, 0, 0)), some (aI (nI i))] [aI (nI k)] (mem S) = go X 222 1322 [some (aR (90, 0, 0)), some (aR (0, 0, 0)), some (aR (20, 0, 0)), some (aI (nI i))] [] (mem S') := by
  have e33 : ∀ v, go X 222 33 [some (aR (90, 0, 0)), some (aR (0, 0, 0)), some (aR (20, 0, 0)), some (aI (nI i))] [aI v] (mem S) = go X 222 (swt [(nI 0, 204), (nI 1, 237), (nI 2, 270), (nI 3, 313), (nI 4, 336), (nI 5, 359), (nI 6, 382), (nI 7, 405), (nI 8, 448), (nI 9, 471), (nI 10, 504), (nI 11, 527), (nI 12, 560), (nI 13, 593), (nI 14, 626), (nI 15, 659), (nI 16, 692), (nI 17, 715), (nI 18, 738), (nI 19, 771), (nI 20, 804), (nI 21, 837), (nI 22, 860), (nI 23, 894), (nI 24, 917), (nI 25, 950), (nI 26, 963), (nI 27, 976), (nI 28, 1009), (nI 29, 1042), (nI 30, 1085), (nI 31, 1128), (nI 32, 1191), (nI 33, 1214), (nI 34, 1237), (nI 35, 1250), (nI 36, 1263), (nI 37, 1276), (nI 38, 1299)] 1322 v) [some (aR (90, 0, 0)), some (aR (0, 0, 0)), some (aR (20, 0, 0)), some (aI (nI i))] [] (mem S) := fun v => e222_33 X _ _ _
  rw [e33]
  rcases (show k = 0 ∨ k = 1 ∨ k = 2 ∨ k = 3 ∨ k = 4 ∨ k = 5 ∨ k = 6 ∨ k = 7 ∨ k = 8 ∨ k = 9 ∨ k = 10 ∨ k = 11 ∨ k = 12 ∨ k = 13 ∨ k = 14 ∨ k = 15 ∨ k = 16 ∨ k = 17 ∨ k = 18 ∨ k = 19 ∨ k = 20 ∨ k = 21 ∨ k = 22 ∨ k = 23 ∨ k = 24 ∨ k = 25 ∨ k = 26 ∨ k = 27 ∨ k = 28 ∨ k = 29 ∨ k = 30 ∨ k = 31 ∨ k = 32 ∨ k = 33 ∨ k = 34 ∨ k = 35 ∨ k = 36 ∨ k = 37 ∨ k = 38 by omega) with rfl | rfl | rfl | rfl | rfl | rfl | rfl | rfl | rfl | rfl | rfl | rfl | rfl | rfl | rfl | rfl | rfl | rfl | rfl | rfl | rfl | rfl | rfl | rfl | rfl | rfl | rfl | rfl | rfl | rfl | rfl | rfl | rfl | rfl | rfl | rfl | rfl | rfl | rfl
  · exact lw_0 hJ hi hL
  · exact lw_1 hJ hi hL
  · exact lw_2 hJ hi hL
  · exact lw_3 hJ hi hL
  · exact lw_4 hJ hi hL
  · exact lw_5 hJ hi hL
  · exact lw_6 hJ hi hL
  · exact lw_7 hJ hi hL
  · exact lw_8 hJ hi hL
  · exact lw_9 hJ hi hL
  · exact lw_10 hJ hi hL
  · exact lw_11 hJ hi hL
  · exact lw_12 hJ hi hL
  · exact lw_13 hJ hi hL
  · exact lw_14 hJ hi hL
  · exact lw_15 hJ hi hL
  · exact lw_16 hJ hi hL
  · exact lw_17 hJ hi hL
  · exact lw_18 hJ hi hL
  · exact lw_19 hJ hi hL
  · exact lw_20 hJ hi hL
  · exact lw_21 hJ hi hL
  · exact lw_22 hJ hi hL
  · exact lw_23 hJ hi hL
  · exact lw_24 hJ hi hL
  · exact lw_25 hJ hi hL
  · exact lw_26 hJ hi hL
  · exact lw_27 hJ hi hL
  · exact lw_28 hJ hi hL
  · exact lw_29 hJ hi hL
  · exact lw_30 hJ hi hL
  · exact lw_31 hJ hi hL
  · exact lw_32 hJ hi hL
  · exact lw_33 hJ hi hL
  · exact lw_34 hJ hi hL
  · exact lw_35 hJ hi hL
  · exact lw_36 hJ hi hL
  · exact lw_37 hJ hi hL
  · exact lw_38 hJ hi hL
theorem sw_no {v : Int32} (h : ∀ k, k < 39 → ¬ v = nI k) : swt [(nI 0, 204), (nI 1, 237), (nI 2, 270), (nI 3, 313), (nI 4, 336), (nI 5, 359), (nI 6, 382), (nI 7, 405), (nI 8, 448), (nI 9, 471), (nI 10, 504), (nI 11, 527), (nI 12, 560), (nI 13, 593), (nI 14, 626), (nI 15, 659), (nI 16, 692), (nI 17, 715), (nI 18, 738), (nI 19, 771), (nI 20, 804), (nI 21, 837), (nI 22, 860), (nI 23, 894), (nI 24, 917), (nI 25, 950), (nI 26, 963), (nI 27, 976), (nI 28, 1009), (nI 29, 1042), (nI 30, 1085), (nI 31, 1128), (nI 32, 1191), (nI 33, 1214), (nI 34, 1237), (nI 35, 1250), (nI 36, 1263), (nI 37, 1276), (nI 38, 1299)] 1322 v = 1322 := by
  unfold swt
  (iterate 39 (rw [if_neg (h _ (by decide))]; try unfold swt))
  rfl

theorem law_lt {n i : Nat} (hn : n < i + 6) (hi : i ≤ 3078) (h : n ≤ 3072) : nI n - nI 6 < nI i := by
  by_cases w : 6 ≤ n
  · rw [nI_subN w]
    exact nI_lt (by omega) (by omega)
  · have key : ∀ n, n < 6 → (nI n - nI 6).toInt < 0 := by decide +kernel
    rw [Int32.lt_iff_toInt_lt, nI_toInt (by omega)]
    have := key n (by omega)
    omega
theorem law_nlt {n i : Nat} (hn : i + 6 ≤ n) (hi : i ≤ 3078) (h : n ≤ 3072) : ¬ nI n - nI 6 < nI i := by
  rw [nI_subN (by omega)]
  exact nI_nlt (by omega) (by omega)
theorem l_law {X : aX} (hL : X.1 ≤ 3072) : ∀ k i S, J S → i ≤ 3078 → X.1 < i + 6 * k + 6 → ∃ M', go X 222 18 [some (aR (90, 0, 0)), some (aR (0, 0, 0)), some (aR (20, 0, 0)), some (aI (nI i))] [] (mem S) = some (some (aI (nI 1)), M') := by
  intro k
  induction k with
  | zero =>
    intro i S hJ hi hk
    refine ⟨mem S, ?_⟩
    have lt : nI X.1 - nI 6 < nI i := law_lt (by omega) hi (by omega)
    rw [e222_18]
    simp only [nl_n, nl_i, nl_r, x_ci, x_ca, x_bin, x_ife, x_ifl, x_ifg, x_cme, x_cml, x_cmg, x_go, x_no, x_b, x_ps, x_pn, cs_n, cs_i, cs_j, cs_r, en_n, en_i, en_j, en_r, xi3, xa0, n_l2, n_l3, n_l5, n_l8, n_l9, n_l11, n_l12, n_l21, n_l22, n_l23, n_l24, n_l25, n_l26, n_l27, n_l28, n_l29, n_l30, n_l31, n_l32, r_i, r_j, r_v, r_z1, r_z0, r_a, e222_19, e222_20, e222_21, e222_23, e222_24, e222_1328, e222_1329, c222, i10, i00, n2, n10, n20, n60, n8, n9, bi0, ite_not, List.replicate, Nat.reduceAdd, Nat.reduceSub, Nat.reduceLeDiff, Nat.reduceLT, if_true, if_false, mg, reduceIte, not_false_eq_true, eq_self, and_self, and_true, true_and, true_or, or_true, Nat.reduceEqDiff, n_90, lt]
  | succ k ih =>
    intro i S hJ hi hk
    by_cases cx : X.1 < i + 6
    · refine ⟨mem S, ?_⟩
      have lt : nI X.1 - nI 6 < nI i := law_lt (by omega) hi (by omega)
      rw [e222_18]
      simp only [nl_n, nl_i, nl_r, x_ci, x_ca, x_bin, x_ife, x_ifl, x_ifg, x_cme, x_cml, x_cmg, x_go, x_no, x_b, x_ps, x_pn, cs_n, cs_i, cs_j, cs_r, en_n, en_i, en_j, en_r, xi3, xa0, n_l2, n_l3, n_l5, n_l8, n_l9, n_l11, n_l12, n_l21, n_l22, n_l23, n_l24, n_l25, n_l26, n_l27, n_l28, n_l29, n_l30, n_l31, n_l32, r_i, r_j, r_v, r_z1, r_z0, r_a, e222_19, e222_20, e222_21, e222_23, e222_24, e222_1328, e222_1329, c222, i10, i00, n2, n10, n20, n60, n8, n9, bi0, ite_not, List.replicate, Nat.reduceAdd, Nat.reduceSub, Nat.reduceLeDiff, Nat.reduceLT, if_true, if_false, mg, reduceIte, not_false_eq_true, eq_self, and_self, and_true, true_and, true_or, or_true, Nat.reduceEqDiff, n_90, lt]
    · have nl' : ¬ nI X.1 - nI 6 < nI i := law_nlt (by omega) hi (by omega)
      have hr : i < X.1 := by omega
      have st : go X 222 18 [some (aR (90, 0, 0)), some (aR (0, 0, 0)), some (aR (20, 0, 0)), some (aI (nI i))] [] (mem S) = go X 222 33 [some (aR (90, 0, 0)), some (aR (0, 0, 0)), some (aR (20, 0, 0)), some (aI (nI i))] [aI (X.2 i &&& nI 63)] (mem S) := by
        rw [e222_18]
        simp only [nl_n, nl_i, nl_r, x_ci, x_ca, x_bin, x_ife, x_ifl, x_ifg, x_cme, x_cml, x_cmg, x_go, x_no, x_b, x_ps, x_pn, cs_n, cs_i, cs_j, cs_r, en_n, en_i, en_j, en_r, xi3, xa0, n_l2, n_l3, n_l5, n_l8, n_l9, n_l11, n_l12, n_l21, n_l22, n_l23, n_l24, n_l25, n_l26, n_l27, n_l28, n_l29, n_l30, n_l31, n_l32, l_3, l_5, l_8, l_11, l_12, l_21, l_22, l_23, l_24, l_25, l_26, l_28, l_29, l_30, l_31, l_32, e222_19, e222_20, e222_21, e222_23, e222_24, e222_27, e222_28, e222_29, e222_30, e222_32, c222, i10, i00, n2, n10, n20, n60, n8, n9, bi0, ite_not, List.replicate, Nat.reduceAdd, Nat.reduceSub, Nat.reduceLeDiff, Nat.reduceLT, if_true, if_false, mg, reduceIte, not_false_eq_true, eq_self, and_self, and_true, true_and, true_or, or_true, Nat.reduceEqDiff, n_90, nl', (rd90 (X := X) hr hL)]
      have nxt : ∀ S', J S' → ∃ M', go X 222 1322 [some (aR (90, 0, 0)), some (aR (0, 0, 0)), some (aR (20, 0, 0)), some (aI (nI i))] [] (mem S') = some (some (aI (nI 1)), M') := by
        intro S' hJ'
        obtain ⟨M', h⟩ := ih (i + 6) S' hJ' (by omega) (by omega)
        refine ⟨M', ?_⟩
        rw [← h, e222_1322]
        simp only [nl_n, nl_i, nl_r, x_ci, x_ca, x_bin, x_ife, x_ifl, x_ifg, x_cme, x_cml, x_cmg, x_go, x_no, x_b, x_ps, x_pn, cs_n, cs_i, cs_j, cs_r, en_n, en_i, en_j, en_r, xn3n, xn3i, xn3r, e222_1325, c222, i10, i00, n2, n10, n20, n60, n8, n9, bi0, ite_not, List.replicate, Nat.reduceAdd, Nat.reduceSub, Nat.reduceLeDiff, Nat.reduceLT, if_true, if_false, mg, reduceIte, not_false_eq_true, eq_self, and_self, and_true, true_and, true_or, or_true, Nat.reduceEqDiff, nI_add]
      by_cases cy : ∃ k, k < 39 ∧ X.2 i &&& nI 63 = nI k
      · obtain ⟨c, hc, e⟩ := cy
        obtain ⟨S', hJ', h⟩ := lw_all (i := i) hc hJ (by omega) hL
        obtain ⟨M', h2⟩ := nxt S' hJ'
        exact ⟨M', by rw [st, e, h, h2]⟩
      · obtain ⟨M', h2⟩ := nxt S hJ
        refine ⟨M', ?_⟩
        have e33 : ∀ v, go X 222 33 [some (aR (90, 0, 0)), some (aR (0, 0, 0)), some (aR (20, 0, 0)), some (aI (nI i))] [aI v] (mem S) = go X 222 (swt [(nI 0, 204), (nI 1, 237), (nI 2, 270), (nI 3, 313), (nI 4, 336), (nI 5, 359), (nI 6, 382), (nI 7, 405), (nI 8, 448), (nI 9, 471), (nI 10, 504), (nI 11, 527), (nI 12, 560), (nI 13, 593), (nI 14, 626), (nI 15, 659), (nI 16, 692), (nI 17, 715), (nI 18, 738), (nI 19, 771), (nI 20, 804), (nI 21, 837), (nI 22, 860), (nI 23, 894), (nI 24, 917), (nI 25, 950), (nI 26, 963), (nI 27, 976), (nI 28, 1009), (nI 29, 1042), (nI 30, 1085), (nI 31, 1128), (nI 32, 1191), (nI 33, 1214), (nI 34, 1237), (nI 35, 1250), (nI 36, 1263), (nI 37, 1276), (nI 38, 1299)] 1322 v) [some (aR (90, 0, 0)), some (aR (0, 0, 0)), some (aR (20, 0, 0)), some (aI (nI i))] [] (mem S) := fun v => e222_33 X _ _ _
        rw [st, e33, sw_no (fun k hk z => cy ⟨k, hk, z⟩), h2]
