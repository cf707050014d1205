/-! HOW ALL CELLS ARE MADE -/
def r0R : Nat → Int32 := fun p => if p = 2 then nI 1 else if 4 ≤ p ∧ p < 14 then -1 else nI 0
def S0 : aS := (fun a => if a ≤ 3 then r0R else fun _ => nI 0, fun _ _ => nI 0)
def g0 : aL → Nat → aV := memv S0
def cu (h : aL → Nat → aV) (c : aL) (F : Nat → aV) : aL → Nat → aV := fun r => if r = c then F else h r
def fup (F : Nat → aV) (k : Nat) (v : aV) : Nat → aV := fun k' => if k' = k then v else F k'
theorem cu_at {h : aL → Nat → aV} {c : aL} {F : Nat → aV} : cu h c F c = F := if_pos rfl
theorem cu_ne {h : aL → Nat → aV} {c c' : aL} {F : Nat → aV} (e : c' ≠ c) : cu h c F c' = h c' := if_neg e
theorem cu_id {h : aL → Nat → aV} {c : aL} {F : Nat → aV} (e : F = h c) : cu h c F = h := by
  funext r
  unfold cu
  split
  · rename_i w; rw [w, e]
  · rfl
theorem cu_cu {h : aL → Nat → aV} {c : aL} {F F' : Nat → aV} : cu (cu h c F) c F' = cu h c F' := by
  funext r
  unfold cu
  split <;> rfl
theorem cu_sw {h : aL → Nat → aV} {c c' : aL} {F F' : Nat → aV} (e : c ≠ c') : cu (cu h c F) c' F' = cu (cu h c' F') c F := by
  funext r
  unfold cu
  by_cases w : r = c
  · rw [if_neg (fun z => e (w.symm.trans z)), if_pos w, if_pos w]
  · rw [if_neg w, if_neg w]
theorem alc_cu (i : Nat) (h : aL → Nat → aV) : alc (i, h) = (i + 1, cu h (nm i) (dfl (nm i))) := by
  unfold alc cu
  congr 1
  funext r k
  dsimp only
  by_cases w : r = nm i
  · rw [if_pos w, if_pos w, w]
  · rw [if_neg w, if_neg w]
theorem wr_cu (i : Nat) (h : aL → Nat → aV) (c : aL) (k : Nat) (v : aV) : wr (i, h) c k v = (i, cu h c (fup (h c) k v)) := by
  unfold wr cu fup
  congr 1
  funext r k'
  dsimp only
  by_cases w : r = c
  · subst w
    rw [if_pos rfl]
    by_cases w2 : k' = k
    · rw [if_pos ⟨rfl, w2⟩, if_pos w2]
    · rw [if_neg (fun z => w2 z.2), if_neg w2]
  · rw [if_neg (fun z => w z.1), if_neg w]
def okC (i : Nat) (r : aL) : Prop := r.1 < 80 ∧ nm (idx r) = r ∧ idx r < i
theorem mkC {i j : Nat} {r : aL} (h1 : r.1 < 80) (h2 : nm j = r) (h3 : idx r = j) (h4 : j < i) : okC i r := ⟨h1, by rw [h3, h2], by omega⟩
theorem okC_v {i : Nat} {r : aL} {h : aL → Nat → aV} (o : okC i r) : vld (i, h) r = true := by
  unfold vld
  simp [o.2.1, o.2.2]
theorem okC_g {i c : Nat} {r : aL} {h : aL → Nat → aV} (o : okC i r) (hs : shp r = (0, c)) : gok (i, h) r c = true := by
  unfold gok
  rw [okC_v o]
  simp [o.1, hs]
theorem q_new {X : aX} {m nx c i : Nat} {la : aLs} {st : List aV} {h : aL → Nat → aV} {r : aL} (hr : nm i = r) (hs : shp r = (0, c)) : kC X m (i_new c nx la st (i, h)) = go X m nx la (aR r :: st) (i + 1, cu h r (dfl r)) := by
  unfold i_new
  dsimp only
  rw [if_pos (by rw [hr, hs]), alc_cu, hr]
  rfl
theorem q_nwa {X : aX} {m nx n i : Nat} {la : aLs} {st : List aV} {h : aL → Nat → aV} {r : aL} (hr : nm i = r) (hn : n < 2 ^ 31) (hs : shp r = (1, n)) : kC X m (i_nwa nx la (aI (nI n) :: st) (i, h)) = go X m nx la (aR r :: st) (i + 1, cu h r (dfl r)) := by
  unfold i_nwa
  dsimp only
  rw [nI_clamp hn, if_pos ⟨nI_pos hn, by rw [hr, hs]⟩, alc_cu, hr]
  rfl
theorem q_nwq {X : aX} {m nx n i kd : Nat} {la : aLs} {st : List aV} {h : aL → Nat → aV} {r : aL} (hr : nm i = r) (hn : n < 2 ^ 31) (hs : shp r = (kd, n)) (hk : kd < 9) : kC X m (i_nwq kd nx la (aI (nI n) :: st) (i, h)) = go X m nx la (aR r :: st) (i + 1, cu h r (dfl r)) := by
  unfold i_nwq
  dsimp only
  rw [nI_clamp hn, if_pos ⟨nI_pos hn, by rw [hr, hs], hk⟩, alc_cu, hr]
  rfl
theorem q_put {X : aX} {m nx c k ty i : Nat} {la : aLs} {st : List aV} {h : aL → Nat → aV} {r : aL} {v : aV} (o : okC i r) (hs : shp r = (0, c)) (hp : pok ty v = true) : kC X m (i_put c k ty nx la (v :: aR r :: st) (i, h)) = go X m nx la st (i, cu h r (fup (h r) k v)) := by
  unfold i_put
  dsimp only
  rw [if_pos (by rw [okC_g o hs, hp]; rfl), wr_cu]
  rfl
theorem q_pi {X : aX} {m nx c k i : Nat} {la : aLs} {st : List aV} {h : aL → Nat → aV} {r : aL} {x : Int32} (o : okC i r) (hs : shp r = (0, c)) : kC X m (i_put c k 0 nx la (aI x :: aR r :: st) (i, h)) = go X m nx la st (i, cu h r (fup (h r) k (aI x))) := q_put o hs rfl
theorem q_get {X : aX} {m nx c k i : Nat} {la : aLs} {st : List aV} {h : aL → Nat → aV} {r : aL} (o : okC i r) (hs : shp r = (0, c)) : kC X m (i_get c k nx la (aR r :: st) (i, h)) = go X m nx la (h r k :: st) (i, h) := by
  unfold i_get
  dsimp only
  rw [if_pos (okC_g o hs)]
  rfl
theorem q_k1 {X : aX} {m m2 nx rc c i : Nat} {la : aLs} {st : List aV} {h : aL → Nat → aV} {r : aL} (hc : rc = c + 1) (h9 : c ≠ 99) (o : okC i r) (hs : shp r = (0, c)) : kK X m m2 1 nx rc la (aR r :: st) (i, h) = if cs st ≤ 8 then bnd (cl X m2 [aR r] (i, h)) (fun v M2 => go X m nx la (psh v st) M2) else none := by
  subst hc
  by_cases h2 : cs st ≤ 8
  · rw [if_pos h2]
    refine x_k1 ?_ h2
    show (if c = 99 then txo r else gok (i, h) r c) = true
    rw [if_neg h9, okC_g o hs]
  · rw [if_neg h2]
    unfold kK
    rw [if_neg (by simp [cok, h2])]
theorem q_aas {X : aX} {m nx j n kd i : Nat} {la : aLs} {st : List aV} {h : aL → Nat → aV} {r q : aL} (o : okC i r) (hs : shp r = (kd, n)) (hj : j < n) (hn : n < 2 ^ 31) (ha : aso (i, h) r q = true) : kC X m (i_aas nx la (aR q :: aI (nI j) :: aR r :: st) (i, h)) = go X m nx la st (i, cu h r (fup (h r) j (aR q))) := by
  unfold i_aas
  dsimp only
  rw [if_pos (by rw [okC_v o, ha, hs, inb_nI hj hn]; simp [o.1]), nI_clamp (by omega), wr_cu]
  rfl
theorem q_ias {X : aX} {m nx j n i : Nat} {la : aLs} {st : List aV} {h : aL → Nat → aV} {r : aL} {x : Int32} (o : okC i r) (hs : shp r = (1, n)) (hj : j < n) (hn : n < 2 ^ 31) : kC X m (i_ias nx la (aI x :: aI (nI j) :: aR r :: st) (i, h)) = go X m nx la st (i, cu h r (fup (h r) j (aI x))) := by
  unfold i_ias
  dsimp only
  rw [if_pos (by rw [okC_v o, hs, inb_nI hj hn]; simp [o.1]), nI_clamp (by omega), wr_cu]
  rfl
theorem q_aln {X : aX} {m nx n kd i : Nat} {la : aLs} {st : List aV} {h : aL → Nat → aV} {r : aL} (o : okC i r) (hs : shp r = (kd, n)) (hk : 1 ≤ kd ∧ kd ≤ 4) : kC X m (i_aln X nx la (aR r :: st) (i, h)) = go X m nx la (aI (nI n) :: st) (i, h) := by
  unfold i_aln
  dsimp only
  rw [if_pos o.1, if_pos (by rw [okC_v o, hs]; simp [hk]), hs]
  rfl
theorem q_al82 {X : aX} {m nx : Nat} {la : aLs} {st : List aV} {M : aM} : kC X m (i_aln X nx la (aR (82, 0, 0) :: st) M) = go X m nx la (aI (nI 10) :: st) M := by
  unfold i_aln
  dsimp only
  rw [if_neg (by decide), if_neg (by decide)]
  rfl
theorem ce1 : ∀ a, a < 3 → nm (1 + 19 * a) = (1, a, 0) ∧ idx (1, a, 0) = 1 + 19 * a := by decide +kernel
theorem ce2 : ∀ a, a < 3 → nm (2 + 19 * a) = (2, a, 0) ∧ idx (2, a, 0) = 2 + 19 * a := by decide +kernel
theorem ce3 : ∀ a, a < 3 → nm (3 + 19 * a) = (3, a, 0) ∧ idx (3, a, 0) = 3 + 19 * a := by decide +kernel
theorem ce4 : ∀ a, a < 3 → ∀ b, b < 8 → nm (4 + 19 * a + 2 * b) = (4, a, b) ∧ idx (4, a, b) = 4 + 19 * a + 2 * b := by decide +kernel
theorem ce5 : ∀ a, a < 3 → ∀ b, b < 8 → nm (5 + 19 * a + 2 * b) = (5, a, b) ∧ idx (5, a, b) = 5 + 19 * a + 2 * b := by decide +kernel
theorem ce10 : ∀ s, s < 4 → nm (63 + 2 * s) = (10, s, 0) ∧ idx (10, s, 0) = 63 + 2 * s := by decide +kernel
theorem ce11 : ∀ s, s < 4 → nm (64 + 2 * s) = (11, s, 0) ∧ idx (11, s, 0) = 64 + 2 * s := by decide +kernel
theorem dfl_1 {r : aL} {n : Nat} (hs : shp r = (1, n)) : dfl r = fun _ => aI (nI 0) := by
  funext k
  unfold dfl
  rw [hs]
  rfl
theorem g0_n {r : aL} (h1 : ∀ k, rfs r k = none) (h2 : ∀ k, pl r k = none) : g0 r = fun _ => aI (nI 0) := by
  funext k
  unfold g0 memv
  rw [h1, h2]
  rfl
theorem g0_5 {a b : Nat} (ha : a < 3) : g0 (5, a, b) = fun _ => aI (nI 0) := by
  funext k
  show memv S0 (5, a, b) k = _
  by_cases c : k < 10
  · have h3 : a ≤ 3 := by omega
    have e1 : ¬ 14 + 10 * b + k = 2 := by omega
    have e2 : ¬ (4 ≤ 14 + 10 * b + k ∧ 14 + 10 * b + k < 14) := by omega
    have e3 : pl (5, a, b) k = some (a, 14 + 10 * b + k) := by simp [pl, ha, c]
    have e4 : rfs (5, a, b) k = none := rfl
    unfold memv
    rw [e4, e3]
    show aI ((if a ≤ 3 then r0R else fun _ => nI 0) (14 + 10 * b + k)) = _
    rw [if_pos h3]
    unfold r0R
    rw [if_neg e1, if_neg e2]
  · simp [memv, rfs, pl, ha, c, S0]
theorem i_sing {X : aX} {h : aL → Nat → aV} {a b i : Nat} (ha : a < 3) (hb : b < 8) (hi : i = 5 + 19 * a + 2 * b) (h4 : h (4, a, b) = g0 (4, a, b)) (h5 : h (5, a, b) = g0 (5, a, b)) : cl X 13 [aR (4, a, b)] (i, cu h (4, a, b) (dfl (4, a, b))) = some (none, (i + 1, h)) := by
  have n5 : nm i = (5, a, b) := by rw [hi]; exact (ce5 a ha b hb).1
  have o4 : okC (i + 1) (4, a, b) := mkC (show 4 < 80 by decide) (ce4 a ha b hb).1 (ce4 a ha b hb).2 (by omega)
  have z5 : cu (cu h (4, a, b) (dfl (4, a, b))) (5, a, b) (dfl (5, a, b)) = cu h (4, a, b) (dfl (4, a, b)) := cu_id (by rw [cu_ne (fun z => by cases z), h5, g0_5 ha, dfl_1 (n := 10) rfl])
  have zf : cu h (4, a, b) (fup (fup (dfl (4, a, b)) 0 (aR (5, a, b))) 1 (aI (nI 0))) = h := cu_id (by
    rw [h4]
    funext k
    rcases k with _ | _ | k
    · rfl
    · rfl
    · rfl)
  simp only [nl_n, nl_i, nl_r, x_ci, x_ca, x_bin, x_ife, x_ifl, x_ifg, x_cme, x_cml, x_cmg, x_go, x_no, x_b, x_ps, x_pn, cs_n, cs_i, cs_j, cs_r, en_n, en_i, en_j, en_r, xa0, x_oin, n_l2, n_l3, n_l5, n_l8, n_l9, n_l11, n_l12, n_l21, n_l22, n_l23, n_l24, n_l25, n_l26, n_l27, n_l28, n_l29, n_l30, n_l31, n_l32, p_4_1, r_i, r_j, r_v, r_z1, r_z0, r_a, e13_0, e13_1, e13_4, e13_5, e13_8, e13_9, e13_11, e13_14, e13_15, e13_16, e13_19, c13, i10, i00, n2, n10, n20, n60, n8, n9, bi0, ite_not, List.replicate, Nat.reduceAdd, Nat.reduceSub, Nat.reduceLeDiff, Nat.reduceLT, if_true, if_false, mg, reduceIte, not_false_eq_true, eq_self, and_self, and_true, true_and, true_or, or_true, Nat.reduceEqDiff, q_al82, (q_nwa n5 (show 10 < 2 ^ 31 by decide) rfl), z5, (q_put (c := 2) o4 rfl (show pok 2 (aR (5, a, b)) = true from rfl)), (q_put (c := 2) o4 rfl (show pok 1 (aI (nI 0)) = true from rfl)), cu_at, cu_cu, zf]
