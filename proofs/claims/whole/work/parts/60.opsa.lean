/-! THE CALLS, ONE BY ONE -/
def opK (X : aX) (a b : Nat) (as : List aV) (S : aS) : Prop := ∃ v S1 S2, cl X a (aR (0, 0, 0) :: as) (mem S) = some (some v, mem S1) ∧ cl X b (aR (20, 0, 0) :: as) (mem S1) = some (some v, mem S2) ∧ J S2
theorem sum_u (f : Nat → Int32) (k : Nat) : ∀ n, k < n → sumF (fun j => if j = k then f j + nI 1 else f j) n = sumF f n + nI 1 := by
  have e : ∀ (f g : Nat → Int32) n, (∀ j, j < n → f j = g j) → sumF f n = sumF g n := fun f g n h => lp_congr (n := n) (fun i x hi => by rw [h i hi]) n 0 _ (by omega)
  have s : ∀ (f : Nat → Int32) n, sumF f (n + 1) = sumF f n + f n := by
    intro f n
    unfold sumF
    rw [lp_r, Nat.zero_add]
  intro n
  induction n with
  | zero => intro h; omega
  | succ n ih =>
    intro h
    rw [s, s]
    by_cases c : k = n
    · subst c
      rw [if_pos rfl, e _ f k (fun j hj => if_neg (by omega)), Int32.add_assoc]
    · rw [if_neg (by omega), ih (by omega), Int32.add_assoc, Int32.add_assoc, Int32.add_comm (nI 1)]
theorem FJ_fin {k : Nat} {D : aD} (hk : k < 7) (h : FJ D) : FJ (fdD k (tlD k D)) := by
  obtain ⟨h1, h2⟩ := h
  have e12 : ∀ j, fdD k (tlD k D) (12, 0, 0) j = if j = k then D (12, 0, 0) j + nI 1 else D (12, 0, 0) j := by
    intro j
    unfold fdD tlD uD
    by_cases c : j = k
    · subst c; simp
    · simp [c]
  have e24 : ∀ j, j < 7 → fdD k (tlD k D) (24, 0, 0) (j + 1) = if j = k then D (24, 0, 0) (j + 1) + nI 1 else D (24, 0, 0) (j + 1) := by
    intro j hj
    unfold fdD tlD uD
    by_cases c : j = k
    · subst c; simp
    · simp [c]
  have e0 : fdD k (tlD k D) (24, 0, 0) 0 = D (24, 0, 0) 0 + nI 1 := by
    unfold fdD tlD uD
    simp
  refine ⟨fun j hj => ?_, ?_⟩
  · rw [e24 j hj, e12, h1 j hj]
  · rw [e0, h2]
    simp only [e12]
    exact (sum_u (fun j => D (12, 0, 0) j) k 7 hk).symm
theorem fin_o {k : Nat} {D : aD} {r : aL} {j : Nat} (h : r.1 ≠ 24 ∧ r.1 ≠ 12) : fdD k (tlD k D) r j = D r j := by
  unfold fdD tlD uD
  rw [if_neg (fun w => h.1 (by rw [w.1])), if_neg (fun w => h.1 (by rw [w.1])), if_neg (fun w => h.2 (by rw [w.1]))]
theorem JD_fin {k : Nat} {D : aD} (hk : k < 7) (h : JD D) : JD (fdD k (tlD k D)) := by
  obtain ⟨h1, ⟨t, t1, t2, t3, t4⟩, h3, k1, k2⟩ := h
  refine ⟨FJ_fin hk h1, ⟨t, t1, by rw [fin_o (by decide)]; exact t2, by rw [fin_o (by decide)]; exact t3, fun j hj => by rw [fin_o (by decide), fin_o (by decide)]; exact t4 j hj⟩, fun s hs => ?_, by rw [fin_o (by decide)]; exact k1, by rw [fin_o (by decide), fin_o (by decide)]; exact k2⟩
  obtain ⟨b, m, h1, h2, h3, h4, h5, h6, h7, h8⟩ := h3 s hs
  have o10 : ∀ j, fdD k (tlD k D) (10, s, 0) j = D (10, s, 0) j := fun j => fin_o ⟨Nat.ne_of_beq_eq_false rfl, Nat.ne_of_beq_eq_false rfl⟩
  have o11 : ∀ j, fdD k (tlD k D) (11, s, 0) j = D (11, s, 0) j := fun j => fin_o ⟨Nat.ne_of_beq_eq_false rfl, Nat.ne_of_beq_eq_false rfl⟩
  exact ⟨b, m, h1, h2, h3, by rw [o10]; exact h4, by rw [fin_o (by decide)]; exact h5, by rw [o10]; exact h6, by rw [fin_o (by decide)]; exact h7, fun j hj => by rw [o11, fin_o (by decide)]; exact h8 j hj⟩
theorem J_fin {k : Nat} {S : aS} (hk : k < 7) (h : J S) : J (S.1, fdD k (tlD k S.2)) := ⟨h.1, fun w => h.2.1 ((show S.2 (0, 0, 0) 6 = fdD k (tlD k S.2) (0, 0, 0) 6 from (fin_o (by decide)).symm).trans w), JD_fin hk h.2.2⟩
theorem op_fin {X : aX} {a b k : Nat} {as : List aV} {S : aS} {w : Int32} (hk : k < 7) (hJ : J S) (hx : cl X a (aR (0, 0, 0) :: as) (mem S) = some (some (aI w), mem (S.1, tlD k S.2))) (hm : cl X b (aR (20, 0, 0) :: as) (mem (S.1, tlD k S.2)) = some (some (aI w), mem (S.1, fdD k (tlD k S.2)))) : opK X a b as S := ⟨_, _, _, hx, hm, J_fin hk hJ⟩
theorem op_eq {X : aX} {a b : Nat} {as : List aV} {S : aS} {v v' : Int32} (hJ : J S) (hx : cl X a (aR (0, 0, 0) :: as) (mem S) = some (some (aI v), mem S)) (hm : cl X b (aR (20, 0, 0) :: as) (mem S) = some (some (aI v'), mem S)) (h : v = v') : opK X a b as S := ⟨_, _, _, hx, by rw [h]; exact hm, hJ⟩
theorem wi_of {x : Int32} {l h : Nat} (hh : h < 2 ^ 31) (w : wi x (nI l) (nI h)) (hl : l ≤ h) : ∃ j, l ≤ j ∧ j ≤ h ∧ x = nI j := by
  obtain ⟨w1, w2⟩ := w
  rw [Int32.lt_iff_toInt_lt, nI_toInt (by omega)] at w1 w2
  have h0 : ¬ x < 0 := by
    rw [Int32.lt_iff_toInt_lt]
    have : (0 : Int32).toInt = 0 := rfl
    omega
  obtain ⟨j, hj, rfl⟩ := nI_of h0
  rw [nI_toInt hj] at w1 w2
  exact ⟨j, by omega, by omega, rfl⟩
theorem t_isKind {X : aX} {M : aM} {v : Int32} : cl X 124 [aI v] M = some (some (aI (bi (wi v (nI 0) (nI 6)))), M) := by
  simp only [nl_n, nl_i, nl_r, x_ci, x_ca, x_bin, x_ife, x_ifl, x_ifg, x_cme, x_cml, x_cmg, x_go, x_no, x_b, x_ps, x_pn, cs_n, cs_i, cs_j, cs_r, en_n, en_i, en_j, en_r, xi0, x_k3_s, r_i, r_j, r_v, r_z1, r_z0, r_a, e124_0, e124_1, e124_2, e124_4, e124_7, c124, i10, i00, n2, n10, n20, n60, n8, n9, bi0, ite_not, List.replicate, Nat.reduceAdd, Nat.reduceSub, Nat.reduceLeDiff, Nat.reduceLT, if_true, if_false, mg, reduceIte, not_false_eq_true, eq_self, and_self, and_true, true_and, true_or, or_true, Nat.reduceEqDiff, t_within6, biz]
theorem t_isDate {X : aX} {M : aM} {v : Int32} : cl X 120 [aI v] M = some (some (aI (bi (wi v (nI 0) (nI 59)))), M) := by
  simp only [nl_n, nl_i, nl_r, x_ci, x_ca, x_bin, x_ife, x_ifl, x_ifg, x_cme, x_cml, x_cmg, x_go, x_no, x_b, x_ps, x_pn, cs_n, cs_i, cs_j, cs_r, en_n, en_i, en_j, en_r, xi0, x_k3_s, r_i, r_j, r_v, r_z1, r_z0, r_a, e120_0, e120_1, e120_2, e120_4, e120_7, c120, i10, i00, n2, n10, n20, n60, n8, n9, bi0, ite_not, List.replicate, Nat.reduceAdd, Nat.reduceSub, Nat.reduceLeDiff, Nat.reduceLT, if_true, if_false, mg, reduceIte, not_false_eq_true, eq_self, and_self, and_true, true_and, true_or, or_true, Nat.reduceEqDiff, t_within6, biz]
/-- two writes to rows do not hinder each other -/
theorem rq_sw {q : Nat → Nat → Int32} {a b : Nat} {r r' : Nat → Int32} (h : a ≠ b) : rq (rq q a r) b r' = rq (rq q b r') a r := by
  funext c
  unfold rq
  by_cases c1 : c = a
  · by_cases c2 : c = b
    · exact absurd (c1.symm.trans c2) h
    · rw [if_neg c2, if_pos c1, if_pos c1]
  · rw [if_neg c1, if_neg c1]
