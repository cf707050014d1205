/-! A DAY OF A ROW, ITS RANGES, AND TWO ROWS THAT AGREE -/
/-- places that no call hands on -/
def jk (r : aL) (k : Nat) : Prop := (r.1 = 4 ∧ k = 1) ∨ r.1 = 25 ∨ r.1 = 32 ∨ r.1 = 28 ∨ (r.1 = 7 ∧ 2 ≤ k) ∨ (r.1 = 20 ∧ ((9 ≤ k ∧ k ≤ 13) ∨ k = 16 ∨ k = 17))
def eqJ (D D' : aD) : Prop := ∀ r k, ¬ jk r k → D' r k = D r k
theorem eqJ_rfl (D : aD) : eqJ D D := fun _ _ _ => rfl
theorem eqJ_tr {D D' D'' : aD} (h : eqJ D D') (h' : eqJ D' D'') : eqJ D D'' := fun r k hk => (h' r k hk).trans (h r k hk)
theorem eqJ_u {D : aD} {r : aL} {k : Nat} {x : Int32} (h : jk r k) : eqJ D (uD D r k x) := by
  intro r' k' hk
  unfold uD
  rw [if_neg]
  rintro ⟨rfl, rfl⟩
  exact hk h
theorem jk4 (a b : Nat) : jk (4, a, b) 1 := Or.inl ⟨rfl, rfl⟩
theorem eqJ_so (a : Nat) : ∀ k i (r : Nat → Int32) D, eqJ D (lp (soX a) k i (r, D)).2 := by
  intro k
  induction k with
  | zero => intro i r D; exact eqJ_rfl D
  | succ k ih => intro i r D; exact eqJ_tr (eqJ_u (jk4 a i)) (ih _ _ _)
theorem u_ne {r : Nat → Int32} {i j f g : Nat} {x : Int32} (h : j ≠ i) (hf : f < 10) (hg : g < 10) : upd r (14 + 10 * i + f) x (14 + 10 * j + g) = r (14 + 10 * j + g) := by
  unfold upd
  rw [if_neg (by omega)]
theorem seF_so {r : Nat → Int32} {i j : Nat} (h : j ≠ i) : seF (soF r i) j = seF r j := by
  unfold soF
  split
  · unfold seF sgP
    rw [u_ne h (by decide) (by decide), u_ne h (by decide) (by decide)]
  · rfl
theorem so_fl (a : Nat) : ∀ k i (r : Nat → Int32) D j, (lp (soX a) k i (r, D)).2 (4, a, j) 1 = if i ≤ j ∧ j < i + k then seF r j else D (4, a, j) 1 := by
  intro k
  induction k with
  | zero => intro i r D j; rw [if_neg (by omega)]; rfl
  | succ k ih =>
    intro i r D j
    rw [lp_s]
    show (lp (soX a) k (i + 1) (soF r i, uD D (4, a, i) 1 (seF r i))).2 (4, a, j) 1 = _
    rw [ih]
    by_cases c : j = i
    · subst c
      rw [if_neg (by omega), if_pos (by omega), uD_at]
    · by_cases c2 : i + 1 ≤ j ∧ j < i + 1 + k
      · rw [if_pos c2, if_pos (by omega), seF_so c]
      · rw [if_neg c2, if_neg (by omega)]
        unfold uD
        rw [if_neg]
        intro w
        have := w.1
        simp at this
        exact c this
def dayR (n : Nat) (r : Nat → Int32) : Nat → Int32 := dyF n (seF r) (soR n r)
theorem liF_e {n : Nat} {e e' : Nat → Int32} {d : Int32} {r : Nat → Int32} {i : Nat} (hn : n ≤ 8) (h : ∀ j, j < n → e j = e' j) : liF n e d r i = liF n e' d r i := by
  unfold liF
  by_cases c : hsP n (r (14 + 10 * i + 2))
  · obtain ⟨j, hj, ej⟩ := has_of hn c
    rw [ej, nI_clamp (by omega), h j hj]
  · rw [if_neg c, if_neg c]
theorem dyF_e {n : Nat} {e e' : Nat → Int32} {r : Nat → Int32} (hn : n ≤ 8) (h : ∀ j, j < n → e j = e' j) : dyF n e r = dyF n e' r := by
  unfold dyF
  rw [lp_congr (g := ciF n e' (td r)) (n := n) (fun i r hi => by unfold ciF; rw [h i hi, liF_e hn h]) n 0 r (by omega)]
theorem daX_row {a n : Nat} {r : Nat → Int32} {D : aD} (hn : n ≤ 8) : (daX a n (r, D)).1 = dayR n r := by
  unfold daX dayR
  show dyF n (fun j => (lp (soX a) n 0 (r, D)).2 (4, a, j) 1) (lp (soX a) n 0 (r, D)).1 = _
  rw [lp_so]
  exact dyF_e hn (fun j hj => by rw [so_fl, if_pos (by omega)])
theorem daX_eqJ (a n : Nat) (r : Nat → Int32) (D : aD) : eqJ D (daX a n (r, D)).2 := eqJ_so a n 0 r D
theorem itr_row {a n : Nat} (hn : n ≤ 8) : ∀ c (r : Nat → Int32) D, (itr (daX a n) c (r, D)).1 = itr (dayR n) c r := by
  intro c
  induction c with
  | zero => intro r D; rfl
  | succ c ih =>
    intro r D
    rw [itr_s, itr_s, ← daX_row (a := a) (D := D) hn]
    exact ih (daX a n (r, D)).1 (daX a n (r, D)).2
theorem itr_eqJ {a n : Nat} : ∀ c (r : Nat → Int32) D, eqJ D (itr (daX a n) c (r, D)).2 := by
  intro c
  induction c with
  | zero => intro r D; exact eqJ_rfl D
  | succ c ih =>
    intro r D
    rw [itr_s]
    exact eqJ_tr (daX_eqJ a n r D) (ih (daX a n (r, D)).1 (daX a n (r, D)).2)
/-- days pass on a square, the flags left open -/
theorem t_days {X : aX} {q : Nat → Nat → Int32} {r : Nat → Int32} {D : aD} {a n c : Nat} (ha : a < 3) (hn : n ≤ 8) (hc : c < 2 ^ 31) (hr : r 1 = nI n) : ∃ D', eqJ D D' ∧ cl X 46 [aR (1, a, 0), aI (nI c)] (mem (rq q a r, D)) = some (none, mem (rq q a (itr (dayR n) c r), D')) := by
  refine ⟨_, itr_eqJ (a := a) (n := n) c r D, ?_⟩
  rw [t_passDays ha hn hc hr, itr_row hn]
/-- from 0 to k -/
def inN (k : Nat) (x : Int32) : Prop := ∃ j, j ≤ k ∧ x = nI j
/-- nobody, or one of them -/
def ans (n : Nat) (x : Int32) : Prop := x = -1 ∨ ∃ j, j < n ∧ x = nI j
def fok (n f : Nat) (x : Int32) : Prop := if f = 0 then inN 6 x else if f = 1 then inN 59 x else if f = 2 then ans n x else if f = 3 then inN 99 x else if f = 6 then inN 1 x else if f = 9 then inN 9999 x else True
def RI (n : Nat) (r : Nat → Int32) : Prop := n ≤ 8 ∧ r 1 = nI n ∧ inN 99999 (r 0) ∧ inN 99999 (r 3) ∧ (∀ j, j < 10 → ans n (r (4 + j))) ∧ ∀ i, i < n → ∀ f, f < 10 → fok n f (r (14 + 10 * i + f))
theorem RI_u {n i f : Nat} {r : Nat → Int32} {x : Int32} (h : RI n r) (hf : f < 10) (hx : fok n f x) : RI n (upd r (14 + 10 * i + f) x) := by
  obtain ⟨h0, h1, h2, h3, h4, h5⟩ := h
  refine ⟨h0, by rw [u_1]; exact h1, by rw [u_0]; exact h2, by rw [u_3]; exact h3, fun j hj => by rw [u_lo (by omega)]; exact h4 j hj, fun i' hi' f' hf' => ?_⟩
  by_cases c : i' = i
  · subst c
    rw [u_f]
    by_cases c2 : f' = f
    · rw [if_pos c2, c2]; exact hx
    · rw [if_neg c2]; exact h5 i' hi' f' hf'
  · rw [u_ne c hf hf']; exact h5 i' hi' f' hf'
theorem RI_lp {n : Nat} {g : Nat → (Nat → Int32) → (Nat → Int32)} (h : ∀ i r, i < n → RI n r → RI n (g i r)) {r : Nat → Int32} (hr : RI n r) : RI n (lp g n 0 r) := lp_inv (RI n) g (n := n) (fun i a hi ha => h i a hi ha) n 0 r (by omega) hr
theorem fok_t {n f : Nat} {x : Int32} (h : f = 4 ∨ f = 5 ∨ f = 7 ∨ f = 8) : fok n f x := by
  unfold fok
  rcases h with rfl | rfl | rfl | rfl <;> simp
theorem RI_beg {n i : Nat} {r : Nat → Int32} (h : RI n r) : RI n (begF r i) := RI_u (RI_u h (by decide) (fok_t (by decide))) (by decide) (fok_t (by decide))
theorem RI_so {n i : Nat} {r : Nat → Int32} (h : RI n r) : RI n (soF r i) := by
  unfold soF
  split
  · exact RI_u h (by decide) (fok_t (by decide))
  · exact h
theorem RI_li {n i : Nat} {e : Nat → Int32} {d : Int32} {r : Nat → Int32} (h : RI n r) : RI n (liF n e d r i) := by
  have h8 : ∀ x, RI n (upd r (14 + 10 * i + 8) x) := fun x => RI_u h (by decide) (fok_t (by decide))
  unfold liF
  repeat' split
  all_goals first | exact h | exact h8 _ | exact RI_beg (h8 _) | exact RI_beg h
theorem RI_ci {n i : Nat} {e : Nat → Int32} {d : Int32} {r : Nat → Int32} (h : RI n r) : RI n (ciF n e d i r) := by
  unfold ciF
  repeat' split
  all_goals first | exact h | exact RI_li h
theorem mn_N {a b : Nat} (ha : a < 2 ^ 31) (hb : b < 2 ^ 31) : mn (nI a) (nI b) = nI (min a b) := by
  unfold mn
  by_cases c : b < a
  · rw [if_pos (nI_lt c ha), Nat.min_eq_right (by omega)]
  · rw [if_neg (nI_nlt (by omega) hb), Nat.min_eq_left (by omega)]
theorem inN_mn {x : Int32} {k a b : Nat} (h : inN a x) (hb : b < 2 ^ 30) (ha : a + k < 2 ^ 31) : inN b (mn (x + nI k) (nI b)) := by
  obtain ⟨j, hj, rfl⟩ := h
  rw [nI_add, mn_N (by omega) (by omega)]
  exact ⟨_, Nat.min_le_right _ _, rfl⟩
theorem dv10 : ∀ v, v ≤ 99 → nI v / nI 10 = nI (v / 10) := by decide +kernel
theorem sel_in {r : Nat → Int32} {i : Nat} {al lo : Prop} [Decidable al] [Decidable lo] (h : inN 99 (r (14 + 10 * i + 3))) : inN 16 (selF r i al lo) := by
  obtain ⟨v, hv, ev⟩ := h
  unfold selF
  rw [ev, dv10 v hv]
  repeat' split
  all_goals first | (rw [nI_add]; exact ⟨_, by omega, rfl⟩) | exact ⟨_, by omega, rfl⟩ | exact ⟨_, by decide, rfl⟩
theorem old_v : ∀ v, v ≤ 99 → ∀ w, w ∈ [nI 0, nI 4, nI 3, -5, nI 1, nI 2] → (mxx (nI 0) (mn (nI v - w) (nI 99))).toNatClampNeg ≤ 99 ∧ mxx (nI 0) (mn (nI v - w) (nI 99)) = nI (mxx (nI 0) (mn (nI v - w) (nI 99))).toNatClampNeg := by decide +kernel
theorem wea_in (r : Nat → Int32) (i : Nat) : weaF r i ∈ [nI 0, nI 4, nI 3, -5, nI 1, nI 2] := by
  unfold weaF
  repeat' split
  all_goals simp
theorem RI_old {n i : Nat} {r : Nat → Int32} (h : RI n r) (hi : i < n) : RI n (oldF r i) := by
  unfold oldF
  refine RI_u (RI_u h (by decide) ?_) (by decide) (fok_t (by decide))
  have hv : inN 99 (r (14 + 10 * i + 3)) := h.2.2.2.2.2 i hi 3 (by decide)
  obtain ⟨v, hv, ev⟩ := hv
  rw [ev]
  show inN 99 _
  exact ⟨_, (old_v v hv _ (wea_in r i)).1, (old_v v hv _ (wea_in r i)).2⟩
theorem RI_go {n i : Nat} {r : Nat → Int32} (h : RI n r) (hi : i < n) : RI n (goF i r) := by
  unfold goF
  split
  · exact RI_old h hi
  · exact h
theorem RI_sl {n i : Nat} {z : Int32} {r : Nat → Int32} (h : RI n r) (hi : i < n) : RI n (slF n z i r) := by
  unfold slF
  split
  · exact h
  · refine RI_u h (by decide) ?_
    have hv : inN 99 (r (14 + 10 * i + 3)) := h.2.2.2.2.2 i hi 3 (by decide)
    have hs : inN 9999 (r (14 + 10 * i + 9)) := h.2.2.2.2.2 i hi 9 (by decide)
    obtain ⟨k, hk, ek⟩ := sel_in (al := avP n r i) (lo := z &&& (bit1 i ^^^ -1) = 0) hv
    show inN 9999 (mn (r (14 + 10 * i + 9) + sqSell n r i z) (nI 9999))
    rw [show sqSell n r i z = nI k from ek]
    exact inN_mn hs (by decide) (by omega)
theorem RI_0 {n : Nat} {r : Nat → Int32} {x : Int32} (h : RI n r) (hx : inN 99999 x) : RI n (upd r 0 x) := ⟨h.1, h.2.1, hx, h.2.2.2.1, fun j hj => by rw [pk_un (by omega)]; exact h.2.2.2.2.1 j hj, fun i hi f hf => by rw [pk_un (by omega)]; exact h.2.2.2.2.2 i hi f hf⟩
theorem RI_3 {n : Nat} {r : Nat → Int32} {x : Int32} (h : RI n r) (hx : inN 99999 x) : RI n (upd r 3 x) := ⟨h.1, h.2.1, h.2.2.1, hx, fun j hj => by rw [pk_un (by omega)]; exact h.2.2.2.2.1 j hj, fun i hi f hf => by rw [pk_un (by omega)]; exact h.2.2.2.2.2 i hi f hf⟩
theorem RI_2 {n : Nat} {r : Nat → Int32} {x : Int32} (h : RI n r) : RI n (upd r 2 x) := ⟨h.1, h.2.1, h.2.2.1, h.2.2.2.1, fun j hj => by rw [pk_un (by omega)]; exact h.2.2.2.2.1 j hj, fun i hi f hf => by rw [pk_un (by omega)]; exact h.2.2.2.2.2 i hi f hf⟩
theorem RI_st {n : Nat} {z : Int32} {r : Nat → Int32} (h : RI n r) : RI n (stF z r) := by
  refine RI_3 h ?_
  split
  · exact inN_mn h.2.2.2.1 (by decide) (by omega)
  · exact ⟨0, by decide, rfl⟩
theorem RI_day {n : Nat} {r : Nat → Int32} (h : RI n r) : RI n (dayR n r) := by
  unfold dayR dyF
  try dsimp only
  have h1 : RI n (soR n r) := by
    unfold soR
    exact RI_lp (g := fun i r => soF r i) (fun i r _ h => RI_so h) h
  generalize soR n r = r1 at h1
  have h2 : RI n (lp (ciF n (seF r) (td r1)) n 0 r1) := RI_lp (fun i r _ h => RI_ci h) h1
  generalize lp (ciF n (seF r) (td r1)) n 0 r1 = r2 at h2
  have h3 : RI n (lp (slF n (sgS r2 n)) n 0 r2) := RI_lp (fun i r hi h => RI_sl h hi) h2
  have h4 : RI n (stF (sgS r2 n) (lp (slF n (sgS r2 n)) n 0 r2)) := RI_st h3
  generalize stF (sgS r2 n) (lp (slF n (sgS r2 n)) n 0 r2) = r4 at h4
  have h5 : RI n (if td r4 = nI 59 then lp goF n 0 r4 else r4) := by
    split
    · exact RI_lp (fun i r hi h => RI_go h hi) h4
    · exact h4
  exact RI_0 h5 (inN_mn h5.2.2.1 (by decide) (by omega))
theorem RI_days {n : Nat} : ∀ c (r : Nat → Int32), RI n r → RI n (itr (dayR n) c r) := by
  intro c
  induction c with
  | zero => intro r h; exact h
  | succ c ih => intro r h; exact ih _ (RI_day h)
/-- two rows that agree on all who are there -/
def ag (n : Nat) (r r' : Nat → Int32) : Prop := ∀ p, p < 14 + 10 * n → r p = r' p
theorem ag_rfl (n : Nat) (r : Nat → Int32) : ag n r r := fun _ _ => rfl
theorem ag_sym {n : Nat} {r r' : Nat → Int32} (h : ag n r r') : ag n r' r := fun p hp => (h p hp).symm
theorem ag_tr {n : Nat} {r r' r'' : Nat → Int32} (h : ag n r r') (h' : ag n r' r'') : ag n r r'' := fun p hp => (h p hp).trans (h' p hp)
theorem ag_u {n : Nat} {r r' : Nat → Int32} {p : Nat} {x x' : Int32} (h : ag n r r') (hx : x = x') : ag n (upd r p x) (upd r' p x') := by
  intro p' hp
  unfold upd
  rw [hx, h p' hp]
theorem ag_f {n i f : Nat} {r r' : Nat → Int32} (h : ag n r r') (hi : i < n) (hf : f < 10) : r (14 + 10 * i + f) = r' (14 + 10 * i + f) := h _ (by omega)
theorem ag_mix (n : Nat) (r r' : Nat → Int32) : ag n (mixR n r r') r' := fun p hp => if_pos hp
theorem ag_RI {n : Nat} {r r' : Nat → Int32} (h : ag n r r') (hr : RI n r) : RI n r' := by
  obtain ⟨h0, h1, h2, h3, h4, h5⟩ := hr
  exact ⟨h0, by rw [← h 1 (by omega)]; exact h1, by rw [← h 0 (by omega)]; exact h2, by rw [← h 3 (by omega)]; exact h3, fun j hj => by rw [← h _ (by omega)]; exact h4 j hj, fun i hi f hf => by rw [← h _ (by omega)]; exact h5 i hi f hf⟩
theorem ag_gap {n i : Nat} {r r' : Nat → Int32} (h : ag n r r') (hi : i < n) : gapF r i = gapF r' i := by
  unfold gapF
  rw [ag_f h hi (show 0 < 10 by decide), ag_f h hi (show 3 < 10 by decide), ag_f h hi (show 4 < 10 by decide)]
theorem ag_last {n i : Nat} {r r' : Nat → Int32} (h : ag n r r') (hi : i < n) : lastF r i = lastF r' i := by
  unfold lastF
  rw [ag_f h hi (show 0 < 10 by decide), ag_f h hi (show 5 < 10 by decide), ag_f h hi (show 4 < 10 by decide)]
theorem ag_wea {n i : Nat} {r r' : Nat → Int32} (h : ag n r r') (hi : i < n) : weaF r i = weaF r' i := by
  unfold weaF
  rw [ag_f h hi (show 0 < 10 by decide), ag_f h hi (show 4 < 10 by decide)]
theorem ag_sg {n i : Nat} {r r' : Nat → Int32} (h : ag n r r') (hi : i < n) : sgP r i = sgP r' i := by
  unfold sgP
  rw [ag_f h hi (show 6 < 10 by decide), ag_f h hi (show 7 < 10 by decide)]
theorem setF_c {p p' : Nat → Prop} [DecidablePred p] [DecidablePred p'] {n : Nat} (h : ∀ i, i < n → p i = p' i) : setF p n = setF p' n := by
  unfold setF
  refine lp_congr (n := n) (fun i x hi => ?_) n 0 _ (by omega)
  simp only [h i hi]
theorem ag_sgS {n : Nat} {r r' : Nat → Int32} (h : ag n r r') : sgS r n = sgS r' n := setF_c (fun i hi => ag_sg h hi)
theorem ag_av {n i : Nat} {r r' : Nat → Int32} (hn : n ≤ 8) (h : ag n r r') (hi : i < n) : avP n r i = avP n r' i := by
  unfold avP
  rw [ag_f h hi (show 2 < 10 by decide)]
  by_cases c : hsP n (r' (14 + 10 * i + 2))
  · obtain ⟨j, hj, ej⟩ := has_of hn c
    rw [ej, nI_clamp (by omega), ag_f h hj (show 6 < 10 by decide)]
  · simp only [c, false_and]
theorem ag_sel {n i : Nat} {z : Int32} {r r' : Nat → Int32} (hn : n ≤ 8) (h : ag n r r') (hi : i < n) : sqSell n r i z = sqSell n r' i z := by
  unfold sqSell selF
  simp only [ag_f h hi (show 0 < 10 by decide), ag_f h hi (show 3 < 10 by decide), ag_av hn h hi]
theorem ag_beg {n i : Nat} {r r' : Nat → Int32} (h : ag n r r') (hi : i < n) : ag n (begF r i) (begF r' i) := ag_u (ag_u h (by rw [ag_last h hi])) rfl
theorem ag_so {n i : Nat} {r r' : Nat → Int32} (h : ag n r r') (hi : i < n) : ag n (soF r i) (soF r' i) := by
  unfold soF
  simp only [ag_sg h hi]
  split
  · exact ag_u h (by rw [ag_f h hi (show 7 < 10 by decide)])
  · exact h
theorem ag_se {n i : Nat} {r r' : Nat → Int32} (h : ag n r r') (hi : i < n) : seF r i = seF r' i := by
  unfold seF
  simp only [ag_sg h hi, ag_f h hi (show 7 < 10 by decide)]
theorem ag_li {n i : Nat} {e : Nat → Int32} {d : Int32} {r r' : Nat → Int32} (h : ag n r r') (hi : i < n) : ag n (liF n e d r i) (liF n e d r' i) := by
  unfold liF
  rw [ag_f h hi (show 8 < 10 by decide), ag_f h hi (show 2 < 10 by decide), ag_f h hi (show 1 < 10 by decide), ag_gap h hi]
  repeat' split
  all_goals first | exact h | exact ag_u h rfl | exact ag_beg h hi | exact ag_beg (ag_u h rfl) hi
theorem ag_ci {n i : Nat} {e : Nat → Int32} {d : Int32} {r r' : Nat → Int32} (h : ag n r r') (hi : i < n) : ag n (ciF n e d i r) (ciF n e d i r') := by
  unfold ciF
  rw [ag_f h hi (show 6 < 10 by decide), ag_f h hi (show 7 < 10 by decide)]
  repeat' split
  all_goals first | exact h | exact ag_li h hi
theorem ag_sl {n i : Nat} {z : Int32} {r r' : Nat → Int32} (hn : n ≤ 8) (h : ag n r r') (hi : i < n) : ag n (slF n z i r) (slF n z i r') := by
  unfold slF
  split
  · exact h
  · exact ag_u h (by rw [ag_f h hi (show 9 < 10 by decide), ag_sel hn h hi])
theorem ag_old {n i : Nat} {r r' : Nat → Int32} (h : ag n r r') (hi : i < n) : ag n (oldF r i) (oldF r' i) := ag_u (ag_u h (by rw [ag_f h hi (show 3 < 10 by decide), ag_wea h hi])) (by rw [ag_f h hi (show 4 < 10 by decide)])
theorem ag_go {n i : Nat} {r r' : Nat → Int32} (h : ag n r r') (hi : i < n) : ag n (goF i r) (goF i r') := by
  unfold goF
  rw [ag_f h hi (show 6 < 10 by decide)]
  split
  · exact ag_old h hi
  · exact h
theorem ag_lp {n : Nat} {g : Nat → (Nat → Int32) → (Nat → Int32)} (h : ∀ i r r', i < n → ag n r r' → ag n (g i r) (g i r')) {r r' : Nat → Int32} (hr : ag n r r') : ag n (lp g n 0 r) (lp g n 0 r') := lp_rel (ag n) g g (n := n) (fun i a b hi ha => h i a b hi ha) n 0 r r' (by omega) hr
theorem ag_day {n : Nat} {r r' : Nat → Int32} (hn : n ≤ 8) (h : ag n r r') : ag n (dayR n r) (dayR n r') := by
  unfold dayR
  rw [dyF_e (e' := seF r') hn (fun j hj => ag_se h hj)]
  have h1 : ag n (soR n r) (soR n r') := by
    unfold soR
    exact ag_lp (g := fun i r => soF r i) (fun i r r' hi h => ag_so h hi) h
  generalize soR n r = r1 at h1
  generalize soR n r' = r1' at h1
  unfold dyF
  try dsimp only
  rw [show td r1 = td r1' by unfold td; rw [h1 0 (by omega)]]
  have h2 : ag n (lp (ciF n (seF r') (td r1')) n 0 r1) (lp (ciF n (seF r') (td r1')) n 0 r1') := ag_lp (g := ciF n (seF r') (td r1')) (fun i r r' hi h => ag_ci h hi) h1
  generalize lp (ciF n (seF r') (td r1')) n 0 r1 = r2 at h2
  generalize lp (ciF n (seF r') (td r1')) n 0 r1' = r2' at h2
  rw [ag_sgS h2]
  have h3 : ag n (lp (slF n (sgS r2' n)) n 0 r2) (lp (slF n (sgS r2' n)) n 0 r2') := ag_lp (g := slF n (sgS r2' n)) (fun i r r' hi h => ag_sl hn h hi) h2
  generalize lp (slF n (sgS r2' n)) n 0 r2 = r3 at h3
  generalize lp (slF n (sgS r2' n)) n 0 r2' = r3' at h3
  have h4 : ag n (stF (sgS r2' n) r3) (stF (sgS r2' n) r3') := ag_u h3 (by rw [h3 3 (by omega)])
  generalize stF (sgS r2' n) r3 = r4 at h4
  generalize stF (sgS r2' n) r3' = r4' at h4
  rw [show td r4 = td r4' by unfold td; rw [h4 0 (by omega)]]
  have h5 : ag n (if td r4' = nI 59 then lp goF n 0 r4 else r4) (if td r4' = nI 59 then lp goF n 0 r4' else r4') := by
    split
    · exact ag_lp (g := goF) (fun i r r' hi h => ag_go h hi) h4
    · exact h4
  exact ag_u h5 (by rw [h5 0 (by omega)])
theorem ag_days {n : Nat} (hn : n ≤ 8) : ∀ c (r r' : Nat → Int32), ag n r r' → ag n (itr (dayR n) c r) (itr (dayR n) c r') := by
  intro c
  induction c with
  | zero => intro r r' h; exact h
  | succ c ih => intro r r' h; exact ih _ _ (ag_day hn h)
theorem ag_lk {n i j : Nat} {r r' : Nat → Int32} (hn : n ≤ 8) (h : ag n r r') (hi : i < n) (hj : j ≤ 13) : lkF n r i j = lkF n r' i j := by
  unfold lkF
  rw [ag_gap h hi, ag_last h hi, ag_wea h hi, ag_sgS h, ag_sel hn h hi]
  by_cases c : j < 10
  · rw [ag_f h hi c]
  · rcases (show j = 10 ∨ j = 11 ∨ j = 12 ∨ j = 13 by omega) with rfl | rfl | rfl | rfl <;> simp
theorem ag_sum {n f : Nat} {r r' : Nat → Int32} (h : ag n r r') (hf : f < 10) : sumF (fun i => r (14 + 10 * i + f)) n = sumF (fun i => r' (14 + 10 * i + f)) n := by
  unfold sumF
  exact lp_congr (n := n) (fun i x hi => by show x + r _ = x + r' _; rw [ag_f h hi hf]) n 0 _ (by omega)
