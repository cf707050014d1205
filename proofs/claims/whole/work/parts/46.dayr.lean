/-! A DAY OF A ROW, ITS RANGES, AND TWO ROWS THAT AGREE -/
/-- places that no call hands on -/
def jk (r : aL) (k : Nat) : Prop := (r.1 = 4 ∧ k = 1) ∨ r.1 = 25 ∨ r.1 = 32 ∨ r.1 = 28 ∨ (r.1 = 7 ∧ 2 ≤ k) ∨ (r.1 = 20 ∧ (k = 6 ∨ (9 ≤ k ∧ k ≤ 13) ∨ k = 16 ∨ k = 17))
def eqJ (D D' : aD) : Prop := ∀ r k, ¬ jk r k → D' r k = D r k
theorem eqJ_rfl (D : aD) : eqJ D D := fun _ _ _ => rfl
theorem eqJ_tr {D D' D'' : aD} (h : eqJ D D') (h' : eqJ D' D'') : eqJ D D'' := fun r k hk => (h' r k hk).trans (h r k hk)
theorem eqJ_u {D : aD} {r : aL} {k : Nat} {x : Int32} (h : jk r k) : eqJ D (uD D r k x) := by
  intro r' k' hk
  unfold uD
  rw [if_neg]
  rintro ⟨rfl, rfl⟩
  exact hk h
theorem jk4 (a b : Nat) : jk (4, a, b) 1 := Or.inl ⟨rfl, rfl⟩
theorem eqJ_so (a : Nat) : ∀ k i (r : Nat → Int32) D, eqJ D (lp (soX a) k i (r, D)).2 := by
  intro k
  induction k with
  | zero => intro i r D; exact eqJ_rfl D
  | succ k ih => intro i r D; exact eqJ_tr (eqJ_u (jk4 a i)) (ih _ _ _)
theorem u_ne {r : Nat → Int32} {i j f g : Nat} {x : Int32} (h : j ≠ i) (hf : f < 10) (hg : g < 10) : upd r (14 + 10 * i + f) x (14 + 10 * j + g) = r (14 + 10 * j + g) := by
  unfold upd
  rw [if_neg (by omega)]
theorem seF_so {r : Nat → Int32} {i j : Nat} (h : j ≠ i) : seF (soF r i) j = seF r j := by
  unfold soF
  split
  · unfold seF sgP
    rw [u_ne h (by decide) (by decide), u_ne h (by decide) (by decide)]
  · rfl
theorem so_fl (a : Nat) : ∀ k i (r : Nat → Int32) D j, (lp (soX a) k i (r, D)).2 (4, a, j) 1 = if i ≤ j ∧ j < i + k then seF r j else D (4, a, j) 1 := by
  intro k
  induction k with
  | zero => intro i r D j; rw [if_neg (by omega)]; rfl
  | succ k ih =>
    intro i r D j
    rw [lp_s]
    show (lp (soX a) k (i + 1) (soF r i, uD D (4, a, i) 1 (seF r i))).2 (4, a, j) 1 = _
    rw [ih]
    by_cases c : j = i
    · subst c
      rw [if_neg (by omega), if_pos (by omega), uD_at]
    · by_cases c2 : i + 1 ≤ j ∧ j < i + 1 + k
      · rw [if_pos c2, if_pos (by omega), seF_so c]
      · rw [if_neg c2, if_neg (by omega)]
        unfold uD
        rw [if_neg]
        intro w
        have := w.1
        simp at this
        exact c this
def dayR (n : Nat) (r : Nat → Int32) : Nat → Int32 := dyF n (seF r) (soR n r)
theorem liF_e {n : Nat} {e e' : Nat → Int32} {d : Int32} {r : Nat → Int32} {i : Nat} (hn : n ≤ 8) (h : ∀ j, j < n → e j = e' j) : liF n e d r i = liF n e' d r i := by
  unfold liF
  by_cases c : hsP n (r (14 + 10 * i + 2))
  · obtain ⟨j, hj, ej⟩ := has_of hn c
    rw [ej, nI_clamp (by omega), h j hj]
  · rw [if_neg c, if_neg c]
theorem dyF_e {n : Nat} {e e' : Nat → Int32} {r : Nat → Int32} (hn : n ≤ 8) (h : ∀ j, j < n → e j = e' j) : dyF n e r = dyF n e' r := by
  unfold dyF
  rw [lp_congr (g := ciF n e' (td r)) (n := n) (fun i r hi => by unfold ciF; rw [h i hi, liF_e hn h]) n 0 r (by omega)]
theorem daX_row {a n : Nat} {r : Nat → Int32} {D : aD} (hn : n ≤ 8) : (daX a n (r, D)).1 = dayR n r := by
  unfold daX dayR
  show dyF n (fun j => (lp (soX a) n 0 (r, D)).2 (4, a, j) 1) (lp (soX a) n 0 (r, D)).1 = _
  rw [lp_so]
  exact dyF_e hn (fun j hj => by rw [so_fl, if_pos (by omega)])
theorem daX_eqJ (a n : Nat) (r : Nat → Int32) (D : aD) : eqJ D (daX a n (r, D)).2 := eqJ_so a n 0 r D
theorem itr_row {a n : Nat} (hn : n ≤ 8) : ∀ c (r : Nat → Int32) D, (itr (daX a n) c (r, D)).1 = itr (dayR n) c r := by
  intro c
  induction c with
  | zero => intro r D; rfl
  | succ c ih =>
    intro r D
    rw [itr_s, itr_s, ← daX_row (a := a) (D := D) hn]
    exact ih (daX a n (r, D)).1 (daX a n (r, D)).2
theorem itr_eqJ {a n : Nat} : ∀ c (r : Nat → Int32) D, eqJ D (itr (daX a n) c (r, D)).2 := by
  intro c
  induction c with
  | zero => intro r D; exact eqJ_rfl D
  | succ c ih =>
    intro r D
    rw [itr_s]
    exact eqJ_tr (daX_eqJ a n r D) (ih (daX a n (r, D)).1 (daX a n (r, D)).2)
/-- days pass on a square, the flags left open -/
theorem t_days {X : aX} {q : Nat → Nat → Int32} {r : Nat → Int32} {D : aD} {a n c : Nat} (ha : a < 3) (hn : n ≤ 8) (hc : c < 2 ^ 31) (hr : r 1 = nI n) : ∃ D', eqJ D D' ∧ cl X 46 [aR (1, a, 0), aI (nI c)] (mem (rq q a r, D)) = some (none, mem (rq q a (itr (dayR n) c r), D')) := by
  refine ⟨_, itr_eqJ c r D, ?_⟩
  rw [t_passDays ha hn hc hr, itr_row hn]
/-- from 0 to k -/
def inN (k : Nat) (x : Int32) : Prop := ∃ j, j ≤ k ∧ x = nI j
/-- nobody, or one of them -/
def ans (n : Nat) (x : Int32) : Prop := x = -1 ∨ ∃ j, j < n ∧ x = nI j
def fok (n f : Nat) (x : Int32) : Prop := if f = 0 then inN 6 x else if f = 1 then inN 59 x else if f = 2 then ans n x else if f = 3 then inN 99 x else if f = 6 then inN 1 x else if f = 9 then inN 9999 x else True
def RI (n : Nat) (r : Nat → Int32) : Prop := n ≤ 8 ∧ r 1 = nI n ∧ inN 99999 (r 0) ∧ inN 99999 (r 3) ∧ (∀ j, j < 10 → ans n (r (4 + j))) ∧ ∀ i, i < n → ∀ f, f < 10 → fok n f (r (14 + 10 * i + f))
theorem RI_u {n i f : Nat} {r : Nat → Int32} {x : Int32} (h : RI n r) (hf : f < 10) (hx : fok n f x) : RI n (upd r (14 + 10 * i + f) x) := by
  obtain ⟨h0, h1, h2, h3, h4, h5⟩ := h
  refine ⟨h0, by rw [u_1]; exact h1, by rw [u_0]; exact h2, by rw [u_3]; exact h3, fun j hj => by rw [u_lo (by omega)]; exact h4 j hj, fun i' hi' f' hf' => ?_⟩
  by_cases c : i' = i
  · subst c
    rw [u_f]
    by_cases c2 : f' = f
    · rw [if_pos c2, c2]; exact hx
    · rw [if_neg c2]; exact h5 i' hi' f' hf'
  · rw [u_ne c hf hf']; exact h5 i' hi' f' hf'
theorem RI_lp {n : Nat} {g : Nat → (Nat → Int32) → (Nat → Int32)} (h : ∀ i r, i < n → RI n r → RI n (g i r)) {r : Nat → Int32} (hr : RI n r) : RI n (lp g n 0 r) := lp_inv (RI n) g (n := n) (fun i a hi ha => h i a hi ha) n 0 r (by omega) hr
theorem fok_t {n f : Nat} {x : Int32} (h : f = 4 ∨ f = 5 ∨ f = 7 ∨ f = 8) : fok n f x := by
  unfold fok
  rcases h with rfl | rfl | rfl | rfl <;> simp
theorem RI_beg {n i : Nat} {r : Nat → Int32} (h : RI n r) : RI n (begF r i) := RI_u (RI_u h (by decide) (fok_t (by decide))) (by decide) (fok_t (by decide))
theorem RI_so {n i : Nat} {r : Nat → Int32} (h : RI n r) : RI n (soF r i) := by
  unfold soF
  split
  · exact RI_u h (by decide) (fok_t (by decide))
  · exact h
theorem RI_li {n i : Nat} {e : Nat → Int32} {d : Int32} {r : Nat → Int32} (h : RI n r) : RI n (liF n e d r i) := by
  have h8 : ∀ x, RI n (upd r (14 + 10 * i + 8) x) := fun x => RI_u h (by decide) (fok_t (by decide))
  unfold liF
  repeat' split
  all_goals first | exact h | exact h8 _ | exact RI_beg (h8 _) | exact RI_beg h
theorem RI_ci {n i : Nat} {e : Nat → Int32} {d : Int32} {r : Nat → Int32} (h : RI n r) : RI n (ciF n e d i r) := by
  unfold ciF
  repeat' split
  all_goals first | exact h | exact RI_li h
