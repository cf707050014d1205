/-! WHAT HOLDS OF AN ITEM -/
abbrev cnT (b : Nat → Int32) (t : Nat) (τ : tT) : Prop := tvT t τ ∧ τ.2.2.1 = tcl b t τ.1
theorem cn_nx {b : Nat → Int32} {t : Nat} {τ : tT} (h : cnT b t τ) : cnT b t (nxT b t τ) := ⟨tv_nx h.1, rfl⟩
theorem ow_c {b : Nat → Int32} {t w : Nat} {lo hi df : Int32} {τ : tT} (h : cnT b t τ) : cnT b t (owT b t w lo hi df τ).2.1 ∧ τ.1 ≤ (owT b t w lo hi df τ).2.1.1 := by
  refine ⟨⟨(ow_v h.1).1, ?_⟩, (ow_v h.1).2⟩
  unfold owT
  split
  · split
    · rfl
    · rfl
  · exact h.2
/-- the item may stand -/
def okF (n : Nat) (f : Nat → Int32) : Prop := (f 0 = nI 10 ∧ ∃ a, a < n ∧ f 1 = nI a) ∨ (f 0 = nI 11 ∧ ∃ a, a < n ∧ f 1 = nI a) ∨ (n < 8 ∧ (∃ kd, kd ≤ 6 ∧ f 0 = nI kd) ∧ inN 59 (f 1) ∧ ans n (f 2) ∧ inN 99 (f 3))
theorem wi_in {x : Int32} {h : Nat} (hh : h < 2 ^ 31) (w : wi x (nI 0) (nI h)) : inN h x := by
  obtain ⟨j, _, h2, h3⟩ := wi_of hh w (Nat.zero_le h)
  exact ⟨j, h2, h3⟩
theorem si_ok {b : Nat → Int32} {t n kd : Nat} {τ : tT} (h : cnT b t τ) (hk : kd < 7) (hn : n ≤ 8) : cnT b t (siT b t n kd τ).2.1 ∧ ((siT b t n kd τ).1 = true → τ.2.1 ≤ (siT b t n kd τ).2.1.1 ∧ okF n (siT b t n kd τ).2.2) := by
  unfold siT
  by_cases c8 : n < 8
  · rw [if_pos c8]
    dsimp only
    have h1 := cn_nx h
    have p1 := nx_p (b := b) h.1
    have o1 := ow_c (w := 7) (lo := nI 0) (hi := nI 59) (df := nI 0) h1
    have r1 := ow_r (b := b) (t := t) (w := 7) (lo := nI 0) (hi := nI 59) (df := nI 0) (τ := nxT b t τ)
    generalize owT b t 7 (nI 0) (nI 59) (nI 0) (nxT b t τ) = O1 at *
    by_cases k1 : O1.1 = true
    · rw [if_pos k1]
      have o2 := ow_c (w := 8) (lo := nI 0) (hi := nI n - nI 1) (df := -1) o1.1
      have r2 := ow_r (b := b) (t := t) (w := 8) (lo := nI 0) (hi := nI n - nI 1) (df := -1) (τ := O1.2.1)
      generalize owT b t 8 (nI 0) (nI n - nI 1) (-1) O1.2.1 = O2 at *
      by_cases k2 : O2.1 = true
      · rw [if_pos k2]
        have o3 := ow_c (w := 9) (lo := nI 0) (hi := nI 99) (df := nI 60) o2.1
        have r3 := ow_r (b := b) (t := t) (w := 9) (lo := nI 0) (hi := nI 99) (df := nI 60) (τ := O2.2.1)
        generalize owT b t 9 (nI 0) (nI 99) (nI 60) O2.2.1 = O3 at *
        by_cases k3 : O3.1 = true
        · rw [if_pos k3]
          have o4 := ow_c (w := 10) (lo := nI 0) (hi := nI 120) (df := nI 30) o3.1
          generalize owT b t 10 (nI 0) (nI 120) (nI 30) O3.2.1 = O4 at *
          by_cases k4 : O4.1 = true
          · rw [if_pos k4]
            have o5 := ow_c (w := 11) (lo := nI 1) (hi := nI 9) (df := nI 3) o4.1
            generalize owT b t 11 (nI 1) (nI 9) (nI 3) O4.2.1 = O5 at *
            by_cases k5 : O5.1 = true
            · rw [if_pos k5]
              refine ⟨o5.1, fun _ => ⟨?_, Or.inr (Or.inr ⟨c8, ⟨kd, by omega, rfl⟩, ?_, ?_, ?_⟩)⟩⟩
              · show τ.2.1 ≤ O5.2.1.1
                have a1 := o1.2
                have a2 := o2.2
                have a3 := o3.2
                have a4 := o4.2
                have a5 := o5.2
                omega
              · rcases r1 k1 with e | e
                · exact ⟨0, by omega, e⟩
                · exact wi_in (by decide) e
              · rcases r2 k2 with e | e
                · exact Or.inl e
                · obtain ⟨j, hj, e⟩ := wi_sz (by omega) e
                  exact Or.inr ⟨j, hj, e⟩
              · rcases r3 k3 with e | e
                · exact ⟨60, by omega, e⟩
                · exact wi_in (by decide) e
            · rw [if_neg k5]
              exact ⟨o5.1, fun w => by cases w⟩
          · rw [if_neg k4]
            exact ⟨o4.1, fun w => by cases w⟩
        · rw [if_neg k3]
          exact ⟨o3.1, fun w => by cases w⟩
      · rw [if_neg k2]
        exact ⟨o2.1, fun w => by cases w⟩
    · rw [if_neg k1]
      exact ⟨o1.1, fun w => by cases w⟩
  · rw [if_neg c8]
    exact ⟨h, fun w => by cases w⟩
theorem it_ok {b : Nat → Int32} {t n : Nat} {τ : tT} (h : cnT b t τ) (hn : n ≤ 8) : cnT b t (itT b t n τ).2.1 ∧ ((itT b t n τ).1 = true → τ.1 < (itT b t n τ).2.1.1 ∧ okF n (itT b t n τ).2.2) := by
  have h1 := cn_nx h
  have h2 := cn_nx h1
  have h3 := cn_nx h2
  have p1 := nx_p (b := b) h.1
  have p2 := nx_p (b := b) h1.1
  have p3 := nx_p (b := b) h2.1
  have q1 := h1.1.1
  have q2 := h2.1.1
  have adv : ∀ w, atT b τ w → τ.1 < τ.2.1 := fun w z => (h.1.2.2.2 (by rw [z.1]; decide)).2
  unfold itT
  by_cases c12 : atT b τ 12
  · rw [if_pos c12]
    have ad := adv 12 c12
    by_cases ca : nuT (nxT b t τ) (nI 0) (nI n - nI 1)
    · rw [if_pos ca]
      obtain ⟨a, ha, ea⟩ := nu_a hn ca
      exact ⟨h2, fun _ => ⟨by show τ.1 < (nxT b t (nxT b t τ)).1; omega, Or.inl ⟨rfl, a, ha, ea⟩⟩⟩
    · rw [if_neg ca]
      exact ⟨h1, fun w => by cases w⟩
  · rw [if_neg c12]
    by_cases c13 : atT b τ 13
    · rw [if_pos c13]
      have ad := adv 13 c13
      by_cases ca : nuT (nxT b t τ) (nI 0) (nI n - nI 1)
      · rw [if_pos ca]
        obtain ⟨a, ha, ea⟩ := nu_a hn ca
        by_cases cb : nuT (nxT b t (nxT b t τ)) (nI 1) (nI 99)
        · rw [if_pos cb]
          exact ⟨h3, fun _ => ⟨by show τ.1 < (nxT b t (nxT b t (nxT b t τ))).1; omega, Or.inr (Or.inl ⟨rfl, a, ha, ea⟩)⟩⟩
        · rw [if_neg cb]
          exact ⟨h2, fun w => by cases w⟩
      · rw [if_neg ca]
        exact ⟨h1, fun w => by cases w⟩
    · rw [if_neg c13]
      by_cases k7 : kwF b τ 7 < 7
      · rw [if_pos k7]
        have s := si_ok h k7 hn
        refine ⟨s.1, fun w => ⟨?_, (s.2 w).2⟩⟩
        have g := (s.2 w).1
        rcases kw_b (b := b) (τ := τ) 7 (Nat.le_refl 7) with ⟨z, _⟩ | ⟨_, _, z⟩
        · omega
        · have ad := adv _ z
          omega
      · rw [if_neg k7]
        exact ⟨h, fun w => by cases w⟩
theorem sz_8 {n : Nat} {f : Nat → Int32} (hn : n ≤ 8) (h : okF n f) : szN n f ≤ 8 := by
  unfold szN
  rcases h with ⟨e, _⟩ | ⟨e, _⟩ | ⟨h8, _⟩
  · rw [if_pos e]; exact hn
  · rw [e, if_neg (by decide +kernel), if_pos rfl]; exact hn
  · split
    · exact hn
    · split
      · exact hn
      · omega
theorem ok_kd {n kd : Nat} {f : Nat → Int32} (hk : kd ≤ 6) (e : f 0 = nI kd) (r : Nat → Int32) : szN n f = n + 1 ∧ apI n f r = upd (upd (upd (upd (adF n r (f 0) (f 1)) (14 + 10 * n + 2) (f 2)) (14 + 10 * n + 3) (f 3)) (14 + 10 * n + 4) (f 4)) (14 + 10 * n + 5) (f 5) := by
  have e1 : ¬ f 0 = nI 10 := by rw [e]; exact nx_ne (by omega) (by omega) (by decide)
  have e2 : ¬ f 0 = nI 11 := by rw [e]; exact nx_ne (by omega) (by omega) (by decide)
  unfold szN apI
  rw [if_neg e1, if_neg e2, if_neg e1, if_neg e2]
  exact ⟨rfl, rfl⟩
theorem ok_10 {n a : Nat} {f : Nat → Int32} (e : f 0 = nI 10) (ha : a < 2 ^ 31) (e1 : f 1 = nI a) (r : Nat → Int32) : szN n f = n ∧ apI n f r = upd r (14 + 10 * a + 6) (nI 1) := by
  unfold szN apI
  rw [if_pos e, if_pos e, e1, clN ha]
  exact ⟨rfl, rfl⟩
theorem ok_11 {n a : Nat} {f : Nat → Int32} (e : f 0 = nI 11) (ha : a < 2 ^ 31) (e1 : f 1 = nI a) (r : Nat → Int32) : szN n f = n ∧ apI n f r = upd r (14 + 10 * a + 7) (f 2) := by
  have e2 : ¬ f 0 = nI 10 := by rw [e]; decide +kernel
  unfold szN apI
  rw [if_neg e2, if_neg e2, if_pos e, if_pos e, e1, clN ha]
  exact ⟨rfl, rfl⟩
theorem RI_ap {n : Nat} {f r : Nat → Int32} (hr : RI n r) (h : okF n f) : RI (szN n f) (apI n f r) := by
  have hn := hr.1
  rcases h with ⟨e, a, ha, e1⟩ | ⟨e, a, ha, e1⟩ | ⟨h8, ⟨kd, hk, e⟩, h1, h2, h3⟩
  · rw [(ok_10 e (show a < 2 ^ 31 by omega) e1 r).1, (ok_10 e (show a < 2 ^ 31 by omega) e1 r).2]
    exact RI_u hr (by decide) (show inN 1 (nI 1) from ⟨1, by decide, rfl⟩)
  · rw [(ok_11 e (show a < 2 ^ 31 by omega) e1 r).1, (ok_11 e (show a < 2 ^ 31 by omega) e1 r).2]
    exact RI_u hr (by decide) (fok_t (by decide))
  · rw [(ok_kd hk e r).1, (ok_kd hk e r).2]
    refine RI_u (RI_u (RI_u (RI_u (RI_ad hr h8 ?_ h1) (by decide) ?_) (by decide) ?_) (by decide) (fok_t (by decide))) (by decide) (fok_t (by decide))
    · rw [e]; exact ⟨kd, hk, rfl⟩
    · show ans (n + 1) (f 2)
      rcases h2 with z | ⟨j, hj, z⟩
      · exact Or.inl z
      · exact Or.inr ⟨j, by omega, z⟩
    · exact h3
theorem ag_ap {n : Nat} {f r r' : Nat → Int32} (h : okF n f) (ha : ag n r r') : ag (szN n f) (apI n f r) (apI n f r') := by
  rcases h with ⟨e, a, hb, e1⟩ | ⟨e, a, hb, e1⟩ | ⟨h8, ⟨kd, hk, e⟩, h1, h2, h3⟩
  · unfold szN apI
    rw [if_pos e, if_pos e, if_pos e]
    exact ag_u ha rfl
  · have e2 : ¬ f 0 = nI 10 := by rw [e]; decide +kernel
    unfold szN apI
    rw [if_neg e2, if_neg e2, if_neg e2, if_pos e, if_pos e, if_pos e]
    exact ag_u ha rfl
  · rw [(ok_kd hk e r).1, (ok_kd hk e r).2, (ok_kd (n := n) hk e r').2]
    exact ag_u (ag_u (ag_u (ag_u (ag_ad ha) rfl) rfl) rfl) rfl
def prT (b : Nat → Int32) (t : Nat) : Nat → Nat → tT → Bool × tT × List (Nat → Int32)
  | 0, _, τ => (false, τ, [])
  | k + 1, n, τ =>
    if (itT b t n τ).1 = true then
      (if (itT b t n τ).2.1.2.2.1 = 0 then (true, (itT b t n τ).2.1, [(itT b t n τ).2.2])
       else if (itT b t n τ).2.1.2.2.1 = 3 then ((prT b t k (szN n (itT b t n τ).2.2) (nxT b t (itT b t n τ).2.1)).1, (prT b t k (szN n (itT b t n τ).2.2) (nxT b t (itT b t n τ).2.1)).2.1, (itT b t n τ).2.2 :: (prT b t k (szN n (itT b t n τ).2.2) (nxT b t (itT b t n τ).2.1)).2.2)
       else (false, (itT b t n τ).2.1, []))
    else (false, (itT b t n τ).2.1, [])
theorem pr_s (b : Nat → Int32) (t k n : Nat) (τ : tT) : prT b t (k + 1) n τ = if (itT b t n τ).1 = true then
      (if (itT b t n τ).2.1.2.2.1 = 0 then (true, (itT b t n τ).2.1, [(itT b t n τ).2.2])
       else if (itT b t n τ).2.1.2.2.1 = 3 then ((prT b t k (szN n (itT b t n τ).2.2) (nxT b t (itT b t n τ).2.1)).1, (prT b t k (szN n (itT b t n τ).2.2) (nxT b t (itT b t n τ).2.1)).2.1, (itT b t n τ).2.2 :: (prT b t k (szN n (itT b t n τ).2.2) (nxT b t (itT b t n τ).2.1)).2.2)
       else (false, (itT b t n τ).2.1, []))
    else (false, (itT b t n τ).2.1, []) := rfl
def apL : Nat → List (Nat → Int32) → (Nat → Int32) → (Nat → Int32)
  | _, [], r => r
  | n, f :: l, r => apL (szN n f) l (apI n f r)
def szL : Nat → List (Nat → Int32) → Nat
  | n, [] => n
  | n, f :: l => szL (szN n f) l
def okL : Nat → List (Nat → Int32) → Prop
  | _, [] => True
  | n, f :: l => okF n f ∧ okL (szN n f) l
theorem pr_ok {b : Nat → Int32} {t : Nat} : ∀ k n τ, cnT b t τ → n ≤ 8 → cnT b t (prT b t k n τ).2.1 ∧ okL n (prT b t k n τ).2.2 ∧ ((prT b t k n τ).1 = true → 1 ≤ (prT b t k n τ).2.2.length) := by
  intro k
  induction k with
  | zero => intro n τ h hn; exact ⟨h, trivial, fun w => by cases w⟩
  | succ k ih =>
    intro n τ h hn
    have io := it_ok h hn
    rw [pr_s]
    by_cases c : (itT b t n τ).1 = true
    · rw [if_pos c]
      have w := io.2 c
      by_cases c0 : (itT b t n τ).2.1.2.2.1 = 0
      · rw [if_pos c0]
        exact ⟨io.1, ⟨w.2, trivial⟩, fun _ => Nat.le_refl 1⟩
      · rw [if_neg c0]
        by_cases c3 : (itT b t n τ).2.1.2.2.1 = 3
        · rw [if_pos c3]
          have i := ih (szN n (itT b t n τ).2.2) (nxT b t (itT b t n τ).2.1) (cn_nx io.1) (sz_8 hn w.2)
          exact ⟨i.1, ⟨w.2, i.2.1⟩, fun _ => Nat.le_add_left 1 _⟩
        · rw [if_neg c3]
          exact ⟨io.1, trivial, fun w => by cases w⟩
    · rw [if_neg c]
      exact ⟨io.1, trivial, fun w => by cases w⟩
theorem apL_ok : ∀ l n r r', RI n r → ag n r r' → okL n l → RI (szL n l) (apL n l r) ∧ ag (szL n l) (apL n l r) (apL n l r') := by
  intro l
  induction l with
  | nil => intro n r r' h1 h2 _; exact ⟨h1, h2⟩
  | cons f l ih => intro n r r' h1 h2 h3; exact ih (szN n f) (apI n f r) (apI n f r') (RI_ap h1 h3.1) (ag_ap h3.1 h2) h3.2
