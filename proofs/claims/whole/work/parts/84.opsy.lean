/-! the days on which none sings -/
theorem lp_3 {f : Nat → (Nat → Int32) → (Nat → Int32)} (h : ∀ i r, f i r 3 = r 3) (k i : Nat) (r : Nat → Int32) : lp f k i r 3 = r 3 := by
  induction k generalizing i r with
  | zero => rfl
  | succ k ih => rw [lp_s, ih, h]
theorem soF_3 (r : Nat → Int32) (i : Nat) : soF r i 3 = r 3 := by
  unfold soF
  split
  · exact u_3 ..
  · rfl
theorem begF_3 (r : Nat → Int32) (i : Nat) : begF r i 3 = r 3 := by unfold begF; rw [u_3, u_3]
theorem ciF_3 (n : Nat) (e : Nat → Int32) (d : Int32) (i : Nat) (r : Nat → Int32) : ciF n e d i r 3 = r 3 := by
  unfold ciF liF
  repeat' split
  all_goals first | rfl | (simp only [begF_3, u_3])
theorem slF_3 (n : Nat) (z : Int32) (i : Nat) (r : Nat → Int32) : slF n z i r 3 = r 3 := by
  unfold slF
  split
  · rfl
  · exact u_3 ..
theorem goF_3 (i : Nat) (r : Nat → Int32) : goF i r 3 = r 3 := by
  unfold goF oldF
  split
  · rw [u_3, u_3]
  · rfl
theorem day_3 (n : Nat) (r : Nat → Int32) : dayR n r 3 = nI 0 ∨ dayR n r 3 = mn (r 3 + nI 1) (nI 99999) := by
  unfold dayR dyF
  try dsimp only
  have h1 : soR n r 3 = r 3 := lp_3 (fun i r => soF_3 r i) ..
  generalize soR n r = r1 at h1
  have h2 : lp (ciF n (seF r) (td r1)) n 0 r1 3 = r 3 := (lp_3 (fun i r => ciF_3 ..) ..).trans h1
  generalize lp (ciF n (seF r) (td r1)) n 0 r1 = r2 at h2
  have h3 : lp (slF n (sgS r2 n)) n 0 r2 3 = r 3 := (lp_3 (fun i r => slF_3 ..) ..).trans h2
  generalize lp (slF n (sgS r2 n)) n 0 r2 = r3 at h3
  have h4 : stF (sgS r2 n) r3 3 = nI 0 ∨ stF (sgS r2 n) r3 3 = mn (r 3 + nI 1) (nI 99999) := by
    show (if sgS r2 n = 0 then mn (r3 3 + nI 1) (nI 99999) else nI 0) = nI 0 ∨ (if sgS r2 n = 0 then mn (r3 3 + nI 1) (nI 99999) else nI 0) = _
    rw [h3]
    split
    · exact Or.inr rfl
    · exact Or.inl rfl
  generalize stF (sgS r2 n) r3 = r4 at h4
  have h5 : (if td r4 = nI 59 then lp goF n 0 r4 else r4) 3 = r4 3 := by
    split
    · exact lp_3 (fun i r => goF_3 ..) ..
    · rfl
  show (if td r4 = nI 59 then lp goF n 0 r4 else r4) 3 = nI 0 ∨ (if td r4 = nI 59 then lp goF n 0 r4 else r4) 3 = _
  rw [h5]
  exact h4
/-- from s still days on, no more than a day a day -/
theorem still_le {n : Nat} : ∀ k (r : Nat → Int32) s, r 3 = nI s → s ≤ 99999 → ∃ t, t ≤ s + k ∧ t ≤ 99999 ∧ itr (dayR n) k r 3 = nI t := by
  intro k
  induction k with
  | zero => intro r s h hs; exact ⟨s, by omega, hs, h⟩
  | succ k ih =>
    intro r s h hs
    rw [itr_s]
    rcases day_3 n r with e | e
    · obtain ⟨t, h1, h2, h3⟩ := ih (dayR n r) 0 e (by omega)
      exact ⟨t, by omega, h2, h3⟩
    · rw [h, nI_add, mn_N (by omega) (by omega)] at e
      obtain ⟨t, h1, h2, h3⟩ := ih (dayR n r) _ e (Nat.min_le_right _ _)
      exact ⟨t, by have := Nat.min_le_left (s + 1) 99999; omega, h2, h3⟩
