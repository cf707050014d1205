/-! the same singer is best both ways -/
def okA (f : Nat → Int32) (g : Int32) (n i k : Nat) (b m : Int32) : Prop :=
  (b = -1 ∧ m = g ∧ ∀ u, k ≤ u → u < n → u ≠ i → (f u).toInt < g.toInt) ∨
  (∃ w, k ≤ w ∧ w < n ∧ w ≠ i ∧ b = nI w ∧ m = f w ∧ g.toInt ≤ (f w).toInt ∧ ∀ u, k ≤ u → u < n → u ≠ i → (f u).toInt ≤ (f w).toInt ∧ (u < w → (f u).toInt < (f w).toInt))
theorem dsA_ok {f : Nat → Int32} {g : Int32} {n i : Nat} : ∀ k b m, k ≤ n → okA f g n i k b m → ∃ m', okA f g n i 0 (dsA f i k b m) m' := by
  intro k
  induction k with
  | zero => intro b m _ h; exact ⟨m, h⟩
  | succ k ih =>
    intro b m hk h
    rw [dsA_s]
    by_cases ci : k = i
    · rw [if_pos ci]
      refine ih b m (by omega) ?_
      rcases h with ⟨h1, h2, h3⟩ | ⟨w, w1, w2, w3, w4, w5, w6, w7⟩
      · exact Or.inl ⟨h1, h2, fun u a b c => h3 u (by omega) b c⟩
      · exact Or.inr ⟨w, by omega, w2, w3, w4, w5, w6, fun u a b c => w7 u (by omega) b c⟩
    · rw [if_neg ci]
      by_cases c : f k < m
      · rw [if_pos c]
        refine ih b m (by omega) ?_
        rw [Int32.lt_iff_toInt_lt] at c
        rcases h with ⟨h1, h2, h3⟩ | ⟨w, w1, w2, w3, w4, w5, w6, w7⟩
        · refine Or.inl ⟨h1, h2, fun u a b c' => ?_⟩
          by_cases e : u = k
          · subst e; rw [← h2]; exact c
          · exact h3 u (by omega) b c'
        · refine Or.inr ⟨w, by omega, w2, w3, w4, w5, w6, fun u a b c' => ?_⟩
          by_cases e : u = k
          · subst e; rw [w5] at c; exact ⟨by omega, fun _ => c⟩
          · exact w7 u (by omega) b c'
      · rw [if_neg c]
        refine ih (nI k) (f k) (by omega) ?_
        rw [Int32.lt_iff_toInt_lt] at c
        refine Or.inr ⟨k, by omega, by omega, ci, rfl, rfl, ?_, fun u a b' c' => ?_⟩
        · rcases h with ⟨h1, h2, h3⟩ | ⟨w, w1, w2, w3, w4, w5, w6, w7⟩
          · rw [h2] at c; omega
          · rw [w5] at c; omega
        · by_cases e : u = k
          · subst e; exact ⟨by omega, fun q => by omega⟩
          · refine ⟨?_, fun q => by omega⟩
            rcases h with ⟨h1, h2, h3⟩ | ⟨w, w1, w2, w3, w4, w5, w6, w7⟩
            · have := h3 u (by omega) b' c'
              rw [h2] at c; omega
            · have := (w7 u (by omega) b' c').1
              rw [w5] at c; omega
theorem okA_uq {f : Nat → Int32} {g : Int32} {n i : Nat} {b m b' m' : Int32} (h : okA f g n i 0 b m) (h' : okA f g n i 0 b' m') : b = b' := by
  rcases h with ⟨h1, h2, h3⟩ | ⟨w, w1, w2, w3, w4, w5, w6, w7⟩
  · rcases h' with ⟨k1, k2, k3⟩ | ⟨v, v1, v2, v3, v4, v5, v6, v7⟩
    · rw [h1, k1]
    · have := h3 v v1 v2 v3; omega
  · rcases h' with ⟨k1, k2, k3⟩ | ⟨v, v1, v2, v3, v4, v5, v6, v7⟩
    · have := k3 w w1 w2 w3; omega
    · have a := w7 v v1 v2 v3
      have b := v7 w w1 w2 w3
      have : w = v := by
        rcases Nat.lt_trichotomy w v with q | q | q
        · have := b.2 q; omega
        · exact q
        · have := a.2 q; omega
      rw [w4, v4, this]
def obA (f : Nat → Int32) (i v : Nat) (b m : Int32) : Prop :=
  (b = -1 ∧ m = -1 ∧ ∀ u, u < v → u = i) ∨ (∃ w, w < v ∧ w ≠ i ∧ b = nI w ∧ m = f w ∧ ∀ u, u < v → u ≠ i → (f u).toInt ≤ (f w).toInt ∧ (u < w → (f u).toInt < (f w).toInt))
theorem m1_int : (-1 : Int32).toInt = -1 := by decide +kernel
theorem asA_ok {F : Int32 → Int32} {n i : Nat} (hi : i < n) (hF : ∀ u, u < n → 0 ≤ (F (nI u)).toInt) (hG : 0 ≤ (F (-1)).toInt) : ∀ k v b m, v + k = n + 1 → v ≤ n → obA (fun u => F (nI u)) i v b m → ∃ m', okA (fun u => F (nI u)) (F (-1)) n i 0 (asA F n i k v b m) m' := by
  intro k
  induction k with
  | zero => intro v b m h hv _; omega
  | succ k ih =>
    intro v b m h hv ho
    rw [asA_s]
    by_cases ci : v = i
    · rw [if_pos ci]
      refine ih (v + 1) b m (by omega) (by omega) ?_
      rcases ho with ⟨h1, h2, h3⟩ | ⟨w, w2, w3, w4, w5, w7⟩
      · exact Or.inl ⟨h1, h2, fun u hu => if e : u = v then e.trans ci else h3 u (by omega)⟩
      · exact Or.inr ⟨w, by omega, w3, w4, w5, fun u a c => w7 u (by omega) c⟩
    · rw [if_neg ci]
      by_cases cn : v = n
      · subst cn
        have ek : k = 0 := by omega
        subst ek
        rw [show vA v v = -1 from if_pos rfl]
        by_cases c : m < F (-1)
        · rw [if_pos c]
          rw [Int32.lt_iff_toInt_lt] at c
          refine ⟨F (-1), Or.inl ⟨rfl, rfl, fun u _ hu hne => ?_⟩⟩
          rcases ho with ⟨h1, h2, h3⟩ | ⟨w, w2, w3, w4, w5, w7⟩
          · exact absurd (h3 u hu) hne
          · have := (w7 u hu hne).1
            rw [w5] at c
            show (F (nI u)).toInt < _
            dsimp only at this c
            omega
        · rw [if_neg c]
          rw [Int32.lt_iff_toInt_lt] at c
          rcases ho with ⟨h1, h2, h3⟩ | ⟨w, w2, w3, w4, w5, w7⟩
          · rw [h2, m1_int] at c; omega
          · refine ⟨m, Or.inr ⟨w, by omega, w2, w3, w4, w5, ?_, fun u _ hu hne => w7 u hu hne⟩⟩
            rw [w5] at c
            dsimp only at c ⊢
            omega
      · rw [show vA n v = nI v from if_neg cn]
        have h0 := hF v (by omega)
        by_cases c : m < F (nI v)
        · rw [if_pos c]
          rw [Int32.lt_iff_toInt_lt] at c
          refine ih (v + 1) _ _ (by omega) (by omega) (Or.inr ⟨v, by omega, ci, rfl, rfl, fun u hu hne => ?_⟩)
          by_cases e : u = v
          · subst e; exact ⟨by omega, fun q => by omega⟩
          · rcases ho with ⟨h1, h2, h3⟩ | ⟨w, w2, w3, w4, w5, w7⟩
            · exact absurd (h3 u (by omega)) hne
            · have := (w7 u (by omega) hne).1
              rw [w5] at c
              dsimp only at this c ⊢
              exact ⟨by omega, fun _ => by omega⟩
        · rw [if_neg c]
          rw [Int32.lt_iff_toInt_lt] at c
          refine ih (v + 1) b m (by omega) (by omega) ?_
          rcases ho with ⟨h1, h2, h3⟩ | ⟨w, w2, w3, w4, w5, w7⟩
          · rw [h2, m1_int] at c; omega
          · refine Or.inr ⟨w, by omega, w3, w4, w5, fun u hu hne => ?_⟩
            by_cases e : u = v
            · subst e
              rw [w5] at c
              dsimp only at c ⊢
              exact ⟨by omega, fun q => by omega⟩
            · exact w7 u (by omega) hne
