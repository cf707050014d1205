/-! THE CELLS ONCE ALL ARE MADE: rows of numbers (0 to 2 the squares, 3 to 5 the reference's), and all other numbers -/
abbrev aD : Type := aL → Nat → Int32
abbrev aS : Type := (Nat → Nat → Int32) × aD
def rf0 : List (Option aL) := [some (1, 0, 0), some (1, 1, 0), some (1, 2, 0), some (6, 0, 0), some (9, 0, 0), some (12, 0, 0), none]
def rf20 : List (Option aL) := [some (21, 0, 0), some (22, 0, 0), some (23, 0, 0), none, some (24, 0, 0), some (25, 0, 0), none, some (26, 0, 0), none, none, none, none, none, none, some (27, 0, 0), some (28, 0, 0), none, none, some (29, 0, 0), some (30, 0, 0), some (31, 0, 0), some (32, 0, 0)]
/-- which cell a place names -/
def rfs (r : aL) (k : Nat) : Option aL :=
  if r.1 = 0 then rf0.getD k none else if r.1 = 20 then rf20.getD k none
  else if r.1 = 1 then (if k = 0 then some (2, r.2.1, 0) else if k = 1 then some (3, r.2.1, 0) else none)
  else if r.1 = 2 then (if k < 8 then some (4, r.2.1, k) else some (98, 0, 0)) else if r.1 = 4 then (if k = 0 then some (5, r.2.1, r.2.2) else none)
  else if r.1 = 6 then (if k = 0 then some (7, 0, 0) else none) else if r.1 = 7 then (if k = 0 then some (8, 0, 0) else none)
  else if r.1 = 9 then (if k < 4 then some (10, k, 0) else some (98, 0, 0)) else if r.1 = 10 then (if k = 0 then some (11, r.2.1, 0) else none)
  else if r.1 = 27 then (if k < 7 then some (80, k, 0) else some (98, 0, 0)) else none
/-- 98 stands for no cell -/
def rvN (q : aL) : aV := if q.1 = 98 then aN else aR q
/-- which place of which row it is -/
def pl (r : aL) (k : Nat) : Option (Nat × Nat) :=
  if r.1 = 1 ∧ r.2.1 < 3 ∧ r.2.2 = 0 ∧ 2 ≤ k ∧ k ≤ 5 then some (r.2.1, if k = 2 then 1 else if k = 3 then 0 else if k = 4 then 3 else 2)
  else if r.1 = 3 ∧ r.2.1 < 3 ∧ r.2.2 = 0 ∧ k < 10 then some (r.2.1, 4 + k)
  else if r.1 = 5 ∧ r.2.1 < 3 ∧ k < 10 then some (r.2.1, 14 + 10 * r.2.2 + k)
  else if 21 ≤ r.1 ∧ r.1 ≤ 23 ∧ r.2 = (0, 0) then some (r.1 - 18, k) else none
def memv (S : aS) (r : aL) (k : Nat) : aV := match rfs r k with
  | some q => rvN q
  | none => match pl r k with
    | some z => aI (S.1 z.1 z.2)
    | none => aI (S.2 r k)
def mem (S : aS) : aM := (84, memv S)
def uq (q : Nat → Nat → Int32) (a p : Nat) (x : Int32) : Nat → Nat → Int32 := fun a' p' => if a' = a ∧ p' = p then x else q a' p'
def uD (D : aD) (r : aL) (k : Nat) (x : Int32) : aD := fun r' k' => if r' = r ∧ k' = k then x else D r' k'
theorem pl_inj {r r' : aL} {k k' : Nat} {z : Nat × Nat} (h : pl r k = some z) (h' : pl r' k' = some z) : r = r' ∧ k = k' := by
  obtain ⟨t, a, b⟩ := r
  obtain ⟨t', a', b'⟩ := r'
  obtain ⟨z1, z2⟩ := z
  unfold pl at h h'
  dsimp only at h h'
  split at h
  · rename_i c
    have h := Option.some.inj h
    rw [Prod.mk.injEq] at h
    split at h'
    · rename_i c'
      have h' := Option.some.inj h'
      rw [Prod.mk.injEq] at h'
      rw [Prod.mk.injEq, Prod.mk.injEq]
      have e : ∀ u v : Nat, 2 ≤ u → u ≤ 5 → 2 ≤ v → v ≤ 5 → (if u = 2 then 1 else if u = 3 then 0 else if u = 4 then 3 else 2) = (if v = 2 then 1 else if v = 3 then 0 else if v = 4 then 3 else 2) → u = v := by
        intro u v h1 h2 h3 h4 h5
        rcases (show u = 2 ∨ u = 3 ∨ u = 4 ∨ u = 5 by omega) with rfl | rfl | rfl | rfl <;> rcases (show v = 2 ∨ v = 3 ∨ v = 4 ∨ v = 5 by omega) with rfl | rfl | rfl | rfl <;> first | rfl | (simp at h5)
      have := e k k' c.2.2.2.1 c.2.2.2.2 c'.2.2.2.1 c'.2.2.2.2 (by omega)
      omega
    · have e : (if k = 2 then 1 else if k = 3 then 0 else if k = 4 then 3 else 2) < 4 := by
        split
        · omega
        · split
          · omega
          · split <;> omega
      split at h'
      · have h' := Option.some.inj h'
        rw [Prod.mk.injEq] at h'
        omega
      · split at h'
        · have h' := Option.some.inj h'
          rw [Prod.mk.injEq] at h'
          omega
        · split at h'
          · have h' := Option.some.inj h'
            rw [Prod.mk.injEq] at h'
            omega
          · cases h'
  · split at h
    · rename_i c
      have h := Option.some.inj h
      rw [Prod.mk.injEq] at h
      split at h'
      · have h' := Option.some.inj h'
        rw [Prod.mk.injEq] at h'
        have e : (if k' = 2 then 1 else if k' = 3 then 0 else if k' = 4 then 3 else 2) < 4 := by
          split
          · omega
          · split
            · omega
            · split <;> omega
        omega
      · split at h'
        · have h' := Option.some.inj h'
          rw [Prod.mk.injEq] at h'
          rw [Prod.mk.injEq, Prod.mk.injEq]
          omega
        · split at h'
          · have h' := Option.some.inj h'
            rw [Prod.mk.injEq] at h'
            omega
          · split at h'
            · have h' := Option.some.inj h'
              rw [Prod.mk.injEq] at h'
              omega
            · cases h'
    · split at h
      · rename_i c
        have h := Option.some.inj h
        rw [Prod.mk.injEq] at h
        split at h'
        · have h' := Option.some.inj h'
          rw [Prod.mk.injEq] at h'
          have e : (if k' = 2 then 1 else if k' = 3 then 0 else if k' = 4 then 3 else 2) < 4 := by
            split
            · omega
            · split
              · omega
              · split <;> omega
          omega
        · split at h'
          · have h' := Option.some.inj h'
            rw [Prod.mk.injEq] at h'
            omega
          · split at h'
            · have h' := Option.some.inj h'
              rw [Prod.mk.injEq] at h'
              rw [Prod.mk.injEq, Prod.mk.injEq]
              omega
            · split at h'
              · have h' := Option.some.inj h'
                rw [Prod.mk.injEq] at h'
                omega
              · cases h'
      · split at h
        · rename_i c
          have h := Option.some.inj h
          rw [Prod.mk.injEq] at h
          split at h'
          · have h' := Option.some.inj h'
            rw [Prod.mk.injEq] at h'
            omega
          · split at h'
            · have h' := Option.some.inj h'
              rw [Prod.mk.injEq] at h'
              omega
            · split at h'
              · have h' := Option.some.inj h'
                rw [Prod.mk.injEq] at h'
                omega
              · split at h'
                · rename_i c'
                  have h' := Option.some.inj h'
                  rw [Prod.mk.injEq] at h'
                  have e1 : (a, b) = (0, 0) := c.2.2
                  have e2 : (a', b') = (0, 0) := c'.2.2
                  rw [Prod.mk.injEq] at e1 e2
                  rw [Prod.mk.injEq, Prod.mk.injEq]
                  omega
                · cases h'
        · cases h
theorem wr_q {S : aS} {r : aL} {k a p : Nat} {x : Int32} (h1 : rfs r k = none) (h2 : pl r k = some (a, p)) : wr (mem S) r k (aI x) = mem (uq S.1 a p x, S.2) := by
  unfold wr mem
  congr 1
  funext r' k'
  by_cases h : r' = r ∧ k' = k
  · rw [if_pos h]
    obtain ⟨rfl, rfl⟩ := h
    simp only [memv, h1, h2, uq, and_self, if_true]
  · rw [if_neg h]
    simp only [memv]
    cases rfs r' k' with
    | some q => rfl
    | none => cases hp : pl r' k' with
      | none => rfl
      | some z =>
        simp only [uq]
        rw [if_neg]
        rintro ⟨rfl, rfl⟩
        obtain ⟨e1, e2⟩ := pl_inj hp h2
        exact h ⟨e1, e2⟩
theorem wr_D {S : aS} {r : aL} {k : Nat} {x : Int32} (h1 : rfs r k = none) (h2 : pl r k = none) : wr (mem S) r k (aI x) = mem (S.1, uD S.2 r k x) := by
  unfold wr mem
  congr 1
  funext r' k'
  by_cases h : r' = r ∧ k' = k
  · rw [if_pos h]
    obtain ⟨rfl, rfl⟩ := h
    simp only [memv, h1, h2, uD, and_self, if_true]
  · rw [if_neg h]
    simp only [memv]
    cases rfs r' k' with
    | some q => rfl
    | none => cases hp : pl r' k' with
      | some z => rfl
      | none => simp only [uD, if_neg h]
-- runs and calls
noncomputable def go (X : aX) (m pc : Nat) (la : aLs) (st : List aV) (M : aM) : aO := rn (pg X) mx m pc la st M
noncomputable def cl (X : aX) (m : Nat) (as : List aV) (M : aM) : aO := if cs as ≤ mx m then go X m 0 (ent (mx m) as) [] M else none
noncomputable def kC (X : aX) (m : Nat) (o : Option aC) : aO := match o with
  | none => none
  | some (pc, la, st, M) => go X m pc la st M
def bnd (o : aO) (f : Option aV → aM → aO) : aO := match o with
  | none => none
  | some (v, M) => f v M
noncomputable def kK (X : aX) (m m2 n nx rc : Nat) (la : aLs) (st : List aV) (M : aM) : aO := if cok M rc n st then bnd (cl X m2 (st.take n).reverse M) (fun v M2 => go X m nx la (psh v (st.drop n)) M2) else none
theorem kC_some (X : aX) (m pc : Nat) (la : aLs) (st : List aV) (M : aM) : kC X m (some (pc, la, st, M)) = go X m pc la st M := rfl
theorem kC_none (X : aX) (m : Nat) : kC X m none = none := rfl
theorem bnd_some (v : Option aV) (M : aM) (f : Option aV → aM → aO) : bnd (some (v, M)) f = f v M := rfl
theorem evC {X : aX} {m pc : Nat} {f : cT} (h : pg X m pc = .inl f) (la : aLs) (st : List aV) (M : aM) : go X m pc la st M = kC X m (f la st M) := by
  unfold go
  rw [rn_eq]
  unfold sF
  rw [h]
  dsimp only
  cases f la st M with
  | none => rfl
  | some q => rfl
theorem evR {X : aX} {m pc : Nat} {g : rT} (h : pg X m pc = .inr (.inr g)) (la : aLs) (st : List aV) (M : aM) : go X m pc la st M = g st M := by
  unfold go
  rw [rn_eq]
  unfold sF
  rw [h]
theorem cs_take_rev (n : Nat) (st : List aV) : cs (st.take n).reverse = cs (st.take n) := by
  have e : ∀ a b : List aV, cs (a ++ b) = cs a + cs b := by
    intro a b
    induction a with
    | nil => simp [cs]
    | cons x r ihr => show ac x + cs (r ++ b) = ac x + cs r + cs b; rw [ihr]; omega
  generalize st.take n = a
  induction a with
  | nil => rfl
  | cons x r ihr => rw [List.reverse_cons, e, ihr]; show cs r + (ac x + 0) = ac x + cs r; omega
theorem evK {X : aX} {m pc m2 n nx rc : Nat} (h : pg X m pc = .inr (.inl (m2, n, nx, rc))) (la : aLs) (st : List aV) (M : aM) : go X m pc la st M = kK X m m2 n nx rc la st M := by
  have e1 : go X m pc la st M = rn (pg X) mx m pc la st M := rfl
  rw [e1, rn_eq]
  unfold sF
  rw [h]
  dsimp only
  unfold kK cl
  rw [cs_take_rev]
  by_cases h1 : cok M rc n st = true
  · by_cases h2 : cs (st.take n) ≤ mx m2
    · rw [if_pos (by simp [h1, h2]), if_pos h1, if_pos h2]
      unfold go
      cases rn (pg X) mx m2 0 (ent (mx m2) (st.take n).reverse) [] M with
      | none => rfl
      | some q => rfl
    · rw [if_neg (by simp [h2]), if_pos h1, if_neg h2]
      rfl
  · rw [if_neg (by simp [h1]), if_neg h1]
