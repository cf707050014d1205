/-! counting bits by bytes -/
def mk8 (c : Nat) : Nat → Nat
  | 0 => 0
  | k + 1 => 256 * mk8 c k + c
theorem tb256 (A a i : Nat) (ha : a < 256) : (256 * A + a).testBit i = if i < 8 then a.testBit i else A.testBit (i - 8) := Nat.testBit_two_pow_mul_add (i := 8) A ha i
theorem land256 {A B a b : Nat} (ha : a < 256) (hb : b < 256) : (256 * A + a) &&& (256 * B + b) = 256 * (A &&& B) + (a &&& b) := by
  apply Nat.eq_of_testBit_eq
  intro i
  have hc : a &&& b < 256 := Nat.lt_of_le_of_lt Nat.and_le_left ha
  rw [Nat.testBit_and, tb256 A a i ha, tb256 B b i hb, tb256 (A &&& B) (a &&& b) i hc]
  split
  · rw [Nat.testBit_and]
  · rw [Nat.testBit_and]
def st1 (k m : Nat) : Nat := m - ((m / 2) &&& mk8 85 k)
def st2 (k m : Nat) : Nat := (m &&& mk8 51 k) + ((m / 4) &&& mk8 51 k)
def st3 (k m : Nat) : Nat := (m + m / 16) &&& mk8 15 k
theorem b1 : ∀ t, t < 2 → ∀ b, b < 256 → (128 * t + b / 2) &&& 85 = (b / 2) &&& 85 := by decide +kernel
theorem b2 : ∀ t, t < 4 → ∀ b, b < 256 → (64 * t + b / 4) &&& 51 = (b / 4) &&& 51 := by decide +kernel
theorem st1_s {k y b : Nat} (hb : b < 256) : st1 (k + 1) (256 * y + b) = 256 * st1 k y + (b - (b / 2 &&& 85)) := by
  unfold st1
  rw [show (256 * y + b) / 2 = 256 * (y / 2) + (128 * (y % 2) + b / 2) by omega, show mk8 85 (k + 1) = 256 * mk8 85 k + 85 from rfl, land256 (by omega) (by decide), b1 (y % 2) (by omega) b hb]
  have h1 : y / 2 &&& mk8 85 k ≤ y / 2 := Nat.and_le_left
  have h2 : b / 2 &&& 85 ≤ b / 2 := Nat.and_le_left
  omega
theorem st2_s {k y b : Nat} (hb : b < 256) : st2 (k + 1) (256 * y + b) = 256 * st2 k y + ((b &&& 51) + (b / 4 &&& 51)) := by
  unfold st2
  rw [show (256 * y + b) / 4 = 256 * (y / 4) + (64 * (y % 4) + b / 4) by omega, show mk8 51 (k + 1) = 256 * mk8 51 k + 51 from rfl, land256 hb (by decide), land256 (show 64 * (y % 4) + b / 4 < 256 by omega) (by decide), b2 (y % 4) (by omega) b hb]
  omega
def s12 (b : Nat) : Nat := ((b - (b / 2 &&& 85)) &&& 51) + ((b - (b / 2 &&& 85)) / 4 &&& 51)
theorem s12_k {k y b : Nat} (hb : b < 256) : st2 (k + 1) (st1 (k + 1) (256 * y + b)) = 256 * st2 k (st1 k y) + s12 b := by
  have h : b - (b / 2 &&& 85) < 256 := by omega
  rw [st1_s hb, st2_s h]
  rfl
theorem s12_b : ∀ b, b < 256 → s12 b ≤ 68 ∧ s12 b % 16 ≤ 4 := by decide +kernel
theorem s12_m {k y : Nat} : st2 k (st1 k y) % 16 ≤ 4 := by
  cases k with
  | zero =>
    have e : st2 0 (st1 0 y) = 0 := by simp [st2, mk8]
    rw [e]
    decide
  | succ k =>
    have h := s12_k (k := k) (y := y / 256) (b := y % 256) (by omega)
    rw [show 256 * (y / 256) + y % 256 = y by omega] at h
    have q := (s12_b (y % 256) (by omega)).2
    omega
theorem b3 : ∀ t, t ≤ 4 → ∀ s, s ≤ 68 → (s + (16 * t + s / 16)) &&& 15 = (s + s / 16) &&& 15 := by decide +kernel
theorem s3_pc : ∀ b, b < 256 → (s12 b + s12 b / 16) &&& 15 = pcN b := by decide +kernel
def tt (k m : Nat) : Nat := st3 k (st2 k (st1 k m))
theorem tt_s {k y b : Nat} (hb : b < 256) : tt (k + 1) (256 * y + b) = 256 * tt k y + pcN b := by
  unfold tt
  rw [s12_k hb]
  have h1 := s12_b b hb
  have h2 := s12_m (k := k) (y := y)
  generalize st2 k (st1 k y) = Y at h2
  unfold st3
  rw [show 256 * Y + s12 b + (256 * Y + s12 b) / 16 = 256 * (Y + Y / 16) + (s12 b + (16 * (Y % 16) + s12 b / 16)) by omega, show mk8 15 (k + 1) = 256 * mk8 15 k + 15 from rfl, land256 (by omega) (by decide), b3 (Y % 16) h2 (s12 b) h1.1, s3_pc b hb]
def pop : Nat → Nat → Nat
  | 0, _ => 0
  | k + 1, m => pop k (m / 256) + pcN (m % 256)
theorem tt_m {k m : Nat} : tt (k + 1) m = 256 * tt k (m / 256) + pcN (m % 256) := by
  have h := tt_s (k := k) (y := m / 256) (b := m % 256) (by omega)
  rw [show 256 * (m / 256) + m % 256 = m by omega] at h
  exact h
theorem pc_8 (m : Nat) : pcN (m % 256) ≤ 8 := Nat.le_of_lt_succ (pc8 _ (by omega))
theorem dvK {A K R T : Nat} (hT : T = A + K * R) (h : A < K) : T / K = R := by
  rw [hT, Nat.add_mul_div_left _ _ (by omega), Nat.div_eq_of_lt h, Nat.zero_add]
theorem fin_sum (c0 c1 c2 c3 c4 c5 c6 c7 T t1 t2 t3 : Nat) (h0 : c0 ≤ 8) (h1 : c1 ≤ 8) (h2 : c2 ≤ 8) (h3 : c3 ≤ 8) (h4 : c4 ≤ 8) (h5 : c5 ≤ 8) (h6 : c6 ≤ 8) (h7 : c7 ≤ 8) (hT : T = c0 + 256 * (c1 + 256 * (c2 + 256 * (c3 + 256 * (c4 + 256 * (c5 + 256 * (c6 + 256 * c7))))))) (e1 : t1 = T + T / 256) (e2 : t2 = t1 + t1 / 65536) (e3 : t3 = t2 + t2 / 4294967296) : t3 % 128 = c0 + c1 + c2 + c3 + c4 + c5 + c6 + c7 := by
  rw [dvK hT (by omega)] at e1
  have f1 : t1 = ((c0 + c1) + 256 * (c1 + c2)) + 65536 * ((c2 + c3) + 256 * (c3 + c4) + 65536 * ((c4 + c5) + 256 * (c5 + c6) + 65536 * ((c6 + c7) + 256 * c7))) := by
    rw [e1, hT]
    clear e1 e2 e3 hT h0 h1 h2 h3 h4 h5 h6 h7
    omega
  have a2 := dvK f1 (by clear f1 e1 e2 e3 hT; omega)
  rw [a2] at e2
  have f2 : t2 = ((c0 + c1 + c2 + c3) + 256 * (c1 + c2 + c3 + c4) + 65536 * (c2 + c3 + c4 + c5) + 16777216 * (c3 + c4 + c5 + c6)) + 4294967296 * ((c4 + c5 + c6 + c7) + 256 * (c5 + c6 + c7) + 65536 * (c6 + c7) + 16777216 * c7) := by
    rw [e2, f1]
    clear f1 a2 e1 e2 e3 hT h0 h1 h2 h3 h4 h5 h6 h7
    omega
  have a3 := dvK f2 (by clear f1 f2 a2 e1 e2 e3 hT; omega)
  rw [a3] at e3
  have f3 : t3 = (c0 + c1 + c2 + c3 + c4 + c5 + c6 + c7) + 128 * (2 * (c1 + c2 + c3 + c4 + c5 + c6 + c7) + 512 * (c2 + c3 + c4 + c5 + c6 + c7) + 131072 * (c3 + c4 + c5 + c6 + c7) + 33554432 * ((c4 + c5 + c6 + c7) + 256 * (c5 + c6 + c7) + 65536 * (c6 + c7) + 16777216 * c7)) := by
    rw [e3, f2]
    clear f1 f2 a2 a3 e1 e2 e3 hT h0 h1 h2 h3 h4 h5 h6 h7
    omega
  rw [f3, Nat.add_mul_mod_self_left]
  exact Nat.mod_eq_of_lt (by clear f1 f2 f3 a2 a3 e1 e2 e3 hT; omega)
