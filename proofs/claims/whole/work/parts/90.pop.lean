/-! counting bits by bytes -/
def mk8 (c : Nat) : Nat → Nat
  | 0 => 0
  | k + 1 => 256 * mk8 c k + c
theorem tb256 (A a i : Nat) (ha : a < 256) : (256 * A + a).testBit i = if i < 8 then a.testBit i else A.testBit (i - 8) := Nat.testBit_two_pow_mul_add (i := 8) A ha i
theorem land256 {A B a b : Nat} (ha : a < 256) (hb : b < 256) : (256 * A + a) &&& (256 * B + b) = 256 * (A &&& B) + (a &&& b) := by
  apply Nat.eq_of_testBit_eq
  intro i
  have hc : a &&& b < 256 := Nat.lt_of_le_of_lt Nat.and_le_left ha
  rw [Nat.testBit_and, tb256 A a i ha, tb256 B b i hb, tb256 (A &&& B) (a &&& b) i hc]
  split
  · rw [Nat.testBit_and]
  · rw [Nat.testBit_and]
def st1 (k m : Nat) : Nat := m - ((m / 2) &&& mk8 85 k)
def st2 (k m : Nat) : Nat := (m &&& mk8 51 k) + ((m / 4) &&& mk8 51 k)
def st3 (k m : Nat) : Nat := (m + m / 16) &&& mk8 15 k
theorem b1 : ∀ t, t < 2 → ∀ b, b < 256 → (128 * t + b / 2) &&& 85 = (b / 2) &&& 85 := by decide +kernel
theorem b2 : ∀ t, t < 4 → ∀ b, b < 256 → (64 * t + b / 4) &&& 51 = (b / 4) &&& 51 := by decide +kernel
theorem st1_s {k y b : Nat} (hb : b < 256) : st1 (k + 1) (256 * y + b) = 256 * st1 k y + (b - (b / 2 &&& 85)) := by
  unfold st1
  rw [show (256 * y + b) / 2 = 256 * (y / 2) + (128 * (y % 2) + b / 2) by omega, show mk8 85 (k + 1) = 256 * mk8 85 k + 85 from rfl, land256 (by omega) (by decide), b1 (y % 2) (by omega) b hb]
  have h1 : y / 2 &&& mk8 85 k ≤ y / 2 := Nat.and_le_left
  have h2 : b / 2 &&& 85 ≤ b / 2 := Nat.and_le_left
  omega
theorem st2_s {k y b : Nat} (hb : b < 256) : st2 (k + 1) (256 * y + b) = 256 * st2 k y + ((b &&& 51) + (b / 4 &&& 51)) := by
  unfold st2
  rw [show (256 * y + b) / 4 = 256 * (y / 4) + (64 * (y % 4) + b / 4) by omega, show mk8 51 (k + 1) = 256 * mk8 51 k + 51 from rfl, land256 hb (by decide), land256 (show 64 * (y % 4) + b / 4 < 256 by omega) (by decide), b2 (y % 4) (by omega) b hb]
  omega
def s12 (b : Nat) : Nat := ((b - (b / 2 &&& 85)) &&& 51) + ((b - (b / 2 &&& 85)) / 4 &&& 51)
theorem s12_k {k y b : Nat} (hb : b < 256) : st2 (k + 1) (st1 (k + 1) (256 * y + b)) = 256 * st2 k (st1 k y) + s12 b := by
  have h : b - (b / 2 &&& 85) < 256 := by omega
  rw [st1_s hb, st2_s h]
  rfl
theorem s12_b : ∀ b, b < 256 → s12 b ≤ 68 ∧ s12 b % 16 ≤ 4 := by decide +kernel
theorem s12_m {k y : Nat} : st2 k (st1 k y) % 16 ≤ 4 := by
  cases k with
  | zero =>
    have e : st2 0 (st1 0 y) = 0 := by simp [st2, mk8]
    rw [e]
    decide
  | succ k =>
    have h := s12_k (k := k) (y := y / 256) (b := y % 256) (by omega)
    rw [show 256 * (y / 256) + y % 256 = y by omega] at h
    have q := (s12_b (y % 256) (by omega)).2
    omega
theorem b3 : ∀ t, t ≤ 4 → ∀ s, s ≤ 68 → (s + (16 * t + s / 16)) &&& 15 = (s + s / 16) &&& 15 := by decide +kernel
theorem s3_pc : ∀ b, b < 256 → (s12 b + s12 b / 16) &&& 15 = pcN b := by decide +kernel
def tt (k m : Nat) : Nat := st3 k (st2 k (st1 k m))
theorem tt_s {k y b : Nat} (hb : b < 256) : tt (k + 1) (256 * y + b) = 256 * tt k y + pcN b := by
  unfold tt
  rw [s12_k hb]
  have h1 := s12_b b hb
  have h2 := s12_m (k := k) (y := y)
  generalize st2 k (st1 k y) = Y at h2
  unfold st3
  rw [show 256 * Y + s12 b + (256 * Y + s12 b) / 16 = 256 * (Y + Y / 16) + (s12 b + (16 * (Y % 16) + s12 b / 16)) by omega, show mk8 15 (k + 1) = 256 * mk8 15 k + 15 from rfl, land256 (by omega) (by decide), b3 (Y % 16) h2 (s12 b) h1.1, s3_pc b hb]
def pop : Nat → Nat → Nat
  | 0, _ => 0
  | k + 1, m => pop k (m / 256) + pcN (m % 256)
theorem tt_m {k m : Nat} : tt (k + 1) m = 256 * tt k (m / 256) + pcN (m % 256) := by
  have h := tt_s (k := k) (y := m / 256) (b := m % 256) (by omega)
  rw [show 256 * (m / 256) + m % 256 = m by omega] at h
  exact h
theorem pc_8 (m : Nat) : pcN (m % 256) ≤ 8 := Nat.le_of_lt_succ (pc8 _ (by omega))
theorem dvK {A K R T : Nat} (hT : T = A + K * R) (h : A < K) : T / K = R := by
  rw [hT, Nat.add_mul_div_left _ _ (by omega), Nat.div_eq_of_lt h, Nat.zero_add]
theorem fin_sum (c0 c1 c2 c3 c4 c5 c6 c7 T t1 t2 t3 : Nat) (h0 : c0 ≤ 8) (h1 : c1 ≤ 8) (h2 : c2 ≤ 8) (h3 : c3 ≤ 8) (h4 : c4 ≤ 8) (h5 : c5 ≤ 8) (h6 : c6 ≤ 8) (h7 : c7 ≤ 8) (hT : T = c0 + 256 * (c1 + 256 * (c2 + 256 * (c3 + 256 * (c4 + 256 * (c5 + 256 * (c6 + 256 * c7))))))) (e1 : t1 = T + T / 256) (e2 : t2 = t1 + t1 / 65536) (e3 : t3 = t2 + t2 / 4294967296) : t3 % 128 = c0 + c1 + c2 + c3 + c4 + c5 + c6 + c7 := by
  rw [dvK hT (by omega)] at e1
  have f1 : t1 = ((c0 + c1) + 256 * (c1 + c2)) + 65536 * ((c2 + c3) + 256 * (c3 + c4) + 65536 * ((c4 + c5) + 256 * (c5 + c6) + 65536 * ((c6 + c7) + 256 * c7))) := by
    rw [e1, hT]
    clear e1 e2 e3 hT h0 h1 h2 h3 h4 h5 h6 h7
    omega
  have a2 := dvK f1 (by clear f1 e1 e2 e3 hT; omega)
  rw [a2] at e2
  have f2 : t2 = ((c0 + c1 + c2 + c3) + 256 * (c1 + c2 + c3 + c4) + 65536 * (c2 + c3 + c4 + c5) + 16777216 * (c3 + c4 + c5 + c6)) + 4294967296 * ((c4 + c5 + c6 + c7) + 256 * (c5 + c6 + c7) + 65536 * (c6 + c7) + 16777216 * c7) := by
    rw [e2, f1]
    clear f1 a2 e1 e2 e3 hT h0 h1 h2 h3 h4 h5 h6 h7
    omega
  have a3 := dvK f2 (by clear f1 f2 a2 e1 e2 e3 hT; omega)
  rw [a3] at e3
  have f3 : t3 = (c0 + c1 + c2 + c3 + c4 + c5 + c6 + c7) + 128 * (2 * (c1 + c2 + c3 + c4 + c5 + c6 + c7) + 512 * (c2 + c3 + c4 + c5 + c6 + c7) + 131072 * (c3 + c4 + c5 + c6 + c7) + 33554432 * ((c4 + c5 + c6 + c7) + 256 * (c5 + c6 + c7) + 65536 * (c6 + c7) + 16777216 * c7)) := by
    rw [e3, f2]
    clear f1 f2 a2 a3 e1 e2 e3 hT h0 h1 h2 h3 h4 h5 h6 h7
    omega
  rw [f3, Nat.add_mul_mod_self_left]
  exact Nat.mod_eq_of_lt (by clear f1 f2 f3 a2 a3 e1 e2 e3 hT; omega)
abbrev lQ (m : Nat) : Int64 := Int64.ofNat m
theorem lQ_e {a b : Int64} (h : a.toBitVec.toNat = b.toBitVec.toNat) : a = b := Int64.toBitVec_inj.1 (BitVec.eq_of_toNat_eq h)
theorem lQ_n {m : Nat} (h : m < 2 ^ 64) : (lQ m).toBitVec.toNat = m := by
  show (BitVec.ofNat 64 m).toNat = m
  rw [BitVec.toNat_ofNat, Nat.mod_eq_of_lt h]
theorem lQ_and {a b : Nat} (ha : a < 2 ^ 64) (hb : b < 2 ^ 64) : lQ a &&& lQ b = lQ (a &&& b) := by
  apply lQ_e
  rw [Int64.toBitVec_and, BitVec.toNat_and, lQ_n ha, lQ_n hb, lQ_n (Nat.lt_of_le_of_lt Nat.and_le_left ha)]
theorem lQ_or {a b : Nat} (ha : a < 2 ^ 64) (hb : b < 2 ^ 64) : lQ a ||| lQ b = lQ (a ||| b) := by
  apply lQ_e
  rw [Int64.toBitVec_or, BitVec.toNat_or, lQ_n ha, lQ_n hb, lQ_n (Nat.or_lt_two_pow ha hb)]
theorem lQ_add (a b : Nat) : lQ a + lQ b = lQ (a + b) := (Int64.ofNat_add a b).symm
theorem lQ_sub {a b : Nat} (hb : b ≤ a) : lQ a - lQ b = lQ (a - b) := by
  have h := Int64.ofNat_add (a - b) b
  rw [Nat.sub_add_cancel hb] at h
  show Int64.ofNat a - _ = _
  rw [h, Int64.add_sub_cancel]
theorem sh_k : (nI 1).toInt64.toUInt64 &&& Int64.toUInt64 63 = 1 ∧ (nI 2).toInt64.toUInt64 &&& Int64.toUInt64 63 = 2 ∧ (nI 4).toInt64.toUInt64 &&& Int64.toUInt64 63 = 4 ∧ (nI 8).toInt64.toUInt64 &&& Int64.toUInt64 63 = 8 ∧ (nI 16).toInt64.toUInt64 &&& Int64.toUInt64 63 = 16 ∧ (nI 32).toInt64.toUInt64 &&& Int64.toUInt64 63 = 32 := by decide +kernel
theorem lQ_shr {m s : Nat} {u : UInt64} (hm : m < 2 ^ 64) (hs : s < 64) (hu : u.toNat = s) : ((lQ m).toUInt64 >>> u).toInt64 = lQ (m / 2 ^ s) := by
  apply lQ_e
  rw [lQ_n (Nat.lt_of_le_of_lt (Nat.div_le_self _ _) hm)]
  show ((lQ m).toUInt64 >>> u).toNat = _
  rw [UInt64.toNat_shiftRight, hu, Nat.mod_eq_of_lt hs, Nat.shiftRight_eq_div_pow]
  show (lQ m).toBitVec.toNat / _ = _
  rw [lQ_n hm]
theorem lQ_shl : ∀ d, d < 60 → (1 : Int64) <<< ((nI d).toInt64 &&& 63) = lQ (2 ^ d) := by decide +kernel
theorem l2i_127 {m : Nat} : (lQ m).toInt32 &&& nI 127 = nI (m % 128) := by
  apply Int32.toBitVec_inj.1
  apply BitVec.eq_of_toNat_eq
  rw [Int32.toBitVec_and, BitVec.toNat_and]
  have e1 : (lQ m).toInt32.toBitVec.toNat = m % 2 ^ 32 := by
    show ((BitVec.ofNat 64 m).signExtend 32).toNat = _
    rw [BitVec.signExtend_eq_setWidth_of_le _ (by decide), BitVec.toNat_setWidth, BitVec.toNat_ofNat]
    omega
  have e2 : (nI 127).toBitVec.toNat = 127 := by decide +kernel
  have e3 : (nI (m % 128)).toBitVec.toNat = m % 128 := by
    show (BitVec.ofNat 32 (m % 128)).toNat = _
    rw [BitVec.toNat_ofNat]
    omega
  rw [e1, e2, e3, show (127 : Nat) = 2 ^ 7 - 1 from rfl, Nat.and_two_pow_sub_one_eq_mod]
  omega
theorem s12_le {k : Nat} : ∀ y, st2 k (st1 k y) ≤ 68 * mk8 1 k := by
  induction k with
  | zero => intro y; have e : st2 0 (st1 0 y) = 0 := by simp [st2, mk8]
            rw [e]; exact Nat.zero_le _
  | succ k ih =>
    intro y
    have h := s12_k (k := k) (y := y / 256) (b := y % 256) (by omega)
    rw [show 256 * (y / 256) + y % 256 = y by omega] at h
    have q := (s12_b (y % 256) (by omega)).1
    have i := ih (y / 256)
    have m : mk8 1 (k + 1) = 256 * mk8 1 k + 1 := rfl
    omega
def cnB (p : Nat → Bool) : Nat → Nat
  | 0 => 0
  | k + 1 => cnB p k + (if p k then 1 else 0)
theorem cnB_le (p : Nat → Bool) : ∀ k, cnB p k ≤ k := by
  intro k
  induction k with
  | zero => exact Nat.le_refl _
  | succ k ih => show cnB p k + _ ≤ k + 1; split <;> omega
theorem cnB_c {p p' : Nat → Bool} : ∀ k, (∀ d, d < k → p d = p' d) → cnB p k = cnB p' k := by
  intro k
  induction k with
  | zero => intro _; rfl
  | succ k ih => intro h; show cnB p k + _ = cnB p' k + _; rw [ih (fun d hd => h d (by omega)), h k (by omega)]
theorem cnB_sp {p : Nat → Bool} (a : Nat) : ∀ k, cnB p (a + k) = cnB p a + cnB (fun d => p (a + d)) k := by
  intro k
  induction k with
  | zero => rfl
  | succ k ih => show cnB p (a + k) + (if p (a + k) then 1 else 0) = cnB p a + (cnB (fun d => p (a + d)) k + (if p (a + k) then 1 else 0)); rw [ih]; omega
theorem pc_cn : ∀ b, b < 256 → cnB (fun d => b.testBit d) 8 = pcN b := by decide +kernel
theorem pop_cn : ∀ k m, pop k m = cnB (fun d => m.testBit d) (8 * k) := by
  intro k
  induction k with
  | zero => intro m; rfl
  | succ k ih =>
    intro m
    show pop k (m / 256) + pcN (m % 256) = _
    rw [ih, show 8 * (k + 1) = 8 + 8 * k by omega, cnB_sp, ← pc_cn (m % 256) (by omega), Nat.add_comm]
    congr 1
    · refine cnB_c 8 (fun d hd => ?_)
      show (m % 2 ^ 8).testBit d = _
      rw [Nat.testBit_mod_two_pow]
      simp [hd]
    · refine cnB_c _ (fun d _ => ?_)
      show (m / 2 ^ 8).testBit d = _
      rw [Nat.testBit_div_two_pow, Nat.add_comm]
theorem pop60 {m : Nat} (h : m < 2 ^ 60) : pop 8 m = cnB (fun d => m.testBit d) 60 := by
  rw [pop_cn, show 8 * 8 = 60 + 4 from rfl, cnB_sp 60 4]
  have e : ∀ d, (m.testBit (60 + d)) = false := fun d => Nat.testBit_lt_two_pow (Nat.lt_of_lt_of_le h (Nat.pow_le_pow_right (by decide) (by omega)))
  have e0 : m.testBit 60 = false := e 0
  have e1 : m.testBit 61 = false := e 1
  have e2 : m.testBit 62 = false := e 2
  have e3 : m.testBit 63 = false := e 3
  simp [cnB, e0, e1, e2, e3]
theorem tt_sum {m T t1 t2 t3 : Nat} (hT : T = tt 8 m) (e1 : t1 = T + T / 256) (e2 : t2 = t1 + t1 / 65536) (e3 : t3 = t2 + t2 / 4294967296) : t3 % 128 = pop 8 m := by
  have z : ∀ m, tt 0 m = 0 := by intro m; simp [tt, st3, mk8]
  rw [tt_m, tt_m, tt_m, tt_m, tt_m, tt_m, tt_m, tt_m, z] at hT
  rw [fin_sum _ _ _ _ _ _ _ _ T t1 t2 t3 (pc_8 (m)) (pc_8 (m / 256)) (pc_8 (m / 256 / 256)) (pc_8 (m / 256 / 256 / 256)) (pc_8 (m / 256 / 256 / 256 / 256)) (pc_8 (m / 256 / 256 / 256 / 256 / 256)) (pc_8 (m / 256 / 256 / 256 / 256 / 256 / 256)) (pc_8 (m / 256 / 256 / 256 / 256 / 256 / 256 / 256)) (by rw [hT]; omega) e1 e2 e3]
  show _ = pop 0 _ + _ + _ + _ + _ + _ + _ + _ + _
  show _ = 0 + _ + _ + _ + _ + _ + _ + _ + _
  omega
theorem bc_k : (6148914691236517205 : Int64) = lQ (mk8 85 8) ∧ (3689348814741910323 : Int64) = lQ (mk8 51 8) ∧ (1085102592571150095 : Int64) = lQ (mk8 15 8) := by decide +kernel
theorem mk_k : mk8 85 8 < 2 ^ 64 ∧ mk8 51 8 < 2 ^ 62 ∧ mk8 15 8 < 2 ^ 60 ∧ 68 * mk8 1 8 < 2 ^ 63 := by decide +kernel
/-- the last sums, as numbers -/
theorem bq_all {m : Nat} (hm : m < 2 ^ 64) : ∃ s1 s2 T t1 t2 t3, s1 < 2 ^ 64 ∧ s2 < 2 ^ 63 ∧ T < 2 ^ 60 ∧ t1 < 2 ^ 61 ∧ t2 < 2 ^ 62 ∧ m / 2 &&& mk8 85 8 ≤ m ∧ s1 = m - (m / 2 &&& mk8 85 8) ∧ s2 = (s1 &&& mk8 51 8) + (s1 / 4 &&& mk8 51 8) ∧ T = (s2 + s2 / 16) &&& mk8 15 8 ∧ t1 = T + T / 256 ∧ t2 = t1 + t1 / 65536 ∧ t3 = t2 + t2 / 4294967296 ∧ t3 % 128 = pop 8 m := by
  have k := mk_k
  have l0 : m / 2 &&& mk8 85 8 ≤ m / 2 := Nat.and_le_left
  have l1 := s12_le (k := 8) m
  have l2 : tt 8 m ≤ mk8 15 8 := Nat.and_le_right
  refine ⟨st1 8 m, st2 8 (st1 8 m), tt 8 m, _, _, _, ?_, ?_, ?_, ?_, ?_, ?_, rfl, rfl, rfl, rfl, rfl, rfl, tt_sum rfl rfl rfl rfl⟩
  · unfold st1; omega
  · omega
  · omega
  · omega
  · omega
  · omega
