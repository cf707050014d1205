/-! THE ROWS OVER LISTS THAT ARE WRITTEN OUT -/
def nl (a : Option aV) : Bool := match a with
  | some (.inr (.inl _)) => false
  | _ => true
theorem clr_nl {la : aLs} {j : Nat} {a : Option aV} (h : la[j]? = some a) (hn : nl a = true) : clr la (j + 1) = la := by
  unfold clr
  dsimp only
  split
  · rename_i x hx
    rw [h] at hx
    cases hx
    cases hn
  · rfl
theorem inb_nI {j n : Nat} (h : j < n) (hn : n < 2 ^ 31) : inb (nI j) n = true := by
  unfold inb
  rw [nI_toInt (by omega)]
  simp
  omega
theorem aln_m {X : aX} {M : aM} {r : aL} {n : Nat} (h : r.1 < 80) (hv : vld M r = true) (hs : shp r = (1, n)) : aln X M r = some n := by
  unfold aln
  rw [if_pos h, hv, hs]
  rfl
theorem ard_m {X : aX} {M : aM} {r : aL} {j : Nat} (h : r.1 < 80) : ard X M r j = iv (M.2 r j) := by
  unfold ard
  rw [if_pos h]
theorem nl_n  : nl none = true := rfl
theorem nl_i {x : Int32} : nl (some (aI x)) = true := rfl
theorem nl_r {x : aL} : nl (some (aR x)) = true := rfl
theorem xi0 {X : aX} {m nx : Nat} {st : List aV} {M : aM} {x : Int32} {la : aLs} : kC X m (i_ldi 0 nx (some (aI x) :: la) st M) = go X m nx (some (aI x) :: la) (aI x :: st) M := rfl
theorem xa0 {X : aX} {m nx : Nat} {st : List aV} {M : aM} {r : aL} {la : aLs} (h : r.1 < 95) : kC X m (i_lda 0 nx (some (aR r) :: la) st M) = go X m nx (some (aR r) :: la) (aR r :: st) M := by
  show kC X m (if r.1 < 95 then _ else _) = _
  rw [if_pos h]
  rfl
theorem xj0 {X : aX} {m nx : Nat} {st : List aV} {M : aM} {x : Int64} {la : aLs} : kC X m (i_ldj 0 nx (some (aJ x) :: la) st M) = go X m nx (some (aJ x) :: la) (aJ x :: st) M := rfl
theorem xs0 {X : aX} {m nx : Nat} {st : List aV} {M : aM} {b : Option aV} {la : aLs} {x : Int32} : kC X m (i_sti 0 nx (b :: la) (aI x :: st) M) = go X m nx (some (aI x) :: la) st M := by
  unfold i_sti
  dsimp only
  rw [if_pos (by simp)]
  rfl
theorem xb0 {X : aX} {m nx : Nat} {st : List aV} {M : aM} {b : Option aV} {la : aLs} {x : aL} (h2 : x.1 < 95) : kC X m (i_sta 0 nx (b :: la) (aR x :: st) M) = go X m nx (some (aR x) :: la) st M := by
  unfold i_sta
  dsimp only
  rw [if_pos (by exact ⟨by simp, h2⟩)]
  rfl
theorem xn0 {X : aX} {m nx : Nat} {st : List aV} {M : aM} {la : aLs} {x v : Int32} : kC X m (i_inc 0 v nx (some (aI x) :: la) st M) = go X m nx (some (aI (x + v)) :: la) st M := by
  show go X m nx (stL (some (aI x) :: la) 0 (aI (x + v))) st M = _
  rfl
theorem xt0 {X : aX} {m nx : Nat} {st : List aV} {M : aM} {b b2 : Option aV} {la : aLs} {x : Int64} : kC X m (i_stj 0 nx (b :: b2 :: la) (aJ x :: st) M) = go X m nx (some (aJ x) :: none :: la) st M := by
  unfold i_stj
  dsimp only
  rw [if_pos (by simp)]
  rw [kC_some]
  rfl
theorem xi1 {X : aX} {m nx : Nat} {st : List aV} {M : aM} {a0 : Option aV} {x : Int32} {la : aLs} : kC X m (i_ldi 1 nx (a0 :: some (aI x) :: la) st M) = go X m nx (a0 :: some (aI x) :: la) (aI x :: st) M := rfl
theorem xa1 {X : aX} {m nx : Nat} {st : List aV} {M : aM} {a0 : Option aV} {r : aL} {la : aLs} (h : r.1 < 95) : kC X m (i_lda 1 nx (a0 :: some (aR r) :: la) st M) = go X m nx (a0 :: some (aR r) :: la) (aR r :: st) M := by
  show kC X m (if r.1 < 95 then _ else _) = _
  rw [if_pos h]
  rfl
theorem xj1 {X : aX} {m nx : Nat} {st : List aV} {M : aM} {a0 : Option aV} {x : Int64} {la : aLs} : kC X m (i_ldj 1 nx (a0 :: some (aJ x) :: la) st M) = go X m nx (a0 :: some (aJ x) :: la) (aJ x :: st) M := rfl
theorem xs1 {X : aX} {m nx : Nat} {st : List aV} {M : aM} {a0 : Option aV} {b : Option aV} {la : aLs} {x : Int32} (h : nl a0 = true) : kC X m (i_sti 1 nx (a0 :: b :: la) (aI x :: st) M) = go X m nx (a0 :: some (aI x) :: la) st M := by
  unfold i_sti
  dsimp only
  rw [if_pos (by simp)]
  rw [kC_some]
  unfold stL
  rw [clr_nl (la := a0 :: b :: la) (j := 0) (a := a0) rfl h]
  rfl
theorem xs1n {X : aX} {m nx : Nat} {st : List aV} {M : aM}  {b : Option aV} {la : aLs} {x : Int32} : kC X m (i_sti 1 nx (none :: b :: la) (aI x :: st) M) = go X m nx (none :: some (aI x) :: la) st M := xs1 nl_n
theorem xs1i {X : aX} {m nx : Nat} {st : List aV} {M : aM}  {b : Option aV} {la : aLs} {x : Int32} {z : Int32} : kC X m (i_sti 1 nx ((some (aI z)) :: b :: la) (aI x :: st) M) = go X m nx ((some (aI z)) :: some (aI x) :: la) st M := xs1 nl_i
theorem xs1r {X : aX} {m nx : Nat} {st : List aV} {M : aM}  {b : Option aV} {la : aLs} {x : Int32} {z : aL} : kC X m (i_sti 1 nx ((some (aR z)) :: b :: la) (aI x :: st) M) = go X m nx ((some (aR z)) :: some (aI x) :: la) st M := xs1 nl_r
theorem xb1 {X : aX} {m nx : Nat} {st : List aV} {M : aM} {a0 : Option aV} {b : Option aV} {la : aLs} {x : aL} (h : nl a0 = true) (h2 : x.1 < 95) : kC X m (i_sta 1 nx (a0 :: b :: la) (aR x :: st) M) = go X m nx (a0 :: some (aR x) :: la) st M := by
  unfold i_sta
  dsimp only
  rw [if_pos (by exact ⟨by simp, h2⟩)]
  rw [kC_some]
  unfold stL
  rw [clr_nl (la := a0 :: b :: la) (j := 0) (a := a0) rfl h]
  rfl
theorem xb1n {X : aX} {m nx : Nat} {st : List aV} {M : aM}  {b : Option aV} {la : aLs} {x : aL} (h2 : x.1 < 95) : kC X m (i_sta 1 nx (none :: b :: la) (aR x :: st) M) = go X m nx (none :: some (aR x) :: la) st M := xb1 nl_n h2
theorem xb1i {X : aX} {m nx : Nat} {st : List aV} {M : aM}  {b : Option aV} {la : aLs} {x : aL} (h2 : x.1 < 95) {z : Int32} : kC X m (i_sta 1 nx ((some (aI z)) :: b :: la) (aR x :: st) M) = go X m nx ((some (aI z)) :: some (aR x) :: la) st M := xb1 nl_i h2
theorem xb1r {X : aX} {m nx : Nat} {st : List aV} {M : aM}  {b : Option aV} {la : aLs} {x : aL} (h2 : x.1 < 95) {z : aL} : kC X m (i_sta 1 nx ((some (aR z)) :: b :: la) (aR x :: st) M) = go X m nx ((some (aR z)) :: some (aR x) :: la) st M := xb1 nl_r h2
theorem xn1 {X : aX} {m nx : Nat} {st : List aV} {M : aM} {a0 : Option aV} {la : aLs} {x v : Int32} (h : nl a0 = true) : kC X m (i_inc 1 v nx (a0 :: some (aI x) :: la) st M) = go X m nx (a0 :: some (aI (x + v)) :: la) st M := by
  show go X m nx (stL (a0 :: some (aI x) :: la) 1 (aI (x + v))) st M = _
  unfold stL
  rw [clr_nl (la := a0 :: some (aI x) :: la) (j := 0) (a := a0) rfl h]
  rfl
theorem xn1n {X : aX} {m nx : Nat} {st : List aV} {M : aM}  {la : aLs} {x v : Int32} : kC X m (i_inc 1 v nx (none :: some (aI x) :: la) st M) = go X m nx (none :: some (aI (x + v)) :: la) st M := xn1 nl_n
theorem xn1i {X : aX} {m nx : Nat} {st : List aV} {M : aM}  {la : aLs} {x v : Int32} {z : Int32} : kC X m (i_inc 1 v nx ((some (aI z)) :: some (aI x) :: la) st M) = go X m nx ((some (aI z)) :: some (aI (x + v)) :: la) st M := xn1 nl_i
theorem xn1r {X : aX} {m nx : Nat} {st : List aV} {M : aM}  {la : aLs} {x v : Int32} {z : aL} : kC X m (i_inc 1 v nx ((some (aR z)) :: some (aI x) :: la) st M) = go X m nx ((some (aR z)) :: some (aI (x + v)) :: la) st M := xn1 nl_r
theorem xt1 {X : aX} {m nx : Nat} {st : List aV} {M : aM} {a0 : Option aV} {b b2 : Option aV} {la : aLs} {x : Int64} (h : nl a0 = true) : kC X m (i_stj 1 nx (a0 :: b :: b2 :: la) (aJ x :: st) M) = go X m nx (a0 :: some (aJ x) :: none :: la) st M := by
  unfold i_stj
  dsimp only
  rw [if_pos (by simp)]
  rw [kC_some]
  unfold stJ
  rw [clr_nl (la := a0 :: b :: b2 :: la) (j := 0) (a := a0) rfl h]
  rfl
theorem xt1n {X : aX} {m nx : Nat} {st : List aV} {M : aM}  {b b2 : Option aV} {la : aLs} {x : Int64} : kC X m (i_stj 1 nx (none :: b :: b2 :: la) (aJ x :: st) M) = go X m nx (none :: some (aJ x) :: none :: la) st M := xt1 nl_n
theorem xt1i {X : aX} {m nx : Nat} {st : List aV} {M : aM}  {b b2 : Option aV} {la : aLs} {x : Int64} {z : Int32} : kC X m (i_stj 1 nx ((some (aI z)) :: b :: b2 :: la) (aJ x :: st) M) = go X m nx ((some (aI z)) :: some (aJ x) :: none :: la) st M := xt1 nl_i
theorem xt1r {X : aX} {m nx : Nat} {st : List aV} {M : aM}  {b b2 : Option aV} {la : aLs} {x : Int64} {z : aL} : kC X m (i_stj 1 nx ((some (aR z)) :: b :: b2 :: la) (aJ x :: st) M) = go X m nx ((some (aR z)) :: some (aJ x) :: none :: la) st M := xt1 nl_r
theorem xi2 {X : aX} {m nx : Nat} {st : List aV} {M : aM} {a0 a1 : Option aV} {x : Int32} {la : aLs} : kC X m (i_ldi 2 nx (a0 :: a1 :: some (aI x) :: la) st M) = go X m nx (a0 :: a1 :: some (aI x) :: la) (aI x :: st) M := rfl
theorem xa2 {X : aX} {m nx : Nat} {st : List aV} {M : aM} {a0 a1 : Option aV} {r : aL} {la : aLs} (h : r.1 < 95) : kC X m (i_lda 2 nx (a0 :: a1 :: some (aR r) :: la) st M) = go X m nx (a0 :: a1 :: some (aR r) :: la) (aR r :: st) M := by
  show kC X m (if r.1 < 95 then _ else _) = _
  rw [if_pos h]
  rfl
theorem xj2 {X : aX} {m nx : Nat} {st : List aV} {M : aM} {a0 a1 : Option aV} {x : Int64} {la : aLs} : kC X m (i_ldj 2 nx (a0 :: a1 :: some (aJ x) :: la) st M) = go X m nx (a0 :: a1 :: some (aJ x) :: la) (aJ x :: st) M := rfl
theorem xs2 {X : aX} {m nx : Nat} {st : List aV} {M : aM} {a0 a1 : Option aV} {b : Option aV} {la : aLs} {x : Int32} (h : nl a1 = true) : kC X m (i_sti 2 nx (a0 :: a1 :: b :: la) (aI x :: st) M) = go X m nx (a0 :: a1 :: some (aI x) :: la) st M := by
  unfold i_sti
  dsimp only
  rw [if_pos (by simp)]
  rw [kC_some]
  unfold stL
  rw [clr_nl (la := a0 :: a1 :: b :: la) (j := 1) (a := a1) rfl h]
  rfl
theorem xs2n {X : aX} {m nx : Nat} {st : List aV} {M : aM} {a0 : Option aV} {b : Option aV} {la : aLs} {x : Int32} : kC X m (i_sti 2 nx (a0 :: none :: b :: la) (aI x :: st) M) = go X m nx (a0 :: none :: some (aI x) :: la) st M := xs2 nl_n
theorem xs2i {X : aX} {m nx : Nat} {st : List aV} {M : aM} {a0 : Option aV} {b : Option aV} {la : aLs} {x : Int32} {z : Int32} : kC X m (i_sti 2 nx (a0 :: (some (aI z)) :: b :: la) (aI x :: st) M) = go X m nx (a0 :: (some (aI z)) :: some (aI x) :: la) st M := xs2 nl_i
theorem xs2r {X : aX} {m nx : Nat} {st : List aV} {M : aM} {a0 : Option aV} {b : Option aV} {la : aLs} {x : Int32} {z : aL} : kC X m (i_sti 2 nx (a0 :: (some (aR z)) :: b :: la) (aI x :: st) M) = go X m nx (a0 :: (some (aR z)) :: some (aI x) :: la) st M := xs2 nl_r
theorem xb2 {X : aX} {m nx : Nat} {st : List aV} {M : aM} {a0 a1 : Option aV} {b : Option aV} {la : aLs} {x : aL} (h : nl a1 = true) (h2 : x.1 < 95) : kC X m (i_sta 2 nx (a0 :: a1 :: b :: la) (aR x :: st) M) = go X m nx (a0 :: a1 :: some (aR x) :: la) st M := by
  unfold i_sta
  dsimp only
  rw [if_pos (by exact ⟨by simp, h2⟩)]
  rw [kC_some]
  unfold stL
  rw [clr_nl (la := a0 :: a1 :: b :: la) (j := 1) (a := a1) rfl h]
  rfl
theorem xb2n {X : aX} {m nx : Nat} {st : List aV} {M : aM} {a0 : Option aV} {b : Option aV} {la : aLs} {x : aL} (h2 : x.1 < 95) : kC X m (i_sta 2 nx (a0 :: none :: b :: la) (aR x :: st) M) = go X m nx (a0 :: none :: some (aR x) :: la) st M := xb2 nl_n h2
theorem xb2i {X : aX} {m nx : Nat} {st : List aV} {M : aM} {a0 : Option aV} {b : Option aV} {la : aLs} {x : aL} (h2 : x.1 < 95) {z : Int32} : kC X m (i_sta 2 nx (a0 :: (some (aI z)) :: b :: la) (aR x :: st) M) = go X m nx (a0 :: (some (aI z)) :: some (aR x) :: la) st M := xb2 nl_i h2
theorem xb2r {X : aX} {m nx : Nat} {st : List aV} {M : aM} {a0 : Option aV} {b : Option aV} {la : aLs} {x : aL} (h2 : x.1 < 95) {z : aL} : kC X m (i_sta 2 nx (a0 :: (some (aR z)) :: b :: la) (aR x :: st) M) = go X m nx (a0 :: (some (aR z)) :: some (aR x) :: la) st M := xb2 nl_r h2
theorem xn2 {X : aX} {m nx : Nat} {st : List aV} {M : aM} {a0 a1 : Option aV} {la : aLs} {x v : Int32} (h : nl a1 = true) : kC X m (i_inc 2 v nx (a0 :: a1 :: some (aI x) :: la) st M) = go X m nx (a0 :: a1 :: some (aI (x + v)) :: la) st M := by
  show go X m nx (stL (a0 :: a1 :: some (aI x) :: la) 2 (aI (x + v))) st M = _
  unfold stL
  rw [clr_nl (la := a0 :: a1 :: some (aI x) :: la) (j := 1) (a := a1) rfl h]
  rfl
theorem xn2n {X : aX} {m nx : Nat} {st : List aV} {M : aM} {a0 : Option aV} {la : aLs} {x v : Int32} : kC X m (i_inc 2 v nx (a0 :: none :: some (aI x) :: la) st M) = go X m nx (a0 :: none :: some (aI (x + v)) :: la) st M := xn2 nl_n
theorem xn2i {X : aX} {m nx : Nat} {st : List aV} {M : aM} {a0 : Option aV} {la : aLs} {x v : Int32} {z : Int32} : kC X m (i_inc 2 v nx (a0 :: (some (aI z)) :: some (aI x) :: la) st M) = go X m nx (a0 :: (some (aI z)) :: some (aI (x + v)) :: la) st M := xn2 nl_i
theorem xn2r {X : aX} {m nx : Nat} {st : List aV} {M : aM} {a0 : Option aV} {la : aLs} {x v : Int32} {z : aL} : kC X m (i_inc 2 v nx (a0 :: (some (aR z)) :: some (aI x) :: la) st M) = go X m nx (a0 :: (some (aR z)) :: some (aI (x + v)) :: la) st M := xn2 nl_r
theorem xt2 {X : aX} {m nx : Nat} {st : List aV} {M : aM} {a0 a1 : Option aV} {b b2 : Option aV} {la : aLs} {x : Int64} (h : nl a1 = true) : kC X m (i_stj 2 nx (a0 :: a1 :: b :: b2 :: la) (aJ x :: st) M) = go X m nx (a0 :: a1 :: some (aJ x) :: none :: la) st M := by
  unfold i_stj
  dsimp only
  rw [if_pos (by simp)]
  rw [kC_some]
  unfold stJ
  rw [clr_nl (la := a0 :: a1 :: b :: b2 :: la) (j := 1) (a := a1) rfl h]
  rfl
theorem xt2n {X : aX} {m nx : Nat} {st : List aV} {M : aM} {a0 : Option aV} {b b2 : Option aV} {la : aLs} {x : Int64} : kC X m (i_stj 2 nx (a0 :: none :: b :: b2 :: la) (aJ x :: st) M) = go X m nx (a0 :: none :: some (aJ x) :: none :: la) st M := xt2 nl_n
theorem xt2i {X : aX} {m nx : Nat} {st : List aV} {M : aM} {a0 : Option aV} {b b2 : Option aV} {la : aLs} {x : Int64} {z : Int32} : kC X m (i_stj 2 nx (a0 :: (some (aI z)) :: b :: b2 :: la) (aJ x :: st) M) = go X m nx (a0 :: (some (aI z)) :: some (aJ x) :: none :: la) st M := xt2 nl_i
theorem xt2r {X : aX} {m nx : Nat} {st : List aV} {M : aM} {a0 : Option aV} {b b2 : Option aV} {la : aLs} {x : Int64} {z : aL} : kC X m (i_stj 2 nx (a0 :: (some (aR z)) :: b :: b2 :: la) (aJ x :: st) M) = go X m nx (a0 :: (some (aR z)) :: some (aJ x) :: none :: la) st M := xt2 nl_r
theorem xi3 {X : aX} {m nx : Nat} {st : List aV} {M : aM} {a0 a1 a2 : Option aV} {x : Int32} {la : aLs} : kC X m (i_ldi 3 nx (a0 :: a1 :: a2 :: some (aI x) :: la) st M) = go X m nx (a0 :: a1 :: a2 :: some (aI x) :: la) (aI x :: st) M := rfl
theorem xa3 {X : aX} {m nx : Nat} {st : List aV} {M : aM} {a0 a1 a2 : Option aV} {r : aL} {la : aLs} (h : r.1 < 95) : kC X m (i_lda 3 nx (a0 :: a1 :: a2 :: some (aR r) :: la) st M) = go X m nx (a0 :: a1 :: a2 :: some (aR r) :: la) (aR r :: st) M := by
  show kC X m (if r.1 < 95 then _ else _) = _
  rw [if_pos h]
  rfl
theorem xj3 {X : aX} {m nx : Nat} {st : List aV} {M : aM} {a0 a1 a2 : Option aV} {x : Int64} {la : aLs} : kC X m (i_ldj 3 nx (a0 :: a1 :: a2 :: some (aJ x) :: la) st M) = go X m nx (a0 :: a1 :: a2 :: some (aJ x) :: la) (aJ x :: st) M := rfl
theorem xs3 {X : aX} {m nx : Nat} {st : List aV} {M : aM} {a0 a1 a2 : Option aV} {b : Option aV} {la : aLs} {x : Int32} (h : nl a2 = true) : kC X m (i_sti 3 nx (a0 :: a1 :: a2 :: b :: la) (aI x :: st) M) = go X m nx (a0 :: a1 :: a2 :: some (aI x) :: la) st M := by
  unfold i_sti
  dsimp only
  rw [if_pos (by simp)]
  rw [kC_some]
  unfold stL
  rw [clr_nl (la := a0 :: a1 :: a2 :: b :: la) (j := 2) (a := a2) rfl h]
  rfl
theorem xs3n {X : aX} {m nx : Nat} {st : List aV} {M : aM} {a0 a1 : Option aV} {b : Option aV} {la : aLs} {x : Int32} : kC X m (i_sti 3 nx (a0 :: a1 :: none :: b :: la) (aI x :: st) M) = go X m nx (a0 :: a1 :: none :: some (aI x) :: la) st M := xs3 nl_n
theorem xs3i {X : aX} {m nx : Nat} {st : List aV} {M : aM} {a0 a1 : Option aV} {b : Option aV} {la : aLs} {x : Int32} {z : Int32} : kC X m (i_sti 3 nx (a0 :: a1 :: (some (aI z)) :: b :: la) (aI x :: st) M) = go X m nx (a0 :: a1 :: (some (aI z)) :: some (aI x) :: la) st M := xs3 nl_i
theorem xs3r {X : aX} {m nx : Nat} {st : List aV} {M : aM} {a0 a1 : Option aV} {b : Option aV} {la : aLs} {x : Int32} {z : aL} : kC X m (i_sti 3 nx (a0 :: a1 :: (some (aR z)) :: b :: la) (aI x :: st) M) = go X m nx (a0 :: a1 :: (some (aR z)) :: some (aI x) :: la) st M := xs3 nl_r
theorem xb3 {X : aX} {m nx : Nat} {st : List aV} {M : aM} {a0 a1 a2 : Option aV} {b : Option aV} {la : aLs} {x : aL} (h : nl a2 = true) (h2 : x.1 < 95) : kC X m (i_sta 3 nx (a0 :: a1 :: a2 :: b :: la) (aR x :: st) M) = go X m nx (a0 :: a1 :: a2 :: some (aR x) :: la) st M := by
  unfold i_sta
  dsimp only
  rw [if_pos (by exact ⟨by simp, h2⟩)]
  rw [kC_some]
  unfold stL
  rw [clr_nl (la := a0 :: a1 :: a2 :: b :: la) (j := 2) (a := a2) rfl h]
  rfl
theorem xb3n {X : aX} {m nx : Nat} {st : List aV} {M : aM} {a0 a1 : Option aV} {b : Option aV} {la : aLs} {x : aL} (h2 : x.1 < 95) : kC X m (i_sta 3 nx (a0 :: a1 :: none :: b :: la) (aR x :: st) M) = go X m nx (a0 :: a1 :: none :: some (aR x) :: la) st M := xb3 nl_n h2
theorem xb3i {X : aX} {m nx : Nat} {st : List aV} {M : aM} {a0 a1 : Option aV} {b : Option aV} {la : aLs} {x : aL} (h2 : x.1 < 95) {z : Int32} : kC X m (i_sta 3 nx (a0 :: a1 :: (some (aI z)) :: b :: la) (aR x :: st) M) = go X m nx (a0 :: a1 :: (some (aI z)) :: some (aR x) :: la) st M := xb3 nl_i h2
theorem xb3r {X : aX} {m nx : Nat} {st : List aV} {M : aM} {a0 a1 : Option aV} {b : Option aV} {la : aLs} {x : aL} (h2 : x.1 < 95) {z : aL} : kC X m (i_sta 3 nx (a0 :: a1 :: (some (aR z)) :: b :: la) (aR x :: st) M) = go X m nx (a0 :: a1 :: (some (aR z)) :: some (aR x) :: la) st M := xb3 nl_r h2
theorem xn3 {X : aX} {m nx : Nat} {st : List aV} {M : aM} {a0 a1 a2 : Option aV} {la : aLs} {x v : Int32} (h : nl a2 = true) : kC X m (i_inc 3 v nx (a0 :: a1 :: a2 :: some (aI x) :: la) st M) = go X m nx (a0 :: a1 :: a2 :: some (aI (x + v)) :: la) st M := by
  show go X m nx (stL (a0 :: a1 :: a2 :: some (aI x) :: la) 3 (aI (x + v))) st M = _
  unfold stL
  rw [clr_nl (la := a0 :: a1 :: a2 :: some (aI x) :: la) (j := 2) (a := a2) rfl h]
  rfl
theorem xn3n {X : aX} {m nx : Nat} {st : List aV} {M : aM} {a0 a1 : Option aV} {la : aLs} {x v : Int32} : kC X m (i_inc 3 v nx (a0 :: a1 :: none :: some (aI x) :: la) st M) = go X m nx (a0 :: a1 :: none :: some (aI (x + v)) :: la) st M := xn3 nl_n
theorem xn3i {X : aX} {m nx : Nat} {st : List aV} {M : aM} {a0 a1 : Option aV} {la : aLs} {x v : Int32} {z : Int32} : kC X m (i_inc 3 v nx (a0 :: a1 :: (some (aI z)) :: some (aI x) :: la) st M) = go X m nx (a0 :: a1 :: (some (aI z)) :: some (aI (x + v)) :: la) st M := xn3 nl_i
theorem xn3r {X : aX} {m nx : Nat} {st : List aV} {M : aM} {a0 a1 : Option aV} {la : aLs} {x v : Int32} {z : aL} : kC X m (i_inc 3 v nx (a0 :: a1 :: (some (aR z)) :: some (aI x) :: la) st M) = go X m nx (a0 :: a1 :: (some (aR z)) :: some (aI (x + v)) :: la) st M := xn3 nl_r
theorem xt3 {X : aX} {m nx : Nat} {st : List aV} {M : aM} {a0 a1 a2 : Option aV} {b b2 : Option aV} {la : aLs} {x : Int64} (h : nl a2 = true) : kC X m (i_stj 3 nx (a0 :: a1 :: a2 :: b :: b2 :: la) (aJ x :: st) M) = go X m nx (a0 :: a1 :: a2 :: some (aJ x) :: none :: la) st M := by
  unfold i_stj
  dsimp only
  rw [if_pos (by simp)]
  rw [kC_some]
  unfold stJ
  rw [clr_nl (la := a0 :: a1 :: a2 :: b :: b2 :: la) (j := 2) (a := a2) rfl h]
  rfl
theorem xt3n {X : aX} {m nx : Nat} {st : List aV} {M : aM} {a0 a1 : Option aV} {b b2 : Option aV} {la : aLs} {x : Int64} : kC X m (i_stj 3 nx (a0 :: a1 :: none :: b :: b2 :: la) (aJ x :: st) M) = go X m nx (a0 :: a1 :: none :: some (aJ x) :: none :: la) st M := xt3 nl_n
theorem xt3i {X : aX} {m nx : Nat} {st : List aV} {M : aM} {a0 a1 : Option aV} {b b2 : Option aV} {la : aLs} {x : Int64} {z : Int32} : kC X m (i_stj 3 nx (a0 :: a1 :: (some (aI z)) :: b :: b2 :: la) (aJ x :: st) M) = go X m nx (a0 :: a1 :: (some (aI z)) :: some (aJ x) :: none :: la) st M := xt3 nl_i
theorem xt3r {X : aX} {m nx : Nat} {st : List aV} {M : aM} {a0 a1 : Option aV} {b b2 : Option aV} {la : aLs} {x : Int64} {z : aL} : kC X m (i_stj 3 nx (a0 :: a1 :: (some (aR z)) :: b :: b2 :: la) (aJ x :: st) M) = go X m nx (a0 :: a1 :: (some (aR z)) :: some (aJ x) :: none :: la) st M := xt3 nl_r
theorem xi4 {X : aX} {m nx : Nat} {st : List aV} {M : aM} {a0 a1 a2 a3 : Option aV} {x : Int32} {la : aLs} : kC X m (i_ldi 4 nx (a0 :: a1 :: a2 :: a3 :: some (aI x) :: la) st M) = go X m nx (a0 :: a1 :: a2 :: a3 :: some (aI x) :: la) (aI x :: st) M := rfl
theorem xa4 {X : aX} {m nx : Nat} {st : List aV} {M : aM} {a0 a1 a2 a3 : Option aV} {r : aL} {la : aLs} (h : r.1 < 95) : kC X m (i_lda 4 nx (a0 :: a1 :: a2 :: a3 :: some (aR r) :: la) st M) = go X m nx (a0 :: a1 :: a2 :: a3 :: some (aR r) :: la) (aR r :: st) M := by
  show kC X m (if r.1 < 95 then _ else _) = _
  rw [if_pos h]
  rfl
theorem xj4 {X : aX} {m nx : Nat} {st : List aV} {M : aM} {a0 a1 a2 a3 : Option aV} {x : Int64} {la : aLs} : kC X m (i_ldj 4 nx (a0 :: a1 :: a2 :: a3 :: some (aJ x) :: la) st M) = go X m nx (a0 :: a1 :: a2 :: a3 :: some (aJ x) :: la) (aJ x :: st) M := rfl
theorem xs4 {X : aX} {m nx : Nat} {st : List aV} {M : aM} {a0 a1 a2 a3 : Option aV} {b : Option aV} {la : aLs} {x : Int32} (h : nl a3 = true) : kC X m (i_sti 4 nx (a0 :: a1 :: a2 :: a3 :: b :: la) (aI x :: st) M) = go X m nx (a0 :: a1 :: a2 :: a3 :: some (aI x) :: la) st M := by
  unfold i_sti
  dsimp only
  rw [if_pos (by simp)]
  rw [kC_some]
  unfold stL
  rw [clr_nl (la := a0 :: a1 :: a2 :: a3 :: b :: la) (j := 3) (a := a3) rfl h]
  rfl
theorem xs4n {X : aX} {m nx : Nat} {st : List aV} {M : aM} {a0 a1 a2 : Option aV} {b : Option aV} {la : aLs} {x : Int32} : kC X m (i_sti 4 nx (a0 :: a1 :: a2 :: none :: b :: la) (aI x :: st) M) = go X m nx (a0 :: a1 :: a2 :: none :: some (aI x) :: la) st M := xs4 nl_n
theorem xs4i {X : aX} {m nx : Nat} {st : List aV} {M : aM} {a0 a1 a2 : Option aV} {b : Option aV} {la : aLs} {x : Int32} {z : Int32} : kC X m (i_sti 4 nx (a0 :: a1 :: a2 :: (some (aI z)) :: b :: la) (aI x :: st) M) = go X m nx (a0 :: a1 :: a2 :: (some (aI z)) :: some (aI x) :: la) st M := xs4 nl_i
theorem xs4r {X : aX} {m nx : Nat} {st : List aV} {M : aM} {a0 a1 a2 : Option aV} {b : Option aV} {la : aLs} {x : Int32} {z : aL} : kC X m (i_sti 4 nx (a0 :: a1 :: a2 :: (some (aR z)) :: b :: la) (aI x :: st) M) = go X m nx (a0 :: a1 :: a2 :: (some (aR z)) :: some (aI x) :: la) st M := xs4 nl_r
theorem xb4 {X : aX} {m nx : Nat} {st : List aV} {M : aM} {a0 a1 a2 a3 : Option aV} {b : Option aV} {la : aLs} {x : aL} (h : nl a3 = true) (h2 : x.1 < 95) : kC X m (i_sta 4 nx (a0 :: a1 :: a2 :: a3 :: b :: la) (aR x :: st) M) = go X m nx (a0 :: a1 :: a2 :: a3 :: some (aR x) :: la) st M := by
  unfold i_sta
  dsimp only
  rw [if_pos (by exact ⟨by simp, h2⟩)]
  rw [kC_some]
  unfold stL
  rw [clr_nl (la := a0 :: a1 :: a2 :: a3 :: b :: la) (j := 3) (a := a3) rfl h]
  rfl
theorem xb4n {X : aX} {m nx : Nat} {st : List aV} {M : aM} {a0 a1 a2 : Option aV} {b : Option aV} {la : aLs} {x : aL} (h2 : x.1 < 95) : kC X m (i_sta 4 nx (a0 :: a1 :: a2 :: none :: b :: la) (aR x :: st) M) = go X m nx (a0 :: a1 :: a2 :: none :: some (aR x) :: la) st M := xb4 nl_n h2
theorem xb4i {X : aX} {m nx : Nat} {st : List aV} {M : aM} {a0 a1 a2 : Option aV} {b : Option aV} {la : aLs} {x : aL} (h2 : x.1 < 95) {z : Int32} : kC X m (i_sta 4 nx (a0 :: a1 :: a2 :: (some (aI z)) :: b :: la) (aR x :: st) M) = go X m nx (a0 :: a1 :: a2 :: (some (aI z)) :: some (aR x) :: la) st M := xb4 nl_i h2
theorem xb4r {X : aX} {m nx : Nat} {st : List aV} {M : aM} {a0 a1 a2 : Option aV} {b : Option aV} {la : aLs} {x : aL} (h2 : x.1 < 95) {z : aL} : kC X m (i_sta 4 nx (a0 :: a1 :: a2 :: (some (aR z)) :: b :: la) (aR x :: st) M) = go X m nx (a0 :: a1 :: a2 :: (some (aR z)) :: some (aR x) :: la) st M := xb4 nl_r h2
theorem xn4 {X : aX} {m nx : Nat} {st : List aV} {M : aM} {a0 a1 a2 a3 : Option aV} {la : aLs} {x v : Int32} (h : nl a3 = true) : kC X m (i_inc 4 v nx (a0 :: a1 :: a2 :: a3 :: some (aI x) :: la) st M) = go X m nx (a0 :: a1 :: a2 :: a3 :: some (aI (x + v)) :: la) st M := by
  show go X m nx (stL (a0 :: a1 :: a2 :: a3 :: some (aI x) :: la) 4 (aI (x + v))) st M = _
  unfold stL
  rw [clr_nl (la := a0 :: a1 :: a2 :: a3 :: some (aI x) :: la) (j := 3) (a := a3) rfl h]
  rfl
theorem xn4n {X : aX} {m nx : Nat} {st : List aV} {M : aM} {a0 a1 a2 : Option aV} {la : aLs} {x v : Int32} : kC X m (i_inc 4 v nx (a0 :: a1 :: a2 :: none :: some (aI x) :: la) st M) = go X m nx (a0 :: a1 :: a2 :: none :: some (aI (x + v)) :: la) st M := xn4 nl_n
theorem xn4i {X : aX} {m nx : Nat} {st : List aV} {M : aM} {a0 a1 a2 : Option aV} {la : aLs} {x v : Int32} {z : Int32} : kC X m (i_inc 4 v nx (a0 :: a1 :: a2 :: (some (aI z)) :: some (aI x) :: la) st M) = go X m nx (a0 :: a1 :: a2 :: (some (aI z)) :: some (aI (x + v)) :: la) st M := xn4 nl_i
theorem xn4r {X : aX} {m nx : Nat} {st : List aV} {M : aM} {a0 a1 a2 : Option aV} {la : aLs} {x v : Int32} {z : aL} : kC X m (i_inc 4 v nx (a0 :: a1 :: a2 :: (some (aR z)) :: some (aI x) :: la) st M) = go X m nx (a0 :: a1 :: a2 :: (some (aR z)) :: some (aI (x + v)) :: la) st M := xn4 nl_r
theorem xt4 {X : aX} {m nx : Nat} {st : List aV} {M : aM} {a0 a1 a2 a3 : Option aV} {b b2 : Option aV} {la : aLs} {x : Int64} (h : nl a3 = true) : kC X m (i_stj 4 nx (a0 :: a1 :: a2 :: a3 :: b :: b2 :: la) (aJ x :: st) M) = go X m nx (a0 :: a1 :: a2 :: a3 :: some (aJ x) :: none :: la) st M := by
  unfold i_stj
  dsimp only
  rw [if_pos (by simp)]
  rw [kC_some]
  unfold stJ
  rw [clr_nl (la := a0 :: a1 :: a2 :: a3 :: b :: b2 :: la) (j := 3) (a := a3) rfl h]
  rfl
theorem xt4n {X : aX} {m nx : Nat} {st : List aV} {M : aM} {a0 a1 a2 : Option aV} {b b2 : Option aV} {la : aLs} {x : Int64} : kC X m (i_stj 4 nx (a0 :: a1 :: a2 :: none :: b :: b2 :: la) (aJ x :: st) M) = go X m nx (a0 :: a1 :: a2 :: none :: some (aJ x) :: none :: la) st M := xt4 nl_n
theorem xt4i {X : aX} {m nx : Nat} {st : List aV} {M : aM} {a0 a1 a2 : Option aV} {b b2 : Option aV} {la : aLs} {x : Int64} {z : Int32} : kC X m (i_stj 4 nx (a0 :: a1 :: a2 :: (some (aI z)) :: b :: b2 :: la) (aJ x :: st) M) = go X m nx (a0 :: a1 :: a2 :: (some (aI z)) :: some (aJ x) :: none :: la) st M := xt4 nl_i
theorem xt4r {X : aX} {m nx : Nat} {st : List aV} {M : aM} {a0 a1 a2 : Option aV} {b b2 : Option aV} {la : aLs} {x : Int64} {z : aL} : kC X m (i_stj 4 nx (a0 :: a1 :: a2 :: (some (aR z)) :: b :: b2 :: la) (aJ x :: st) M) = go X m nx (a0 :: a1 :: a2 :: (some (aR z)) :: some (aJ x) :: none :: la) st M := xt4 nl_r
theorem xi5 {X : aX} {m nx : Nat} {st : List aV} {M : aM} {a0 a1 a2 a3 a4 : Option aV} {x : Int32} {la : aLs} : kC X m (i_ldi 5 nx (a0 :: a1 :: a2 :: a3 :: a4 :: some (aI x) :: la) st M) = go X m nx (a0 :: a1 :: a2 :: a3 :: a4 :: some (aI x) :: la) (aI x :: st) M := rfl
theorem xa5 {X : aX} {m nx : Nat} {st : List aV} {M : aM} {a0 a1 a2 a3 a4 : Option aV} {r : aL} {la : aLs} (h : r.1 < 95) : kC X m (i_lda 5 nx (a0 :: a1 :: a2 :: a3 :: a4 :: some (aR r) :: la) st M) = go X m nx (a0 :: a1 :: a2 :: a3 :: a4 :: some (aR r) :: la) (aR r :: st) M := by
  show kC X m (if r.1 < 95 then _ else _) = _
  rw [if_pos h]
  rfl
theorem xj5 {X : aX} {m nx : Nat} {st : List aV} {M : aM} {a0 a1 a2 a3 a4 : Option aV} {x : Int64} {la : aLs} : kC X m (i_ldj 5 nx (a0 :: a1 :: a2 :: a3 :: a4 :: some (aJ x) :: la) st M) = go X m nx (a0 :: a1 :: a2 :: a3 :: a4 :: some (aJ x) :: la) (aJ x :: st) M := rfl
theorem xs5 {X : aX} {m nx : Nat} {st : List aV} {M : aM} {a0 a1 a2 a3 a4 : Option aV} {b : Option aV} {la : aLs} {x : Int32} (h : nl a4 = true) : kC X m (i_sti 5 nx (a0 :: a1 :: a2 :: a3 :: a4 :: b :: la) (aI x :: st) M) = go X m nx (a0 :: a1 :: a2 :: a3 :: a4 :: some (aI x) :: la) st M := by
  unfold i_sti
  dsimp only
  rw [if_pos (by simp)]
  rw [kC_some]
  unfold stL
  rw [clr_nl (la := a0 :: a1 :: a2 :: a3 :: a4 :: b :: la) (j := 4) (a := a4) rfl h]
  rfl
theorem xs5n {X : aX} {m nx : Nat} {st : List aV} {M : aM} {a0 a1 a2 a3 : Option aV} {b : Option aV} {la : aLs} {x : Int32} : kC X m (i_sti 5 nx (a0 :: a1 :: a2 :: a3 :: none :: b :: la) (aI x :: st) M) = go X m nx (a0 :: a1 :: a2 :: a3 :: none :: some (aI x) :: la) st M := xs5 nl_n
theorem xs5i {X : aX} {m nx : Nat} {st : List aV} {M : aM} {a0 a1 a2 a3 : Option aV} {b : Option aV} {la : aLs} {x : Int32} {z : Int32} : kC X m (i_sti 5 nx (a0 :: a1 :: a2 :: a3 :: (some (aI z)) :: b :: la) (aI x :: st) M) = go X m nx (a0 :: a1 :: a2 :: a3 :: (some (aI z)) :: some (aI x) :: la) st M := xs5 nl_i
theorem xs5r {X : aX} {m nx : Nat} {st : List aV} {M : aM} {a0 a1 a2 a3 : Option aV} {b : Option aV} {la : aLs} {x : Int32} {z : aL} : kC X m (i_sti 5 nx (a0 :: a1 :: a2 :: a3 :: (some (aR z)) :: b :: la) (aI x :: st) M) = go X m nx (a0 :: a1 :: a2 :: a3 :: (some (aR z)) :: some (aI x) :: la) st M := xs5 nl_r
theorem xb5 {X : aX} {m nx : Nat} {st : List aV} {M : aM} {a0 a1 a2 a3 a4 : Option aV} {b : Option aV} {la : aLs} {x : aL} (h : nl a4 = true) (h2 : x.1 < 95) : kC X m (i_sta 5 nx (a0 :: a1 :: a2 :: a3 :: a4 :: b :: la) (aR x :: st) M) = go X m nx (a0 :: a1 :: a2 :: a3 :: a4 :: some (aR x) :: la) st M := by
  unfold i_sta
  dsimp only
  rw [if_pos (by exact ⟨by simp, h2⟩)]
  rw [kC_some]
  unfold stL
  rw [clr_nl (la := a0 :: a1 :: a2 :: a3 :: a4 :: b :: la) (j := 4) (a := a4) rfl h]
  rfl
theorem xb5n {X : aX} {m nx : Nat} {st : List aV} {M : aM} {a0 a1 a2 a3 : Option aV} {b : Option aV} {la : aLs} {x : aL} (h2 : x.1 < 95) : kC X m (i_sta 5 nx (a0 :: a1 :: a2 :: a3 :: none :: b :: la) (aR x :: st) M) = go X m nx (a0 :: a1 :: a2 :: a3 :: none :: some (aR x) :: la) st M := xb5 nl_n h2
theorem xb5i {X : aX} {m nx : Nat} {st : List aV} {M : aM} {a0 a1 a2 a3 : Option aV} {b : Option aV} {la : aLs} {x : aL} (h2 : x.1 < 95) {z : Int32} : kC X m (i_sta 5 nx (a0 :: a1 :: a2 :: a3 :: (some (aI z)) :: b :: la) (aR x :: st) M) = go X m nx (a0 :: a1 :: a2 :: a3 :: (some (aI z)) :: some (aR x) :: la) st M := xb5 nl_i h2
theorem xb5r {X : aX} {m nx : Nat} {st : List aV} {M : aM} {a0 a1 a2 a3 : Option aV} {b : Option aV} {la : aLs} {x : aL} (h2 : x.1 < 95) {z : aL} : kC X m (i_sta 5 nx (a0 :: a1 :: a2 :: a3 :: (some (aR z)) :: b :: la) (aR x :: st) M) = go X m nx (a0 :: a1 :: a2 :: a3 :: (some (aR z)) :: some (aR x) :: la) st M := xb5 nl_r h2
theorem xn5 {X : aX} {m nx : Nat} {st : List aV} {M : aM} {a0 a1 a2 a3 a4 : Option aV} {la : aLs} {x v : Int32} (h : nl a4 = true) : kC X m (i_inc 5 v nx (a0 :: a1 :: a2 :: a3 :: a4 :: some (aI x) :: la) st M) = go X m nx (a0 :: a1 :: a2 :: a3 :: a4 :: some (aI (x + v)) :: la) st M := by
  show go X m nx (stL (a0 :: a1 :: a2 :: a3 :: a4 :: some (aI x) :: la) 5 (aI (x + v))) st M = _
  unfold stL
  rw [clr_nl (la := a0 :: a1 :: a2 :: a3 :: a4 :: some (aI x) :: la) (j := 4) (a := a4) rfl h]
  rfl
theorem xn5n {X : aX} {m nx : Nat} {st : List aV} {M : aM} {a0 a1 a2 a3 : Option aV} {la : aLs} {x v : Int32} : kC X m (i_inc 5 v nx (a0 :: a1 :: a2 :: a3 :: none :: some (aI x) :: la) st M) = go X m nx (a0 :: a1 :: a2 :: a3 :: none :: some (aI (x + v)) :: la) st M := xn5 nl_n
theorem xn5i {X : aX} {m nx : Nat} {st : List aV} {M : aM} {a0 a1 a2 a3 : Option aV} {la : aLs} {x v : Int32} {z : Int32} : kC X m (i_inc 5 v nx (a0 :: a1 :: a2 :: a3 :: (some (aI z)) :: some (aI x) :: la) st M) = go X m nx (a0 :: a1 :: a2 :: a3 :: (some (aI z)) :: some (aI (x + v)) :: la) st M := xn5 nl_i
theorem xn5r {X : aX} {m nx : Nat} {st : List aV} {M : aM} {a0 a1 a2 a3 : Option aV} {la : aLs} {x v : Int32} {z : aL} : kC X m (i_inc 5 v nx (a0 :: a1 :: a2 :: a3 :: (some (aR z)) :: some (aI x) :: la) st M) = go X m nx (a0 :: a1 :: a2 :: a3 :: (some (aR z)) :: some (aI (x + v)) :: la) st M := xn5 nl_r
theorem xt5 {X : aX} {m nx : Nat} {st : List aV} {M : aM} {a0 a1 a2 a3 a4 : Option aV} {b b2 : Option aV} {la : aLs} {x : Int64} (h : nl a4 = true) : kC X m (i_stj 5 nx (a0 :: a1 :: a2 :: a3 :: a4 :: b :: b2 :: la) (aJ x :: st) M) = go X m nx (a0 :: a1 :: a2 :: a3 :: a4 :: some (aJ x) :: none :: la) st M := by
  unfold i_stj
  dsimp only
  rw [if_pos (by simp)]
  rw [kC_some]
  unfold stJ
  rw [clr_nl (la := a0 :: a1 :: a2 :: a3 :: a4 :: b :: b2 :: la) (j := 4) (a := a4) rfl h]
  rfl
theorem xt5n {X : aX} {m nx : Nat} {st : List aV} {M : aM} {a0 a1 a2 a3 : Option aV} {b b2 : Option aV} {la : aLs} {x : Int64} : kC X m (i_stj 5 nx (a0 :: a1 :: a2 :: a3 :: none :: b :: b2 :: la) (aJ x :: st) M) = go X m nx (a0 :: a1 :: a2 :: a3 :: none :: some (aJ x) :: none :: la) st M := xt5 nl_n
theorem xt5i {X : aX} {m nx : Nat} {st : List aV} {M : aM} {a0 a1 a2 a3 : Option aV} {b b2 : Option aV} {la : aLs} {x : Int64} {z : Int32} : kC X m (i_stj 5 nx (a0 :: a1 :: a2 :: a3 :: (some (aI z)) :: b :: b2 :: la) (aJ x :: st) M) = go X m nx (a0 :: a1 :: a2 :: a3 :: (some (aI z)) :: some (aJ x) :: none :: la) st M := xt5 nl_i
theorem xt5r {X : aX} {m nx : Nat} {st : List aV} {M : aM} {a0 a1 a2 a3 : Option aV} {b b2 : Option aV} {la : aLs} {x : Int64} {z : aL} : kC X m (i_stj 5 nx (a0 :: a1 :: a2 :: a3 :: (some (aR z)) :: b :: b2 :: la) (aJ x :: st) M) = go X m nx (a0 :: a1 :: a2 :: a3 :: (some (aR z)) :: some (aJ x) :: none :: la) st M := xt5 nl_r
theorem xi6 {X : aX} {m nx : Nat} {st : List aV} {M : aM} {a0 a1 a2 a3 a4 a5 : Option aV} {x : Int32} {la : aLs} : kC X m (i_ldi 6 nx (a0 :: a1 :: a2 :: a3 :: a4 :: a5 :: some (aI x) :: la) st M) = go X m nx (a0 :: a1 :: a2 :: a3 :: a4 :: a5 :: some (aI x) :: la) (aI x :: st) M := rfl
theorem xa6 {X : aX} {m nx : Nat} {st : List aV} {M : aM} {a0 a1 a2 a3 a4 a5 : Option aV} {r : aL} {la : aLs} (h : r.1 < 95) : kC X m (i_lda 6 nx (a0 :: a1 :: a2 :: a3 :: a4 :: a5 :: some (aR r) :: la) st M) = go X m nx (a0 :: a1 :: a2 :: a3 :: a4 :: a5 :: some (aR r) :: la) (aR r :: st) M := by
  show kC X m (if r.1 < 95 then _ else _) = _
  rw [if_pos h]
  rfl
theorem xj6 {X : aX} {m nx : Nat} {st : List aV} {M : aM} {a0 a1 a2 a3 a4 a5 : Option aV} {x : Int64} {la : aLs} : kC X m (i_ldj 6 nx (a0 :: a1 :: a2 :: a3 :: a4 :: a5 :: some (aJ x) :: la) st M) = go X m nx (a0 :: a1 :: a2 :: a3 :: a4 :: a5 :: some (aJ x) :: la) (aJ x :: st) M := rfl
theorem xs6 {X : aX} {m nx : Nat} {st : List aV} {M : aM} {a0 a1 a2 a3 a4 a5 : Option aV} {b : Option aV} {la : aLs} {x : Int32} (h : nl a5 = true) : kC X m (i_sti 6 nx (a0 :: a1 :: a2 :: a3 :: a4 :: a5 :: b :: la) (aI x :: st) M) = go X m nx (a0 :: a1 :: a2 :: a3 :: a4 :: a5 :: some (aI x) :: la) st M := by
  unfold i_sti
  dsimp only
  rw [if_pos (by simp)]
  rw [kC_some]
  unfold stL
  rw [clr_nl (la := a0 :: a1 :: a2 :: a3 :: a4 :: a5 :: b :: la) (j := 5) (a := a5) rfl h]
  rfl
theorem xs6n {X : aX} {m nx : Nat} {st : List aV} {M : aM} {a0 a1 a2 a3 a4 : Option aV} {b : Option aV} {la : aLs} {x : Int32} : kC X m (i_sti 6 nx (a0 :: a1 :: a2 :: a3 :: a4 :: none :: b :: la) (aI x :: st) M) = go X m nx (a0 :: a1 :: a2 :: a3 :: a4 :: none :: some (aI x) :: la) st M := xs6 nl_n
theorem xs6i {X : aX} {m nx : Nat} {st : List aV} {M : aM} {a0 a1 a2 a3 a4 : Option aV} {b : Option aV} {la : aLs} {x : Int32} {z : Int32} : kC X m (i_sti 6 nx (a0 :: a1 :: a2 :: a3 :: a4 :: (some (aI z)) :: b :: la) (aI x :: st) M) = go X m nx (a0 :: a1 :: a2 :: a3 :: a4 :: (some (aI z)) :: some (aI x) :: la) st M := xs6 nl_i
theorem xs6r {X : aX} {m nx : Nat} {st : List aV} {M : aM} {a0 a1 a2 a3 a4 : Option aV} {b : Option aV} {la : aLs} {x : Int32} {z : aL} : kC X m (i_sti 6 nx (a0 :: a1 :: a2 :: a3 :: a4 :: (some (aR z)) :: b :: la) (aI x :: st) M) = go X m nx (a0 :: a1 :: a2 :: a3 :: a4 :: (some (aR z)) :: some (aI x) :: la) st M := xs6 nl_r
theorem xb6 {X : aX} {m nx : Nat} {st : List aV} {M : aM} {a0 a1 a2 a3 a4 a5 : Option aV} {b : Option aV} {la : aLs} {x : aL} (h : nl a5 = true) (h2 : x.1 < 95) : kC X m (i_sta 6 nx (a0 :: a1 :: a2 :: a3 :: a4 :: a5 :: b :: la) (aR x :: st) M) = go X m nx (a0 :: a1 :: a2 :: a3 :: a4 :: a5 :: some (aR x) :: la) st M := by
  unfold i_sta
  dsimp only
  rw [if_pos (by exact ⟨by simp, h2⟩)]
  rw [kC_some]
  unfold stL
  rw [clr_nl (la := a0 :: a1 :: a2 :: a3 :: a4 :: a5 :: b :: la) (j := 5) (a := a5) rfl h]
  rfl
theorem xb6n {X : aX} {m nx : Nat} {st : List aV} {M : aM} {a0 a1 a2 a3 a4 : Option aV} {b : Option aV} {la : aLs} {x : aL} (h2 : x.1 < 95) : kC X m (i_sta 6 nx (a0 :: a1 :: a2 :: a3 :: a4 :: none :: b :: la) (aR x :: st) M) = go X m nx (a0 :: a1 :: a2 :: a3 :: a4 :: none :: some (aR x) :: la) st M := xb6 nl_n h2
theorem xb6i {X : aX} {m nx : Nat} {st : List aV} {M : aM} {a0 a1 a2 a3 a4 : Option aV} {b : Option aV} {la : aLs} {x : aL} (h2 : x.1 < 95) {z : Int32} : kC X m (i_sta 6 nx (a0 :: a1 :: a2 :: a3 :: a4 :: (some (aI z)) :: b :: la) (aR x :: st) M) = go X m nx (a0 :: a1 :: a2 :: a3 :: a4 :: (some (aI z)) :: some (aR x) :: la) st M := xb6 nl_i h2
theorem xb6r {X : aX} {m nx : Nat} {st : List aV} {M : aM} {a0 a1 a2 a3 a4 : Option aV} {b : Option aV} {la : aLs} {x : aL} (h2 : x.1 < 95) {z : aL} : kC X m (i_sta 6 nx (a0 :: a1 :: a2 :: a3 :: a4 :: (some (aR z)) :: b :: la) (aR x :: st) M) = go X m nx (a0 :: a1 :: a2 :: a3 :: a4 :: (some (aR z)) :: some (aR x) :: la) st M := xb6 nl_r h2
theorem xn6 {X : aX} {m nx : Nat} {st : List aV} {M : aM} {a0 a1 a2 a3 a4 a5 : Option aV} {la : aLs} {x v : Int32} (h : nl a5 = true) : kC X m (i_inc 6 v nx (a0 :: a1 :: a2 :: a3 :: a4 :: a5 :: some (aI x) :: la) st M) = go X m nx (a0 :: a1 :: a2 :: a3 :: a4 :: a5 :: some (aI (x + v)) :: la) st M := by
  show go X m nx (stL (a0 :: a1 :: a2 :: a3 :: a4 :: a5 :: some (aI x) :: la) 6 (aI (x + v))) st M = _
  unfold stL
  rw [clr_nl (la := a0 :: a1 :: a2 :: a3 :: a4 :: a5 :: some (aI x) :: la) (j := 5) (a := a5) rfl h]
  rfl
theorem xn6n {X : aX} {m nx : Nat} {st : List aV} {M : aM} {a0 a1 a2 a3 a4 : Option aV} {la : aLs} {x v : Int32} : kC X m (i_inc 6 v nx (a0 :: a1 :: a2 :: a3 :: a4 :: none :: some (aI x) :: la) st M) = go X m nx (a0 :: a1 :: a2 :: a3 :: a4 :: none :: some (aI (x + v)) :: la) st M := xn6 nl_n
theorem xn6i {X : aX} {m nx : Nat} {st : List aV} {M : aM} {a0 a1 a2 a3 a4 : Option aV} {la : aLs} {x v : Int32} {z : Int32} : kC X m (i_inc 6 v nx (a0 :: a1 :: a2 :: a3 :: a4 :: (some (aI z)) :: some (aI x) :: la) st M) = go X m nx (a0 :: a1 :: a2 :: a3 :: a4 :: (some (aI z)) :: some (aI (x + v)) :: la) st M := xn6 nl_i
theorem xn6r {X : aX} {m nx : Nat} {st : List aV} {M : aM} {a0 a1 a2 a3 a4 : Option aV} {la : aLs} {x v : Int32} {z : aL} : kC X m (i_inc 6 v nx (a0 :: a1 :: a2 :: a3 :: a4 :: (some (aR z)) :: some (aI x) :: la) st M) = go X m nx (a0 :: a1 :: a2 :: a3 :: a4 :: (some (aR z)) :: some (aI (x + v)) :: la) st M := xn6 nl_r
theorem xt6 {X : aX} {m nx : Nat} {st : List aV} {M : aM} {a0 a1 a2 a3 a4 a5 : Option aV} {b b2 : Option aV} {la : aLs} {x : Int64} (h : nl a5 = true) : kC X m (i_stj 6 nx (a0 :: a1 :: a2 :: a3 :: a4 :: a5 :: b :: b2 :: la) (aJ x :: st) M) = go X m nx (a0 :: a1 :: a2 :: a3 :: a4 :: a5 :: some (aJ x) :: none :: la) st M := by
  unfold i_stj
  dsimp only
  rw [if_pos (by simp)]
  rw [kC_some]
  unfold stJ
  rw [clr_nl (la := a0 :: a1 :: a2 :: a3 :: a4 :: a5 :: b :: b2 :: la) (j := 5) (a := a5) rfl h]
  rfl
theorem xt6n {X : aX} {m nx : Nat} {st : List aV} {M : aM} {a0 a1 a2 a3 a4 : Option aV} {b b2 : Option aV} {la : aLs} {x : Int64} : kC X m (i_stj 6 nx (a0 :: a1 :: a2 :: a3 :: a4 :: none :: b :: b2 :: la) (aJ x :: st) M) = go X m nx (a0 :: a1 :: a2 :: a3 :: a4 :: none :: some (aJ x) :: none :: la) st M := xt6 nl_n
theorem xt6i {X : aX} {m nx : Nat} {st : List aV} {M : aM} {a0 a1 a2 a3 a4 : Option aV} {b b2 : Option aV} {la : aLs} {x : Int64} {z : Int32} : kC X m (i_stj 6 nx (a0 :: a1 :: a2 :: a3 :: a4 :: (some (aI z)) :: b :: b2 :: la) (aJ x :: st) M) = go X m nx (a0 :: a1 :: a2 :: a3 :: a4 :: (some (aI z)) :: some (aJ x) :: none :: la) st M := xt6 nl_i
theorem xt6r {X : aX} {m nx : Nat} {st : List aV} {M : aM} {a0 a1 a2 a3 a4 : Option aV} {b b2 : Option aV} {la : aLs} {x : Int64} {z : aL} : kC X m (i_stj 6 nx (a0 :: a1 :: a2 :: a3 :: a4 :: (some (aR z)) :: b :: b2 :: la) (aJ x :: st) M) = go X m nx (a0 :: a1 :: a2 :: a3 :: a4 :: (some (aR z)) :: some (aJ x) :: none :: la) st M := xt6 nl_r
theorem xi7 {X : aX} {m nx : Nat} {st : List aV} {M : aM} {a0 a1 a2 a3 a4 a5 a6 : Option aV} {x : Int32} {la : aLs} : kC X m (i_ldi 7 nx (a0 :: a1 :: a2 :: a3 :: a4 :: a5 :: a6 :: some (aI x) :: la) st M) = go X m nx (a0 :: a1 :: a2 :: a3 :: a4 :: a5 :: a6 :: some (aI x) :: la) (aI x :: st) M := rfl
theorem xa7 {X : aX} {m nx : Nat} {st : List aV} {M : aM} {a0 a1 a2 a3 a4 a5 a6 : Option aV} {r : aL} {la : aLs} (h : r.1 < 95) : kC X m (i_lda 7 nx (a0 :: a1 :: a2 :: a3 :: a4 :: a5 :: a6 :: some (aR r) :: la) st M) = go X m nx (a0 :: a1 :: a2 :: a3 :: a4 :: a5 :: a6 :: some (aR r) :: la) (aR r :: st) M := by
  show kC X m (if r.1 < 95 then _ else _) = _
  rw [if_pos h]
  rfl
theorem xj7 {X : aX} {m nx : Nat} {st : List aV} {M : aM} {a0 a1 a2 a3 a4 a5 a6 : Option aV} {x : Int64} {la : aLs} : kC X m (i_ldj 7 nx (a0 :: a1 :: a2 :: a3 :: a4 :: a5 :: a6 :: some (aJ x) :: la) st M) = go X m nx (a0 :: a1 :: a2 :: a3 :: a4 :: a5 :: a6 :: some (aJ x) :: la) (aJ x :: st) M := rfl
theorem xs7 {X : aX} {m nx : Nat} {st : List aV} {M : aM} {a0 a1 a2 a3 a4 a5 a6 : Option aV} {b : Option aV} {la : aLs} {x : Int32} (h : nl a6 = true) : kC X m (i_sti 7 nx (a0 :: a1 :: a2 :: a3 :: a4 :: a5 :: a6 :: b :: la) (aI x :: st) M) = go X m nx (a0 :: a1 :: a2 :: a3 :: a4 :: a5 :: a6 :: some (aI x) :: la) st M := by
  unfold i_sti
  dsimp only
  rw [if_pos (by simp)]
  rw [kC_some]
  unfold stL
  rw [clr_nl (la := a0 :: a1 :: a2 :: a3 :: a4 :: a5 :: a6 :: b :: la) (j := 6) (a := a6) rfl h]
  rfl
theorem xs7n {X : aX} {m nx : Nat} {st : List aV} {M : aM} {a0 a1 a2 a3 a4 a5 : Option aV} {b : Option aV} {la : aLs} {x : Int32} : kC X m (i_sti 7 nx (a0 :: a1 :: a2 :: a3 :: a4 :: a5 :: none :: b :: la) (aI x :: st) M) = go X m nx (a0 :: a1 :: a2 :: a3 :: a4 :: a5 :: none :: some (aI x) :: la) st M := xs7 nl_n
theorem xs7i {X : aX} {m nx : Nat} {st : List aV} {M : aM} {a0 a1 a2 a3 a4 a5 : Option aV} {b : Option aV} {la : aLs} {x : Int32} {z : Int32} : kC X m (i_sti 7 nx (a0 :: a1 :: a2 :: a3 :: a4 :: a5 :: (some (aI z)) :: b :: la) (aI x :: st) M) = go X m nx (a0 :: a1 :: a2 :: a3 :: a4 :: a5 :: (some (aI z)) :: some (aI x) :: la) st M := xs7 nl_i
theorem xs7r {X : aX} {m nx : Nat} {st : List aV} {M : aM} {a0 a1 a2 a3 a4 a5 : Option aV} {b : Option aV} {la : aLs} {x : Int32} {z : aL} : kC X m (i_sti 7 nx (a0 :: a1 :: a2 :: a3 :: a4 :: a5 :: (some (aR z)) :: b :: la) (aI x :: st) M) = go X m nx (a0 :: a1 :: a2 :: a3 :: a4 :: a5 :: (some (aR z)) :: some (aI x) :: la) st M := xs7 nl_r
theorem xb7 {X : aX} {m nx : Nat} {st : List aV} {M : aM} {a0 a1 a2 a3 a4 a5 a6 : Option aV} {b : Option aV} {la : aLs} {x : aL} (h : nl a6 = true) (h2 : x.1 < 95) : kC X m (i_sta 7 nx (a0 :: a1 :: a2 :: a3 :: a4 :: a5 :: a6 :: b :: la) (aR x :: st) M) = go X m nx (a0 :: a1 :: a2 :: a3 :: a4 :: a5 :: a6 :: some (aR x) :: la) st M := by
  unfold i_sta
  dsimp only
  rw [if_pos (by exact ⟨by simp, h2⟩)]
  rw [kC_some]
  unfold stL
  rw [clr_nl (la := a0 :: a1 :: a2 :: a3 :: a4 :: a5 :: a6 :: b :: la) (j := 6) (a := a6) rfl h]
  rfl
theorem xb7n {X : aX} {m nx : Nat} {st : List aV} {M : aM} {a0 a1 a2 a3 a4 a5 : Option aV} {b : Option aV} {la : aLs} {x : aL} (h2 : x.1 < 95) : kC X m (i_sta 7 nx (a0 :: a1 :: a2 :: a3 :: a4 :: a5 :: none :: b :: la) (aR x :: st) M) = go X m nx (a0 :: a1 :: a2 :: a3 :: a4 :: a5 :: none :: some (aR x) :: la) st M := xb7 nl_n h2
theorem xb7i {X : aX} {m nx : Nat} {st : List aV} {M : aM} {a0 a1 a2 a3 a4 a5 : Option aV} {b : Option aV} {la : aLs} {x : aL} (h2 : x.1 < 95) {z : Int32} : kC X m (i_sta 7 nx (a0 :: a1 :: a2 :: a3 :: a4 :: a5 :: (some (aI z)) :: b :: la) (aR x :: st) M) = go X m nx (a0 :: a1 :: a2 :: a3 :: a4 :: a5 :: (some (aI z)) :: some (aR x) :: la) st M := xb7 nl_i h2
theorem xb7r {X : aX} {m nx : Nat} {st : List aV} {M : aM} {a0 a1 a2 a3 a4 a5 : Option aV} {b : Option aV} {la : aLs} {x : aL} (h2 : x.1 < 95) {z : aL} : kC X m (i_sta 7 nx (a0 :: a1 :: a2 :: a3 :: a4 :: a5 :: (some (aR z)) :: b :: la) (aR x :: st) M) = go X m nx (a0 :: a1 :: a2 :: a3 :: a4 :: a5 :: (some (aR z)) :: some (aR x) :: la) st M := xb7 nl_r h2
theorem xn7 {X : aX} {m nx : Nat} {st : List aV} {M : aM} {a0 a1 a2 a3 a4 a5 a6 : Option aV} {la : aLs} {x v : Int32} (h : nl a6 = true) : kC X m (i_inc 7 v nx (a0 :: a1 :: a2 :: a3 :: a4 :: a5 :: a6 :: some (aI x) :: la) st M) = go X m nx (a0 :: a1 :: a2 :: a3 :: a4 :: a5 :: a6 :: some (aI (x + v)) :: la) st M := by
  show go X m nx (stL (a0 :: a1 :: a2 :: a3 :: a4 :: a5 :: a6 :: some (aI x) :: la) 7 (aI (x + v))) st M = _
  unfold stL
  rw [clr_nl (la := a0 :: a1 :: a2 :: a3 :: a4 :: a5 :: a6 :: some (aI x) :: la) (j := 6) (a := a6) rfl h]
  rfl
theorem xn7n {X : aX} {m nx : Nat} {st : List aV} {M : aM} {a0 a1 a2 a3 a4 a5 : Option aV} {la : aLs} {x v : Int32} : kC X m (i_inc 7 v nx (a0 :: a1 :: a2 :: a3 :: a4 :: a5 :: none :: some (aI x) :: la) st M) = go X m nx (a0 :: a1 :: a2 :: a3 :: a4 :: a5 :: none :: some (aI (x + v)) :: la) st M := xn7 nl_n
theorem xn7i {X : aX} {m nx : Nat} {st : List aV} {M : aM} {a0 a1 a2 a3 a4 a5 : Option aV} {la : aLs} {x v : Int32} {z : Int32} : kC X m (i_inc 7 v nx (a0 :: a1 :: a2 :: a3 :: a4 :: a5 :: (some (aI z)) :: some (aI x) :: la) st M) = go X m nx (a0 :: a1 :: a2 :: a3 :: a4 :: a5 :: (some (aI z)) :: some (aI (x + v)) :: la) st M := xn7 nl_i
theorem xn7r {X : aX} {m nx : Nat} {st : List aV} {M : aM} {a0 a1 a2 a3 a4 a5 : Option aV} {la : aLs} {x v : Int32} {z : aL} : kC X m (i_inc 7 v nx (a0 :: a1 :: a2 :: a3 :: a4 :: a5 :: (some (aR z)) :: some (aI x) :: la) st M) = go X m nx (a0 :: a1 :: a2 :: a3 :: a4 :: a5 :: (some (aR z)) :: some (aI (x + v)) :: la) st M := xn7 nl_r
theorem xt7 {X : aX} {m nx : Nat} {st : List aV} {M : aM} {a0 a1 a2 a3 a4 a5 a6 : Option aV} {b b2 : Option aV} {la : aLs} {x : Int64} (h : nl a6 = true) : kC X m (i_stj 7 nx (a0 :: a1 :: a2 :: a3 :: a4 :: a5 :: a6 :: b :: b2 :: la) (aJ x :: st) M) = go X m nx (a0 :: a1 :: a2 :: a3 :: a4 :: a5 :: a6 :: some (aJ x) :: none :: la) st M := by
  unfold i_stj
  dsimp only
  rw [if_pos (by simp)]
  rw [kC_some]
  unfold stJ
  rw [clr_nl (la := a0 :: a1 :: a2 :: a3 :: a4 :: a5 :: a6 :: b :: b2 :: la) (j := 6) (a := a6) rfl h]
  rfl
theorem xt7n {X : aX} {m nx : Nat} {st : List aV} {M : aM} {a0 a1 a2 a3 a4 a5 : Option aV} {b b2 : Option aV} {la : aLs} {x : Int64} : kC X m (i_stj 7 nx (a0 :: a1 :: a2 :: a3 :: a4 :: a5 :: none :: b :: b2 :: la) (aJ x :: st) M) = go X m nx (a0 :: a1 :: a2 :: a3 :: a4 :: a5 :: none :: some (aJ x) :: none :: la) st M := xt7 nl_n
theorem xt7i {X : aX} {m nx : Nat} {st : List aV} {M : aM} {a0 a1 a2 a3 a4 a5 : Option aV} {b b2 : Option aV} {la : aLs} {x : Int64} {z : Int32} : kC X m (i_stj 7 nx (a0 :: a1 :: a2 :: a3 :: a4 :: a5 :: (some (aI z)) :: b :: b2 :: la) (aJ x :: st) M) = go X m nx (a0 :: a1 :: a2 :: a3 :: a4 :: a5 :: (some (aI z)) :: some (aJ x) :: none :: la) st M := xt7 nl_i
theorem xt7r {X : aX} {m nx : Nat} {st : List aV} {M : aM} {a0 a1 a2 a3 a4 a5 : Option aV} {b b2 : Option aV} {la : aLs} {x : Int64} {z : aL} : kC X m (i_stj 7 nx (a0 :: a1 :: a2 :: a3 :: a4 :: a5 :: (some (aR z)) :: b :: b2 :: la) (aJ x :: st) M) = go X m nx (a0 :: a1 :: a2 :: a3 :: a4 :: a5 :: (some (aR z)) :: some (aJ x) :: none :: la) st M := xt7 nl_r
theorem xi8 {X : aX} {m nx : Nat} {st : List aV} {M : aM} {a0 a1 a2 a3 a4 a5 a6 a7 : Option aV} {x : Int32} {la : aLs} : kC X m (i_ldi 8 nx (a0 :: a1 :: a2 :: a3 :: a4 :: a5 :: a6 :: a7 :: some (aI x) :: la) st M) = go X m nx (a0 :: a1 :: a2 :: a3 :: a4 :: a5 :: a6 :: a7 :: some (aI x) :: la) (aI x :: st) M := rfl
theorem xa8 {X : aX} {m nx : Nat} {st : List aV} {M : aM} {a0 a1 a2 a3 a4 a5 a6 a7 : Option aV} {r : aL} {la : aLs} (h : r.1 < 95) : kC X m (i_lda 8 nx (a0 :: a1 :: a2 :: a3 :: a4 :: a5 :: a6 :: a7 :: some (aR r) :: la) st M) = go X m nx (a0 :: a1 :: a2 :: a3 :: a4 :: a5 :: a6 :: a7 :: some (aR r) :: la) (aR r :: st) M := by
  show kC X m (if r.1 < 95 then _ else _) = _
  rw [if_pos h]
  rfl
theorem xj8 {X : aX} {m nx : Nat} {st : List aV} {M : aM} {a0 a1 a2 a3 a4 a5 a6 a7 : Option aV} {x : Int64} {la : aLs} : kC X m (i_ldj 8 nx (a0 :: a1 :: a2 :: a3 :: a4 :: a5 :: a6 :: a7 :: some (aJ x) :: la) st M) = go X m nx (a0 :: a1 :: a2 :: a3 :: a4 :: a5 :: a6 :: a7 :: some (aJ x) :: la) (aJ x :: st) M := rfl
theorem xs8 {X : aX} {m nx : Nat} {st : List aV} {M : aM} {a0 a1 a2 a3 a4 a5 a6 a7 : Option aV} {b : Option aV} {la : aLs} {x : Int32} (h : nl a7 = true) : kC X m (i_sti 8 nx (a0 :: a1 :: a2 :: a3 :: a4 :: a5 :: a6 :: a7 :: b :: la) (aI x :: st) M) = go X m nx (a0 :: a1 :: a2 :: a3 :: a4 :: a5 :: a6 :: a7 :: some (aI x) :: la) st M := by
  unfold i_sti
  dsimp only
  rw [if_pos (by simp)]
  rw [kC_some]
  unfold stL
  rw [clr_nl (la := a0 :: a1 :: a2 :: a3 :: a4 :: a5 :: a6 :: a7 :: b :: la) (j := 7) (a := a7) rfl h]
  rfl
theorem xs8n {X : aX} {m nx : Nat} {st : List aV} {M : aM} {a0 a1 a2 a3 a4 a5 a6 : Option aV} {b : Option aV} {la : aLs} {x : Int32} : kC X m (i_sti 8 nx (a0 :: a1 :: a2 :: a3 :: a4 :: a5 :: a6 :: none :: b :: la) (aI x :: st) M) = go X m nx (a0 :: a1 :: a2 :: a3 :: a4 :: a5 :: a6 :: none :: some (aI x) :: la) st M := xs8 nl_n
theorem xs8i {X : aX} {m nx : Nat} {st : List aV} {M : aM} {a0 a1 a2 a3 a4 a5 a6 : Option aV} {b : Option aV} {la : aLs} {x : Int32} {z : Int32} : kC X m (i_sti 8 nx (a0 :: a1 :: a2 :: a3 :: a4 :: a5 :: a6 :: (some (aI z)) :: b :: la) (aI x :: st) M) = go X m nx (a0 :: a1 :: a2 :: a3 :: a4 :: a5 :: a6 :: (some (aI z)) :: some (aI x) :: la) st M := xs8 nl_i
theorem xs8r {X : aX} {m nx : Nat} {st : List aV} {M : aM} {a0 a1 a2 a3 a4 a5 a6 : Option aV} {b : Option aV} {la : aLs} {x : Int32} {z : aL} : kC X m (i_sti 8 nx (a0 :: a1 :: a2 :: a3 :: a4 :: a5 :: a6 :: (some (aR z)) :: b :: la) (aI x :: st) M) = go X m nx (a0 :: a1 :: a2 :: a3 :: a4 :: a5 :: a6 :: (some (aR z)) :: some (aI x) :: la) st M := xs8 nl_r
theorem xb8 {X : aX} {m nx : Nat} {st : List aV} {M : aM} {a0 a1 a2 a3 a4 a5 a6 a7 : Option aV} {b : Option aV} {la : aLs} {x : aL} (h : nl a7 = true) (h2 : x.1 < 95) : kC X m (i_sta 8 nx (a0 :: a1 :: a2 :: a3 :: a4 :: a5 :: a6 :: a7 :: b :: la) (aR x :: st) M) = go X m nx (a0 :: a1 :: a2 :: a3 :: a4 :: a5 :: a6 :: a7 :: some (aR x) :: la) st M := by
  unfold i_sta
  dsimp only
  rw [if_pos (by exact ⟨by simp, h2⟩)]
  rw [kC_some]
  unfold stL
  rw [clr_nl (la := a0 :: a1 :: a2 :: a3 :: a4 :: a5 :: a6 :: a7 :: b :: la) (j := 7) (a := a7) rfl h]
  rfl
theorem xb8n {X : aX} {m nx : Nat} {st : List aV} {M : aM} {a0 a1 a2 a3 a4 a5 a6 : Option aV} {b : Option aV} {la : aLs} {x : aL} (h2 : x.1 < 95) : kC X m (i_sta 8 nx (a0 :: a1 :: a2 :: a3 :: a4 :: a5 :: a6 :: none :: b :: la) (aR x :: st) M) = go X m nx (a0 :: a1 :: a2 :: a3 :: a4 :: a5 :: a6 :: none :: some (aR x) :: la) st M := xb8 nl_n h2
theorem xb8i {X : aX} {m nx : Nat} {st : List aV} {M : aM} {a0 a1 a2 a3 a4 a5 a6 : Option aV} {b : Option aV} {la : aLs} {x : aL} (h2 : x.1 < 95) {z : Int32} : kC X m (i_sta 8 nx (a0 :: a1 :: a2 :: a3 :: a4 :: a5 :: a6 :: (some (aI z)) :: b :: la) (aR x :: st) M) = go X m nx (a0 :: a1 :: a2 :: a3 :: a4 :: a5 :: a6 :: (some (aI z)) :: some (aR x) :: la) st M := xb8 nl_i h2
theorem xb8r {X : aX} {m nx : Nat} {st : List aV} {M : aM} {a0 a1 a2 a3 a4 a5 a6 : Option aV} {b : Option aV} {la : aLs} {x : aL} (h2 : x.1 < 95) {z : aL} : kC X m (i_sta 8 nx (a0 :: a1 :: a2 :: a3 :: a4 :: a5 :: a6 :: (some (aR z)) :: b :: la) (aR x :: st) M) = go X m nx (a0 :: a1 :: a2 :: a3 :: a4 :: a5 :: a6 :: (some (aR z)) :: some (aR x) :: la) st M := xb8 nl_r h2
theorem xn8 {X : aX} {m nx : Nat} {st : List aV} {M : aM} {a0 a1 a2 a3 a4 a5 a6 a7 : Option aV} {la : aLs} {x v : Int32} (h : nl a7 = true) : kC X m (i_inc 8 v nx (a0 :: a1 :: a2 :: a3 :: a4 :: a5 :: a6 :: a7 :: some (aI x) :: la) st M) = go X m nx (a0 :: a1 :: a2 :: a3 :: a4 :: a5 :: a6 :: a7 :: some (aI (x + v)) :: la) st M := by
  show go X m nx (stL (a0 :: a1 :: a2 :: a3 :: a4 :: a5 :: a6 :: a7 :: some (aI x) :: la) 8 (aI (x + v))) st M = _
  unfold stL
  rw [clr_nl (la := a0 :: a1 :: a2 :: a3 :: a4 :: a5 :: a6 :: a7 :: some (aI x) :: la) (j := 7) (a := a7) rfl h]
  rfl
theorem xn8n {X : aX} {m nx : Nat} {st : List aV} {M : aM} {a0 a1 a2 a3 a4 a5 a6 : Option aV} {la : aLs} {x v : Int32} : kC X m (i_inc 8 v nx (a0 :: a1 :: a2 :: a3 :: a4 :: a5 :: a6 :: none :: some (aI x) :: la) st M) = go X m nx (a0 :: a1 :: a2 :: a3 :: a4 :: a5 :: a6 :: none :: some (aI (x + v)) :: la) st M := xn8 nl_n
theorem xn8i {X : aX} {m nx : Nat} {st : List aV} {M : aM} {a0 a1 a2 a3 a4 a5 a6 : Option aV} {la : aLs} {x v : Int32} {z : Int32} : kC X m (i_inc 8 v nx (a0 :: a1 :: a2 :: a3 :: a4 :: a5 :: a6 :: (some (aI z)) :: some (aI x) :: la) st M) = go X m nx (a0 :: a1 :: a2 :: a3 :: a4 :: a5 :: a6 :: (some (aI z)) :: some (aI (x + v)) :: la) st M := xn8 nl_i
theorem xn8r {X : aX} {m nx : Nat} {st : List aV} {M : aM} {a0 a1 a2 a3 a4 a5 a6 : Option aV} {la : aLs} {x v : Int32} {z : aL} : kC X m (i_inc 8 v nx (a0 :: a1 :: a2 :: a3 :: a4 :: a5 :: a6 :: (some (aR z)) :: some (aI x) :: la) st M) = go X m nx (a0 :: a1 :: a2 :: a3 :: a4 :: a5 :: a6 :: (some (aR z)) :: some (aI (x + v)) :: la) st M := xn8 nl_r
theorem xt8 {X : aX} {m nx : Nat} {st : List aV} {M : aM} {a0 a1 a2 a3 a4 a5 a6 a7 : Option aV} {b b2 : Option aV} {la : aLs} {x : Int64} (h : nl a7 = true) : kC X m (i_stj 8 nx (a0 :: a1 :: a2 :: a3 :: a4 :: a5 :: a6 :: a7 :: b :: b2 :: la) (aJ x :: st) M) = go X m nx (a0 :: a1 :: a2 :: a3 :: a4 :: a5 :: a6 :: a7 :: some (aJ x) :: none :: la) st M := by
  unfold i_stj
  dsimp only
  rw [if_pos (by simp)]
  rw [kC_some]
  unfold stJ
  rw [clr_nl (la := a0 :: a1 :: a2 :: a3 :: a4 :: a5 :: a6 :: a7 :: b :: b2 :: la) (j := 7) (a := a7) rfl h]
  rfl
theorem xt8n {X : aX} {m nx : Nat} {st : List aV} {M : aM} {a0 a1 a2 a3 a4 a5 a6 : Option aV} {b b2 : Option aV} {la : aLs} {x : Int64} : kC X m (i_stj 8 nx (a0 :: a1 :: a2 :: a3 :: a4 :: a5 :: a6 :: none :: b :: b2 :: la) (aJ x :: st) M) = go X m nx (a0 :: a1 :: a2 :: a3 :: a4 :: a5 :: a6 :: none :: some (aJ x) :: none :: la) st M := xt8 nl_n
theorem xt8i {X : aX} {m nx : Nat} {st : List aV} {M : aM} {a0 a1 a2 a3 a4 a5 a6 : Option aV} {b b2 : Option aV} {la : aLs} {x : Int64} {z : Int32} : kC X m (i_stj 8 nx (a0 :: a1 :: a2 :: a3 :: a4 :: a5 :: a6 :: (some (aI z)) :: b :: b2 :: la) (aJ x :: st) M) = go X m nx (a0 :: a1 :: a2 :: a3 :: a4 :: a5 :: a6 :: (some (aI z)) :: some (aJ x) :: none :: la) st M := xt8 nl_i
theorem xt8r {X : aX} {m nx : Nat} {st : List aV} {M : aM} {a0 a1 a2 a3 a4 a5 a6 : Option aV} {b b2 : Option aV} {la : aLs} {x : Int64} {z : aL} : kC X m (i_stj 8 nx (a0 :: a1 :: a2 :: a3 :: a4 :: a5 :: a6 :: (some (aR z)) :: b :: b2 :: la) (aJ x :: st) M) = go X m nx (a0 :: a1 :: a2 :: a3 :: a4 :: a5 :: a6 :: (some (aR z)) :: some (aJ x) :: none :: la) st M := xt8 nl_r
theorem xi9 {X : aX} {m nx : Nat} {st : List aV} {M : aM} {a0 a1 a2 a3 a4 a5 a6 a7 a8 : Option aV} {x : Int32} {la : aLs} : kC X m (i_ldi 9 nx (a0 :: a1 :: a2 :: a3 :: a4 :: a5 :: a6 :: a7 :: a8 :: some (aI x) :: la) st M) = go X m nx (a0 :: a1 :: a2 :: a3 :: a4 :: a5 :: a6 :: a7 :: a8 :: some (aI x) :: la) (aI x :: st) M := rfl
theorem xa9 {X : aX} {m nx : Nat} {st : List aV} {M : aM} {a0 a1 a2 a3 a4 a5 a6 a7 a8 : Option aV} {r : aL} {la : aLs} (h : r.1 < 95) : kC X m (i_lda 9 nx (a0 :: a1 :: a2 :: a3 :: a4 :: a5 :: a6 :: a7 :: a8 :: some (aR r) :: la) st M) = go X m nx (a0 :: a1 :: a2 :: a3 :: a4 :: a5 :: a6 :: a7 :: a8 :: some (aR r) :: la) (aR r :: st) M := by
  show kC X m (if r.1 < 95 then _ else _) = _
  rw [if_pos h]
  rfl
theorem xj9 {X : aX} {m nx : Nat} {st : List aV} {M : aM} {a0 a1 a2 a3 a4 a5 a6 a7 a8 : Option aV} {x : Int64} {la : aLs} : kC X m (i_ldj 9 nx (a0 :: a1 :: a2 :: a3 :: a4 :: a5 :: a6 :: a7 :: a8 :: some (aJ x) :: la) st M) = go X m nx (a0 :: a1 :: a2 :: a3 :: a4 :: a5 :: a6 :: a7 :: a8 :: some (aJ x) :: la) (aJ x :: st) M := rfl
theorem xs9 {X : aX} {m nx : Nat} {st : List aV} {M : aM} {a0 a1 a2 a3 a4 a5 a6 a7 a8 : Option aV} {b : Option aV} {la : aLs} {x : Int32} (h : nl a8 = true) : kC X m (i_sti 9 nx (a0 :: a1 :: a2 :: a3 :: a4 :: a5 :: a6 :: a7 :: a8 :: b :: la) (aI x :: st) M) = go X m nx (a0 :: a1 :: a2 :: a3 :: a4 :: a5 :: a6 :: a7 :: a8 :: some (aI x) :: la) st M := by
  unfold i_sti
  dsimp only
  rw [if_pos (by simp)]
  rw [kC_some]
  unfold stL
  rw [clr_nl (la := a0 :: a1 :: a2 :: a3 :: a4 :: a5 :: a6 :: a7 :: a8 :: b :: la) (j := 8) (a := a8) rfl h]
  rfl
theorem xs9n {X : aX} {m nx : Nat} {st : List aV} {M : aM} {a0 a1 a2 a3 a4 a5 a6 a7 : Option aV} {b : Option aV} {la : aLs} {x : Int32} : kC X m (i_sti 9 nx (a0 :: a1 :: a2 :: a3 :: a4 :: a5 :: a6 :: a7 :: none :: b :: la) (aI x :: st) M) = go X m nx (a0 :: a1 :: a2 :: a3 :: a4 :: a5 :: a6 :: a7 :: none :: some (aI x) :: la) st M := xs9 nl_n
theorem xs9i {X : aX} {m nx : Nat} {st : List aV} {M : aM} {a0 a1 a2 a3 a4 a5 a6 a7 : Option aV} {b : Option aV} {la : aLs} {x : Int32} {z : Int32} : kC X m (i_sti 9 nx (a0 :: a1 :: a2 :: a3 :: a4 :: a5 :: a6 :: a7 :: (some (aI z)) :: b :: la) (aI x :: st) M) = go X m nx (a0 :: a1 :: a2 :: a3 :: a4 :: a5 :: a6 :: a7 :: (some (aI z)) :: some (aI x) :: la) st M := xs9 nl_i
theorem xs9r {X : aX} {m nx : Nat} {st : List aV} {M : aM} {a0 a1 a2 a3 a4 a5 a6 a7 : Option aV} {b : Option aV} {la : aLs} {x : Int32} {z : aL} : kC X m (i_sti 9 nx (a0 :: a1 :: a2 :: a3 :: a4 :: a5 :: a6 :: a7 :: (some (aR z)) :: b :: la) (aI x :: st) M) = go X m nx (a0 :: a1 :: a2 :: a3 :: a4 :: a5 :: a6 :: a7 :: (some (aR z)) :: some (aI x) :: la) st M := xs9 nl_r
theorem xb9 {X : aX} {m nx : Nat} {st : List aV} {M : aM} {a0 a1 a2 a3 a4 a5 a6 a7 a8 : Option aV} {b : Option aV} {la : aLs} {x : aL} (h : nl a8 = true) (h2 : x.1 < 95) : kC X m (i_sta 9 nx (a0 :: a1 :: a2 :: a3 :: a4 :: a5 :: a6 :: a7 :: a8 :: b :: la) (aR x :: st) M) = go X m nx (a0 :: a1 :: a2 :: a3 :: a4 :: a5 :: a6 :: a7 :: a8 :: some (aR x) :: la) st M := by
  unfold i_sta
  dsimp only
  rw [if_pos (by exact ⟨by simp, h2⟩)]
  rw [kC_some]
  unfold stL
  rw [clr_nl (la := a0 :: a1 :: a2 :: a3 :: a4 :: a5 :: a6 :: a7 :: a8 :: b :: la) (j := 8) (a := a8) rfl h]
  rfl
theorem xb9n {X : aX} {m nx : Nat} {st : List aV} {M : aM} {a0 a1 a2 a3 a4 a5 a6 a7 : Option aV} {b : Option aV} {la : aLs} {x : aL} (h2 : x.1 < 95) : kC X m (i_sta 9 nx (a0 :: a1 :: a2 :: a3 :: a4 :: a5 :: a6 :: a7 :: none :: b :: la) (aR x :: st) M) = go X m nx (a0 :: a1 :: a2 :: a3 :: a4 :: a5 :: a6 :: a7 :: none :: some (aR x) :: la) st M := xb9 nl_n h2
theorem xb9i {X : aX} {m nx : Nat} {st : List aV} {M : aM} {a0 a1 a2 a3 a4 a5 a6 a7 : Option aV} {b : Option aV} {la : aLs} {x : aL} (h2 : x.1 < 95) {z : Int32} : kC X m (i_sta 9 nx (a0 :: a1 :: a2 :: a3 :: a4 :: a5 :: a6 :: a7 :: (some (aI z)) :: b :: la) (aR x :: st) M) = go X m nx (a0 :: a1 :: a2 :: a3 :: a4 :: a5 :: a6 :: a7 :: (some (aI z)) :: some (aR x) :: la) st M := xb9 nl_i h2
theorem xb9r {X : aX} {m nx : Nat} {st : List aV} {M : aM} {a0 a1 a2 a3 a4 a5 a6 a7 : Option aV} {b : Option aV} {la : aLs} {x : aL} (h2 : x.1 < 95) {z : aL} : kC X m (i_sta 9 nx (a0 :: a1 :: a2 :: a3 :: a4 :: a5 :: a6 :: a7 :: (some (aR z)) :: b :: la) (aR x :: st) M) = go X m nx (a0 :: a1 :: a2 :: a3 :: a4 :: a5 :: a6 :: a7 :: (some (aR z)) :: some (aR x) :: la) st M := xb9 nl_r h2
theorem xn9 {X : aX} {m nx : Nat} {st : List aV} {M : aM} {a0 a1 a2 a3 a4 a5 a6 a7 a8 : Option aV} {la : aLs} {x v : Int32} (h : nl a8 = true) : kC X m (i_inc 9 v nx (a0 :: a1 :: a2 :: a3 :: a4 :: a5 :: a6 :: a7 :: a8 :: some (aI x) :: la) st M) = go X m nx (a0 :: a1 :: a2 :: a3 :: a4 :: a5 :: a6 :: a7 :: a8 :: some (aI (x + v)) :: la) st M := by
  show go X m nx (stL (a0 :: a1 :: a2 :: a3 :: a4 :: a5 :: a6 :: a7 :: a8 :: some (aI x) :: la) 9 (aI (x + v))) st M = _
  unfold stL
  rw [clr_nl (la := a0 :: a1 :: a2 :: a3 :: a4 :: a5 :: a6 :: a7 :: a8 :: some (aI x) :: la) (j := 8) (a := a8) rfl h]
  rfl
theorem xn9n {X : aX} {m nx : Nat} {st : List aV} {M : aM} {a0 a1 a2 a3 a4 a5 a6 a7 : Option aV} {la : aLs} {x v : Int32} : kC X m (i_inc 9 v nx (a0 :: a1 :: a2 :: a3 :: a4 :: a5 :: a6 :: a7 :: none :: some (aI x) :: la) st M) = go X m nx (a0 :: a1 :: a2 :: a3 :: a4 :: a5 :: a6 :: a7 :: none :: some (aI (x + v)) :: la) st M := xn9 nl_n
theorem xn9i {X : aX} {m nx : Nat} {st : List aV} {M : aM} {a0 a1 a2 a3 a4 a5 a6 a7 : Option aV} {la : aLs} {x v : Int32} {z : Int32} : kC X m (i_inc 9 v nx (a0 :: a1 :: a2 :: a3 :: a4 :: a5 :: a6 :: a7 :: (some (aI z)) :: some (aI x) :: la) st M) = go X m nx (a0 :: a1 :: a2 :: a3 :: a4 :: a5 :: a6 :: a7 :: (some (aI z)) :: some (aI (x + v)) :: la) st M := xn9 nl_i
theorem xn9r {X : aX} {m nx : Nat} {st : List aV} {M : aM} {a0 a1 a2 a3 a4 a5 a6 a7 : Option aV} {la : aLs} {x v : Int32} {z : aL} : kC X m (i_inc 9 v nx (a0 :: a1 :: a2 :: a3 :: a4 :: a5 :: a6 :: a7 :: (some (aR z)) :: some (aI x) :: la) st M) = go X m nx (a0 :: a1 :: a2 :: a3 :: a4 :: a5 :: a6 :: a7 :: (some (aR z)) :: some (aI (x + v)) :: la) st M := xn9 nl_r
theorem xt9 {X : aX} {m nx : Nat} {st : List aV} {M : aM} {a0 a1 a2 a3 a4 a5 a6 a7 a8 : Option aV} {b b2 : Option aV} {la : aLs} {x : Int64} (h : nl a8 = true) : kC X m (i_stj 9 nx (a0 :: a1 :: a2 :: a3 :: a4 :: a5 :: a6 :: a7 :: a8 :: b :: b2 :: la) (aJ x :: st) M) = go X m nx (a0 :: a1 :: a2 :: a3 :: a4 :: a5 :: a6 :: a7 :: a8 :: some (aJ x) :: none :: la) st M := by
  unfold i_stj
  dsimp only
  rw [if_pos (by simp)]
  rw [kC_some]
  unfold stJ
  rw [clr_nl (la := a0 :: a1 :: a2 :: a3 :: a4 :: a5 :: a6 :: a7 :: a8 :: b :: b2 :: la) (j := 8) (a := a8) rfl h]
  rfl
theorem xt9n {X : aX} {m nx : Nat} {st : List aV} {M : aM} {a0 a1 a2 a3 a4 a5 a6 a7 : Option aV} {b b2 : Option aV} {la : aLs} {x : Int64} : kC X m (i_stj 9 nx (a0 :: a1 :: a2 :: a3 :: a4 :: a5 :: a6 :: a7 :: none :: b :: b2 :: la) (aJ x :: st) M) = go X m nx (a0 :: a1 :: a2 :: a3 :: a4 :: a5 :: a6 :: a7 :: none :: some (aJ x) :: none :: la) st M := xt9 nl_n
theorem xt9i {X : aX} {m nx : Nat} {st : List aV} {M : aM} {a0 a1 a2 a3 a4 a5 a6 a7 : Option aV} {b b2 : Option aV} {la : aLs} {x : Int64} {z : Int32} : kC X m (i_stj 9 nx (a0 :: a1 :: a2 :: a3 :: a4 :: a5 :: a6 :: a7 :: (some (aI z)) :: b :: b2 :: la) (aJ x :: st) M) = go X m nx (a0 :: a1 :: a2 :: a3 :: a4 :: a5 :: a6 :: a7 :: (some (aI z)) :: some (aJ x) :: none :: la) st M := xt9 nl_i
theorem xt9r {X : aX} {m nx : Nat} {st : List aV} {M : aM} {a0 a1 a2 a3 a4 a5 a6 a7 : Option aV} {b b2 : Option aV} {la : aLs} {x : Int64} {z : aL} : kC X m (i_stj 9 nx (a0 :: a1 :: a2 :: a3 :: a4 :: a5 :: a6 :: a7 :: (some (aR z)) :: b :: b2 :: la) (aJ x :: st) M) = go X m nx (a0 :: a1 :: a2 :: a3 :: a4 :: a5 :: a6 :: a7 :: (some (aR z)) :: some (aJ x) :: none :: la) st M := xt9 nl_r
theorem xi10 {X : aX} {m nx : Nat} {st : List aV} {M : aM} {a0 a1 a2 a3 a4 a5 a6 a7 a8 a9 : Option aV} {x : Int32} {la : aLs} : kC X m (i_ldi 10 nx (a0 :: a1 :: a2 :: a3 :: a4 :: a5 :: a6 :: a7 :: a8 :: a9 :: some (aI x) :: la) st M) = go X m nx (a0 :: a1 :: a2 :: a3 :: a4 :: a5 :: a6 :: a7 :: a8 :: a9 :: some (aI x) :: la) (aI x :: st) M := rfl
theorem xa10 {X : aX} {m nx : Nat} {st : List aV} {M : aM} {a0 a1 a2 a3 a4 a5 a6 a7 a8 a9 : Option aV} {r : aL} {la : aLs} (h : r.1 < 95) : kC X m (i_lda 10 nx (a0 :: a1 :: a2 :: a3 :: a4 :: a5 :: a6 :: a7 :: a8 :: a9 :: some (aR r) :: la) st M) = go X m nx (a0 :: a1 :: a2 :: a3 :: a4 :: a5 :: a6 :: a7 :: a8 :: a9 :: some (aR r) :: la) (aR r :: st) M := by
  show kC X m (if r.1 < 95 then _ else _) = _
  rw [if_pos h]
  rfl
theorem xj10 {X : aX} {m nx : Nat} {st : List aV} {M : aM} {a0 a1 a2 a3 a4 a5 a6 a7 a8 a9 : Option aV} {x : Int64} {la : aLs} : kC X m (i_ldj 10 nx (a0 :: a1 :: a2 :: a3 :: a4 :: a5 :: a6 :: a7 :: a8 :: a9 :: some (aJ x) :: la) st M) = go X m nx (a0 :: a1 :: a2 :: a3 :: a4 :: a5 :: a6 :: a7 :: a8 :: a9 :: some (aJ x) :: la) (aJ x :: st) M := rfl
theorem xs10 {X : aX} {m nx : Nat} {st : List aV} {M : aM} {a0 a1 a2 a3 a4 a5 a6 a7 a8 a9 : Option aV} {b : Option aV} {la : aLs} {x : Int32} (h : nl a9 = true) : kC X m (i_sti 10 nx (a0 :: a1 :: a2 :: a3 :: a4 :: a5 :: a6 :: a7 :: a8 :: a9 :: b :: la) (aI x :: st) M) = go X m nx (a0 :: a1 :: a2 :: a3 :: a4 :: a5 :: a6 :: a7 :: a8 :: a9 :: some (aI x) :: la) st M := by
  unfold i_sti
  dsimp only
  rw [if_pos (by simp)]
  rw [kC_some]
  unfold stL
  rw [clr_nl (la := a0 :: a1 :: a2 :: a3 :: a4 :: a5 :: a6 :: a7 :: a8 :: a9 :: b :: la) (j := 9) (a := a9) rfl h]
  rfl
theorem xs10n {X : aX} {m nx : Nat} {st : List aV} {M : aM} {a0 a1 a2 a3 a4 a5 a6 a7 a8 : Option aV} {b : Option aV} {la : aLs} {x : Int32} : kC X m (i_sti 10 nx (a0 :: a1 :: a2 :: a3 :: a4 :: a5 :: a6 :: a7 :: a8 :: none :: b :: la) (aI x :: st) M) = go X m nx (a0 :: a1 :: a2 :: a3 :: a4 :: a5 :: a6 :: a7 :: a8 :: none :: some (aI x) :: la) st M := xs10 nl_n
theorem xs10i {X : aX} {m nx : Nat} {st : List aV} {M : aM} {a0 a1 a2 a3 a4 a5 a6 a7 a8 : Option aV} {b : Option aV} {la : aLs} {x : Int32} {z : Int32} : kC X m (i_sti 10 nx (a0 :: a1 :: a2 :: a3 :: a4 :: a5 :: a6 :: a7 :: a8 :: (some (aI z)) :: b :: la) (aI x :: st) M) = go X m nx (a0 :: a1 :: a2 :: a3 :: a4 :: a5 :: a6 :: a7 :: a8 :: (some (aI z)) :: some (aI x) :: la) st M := xs10 nl_i
theorem xs10r {X : aX} {m nx : Nat} {st : List aV} {M : aM} {a0 a1 a2 a3 a4 a5 a6 a7 a8 : Option aV} {b : Option aV} {la : aLs} {x : Int32} {z : aL} : kC X m (i_sti 10 nx (a0 :: a1 :: a2 :: a3 :: a4 :: a5 :: a6 :: a7 :: a8 :: (some (aR z)) :: b :: la) (aI x :: st) M) = go X m nx (a0 :: a1 :: a2 :: a3 :: a4 :: a5 :: a6 :: a7 :: a8 :: (some (aR z)) :: some (aI x) :: la) st M := xs10 nl_r
theorem xb10 {X : aX} {m nx : Nat} {st : List aV} {M : aM} {a0 a1 a2 a3 a4 a5 a6 a7 a8 a9 : Option aV} {b : Option aV} {la : aLs} {x : aL} (h : nl a9 = true) (h2 : x.1 < 95) : kC X m (i_sta 10 nx (a0 :: a1 :: a2 :: a3 :: a4 :: a5 :: a6 :: a7 :: a8 :: a9 :: b :: la) (aR x :: st) M) = go X m nx (a0 :: a1 :: a2 :: a3 :: a4 :: a5 :: a6 :: a7 :: a8 :: a9 :: some (aR x) :: la) st M := by
  unfold i_sta
  dsimp only
  rw [if_pos (by exact ⟨by simp, h2⟩)]
  rw [kC_some]
  unfold stL
  rw [clr_nl (la := a0 :: a1 :: a2 :: a3 :: a4 :: a5 :: a6 :: a7 :: a8 :: a9 :: b :: la) (j := 9) (a := a9) rfl h]
  rfl
theorem xb10n {X : aX} {m nx : Nat} {st : List aV} {M : aM} {a0 a1 a2 a3 a4 a5 a6 a7 a8 : Option aV} {b : Option aV} {la : aLs} {x : aL} (h2 : x.1 < 95) : kC X m (i_sta 10 nx (a0 :: a1 :: a2 :: a3 :: a4 :: a5 :: a6 :: a7 :: a8 :: none :: b :: la) (aR x :: st) M) = go X m nx (a0 :: a1 :: a2 :: a3 :: a4 :: a5 :: a6 :: a7 :: a8 :: none :: some (aR x) :: la) st M := xb10 nl_n h2
theorem xb10i {X : aX} {m nx : Nat} {st : List aV} {M : aM} {a0 a1 a2 a3 a4 a5 a6 a7 a8 : Option aV} {b : Option aV} {la : aLs} {x : aL} (h2 : x.1 < 95) {z : Int32} : kC X m (i_sta 10 nx (a0 :: a1 :: a2 :: a3 :: a4 :: a5 :: a6 :: a7 :: a8 :: (some (aI z)) :: b :: la) (aR x :: st) M) = go X m nx (a0 :: a1 :: a2 :: a3 :: a4 :: a5 :: a6 :: a7 :: a8 :: (some (aI z)) :: some (aR x) :: la) st M := xb10 nl_i h2
theorem xb10r {X : aX} {m nx : Nat} {st : List aV} {M : aM} {a0 a1 a2 a3 a4 a5 a6 a7 a8 : Option aV} {b : Option aV} {la : aLs} {x : aL} (h2 : x.1 < 95) {z : aL} : kC X m (i_sta 10 nx (a0 :: a1 :: a2 :: a3 :: a4 :: a5 :: a6 :: a7 :: a8 :: (some (aR z)) :: b :: la) (aR x :: st) M) = go X m nx (a0 :: a1 :: a2 :: a3 :: a4 :: a5 :: a6 :: a7 :: a8 :: (some (aR z)) :: some (aR x) :: la) st M := xb10 nl_r h2
theorem xn10 {X : aX} {m nx : Nat} {st : List aV} {M : aM} {a0 a1 a2 a3 a4 a5 a6 a7 a8 a9 : Option aV} {la : aLs} {x v : Int32} (h : nl a9 = true) : kC X m (i_inc 10 v nx (a0 :: a1 :: a2 :: a3 :: a4 :: a5 :: a6 :: a7 :: a8 :: a9 :: some (aI x) :: la) st M) = go X m nx (a0 :: a1 :: a2 :: a3 :: a4 :: a5 :: a6 :: a7 :: a8 :: a9 :: some (aI (x + v)) :: la) st M := by
  show go X m nx (stL (a0 :: a1 :: a2 :: a3 :: a4 :: a5 :: a6 :: a7 :: a8 :: a9 :: some (aI x) :: la) 10 (aI (x + v))) st M = _
  unfold stL
  rw [clr_nl (la := a0 :: a1 :: a2 :: a3 :: a4 :: a5 :: a6 :: a7 :: a8 :: a9 :: some (aI x) :: la) (j := 9) (a := a9) rfl h]
  rfl
theorem xn10n {X : aX} {m nx : Nat} {st : List aV} {M : aM} {a0 a1 a2 a3 a4 a5 a6 a7 a8 : Option aV} {la : aLs} {x v : Int32} : kC X m (i_inc 10 v nx (a0 :: a1 :: a2 :: a3 :: a4 :: a5 :: a6 :: a7 :: a8 :: none :: some (aI x) :: la) st M) = go X m nx (a0 :: a1 :: a2 :: a3 :: a4 :: a5 :: a6 :: a7 :: a8 :: none :: some (aI (x + v)) :: la) st M := xn10 nl_n
theorem xn10i {X : aX} {m nx : Nat} {st : List aV} {M : aM} {a0 a1 a2 a3 a4 a5 a6 a7 a8 : Option aV} {la : aLs} {x v : Int32} {z : Int32} : kC X m (i_inc 10 v nx (a0 :: a1 :: a2 :: a3 :: a4 :: a5 :: a6 :: a7 :: a8 :: (some (aI z)) :: some (aI x) :: la) st M) = go X m nx (a0 :: a1 :: a2 :: a3 :: a4 :: a5 :: a6 :: a7 :: a8 :: (some (aI z)) :: some (aI (x + v)) :: la) st M := xn10 nl_i
theorem xn10r {X : aX} {m nx : Nat} {st : List aV} {M : aM} {a0 a1 a2 a3 a4 a5 a6 a7 a8 : Option aV} {la : aLs} {x v : Int32} {z : aL} : kC X m (i_inc 10 v nx (a0 :: a1 :: a2 :: a3 :: a4 :: a5 :: a6 :: a7 :: a8 :: (some (aR z)) :: some (aI x) :: la) st M) = go X m nx (a0 :: a1 :: a2 :: a3 :: a4 :: a5 :: a6 :: a7 :: a8 :: (some (aR z)) :: some (aI (x + v)) :: la) st M := xn10 nl_r
theorem x_ci {X : aX} {m nx : Nat} {st : List aV} {M : aM} {la : aLs} {v : Int32} : kC X m (i_ci v nx la st M) = go X m nx la (aI v :: st) M := rfl
theorem x_cj {X : aX} {m nx : Nat} {st : List aV} {M : aM} {la : aLs} {v : Int64} : kC X m (i_cj v nx la st M) = go X m nx la (aJ v :: st) M := rfl
theorem x_ca {X : aX} {m nx : Nat} {st : List aV} {M : aM} {la : aLs} {v : aV} : kC X m (i_ca v nx la st M) = go X m nx la (v :: st) M := rfl
theorem x_bin {X : aX} {m nx : Nat} {st : List aV} {M : aM} {la : aLs} {f : Int32 → Int32 → Int32} {x y : Int32} : kC X m (i_bin f nx la (aI y :: aI x :: st) M) = go X m nx la (aI (f x y) :: st) M := rfl
theorem x_bnj {X : aX} {m nx : Nat} {st : List aV} {M : aM} {la : aLs} {f : Int64 → Int64 → Int64} {x y : Int64} : kC X m (i_bnj f nx la (aJ y :: aJ x :: st) M) = go X m nx la (aJ (f x y) :: st) M := rfl
theorem x_shj {X : aX} {m nx : Nat} {st : List aV} {M : aM} {la : aLs} {f : Int64 → Int32 → Int64} {x : Int64} {y : Int32} : kC X m (i_shj f nx la (aI y :: aJ x :: st) M) = go X m nx la (aJ (f x y) :: st) M := rfl
theorem x_un {X : aX} {m nx : Nat} {st : List aV} {M : aM} {la : aLs} {f : Int32 → Int32} {x : Int32} : kC X m (i_un f nx la (aI x :: st) M) = go X m nx la (aI (f x) :: st) M := rfl
theorem x_i2l {X : aX} {m nx : Nat} {st : List aV} {M : aM} {la : aLs} {x : Int32} : kC X m (i_i2l nx la (aI x :: st) M) = go X m nx la (aJ x.toInt64 :: st) M := rfl
theorem x_l2i {X : aX} {m nx : Nat} {st : List aV} {M : aM} {la : aLs} {x : Int64} : kC X m (i_l2i nx la (aJ x :: st) M) = go X m nx la (aI x.toInt32 :: st) M := rfl
theorem x_lcm {X : aX} {m nx : Nat} {st : List aV} {M : aM} {la : aLs} {x y : Int64} : kC X m (i_lcm nx la (aJ y :: aJ x :: st) M) = go X m nx la (aI (lg_cmp x y) :: st) M := rfl
theorem x_div {X : aX} {m nx : Nat} {st : List aV} {M : aM} {la : aLs} {f : Int32 → Int32 → Int32} {x y : Int32} (h : ¬ y = 0) : kC X m (i_div f nx la (aI y :: aI x :: st) M) = go X m nx la (aI (f x y) :: st) M := by
  show kC X m (if y = 0 then _ else _) = _
  rw [if_neg h]
  rfl
theorem x_dupi {X : aX} {m nx : Nat} {st : List aV} {M : aM} {la : aLs} {x : Int32} : kC X m (i_dup nx la (aI x :: st) M) = go X m nx la (aI x :: aI x :: st) M := rfl
theorem x_dupr {X : aX} {m nx : Nat} {st : List aV} {M : aM} {la : aLs} {x : aL} : kC X m (i_dup nx la (aR x :: st) M) = go X m nx la (aR x :: aR x :: st) M := rfl
theorem x_dp2 {X : aX} {m nx : Nat} {st : List aV} {M : aM} {la : aLs} {x : Int32} {r : aL} : kC X m (i_dp2 nx la (aI x :: aR r :: st) M) = go X m nx la (aI x :: aR r :: aI x :: aR r :: st) M := rfl
theorem x_popi {X : aX} {m nx : Nat} {st : List aV} {M : aM} {la : aLs} {x : Int32} : kC X m (i_pop nx la (aI x :: st) M) = go X m nx la st M := rfl
theorem x_popr {X : aX} {m nx : Nat} {st : List aV} {M : aM} {la : aLs} {x : aL} : kC X m (i_pop nx la (aR x :: st) M) = go X m nx la st M := rfl
theorem x_ife {X : aX} {m nx : Nat} {st : List aV} {M : aM} {la : aLs} {t : Nat} {x : Int32} : kC X m (i_ife t nx la (aI x :: st) M) = if x = 0 then go X m t la st M else go X m nx la st M := by
  show kC X m (if x = 0 then _ else _) = _
  split <;> rfl
theorem x_ifl {X : aX} {m nx : Nat} {st : List aV} {M : aM} {la : aLs} {t : Nat} {x : Int32} : kC X m (i_ifl t nx la (aI x :: st) M) = if x < 0 then go X m t la st M else go X m nx la st M := by
  show kC X m (if x < 0 then _ else _) = _
  split <;> rfl
theorem x_ifg {X : aX} {m nx : Nat} {st : List aV} {M : aM} {la : aLs} {t : Nat} {x : Int32} : kC X m (i_ifg t nx la (aI x :: st) M) = if 0 < x then go X m t la st M else go X m nx la st M := by
  show kC X m (if 0 < x then _ else _) = _
  split <;> rfl
theorem x_cme {X : aX} {m nx : Nat} {st : List aV} {M : aM} {la : aLs} {t : Nat} {x y : Int32} : kC X m (i_cme t nx la (aI y :: aI x :: st) M) = if x = y then go X m t la st M else go X m nx la st M := by
  show kC X m (if x = y then _ else _) = _
  split <;> rfl
theorem x_cml {X : aX} {m nx : Nat} {st : List aV} {M : aM} {la : aLs} {t : Nat} {x y : Int32} : kC X m (i_cml t nx la (aI y :: aI x :: st) M) = if x < y then go X m t la st M else go X m nx la st M := by
  show kC X m (if x < y then _ else _) = _
  split <;> rfl
theorem x_cmg {X : aX} {m nx : Nat} {st : List aV} {M : aM} {la : aLs} {t : Nat} {x y : Int32} : kC X m (i_cmg t nx la (aI y :: aI x :: st) M) = if y < x then go X m t la st M else go X m nx la st M := by
  show kC X m (if y < x then _ else _) = _
  split <;> rfl
theorem x_go {X : aX} {m t : Nat} {st : List aV} {M : aM} {la : aLs} : kC X m (i_go t la st M) = go X m t la st M := rfl
theorem x_sw0 {X : aX} {m d : Nat} {st : List aV} {M : aM} {la : aLs} {x : Int32} : kC X m (i_sw [] d la (aI x :: st) M) = go X m d la st M := rfl
theorem x_sw {X : aX} {m d : Nat} {st : List aV} {M : aM} {la : aLs} {x : Int32} {q : Int32 × Nat} {r : List (Int32 × Nat)} : kC X m (i_sw (q :: r) d la (aI x :: st) M) = if x = q.1 then go X m q.2 la st M else kC X m (i_sw r d la (aI x :: st) M) := by
  show kC X m (some (if x = q.1 then q.2 else swt r d x, la, st, M)) = _
  split <;> rfl
theorem x_no {X : aX} {m nx : Nat} {st : List aV} {M : aM} {la : aLs} : kC X m (i_no la st M) = none := rfl
theorem x_oin {X : aX} {m nx : Nat} {st : List aV} {M : aM} {la : aLs} {r : aL} : kC X m (i_oin nx la (aR r :: st) M) = if r.1 < 80 ∧ cs st ≤ 8 then go X m nx la st M else none := by
  unfold i_oin
  dsimp only
  split <;> rfl
theorem x_max {X : aX} {m nx : Nat} {st : List aV} {M : aM} {la : aLs} {x y : Int32} : kC X m (i_max nx la (aI y :: aI x :: st) M) = if cs st ≤ 8 then go X m nx la (aI (if x < y then y else x) :: st) M else none := by
  unfold i_max
  dsimp only
  split <;> rfl
theorem x_min {X : aX} {m nx : Nat} {st : List aV} {M : aM} {la : aLs} {x y : Int32} : kC X m (i_min nx la (aI y :: aI x :: st) M) = if cs st ≤ 8 then go X m nx la (aI (if y < x then y else x) :: st) M else none := by
  unfold i_min
  dsimp only
  split <;> rfl
theorem r_i {M : aM} {x : Int32} : i_irt [aI x] M = some (some (aI x), M) := rfl
theorem r_j {M : aM} {x : Int64} : i_jrt [aJ x] M = some (some (aJ x), M) := rfl
theorem r_v {M : aM} : i_vrt [] M = some (none, M) := rfl
theorem r_z1 {M : aM} : i_zrt [aI (nI 1)] M = some (some (aI (nI 1)), M) := by
  unfold i_zrt
  dsimp only
  rw [if_pos (by decide +kernel)]
theorem r_z0 {M : aM} : i_zrt [aI (nI 0)] M = some (some (aI (nI 0)), M) := by
  unfold i_zrt
  dsimp only
  rw [if_pos (by decide +kernel)]
theorem r_a {M : aM} {r : aL} (h : r.1 < 90) : i_art [aR r] M = some (some (aR r), M) := by
  show (if r.1 < 90 then _ else _) = _
  rw [if_pos h]
theorem x_k0 {X : aX} {m m2 nx rc : Nat} {la : aLs} {st : List aV} {M : aM} (h : rco M rc [] = true) (h2 : cs st ≤ 8) : kK X m m2 0 nx rc la (st) M = bnd (cl X m2 [] M) (fun v M2 => go X m nx la (psh v st) M2) := by
  show (if cok M rc 0 (st) = true then _ else _) = _
  rw [if_pos (by simp [cok, h, h2])]
  rfl
theorem x_k1 {X : aX} {m m2 nx rc : Nat} {la : aLs} {st : List aV} {M : aM} {b0 : aV} (h : rco M rc [b0] = true) (h2 : cs st ≤ 8) : kK X m m2 1 nx rc la (b0 :: st) M = bnd (cl X m2 [b0] M) (fun v M2 => go X m nx la (psh v st) M2) := by
  show (if cok M rc 1 (b0 :: st) = true then _ else _) = _
  rw [if_pos (by simp [cok, h, h2])]
  rfl
theorem x_k2 {X : aX} {m m2 nx rc : Nat} {la : aLs} {st : List aV} {M : aM} {b0 b1 : aV} (h : rco M rc [b0, b1] = true) (h2 : cs st ≤ 8) : kK X m m2 2 nx rc la (b1 :: b0 :: st) M = bnd (cl X m2 [b0, b1] M) (fun v M2 => go X m nx la (psh v st) M2) := by
  show (if cok M rc 2 (b1 :: b0 :: st) = true then _ else _) = _
  rw [if_pos (by simp [cok, h, h2])]
  rfl
theorem x_k3 {X : aX} {m m2 nx rc : Nat} {la : aLs} {st : List aV} {M : aM} {b0 b1 b2 : aV} (h : rco M rc [b0, b1, b2] = true) (h2 : cs st ≤ 8) : kK X m m2 3 nx rc la (b2 :: b1 :: b0 :: st) M = bnd (cl X m2 [b0, b1, b2] M) (fun v M2 => go X m nx la (psh v st) M2) := by
  show (if cok M rc 3 (b2 :: b1 :: b0 :: st) = true then _ else _) = _
  rw [if_pos (by simp [cok, h, h2])]
  rfl
theorem x_k4 {X : aX} {m m2 nx rc : Nat} {la : aLs} {st : List aV} {M : aM} {b0 b1 b2 b3 : aV} (h : rco M rc [b0, b1, b2, b3] = true) (h2 : cs st ≤ 8) : kK X m m2 4 nx rc la (b3 :: b2 :: b1 :: b0 :: st) M = bnd (cl X m2 [b0, b1, b2, b3] M) (fun v M2 => go X m nx la (psh v st) M2) := by
  show (if cok M rc 4 (b3 :: b2 :: b1 :: b0 :: st) = true then _ else _) = _
  rw [if_pos (by simp [cok, h, h2])]
  rfl
theorem x_k5 {X : aX} {m m2 nx rc : Nat} {la : aLs} {st : List aV} {M : aM} {b0 b1 b2 b3 b4 : aV} (h : rco M rc [b0, b1, b2, b3, b4] = true) (h2 : cs st ≤ 8) : kK X m m2 5 nx rc la (b4 :: b3 :: b2 :: b1 :: b0 :: st) M = bnd (cl X m2 [b0, b1, b2, b3, b4] M) (fun v M2 => go X m nx la (psh v st) M2) := by
  show (if cok M rc 5 (b4 :: b3 :: b2 :: b1 :: b0 :: st) = true then _ else _) = _
  rw [if_pos (by simp [cok, h, h2])]
  rfl
theorem x_k6 {X : aX} {m m2 nx rc : Nat} {la : aLs} {st : List aV} {M : aM} {b0 b1 b2 b3 b4 b5 : aV} (h : rco M rc [b0, b1, b2, b3, b4, b5] = true) (h2 : cs st ≤ 8) : kK X m m2 6 nx rc la (b5 :: b4 :: b3 :: b2 :: b1 :: b0 :: st) M = bnd (cl X m2 [b0, b1, b2, b3, b4, b5] M) (fun v M2 => go X m nx la (psh v st) M2) := by
  show (if cok M rc 6 (b5 :: b4 :: b3 :: b2 :: b1 :: b0 :: st) = true then _ else _) = _
  rw [if_pos (by simp [cok, h, h2])]
  rfl
theorem x_k7 {X : aX} {m m2 nx rc : Nat} {la : aLs} {st : List aV} {M : aM} {b0 b1 b2 b3 b4 b5 b6 : aV} (h : rco M rc [b0, b1, b2, b3, b4, b5, b6] = true) (h2 : cs st ≤ 8) : kK X m m2 7 nx rc la (b6 :: b5 :: b4 :: b3 :: b2 :: b1 :: b0 :: st) M = bnd (cl X m2 [b0, b1, b2, b3, b4, b5, b6] M) (fun v M2 => go X m nx la (psh v st) M2) := by
  show (if cok M rc 7 (b6 :: b5 :: b4 :: b3 :: b2 :: b1 :: b0 :: st) = true then _ else _) = _
  rw [if_pos (by simp [cok, h, h2])]
  rfl
theorem x_b {v : Option aV} {M : aM} {f : Option aV → aM → aO} : bnd (some (v, M)) f = f v M := rfl
theorem x_ps {v : aV} {st : List aV} : psh (some v) st = v :: st := rfl
theorem x_pn {st : List aV} : psh none st = st := rfl
theorem rc_0 {M : aM} {as : List aV} : rco M 0 as = true := rfl
theorem rc_1 {M : aM} {r : aL} {as : List aV} : rco M 1 (aR r :: as) = gok M r 0 := rfl
theorem rc_2 {M : aM} {r : aL} {as : List aV} : rco M 2 (aR r :: as) = gok M r 1 := rfl
theorem rc_3 {M : aM} {r : aL} {as : List aV} : rco M 3 (aR r :: as) = gok M r 2 := rfl
theorem rc_4 {M : aM} {r : aL} {as : List aV} : rco M 4 (aR r :: as) = gok M r 3 := rfl
theorem rc_5 {M : aM} {r : aL} {as : List aV} : rco M 5 (aR r :: as) = gok M r 4 := rfl
theorem rc_6 {M : aM} {r : aL} {as : List aV} : rco M 6 (aR r :: as) = gok M r 5 := rfl
theorem rc_7 {M : aM} {r : aL} {as : List aV} : rco M 7 (aR r :: as) = gok M r 6 := rfl
theorem rc_100 {M : aM} {r : aL} {as : List aV} : rco M 100 (aR r :: as) = txo r := rfl
theorem cs_n  : cs [] = 0 := rfl
theorem cs_i {x : Int32} {r : List aV} : cs (aI x :: r) = 1 + cs r := rfl
theorem cs_j {x : Int64} {r : List aV} : cs (aJ x :: r) = 2 + cs r := rfl
theorem cs_r {x : aL} {r : List aV} : cs (aR x :: r) = 1 + cs r := rfl
theorem en_n {n : Nat} : ent n [] = List.replicate n none := rfl
theorem en_i {n : Nat} {x : Int32} {r : List aV} : ent n (aI x :: r) = some (aI x) :: ent (n - 1) r := rfl
theorem en_j {n : Nat} {x : Int64} {r : List aV} : ent n (aJ x :: r) = some (aJ x) :: none :: ent (n - 2) r := rfl
theorem en_r {n : Nat} {x : aL} {r : List aV} : ent n (aR x :: r) = some (aR x) :: ent (n - 1) r := rfl
theorem vl_0 {S : aS}   : vld (mem S) (0, 0, 0) = true := by
  have key : (decide (nm (idx (0, 0, 0)) = (0, 0, 0)) && decide (idx (0, 0, 0) < 84)) = true := by decide +kernel
  exact key
theorem gk_0 {S : aS}   : gok (mem S) (0, 0, 0) 5 = true := by
  unfold gok
  rw [vl_0 ]
  rfl
theorem g_0_0 {X : aX} {m nx : Nat} {la : aLs} {st : List aV} {S : aS}   : kC X m (i_get 5 0 nx la (aR (0, 0, 0) :: st) (mem S)) = go X m nx la (aR (1, 0, 0) :: st) (mem S) := by
  have e : (mem S).2 (0, 0, 0) 0 = aR (1, 0, 0) := rfl
  unfold i_get
  dsimp only
  rw [if_pos (gk_0 ), e]
  rfl
theorem g_0_1 {X : aX} {m nx : Nat} {la : aLs} {st : List aV} {S : aS}   : kC X m (i_get 5 1 nx la (aR (0, 0, 0) :: st) (mem S)) = go X m nx la (aR (1, 1, 0) :: st) (mem S) := by
  have e : (mem S).2 (0, 0, 0) 1 = aR (1, 1, 0) := rfl
  unfold i_get
  dsimp only
  rw [if_pos (gk_0 ), e]
  rfl
theorem g_0_2 {X : aX} {m nx : Nat} {la : aLs} {st : List aV} {S : aS}   : kC X m (i_get 5 2 nx la (aR (0, 0, 0) :: st) (mem S)) = go X m nx la (aR (1, 2, 0) :: st) (mem S) := by
  have e : (mem S).2 (0, 0, 0) 2 = aR (1, 2, 0) := rfl
  unfold i_get
  dsimp only
  rw [if_pos (gk_0 ), e]
  rfl
theorem g_0_3 {X : aX} {m nx : Nat} {la : aLs} {st : List aV} {S : aS}   : kC X m (i_get 5 3 nx la (aR (0, 0, 0) :: st) (mem S)) = go X m nx la (aR (6, 0, 0) :: st) (mem S) := by
  have e : (mem S).2 (0, 0, 0) 3 = aR (6, 0, 0) := rfl
  unfold i_get
  dsimp only
  rw [if_pos (gk_0 ), e]
  rfl
theorem g_0_4 {X : aX} {m nx : Nat} {la : aLs} {st : List aV} {S : aS}   : kC X m (i_get 5 4 nx la (aR (0, 0, 0) :: st) (mem S)) = go X m nx la (aR (9, 0, 0) :: st) (mem S) := by
  have e : (mem S).2 (0, 0, 0) 4 = aR (9, 0, 0) := rfl
  unfold i_get
  dsimp only
  rw [if_pos (gk_0 ), e]
  rfl
theorem g_0_5 {X : aX} {m nx : Nat} {la : aLs} {st : List aV} {S : aS}   : kC X m (i_get 5 5 nx la (aR (0, 0, 0) :: st) (mem S)) = go X m nx la (aR (12, 0, 0) :: st) (mem S) := by
  have e : (mem S).2 (0, 0, 0) 5 = aR (12, 0, 0) := rfl
  unfold i_get
  dsimp only
  rw [if_pos (gk_0 ), e]
  rfl
theorem g_0_6 {X : aX} {m nx : Nat} {la : aLs} {st : List aV} {S : aS}   : kC X m (i_get 5 6 nx la (aR (0, 0, 0) :: st) (mem S)) = go X m nx la (aI (S.2 (0, 0, 0) 6) :: st) (mem S) := by
  have e : (mem S).2 (0, 0, 0) 6 = aI (S.2 (0, 0, 0) 6) := rfl
  unfold i_get
  dsimp only
  rw [if_pos (gk_0 ), e]
  rfl
theorem p_0_6 {X : aX} {m nx : Nat} {la : aLs} {st : List aV} {S : aS}  {x : Int32}  (hx : x = nI 0 ∨ x = nI 1) : kC X m (i_put 5 6 1 nx la (aI x :: aR (0, 0, 0) :: st) (mem S)) = go X m nx la st (mem (S.1, uD S.2 (0, 0, 0) 6 x)) := by
  have e : wr (mem S) (0, 0, 0) 6 (aI x) = mem (S.1, uD S.2 (0, 0, 0) 6 x) := wr_D rfl rfl
  have k1 : pok 1 (aI x) = true := (by rcases hx with rfl | rfl <;> decide +kernel)
  unfold i_put
  dsimp only
  rw [if_pos (by rw [gk_0 , k1]; rfl), e]
  rfl
theorem vl_1 {S : aS} {a : Nat} (ha : a < 3) : vld (mem S) (1, a, 0) = true := by
  have key : ∀ a, a < 3 → (decide (nm (idx (1, a, 0)) = (1, a, 0)) && decide (idx (1, a, 0) < 84)) = true := by decide +kernel
  exact key a ha
theorem gk_1 {S : aS} {a : Nat} (ha : a < 3) : gok (mem S) (1, a, 0) 3 = true := by
  unfold gok
  rw [vl_1 ha]
  rfl
theorem g_1_0 {X : aX} {m nx : Nat} {la : aLs} {st : List aV} {S : aS} {a : Nat} (ha : a < 3) : kC X m (i_get 3 0 nx la (aR (1, a, 0) :: st) (mem S)) = go X m nx la (aR (2, a, 0) :: st) (mem S) := by
  have e : (mem S).2 (1, a, 0) 0 = aR (2, a, 0) := rfl
  unfold i_get
  dsimp only
  rw [if_pos (gk_1 ha), e]
  rfl
theorem g_1_1 {X : aX} {m nx : Nat} {la : aLs} {st : List aV} {S : aS} {a : Nat} (ha : a < 3) : kC X m (i_get 3 1 nx la (aR (1, a, 0) :: st) (mem S)) = go X m nx la (aR (3, a, 0) :: st) (mem S) := by
  have e : (mem S).2 (1, a, 0) 1 = aR (3, a, 0) := rfl
  unfold i_get
  dsimp only
  rw [if_pos (gk_1 ha), e]
  rfl
theorem g_1_2 {X : aX} {m nx : Nat} {la : aLs} {st : List aV} {S : aS} {a : Nat} (ha : a < 3) : kC X m (i_get 3 2 nx la (aR (1, a, 0) :: st) (mem S)) = go X m nx la (aI (S.1 a 1) :: st) (mem S) := by
  have e : (mem S).2 (1, a, 0) 2 = aI (S.1 a 1) := by
    show memv S (1, a, 0) 2 = _
    simp [memv, rfs, pl, ha]
  unfold i_get
  dsimp only
  rw [if_pos (gk_1 ha), e]
  rfl
theorem p_1_2 {X : aX} {m nx : Nat} {la : aLs} {st : List aV} {S : aS} {a : Nat} {x : Int32} (ha : a < 3) : kC X m (i_put 3 2 0 nx la (aI x :: aR (1, a, 0) :: st) (mem S)) = go X m nx la st (mem (uq S.1 a 1 x, S.2)) := by
  have e : wr (mem S) (1, a, 0) 2 (aI x) = mem (uq S.1 a 1 x, S.2) := wr_q (by simp [rfs]) (by simp [pl, ha])
  have k1 : pok 0 (aI x) = true := rfl
  unfold i_put
  dsimp only
  rw [if_pos (by rw [gk_1 ha, k1]; rfl), e]
  rfl
theorem g_1_3 {X : aX} {m nx : Nat} {la : aLs} {st : List aV} {S : aS} {a : Nat} (ha : a < 3) : kC X m (i_get 3 3 nx la (aR (1, a, 0) :: st) (mem S)) = go X m nx la (aI (S.1 a 0) :: st) (mem S) := by
  have e : (mem S).2 (1, a, 0) 3 = aI (S.1 a 0) := by
    show memv S (1, a, 0) 3 = _
    simp [memv, rfs, pl, ha]
  unfold i_get
  dsimp only
  rw [if_pos (gk_1 ha), e]
  rfl
theorem p_1_3 {X : aX} {m nx : Nat} {la : aLs} {st : List aV} {S : aS} {a : Nat} {x : Int32} (ha : a < 3) : kC X m (i_put 3 3 0 nx la (aI x :: aR (1, a, 0) :: st) (mem S)) = go X m nx la st (mem (uq S.1 a 0 x, S.2)) := by
  have e : wr (mem S) (1, a, 0) 3 (aI x) = mem (uq S.1 a 0 x, S.2) := wr_q (by simp [rfs]) (by simp [pl, ha])
  have k1 : pok 0 (aI x) = true := rfl
  unfold i_put
  dsimp only
  rw [if_pos (by rw [gk_1 ha, k1]; rfl), e]
  rfl
theorem g_1_4 {X : aX} {m nx : Nat} {la : aLs} {st : List aV} {S : aS} {a : Nat} (ha : a < 3) : kC X m (i_get 3 4 nx la (aR (1, a, 0) :: st) (mem S)) = go X m nx la (aI (S.1 a 3) :: st) (mem S) := by
  have e : (mem S).2 (1, a, 0) 4 = aI (S.1 a 3) := by
    show memv S (1, a, 0) 4 = _
    simp [memv, rfs, pl, ha]
  unfold i_get
  dsimp only
  rw [if_pos (gk_1 ha), e]
  rfl
theorem p_1_4 {X : aX} {m nx : Nat} {la : aLs} {st : List aV} {S : aS} {a : Nat} {x : Int32} (ha : a < 3) : kC X m (i_put 3 4 0 nx la (aI x :: aR (1, a, 0) :: st) (mem S)) = go X m nx la st (mem (uq S.1 a 3 x, S.2)) := by
  have e : wr (mem S) (1, a, 0) 4 (aI x) = mem (uq S.1 a 3 x, S.2) := wr_q (by simp [rfs]) (by simp [pl, ha])
  have k1 : pok 0 (aI x) = true := rfl
  unfold i_put
  dsimp only
  rw [if_pos (by rw [gk_1 ha, k1]; rfl), e]
  rfl
theorem g_1_5 {X : aX} {m nx : Nat} {la : aLs} {st : List aV} {S : aS} {a : Nat} (ha : a < 3) : kC X m (i_get 3 5 nx la (aR (1, a, 0) :: st) (mem S)) = go X m nx la (aI (S.1 a 2) :: st) (mem S) := by
  have e : (mem S).2 (1, a, 0) 5 = aI (S.1 a 2) := by
    show memv S (1, a, 0) 5 = _
    simp [memv, rfs, pl, ha]
  unfold i_get
  dsimp only
  rw [if_pos (gk_1 ha), e]
  rfl
theorem p_1_5 {X : aX} {m nx : Nat} {la : aLs} {st : List aV} {S : aS} {a : Nat} {x : Int32} (ha : a < 3) : kC X m (i_put 3 5 0 nx la (aI x :: aR (1, a, 0) :: st) (mem S)) = go X m nx la st (mem (uq S.1 a 2 x, S.2)) := by
  have e : wr (mem S) (1, a, 0) 5 (aI x) = mem (uq S.1 a 2 x, S.2) := wr_q (by simp [rfs]) (by simp [pl, ha])
  have k1 : pok 0 (aI x) = true := rfl
  unfold i_put
  dsimp only
  rw [if_pos (by rw [gk_1 ha, k1]; rfl), e]
  rfl
theorem vl_2 {S : aS} {a : Nat} (ha : a < 3) : vld (mem S) (2, a, 0) = true := by
  have key : ∀ a, a < 3 → (decide (nm (idx (2, a, 0)) = (2, a, 0)) && decide (idx (2, a, 0) < 84)) = true := by decide +kernel
  exact key a ha
theorem l_2 {X : aX} {m nx : Nat} {la : aLs} {st : List aV} {S : aS} {a : Nat} {j : Nat} (ha : a < 3) (hj : j < 8) : kC X m (i_aal nx la (aI (nI j) :: aR (2, a, 0) :: st) (mem S)) = go X m nx la (aR (4, a, j) :: st) (mem S) := by
  have e : (mem S).2 (2, a, 0) j = aR (4, a, j) := by
    show memv S (2, a, 0) j = _
    simp [memv, rfs, rvN, hj]
  unfold i_aal
  dsimp only
  rw [if_pos (by rw [vl_2 ha, show (shp (2, a, 0)) = (2, 8) from rfl, inb_nI (show j < 8 from hj) (by decide)]; rfl), nI_clamp (by omega), e]
  rfl
theorem n_l2 {X : aX} {m nx : Nat} {la : aLs} {st : List aV} {S : aS} {a : Nat} (ha : a < 3) : kC X m (i_aln X nx la (aR (2, a, 0) :: st) (mem S)) = go X m nx la (aI (nI 8) :: st) (mem S) := by
  unfold i_aln
  dsimp only
  rw [if_pos (by decide), if_pos (by rw [vl_2 ha]; rfl)]
  rfl
theorem vl_3 {S : aS} {a : Nat} (ha : a < 3) : vld (mem S) (3, a, 0) = true := by
  have key : ∀ a, a < 3 → (decide (nm (idx (3, a, 0)) = (3, a, 0)) && decide (idx (3, a, 0) < 84)) = true := by decide +kernel
  exact key a ha
theorem l_3 {X : aX} {m nx : Nat} {la : aLs} {st : List aV} {S : aS} {a : Nat} {j : Nat} (ha : a < 3) (hj : j < 10) : kC X m (i_ial X nx la (aI (nI j) :: aR (3, a, 0) :: st) (mem S)) = go X m nx la (aI (S.1 a (4 + j)) :: st) (mem S) := by
  have e : (mem S).2 (3, a, 0) j = aI (S.1 a (4 + j)) := by
    show memv S (3, a, 0) j = _
    simp [memv, rfs, pl, ha, hj]
  unfold i_ial
  dsimp only
  rw [aln_m (show ((3, a, 0) : aL).1 < 80 from Nat.le_of_ble_eq_true rfl) (vl_3 ha) rfl]
  dsimp only
  rw [if_pos (inb_nI (show j < 10 from hj) (by decide)), nI_clamp (by omega), ard_m (Nat.le_of_ble_eq_true rfl), e]
  rfl
theorem s_3 {X : aX} {m nx : Nat} {la : aLs} {st : List aV} {S : aS} {a : Nat} {j : Nat} {x : Int32} (ha : a < 3) (hj : j < 10) : kC X m (i_ias nx la (aI x :: aI (nI j) :: aR (3, a, 0) :: st) (mem S)) = go X m nx la st (mem (uq S.1 a (4 + j) x, S.2)) := by
  have e : wr (mem S) (3, a, 0) j (aI x) = mem (uq S.1 a (4 + j) x, S.2) := wr_q (by simp [rfs]) (by simp [pl, ha, hj])
  unfold i_ias
  dsimp only
  rw [if_pos (by rw [vl_3 ha, show (shp (3, a, 0)) = (1, 10) from rfl, inb_nI (show j < 10 from hj) (by decide)]; rfl), nI_clamp (by omega), e]
  rfl
theorem n_l3 {X : aX} {m nx : Nat} {la : aLs} {st : List aV} {S : aS} {a : Nat} (ha : a < 3) : kC X m (i_aln X nx la (aR (3, a, 0) :: st) (mem S)) = go X m nx la (aI (nI 10) :: st) (mem S) := by
  unfold i_aln
  dsimp only
  rw [if_pos (by decide), if_pos (by rw [vl_3 ha]; rfl)]
  rfl
theorem vl_4 {S : aS} {a b : Nat} (ha : a < 3) (hb : b < 8) : vld (mem S) (4, a, b) = true := by
  have key : ∀ a, a < 3 → ∀ b, b < 8 → (decide (nm (idx (4, a, b)) = (4, a, b)) && decide (idx (4, a, b) < 84)) = true := by decide +kernel
  exact key a ha b hb
theorem gk_4 {S : aS} {a b : Nat} (ha : a < 3) (hb : b < 8) : gok (mem S) (4, a, b) 2 = true := by
  unfold gok
  rw [vl_4 ha hb]
  rfl
theorem g_4_0 {X : aX} {m nx : Nat} {la : aLs} {st : List aV} {S : aS} {a b : Nat} (ha : a < 3) (hb : b < 8) : kC X m (i_get 2 0 nx la (aR (4, a, b) :: st) (mem S)) = go X m nx la (aR (5, a, b) :: st) (mem S) := by
  have e : (mem S).2 (4, a, b) 0 = aR (5, a, b) := rfl
  unfold i_get
  dsimp only
  rw [if_pos (gk_4 ha hb), e]
  rfl
theorem g_4_1 {X : aX} {m nx : Nat} {la : aLs} {st : List aV} {S : aS} {a b : Nat} (ha : a < 3) (hb : b < 8) : kC X m (i_get 2 1 nx la (aR (4, a, b) :: st) (mem S)) = go X m nx la (aI (S.2 (4, a, b) 1) :: st) (mem S) := by
  have e : (mem S).2 (4, a, b) 1 = aI (S.2 (4, a, b) 1) := rfl
  unfold i_get
  dsimp only
  rw [if_pos (gk_4 ha hb), e]
  rfl
theorem p_4_1 {X : aX} {m nx : Nat} {la : aLs} {st : List aV} {S : aS} {a b : Nat} {x : Int32} (ha : a < 3) (hb : b < 8) (hx : x = nI 0 ∨ x = nI 1) : kC X m (i_put 2 1 1 nx la (aI x :: aR (4, a, b) :: st) (mem S)) = go X m nx la st (mem (S.1, uD S.2 (4, a, b) 1 x)) := by
  have e : wr (mem S) (4, a, b) 1 (aI x) = mem (S.1, uD S.2 (4, a, b) 1 x) := wr_D (by simp [rfs]) (by simp [pl])
  have k1 : pok 1 (aI x) = true := (by rcases hx with rfl | rfl <;> decide +kernel)
  unfold i_put
  dsimp only
  rw [if_pos (by rw [gk_4 ha hb, k1]; rfl), e]
  rfl
theorem vl_5 {S : aS} {a b : Nat} (ha : a < 3) (hb : b < 8) : vld (mem S) (5, a, b) = true := by
  have key : ∀ a, a < 3 → ∀ b, b < 8 → (decide (nm (idx (5, a, b)) = (5, a, b)) && decide (idx (5, a, b) < 84)) = true := by decide +kernel
  exact key a ha b hb
theorem l_5 {X : aX} {m nx : Nat} {la : aLs} {st : List aV} {S : aS} {a b : Nat} {j : Nat} (ha : a < 3) (hb : b < 8) (hj : j < 10) : kC X m (i_ial X nx la (aI (nI j) :: aR (5, a, b) :: st) (mem S)) = go X m nx la (aI (S.1 a (14 + 10 * b + j)) :: st) (mem S) := by
  have e : (mem S).2 (5, a, b) j = aI (S.1 a (14 + 10 * b + j)) := by
    show memv S (5, a, b) j = _
    simp [memv, rfs, pl, ha, hj]
  unfold i_ial
  dsimp only
  rw [aln_m (show ((5, a, b) : aL).1 < 80 from Nat.le_of_ble_eq_true rfl) (vl_5 ha hb) rfl]
  dsimp only
  rw [if_pos (inb_nI (show j < 10 from hj) (by decide)), nI_clamp (by omega), ard_m (Nat.le_of_ble_eq_true rfl), e]
  rfl
theorem s_5 {X : aX} {m nx : Nat} {la : aLs} {st : List aV} {S : aS} {a b : Nat} {j : Nat} {x : Int32} (ha : a < 3) (hb : b < 8) (hj : j < 10) : kC X m (i_ias nx la (aI x :: aI (nI j) :: aR (5, a, b) :: st) (mem S)) = go X m nx la st (mem (uq S.1 a (14 + 10 * b + j) x, S.2)) := by
  have e : wr (mem S) (5, a, b) j (aI x) = mem (uq S.1 a (14 + 10 * b + j) x, S.2) := wr_q (by simp [rfs]) (by simp [pl, ha, hj])
  unfold i_ias
  dsimp only
  rw [if_pos (by rw [vl_5 ha hb, show (shp (5, a, b)) = (1, 10) from rfl, inb_nI (show j < 10 from hj) (by decide)]; rfl), nI_clamp (by omega), e]
  rfl
theorem n_l5 {X : aX} {m nx : Nat} {la : aLs} {st : List aV} {S : aS} {a b : Nat} (ha : a < 3) (hb : b < 8) : kC X m (i_aln X nx la (aR (5, a, b) :: st) (mem S)) = go X m nx la (aI (nI 10) :: st) (mem S) := by
  unfold i_aln
  dsimp only
  rw [if_pos (by decide), if_pos (by rw [vl_5 ha hb]; rfl)]
  rfl
theorem vl_6 {S : aS}   : vld (mem S) (6, 0, 0) = true := by
  have key : (decide (nm (idx (6, 0, 0)) = (6, 0, 0)) && decide (idx (6, 0, 0) < 84)) = true := by decide +kernel
  exact key
theorem gk_6 {S : aS}   : gok (mem S) (6, 0, 0) 0 = true := by
  unfold gok
  rw [vl_6 ]
  rfl
theorem g_6_0 {X : aX} {m nx : Nat} {la : aLs} {st : List aV} {S : aS}   : kC X m (i_get 0 0 nx la (aR (6, 0, 0) :: st) (mem S)) = go X m nx la (aR (7, 0, 0) :: st) (mem S) := by
  have e : (mem S).2 (6, 0, 0) 0 = aR (7, 0, 0) := rfl
  unfold i_get
  dsimp only
  rw [if_pos (gk_6 ), e]
  rfl
theorem vl_7 {S : aS}   : vld (mem S) (7, 0, 0) = true := by
  have key : (decide (nm (idx (7, 0, 0)) = (7, 0, 0)) && decide (idx (7, 0, 0) < 84)) = true := by decide +kernel
  exact key
theorem gk_7 {S : aS}   : gok (mem S) (7, 0, 0) 4 = true := by
  unfold gok
  rw [vl_7 ]
  rfl
theorem g_7_0 {X : aX} {m nx : Nat} {la : aLs} {st : List aV} {S : aS}   : kC X m (i_get 4 0 nx la (aR (7, 0, 0) :: st) (mem S)) = go X m nx la (aR (8, 0, 0) :: st) (mem S) := by
  have e : (mem S).2 (7, 0, 0) 0 = aR (8, 0, 0) := rfl
  unfold i_get
  dsimp only
  rw [if_pos (gk_7 ), e]
  rfl
theorem g_7_1 {X : aX} {m nx : Nat} {la : aLs} {st : List aV} {S : aS}   : kC X m (i_get 4 1 nx la (aR (7, 0, 0) :: st) (mem S)) = go X m nx la (aI (S.2 (7, 0, 0) 1) :: st) (mem S) := by
  have e : (mem S).2 (7, 0, 0) 1 = aI (S.2 (7, 0, 0) 1) := rfl
  unfold i_get
  dsimp only
  rw [if_pos (gk_7 ), e]
  rfl
theorem p_7_1 {X : aX} {m nx : Nat} {la : aLs} {st : List aV} {S : aS}  {x : Int32}  : kC X m (i_put 4 1 0 nx la (aI x :: aR (7, 0, 0) :: st) (mem S)) = go X m nx la st (mem (S.1, uD S.2 (7, 0, 0) 1 x)) := by
  have e : wr (mem S) (7, 0, 0) 1 (aI x) = mem (S.1, uD S.2 (7, 0, 0) 1 x) := wr_D rfl rfl
  have k1 : pok 0 (aI x) = true := rfl
  unfold i_put
  dsimp only
  rw [if_pos (by rw [gk_7 , k1]; rfl), e]
  rfl
theorem g_7_2 {X : aX} {m nx : Nat} {la : aLs} {st : List aV} {S : aS}   : kC X m (i_get 4 2 nx la (aR (7, 0, 0) :: st) (mem S)) = go X m nx la (aI (S.2 (7, 0, 0) 2) :: st) (mem S) := by
  have e : (mem S).2 (7, 0, 0) 2 = aI (S.2 (7, 0, 0) 2) := rfl
  unfold i_get
  dsimp only
  rw [if_pos (gk_7 ), e]
  rfl
theorem p_7_2 {X : aX} {m nx : Nat} {la : aLs} {st : List aV} {S : aS}  {x : Int32}  : kC X m (i_put 4 2 0 nx la (aI x :: aR (7, 0, 0) :: st) (mem S)) = go X m nx la st (mem (S.1, uD S.2 (7, 0, 0) 2 x)) := by
  have e : wr (mem S) (7, 0, 0) 2 (aI x) = mem (S.1, uD S.2 (7, 0, 0) 2 x) := wr_D rfl rfl
  have k1 : pok 0 (aI x) = true := rfl
  unfold i_put
  dsimp only
  rw [if_pos (by rw [gk_7 , k1]; rfl), e]
  rfl
theorem g_7_3 {X : aX} {m nx : Nat} {la : aLs} {st : List aV} {S : aS}   : kC X m (i_get 4 3 nx la (aR (7, 0, 0) :: st) (mem S)) = go X m nx la (aI (S.2 (7, 0, 0) 3) :: st) (mem S) := by
  have e : (mem S).2 (7, 0, 0) 3 = aI (S.2 (7, 0, 0) 3) := rfl
  unfold i_get
  dsimp only
  rw [if_pos (gk_7 ), e]
  rfl
theorem p_7_3 {X : aX} {m nx : Nat} {la : aLs} {st : List aV} {S : aS}  {x : Int32}  : kC X m (i_put 4 3 0 nx la (aI x :: aR (7, 0, 0) :: st) (mem S)) = go X m nx la st (mem (S.1, uD S.2 (7, 0, 0) 3 x)) := by
  have e : wr (mem S) (7, 0, 0) 3 (aI x) = mem (S.1, uD S.2 (7, 0, 0) 3 x) := wr_D rfl rfl
  have k1 : pok 0 (aI x) = true := rfl
  unfold i_put
  dsimp only
  rw [if_pos (by rw [gk_7 , k1]; rfl), e]
  rfl
theorem g_7_4 {X : aX} {m nx : Nat} {la : aLs} {st : List aV} {S : aS}   : kC X m (i_get 4 4 nx la (aR (7, 0, 0) :: st) (mem S)) = go X m nx la (aI (S.2 (7, 0, 0) 4) :: st) (mem S) := by
  have e : (mem S).2 (7, 0, 0) 4 = aI (S.2 (7, 0, 0) 4) := rfl
  unfold i_get
  dsimp only
  rw [if_pos (gk_7 ), e]
  rfl
theorem p_7_4 {X : aX} {m nx : Nat} {la : aLs} {st : List aV} {S : aS}  {x : Int32}  : kC X m (i_put 4 4 0 nx la (aI x :: aR (7, 0, 0) :: st) (mem S)) = go X m nx la st (mem (S.1, uD S.2 (7, 0, 0) 4 x)) := by
  have e : wr (mem S) (7, 0, 0) 4 (aI x) = mem (S.1, uD S.2 (7, 0, 0) 4 x) := wr_D rfl rfl
  have k1 : pok 0 (aI x) = true := rfl
  unfold i_put
  dsimp only
  rw [if_pos (by rw [gk_7 , k1]; rfl), e]
  rfl
theorem g_7_5 {X : aX} {m nx : Nat} {la : aLs} {st : List aV} {S : aS}   : kC X m (i_get 4 5 nx la (aR (7, 0, 0) :: st) (mem S)) = go X m nx la (aI (S.2 (7, 0, 0) 5) :: st) (mem S) := by
  have e : (mem S).2 (7, 0, 0) 5 = aI (S.2 (7, 0, 0) 5) := rfl
  unfold i_get
  dsimp only
  rw [if_pos (gk_7 ), e]
  rfl
theorem p_7_5 {X : aX} {m nx : Nat} {la : aLs} {st : List aV} {S : aS}  {x : Int32}  : kC X m (i_put 4 5 0 nx la (aI x :: aR (7, 0, 0) :: st) (mem S)) = go X m nx la st (mem (S.1, uD S.2 (7, 0, 0) 5 x)) := by
  have e : wr (mem S) (7, 0, 0) 5 (aI x) = mem (S.1, uD S.2 (7, 0, 0) 5 x) := wr_D rfl rfl
  have k1 : pok 0 (aI x) = true := rfl
  unfold i_put
  dsimp only
  rw [if_pos (by rw [gk_7 , k1]; rfl), e]
  rfl
theorem vl_8 {S : aS}   : vld (mem S) (8, 0, 0) = true := by
  have key : (decide (nm (idx (8, 0, 0)) = (8, 0, 0)) && decide (idx (8, 0, 0) < 84)) = true := by decide +kernel
  exact key
theorem l_8 {X : aX} {m nx : Nat} {la : aLs} {st : List aV} {S : aS}  {j : Nat}  (hj : j < 120) : kC X m (i_ial X nx la (aI (nI j) :: aR (8, 0, 0) :: st) (mem S)) = go X m nx la (aI (S.2 (8, 0, 0) j) :: st) (mem S) := by
  have e : (mem S).2 (8, 0, 0) j = aI (S.2 (8, 0, 0) j) := by
    show memv S (8, 0, 0) j = _
    simp [memv, rfs, pl]
  unfold i_ial
  dsimp only
  rw [aln_m (show ((8, 0, 0) : aL).1 < 80 from Nat.le_of_ble_eq_true rfl) (vl_8 ) rfl]
  dsimp only
  rw [if_pos (inb_nI (show j < 120 from hj) (by decide)), nI_clamp (by omega), ard_m (Nat.le_of_ble_eq_true rfl), e]
  rfl
theorem s_8 {X : aX} {m nx : Nat} {la : aLs} {st : List aV} {S : aS}  {j : Nat} {x : Int32}  (hj : j < 120) : kC X m (i_ias nx la (aI x :: aI (nI j) :: aR (8, 0, 0) :: st) (mem S)) = go X m nx la st (mem (S.1, uD S.2 (8, 0, 0) j x)) := by
  have e : wr (mem S) (8, 0, 0) j (aI x) = mem (S.1, uD S.2 (8, 0, 0) j x) := wr_D (by simp [rfs]) (by simp [pl])
  unfold i_ias
  dsimp only
  rw [if_pos (by rw [vl_8 , show (shp (8, 0, 0)) = (1, 120) from rfl, inb_nI (show j < 120 from hj) (by decide)]; rfl), nI_clamp (by omega), e]
  rfl
theorem n_l8 {X : aX} {m nx : Nat} {la : aLs} {st : List aV} {S : aS}   : kC X m (i_aln X nx la (aR (8, 0, 0) :: st) (mem S)) = go X m nx la (aI (nI 120) :: st) (mem S) := by
  unfold i_aln
  dsimp only
  rw [if_pos (by decide), if_pos (by rw [vl_8 ]; rfl)]
  rfl
theorem vl_9 {S : aS}   : vld (mem S) (9, 0, 0) = true := by
  have key : (decide (nm (idx (9, 0, 0)) = (9, 0, 0)) && decide (idx (9, 0, 0) < 84)) = true := by decide +kernel
  exact key
theorem l_9 {X : aX} {m nx : Nat} {la : aLs} {st : List aV} {S : aS}  {j : Nat}  (hj : j < 4) : kC X m (i_aal nx la (aI (nI j) :: aR (9, 0, 0) :: st) (mem S)) = go X m nx la (aR (10, j, 0) :: st) (mem S) := by
  have e : (mem S).2 (9, 0, 0) j = aR (10, j, 0) := by
    show memv S (9, 0, 0) j = _
    simp [memv, rfs, rvN, hj]
  unfold i_aal
  dsimp only
  rw [if_pos (by rw [vl_9 , show (shp (9, 0, 0)) = (3, 4) from rfl, inb_nI (show j < 4 from hj) (by decide)]; rfl), nI_clamp (by omega), e]
  rfl
theorem n_l9 {X : aX} {m nx : Nat} {la : aLs} {st : List aV} {S : aS}   : kC X m (i_aln X nx la (aR (9, 0, 0) :: st) (mem S)) = go X m nx la (aI (nI 4) :: st) (mem S) := by
  unfold i_aln
  dsimp only
  rw [if_pos (by decide), if_pos (by rw [vl_9 ]; rfl)]
  rfl
theorem vl_10 {S : aS} {a : Nat} (ha : a < 4) : vld (mem S) (10, a, 0) = true := by
  have key : ∀ a, a < 4 → (decide (nm (idx (10, a, 0)) = (10, a, 0)) && decide (idx (10, a, 0) < 84)) = true := by decide +kernel
  exact key a ha
theorem gk_10 {S : aS} {a : Nat} (ha : a < 4) : gok (mem S) (10, a, 0) 1 = true := by
  unfold gok
  rw [vl_10 ha]
  rfl
theorem g_10_0 {X : aX} {m nx : Nat} {la : aLs} {st : List aV} {S : aS} {a : Nat} (ha : a < 4) : kC X m (i_get 1 0 nx la (aR (10, a, 0) :: st) (mem S)) = go X m nx la (aR (11, a, 0) :: st) (mem S) := by
  have e : (mem S).2 (10, a, 0) 0 = aR (11, a, 0) := rfl
  unfold i_get
  dsimp only
  rw [if_pos (gk_10 ha), e]
  rfl
theorem g_10_1 {X : aX} {m nx : Nat} {la : aLs} {st : List aV} {S : aS} {a : Nat} (ha : a < 4) : kC X m (i_get 1 1 nx la (aR (10, a, 0) :: st) (mem S)) = go X m nx la (aI (S.2 (10, a, 0) 1) :: st) (mem S) := by
  have e : (mem S).2 (10, a, 0) 1 = aI (S.2 (10, a, 0) 1) := rfl
  unfold i_get
  dsimp only
  rw [if_pos (gk_10 ha), e]
  rfl
theorem p_10_1 {X : aX} {m nx : Nat} {la : aLs} {st : List aV} {S : aS} {a : Nat} {x : Int32} (ha : a < 4) : kC X m (i_put 1 1 0 nx la (aI x :: aR (10, a, 0) :: st) (mem S)) = go X m nx la st (mem (S.1, uD S.2 (10, a, 0) 1 x)) := by
  have e : wr (mem S) (10, a, 0) 1 (aI x) = mem (S.1, uD S.2 (10, a, 0) 1 x) := wr_D (by simp [rfs]) (by simp [pl])
  have k1 : pok 0 (aI x) = true := rfl
  unfold i_put
  dsimp only
  rw [if_pos (by rw [gk_10 ha, k1]; rfl), e]
  rfl
theorem g_10_2 {X : aX} {m nx : Nat} {la : aLs} {st : List aV} {S : aS} {a : Nat} (ha : a < 4) : kC X m (i_get 1 2 nx la (aR (10, a, 0) :: st) (mem S)) = go X m nx la (aI (S.2 (10, a, 0) 2) :: st) (mem S) := by
  have e : (mem S).2 (10, a, 0) 2 = aI (S.2 (10, a, 0) 2) := rfl
  unfold i_get
  dsimp only
  rw [if_pos (gk_10 ha), e]
  rfl
theorem p_10_2 {X : aX} {m nx : Nat} {la : aLs} {st : List aV} {S : aS} {a : Nat} {x : Int32} (ha : a < 4) : kC X m (i_put 1 2 0 nx la (aI x :: aR (10, a, 0) :: st) (mem S)) = go X m nx la st (mem (S.1, uD S.2 (10, a, 0) 2 x)) := by
  have e : wr (mem S) (10, a, 0) 2 (aI x) = mem (S.1, uD S.2 (10, a, 0) 2 x) := wr_D (by simp [rfs]) (by simp [pl])
  have k1 : pok 0 (aI x) = true := rfl
  unfold i_put
  dsimp only
  rw [if_pos (by rw [gk_10 ha, k1]; rfl), e]
  rfl
theorem vl_11 {S : aS} {a : Nat} (ha : a < 4) : vld (mem S) (11, a, 0) = true := by
  have key : ∀ a, a < 4 → (decide (nm (idx (11, a, 0)) = (11, a, 0)) && decide (idx (11, a, 0) < 84)) = true := by decide +kernel
  exact key a ha
theorem l_11 {X : aX} {m nx : Nat} {la : aLs} {st : List aV} {S : aS} {a : Nat} {j : Nat} (ha : a < 4) (hj : j < 40) : kC X m (i_ial X nx la (aI (nI j) :: aR (11, a, 0) :: st) (mem S)) = go X m nx la (aI (S.2 (11, a, 0) j) :: st) (mem S) := by
  have e : (mem S).2 (11, a, 0) j = aI (S.2 (11, a, 0) j) := by
    show memv S (11, a, 0) j = _
    simp [memv, rfs, pl]
  unfold i_ial
  dsimp only
  rw [aln_m (show ((11, a, 0) : aL).1 < 80 from Nat.le_of_ble_eq_true rfl) (vl_11 ha) rfl]
  dsimp only
  rw [if_pos (inb_nI (show j < 40 from hj) (by decide)), nI_clamp (by omega), ard_m (Nat.le_of_ble_eq_true rfl), e]
  rfl
theorem s_11 {X : aX} {m nx : Nat} {la : aLs} {st : List aV} {S : aS} {a : Nat} {j : Nat} {x : Int32} (ha : a < 4) (hj : j < 40) : kC X m (i_ias nx la (aI x :: aI (nI j) :: aR (11, a, 0) :: st) (mem S)) = go X m nx la st (mem (S.1, uD S.2 (11, a, 0) j x)) := by
  have e : wr (mem S) (11, a, 0) j (aI x) = mem (S.1, uD S.2 (11, a, 0) j x) := wr_D (by simp [rfs]) (by simp [pl])
  unfold i_ias
  dsimp only
  rw [if_pos (by rw [vl_11 ha, show (shp (11, a, 0)) = (1, 40) from rfl, inb_nI (show j < 40 from hj) (by decide)]; rfl), nI_clamp (by omega), e]
  rfl
theorem n_l11 {X : aX} {m nx : Nat} {la : aLs} {st : List aV} {S : aS} {a : Nat} (ha : a < 4) : kC X m (i_aln X nx la (aR (11, a, 0) :: st) (mem S)) = go X m nx la (aI (nI 40) :: st) (mem S) := by
  unfold i_aln
  dsimp only
  rw [if_pos (by decide), if_pos (by rw [vl_11 ha]; rfl)]
  rfl
theorem vl_12 {S : aS}   : vld (mem S) (12, 0, 0) = true := by
  have key : (decide (nm (idx (12, 0, 0)) = (12, 0, 0)) && decide (idx (12, 0, 0) < 84)) = true := by decide +kernel
  exact key
theorem l_12 {X : aX} {m nx : Nat} {la : aLs} {st : List aV} {S : aS}  {j : Nat}  (hj : j < 7) : kC X m (i_ial X nx la (aI (nI j) :: aR (12, 0, 0) :: st) (mem S)) = go X m nx la (aI (S.2 (12, 0, 0) j) :: st) (mem S) := by
  have e : (mem S).2 (12, 0, 0) j = aI (S.2 (12, 0, 0) j) := by
    show memv S (12, 0, 0) j = _
    simp [memv, rfs, pl]
  unfold i_ial
  dsimp only
  rw [aln_m (show ((12, 0, 0) : aL).1 < 80 from Nat.le_of_ble_eq_true rfl) (vl_12 ) rfl]
  dsimp only
  rw [if_pos (inb_nI (show j < 7 from hj) (by decide)), nI_clamp (by omega), ard_m (Nat.le_of_ble_eq_true rfl), e]
  rfl
theorem s_12 {X : aX} {m nx : Nat} {la : aLs} {st : List aV} {S : aS}  {j : Nat} {x : Int32}  (hj : j < 7) : kC X m (i_ias nx la (aI x :: aI (nI j) :: aR (12, 0, 0) :: st) (mem S)) = go X m nx la st (mem (S.1, uD S.2 (12, 0, 0) j x)) := by
  have e : wr (mem S) (12, 0, 0) j (aI x) = mem (S.1, uD S.2 (12, 0, 0) j x) := wr_D (by simp [rfs]) (by simp [pl])
  unfold i_ias
  dsimp only
  rw [if_pos (by rw [vl_12 , show (shp (12, 0, 0)) = (1, 7) from rfl, inb_nI (show j < 7 from hj) (by decide)]; rfl), nI_clamp (by omega), e]
  rfl
theorem n_l12 {X : aX} {m nx : Nat} {la : aLs} {st : List aV} {S : aS}   : kC X m (i_aln X nx la (aR (12, 0, 0) :: st) (mem S)) = go X m nx la (aI (nI 7) :: st) (mem S) := by
  unfold i_aln
  dsimp only
  rw [if_pos (by decide), if_pos (by rw [vl_12 ]; rfl)]
  rfl
theorem vl_20 {S : aS}   : vld (mem S) (20, 0, 0) = true := by
  have key : (decide (nm (idx (20, 0, 0)) = (20, 0, 0)) && decide (idx (20, 0, 0) < 84)) = true := by decide +kernel
  exact key
theorem gk_20 {S : aS}   : gok (mem S) (20, 0, 0) 6 = true := by
  unfold gok
  rw [vl_20 ]
  rfl
theorem g_20_0 {X : aX} {m nx : Nat} {la : aLs} {st : List aV} {S : aS}   : kC X m (i_get 6 0 nx la (aR (20, 0, 0) :: st) (mem S)) = go X m nx la (aR (21, 0, 0) :: st) (mem S) := by
  have e : (mem S).2 (20, 0, 0) 0 = aR (21, 0, 0) := rfl
  unfold i_get
  dsimp only
  rw [if_pos (gk_20 ), e]
  rfl
theorem g_20_1 {X : aX} {m nx : Nat} {la : aLs} {st : List aV} {S : aS}   : kC X m (i_get 6 1 nx la (aR (20, 0, 0) :: st) (mem S)) = go X m nx la (aR (22, 0, 0) :: st) (mem S) := by
  have e : (mem S).2 (20, 0, 0) 1 = aR (22, 0, 0) := rfl
  unfold i_get
  dsimp only
  rw [if_pos (gk_20 ), e]
  rfl
theorem g_20_2 {X : aX} {m nx : Nat} {la : aLs} {st : List aV} {S : aS}   : kC X m (i_get 6 2 nx la (aR (20, 0, 0) :: st) (mem S)) = go X m nx la (aR (23, 0, 0) :: st) (mem S) := by
  have e : (mem S).2 (20, 0, 0) 2 = aR (23, 0, 0) := rfl
  unfold i_get
  dsimp only
  rw [if_pos (gk_20 ), e]
  rfl
theorem g_20_3 {X : aX} {m nx : Nat} {la : aLs} {st : List aV} {S : aS}   : kC X m (i_get 6 3 nx la (aR (20, 0, 0) :: st) (mem S)) = go X m nx la (aI (S.2 (20, 0, 0) 3) :: st) (mem S) := by
  have e : (mem S).2 (20, 0, 0) 3 = aI (S.2 (20, 0, 0) 3) := rfl
  unfold i_get
  dsimp only
  rw [if_pos (gk_20 ), e]
  rfl
theorem p_20_3 {X : aX} {m nx : Nat} {la : aLs} {st : List aV} {S : aS}  {x : Int32}  (hx : x = nI 0 ∨ x = nI 1) : kC X m (i_put 6 3 1 nx la (aI x :: aR (20, 0, 0) :: st) (mem S)) = go X m nx la st (mem (S.1, uD S.2 (20, 0, 0) 3 x)) := by
  have e : wr (mem S) (20, 0, 0) 3 (aI x) = mem (S.1, uD S.2 (20, 0, 0) 3 x) := wr_D rfl rfl
  have k1 : pok 1 (aI x) = true := (by rcases hx with rfl | rfl <;> decide +kernel)
  unfold i_put
  dsimp only
  rw [if_pos (by rw [gk_20 , k1]; rfl), e]
  rfl
theorem g_20_4 {X : aX} {m nx : Nat} {la : aLs} {st : List aV} {S : aS}   : kC X m (i_get 6 4 nx la (aR (20, 0, 0) :: st) (mem S)) = go X m nx la (aR (24, 0, 0) :: st) (mem S) := by
  have e : (mem S).2 (20, 0, 0) 4 = aR (24, 0, 0) := rfl
  unfold i_get
  dsimp only
  rw [if_pos (gk_20 ), e]
  rfl
theorem g_20_5 {X : aX} {m nx : Nat} {la : aLs} {st : List aV} {S : aS}   : kC X m (i_get 6 5 nx la (aR (20, 0, 0) :: st) (mem S)) = go X m nx la (aR (25, 0, 0) :: st) (mem S) := by
  have e : (mem S).2 (20, 0, 0) 5 = aR (25, 0, 0) := rfl
  unfold i_get
  dsimp only
  rw [if_pos (gk_20 ), e]
  rfl
theorem g_20_6 {X : aX} {m nx : Nat} {la : aLs} {st : List aV} {S : aS}   : kC X m (i_get 6 6 nx la (aR (20, 0, 0) :: st) (mem S)) = go X m nx la (aI (S.2 (20, 0, 0) 6) :: st) (mem S) := by
  have e : (mem S).2 (20, 0, 0) 6 = aI (S.2 (20, 0, 0) 6) := rfl
  unfold i_get
  dsimp only
  rw [if_pos (gk_20 ), e]
  rfl
theorem p_20_6 {X : aX} {m nx : Nat} {la : aLs} {st : List aV} {S : aS}  {x : Int32}  : kC X m (i_put 6 6 0 nx la (aI x :: aR (20, 0, 0) :: st) (mem S)) = go X m nx la st (mem (S.1, uD S.2 (20, 0, 0) 6 x)) := by
  have e : wr (mem S) (20, 0, 0) 6 (aI x) = mem (S.1, uD S.2 (20, 0, 0) 6 x) := wr_D rfl rfl
  have k1 : pok 0 (aI x) = true := rfl
  unfold i_put
  dsimp only
  rw [if_pos (by rw [gk_20 , k1]; rfl), e]
  rfl
theorem g_20_7 {X : aX} {m nx : Nat} {la : aLs} {st : List aV} {S : aS}   : kC X m (i_get 6 7 nx la (aR (20, 0, 0) :: st) (mem S)) = go X m nx la (aR (26, 0, 0) :: st) (mem S) := by
  have e : (mem S).2 (20, 0, 0) 7 = aR (26, 0, 0) := rfl
  unfold i_get
  dsimp only
  rw [if_pos (gk_20 ), e]
  rfl
theorem g_20_8 {X : aX} {m nx : Nat} {la : aLs} {st : List aV} {S : aS}   : kC X m (i_get 6 8 nx la (aR (20, 0, 0) :: st) (mem S)) = go X m nx la (aI (S.2 (20, 0, 0) 8) :: st) (mem S) := by
  have e : (mem S).2 (20, 0, 0) 8 = aI (S.2 (20, 0, 0) 8) := rfl
  unfold i_get
  dsimp only
  rw [if_pos (gk_20 ), e]
  rfl
theorem p_20_8 {X : aX} {m nx : Nat} {la : aLs} {st : List aV} {S : aS}  {x : Int32}  : kC X m (i_put 6 8 0 nx la (aI x :: aR (20, 0, 0) :: st) (mem S)) = go X m nx la st (mem (S.1, uD S.2 (20, 0, 0) 8 x)) := by
  have e : wr (mem S) (20, 0, 0) 8 (aI x) = mem (S.1, uD S.2 (20, 0, 0) 8 x) := wr_D rfl rfl
  have k1 : pok 0 (aI x) = true := rfl
  unfold i_put
  dsimp only
  rw [if_pos (by rw [gk_20 , k1]; rfl), e]
  rfl
theorem g_20_9 {X : aX} {m nx : Nat} {la : aLs} {st : List aV} {S : aS}   : kC X m (i_get 6 9 nx la (aR (20, 0, 0) :: st) (mem S)) = go X m nx la (aI (S.2 (20, 0, 0) 9) :: st) (mem S) := by
  have e : (mem S).2 (20, 0, 0) 9 = aI (S.2 (20, 0, 0) 9) := rfl
  unfold i_get
  dsimp only
  rw [if_pos (gk_20 ), e]
  rfl
theorem p_20_9 {X : aX} {m nx : Nat} {la : aLs} {st : List aV} {S : aS}  {x : Int32}  : kC X m (i_put 6 9 0 nx la (aI x :: aR (20, 0, 0) :: st) (mem S)) = go X m nx la st (mem (S.1, uD S.2 (20, 0, 0) 9 x)) := by
  have e : wr (mem S) (20, 0, 0) 9 (aI x) = mem (S.1, uD S.2 (20, 0, 0) 9 x) := wr_D rfl rfl
  have k1 : pok 0 (aI x) = true := rfl
  unfold i_put
  dsimp only
  rw [if_pos (by rw [gk_20 , k1]; rfl), e]
  rfl
theorem g_20_10 {X : aX} {m nx : Nat} {la : aLs} {st : List aV} {S : aS}   : kC X m (i_get 6 10 nx la (aR (20, 0, 0) :: st) (mem S)) = go X m nx la (aI (S.2 (20, 0, 0) 10) :: st) (mem S) := by
  have e : (mem S).2 (20, 0, 0) 10 = aI (S.2 (20, 0, 0) 10) := rfl
  unfold i_get
  dsimp only
  rw [if_pos (gk_20 ), e]
  rfl
theorem p_20_10 {X : aX} {m nx : Nat} {la : aLs} {st : List aV} {S : aS}  {x : Int32}  : kC X m (i_put 6 10 0 nx la (aI x :: aR (20, 0, 0) :: st) (mem S)) = go X m nx la st (mem (S.1, uD S.2 (20, 0, 0) 10 x)) := by
  have e : wr (mem S) (20, 0, 0) 10 (aI x) = mem (S.1, uD S.2 (20, 0, 0) 10 x) := wr_D rfl rfl
  have k1 : pok 0 (aI x) = true := rfl
  unfold i_put
  dsimp only
  rw [if_pos (by rw [gk_20 , k1]; rfl), e]
  rfl
theorem g_20_11 {X : aX} {m nx : Nat} {la : aLs} {st : List aV} {S : aS}   : kC X m (i_get 6 11 nx la (aR (20, 0, 0) :: st) (mem S)) = go X m nx la (aI (S.2 (20, 0, 0) 11) :: st) (mem S) := by
  have e : (mem S).2 (20, 0, 0) 11 = aI (S.2 (20, 0, 0) 11) := rfl
  unfold i_get
  dsimp only
  rw [if_pos (gk_20 ), e]
  rfl
theorem p_20_11 {X : aX} {m nx : Nat} {la : aLs} {st : List aV} {S : aS}  {x : Int32}  : kC X m (i_put 6 11 0 nx la (aI x :: aR (20, 0, 0) :: st) (mem S)) = go X m nx la st (mem (S.1, uD S.2 (20, 0, 0) 11 x)) := by
  have e : wr (mem S) (20, 0, 0) 11 (aI x) = mem (S.1, uD S.2 (20, 0, 0) 11 x) := wr_D rfl rfl
  have k1 : pok 0 (aI x) = true := rfl
  unfold i_put
  dsimp only
  rw [if_pos (by rw [gk_20 , k1]; rfl), e]
  rfl
theorem g_20_12 {X : aX} {m nx : Nat} {la : aLs} {st : List aV} {S : aS}   : kC X m (i_get 6 12 nx la (aR (20, 0, 0) :: st) (mem S)) = go X m nx la (aI (S.2 (20, 0, 0) 12) :: st) (mem S) := by
  have e : (mem S).2 (20, 0, 0) 12 = aI (S.2 (20, 0, 0) 12) := rfl
  unfold i_get
  dsimp only
  rw [if_pos (gk_20 ), e]
  rfl
theorem p_20_12 {X : aX} {m nx : Nat} {la : aLs} {st : List aV} {S : aS}  {x : Int32}  : kC X m (i_put 6 12 0 nx la (aI x :: aR (20, 0, 0) :: st) (mem S)) = go X m nx la st (mem (S.1, uD S.2 (20, 0, 0) 12 x)) := by
  have e : wr (mem S) (20, 0, 0) 12 (aI x) = mem (S.1, uD S.2 (20, 0, 0) 12 x) := wr_D rfl rfl
  have k1 : pok 0 (aI x) = true := rfl
  unfold i_put
  dsimp only
  rw [if_pos (by rw [gk_20 , k1]; rfl), e]
  rfl
theorem g_20_13 {X : aX} {m nx : Nat} {la : aLs} {st : List aV} {S : aS}   : kC X m (i_get 6 13 nx la (aR (20, 0, 0) :: st) (mem S)) = go X m nx la (aI (S.2 (20, 0, 0) 13) :: st) (mem S) := by
  have e : (mem S).2 (20, 0, 0) 13 = aI (S.2 (20, 0, 0) 13) := rfl
  unfold i_get
  dsimp only
  rw [if_pos (gk_20 ), e]
  rfl
theorem p_20_13 {X : aX} {m nx : Nat} {la : aLs} {st : List aV} {S : aS}  {x : Int32}  (hx : x = nI 0 ∨ x = nI 1) : kC X m (i_put 6 13 1 nx la (aI x :: aR (20, 0, 0) :: st) (mem S)) = go X m nx la st (mem (S.1, uD S.2 (20, 0, 0) 13 x)) := by
  have e : wr (mem S) (20, 0, 0) 13 (aI x) = mem (S.1, uD S.2 (20, 0, 0) 13 x) := wr_D rfl rfl
  have k1 : pok 1 (aI x) = true := (by rcases hx with rfl | rfl <;> decide +kernel)
  unfold i_put
  dsimp only
  rw [if_pos (by rw [gk_20 , k1]; rfl), e]
  rfl
theorem g_20_14 {X : aX} {m nx : Nat} {la : aLs} {st : List aV} {S : aS}   : kC X m (i_get 6 14 nx la (aR (20, 0, 0) :: st) (mem S)) = go X m nx la (aR (27, 0, 0) :: st) (mem S) := by
  have e : (mem S).2 (20, 0, 0) 14 = aR (27, 0, 0) := rfl
  unfold i_get
  dsimp only
  rw [if_pos (gk_20 ), e]
  rfl
theorem g_20_15 {X : aX} {m nx : Nat} {la : aLs} {st : List aV} {S : aS}   : kC X m (i_get 6 15 nx la (aR (20, 0, 0) :: st) (mem S)) = go X m nx la (aR (28, 0, 0) :: st) (mem S) := by
  have e : (mem S).2 (20, 0, 0) 15 = aR (28, 0, 0) := rfl
  unfold i_get
  dsimp only
  rw [if_pos (gk_20 ), e]
  rfl
theorem g_20_16 {X : aX} {m nx : Nat} {la : aLs} {st : List aV} {S : aS}   : kC X m (i_get 6 16 nx la (aR (20, 0, 0) :: st) (mem S)) = go X m nx la (aI (S.2 (20, 0, 0) 16) :: st) (mem S) := by
  have e : (mem S).2 (20, 0, 0) 16 = aI (S.2 (20, 0, 0) 16) := rfl
  unfold i_get
  dsimp only
  rw [if_pos (gk_20 ), e]
  rfl
theorem p_20_16 {X : aX} {m nx : Nat} {la : aLs} {st : List aV} {S : aS}  {x : Int32}  : kC X m (i_put 6 16 0 nx la (aI x :: aR (20, 0, 0) :: st) (mem S)) = go X m nx la st (mem (S.1, uD S.2 (20, 0, 0) 16 x)) := by
  have e : wr (mem S) (20, 0, 0) 16 (aI x) = mem (S.1, uD S.2 (20, 0, 0) 16 x) := wr_D rfl rfl
  have k1 : pok 0 (aI x) = true := rfl
  unfold i_put
  dsimp only
  rw [if_pos (by rw [gk_20 , k1]; rfl), e]
  rfl
theorem g_20_17 {X : aX} {m nx : Nat} {la : aLs} {st : List aV} {S : aS}   : kC X m (i_get 6 17 nx la (aR (20, 0, 0) :: st) (mem S)) = go X m nx la (aI (S.2 (20, 0, 0) 17) :: st) (mem S) := by
  have e : (mem S).2 (20, 0, 0) 17 = aI (S.2 (20, 0, 0) 17) := rfl
  unfold i_get
  dsimp only
  rw [if_pos (gk_20 ), e]
  rfl
theorem p_20_17 {X : aX} {m nx : Nat} {la : aLs} {st : List aV} {S : aS}  {x : Int32}  : kC X m (i_put 6 17 0 nx la (aI x :: aR (20, 0, 0) :: st) (mem S)) = go X m nx la st (mem (S.1, uD S.2 (20, 0, 0) 17 x)) := by
  have e : wr (mem S) (20, 0, 0) 17 (aI x) = mem (S.1, uD S.2 (20, 0, 0) 17 x) := wr_D rfl rfl
  have k1 : pok 0 (aI x) = true := rfl
  unfold i_put
  dsimp only
  rw [if_pos (by rw [gk_20 , k1]; rfl), e]
  rfl
theorem g_20_18 {X : aX} {m nx : Nat} {la : aLs} {st : List aV} {S : aS}   : kC X m (i_get 6 18 nx la (aR (20, 0, 0) :: st) (mem S)) = go X m nx la (aR (29, 0, 0) :: st) (mem S) := by
  have e : (mem S).2 (20, 0, 0) 18 = aR (29, 0, 0) := rfl
  unfold i_get
  dsimp only
  rw [if_pos (gk_20 ), e]
  rfl
theorem g_20_19 {X : aX} {m nx : Nat} {la : aLs} {st : List aV} {S : aS}   : kC X m (i_get 6 19 nx la (aR (20, 0, 0) :: st) (mem S)) = go X m nx la (aR (30, 0, 0) :: st) (mem S) := by
  have e : (mem S).2 (20, 0, 0) 19 = aR (30, 0, 0) := rfl
  unfold i_get
  dsimp only
  rw [if_pos (gk_20 ), e]
  rfl
theorem g_20_20 {X : aX} {m nx : Nat} {la : aLs} {st : List aV} {S : aS}   : kC X m (i_get 6 20 nx la (aR (20, 0, 0) :: st) (mem S)) = go X m nx la (aR (31, 0, 0) :: st) (mem S) := by
  have e : (mem S).2 (20, 0, 0) 20 = aR (31, 0, 0) := rfl
  unfold i_get
  dsimp only
  rw [if_pos (gk_20 ), e]
  rfl
theorem g_20_21 {X : aX} {m nx : Nat} {la : aLs} {st : List aV} {S : aS}   : kC X m (i_get 6 21 nx la (aR (20, 0, 0) :: st) (mem S)) = go X m nx la (aR (32, 0, 0) :: st) (mem S) := by
  have e : (mem S).2 (20, 0, 0) 21 = aR (32, 0, 0) := rfl
  unfold i_get
  dsimp only
  rw [if_pos (gk_20 ), e]
  rfl
theorem vl_21 {S : aS}   : vld (mem S) (21, 0, 0) = true := by
  have key : (decide (nm (idx (21, 0, 0)) = (21, 0, 0)) && decide (idx (21, 0, 0) < 84)) = true := by decide +kernel
  exact key
theorem l_21 {X : aX} {m nx : Nat} {la : aLs} {st : List aV} {S : aS}  {j : Nat}  (hj : j < 94) : kC X m (i_ial X nx la (aI (nI j) :: aR (21, 0, 0) :: st) (mem S)) = go X m nx la (aI (S.1 3 j) :: st) (mem S) := by
  have e : (mem S).2 (21, 0, 0) j = aI (S.1 3 j) := by
    show memv S (21, 0, 0) j = _
    simp [memv, rfs, pl]
  unfold i_ial
  dsimp only
  rw [aln_m (show ((21, 0, 0) : aL).1 < 80 from Nat.le_of_ble_eq_true rfl) (vl_21 ) rfl]
  dsimp only
  rw [if_pos (inb_nI (show j < 94 from hj) (by decide)), nI_clamp (by omega), ard_m (Nat.le_of_ble_eq_true rfl), e]
  rfl
theorem s_21 {X : aX} {m nx : Nat} {la : aLs} {st : List aV} {S : aS}  {j : Nat} {x : Int32}  (hj : j < 94) : kC X m (i_ias nx la (aI x :: aI (nI j) :: aR (21, 0, 0) :: st) (mem S)) = go X m nx la st (mem (uq S.1 3 j x, S.2)) := by
  have e : wr (mem S) (21, 0, 0) j (aI x) = mem (uq S.1 3 j x, S.2) := wr_q (by simp [rfs]) (by simp [pl])
  unfold i_ias
  dsimp only
  rw [if_pos (by rw [vl_21 , show (shp (21, 0, 0)) = (1, 94) from rfl, inb_nI (show j < 94 from hj) (by decide)]; rfl), nI_clamp (by omega), e]
  rfl
theorem n_l21 {X : aX} {m nx : Nat} {la : aLs} {st : List aV} {S : aS}   : kC X m (i_aln X nx la (aR (21, 0, 0) :: st) (mem S)) = go X m nx la (aI (nI 94) :: st) (mem S) := by
  unfold i_aln
  dsimp only
  rw [if_pos (by decide), if_pos (by rw [vl_21 ]; rfl)]
  rfl
theorem vl_22 {S : aS}   : vld (mem S) (22, 0, 0) = true := by
  have key : (decide (nm (idx (22, 0, 0)) = (22, 0, 0)) && decide (idx (22, 0, 0) < 84)) = true := by decide +kernel
  exact key
theorem l_22 {X : aX} {m nx : Nat} {la : aLs} {st : List aV} {S : aS}  {j : Nat}  (hj : j < 94) : kC X m (i_ial X nx la (aI (nI j) :: aR (22, 0, 0) :: st) (mem S)) = go X m nx la (aI (S.1 4 j) :: st) (mem S) := by
  have e : (mem S).2 (22, 0, 0) j = aI (S.1 4 j) := by
    show memv S (22, 0, 0) j = _
    simp [memv, rfs, pl]
  unfold i_ial
  dsimp only
  rw [aln_m (show ((22, 0, 0) : aL).1 < 80 from Nat.le_of_ble_eq_true rfl) (vl_22 ) rfl]
  dsimp only
  rw [if_pos (inb_nI (show j < 94 from hj) (by decide)), nI_clamp (by omega), ard_m (Nat.le_of_ble_eq_true rfl), e]
  rfl
theorem s_22 {X : aX} {m nx : Nat} {la : aLs} {st : List aV} {S : aS}  {j : Nat} {x : Int32}  (hj : j < 94) : kC X m (i_ias nx la (aI x :: aI (nI j) :: aR (22, 0, 0) :: st) (mem S)) = go X m nx la st (mem (uq S.1 4 j x, S.2)) := by
  have e : wr (mem S) (22, 0, 0) j (aI x) = mem (uq S.1 4 j x, S.2) := wr_q (by simp [rfs]) (by simp [pl])
  unfold i_ias
  dsimp only
  rw [if_pos (by rw [vl_22 , show (shp (22, 0, 0)) = (1, 94) from rfl, inb_nI (show j < 94 from hj) (by decide)]; rfl), nI_clamp (by omega), e]
  rfl
theorem n_l22 {X : aX} {m nx : Nat} {la : aLs} {st : List aV} {S : aS}   : kC X m (i_aln X nx la (aR (22, 0, 0) :: st) (mem S)) = go X m nx la (aI (nI 94) :: st) (mem S) := by
  unfold i_aln
  dsimp only
  rw [if_pos (by decide), if_pos (by rw [vl_22 ]; rfl)]
  rfl
theorem vl_23 {S : aS}   : vld (mem S) (23, 0, 0) = true := by
  have key : (decide (nm (idx (23, 0, 0)) = (23, 0, 0)) && decide (idx (23, 0, 0) < 84)) = true := by decide +kernel
  exact key
theorem l_23 {X : aX} {m nx : Nat} {la : aLs} {st : List aV} {S : aS}  {j : Nat}  (hj : j < 94) : kC X m (i_ial X nx la (aI (nI j) :: aR (23, 0, 0) :: st) (mem S)) = go X m nx la (aI (S.1 5 j) :: st) (mem S) := by
  have e : (mem S).2 (23, 0, 0) j = aI (S.1 5 j) := by
    show memv S (23, 0, 0) j = _
    simp [memv, rfs, pl]
  unfold i_ial
  dsimp only
  rw [aln_m (show ((23, 0, 0) : aL).1 < 80 from Nat.le_of_ble_eq_true rfl) (vl_23 ) rfl]
  dsimp only
  rw [if_pos (inb_nI (show j < 94 from hj) (by decide)), nI_clamp (by omega), ard_m (Nat.le_of_ble_eq_true rfl), e]
  rfl
theorem s_23 {X : aX} {m nx : Nat} {la : aLs} {st : List aV} {S : aS}  {j : Nat} {x : Int32}  (hj : j < 94) : kC X m (i_ias nx la (aI x :: aI (nI j) :: aR (23, 0, 0) :: st) (mem S)) = go X m nx la st (mem (uq S.1 5 j x, S.2)) := by
  have e : wr (mem S) (23, 0, 0) j (aI x) = mem (uq S.1 5 j x, S.2) := wr_q (by simp [rfs]) (by simp [pl])
  unfold i_ias
  dsimp only
  rw [if_pos (by rw [vl_23 , show (shp (23, 0, 0)) = (1, 94) from rfl, inb_nI (show j < 94 from hj) (by decide)]; rfl), nI_clamp (by omega), e]
  rfl
theorem n_l23 {X : aX} {m nx : Nat} {la : aLs} {st : List aV} {S : aS}   : kC X m (i_aln X nx la (aR (23, 0, 0) :: st) (mem S)) = go X m nx la (aI (nI 94) :: st) (mem S) := by
  unfold i_aln
  dsimp only
  rw [if_pos (by decide), if_pos (by rw [vl_23 ]; rfl)]
  rfl
theorem vl_24 {S : aS}   : vld (mem S) (24, 0, 0) = true := by
  have key : (decide (nm (idx (24, 0, 0)) = (24, 0, 0)) && decide (idx (24, 0, 0) < 84)) = true := by decide +kernel
  exact key
theorem l_24 {X : aX} {m nx : Nat} {la : aLs} {st : List aV} {S : aS}  {j : Nat}  (hj : j < 8) : kC X m (i_ial X nx la (aI (nI j) :: aR (24, 0, 0) :: st) (mem S)) = go X m nx la (aI (S.2 (24, 0, 0) j) :: st) (mem S) := by
  have e : (mem S).2 (24, 0, 0) j = aI (S.2 (24, 0, 0) j) := by
    show memv S (24, 0, 0) j = _
    simp [memv, rfs, pl]
  unfold i_ial
  dsimp only
  rw [aln_m (show ((24, 0, 0) : aL).1 < 80 from Nat.le_of_ble_eq_true rfl) (vl_24 ) rfl]
  dsimp only
  rw [if_pos (inb_nI (show j < 8 from hj) (by decide)), nI_clamp (by omega), ard_m (Nat.le_of_ble_eq_true rfl), e]
  rfl
theorem s_24 {X : aX} {m nx : Nat} {la : aLs} {st : List aV} {S : aS}  {j : Nat} {x : Int32}  (hj : j < 8) : kC X m (i_ias nx la (aI x :: aI (nI j) :: aR (24, 0, 0) :: st) (mem S)) = go X m nx la st (mem (S.1, uD S.2 (24, 0, 0) j x)) := by
  have e : wr (mem S) (24, 0, 0) j (aI x) = mem (S.1, uD S.2 (24, 0, 0) j x) := wr_D (by simp [rfs]) (by simp [pl])
  unfold i_ias
  dsimp only
  rw [if_pos (by rw [vl_24 , show (shp (24, 0, 0)) = (1, 8) from rfl, inb_nI (show j < 8 from hj) (by decide)]; rfl), nI_clamp (by omega), e]
  rfl
theorem n_l24 {X : aX} {m nx : Nat} {la : aLs} {st : List aV} {S : aS}   : kC X m (i_aln X nx la (aR (24, 0, 0) :: st) (mem S)) = go X m nx la (aI (nI 8) :: st) (mem S) := by
  unfold i_aln
  dsimp only
  rw [if_pos (by decide), if_pos (by rw [vl_24 ]; rfl)]
  rfl
theorem vl_25 {S : aS}   : vld (mem S) (25, 0, 0) = true := by
  have key : (decide (nm (idx (25, 0, 0)) = (25, 0, 0)) && decide (idx (25, 0, 0) < 84)) = true := by decide +kernel
  exact key
theorem l_25 {X : aX} {m nx : Nat} {la : aLs} {st : List aV} {S : aS}  {j : Nat}  (hj : j < 8) : kC X m (i_ial X nx la (aI (nI j) :: aR (25, 0, 0) :: st) (mem S)) = go X m nx la (aI (S.2 (25, 0, 0) j) :: st) (mem S) := by
  have e : (mem S).2 (25, 0, 0) j = aI (S.2 (25, 0, 0) j) := by
    show memv S (25, 0, 0) j = _
    simp [memv, rfs, pl]
  unfold i_ial
  dsimp only
  rw [aln_m (show ((25, 0, 0) : aL).1 < 80 from Nat.le_of_ble_eq_true rfl) (vl_25 ) rfl]
  dsimp only
  rw [if_pos (inb_nI (show j < 8 from hj) (by decide)), nI_clamp (by omega), ard_m (Nat.le_of_ble_eq_true rfl), e]
  rfl
theorem s_25 {X : aX} {m nx : Nat} {la : aLs} {st : List aV} {S : aS}  {j : Nat} {x : Int32}  (hj : j < 8) : kC X m (i_ias nx la (aI x :: aI (nI j) :: aR (25, 0, 0) :: st) (mem S)) = go X m nx la st (mem (S.1, uD S.2 (25, 0, 0) j x)) := by
  have e : wr (mem S) (25, 0, 0) j (aI x) = mem (S.1, uD S.2 (25, 0, 0) j x) := wr_D (by simp [rfs]) (by simp [pl])
  unfold i_ias
  dsimp only
  rw [if_pos (by rw [vl_25 , show (shp (25, 0, 0)) = (1, 8) from rfl, inb_nI (show j < 8 from hj) (by decide)]; rfl), nI_clamp (by omega), e]
  rfl
theorem n_l25 {X : aX} {m nx : Nat} {la : aLs} {st : List aV} {S : aS}   : kC X m (i_aln X nx la (aR (25, 0, 0) :: st) (mem S)) = go X m nx la (aI (nI 8) :: st) (mem S) := by
  unfold i_aln
  dsimp only
  rw [if_pos (by decide), if_pos (by rw [vl_25 ]; rfl)]
  rfl
theorem vl_26 {S : aS}   : vld (mem S) (26, 0, 0) = true := by
  have key : (decide (nm (idx (26, 0, 0)) = (26, 0, 0)) && decide (idx (26, 0, 0) < 84)) = true := by decide +kernel
  exact key
theorem l_26 {X : aX} {m nx : Nat} {la : aLs} {st : List aV} {S : aS}  {j : Nat}  (hj : j < 120) : kC X m (i_ial X nx la (aI (nI j) :: aR (26, 0, 0) :: st) (mem S)) = go X m nx la (aI (S.2 (26, 0, 0) j) :: st) (mem S) := by
  have e : (mem S).2 (26, 0, 0) j = aI (S.2 (26, 0, 0) j) := by
    show memv S (26, 0, 0) j = _
    simp [memv, rfs, pl]
  unfold i_ial
  dsimp only
  rw [aln_m (show ((26, 0, 0) : aL).1 < 80 from Nat.le_of_ble_eq_true rfl) (vl_26 ) rfl]
  dsimp only
  rw [if_pos (inb_nI (show j < 120 from hj) (by decide)), nI_clamp (by omega), ard_m (Nat.le_of_ble_eq_true rfl), e]
  rfl
theorem s_26 {X : aX} {m nx : Nat} {la : aLs} {st : List aV} {S : aS}  {j : Nat} {x : Int32}  (hj : j < 120) : kC X m (i_ias nx la (aI x :: aI (nI j) :: aR (26, 0, 0) :: st) (mem S)) = go X m nx la st (mem (S.1, uD S.2 (26, 0, 0) j x)) := by
  have e : wr (mem S) (26, 0, 0) j (aI x) = mem (S.1, uD S.2 (26, 0, 0) j x) := wr_D (by simp [rfs]) (by simp [pl])
  unfold i_ias
  dsimp only
  rw [if_pos (by rw [vl_26 , show (shp (26, 0, 0)) = (1, 120) from rfl, inb_nI (show j < 120 from hj) (by decide)]; rfl), nI_clamp (by omega), e]
  rfl
theorem n_l26 {X : aX} {m nx : Nat} {la : aLs} {st : List aV} {S : aS}   : kC X m (i_aln X nx la (aR (26, 0, 0) :: st) (mem S)) = go X m nx la (aI (nI 120) :: st) (mem S) := by
  unfold i_aln
  dsimp only
  rw [if_pos (by decide), if_pos (by rw [vl_26 ]; rfl)]
  rfl
theorem vl_27 {S : aS}   : vld (mem S) (27, 0, 0) = true := by
  have key : (decide (nm (idx (27, 0, 0)) = (27, 0, 0)) && decide (idx (27, 0, 0) < 84)) = true := by decide +kernel
  exact key
theorem l_27 {X : aX} {m nx : Nat} {la : aLs} {st : List aV} {S : aS}  {j : Nat}  (hj : j < 7) : kC X m (i_aal nx la (aI (nI j) :: aR (27, 0, 0) :: st) (mem S)) = go X m nx la (aR (80, j, 0) :: st) (mem S) := by
  have e : (mem S).2 (27, 0, 0) j = aR (80, j, 0) := by
    show memv S (27, 0, 0) j = _
    simp [memv, rfs, rvN, hj]
  unfold i_aal
  dsimp only
  rw [if_pos (by rw [vl_27 , show (shp (27, 0, 0)) = (4, 7) from rfl, inb_nI (show j < 7 from hj) (by decide)]; rfl), nI_clamp (by omega), e]
  rfl
theorem n_l27 {X : aX} {m nx : Nat} {la : aLs} {st : List aV} {S : aS}   : kC X m (i_aln X nx la (aR (27, 0, 0) :: st) (mem S)) = go X m nx la (aI (nI 7) :: st) (mem S) := by
  unfold i_aln
  dsimp only
  rw [if_pos (by decide), if_pos (by rw [vl_27 ]; rfl)]
  rfl
theorem vl_28 {S : aS}   : vld (mem S) (28, 0, 0) = true := by
  have key : (decide (nm (idx (28, 0, 0)) = (28, 0, 0)) && decide (idx (28, 0, 0) < 84)) = true := by decide +kernel
  exact key
theorem l_28 {X : aX} {m nx : Nat} {la : aLs} {st : List aV} {S : aS}  {j : Nat}  (hj : j < 720) : kC X m (i_ial X nx la (aI (nI j) :: aR (28, 0, 0) :: st) (mem S)) = go X m nx la (aI (S.2 (28, 0, 0) j) :: st) (mem S) := by
  have e : (mem S).2 (28, 0, 0) j = aI (S.2 (28, 0, 0) j) := by
    show memv S (28, 0, 0) j = _
    simp [memv, rfs, pl]
  unfold i_ial
  dsimp only
  rw [aln_m (show ((28, 0, 0) : aL).1 < 80 from Nat.le_of_ble_eq_true rfl) (vl_28 ) rfl]
  dsimp only
  rw [if_pos (inb_nI (show j < 720 from hj) (by decide)), nI_clamp (by omega), ard_m (Nat.le_of_ble_eq_true rfl), e]
  rfl
theorem s_28 {X : aX} {m nx : Nat} {la : aLs} {st : List aV} {S : aS}  {j : Nat} {x : Int32}  (hj : j < 720) : kC X m (i_ias nx la (aI x :: aI (nI j) :: aR (28, 0, 0) :: st) (mem S)) = go X m nx la st (mem (S.1, uD S.2 (28, 0, 0) j x)) := by
  have e : wr (mem S) (28, 0, 0) j (aI x) = mem (S.1, uD S.2 (28, 0, 0) j x) := wr_D (by simp [rfs]) (by simp [pl])
  unfold i_ias
  dsimp only
  rw [if_pos (by rw [vl_28 , show (shp (28, 0, 0)) = (1, 720) from rfl, inb_nI (show j < 720 from hj) (by decide)]; rfl), nI_clamp (by omega), e]
  rfl
theorem n_l28 {X : aX} {m nx : Nat} {la : aLs} {st : List aV} {S : aS}   : kC X m (i_aln X nx la (aR (28, 0, 0) :: st) (mem S)) = go X m nx la (aI (nI 720) :: st) (mem S) := by
  unfold i_aln
  dsimp only
  rw [if_pos (by decide), if_pos (by rw [vl_28 ]; rfl)]
  rfl
theorem vl_29 {S : aS}   : vld (mem S) (29, 0, 0) = true := by
  have key : (decide (nm (idx (29, 0, 0)) = (29, 0, 0)) && decide (idx (29, 0, 0) < 84)) = true := by decide +kernel
  exact key
theorem l_29 {X : aX} {m nx : Nat} {la : aLs} {st : List aV} {S : aS}  {j : Nat}  (hj : j < 4) : kC X m (i_ial X nx la (aI (nI j) :: aR (29, 0, 0) :: st) (mem S)) = go X m nx la (aI (S.2 (29, 0, 0) j) :: st) (mem S) := by
  have e : (mem S).2 (29, 0, 0) j = aI (S.2 (29, 0, 0) j) := by
    show memv S (29, 0, 0) j = _
    simp [memv, rfs, pl]
  unfold i_ial
  dsimp only
  rw [aln_m (show ((29, 0, 0) : aL).1 < 80 from Nat.le_of_ble_eq_true rfl) (vl_29 ) rfl]
  dsimp only
  rw [if_pos (inb_nI (show j < 4 from hj) (by decide)), nI_clamp (by omega), ard_m (Nat.le_of_ble_eq_true rfl), e]
  rfl
theorem s_29 {X : aX} {m nx : Nat} {la : aLs} {st : List aV} {S : aS}  {j : Nat} {x : Int32}  (hj : j < 4) : kC X m (i_ias nx la (aI x :: aI (nI j) :: aR (29, 0, 0) :: st) (mem S)) = go X m nx la st (mem (S.1, uD S.2 (29, 0, 0) j x)) := by
  have e : wr (mem S) (29, 0, 0) j (aI x) = mem (S.1, uD S.2 (29, 0, 0) j x) := wr_D (by simp [rfs]) (by simp [pl])
  unfold i_ias
  dsimp only
  rw [if_pos (by rw [vl_29 , show (shp (29, 0, 0)) = (1, 4) from rfl, inb_nI (show j < 4 from hj) (by decide)]; rfl), nI_clamp (by omega), e]
  rfl
theorem n_l29 {X : aX} {m nx : Nat} {la : aLs} {st : List aV} {S : aS}   : kC X m (i_aln X nx la (aR (29, 0, 0) :: st) (mem S)) = go X m nx la (aI (nI 4) :: st) (mem S) := by
  unfold i_aln
  dsimp only
  rw [if_pos (by decide), if_pos (by rw [vl_29 ]; rfl)]
  rfl
theorem vl_30 {S : aS}   : vld (mem S) (30, 0, 0) = true := by
  have key : (decide (nm (idx (30, 0, 0)) = (30, 0, 0)) && decide (idx (30, 0, 0) < 84)) = true := by decide +kernel
  exact key
theorem l_30 {X : aX} {m nx : Nat} {la : aLs} {st : List aV} {S : aS}  {j : Nat}  (hj : j < 4) : kC X m (i_ial X nx la (aI (nI j) :: aR (30, 0, 0) :: st) (mem S)) = go X m nx la (aI (S.2 (30, 0, 0) j) :: st) (mem S) := by
  have e : (mem S).2 (30, 0, 0) j = aI (S.2 (30, 0, 0) j) := by
    show memv S (30, 0, 0) j = _
    simp [memv, rfs, pl]
  unfold i_ial
  dsimp only
  rw [aln_m (show ((30, 0, 0) : aL).1 < 80 from Nat.le_of_ble_eq_true rfl) (vl_30 ) rfl]
  dsimp only
  rw [if_pos (inb_nI (show j < 4 from hj) (by decide)), nI_clamp (by omega), ard_m (Nat.le_of_ble_eq_true rfl), e]
  rfl
theorem s_30 {X : aX} {m nx : Nat} {la : aLs} {st : List aV} {S : aS}  {j : Nat} {x : Int32}  (hj : j < 4) : kC X m (i_ias nx la (aI x :: aI (nI j) :: aR (30, 0, 0) :: st) (mem S)) = go X m nx la st (mem (S.1, uD S.2 (30, 0, 0) j x)) := by
  have e : wr (mem S) (30, 0, 0) j (aI x) = mem (S.1, uD S.2 (30, 0, 0) j x) := wr_D (by simp [rfs]) (by simp [pl])
  unfold i_ias
  dsimp only
  rw [if_pos (by rw [vl_30 , show (shp (30, 0, 0)) = (1, 4) from rfl, inb_nI (show j < 4 from hj) (by decide)]; rfl), nI_clamp (by omega), e]
  rfl
theorem n_l30 {X : aX} {m nx : Nat} {la : aLs} {st : List aV} {S : aS}   : kC X m (i_aln X nx la (aR (30, 0, 0) :: st) (mem S)) = go X m nx la (aI (nI 4) :: st) (mem S) := by
  unfold i_aln
  dsimp only
  rw [if_pos (by decide), if_pos (by rw [vl_30 ]; rfl)]
  rfl
theorem vl_31 {S : aS}   : vld (mem S) (31, 0, 0) = true := by
  have key : (decide (nm (idx (31, 0, 0)) = (31, 0, 0)) && decide (idx (31, 0, 0) < 84)) = true := by decide +kernel
  exact key
theorem l_31 {X : aX} {m nx : Nat} {la : aLs} {st : List aV} {S : aS}  {j : Nat}  (hj : j < 160) : kC X m (i_ial X nx la (aI (nI j) :: aR (31, 0, 0) :: st) (mem S)) = go X m nx la (aI (S.2 (31, 0, 0) j) :: st) (mem S) := by
  have e : (mem S).2 (31, 0, 0) j = aI (S.2 (31, 0, 0) j) := by
    show memv S (31, 0, 0) j = _
    simp [memv, rfs, pl]
  unfold i_ial
  dsimp only
  rw [aln_m (show ((31, 0, 0) : aL).1 < 80 from Nat.le_of_ble_eq_true rfl) (vl_31 ) rfl]
  dsimp only
  rw [if_pos (inb_nI (show j < 160 from hj) (by decide)), nI_clamp (by omega), ard_m (Nat.le_of_ble_eq_true rfl), e]
  rfl
theorem s_31 {X : aX} {m nx : Nat} {la : aLs} {st : List aV} {S : aS}  {j : Nat} {x : Int32}  (hj : j < 160) : kC X m (i_ias nx la (aI x :: aI (nI j) :: aR (31, 0, 0) :: st) (mem S)) = go X m nx la st (mem (S.1, uD S.2 (31, 0, 0) j x)) := by
  have e : wr (mem S) (31, 0, 0) j (aI x) = mem (S.1, uD S.2 (31, 0, 0) j x) := wr_D (by simp [rfs]) (by simp [pl])
  unfold i_ias
  dsimp only
  rw [if_pos (by rw [vl_31 , show (shp (31, 0, 0)) = (1, 160) from rfl, inb_nI (show j < 160 from hj) (by decide)]; rfl), nI_clamp (by omega), e]
  rfl
theorem n_l31 {X : aX} {m nx : Nat} {la : aLs} {st : List aV} {S : aS}   : kC X m (i_aln X nx la (aR (31, 0, 0) :: st) (mem S)) = go X m nx la (aI (nI 160) :: st) (mem S) := by
  unfold i_aln
  dsimp only
  rw [if_pos (by decide), if_pos (by rw [vl_31 ]; rfl)]
  rfl
theorem vl_32 {S : aS}   : vld (mem S) (32, 0, 0) = true := by
  have key : (decide (nm (idx (32, 0, 0)) = (32, 0, 0)) && decide (idx (32, 0, 0) < 84)) = true := by decide +kernel
  exact key
theorem l_32 {X : aX} {m nx : Nat} {la : aLs} {st : List aV} {S : aS}  {j : Nat}  (hj : j < 40) : kC X m (i_ial X nx la (aI (nI j) :: aR (32, 0, 0) :: st) (mem S)) = go X m nx la (aI (S.2 (32, 0, 0) j) :: st) (mem S) := by
  have e : (mem S).2 (32, 0, 0) j = aI (S.2 (32, 0, 0) j) := by
    show memv S (32, 0, 0) j = _
    simp [memv, rfs, pl]
  unfold i_ial
  dsimp only
  rw [aln_m (show ((32, 0, 0) : aL).1 < 80 from Nat.le_of_ble_eq_true rfl) (vl_32 ) rfl]
  dsimp only
  rw [if_pos (inb_nI (show j < 40 from hj) (by decide)), nI_clamp (by omega), ard_m (Nat.le_of_ble_eq_true rfl), e]
  rfl
theorem s_32 {X : aX} {m nx : Nat} {la : aLs} {st : List aV} {S : aS}  {j : Nat} {x : Int32}  (hj : j < 40) : kC X m (i_ias nx la (aI x :: aI (nI j) :: aR (32, 0, 0) :: st) (mem S)) = go X m nx la st (mem (S.1, uD S.2 (32, 0, 0) j x)) := by
  have e : wr (mem S) (32, 0, 0) j (aI x) = mem (S.1, uD S.2 (32, 0, 0) j x) := wr_D (by simp [rfs]) (by simp [pl])
  unfold i_ias
  dsimp only
  rw [if_pos (by rw [vl_32 , show (shp (32, 0, 0)) = (1, 40) from rfl, inb_nI (show j < 40 from hj) (by decide)]; rfl), nI_clamp (by omega), e]
  rfl
theorem n_l32 {X : aX} {m nx : Nat} {la : aLs} {st : List aV} {S : aS}   : kC X m (i_aln X nx la (aR (32, 0, 0) :: st) (mem S)) = go X m nx la (aI (nI 40) :: st) (mem S) := by
  unfold i_aln
  dsimp only
  rw [if_pos (by decide), if_pos (by rw [vl_32 ]; rfl)]
  rfl
theorem x_k0_s {X : aX} {m m2 nx : Nat} {la : aLs} {st : List aV} {M : aM} : kK X m m2 0 nx 0 la (st) M = if cs st ≤ 8 then bnd (cl X m2 [] M) (fun v M2 => go X m nx la (psh v st) M2) else none := by
  by_cases h2 : cs st ≤ 8
  · rw [if_pos h2, x_k0 rfl h2]
  · rw [if_neg h2]
    unfold kK
    rw [if_neg (by simp [cok, h2])]
theorem x_k1_s {X : aX} {m m2 nx : Nat} {la : aLs} {st : List aV} {M : aM} {b0 : aV} : kK X m m2 1 nx 0 la (b0 :: st) M = if cs st ≤ 8 then bnd (cl X m2 [b0] M) (fun v M2 => go X m nx la (psh v st) M2) else none := by
  by_cases h2 : cs st ≤ 8
  · rw [if_pos h2, x_k1 rfl h2]
  · rw [if_neg h2]
    unfold kK
    rw [if_neg (by simp [cok, h2])]
theorem x_k1_0 {X : aX} {m m2 nx : Nat} {la : aLs} {st : List aV} {S : aS}   : kK X m m2 1 nx 6 la (aR (0, 0, 0) :: st) (mem S) = if cs st ≤ 8 then bnd (cl X m2 [aR (0, 0, 0)] (mem S)) (fun v M2 => go X m nx la (psh v st) M2) else none := by
  by_cases h2 : cs st ≤ 8
  · rw [if_pos h2]
    exact x_k1 (gk_0 (S := S) ) h2
  · rw [if_neg h2]
    unfold kK
    rw [if_neg (by simp [cok, h2])]
theorem x_k1_1 {X : aX} {m m2 nx : Nat} {la : aLs} {st : List aV} {S : aS} {a : Nat} (ha : a < 3) : kK X m m2 1 nx 4 la (aR (1, a, 0) :: st) (mem S) = if cs st ≤ 8 then bnd (cl X m2 [aR (1, a, 0)] (mem S)) (fun v M2 => go X m nx la (psh v st) M2) else none := by
  by_cases h2 : cs st ≤ 8
  · rw [if_pos h2]
    exact x_k1 (gk_1 (S := S) ha) h2
  · rw [if_neg h2]
    unfold kK
    rw [if_neg (by simp [cok, h2])]
theorem x_k1_4 {X : aX} {m m2 nx : Nat} {la : aLs} {st : List aV} {S : aS} {a b : Nat} (ha : a < 3) (hb : b < 8) : kK X m m2 1 nx 3 la (aR (4, a, b) :: st) (mem S) = if cs st ≤ 8 then bnd (cl X m2 [aR (4, a, b)] (mem S)) (fun v M2 => go X m nx la (psh v st) M2) else none := by
  by_cases h2 : cs st ≤ 8
  · rw [if_pos h2]
    exact x_k1 (gk_4 (S := S) ha hb) h2
  · rw [if_neg h2]
    unfold kK
    rw [if_neg (by simp [cok, h2])]
theorem x_k1_6 {X : aX} {m m2 nx : Nat} {la : aLs} {st : List aV} {S : aS}   : kK X m m2 1 nx 1 la (aR (6, 0, 0) :: st) (mem S) = if cs st ≤ 8 then bnd (cl X m2 [aR (6, 0, 0)] (mem S)) (fun v M2 => go X m nx la (psh v st) M2) else none := by
  by_cases h2 : cs st ≤ 8
  · rw [if_pos h2]
    exact x_k1 (gk_6 (S := S) ) h2
  · rw [if_neg h2]
    unfold kK
    rw [if_neg (by simp [cok, h2])]
theorem x_k1_7 {X : aX} {m m2 nx : Nat} {la : aLs} {st : List aV} {S : aS}   : kK X m m2 1 nx 5 la (aR (7, 0, 0) :: st) (mem S) = if cs st ≤ 8 then bnd (cl X m2 [aR (7, 0, 0)] (mem S)) (fun v M2 => go X m nx la (psh v st) M2) else none := by
  by_cases h2 : cs st ≤ 8
  · rw [if_pos h2]
    exact x_k1 (gk_7 (S := S) ) h2
  · rw [if_neg h2]
    unfold kK
    rw [if_neg (by simp [cok, h2])]
theorem x_k1_10 {X : aX} {m m2 nx : Nat} {la : aLs} {st : List aV} {S : aS} {a : Nat} (ha : a < 4) : kK X m m2 1 nx 2 la (aR (10, a, 0) :: st) (mem S) = if cs st ≤ 8 then bnd (cl X m2 [aR (10, a, 0)] (mem S)) (fun v M2 => go X m nx la (psh v st) M2) else none := by
  by_cases h2 : cs st ≤ 8
  · rw [if_pos h2]
    exact x_k1 (gk_10 (S := S) ha) h2
  · rw [if_neg h2]
    unfold kK
    rw [if_neg (by simp [cok, h2])]
theorem x_k1_20 {X : aX} {m m2 nx : Nat} {la : aLs} {st : List aV} {S : aS}   : kK X m m2 1 nx 7 la (aR (20, 0, 0) :: st) (mem S) = if cs st ≤ 8 then bnd (cl X m2 [aR (20, 0, 0)] (mem S)) (fun v M2 => go X m nx la (psh v st) M2) else none := by
  by_cases h2 : cs st ≤ 8
  · rw [if_pos h2]
    exact x_k1 (gk_20 (S := S) ) h2
  · rw [if_neg h2]
    unfold kK
    rw [if_neg (by simp [cok, h2])]
theorem x_k1_T {X : aX} {m m2 nx : Nat} {la : aLs} {st : List aV} {M : aM} {w : Nat} (hw : w < 14) : kK X m m2 1 nx 100 la (aR (80, w, 0) :: st) M = if cs st ≤ 8 then bnd (cl X m2 [aR (80, w, 0)] M) (fun v M2 => go X m nx la (psh v st) M2) else none := by
  by_cases h2 : cs st ≤ 8
  · rw [if_pos h2]
    exact x_k1 (by show txo (80, w, 0) = true; simp [txo, hw]) h2
  · rw [if_neg h2]
    unfold kK
    rw [if_neg (by simp [cok, h2])]
theorem x_k2_s {X : aX} {m m2 nx : Nat} {la : aLs} {st : List aV} {M : aM} {b0 b1 : aV} : kK X m m2 2 nx 0 la (b1 :: b0 :: st) M = if cs st ≤ 8 then bnd (cl X m2 [b0, b1] M) (fun v M2 => go X m nx la (psh v st) M2) else none := by
  by_cases h2 : cs st ≤ 8
  · rw [if_pos h2, x_k2 rfl h2]
  · rw [if_neg h2]
    unfold kK
    rw [if_neg (by simp [cok, h2])]
theorem x_k2_0 {X : aX} {m m2 nx : Nat} {la : aLs} {st : List aV} {S : aS}  {c1 : aV}  : kK X m m2 2 nx 6 la (c1 :: aR (0, 0, 0) :: st) (mem S) = if cs st ≤ 8 then bnd (cl X m2 [aR (0, 0, 0), c1] (mem S)) (fun v M2 => go X m nx la (psh v st) M2) else none := by
  by_cases h2 : cs st ≤ 8
  · rw [if_pos h2]
    exact x_k2 (gk_0 (S := S) ) h2
  · rw [if_neg h2]
    unfold kK
    rw [if_neg (by simp [cok, h2])]
theorem x_k2_1 {X : aX} {m m2 nx : Nat} {la : aLs} {st : List aV} {S : aS} {a : Nat} {c1 : aV} (ha : a < 3) : kK X m m2 2 nx 4 la (c1 :: aR (1, a, 0) :: st) (mem S) = if cs st ≤ 8 then bnd (cl X m2 [aR (1, a, 0), c1] (mem S)) (fun v M2 => go X m nx la (psh v st) M2) else none := by
  by_cases h2 : cs st ≤ 8
  · rw [if_pos h2]
    exact x_k2 (gk_1 (S := S) ha) h2
  · rw [if_neg h2]
    unfold kK
    rw [if_neg (by simp [cok, h2])]
theorem x_k2_4 {X : aX} {m m2 nx : Nat} {la : aLs} {st : List aV} {S : aS} {a b : Nat} {c1 : aV} (ha : a < 3) (hb : b < 8) : kK X m m2 2 nx 3 la (c1 :: aR (4, a, b) :: st) (mem S) = if cs st ≤ 8 then bnd (cl X m2 [aR (4, a, b), c1] (mem S)) (fun v M2 => go X m nx la (psh v st) M2) else none := by
  by_cases h2 : cs st ≤ 8
  · rw [if_pos h2]
    exact x_k2 (gk_4 (S := S) ha hb) h2
  · rw [if_neg h2]
    unfold kK
    rw [if_neg (by simp [cok, h2])]
theorem x_k2_6 {X : aX} {m m2 nx : Nat} {la : aLs} {st : List aV} {S : aS}  {c1 : aV}  : kK X m m2 2 nx 1 la (c1 :: aR (6, 0, 0) :: st) (mem S) = if cs st ≤ 8 then bnd (cl X m2 [aR (6, 0, 0), c1] (mem S)) (fun v M2 => go X m nx la (psh v st) M2) else none := by
  by_cases h2 : cs st ≤ 8
  · rw [if_pos h2]
    exact x_k2 (gk_6 (S := S) ) h2
  · rw [if_neg h2]
    unfold kK
    rw [if_neg (by simp [cok, h2])]
theorem x_k2_7 {X : aX} {m m2 nx : Nat} {la : aLs} {st : List aV} {S : aS}  {c1 : aV}  : kK X m m2 2 nx 5 la (c1 :: aR (7, 0, 0) :: st) (mem S) = if cs st ≤ 8 then bnd (cl X m2 [aR (7, 0, 0), c1] (mem S)) (fun v M2 => go X m nx la (psh v st) M2) else none := by
  by_cases h2 : cs st ≤ 8
  · rw [if_pos h2]
    exact x_k2 (gk_7 (S := S) ) h2
  · rw [if_neg h2]
    unfold kK
    rw [if_neg (by simp [cok, h2])]
theorem x_k2_10 {X : aX} {m m2 nx : Nat} {la : aLs} {st : List aV} {S : aS} {a : Nat} {c1 : aV} (ha : a < 4) : kK X m m2 2 nx 2 la (c1 :: aR (10, a, 0) :: st) (mem S) = if cs st ≤ 8 then bnd (cl X m2 [aR (10, a, 0), c1] (mem S)) (fun v M2 => go X m nx la (psh v st) M2) else none := by
  by_cases h2 : cs st ≤ 8
  · rw [if_pos h2]
    exact x_k2 (gk_10 (S := S) ha) h2
  · rw [if_neg h2]
    unfold kK
    rw [if_neg (by simp [cok, h2])]
theorem x_k2_20 {X : aX} {m m2 nx : Nat} {la : aLs} {st : List aV} {S : aS}  {c1 : aV}  : kK X m m2 2 nx 7 la (c1 :: aR (20, 0, 0) :: st) (mem S) = if cs st ≤ 8 then bnd (cl X m2 [aR (20, 0, 0), c1] (mem S)) (fun v M2 => go X m nx la (psh v st) M2) else none := by
  by_cases h2 : cs st ≤ 8
  · rw [if_pos h2]
    exact x_k2 (gk_20 (S := S) ) h2
  · rw [if_neg h2]
    unfold kK
    rw [if_neg (by simp [cok, h2])]
theorem x_k2_T {X : aX} {m m2 nx : Nat} {la : aLs} {st : List aV} {M : aM} {w : Nat} {c1 : aV} (hw : w < 14) : kK X m m2 2 nx 100 la (c1 :: aR (80, w, 0) :: st) M = if cs st ≤ 8 then bnd (cl X m2 [aR (80, w, 0), c1] M) (fun v M2 => go X m nx la (psh v st) M2) else none := by
  by_cases h2 : cs st ≤ 8
  · rw [if_pos h2]
    exact x_k2 (by show txo (80, w, 0) = true; simp [txo, hw]) h2
  · rw [if_neg h2]
    unfold kK
    rw [if_neg (by simp [cok, h2])]
theorem x_k3_s {X : aX} {m m2 nx : Nat} {la : aLs} {st : List aV} {M : aM} {b0 b1 b2 : aV} : kK X m m2 3 nx 0 la (b2 :: b1 :: b0 :: st) M = if cs st ≤ 8 then bnd (cl X m2 [b0, b1, b2] M) (fun v M2 => go X m nx la (psh v st) M2) else none := by
  by_cases h2 : cs st ≤ 8
  · rw [if_pos h2, x_k3 rfl h2]
  · rw [if_neg h2]
    unfold kK
    rw [if_neg (by simp [cok, h2])]
theorem x_k3_0 {X : aX} {m m2 nx : Nat} {la : aLs} {st : List aV} {S : aS}  {c1 c2 : aV}  : kK X m m2 3 nx 6 la (c2 :: c1 :: aR (0, 0, 0) :: st) (mem S) = if cs st ≤ 8 then bnd (cl X m2 [aR (0, 0, 0), c1, c2] (mem S)) (fun v M2 => go X m nx la (psh v st) M2) else none := by
  by_cases h2 : cs st ≤ 8
  · rw [if_pos h2]
    exact x_k3 (gk_0 (S := S) ) h2
  · rw [if_neg h2]
    unfold kK
    rw [if_neg (by simp [cok, h2])]
theorem x_k3_1 {X : aX} {m m2 nx : Nat} {la : aLs} {st : List aV} {S : aS} {a : Nat} {c1 c2 : aV} (ha : a < 3) : kK X m m2 3 nx 4 la (c2 :: c1 :: aR (1, a, 0) :: st) (mem S) = if cs st ≤ 8 then bnd (cl X m2 [aR (1, a, 0), c1, c2] (mem S)) (fun v M2 => go X m nx la (psh v st) M2) else none := by
  by_cases h2 : cs st ≤ 8
  · rw [if_pos h2]
    exact x_k3 (gk_1 (S := S) ha) h2
  · rw [if_neg h2]
    unfold kK
    rw [if_neg (by simp [cok, h2])]
theorem x_k3_4 {X : aX} {m m2 nx : Nat} {la : aLs} {st : List aV} {S : aS} {a b : Nat} {c1 c2 : aV} (ha : a < 3) (hb : b < 8) : kK X m m2 3 nx 3 la (c2 :: c1 :: aR (4, a, b) :: st) (mem S) = if cs st ≤ 8 then bnd (cl X m2 [aR (4, a, b), c1, c2] (mem S)) (fun v M2 => go X m nx la (psh v st) M2) else none := by
  by_cases h2 : cs st ≤ 8
  · rw [if_pos h2]
    exact x_k3 (gk_4 (S := S) ha hb) h2
  · rw [if_neg h2]
    unfold kK
    rw [if_neg (by simp [cok, h2])]
theorem x_k3_6 {X : aX} {m m2 nx : Nat} {la : aLs} {st : List aV} {S : aS}  {c1 c2 : aV}  : kK X m m2 3 nx 1 la (c2 :: c1 :: aR (6, 0, 0) :: st) (mem S) = if cs st ≤ 8 then bnd (cl X m2 [aR (6, 0, 0), c1, c2] (mem S)) (fun v M2 => go X m nx la (psh v st) M2) else none := by
  by_cases h2 : cs st ≤ 8
  · rw [if_pos h2]
    exact x_k3 (gk_6 (S := S) ) h2
  · rw [if_neg h2]
    unfold kK
    rw [if_neg (by simp [cok, h2])]
theorem x_k3_7 {X : aX} {m m2 nx : Nat} {la : aLs} {st : List aV} {S : aS}  {c1 c2 : aV}  : kK X m m2 3 nx 5 la (c2 :: c1 :: aR (7, 0, 0) :: st) (mem S) = if cs st ≤ 8 then bnd (cl X m2 [aR (7, 0, 0), c1, c2] (mem S)) (fun v M2 => go X m nx la (psh v st) M2) else none := by
  by_cases h2 : cs st ≤ 8
  · rw [if_pos h2]
    exact x_k3 (gk_7 (S := S) ) h2
  · rw [if_neg h2]
    unfold kK
    rw [if_neg (by simp [cok, h2])]
theorem x_k3_10 {X : aX} {m m2 nx : Nat} {la : aLs} {st : List aV} {S : aS} {a : Nat} {c1 c2 : aV} (ha : a < 4) : kK X m m2 3 nx 2 la (c2 :: c1 :: aR (10, a, 0) :: st) (mem S) = if cs st ≤ 8 then bnd (cl X m2 [aR (10, a, 0), c1, c2] (mem S)) (fun v M2 => go X m nx la (psh v st) M2) else none := by
  by_cases h2 : cs st ≤ 8
  · rw [if_pos h2]
    exact x_k3 (gk_10 (S := S) ha) h2
  · rw [if_neg h2]
    unfold kK
    rw [if_neg (by simp [cok, h2])]
theorem x_k3_20 {X : aX} {m m2 nx : Nat} {la : aLs} {st : List aV} {S : aS}  {c1 c2 : aV}  : kK X m m2 3 nx 7 la (c2 :: c1 :: aR (20, 0, 0) :: st) (mem S) = if cs st ≤ 8 then bnd (cl X m2 [aR (20, 0, 0), c1, c2] (mem S)) (fun v M2 => go X m nx la (psh v st) M2) else none := by
  by_cases h2 : cs st ≤ 8
  · rw [if_pos h2]
    exact x_k3 (gk_20 (S := S) ) h2
  · rw [if_neg h2]
    unfold kK
    rw [if_neg (by simp [cok, h2])]
theorem x_k3_T {X : aX} {m m2 nx : Nat} {la : aLs} {st : List aV} {M : aM} {w : Nat} {c1 c2 : aV} (hw : w < 14) : kK X m m2 3 nx 100 la (c2 :: c1 :: aR (80, w, 0) :: st) M = if cs st ≤ 8 then bnd (cl X m2 [aR (80, w, 0), c1, c2] M) (fun v M2 => go X m nx la (psh v st) M2) else none := by
  by_cases h2 : cs st ≤ 8
  · rw [if_pos h2]
    exact x_k3 (by show txo (80, w, 0) = true; simp [txo, hw]) h2
  · rw [if_neg h2]
    unfold kK
    rw [if_neg (by simp [cok, h2])]
theorem x_k4_s {X : aX} {m m2 nx : Nat} {la : aLs} {st : List aV} {M : aM} {b0 b1 b2 b3 : aV} : kK X m m2 4 nx 0 la (b3 :: b2 :: b1 :: b0 :: st) M = if cs st ≤ 8 then bnd (cl X m2 [b0, b1, b2, b3] M) (fun v M2 => go X m nx la (psh v st) M2) else none := by
  by_cases h2 : cs st ≤ 8
  · rw [if_pos h2, x_k4 rfl h2]
  · rw [if_neg h2]
    unfold kK
    rw [if_neg (by simp [cok, h2])]
theorem x_k4_0 {X : aX} {m m2 nx : Nat} {la : aLs} {st : List aV} {S : aS}  {c1 c2 c3 : aV}  : kK X m m2 4 nx 6 la (c3 :: c2 :: c1 :: aR (0, 0, 0) :: st) (mem S) = if cs st ≤ 8 then bnd (cl X m2 [aR (0, 0, 0), c1, c2, c3] (mem S)) (fun v M2 => go X m nx la (psh v st) M2) else none := by
  by_cases h2 : cs st ≤ 8
  · rw [if_pos h2]
    exact x_k4 (gk_0 (S := S) ) h2
  · rw [if_neg h2]
    unfold kK
    rw [if_neg (by simp [cok, h2])]
theorem x_k4_1 {X : aX} {m m2 nx : Nat} {la : aLs} {st : List aV} {S : aS} {a : Nat} {c1 c2 c3 : aV} (ha : a < 3) : kK X m m2 4 nx 4 la (c3 :: c2 :: c1 :: aR (1, a, 0) :: st) (mem S) = if cs st ≤ 8 then bnd (cl X m2 [aR (1, a, 0), c1, c2, c3] (mem S)) (fun v M2 => go X m nx la (psh v st) M2) else none := by
  by_cases h2 : cs st ≤ 8
  · rw [if_pos h2]
    exact x_k4 (gk_1 (S := S) ha) h2
  · rw [if_neg h2]
    unfold kK
    rw [if_neg (by simp [cok, h2])]
theorem x_k4_4 {X : aX} {m m2 nx : Nat} {la : aLs} {st : List aV} {S : aS} {a b : Nat} {c1 c2 c3 : aV} (ha : a < 3) (hb : b < 8) : kK X m m2 4 nx 3 la (c3 :: c2 :: c1 :: aR (4, a, b) :: st) (mem S) = if cs st ≤ 8 then bnd (cl X m2 [aR (4, a, b), c1, c2, c3] (mem S)) (fun v M2 => go X m nx la (psh v st) M2) else none := by
  by_cases h2 : cs st ≤ 8
  · rw [if_pos h2]
    exact x_k4 (gk_4 (S := S) ha hb) h2
  · rw [if_neg h2]
    unfold kK
    rw [if_neg (by simp [cok, h2])]
theorem x_k4_6 {X : aX} {m m2 nx : Nat} {la : aLs} {st : List aV} {S : aS}  {c1 c2 c3 : aV}  : kK X m m2 4 nx 1 la (c3 :: c2 :: c1 :: aR (6, 0, 0) :: st) (mem S) = if cs st ≤ 8 then bnd (cl X m2 [aR (6, 0, 0), c1, c2, c3] (mem S)) (fun v M2 => go X m nx la (psh v st) M2) else none := by
  by_cases h2 : cs st ≤ 8
  · rw [if_pos h2]
    exact x_k4 (gk_6 (S := S) ) h2
  · rw [if_neg h2]
    unfold kK
    rw [if_neg (by simp [cok, h2])]
theorem x_k4_7 {X : aX} {m m2 nx : Nat} {la : aLs} {st : List aV} {S : aS}  {c1 c2 c3 : aV}  : kK X m m2 4 nx 5 la (c3 :: c2 :: c1 :: aR (7, 0, 0) :: st) (mem S) = if cs st ≤ 8 then bnd (cl X m2 [aR (7, 0, 0), c1, c2, c3] (mem S)) (fun v M2 => go X m nx la (psh v st) M2) else none := by
  by_cases h2 : cs st ≤ 8
  · rw [if_pos h2]
    exact x_k4 (gk_7 (S := S) ) h2
  · rw [if_neg h2]
    unfold kK
    rw [if_neg (by simp [cok, h2])]
theorem x_k4_10 {X : aX} {m m2 nx : Nat} {la : aLs} {st : List aV} {S : aS} {a : Nat} {c1 c2 c3 : aV} (ha : a < 4) : kK X m m2 4 nx 2 la (c3 :: c2 :: c1 :: aR (10, a, 0) :: st) (mem S) = if cs st ≤ 8 then bnd (cl X m2 [aR (10, a, 0), c1, c2, c3] (mem S)) (fun v M2 => go X m nx la (psh v st) M2) else none := by
  by_cases h2 : cs st ≤ 8
  · rw [if_pos h2]
    exact x_k4 (gk_10 (S := S) ha) h2
  · rw [if_neg h2]
    unfold kK
    rw [if_neg (by simp [cok, h2])]
theorem x_k4_20 {X : aX} {m m2 nx : Nat} {la : aLs} {st : List aV} {S : aS}  {c1 c2 c3 : aV}  : kK X m m2 4 nx 7 la (c3 :: c2 :: c1 :: aR (20, 0, 0) :: st) (mem S) = if cs st ≤ 8 then bnd (cl X m2 [aR (20, 0, 0), c1, c2, c3] (mem S)) (fun v M2 => go X m nx la (psh v st) M2) else none := by
  by_cases h2 : cs st ≤ 8
  · rw [if_pos h2]
    exact x_k4 (gk_20 (S := S) ) h2
  · rw [if_neg h2]
    unfold kK
    rw [if_neg (by simp [cok, h2])]
theorem x_k4_T {X : aX} {m m2 nx : Nat} {la : aLs} {st : List aV} {M : aM} {w : Nat} {c1 c2 c3 : aV} (hw : w < 14) : kK X m m2 4 nx 100 la (c3 :: c2 :: c1 :: aR (80, w, 0) :: st) M = if cs st ≤ 8 then bnd (cl X m2 [aR (80, w, 0), c1, c2, c3] M) (fun v M2 => go X m nx la (psh v st) M2) else none := by
  by_cases h2 : cs st ≤ 8
  · rw [if_pos h2]
    exact x_k4 (by show txo (80, w, 0) = true; simp [txo, hw]) h2
  · rw [if_neg h2]
    unfold kK
    rw [if_neg (by simp [cok, h2])]
theorem x_k5_s {X : aX} {m m2 nx : Nat} {la : aLs} {st : List aV} {M : aM} {b0 b1 b2 b3 b4 : aV} : kK X m m2 5 nx 0 la (b4 :: b3 :: b2 :: b1 :: b0 :: st) M = if cs st ≤ 8 then bnd (cl X m2 [b0, b1, b2, b3, b4] M) (fun v M2 => go X m nx la (psh v st) M2) else none := by
  by_cases h2 : cs st ≤ 8
  · rw [if_pos h2, x_k5 rfl h2]
  · rw [if_neg h2]
    unfold kK
    rw [if_neg (by simp [cok, h2])]
theorem x_k5_0 {X : aX} {m m2 nx : Nat} {la : aLs} {st : List aV} {S : aS}  {c1 c2 c3 c4 : aV}  : kK X m m2 5 nx 6 la (c4 :: c3 :: c2 :: c1 :: aR (0, 0, 0) :: st) (mem S) = if cs st ≤ 8 then bnd (cl X m2 [aR (0, 0, 0), c1, c2, c3, c4] (mem S)) (fun v M2 => go X m nx la (psh v st) M2) else none := by
  by_cases h2 : cs st ≤ 8
  · rw [if_pos h2]
    exact x_k5 (gk_0 (S := S) ) h2
  · rw [if_neg h2]
    unfold kK
    rw [if_neg (by simp [cok, h2])]
theorem x_k5_1 {X : aX} {m m2 nx : Nat} {la : aLs} {st : List aV} {S : aS} {a : Nat} {c1 c2 c3 c4 : aV} (ha : a < 3) : kK X m m2 5 nx 4 la (c4 :: c3 :: c2 :: c1 :: aR (1, a, 0) :: st) (mem S) = if cs st ≤ 8 then bnd (cl X m2 [aR (1, a, 0), c1, c2, c3, c4] (mem S)) (fun v M2 => go X m nx la (psh v st) M2) else none := by
  by_cases h2 : cs st ≤ 8
  · rw [if_pos h2]
    exact x_k5 (gk_1 (S := S) ha) h2
  · rw [if_neg h2]
    unfold kK
    rw [if_neg (by simp [cok, h2])]
theorem x_k5_4 {X : aX} {m m2 nx : Nat} {la : aLs} {st : List aV} {S : aS} {a b : Nat} {c1 c2 c3 c4 : aV} (ha : a < 3) (hb : b < 8) : kK X m m2 5 nx 3 la (c4 :: c3 :: c2 :: c1 :: aR (4, a, b) :: st) (mem S) = if cs st ≤ 8 then bnd (cl X m2 [aR (4, a, b), c1, c2, c3, c4] (mem S)) (fun v M2 => go X m nx la (psh v st) M2) else none := by
  by_cases h2 : cs st ≤ 8
  · rw [if_pos h2]
    exact x_k5 (gk_4 (S := S) ha hb) h2
  · rw [if_neg h2]
    unfold kK
    rw [if_neg (by simp [cok, h2])]
theorem x_k5_6 {X : aX} {m m2 nx : Nat} {la : aLs} {st : List aV} {S : aS}  {c1 c2 c3 c4 : aV}  : kK X m m2 5 nx 1 la (c4 :: c3 :: c2 :: c1 :: aR (6, 0, 0) :: st) (mem S) = if cs st ≤ 8 then bnd (cl X m2 [aR (6, 0, 0), c1, c2, c3, c4] (mem S)) (fun v M2 => go X m nx la (psh v st) M2) else none := by
  by_cases h2 : cs st ≤ 8
  · rw [if_pos h2]
    exact x_k5 (gk_6 (S := S) ) h2
  · rw [if_neg h2]
    unfold kK
    rw [if_neg (by simp [cok, h2])]
theorem x_k5_7 {X : aX} {m m2 nx : Nat} {la : aLs} {st : List aV} {S : aS}  {c1 c2 c3 c4 : aV}  : kK X m m2 5 nx 5 la (c4 :: c3 :: c2 :: c1 :: aR (7, 0, 0) :: st) (mem S) = if cs st ≤ 8 then bnd (cl X m2 [aR (7, 0, 0), c1, c2, c3, c4] (mem S)) (fun v M2 => go X m nx la (psh v st) M2) else none := by
  by_cases h2 : cs st ≤ 8
  · rw [if_pos h2]
    exact x_k5 (gk_7 (S := S) ) h2
  · rw [if_neg h2]
    unfold kK
    rw [if_neg (by simp [cok, h2])]
theorem x_k5_10 {X : aX} {m m2 nx : Nat} {la : aLs} {st : List aV} {S : aS} {a : Nat} {c1 c2 c3 c4 : aV} (ha : a < 4) : kK X m m2 5 nx 2 la (c4 :: c3 :: c2 :: c1 :: aR (10, a, 0) :: st) (mem S) = if cs st ≤ 8 then bnd (cl X m2 [aR (10, a, 0), c1, c2, c3, c4] (mem S)) (fun v M2 => go X m nx la (psh v st) M2) else none := by
  by_cases h2 : cs st ≤ 8
  · rw [if_pos h2]
    exact x_k5 (gk_10 (S := S) ha) h2
  · rw [if_neg h2]
    unfold kK
    rw [if_neg (by simp [cok, h2])]
theorem x_k5_20 {X : aX} {m m2 nx : Nat} {la : aLs} {st : List aV} {S : aS}  {c1 c2 c3 c4 : aV}  : kK X m m2 5 nx 7 la (c4 :: c3 :: c2 :: c1 :: aR (20, 0, 0) :: st) (mem S) = if cs st ≤ 8 then bnd (cl X m2 [aR (20, 0, 0), c1, c2, c3, c4] (mem S)) (fun v M2 => go X m nx la (psh v st) M2) else none := by
  by_cases h2 : cs st ≤ 8
  · rw [if_pos h2]
    exact x_k5 (gk_20 (S := S) ) h2
  · rw [if_neg h2]
    unfold kK
    rw [if_neg (by simp [cok, h2])]
theorem x_k5_T {X : aX} {m m2 nx : Nat} {la : aLs} {st : List aV} {M : aM} {w : Nat} {c1 c2 c3 c4 : aV} (hw : w < 14) : kK X m m2 5 nx 100 la (c4 :: c3 :: c2 :: c1 :: aR (80, w, 0) :: st) M = if cs st ≤ 8 then bnd (cl X m2 [aR (80, w, 0), c1, c2, c3, c4] M) (fun v M2 => go X m nx la (psh v st) M2) else none := by
  by_cases h2 : cs st ≤ 8
  · rw [if_pos h2]
    exact x_k5 (by show txo (80, w, 0) = true; simp [txo, hw]) h2
  · rw [if_neg h2]
    unfold kK
    rw [if_neg (by simp [cok, h2])]
theorem x_k6_s {X : aX} {m m2 nx : Nat} {la : aLs} {st : List aV} {M : aM} {b0 b1 b2 b3 b4 b5 : aV} : kK X m m2 6 nx 0 la (b5 :: b4 :: b3 :: b2 :: b1 :: b0 :: st) M = if cs st ≤ 8 then bnd (cl X m2 [b0, b1, b2, b3, b4, b5] M) (fun v M2 => go X m nx la (psh v st) M2) else none := by
  by_cases h2 : cs st ≤ 8
  · rw [if_pos h2, x_k6 rfl h2]
  · rw [if_neg h2]
    unfold kK
    rw [if_neg (by simp [cok, h2])]
theorem x_k6_0 {X : aX} {m m2 nx : Nat} {la : aLs} {st : List aV} {S : aS}  {c1 c2 c3 c4 c5 : aV}  : kK X m m2 6 nx 6 la (c5 :: c4 :: c3 :: c2 :: c1 :: aR (0, 0, 0) :: st) (mem S) = if cs st ≤ 8 then bnd (cl X m2 [aR (0, 0, 0), c1, c2, c3, c4, c5] (mem S)) (fun v M2 => go X m nx la (psh v st) M2) else none := by
  by_cases h2 : cs st ≤ 8
  · rw [if_pos h2]
    exact x_k6 (gk_0 (S := S) ) h2
  · rw [if_neg h2]
    unfold kK
    rw [if_neg (by simp [cok, h2])]
theorem x_k6_1 {X : aX} {m m2 nx : Nat} {la : aLs} {st : List aV} {S : aS} {a : Nat} {c1 c2 c3 c4 c5 : aV} (ha : a < 3) : kK X m m2 6 nx 4 la (c5 :: c4 :: c3 :: c2 :: c1 :: aR (1, a, 0) :: st) (mem S) = if cs st ≤ 8 then bnd (cl X m2 [aR (1, a, 0), c1, c2, c3, c4, c5] (mem S)) (fun v M2 => go X m nx la (psh v st) M2) else none := by
  by_cases h2 : cs st ≤ 8
  · rw [if_pos h2]
    exact x_k6 (gk_1 (S := S) ha) h2
  · rw [if_neg h2]
    unfold kK
    rw [if_neg (by simp [cok, h2])]
theorem x_k6_4 {X : aX} {m m2 nx : Nat} {la : aLs} {st : List aV} {S : aS} {a b : Nat} {c1 c2 c3 c4 c5 : aV} (ha : a < 3) (hb : b < 8) : kK X m m2 6 nx 3 la (c5 :: c4 :: c3 :: c2 :: c1 :: aR (4, a, b) :: st) (mem S) = if cs st ≤ 8 then bnd (cl X m2 [aR (4, a, b), c1, c2, c3, c4, c5] (mem S)) (fun v M2 => go X m nx la (psh v st) M2) else none := by
  by_cases h2 : cs st ≤ 8
  · rw [if_pos h2]
    exact x_k6 (gk_4 (S := S) ha hb) h2
  · rw [if_neg h2]
    unfold kK
    rw [if_neg (by simp [cok, h2])]
theorem x_k6_6 {X : aX} {m m2 nx : Nat} {la : aLs} {st : List aV} {S : aS}  {c1 c2 c3 c4 c5 : aV}  : kK X m m2 6 nx 1 la (c5 :: c4 :: c3 :: c2 :: c1 :: aR (6, 0, 0) :: st) (mem S) = if cs st ≤ 8 then bnd (cl X m2 [aR (6, 0, 0), c1, c2, c3, c4, c5] (mem S)) (fun v M2 => go X m nx la (psh v st) M2) else none := by
  by_cases h2 : cs st ≤ 8
  · rw [if_pos h2]
    exact x_k6 (gk_6 (S := S) ) h2
  · rw [if_neg h2]
    unfold kK
    rw [if_neg (by simp [cok, h2])]
theorem x_k6_7 {X : aX} {m m2 nx : Nat} {la : aLs} {st : List aV} {S : aS}  {c1 c2 c3 c4 c5 : aV}  : kK X m m2 6 nx 5 la (c5 :: c4 :: c3 :: c2 :: c1 :: aR (7, 0, 0) :: st) (mem S) = if cs st ≤ 8 then bnd (cl X m2 [aR (7, 0, 0), c1, c2, c3, c4, c5] (mem S)) (fun v M2 => go X m nx la (psh v st) M2) else none := by
  by_cases h2 : cs st ≤ 8
  · rw [if_pos h2]
    exact x_k6 (gk_7 (S := S) ) h2
  · rw [if_neg h2]
    unfold kK
    rw [if_neg (by simp [cok, h2])]
theorem x_k6_10 {X : aX} {m m2 nx : Nat} {la : aLs} {st : List aV} {S : aS} {a : Nat} {c1 c2 c3 c4 c5 : aV} (ha : a < 4) : kK X m m2 6 nx 2 la (c5 :: c4 :: c3 :: c2 :: c1 :: aR (10, a, 0) :: st) (mem S) = if cs st ≤ 8 then bnd (cl X m2 [aR (10, a, 0), c1, c2, c3, c4, c5] (mem S)) (fun v M2 => go X m nx la (psh v st) M2) else none := by
  by_cases h2 : cs st ≤ 8
  · rw [if_pos h2]
    exact x_k6 (gk_10 (S := S) ha) h2
  · rw [if_neg h2]
    unfold kK
    rw [if_neg (by simp [cok, h2])]
theorem x_k6_20 {X : aX} {m m2 nx : Nat} {la : aLs} {st : List aV} {S : aS}  {c1 c2 c3 c4 c5 : aV}  : kK X m m2 6 nx 7 la (c5 :: c4 :: c3 :: c2 :: c1 :: aR (20, 0, 0) :: st) (mem S) = if cs st ≤ 8 then bnd (cl X m2 [aR (20, 0, 0), c1, c2, c3, c4, c5] (mem S)) (fun v M2 => go X m nx la (psh v st) M2) else none := by
  by_cases h2 : cs st ≤ 8
  · rw [if_pos h2]
    exact x_k6 (gk_20 (S := S) ) h2
  · rw [if_neg h2]
    unfold kK
    rw [if_neg (by simp [cok, h2])]
theorem x_k6_T {X : aX} {m m2 nx : Nat} {la : aLs} {st : List aV} {M : aM} {w : Nat} {c1 c2 c3 c4 c5 : aV} (hw : w < 14) : kK X m m2 6 nx 100 la (c5 :: c4 :: c3 :: c2 :: c1 :: aR (80, w, 0) :: st) M = if cs st ≤ 8 then bnd (cl X m2 [aR (80, w, 0), c1, c2, c3, c4, c5] M) (fun v M2 => go X m nx la (psh v st) M2) else none := by
  by_cases h2 : cs st ≤ 8
  · rw [if_pos h2]
    exact x_k6 (by show txo (80, w, 0) = true; simp [txo, hw]) h2
  · rw [if_neg h2]
    unfold kK
    rw [if_neg (by simp [cok, h2])]
theorem x_k7_s {X : aX} {m m2 nx : Nat} {la : aLs} {st : List aV} {M : aM} {b0 b1 b2 b3 b4 b5 b6 : aV} : kK X m m2 7 nx 0 la (b6 :: b5 :: b4 :: b3 :: b2 :: b1 :: b0 :: st) M = if cs st ≤ 8 then bnd (cl X m2 [b0, b1, b2, b3, b4, b5, b6] M) (fun v M2 => go X m nx la (psh v st) M2) else none := by
  by_cases h2 : cs st ≤ 8
  · rw [if_pos h2, x_k7 rfl h2]
  · rw [if_neg h2]
    unfold kK
    rw [if_neg (by simp [cok, h2])]
theorem x_k7_0 {X : aX} {m m2 nx : Nat} {la : aLs} {st : List aV} {S : aS}  {c1 c2 c3 c4 c5 c6 : aV}  : kK X m m2 7 nx 6 la (c6 :: c5 :: c4 :: c3 :: c2 :: c1 :: aR (0, 0, 0) :: st) (mem S) = if cs st ≤ 8 then bnd (cl X m2 [aR (0, 0, 0), c1, c2, c3, c4, c5, c6] (mem S)) (fun v M2 => go X m nx la (psh v st) M2) else none := by
  by_cases h2 : cs st ≤ 8
  · rw [if_pos h2]
    exact x_k7 (gk_0 (S := S) ) h2
  · rw [if_neg h2]
    unfold kK
    rw [if_neg (by simp [cok, h2])]
theorem x_k7_1 {X : aX} {m m2 nx : Nat} {la : aLs} {st : List aV} {S : aS} {a : Nat} {c1 c2 c3 c4 c5 c6 : aV} (ha : a < 3) : kK X m m2 7 nx 4 la (c6 :: c5 :: c4 :: c3 :: c2 :: c1 :: aR (1, a, 0) :: st) (mem S) = if cs st ≤ 8 then bnd (cl X m2 [aR (1, a, 0), c1, c2, c3, c4, c5, c6] (mem S)) (fun v M2 => go X m nx la (psh v st) M2) else none := by
  by_cases h2 : cs st ≤ 8
  · rw [if_pos h2]
    exact x_k7 (gk_1 (S := S) ha) h2
  · rw [if_neg h2]
    unfold kK
    rw [if_neg (by simp [cok, h2])]
theorem x_k7_4 {X : aX} {m m2 nx : Nat} {la : aLs} {st : List aV} {S : aS} {a b : Nat} {c1 c2 c3 c4 c5 c6 : aV} (ha : a < 3) (hb : b < 8) : kK X m m2 7 nx 3 la (c6 :: c5 :: c4 :: c3 :: c2 :: c1 :: aR (4, a, b) :: st) (mem S) = if cs st ≤ 8 then bnd (cl X m2 [aR (4, a, b), c1, c2, c3, c4, c5, c6] (mem S)) (fun v M2 => go X m nx la (psh v st) M2) else none := by
  by_cases h2 : cs st ≤ 8
  · rw [if_pos h2]
    exact x_k7 (gk_4 (S := S) ha hb) h2
  · rw [if_neg h2]
    unfold kK
    rw [if_neg (by simp [cok, h2])]
theorem x_k7_6 {X : aX} {m m2 nx : Nat} {la : aLs} {st : List aV} {S : aS}  {c1 c2 c3 c4 c5 c6 : aV}  : kK X m m2 7 nx 1 la (c6 :: c5 :: c4 :: c3 :: c2 :: c1 :: aR (6, 0, 0) :: st) (mem S) = if cs st ≤ 8 then bnd (cl X m2 [aR (6, 0, 0), c1, c2, c3, c4, c5, c6] (mem S)) (fun v M2 => go X m nx la (psh v st) M2) else none := by
  by_cases h2 : cs st ≤ 8
  · rw [if_pos h2]
    exact x_k7 (gk_6 (S := S) ) h2
  · rw [if_neg h2]
    unfold kK
    rw [if_neg (by simp [cok, h2])]
theorem x_k7_7 {X : aX} {m m2 nx : Nat} {la : aLs} {st : List aV} {S : aS}  {c1 c2 c3 c4 c5 c6 : aV}  : kK X m m2 7 nx 5 la (c6 :: c5 :: c4 :: c3 :: c2 :: c1 :: aR (7, 0, 0) :: st) (mem S) = if cs st ≤ 8 then bnd (cl X m2 [aR (7, 0, 0), c1, c2, c3, c4, c5, c6] (mem S)) (fun v M2 => go X m nx la (psh v st) M2) else none := by
  by_cases h2 : cs st ≤ 8
  · rw [if_pos h2]
    exact x_k7 (gk_7 (S := S) ) h2
  · rw [if_neg h2]
    unfold kK
    rw [if_neg (by simp [cok, h2])]
theorem x_k7_10 {X : aX} {m m2 nx : Nat} {la : aLs} {st : List aV} {S : aS} {a : Nat} {c1 c2 c3 c4 c5 c6 : aV} (ha : a < 4) : kK X m m2 7 nx 2 la (c6 :: c5 :: c4 :: c3 :: c2 :: c1 :: aR (10, a, 0) :: st) (mem S) = if cs st ≤ 8 then bnd (cl X m2 [aR (10, a, 0), c1, c2, c3, c4, c5, c6] (mem S)) (fun v M2 => go X m nx la (psh v st) M2) else none := by
  by_cases h2 : cs st ≤ 8
  · rw [if_pos h2]
    exact x_k7 (gk_10 (S := S) ha) h2
  · rw [if_neg h2]
    unfold kK
    rw [if_neg (by simp [cok, h2])]
theorem x_k7_20 {X : aX} {m m2 nx : Nat} {la : aLs} {st : List aV} {S : aS}  {c1 c2 c3 c4 c5 c6 : aV}  : kK X m m2 7 nx 7 la (c6 :: c5 :: c4 :: c3 :: c2 :: c1 :: aR (20, 0, 0) :: st) (mem S) = if cs st ≤ 8 then bnd (cl X m2 [aR (20, 0, 0), c1, c2, c3, c4, c5, c6] (mem S)) (fun v M2 => go X m nx la (psh v st) M2) else none := by
  by_cases h2 : cs st ≤ 8
  · rw [if_pos h2]
    exact x_k7 (gk_20 (S := S) ) h2
  · rw [if_neg h2]
    unfold kK
    rw [if_neg (by simp [cok, h2])]
theorem x_k7_T {X : aX} {m m2 nx : Nat} {la : aLs} {st : List aV} {M : aM} {w : Nat} {c1 c2 c3 c4 c5 c6 : aV} (hw : w < 14) : kK X m m2 7 nx 100 la (c6 :: c5 :: c4 :: c3 :: c2 :: c1 :: aR (80, w, 0) :: st) M = if cs st ≤ 8 then bnd (cl X m2 [aR (80, w, 0), c1, c2, c3, c4, c5, c6] M) (fun v M2 => go X m nx la (psh v st) M2) else none := by
  by_cases h2 : cs st ≤ 8
  · rw [if_pos h2]
    exact x_k7 (by show txo (80, w, 0) = true; simp [txo, hw]) h2
  · rw [if_neg h2]
    unfold kK
    rw [if_neg (by simp [cok, h2])]
