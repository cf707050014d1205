/-! THE ABSTRACT MACHINE: values, cells by name, one function an instruction, runs by fuel and their limit -/
abbrev aL : Type := Nat × Nat × Nat
abbrev aV : Type := Int32 ⊕ Int64 ⊕ Option aL
abbrev aI (x : Int32) : aV := Sum.inl x
abbrev aJ (x : Int64) : aV := Sum.inr (Sum.inl x)
abbrev aR (r : aL) : aV := Sum.inr (Sum.inr (some r))
abbrev aN : aV := Sum.inr (Sum.inr none)
abbrev aM : Type := Nat × (aL → Nat → aV)
abbrev aLs : Type := List (Option aV)
abbrev aC : Type := Nat × aLs × List aV × aM
abbrev aX : Type := Nat × (Nat → Int32)
abbrev aO : Type := Option (Option aV × aM)
abbrev cT : Type := aLs → List aV → aM → Option aC
abbrev rT : Type := List aV → aM → aO
abbrev kT : Type := Nat × Nat × Nat × Nat
abbrev aT : Type := cT ⊕ kT ⊕ rT
/-- what a cell is, by its name: (0, which object), (1, n): n ints, (2, n): n singers, (3, n): n sheets, (4, n): n texts -/
def shL : List (Nat × Nat) := [(0, 5), (0, 3), (2, 8), (1, 10), (0, 2), (1, 10), (0, 0), (0, 4), (1, 120), (3, 4), (0, 1), (1, 40), (1, 7), (9, 0), (9, 0), (9, 0), (9, 0), (9, 0), (9, 0), (9, 0), (0, 6), (1, 94), (1, 94), (1, 94), (1, 8), (1, 8), (1, 120), (4, 7), (1, 720), (1, 4), (1, 4), (1, 160), (1, 40)]
def shp (r : aL) : Nat × Nat := shL.getD r.1 (9, 0)
def ixL : List (Nat × Nat × Nat) := [(0, 0, 0), (1, 19, 0), (2, 19, 0), (3, 19, 0), (4, 19, 2), (5, 19, 2), (58, 0, 0), (59, 0, 0), (60, 0, 0), (61, 0, 0), (63, 2, 0), (64, 2, 0), (62, 0, 0), (1000, 0, 0), (1000, 0, 0), (1000, 0, 0), (1000, 0, 0), (1000, 0, 0), (1000, 0, 0), (1000, 0, 0), (71, 0, 0), (72, 0, 0), (73, 0, 0), (74, 0, 0), (75, 0, 0), (76, 0, 0), (77, 0, 0), (78, 0, 0), (79, 0, 0), (80, 0, 0), (81, 0, 0), (82, 0, 0), (83, 0, 0)]
/-- the how many-th cell it is -/
def idx (r : aL) : Nat := match ixL.getD r.1 (1000, 0, 0) with
  | (c, p, q) => c + p * r.2.1 + q * r.2.2
/-- the cells in the order in which they are made -/
def nmL : List aL := [(0, 0, 0), (1, 0, 0), (2, 0, 0), (3, 0, 0), (4, 0, 0), (5, 0, 0), (4, 0, 1), (5, 0, 1), (4, 0, 2), (5, 0, 2), (4, 0, 3), (5, 0, 3), (4, 0, 4), (5, 0, 4), (4, 0, 5), (5, 0, 5), (4, 0, 6), (5, 0, 6), (4, 0, 7), (5, 0, 7), (1, 1, 0), (2, 1, 0), (3, 1, 0), (4, 1, 0), (5, 1, 0), (4, 1, 1), (5, 1, 1), (4, 1, 2), (5, 1, 2), (4, 1, 3), (5, 1, 3), (4, 1, 4), (5, 1, 4), (4, 1, 5), (5, 1, 5), (4, 1, 6), (5, 1, 6), (4, 1, 7), (5, 1, 7), (1, 2, 0), (2, 2, 0), (3, 2, 0), (4, 2, 0), (5, 2, 0), (4, 2, 1), (5, 2, 1), (4, 2, 2), (5, 2, 2), (4, 2, 3), (5, 2, 3), (4, 2, 4), (5, 2, 4), (4, 2, 5), (5, 2, 5), (4, 2, 6), (5, 2, 6), (4, 2, 7), (5, 2, 7), (6, 0, 0), (7, 0, 0), (8, 0, 0), (9, 0, 0), (12, 0, 0), (10, 0, 0), (11, 0, 0), (10, 1, 0), (11, 1, 0), (10, 2, 0), (11, 2, 0), (10, 3, 0), (11, 3, 0), (20, 0, 0), (21, 0, 0), (22, 0, 0), (23, 0, 0), (24, 0, 0), (25, 0, 0), (26, 0, 0), (27, 0, 0), (28, 0, 0), (29, 0, 0), (30, 0, 0), (31, 0, 0), (32, 0, 0)]
def nm (i : Nat) : aL := nmL.getD i (99, 0, 0)
def vld (M : aM) (r : aL) : Bool := decide (nm (idx r) = r) && decide (idx r < M.1)
/-- how many fields an object has, and of which sort each is: 0 a number, 1 a truth, 2 a reference -/
def ftL : List (List Nat) := [[2], [2, 0, 0], [2, 1], [2, 2, 0, 0, 0, 0], [2, 0, 0, 0, 0, 0], [2, 2, 2, 2, 2, 2, 1], [2, 2, 2, 1, 2, 2, 0, 2, 0, 0, 0, 0, 0, 1, 2, 2, 0, 0, 2, 2, 2, 2]]
def nfL : List Nat := [1, 3, 2, 6, 6, 7, 22]
def slz (i : Nat) : Nat := match shp (nm i) with
  | (0, c) => nfL.getD c 0
  | (_, n) => n
def slS : Nat → Nat
  | 0 => 0
  | n + 1 => slS n + slz n
def dfl (r : aL) (k : Nat) : aV := match shp r with
  | (0, c) => if (ftL.getD c []).getD k 0 = 2 then aN else aI 0
  | (1, _) => aI 0
  | _ => aN
/-- the texts; the arrays of constants -/
def txL : List (List Int32) := [[115, 105, 110, 103, 101, 114], [115, 105, 115, 116, 101, 114], [99, 97, 98, 109, 97, 110], [101, 108, 100, 101, 114], [108, 97, 115, 116], [99, 104, 105, 108, 100], [99, 97, 114, 111, 108, 108, 101, 114], [98, 101, 103, 105, 110, 115], [97, 110, 115, 119, 101, 114, 115], [118, 111, 105, 99, 101], [97, 103, 101, 100], [112, 97, 114, 116], [100, 101, 97, 100], [115, 105, 110, 103, 115]]
def stA : List (List Int32) := [[0, 0, -1, 60, 30, 3, 0, 0, 0, 0], [0, 0, -1, 0, 0, 1, 0, 0, 0, 0], [6, 59, 7, 99, 120, 9, 1, 99, 99, 9999], [-1, 0, 0, 1, 3, 0, 2]]
def iv (v : aV) : Int32 := match v with
  | .inl x => x
  | _ => 0
def inb (j : Int32) (n : Nat) : Bool := decide (0 ≤ j.toInt) && decide (j.toInt < n)
def cln (X : aX) (r : aL) : Option Nat := if r.1 = 82 ∧ r.2.1 < 4 ∧ r.2.2 = 0 then some (stA.getD r.2.1 []).length else if r = (90, 0, 0) then some X.1 else none
def cin (X : aX) (r : aL) (j : Nat) : Int32 := if r.1 = 82 then (stA.getD r.2.1 []).getD j 0 else X.2 j
def aln (X : aX) (M : aM) (r : aL) : Option Nat := if r.1 < 80 then (if vld M r && (shp r).1 == 1 then some (shp r).2 else none) else cln X r
def ard (X : aX) (M : aM) (r : aL) (j : Nat) : Int32 := if r.1 < 80 then iv (M.2 r j) else cin X r j
def gok (M : aM) (r : aL) (c : Nat) : Bool := decide (r.1 < 80) && vld M r && decide (shp r = (0, c))
def txo (r : aL) : Bool := decide (r.1 = 80) && decide (r.2.1 < 14) && decide (r.2.2 = 0)
def wr (M : aM) (r : aL) (k : Nat) (v : aV) : aM := (M.1, fun r' k' => if r' = r ∧ k' = k then v else M.2 r' k')
def alc (M : aM) : aM := (M.1 + 1, fun r k => if r = nm M.1 then dfl r k else M.2 r k)
def ac (v : aV) : Nat := match v with
  | .inr (.inl _) => 2
  | _ => 1
def cs : List aV → Nat
  | [] => 0
  | v :: r => ac v + cs r
def clr (la : aLs) (i : Nat) : aLs := match i with
  | 0 => la
  | j + 1 => match la[j]? with
    | some (some (.inr (.inl _))) => la.set j none
    | _ => la
def stL (la : aLs) (i : Nat) (v : aV) : aLs := (clr la i).set i (some v)
def stJ (la : aLs) (i : Nat) (v : aV) : aLs := ((clr la i).set i (some v)).set (i + 1) none
def ent : Nat → List aV → aLs
  | n, [] => List.replicate n none
  | n, v :: r => match v with
    | .inr (.inl x) => some (.inr (.inl x)) :: none :: ent (n - 2) r
    | w => some w :: ent (n - 1) r
def psh (v : Option aV) (st : List aV) : List aV := match v with
  | some v => v :: st
  | none => st
-- one function an instruction
def i_ldi (i nx : Nat) : cT := fun la st M => match la[i]? with
  | some (some (.inl x)) => some (nx, la, aI x :: st, M)
  | _ => none
def i_lda (i nx : Nat) : cT := fun la st M => match la[i]? with
  | some (some (.inr (.inr (some r)))) => if r.1 < 95 then some (nx, la, aR r :: st, M) else none
  | _ => none
def i_ldj (i nx : Nat) : cT := fun la st M => match la[i]? with
  | some (some (.inr (.inl x))) => some (nx, la, aJ x :: st, M)
  | _ => none
def i_sti (i nx : Nat) : cT := fun la st M => match st with
  | .inl x :: rest => if i < la.length then some (nx, stL la i (aI x), rest, M) else none
  | _ => none
def i_sta (i nx : Nat) : cT := fun la st M => match st with
  | .inr (.inr (some r)) :: rest => if i < la.length ∧ r.1 < 95 then some (nx, stL la i (aR r), rest, M) else none
  | _ => none
def i_stj (i nx : Nat) : cT := fun la st M => match st with
  | .inr (.inl x) :: rest => if i + 1 < la.length then some (nx, stJ la i (aJ x), rest, M) else none
  | _ => none
def i_inc (i : Nat) (n : Int32) (nx : Nat) : cT := fun la st M => match la[i]? with
  | some (some (.inl x)) => some (nx, stL la i (aI (x + n)), st, M)
  | _ => none
def i_ci (v : Int32) (nx : Nat) : cT := fun la st M => some (nx, la, aI v :: st, M)
def i_cj (v : Int64) (nx : Nat) : cT := fun la st M => some (nx, la, aJ v :: st, M)
def i_ca (v : aV) (nx : Nat) : cT := fun la st M => some (nx, la, v :: st, M)
def i_bin (f : Int32 → Int32 → Int32) (nx : Nat) : cT := fun la st M => match st with
  | .inl y :: .inl x :: rest => some (nx, la, aI (f x y) :: rest, M)
  | _ => none
def i_div (f : Int32 → Int32 → Int32) (nx : Nat) : cT := fun la st M => match st with
  | .inl y :: .inl x :: rest => if y = 0 then none else some (nx, la, aI (f x y) :: rest, M)
  | _ => none
def i_bnj (f : Int64 → Int64 → Int64) (nx : Nat) : cT := fun la st M => match st with
  | .inr (.inl y) :: .inr (.inl x) :: rest => some (nx, la, aJ (f x y) :: rest, M)
  | _ => none
def i_shj (f : Int64 → Int32 → Int64) (nx : Nat) : cT := fun la st M => match st with
  | .inl y :: .inr (.inl x) :: rest => some (nx, la, aJ (f x y) :: rest, M)
  | _ => none
def i_un (f : Int32 → Int32) (nx : Nat) : cT := fun la st M => match st with
  | .inl x :: rest => some (nx, la, aI (f x) :: rest, M)
  | _ => none
def i_i2l (nx : Nat) : cT := fun la st M => match st with
  | .inl x :: rest => some (nx, la, aJ x.toInt64 :: rest, M)
  | _ => none
def i_l2i (nx : Nat) : cT := fun la st M => match st with
  | .inr (.inl x) :: rest => some (nx, la, aI x.toInt32 :: rest, M)
  | _ => none
def i_lcm (nx : Nat) : cT := fun la st M => match st with
  | .inr (.inl y) :: .inr (.inl x) :: rest => some (nx, la, aI (lg_cmp x y) :: rest, M)
  | _ => none
def i_dup (nx : Nat) : cT := fun la st M => match st with
  | v :: rest => if ac v = 1 then some (nx, la, v :: v :: rest, M) else none
  | _ => none
def i_dp2 (nx : Nat) : cT := fun la st M => match st with
  | v :: w :: rest => if ac v = 1 ∧ ac w = 1 then some (nx, la, v :: w :: v :: w :: rest, M) else none
  | _ => none
def i_pop (nx : Nat) : cT := fun la st M => match st with
  | v :: rest => if ac v = 1 then some (nx, la, rest, M) else none
  | _ => none
def i_ife (t nx : Nat) : cT := fun la st M => match st with
  | .inl x :: rest => if x = 0 then some (t, la, rest, M) else some (nx, la, rest, M)
  | _ => none
def i_ifl (t nx : Nat) : cT := fun la st M => match st with
  | .inl x :: rest => if x < 0 then some (t, la, rest, M) else some (nx, la, rest, M)
  | _ => none
def i_ifg (t nx : Nat) : cT := fun la st M => match st with
  | .inl x :: rest => if 0 < x then some (t, la, rest, M) else some (nx, la, rest, M)
  | _ => none
def i_cme (t nx : Nat) : cT := fun la st M => match st with
  | .inl y :: .inl x :: rest => if x = y then some (t, la, rest, M) else some (nx, la, rest, M)
  | _ => none
def i_cml (t nx : Nat) : cT := fun la st M => match st with
  | .inl y :: .inl x :: rest => if x < y then some (t, la, rest, M) else some (nx, la, rest, M)
  | _ => none
def i_cmg (t nx : Nat) : cT := fun la st M => match st with
  | .inl y :: .inl x :: rest => if y < x then some (t, la, rest, M) else some (nx, la, rest, M)
  | _ => none
def i_go (t : Nat) : cT := fun la st M => some (t, la, st, M)
def swt (tb : List (Int32 × Nat)) (d : Nat) (x : Int32) : Nat := match tb with
  | [] => d
  | q :: r => if x = q.1 then q.2 else swt r d x
def i_sw (tb : List (Int32 × Nat)) (d : Nat) : cT := fun la st M => match st with
  | .inl x :: rest => some (swt tb d x, la, rest, M)
  | _ => none
def i_get (c k nx : Nat) : cT := fun la st M => match st with
  | .inr (.inr (some r)) :: rest => if gok M r c then some (nx, la, M.2 r k :: rest, M) else none
  | _ => none
def pok (ty : Nat) (v : aV) : Bool := match v with
  | .inl x => ty == 0 || (ty == 1 && (decide (x = 0) || decide (x = 1)))
  | .inr (.inr (some r)) => ty == 2 && decide (r.1 < 80)
  | _ => false
def i_put (c k ty nx : Nat) : cT := fun la st M => match st with
  | v :: .inr (.inr (some r)) :: rest => if gok M r c && pok ty v then some (nx, la, rest, wr M r k v) else none
  | _ => none
def i_gsv (nx : Nat) : cT := fun la st M => match st with
  | .inr (.inr (some r)) :: rest => if txo r then some (nx, la, aR (81, r.2.1, 0) :: rest, M) else none
  | _ => none
def i_gsc (nx : Nat) : cT := fun la st M => match st with
  | .inr (.inr (some r)) :: rest => if txo r then some (nx, la, aI 0 :: rest, M) else none
  | _ => none
def i_ial (X : aX) (nx : Nat) : cT := fun la st M => match st with
  | .inl j :: .inr (.inr (some r)) :: rest => match aln X M r with
    | some n => if inb j n then some (nx, la, aI (ard X M r j.toNatClampNeg) :: rest, M) else none
    | none => none
  | _ => none
def i_ias (nx : Nat) : cT := fun la st M => match st with
  | .inl x :: .inl j :: .inr (.inr (some r)) :: rest => if decide (r.1 < 80) && vld M r && (shp r).1 == 1 && inb j (shp r).2 then some (nx, la, rest, wr M r j.toNatClampNeg (aI x)) else none
  | _ => none
def rko (r : aL) : Bool := (shp r).1 == 2 || (shp r).1 == 3 || (shp r).1 == 4
def i_aal (nx : Nat) : cT := fun la st M => match st with
  | .inl j :: .inr (.inr (some r)) :: rest => if decide (r.1 < 80) && vld M r && rko r && inb j (shp r).2 then (match M.2 r j.toNatClampNeg with
      | .inr (.inr (some q)) => if q.1 < 90 then some (nx, la, aR q :: rest, M) else none
      | _ => none) else none
  | _ => none
def aso (M : aM) (r q : aL) : Bool := ((shp r).1 == 2 && gok M q 2) || ((shp r).1 == 3 && gok M q 1) || ((shp r).1 == 4 && txo q)
def i_aas (nx : Nat) : cT := fun la st M => match st with
  | .inr (.inr (some q)) :: .inl j :: .inr (.inr (some r)) :: rest => if decide (r.1 < 80) && vld M r && aso M r q && inb j (shp r).2 then some (nx, la, rest, wr M r j.toNatClampNeg (aR q)) else none
  | _ => none
def i_bal (nx : Nat) : cT := fun la st M => match st with
  | .inl j :: .inr (.inr (some r)) :: rest => if r.1 = 81 ∧ r.2.1 < 14 ∧ r.2.2 = 0 ∧ inb j (txL.getD r.2.1 []).length = true then some (nx, la, aI ((txL.getD r.2.1 []).getD j.toNatClampNeg 0) :: rest, M) else none
  | _ => none
def i_aln (X : aX) (nx : Nat) : cT := fun la st M => match st with
  | .inr (.inr (some r)) :: rest => if r.1 < 80 then (if vld M r && decide (1 ≤ (shp r).1 ∧ (shp r).1 ≤ 4) then some (nx, la, aI (nI (shp r).2) :: rest, M) else none)
      else if r.1 = 81 ∧ r.2.1 < 14 ∧ r.2.2 = 0 then some (nx, la, aI (nI (txL.getD r.2.1 []).length) :: rest, M)
      else match cln X r with
        | some n => some (nx, la, aI (nI n) :: rest, M)
        | none => none
  | _ => none
def i_new (c nx : Nat) : cT := fun la st M => if shp (nm M.1) = (0, c) then some (nx, la, aR (nm M.1) :: st, alc M) else none
def i_nwa (nx : Nat) : cT := fun la st M => match st with
  | .inl x :: rest => if ¬ x < 0 ∧ shp (nm M.1) = (1, x.toNatClampNeg) then some (nx, la, aR (nm M.1) :: rest, alc M) else none
  | _ => none
def i_nwq (kd nx : Nat) : cT := fun la st M => match st with
  | .inl x :: rest => if ¬ x < 0 ∧ shp (nm M.1) = (kd, x.toNatClampNeg) ∧ kd < 9 then some (nx, la, aR (nm M.1) :: rest, alc M) else none
  | _ => none
def i_oin (nx : Nat) : cT := fun la st M => match st with
  | .inr (.inr (some r)) :: rest => if r.1 < 80 ∧ cs rest ≤ 8 then some (nx, la, rest, M) else none
  | _ => none
def i_max (nx : Nat) : cT := fun la st M => match st with
  | .inl y :: .inl x :: rest => if cs rest ≤ 8 then some (nx, la, aI (if x < y then y else x) :: rest, M) else none
  | _ => none
def i_min (nx : Nat) : cT := fun la st M => match st with
  | .inl y :: .inl x :: rest => if cs rest ≤ 8 then some (nx, la, aI (if y < x then y else x) :: rest, M) else none
  | _ => none
def cpM (X : aX) (M : aM) (s : aL) (sp : Nat) (d : aL) (dp n : Nat) : aM := (M.1, fun r k => if r = d ∧ dp ≤ k ∧ k < dp + n then aI (ard X M s (sp + (k - dp))) else M.2 r k)
def i_acp (X : aX) (nx : Nat) : cT := fun la st M => match st with
  | .inl n :: .inl dp :: .inr (.inr (some d)) :: .inl sp :: .inr (.inr (some s)) :: rest => match aln X M s with
    | some n0 => if decide (s.1 < 90) && decide (d.1 < 80) && vld M d && (shp d).1 == 1 && decide (¬ sp < 0) && decide (¬ dp < 0) && decide (¬ n < 0) && decide (sp.toNatClampNeg + n.toNatClampNeg ≤ n0) && decide (dp.toNatClampNeg + n.toNatClampNeg ≤ (shp d).2) && decide (cs rest ≤ 8)
        then some (nx, la, rest, cpM X M s sp.toNatClampNeg d dp.toNatClampNeg n.toNatClampNeg) else none
    | none => none
  | _ => none
def i_irt : rT := fun st M => match st with
  | [.inl x] => some (some (aI x), M)
  | _ => none
def i_zrt : rT := fun st M => match st with
  | [.inl x] => if x = 0 ∨ x = 1 then some (some (aI x), M) else none
  | _ => none
def i_nrt (ty : FieldType) : rT := fun st M => match st with
  | [.inl x] => if narrow ty (.int x) = .int x then some (some (aI x), M) else none
  | _ => none
def i_jrt : rT := fun st M => match st with
  | [.inr (.inl x)] => some (some (aJ x), M)
  | _ => none
def i_art : rT := fun st M => match st with
  | [.inr (.inr (some r))] => if r.1 < 90 then some (some (aR r), M) else none
  | _ => none
def i_vrt : rT := fun st M => match st with
  | [] => some (none, M)
  | _ => none
def i_no : cT := fun _ _ _ => none
def lk (pc : Nat) : List (Nat × aT) → aT
  | [] => .inl i_no
  | q :: r => if q.1 = pc then q.2 else lk pc r
def rco (M : aM) (rc : Nat) (as : List aV) : Bool := match rc with
  | 0 => true
  | c + 1 => match as with
    | .inr (.inr (some r)) :: _ => if c = 99 then txo r else gok M r c
    | _ => false
def cok (M : aM) (rc n : Nat) (st : List aV) : Bool := decide (n ≤ st.length) && rco M rc (st.take n).reverse && decide (cs (st.drop n) ≤ 8)
/-- one step, by a program, how many places a method's own row has, and what runs come to -/
def sF (pg : Nat → Nat → aT) (mx : Nat → Nat) (rec : Nat → Nat → aLs → List aV → aM → aO) (mid pc : Nat) (la : aLs) (st : List aV) (M : aM) : aO := match pg mid pc with
  | .inl f => match f la st M with
    | none => none
    | some (pc', la', st', M') => rec mid pc' la' st' M'
  | .inr (.inl (m2, n, nx, rc)) => if cok M rc n st && decide (cs (st.take n) ≤ mx m2) then (match rec m2 0 (ent (mx m2) (st.take n).reverse) [] M with
      | none => none
      | some (v, M2) => rec mid nx la (psh v (st.drop n)) M2) else none
  | .inr (.inr g) => g st M
def rF (pg : Nat → Nat → aT) (mx : Nat → Nat) : Nat → Nat → Nat → aLs → List aV → aM → aO
  | 0 => fun _ _ _ _ _ => none
  | n + 1 => sF pg mx (rF pg mx n)
theorem sF_mono {pg : Nat → Nat → aT} {mx : Nat → Nat} {f g : Nat → Nat → aLs → List aV → aM → aO} (h : ∀ mid pc la st M r, f mid pc la st M = some r → g mid pc la st M = some r) : ∀ mid pc la st M r, sF pg mx f mid pc la st M = some r → sF pg mx g mid pc la st M = some r := by
  intro mid pc la st M r
  unfold sF
  cases pg mid pc with
  | inl t =>
    cases ht : t la st M with
    | none => intro q; simp [ht] at q
    | some q => obtain ⟨a, b, c, d⟩ := q; intro z; simp only [ht] at z ⊢; exact h _ _ _ _ _ _ z
  | inr t => cases t with
    | inl q =>
      obtain ⟨m2, n, nx, rc⟩ := q
      intro z
      dsimp only at z ⊢
      by_cases hc : (cok M rc n st && decide (cs (st.take n) ≤ mx m2)) = true
      · rw [if_pos hc] at z ⊢
        cases hf : f m2 0 (ent (mx m2) (st.take n).reverse) [] M with
        | none => simp [hf] at z
        | some q =>
          obtain ⟨v, M2⟩ := q
          rw [hf] at z
          rw [h _ _ _ _ _ _ hf]
          exact h _ _ _ _ _ _ z
      · rw [if_neg hc] at z; cases z
    | inr t => exact fun z => z
theorem rF_succ {pg : Nat → Nat → aT} {mx : Nat → Nat} : ∀ n mid pc la st M r, rF pg mx n mid pc la st M = some r → rF pg mx (n + 1) mid pc la st M = some r
  | 0 => fun _ _ _ _ _ _ h => by cases h
  | n + 1 => sF_mono (rF_succ n)
theorem rF_le {pg : Nat → Nat → aT} {mx : Nat → Nat} {n k : Nat} (h : n ≤ k) : ∀ mid pc la st M r, rF pg mx n mid pc la st M = some r → rF pg mx k mid pc la st M = some r := by
  induction h with
  | refl => exact fun _ _ _ _ _ _ q => q
  | step _ ih => exact fun mid pc la st M r q => rF_succ _ _ _ _ _ _ _ (ih _ _ _ _ _ _ q)
theorem rF_det {pg : Nat → Nat → aT} {mx : Nat → Nat} {n k mid pc : Nat} {la : aLs} {st : List aV} {M : aM} {r q : Option aV × aM} (h : rF pg mx n mid pc la st M = some r) (h2 : rF pg mx k mid pc la st M = some q) : r = q := by
  have a := rF_le (Nat.le_max_left n k) _ _ _ _ _ _ h
  have b := rF_le (Nat.le_max_right n k) _ _ _ _ _ _ h2
  rw [a] at b
  exact Option.some.inj b
/-- what a run comes to -/
noncomputable def rn (pg : Nat → Nat → aT) (mx : Nat → Nat) (mid pc : Nat) (la : aLs) (st : List aV) (M : aM) : aO :=
  @dite _ (∃ r, ∃ n, rF pg mx n mid pc la st M = some r) (Classical.propDecidable _) (fun h => some (Classical.choose h)) (fun _ => none)
theorem rn_iff {pg : Nat → Nat → aT} {mx : Nat → Nat} {mid pc : Nat} {la : aLs} {st : List aV} {M : aM} {r : Option aV × aM} : rn pg mx mid pc la st M = some r ↔ ∃ n, rF pg mx n mid pc la st M = some r := by
  unfold rn
  constructor
  · intro h
    split at h
    · rename_i hx
      cases h
      exact Classical.choose_spec hx
    · cases h
  · intro h
    have hx : ∃ r, ∃ n, rF pg mx n mid pc la st M = some r := ⟨r, h⟩
    rw [dif_pos hx]
    obtain ⟨n, hn⟩ := h
    obtain ⟨k, hk⟩ := Classical.choose_spec hx
    exact congrArg some (rF_det hk hn)
theorem rn_eq (pg : Nat → Nat → aT) (mx : Nat → Nat) (mid pc : Nat) (la : aLs) (st : List aV) (M : aM) : rn pg mx mid pc la st M = sF pg mx (rn pg mx) mid pc la st M := by
  have key : ∀ r, rn pg mx mid pc la st M = some r ↔ sF pg mx (rn pg mx) mid pc la st M = some r := by
    intro r
    rw [rn_iff]
    constructor
    · rintro ⟨n, hn⟩
      cases n with
      | zero => cases hn
      | succ n => exact sF_mono (fun _ _ _ _ _ _ q => rn_iff.mpr ⟨n, q⟩) _ _ _ _ _ _ hn
    · intro h
      unfold sF at h
      cases hp : pg mid pc with
      | inl t =>
        rw [hp] at h
        dsimp only at h
        cases ht : t la st M with
        | none => rw [ht] at h; cases h
        | some q =>
          obtain ⟨a, b, c, d⟩ := q
          rw [ht] at h
          obtain ⟨n, hn⟩ := rn_iff.mp h
          refine ⟨n + 1, ?_⟩
          show sF pg mx (rF pg mx n) mid pc la st M = some r
          unfold sF
          rw [hp]
          dsimp only
          rw [ht]
          exact hn
      | inr t => cases t with
        | inl q =>
          obtain ⟨m2, n, nx, rc⟩ := q
          rw [hp] at h
          dsimp only at h
          by_cases hc : (cok M rc n st && decide (cs (st.take n) ≤ mx m2)) = true
          · rw [if_pos hc] at h
            cases hf : rn pg mx m2 0 (ent (mx m2) (st.take n).reverse) [] M with
            | none => rw [hf] at h; cases h
            | some q =>
              obtain ⟨v, M2⟩ := q
              rw [hf] at h
              obtain ⟨k, hk⟩ := rn_iff.mp h
              obtain ⟨j, hj⟩ := rn_iff.mp hf
              refine ⟨max k j + 1, ?_⟩
              show sF pg mx (rF pg mx (max k j)) mid pc la st M = some r
              unfold sF
              rw [hp]
              dsimp only
              rw [if_pos hc, rF_le (Nat.le_max_right k j) _ _ _ _ _ _ hj]
              exact rF_le (Nat.le_max_left k j) _ _ _ _ _ _ hk
          · rw [if_neg hc] at h; cases h
        | inr t =>
          rw [hp] at h
          refine ⟨1, ?_⟩
          show sF pg mx (rF pg mx 0) mid pc la st M = some r
          unfold sF
          rw [hp]
          exact h
  cases h : rn pg mx mid pc la st M with
  | some r => exact ((key r).mp h).symm
  | none => cases h2 : sF pg mx (rn pg mx) mid pc la st M with
    | none => rfl
    | some r => rw [(key r).mpr h2] at h; cases h
