/-! THE LAW'S START -/
def R_law : String := "LavenderPartsLaw"
def lw_P (b : Addr) (xs : List Int32) (args : Array Value) (s : State) : Prop := args = #[.ref b] ∧ s.IntsAt b xs ∧ xs.length ≤ 3072 ∧ (Jvm.Cond.and given_1 narrow_1).before args s = true
def lw_Q (_ : Array Value) (s : State) (o : Outcome) (t : State) : Prop := o = .returned (some (.int 1)) ∧ Framed s o t [] 600000 7302250
def lw_Z (below : List Frame) (a : Array Value) (s : State) : State → Prop := fun t => ∃ o, t.status = .running ∧ Ended t below o ∧ lw_Q a s o t
/-- the law's own end, with 1 on the stack, nothing written that was there before, its room as the claim has it -/
theorem lw_ret {p : Program} {l : Launch} {e : Env} {s : State} {m : MethodId} {below : List Frame} {meth : Method} {c : Code} {b : Nat} (hx : p.tables.exec = Jvm.exec) (hb : c.code = code) (hr : meth.sig.returnType = ret) (hlocks : meth.locks = false) {pc : Nat} {H : Heap} {ls : Array Slot} (hdg : decode code pc = .ok (.ireturn, 1)) : W p l e room_1 s m #[Value.ref b] below meth c H [] 600000 7302250 (lw_Z below #[Value.ref b] s) (F0 m pc ls [.int 1]) := by
  intro T hT X
  obtain ⟨fs, hret, hrun, hended, hW, hframe⟩ := X.leave (v := some (.int 1)) (hlocks := hlocks) (fun h => by rw [hr] at h; cases h)
  have hmeth' : T.vm.method? m = some meth := X.method'
  refine ⟨T.setFrames fs, ?_, .returned (some (.int 1)), hrun, hended, rfl, ⟨_, rfl⟩, hW, hframe⟩
  jvm_step X.here [X.here.top, hx, hb, hdg, hmeth', hr, ret, narrow_b1]
  (try refine ⟨rfl, ?_⟩); (try refine ⟨rfl, ?_⟩)
  first | (intro acts; rw [hret _ acts rfl rfl rfl]) | rw [hret _ _ rfl rfl rfl]
  exact Steps.refl _
/-- what holds at the law's entry: the machine, the code, the tables' words (any of lw_tbl by 'hts w (by decide +kernel)'), the script of L ints xs at the cell b, what the Statement gives of the start (any of its parts by flat_of_before) -/
def lw_At (p : Program) (s : State) (m : MethodId) (meth : Method) (c : Code) (b L : Nat) (xs : Nat → Int32) : Prop :=
  p.tables.exec = Jvm.exec ∧ c.code = code ∧ meth.sig.returnType = ret ∧ c.maxLocals = 4 ∧ s.vm.findClass R_law = some m.cls ∧ (∀ w ∈ lw_tbl, w.before #[Value.ref b] s = true) ∧ va_X b L xs s s.heap ∧ b < s.heap.size ∧ meth.locks = false ∧ (Jvm.Cond.and given_1 narrow_1).before #[Value.ref b] s = true ∧ meth.name = "law"

def rdI : List Nat := [101, 103, 105, 107, 109, 111, 113, 61, 69, 71, 73, 75, 33, 42]
def tmS (i : Nat) : Term := Term.string "LavenderParts$Reader" (rdI.getD i 0)
theorem fl_ex : ∀ i, i < 14 → Cond.exactly (tmS i) "java/lang/String" ∈ flatC (Jvm.Cond.and given_1 narrow_1) := by decide +kernel
theorem fl_co : ∀ i, i < 14 → Cond.eq (.field (tmS i) "java/lang/String" "coder" "B") (.int 0) ∈ flatC (Jvm.Cond.and given_1 narrow_1) := by decide +kernel
theorem fl_ar : ∀ i, i < 14 → Cond.arrayOf (.field (tmS i) "java/lang/String" "value" "[B") .byte ∈ flatC (Jvm.Cond.and given_1 narrow_1) := by decide +kernel
theorem fl_le : ∀ i, i < 14 → Cond.eq (.length (.field (tmS i) "java/lang/String" "value" "[B")) (.int (Int32.ofNat (lnL.getD i 0))) ∈ flatC (Jvm.Cond.and given_1 narrow_1) := by decide +kernel
theorem fl_el : ∀ i, i < 14 → ∀ j, j < lnL.getD i 0 → Cond.eq (.elem (.field (tmS i) "java/lang/String" "value" "[B") (.int (Int32.ofNat j))) (.int ((txL.getD i []).getD j 0)) ∈ flatC (Jvm.Cond.and given_1 narrow_1) := by decide +kernel
theorem fl_sr : ∀ q ∈ srL, (q.1 = "LavenderParts$Reader" ∧ q.2.1 = rdI.getD q.2.2.2 0 ∧ q.2.2.2 < 14) ∨ (q.2.2.2 < 14 ∧ Cond.eq (tmS q.2.2.2) (Term.string q.1 q.2.1) ∈ flatC (Jvm.Cond.and given_1 narrow_1)) := by decide +kernel
theorem fl_sw : ∀ q ∈ srL, Cond.stringRef q.1 q.2.1 q.2.2.1 ∈ lw_tbl := by decide +kernel
theorem fl_nw : ∀ w ∈ nsL, w ∈ lw_tbl := by decide +kernel
theorem fl_tar : ∀ j, j < 4 → Cond.arrayOf (.static "LavenderParts$Singer" (snL.getD j "") "[I") .int ∈ flatC (Jvm.Cond.and given_1 narrow_1) := by decide +kernel
theorem fl_tle : ∀ j, j < 4 → Cond.eq (.length (.static "LavenderParts$Singer" (snL.getD j "") "[I")) (.int (Int32.ofNat (stA.getD j []).length)) ∈ flatC (Jvm.Cond.and given_1 narrow_1) := by decide +kernel
theorem fl_tel : ∀ j, j < 4 → ∀ k, k < (stA.getD j []).length → Cond.eq (.elem (.static "LavenderParts$Singer" (snL.getD j "") "[I") (.int (Int32.ofNat k))) (.int ((stA.getD j []).getD k 0)) ∈ flatC (Jvm.Cond.and given_1 narrow_1) := by decide +kernel
theorem fl_tls : ∀ j, j < 4 → Cond.laysStatic "LavenderParts$Singer" (snL.getD j "") "[I" ∈ lw_tbl := by decide +kernel
theorem fl_cs : Cond.eq (.static "java/lang/String" "COMPACT_STRINGS" "Z") (.int 1) ∈ flatC (Jvm.Cond.and given_1 narrow_1) := by decide +kernel
theorem fl_csl : Cond.laysStatic "java/lang/String" "COMPACT_STRINGS" "Z" ∈ lw_tbl := by decide +kernel
theorem fl_so : Cond.isRef (.static "jdk/internal/util/Preconditions" "SIOOBE_FORMATTER" "Ljava/util/function/BiFunction;") ∈ flatC (Jvm.Cond.and given_1 narrow_1) := by decide +kernel
theorem fl_sol : Cond.laysStatic "jdk/internal/util/Preconditions" "SIOOBE_FORMATTER" "Ljava/util/function/BiFunction;" ∈ lw_tbl := by decide +kernel
theorem fl_in : ∀ n ∈ ["LavenderParts$Singer", "java/lang/String", "jdk/internal/util/Preconditions"], Cond.initialized n ∈ lw_tbl := by decide +kernel
theorem fl_ac : Cond.arrayClass .int ∈ lw_tbl := by decide +kernel
theorem fl_ao : ∀ n ∈ [RX2, RX1, RJ0], Cond.arrayOver (.object n) ∈ lw_tbl := by decide +kernel
theorem fl_it : ∀ q ∈ vwCl.map (fun q => (q.1, q.2.2)), Cond.instantiable q.1 q.2 ∈ lw_tbl := by decide +kernel
theorem txL_inj : ∀ i, i < 14 → ∀ j, j < 14 → txL.getD i [] = txL.getD j [] → i = j := by decide +kernel
theorem lnL_small : ∀ i, i < 14 → lnL.getD i 0 < 100 := by decide +kernel
theorem stA_small : ∀ j, j < 4 → (stA.getD j []).length < 100 := by decide +kernel
theorem getD_ext {a b : List Int32} (hl : a.length = b.length) (h : ∀ k, k < a.length → a.getD k 0 = b.getD k 0) : a = b := by
  apply List.ext_getElem?
  intro k
  by_cases hk : k < a.length
  · have h1 := h k hk
    rw [List.getD_eq_getElem?_getD, List.getD_eq_getElem?_getD, List.getElem?_eq_getElem hk, List.getElem?_eq_getElem (by omega)] at h1
    rw [List.getElem?_eq_getElem hk, List.getElem?_eq_getElem (by omega)]
    exact congrArg some h1
  · rw [List.getElem?_eq_none (by omega), List.getElem?_eq_none (by omega)]
theorem tx_start {s : State} {args : Array Value} {A : Nat → Prop} (hs : ∀ c ∈ flatC (Jvm.Cond.and given_1 narrow_1), c.before args s = true) (hA : ∀ a : Nat, a < s.heap.size → ¬ A a) : ∃ adK adV : Nat → Nat, vk_S 14 lnL txL adK adV A s s.heap ∧ ∀ i : Nat, i < 14 → (tmS i).eval args s none [] s = some (.ref (adK i)) := by
  have h0 : ∀ i : Nat, ∃ q : Nat × Nat, i < 14 → (tmS i).eval args s none [] s = some (.ref q.1) ∧ va_O "java/lang/String" q.1 A s s.heap ∧ va_OF "java/lang/String" "coder" "B" (.int 0) q.1 A s s.heap ∧ va_OF "java/lang/String" "value" "[B" (.ref q.2) q.1 A s s.heap ∧ va_T .byte q.2 (lnL.getD i 0) (fun j => .int ((txL.getD i []).getD j 0)) A s s.heap := by
    intro i
    by_cases hi : i < 14
    · have hex := hs _ (fl_ex i hi)
      obtain ⟨a, c, cA, kA, q1, -⟩ := Cond.exactly_spec (args := args) (first := s) (o := none) (s := s) (idx := []) (t := tmS i) (cls := "java/lang/String") hex
      obtain ⟨t, ht, hT⟩ := va_Tof (f := fun j => .int ((txL.getD i []).getD j 0)) (A := A) (N := lnL.getD i 0) (by have := lnL_small i hi; omega) (hs _ (fl_ar i hi)) (va_eqt (hs _ (fl_le i hi))) (fun j hj => va_eqt (hs _ (fl_el i hi j hj))) hA
      exact ⟨(a, t), fun _ => ⟨q1, va_Oof hex q1 hA, vk_OFof q1 (va_eqt (hs _ (fl_co i hi))) hA, vk_OFof q1 ht hA, hT⟩⟩
    · exact ⟨(0, 0), fun h => absurd h hi⟩
  obtain ⟨ad, had⟩ := Classical.axiomOfChoice h0
  refine ⟨fun i => (ad i).1, fun i => (ad i).2, ⟨fun i hi => (had i hi).2, fun i j hi hj e => ?_⟩, fun i hi => (had i hi).1⟩
  obtain ⟨-, -, -, hvi, hTi⟩ := had i hi
  obtain ⟨-, -, -, hvj, hTj⟩ := had j hj
  have e : (ad i).1 = (ad j).1 := e
  have e2 : (ad i).2 = (ad j).2 := by
    obtain ⟨cf, k, fi, f, cell, a1, a2, a3, a4, a5, -⟩ := hvi
    obtain ⟨cf', k', fi', f', cell', b1, b2, b3, b4, b5, -⟩ := hvj
    rw [a1] at b1
    cases b1
    rw [e, b3] at a3
    cases a3
    rw [a5] at b5
    exact Value.ref.inj (Option.some.inj b5)
  obtain ⟨cell, a1, -, -, a4, a5, a6, -⟩ := hTi
  obtain ⟨cell', b1, -, -, b4, b5, b6, -⟩ := hTj
  rw [e2, b1] at a1
  cases a1
  have hn : lnL.getD i 0 = lnL.getD j 0 := by
    have h1 := lnL_small i hi
    have h2 := lnL_small j hj
    exact (nI_eq (by omega) (by omega)).mp (a5.symm.trans b5)
  refine txL_inj i hi j hj ?_
  have l1 := lnL_at i hi
  have l2 := lnL_at j hj
  refine getD_ext (by omega) (fun k hk => ?_)
  have g1 := a6 k (by omega)
  have g2 := b6 k (by omega)
  rw [g1] at g2
  exact Value.int.inj (Option.some.inj g2)
theorem kn_start {s : State} {b L : Nat} {xs : Nat → Int32} (hts : ∀ w ∈ lw_tbl, w.before #[Value.ref b] s = true) (hX : va_X b L xs s s.heap) (hbl : b < s.heap.size) (hgv : (Jvm.Cond.and given_1 narrow_1).before #[Value.ref b] s = true) : ∃ G : aG, Kn G (L, xs) s ∧ gB G = s.heap.size ∧ gS G = b := by
  have hs := flat_of_before _ hgv
  have hA : ∀ a : Nat, a < s.heap.size → ¬ (fun q : Nat => s.heap.size ≤ q) a := fun a h => Nat.not_le.mpr h
  obtain ⟨adK, adV, hS, hSe⟩ := tx_start (A := fun q : Nat => s.heap.size ≤ q) hs hA
  have hT0 : ∀ j : Nat, ∃ t : Nat, j < 4 → (Term.static "LavenderParts$Singer" (snL.getD j "") "[I").eval #[Value.ref b] s none [] s = some (.ref t) ∧ va_T .int t (stA.getD j []).length (fun k => .int ((stA.getD j []).getD k 0)) (fun q : Nat => s.heap.size ≤ q) s s.heap := by
    intro j
    by_cases hj : j < 4
    · obtain ⟨t, ht, hT⟩ := va_Tof (f := fun k => .int ((stA.getD j []).getD k 0)) (A := fun q : Nat => s.heap.size ≤ q) (N := (stA.getD j []).length) (by have := stA_small j hj; omega) (hs _ (fl_tar j hj)) (va_eqt (hs _ (fl_tle j hj))) (fun k hk => va_eqt (hs _ (fl_tel j hj k hk))) hA
      exact ⟨t, fun _ => ⟨ht, hT⟩⟩
    · exact ⟨0, fun h => absurd h hj⟩
  obtain ⟨adT, hT⟩ := Classical.axiomOfChoice hT0
  obtain ⟨zq, hz, hzq⟩ : ∃ zq : Value, va_Z RJ3 "SIOOBE_FORMATTER" "Ljava/util/function/BiFunction;" zq (fun q : Nat => s.heap.size ≤ q) s s.heap ∧ (zq = .null ∨ ∃ t, zq = .ref t) := by
    rcases va_Zqof (A := fun q : Nat => s.heap.size ≤ q) (hts _ fl_sol) (hts _ (fl_in _ (by decide +kernel))) (hs _ fl_so) hA with h | ⟨t, h⟩
    · exact ⟨_, h, Or.inl rfl⟩
    · exact ⟨_, h, Or.inr ⟨t, rfl⟩⟩
  obtain ⟨c0, i0, k0⟩ := u_known (C := RX0) (T := TX0) (N := 1) hts hiX0 (hts _ (fl_it (RX0, 1) (by decide +kernel)))
  obtain ⟨c1, i1, k1⟩ := u_known (C := RX1) (T := TX1) (N := 3) hts hiX1 (hts _ (fl_it (RX1, 3) (by decide +kernel)))
  obtain ⟨c2, i2, k2⟩ := u_known (C := RX2) (T := TX2) (N := 2) hts hiX2 (hts _ (fl_it (RX2, 2) (by decide +kernel)))
  obtain ⟨c3, i3, k3⟩ := u_known (C := RX3) (T := TX3) (N := 6) hts hiX3 (hts _ (fl_it (RX3, 6) (by decide +kernel)))
  obtain ⟨c4, i4, k4⟩ := u_known (C := RX4) (T := TX4) (N := 6) hts hiX4 (hts _ (fl_it (RX4, 6) (by decide +kernel)))
  obtain ⟨c5, i5, k5⟩ := u_known (C := RX5) (T := TX5) (N := 7) hts hiX5 (hts _ (fl_it (RX5, 7) (by decide +kernel)))
  obtain ⟨c6, i6, k6⟩ := u_known (C := RX6) (T := TX6) (N := 22) hts hiX6 (hts _ (fl_it (RX6, 22) (by decide +kernel)))
  obtain ⟨cI, kI, cmI, a1, a2, a3⟩ := Cond.arrayClass_spec (args := #[Value.ref b]) (first := s) (o := none) (s := s) (idx := []) (type := .int) (hts _ fl_ac)
  have hao : ∀ n ∈ [RX2, RX1, RJ0], ∃ cA : ClassId, ArrOfT s cA (.object n) ∧ va_RA s cA (.object n) := by
    intro n hn
    obtain ⟨comp, c, k, g1, g2, g3, g4, g5⟩ := Cond.arrayOver_spec (args := #[Value.ref b]) (first := s) (o := none) (s := s) (idx := []) (n := n) (hts _ (fl_ao n hn))
    exact ⟨c, fun N z => ⟨(fun _ h => by cases h), k, g3, comp, g4⟩, k, comp, g3, g4, g1, g5⟩
  obtain ⟨cA2, f2⟩ := hao RX2 (by decide +kernel)
  obtain ⟨cA3, f3⟩ := hao RX1 (by decide +kernel)
  obtain ⟨cA4, f4⟩ := hao RJ0 (by decide +kernel)
  refine ⟨(s.heap.size, (fun k => if k = 0 then c0 else if k = 1 then c1 else if k = 2 then c2 else if k = 3 then c3 else if k = 4 then c4 else if k = 5 then c5 else c6), (fun k => if k = 0 then i0 else if k = 1 then i1 else if k = 2 then i2 else if k = 3 then i3 else if k = 4 then i4 else if k = 5 then i5 else i6), (fun k => if k = 1 then cI else if k = 2 then cA2 else if k = 3 then cA3 else cA4), adK, adV, adT, b, zq), ?_, rfl, rfl⟩
  refine ⟨⟨fun k q hq => ?_, fun k q hq => ?_⟩, fun w hw hg => ?_, fun w hw => ?_, fun q hq => ?_, ⟨?_, ?_, ?_⟩, hS, fun j hj => ⟨?_, (hT j hj).2⟩, ?_, hz, hzq, hX, hbl, Nat.le_refl _⟩
  · match k, hq with
    | 0, hq => cases hq; exact k0
    | 1, hq => cases hq; exact k1
    | 2, hq => cases hq; exact k2
    | 3, hq => cases hq; exact k3
    | 4, hq => cases hq; exact k4
    | 5, hq => cases hq; exact k5
    | 6, hq => cases hq; exact k6
    | k + 7, hq => simp [vwCl] at hq
  · match k, hq with
    | 0, hq => cases hq; exact ⟨fun N z => ⟨(fun _ h => by cases h), kI, a2, cmI, a3⟩, a1⟩
    | 1, hq => cases hq; exact f2
    | 2, hq => cases hq; exact f3
    | 3, hq => cases hq; exact f4
    | k + 4, hq => simp [tyL] at hq
  · exact word_at (State.WarmedH.refl s) (good_of_word hg) (hts w hw)
  · have hn : ∃ a i x hh, w = Cond.methodLinkNest a i x hh := by
      simp only [nsL, List.mem_cons, List.not_mem_nil, or_false] at hw
      rcases hw with rfl | rfl | rfl | rfl | rfl | rfl | rfl | rfl <;> exact ⟨_, _, _, _, rfl⟩
    have h1 := hts w (fl_nw w hw)
    obtain ⟨a, i, x, hh, rfl⟩ := hn
    exact va_Nw.of rfl h1
  · obtain ⟨o, i, tx, w⟩ := q
    have h1 := hts _ (fl_sw _ hq)
    have h2 : (Term.string o i).eval #[Value.ref b] s none [] s = some (.ref (adK w)) := by
      rcases fl_sr _ hq with ⟨e1, e2, e3⟩ | ⟨e1, e2⟩
      · dsimp only at e1 e2 e3
        rw [e1, e2]
        exact hSe w e3
      · exact va_eqR (hs _ e2) (hSe w e1)
    have h3 : vk_R o i tx (adK w) s := by
      refine ⟨?_, ?_⟩
      · exact h1
      · rw [Term.string_eval_of_vm (args := #[]) (show s.vm = s.vm from rfl)]
        exact h2
    exact h3
  · exact va_AO.of (hts _ (fl_ao RX2 (by decide +kernel)))
  · exact va_AO.of (hts _ (fl_ao RX1 (by decide +kernel)))
  · exact va_AO.of (hts _ (fl_ao RJ0 (by decide +kernel)))
  · exact va_Zof (hts _ (fl_tls j hj)) (hts _ (fl_in _ (by decide +kernel))) (hT j hj).1 hA
  · exact va_Zof (hts _ fl_csl) (hts _ (fl_in _ (by decide +kernel))) (va_eqi (hs _ fl_cs)) hA
/-- the law's ends -/
def LrT (pc : Nat) (t : aT) : Prop := match t with
  | .inl _ => True
  | .inr (.inl _) => True
  | .inr (.inr g) => g = i_zrt ∧ decode code pc = .ok (.ireturn, 1)
theorem lrC (pc : Nat) (f : cT) : LrT pc (.inl f) := trivial
theorem lrK (pc : Nat) (k : kT) : LrT pc (.inr (.inl k)) := trivial
theorem lrR {pc : Nat} (h : decode code pc = .ok (.ireturn, 1)) : LrT pc (.inr (.inr i_zrt)) := ⟨rfl, h⟩
theorem lr222_0 (X : aX) : ∀ q ∈ tb222_0 X, LrT q.1 q.2 :=
  List.forall_mem_cons.mpr ⟨lrC _ _,
  List.forall_mem_cons.mpr ⟨lrC _ _,
  List.forall_mem_cons.mpr ⟨lrK _ _,
  List.forall_mem_cons.mpr ⟨lrC _ _,
  List.forall_mem_cons.mpr ⟨lrC _ _,
  List.forall_mem_cons.mpr ⟨lrC _ _,
  List.forall_mem_cons.mpr ⟨lrK _ _,
  List.forall_mem_cons.mpr ⟨lrC _ _,
  List.forall_mem_cons.mpr ⟨lrC _ _,
  List.forall_mem_cons.mpr ⟨lrC _ _,
  List.forall_mem_cons.mpr ⟨lrC _ _,
  List.forall_mem_cons.mpr ⟨lrC _ _,
  List.forall_mem_cons.mpr ⟨lrC _ _,
  List.forall_mem_cons.mpr ⟨lrC _ _,
  List.forall_mem_cons.mpr ⟨lrC _ _,
  List.forall_mem_cons.mpr ⟨lrC _ _,
  List.forall_mem_cons.mpr ⟨lrC _ _,
  List.forall_mem_cons.mpr ⟨lrC _ _,
  List.forall_mem_cons.mpr ⟨lrC _ _,
  List.forall_mem_cons.mpr ⟨lrC _ _,
  List.forall_mem_cons.mpr ⟨lrC _ _,
  List.forall_mem_cons.mpr ⟨lrC _ _,
  List.forall_mem_cons.mpr ⟨lrC _ _,
  List.forall_mem_cons.mpr ⟨lrC _ _,
  List.forall_mem_cons.mpr ⟨lrC _ _,
  List.forall_mem_cons.mpr ⟨lrC _ _,
  List.forall_mem_cons.mpr ⟨lrC _ _,
  List.forall_mem_cons.mpr ⟨lrC _ _,
  List.forall_mem_cons.mpr ⟨lrC _ _,
  List.forall_mem_cons.mpr ⟨lrC _ _,
  List.forall_mem_cons.mpr ⟨lrC _ _,
  List.forall_mem_cons.mpr ⟨lrC _ _,
  List.forall_mem_cons.mpr ⟨lrC _ _,
  List.forall_mem_cons.mpr ⟨lrK _ _,
  List.forall_mem_cons.mpr ⟨lrC _ _,
  List.forall_mem_cons.mpr ⟨lrC _ _,
  List.forall_mem_cons.mpr ⟨lrC _ _,
  List.forall_mem_cons.mpr ⟨lrC _ _,
  List.forall_mem_cons.mpr ⟨lrC _ _,
  List.forall_mem_cons.mpr ⟨lrC _ _,
  List.forall_mem_cons.mpr ⟨lrC _ _,
  List.forall_mem_cons.mpr ⟨lrC _ _,
  List.forall_mem_cons.mpr ⟨lrC _ _,
  List.forall_mem_cons.mpr ⟨lrC _ _,
  List.forall_mem_cons.mpr ⟨lrC _ _,
  List.forall_mem_cons.mpr ⟨lrK _ _,
  List.forall_mem_cons.mpr ⟨lrC _ _,
  List.forall_mem_cons.mpr ⟨lrC _ _,
  List.forall_mem_cons.mpr ⟨lrR dL_law_236,
  List.forall_mem_cons.mpr ⟨lrC _ _,
  fun _ h => absurd h List.not_mem_nil⟩⟩⟩⟩⟩⟩⟩⟩⟩⟩⟩⟩⟩⟩⟩⟩⟩⟩⟩⟩⟩⟩⟩⟩⟩⟩⟩⟩⟩⟩⟩⟩⟩⟩⟩⟩⟩⟩⟩⟩⟩⟩⟩⟩⟩⟩⟩⟩⟩⟩
theorem lr222_1 (X : aX) : ∀ q ∈ tb222_1 X, LrT q.1 q.2 :=
  List.forall_mem_cons.mpr ⟨lrC _ _,
  List.forall_mem_cons.mpr ⟨lrC _ _,
  List.forall_mem_cons.mpr ⟨lrC _ _,
  List.forall_mem_cons.mpr ⟨lrC _ _,
  List.forall_mem_cons.mpr ⟨lrC _ _,
  List.forall_mem_cons.mpr ⟨lrC _ _,
  List.forall_mem_cons.mpr ⟨lrC _ _,
  List.forall_mem_cons.mpr ⟨lrC _ _,
  List.forall_mem_cons.mpr ⟨lrC _ _,
  List.forall_mem_cons.mpr ⟨lrC _ _,
  List.forall_mem_cons.mpr ⟨lrK _ _,
  List.forall_mem_cons.mpr ⟨lrC _ _,
  List.forall_mem_cons.mpr ⟨lrC _ _,
  List.forall_mem_cons.mpr ⟨lrC _ _,
  List.forall_mem_cons.mpr ⟨lrC _ _,
  List.forall_mem_cons.mpr ⟨lrC _ _,
  List.forall_mem_cons.mpr ⟨lrC _ _,
  List.forall_mem_cons.mpr ⟨lrC _ _,
  List.forall_mem_cons.mpr ⟨lrC _ _,
  List.forall_mem_cons.mpr ⟨lrC _ _,
  List.forall_mem_cons.mpr ⟨lrC _ _,
  List.forall_mem_cons.mpr ⟨lrC _ _,
  List.forall_mem_cons.mpr ⟨lrK _ _,
  List.forall_mem_cons.mpr ⟨lrC _ _,
  List.forall_mem_cons.mpr ⟨lrC _ _,
  List.forall_mem_cons.mpr ⟨lrR dL_law_269,
  List.forall_mem_cons.mpr ⟨lrC _ _,
  List.forall_mem_cons.mpr ⟨lrC _ _,
  List.forall_mem_cons.mpr ⟨lrC _ _,
  List.forall_mem_cons.mpr ⟨lrC _ _,
  List.forall_mem_cons.mpr ⟨lrC _ _,
  List.forall_mem_cons.mpr ⟨lrC _ _,
  List.forall_mem_cons.mpr ⟨lrC _ _,
  List.forall_mem_cons.mpr ⟨lrC _ _,
  List.forall_mem_cons.mpr ⟨lrC _ _,
  List.forall_mem_cons.mpr ⟨lrC _ _,
  List.forall_mem_cons.mpr ⟨lrC _ _,
  List.forall_mem_cons.mpr ⟨lrC _ _,
  List.forall_mem_cons.mpr ⟨lrC _ _,
  List.forall_mem_cons.mpr ⟨lrC _ _,
  List.forall_mem_cons.mpr ⟨lrC _ _,
  List.forall_mem_cons.mpr ⟨lrC _ _,
  List.forall_mem_cons.mpr ⟨lrK _ _,
  List.forall_mem_cons.mpr ⟨lrC _ _,
  List.forall_mem_cons.mpr ⟨lrC _ _,
  List.forall_mem_cons.mpr ⟨lrC _ _,
  List.forall_mem_cons.mpr ⟨lrC _ _,
  List.forall_mem_cons.mpr ⟨lrC _ _,
  List.forall_mem_cons.mpr ⟨lrC _ _,
  List.forall_mem_cons.mpr ⟨lrC _ _,
  fun _ h => absurd h List.not_mem_nil⟩⟩⟩⟩⟩⟩⟩⟩⟩⟩⟩⟩⟩⟩⟩⟩⟩⟩⟩⟩⟩⟩⟩⟩⟩⟩⟩⟩⟩⟩⟩⟩⟩⟩⟩⟩⟩⟩⟩⟩⟩⟩⟩⟩⟩⟩⟩⟩⟩⟩
theorem lr222_2 (X : aX) : ∀ q ∈ tb222_2 X, LrT q.1 q.2 :=
  List.forall_mem_cons.mpr ⟨lrC _ _,
  List.forall_mem_cons.mpr ⟨lrC _ _,
  List.forall_mem_cons.mpr ⟨lrC _ _,
  List.forall_mem_cons.mpr ⟨lrC _ _,
  List.forall_mem_cons.mpr ⟨lrC _ _,
  List.forall_mem_cons.mpr ⟨lrC _ _,
  List.forall_mem_cons.mpr ⟨lrC _ _,
  List.forall_mem_cons.mpr ⟨lrC _ _,
  List.forall_mem_cons.mpr ⟨lrC _ _,
  List.forall_mem_cons.mpr ⟨lrK _ _,
  List.forall_mem_cons.mpr ⟨lrC _ _,
  List.forall_mem_cons.mpr ⟨lrC _ _,
  List.forall_mem_cons.mpr ⟨lrR dL_law_312,
  List.forall_mem_cons.mpr ⟨lrC _ _,
  List.forall_mem_cons.mpr ⟨lrC _ _,
  List.forall_mem_cons.mpr ⟨lrC _ _,
  List.forall_mem_cons.mpr ⟨lrC _ _,
  List.forall_mem_cons.mpr ⟨lrC _ _,
  List.forall_mem_cons.mpr ⟨lrC _ _,
  List.forall_mem_cons.mpr ⟨lrK _ _,
  List.forall_mem_cons.mpr ⟨lrC _ _,
  List.forall_mem_cons.mpr ⟨lrC _ _,
  List.forall_mem_cons.mpr ⟨lrC _ _,
  List.forall_mem_cons.mpr ⟨lrC _ _,
  List.forall_mem_cons.mpr ⟨lrC _ _,
  List.forall_mem_cons.mpr ⟨lrC _ _,
  List.forall_mem_cons.mpr ⟨lrK _ _,
  List.forall_mem_cons.mpr ⟨lrC _ _,
  List.forall_mem_cons.mpr ⟨lrC _ _,
  List.forall_mem_cons.mpr ⟨lrR dL_law_335,
  List.forall_mem_cons.mpr ⟨lrC _ _,
  List.forall_mem_cons.mpr ⟨lrC _ _,
  List.forall_mem_cons.mpr ⟨lrC _ _,
  List.forall_mem_cons.mpr ⟨lrC _ _,
  List.forall_mem_cons.mpr ⟨lrC _ _,
  List.forall_mem_cons.mpr ⟨lrC _ _,
  List.forall_mem_cons.mpr ⟨lrK _ _,
  List.forall_mem_cons.mpr ⟨lrC _ _,
  List.forall_mem_cons.mpr ⟨lrC _ _,
  List.forall_mem_cons.mpr ⟨lrC _ _,
  List.forall_mem_cons.mpr ⟨lrC _ _,
  List.forall_mem_cons.mpr ⟨lrC _ _,
  List.forall_mem_cons.mpr ⟨lrC _ _,
  List.forall_mem_cons.mpr ⟨lrK _ _,
  List.forall_mem_cons.mpr ⟨lrC _ _,
  List.forall_mem_cons.mpr ⟨lrC _ _,
  List.forall_mem_cons.mpr ⟨lrR dL_law_358,
  List.forall_mem_cons.mpr ⟨lrC _ _,
  List.forall_mem_cons.mpr ⟨lrC _ _,
  List.forall_mem_cons.mpr ⟨lrC _ _,
  fun _ h => absurd h List.not_mem_nil⟩⟩⟩⟩⟩⟩⟩⟩⟩⟩⟩⟩⟩⟩⟩⟩⟩⟩⟩⟩⟩⟩⟩⟩⟩⟩⟩⟩⟩⟩⟩⟩⟩⟩⟩⟩⟩⟩⟩⟩⟩⟩⟩⟩⟩⟩⟩⟩⟩⟩
theorem lr222_3 (X : aX) : ∀ q ∈ tb222_3 X, LrT q.1 q.2 :=
  List.forall_mem_cons.mpr ⟨lrC _ _,
  List.forall_mem_cons.mpr ⟨lrC _ _,
  List.forall_mem_cons.mpr ⟨lrC _ _,
  List.forall_mem_cons.mpr ⟨lrK _ _,
  List.forall_mem_cons.mpr ⟨lrC _ _,
  List.forall_mem_cons.mpr ⟨lrC _ _,
  List.forall_mem_cons.mpr ⟨lrC _ _,
  List.forall_mem_cons.mpr ⟨lrC _ _,
  List.forall_mem_cons.mpr ⟨lrC _ _,
  List.forall_mem_cons.mpr ⟨lrC _ _,
  List.forall_mem_cons.mpr ⟨lrK _ _,
  List.forall_mem_cons.mpr ⟨lrC _ _,
  List.forall_mem_cons.mpr ⟨lrC _ _,
  List.forall_mem_cons.mpr ⟨lrR dL_law_381,
  List.forall_mem_cons.mpr ⟨lrC _ _,
  List.forall_mem_cons.mpr ⟨lrC _ _,
  List.forall_mem_cons.mpr ⟨lrC _ _,
  List.forall_mem_cons.mpr ⟨lrC _ _,
  List.forall_mem_cons.mpr ⟨lrC _ _,
  List.forall_mem_cons.mpr ⟨lrC _ _,
  List.forall_mem_cons.mpr ⟨lrK _ _,
  List.forall_mem_cons.mpr ⟨lrC _ _,
  List.forall_mem_cons.mpr ⟨lrC _ _,
  List.forall_mem_cons.mpr ⟨lrC _ _,
  List.forall_mem_cons.mpr ⟨lrC _ _,
  List.forall_mem_cons.mpr ⟨lrC _ _,
  List.forall_mem_cons.mpr ⟨lrC _ _,
  List.forall_mem_cons.mpr ⟨lrK _ _,
  List.forall_mem_cons.mpr ⟨lrC _ _,
  List.forall_mem_cons.mpr ⟨lrC _ _,
  List.forall_mem_cons.mpr ⟨lrR dL_law_404,
  List.forall_mem_cons.mpr ⟨lrC _ _,
  List.forall_mem_cons.mpr ⟨lrC _ _,
  List.forall_mem_cons.mpr ⟨lrC _ _,
  List.forall_mem_cons.mpr ⟨lrC _ _,
  List.forall_mem_cons.mpr ⟨lrC _ _,
  List.forall_mem_cons.mpr ⟨lrC _ _,
  List.forall_mem_cons.mpr ⟨lrC _ _,
  List.forall_mem_cons.mpr ⟨lrC _ _,
  List.forall_mem_cons.mpr ⟨lrC _ _,
  List.forall_mem_cons.mpr ⟨lrC _ _,
  List.forall_mem_cons.mpr ⟨lrC _ _,
  List.forall_mem_cons.mpr ⟨lrC _ _,
  List.forall_mem_cons.mpr ⟨lrC _ _,
  List.forall_mem_cons.mpr ⟨lrC _ _,
  List.forall_mem_cons.mpr ⟨lrC _ _,
  List.forall_mem_cons.mpr ⟨lrC _ _,
  List.forall_mem_cons.mpr ⟨lrK _ _,
  List.forall_mem_cons.mpr ⟨lrC _ _,
  List.forall_mem_cons.mpr ⟨lrC _ _,
  fun _ h => absurd h List.not_mem_nil⟩⟩⟩⟩⟩⟩⟩⟩⟩⟩⟩⟩⟩⟩⟩⟩⟩⟩⟩⟩⟩⟩⟩⟩⟩⟩⟩⟩⟩⟩⟩⟩⟩⟩⟩⟩⟩⟩⟩⟩⟩⟩⟩⟩⟩⟩⟩⟩⟩⟩
theorem lr222_4 (X : aX) : ∀ q ∈ tb222_4 X, LrT q.1 q.2 :=
  List.forall_mem_cons.mpr ⟨lrC _ _,
  List.forall_mem_cons.mpr ⟨lrC _ _,
  List.forall_mem_cons.mpr ⟨lrC _ _,
  List.forall_mem_cons.mpr ⟨lrC _ _,
  List.forall_mem_cons.mpr ⟨lrC _ _,
  List.forall_mem_cons.mpr ⟨lrC _ _,
  List.forall_mem_cons.mpr ⟨lrC _ _,
  List.forall_mem_cons.mpr ⟨lrC _ _,
  List.forall_mem_cons.mpr ⟨lrC _ _,
  List.forall_mem_cons.mpr ⟨lrC _ _,
  List.forall_mem_cons.mpr ⟨lrC _ _,
  List.forall_mem_cons.mpr ⟨lrC _ _,
  List.forall_mem_cons.mpr ⟨lrC _ _,
  List.forall_mem_cons.mpr ⟨lrC _ _,
  List.forall_mem_cons.mpr ⟨lrK _ _,
  List.forall_mem_cons.mpr ⟨lrC _ _,
  List.forall_mem_cons.mpr ⟨lrC _ _,
  List.forall_mem_cons.mpr ⟨lrR dL_law_447,
  List.forall_mem_cons.mpr ⟨lrC _ _,
  List.forall_mem_cons.mpr ⟨lrC _ _,
  List.forall_mem_cons.mpr ⟨lrC _ _,
  List.forall_mem_cons.mpr ⟨lrC _ _,
  List.forall_mem_cons.mpr ⟨lrC _ _,
  List.forall_mem_cons.mpr ⟨lrC _ _,
  List.forall_mem_cons.mpr ⟨lrK _ _,
  List.forall_mem_cons.mpr ⟨lrC _ _,
  List.forall_mem_cons.mpr ⟨lrC _ _,
  List.forall_mem_cons.mpr ⟨lrC _ _,
  List.forall_mem_cons.mpr ⟨lrC _ _,
  List.forall_mem_cons.mpr ⟨lrC _ _,
  List.forall_mem_cons.mpr ⟨lrC _ _,
  List.forall_mem_cons.mpr ⟨lrK _ _,
  List.forall_mem_cons.mpr ⟨lrC _ _,
  List.forall_mem_cons.mpr ⟨lrC _ _,
  List.forall_mem_cons.mpr ⟨lrR dL_law_470,
  List.forall_mem_cons.mpr ⟨lrC _ _,
  List.forall_mem_cons.mpr ⟨lrC _ _,
  List.forall_mem_cons.mpr ⟨lrC _ _,
  List.forall_mem_cons.mpr ⟨lrC _ _,
  List.forall_mem_cons.mpr ⟨lrC _ _,
  List.forall_mem_cons.mpr ⟨lrC _ _,
  List.forall_mem_cons.mpr ⟨lrC _ _,
  List.forall_mem_cons.mpr ⟨lrC _ _,
  List.forall_mem_cons.mpr ⟨lrC _ _,
  List.forall_mem_cons.mpr ⟨lrC _ _,
  List.forall_mem_cons.mpr ⟨lrC _ _,
  List.forall_mem_cons.mpr ⟨lrK _ _,
  List.forall_mem_cons.mpr ⟨lrC _ _,
  List.forall_mem_cons.mpr ⟨lrC _ _,
  List.forall_mem_cons.mpr ⟨lrC _ _,
  fun _ h => absurd h List.not_mem_nil⟩⟩⟩⟩⟩⟩⟩⟩⟩⟩⟩⟩⟩⟩⟩⟩⟩⟩⟩⟩⟩⟩⟩⟩⟩⟩⟩⟩⟩⟩⟩⟩⟩⟩⟩⟩⟩⟩⟩⟩⟩⟩⟩⟩⟩⟩⟩⟩⟩⟩
theorem lr222_5 (X : aX) : ∀ q ∈ tb222_5 X, LrT q.1 q.2 :=
  List.forall_mem_cons.mpr ⟨lrC _ _,
  List.forall_mem_cons.mpr ⟨lrC _ _,
  List.forall_mem_cons.mpr ⟨lrC _ _,
  List.forall_mem_cons.mpr ⟨lrC _ _,
  List.forall_mem_cons.mpr ⟨lrC _ _,
  List.forall_mem_cons.mpr ⟨lrC _ _,
  List.forall_mem_cons.mpr ⟨lrC _ _,
  List.forall_mem_cons.mpr ⟨lrC _ _,
  List.forall_mem_cons.mpr ⟨lrK _ _,
  List.forall_mem_cons.mpr ⟨lrC _ _,
  List.forall_mem_cons.mpr ⟨lrC _ _,
  List.forall_mem_cons.mpr ⟨lrR dL_law_503,
  List.forall_mem_cons.mpr ⟨lrC _ _,
  List.forall_mem_cons.mpr ⟨lrC _ _,
  List.forall_mem_cons.mpr ⟨lrC _ _,
  List.forall_mem_cons.mpr ⟨lrC _ _,
  List.forall_mem_cons.mpr ⟨lrC _ _,
  List.forall_mem_cons.mpr ⟨lrC _ _,
  List.forall_mem_cons.mpr ⟨lrK _ _,
  List.forall_mem_cons.mpr ⟨lrC _ _,
  List.forall_mem_cons.mpr ⟨lrC _ _,
  List.forall_mem_cons.mpr ⟨lrC _ _,
  List.forall_mem_cons.mpr ⟨lrC _ _,
  List.forall_mem_cons.mpr ⟨lrC _ _,
  List.forall_mem_cons.mpr ⟨lrC _ _,
  List.forall_mem_cons.mpr ⟨lrK _ _,
  List.forall_mem_cons.mpr ⟨lrC _ _,
  List.forall_mem_cons.mpr ⟨lrC _ _,
  List.forall_mem_cons.mpr ⟨lrR dL_law_526,
  List.forall_mem_cons.mpr ⟨lrC _ _,
  List.forall_mem_cons.mpr ⟨lrC _ _,
  List.forall_mem_cons.mpr ⟨lrC _ _,
  List.forall_mem_cons.mpr ⟨lrC _ _,
  List.forall_mem_cons.mpr ⟨lrC _ _,
  List.forall_mem_cons.mpr ⟨lrC _ _,
  List.forall_mem_cons.mpr ⟨lrC _ _,
  List.forall_mem_cons.mpr ⟨lrC _ _,
  List.forall_mem_cons.mpr ⟨lrC _ _,
  List.forall_mem_cons.mpr ⟨lrC _ _,
  List.forall_mem_cons.mpr ⟨lrC _ _,
  List.forall_mem_cons.mpr ⟨lrK _ _,
  List.forall_mem_cons.mpr ⟨lrC _ _,
  List.forall_mem_cons.mpr ⟨lrC _ _,
  List.forall_mem_cons.mpr ⟨lrC _ _,
  List.forall_mem_cons.mpr ⟨lrC _ _,
  List.forall_mem_cons.mpr ⟨lrC _ _,
  List.forall_mem_cons.mpr ⟨lrC _ _,
  List.forall_mem_cons.mpr ⟨lrC _ _,
  List.forall_mem_cons.mpr ⟨lrC _ _,
  List.forall_mem_cons.mpr ⟨lrC _ _,
  fun _ h => absurd h List.not_mem_nil⟩⟩⟩⟩⟩⟩⟩⟩⟩⟩⟩⟩⟩⟩⟩⟩⟩⟩⟩⟩⟩⟩⟩⟩⟩⟩⟩⟩⟩⟩⟩⟩⟩⟩⟩⟩⟩⟩⟩⟩⟩⟩⟩⟩⟩⟩⟩⟩⟩⟩
theorem lr222_6 (X : aX) : ∀ q ∈ tb222_6 X, LrT q.1 q.2 :=
  List.forall_mem_cons.mpr ⟨lrC _ _,
  List.forall_mem_cons.mpr ⟨lrC _ _,
  List.forall_mem_cons.mpr ⟨lrK _ _,
  List.forall_mem_cons.mpr ⟨lrC _ _,
  List.forall_mem_cons.mpr ⟨lrC _ _,
  List.forall_mem_cons.mpr ⟨lrR dL_law_559,
  List.forall_mem_cons.mpr ⟨lrC _ _,
  List.forall_mem_cons.mpr ⟨lrC _ _,
  List.forall_mem_cons.mpr ⟨lrC _ _,
  List.forall_mem_cons.mpr ⟨lrC _ _,
  List.forall_mem_cons.mpr ⟨lrC _ _,
  List.forall_mem_cons.mpr ⟨lrC _ _,
  List.forall_mem_cons.mpr ⟨lrC _ _,
  List.forall_mem_cons.mpr ⟨lrC _ _,
  List.forall_mem_cons.mpr ⟨lrC _ _,
  List.forall_mem_cons.mpr ⟨lrC _ _,
  List.forall_mem_cons.mpr ⟨lrC _ _,
  List.forall_mem_cons.mpr ⟨lrK _ _,
  List.forall_mem_cons.mpr ⟨lrC _ _,
  List.forall_mem_cons.mpr ⟨lrC _ _,
  List.forall_mem_cons.mpr ⟨lrC _ _,
  List.forall_mem_cons.mpr ⟨lrC _ _,
  List.forall_mem_cons.mpr ⟨lrC _ _,
  List.forall_mem_cons.mpr ⟨lrC _ _,
  List.forall_mem_cons.mpr ⟨lrC _ _,
  List.forall_mem_cons.mpr ⟨lrC _ _,
  List.forall_mem_cons.mpr ⟨lrC _ _,
  List.forall_mem_cons.mpr ⟨lrC _ _,
  List.forall_mem_cons.mpr ⟨lrC _ _,
  List.forall_mem_cons.mpr ⟨lrK _ _,
  List.forall_mem_cons.mpr ⟨lrC _ _,
  List.forall_mem_cons.mpr ⟨lrC _ _,
  List.forall_mem_cons.mpr ⟨lrR dL_law_592,
  List.forall_mem_cons.mpr ⟨lrC _ _,
  List.forall_mem_cons.mpr ⟨lrC _ _,
  List.forall_mem_cons.mpr ⟨lrC _ _,
  List.forall_mem_cons.mpr ⟨lrC _ _,
  List.forall_mem_cons.mpr ⟨lrC _ _,
  List.forall_mem_cons.mpr ⟨lrC _ _,
  List.forall_mem_cons.mpr ⟨lrC _ _,
  List.forall_mem_cons.mpr ⟨lrC _ _,
  List.forall_mem_cons.mpr ⟨lrC _ _,
  List.forall_mem_cons.mpr ⟨lrC _ _,
  List.forall_mem_cons.mpr ⟨lrC _ _,
  List.forall_mem_cons.mpr ⟨lrK _ _,
  List.forall_mem_cons.mpr ⟨lrC _ _,
  List.forall_mem_cons.mpr ⟨lrC _ _,
  List.forall_mem_cons.mpr ⟨lrC _ _,
  List.forall_mem_cons.mpr ⟨lrC _ _,
  List.forall_mem_cons.mpr ⟨lrC _ _,
  fun _ h => absurd h List.not_mem_nil⟩⟩⟩⟩⟩⟩⟩⟩⟩⟩⟩⟩⟩⟩⟩⟩⟩⟩⟩⟩⟩⟩⟩⟩⟩⟩⟩⟩⟩⟩⟩⟩⟩⟩⟩⟩⟩⟩⟩⟩⟩⟩⟩⟩⟩⟩⟩⟩⟩⟩
theorem lr222_7 (X : aX) : ∀ q ∈ tb222_7 X, LrT q.1 q.2 :=
  List.forall_mem_cons.mpr ⟨lrC _ _,
  List.forall_mem_cons.mpr ⟨lrC _ _,
  List.forall_mem_cons.mpr ⟨lrC _ _,
  List.forall_mem_cons.mpr ⟨lrC _ _,
  List.forall_mem_cons.mpr ⟨lrC _ _,
  List.forall_mem_cons.mpr ⟨lrC _ _,
  List.forall_mem_cons.mpr ⟨lrK _ _,
  List.forall_mem_cons.mpr ⟨lrC _ _,
  List.forall_mem_cons.mpr ⟨lrC _ _,
  List.forall_mem_cons.mpr ⟨lrR dL_law_625,
  List.forall_mem_cons.mpr ⟨lrC _ _,
  List.forall_mem_cons.mpr ⟨lrC _ _,
  List.forall_mem_cons.mpr ⟨lrC _ _,
  List.forall_mem_cons.mpr ⟨lrC _ _,
  List.forall_mem_cons.mpr ⟨lrC _ _,
  List.forall_mem_cons.mpr ⟨lrC _ _,
  List.forall_mem_cons.mpr ⟨lrC _ _,
  List.forall_mem_cons.mpr ⟨lrC _ _,
  List.forall_mem_cons.mpr ⟨lrC _ _,
  List.forall_mem_cons.mpr ⟨lrC _ _,
  List.forall_mem_cons.mpr ⟨lrC _ _,
  List.forall_mem_cons.mpr ⟨lrK _ _,
  List.forall_mem_cons.mpr ⟨lrC _ _,
  List.forall_mem_cons.mpr ⟨lrC _ _,
  List.forall_mem_cons.mpr ⟨lrC _ _,
  List.forall_mem_cons.mpr ⟨lrC _ _,
  List.forall_mem_cons.mpr ⟨lrC _ _,
  List.forall_mem_cons.mpr ⟨lrC _ _,
  List.forall_mem_cons.mpr ⟨lrC _ _,
  List.forall_mem_cons.mpr ⟨lrC _ _,
  List.forall_mem_cons.mpr ⟨lrC _ _,
  List.forall_mem_cons.mpr ⟨lrC _ _,
  List.forall_mem_cons.mpr ⟨lrC _ _,
  List.forall_mem_cons.mpr ⟨lrK _ _,
  List.forall_mem_cons.mpr ⟨lrC _ _,
  List.forall_mem_cons.mpr ⟨lrC _ _,
  List.forall_mem_cons.mpr ⟨lrR dL_law_658,
  List.forall_mem_cons.mpr ⟨lrC _ _,
  List.forall_mem_cons.mpr ⟨lrC _ _,
  List.forall_mem_cons.mpr ⟨lrC _ _,
  List.forall_mem_cons.mpr ⟨lrC _ _,
  List.forall_mem_cons.mpr ⟨lrC _ _,
  List.forall_mem_cons.mpr ⟨lrC _ _,
  List.forall_mem_cons.mpr ⟨lrC _ _,
  List.forall_mem_cons.mpr ⟨lrC _ _,
  List.forall_mem_cons.mpr ⟨lrC _ _,
  List.forall_mem_cons.mpr ⟨lrC _ _,
  List.forall_mem_cons.mpr ⟨lrC _ _,
  List.forall_mem_cons.mpr ⟨lrK _ _,
  List.forall_mem_cons.mpr ⟨lrC _ _,
  fun _ h => absurd h List.not_mem_nil⟩⟩⟩⟩⟩⟩⟩⟩⟩⟩⟩⟩⟩⟩⟩⟩⟩⟩⟩⟩⟩⟩⟩⟩⟩⟩⟩⟩⟩⟩⟩⟩⟩⟩⟩⟩⟩⟩⟩⟩⟩⟩⟩⟩⟩⟩⟩⟩⟩⟩
theorem lr222_8 (X : aX) : ∀ q ∈ tb222_8 X, LrT q.1 q.2 :=
  List.forall_mem_cons.mpr ⟨lrC _ _,
  List.forall_mem_cons.mpr ⟨lrC _ _,
  List.forall_mem_cons.mpr ⟨lrC _ _,
  List.forall_mem_cons.mpr ⟨lrC _ _,
  List.forall_mem_cons.mpr ⟨lrC _ _,
  List.forall_mem_cons.mpr ⟨lrC _ _,
  List.forall_mem_cons.mpr ⟨lrC _ _,
  List.forall_mem_cons.mpr ⟨lrC _ _,
  List.forall_mem_cons.mpr ⟨lrC _ _,
  List.forall_mem_cons.mpr ⟨lrC _ _,
  List.forall_mem_cons.mpr ⟨lrK _ _,
  List.forall_mem_cons.mpr ⟨lrC _ _,
  List.forall_mem_cons.mpr ⟨lrC _ _,
  List.forall_mem_cons.mpr ⟨lrR dL_law_691,
  List.forall_mem_cons.mpr ⟨lrC _ _,
  List.forall_mem_cons.mpr ⟨lrC _ _,
  List.forall_mem_cons.mpr ⟨lrC _ _,
  List.forall_mem_cons.mpr ⟨lrC _ _,
  List.forall_mem_cons.mpr ⟨lrC _ _,
  List.forall_mem_cons.mpr ⟨lrC _ _,
  List.forall_mem_cons.mpr ⟨lrK _ _,
  List.forall_mem_cons.mpr ⟨lrC _ _,
  List.forall_mem_cons.mpr ⟨lrC _ _,
  List.forall_mem_cons.mpr ⟨lrC _ _,
  List.forall_mem_cons.mpr ⟨lrC _ _,
  List.forall_mem_cons.mpr ⟨lrC _ _,
  List.forall_mem_cons.mpr ⟨lrC _ _,
  List.forall_mem_cons.mpr ⟨lrK _ _,
  List.forall_mem_cons.mpr ⟨lrC _ _,
  List.forall_mem_cons.mpr ⟨lrC _ _,
  List.forall_mem_cons.mpr ⟨lrR dL_law_714,
  List.forall_mem_cons.mpr ⟨lrC _ _,
  List.forall_mem_cons.mpr ⟨lrC _ _,
  List.forall_mem_cons.mpr ⟨lrC _ _,
  List.forall_mem_cons.mpr ⟨lrC _ _,
  List.forall_mem_cons.mpr ⟨lrC _ _,
  List.forall_mem_cons.mpr ⟨lrC _ _,
  List.forall_mem_cons.mpr ⟨lrK _ _,
  List.forall_mem_cons.mpr ⟨lrC _ _,
  List.forall_mem_cons.mpr ⟨lrC _ _,
  List.forall_mem_cons.mpr ⟨lrC _ _,
  List.forall_mem_cons.mpr ⟨lrC _ _,
  List.forall_mem_cons.mpr ⟨lrC _ _,
  List.forall_mem_cons.mpr ⟨lrC _ _,
  List.forall_mem_cons.mpr ⟨lrK _ _,
  List.forall_mem_cons.mpr ⟨lrC _ _,
  List.forall_mem_cons.mpr ⟨lrC _ _,
  List.forall_mem_cons.mpr ⟨lrR dL_law_737,
  List.forall_mem_cons.mpr ⟨lrC _ _,
  List.forall_mem_cons.mpr ⟨lrC _ _,
  fun _ h => absurd h List.not_mem_nil⟩⟩⟩⟩⟩⟩⟩⟩⟩⟩⟩⟩⟩⟩⟩⟩⟩⟩⟩⟩⟩⟩⟩⟩⟩⟩⟩⟩⟩⟩⟩⟩⟩⟩⟩⟩⟩⟩⟩⟩⟩⟩⟩⟩⟩⟩⟩⟩⟩⟩
theorem lr222_9 (X : aX) : ∀ q ∈ tb222_9 X, LrT q.1 q.2 :=
  List.forall_mem_cons.mpr ⟨lrC _ _,
  List.forall_mem_cons.mpr ⟨lrC _ _,
  List.forall_mem_cons.mpr ⟨lrC _ _,
  List.forall_mem_cons.mpr ⟨lrC _ _,
  List.forall_mem_cons.mpr ⟨lrC _ _,
  List.forall_mem_cons.mpr ⟨lrC _ _,
  List.forall_mem_cons.mpr ⟨lrC _ _,
  List.forall_mem_cons.mpr ⟨lrC _ _,
  List.forall_mem_cons.mpr ⟨lrC _ _,
  List.forall_mem_cons.mpr ⟨lrK _ _,
  List.forall_mem_cons.mpr ⟨lrC _ _,
  List.forall_mem_cons.mpr ⟨lrC _ _,
  List.forall_mem_cons.mpr ⟨lrC _ _,
  List.forall_mem_cons.mpr ⟨lrC _ _,
  List.forall_mem_cons.mpr ⟨lrC _ _,
  List.forall_mem_cons.mpr ⟨lrC _ _,
  List.forall_mem_cons.mpr ⟨lrC _ _,
  List.forall_mem_cons.mpr ⟨lrC _ _,
  List.forall_mem_cons.mpr ⟨lrC _ _,
  List.forall_mem_cons.mpr ⟨lrC _ _,
  List.forall_mem_cons.mpr ⟨lrC _ _,
  List.forall_mem_cons.mpr ⟨lrK _ _,
  List.forall_mem_cons.mpr ⟨lrC _ _,
  List.forall_mem_cons.mpr ⟨lrC _ _,
  List.forall_mem_cons.mpr ⟨lrR dL_law_770,
  List.forall_mem_cons.mpr ⟨lrC _ _,
  List.forall_mem_cons.mpr ⟨lrC _ _,
  List.forall_mem_cons.mpr ⟨lrC _ _,
  List.forall_mem_cons.mpr ⟨lrC _ _,
  List.forall_mem_cons.mpr ⟨lrC _ _,
  List.forall_mem_cons.mpr ⟨lrC _ _,
  List.forall_mem_cons.mpr ⟨lrC _ _,
  List.forall_mem_cons.mpr ⟨lrC _ _,
  List.forall_mem_cons.mpr ⟨lrC _ _,
  List.forall_mem_cons.mpr ⟨lrC _ _,
  List.forall_mem_cons.mpr ⟨lrC _ _,
  List.forall_mem_cons.mpr ⟨lrK _ _,
  List.forall_mem_cons.mpr ⟨lrC _ _,
  List.forall_mem_cons.mpr ⟨lrC _ _,
  List.forall_mem_cons.mpr ⟨lrC _ _,
  List.forall_mem_cons.mpr ⟨lrC _ _,
  List.forall_mem_cons.mpr ⟨lrC _ _,
  List.forall_mem_cons.mpr ⟨lrC _ _,
  List.forall_mem_cons.mpr ⟨lrC _ _,
  List.forall_mem_cons.mpr ⟨lrC _ _,
  List.forall_mem_cons.mpr ⟨lrC _ _,
  List.forall_mem_cons.mpr ⟨lrC _ _,
  List.forall_mem_cons.mpr ⟨lrC _ _,
  List.forall_mem_cons.mpr ⟨lrK _ _,
  List.forall_mem_cons.mpr ⟨lrC _ _,
  fun _ h => absurd h List.not_mem_nil⟩⟩⟩⟩⟩⟩⟩⟩⟩⟩⟩⟩⟩⟩⟩⟩⟩⟩⟩⟩⟩⟩⟩⟩⟩⟩⟩⟩⟩⟩⟩⟩⟩⟩⟩⟩⟩⟩⟩⟩⟩⟩⟩⟩⟩⟩⟩⟩⟩⟩
theorem lr222_10 (X : aX) : ∀ q ∈ tb222_10 X, LrT q.1 q.2 :=
  List.forall_mem_cons.mpr ⟨lrC _ _,
  List.forall_mem_cons.mpr ⟨lrR dL_law_803,
  List.forall_mem_cons.mpr ⟨lrC _ _,
  List.forall_mem_cons.mpr ⟨lrC _ _,
  List.forall_mem_cons.mpr ⟨lrC _ _,
  List.forall_mem_cons.mpr ⟨lrC _ _,
  List.forall_mem_cons.mpr ⟨lrC _ _,
  List.forall_mem_cons.mpr ⟨lrC _ _,
  List.forall_mem_cons.mpr ⟨lrC _ _,
  List.forall_mem_cons.mpr ⟨lrC _ _,
  List.forall_mem_cons.mpr ⟨lrC _ _,
  List.forall_mem_cons.mpr ⟨lrC _ _,
  List.forall_mem_cons.mpr ⟨lrC _ _,
  List.forall_mem_cons.mpr ⟨lrK _ _,
  List.forall_mem_cons.mpr ⟨lrC _ _,
  List.forall_mem_cons.mpr ⟨lrC _ _,
  List.forall_mem_cons.mpr ⟨lrC _ _,
  List.forall_mem_cons.mpr ⟨lrC _ _,
  List.forall_mem_cons.mpr ⟨lrC _ _,
  List.forall_mem_cons.mpr ⟨lrC _ _,
  List.forall_mem_cons.mpr ⟨lrC _ _,
  List.forall_mem_cons.mpr ⟨lrC _ _,
  List.forall_mem_cons.mpr ⟨lrC _ _,
  List.forall_mem_cons.mpr ⟨lrC _ _,
  List.forall_mem_cons.mpr ⟨lrC _ _,
  List.forall_mem_cons.mpr ⟨lrK _ _,
  List.forall_mem_cons.mpr ⟨lrC _ _,
  List.forall_mem_cons.mpr ⟨lrC _ _,
  List.forall_mem_cons.mpr ⟨lrR dL_law_836,
  List.forall_mem_cons.mpr ⟨lrC _ _,
  List.forall_mem_cons.mpr ⟨lrC _ _,
  List.forall_mem_cons.mpr ⟨lrC _ _,
  List.forall_mem_cons.mpr ⟨lrC _ _,
  List.forall_mem_cons.mpr ⟨lrC _ _,
  List.forall_mem_cons.mpr ⟨lrC _ _,
  List.forall_mem_cons.mpr ⟨lrK _ _,
  List.forall_mem_cons.mpr ⟨lrC _ _,
  List.forall_mem_cons.mpr ⟨lrC _ _,
  List.forall_mem_cons.mpr ⟨lrC _ _,
  List.forall_mem_cons.mpr ⟨lrC _ _,
  List.forall_mem_cons.mpr ⟨lrC _ _,
  List.forall_mem_cons.mpr ⟨lrC _ _,
  List.forall_mem_cons.mpr ⟨lrK _ _,
  List.forall_mem_cons.mpr ⟨lrC _ _,
  List.forall_mem_cons.mpr ⟨lrC _ _,
  List.forall_mem_cons.mpr ⟨lrR dL_law_859,
  List.forall_mem_cons.mpr ⟨lrC _ _,
  List.forall_mem_cons.mpr ⟨lrC _ _,
  List.forall_mem_cons.mpr ⟨lrC _ _,
  List.forall_mem_cons.mpr ⟨lrC _ _,
  fun _ h => absurd h List.not_mem_nil⟩⟩⟩⟩⟩⟩⟩⟩⟩⟩⟩⟩⟩⟩⟩⟩⟩⟩⟩⟩⟩⟩⟩⟩⟩⟩⟩⟩⟩⟩⟩⟩⟩⟩⟩⟩⟩⟩⟩⟩⟩⟩⟩⟩⟩⟩⟩⟩⟩⟩
theorem lr222_11 (X : aX) : ∀ q ∈ tb222_11 X, LrT q.1 q.2 :=
  List.forall_mem_cons.mpr ⟨lrC _ _,
  List.forall_mem_cons.mpr ⟨lrC _ _,
  List.forall_mem_cons.mpr ⟨lrC _ _,
  List.forall_mem_cons.mpr ⟨lrC _ _,
  List.forall_mem_cons.mpr ⟨lrC _ _,
  List.forall_mem_cons.mpr ⟨lrC _ _,
  List.forall_mem_cons.mpr ⟨lrC _ _,
  List.forall_mem_cons.mpr ⟨lrK _ _,
  List.forall_mem_cons.mpr ⟨lrC _ _,
  List.forall_mem_cons.mpr ⟨lrC _ _,
  List.forall_mem_cons.mpr ⟨lrC _ _,
  List.forall_mem_cons.mpr ⟨lrC _ _,
  List.forall_mem_cons.mpr ⟨lrC _ _,
  List.forall_mem_cons.mpr ⟨lrC _ _,
  List.forall_mem_cons.mpr ⟨lrC _ _,
  List.forall_mem_cons.mpr ⟨lrC _ _,
  List.forall_mem_cons.mpr ⟨lrC _ _,
  List.forall_mem_cons.mpr ⟨lrC _ _,
  List.forall_mem_cons.mpr ⟨lrC _ _,
  List.forall_mem_cons.mpr ⟨lrK _ _,
  List.forall_mem_cons.mpr ⟨lrC _ _,
  List.forall_mem_cons.mpr ⟨lrC _ _,
  List.forall_mem_cons.mpr ⟨lrC _ _,
  List.forall_mem_cons.mpr ⟨lrR dL_law_893,
  List.forall_mem_cons.mpr ⟨lrC _ _,
  List.forall_mem_cons.mpr ⟨lrC _ _,
  List.forall_mem_cons.mpr ⟨lrC _ _,
  List.forall_mem_cons.mpr ⟨lrC _ _,
  List.forall_mem_cons.mpr ⟨lrC _ _,
  List.forall_mem_cons.mpr ⟨lrC _ _,
  List.forall_mem_cons.mpr ⟨lrK _ _,
  List.forall_mem_cons.mpr ⟨lrC _ _,
  List.forall_mem_cons.mpr ⟨lrC _ _,
  List.forall_mem_cons.mpr ⟨lrC _ _,
  List.forall_mem_cons.mpr ⟨lrC _ _,
  List.forall_mem_cons.mpr ⟨lrC _ _,
  List.forall_mem_cons.mpr ⟨lrC _ _,
  List.forall_mem_cons.mpr ⟨lrK _ _,
  List.forall_mem_cons.mpr ⟨lrC _ _,
  List.forall_mem_cons.mpr ⟨lrC _ _,
  List.forall_mem_cons.mpr ⟨lrR dL_law_916,
  List.forall_mem_cons.mpr ⟨lrC _ _,
  List.forall_mem_cons.mpr ⟨lrC _ _,
  List.forall_mem_cons.mpr ⟨lrC _ _,
  List.forall_mem_cons.mpr ⟨lrC _ _,
  List.forall_mem_cons.mpr ⟨lrC _ _,
  List.forall_mem_cons.mpr ⟨lrC _ _,
  List.forall_mem_cons.mpr ⟨lrC _ _,
  List.forall_mem_cons.mpr ⟨lrC _ _,
  List.forall_mem_cons.mpr ⟨lrC _ _,
  fun _ h => absurd h List.not_mem_nil⟩⟩⟩⟩⟩⟩⟩⟩⟩⟩⟩⟩⟩⟩⟩⟩⟩⟩⟩⟩⟩⟩⟩⟩⟩⟩⟩⟩⟩⟩⟩⟩⟩⟩⟩⟩⟩⟩⟩⟩⟩⟩⟩⟩⟩⟩⟩⟩⟩⟩
theorem lr222_12 (X : aX) : ∀ q ∈ tb222_12 X, LrT q.1 q.2 :=
  List.forall_mem_cons.mpr ⟨lrC _ _,
  List.forall_mem_cons.mpr ⟨lrC _ _,
  List.forall_mem_cons.mpr ⟨lrK _ _,
  List.forall_mem_cons.mpr ⟨lrC _ _,
  List.forall_mem_cons.mpr ⟨lrC _ _,
  List.forall_mem_cons.mpr ⟨lrC _ _,
  List.forall_mem_cons.mpr ⟨lrC _ _,
  List.forall_mem_cons.mpr ⟨lrC _ _,
  List.forall_mem_cons.mpr ⟨lrC _ _,
  List.forall_mem_cons.mpr ⟨lrC _ _,
  List.forall_mem_cons.mpr ⟨lrC _ _,
  List.forall_mem_cons.mpr ⟨lrC _ _,
  List.forall_mem_cons.mpr ⟨lrC _ _,
  List.forall_mem_cons.mpr ⟨lrC _ _,
  List.forall_mem_cons.mpr ⟨lrK _ _,
  List.forall_mem_cons.mpr ⟨lrC _ _,
  List.forall_mem_cons.mpr ⟨lrC _ _,
  List.forall_mem_cons.mpr ⟨lrR dL_law_949,
  List.forall_mem_cons.mpr ⟨lrC _ _,
  List.forall_mem_cons.mpr ⟨lrK _ _,
  List.forall_mem_cons.mpr ⟨lrC _ _,
  List.forall_mem_cons.mpr ⟨lrK _ _,
  List.forall_mem_cons.mpr ⟨lrC _ _,
  List.forall_mem_cons.mpr ⟨lrC _ _,
  List.forall_mem_cons.mpr ⟨lrR dL_law_962,
  List.forall_mem_cons.mpr ⟨lrC _ _,
  List.forall_mem_cons.mpr ⟨lrK _ _,
  List.forall_mem_cons.mpr ⟨lrC _ _,
  List.forall_mem_cons.mpr ⟨lrK _ _,
  List.forall_mem_cons.mpr ⟨lrC _ _,
  List.forall_mem_cons.mpr ⟨lrC _ _,
  List.forall_mem_cons.mpr ⟨lrR dL_law_975,
  List.forall_mem_cons.mpr ⟨lrC _ _,
  List.forall_mem_cons.mpr ⟨lrC _ _,
  List.forall_mem_cons.mpr ⟨lrC _ _,
  List.forall_mem_cons.mpr ⟨lrC _ _,
  List.forall_mem_cons.mpr ⟨lrC _ _,
  List.forall_mem_cons.mpr ⟨lrC _ _,
  List.forall_mem_cons.mpr ⟨lrC _ _,
  List.forall_mem_cons.mpr ⟨lrC _ _,
  List.forall_mem_cons.mpr ⟨lrC _ _,
  List.forall_mem_cons.mpr ⟨lrC _ _,
  List.forall_mem_cons.mpr ⟨lrC _ _,
  List.forall_mem_cons.mpr ⟨lrK _ _,
  List.forall_mem_cons.mpr ⟨lrC _ _,
  List.forall_mem_cons.mpr ⟨lrC _ _,
  List.forall_mem_cons.mpr ⟨lrC _ _,
  List.forall_mem_cons.mpr ⟨lrC _ _,
  List.forall_mem_cons.mpr ⟨lrC _ _,
  List.forall_mem_cons.mpr ⟨lrC _ _,
  fun _ h => absurd h List.not_mem_nil⟩⟩⟩⟩⟩⟩⟩⟩⟩⟩⟩⟩⟩⟩⟩⟩⟩⟩⟩⟩⟩⟩⟩⟩⟩⟩⟩⟩⟩⟩⟩⟩⟩⟩⟩⟩⟩⟩⟩⟩⟩⟩⟩⟩⟩⟩⟩⟩⟩⟩
theorem lr222_13 (X : aX) : ∀ q ∈ tb222_13 X, LrT q.1 q.2 :=
  List.forall_mem_cons.mpr ⟨lrC _ _,
  List.forall_mem_cons.mpr ⟨lrC _ _,
  List.forall_mem_cons.mpr ⟨lrC _ _,
  List.forall_mem_cons.mpr ⟨lrC _ _,
  List.forall_mem_cons.mpr ⟨lrC _ _,
  List.forall_mem_cons.mpr ⟨lrK _ _,
  List.forall_mem_cons.mpr ⟨lrC _ _,
  List.forall_mem_cons.mpr ⟨lrC _ _,
  List.forall_mem_cons.mpr ⟨lrR dL_law_1008,
  List.forall_mem_cons.mpr ⟨lrC _ _,
  List.forall_mem_cons.mpr ⟨lrC _ _,
  List.forall_mem_cons.mpr ⟨lrC _ _,
  List.forall_mem_cons.mpr ⟨lrC _ _,
  List.forall_mem_cons.mpr ⟨lrC _ _,
  List.forall_mem_cons.mpr ⟨lrC _ _,
  List.forall_mem_cons.mpr ⟨lrC _ _,
  List.forall_mem_cons.mpr ⟨lrC _ _,
  List.forall_mem_cons.mpr ⟨lrC _ _,
  List.forall_mem_cons.mpr ⟨lrC _ _,
  List.forall_mem_cons.mpr ⟨lrC _ _,
  List.forall_mem_cons.mpr ⟨lrK _ _,
  List.forall_mem_cons.mpr ⟨lrC _ _,
  List.forall_mem_cons.mpr ⟨lrC _ _,
  List.forall_mem_cons.mpr ⟨lrC _ _,
  List.forall_mem_cons.mpr ⟨lrC _ _,
  List.forall_mem_cons.mpr ⟨lrC _ _,
  List.forall_mem_cons.mpr ⟨lrC _ _,
  List.forall_mem_cons.mpr ⟨lrC _ _,
  List.forall_mem_cons.mpr ⟨lrC _ _,
  List.forall_mem_cons.mpr ⟨lrC _ _,
  List.forall_mem_cons.mpr ⟨lrC _ _,
  List.forall_mem_cons.mpr ⟨lrC _ _,
  List.forall_mem_cons.mpr ⟨lrK _ _,
  List.forall_mem_cons.mpr ⟨lrC _ _,
  List.forall_mem_cons.mpr ⟨lrC _ _,
  List.forall_mem_cons.mpr ⟨lrR dL_law_1041,
  List.forall_mem_cons.mpr ⟨lrC _ _,
  List.forall_mem_cons.mpr ⟨lrC _ _,
  List.forall_mem_cons.mpr ⟨lrC _ _,
  List.forall_mem_cons.mpr ⟨lrC _ _,
  List.forall_mem_cons.mpr ⟨lrC _ _,
  List.forall_mem_cons.mpr ⟨lrC _ _,
  List.forall_mem_cons.mpr ⟨lrC _ _,
  List.forall_mem_cons.mpr ⟨lrC _ _,
  List.forall_mem_cons.mpr ⟨lrC _ _,
  List.forall_mem_cons.mpr ⟨lrC _ _,
  List.forall_mem_cons.mpr ⟨lrC _ _,
  List.forall_mem_cons.mpr ⟨lrC _ _,
  List.forall_mem_cons.mpr ⟨lrC _ _,
  List.forall_mem_cons.mpr ⟨lrC _ _,
  fun _ h => absurd h List.not_mem_nil⟩⟩⟩⟩⟩⟩⟩⟩⟩⟩⟩⟩⟩⟩⟩⟩⟩⟩⟩⟩⟩⟩⟩⟩⟩⟩⟩⟩⟩⟩⟩⟩⟩⟩⟩⟩⟩⟩⟩⟩⟩⟩⟩⟩⟩⟩⟩⟩⟩⟩
theorem lr222_14 (X : aX) : ∀ q ∈ tb222_14 X, LrT q.1 q.2 :=
  List.forall_mem_cons.mpr ⟨lrC _ _,
  List.forall_mem_cons.mpr ⟨lrC _ _,
  List.forall_mem_cons.mpr ⟨lrK _ _,
  List.forall_mem_cons.mpr ⟨lrC _ _,
  List.forall_mem_cons.mpr ⟨lrC _ _,
  List.forall_mem_cons.mpr ⟨lrC _ _,
  List.forall_mem_cons.mpr ⟨lrC _ _,
  List.forall_mem_cons.mpr ⟨lrC _ _,
  List.forall_mem_cons.mpr ⟨lrC _ _,
  List.forall_mem_cons.mpr ⟨lrC _ _,
  List.forall_mem_cons.mpr ⟨lrC _ _,
  List.forall_mem_cons.mpr ⟨lrC _ _,
  List.forall_mem_cons.mpr ⟨lrC _ _,
  List.forall_mem_cons.mpr ⟨lrC _ _,
  List.forall_mem_cons.mpr ⟨lrC _ _,
  List.forall_mem_cons.mpr ⟨lrC _ _,
  List.forall_mem_cons.mpr ⟨lrC _ _,
  List.forall_mem_cons.mpr ⟨lrC _ _,
  List.forall_mem_cons.mpr ⟨lrC _ _,
  List.forall_mem_cons.mpr ⟨lrK _ _,
  List.forall_mem_cons.mpr ⟨lrC _ _,
  List.forall_mem_cons.mpr ⟨lrC _ _,
  List.forall_mem_cons.mpr ⟨lrR dL_law_1084,
  List.forall_mem_cons.mpr ⟨lrC _ _,
  List.forall_mem_cons.mpr ⟨lrC _ _,
  List.forall_mem_cons.mpr ⟨lrC _ _,
  List.forall_mem_cons.mpr ⟨lrC _ _,
  List.forall_mem_cons.mpr ⟨lrC _ _,
  List.forall_mem_cons.mpr ⟨lrC _ _,
  List.forall_mem_cons.mpr ⟨lrC _ _,
  List.forall_mem_cons.mpr ⟨lrC _ _,
  List.forall_mem_cons.mpr ⟨lrC _ _,
  List.forall_mem_cons.mpr ⟨lrC _ _,
  List.forall_mem_cons.mpr ⟨lrC _ _,
  List.forall_mem_cons.mpr ⟨lrC _ _,
  List.forall_mem_cons.mpr ⟨lrC _ _,
  List.forall_mem_cons.mpr ⟨lrC _ _,
  List.forall_mem_cons.mpr ⟨lrC _ _,
  List.forall_mem_cons.mpr ⟨lrC _ _,
  List.forall_mem_cons.mpr ⟨lrK _ _,
  List.forall_mem_cons.mpr ⟨lrC _ _,
  List.forall_mem_cons.mpr ⟨lrC _ _,
  List.forall_mem_cons.mpr ⟨lrC _ _,
  List.forall_mem_cons.mpr ⟨lrC _ _,
  List.forall_mem_cons.mpr ⟨lrC _ _,
  List.forall_mem_cons.mpr ⟨lrC _ _,
  List.forall_mem_cons.mpr ⟨lrC _ _,
  List.forall_mem_cons.mpr ⟨lrC _ _,
  List.forall_mem_cons.mpr ⟨lrC _ _,
  List.forall_mem_cons.mpr ⟨lrC _ _,
  fun _ h => absurd h List.not_mem_nil⟩⟩⟩⟩⟩⟩⟩⟩⟩⟩⟩⟩⟩⟩⟩⟩⟩⟩⟩⟩⟩⟩⟩⟩⟩⟩⟩⟩⟩⟩⟩⟩⟩⟩⟩⟩⟩⟩⟩⟩⟩⟩⟩⟩⟩⟩⟩⟩⟩⟩
theorem lr222_15 (X : aX) : ∀ q ∈ tb222_15 X, LrT q.1 q.2 :=
  List.forall_mem_cons.mpr ⟨lrC _ _,
  List.forall_mem_cons.mpr ⟨lrC _ _,
  List.forall_mem_cons.mpr ⟨lrC _ _,
  List.forall_mem_cons.mpr ⟨lrC _ _,
  List.forall_mem_cons.mpr ⟨lrC _ _,
  List.forall_mem_cons.mpr ⟨lrC _ _,
  List.forall_mem_cons.mpr ⟨lrK _ _,
  List.forall_mem_cons.mpr ⟨lrC _ _,
  List.forall_mem_cons.mpr ⟨lrC _ _,
  List.forall_mem_cons.mpr ⟨lrR dL_law_1127,
  List.forall_mem_cons.mpr ⟨lrC _ _,
  List.forall_mem_cons.mpr ⟨lrC _ _,
  List.forall_mem_cons.mpr ⟨lrC _ _,
  List.forall_mem_cons.mpr ⟨lrC _ _,
  List.forall_mem_cons.mpr ⟨lrC _ _,
  List.forall_mem_cons.mpr ⟨lrC _ _,
  List.forall_mem_cons.mpr ⟨lrC _ _,
  List.forall_mem_cons.mpr ⟨lrC _ _,
  List.forall_mem_cons.mpr ⟨lrC _ _,
  List.forall_mem_cons.mpr ⟨lrC _ _,
  List.forall_mem_cons.mpr ⟨lrC _ _,
  List.forall_mem_cons.mpr ⟨lrC _ _,
  List.forall_mem_cons.mpr ⟨lrC _ _,
  List.forall_mem_cons.mpr ⟨lrC _ _,
  List.forall_mem_cons.mpr ⟨lrC _ _,
  List.forall_mem_cons.mpr ⟨lrC _ _,
  List.forall_mem_cons.mpr ⟨lrC _ _,
  List.forall_mem_cons.mpr ⟨lrC _ _,
  List.forall_mem_cons.mpr ⟨lrC _ _,
  List.forall_mem_cons.mpr ⟨lrC _ _,
  List.forall_mem_cons.mpr ⟨lrC _ _,
  List.forall_mem_cons.mpr ⟨lrC _ _,
  List.forall_mem_cons.mpr ⟨lrC _ _,
  List.forall_mem_cons.mpr ⟨lrC _ _,
  List.forall_mem_cons.mpr ⟨lrC _ _,
  List.forall_mem_cons.mpr ⟨lrC _ _,
  List.forall_mem_cons.mpr ⟨lrK _ _,
  List.forall_mem_cons.mpr ⟨lrC _ _,
  List.forall_mem_cons.mpr ⟨lrC _ _,
  List.forall_mem_cons.mpr ⟨lrC _ _,
  List.forall_mem_cons.mpr ⟨lrC _ _,
  List.forall_mem_cons.mpr ⟨lrC _ _,
  List.forall_mem_cons.mpr ⟨lrC _ _,
  List.forall_mem_cons.mpr ⟨lrC _ _,
  List.forall_mem_cons.mpr ⟨lrC _ _,
  List.forall_mem_cons.mpr ⟨lrC _ _,
  List.forall_mem_cons.mpr ⟨lrC _ _,
  List.forall_mem_cons.mpr ⟨lrC _ _,
  List.forall_mem_cons.mpr ⟨lrC _ _,
  List.forall_mem_cons.mpr ⟨lrC _ _,
  fun _ h => absurd h List.not_mem_nil⟩⟩⟩⟩⟩⟩⟩⟩⟩⟩⟩⟩⟩⟩⟩⟩⟩⟩⟩⟩⟩⟩⟩⟩⟩⟩⟩⟩⟩⟩⟩⟩⟩⟩⟩⟩⟩⟩⟩⟩⟩⟩⟩⟩⟩⟩⟩⟩⟩⟩
theorem lr222_16 (X : aX) : ∀ q ∈ tb222_16 X, LrT q.1 q.2 :=
  List.forall_mem_cons.mpr ⟨lrC _ _,
  List.forall_mem_cons.mpr ⟨lrC _ _,
  List.forall_mem_cons.mpr ⟨lrC _ _,
  List.forall_mem_cons.mpr ⟨lrC _ _,
  List.forall_mem_cons.mpr ⟨lrC _ _,
  List.forall_mem_cons.mpr ⟨lrC _ _,
  List.forall_mem_cons.mpr ⟨lrC _ _,
  List.forall_mem_cons.mpr ⟨lrC _ _,
  List.forall_mem_cons.mpr ⟨lrC _ _,
  List.forall_mem_cons.mpr ⟨lrC _ _,
  List.forall_mem_cons.mpr ⟨lrC _ _,
  List.forall_mem_cons.mpr ⟨lrC _ _,
  List.forall_mem_cons.mpr ⟨lrC _ _,
  List.forall_mem_cons.mpr ⟨lrK _ _,
  List.forall_mem_cons.mpr ⟨lrC _ _,
  List.forall_mem_cons.mpr ⟨lrC _ _,
  List.forall_mem_cons.mpr ⟨lrR dL_law_1190,
  List.forall_mem_cons.mpr ⟨lrC _ _,
  List.forall_mem_cons.mpr ⟨lrC _ _,
  List.forall_mem_cons.mpr ⟨lrC _ _,
  List.forall_mem_cons.mpr ⟨lrC _ _,
  List.forall_mem_cons.mpr ⟨lrC _ _,
  List.forall_mem_cons.mpr ⟨lrC _ _,
  List.forall_mem_cons.mpr ⟨lrK _ _,
  List.forall_mem_cons.mpr ⟨lrC _ _,
  List.forall_mem_cons.mpr ⟨lrC _ _,
  List.forall_mem_cons.mpr ⟨lrC _ _,
  List.forall_mem_cons.mpr ⟨lrC _ _,
  List.forall_mem_cons.mpr ⟨lrC _ _,
  List.forall_mem_cons.mpr ⟨lrC _ _,
  List.forall_mem_cons.mpr ⟨lrK _ _,
  List.forall_mem_cons.mpr ⟨lrC _ _,
  List.forall_mem_cons.mpr ⟨lrC _ _,
  List.forall_mem_cons.mpr ⟨lrR dL_law_1213,
  List.forall_mem_cons.mpr ⟨lrC _ _,
  List.forall_mem_cons.mpr ⟨lrC _ _,
  List.forall_mem_cons.mpr ⟨lrC _ _,
  List.forall_mem_cons.mpr ⟨lrC _ _,
  List.forall_mem_cons.mpr ⟨lrC _ _,
  List.forall_mem_cons.mpr ⟨lrC _ _,
  List.forall_mem_cons.mpr ⟨lrK _ _,
  List.forall_mem_cons.mpr ⟨lrC _ _,
  List.forall_mem_cons.mpr ⟨lrC _ _,
  List.forall_mem_cons.mpr ⟨lrC _ _,
  List.forall_mem_cons.mpr ⟨lrC _ _,
  List.forall_mem_cons.mpr ⟨lrC _ _,
  List.forall_mem_cons.mpr ⟨lrC _ _,
  List.forall_mem_cons.mpr ⟨lrK _ _,
  List.forall_mem_cons.mpr ⟨lrC _ _,
  List.forall_mem_cons.mpr ⟨lrC _ _,
  fun _ h => absurd h List.not_mem_nil⟩⟩⟩⟩⟩⟩⟩⟩⟩⟩⟩⟩⟩⟩⟩⟩⟩⟩⟩⟩⟩⟩⟩⟩⟩⟩⟩⟩⟩⟩⟩⟩⟩⟩⟩⟩⟩⟩⟩⟩⟩⟩⟩⟩⟩⟩⟩⟩⟩⟩
theorem lr222_17 (X : aX) : ∀ q ∈ tb222_17 X, LrT q.1 q.2 :=
  List.forall_mem_cons.mpr ⟨lrR dL_law_1236,
  List.forall_mem_cons.mpr ⟨lrC _ _,
  List.forall_mem_cons.mpr ⟨lrK _ _,
  List.forall_mem_cons.mpr ⟨lrC _ _,
  List.forall_mem_cons.mpr ⟨lrK _ _,
  List.forall_mem_cons.mpr ⟨lrC _ _,
  List.forall_mem_cons.mpr ⟨lrC _ _,
  List.forall_mem_cons.mpr ⟨lrR dL_law_1249,
  List.forall_mem_cons.mpr ⟨lrC _ _,
  List.forall_mem_cons.mpr ⟨lrK _ _,
  List.forall_mem_cons.mpr ⟨lrC _ _,
  List.forall_mem_cons.mpr ⟨lrK _ _,
  List.forall_mem_cons.mpr ⟨lrC _ _,
  List.forall_mem_cons.mpr ⟨lrC _ _,
  List.forall_mem_cons.mpr ⟨lrR dL_law_1262,
  List.forall_mem_cons.mpr ⟨lrC _ _,
  List.forall_mem_cons.mpr ⟨lrK _ _,
  List.forall_mem_cons.mpr ⟨lrC _ _,
  List.forall_mem_cons.mpr ⟨lrK _ _,
  List.forall_mem_cons.mpr ⟨lrC _ _,
  List.forall_mem_cons.mpr ⟨lrC _ _,
  List.forall_mem_cons.mpr ⟨lrR dL_law_1275,
  List.forall_mem_cons.mpr ⟨lrC _ _,
  List.forall_mem_cons.mpr ⟨lrC _ _,
  List.forall_mem_cons.mpr ⟨lrC _ _,
  List.forall_mem_cons.mpr ⟨lrC _ _,
  List.forall_mem_cons.mpr ⟨lrC _ _,
  List.forall_mem_cons.mpr ⟨lrC _ _,
  List.forall_mem_cons.mpr ⟨lrK _ _,
  List.forall_mem_cons.mpr ⟨lrC _ _,
  List.forall_mem_cons.mpr ⟨lrC _ _,
  List.forall_mem_cons.mpr ⟨lrC _ _,
  List.forall_mem_cons.mpr ⟨lrC _ _,
  List.forall_mem_cons.mpr ⟨lrC _ _,
  List.forall_mem_cons.mpr ⟨lrC _ _,
  List.forall_mem_cons.mpr ⟨lrK _ _,
  List.forall_mem_cons.mpr ⟨lrC _ _,
  List.forall_mem_cons.mpr ⟨lrC _ _,
  List.forall_mem_cons.mpr ⟨lrR dL_law_1298,
  List.forall_mem_cons.mpr ⟨lrC _ _,
  List.forall_mem_cons.mpr ⟨lrC _ _,
  List.forall_mem_cons.mpr ⟨lrC _ _,
  List.forall_mem_cons.mpr ⟨lrC _ _,
  List.forall_mem_cons.mpr ⟨lrC _ _,
  List.forall_mem_cons.mpr ⟨lrC _ _,
  List.forall_mem_cons.mpr ⟨lrK _ _,
  List.forall_mem_cons.mpr ⟨lrC _ _,
  List.forall_mem_cons.mpr ⟨lrC _ _,
  List.forall_mem_cons.mpr ⟨lrC _ _,
  List.forall_mem_cons.mpr ⟨lrC _ _,
  fun _ h => absurd h List.not_mem_nil⟩⟩⟩⟩⟩⟩⟩⟩⟩⟩⟩⟩⟩⟩⟩⟩⟩⟩⟩⟩⟩⟩⟩⟩⟩⟩⟩⟩⟩⟩⟩⟩⟩⟩⟩⟩⟩⟩⟩⟩⟩⟩⟩⟩⟩⟩⟩⟩⟩⟩
theorem lr222_18 (X : aX) : ∀ q ∈ tb222_18 X, LrT q.1 q.2 :=
  List.forall_mem_cons.mpr ⟨lrC _ _,
  List.forall_mem_cons.mpr ⟨lrC _ _,
  List.forall_mem_cons.mpr ⟨lrK _ _,
  List.forall_mem_cons.mpr ⟨lrC _ _,
  List.forall_mem_cons.mpr ⟨lrC _ _,
  List.forall_mem_cons.mpr ⟨lrR dL_law_1321,
  List.forall_mem_cons.mpr ⟨lrC _ _,
  List.forall_mem_cons.mpr ⟨lrC _ _,
  List.forall_mem_cons.mpr ⟨lrC _ _,
  List.forall_mem_cons.mpr ⟨lrR dL_law_1329,
  fun _ h => absurd h List.not_mem_nil⟩⟩⟩⟩⟩⟩⟩⟩⟩⟩
theorem lr222 (X : aX) : ∀ q ∈ tb222 X, LrT q.1 q.2 := List.forall_mem_append.mpr ⟨lr222_0 X, List.forall_mem_append.mpr ⟨lr222_1 X, List.forall_mem_append.mpr ⟨lr222_2 X, List.forall_mem_append.mpr ⟨lr222_3 X, List.forall_mem_append.mpr ⟨lr222_4 X, List.forall_mem_append.mpr ⟨lr222_5 X, List.forall_mem_append.mpr ⟨lr222_6 X, List.forall_mem_append.mpr ⟨lr222_7 X, List.forall_mem_append.mpr ⟨lr222_8 X, List.forall_mem_append.mpr ⟨lr222_9 X, List.forall_mem_append.mpr ⟨lr222_10 X, List.forall_mem_append.mpr ⟨lr222_11 X, List.forall_mem_append.mpr ⟨lr222_12 X, List.forall_mem_append.mpr ⟨lr222_13 X, List.forall_mem_append.mpr ⟨lr222_14 X, List.forall_mem_append.mpr ⟨lr222_15 X, List.forall_mem_append.mpr ⟨lr222_16 X, List.forall_mem_append.mpr ⟨lr222_17 X, lr222_18 X⟩⟩⟩⟩⟩⟩⟩⟩⟩⟩⟩⟩⟩⟩⟩⟩⟩⟩
theorem lk_lr : ∀ {tb : List (Nat × aT)}, (∀ q ∈ tb, LrT q.1 q.2) → ∀ pc, LrT pc (lk pc tb)
  | [], _, pc => trivial
  | q :: r, h, pc => by
    show LrT pc (if q.1 = pc then q.2 else lk pc r)
    by_cases hq : q.1 = pc
    · rw [if_pos hq, ← hq]
      exact h q List.mem_cons_self
    · rw [if_neg hq]
      exact lk_lr (fun z hz => h z (List.mem_cons_of_mem _ hz)) pc
def mM0 (g0 : aL → Nat → aV) : aM := (0, g0)
/-- THE LAW'S WALK OUT OF ITS RUN -/
theorem whole_of_run {p : Program} {e : Env} {s : State} {m : MethodId} {below : List Frame} {meth : Method} {c : Code} (l : Launch) {b L : Nat} {xs : Nat → Int32} {g0 : aL → Nat → aV} (C0 : lw_At p s m meth c b L xs) {M' : aM} (hrun : rn (pg (L, xs)) mx 222 0 (ent (mx 222) [aR (90, 0, 0)]) [] (mM0 g0) = some (some (aI 1), M')) : W p l e room_1 s m #[Value.ref b] below meth c s.heap [] 0 0 (lw_Z below #[Value.ref b] s) (entryFrame m ([Value.ref b] : List Value).toArray 4) := by
  obtain ⟨hx, hb, hr, hml, hown, hts, hX, hbl, hlocks, hgv, hnm⟩ := C0
  obtain ⟨G, hK, hB, hS⟩ := kn_start hts hX hbl hgv
  obtain ⟨n, hn⟩ := rn_iff.mp hrun
  have hmono := rF_mono1 (ta (L, xs)) _ _ _ _ _ _ _ _ (by decide) hn
  have h84 : M'.1 ≤ 84 := by
    have := hmono.2
    have e0 : (mM0 g0).1 = 0 := rfl
    omega
  have hsl : slS M'.1 ≤ 10000 := Nat.le_trans (slS_le h84) (by decide +kernel)
  have C : Cx G (L, xs) (cod 222) (mtn 222).cls (mx 222) (rty 222) (mtn 222).name (ht 222) 0 p room_1 s m meth c :=
    ⟨hx, hb, hml, hown, hr, hlocks, hnm, hK, by rw [hB]; rfl, by decide +kernel, by decide +kernel, by decide +kernel⟩
  have k := body (ta (L, xs)) (l := l) (e := e) (args := #[Value.ref b]) (below := below) (Q := lw_Z below #[Value.ref b] s) (mid := 222) (by decide) C
    (fun m3 h3 _ as3 M3 v3 M3' r1 r2 r3 => met (L, xs) h3 G l r1 r2 r3) (v := some (aI 1)) (M' := M') (fun pc g st M1 la hp hg h0 => by
      intro H locs ls hl hP1 hS1
      have hL := lk_lr (lr222 (L, xs)) pc
      have hp' : lk pc (tb222 (L, xs)) = .inr (.inr g) := hp
      rw [hp'] at hL
      obtain ⟨hg2, hd⟩ := hL
      subst hg2
      have hS := ta (L, xs) 222 (by decide) pc
      rw [hp] at hS
      have hMe : M' = M1 := hS.1 _ _ _ _ hg
      subst hMe
      have hst : st = [aI 1] := by
        unfold i_zrt at hg
        split at hg
        · split at hg
          · cases hg; rfl
          · cases hg
        · cases hg
      subst hst
      refine va_forget (fun q hq => by rw [← hB]; exact hS1.2.2 q hq) ?_
      refine W.widen (k := 600000) (n := 7302250) (by omega) (by omega) ?_
      exact lw_ret hx hb hr hlocks hd)
    (by show M'.1 - 0 ≤ 600000; omega) (by show slS M'.1 - slS 0 ≤ 7302250; omega) n 0 _ [] (mM0 g0) hn (Nat.le_refl _) (show 0 ≤ 84 by decide) s.heap [] _ (lvR.entry hK.gz [aR (90, 0, 0)] (mx 222) (by decide +kernel)) (fun k q h => by simp [wl, mM0] at h) va_S.rf
  have e1 : ([aR (90, 0, 0)] : List aV).map (tv G) = [.ref b] := by
    rw [List.map_cons, tv_ref (by decide), mu_sc, hS]
    rfl
  rw [e1] at k
  rw [lg_entry_eq]
  exact k
