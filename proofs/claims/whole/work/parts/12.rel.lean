/-! WHAT THE ABSTRACT MACHINE HAS TO DO WITH THE MACHINE -/
abbrev aG : Type := Nat × (Nat → ClassId) × (Nat → Nat → Nat) × (Nat → ClassId) × (Nat → Nat) × (Nat → Nat) × (Nat → Nat) × Nat × Value
def gB (G : aG) : Nat := G.1
def gC (G : aG) : Nat → ClassId := G.2.1
def gI (G : aG) : Nat → Nat → Nat := G.2.2.1
def gA (G : aG) : Nat → ClassId := G.2.2.2.1
def gK (G : aG) : Nat → Nat := G.2.2.2.2.1
def gV (G : aG) : Nat → Nat := G.2.2.2.2.2.1
def gT (G : aG) : Nat → Nat := G.2.2.2.2.2.2.1
def gS (G : aG) : Nat := G.2.2.2.2.2.2.2.1
def gZ (G : aG) : Value := G.2.2.2.2.2.2.2.2
def gF (G : aG) : Nat → Prop := fun q => gB G ≤ q
def mu (G : aG) (r : aL) : Nat := if r.1 < 80 then gB G + idx r else if r.1 = 80 then gK G r.2.1 else if r.1 = 81 then gV G r.2.1 else if r.1 = 82 then gT G r.2.1 else gS G
def tv (G : aG) (v : aV) : Value := match v with
  | .inl x => .int x
  | .inr (.inl x) => .long x
  | .inr (.inr none) => .null
  | .inr (.inr (some r)) => if r.1 < 95 then .ref (mu G r) else gZ G
def rv (G : aG) (v : aV) : Option Nat := match v with
  | .inr (.inr (some r)) => some (mu G r)
  | _ => none
def ce (G : aG) (M : aM) (r : aL) : va_E := match shp r with
  | (0, c) => .inr (c, (List.range (nfL.getD c 0)).map (fun k => tv G (M.2 r k)))
  | (1, n) => .inl (gA G 1, n, .inl (fun j => iv (M.2 r j)))
  | (k, n) => .inl (gA G k, n, .inr (.inr (.inr (.inr (fun j => rv G (M.2 r j))))))
def wl (G : aG) (M : aM) : va_W := (List.range M.1).map (fun i => (gB G + i, ce G M (nm i)))
def tyL (G : aG) : List (ClassId × FieldType) := [(gA G 1, .int), (gA G 2, .object RX2), (gA G 3, .object RX1), (gA G 4, .object RJ0)]
def snL : List String := ["AT_FIRST", "LEAST", "MOST", "OVER"]
def lnL : List Nat := txL.map List.length
def nsL : List Cond := [.methodLinkNest "LavenderParts$Square" 32 ⟨"LavenderParts$Singer", "<init>", "()V"⟩ "LavenderParts", .methodLinkNest "LavenderParts" 24 ⟨"LavenderParts$Reader", "<init>", "()V"⟩ "LavenderParts", .methodLinkNest "LavenderParts$Reader" 9 ⟨"LavenderParts$Tape", "<init>", "()V"⟩ "LavenderParts", .methodLinkNest "LavenderParts" 43 ⟨"LavenderParts$Sheet", "<init>", "()V"⟩ "LavenderParts", .methodLinkNest "LavenderParts$Square" 74 ⟨"LavenderParts", "within", "(III)Z"⟩ "LavenderParts", .methodLinkNest "LavenderParts$Singer" 26 ⟨"LavenderParts", "within", "(III)Z"⟩ "LavenderParts", .methodLinkNest "LavenderParts$Reader" 91 ⟨"LavenderParts", "within", "(III)Z"⟩ "LavenderParts", .methodLinkNest "LavenderParts$Sheet" 20 ⟨"LavenderParts", "within", "(III)Z"⟩ "LavenderParts"]
def srL : List (String × Nat × String × Nat) := [("LavenderParts$Reader", 33, "dead", 12), ("LavenderParts$Reader", 42, "sings", 13), ("LavenderParts$Reader", 101, "singer", 0), ("LavenderParts$Reader", 103, "sister", 1), ("LavenderParts$Reader", 105, "cabman", 2), ("LavenderParts$Reader", 107, "elder", 3), ("LavenderParts$Reader", 109, "last", 4), ("LavenderParts$Reader", 111, "child", 5), ("LavenderParts$Reader", 113, "caroller", 6), ("LavenderParts$Reader", 61, "begins", 7), ("LavenderParts$Reader", 69, "answers", 8), ("LavenderParts$Reader", 71, "voice", 9), ("LavenderParts$Reader", 73, "aged", 10), ("LavenderParts$Reader", 75, "part", 11), ("LavenderPartsModel", 30, "singer", 0), ("LavenderPartsModel", 32, "sister", 1), ("LavenderPartsModel", 34, "cabman", 2), ("LavenderPartsModel", 36, "elder", 3), ("LavenderPartsModel", 38, "last", 4), ("LavenderPartsModel", 40, "child", 5), ("LavenderPartsModel", 42, "caroller", 6), ("LavenderPartsModel", 284, "begins", 7), ("LavenderPartsModel", 291, "answers", 8), ("LavenderPartsModel", 293, "voice", 9), ("LavenderPartsModel", 295, "aged", 10), ("LavenderPartsModel", 297, "part", 11), ("LavenderPartsModel", 306, "dead", 12), ("LavenderPartsModel", 308, "sings", 13)]
/-- what is known of a state, apart from the cells that are made -/
def Kn (G : aG) (X : aX) (U : State) : Prop :=
  va_K (gC G, gI G) vwCl (tyL G) U ∧ (∀ w ∈ lw_tbl, goodWord w = true → w.before #[] U = true) ∧ (∀ w ∈ nsL, va_Nw w U) ∧ (∀ q ∈ srL, vk_R q.1 q.2.1 q.2.2.1 (gK G q.2.2.2) U) ∧ (va_AO RX2 U ∧ va_AO RX1 U ∧ va_AO RJ0 U) ∧
  vk_S 14 lnL txL (gK G) (gV G) (gF G) U U.heap ∧
  (∀ j, j < 4 → va_Z RX2 (snL.getD j "") "[I" (.ref (gT G j)) (gF G) U U.heap ∧ va_T .int (gT G j) (stA.getD j []).length (fun k => .int ((stA.getD j []).getD k 0)) (gF G) U U.heap) ∧
  va_Z RJ0 "COMPACT_STRINGS" "Z" (.int 1) (gF G) U U.heap ∧ va_Z RJ3 "SIOOBE_FORMATTER" "Ljava/util/function/BiFunction;" (gZ G) (gF G) U U.heap ∧ (gZ G = .null ∨ ∃ t, gZ G = .ref t) ∧
  va_X (gS G) X.1 X.2 U U.heap ∧ gS G < gB G ∧ gB G ≤ U.heap.size
theorem Kn.gz {G : aG} {X : aX} {U : State} (h : Kn G X U) : gZ G = .null ∨ ∃ t, gZ G = .ref t := h.2.2.2.2.2.2.2.2.2.1
theorem Kn.move {G : aG} {X : aX} {s U : State} (h : Kn G X s) (hW : s.WarmedH U.vm) (hz : s.heap.size ≤ U.heap.size) (hq : ∀ q : Nat, q < s.heap.size → ¬ gF G q → U.heap[q]? = s.heap[q]?) : Kn G X U := by
  obtain ⟨h1, h2, h3, h4, ⟨h5, h6, h7⟩, h8, h9, h10, h11, h12, h13, h14, h15⟩ := h
  refine ⟨h1.moved hW.alike, fun w hw hg => word_at hW (good_of_word hg) (h2 w hw hg), fun w hw => ?_, fun q hq' => (h4 q hq').warm hW, ⟨h5.moved hW.alike, h6.moved hW.alike, h7.moved hW.alike⟩, (h8.moved hW.alike).kept hq, fun j hj => ⟨((h9 j hj).1.moved hW.alike).kept hq, ((h9 j hj).2.moved hW.alike).kept hq⟩, (h10.moved hW.alike).kept hq, (h11.moved hW.alike).kept hq, h12, (h13.moved hW.alike).kept (hq _ (Nat.lt_of_lt_of_le h14 h15) (Nat.not_le.mpr h14)), h14, Nat.le_trans h15 hz⟩
  have hn : ∀ w ∈ nsL, ∃ a i x hh, w = Cond.methodLinkNest a i x hh := by
    intro w hw
    simp only [nsL, List.mem_cons, List.not_mem_nil, or_false] at hw
    rcases hw with rfl | rfl | rfl | rfl | rfl | rfl | rfl | rfl <;> exact ⟨_, _, _, _, rfl⟩
  obtain ⟨a, i, x, hh, rfl⟩ := hn w hw
  exact va_Nw.warmM hW (h3 _ hw)
theorem Kn.same {G : aG} {X : aX} {s U : State} (h : Kn G X s) (hv : U.vm = s.vm) (hh : U.heap = s.heap) : Kn G X U :=
  h.move (by rw [hv]; exact State.WarmedH.refl s) (by rw [hh]; exact Nat.le_refl _) (fun q _ _ => by rw [hh])
theorem Kn.word {G : aG} {X : aX} {U : State} (h : Kn G X U) {w : Cond} (hw : w ∈ lw_tbl) (hg : goodWord w = true) (A : Array Value) : w.before A U = true := by
  have h1 := h.2.1 w hw hg
  have h2 := word_at (a' := A) (State.WarmedH.refl U) (good_of_word hg) h1
  exact h2
def gTb : List Cond := lw_tbl.filter goodWord
theorem Kn.hts {G : aG} {X : aX} {U : State} (h : Kn G X U) (A : Array Value) : ∀ w ∈ gTb, w.before A U = true := fun w hw => h.word (List.mem_filter.mp hw).1 (List.mem_filter.mp hw).2 A
theorem gTb_in {w : Cond} (hw : w ∈ lw_tbl) (hg : goodWord w = true) : w ∈ gTb := List.mem_filter.mpr ⟨hw, hg⟩
theorem tv_cat {G : aG} (hz : gZ G = .null ∨ ∃ t, gZ G = .ref t) (v : aV) : (tv G v).category = ac v := by
  match v with
  | .inl x => rfl
  | .inr (.inl x) => rfl
  | .inr (.inr none) => rfl
  | .inr (.inr (some r)) =>
    show (if r.1 < 95 then Value.ref (mu G r) else gZ G).category = 1
    split
    · rfl
    · rcases hz with h | ⟨t, h⟩ <;> rw [h] <;> rfl
theorem cs_map {G : aG} (hz : gZ G = .null ∨ ∃ t, gZ G = .ref t) : ∀ st : List aV, ((st.map (tv G)).map fun v => v.category).sum = cs st
  | [] => rfl
  | v :: r => by
    rw [List.map_cons, List.map_cons, List.sum_cons, tv_cat hz v, cs_map hz r]
    rfl
-- the rows of a method's own
def lvR (G : aG) (ls : Array Slot) (nL : Nat) (la : aLs) : Prop := la.length = nL ∧ ls.size = nL ∧ lv_wf ls ∧ ∀ (i : Nat) (v : aV), la[i]? = some (some v) → ls[i]? = some (.val (tv G v))
def lvl (G : aG) (la : aLs) : List (Nat × Value) := (List.range la.length).filterMap (fun i => match la[i]? with
  | some (some v) => some (i, tv G v)
  | _ => none)
theorem lvl_mem {G : aG} {la : aLs} {i : Nat} {v : aV} (h : la[i]? = some (some v)) : (i, tv G v) ∈ lvl G la := by
  unfold lvl
  refine List.mem_filterMap.mpr ⟨i, List.mem_range.mpr (List.getElem?_eq_some_iff.mp h).1, ?_⟩
  rw [h]
theorem lvl_of {G : aG} {la : aLs} {q : Nat × Value} (h : q ∈ lvl G la) : ∃ v, la[q.1]? = some (some v) ∧ q.2 = tv G v := by
  unfold lvl at h
  obtain ⟨i, -, hi⟩ := List.mem_filterMap.mp h
  split at hi
  · rename_i v hv
    cases hi
    exact ⟨v, hv, rfl⟩
  · cases hi
theorem lvR.has {G : aG} {ls : Array Slot} {nL : Nat} {la : aLs} (h : lvR G ls nL la) : lv_has ls nL (lvl G la) := by
  refine ⟨h.2.1, h.2.2.1, fun q hq => ?_⟩
  obtain ⟨v, h1, h2⟩ := lvl_of hq
  rw [h2]
  exact h.2.2.2 _ _ h1
theorem clr_len (la : aLs) (i : Nat) : (clr la i).length = la.length := by
  unfold clr
  split
  · rfl
  · split
    · simp
    · rfl
theorem clr_at {la : aLs} {i j : Nat} {w : aV} (h : (clr la i)[j]? = some (some w)) : la[j]? = some (some w) ∧ ¬ (j + 1 = i ∧ ac w = 2) := by
  unfold clr at h
  split at h
  · exact ⟨h, fun q => by omega⟩
  · rename_i k
    split at h
    · rename_i x hx
      by_cases hj : j = k
      · subst hj
        have hl := (List.getElem?_eq_some_iff.mp hx).1
        rw [List.getElem?_set_self hl] at h
        cases h
      · rw [List.getElem?_set_ne (Ne.symm hj)] at h
        exact ⟨h, fun q => hj (by omega)⟩
    · rename_i hx
      refine ⟨h, fun q => ?_⟩
      obtain ⟨q1, q2⟩ := q
      have hj : j = k := by omega
      subst hj
      match w, h, q2 with
      | .inl x, _, q2 => simp [ac] at q2
      | .inr (.inl x), h, _ => exact hx x h
      | .inr (.inr x), _, q2 => simp [ac] at q2
theorem lvR.st1 {G : aG} (hz : gZ G = .null ∨ ∃ t, gZ G = .ref t) {ls ls' : Array Slot} {nL : Nat} {la : aLs} {i : Nat} {v : aV} (h : lvR G ls nL la) (h' : lv_has ls' nL ((i, tv G v) :: (lvl G la).filter (fun q => !(q.1 == i) && !(q.1 + 1 == i && q.2.category == 2)))) : lvR G ls' nL (stL la i v) := by
  refine ⟨by unfold stL; rw [List.length_set, clr_len]; exact h.1, h'.1, h'.2.1, fun j w hj => ?_⟩
  unfold stL at hj
  by_cases hji : j = i
  · subst hji
    have hl : j < (clr la j).length := by
      have := (List.getElem?_eq_some_iff.mp hj).1
      rwa [List.length_set] at this
    rw [List.getElem?_set_self hl] at hj
    cases hj
    exact h'.2.2 _ List.mem_cons_self
  · rw [List.getElem?_set_ne (Ne.symm hji)] at hj
    obtain ⟨h1, h2⟩ := clr_at hj
    refine h'.2.2 (j, tv G w) (List.mem_cons_of_mem _ (List.mem_filter.mpr ⟨lvl_mem h1, ?_⟩))
    dsimp only
    rw [tv_cat hz w]
    have e1 : (j == i) = false := by simpa using hji
    rw [e1]
    by_cases h3 : j + 1 = i
    · have h4 : ¬ ac w = 2 := fun q => h2 ⟨h3, q⟩
      simp [h4]
    · simp [h3]
theorem lvR.st2 {G : aG} (hz : gZ G = .null ∨ ∃ t, gZ G = .ref t) {ls ls' : Array Slot} {nL : Nat} {la : aLs} {i : Nat} {v : aV} (h : lvR G ls nL la) (h' : lv_has ls' nL ((i, tv G v) :: (lvl G la).filter (fun q => !(q.1 == i) && (!(q.1 == i + 1) && !(q.1 + 1 == i && q.2.category == 2))))) : lvR G ls' nL (stJ la i v) := by
  refine ⟨by unfold stJ; rw [List.length_set, List.length_set, clr_len]; exact h.1, h'.1, h'.2.1, fun j w hj => ?_⟩
  unfold stJ at hj
  by_cases hj1 : j = i + 1
  · subst hj1
    have hl : i + 1 < ((clr la i).set i (some v)).length := by
      have := (List.getElem?_eq_some_iff.mp hj).1
      rwa [List.length_set] at this
    rw [List.getElem?_set_self hl] at hj
    cases hj
  · rw [List.getElem?_set_ne (Ne.symm hj1)] at hj
    by_cases hji : j = i
    · subst hji
      have hl : j < (clr la j).length := by
        have := (List.getElem?_eq_some_iff.mp hj).1
        rwa [List.length_set] at this
      rw [List.getElem?_set_self hl] at hj
      cases hj
      exact h'.2.2 _ List.mem_cons_self
    · rw [List.getElem?_set_ne (Ne.symm hji)] at hj
      obtain ⟨h1, h2⟩ := clr_at hj
      refine h'.2.2 (j, tv G w) (List.mem_cons_of_mem _ (List.mem_filter.mpr ⟨lvl_mem h1, ?_⟩))
      dsimp only
      rw [tv_cat hz w]
      have e1 : (j == i) = false := by simpa using hji
      have e2 : (j == i + 1) = false := by simpa using hj1
      rw [e1, e2]
      by_cases h3 : j + 1 = i
      · have h4 : ¬ ac w = 2 := fun q => h2 ⟨h3, q⟩
        simp [h4]
      · simp [h3]
theorem lg_len {G : aG} (hz : gZ G = .null ∨ ∃ t, gZ G = .ref t) : ∀ as : List aV, (lg_sl (as.map (tv G))).length = cs as
  | [] => rfl
  | v :: r => by
    have ih := lg_len hz r
    unfold lg_sl at ih ⊢
    rw [List.map_cons, List.flatMap_cons, List.length_append, ih, tv_cat hz v]
    show _ = ac v + cs r
    match v with
    | .inl x => simp [ac]
    | .inr (.inl x) => simp [ac]
    | .inr (.inr x) => simp [ac]
theorem ent_len : ∀ (as : List aV) (n : Nat), cs as ≤ n → (ent n as).length = n
  | [], n, _ => by simp [ent]
  | .inr (.inl x) :: r, n, h => by
    have h' : 2 + cs r ≤ n := h
    show (some _ :: none :: ent (n - 2) r).length = n
    rw [List.length_cons, List.length_cons, ent_len r (n - 2) (by omega)]
    omega
  | .inl x :: r, n, h => by
    have h' : 1 + cs r ≤ n := h
    show (some _ :: ent (n - 1) r).length = n
    rw [List.length_cons, ent_len r (n - 1) (by omega)]
    omega
  | .inr (.inr x) :: r, n, h => by
    have h' : 1 + cs r ≤ n := h
    show (some _ :: ent (n - 1) r).length = n
    rw [List.length_cons, ent_len r (n - 1) (by omega)]
    omega
theorem ent_at {G : aG} (hz : gZ G = .null ∨ ∃ t, gZ G = .ref t) : ∀ (as : List aV) (n k i : Nat) (v : aV), (ent n as)[i]? = some (some v) → (k + i, tv G v) ∈ lv_args k (as.map (tv G))
  | [], n, k, i, v, h => by
    unfold ent at h
    have := List.eq_of_mem_replicate (List.mem_of_getElem? h)
    cases this
  | w :: r, n, k, i, v, h => by
    rw [List.map_cons]
    show (k + i, tv G v) ∈ (k, tv G w) :: lv_args (if (tv G w).category = 2 then k + 2 else k + 1) (r.map (tv G))
    rw [tv_cat hz w]
    match w, h with
    | .inr (.inl x), h =>
      have h : (some (Sum.inr (Sum.inl x)) :: none :: ent (n - 2) r)[i]? = some (some v) := h
      match i, h with
      | 0, h => cases h; exact List.mem_cons_self
      | 1, h => cases h
      | i + 2, h =>
        refine List.mem_cons_of_mem _ ?_
        have := ent_at hz r (n - 2) (k + 2) i v h
        rw [show k + 2 + i = k + (i + 2) by omega] at this
        exact this
    | .inl x, h =>
      have h : (some (Sum.inl x) :: ent (n - 1) r)[i]? = some (some v) := h
      match i, h with
      | 0, h => cases h; exact List.mem_cons_self
      | i + 1, h =>
        refine List.mem_cons_of_mem _ ?_
        have := ent_at hz r (n - 1) (k + 1) i v h
        rw [show k + 1 + i = k + (i + 1) by omega] at this
        exact this
    | .inr (.inr x), h =>
      have h : (some (Sum.inr (Sum.inr x)) :: ent (n - 1) r)[i]? = some (some v) := h
      match i, h with
      | 0, h => cases h; exact List.mem_cons_self
      | i + 1, h =>
        refine List.mem_cons_of_mem _ ?_
        have := ent_at hz r (n - 1) (k + 1) i v h
        rw [show k + 1 + i = k + (i + 1) by omega] at this
        exact this
theorem lvR.entry {G : aG} (hz : gZ G = .null ∨ ∃ t, gZ G = .ref t) (as : List aV) (n : Nat) (h : cs as ≤ n) : lvR G ((lg_sl (as.map (tv G)) ++ List.replicate (n - (lg_sl (as.map (tv G))).length) Slot.unset).toArray) n (ent n as) := by
  have hh := lv_entry (as.map (tv G)) (n := n) (by rw [lg_len hz]; exact h)
  refine ⟨ent_len as n h, hh.1, hh.2.1, fun i v hi => ?_⟩
  have := ent_at hz as n 0 i v hi
  rw [Nat.zero_add] at this
  exact hh.2.2 _ this
-- the cells
theorem wl_at {G : aG} {M : aM} {i : Nat} (h : i < M.1) : (wl G M)[i]? = some (gB G + i, ce G M (nm i)) := by
  unfold wl
  rw [List.getElem?_map, List.getElem?_range h]
  rfl
theorem wl_len (G : aG) (M : aM) : (wl G M).length = M.1 := by simp [wl]
theorem wl_of {G : aG} {M : aM} {i : Nat} {q : Nat × va_E} (h : (wl G M)[i]? = some q) : i < M.1 ∧ q = (gB G + i, ce G M (nm i)) := by
  have hl : i < M.1 := by
    have := (List.getElem?_eq_some_iff.mp h).1
    rwa [wl_len] at this
  rw [wl_at hl] at h
  exact ⟨hl, (Option.some.inj h).symm⟩
theorem wl_D (G : aG) (M : aM) : va_D (gF G) (wl G M) := by
  refine ⟨fun i j x y hi hj hxy => ?_, fun k q hk => ?_⟩
  · obtain ⟨-, rfl⟩ := wl_of hi
    obtain ⟨-, rfl⟩ := wl_of hj
    dsimp only at hxy
    omega
  · obtain ⟨-, rfl⟩ := wl_of hk
    exact Nat.le_add_right _ _
theorem vld_sp {M : aM} {r : aL} (h : vld M r = true) : nm (idx r) = r ∧ idx r < M.1 := by
  unfold vld at h
  simpa using h
theorem wl_vld {G : aG} {M : aM} {r : aL} (h : vld M r = true) (ht : r.1 < 80) : (wl G M)[idx r]? = some (mu G r, ce G M r) := by
  obtain ⟨h1, h2⟩ := vld_sp h
  rw [wl_at h2, h1]
  unfold mu
  rw [if_pos ht]
theorem nm_inj {i j : Nat} (hi : i < 84) (hj : j < 84) (h : nm i = nm j) : i = j := by
  have key : ∀ i, i < 84 → idx (nm i) = i := by decide +kernel
  rw [← key i hi, ← key j hj, h]
theorem nm_tag : ∀ i, i < 84 → (nm i).1 < 80 := by decide +kernel
/-- a change in one cell -/
theorem wl_set {G : aG} {M M' : aM} {r : aL} (h : vld M r = true) (ht : r.1 < 80) (h84 : M.1 ≤ 84) (h1 : M'.1 = M.1) (hk : ∀ q : aL, q ≠ r → ∀ k, M'.2 q k = M.2 q k) : (wl G M).set (idx r) (mu G r, ce G M' r) = wl G M' := by
  obtain ⟨h2, h3⟩ := vld_sp h
  apply List.ext_getElem?
  intro i
  by_cases hi : i = idx r
  · subst hi
    rw [List.getElem?_set_self (by rw [wl_len]; exact h3), wl_at (by rw [h1]; exact h3), h2]
    unfold mu
    rw [if_pos ht]
  · rw [List.getElem?_set_ne (Ne.symm hi)]
    by_cases hl : i < M.1
    · rw [wl_at hl, wl_at (by rw [h1]; exact hl)]
      have hne : nm i ≠ r := fun q => hi (nm_inj (by omega) (by omega) (by rw [q, h2]))
      have e : ce G M (nm i) = ce G M' (nm i) := by
        unfold ce
        have : M'.2 (nm i) = M.2 (nm i) := funext (hk _ hne)
        rw [this]
      rw [e]
    · rw [List.getElem?_eq_none (by rw [wl_len]; omega), List.getElem?_eq_none (by rw [wl_len, h1]; omega)]
theorem wl_new {G : aG} {M : aM} (h84 : M.1 < 84) : wl G M ++ [(gB G + M.1, ce G (alc M) (nm M.1))] = wl G (alc M) := by
  have e : wl G (alc M) = (List.range M.1).map (fun i => (gB G + i, ce G (alc M) (nm i))) ++ [(gB G + M.1, ce G (alc M) (nm M.1))] := by
    unfold wl
    show (List.range (M.1 + 1)).map _ = _
    rw [List.range_succ, List.map_append]
    rfl
  rw [e]
  congr 1
  unfold wl
  apply List.map_congr_left
  intro i hi
  have hi' := List.mem_range.mp hi
  have hne : nm i ≠ nm M.1 := fun q => by have := nm_inj (by omega) h84 q; omega
  have e2 : (alc M).2 (nm i) = M.2 (nm i) := by
    funext k
    show (if nm i = nm M.1 then _ else _) = _
    rw [if_neg hne]
  unfold ce
  rw [e2]
theorem inb_sp {j : Int32} {n : Nat} (h : inb j n = true) : vp_in j n := by
  unfold inb at h
  exact vp_in_iff.mpr (by simpa using h)
