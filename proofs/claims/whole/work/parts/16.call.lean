/-! CALLS, AND A METHOD'S WHOLE BODY -/
def nmY : List MethodName := [yX0_init, yX0_readAll, yX0_readItem, yX0_readDead, yX0_readSings, yX0_readOwn, yX0_readNumber, yX0_kindOfWord, yX0_wordOf, yX1_init, yX1_lay, yX1_put, yX1_hasRun, yX2_init, yX2_reset, yX2_become, yX2_isInRange, yX2_isUnder, yX2_isSinging, yX2_begin, yX2_gap, yX2_lasting, yX2_selling, yX2_wearing, yX2_growOlder, yX3_init, yX3_become, yX3_has, yX3_isFull, yX3_add, yX3_look, yX3_canBe, yX3_put, yX3_begin, yX3_kill, yX3_singing, yX3_waiting, yX3_gone, yX3_answering, yX3_having, yX3_total, yX3_heldSpots, yX3_datesOfBeginning, yX3_today, yX3_hasDaysFor, yX3_draw, yX3_passDays, yX3_singOn, yX3_comeIn, yX3_listen, yX3_sell, yX3_selling, yX3_growOlder, yX4_init, yX4_hasRoomFor, yX4_add, yX4_rewind, yX4_step, yX4_numberOfDigits, yX4_tokenWith, yX4_isAt, yX5_init, yX5_singer, yX5_of, yX5_change, yX5_answerers, yX5_strike, yX5_go, yX5_now, yX5_ahead, yX5_sings, yX5_together, yX5_rest, yX5_when, yX5_beginFor, yX5_answerFor, yX5_kindFor, yX5_ageFor, yX5_hush, yX5_longest, yX5_fits, yX5_date, yX5_kinds, yX5_spring, yX5_odds, yX5_seed, yX5_feed, yX5_wipe, yX5_text, yX5_hold, yX5_as, yX5_sheet, yX5_write, yX5_copy, yX5_load, yX5_judge, yX5_image, yX5_undo, yX5_tear, yX5_count, yX5_status, yX5_tell, yX5_within, yX5_isForetold, yX5_daysTillAllSing, yX5_tryOut, yX5_isStillWithout, yX5_isAsTold, yX5_isSheet, yX5_faultOfSheet, yX5_faultOfTold, yX5_greatestSharedWithYear, yX6_init, yX6_finding, yX6_within, yX6_become, yX6_copyRow, yX6_putBack, yX6_orNone, yX6_bits, yX6_isDate, yX6_singerAt, yX6_singerIs, yX6_isSinger, yX6_isKind, yX6_comes, yX6_singer, yX6_isDead, yX6_doesSing, yX6_gap, yX6_lasts, yX6_isAlone, yX6_sells, yX6_wears, yX6_told, yX6_of, yX6_isField, yX6_change, yX6_answerers, yX6_begins, yX6_strike, yX6_more, yX6_ended, yX6_comesIn, yX6_sell, yX6_ages, yX6_day, yX6_daysGo, yX6_singing, yX6_go, yX6_waiting, yX6_deadOnes, yX6_sumOf, yX6_now, yX6_behind, yX6_soldBehind, yX6_ahead, yX6_daysTo, yX6_sings, yX6_together, yX6_daysUp, yX6_rest, yX6_when, yX6_isThought, yX6_bestBy, yX6_beginFor, yX6_answerFor, yX6_kindFor, yX6_ageFor, yX6_isHushed, yX6_hush, yX6_longest, yX6_lacks, yX6_isSo, yX6_fitting, yX6_fits, yX6_date, yX6_kinds, yX6_drawn, yX6_spring, yX6_beginDates, yX6_odds, yX6_seed, yX6_feed, yX6_wipe, yX6_byteAt, yX6_token, yX6_isWord, yX6_must, yX6_number, yX6_addItem, yX6_takesWord, yX6_readSinger, yX6_readItem, yX6_isToldSo, yX6_text, yX6_isSpot, yX6_hold, yX6_as, yX6_isSheet, yX6_cutTo, yX6_sheet, yX6_write, yX6_copy, yX6_above, yX6_isUnder, yX6_load, yX6_judge, yX6_image, yX6_undo, yX6_tear, yX6_count, yX6_status, yJ6_bitCount_0f7a4, yJ13_bitCount_95d88, yJ0_length_8abf5, yJ0_charAt_5068e, yJ0_coder_7d493, yJ0_isLatin1_aae02, yJ0_checkIndex_df160, yJ1_charAt_3b067, yJ3_checkIndex_8e157, yL_law]
def cdL : List ByteArray := [cX0_init, cX0_readAll, cX0_readItem, cX0_readDead, cX0_readSings, cX0_readOwn, cX0_readNumber, cX0_kindOfWord, cX0_wordOf, cX1_init, cX1_lay, cX1_put, cX1_hasRun, cX2_init, cX2_reset, cX2_become, cX2_isInRange, cX2_isUnder, cX2_isSinging, cX2_begin, cX2_gap, cX2_lasting, cX2_selling, cX2_wearing, cX2_growOlder, cX3_init, cX3_become, cX3_has, cX3_isFull, cX3_add, cX3_look, cX3_canBe, cX3_put, cX3_begin, cX3_kill, cX3_singing, cX3_waiting, cX3_gone, cX3_answering, cX3_having, cX3_total, cX3_heldSpots, cX3_datesOfBeginning, cX3_today, cX3_hasDaysFor, cX3_draw, cX3_passDays, cX3_singOn, cX3_comeIn, cX3_listen, cX3_sell, cX3_selling, cX3_growOlder, cX4_init, cX4_hasRoomFor, cX4_add, cX4_rewind, cX4_step, cX4_numberOfDigits, cX4_tokenWith, cX4_isAt, cX5_init, cX5_singer, cX5_of, cX5_change, cX5_answerers, cX5_strike, cX5_go, cX5_now, cX5_ahead, cX5_sings, cX5_together, cX5_rest, cX5_when, cX5_beginFor, cX5_answerFor, cX5_kindFor, cX5_ageFor, cX5_hush, cX5_longest, cX5_fits, cX5_date, cX5_kinds, cX5_spring, cX5_odds, cX5_seed, cX5_feed, cX5_wipe, cX5_text, cX5_hold, cX5_as, cX5_sheet, cX5_write, cX5_copy, cX5_load, cX5_judge, cX5_image, cX5_undo, cX5_tear, cX5_count, cX5_status, cX5_tell, cX5_within, cX5_isForetold, cX5_daysTillAllSing, cX5_tryOut, cX5_isStillWithout, cX5_isAsTold, cX5_isSheet, cX5_faultOfSheet, cX5_faultOfTold, cX5_greatestSharedWithYear, cX6_init, cX6_finding, cX6_within, cX6_become, cX6_copyRow, cX6_putBack, cX6_orNone, cX6_bits, cX6_isDate, cX6_singerAt, cX6_singerIs, cX6_isSinger, cX6_isKind, cX6_comes, cX6_singer, cX6_isDead, cX6_doesSing, cX6_gap, cX6_lasts, cX6_isAlone, cX6_sells, cX6_wears, cX6_told, cX6_of, cX6_isField, cX6_change, cX6_answerers, cX6_begins, cX6_strike, cX6_more, cX6_ended, cX6_comesIn, cX6_sell, cX6_ages, cX6_day, cX6_daysGo, cX6_singing, cX6_go, cX6_waiting, cX6_deadOnes, cX6_sumOf, cX6_now, cX6_behind, cX6_soldBehind, cX6_ahead, cX6_daysTo, cX6_sings, cX6_together, cX6_daysUp, cX6_rest, cX6_when, cX6_isThought, cX6_bestBy, cX6_beginFor, cX6_answerFor, cX6_kindFor, cX6_ageFor, cX6_isHushed, cX6_hush, cX6_longest, cX6_lacks, cX6_isSo, cX6_fitting, cX6_fits, cX6_date, cX6_kinds, cX6_drawn, cX6_spring, cX6_beginDates, cX6_odds, cX6_seed, cX6_feed, cX6_wipe, cX6_byteAt, cX6_token, cX6_isWord, cX6_must, cX6_number, cX6_addItem, cX6_takesWord, cX6_readSinger, cX6_readItem, cX6_isToldSo, cX6_text, cX6_isSpot, cX6_hold, cX6_as, cX6_isSheet, cX6_cutTo, cX6_sheet, cX6_write, cX6_copy, cX6_above, cX6_isUnder, cX6_load, cX6_judge, cX6_image, cX6_undo, cX6_tear, cX6_count, cX6_status, cJ6_bitCount_0f7a4, cJ13_bitCount_95d88, cJ0_length_8abf5, cJ0_charAt_5068e, cJ0_coder_7d493, cJ0_isLatin1_aae02, cJ0_checkIndex_df160, cJ1_charAt_3b067, cJ3_checkIndex_8e157, cL_law]
def rtL : List (Option FieldType) := [none, (some FieldType.int), (some FieldType.boolean), (some FieldType.boolean), (some FieldType.boolean), (some FieldType.boolean), (some FieldType.boolean), (some FieldType.int), (some (FieldType.object "java/lang/String")), none, none, none, (some FieldType.boolean), none, none, none, (some FieldType.boolean), (some FieldType.boolean), (some FieldType.boolean), none, (some FieldType.int), (some FieldType.int), (some FieldType.int), (some FieldType.int), none, none, none, (some FieldType.boolean), (some FieldType.boolean), (some FieldType.int), (some FieldType.int), (some FieldType.boolean), none, none, none, (some FieldType.int), (some FieldType.int), (some FieldType.int), (some FieldType.int), (some FieldType.int), (some FieldType.int), (some FieldType.int), (some FieldType.int), (some FieldType.int), (some FieldType.boolean), (some FieldType.int), none, none, none, none, none, (some FieldType.int), none, none, (some FieldType.boolean), none, none, none, (some FieldType.int), (some FieldType.int), (some FieldType.boolean), none, (some FieldType.int), (some FieldType.int), (some FieldType.int), (some FieldType.int), (some FieldType.int), (some FieldType.int), (some FieldType.int), (some FieldType.int), (some FieldType.int), (some FieldType.int), (some FieldType.int), (some FieldType.int), (some FieldType.int), (some FieldType.int), (some FieldType.int), (some FieldType.int), (some FieldType.int), (some FieldType.int), (some FieldType.int), (some FieldType.int), (some FieldType.int), (some FieldType.int), (some FieldType.long), (some FieldType.int), (some FieldType.int), (some FieldType.int), (some FieldType.int), (some FieldType.int), (some FieldType.int), (some FieldType.int), (some FieldType.int), (some FieldType.int), (some FieldType.int), (some FieldType.int), (some FieldType.int), (some FieldType.int), (some FieldType.int), (some FieldType.int), (some FieldType.int), (some FieldType.int), (some FieldType.boolean), (some FieldType.boolean), (some FieldType.int), none, (some FieldType.boolean), (some FieldType.boolean), (some FieldType.boolean), (some FieldType.int), (some FieldType.int), (some FieldType.int), none, (some FieldType.int), (some FieldType.boolean), (some FieldType.int), none, (some FieldType.int), (some FieldType.int), (some FieldType.int), (some FieldType.boolean), (some FieldType.int), (some FieldType.int), (some FieldType.boolean), (some FieldType.boolean), (some FieldType.int), (some FieldType.int), (some FieldType.boolean), (some FieldType.boolean), (some FieldType.int), (some FieldType.int), (some FieldType.boolean), (some FieldType.int), (some FieldType.int), (some FieldType.int), (some FieldType.int), (some FieldType.boolean), (some FieldType.int), (some FieldType.int), (some FieldType.int), (some FieldType.int), none, (some FieldType.int), none, none, none, none, none, (some FieldType.int), (some FieldType.int), (some FieldType.int), (some FieldType.int), (some FieldType.int), (some FieldType.int), (some FieldType.int), (some FieldType.int), (some FieldType.int), (some FieldType.int), (some FieldType.int), (some FieldType.int), (some FieldType.int), (some FieldType.int), (some FieldType.int), (some FieldType.boolean), (some FieldType.int), (some FieldType.int), (some FieldType.int), (some FieldType.int), (some FieldType.int), (some FieldType.boolean), (some FieldType.int), (some FieldType.int), (some FieldType.int), (some FieldType.boolean), (some FieldType.int), (some FieldType.int), (some FieldType.int), (some FieldType.int), (some FieldType.int), (some FieldType.int), (some FieldType.int), (some FieldType.long), (some FieldType.int), (some FieldType.int), (some FieldType.int), (some FieldType.int), none, (some FieldType.boolean), none, (some FieldType.int), none, (some FieldType.boolean), none, none, none, (some FieldType.int), (some FieldType.boolean), (some FieldType.int), (some FieldType.int), (some FieldType.boolean), (some FieldType.int), (some FieldType.int), (some FieldType.int), (some FieldType.int), (some FieldType.int), (some FieldType.boolean), (some FieldType.int), (some FieldType.int), (some FieldType.int), (some FieldType.int), (some FieldType.int), (some FieldType.int), (some FieldType.int), (some FieldType.int), (some FieldType.int), (some FieldType.int), (some FieldType.char), (some FieldType.byte), (some FieldType.boolean), none, (some FieldType.char), (some FieldType.int), (some FieldType.boolean)]
def mtn (mid : Nat) : MethodName := nmY.getD mid ⟨"", "", ""⟩
def cod (mid : Nat) : ByteArray := cdL.getD mid ⟨#[]⟩
def rty (mid : Nat) : Option FieldType := rtL.getD mid none
def Ctr (G : aG) (X : aX) (l : Launch) (mid : Nat) (as : List aV) (M : aM) (v : Option aV) (M' : aM) : Prop :=
  Met l (mtn mid) [Cond.code (mtn mid) (cod mid) (mx mid) (rty mid)] ({ frames := ht mid, cells := M'.1 - M.1, slots := slS M'.1 - slS M.1, locals := 40 * ht mid } : Room)
    (va_Pc (as.map (tv G)) (fun U => Kn G X U ∧ U.heap.size = gB G + M.1 ∧ va_P (gC G, gI G) vwCl (wl G M) U.heap))
    (fun _ st o t => o = .returned (v.map (tv G)) ∧ va_P (gC G, gI G) vwCl (wl G M') t.heap ∧ va_F (gF G) st t) (M'.1 - M.1) (slS M'.1 - slS M.1) (gF G)
theorem call_go {G : aG} {M' : aM} {v : Option aV} {p : Program} {l : Launch} {e : Env} {R : Room} {s : State} {m : MethodId} {args : Array Value} {below : List Frame} {meth : Method} {c : Code} {H : Heap} {locs : List Loc} {cells slots mc ms pc : Nat} {Q : State → Prop} {ls : Array Slot} {st0 rest : List Value} {Qa : State → Outcome → State → Prop}
    (hQa : ∀ st o t, Qa st o t → o = .returned (v.map (tv G)) ∧ va_P (gC G, gI G) vwCl (wl G M') t.heap ∧ va_F (gF G) st t)
    (hr : va_Run p l e R s m args below meth c H locs cells slots mc ms (F0 m pc ls st0) rest Qa (gF G)) (hS : va_S (gF G) s.heap H locs)
    (kk : ∀ (H1 : Heap) (locs1 : List Loc), va_P (gC G, gI G) vwCl (wl G M') H1 → va_S (gF G) s.heap H1 locs1 → W p l e R s m args below meth c H1 locs1 (cells + mc) (slots + ms) Q (F0 m (pc + 3) ls ((v.map (tv G)).toList ++ rest))) : W p l e R s m args below meth c H locs cells slots Q (F0 m pc ls st0) := by
  intro T hT X1
  obtain ⟨v', st₀, t, T', L, h0, X', hL, e1, e2, hq, st⟩ := hr T hT X1
  obtain ⟨hv, hp, hz, hk⟩ := hQa _ _ _ hq
  have hv' : v' = v.map (tv G) := by cases hv; rfl
  subst hv'
  rw [h0] at hz hk
  obtain ⟨t2, a1, b1⟩ := kk T'.heap (locs ++ L) (by rw [e1]; exact hp) ⟨Nat.le_trans hS.1 (by rw [e1]; exact hz), fun q h1 h2 => by rw [e1, hk q (Nat.lt_of_lt_of_le h1 hS.1) h2]; exact hS.2.1 q h1 h2, fun q hq => by
      rcases List.mem_append.mp hq with h | h
      · exact hS.2.2 q h
      · exact hL q h⟩ T' rfl X'
  exact ⟨t2, st t2 a1, b1⟩
theorem psh_map (G : aG) (v : Option aV) (st : List aV) : (psh v st).map (tv G) = (v.map (tv G)).toList ++ st.map (tv G) := by
  cases v <;> rfl
def CB (m2 np : Nat) : Prop := m2 < 222 ∧ Cond.code (mtn m2) (cod m2) (mx m2) (rty m2) ∈ lw_tbl ∧ Cond.initialized (mtn m2).cls ∈ lw_tbl ∧ ((mtn m2).cls ≠ "java/lang/invoke/MethodHandle" ∧ (mtn m2).cls ≠ "java/lang/invoke/VarHandle") ∧ (parseMethodDescriptor (mtn m2).desc).map (fun d => d.parameters.length) = some np ∧ mx m2 ≤ 21 ∧ plainFor (mtn m2) = true
def SdK (X : aX) (cc : ByteArray) (own : String) (nL : Nat) (rt : Option FieldType) (mn : String) (hh pc : Nat) (kd : kT) : Prop := kd.1 < 222 ∧ ht kd.1 + 1 ≤ hh ∧
  ∀ (G : aG) (n0 : Nat) (p : Program) (l : Launch) (e : Env) (R : Room) (s : State) (m : MethodId) (args : Array Value) (below : List Frame) (meth : Method) (c : Code) (Q : State → Prop), Cx G X cc own nL rt mn hh n0 p R s m meth c →
    ∀ (la : aLs) (st : List aV) (M : aM) (v : Option aV) (M' : aM), cok M kd.2.2.2 kd.2.1 st = true → Ctr G X l kd.1 (st.take kd.2.1).reverse M v M' → n0 ≤ M.1 → M.1 ≤ M'.1 → M'.1 - n0 ≤ R.cells → slS M'.1 - slS n0 ≤ R.slots →
      Ok G nL n0 p l e R s m args below meth c Q kd.2.2.1 la (psh v (st.drop kd.2.1)) M' → Ok G nL n0 p l e R s m args below meth c Q pc la st M
section CALL
variable {X : aX} {cc : ByteArray} {own : String} {nL : Nat} {rt : Option FieldType} {mn : String} {hh pc : Nat}
theorem Kn.atH {G : aG} {s U : State} {H : Heap} {locs : List Loc} (h : Kn G X s) (hS : va_S (gF G) s.heap H locs) (hU : U.heap = H) (hW : s.WarmedH U.vm) : Kn G X U :=
  h.move hW (by rw [hU]; exact hS.1) (fun q h1 h2 => by rw [hU]; exact hS.2.1 q h1 h2)
theorem ctr_blind {G : aG} {as : List aV} {M : aM} : FrameBlind (va_Pc (as.map (tv G)) (fun U => Kn G X U ∧ U.heap.size = gB G + M.1 ∧ va_P (gC G, gI G) vwCl (wl G M) U.heap)) := fun a U g mk q => by
  obtain ⟨q0, q1, q2, q3⟩ := q
  exact ⟨q0, q1.same rfl rfl, q2, q3⟩
theorem H_size {G : aG} {n0 : Nat} {M : aM} {s : State} {H : Heap} {locs : List Loc} (hs : s.heap.size = gB G + n0) (h0 : n0 ≤ M.1) (hP : va_P (gC G, gI G) vwCl (wl G M) H) (hS : va_S (gF G) s.heap H locs) (hz : H.size ≤ s.heap.size + (M.1 - n0)) : H.size = gB G + M.1 := by
  rcases Nat.eq_or_lt_of_le h0 with h | h
  · have := hS.1
    omega
  · have hat := wl_at (G := G) (M := M) (i := M.1 - 1) (by omega)
    have h1 : gB G + (M.1 - 1) < H.size := (hP _ _ hat).lt
    omega
theorem cb_callB {m2 np mc ms j : Nat} {R : Room} {G : aG} {s : State} {args : Array Value} (h : CB m2 np) (hK : Kn G X s) (hl : Cond.methodLink own j (mtn m2) ∈ lw_tbl) (hf : ht m2 + 1 ≤ R.frames) (ho : 40 * (ht m2 + 1) ≤ R.locals) :
    CallB R s args own j (mtn m2) (cod m2) (mx m2) (rty m2) [Cond.code (mtn m2) (cod m2) (mx m2) (rty m2)] ({ frames := ht m2, cells := mc, slots := ms, locals := 40 * ht m2 } : Room) mc ms np := by
  obtain ⟨h1, h2, h3, h4, h5, h6, -⟩ := h
  refine ⟨rfl, rfl, hf, ?_, fun w hw a' U hW => ?_, List.mem_cons_self, hK.word h2 rfl _, hK.word h3 rfl _, h4, fun sig hsig => ?_, hK.word hl rfl _⟩
  · show 8 + (mx m2 + 11) + 40 * ht m2 ≤ R.locals
    omega
  · rw [List.mem_singleton.mp hw]
    exact word_at hW (Or.inl rfl) (hK.word h2 rfl args)
  · rw [hsig] at h5
    exact (Option.some.inj h5).symm
theorem cb_CN {m2 np mc ms j : Nat} {host : String} {R : Room} {G : aG} {s : State} {args : Array Value} (h : CB m2 np) (hK : Kn G X s) (hl : Cond.methodLinkNest own j (mtn m2) host ∈ nsL) (hf : ht m2 + 1 ≤ R.frames) (ho : 40 * (ht m2 + 1) ≤ R.locals) :
    va_CN R s args own j (mtn m2) host (cod m2) (mx m2) (rty m2) [Cond.code (mtn m2) (cod m2) (mx m2) (rty m2)] ({ frames := ht m2, cells := mc, slots := ms, locals := 40 * ht m2 } : Room) mc ms np := by
  obtain ⟨h1, h2, h3, h4, h5, h6, -⟩ := h
  refine ⟨⟨rfl, rfl, hf, ?_, fun w hw a' U hW => ?_, List.mem_cons_self⟩, hK.word h2 rfl _, hK.word h3 rfl _, h4, fun sig hsig => ?_, va_Nw.use rfl (hK.2.2.1 _ hl)⟩
  · show 8 + (mx m2 + 11) + 40 * ht m2 ≤ R.locals
    omega
  · rw [List.mem_singleton.mp hw]
    exact word_at hW (Or.inl rfl) (hK.word h2 rfl args)
  · rw [hsig] at h5
    exact (Option.some.inj h5).symm
theorem cok_sp {M : aM} {rc n : Nat} {st : List aV} (h : cok M rc n st = true) : n ≤ st.length ∧ rco M rc (st.take n).reverse = true ∧ cs (st.drop n) ≤ 8 := by
  unfold cok at h
  simp only [Bool.and_eq_true, decide_eq_true_eq] at h
  exact ⟨h.1.1, h.1.2, h.2⟩
theorem split_st (G : aG) (n : Nat) (st : List aV) : st.map (tv G) = ((st.take n).reverse.map (tv G)).reverse ++ (st.drop n).map (tv G) := by
  rw [← List.map_reverse, List.reverse_reverse, ← List.map_append, List.take_append_drop]
theorem rco_sp {M : aM} {c : Nat} {as : List aV} (h : rco M (c + 1) as = true) : ∃ r as', as = aR r :: as' ∧ (if c = 99 then txo r else gok M r c) = true := by
  match as, h with
  | .inr (.inr (some r)) :: as', h => exact ⟨r, as', rfl, h⟩
  | .inr (.inr none) :: as', h => cases h
  | .inr (.inl x) :: as', h => cases h
  | .inl x :: as', h => cases h
  | [], h => cases h
/-- the receiver's cell -/
theorem recv_at {G : aG} {M : aM} {s : State} {H : Heap} {locs : List Loc} {c : Nat} {r : aL} {C : String} (hK : Kn G X s) (hP : va_P (gC G, gI G) vwCl (wl G M) H) (hS : va_S (gF G) s.heap H locs) (hC : (c = 99 ∧ C = RJ0) ∨ (c ≠ 99 ∧ ∃ T N, vwCl[c]? = some (C, T, N))) (hg : (if c = 99 then txo r else gok M r c) = true) : r.1 < 95 ∧ ∃ cell : Cell, H[mu G r]? = some cell ∧ cell.vm.isStatics = false ∧ s.vm.findClass C = some cell.cls := by
  rcases hC with ⟨rfl, rfl⟩ | ⟨hc, T, N, hT⟩
  · rw [if_pos rfl] at hg
    obtain ⟨g1, g2, g3⟩ := txo_sp hg
    refine ⟨by omega, ?_⟩
    rw [g3, mu_tx]
    exact vk_recv hK.2.2.2.2.2.1 g2 hS
  · rw [if_neg hc] at hg
    obtain ⟨g1, g2, g3⟩ := gok_sp hg
    have hat := wl_vld (G := G) g2 g1
    rw [ce_obj g3] at hat
    exact ⟨by omega, va_recv hK.1 hP hT hat⟩
theorem sk_v {m2 n j c : Nat} {C : String} (hcb : CB m2 n) (hh2 : ht m2 + 1 ≤ hh) (hC : (c = 99 ∧ C = RJ0) ∨ (c ≠ 99 ∧ ∃ T N, vwCl[c]? = some (C, T, N))) (hl : Cond.methodLink own j (mtn m2) ∈ lw_tbl) (hi : Cond.instanceMethod (mtn m2) ∈ lw_tbl) (hsel : Cond.selects C (mtn m2) (mtn m2) ∈ lw_tbl) (hdg : decode cc pc = .ok (.invokevirtual j, 3)) : SdK X cc own nL rt mn hh pc (m2, n + 1, pc + 3, c + 1) := by
  refine ⟨hcb.1, hh2, ?_⟩
  intro G n0 p l e R s m args below meth cd Q Cc la st M v M' hok hctr h0 hmm hc hs kk H locs ls hl2 hP hS
  obtain ⟨k1, k2, k3⟩ := cok_sp hok
  dsimp only at k1 k2 k3 hctr kk
  obtain ⟨r, as', e1, e2⟩ := rco_sp k2
  have hsz := Cc.2.2.2.2.2.2.2.2.1
  have hfr := Cc.2.2.2.2.2.2.2.2.2.1
  have hlo := Cc.2.2.2.2.2.2.2.2.2.2.1
  have hK := Cc.2.2.2.2.2.2.2.1
  have hsl := slS_le h0
  have hsl2 := slS_le hmm
  obtain ⟨hr95, hrecv⟩ := recv_at hK hP hS hC e2
  have hlen : as'.length = n := by
    have := congrArg List.length e1
    rw [List.length_reverse, List.length_take, List.length_cons, Nat.min_eq_left k1] at this
    omega
  refine Wsz (fun hz => ?_)
  have hH := H_size hsz h0 hP hS hz
  rw [split_st G (n + 1) st, e1]
  rw [e1] at hctr
  unfold Ctr at hctr
  rw [List.map_cons, tv_ref hr95] at hctr ⊢
  rw [List.reverse_cons, List.append_assoc]
  refine call_go (fun _ _ _ h => h) (va_runV (As := as'.map (tv G)) (rest := (st.drop (n + 1)).map (tv G)) (n := n) ⟨Cc.1, Cc.2.1, Cc.2.2.1, Cc.2.2.2.1, hK.hts args⟩ hctr ⟨cb_callB hcb hK hl (by omega) (by omega), hK.word hi rfl _, hK.word hsel rfl _⟩ ⟨?_, hrecv, fun U hU hW => ⟨rfl, hK.atH hS hU hW, by rw [hU]; exact hH, by rw [hU]; exact hP⟩⟩ rfl (by rw [List.length_map]; exact hlen) hl2.2.1 rfl (by show 2 * 0 + _ ≤ 8; rw [cs_map hK.gz]; omega) hdg ⟨by omega, by omega⟩) hS (fun H1 locs1 hP1 hS1 => ?_)
  · exact fun a U g mk q => by
      obtain ⟨q0, q1, q2, q3⟩ := q
      exact ⟨q0, q1.same rfl rfl, q2, q3⟩
  · have := kk H1 locs1 ls hl2 hP1 hS1
    rw [psh_map] at this
    rw [show M.1 - n0 + (M'.1 - M.1) = M'.1 - n0 by omega, show slS M.1 - slS n0 + (slS M'.1 - slS M.1) = slS M'.1 - slS n0 by omega]
    exact this
theorem sk_s {m2 n j : Nat} (hcb : CB m2 n) (hh2 : ht m2 + 1 ≤ hh) (hl : Cond.methodLink own j (mtn m2) ∈ lw_tbl) (hst : Cond.static (mtn m2) ∈ lw_tbl) (hdg : decode cc pc = .ok (.invokestatic j, 3)) : SdK X cc own nL rt mn hh pc (m2, n, pc + 3, 0) := by
  refine ⟨hcb.1, hh2, ?_⟩
  intro G n0 p l e R s m args below meth cd Q Cc la st M v M' hok hctr h0 hmm hc hs kk H locs ls hl2 hP hS
  obtain ⟨k1, k2, k3⟩ := cok_sp hok
  dsimp only at k1 k2 k3 hctr kk
  have hsz := Cc.2.2.2.2.2.2.2.2.1
  have hfr := Cc.2.2.2.2.2.2.2.2.2.1
  have hlo := Cc.2.2.2.2.2.2.2.2.2.2.1
  have hK := Cc.2.2.2.2.2.2.2.1
  have hsl := slS_le h0
  have hsl2 := slS_le hmm
  have hlen : (st.take n).reverse.length = n := by rw [List.length_reverse, List.length_take, Nat.min_eq_left k1]
  refine Wsz (fun hz => ?_)
  have hH := H_size hsz h0 hP hS hz
  rw [split_st G n st]
  refine call_go (fun _ _ _ h => h) (va_runS (As := (st.take n).reverse.map (tv G)) (rest := (st.drop n).map (tv G)) (n := n) ⟨Cc.1, Cc.2.1, Cc.2.2.1, Cc.2.2.2.1, hK.hts args⟩ hctr ⟨cb_callB hcb hK hl (by omega) (by omega), hK.word hst rfl _⟩ ⟨ctr_blind, fun U hU hW => ⟨rfl, hK.atH hS hU hW, by rw [hU]; exact hH, by rw [hU]; exact hP⟩⟩ rfl (by rw [List.length_map]; exact hlen) hl2.2.1 rfl (by show 2 * 0 + _ ≤ 8; rw [cs_map hK.gz]; omega) hdg ⟨by omega, by omega⟩) hS (fun H1 locs1 hP1 hS1 => ?_)
  have := kk H1 locs1 ls hl2 hP1 hS1
  rw [psh_map] at this
  rw [show M.1 - n0 + (M'.1 - M.1) = M'.1 - n0 by omega, show slS M.1 - slS n0 + (slS M'.1 - slS M.1) = slS M'.1 - slS n0 by omega]
  exact this
theorem sk_sN {m2 n j : Nat} {host : String} (hcb : CB m2 n) (hh2 : ht m2 + 1 ≤ hh) (hl : Cond.methodLinkNest own j (mtn m2) host ∈ nsL) (hst : Cond.static (mtn m2) ∈ lw_tbl) (hdg : decode cc pc = .ok (.invokestatic j, 3)) : SdK X cc own nL rt mn hh pc (m2, n, pc + 3, 0) := by
  refine ⟨hcb.1, hh2, ?_⟩
  intro G n0 p l e R s m args below meth cd Q Cc la st M v M' hok hctr h0 hmm hc hs kk H locs ls hl2 hP hS
  obtain ⟨k1, k2, k3⟩ := cok_sp hok
  dsimp only at k1 k2 k3 hctr kk
  have hsz := Cc.2.2.2.2.2.2.2.2.1
  have hfr := Cc.2.2.2.2.2.2.2.2.2.1
  have hlo := Cc.2.2.2.2.2.2.2.2.2.2.1
  have hK := Cc.2.2.2.2.2.2.2.1
  have hsl := slS_le h0
  have hsl2 := slS_le hmm
  have hlen : (st.take n).reverse.length = n := by rw [List.length_reverse, List.length_take, Nat.min_eq_left k1]
  refine Wsz (fun hz => ?_)
  have hH := H_size hsz h0 hP hS hz
  rw [split_st G n st]
  refine call_go (fun _ _ _ h => h) (va_runSN (As := (st.take n).reverse.map (tv G)) (rest := (st.drop n).map (tv G)) (n := n) ⟨Cc.1, Cc.2.1, Cc.2.2.1, Cc.2.2.2.1, hK.hts args⟩ hctr ⟨cb_CN hcb hK hl (by omega) (by omega), hK.word hst rfl _, trivial⟩ ⟨ctr_blind, fun U hU hW => ⟨rfl, hK.atH hS hU hW, by rw [hU]; exact hH, by rw [hU]; exact hP⟩⟩ rfl (by rw [List.length_map]; exact hlen) hl2.2.1 rfl (by show 2 * 0 + _ ≤ 8; rw [cs_map hK.gz]; omega) hdg ⟨by omega, by omega⟩) hS (fun H1 locs1 hP1 hS1 => ?_)
  have := kk H1 locs1 ls hl2 hP1 hS1
  rw [psh_map] at this
  rw [show M.1 - n0 + (M'.1 - M.1) = M'.1 - n0 by omega, show slS M.1 - slS n0 + (slS M'.1 - slS M.1) = slS M'.1 - slS n0 by omega]
  exact this
theorem sk_i {m2 n j c : Nat} {C : String} (hcb : CB m2 n) (hh2 : ht m2 + 1 ≤ hh) (hC : c ≠ 99 ∧ ∃ T N, vwCl[c]? = some (C, T, N)) (hrt : rty m2 = none) (hnm : (mtn m2).name = "<init>") (hl : Cond.methodLink own j (mtn m2) ∈ lw_tbl) (hi : Cond.instanceMethod (mtn m2) ∈ lw_tbl) (hdg : decode cc pc = .ok (.invokespecial j, 3)) : SdK X cc own nL rt mn hh pc (m2, n + 1, pc + 3, c + 1) := by
  refine ⟨hcb.1, hh2, ?_⟩
  intro G n0 p l e R s m args below meth cd Q Cc la st M v M' hok hctr h0 hmm hc hs kk H locs ls hl2 hP hS
  obtain ⟨k1, k2, k3⟩ := cok_sp hok
  dsimp only at k1 k2 k3 hctr kk
  obtain ⟨r, as', e1, e2⟩ := rco_sp k2
  have hsz := Cc.2.2.2.2.2.2.2.2.1
  have hfr := Cc.2.2.2.2.2.2.2.2.2.1
  have hlo := Cc.2.2.2.2.2.2.2.2.2.2.1
  have hK := Cc.2.2.2.2.2.2.2.1
  have hsl := slS_le h0
  have hsl2 := slS_le hmm
  obtain ⟨hr95, -⟩ := recv_at hK hP hS (Or.inr hC) e2
  have hlen : as'.length = n := by
    have := congrArg List.length e1
    rw [List.length_reverse, List.length_take, List.length_cons, Nat.min_eq_left k1] at this
    omega
  refine Wsz (fun hz => ?_)
  have hH := H_size hsz h0 hP hS hz
  rw [split_st G (n + 1) st, e1]
  rw [e1] at hctr
  unfold Ctr at hctr
  rw [List.map_cons, tv_ref hr95] at hctr ⊢
  rw [List.reverse_cons, List.append_assoc]
  have hcb2 := cb_callB (mc := M'.1 - M.1) (ms := slS M'.1 - slS M.1) (R := R) (args := args) hcb hK hl (by omega) (by omega)
  rw [hrt] at hcb2 hctr
  refine call_go (fun _ _ _ h => h) (va_runI (As := as'.map (tv G)) (rest := (st.drop (n + 1)).map (tv G)) (n := n) ⟨Cc.1, Cc.2.1, Cc.2.2.1, Cc.2.2.2.1, hK.hts args⟩ hctr ⟨hcb2, hnm, hK.word hi rfl _⟩ ⟨?_, fun U hU hW => ⟨rfl, hK.atH hS hU hW, by rw [hU]; exact hH, by rw [hU]; exact hP⟩⟩ rfl (by rw [List.length_map]; exact hlen) hl2.2.1 rfl (by show 2 * 0 + _ ≤ 8; rw [cs_map hK.gz]; omega) hdg ⟨by omega, by omega⟩) hS (fun H1 locs1 hP1 hS1 => ?_)
  · exact fun a U g mk q => by
      obtain ⟨q0, q1, q2, q3⟩ := q
      exact ⟨q0, q1.same rfl rfl, q2, q3⟩
  · have := kk H1 locs1 ls hl2 hP1 hS1
    rw [psh_map] at this
    rw [show M.1 - n0 + (M'.1 - M.1) = M'.1 - n0 by omega, show slS M.1 - slS n0 + (slS M'.1 - slS M.1) = slS M'.1 - slS n0 by omega]
    exact this
theorem sk_iN {m2 n j c : Nat} {C host : String} (hcb : CB m2 n) (hh2 : ht m2 + 1 ≤ hh) (hC : c ≠ 99 ∧ ∃ T N, vwCl[c]? = some (C, T, N)) (hrt : rty m2 = none) (hnm : (mtn m2).name = "<init>") (hl : Cond.methodLinkNest own j (mtn m2) host ∈ nsL) (hi : Cond.instanceMethod (mtn m2) ∈ lw_tbl) (hdg : decode cc pc = .ok (.invokespecial j, 3)) : SdK X cc own nL rt mn hh pc (m2, n + 1, pc + 3, c + 1) := by
  refine ⟨hcb.1, hh2, ?_⟩
  intro G n0 p l e R s m args below meth cd Q Cc la st M v M' hok hctr h0 hmm hc hs kk H locs ls hl2 hP hS
  obtain ⟨k1, k2, k3⟩ := cok_sp hok
  dsimp only at k1 k2 k3 hctr kk
  obtain ⟨r, as', e1, e2⟩ := rco_sp k2
  have hsz := Cc.2.2.2.2.2.2.2.2.1
  have hfr := Cc.2.2.2.2.2.2.2.2.2.1
  have hlo := Cc.2.2.2.2.2.2.2.2.2.2.1
  have hK := Cc.2.2.2.2.2.2.2.1
  have hsl := slS_le h0
  have hsl2 := slS_le hmm
  obtain ⟨hr95, -⟩ := recv_at hK hP hS (Or.inr hC) e2
  have hlen : as'.length = n := by
    have := congrArg List.length e1
    rw [List.length_reverse, List.length_take, List.length_cons, Nat.min_eq_left k1] at this
    omega
  refine Wsz (fun hz => ?_)
  have hH := H_size hsz h0 hP hS hz
  rw [split_st G (n + 1) st, e1]
  rw [e1] at hctr
  unfold Ctr at hctr
  rw [List.map_cons, tv_ref hr95] at hctr ⊢
  rw [List.reverse_cons, List.append_assoc]
  have hcb2 := cb_CN (mc := M'.1 - M.1) (ms := slS M'.1 - slS M.1) (R := R) (args := args) hcb hK hl (by omega) (by omega)
  rw [hrt] at hcb2 hctr
  refine call_go (fun _ _ _ h => h) (va_runIN (As := as'.map (tv G)) (rest := (st.drop (n + 1)).map (tv G)) (n := n) ⟨Cc.1, Cc.2.1, Cc.2.2.1, Cc.2.2.2.1, hK.hts args⟩ hctr ⟨hcb2, hnm, hK.word hi rfl _⟩ ⟨?_, fun U hU hW => ⟨rfl, hK.atH hS hU hW, by rw [hU]; exact hH, by rw [hU]; exact hP⟩⟩ rfl (by rw [List.length_map]; exact hlen) hl2.2.1 rfl (by show 2 * 0 + _ ≤ 8; rw [cs_map hK.gz]; omega) hdg ⟨by omega, by omega⟩) hS (fun H1 locs1 hP1 hS1 => ?_)
  · exact fun a U g mk q => by
      obtain ⟨q0, q1, q2, q3⟩ := q
      exact ⟨q0, q1.same rfl rfl, q2, q3⟩
  · have := kk H1 locs1 ls hl2 hP1 hS1
    rw [psh_map] at this
    rw [show M.1 - n0 + (M'.1 - M.1) = M'.1 - n0 by omega, show slS M.1 - slS n0 + (slS M'.1 - slS M.1) = slS M'.1 - slS n0 by omega]
    exact this
end CALL
