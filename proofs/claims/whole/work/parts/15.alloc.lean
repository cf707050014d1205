/-! THE ROWS THAT MAKE CELLS, COPY, RETURN AND CALL -/
theorem nm_out {i : Nat} (h : 84 ≤ i) : nm i = (99, 0, 0) := by
  unfold nm
  rw [List.getD_eq_getElem?_getD, List.getElem?_eq_none (by rw [show nmL.length = 84 by decide +kernel]; exact h)]
  rfl
theorem nm_lt {i k n : Nat} (h : shp (nm i) = (k, n)) (hk : k < 9) : i < 84 := by
  rcases Nat.lt_or_ge i 84 with q | q
  · exact q
  · rw [nm_out q] at h
    have : (9, 0) = (k, n) := h
    cases this
    omega
theorem idx_nm : ∀ i, i < 84 → idx (nm i) = i := by decide +kernel
theorem alc_q {G : aG} {M : aM} {H1 : Heap} {q : Nat} {e : va_E} (hP1 : va_P (gC G, gI G) vwCl (wl G M ++ [(q, e)]) H1) (hD1 : va_D (gF G) (wl G M ++ [(q, e)])) (hz : H1.size ≤ gB G + M.1 + 1) : q = gB G + M.1 := by
  have hat : (wl G M ++ [(q, e)])[M.1]? = some (q, e) := by
    rw [List.getElem?_append_right (by rw [wl_len]; exact Nat.le_refl _), wl_len, Nat.sub_self]
    rfl
  have h1 : q < H1.size := (hP1 M.1 (q, e) hat).lt
  have h2 : gB G ≤ q := hD1.2 M.1 (q, e) hat
  rcases Nat.lt_or_ge q (gB G + M.1) with h | h
  · have hi : q - gB G < M.1 := by omega
    have hat2 : (wl G M ++ [(q, e)])[q - gB G]? = some (gB G + (q - gB G), ce G M (nm (q - gB G))) := by
      rw [List.getElem?_append_left (by rw [wl_len]; exact hi), wl_at hi]
    have := hD1.1 (q - gB G) M.1 _ _ hat2 hat (by show gB G + (q - gB G) = q; omega)
    omega
  · omega
theorem tv_nm {G : aG} {i : Nat} (h : i < 84) : tv G (aR (nm i)) = .ref (gB G + i) := by
  have ht := nm_tag i h
  rw [tv_ref (by omega)]
  unfold mu
  rw [if_pos ht, idx_nm i h]
section ALC
variable {X : aX} {cc : ByteArray} {own : String} {nL : Nat} {rt : Option FieldType} {mn : String} {hh pc : Nat}
theorem alc_go {G : aG} {n0 : Nat} {p : Program} {l : Launch} {e : Env} {R : Room} {s : State} {m : MethodId} {args : Array Value} {below : List Frame} {meth : Method} {c : Code} {Q : State → Prop} (C : Cx G X cc own nL rt mn hh n0 p R s m meth c) {la : aLs} {rest : List aV} {M : aM} (h84 : M.1 < 84) (h0 : n0 ≤ M.1) {nx N q : Nat} {ls : Array Slot} {H1 : Heap} {locs : List Loc} (hN : slz M.1 = N)
    (kk : Ok G nL n0 p l e R s m args below meth c Q nx la (aR (nm M.1) :: rest) (alc M)) (hl : lvR G ls nL la) (hP1 : va_P (gC G, gI G) vwCl (wl G M ++ [(q, ce G (alc M) (nm M.1))]) H1) (hD1 : va_D (gF G) (wl G M ++ [(q, ce G (alc M) (nm M.1))])) (hS1 : va_S (gF G) s.heap H1 locs) :
    W p l e R s m args below meth c H1 locs (M.1 - n0 + 1) (slS M.1 - slS n0 + N) Q (F0 m nx ls (.ref q :: rest.map (tv G))) := by
  have hsl := slS_le h0
  have e1 : M.1 - n0 + 1 = (alc M).1 - n0 := by show _ = M.1 + 1 - n0; omega
  have e2 : slS M.1 - slS n0 + N = slS (alc M).1 - slS n0 := by
    show _ = slS M.1 + slz M.1 - slS n0
    omega
  refine Wsz (fun hz => ?_)
  have hsz := C.2.2.2.2.2.2.2.2.1
  have hq : q = gB G + M.1 := alc_q hP1 hD1 (by omega)
  rw [hq, wl_new h84] at hP1
  have k1 := kk H1 locs ls hl hP1 hS1
  rw [List.map_cons, tv_nm h84] at k1
  rw [e1, e2, hq]
  exact k1
theorem sc_new {j ci : Nat} {C : String} {T : u_T} {N : Nat} {ty0 : Nat → FieldType} (hc : vwCl[ci]? = some (C, T, N)) (hN : nfL.getD ci 0 = N) (hin : ∀ w ∈ u_ws C T N, w ∈ gTb) (hty : ∀ k, k < N → parseFieldDescriptor (T k).2.2.1 = some (ty0 k)) (hft : ∀ k, k < N → defaultValue (ty0 k) = if (ftL.getD ci []).getD k 0 = 2 then .null else .int 0)
    (hw : Cond.classLink own j C ∈ lw_tbl) (hw2 : Cond.instantiable C N ∈ lw_tbl) (hw3 : Cond.initialized C ∈ lw_tbl) (hdg : decode cc pc = .ok (.new j, 3)) : SdC X cc own nL rt mn hh pc (i_new ci (pc + 3)) := by
  intro G n0 p l e R s m args below meth c Q C la st M pc' la' st' M' h h0 h84' hc' hs kk H locs ls hl hP hS
  unfold i_new at h
  split at h
  · rename_i hsh
    cases h
    have h84 := nm_lt hsh (by omega)
    have hsz := C.2.2.2.2.2.2.2.2.1
    have hsl := slS_le h0
    have hz : slz M.1 = N := by unfold slz; rw [hsh]; exact hN
    have hs' : slS M.1 + slz M.1 - slS n0 ≤ R.slots := hs
    have hc'' : M.1 + 1 - n0 ≤ R.cells := hc'
    have ec : ce G (alc M) (nm M.1) = .inr (ci, (List.range N).map (fun k => tv G (dfl (nm M.1) k))) := by
      rw [ce_obj hsh, hN]
      congr 2
      apply List.map_congr_left
      intro k _
      show tv G (if nm M.1 = nm M.1 then dfl (nm M.1) k else _) = _
      rw [if_pos rfl]
    refine va_new C.1 C.2.1 (C.2.2.2.2.2.2.2.1.hts args) hin ty0 hty C.2.2.2.1 (C.2.2.2.2.2.2.2.1.word hw rfl _) (C.2.2.2.2.2.2.2.1.word hw2 rfl _) (C.2.2.2.2.2.2.2.1.word hw3 rfl _) C.2.2.2.2.2.2.2.1.1 hP (wl_D G M) hS (fun q hq => Nat.le_trans (by omega) hq) hc (fs := (List.range N).map (fun k => tv G (dfl (nm M.1) k))) (fun k hk => ?_) (by omega) (by omega) hdg (fun q H1 hP1 hD1 hS1 => ?_)
    · have e3 : vp_V ((List.range N).map (fun k => tv G (dfl (nm M.1) k))) k = tv G (dfl (nm M.1) k) := by
        unfold vp_V
        rw [List.getD_eq_getElem?_getD, List.getElem?_map, List.getElem?_range hk]
        rfl
      rw [hft k hk, e3]
      unfold dfl
      rw [hsh]
      show _ = tv G (if (ftL.getD ci []).getD k 0 = 2 then aN else aI 0)
      by_cases h2 : (ftL.getD ci []).getD k 0 = 2
      · rw [if_pos h2, if_pos h2]
        rfl
      · rw [if_neg h2, if_neg h2]
        rfl
    · rw [← ec] at hP1 hD1
      exact alc_go C h84 h0 hz kk hl hP1 hD1 hS1
  · cases h
theorem sc_nwa (hw : Cond.arrayClass .int ∈ lw_tbl) (hdg : decode cc pc = .ok (.newarray .int, 2)) : SdC X cc own nL rt mn hh pc (i_nwa (pc + 2)) := by
  intro G n0 p l e R s m args below meth c Q C la st M pc' la' st' M' h h0 h84' hc' hs kk H locs ls hl hP hS
  unfold i_nwa at h
  split at h
  · rename_i x rest
    split at h
    · rename_i hg
      obtain ⟨hx, hsh⟩ := hg
      cases h
      have h84 := nm_lt hsh (by omega)
      have hsz := C.2.2.2.2.2.2.2.2.1
      have hsl := slS_le h0
      have hz : slz M.1 = x.toNatClampNeg := by unfold slz; rw [hsh]; rfl
      have hs' : slS M.1 + slz M.1 - slS n0 ≤ R.slots := hs
      have hc'' : M.1 + 1 - n0 ≤ R.cells := hc'
      have hle : x.toNatClampNeg ≤ 720 := by
        have key : ∀ i, i < 84 → (shp (nm i)).2 ≤ 720 := by decide +kernel
        have := key M.1 h84
        rw [hsh] at this
        exact this
      have ec : ce G (alc M) (nm M.1) = .inl (gA G 1, x.toNatClampNeg, .inl (fun _ => 0)) := by
        rw [ce_int hsh]
        congr 4
        funext k
        show iv (if nm M.1 = nm M.1 then dfl (nm M.1) k else _) = _
        rw [if_pos rfl]
        unfold dfl
        rw [hsh]
        rfl
      refine va_newa (atype := .int) C.1 C.2.1 (C.2.2.2.2.2.2.2.1.word hw rfl _) rfl C.2.2.2.2.2.2.2.1.1 hP (wl_D G M) hS (fun q hq => Nat.le_trans (by omega) hq) (a0 := (x.toNatClampNeg, .inl (fun _ => 0))) (fun _ => rfl) hx rfl (by show _ * 4 ≤ _; omega) (by omega) (by omega) hdg (fun q cA H1 hK1 hP1 hD1 hS1 => ?_)
      have hA : cA = gA G 1 := by
        have a1 := (hK1.2 4 (cA, .int) rfl).2
        have a2 := (hK1.2 0 (gA G 1, .int) rfl).2
        exact Option.some.inj (a1.symm.trans a2)
      rw [hA, ← ec] at hP1 hD1
      exact alc_go C h84 h0 hz kk hl hP1 hD1 hS1
    · cases h
  · cases h
theorem sc_nwq {j kd : Nat} {E : String} (hty : ∀ G : aG, (tyL G)[kd + 1]? = some (gA G (kd + 2), .object E)) (hkd : kd < 3) (hao : ∀ (G : aG) (U : State), Kn G X U → va_AO E U) (hw : Cond.classLink own j E ∈ lw_tbl) (hdg : decode cc pc = .ok (.anewarray j, 3)) : SdC X cc own nL rt mn hh pc (i_nwq (kd + 2) (pc + 3)) := by
  intro G n0 p l e R s m args below meth c Q C la st M pc' la' st' M' h h0 h84' hc' hs kk H locs ls hl hP hS
  unfold i_nwq at h
  split at h
  · rename_i x rest
    split at h
    · rename_i hg
      obtain ⟨hx, hsh, -⟩ := hg
      cases h
      have h84 := nm_lt hsh (by omega)
      have hsz := C.2.2.2.2.2.2.2.2.1
      have hsl := slS_le h0
      have hz : slz M.1 = x.toNatClampNeg := by unfold slz; rw [hsh]; rfl
      have hs' : slS M.1 + slz M.1 - slS n0 ≤ R.slots := hs
      have hc'' : M.1 + 1 - n0 ≤ R.cells := hc'
      have hle : x.toNatClampNeg ≤ 720 := by
        have key : ∀ i, i < 84 → (shp (nm i)).2 ≤ 720 := by decide +kernel
        have := key M.1 h84
        rw [hsh] at this
        exact this
      have ec : ce G (alc M) (nm M.1) = .inl (gA G (kd + 2), x.toNatClampNeg, .inr (.inr (.inr (.inr (fun _ => none))))) := by
        rw [ce_ref hsh]
        congr 7
        funext k
        show rv G (if nm M.1 = nm M.1 then dfl (nm M.1) k else _) = _
        rw [if_pos rfl]
        unfold dfl
        rw [hsh]
        rfl
      refine va_newq C.1 C.2.1 C.2.2.2.1 (C.2.2.2.2.2.2.2.1.word hw rfl _) (hao G s C.2.2.2.2.2.2.2.1) C.2.2.2.2.2.2.2.1.1 hP (wl_D G M) hS (fun q hq => Nat.le_trans (by omega) hq) hx rfl (by omega) (by omega) (by omega) hdg (fun q cA H1 hK1 hP1 hD1 hS1 => ?_)
      have hA : cA = gA G (kd + 2) := by
        have a1 := (hK1.2 4 (cA, .object E) rfl).2
        have a2 := (C.2.2.2.2.2.2.2.1.1.2 (kd + 1) (gA G (kd + 2), .object E) (hty G)).2
        obtain ⟨_, _, _, _, _, b1⟩ := a1
        obtain ⟨_, _, _, _, _, b2⟩ := a2
        exact Option.some.inj (b1.symm.trans b2)
      rw [hA, ← ec] at hP1 hD1
      exact alc_go C h84 h0 hz kk hl hP1 hD1 hS1
    · cases h
  · cases h
/-- arraycopy out of an array of constants -/
theorem cp_const {p : Program} {l : Launch} {e : Env} {R : Room} {s : State} {m : MethodId} {args : Array Value} {below : List Frame} {meth : Method} {c : Code} {H : Heap} {locs : List Loc} {cells slots : Nat} {Q : State → Prop} {ls : Array Slot} {rest : List Value} {D : va_G} {cl : List vw_C} {A : Nat → Prop} {a : Nat} {tys : List (ClassId × FieldType)} {ws : va_W}
    (hexec : p.tables.exec = Jvm.exec) (hb : c.code = cc) (hml : c.maxLocals = ls.size) {index : Nat} (hown : s.vm.findClass own = some m.cls) (hlink : (Cond.methodLink own index arraycopyName).before args s = true) (hnat : (Cond.native arraycopyName).before args s = true) (hstat : (Cond.static arraycopyName).before args s = true) (hini : (Cond.initialized "java/lang/System").before args s = true)
    (hK : va_K D cl tys s) (hP : va_P D cl ws H) (hD : va_D A ws) (hS : va_S A s.heap H locs) {b0 n0 : Nat} {f : Nat → Int32} (hX : va_T .int b0 n0 (fun j => .int (f j)) A s s.heap) (q1 t1 : Nat) {c1 : ClassId} {n1 : Nat} {g : Nat → Int32} (ha1 : ws[q1]? = some (a, .inl (c1, n1, .inl g))) (ht1 : tys[t1]? = some (c1, .int))
    {sp dp n : Int32} (h1 : ¬ sp < 0) (h2 : ¬ dp < 0) (h3 : ¬ n < 0) (h4 : sp.toNatClampNeg + n.toNatClampNeg ≤ n0) (h5 : dp.toNatClampNeg + n.toNatClampNeg ≤ n1) (hframes : 1 ≤ R.frames) (hlocals : (rest.map fun v => v.category).sum + (nativeFrameWords "java/lang/System" "arraycopy" 5 + 11) ≤ R.locals) (hdg : decode cc pc = .ok (.invokestatic index, 3))
    (kk : ∀ (H1 : Heap) (locs1 : List Loc), va_P D cl (ws.set q1 (a, .inl (c1, n1, .inl (va_cpy f g sp.toNatClampNeg dp.toNatClampNeg n.toNatClampNeg)))) H1 → va_S A s.heap H1 locs1 → W p l e R s m args below meth c H1 locs1 cells slots Q (F0 m (pc + 3) ls rest)) : W p l e R s m args below meth c H locs cells slots Q (F0 m pc ls (.int n :: .int dp :: .ref a :: .int sp :: .ref b0 :: rest)) := by
  have nn : ∀ z : Int32, ¬ z < 0 → z.toInt = (z.toNatClampNeg : Int) := by
    intro z hz
    have hz0 : (0 : Int) ≤ z.toInt := by
      have := Int32.not_lt.mp hz
      simpa using Int32.le_iff_toInt_le.mp this
    show z.toInt = ((z.toInt.toNat : Nat) : Int)
    omega
  intro T hT X1
  obtain ⟨sc, b1, ⟨b6, k0, hk0, cm0, hkk0⟩, b3, b4, -, b5, b7⟩ := hX
  have hc0 : H[b0]? = some sc := by rw [hS.2.1 b0 (Array.getElem?_eq_some_iff.mp b1).1 b7]; exact b1
  have hc1 : H[a]? = some (vp_cell c1 (n1, .inl g)) := hP q1 _ ha1
  have hl : a < H.size := (Array.getElem?_eq_some_iff.mp hc1).1
  obtain ⟨-, k1, hk1, cm1, hkk1⟩ := (hK.2 t1 _ ht1).1 n1 (fun j => .int (g j))
  have hget : ∀ i, i < n.toNatClampNeg → sc.slots.getD (sp.toNatClampNeg + i) .null = .int (f (sp.toNatClampNeg + i)) := fun i hi => by
    rw [Array.getD_eq_getD_getElem?, b5 _ (by omega)]
    rfl
  have hsz1 : ((vp_cell c1 (n1, .inl g)).slots.size : Int) = n1 := by
    show ((arrV c1 n1 (fun j => .int (g j))).slots.size : Int) = n1
    rw [arrV_size]
  obtain ⟨vm', X2, step⟩ := X1.arraycopy hexec hown hlink hnat hstat hini (src := b0) (dst := a) (cs := sc) (cd := vp_cell c1 (n1, .inl g)) (srcPos := sp) (destPos := dp) (n := n) (by rw [hT]; exact hc0) (by rw [hT]; exact hc1) b6 (fun _ h => by cases h) b3 (fun h => by cases h) hk0 hk1 hkk0 hkk1 (by simp [refKind]) h1 h2 h3
    (by rw [nn sp h1, nn n h3]; omega) (by rw [nn dp h2, nn n h3, hsz1]; omega) (fun vm₁ _ i hi => ⟨by rw [hget i hi]; rfl, by rw [hget i hi]; exact trivial⟩)
    (g := F0 m pc ls (.int n :: .int dp :: .ref a :: .int sp :: .ref b0 :: rest)) rfl (by rw [hml]) (rest := rest) rfl (by rw [hb]; exact hdg) hframes (by show 2 * 0 + _ + _ ≤ _; omega)
  rw [show copied sc (vp_cell c1 (n1, .inl g)) sp dp n = vp_cell c1 (n1, .inl (va_cpy f g sp.toNatClampNeg dp.toNatClampNeg n.toNatClampNeg)) from va_copiedX (fun z => .int z) sc c1 f g b5 h4] at X2 step
  generalize hnew : vp_cell c1 (n1, .inl (va_cpy f g sp.toNatClampNeg dp.toNatClampNeg n.toNatClampNeg)) = new at X2 step
  have oq : ∀ q : Nat, q ≠ a → (H.setIfInBounds a new)[q]? = H[q]? := fun q hq => by simp [Array.getElem?_setIfInBounds, Ne.symm hq]
  have hself : (H.setIfInBounds a new)[a]? = some new := by simp [Array.getElem?_setIfInBounds, hl]
  have hheap : ((T.setVm vm').setCell a new).heap = H.setIfInBounds a new := by rw [← hT]; rfl
  have hS2 : va_S A s.heap (H.setIfInBounds a new) (locs ++ (sc.stretch sp.toNatClampNeg n.toNatClampNeg).zipIdx.map fun q => ⟨a, dp.toNatClampNeg + q.2⟩) := by
    refine ⟨by simp; exact hS.1, fun q g1 g2 => by rw [oq q (fun z => g2 (by rw [z]; exact hD.2 q1 _ ha1))]; exact hS.2.1 q g1 g2, fun q hq => ?_⟩
    rcases List.mem_append.mp hq with h | h
    · exact hS.2.2 q h
    · obtain ⟨z, -, hz⟩ := List.mem_map.mp h
      rw [← hz]
      exact hD.2 q1 _ ha1
  obtain ⟨t, a1, a2⟩ := kk _ _ (hP.set hD ha1 (show (H.setIfInBounds a new)[a]? = some (vp_cell _ _) by rw [hnew]; exact hself) oq) hS2 _ hheap X2
  exact ⟨t, step t a1, a2⟩
theorem sc_acp {j : Nat} (hw : Cond.methodLink own j arraycopyName ∈ lw_tbl) (hw2 : Cond.native arraycopyName ∈ lw_tbl) (hw3 : Cond.static arraycopyName ∈ lw_tbl) (hw4 : Cond.initialized "java/lang/System" ∈ lw_tbl) (hdg : decode cc pc = .ok (.invokestatic j, 3)) : SdC X cc own nL rt mn hh pc (i_acp X (pc + 3)) := by
  intro G n0 p l e R s m args below meth c Q C la st M pc' la' st' M' h h0 h84' hc' hs kk H locs ls hl hP hS
  unfold i_acp at h
  split at h
  · rename_i n dp d sp sr rest
    split at h
    · rename_i n2 hn
      split at h
      · rename_i hg
        cases h
        simp only [Bool.and_eq_true, decide_eq_true_eq, beq_iff_eq] at hg
        obtain ⟨⟨⟨⟨⟨⟨⟨⟨⟨g1, g2⟩, g3⟩, g4⟩, g5⟩, g6⟩, g7⟩, g8⟩, g9⟩, g10⟩ := hg
        have hz := C.2.2.2.2.2.2.2.1.gz
        have c1 := C.2.2.2.2.2.2.2.2.2.1
        have c2 := C.2.2.2.2.2.2.2.2.2.2.1
        have c3 := C.2.2.2.2.2.2.2.2.2.2.2
        have hloc : ((st'.map (tv G)).map fun v => v.category).sum + (nativeFrameWords "java/lang/System" "arraycopy" 5 + 11) ≤ R.locals := by
          rw [cs_map hz, show nativeFrameWords "java/lang/System" "arraycopy" 5 = 7 by decide +kernel]
          omega
        have hatd := wl_vld (G := G) g3 g2
        rw [ce_int (shp_eq g4)] at hatd
        have key : ∀ (H1 : Heap) (locs1 : List Loc), va_P (gC G, gI G) vwCl ((wl G M).set (idx d) (mu G d, .inl (gA G 1, (shp d).2, .inl (va_cpy (fun i => ard X M sr i) (fun i => iv (M.2 d i)) sp.toNatClampNeg dp.toNatClampNeg n.toNatClampNeg)))) H1 → va_S (gF G) s.heap H1 locs1 → W p l e R s m args below meth c H1 locs1 (M.1 - n0) (slS M.1 - slS n0) Q (F0 m (pc + 3) ls (st'.map (tv G))) := by
          intro H1 locs1 hP1 hS1
          have e2 := wl_set (G := G) (M := M) (M' := cpM X M sr sp.toNatClampNeg d dp.toNatClampNeg n.toNatClampNeg) g3 g2 h84' rfl (fun q hq i => by simp [cpM, hq])
          rw [ce_int (shp_eq g4), show (fun i => iv ((cpM X M sr sp.toNatClampNeg d dp.toNatClampNeg n.toNatClampNeg).2 d i)) = va_cpy (fun i => ard X M sr i) (fun i => iv (M.2 d i)) sp.toNatClampNeg dp.toNatClampNeg n.toNatClampNeg by
            funext i
            by_cases hi : dp.toNatClampNeg ≤ i ∧ i < dp.toNatClampNeg + n.toNatClampNeg
            · simp [cpM, va_cpy, hi, iv]
            · simp [cpM, va_cpy, hi]] at e2
          rw [e2] at hP1
          exact kk H1 locs1 ls hl hP1 hS1
        rw [List.map_cons, List.map_cons, List.map_cons, List.map_cons, List.map_cons, tv_ref (r := d) (by omega), tv_ref (r := sr) (by omega)]
        unfold aln at hn
        split at hn
        · rename_i hr
          split at hn
          · rename_i hv
            cases hn
            simp only [Bool.and_eq_true, beq_iff_eq] at hv
            have hats := wl_vld (G := G) hv.1 hr
            rw [ce_int (shp_eq hv.2), show (fun j => iv (M.2 sr j)) = fun i => ard X M sr i by funext i; unfold ard; rw [if_pos hr]] at hats
            exact va_copyi C.1 C.2.1 (C.2.2.1.trans hl.2.1.symm) C.2.2.2.1 (C.2.2.2.2.2.2.2.1.word hw rfl _) (C.2.2.2.2.2.2.2.1.word hw2 rfl _) (C.2.2.2.2.2.2.2.1.word hw3 rfl _) (C.2.2.2.2.2.2.2.1.word hw4 rfl _) C.2.2.2.2.2.2.2.1.1 hP (wl_D G M) hS (idx sr) (idx d) 0 0 hats hatd (ty := .int) rfl rfl rfl g5 g6 g7 g8 g9 (fun i _ => rfl) (by omega) hloc hdg (fun H1 locs1 hP1 _ hS1 => key H1 locs1 hP1 hS1)
          · cases hn
        · rename_i hr
          rcases cln_sp hn with ⟨i, hi, rfl, rfl⟩ | ⟨rfl, -⟩
          · have hT := (C.2.2.2.2.2.2.2.1.2.2.2.2.2.2.1 i hi).2
            exact cp_const C.1 C.2.1 (C.2.2.1.trans hl.2.1.symm) C.2.2.2.1 (C.2.2.2.2.2.2.2.1.word hw rfl _) (C.2.2.2.2.2.2.2.1.word hw2 rfl _) (C.2.2.2.2.2.2.2.1.word hw3 rfl _) (C.2.2.2.2.2.2.2.1.word hw4 rfl _) C.2.2.2.2.2.2.2.1.1 hP (wl_D G M) hS (f := fun k => ard X M (82, i, 0) k) hT (idx d) 0 hatd rfl g5 g6 g7 g8 g9 (by omega) hloc hdg key
          · exact absurd g1 (by decide)
      · cases h
    · cases h
  · cases h
end ALC
/-- the ends -/
def SdR (X : aX) (cc : ByteArray) (own : String) (nL : Nat) (rt : Option FieldType) (mn : String) (hh pc : Nat) (g : rT) : Prop :=
  ∀ (G : aG) (n0 : Nat) (p : Program) (l : Launch) (e : Env) (R : Room) (s : State) (m : MethodId) (args : Array Value) (below : List Frame) (meth : Method) (c : Code) (Qc : Array Value → State → Outcome → State → Prop), Cx G X cc own nL rt mn hh n0 p R s m meth c →
    ∀ (st : List aV) (M : aM) (v : Option aV) (M' : aM), g st M = some (v, M') → M' = M ∧ ∀ (H : Heap) (locs : List Loc) (ls : Array Slot), va_S (gF G) s.heap H locs → (∀ t : State, t.heap = H → s.WarmedH t.vm → Qc args s (.returned (v.map (tv G))) t) →
      W p l e R s m args below meth c H locs (M.1 - n0) (slS M.1 - slS n0) (MQ below Qc args s (M.1 - n0) (slS M.1 - slS n0) (gF G)) (F0 m pc ls (st.map (tv G)))
section RET
variable {X : aX} {cc : ByteArray} {own : String} {nL : Nat} {mn : String} {hh pc : Nat}
theorem sr_irt (hdg : decode cc pc = .ok (.ireturn, 1)) : SdR X cc own nL (some .int) mn hh pc i_irt := by
  intro G n0 p l e R s m args below meth c Qc C st M v M' h
  unfold i_irt at h
  split at h
  · cases h
    exact ⟨rfl, fun H locs ls hS hq => W.iret C.1 C.2.1 C.2.2.2.2.1 hq (fun q hq => hS.2.2 q hq) hdg C.2.2.2.2.2.1⟩
  · cases h
theorem sr_zrt (hdg : decode cc pc = .ok (.ireturn, 1)) : SdR X cc own nL (some .boolean) mn hh pc i_zrt := by
  intro G n0 p l e R s m args below meth c Qc C st M v M' h
  unfold i_zrt at h
  split at h
  · split at h
    · rename_i x hx
      cases h
      have hn : narrow .boolean (.int x) = .int x := by
        rcases hx with rfl | rfl <;> decide +kernel
      exact ⟨rfl, fun H locs ls hS hq => W.zret C.1 C.2.1 C.2.2.2.2.1 hn hq (fun q hq => hS.2.2 q hq) hdg C.2.2.2.2.2.1⟩
    · cases h
  · cases h
theorem sr_nrt {ty : FieldType} (hdg : decode cc pc = .ok (.ireturn, 1)) : SdR X cc own nL (some ty) mn hh pc (i_nrt ty) := by
  intro G n0 p l e R s m args below meth c Qc C st M v M' h
  unfold i_nrt at h
  split at h
  · split at h
    · rename_i x hn
      cases h
      exact ⟨rfl, fun H locs ls hS hq => W.zret C.1 C.2.1 C.2.2.2.2.1 hn hq (fun q hq => hS.2.2 q hq) hdg C.2.2.2.2.2.1⟩
    · cases h
  · cases h
theorem sr_jrt (hdg : decode cc pc = .ok (.lreturn, 1)) : SdR X cc own nL (some .long) mn hh pc i_jrt := by
  intro G n0 p l e R s m args below meth c Qc C st M v M' h
  unfold i_jrt at h
  split at h
  · cases h
    exact ⟨rfl, fun H locs ls hS hq => W.lret C.1 C.2.1 C.2.2.2.2.1 hq (fun q hq => hS.2.2 q hq) hdg C.2.2.2.2.2.1⟩
  · cases h
theorem sr_vrt (hdg : decode cc pc = .ok (.return_, 1)) : SdR X cc own nL none mn hh pc i_vrt := by
  intro G n0 p l e R s m args below meth c Qc C st M v M' h
  unfold i_vrt at h
  split at h
  · cases h
    exact ⟨rfl, fun H locs ls hS hq => W.vret C.1 C.2.1 C.2.2.2.2.1 hq (fun q hq => hS.2.2 q hq) hdg C.2.2.2.2.2.1⟩
  · cases h
theorem sr_art {n : String} (hdg : decode cc pc = .ok (.areturn, 1)) : SdR X cc own nL (some (.object n)) mn hh pc i_art := by
  intro G n0 p l e R s m args below meth c Qc C st M v M' h
  unfold i_art at h
  split at h
  · split at h
    · rename_i r hr
      cases h
      refine ⟨rfl, fun H locs ls hS hq => ?_⟩
      have e1 : (([aR r] : List aV).map (tv G)) = [.ref (mu G r)] := by rw [List.map_cons, tv_ref (by omega)]; rfl
      have e2 : (some (aR r)).map (tv G) = some (.ref (mu G r)) := by rw [Option.map_some, tv_ref (by omega)]
      rw [e1]
      rw [e2] at hq
      exact W.aret C.1 C.2.1 C.2.2.2.2.1 (Or.inl ⟨n, rfl⟩) (Or.inr ⟨_, rfl⟩) hq (fun q hq => hS.2.2 q hq) hdg C.2.2.2.2.2.1
    · cases h
  · cases h
end RET
