/-! THE ROWS: what each function of the abstract machine says of the machine -/
def Cx (G : aG) (X : aX) (cc : ByteArray) (own : String) (nL : Nat) (rt : Option FieldType) (mn : String) (hh n0 : Nat) (p : Program) (R : Room) (s : State) (m : MethodId) (meth : Method) (c : Code) : Prop :=
  p.tables.exec = Jvm.exec ∧ c.code = cc ∧ c.maxLocals = nL ∧ s.vm.findClass own = some m.cls ∧ meth.sig.returnType = rt ∧ meth.locks = false ∧ meth.name = mn ∧ Kn G X s ∧ s.heap.size = gB G + n0 ∧ hh ≤ R.frames ∧ 40 * hh ≤ R.locals ∧ 1 ≤ hh
def Ok (G : aG) (nL n0 : Nat) (p : Program) (l : Launch) (e : Env) (R : Room) (s : State) (m : MethodId) (args : Array Value) (below : List Frame) (meth : Method) (c : Code) (Q : State → Prop) (pc : Nat) (la : aLs) (st : List aV) (M : aM) : Prop :=
  ∀ (H : Heap) (locs : List Loc) (ls : Array Slot), lvR G ls nL la → va_P (gC G, gI G) vwCl (wl G M) H → va_S (gF G) s.heap H locs → W p l e R s m args below meth c H locs (M.1 - n0) (slS M.1 - slS n0) Q (F0 m pc ls (st.map (tv G)))
def MoC (f : cT) : Prop := ∀ la st M c, f la st M = some c → M.1 ≤ c.2.2.2.1 ∧ c.2.2.2.1 ≤ max 84 M.1
def SdC (X : aX) (cc : ByteArray) (own : String) (nL : Nat) (rt : Option FieldType) (mn : String) (hh pc : Nat) (f : cT) : Prop :=
  ∀ (G : aG) (n0 : Nat) (p : Program) (l : Launch) (e : Env) (R : Room) (s : State) (m : MethodId) (args : Array Value) (below : List Frame) (meth : Method) (c : Code) (Q : State → Prop), Cx G X cc own nL rt mn hh n0 p R s m meth c →
    ∀ (la : aLs) (st : List aV) (M : aM) (pc' : Nat) (la' : aLs) (st' : List aV) (M' : aM), f la st M = some (pc', la', st', M') → n0 ≤ M.1 → M.1 ≤ 84 → M'.1 - n0 ≤ R.cells → slS M'.1 - slS n0 ≤ R.slots →
      Ok G nL n0 p l e R s m args below meth c Q pc' la' st' M' → Ok G nL n0 p l e R s m args below meth c Q pc la st M
section INS
variable {X : aX} {cc : ByteArray} {own : String} {nL : Nat} {rt : Option FieldType} {mn : String} {hh pc : Nat}
theorem sc_ldi_n {k : Fin 4} {i : Nat} (hi : (k : Nat) = i) (hdg : decode cc pc = .ok (.iload_n k, 1)) : SdC X cc own nL rt mn hh pc (i_ldi i (pc + 1)) := by
  intro G n0 p l e R s m args below meth c Q C la st M pc' la' st' M' h h0 h84 hc hs k H locs ls hl hP hS
  unfold i_ldi at h
  split at h
  · rename_i x hx
    cases h
    exact lv_iload_n C.1 C.2.1 hdg hi (hl.2.2.2 _ _ hx) (k H locs ls hl hP hS)
  · cases h
theorem sc_ldi {i : Nat} (hdg : decode cc pc = .ok (.iload i, 2)) : SdC X cc own nL rt mn hh pc (i_ldi i (pc + 2)) := by
  intro G n0 p l e R s m args below meth c Q C la st M pc' la' st' M' h h0 h84 hc hs k H locs ls hl hP hS
  unfold i_ldi at h
  split at h
  · rename_i x hx
    cases h
    exact lv_iload C.1 C.2.1 hdg (hl.2.2.2 _ _ hx) (k H locs ls hl hP hS)
  · cases h
theorem sc_ldj_n {k : Fin 4} {i : Nat} (hi : (k : Nat) = i) (hdg : decode cc pc = .ok (.lload_n k, 1)) : SdC X cc own nL rt mn hh pc (i_ldj i (pc + 1)) := by
  intro G n0 p l e R s m args below meth c Q C la st M pc' la' st' M' h h0 h84 hc hs k H locs ls hl hP hS
  unfold i_ldj at h
  split at h
  · rename_i x hx
    cases h
    exact lv_lload_n C.1 C.2.1 hdg hi (hl.2.2.2 _ _ hx) (k H locs ls hl hP hS)
  · cases h
theorem sc_ldj {i : Nat} (hdg : decode cc pc = .ok (.lload i, 2)) : SdC X cc own nL rt mn hh pc (i_ldj i (pc + 2)) := by
  intro G n0 p l e R s m args below meth c Q C la st M pc' la' st' M' h h0 h84 hc hs k H locs ls hl hP hS
  unfold i_ldj at h
  split at h
  · rename_i x hx
    cases h
    exact lv_lload C.1 C.2.1 hdg (hl.2.2.2 _ _ hx) (k H locs ls hl hP hS)
  · cases h
theorem tv_ref {G : aG} {r : aL} (h : r.1 < 95) : tv G (aR r) = .ref (mu G r) := by
  show (if r.1 < 95 then Value.ref (mu G r) else gZ G) = _
  rw [if_pos h]
theorem sc_lda_n {k : Fin 4} {i : Nat} (hi : (k : Nat) = i) (hdg : decode cc pc = .ok (.aload_n k, 1)) : SdC X cc own nL rt mn hh pc (i_lda i (pc + 1)) := by
  intro G n0 p l e R s m args below meth c Q C la st M pc' la' st' M' h h0 h84 hc hs k H locs ls hl hP hS
  unfold i_lda at h
  split at h
  · rename_i r hx
    split at h
    · rename_i hr
      cases h
      have h1 := hl.2.2.2 _ _ hx
      have h2 := k H locs ls hl hP hS
      rw [List.map_cons] at h2
      rw [tv_ref hr] at h1 h2
      exact lv_aload_n C.1 C.2.1 hdg hi h1 h2
    · cases h
  · cases h
theorem sc_lda {i : Nat} (hdg : decode cc pc = .ok (.aload i, 2)) : SdC X cc own nL rt mn hh pc (i_lda i (pc + 2)) := by
  intro G n0 p l e R s m args below meth c Q C la st M pc' la' st' M' h h0 h84 hc hs k H locs ls hl hP hS
  unfold i_lda at h
  split at h
  · rename_i r hx
    split at h
    · rename_i hr
      cases h
      have h1 := hl.2.2.2 _ _ hx
      have h2 := k H locs ls hl hP hS
      rw [List.map_cons] at h2
      rw [tv_ref hr] at h1 h2
      exact lv_aload C.1 C.2.1 hdg h1 h2
    · cases h
  · cases h
theorem sc_sti_n {k : Fin 4} {i : Nat} (hi : (k : Nat) = i) (hdg : decode cc pc = .ok (.istore_n k, 1)) : SdC X cc own nL rt mn hh pc (i_sti i (pc + 1)) := by
  intro G n0 p l e R s m args below meth c Q C la st M pc' la' st' M' h h0 h84 hc hs k H locs ls hl hP hS
  unfold i_sti at h
  split at h
  · split at h
    · rename_i x rest hx
      cases h
      exact lv_istore_n C.1 C.2.1 hdg hi hl.has (by rw [← hl.1]; exact hx) rfl (fun ls' h' => k H locs ls' (hl.st1 (v := aI x) C.2.2.2.2.2.2.2.1.gz h') hP hS)
    · cases h
  · cases h
theorem sc_sti {i : Nat} (hdg : decode cc pc = .ok (.istore i, 2)) : SdC X cc own nL rt mn hh pc (i_sti i (pc + 2)) := by
  intro G n0 p l e R s m args below meth c Q C la st M pc' la' st' M' h h0 h84 hc hs k H locs ls hl hP hS
  unfold i_sti at h
  split at h
  · split at h
    · rename_i x rest hx
      cases h
      exact lv_istore C.1 C.2.1 hdg hl.has (by rw [← hl.1]; exact hx) rfl (fun ls' h' => k H locs ls' (hl.st1 (v := aI x) C.2.2.2.2.2.2.2.1.gz h') hP hS)
    · cases h
  · cases h
theorem sc_sta_n {k : Fin 4} {i : Nat} (hi : (k : Nat) = i) (hdg : decode cc pc = .ok (.astore_n k, 1)) : SdC X cc own nL rt mn hh pc (i_sta i (pc + 1)) := by
  intro G n0 p l e R s m args below meth c Q C la st M pc' la' st' M' h h0 h84 hc hs k H locs ls hl hP hS
  unfold i_sta at h
  split at h
  · split at h
    · rename_i r rest hx
      cases h
      rw [List.map_cons, tv_ref hx.2]
      exact lv_astore_n C.1 C.2.1 hdg hi hl.has (by rw [← hl.1]; exact hx.1) rfl (fun ls' h' => k H locs ls' (hl.st1 (v := aR r) C.2.2.2.2.2.2.2.1.gz (by rw [tv_ref hx.2]; exact h')) hP hS)
    · cases h
  · cases h
theorem sc_sta {i : Nat} (hdg : decode cc pc = .ok (.astore i, 2)) : SdC X cc own nL rt mn hh pc (i_sta i (pc + 2)) := by
  intro G n0 p l e R s m args below meth c Q C la st M pc' la' st' M' h h0 h84 hc hs k H locs ls hl hP hS
  unfold i_sta at h
  split at h
  · split at h
    · rename_i r rest hx
      cases h
      rw [List.map_cons, tv_ref hx.2]
      exact lv_astore C.1 C.2.1 hdg hl.has (by rw [← hl.1]; exact hx.1) rfl (fun ls' h' => k H locs ls' (hl.st1 (v := aR r) C.2.2.2.2.2.2.2.1.gz (by rw [tv_ref hx.2]; exact h')) hP hS)
    · cases h
  · cases h
theorem sc_stj_n {k : Fin 4} {i : Nat} (hi : (k : Nat) = i) (hdg : decode cc pc = .ok (.lstore_n k, 1)) : SdC X cc own nL rt mn hh pc (i_stj i (pc + 1)) := by
  intro G n0 p l e R s m args below meth c Q C la st M pc' la' st' M' h h0 h84 hc hs k H locs ls hl hP hS
  unfold i_stj at h
  split at h
  · split at h
    · rename_i x rest hx
      cases h
      exact lv_lstore_n C.1 C.2.1 hdg hi hl.has (by rw [← hl.1]; exact hx) rfl (fun ls' h' => k H locs ls' (hl.st2 (v := aJ x) C.2.2.2.2.2.2.2.1.gz h') hP hS)
    · cases h
  · cases h
theorem sc_stj {i : Nat} (hdg : decode cc pc = .ok (.lstore i, 2)) : SdC X cc own nL rt mn hh pc (i_stj i (pc + 2)) := by
  intro G n0 p l e R s m args below meth c Q C la st M pc' la' st' M' h h0 h84 hc hs k H locs ls hl hP hS
  unfold i_stj at h
  split at h
  · split at h
    · rename_i x rest hx
      cases h
      exact lv_lstore C.1 C.2.1 hdg hl.has (by rw [← hl.1]; exact hx) rfl (fun ls' h' => k H locs ls' (hl.st2 (v := aJ x) C.2.2.2.2.2.2.2.1.gz h') hP hS)
    · cases h
  · cases h
theorem sc_inc {i : Nat} {n : Int} {v : Int32} (hv : Int32.ofInt n = v) (hdg : decode cc pc = .ok (.iinc i n, 3)) : SdC X cc own nL rt mn hh pc (i_inc i v (pc + 3)) := by
  intro G n0 p l e R s m args below meth c Q C la st M pc' la' st' M' h h0 h84 hc hs k H locs ls hl hP hS
  unfold i_inc at h
  split at h
  · rename_i x hx
    cases h
    obtain ⟨q, hq⟩ := List.getElem?_of_mem (lvl_mem (G := G) hx)
    have hi : i < nL := by rw [← hl.1]; exact (List.getElem?_eq_some_iff.mp hx).1
    exact lv_iinc C.1 C.2.1 hdg hl.has hq (by rw [hv]) hi rfl (fun ls' h' => k H locs ls' (hl.st1 (v := aI (x + v)) C.2.2.2.2.2.2.2.1.gz h') hP hS)
  · cases h
theorem sc_iconst {n : Int} {v : Int32} (hv : Int32.ofInt n = v) (hdg : decode cc pc = .ok (.iconst n, 1)) : SdC X cc own nL rt mn hh pc (i_ci v (pc + 1)) := by
  intro G n0 p l e R s m args below meth c Q C la st M pc' la' st' M' h h0 h84 hc hs k H locs ls hl hP hS
  cases h
  exact lv_iconst C.1 C.2.1 hdg hv (k H locs ls hl hP hS)
theorem sc_bipush {n : Int} {v : Int32} (hv : (Int8.ofInt n).toInt32 = v) (hdg : decode cc pc = .ok (.bipush n, 2)) : SdC X cc own nL rt mn hh pc (i_ci v (pc + 2)) := by
  intro G n0 p l e R s m args below meth c Q C la st M pc' la' st' M' h h0 h84 hc hs k H locs ls hl hP hS
  cases h
  exact lv_bipush C.1 C.2.1 hdg hv (k H locs ls hl hP hS)
theorem sc_sipush {n : Int} {v : Int32} (hv : (Int16.ofInt n).toInt32 = v) (hdg : decode cc pc = .ok (.sipush n, 3)) : SdC X cc own nL rt mn hh pc (i_ci v (pc + 3)) := by
  intro G n0 p l e R s m args below meth c Q C la st M pc' la' st' M' h h0 h84 hc hs k H locs ls hl hP hS
  cases h
  exact lv_sipush C.1 C.2.1 hdg hv (k H locs ls hl hP hS)
theorem sc_lconst {n : Fin 2} {v : Int64} (hv : Int64.ofNat (n : Nat) = v) (hdg : decode cc pc = .ok (.lconst n, 1)) : SdC X cc own nL rt mn hh pc (i_cj v (pc + 1)) := by
  intro G n0 p l e R s m args below meth c Q C la st M pc' la' st' M' h h0 h84 hc hs k H locs ls hl hP hS
  cases h
  exact lv_lconst C.1 C.2.1 hdg hv (k H locs ls hl hP hS)
theorem sc_ldc {j : Nat} {v : Int32} (hw : Cond.constant own j v ∈ lw_tbl) (hdg : decode cc pc = .ok (.ldc j, 2)) : SdC X cc own nL rt mn hh pc (i_ci v (pc + 2)) := by
  intro G n0 p l e R s m args below meth c Q C la st M pc' la' st' M' h h0 h84 hc hs k H locs ls hl hP hS
  cases h
  exact lv_ldc C.1 C.2.1 C.2.2.2.1 (C.2.2.2.2.2.2.2.1.word hw rfl _) hdg (k H locs ls hl hP hS)
theorem sc_ldcw {j : Nat} {v : Int32} (hw : Cond.constant own j v ∈ lw_tbl) (hdg : decode cc pc = .ok (.ldc_w j, 3)) : SdC X cc own nL rt mn hh pc (i_ci v (pc + 3)) := by
  intro G n0 p l e R s m args below meth c Q C la st M pc' la' st' M' h h0 h84 hc hs k H locs ls hl hP hS
  cases h
  exact lv_ldcw C.1 C.2.1 C.2.2.2.1 (C.2.2.2.2.2.2.2.1.word hw rfl _) hdg (k H locs ls hl hP hS)
theorem sc_ldc2 {j : Nat} {v : Int64} (hw : Cond.constantLong own j v ∈ lw_tbl) (hdg : decode cc pc = .ok (.ldc2_w j, 3)) : SdC X cc own nL rt mn hh pc (i_cj v (pc + 3)) := by
  intro G n0 p l e R s m args below meth c Q C la st M pc' la' st' M' h h0 h84 hc hs k H locs ls hl hP hS
  cases h
  exact lv_ldc2 C.1 C.2.1 C.2.2.2.1 (C.2.2.2.2.2.2.2.1.word hw rfl _) hdg (k H locs ls hl hP hS)
theorem sc_ldcS {j w : Nat} {tx : String} (hw : (own, j, tx, w) ∈ srL) (hdg : decode cc pc = .ok (.ldc j, 2)) : SdC X cc own nL rt mn hh pc (i_ca (aR (80, w, 0)) (pc + 2)) := by
  intro G n0 p l e R s m args below meth c Q C la st M pc' la' st' M' h h0 h84 hc hs k H locs ls hl hP hS
  cases h
  exact va_ldcS C.1 C.2.1 C.2.2.2.1 (C.2.2.2.2.2.2.2.1.2.2.2.1 _ hw) hdg (k H locs ls hl hP hS)
theorem sc_iadd (hdg : decode cc pc = .ok (.iadd, 1)) : SdC X cc own nL rt mn hh pc (i_bin (fun x y => x + y) (pc + 1)) := by
  intro G n0 p l e R s m args below meth c Q C la st M pc' la' st' M' h h0 h84 hc hs k H locs ls hl hP hS
  unfold i_bin at h
  split at h
  · cases h
    exact lv_iadd C.1 C.2.1 hdg (k H locs ls hl hP hS)
  · cases h
theorem sc_isub (hdg : decode cc pc = .ok (.isub, 1)) : SdC X cc own nL rt mn hh pc (i_bin (fun x y => x - y) (pc + 1)) := by
  intro G n0 p l e R s m args below meth c Q C la st M pc' la' st' M' h h0 h84 hc hs k H locs ls hl hP hS
  unfold i_bin at h
  split at h
  · cases h
    exact lv_isub C.1 C.2.1 hdg (k H locs ls hl hP hS)
  · cases h
theorem sc_imul (hdg : decode cc pc = .ok (.imul, 1)) : SdC X cc own nL rt mn hh pc (i_bin (fun x y => x * y) (pc + 1)) := by
  intro G n0 p l e R s m args below meth c Q C la st M pc' la' st' M' h h0 h84 hc hs k H locs ls hl hP hS
  unfold i_bin at h
  split at h
  · cases h
    exact lv_imul C.1 C.2.1 hdg (k H locs ls hl hP hS)
  · cases h
theorem sc_iand (hdg : decode cc pc = .ok (.iand, 1)) : SdC X cc own nL rt mn hh pc (i_bin (fun x y => x &&& y) (pc + 1)) := by
  intro G n0 p l e R s m args below meth c Q C la st M pc' la' st' M' h h0 h84 hc hs k H locs ls hl hP hS
  unfold i_bin at h
  split at h
  · cases h
    exact lv_iand C.1 C.2.1 hdg (k H locs ls hl hP hS)
  · cases h
theorem sc_ior (hdg : decode cc pc = .ok (.ior, 1)) : SdC X cc own nL rt mn hh pc (i_bin (fun x y => x ||| y) (pc + 1)) := by
  intro G n0 p l e R s m args below meth c Q C la st M pc' la' st' M' h h0 h84 hc hs k H locs ls hl hP hS
  unfold i_bin at h
  split at h
  · cases h
    exact lv_ior C.1 C.2.1 hdg (k H locs ls hl hP hS)
  · cases h
theorem sc_ixor (hdg : decode cc pc = .ok (.ixor, 1)) : SdC X cc own nL rt mn hh pc (i_bin (fun x y => x ^^^ y) (pc + 1)) := by
  intro G n0 p l e R s m args below meth c Q C la st M pc' la' st' M' h h0 h84 hc hs k H locs ls hl hP hS
  unfold i_bin at h
  split at h
  · cases h
    exact lv_ixor C.1 C.2.1 hdg (k H locs ls hl hP hS)
  · cases h
theorem sc_ishl (hdg : decode cc pc = .ok (.ishl, 1)) : SdC X cc own nL rt mn hh pc (i_bin (fun x y => x <<< (y &&& 31)) (pc + 1)) := by
  intro G n0 p l e R s m args below meth c Q C la st M pc' la' st' M' h h0 h84 hc hs k H locs ls hl hP hS
  unfold i_bin at h
  split at h
  · cases h
    exact lv_ishl C.1 C.2.1 hdg (k H locs ls hl hP hS)
  · cases h
theorem sc_ishr (hdg : decode cc pc = .ok (.ishr, 1)) : SdC X cc own nL rt mn hh pc (i_bin (fun x y => x >>> (y &&& 31)) (pc + 1)) := by
  intro G n0 p l e R s m args below meth c Q C la st M pc' la' st' M' h h0 h84 hc hs k H locs ls hl hP hS
  unfold i_bin at h
  split at h
  · cases h
    exact lv_ishr C.1 C.2.1 hdg (k H locs ls hl hP hS)
  · cases h
theorem sc_iushr (hdg : decode cc pc = .ok (.iushr, 1)) : SdC X cc own nL rt mn hh pc (i_bin (fun x y => (x.toUInt32 >>> (y.toUInt32 &&& Int32.toUInt32 31)).toInt32) (pc + 1)) := by
  intro G n0 p l e R s m args below meth c Q C la st M pc' la' st' M' h h0 h84 hc hs k H locs ls hl hP hS
  unfold i_bin at h
  split at h
  · cases h
    exact lv_iushr C.1 C.2.1 hdg rfl (k H locs ls hl hP hS)
  · cases h
theorem sc_ladd (hdg : decode cc pc = .ok (.ladd, 1)) : SdC X cc own nL rt mn hh pc (i_bnj (fun x y => x + y) (pc + 1)) := by
  intro G n0 p l e R s m args below meth c Q C la st M pc' la' st' M' h h0 h84 hc hs k H locs ls hl hP hS
  unfold i_bnj at h
  split at h
  · cases h
    exact lv_ladd C.1 C.2.1 hdg (k H locs ls hl hP hS)
  · cases h
theorem sc_lsub (hdg : decode cc pc = .ok (.lsub, 1)) : SdC X cc own nL rt mn hh pc (i_bnj (fun x y => x - y) (pc + 1)) := by
  intro G n0 p l e R s m args below meth c Q C la st M pc' la' st' M' h h0 h84 hc hs k H locs ls hl hP hS
  unfold i_bnj at h
  split at h
  · cases h
    exact lv_lsub C.1 C.2.1 hdg (k H locs ls hl hP hS)
  · cases h
theorem sc_lmul (hdg : decode cc pc = .ok (.lmul, 1)) : SdC X cc own nL rt mn hh pc (i_bnj (fun x y => x * y) (pc + 1)) := by
  intro G n0 p l e R s m args below meth c Q C la st M pc' la' st' M' h h0 h84 hc hs k H locs ls hl hP hS
  unfold i_bnj at h
  split at h
  · cases h
    exact lv_lmul C.1 C.2.1 hdg (k H locs ls hl hP hS)
  · cases h
theorem sc_land (hdg : decode cc pc = .ok (.land, 1)) : SdC X cc own nL rt mn hh pc (i_bnj (fun x y => x &&& y) (pc + 1)) := by
  intro G n0 p l e R s m args below meth c Q C la st M pc' la' st' M' h h0 h84 hc hs k H locs ls hl hP hS
  unfold i_bnj at h
  split at h
  · cases h
    exact lv_land C.1 C.2.1 hdg (k H locs ls hl hP hS)
  · cases h
theorem sc_lor (hdg : decode cc pc = .ok (.lor, 1)) : SdC X cc own nL rt mn hh pc (i_bnj (fun x y => x ||| y) (pc + 1)) := by
  intro G n0 p l e R s m args below meth c Q C la st M pc' la' st' M' h h0 h84 hc hs k H locs ls hl hP hS
  unfold i_bnj at h
  split at h
  · cases h
    exact lv_lor C.1 C.2.1 hdg (k H locs ls hl hP hS)
  · cases h
theorem sc_lshl (hdg : decode cc pc = .ok (.lshl, 1)) : SdC X cc own nL rt mn hh pc (i_shj (fun x y => x <<< (y.toInt64 &&& 63)) (pc + 1)) := by
  intro G n0 p l e R s m args below meth c Q C la st M pc' la' st' M' h h0 h84 hc hs k H locs ls hl hP hS
  unfold i_shj at h
  split at h
  · cases h
    exact lv_lshl C.1 C.2.1 hdg rfl (k H locs ls hl hP hS)
  · cases h
theorem sc_lushr (hdg : decode cc pc = .ok (.lushr, 1)) : SdC X cc own nL rt mn hh pc (i_shj (fun x y => (x.toUInt64 >>> (y.toInt64.toUInt64 &&& Int64.toUInt64 63)).toInt64) (pc + 1)) := by
  intro G n0 p l e R s m args below meth c Q C la st M pc' la' st' M' h h0 h84 hc hs k H locs ls hl hP hS
  unfold i_shj at h
  split at h
  · cases h
    exact lv_lushr C.1 C.2.1 hdg rfl (k H locs ls hl hP hS)
  · cases h
theorem sc_i2b (hdg : decode cc pc = .ok (.i2b, 1)) : SdC X cc own nL rt mn hh pc (i_un (fun x => x.toInt8.toInt32) (pc + 1)) := by
  intro G n0 p l e R s m args below meth c Q C la st M pc' la' st' M' h h0 h84 hc hs k H locs ls hl hP hS
  unfold i_un at h
  split at h
  · cases h
    exact lv_i2b C.1 C.2.1 hdg rfl (k H locs ls hl hP hS)
  · cases h
theorem sc_i2s (hdg : decode cc pc = .ok (.i2s, 1)) : SdC X cc own nL rt mn hh pc (i_un (fun x => x.toInt16.toInt32) (pc + 1)) := by
  intro G n0 p l e R s m args below meth c Q C la st M pc' la' st' M' h h0 h84 hc hs k H locs ls hl hP hS
  unfold i_un at h
  split at h
  · cases h
    exact lv_i2s C.1 C.2.1 hdg rfl (k H locs ls hl hP hS)
  · cases h
theorem sc_i2c (hdg : decode cc pc = .ok (.i2c, 1)) : SdC X cc own nL rt mn hh pc (i_un (fun x => (x.toUInt32 % 65536).toInt32) (pc + 1)) := by
  intro G n0 p l e R s m args below meth c Q C la st M pc' la' st' M' h h0 h84 hc hs k H locs ls hl hP hS
  unfold i_un at h
  split at h
  · cases h
    exact lv_i2c C.1 C.2.1 hdg rfl (k H locs ls hl hP hS)
  · cases h
theorem sc_i2l (hdg : decode cc pc = .ok (.i2l, 1)) : SdC X cc own nL rt mn hh pc (i_i2l (pc + 1)) := by
  intro G n0 p l e R s m args below meth c Q C la st M pc' la' st' M' h h0 h84 hc hs k H locs ls hl hP hS
  unfold i_i2l at h
  split at h
  · cases h
    exact lv_i2l C.1 C.2.1 hdg rfl (k H locs ls hl hP hS)
  · cases h
theorem sc_l2i (hdg : decode cc pc = .ok (.l2i, 1)) : SdC X cc own nL rt mn hh pc (i_l2i (pc + 1)) := by
  intro G n0 p l e R s m args below meth c Q C la st M pc' la' st' M' h h0 h84 hc hs k H locs ls hl hP hS
  unfold i_l2i at h
  split at h
  · cases h
    exact lv_l2i C.1 C.2.1 hdg rfl (k H locs ls hl hP hS)
  · cases h
theorem sc_idiv (hdg : decode cc pc = .ok (.idiv, 1)) : SdC X cc own nL rt mn hh pc (i_div (fun x y => x / y) (pc + 1)) := by
  intro G n0 p l e R s m args below meth c Q C la st M pc' la' st' M' h h0 h84 hc hs k H locs ls hl hP hS
  unfold i_div at h
  split at h
  · split at h
    · cases h
    · rename_i hy
      cases h
      exact lv_idiv C.1 C.2.1 hdg hy (k H locs ls hl hP hS)
  · cases h
theorem sc_irem (hdg : decode cc pc = .ok (.irem, 1)) : SdC X cc own nL rt mn hh pc (i_div (fun x y => x - x / y * y) (pc + 1)) := by
  intro G n0 p l e R s m args below meth c Q C la st M pc' la' st' M' h h0 h84 hc hs k H locs ls hl hP hS
  unfold i_div at h
  split at h
  · split at h
    · cases h
    · rename_i hy
      cases h
      exact lv_irem C.1 C.2.1 hdg hy (k H locs ls hl hP hS)
  · cases h
theorem sc_lcmp (hdg : decode cc pc = .ok (.lcmp, 1)) : SdC X cc own nL rt mn hh pc (i_lcm (pc + 1)) := by
  intro G n0 p l e R s m args below meth c Q C la st M pc' la' st' M' h h0 h84 hc hs k H locs ls hl hP hS
  unfold i_lcm at h
  split at h
  · cases h
    exact W.lcmp C.1 C.2.1 hdg (k H locs ls hl hP hS)
  · cases h
theorem sc_dup (hdg : decode cc pc = .ok (.dup, 1)) : SdC X cc own nL rt mn hh pc (i_dup (pc + 1)) := by
  intro G n0 p l e R s m args below meth c Q C la st M pc' la' st' M' h h0 h84 hc hs k H locs ls hl hP hS
  unfold i_dup at h
  split at h
  · split at h
    · rename_i v rest hv
      cases h
      exact lv_dup C.1 C.2.1 hdg (by rw [tv_cat C.2.2.2.2.2.2.2.1.gz]; exact hv) (k H locs ls hl hP hS)
    · cases h
  · cases h
theorem sc_dp2 (hdg : decode cc pc = .ok (.dup2, 1)) : SdC X cc own nL rt mn hh pc (i_dp2 (pc + 1)) := by
  intro G n0 p l e R s m args below meth c Q C la st M pc' la' st' M' h h0 h84 hc hs k H locs ls hl hP hS
  unfold i_dp2 at h
  split at h
  · split at h
    · rename_i v w rest hv
      cases h
      exact lv_dup2_11 C.1 C.2.1 hdg (by rw [tv_cat C.2.2.2.2.2.2.2.1.gz]; exact hv.1) (by rw [tv_cat C.2.2.2.2.2.2.2.1.gz]; exact hv.2) (k H locs ls hl hP hS)
    · cases h
  · cases h
theorem sc_pop (hdg : decode cc pc = .ok (.pop, 1)) : SdC X cc own nL rt mn hh pc (i_pop (pc + 1)) := by
  intro G n0 p l e R s m args below meth c Q C la st M pc' la' st' M' h h0 h84 hc hs k H locs ls hl hP hS
  unfold i_pop at h
  split at h
  · split at h
    · rename_i v rest hv
      cases h
      exact lv_pop C.1 C.2.1 hdg (by rw [tv_cat C.2.2.2.2.2.2.2.1.gz]; exact hv) (k H locs ls hl hP hS)
    · cases h
  · cases h
theorem sc_if_eq {off : Int} {t : Nat} (ht : (pc : Int) + off = (t : Int)) (hdg : decode cc pc = .ok (.ifCond .eq off, 3)) : SdC X cc own nL rt mn hh pc (i_ife t (pc + 3)) := by
  intro G n0 p l e R s m args below meth c Q C la st M pc' la' st' M' h h0 h84 hc hs k H locs ls hl hP hS
  unfold i_ife at h
  split at h
  · rename_i x rest
    split at h
    · rename_i hx
      cases h
      exact lv_if_eq C.1 C.2.1 hdg ht (fun _ => (k H locs ls hl hP hS)) (fun z => absurd hx z)
    · rename_i hx
      cases h
      exact lv_if_eq C.1 C.2.1 hdg ht (fun z => absurd z hx) (fun _ => (k H locs ls hl hP hS))
  · cases h
theorem sc_if_ne {off : Int} {t : Nat} (ht : (pc : Int) + off = (t : Int)) (hdg : decode cc pc = .ok (.ifCond .ne off, 3)) : SdC X cc own nL rt mn hh pc (i_ife (pc + 3) t) := by
  intro G n0 p l e R s m args below meth c Q C la st M pc' la' st' M' h h0 h84 hc hs k H locs ls hl hP hS
  unfold i_ife at h
  split at h
  · rename_i x rest
    split at h
    · rename_i hx
      cases h
      exact lv_if_ne C.1 C.2.1 hdg ht (fun z => absurd hx z) (fun _ => (k H locs ls hl hP hS))
    · rename_i hx
      cases h
      exact lv_if_ne C.1 C.2.1 hdg ht (fun _ => (k H locs ls hl hP hS)) (fun z => absurd z hx)
  · cases h
theorem sc_if_lt {off : Int} {t : Nat} (ht : (pc : Int) + off = (t : Int)) (hdg : decode cc pc = .ok (.ifCond .lt off, 3)) : SdC X cc own nL rt mn hh pc (i_ifl t (pc + 3)) := by
  intro G n0 p l e R s m args below meth c Q C la st M pc' la' st' M' h h0 h84 hc hs k H locs ls hl hP hS
  unfold i_ifl at h
  split at h
  · rename_i x rest
    split at h
    · rename_i hx
      cases h
      exact lv_if_lt C.1 C.2.1 hdg ht (fun _ => (k H locs ls hl hP hS)) (fun z => absurd hx z)
    · rename_i hx
      cases h
      exact lv_if_lt C.1 C.2.1 hdg ht (fun z => absurd z hx) (fun _ => (k H locs ls hl hP hS))
  · cases h
theorem sc_if_ge {off : Int} {t : Nat} (ht : (pc : Int) + off = (t : Int)) (hdg : decode cc pc = .ok (.ifCond .ge off, 3)) : SdC X cc own nL rt mn hh pc (i_ifl (pc + 3) t) := by
  intro G n0 p l e R s m args below meth c Q C la st M pc' la' st' M' h h0 h84 hc hs k H locs ls hl hP hS
  unfold i_ifl at h
  split at h
  · rename_i x rest
    split at h
    · rename_i hx
      cases h
      exact lv_if_ge C.1 C.2.1 hdg ht (fun z => absurd hx (Int32.not_lt.mpr z)) (fun _ => (k H locs ls hl hP hS))
    · rename_i hx
      cases h
      exact lv_if_ge C.1 C.2.1 hdg ht (fun _ => (k H locs ls hl hP hS)) (fun z => absurd (Int32.not_lt.mp hx) z)
  · cases h
theorem sc_if_gt {off : Int} {t : Nat} (ht : (pc : Int) + off = (t : Int)) (hdg : decode cc pc = .ok (.ifCond .gt off, 3)) : SdC X cc own nL rt mn hh pc (i_ifg t (pc + 3)) := by
  intro G n0 p l e R s m args below meth c Q C la st M pc' la' st' M' h h0 h84 hc hs k H locs ls hl hP hS
  unfold i_ifg at h
  split at h
  · rename_i x rest
    split at h
    · rename_i hx
      cases h
      exact lv_if_gt C.1 C.2.1 hdg ht (fun _ => (k H locs ls hl hP hS)) (fun z => absurd hx z)
    · rename_i hx
      cases h
      exact lv_if_gt C.1 C.2.1 hdg ht (fun z => absurd z hx) (fun _ => (k H locs ls hl hP hS))
  · cases h
theorem sc_if_le {off : Int} {t : Nat} (ht : (pc : Int) + off = (t : Int)) (hdg : decode cc pc = .ok (.ifCond .le off, 3)) : SdC X cc own nL rt mn hh pc (i_ifg (pc + 3) t) := by
  intro G n0 p l e R s m args below meth c Q C la st M pc' la' st' M' h h0 h84 hc hs k H locs ls hl hP hS
  unfold i_ifg at h
  split at h
  · rename_i x rest
    split at h
    · rename_i hx
      cases h
      exact lv_if_le C.1 C.2.1 hdg ht (fun z => absurd hx (Int32.not_lt.mpr z)) (fun _ => (k H locs ls hl hP hS))
    · rename_i hx
      cases h
      exact lv_if_le C.1 C.2.1 hdg ht (fun _ => (k H locs ls hl hP hS)) (fun z => absurd (Int32.not_lt.mp hx) z)
  · cases h
theorem sc_icmp_eq {off : Int} {t : Nat} (ht : (pc : Int) + off = (t : Int)) (hdg : decode cc pc = .ok (.if_icmp .eq off, 3)) : SdC X cc own nL rt mn hh pc (i_cme t (pc + 3)) := by
  intro G n0 p l e R s m args below meth c Q C la st M pc' la' st' M' h h0 h84 hc hs k H locs ls hl hP hS
  unfold i_cme at h
  split at h
  · rename_i y x rest
    split at h
    · rename_i hx
      cases h
      exact lv_icmp_eq C.1 C.2.1 hdg ht (fun _ => (k H locs ls hl hP hS)) (fun z => absurd hx z)
    · rename_i hx
      cases h
      exact lv_icmp_eq C.1 C.2.1 hdg ht (fun z => absurd z hx) (fun _ => (k H locs ls hl hP hS))
  · cases h
theorem sc_icmp_ne {off : Int} {t : Nat} (ht : (pc : Int) + off = (t : Int)) (hdg : decode cc pc = .ok (.if_icmp .ne off, 3)) : SdC X cc own nL rt mn hh pc (i_cme (pc + 3) t) := by
  intro G n0 p l e R s m args below meth c Q C la st M pc' la' st' M' h h0 h84 hc hs k H locs ls hl hP hS
  unfold i_cme at h
  split at h
  · rename_i y x rest
    split at h
    · rename_i hx
      cases h
      exact lv_icmp_ne C.1 C.2.1 hdg ht (fun z => absurd hx z) (fun _ => (k H locs ls hl hP hS))
    · rename_i hx
      cases h
      exact lv_icmp_ne C.1 C.2.1 hdg ht (fun _ => (k H locs ls hl hP hS)) (fun z => absurd z hx)
  · cases h
theorem sc_icmp_lt {off : Int} {t : Nat} (ht : (pc : Int) + off = (t : Int)) (hdg : decode cc pc = .ok (.if_icmp .lt off, 3)) : SdC X cc own nL rt mn hh pc (i_cml t (pc + 3)) := by
  intro G n0 p l e R s m args below meth c Q C la st M pc' la' st' M' h h0 h84 hc hs k H locs ls hl hP hS
  unfold i_cml at h
  split at h
  · rename_i y x rest
    split at h
    · rename_i hx
      cases h
      exact lv_icmp_lt C.1 C.2.1 hdg ht (fun _ => (k H locs ls hl hP hS)) (fun z => absurd hx z)
    · rename_i hx
      cases h
      exact lv_icmp_lt C.1 C.2.1 hdg ht (fun z => absurd z hx) (fun _ => (k H locs ls hl hP hS))
  · cases h
theorem sc_icmp_ge {off : Int} {t : Nat} (ht : (pc : Int) + off = (t : Int)) (hdg : decode cc pc = .ok (.if_icmp .ge off, 3)) : SdC X cc own nL rt mn hh pc (i_cml (pc + 3) t) := by
  intro G n0 p l e R s m args below meth c Q C la st M pc' la' st' M' h h0 h84 hc hs k H locs ls hl hP hS
  unfold i_cml at h
  split at h
  · rename_i y x rest
    split at h
    · rename_i hx
      cases h
      exact lv_icmp_ge C.1 C.2.1 hdg ht (fun z => absurd hx (Int32.not_lt.mpr z)) (fun _ => (k H locs ls hl hP hS))
    · rename_i hx
      cases h
      exact lv_icmp_ge C.1 C.2.1 hdg ht (fun _ => (k H locs ls hl hP hS)) (fun z => absurd (Int32.not_lt.mp hx) z)
  · cases h
theorem sc_icmp_gt {off : Int} {t : Nat} (ht : (pc : Int) + off = (t : Int)) (hdg : decode cc pc = .ok (.if_icmp .gt off, 3)) : SdC X cc own nL rt mn hh pc (i_cmg t (pc + 3)) := by
  intro G n0 p l e R s m args below meth c Q C la st M pc' la' st' M' h h0 h84 hc hs k H locs ls hl hP hS
  unfold i_cmg at h
  split at h
  · rename_i y x rest
    split at h
    · rename_i hx
      cases h
      exact lv_icmp_gt C.1 C.2.1 hdg ht (fun _ => (k H locs ls hl hP hS)) (fun z => absurd hx z)
    · rename_i hx
      cases h
      exact lv_icmp_gt C.1 C.2.1 hdg ht (fun z => absurd z hx) (fun _ => (k H locs ls hl hP hS))
  · cases h
theorem sc_icmp_le {off : Int} {t : Nat} (ht : (pc : Int) + off = (t : Int)) (hdg : decode cc pc = .ok (.if_icmp .le off, 3)) : SdC X cc own nL rt mn hh pc (i_cmg (pc + 3) t) := by
  intro G n0 p l e R s m args below meth c Q C la st M pc' la' st' M' h h0 h84 hc hs k H locs ls hl hP hS
  unfold i_cmg at h
  split at h
  · rename_i y x rest
    split at h
    · rename_i hx
      cases h
      exact lv_icmp_le C.1 C.2.1 hdg ht (fun z => absurd hx (Int32.not_lt.mpr z)) (fun _ => (k H locs ls hl hP hS))
    · rename_i hx
      cases h
      exact lv_icmp_le C.1 C.2.1 hdg ht (fun _ => (k H locs ls hl hP hS)) (fun z => absurd (Int32.not_lt.mp hx) z)
  · cases h
theorem sc_goto {off : Int} {t : Nat} (ht : (pc : Int) + off = (t : Int)) (hdg : decode cc pc = .ok (.goto off, 3)) : SdC X cc own nL rt mn hh pc (i_go t) := by
  intro G n0 p l e R s m args below meth c Q C la st M pc' la' st' M' h h0 h84 hc hs k H locs ls hl hP hS
  cases h
  exact lv_goto C.1 C.2.1 hdg ht (k H locs ls hl hP hS)
/-- a table of places in order, as pairs -/
theorem swt_in {d : Nat} {x : Int32} : ∀ (tb : List (Int32 × Nat)) (lo : Int) (pc : Nat) (offs : List Int), tb.length = offs.length → (∀ i, i < tb.length → ∃ q : Int32 × Nat, tb[i]? = some q ∧ q.1.toInt = lo + i ∧ (pc : Int) + offs.getD i 0 = (q.2 : Int)) →
    ((x.toInt < lo ∨ lo + (tb.length : Int) ≤ x.toInt) → swt tb d x = d) ∧ (¬ x.toInt < lo → x.toInt < lo + (tb.length : Int) → (pc : Int) + offs.getD (x.toInt - lo).toNat 0 = (swt tb d x : Int))
  | [], lo, pc, offs, hl, h => ⟨fun _ => rfl, fun h1 h2 => by simp at h2; omega⟩
  | q :: r, lo, pc, [], hl, h => by simp at hl
  | q :: r, lo, pc, o :: offs, hl, h => by
    obtain ⟨q', hq, hk, ht⟩ := h 0 (by simp)
    cases hq
    have ih := swt_in (d := d) (x := x) r (lo + 1) pc offs (by simpa using hl) (fun i hi => by
      obtain ⟨q2, h1, h2, h3⟩ := h (i + 1) (by simpa using hi)
      refine ⟨q2, by simpa using h1, by rw [h2]; omega, ?_⟩
      rw [List.getD_cons_succ] at h3
      exact h3)
    have e : swt (q :: r) d x = if x = q.1 then q.2 else swt r d x := rfl
    rw [e]
    rw [List.length_cons]
    by_cases hx : x = q.1
    · have hx2 : x.toInt = lo := by rw [hx, hk]; omega
      rw [if_pos hx]
      refine ⟨fun h => by omega, fun _ _ => ?_⟩
      rw [hx2, show (lo - lo).toNat = 0 by omega]
      exact ht
    · have hx2 : ¬ x.toInt = lo := fun z => hx (Int32.toInt_inj.mp (by rw [z, hk]; omega))
      rw [if_neg hx]
      refine ⟨fun h => ih.1 (by omega), fun h1 h2 => ?_⟩
      have := ih.2 (by omega) (by omega)
      rw [show (x.toInt - lo).toNat = (x.toInt - (lo + 1)).toNat + 1 by omega, List.getD_cons_succ]
      exact this
theorem sc_tsw {dflt lo hi : Int} {offs : Array Int} {len d : Nat} {tb : List (Int32 × Nat)} (hl : tb.length = offs.toList.length) (hh2 : hi + 1 = lo + (tb.length : Int)) (ht : ∀ i, i < tb.length → ∃ q : Int32 × Nat, tb[i]? = some q ∧ q.1.toInt = lo + i ∧ (pc : Int) + offs.toList.getD i 0 = (q.2 : Int)) (hd : (pc : Int) + dflt = (d : Int)) (hdg : decode cc pc = .ok (.tableswitch dflt lo hi offs, len)) : SdC X cc own nL rt mn hh pc (i_sw tb d) := by
  intro G n0 p l e R s m args below meth c Q C la st M pc' la' st' M' h h0 h84 hc hs k H locs ls hl2 hP hS
  unfold i_sw at h
  split at h
  · rename_i x rest
    cases h
    obtain ⟨a1, a2⟩ := swt_in (d := d) (x := x) tb lo pc offs.toList hl ht
    by_cases hx : x.toInt < lo ∨ hi < x.toInt
    · rw [a1 (by omega)] at k
      exact lv_tableOut C.1 C.2.1 hdg hx hd (k H locs ls hl2 hP hS)
    · have b1 : ¬ x.toInt < lo := fun z => hx (Or.inl z)
      have b2 : ¬ hi < x.toInt := fun z => hx (Or.inr z)
      have b3 := a2 b1 (by omega)
      refine lv_tableIn (off := offs.toList.getD (x.toInt - lo).toNat 0) C.1 C.2.1 hdg b1 b2 ?_ b3 (k H locs ls hl2 hP hS)
      have hlt : (x.toInt - lo).toNat < offs.toList.length := by omega
      rw [← Array.getElem?_toList, List.getElem?_eq_getElem hlt, List.getD_eq_getElem?_getD, List.getElem?_eq_getElem hlt]
      rfl
  · cases h
theorem swt_lk {d : Nat} {x : Int32} {pc : Nat} {dflt : Int} (hd : (pc : Int) + dflt = (d : Int)) : ∀ (tb : List (Int32 × Nat)) (ps : List (Int × Int)), tb.length = ps.length → (∀ i, i < tb.length → ∃ (q : Int32 × Nat) (z : Int × Int), tb[i]? = some q ∧ ps[i]? = some z ∧ q.1.toInt = z.1 ∧ (pc : Int) + z.2 = (q.2 : Int)) → (pc : Int) + Op.lookupswitch.offset ps dflt x.toInt = (swt tb d x : Int)
  | [], [], _, _ => by
    show (pc : Int) + Op.lookupswitch.offset [] dflt x.toInt = (d : Int)
    rw [← hd]
    rfl
  | [], z :: ps, hl, _ => by simp at hl
  | q :: r, [], hl, _ => by simp at hl
  | q :: r, z :: ps, hl, h => by
    obtain ⟨q', z', hq, hz, hk, ht⟩ := h 0 (by simp)
    cases hq
    cases hz
    have ih := swt_lk (x := x) hd r ps (by simpa using hl) (fun i hi => by
      obtain ⟨q2, z2, h1, h2, h3⟩ := h (i + 1) (by simpa using hi)
      exact ⟨q2, z2, by simpa using h1, by simpa using h2, h3⟩)
    have e : swt (q :: r) d x = if x = q.1 then q.2 else swt r d x := rfl
    rw [e]
    by_cases hx : x = q.1
    · rw [if_pos hx, ← ht]
      obtain ⟨z1, z2⟩ := z
      have hx2 : x.toInt = z1 := by rw [hx]; exact hk
      simp [Op.lookupswitch.offset, hx2]
    · rw [if_neg hx, ← ih]
      obtain ⟨z1, z2⟩ := z
      have := lv_osw (x := x) (k := q.1) (a := z1) (o := z2) (d := dflt) (r := ps) hx hk
      rw [this]
theorem sc_lsw {dflt : Int} {ps : Array (Int × Int)} {len d : Nat} {tb : List (Int32 × Nat)} (hl : tb.length = ps.toList.length) (hp : (ps.toList.zip (ps.toList.drop 1)).all (fun (a, next) => a.1 < next.1) = true) (ht : ∀ i, i < tb.length → ∃ (q : Int32 × Nat) (z : Int × Int), tb[i]? = some q ∧ ps.toList[i]? = some z ∧ q.1.toInt = z.1 ∧ (pc : Int) + z.2 = (q.2 : Int)) (hd : (pc : Int) + dflt = (d : Int)) (hdg : decode cc pc = .ok (.lookupswitch dflt ps, len)) : SdC X cc own nL rt mn hh pc (i_sw tb d) := by
  intro G n0 p l e R s m args below meth c Q C la st M pc' la' st' M' h h0 h84 hc hs k H locs ls hl2 hP hS
  unfold i_sw at h
  split at h
  · rename_i x rest
    cases h
    exact lv_lookup C.1 C.2.1 hdg hp rfl (swt_lk hd tb ps.toList hl ht) (k H locs ls hl2 hP hS)
  · cases h
end INS
