/-! a text by its wide index -/
theorem sc_ldcSw {X : aX} {cc : ByteArray} {own : String} {nL : Nat} {rt : Option FieldType} {mn : String} {hh pc : Nat} {j w : Nat} {tx : String} (hw : (own, j, tx, w) ∈ srL) (hdg : decode cc pc = .ok (.ldc_w j, 3)) : SdC X cc own nL rt mn hh pc (i_ca (aR (80, w, 0)) (pc + 3)) := by
  intro G n0 p l e R s m args below meth c Q C la st M pc' la' st' M' h h0 h84 hc hs k H locs ls hl hP hS
  cases h
  intro T hT X1
  obtain ⟨t, a1, b1⟩ := k H locs ls hl hP hS T hT X1
  refine ⟨t, ?_, b1⟩
  have hZ := C.2.2.2.2.2.2.2.1.2.2.2.1 _ hw
  obtain ⟨kk, cf, i, a', hk, hcf, hcp, -, hr, hev⟩ := Cond.stringRef_spec C.2.2.2.1 hZ.1
  have ha : a' = gK G w := by
    have := hev.symm.trans hZ.2
    cases this
    rfl
  subst ha
  obtain ⟨k', hk', he⟩ := X1.warmed.alike.2.2 _ _ hk
  have hr' : k'.resolved[j]? = some (some (.string (gK G w))) := by
    rcases X1.warmed.entry hk hk' j with h | ⟨h, -⟩
    · rw [h]; exact hr
    · rw [hr] at h; cases h
  have hdg' : decode c.code (F0 m pc ls (st.map (tv G))).pc = .ok (.ldc_w j, 3) := by rw [C.2.1]; exact hdg
  jvm_step X1.here [C.1, hdg', Jvm.Op.ldc_w.wp_string (e := e) (s := T) (f := F0 m pc ls (st.map (tv G))) X1.here.top hk' (by rw [he]; exact hcf) hcp hr']
  exact a1
