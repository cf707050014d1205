/-! A METHOD'S CONTRACT OUT OF ITS RUN -/
def SdT (X : aX) (cc : ByteArray) (own : String) (nL : Nat) (rt : Option FieldType) (mn : String) (hh pc : Nat) (t : aT) : Prop := match t with
  | .inl f => MoC f ∧ SdC X cc own nL rt mn hh pc f
  | .inr (.inl k) => SdK X cc own nL rt mn hh pc k
  | .inr (.inr g) => (∀ st M v M', g st M = some (v, M') → M' = M) ∧ SdR X cc own nL rt mn hh pc g
def TA (X : aX) : Prop := ∀ mid, mid < 223 → ∀ pc, SdT X (cod mid) (mtn mid).cls (mx mid) (rty mid) (mtn mid).name (ht mid) pc (pg X mid pc)
theorem rF_mono1 {X : aX} (hT : TA X) : ∀ (n mid pc : Nat) (la : aLs) (st : List aV) (M : aM) (v : Option aV) (M' : aM), mid < 223 → rF (pg X) mx n mid pc la st M = some (v, M') → M.1 ≤ M'.1 ∧ M'.1 ≤ max 84 M.1 := by
  intro n
  induction n with
  | zero => intro mid pc la st M v M' _ h; cases h
  | succ n ih =>
    intro mid pc la st M v M' hm h
    have hS := hT mid hm pc
    have h : sF (pg X) mx (rF (pg X) mx n) mid pc la st M = some (v, M') := h
    unfold sF at h
    cases hp : pg X mid pc with
    | inl f =>
      rw [hp] at h hS
      dsimp only at h
      cases hf : f la st M with
      | none => rw [hf] at h; cases h
      | some q =>
        obtain ⟨pc', la', st', M1⟩ := q
        rw [hf] at h
        have a1 := hS.1 la st M _ hf
        have a2 := ih _ _ _ _ _ _ _ hm h
        dsimp only at a1
        omega
    | inr t => cases t with
      | inl k =>
        obtain ⟨m2, nn, nx, rc⟩ := k
        rw [hp] at h hS
        dsimp only at h
        split at h
        · split at h
          · cases h
          · rename_i v2 M2 hq
            have h2 : m2 < 222 := hS.1
            have a1 := ih _ _ _ _ _ _ _ (by omega) hq
            have a2 := ih _ _ _ _ _ _ _ hm h
            omega
        · cases h
      | inr g =>
        rw [hp] at h hS
        rw [hS.1 _ _ _ _ h]
        omega
theorem body {X : aX} (hT : TA X) {mid : Nat} (hm : mid < 223) {G : aG} {n0 : Nat} {p : Program} {l : Launch} {e : Env} {R : Room} {s : State} {m : MethodId} {args : Array Value} {below : List Frame} {meth : Method} {c : Code} {Q : State → Prop} (C : Cx G X (cod mid) (mtn mid).cls (mx mid) (rty mid) (mtn mid).name (ht mid) n0 p R s m meth c)
    (ihc : ∀ m2, m2 < 222 → ht m2 + 1 ≤ ht mid → ∀ as M v M', rn (pg X) mx m2 0 (ent (mx m2) as) [] M = some (v, M') → cs as ≤ mx m2 → M.1 ≤ 84 → Ctr G X l m2 as M v M') {v : Option aV} {M' : aM}
    (hret : ∀ pc g st M la, pg X mid pc = .inr (.inr g) → g st M = some (v, M') → n0 ≤ M.1 → Ok G (mx mid) n0 p l e R s m args below meth c Q pc la st M) (hc : M'.1 - n0 ≤ R.cells) (hs : slS M'.1 - slS n0 ≤ R.slots) :
    ∀ (n pc : Nat) (la : aLs) (st : List aV) (M : aM), rF (pg X) mx n mid pc la st M = some (v, M') → n0 ≤ M.1 → M.1 ≤ 84 → Ok G (mx mid) n0 p l e R s m args below meth c Q pc la st M := by
  intro n
  induction n with
  | zero => intro pc la st M h; cases h
  | succ n ih =>
    intro pc la st M h h0 h84
    have hS := hT mid hm pc
    have h : sF (pg X) mx (rF (pg X) mx n) mid pc la st M = some (v, M') := h
    unfold sF at h
    cases hp : pg X mid pc with
    | inl f =>
      rw [hp] at h hS
      dsimp only at h
      cases hf : f la st M with
      | none => rw [hf] at h; cases h
      | some q =>
        obtain ⟨pc', la', st', M1⟩ := q
        rw [hf] at h
        have a1 := hS.1 la st M _ hf
        have a2 := rF_mono1 hT _ _ _ _ _ _ _ _ hm h
        dsimp only at a1
        have a3 := slS_le a2.1
        exact hS.2 G n0 p l e R s m args below meth c Q C la st M pc' la' st' M1 hf h0 h84 (by omega) (by omega) (ih _ _ _ _ h (by omega) (by omega))
    | inr t => cases t with
      | inl k =>
        obtain ⟨m2, nn, nx, rc⟩ := k
        rw [hp] at h hS
        dsimp only at h
        split at h
        · rename_i hck
          obtain ⟨hck1, hck2⟩ := Bool.and_eq_true_iff.mp hck
          split at h
          · cases h
          · rename_i v2 M2 hq
            obtain ⟨b1, b2, b3⟩ := hS
            dsimp only at b1 b2 b3
            have hcs : cs (st.take nn).reverse ≤ mx m2 := by
              have e : ∀ a b : List aV, cs (a ++ b) = cs a + cs b := by
                intro a b
                induction a with
                | nil => simp [cs]
                | cons x r ihr => show ac x + cs (r ++ b) = ac x + cs r + cs b; rw [ihr]; omega
              have e2 : ∀ a : List aV, cs a.reverse = cs a := by
                intro a
                induction a with
                | nil => rfl
                | cons x r ihr => rw [List.reverse_cons, e, ihr]; show cs r + (ac x + 0) = ac x + cs r; omega
              rw [e2]
              simpa using hck2
            have a1 := rF_mono1 hT _ _ _ _ _ _ _ _ (by omega) hq
            have a2 := rF_mono1 hT _ _ _ _ _ _ _ _ hm h
            have a3 := slS_le a2.1
            exact b3 G n0 p l e R s m args below meth c Q C la st M v2 M2 hck1 (ihc m2 b1 b2 _ _ _ _ (rn_iff.mpr ⟨_, hq⟩) hcs h84) h0 a1.1 (by omega) (by omega) (ih _ _ _ _ h (by omega) (by omega))
        · cases h
      | inr g =>
        rw [hp] at h
        exact hret pc g st M la hp h h0
theorem met_all {X : aX} (hT : TA X) (hCB : ∀ m2, m2 < 222 → ∃ np, CB m2 np) (hH : ∀ m2, m2 < 223 → 1 ≤ ht m2) : ∀ (d m2 : Nat), m2 < 222 → ht m2 ≤ d → ∀ (G : aG) (l : Launch) (as : List aV) (M : aM) (v : Option aV) (M' : aM), rn (pg X) mx m2 0 (ent (mx m2) as) [] M = some (v, M') → cs as ≤ mx m2 → M.1 ≤ 84 → Ctr G X l m2 as M v M' := by
  intro d
  induction d with
  | zero => intro m2 h2 hd; have := hH m2 (by omega); omega
  | succ d ihd =>
    intro m2 h2 hd G l as M v M' hrun hcs h84
    obtain ⟨np, hcb⟩ := hCB m2 h2
    obtain ⟨n, hn⟩ := rn_iff.mp hrun
    unfold Ctr
    refine va_MetF (cc := cod m2) (maxL := mx m2) (ret := rty m2) hcb.2.2.2.2.2.2 rfl ?_
    intro p e s m args below meth c s₁ B hml hv
    obtain ⟨rfl, hK, hsz, hP⟩ := hv
    have C : Cx G X (cod m2) (mtn m2).cls (mx m2) (rty m2) (mtn m2).name (ht m2) M.1 p ({ frames := ht m2, cells := M'.1 - M.1, slots := slS M'.1 - slS M.1, locals := 40 * ht m2 } : Room) s m meth c :=
      ⟨B.exec, B.bytes, hml, findClass_of_methodNamed B.named, B.returns, B.notSynchronized, (name_of_methodNamed B.named B.method).1, hK, hsz, Nat.le_refl _, Nat.le_refl _, hH m2 (by omega)⟩
    rw [lg_entry_eq]
    have k := body hT (l := l) (e := e) (args := (as.map (tv G)).toArray) (below := below) (Q := MQ below (fun _ st o t => o = .returned (v.map (tv G)) ∧ va_P (gC G, gI G) vwCl (wl G M') t.heap ∧ va_F (gF G) st t) (as.map (tv G)).toArray s (M'.1 - M.1) (slS M'.1 - slS M.1) (gF G)) (by omega) C
      (fun m3 h3 h4 as3 M3 v3 M3' r1 r2 r3 => ihd m3 h3 (by omega) G l as3 M3 v3 M3' r1 r2 r3) (v := v) (M' := M') (fun pc g st M1 la hp hg h0 => by
        intro H locs ls hl hP1 hS1
        have hS := hT m2 (by omega) pc
        rw [hp] at hS
        have hS : (∀ st M v M', g st M = some (v, M') → M' = M) ∧ SdR X (cod m2) (mtn m2).cls (mx m2) (rty m2) (mtn m2).name (ht m2) pc g := hS
        have hMe := hS.1 _ _ _ _ hg
        subst hMe
        exact (hS.2 G M.1 p l e _ s m _ below meth c _ C st M' v M' hg).2 H locs ls hS1 (fun t ht hW => ⟨rfl, by rw [ht]; exact hP1, hS1.F ht⟩)) (Nat.le_refl _) (Nat.le_refl _) n 0 _ [] M hn (Nat.le_refl _) h84 s.heap [] _ (lvR.entry hK.gz as (mx m2) hcs) hP va_S.rf
    rw [Nat.sub_self, Nat.sub_self] at k
    exact k
