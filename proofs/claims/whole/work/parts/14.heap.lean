/-! THE ROWS OVER CELLS -/
theorem gok_sp {M : aM} {r : aL} {c : Nat} (h : gok M r c = true) : r.1 < 80 ∧ vld M r = true ∧ shp r = (0, c) := by
  unfold gok at h
  simp only [Bool.and_eq_true, decide_eq_true_eq] at h
  exact ⟨h.1.1, h.1.2, h.2⟩
theorem ce_obj {G : aG} {M : aM} {r : aL} {c : Nat} (h : shp r = (0, c)) : ce G M r = .inr (c, (List.range (nfL.getD c 0)).map (fun k => tv G (M.2 r k))) := by
  unfold ce
  rw [h]
  rfl
theorem ce_int {G : aG} {M : aM} {r : aL} {n : Nat} (h : shp r = (1, n)) : ce G M r = .inl (gA G 1, n, .inl (fun j => iv (M.2 r j))) := by
  unfold ce
  rw [h]
  rfl
theorem ce_ref {G : aG} {M : aM} {r : aL} {k n : Nat} (h : shp r = (k + 2, n)) : ce G M r = .inl (gA G (k + 2), n, .inr (.inr (.inr (.inr (fun j => rv G (M.2 r j)))))) := by
  unfold ce
  rw [h]
  rfl
theorem shp_eq {r : aL} {k : Nat} (h : (shp r).1 = k) : shp r = (k, (shp r).2) := by rw [← h]
theorem slS_le {a b : Nat} (h : a ≤ b) : slS a ≤ slS b := by
  induction h with
  | refl => exact Nat.le_refl _
  | step _ ih => exact Nat.le_trans ih (Nat.le_add_right _ _)
theorem Wsz {p : Program} {l : Launch} {e : Env} {R : Room} {s : State} {m : MethodId} {args : Array Value} {below : List Frame} {meth : Method} {c : Code} {H : Heap} {locs : List Loc} {cells slots : Nat} {Q : State → Prop} {g : JFrame} (h : H.size ≤ s.heap.size + cells → W p l e R s m args below meth c H locs cells slots Q g) : W p l e R s m args below meth c H locs cells slots Q g :=
  fun T hT X => h (by rw [← hT]; exact X.heapSize) T hT X
theorem put_list {G : aG} {M : aM} {r : aL} {k N : Nat} {v : aV} : (List.range N).map (fun j => tv G ((wr M r k v).2 r j)) = ((List.range N).map (fun j => tv G (M.2 r j))).set k (tv G v) := by
  apply List.ext_getElem?
  intro i
  by_cases hi : i < N
  · by_cases hk : i = k
    · subst hk
      rw [List.getElem?_set_self (by simpa using hi), List.getElem?_map, List.getElem?_range hi]
      simp [wr]
    · rw [List.getElem?_set_ne (Ne.symm hk), List.getElem?_map, List.getElem?_map, List.getElem?_range hi]
      simp [wr, hk]
  · rw [List.getElem?_eq_none (by simpa using hi), List.getElem?_eq_none (by simpa using hi)]
theorem pok_fit {G : aG} {ty : FieldType} {t : Nat} {v : aV} (ht : t = 0 ∧ ty = .int ∨ t = 1 ∧ ty = .boolean ∨ t = 2 ∧ ((∃ n, ty = .object n) ∨ ∃ u, ty = .array u)) (hp : pok t v = true) : narrow ty (tv G v) = tv G v ∧ fits ty (tv G v) = true := by
  match v, hp with
  | .inl x, hp =>
    rcases ht with ⟨rfl, rfl⟩ | ⟨rfl, rfl⟩ | ⟨rfl, -⟩
    · exact ⟨rfl, rfl⟩
    · have h : x = 0 ∨ x = 1 := by simpa [pok] using hp
      rcases h with rfl | rfl
      · exact ⟨show narrow .boolean (.int 0) = .int 0 by decide +kernel, show fits .boolean (.int 0) = true by decide +kernel⟩
      · exact ⟨show narrow .boolean (.int 1) = .int 1 by decide +kernel, show fits .boolean (.int 1) = true by decide +kernel⟩
    · simp [pok] at hp
  | .inr (.inl x), hp => simp [pok] at hp
  | .inr (.inr none), hp => simp [pok] at hp
  | .inr (.inr (some r)), hp =>
    have h : t = 2 ∧ r.1 < 80 := by simpa [pok] using hp
    rcases ht with ⟨rfl, -⟩ | ⟨rfl, -⟩ | ⟨-, h2⟩
    · exact absurd h.1 (by decide)
    · exact absurd h.1 (by decide)
    · rw [show tv G (Sum.inr (Sum.inr (some r))) = .ref (mu G r) from tv_ref (by omega)]
      rcases h2 with ⟨n, rfl⟩ | ⟨u, rfl⟩ <;> exact ⟨rfl, rfl⟩
section HEAP
variable {X : aX} {cc : ByteArray} {own : String} {nL : Nat} {rt : Option FieldType} {mn : String} {hh pc : Nat}
theorem sc_get {j ci k : Nat} {C : String} {T : u_T} {N : Nat} (hc : vwCl[ci]? = some (C, T, N)) (hk : k < N) (hN : nfL.getD ci 0 = N) (hin : ∀ w ∈ u_ws C T N, w ∈ gTb) (hw : Cond.fieldLink own j (T k).1 (T k).2.1 (T k).2.2.1 ∈ lw_tbl) (hdg : decode cc pc = .ok (.getfield j, 3)) : SdC X cc own nL rt mn hh pc (i_get ci k (pc + 3)) := by
  intro G n0 p l e R s m args below meth c Q C la st M pc' la' st' M' h h0 h84 hc' hs kk H locs ls hl hP hS
  unfold i_get at h
  split at h
  · split at h
    · rename_i r rest hg
      cases h
      obtain ⟨g1, g2, g3⟩ := gok_sp hg
      rw [List.map_cons, tv_ref (by omega)]
      have hat := wl_vld (G := G) g2 g1
      rw [ce_obj g3, hN] at hat
      refine va_get C.1 C.2.1 (C.2.2.2.2.2.2.2.1.hts args) hin C.2.2.2.1 C.2.2.2.2.2.2.2.1.1 hP (idx r) hat hc k hk (C.2.2.2.2.2.2.2.1.word hw rfl _) (fun x hx => hx) (v := tv G (M.2 r k)) ?_ hdg (kk H locs ls hl hP hS)
      rw [List.getElem?_map, List.getElem?_range hk]
      rfl
    · cases h
  · cases h
theorem sc_put {j ci k t : Nat} {C : String} {T : u_T} {N : Nat} {ty0 : Nat → FieldType} {ty : FieldType} (hc : vwCl[ci]? = some (C, T, N)) (hk : k < N) (hN : nfL.getD ci 0 = N) (hin : ∀ w ∈ u_ws C T N, w ∈ gTb) (hty : ∀ k, k < N → parseFieldDescriptor (T k).2.2.1 = some (ty0 k)) (hnm : ∀ a, a < N → ∀ b, b < N → a ≠ b → (T a).2.1 ≠ (T b).2.1)
    (hw : Cond.fieldLink own j (T k).1 (T k).2.1 (T k).2.2.1 ∈ lw_tbl) (hfin : (T k).2.2.2 = false ∨ ((T k).2.2.2 = true ∧ mn = "<init>" ∧ (T k).1 = own)) (hd : ty0 k = ty) (ht : t = 0 ∧ ty = .int ∨ t = 1 ∧ ty = .boolean ∨ t = 2 ∧ ((∃ n, ty = .object n) ∨ ∃ u, ty = .array u)) (hdg : decode cc pc = .ok (.putfield j, 3)) : SdC X cc own nL rt mn hh pc (i_put ci k t (pc + 3)) := by
  intro G n0 p l e R s m args below meth c Q C la st M pc' la' st' M' h h0 h84 hc' hs kk H locs ls hl hP hS
  unfold i_put at h
  split at h
  · split at h
    · rename_i v r rest hg
      cases h
      obtain ⟨hg1, hg2⟩ := Bool.and_eq_true_iff.mp hg
      obtain ⟨g1, g2, g3⟩ := gok_sp hg1
      obtain ⟨f1, f2⟩ := pok_fit (G := G) ht hg2
      rw [List.map_cons, List.map_cons, tv_ref (by omega)]
      have hat := wl_vld (G := G) g2 g1
      rw [ce_obj g3, hN] at hat
      have key : ∀ (H1 : Heap) (locs1 : List Loc), va_P (gC G, gI G) vwCl ((wl G M).set (idx r) (mu G r, .inr (ci, ((List.range N).map (fun j => tv G (M.2 r j))).set k (tv G v)))) H1 → va_S (gF G) s.heap H1 locs1 → W p l e R s m args below meth c H1 locs1 (M.1 - n0) (slS M.1 - slS n0) Q (F0 m (pc + 3) ls (st'.map (tv G))) := by
        intro H1 locs1 hP1 hS1
        have e1 := wl_set (G := G) (M := M) (M' := wr M r k v) g2 g1 h84 rfl (fun q hq j => by simp [wr, hq])
        rw [ce_obj g3, hN, put_list] at e1
        rw [e1] at hP1
        exact kk H1 locs1 ls hl hP1 hS1
      rcases hfin with hf | ⟨hf, hf2, hf3⟩
      · exact va_put C.1 C.2.1 (C.2.2.2.2.2.2.2.1.hts args) hin ty0 hty hnm C.2.2.2.1 C.2.2.2.2.2.2.2.1.1 hP (wl_D G M) hS (idx r) hat hc k hk (C.2.2.2.2.2.2.2.1.word hw rfl _) (fun x hx => hx) hf (hd ▸ hty k hk) f1 f2 (by simpa using hk) hdg (fun H1 locs1 hP1 _ hS1 => key H1 locs1 hP1 hS1)
      · exact va_putF C.1 C.2.1 (C.2.2.2.2.2.2.2.1.hts args) hin ty0 hty hnm C.2.2.2.1 C.2.2.2.2.2.2.2.1.1 hP (wl_D G M) hS (idx r) hat hc k hk (C.2.2.2.2.2.2.2.1.word hw rfl _) (fun x hx => hx) hf (by rw [C.2.2.2.2.2.2.1]; exact hf2) hf3 (hd ▸ hty k hk) f1 f2 (by simpa using hk) hdg (fun H1 locs1 hP1 _ hS1 => key H1 locs1 hP1 hS1)
    · cases h
  · cases h
theorem txo_sp {r : aL} (h : txo r = true) : r.1 = 80 ∧ r.2.1 < 14 ∧ r = (80, r.2.1, 0) := by
  unfold txo at h
  simp only [Bool.and_eq_true, decide_eq_true_eq] at h
  obtain ⟨⟨h1, h2⟩, h3⟩ := h
  refine ⟨h1, h2, ?_⟩
  obtain ⟨a, b, c⟩ := r
  dsimp only at h1 h3
  rw [h1, h3]
theorem mu_tx (G : aG) (w b : Nat) : mu G (80, w, b) = gK G w := rfl
theorem mu_tb (G : aG) (w b : Nat) : mu G (81, w, b) = gV G w := rfl
theorem mu_st (G : aG) (w b : Nat) : mu G (82, w, b) = gT G w := rfl
theorem mu_sc (G : aG) (w b : Nat) : mu G (90, w, b) = gS G := rfl
theorem sc_gsv {j : Nat} (hw : Cond.fieldLink own j "java/lang/String" "value" "[B" ∈ lw_tbl) (hdg : decode cc pc = .ok (.getfield j, 3)) : SdC X cc own nL rt mn hh pc (i_gsv (pc + 3)) := by
  intro G n0 p l e R s m args below meth c Q C la st M pc' la' st' M' h h0 h84 hc' hs kk H locs ls hl hP hS
  unfold i_gsv at h
  split at h
  · split at h
    · rename_i r rest hg
      cases h
      obtain ⟨g1, g2, g3⟩ := txo_sp hg
      rw [List.map_cons, tv_ref (by omega), g3, mu_tx]
      exact vk_getf C.1 C.2.1 (C.2.2.2.2.2.2.2.1.2.2.2.2.2.1.1 r.2.1 g2).2.2.1 hS C.2.2.2.1 (C.2.2.2.2.2.2.2.1.word hw rfl _) (fun x hx => hx) hdg (kk H locs ls hl hP hS)
    · cases h
  · cases h
theorem sc_gsc {j : Nat} (hw : Cond.fieldLink own j "java/lang/String" "coder" "B" ∈ lw_tbl) (hdg : decode cc pc = .ok (.getfield j, 3)) : SdC X cc own nL rt mn hh pc (i_gsc (pc + 3)) := by
  intro G n0 p l e R s m args below meth c Q C la st M pc' la' st' M' h h0 h84 hc' hs kk H locs ls hl hP hS
  unfold i_gsc at h
  split at h
  · split at h
    · rename_i r rest hg
      cases h
      obtain ⟨g1, g2, g3⟩ := txo_sp hg
      rw [List.map_cons, tv_ref (by omega), g3, mu_tx]
      exact vk_getf C.1 C.2.1 (C.2.2.2.2.2.2.2.1.2.2.2.2.2.1.1 r.2.1 g2).2.1 hS C.2.2.2.1 (C.2.2.2.2.2.2.2.1.word hw rfl _) (fun x hx => hx) hdg (kk H locs ls hl hP hS)
    · cases h
  · cases h
theorem cln_sp {X : aX} {r : aL} {n : Nat} (h : cln X r = some n) : (∃ j, j < 4 ∧ r = (82, j, 0) ∧ n = (stA.getD j []).length) ∨ (r = (90, 0, 0) ∧ n = X.1) := by
  unfold cln at h
  split at h
  · rename_i hr
    cases h
    obtain ⟨a, b, c⟩ := r
    dsimp only at hr ⊢
    exact Or.inl ⟨b, hr.2.1, by rw [hr.1, hr.2.2], rfl⟩
  · split at h
    · rename_i hr
      cases h
      exact Or.inr ⟨hr, rfl⟩
    · cases h
theorem sc_ial (hdg : decode cc pc = .ok (.iaload, 1)) : SdC X cc own nL rt mn hh pc (i_ial X (pc + 1)) := by
  intro G n0 p l e R s m args below meth c Q C la st M pc' la' st' M' h h0 h84 hc' hs kk H locs ls hl hP hS
  unfold i_ial at h
  split at h
  · rename_i j r rest
    split at h
    · rename_i n hn
      split at h
      · rename_i hin
        cases h
        have hin := inb_sp hin
        unfold aln at hn
        split at hn
        · rename_i hr
          split at hn
          · rename_i hv
            cases hn
            simp only [Bool.and_eq_true, beq_iff_eq] at hv
            have hat := wl_vld (G := G) hv.1 hr
            rw [ce_int (shp_eq hv.2)] at hat
            have k1 := kk H locs ls hl hP hS
            rw [show ard X M r j.toNatClampNeg = iv (M.2 r j.toNatClampNeg) by unfold ard; rw [if_pos hr]] at k1
            rw [List.map_cons, List.map_cons, tv_ref (r := r) (by omega)]
            exact va_iald C.1 C.2.1 C.2.2.2.2.2.2.2.1.1 hP (idx r) 0 hat rfl hin hdg k1
          · cases hn
        · rename_i hr
          have k1 := kk H locs ls hl hP hS
          rw [show ard X M r j.toNatClampNeg = cin X r j.toNatClampNeg by unfold ard; rw [if_neg hr]] at k1
          rcases cln_sp hn with ⟨i, hi, rfl, rfl⟩ | ⟨rfl, rfl⟩
          · exact va_ti C.1 C.2.1 (C.2.2.2.2.2.2.2.1.2.2.2.2.2.2.1 i hi).2 hS hin rfl hdg k1
          · exact va_sld C.1 C.2.1 C.2.2.2.2.2.2.2.1.2.2.2.2.2.2.2.2.2.2.1 (Nat.lt_of_lt_of_le C.2.2.2.2.2.2.2.1.2.2.2.2.2.2.2.2.2.2.2.1 C.2.2.2.2.2.2.2.1.2.2.2.2.2.2.2.2.2.2.2.2) (Nat.not_le.mpr C.2.2.2.2.2.2.2.1.2.2.2.2.2.2.2.2.2.2.2.1) hS hin hdg k1
      · cases h
    · cases h
  · cases h
theorem sc_ias (hdg : decode cc pc = .ok (.iastore, 1)) : SdC X cc own nL rt mn hh pc (i_ias (pc + 1)) := by
  intro G n0 p l e R s m args below meth c Q C la st M pc' la' st' M' h h0 h84 hc' hs kk H locs ls hl hP hS
  unfold i_ias at h
  split at h
  · rename_i x j r rest
    split at h
    · rename_i hg
      cases h
      simp only [Bool.and_eq_true, decide_eq_true_eq, beq_iff_eq] at hg
      obtain ⟨⟨⟨g1, g2⟩, g3⟩, g4⟩ := hg
      have g4 := inb_sp g4
      have hat := wl_vld (G := G) g2 g1
      rw [ce_int (shp_eq g3)] at hat
      rw [List.map_cons, List.map_cons, List.map_cons, tv_ref (r := r) (by omega)]
      refine va_iast C.1 C.2.1 C.2.2.2.2.2.2.2.1.1 hP (wl_D G M) hS (idx r) 0 hat rfl g4 hdg (fun H1 locs1 hP1 _ hS1 => ?_)
      have e1 := wl_set (G := G) (M := M) (M' := wr M r j.toNatClampNeg (aI x)) g2 g1 h84 rfl (fun q hq i => by simp [wr, hq])
      rw [ce_int (shp_eq g3), show (fun i => iv ((wr M r j.toNatClampNeg (aI x)).2 r i)) = upd (fun i => iv (M.2 r i)) j.toNatClampNeg x by
        funext i
        by_cases hi : i = j.toNatClampNeg
        · simp [wr, upd, hi, iv]
        · simp [wr, upd, hi]] at e1
      rw [e1] at hP1
      exact kk H1 locs1 ls hl hP1 hS1
    · cases h
  · cases h
theorem rko_sp {r : aL} (h : rko r = true) : ∃ k n C, shp r = (k + 2, n) ∧ ∀ G : aG, (tyL G)[k + 1]? = some (gA G (k + 2), .object C) := by
  unfold rko at h
  simp only [Bool.or_eq_true, beq_iff_eq] at h
  rcases h with (h | h) | h
  · exact ⟨0, _, _, shp_eq h, fun G => rfl⟩
  · exact ⟨1, _, _, shp_eq h, fun G => rfl⟩
  · exact ⟨2, _, _, shp_eq h, fun G => rfl⟩
theorem sc_aal (hdg : decode cc pc = .ok (.aaload, 1)) : SdC X cc own nL rt mn hh pc (i_aal (pc + 1)) := by
  intro G n0 p l e R s m args below meth c Q C la st M pc' la' st' M' h h0 h84 hc' hs kk H locs ls hl hP hS
  unfold i_aal at h
  split at h
  · rename_i j r rest
    split at h
    · rename_i hg
      split at h
      · rename_i q hq
        split at h
        · rename_i hq90
          cases h
          simp only [Bool.and_eq_true, decide_eq_true_eq] at hg
          obtain ⟨⟨⟨g1, g2⟩, g3⟩, g4⟩ := hg
          have g4 := inb_sp g4
          obtain ⟨k, n, C2, e1, e2⟩ := rko_sp g3
          have hat := wl_vld (G := G) g2 g1
          rw [ce_ref e1] at hat
          rw [e1] at g4
          rw [List.map_cons, List.map_cons, tv_ref (r := r) (by omega)]
          have k1 := kk H locs ls hl hP hS
          rw [List.map_cons, tv_ref (r := q) (by omega)] at k1
          refine va_aldq C.1 C.2.1 C.2.2.2.2.2.2.2.1.1 hP (idx r) (k + 1) hat (e2 G) g4 hdg ?_
          rw [hq]
          exact k1
        · cases h
      · cases h
    · cases h
  · cases h
theorem sc_aas (hdg : decode cc pc = .ok (.aastore, 1)) : SdC X cc own nL rt mn hh pc (i_aas (pc + 1)) := by
  intro G n0 p l e R s m args below meth c Q C la st M pc' la' st' M' h h0 h84 hc' hs kk H locs ls hl hP hS
  unfold i_aas at h
  split at h
  · rename_i q j r rest
    split at h
    · rename_i hg
      cases h
      simp only [Bool.and_eq_true, decide_eq_true_eq] at hg
      obtain ⟨⟨⟨g1, g2⟩, g3⟩, g4⟩ := hg
      have g4 := inb_sp g4
      have key : ∀ (k n : Nat), shp r = (k + 2, n) → ∀ (H1 : Heap) (locs1 : List Loc), va_P (gC G, gI G) vwCl ((wl G M).set (idx r) (mu G r, .inl (gA G (k + 2), n, .inr (.inr (.inr (.inr (va_up (fun i => rv G (M.2 r i)) j.toNatClampNeg (some (mu G q))))))))) H1 → va_S (gF G) s.heap H1 locs1 → W p l e R s m args below meth c H1 locs1 (M.1 - n0) (slS M.1 - slS n0) Q (F0 m (pc + 1) ls (st'.map (tv G))) := by
        intro k n e1 H1 locs1 hP1 hS1
        have e2 := wl_set (G := G) (M := M) (M' := wr M r j.toNatClampNeg (aR q)) g2 g1 h84 rfl (fun q hq i => by simp [wr, hq])
        rw [ce_ref e1, show (fun i => rv G ((wr M r j.toNatClampNeg (aR q)).2 r i)) = va_up (fun i => rv G (M.2 r i)) j.toNatClampNeg (some (mu G q)) by
          funext i
          by_cases hi : i = j.toNatClampNeg
          · simp [wr, va_up, hi, rv]
          · simp [wr, va_up, hi]] at e2
        rw [e2] at hP1
        exact kk H1 locs1 ls hl hP1 hS1
      have hat := wl_vld (G := G) g2 g1
      unfold aso at g3
      simp only [Bool.or_eq_true, Bool.and_eq_true, beq_iff_eq] at g3
      rcases g3 with (⟨a1, a2⟩ | ⟨a1, a2⟩) | ⟨a1, a2⟩
      · obtain ⟨b1, b2, b3⟩ := gok_sp a2
        have hat2 := wl_vld (G := G) b2 b1
        rw [ce_obj b3] at hat2
        rw [ce_ref (k := 0) (shp_eq a1)] at hat
        rw [List.map_cons, List.map_cons, List.map_cons, tv_ref (r := r) (by omega), tv_ref (r := q) (by omega)]
        exact va_astq C.1 C.2.1 C.2.2.2.2.2.2.2.1.1 hP (wl_D G M) hS (idx r) 1 (idx q) 2 (r := (RX2, TX2, 2)) hat rfl hat2 rfl g4 hdg (fun H1 locs1 hP1 _ hS1 => key 0 _ (shp_eq a1) H1 locs1 hP1 hS1)
      · obtain ⟨b1, b2, b3⟩ := gok_sp a2
        have hat2 := wl_vld (G := G) b2 b1
        rw [ce_obj b3] at hat2
        rw [ce_ref (k := 1) (shp_eq a1)] at hat
        rw [List.map_cons, List.map_cons, List.map_cons, tv_ref (r := r) (by omega), tv_ref (r := q) (by omega)]
        exact va_astq C.1 C.2.1 C.2.2.2.2.2.2.2.1.1 hP (wl_D G M) hS (idx r) 2 (idx q) 1 (r := (RX1, TX1, 3)) hat rfl hat2 rfl g4 hdg (fun H1 locs1 hP1 _ hS1 => key 1 _ (shp_eq a1) H1 locs1 hP1 hS1)
      · obtain ⟨b1, b2, b3⟩ := txo_sp a2
        rw [ce_ref (k := 2) (shp_eq a1)] at hat
        rw [List.map_cons, List.map_cons, List.map_cons, tv_ref (r := r) (by omega), tv_ref (r := q) (by omega)]
        have hr : va_Any RJ0 s H (mu G q) := by
          obtain ⟨cell, c1, c2, c3⟩ := vk_recv C.2.2.2.2.2.2.2.1.2.2.2.2.2.1 b2 hS
          obtain ⟨kC, hkC, -⟩ := Vm.findClass_spec c3
          rw [b3, mu_tx]
          exact ⟨cell, c1, c2, ⟨kC, hkC⟩, fun comp hcomp => by
            have e : comp = cell.cls := Option.some.inj (hcomp.symm.trans c3)
            rw [e]
            exact va_asg _ _⟩
        exact va_astqM C.1 C.2.1 C.2.2.2.2.2.2.2.1.1 hP (wl_D G M) hS (idx r) 3 hat rfl hr g4 hdg (fun H1 locs1 hP1 _ hS1 => key 2 _ (shp_eq a1) H1 locs1 hP1 hS1)
    · cases h
  · cases h
theorem lnL_at : ∀ w, w < 14 → lnL.getD w 0 = (txL.getD w []).length := by decide +kernel
theorem sc_bal (hdg : decode cc pc = .ok (.baload, 1)) : SdC X cc own nL rt mn hh pc (i_bal (pc + 1)) := by
  intro G n0 p l e R s m args below meth c Q C la st M pc' la' st' M' h h0 h84 hc' hs kk H locs ls hl hP hS
  unfold i_bal at h
  split at h
  · rename_i j r rest
    split at h
    · rename_i hg
      cases h
      obtain ⟨g1, g2, g3, g5⟩ := hg
      have g4 := inb_sp g5
      clear g5
      obtain ⟨a, w, b⟩ := r
      dsimp only at g1 g2 g3 g4 kk
      subst g1; subst g3
      have hT := (C.2.2.2.2.2.2.2.1.2.2.2.2.2.1.1 w g2).2.2.2
      rw [lnL_at w g2] at hT
      exact va_tb C.1 C.2.1 hT hS g4 rfl hdg (kk H locs ls hl hP hS)
    · cases h
  · cases h
theorem sc_aln (hdg : decode cc pc = .ok (.arraylength, 1)) : SdC X cc own nL rt mn hh pc (i_aln X (pc + 1)) := by
  intro G n0 p l e R s m args below meth c Q C la st M pc' la' st' M' h h0 h84 hc' hs kk H locs ls hl hP hS
  unfold i_aln at h
  split at h
  · rename_i r rest
    split at h
    · rename_i hr
      split at h
      · rename_i hg
        cases h
        simp only [Bool.and_eq_true, decide_eq_true_eq] at hg
        obtain ⟨g1, g2, g3⟩ := hg
        have hat := wl_vld (G := G) g1 hr
        rw [List.map_cons, tv_ref (r := r) (by omega)]
        rcases (show (shp r).1 = 1 ∨ (shp r).1 = 2 ∨ (shp r).1 = 3 ∨ (shp r).1 = 4 by omega) with e | e | e | e
        · rw [ce_int (shp_eq e)] at hat
          exact va_alen C.1 C.2.1 C.2.2.2.2.2.2.2.1.1 hP (idx r) 0 hat (ty := .int) rfl rfl hdg (kk H locs ls hl hP hS)
        · rw [ce_ref (k := 0) (shp_eq e)] at hat
          exact va_alen C.1 C.2.1 C.2.2.2.2.2.2.2.1.1 hP (idx r) 1 hat (ty := .object RX2) rfl rfl hdg (kk H locs ls hl hP hS)
        · rw [ce_ref (k := 1) (shp_eq e)] at hat
          exact va_alen C.1 C.2.1 C.2.2.2.2.2.2.2.1.1 hP (idx r) 2 hat (ty := .object RX1) rfl rfl hdg (kk H locs ls hl hP hS)
        · rw [ce_ref (k := 2) (shp_eq e)] at hat
          exact va_alen C.1 C.2.1 C.2.2.2.2.2.2.2.1.1 hP (idx r) 3 hat (ty := .object RJ0) rfl rfl hdg (kk H locs ls hl hP hS)
      · cases h
    · rename_i hr
      split at h
      · rename_i hg
        cases h
        obtain ⟨g1, g2, g3⟩ := hg
        obtain ⟨a, w, b⟩ := r
        dsimp only at g1 g2 g3 kk
        subst g1; subst g3
        have hT := (C.2.2.2.2.2.2.2.1.2.2.2.2.2.1.1 w g2).2.2.2
        rw [lnL_at w g2] at hT
        exact va_tlen C.1 C.2.1 hT hS rfl hdg (kk H locs ls hl hP hS)
      · split at h
        · rename_i n hn
          cases h
          rcases cln_sp hn with ⟨i, hi, rfl, rfl⟩ | ⟨rfl, rfl⟩
          · exact va_tlen C.1 C.2.1 (C.2.2.2.2.2.2.2.1.2.2.2.2.2.2.1 i hi).2 hS rfl hdg (kk H locs ls hl hP hS)
          · exact va_slen C.1 C.2.1 C.2.2.2.2.2.2.2.1.2.2.2.2.2.2.2.2.2.2.1 (Nat.lt_of_lt_of_le C.2.2.2.2.2.2.2.1.2.2.2.2.2.2.2.2.2.2.2.1 C.2.2.2.2.2.2.2.1.2.2.2.2.2.2.2.2.2.2.2.2) (Nat.not_le.mpr C.2.2.2.2.2.2.2.1.2.2.2.2.2.2.2.2.2.2.2.1) hS hdg (kk H locs ls hl hP hS)
        · cases h
  · cases h
theorem sc_gst {j i : Nat} (hi : i < 4) (hw : Cond.fieldLink own j RX2 (snL.getD i "") "[I" ∈ lw_tbl) (hdg : decode cc pc = .ok (.getstatic j, 3)) : SdC X cc own nL rt mn hh pc (i_ca (aR (82, i, 0)) (pc + 3)) := by
  intro G n0 p l e R s m args below meth c Q C la st M pc' la' st' M' h h0 h84 hc' hs kk H locs ls hl hP hS
  cases h
  exact va_gets C.1 C.2.1 (C.2.2.2.2.2.2.2.1.2.2.2.2.2.2.1 i hi).1 hS C.2.2.2.1 (C.2.2.2.2.2.2.2.1.word hw rfl _) (fun x hx => hx) hdg (kk H locs ls hl hP hS)
theorem sc_gcs {j : Nat} (hw : Cond.fieldLink own j RJ0 "COMPACT_STRINGS" "Z" ∈ lw_tbl) (hdg : decode cc pc = .ok (.getstatic j, 3)) : SdC X cc own nL rt mn hh pc (i_ca (aI 1) (pc + 3)) := by
  intro G n0 p l e R s m args below meth c Q C la st M pc' la' st' M' h h0 h84 hc' hs kk H locs ls hl hP hS
  cases h
  exact va_gets C.1 C.2.1 C.2.2.2.2.2.2.2.1.2.2.2.2.2.2.2.1 hS C.2.2.2.1 (C.2.2.2.2.2.2.2.1.word hw rfl _) (fun x hx => hx) hdg (kk H locs ls hl hP hS)
theorem sc_gfo {j : Nat} (hw : Cond.fieldLink own j RJ3 "SIOOBE_FORMATTER" "Ljava/util/function/BiFunction;" ∈ lw_tbl) (hdg : decode cc pc = .ok (.getstatic j, 3)) : SdC X cc own nL rt mn hh pc (i_ca (aR (95, 0, 0)) (pc + 3)) := by
  intro G n0 p l e R s m args below meth c Q C la st M pc' la' st' M' h h0 h84 hc' hs kk H locs ls hl hP hS
  cases h
  exact va_gets C.1 C.2.1 C.2.2.2.2.2.2.2.1.2.2.2.2.2.2.2.2.1 hS C.2.2.2.1 (C.2.2.2.2.2.2.2.1.word hw rfl _) (fun x hx => hx) hdg (kk H locs ls hl hP hS)
theorem sc_oin {j : Nat} (hw : Cond.methodLink own j objectInit ∈ lw_tbl) (hw2 : Cond.instanceMethod objectInit ∈ lw_tbl) (hw3 : Cond.code objectInit ⟨#[0xb1]⟩ 1 none ∈ lw_tbl) (hdg : decode cc pc = .ok (.invokespecial j, 3)) : SdC X cc own nL rt mn hh pc (i_oin (pc + 3)) := by
  intro G n0 p l e R s m args below meth c Q C la st M pc' la' st' M' h h0 h84 hc' hs kk H locs ls hl hP hS
  unfold i_oin at h
  split at h
  · rename_i r rest
    split at h
    · rename_i hg
      cases h
      have hz := C.2.2.2.2.2.2.2.1.gz
      have c1 := C.2.2.2.2.2.2.2.2.2.1
      have c2 := C.2.2.2.2.2.2.2.2.2.2.1
      have c3 := C.2.2.2.2.2.2.2.2.2.2.2
      rw [List.map_cons, tv_ref (r := r) (by omega)]
      exact W.objInit C.1 C.2.1 C.2.2.2.1 (C.2.2.2.2.2.2.2.1.word hw rfl _) (C.2.2.2.2.2.2.2.1.word hw2 rfl _) (C.2.2.2.2.2.2.2.1.word hw3 rfl _) rfl (hl.2.1.trans C.2.2.1.symm) rfl hdg (by omega) (by show 2 * 0 + _ + 12 ≤ _; rw [cs_map hz]; omega) (kk H locs ls hl hP hS)
    · cases h
  · cases h
theorem sc_max {j : Nat} (hw : Cond.methodLink own j Lib.Math.max.name ∈ lw_tbl) (hw2 : Cond.static Lib.Math.max.name ∈ lw_tbl) (hw3 : Cond.initialized "java/lang/Math" ∈ lw_tbl) (hw4 : Cond.code Lib.Math.max.name Lib.Math.max.code 2 (some .int) ∈ lw_tbl) (hdg : decode cc pc = .ok (.invokestatic j, 3)) : SdC X cc own nL rt mn hh pc (i_max (pc + 3)) := by
  intro G n0 p l e R s m args below meth c Q C la st M pc' la' st' M' h h0 h84 hc' hs kk H locs ls hl hP hS
  unfold i_max at h
  split at h
  · rename_i y x rest
    split at h
    · rename_i hg
      cases h
      have hz := C.2.2.2.2.2.2.2.1.gz
      have c1 := C.2.2.2.2.2.2.2.2.2.1
      have c2 := C.2.2.2.2.2.2.2.2.2.2.1
      have c3 := C.2.2.2.2.2.2.2.2.2.2.2
      exact va_mmax C.1 C.2.1 (C.2.2.1.trans hl.2.1.symm) C.2.2.2.1 (C.2.2.2.2.2.2.2.1.word hw rfl _) (C.2.2.2.2.2.2.2.1.word hw2 rfl _) (C.2.2.2.2.2.2.2.1.word hw3 rfl _) (C.2.2.2.2.2.2.2.1.word hw4 rfl _) (by omega) (by rw [cs_map hz]; omega) hc' hs hdg (kk H locs ls hl hP hS)
    · cases h
  · cases h
theorem sc_min {j : Nat} (hw : Cond.methodLink own j Lib.Math.min.name ∈ lw_tbl) (hw2 : Cond.static Lib.Math.min.name ∈ lw_tbl) (hw3 : Cond.initialized "java/lang/Math" ∈ lw_tbl) (hw4 : Cond.code Lib.Math.min.name Lib.Math.min.code 2 (some .int) ∈ lw_tbl) (hdg : decode cc pc = .ok (.invokestatic j, 3)) : SdC X cc own nL rt mn hh pc (i_min (pc + 3)) := by
  intro G n0 p l e R s m args below meth c Q C la st M pc' la' st' M' h h0 h84 hc' hs kk H locs ls hl hP hS
  unfold i_min at h
  split at h
  · rename_i y x rest
    split at h
    · rename_i hg
      cases h
      have hz := C.2.2.2.2.2.2.2.1.gz
      have c1 := C.2.2.2.2.2.2.2.2.2.1
      have c2 := C.2.2.2.2.2.2.2.2.2.2.1
      have c3 := C.2.2.2.2.2.2.2.2.2.2.2
      exact va_mmin C.1 C.2.1 (C.2.2.1.trans hl.2.1.symm) C.2.2.2.1 (C.2.2.2.2.2.2.2.1.word hw rfl _) (C.2.2.2.2.2.2.2.1.word hw2 rfl _) (C.2.2.2.2.2.2.2.1.word hw3 rfl _) (C.2.2.2.2.2.2.2.1.word hw4 rfl _) (by omega) (by rw [cs_map hz]; omega) hc' hs hdg (kk H locs ls hl hP hS)
    · cases h
  · cases h
end HEAP
