/-! the reference as a picture of the document's state -/
def gMd (P : gPar) (f : gM) (b : Nat) (gt gn gl go gu gf gk gi gz gy ga gd : Nat → Int32) (tl fl tot op td : Nat) : Prop :=
  f b = some (.inr (7, [.ref (b + 1), .int (nI tl), .ref (b + 2), .ref (b + 3), .ref (b + 4), .ref (b + 5), .ref (b + 6), .ref (b + 7), .ref (b + 8), .ref (b + 9), .ref (b + 10), .ref (b + 11), .int (nI fl), .int (nI tot), .int (nI op), .ref (b + 12), .int (nI td)])) ∧ f (b + 1) = some (.inl (P.2.1 0, 2048, .inl gt)) ∧ f (b + 2) = some (.inl (P.2.1 0, 400, .inl gn)) ∧ f (b + 3) = some (.inl (P.2.1 1, 2, .inl gl)) ∧ f (b + 4) = some (.inl (P.2.1 1, 48, .inl go)) ∧ f (b + 5) = some (.inl (P.2.1 2, 48, .inl gu)) ∧ f (b + 6) = some (.inl (P.2.1 0, 9600, .inl gf)) ∧ f (b + 7) = some (.inl (P.2.1 1, 48, .inl gk)) ∧ f (b + 8) = some (.inl (P.2.1 1, 48, .inl gi)) ∧ f (b + 9) = some (.inl (P.2.1 1, 48, .inl gz)) ∧ f (b + 10) = some (.inl (P.2.1 0, 393216, .inl gy)) ∧ f (b + 11) = some (.inl (P.2.1 2, 912, .inl ga)) ∧ f (b + 12) = some (.inl (P.2.1 1, 2048, .inl gd))
def mF (gf gk gi gz gy ga : Nat → Int32) (q : Nat) (v : AFile) : Prop := q < 48 ∧ mNk gf gk q v.1 ∧ mFb gi gz gy ga q v
def mTold (gd : Nat → Int32) (T : List Nat) : Prop := T.length ≤ 2048 ∧ ∀ i, i < T.length → gd i = nI (T.getD i 0)
def mTape (gt : Nat → Int32) (T : List Nat) : Prop := T.length ≤ 2048 ∧ nmL T.length gt = T
def mFs (go gu gf gk gi gz gy ga : Nat → Int32) (L : List Nat) (af : Nat → AFile) : Prop := L.Nodup ∧ L.length ≤ 48 ∧ mOr go L ∧ mUs gu L ∧ ∀ q ∈ L, mF gf gk gi gz gy ga q (af q)
def gMo (P : gPar) (f : gM) (b : Nat) (st : ASt) : Prop := ∃ (gt gn gl go gu gf gk gi gz gy ga gd : Nat → Int32) (L : List Nat) (af : Nat → AFile), gMd P f b gt gn gl go gu gf gk gi gz gy ga gd st.1.length L.length (fB st.2.2.2.2.2) st.2.2.2.2.1 st.2.2.2.1.length ∧ mTape gt st.1 ∧ (mNk gn gl 0 st.2.1 ∧ mNk gn gl 1 st.2.2.1) ∧ mTold gd st.2.2.2.1 ∧ mFs go gu gf gk gi gz gy ga L af ∧ L.map af = st.2.2.2.2.2
/-- the files' own law -/
def wfS (FS : List AFile) : Prop := srt (fN FS) ∧ fB FS ≤ 32768 ∧ ∀ v ∈ FS, wfF v.2.2.1 v.2.2.2.1 v.2.2.2.2
theorem map_insG {α β : Type} (F : α → β) : ∀ (L : List α) (i : Nat) (x : α), (L.insertIdx i x).map F = (L.map F).insertIdx i (F x)
  | _, 0, _ => by simp
  | [], i + 1, _ => by simp
  | a :: l, i + 1, x => by simp [map_insG F l i x]
theorem fB_ins {FS : List AFile} {v : AFile} {i : Nat} (hi : i ≤ FS.length) : fB (FS.insertIdx i v) = v.2.2.1 + fB FS := by
  unfold fB
  have hp := ((List.perm_insertIdx v FS hi).map (fun v => v.2.2.1))
  rw [hp.sum_nat]; simp
theorem fB_set {FS : List AFile} {v v0 : AFile} {k : Nat} (h : FS[k]? = some v0) : fB (FS.set k v) + v0.2.2.1 = fB FS + v.2.2.1 := by
  unfold fB
  rw [List.map_set]
  exact sum_set (by simp [h])
theorem sum_erG {α : Type} {F : α → Nat} : ∀ {L : List α} {x : α} {k : Nat}, L[k]? = some x → ((L.eraseIdx k).map F).sum + F x = (L.map F).sum
  | a :: l, x, 0, h => by
    simp at h
    subst h
    simp; omega
  | a :: l, x, k + 1, h => by
    have := sum_erG (F := F) (L := l) (k := k) (by simpa using h)
    simp; omega
theorem fB_er {FS : List AFile} {v : AFile} {k : Nat} (h : FS[k]? = some v) : fB (FS.eraseIdx k) + v.2.2.1 = fB FS := sum_erG (F := fun v => v.2.2.1) h
theorem fB_le {FS : List AFile} {v : AFile} (h : v ∈ FS) : v.2.2.1 ≤ fB FS := sum_mem (fun v => v.2.2.1) h
theorem wfS_ins {FS : List AFile} {v : AFile} (h : wfS FS) (hn : v.1 ∉ fN FS) (hv : wfF v.2.2.1 v.2.2.2.1 v.2.2.2.2) (hb : fB FS + v.2.2.1 ≤ 32768) : wfS (fIns FS v) := by
  obtain ⟨h1, h2, h3⟩ := h
  have hp : plc (fN FS) v.1 ≤ FS.length := by have := plc_le (fN FS) v.1; rw [show (fN FS).length = FS.length by simp [fN]] at this; exact this
  refine ⟨?_, by unfold fIns; rw [fB_ins hp]; omega, fun w hw => ?_⟩
  · unfold fIns fN
    rw [map_insG]
    exact srt_ins h1 hn
  · rcases (List.mem_insertIdx hp).mp hw with e | e
    · rw [e]; exact hv
    · exact h3 w e
theorem wfS_set {FS : List AFile} {v v0 : AFile} {k : Nat} (h : wfS FS) (h0 : FS[k]? = some v0) (hn : v.1 = v0.1) (hv : wfF v.2.2.1 v.2.2.2.1 v.2.2.2.2) (hb : fB FS - v0.2.2.1 + v.2.2.1 ≤ 32768) : wfS (FS.set k v) := by
  obtain ⟨h1, h2, h3⟩ := h
  refine ⟨?_, ?_, fun w hw => ?_⟩
  · unfold fN
    rw [List.map_set, hn]
    have : (FS.map (fun v => v.1)).set k v0.1 = FS.map (fun v => v.1) := by
      apply List.ext_getElem?
      intro j
      by_cases e : k = j
      · subst e
        rw [List.getElem?_set_self (by simpa using (List.getElem?_eq_some_iff.mp h0).1)]
        simp [h0]
      · rw [List.getElem?_set_ne e]
    rw [this]; exact h1
  · have := fB_set (v := v) h0
    have := fB_le (List.mem_of_getElem? h0)
    omega
  · rcases List.mem_or_eq_of_mem_set hw with e | e
    · exact h3 w e
    · rw [e]; exact hv
theorem fN_er {FS : List AFile} {k : Nat} : fN (FS.eraseIdx k) = (fN FS).eraseIdx k := map_er _ FS k
theorem wfS_er {FS : List AFile} {k : Nat} (h : wfS FS) : wfS (FS.eraseIdx k) := by
  obtain ⟨h1, h2, h3⟩ := h
  refine ⟨by rw [fN_er]; exact srt_er h1 k, ?_, fun w hw => h3 w (List.mem_of_mem_eraseIdx hw)⟩
  cases hk : FS[k]? with
  | none => rw [List.eraseIdx_of_length_le (List.getElem?_eq_none_iff.mp hk)]; exact h2
  | some v => have := fB_er hk; omega
/-- a name that stands at one place is not left once it is taken out -/
theorem nm_er {l : List (List Nat)} (hs : srt l) {k : Nat} {nm : List Nat} (hk : l[k]? = some nm) : nm ∉ l.eraseIdx k := fun z => by
  obtain ⟨j, hj⟩ := List.getElem?_of_mem z
  rw [List.getElem?_eraseIdx] at hj
  by_cases c : j < k
  · rw [if_pos c] at hj; exact nlt_irrefl _ (srt_lt hs c hj hk)
  · rw [if_neg c] at hj; exact nlt_irrefl _ (srt_lt hs (by omega) hk hj)
theorem idx_FS {FS : List AFile} {nm : List Nat} {k : Nat} (h : idx (fN FS) nm = some k) : ∃ v, FS[k]? = some v ∧ v.1 = nm ∧ FS.getD k (fNew [] 0) = v := by
  obtain ⟨-, -, h3⟩ := idx_lt h
  unfold fN at h3
  rw [List.getElem?_map] at h3
  cases hv : FS[k]? with
  | none => rw [hv] at h3; cases h3
  | some v => rw [hv] at h3; exact ⟨v, rfl, Option.some.inj h3, by rw [List.getD_eq_getElem?_getD, hv]; rfl⟩
theorem wfS_write {st : ASt} {app : Bool} {a : Nat} (h : wfS st.2.2.2.2.2) : wfS (oWrite st app a).2.2.2 := by
  cases hix : idx (fN st.2.2.2.2.2) st.2.1 with
  | some k =>
    obtain ⟨v, hv, hv1, hv2⟩ := idx_FS hix
    obtain ⟨fr, hfr⟩ : ∃ z, z = (if app then v.2.2.1 else a) := ⟨_, rfl⟩
    obtain ⟨at_, hat⟩ : ∃ z, z = (if st.1.length = 0 then v.2.2.1 else max v.2.2.1 (fr + st.1.length)) := ⟨_, rfl⟩
    rw [oWrite_s hix hv2 hfr hat]
    by_cases hc : at_ ≤ 8192 ∧ fB st.2.2.2.2.2 - v.2.2.1 + at_ ≤ 32768
    · rw [if_pos hc]
      rw [hat] at hc
      exact wfS_set h hv rfl (wfF_wr (h.2.2 v (List.mem_of_getElem? hv)) hc.1) hc.2
    · rw [if_neg hc]; exact h
  | none =>
    obtain ⟨fr, hfr⟩ : ∃ z, z = (if app then 0 else a) := ⟨_, rfl⟩
    obtain ⟨at_, hat⟩ : ∃ z, z = (if st.1.length = 0 then 0 else fr + st.1.length) := ⟨_, rfl⟩
    rw [oWrite_n hix hfr hat]
    by_cases hc : st.2.2.2.2.2.length < 48 ∧ at_ ≤ 8192 ∧ fB st.2.2.2.2.2 + at_ ≤ 32768
    · rw [if_pos hc]
      rw [hat] at hc
      have hw : wfF (fWr (fNew st.2.1 (nI st.2.2.2.2.1)) fr st.1).2.2.1 (fWr (fNew st.2.1 (nI st.2.2.2.2.1)) fr st.1).2.2.2.1 (fWr (fNew st.2.1 (nI st.2.2.2.2.1)) fr st.1).2.2.2.2 := wfF_wr wfF_0 (by rw [Nat.zero_max]; exact hc.2.1)
      exact wfS_ins h (idx_nm h.1 hix) hw (by show fB _ + (if st.1.length = 0 then 0 else max 0 (fr + st.1.length)) ≤ 32768; rw [Nat.zero_max]; exact hc.2.2)
    · rw [if_neg hc]; exact h
theorem wfS_sw {FS : List AFile} {v w : AFile} {i j : Nat} {n0 n1 : List Nat} (h : wfS FS) (hv : FS[i]? = some v) (hw : FS[j]? = some w) (h1 : v.1 = n0) (h2 : w.1 = n1) : wfS ((FS.set i (n0, w.2)).set j (n1, v.2)) := by
  obtain ⟨a1, a2, a3⟩ := h
  have hi := (List.getElem?_eq_some_iff.mp hv).1
  have hj := (List.getElem?_eq_some_iff.mp hw).1
  refine ⟨?_, ?_, fun x hx => ?_⟩
  · unfold fN
    rw [List.map_set, List.map_set]
    have e : ((FS.map (fun v => v.1)).set i n0).set j n1 = FS.map (fun v => v.1) := by
      apply List.ext_getElem?
      intro t
      by_cases e : j = t
      · subst e
        rw [List.getElem?_set_self (by simpa using hj)]
        simp [hw, h2]
      · rw [List.getElem?_set_ne e]
        by_cases e2 : i = t
        · subst e2
          rw [List.getElem?_set_self (by simpa using hi)]
          simp [hv, h1]
        · rw [List.getElem?_set_ne e2]
    show srt (((FS.map (fun v => v.1)).set i n0).set j n1)
    rw [e]; exact a1
  · unfold fB
    rw [List.map_set, List.map_set, sum_sw (p := v.2.2.1) (q := w.2.2.1) (by simp [hv]) (by simp [hw])]
    exact a2
  · rcases List.mem_or_eq_of_mem_set hx with e | e
    · rcases List.mem_or_eq_of_mem_set e with e | e
      · exact a3 x e
      · rw [e]; exact a3 w (List.mem_of_getElem? hw)
    · rw [e]; exact a3 v (List.mem_of_getElem? hv)
theorem wfS_op {st : ASt} {kd a b : Int32} (h : wfS st.2.2.2.2.2) (hr : ¬ aRef st kd a b) : wfS (aOp st kd a b).2.2.2 := by
  have hA : kd = 3 → a.toNatClampNeg ≤ 8192 := fun hk => by
    have z : ¬ (a < 0 ∨ 8192 < a) := fun q => hr (Or.inr (Or.inr (Or.inr (Or.inl ⟨Or.inr (Or.inl hk), q⟩))))
    obtain ⟨n, h1, h2⟩ := nI_of (fun q => z (Or.inl q))
    rw [h2, nI_clamp h1]
    exact (nI_leI (b := 8192) (by omega) (by omega)).mp (by rw [← h2]; exact Int32.not_lt.mp (fun q => z (Or.inr q)))
  unfold aOp
  split
  · cases hix : idx (fN st.2.2.2.2.2) st.2.1 with
    | some k => rw [oMake_s hix]; exact h
    | none =>
      rw [oMake_n hix]
      split
      · exact h
      · exact wfS_ins h (idx_nm h.1 hix) wfF_0 (by have := h.2.1; show fB _ + 0 ≤ 32768; omega)
  · split
    · exact wfS_write h
    · split
      · exact wfS_write h
      · split
        · rename_i h3
          cases hix : idx (fN st.2.2.2.2.2) st.2.1 with
          | none => rw [oCut_n hix]; exact h
          | some k =>
            obtain ⟨v, hv, hv1, hv2⟩ := idx_FS hix
            rw [oCut_s hix hv2]
            split
            · exact h
            · rename_i hc
              refine wfS_set h hv rfl (wfF_cut (h.2.2 v (List.mem_of_getElem? hv)) (hA h3)) ?_
              show fB st.2.2.2.2.2 - v.2.2.1 + a.toNatClampNeg ≤ 32768
              have h1 := h.2.1
              have h2 := fB_le (List.mem_of_getElem? hv)
              by_cases c : v.2.2.1 < a.toNatClampNeg
              · exact Classical.byContradiction fun z => hc ⟨c, z⟩
              · omega
        · split
          · cases hix : idx (fN st.2.2.2.2.2) st.2.1 with
            | none => rw [oRead_n hix]; exact h
            | some k => obtain ⟨v, hv, hv1, hv2⟩ := idx_FS hix; rw [oRead_s hix hv2]; exact h
          · split
            · cases hix : idx (fN st.2.2.2.2.2) st.2.1 with
              | none => rw [oRemove_n hix]; exact h
              | some k => obtain ⟨v, hv, hv1, hv2⟩ := idx_FS hix; rw [oRemove_s hix hv2]; exact wfS_er h
            · split
              · cases hix : idx (fN st.2.2.2.2.2) st.2.1 with
                | none => rw [oRename_n hix]; exact h
                | some k =>
                  by_cases he : st.2.1 = st.2.2.1
                  · rw [oRename_e hix he]; exact h
                  · cases hjx : idx (fN st.2.2.2.2.2) st.2.2.1 with
                    | none =>
                      obtain ⟨v, hv, hv1, hv2⟩ := idx_FS hix
                      rw [oRename_0 hix he hjx, hv2]
                      refine wfS_ins (wfS_er h) (fun z => idx_nm h.1 hjx (by rw [fN_er] at z; exact List.mem_of_mem_eraseIdx z)) (h.2.2 v (List.mem_of_getElem? hv)) ?_
                      show fB _ + v.2.2.1 ≤ 32768
                      have := fB_er hv; have := h.2.1; omega
                    | some j =>
                      have hjk : j ≠ k := fun q => he (by
                        have q1 := (idx_lt hjx).2.2
                        rw [q, (idx_lt hix).2.2] at q1; exact Option.some.inj q1)
                      have hi1 : idx (fN (st.2.2.2.2.2.eraseIdx j)) st.2.1 = some (if j < k then k - 1 else k) := by rw [fN_er]; exact idx_er hix hjk
                      obtain ⟨v, hv, hv1, hv2⟩ := idx_FS hi1
                      rw [oRename_1 hix he hjx hi1, hv2]
                      have hw := wfS_er (k := j) h
                      refine wfS_ins (wfS_er hw) (fun z => ?_) (hw.2.2 v (List.mem_of_getElem? hv)) ?_
                      · rw [fN_er] at z
                        have z := List.mem_of_mem_eraseIdx z
                        rw [fN_er] at z
                        exact nm_er h.1 (idx_lt hjx).2.2 z
                      · show fB _ + v.2.2.1 ≤ 32768
                        have := fB_er hv; have := hw.2.1; omega
              · split
                · cases hix : idx (fN st.2.2.2.2.2) st.2.1 with
                  | none => rw [oSwap_n (Or.inl hix)]; exact h
                  | some i =>
                    cases hjx : idx (fN st.2.2.2.2.2) st.2.2.1 with
                    | none => rw [oSwap_n (Or.inr hjx)]; exact h
                    | some j =>
                      obtain ⟨v, hv, hv1, hv2⟩ := idx_FS hix
                      obtain ⟨w, hw, hw1, hw2⟩ := idx_FS hjx
                      rw [oSwap_s hix hjx, hv2, hw2]
                      exact wfS_sw h hv hw hv1 hw1
                · split
                  · cases hix : idx (fN st.2.2.2.2.2) st.2.1 with
                    | none => rw [oSize_n hix]; exact h
                    | some k => obtain ⟨v, hv, hv1, hv2⟩ := idx_FS hix; rw [oSize_s hix hv2]; exact h
                  · cases hn : st.2.2.2.2.2[if (fN st.2.2.2.2.2)[plc (fN st.2.2.2.2.2) st.2.1]? = some st.2.1 then plc (fN st.2.2.2.2.2) st.2.1 + 1 else plc (fN st.2.2.2.2.2) st.2.1]? with
                    | none => rw [oNext_n hn]; exact h
                    | some v => rw [oNext_s hn]; exact h
theorem wfS_run {st : ASt} {kd a b : Int32} (h : wfS st.2.2.2.2.2) : wfS (aRun st kd a b).2.2.2.2.2.2 := by
  by_cases hr : aRef st kd a b
  · rw [aRun_ref hr]; exact h
  · rw [aRun_op hr]; exact wfS_op h hr
theorem wfS_feed {st : ASt} {x1 x2 x3 x4 x5 : Int32} (h : wfS st.2.2.2.2.2) : wfS (aFeed st x1 x2 x3 x4 x5).2.2.2.2.2.2 := by
  unfold aFeed; split <;> exact h
theorem wfS_end {st : ASt} {n : Int32} (h : wfS st.2.2.2.2.2) : wfS (aEnd st n).2.2.2.2.2.2 := by
  unfold aEnd; split <;> exact h
theorem wfS_name {st : ASt} {k : Int32} (h : wfS st.2.2.2.2.2) : wfS (aName st k).2.2.2.2.2.2 := by
  unfold aName
  split
  · show wfS (if k = 0 then _ else _ : ASt).2.2.2.2.2
    split <;> exact h
  · exact h
