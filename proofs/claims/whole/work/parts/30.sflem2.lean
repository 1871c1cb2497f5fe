/-! an operation's beginning: one more is counted, nothing is told -/
def aIn (st : ASt) : ASt := (st.1, st.2.1, st.2.2.1, ([] : List Nat), st.2.2.2.2.1 + 1, st.2.2.2.2.2)
noncomputable def aRun (st : ASt) (kind a b : Int32) : Int32 × ASt := @ite (Int32 × ASt) (aRef st kind a b) (Classical.propDecidable _) (-1, st) ((aOp st kind a b).1, aAft st (aOp st kind a b))
theorem aRun_ref {st : ASt} {kind a b : Int32} (h : aRef st kind a b) : aRun st kind a b = (-1, st) := by unfold aRun; rw [if_pos h]
theorem aRun_op {st : ASt} {kind a b : Int32} (h : ¬ aRef st kind a b) : aRun st kind a b = ((aOp st kind a b).1, aAft st (aOp st kind a b)) := by unfold aRun; rw [if_neg h]
theorem aRef_no {st : ASt} {kind a b : Int32} (h0 : ¬ (kind < 0 ∨ 9 < kind)) (h1 : kind ≠ 9 → st.2.1 ≠ []) (h2 : kind = 6 ∨ kind = 7 → st.2.2.1 ≠ []) (h3 : kind = 1 ∨ kind = 3 ∨ kind = 4 → ¬ (a < 0 ∨ 8192 < a)) (h4 : kind = 4 → ¬ (b < 0 ∨ 2048 < b)) : ¬ aRef st kind a b := by
  intro z
  rcases z with z | z | z | z | z
  · exact h0 z
  · exact h1 z.1 z.2
  · exact h2 z.1 z.2
  · exact h3 z.1 z.2
  · exact h4 z.1 z.2
/-- behind a step on the shelf -/
theorem gSF.sh {P : gPar} {f f1 : gM} {a : Nat} {st : ASt} {V : Nat → Prop} {FS : List AFile} (h : gSF P f a st) (hU : gFU f f1 (gUS a V)) (hs : gFS P f1 (a + 9) FS) : gSF P f1 a (st.1, st.2.1, st.2.2.1, st.2.2.2.1, st.2.2.2.2.1, FS) ∧ gFU f f1 V := by
  obtain ⟨h0, h1, h2, h3, h4, -⟩ := h
  have u : ∀ c, a ≤ c → c ≤ a + 8 → gUS a V c := fun c x y => Or.inl ⟨x, y⟩
  exact ⟨⟨hU _ _ (u a (by omega) (by omega)) h0, h1.fu hU (u _ (by omega) (by omega)) (u _ (by omega) (by omega)), h2.fu hU (u _ (by omega) (by omega)) (u _ (by omega) (by omega)), h3.fu hU (u _ (by omega) (by omega)) (u _ (by omega) (by omega)), h4.fu hU (u _ (by omega) (by omega)) (u _ (by omega) (by omega)), hs⟩, fun c v hc hf => hU c v (Or.inr hc) hf⟩
/-- the tape is made empty -/
theorem gSF.sht {P : gPar} {f f1 : gM} {a : Nat} {st : ASt} {V : Nat → Prop} (h : gSF P f a st) (hV : gUo f V) (hVa : ∀ c, V c → a + 14 ≤ c) (hz : f P.2.2.2.1 = none) (hf : f1 = va_up f (a + 1) (some (.inr (1, [.ref (a + 2), .int (nI 0)])))) : gSF P f1 a ([], st.2) ∧ gFU f f1 V := by
  have hF : gFr f f1 [a + 1] := by rw [hf]; exact gFr.upA (by simp) gFr.rf
  have hin := inr1 (a := a) (x := a + 1) (by omega)
  have gfs := gFS.out h hV hz hF hin
  refine ⟨⟨hF a _ h.1 (by simp), ?_, h.2.2.1.fr hF (by simp) (by simp), h.2.2.2.1.fr hF (by simp) (by simp), h.2.2.2.2.1.fr hF (by simp) (by simp), gfs⟩, gFU.out hVa hF hin⟩
  obtain ⟨g, t1, t2, t3, t4, t5⟩ := h.2.1
  exact ⟨g, by rw [hf]; exact va_up_self _ _ _, hF _ _ t2 (by simp), by simp, t4, rfl⟩
/-- a row of what is told -/
theorem gSF.shd {P : gPar} {f f1 : gM} {a : Nat} {st : ASt} {V : Nat → Prop} {T : List Nat} (h : gSF P f a st) (hV : gUo f V) (hVa : ∀ c, V c → a + 14 ≤ c) (hz : f P.2.2.2.1 = none) (hF : gFr f f1 [a + 7, a + 8]) (hr : gRw P f1 (a + 7) 2048 T) : gSF P f1 a (st.1, st.2.1, st.2.2.1, T, st.2.2.2.2) ∧ gFU f f1 V := by
  have hin := inr2 (a := a) (x := a + 7) (y := a + 8) (by omega) (by omega)
  have gfs := gFS.out h hV hz hF hin
  exact ⟨⟨hF a _ h.1 (by simp), h.2.1.fr hF (by simp) (by simp), h.2.2.1.fr hF (by simp) (by simp), h.2.2.2.1.fr hF (by simp) (by simp), hr, gfs⟩, gFU.out hVa hF hin⟩
/-- an operation is counted, and nothing is told -/
theorem gSF.inn {P : gPar} {f f1 f2 : gM} {a : Nat} {st : ASt} {V : Nat → Prop} (h : gSF P f a st) (hV : gUo f V) (hVa : ∀ c, V c → a + 14 ≤ c) (hz : f P.2.2.2.1 = none) (hf : f1 = va_up f a (some (.inr (0, [.ref (a + 1), .ref (a + 3), .ref (a + 5), .ref (a + 7), .ref (a + 9), .int (nI (st.2.2.2.2.1 + 1))])))) (hf2 : f2 = va_up f1 (a + 7) (some (.inr (1, [.ref (a + 8), .int (nI 0)])))) : gSF P f2 a (aIn st) ∧ gFU f f2 V := by
  have hF : gFr f f2 [a, a + 7] := by rw [hf2, hf]; exact gFr.upA (by simp) (gFr.upA (by simp) gFr.rf)
  have hin := inr2 (a := a) (x := a) (y := a + 7) (by omega) (by omega)
  have gfs := gFS.out h hV hz hF hin
  refine ⟨⟨?_, h.2.1.fr hF (nm2 (by omega) (by omega)) (nm2 (by omega) (by omega)), h.2.2.1.fr hF (nm2 (by omega) (by omega)) (nm2 (by omega) (by omega)), h.2.2.2.1.fr hF (nm2 (by omega) (by omega)) (nm2 (by omega) (by omega)), ?_, gfs⟩, gFU.out hVa hF hin⟩
  · rw [hf2, va_up_ne _ _ (by omega), hf]; exact va_up_self _ _ _
  · obtain ⟨g, t1, t2, t3, t4, t5⟩ := h.2.2.2.2.1
    exact ⟨g, by rw [hf2]; exact va_up_self _ _ _, hF _ _ t2 (nm2 (by omega) (by omega)), by simp [aIn], t4, rfl⟩
/-- a file is changed: written, cut -/
theorem gSh.file {P : gPar} {f f1 : gM} {ow ow1 : gO} {sh x nx len' : Nat} {L SF SP SP1 : List Nat} {e1 c1 e2 c2 e3 c3 e3' c3' : Nat} {af : Nat → AFile} {gx : Nat → Int32} {ps ps1 : Nat → Option Nat} {ld' : Nat → Bool} {C' : Nat → Nat} (h : gSh P f ow sh L SF SP e1 c1 e2 c2 e3 c3 af) (h34 : P.2.1 3 ≠ P.2.1 4) (hz : f P.2.2.2.1 = none) (hxL : x ∈ L)
    (x0 : f x = some (.inr (4, [.ref (sh + 3), .ref (x + 1), .ref (x + 3), .int (af x).2.1, .int (nI (af x).2.2.1)]))) (x1 : f (x + 1) = some (.inr (1, [.ref (x + 2), .int (nI nx)]))) (x2 : f (x + 2) = some (.inl (P.2.1 0, 200, .inl gx))) (x3 : f (x + 3) = some (.inl (P.2.1 3, 19, .inr (.inr (.inr (.inr ps)))))) (x4 : nx ≤ 200) (x5 : sb_Fit gx) (x6 : nmL nx gx = (af x).1) (x7 : gPs P f ow x ps (af x).2.2.2.1 (af x).2.2.2.2)
    (q0 : f1 x = some (.inr (4, [.ref (sh + 3), .ref (x + 1), .ref (x + 3), .int (af x).2.1, .int (nI len')]))) (q3 : f1 (x + 3) = some (.inl (P.2.1 3, 19, .inr (.inr (.inr (.inr ps1)))))) (hsp : gSp P f1 ow1 (sh + 3) e3' c3' SP1) (hps1 : gPs P f1 ow1 x ps1 ld' C') (hr : gRel x (sh + 3) f ow e3 SP ps f1 ow1 e3' SP1 ps1) (hwf : wfF len' ld' C') : gSh P f1 ow1 sh L SF SP1 e1 c1 e2 c2 e3' c3' (va_up af x ((af x).1, (af x).2.1, len', ld', C')) := by
  have hout := gXs_row hz x0 x3 x7 h.2.2.2.1 x1 x2
  refine h.rel h34 hz ⟨_, x0⟩ x3 x7 hr hsp (fun q _ hne => va_up_ne _ _ hne) (fun _ => ?_) (fun z => (List.nodup_append.mp h.2.2.2.2.2.2.2.1).2.2 _ hxL _ z rfl)
  rw [va_up_self]
  exact ⟨⟨nx, gx, ps1, q0, hr.1 _ _ x1 hout.1, hr.1 _ _ x2 hout.2, q3, x4, x5, x6, hps1⟩, hwf⟩
/-- counts over a change of one file -/
theorem cnt_file {af : Nat → AFile} {L : List Nat} {x s s1 : Nat} {v : AFile} (hnd : L.Nodup) (hx : x ∈ L) (hc : s + sumC af L ≤ 121) (h : s1 + cntL v.2.2.2.1 19 = s + cntL (af x).2.2.2.1 19) : s1 + sumC (va_up af x v) L ≤ 121 := by
  have e := sum_up (G := fun w => cntL w.2.2.2.1 19) (af := af) (v := v) hnd hx
  unfold sumC at *
  omega
theorem bytes_file {af : Nat → AFile} {L : List Nat} {x : Nat} {v : AFile} (hnd : L.Nodup) (hx : x ∈ L) : sumB (va_up af x v) L + (af x).2.2.1 = sumB af L + v.2.2.1 := sum_up (G := fun w => w.2.2.1) (af := af) (v := v) hnd hx
theorem sumG_ins {G : AFile → Nat} {af : Nat → AFile} {L : List Nat} {x i : Nat} {v : AFile} (h : x ∉ L) (hi : i ≤ L.length) : ((L.insertIdx i x).map (fun q => G (va_up af x v q))).sum = G v + (L.map (fun q => G (af q))).sum := by
  rw [sum_ins (F := fun q => G (va_up af x v q)) hi, va_up_self, sum_congr (F := fun q => G (va_up af x v q)) (G := fun q => G (af q)) (fun q hq => by rw [va_up_ne _ _ (fun z => h (by rw [← z]; exact hq))])]
theorem va_up_up {α : Type} {f : Nat → α} {k : Nat} {v w : α} : va_up (va_up f k v) k w = va_up f k w := by
  funext j
  by_cases e : j = k
  · rw [e, va_up_self, va_up_self]
  · rw [va_up_ne _ _ e, va_up_ne _ _ e, va_up_ne _ _ e]
theorem map_er {α β : Type} (F : α → β) : ∀ (L : List α) (k : Nat), (L.eraseIdx k).map F = (L.map F).eraseIdx k
  | [], _ => by simp
  | _ :: _, 0 => by simp
  | a :: l, k + 1 => by simp [map_er F l k]
theorem sum_set : ∀ {l : List Nat} {i p q : Nat}, l[i]? = some p → (l.set i q).sum + p = l.sum + q
  | a :: l, 0, p, q, h => by simp at h; subst h; simp; omega
  | a :: l, i + 1, p, q, h => by
    have := sum_set (l := l) (q := q) (show l[i]? = some p by simpa using h)
    simp; omega
theorem sum_sw {l : List Nat} {i j p q : Nat} (hi : l[i]? = some p) (hj : l[j]? = some q) : ((l.set i q).set j p).sum = l.sum := by
  have e1 := sum_set (q := q) hi
  by_cases e : i = j
  · subst e
    rw [hi] at hj; injection hj with hj; subst hj
    have e2 := sum_set (l := l.set i p) (i := i) (p := p) (q := p) (by rw [List.getElem?_set_self (List.getElem?_eq_some_iff.mp hi).1])
    omega
  · have e2 := sum_set (l := l.set i q) (i := j) (p := q) (q := p) (by rw [List.getElem?_set_ne e]; exact hj)
    omega
theorem plc_bf : ∀ {l : List (List Nat)} {nm : List Nat} {i : Nat} {x : List Nat}, i < plc l nm → l[i]? = some x → nlt x nm
  | [], nm, i, x, h, _ => by simp [plc] at h
  | y :: ys, nm, i, x, h, hx => by
    unfold plc at h
    by_cases c : nltb y nm = true
    · rw [if_pos c] at h
      cases i with
      | zero => simp at hx; rw [← hx]; exact nltb_iff.mp c
      | succ i => exact plc_bf (l := ys) (i := i) (by omega) (by simpa using hx)
    · rw [if_neg c] at h; omega
/-- a name stays where it is found, if another is taken out -/
theorem idx_er {l : List (List Nat)} {nm : List Nat} {j k : Nat} (h : idx l nm = some k) (hj : j ≠ k) : idx (l.eraseIdx j) nm = some (if j < k then k - 1 else k) := by
  obtain ⟨h1, h2, h3⟩ := idx_lt h
  have hb := fun i x (hi : i < k) => plc_bf (l := l) (nm := nm) (i := i) (x := x) (by omega)
  have hat : (l.eraseIdx j)[if j < k then k - 1 else k]? = some nm := by
    rw [List.getElem?_eraseIdx]
    by_cases c : j < k
    · rw [if_pos c, if_neg (by omega), show k - 1 + 1 = k by omega]; exact h3
    · rw [if_neg c, if_pos (by omega)]; exact h3
  have hp : plc (l.eraseIdx j) nm = (if j < k then k - 1 else k) := by
    refine plc_eq (Nat.le_of_lt (List.getElem?_eq_some_iff.mp hat).1) (fun i x hi hx => ?_) (fun x hx => ?_)
    · rw [List.getElem?_eraseIdx] at hx
      split at hi <;> split at hx <;> exact hb _ x (by omega) hx
    · rw [hat] at hx; injection hx with hx; rw [← hx]; exact nlt_irrefl _
  unfold idx
  rw [hp, if_pos hat]
theorem range_nmL {m fr : Nat} {g : Nat → Int32} {C : Nat → Nat} (h : ∀ i, i < m → ub (g i) = C (fr + i)) : nmL m g = (List.range m).map (fun i => C (fr + i)) := by
  unfold nmL
  exact List.map_congr_left (fun i hi => h i (List.mem_range.mp hi))
/-! the answers, case by case -/
theorem oMake_s {st : ASt} {k : Nat} (h : idx (fN st.2.2.2.2.2) st.2.1 = some k) : oMake st = (-3, [], st.1, st.2.2.2.2.2) := by simp only [oMake, h]
theorem oMake_n {st : ASt} (h : idx (fN st.2.2.2.2.2) st.2.1 = none) : oMake st = if 48 ≤ st.2.2.2.2.2.length then (-4, [], st.1, st.2.2.2.2.2) else (0, [], st.1, fIns st.2.2.2.2.2 (fNew st.2.1 (nI st.2.2.2.2.1))) := by simp only [oMake, h]
theorem oCut_n {st : ASt} {a : Nat} (h : idx (fN st.2.2.2.2.2) st.2.1 = none) : oCut st a = (-2, [], st.1, st.2.2.2.2.2) := by simp only [oCut, h]
theorem oRead_n {st : ASt} {a b : Nat} (h : idx (fN st.2.2.2.2.2) st.2.1 = none) : oRead st a b = (-2, [], st.1, st.2.2.2.2.2) := by simp only [oRead, h]
theorem oRemove_n {st : ASt} (h : idx (fN st.2.2.2.2.2) st.2.1 = none) : oRemove st = (-2, [], st.1, st.2.2.2.2.2) := by simp only [oRemove, h]
theorem oSize_n {st : ASt} (h : idx (fN st.2.2.2.2.2) st.2.1 = none) : oSize st = (-2, [], st.1, st.2.2.2.2.2) := by simp only [oSize, h]
theorem oRename_n {st : ASt} (h : idx (fN st.2.2.2.2.2) st.2.1 = none) : oRename st = (-2, [], st.1, st.2.2.2.2.2) := by simp only [oRename, h]
theorem oCut_s {st : ASt} {a k : Nat} {v : AFile} (h : idx (fN st.2.2.2.2.2) st.2.1 = some k) (hv : st.2.2.2.2.2.getD k (fNew [] 0) = v) : oCut st a = if v.2.2.1 < a ∧ ¬ fB st.2.2.2.2.2 - v.2.2.1 + a ≤ 32768 then (-4, [], st.1, st.2.2.2.2.2) else (nI v.2.2.1, [], st.1, st.2.2.2.2.2.set k (fCut v a)) := by simp only [oCut, h, hv]
theorem oRead_s {st : ASt} {a b k : Nat} {v : AFile} (h : idx (fN st.2.2.2.2.2) st.2.1 = some k) (hv : st.2.2.2.2.2.getD k (fNew [] 0) = v) : oRead st a b = (nI (min v.2.2.1 (a + b) - a), (List.range (min v.2.2.1 (a + b) - a)).map (fun i => v.2.2.2.2 (a + i)), st.1, st.2.2.2.2.2) := by simp only [oRead, h, hv]
theorem oRemove_s {st : ASt} {k : Nat} {v : AFile} (h : idx (fN st.2.2.2.2.2) st.2.1 = some k) (hv : st.2.2.2.2.2.getD k (fNew [] 0) = v) : oRemove st = (nI v.2.2.1, [], st.1, st.2.2.2.2.2.eraseIdx k) := by simp only [oRemove, h, hv]
theorem oSize_s {st : ASt} {k : Nat} {v : AFile} (h : idx (fN st.2.2.2.2.2) st.2.1 = some k) (hv : st.2.2.2.2.2.getD k (fNew [] 0) = v) : oSize st = (nI v.2.2.1, [], st.1, st.2.2.2.2.2) := by simp only [oSize, h, hv]
theorem oWrite_s {st : ASt} {app : Bool} {a k fr at_ : Nat} {v : AFile} (h : idx (fN st.2.2.2.2.2) st.2.1 = some k) (hv : st.2.2.2.2.2.getD k (fNew [] 0) = v) (hfr : fr = if app then v.2.2.1 else a) (hat : at_ = if st.1.length = 0 then v.2.2.1 else max v.2.2.1 (fr + st.1.length)) : oWrite st app a = if at_ ≤ 8192 ∧ fB st.2.2.2.2.2 - v.2.2.1 + at_ ≤ 32768 then (nI st.1.length, [], [], st.2.2.2.2.2.set k (fWr v fr st.1)) else (-4, [], [], st.2.2.2.2.2) := by
  subst hat hfr
  simp only [oWrite, h, hv]
theorem oWrite_n {st : ASt} {app : Bool} {a fr at_ : Nat} (h : idx (fN st.2.2.2.2.2) st.2.1 = none) (hfr : fr = if app then 0 else a) (hat : at_ = if st.1.length = 0 then 0 else fr + st.1.length) : oWrite st app a = if st.2.2.2.2.2.length < 48 ∧ at_ ≤ 8192 ∧ fB st.2.2.2.2.2 + at_ ≤ 32768 then (nI st.1.length, [], [], fIns st.2.2.2.2.2 (fWr (fNew st.2.1 (nI st.2.2.2.2.1)) fr st.1)) else (-4, [], [], st.2.2.2.2.2) := by
  subst hat hfr
  simp only [oWrite, h]
theorem oRename_e {st : ASt} {k : Nat} (h : idx (fN st.2.2.2.2.2) st.2.1 = some k) (he : st.2.1 = st.2.2.1) : oRename st = (0, [], st.1, st.2.2.2.2.2) := by simp only [oRename, h, if_pos he]
theorem oRename_0 {st : ASt} {k : Nat} (h : idx (fN st.2.2.2.2.2) st.2.1 = some k) (he : st.2.1 ≠ st.2.2.1) (h2 : idx (fN st.2.2.2.2.2) st.2.2.1 = none) : oRename st = (0, [], st.1, fIns (st.2.2.2.2.2.eraseIdx k) (st.2.2.1, (st.2.2.2.2.2.getD k (fNew [] 0)).2)) := by simp only [oRename, h, if_neg he, h2]
theorem oRename_1 {st : ASt} {k j k1 : Nat} (h : idx (fN st.2.2.2.2.2) st.2.1 = some k) (he : st.2.1 ≠ st.2.2.1) (h2 : idx (fN st.2.2.2.2.2) st.2.2.1 = some j) (h3 : idx (fN (st.2.2.2.2.2.eraseIdx j)) st.2.1 = some k1) : oRename st = (1, [], st.1, fIns ((st.2.2.2.2.2.eraseIdx j).eraseIdx k1) (st.2.2.1, ((st.2.2.2.2.2.eraseIdx j).getD k1 (fNew [] 0)).2)) := by simp only [oRename, h, if_neg he, h2, h3]
theorem oSwap_n {st : ASt} (h : idx (fN st.2.2.2.2.2) st.2.1 = none ∨ idx (fN st.2.2.2.2.2) st.2.2.1 = none) : oSwap st = (-2, [], st.1, st.2.2.2.2.2) := by
  rcases h with h | h
  · simp only [oSwap, h]
  · simp only [oSwap, h]
    split
    · rename_i z; cases z
    · rfl
theorem oSwap_s {st : ASt} {i j : Nat} (h : idx (fN st.2.2.2.2.2) st.2.1 = some i) (h2 : idx (fN st.2.2.2.2.2) st.2.2.1 = some j) : oSwap st = (0, [], st.1, (st.2.2.2.2.2.set i (st.2.1, (st.2.2.2.2.2.getD j (fNew [] 0)).2)).set j (st.2.2.1, (st.2.2.2.2.2.getD i (fNew [] 0)).2)) := by simp only [oSwap, h, h2]
/-- two files have changed their names and places -/
theorem map_sw {L : List Nat} {af : Nat → AFile} {i j x y : Nat} {n1 n2 : List Nat} (hnd : L.Nodup) (hi : L[i]? = some x) (hj : L[j]? = some y) (h1 : (af x).1 = n1) (h2 : (af y).1 = n2) : ((L.set i y).set j x).map (va_up (va_up af x (n2, (af x).2)) y (n1, (va_up af x (n2, (af x).2) y).2)) = ((L.map af).set i (n1, (af y).2)).set j (n2, (af x).2) := by
  have hil := (List.getElem?_eq_some_iff.mp hi).1
  have hjl := (List.getElem?_eq_some_iff.mp hj).1
  have inj : ∀ {a b z : Nat}, L[a]? = some z → L[b]? = some z → a = b := by
    intro a b z h4 h5
    obtain ⟨a1, a2⟩ := List.getElem?_eq_some_iff.mp h4
    obtain ⟨b1, b2⟩ := List.getElem?_eq_some_iff.mp h5
    exact (List.getElem_inj hnd).mp (a2.trans b2.symm)
  apply List.ext_getElem?
  intro t
  rw [List.getElem?_map]
  by_cases ej : t = j
  · rw [ej, List.getElem?_set_self (by simpa using hjl), List.getElem?_set_self (by simpa using hjl)]
    show some _ = some _
    by_cases e : x = y
    · have e2 : n1 = n2 := by rw [← h1, ← h2, e]
      rw [e, va_up_self, va_up_self, e2]
    · rw [va_up_ne _ _ e, va_up_self]
  · rw [List.getElem?_set_ne (Ne.symm ej), List.getElem?_set_ne (Ne.symm ej)]
    by_cases ei : t = i
    · rw [ei, List.getElem?_set_self hil, List.getElem?_set_self (by simpa using hil)]
      show some _ = some _
      have e : y ≠ x := fun z => ej (by rw [ei]; exact inj hi (by rw [← z]; exact hj))
      rw [va_up_self, va_up_ne _ _ e]
    · rw [List.getElem?_set_ne (Ne.symm ei), List.getElem?_set_ne (Ne.symm ei), List.getElem?_map]
      cases ht : L[t]? with
      | none => rfl
      | some q =>
        show some _ = some _
        rw [va_up_ne _ _ (fun z => ej (inj ht (by rw [z]; exact hj))), va_up_ne _ _ (fun z => ei (inj ht (by rw [z]; exact hi)))]
