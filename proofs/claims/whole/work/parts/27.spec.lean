/-! the document's state, as a value: tape, name 0, name 1, what was told, operations, files in the order of their names -/
abbrev ASt : Type := List Nat × List Nat × List Nat × List Nat × Nat × List AFile
/-- the four bytes of a word, the highest first -/
def w4 (x : Int32) : List Nat := [ub (wb x 24), ub (wb x 16), ub (wb x 8), ub (wb x 0)]
def aFeed (st : ASt) (x1 x2 x3 x4 x5 : Int32) : Int32 × ASt :=
  if 2048 < st.1.length + 20 then (-4, st) else (nI (st.1.length + 20), (st.1 ++ w4 x1 ++ w4 x2 ++ w4 x3 ++ w4 x4 ++ w4 x5, st.2))
def aEnd (st : ASt) (n : Int32) : Int32 × ASt := if ¬ n < 0 ∧ n ≤ nI st.1.length then (n, (st.1.take n.toNatClampNeg, st.2)) else (-1, st)
def aName (st : ASt) (k : Int32) : Int32 × ASt :=
  if (k = 0 ∨ k = 1) ∧ st.1.length ≤ 200 then (nI st.1.length, if k = 0 then ([], st.1, st.2.2) else ([], st.2.1, st.1, st.2.2.2)) else (-1, st)
def aTold (st : ASt) (i : Int32) : Int32 := if ¬ i < 0 ∧ i < nI st.2.2.2.1.length then nI (st.2.2.2.1.getD i.toNatClampNeg 0) else (-2)
def fileK (FS : List AFile) (k : Int32) : Option AFile := if ¬ k < 0 ∧ k < nI FS.length then FS[k.toNatClampNeg]? else none
def aFileV (o : Option AFile) (what : Int32) : Int32 := match o with
  | none => (-2)
  | some v => if what = 0 then nI v.2.2.1 else if what = 1 then v.2.1 else if what = 2 then nI v.1.length else nI (cntL v.2.2.2.1 19)
def aFile (st : ASt) (k what : Int32) : Int32 := if what < 0 ∨ 3 < what then (-1) else aFileV (fileK st.2.2.2.2.2 k) what
def aPieceV (o : Option AFile) (s i : Int32) : Int32 := match o with
  | none => (-2)
  | some v => pcV v.2.2.1 v.2.2.2.1 v.2.2.2.2 s i
def aPiece (st : ASt) (k s i : Int32) : Int32 := aPieceV (fileK st.2.2.2.2.2 k) s i
def fB (FS : List AFile) : Nat := (FS.map (fun v => v.2.2.1)).sum
def fC (FS : List AFile) : Nat := (FS.map (fun v => cntL v.2.2.2.1 19)).sum
def fN (FS : List AFile) : List (List Nat) := FS.map (fun v => v.1)
def aCount (st : ASt) (what : Int32) : Int32 :=
  if what = 0 then nI st.2.2.2.2.2.length else if what = 1 then nI (fB st.2.2.2.2.2) else if what = 2 then nI (fC st.2.2.2.2.2) else if what = 3 then nI st.2.2.2.2.1 else if what = 4 then nI st.1.length else (-1)
/-- what is refused -/
def aRef (st : ASt) (kind a b : Int32) : Prop :=
  (kind < 0 ∨ 9 < kind) ∨ (kind ≠ 9 ∧ st.2.1 = []) ∨ ((kind = 6 ∨ kind = 7) ∧ st.2.2.1 = []) ∨ ((kind = 1 ∨ kind = 3 ∨ kind = 4) ∧ (a < 0 ∨ 8192 < a)) ∨ (kind = 4 ∧ (b < 0 ∨ 2048 < b))
/-- the bytes of a list as a function, 0 behind its end -/
def lF (l : List Nat) (i : Nat) : Nat := l.getD i 0
abbrev fNew (nm : List Nat) (i : Int32) : AFile := (nm, i, 0, (fun _ => false), (fun _ => 0))
/-- a file with n bytes T written from byte fr on -/
def fWr (v : AFile) (fr : Nat) (T : List Nat) : AFile := (v.1, v.2.1, if T.length = 0 then v.2.2.1 else max v.2.2.1 (fr + T.length), wl v.2.2.2.1 fr T.length, wC v.2.2.2.2 (lF T) fr T.length)
def fCut (v : AFile) (n : Nat) : AFile := (v.1, v.2.1, n, ctl v.2.2.2.1 n, ctc v.2.2.2.2 n)
def fIns (FS : List AFile) (v : AFile) : List AFile := FS.insertIdx (plc (fN FS) v.1) v
/-- an operation on the files: (answer, told, tape, files); the name 0, the name 1, its number -/
abbrev ARes : Type := Int32 × List Nat × List Nat × List AFile
def oMake (st : ASt) : ARes := match idx (fN st.2.2.2.2.2) st.2.1 with
  | some _ => (-3, [], st.1, st.2.2.2.2.2)
  | none => if 48 ≤ st.2.2.2.2.2.length then (-4, [], st.1, st.2.2.2.2.2) else (0, [], st.1, fIns st.2.2.2.2.2 (fNew st.2.1 (nI st.2.2.2.2.1)))
def oWrite (st : ASt) (app : Bool) (a : Nat) : ARes :=
  let FS := st.2.2.2.2.2; let T := st.1; let n := T.length
  match idx (fN FS) st.2.1 with
  | some k =>
    let v := FS.getD k (fNew [] 0)
    let fr := if app then v.2.2.1 else a
    let after := if n = 0 then v.2.2.1 else max v.2.2.1 (fr + n)
    if after ≤ 8192 ∧ fB FS - v.2.2.1 + after ≤ 32768 then (nI n, [], [], FS.set k (fWr v fr T)) else (-4, [], [], FS)
  | none =>
    let fr := if app then 0 else a
    let after := if n = 0 then 0 else fr + n
    if FS.length < 48 ∧ after ≤ 8192 ∧ fB FS + after ≤ 32768 then (nI n, [], [], fIns FS (fWr (fNew st.2.1 (nI st.2.2.2.2.1)) fr T)) else (-4, [], [], FS)
def oCut (st : ASt) (a : Nat) : ARes :=
  let FS := st.2.2.2.2.2
  match idx (fN FS) st.2.1 with
  | none => (-2, [], st.1, FS)
  | some k =>
    let v := FS.getD k (fNew [] 0)
    if v.2.2.1 < a ∧ ¬ fB FS - v.2.2.1 + a ≤ 32768 then (-4, [], st.1, FS) else (nI v.2.2.1, [], st.1, FS.set k (fCut v a))
def oRead (st : ASt) (a b : Nat) : ARes :=
  let FS := st.2.2.2.2.2
  match idx (fN FS) st.2.1 with
  | none => (-2, [], st.1, FS)
  | some k =>
    let v := FS.getD k (fNew [] 0)
    (nI (min v.2.2.1 (a + b) - a), (List.range (min v.2.2.1 (a + b) - a)).map (fun i => v.2.2.2.2 (a + i)), st.1, FS)
def oRemove (st : ASt) : ARes :=
  let FS := st.2.2.2.2.2
  match idx (fN FS) st.2.1 with
  | none => (-2, [], st.1, FS)
  | some k => (nI (FS.getD k (fNew [] 0)).2.2.1, [], st.1, FS.eraseIdx k)
def oSize (st : ASt) : ARes :=
  let FS := st.2.2.2.2.2
  match idx (fN FS) st.2.1 with
  | none => (-2, [], st.1, FS)
  | some k => (nI (FS.getD k (fNew [] 0)).2.2.1, [], st.1, FS)
def oRename (st : ASt) : ARes :=
  let FS := st.2.2.2.2.2
  match idx (fN FS) st.2.1 with
  | none => (-2, [], st.1, FS)
  | some _ =>
    if st.2.1 = st.2.2.1 then (0, [], st.1, FS) else
      let FS1 := match idx (fN FS) st.2.2.1 with
        | none => FS
        | some j => FS.eraseIdx j
      match idx (fN FS1) st.2.1 with
      | none => (-2, [], st.1, FS)
      | some k => (match idx (fN FS) st.2.2.1 with | none => 0 | some _ => 1, [], st.1, fIns (FS1.eraseIdx k) (st.2.2.1, (FS1.getD k (fNew [] 0)).2))
def oSwap (st : ASt) : ARes :=
  let FS := st.2.2.2.2.2
  match idx (fN FS) st.2.1, idx (fN FS) st.2.2.1 with
  | some i, some j => (0, [], st.1, (FS.set i (st.2.1, (FS.getD j (fNew [] 0)).2)).set j (st.2.2.1, (FS.getD i (fNew [] 0)).2))
  | _, _ => (-2, [], st.1, FS)
def oNext (st : ASt) : ARes :=
  let FS := st.2.2.2.2.2
  let k := plc (fN FS) st.2.1
  match FS[if (fN FS)[k]? = some st.2.1 then k + 1 else k]? with
  | none => (-2, [], st.1, FS)
  | some v => (nI v.1.length, v.1, st.1, FS)
def aOp (st : ASt) (kind a b : Int32) : ARes :=
  if kind = 0 then oMake st else if kind = 1 then oWrite st false a.toNatClampNeg else if kind = 2 then oWrite st true 0 else if kind = 3 then oCut st a.toNatClampNeg else if kind = 4 then oRead st a.toNatClampNeg b.toNatClampNeg
  else if kind = 5 then oRemove st else if kind = 6 then oRename st else if kind = 7 then oSwap st else if kind = 8 then oSize st else oNext st
/-- behind an operation -/
def aAft (st : ASt) (r : ARes) : ASt := (r.2.2.1, st.2.1, st.2.2.1, r.2.1, st.2.2.2.2.1 + 1, r.2.2.2)
theorem ub_lt' (x : Int32) : ub x < 256 := ub_lt x
theorem nmL_up4 {n : Nat} {g : Nat → Int32} (x : Int32) : nmL (n + 4) (upd4 g n x) = nmL n g ++ w4 x := by
  apply List.ext_getElem?
  intro j
  by_cases h : j < n
  · rw [nmL_get (by omega), List.getElem?_append_left (by rw [nmL_len]; exact h), nmL_get h]
    unfold upd4 upd
    rw [if_neg (by omega), if_neg (by omega), if_neg (by omega), if_neg (by omega)]
  · rw [List.getElem?_append_right (by rw [nmL_len]; omega), nmL_len]
    by_cases h4 : j < n + 4
    · rw [nmL_get h4]
      unfold upd4 upd w4
      rcases (show j = n ∨ j = n + 1 ∨ j = n + 2 ∨ j = n + 3 by omega) with rfl | rfl | rfl | rfl
      · rw [if_neg (by omega), if_neg (by omega), if_neg (by omega), if_pos rfl, Nat.sub_self]; rfl
      · rw [if_neg (by omega), if_neg (by omega), if_pos rfl, Nat.add_sub_cancel_left]; rfl
      · rw [if_neg (by omega), if_pos rfl, Nat.add_sub_cancel_left]; rfl
      · rw [if_pos rfl, Nat.add_sub_cancel_left]; rfl
    · rw [List.getElem?_eq_none (by rw [nmL_len]; omega), List.getElem?_eq_none (by simp [w4]; omega)]
theorem nmL_take {n k : Nat} {g : Nat → Int32} (h : k ≤ n) : nmL k g = (nmL n g).take k := by
  apply List.ext_getElem?
  intro j
  by_cases hj : j < k
  · rw [nmL_get hj, List.getElem?_take_of_lt hj, nmL_get (by omega)]
  · rw [List.getElem?_eq_none (by rw [nmL_len]; omega), List.getElem?_eq_none (by rw [List.length_take, nmL_len]; omega)]
/-- a row that holds a list of bytes -/
def gRw (P : gPar) (f : gM) (r cap : Nat) (nm : List Nat) : Prop := ∃ g, f r = some (.inr (1, [.ref (r + 1), .int (nI nm.length)])) ∧ f (r + 1) = some (.inl (P.2.1 0, cap, .inl g)) ∧ nm.length ≤ cap ∧ sb_Fit g ∧ nmL nm.length g = nm
theorem gRw.fr {P : gPar} {f f1 : gM} {r cap : Nat} {nm l : List Nat} (h : gRw P f r cap nm) (hF : gFr f f1 l) (h1 : r ∉ l) (h2 : r + 1 ∉ l) : gRw P f1 r cap nm := by
  obtain ⟨g, a1, a2, a3⟩ := h
  exact ⟨g, hF _ _ a1 h1, hF _ _ a2 h2, a3⟩
theorem gRw.fu {P : gPar} {f f1 : gM} {U : Nat → Prop} {r cap : Nat} {nm : List Nat} (h : gRw P f r cap nm) (hF : gFU f f1 U) (h1 : U r) (h2 : U (r + 1)) : gRw P f1 r cap nm := by
  obtain ⟨g, a1, a2, a3⟩ := h
  exact ⟨g, hF _ _ h1 a1, hF _ _ h2 a2, a3⟩
/-- the shelf with the files FS -/
def gFS (P : gPar) (f : gM) (sh : Nat) (FS : List AFile) : Prop := ∃ (ow : gO) (L SF SP : List Nat) (e1 c1 e2 c2 e3 c3 : Nat) (af : Nat → AFile), gSh P f ow sh L SF SP e1 c1 e2 c2 e3 c3 af ∧ L.map af = FS ∧ SP.length + sumC af L ≤ 121
/-- the object a -/
def gSF (P : gPar) (f : gM) (a : Nat) (st : ASt) : Prop :=
  f a = some (.inr (0, [.ref (a + 1), .ref (a + 3), .ref (a + 5), .ref (a + 7), .ref (a + 9), .int (nI st.2.2.2.2.1)])) ∧ gRw P f (a + 1) 2048 st.1 ∧ gRw P f (a + 3) 200 st.2.1 ∧ gRw P f (a + 5) 200 st.2.2.1 ∧ gRw P f (a + 7) 2048 st.2.2.2.1 ∧ gFS P f (a + 9) st.2.2.2.2.2
/-- its own outer cells, with others V -/
def gUS (a : Nat) (V : Nat → Prop) (c : Nat) : Prop := (a ≤ c ∧ c ≤ a + 8) ∨ V c
theorem gSF.uo {P : gPar} {f : gM} {a : Nat} {st : ASt} {V : Nat → Prop} (h : gSF P f a st) (hV : gUo f V) : gUo f (gUS a V) := by
  obtain ⟨h0, ⟨g1, a1, b1, -⟩, ⟨g2, a2, b2, -⟩, ⟨g3, a3, b3, -⟩, ⟨g4, a4, b4, -⟩, -⟩ := h
  intro c hc
  rcases hc with ⟨l1, l2⟩ | hc
  · have ko : ∀ (ci : Nat) (fs : List Value), ci ≠ 2 → ci ≠ 4 → ci ≠ 6 → gUk (.inr (ci, fs)) := fun ci fs x y z => Or.inl ⟨ci, fs, rfl, x, y, z⟩
    rcases (show c = a ∨ c = a + 1 ∨ c = a + 2 ∨ c = a + 3 ∨ c = a + 4 ∨ c = a + 5 ∨ c = a + 6 ∨ c = a + 7 ∨ c = a + 8 by omega) with e | e | e | e | e | e | e | e | e <;> subst e
    · exact ⟨_, h0, ko _ _ (by decide) (by decide) (by decide), fun z => by rcases z with ⟨x, z⟩ | ⟨fs, z⟩ <;> simp at z⟩
    · exact ⟨_, a1, ko _ _ (by decide) (by decide) (by decide), fun _ => ⟨a, rfl, Or.inl ⟨by omega, by omega⟩⟩⟩
    · exact ⟨_, b1, Or.inr ⟨_, _, _, rfl⟩, fun _ => ⟨a + 1, rfl, Or.inl ⟨by omega, by omega⟩⟩⟩
    · exact ⟨_, a2, ko _ _ (by decide) (by decide) (by decide), fun _ => ⟨a + 2, rfl, Or.inl ⟨by omega, by omega⟩⟩⟩
    · exact ⟨_, b2, Or.inr ⟨_, _, _, rfl⟩, fun _ => ⟨a + 3, rfl, Or.inl ⟨by omega, by omega⟩⟩⟩
    · exact ⟨_, a3, ko _ _ (by decide) (by decide) (by decide), fun _ => ⟨a + 4, rfl, Or.inl ⟨by omega, by omega⟩⟩⟩
    · exact ⟨_, b3, Or.inr ⟨_, _, _, rfl⟩, fun _ => ⟨a + 5, rfl, Or.inl ⟨by omega, by omega⟩⟩⟩
    · exact ⟨_, a4, ko _ _ (by decide) (by decide) (by decide), fun _ => ⟨a + 6, rfl, Or.inl ⟨by omega, by omega⟩⟩⟩
    · exact ⟨_, b4, Or.inr ⟨_, _, _, rfl⟩, fun _ => ⟨a + 7, rfl, Or.inl ⟨by omega, by omega⟩⟩⟩
  · obtain ⟨v, c1, c2, c3⟩ := hV c hc
    exact ⟨v, c1, c2, fun z => by obtain ⟨b, d1, d2⟩ := c3 z; exact ⟨b, d1, Or.inr d2⟩⟩
/-- the shelf over a step on outer cells -/
theorem gSh.out {P : gPar} {f f1 : gM} {ow : gO} {sh : Nat} {L SF SP : List Nat} {e1 c1 e2 c2 e3 c3 : Nat} {af : Nat → AFile} {U : Nat → Prop} {l : List Nat} (h : gSh P f ow sh L SF SP e1 c1 e2 c2 e3 c3 af) (hz : f P.2.2.2.1 = none) (hU : gUo f U) (hF : gFr f f1 l) (hl : ∀ c ∈ l, U c ∧ c ≠ sh ∧ c ≠ sh + 3) : gSh P f1 ow sh L SF SP e1 c1 e2 c2 e3 c3 af := by
  obtain ⟨s0, s1, s2, s3, s4, s5, s6, s7, s8, s9⟩ := h
  have kl : ∀ {a e cap : Nat} {M : List Nat}, gLi P f a e cap M → a ∉ l ∧ e ∉ l := by
    intro a e cap M hm
    constructor
    · intro z; exact (hU.li hm hz (hl a z).1) (by simp)
    · intro z; exact (hU.li hm hz (hl e z).1) (by simp)
  have kp : ∀ x hh, gPc P f x hh → x ∉ l ∧ x + 1 ∉ l := fun x hh hx => ⟨fun z => (hU.pc hx (hl _ z).1).1 rfl, fun z => (hU.pc hx (hl _ z).1).2 rfl⟩
  have kf : ∀ q v, gFi P f ow (sh + 3) q v → gFi P f1 ow (sh + 3) q v := by
    intro q v hq
    obtain ⟨n, g, ps, q0, q1, q2, q3, -⟩ := id hq
    have nt := hU.nt q0 q1
    refine hq.fr hF (fun z => (hU.fi hq (hl _ z).1).1 rfl) (fun z => nt (hl _ z).1) (fun z => ?_) (fun z => (hU.fi hq (hl _ z).1).2 rfl) kp
    obtain ⟨w, a1, a2, a3⟩ := hU _ (hl _ z).1
    rw [q2] at a1; injection a1 with a1
    obtain ⟨b, hb, hb2⟩ := a3 (Or.inl ⟨_, a1.symm⟩)
    exact nt (by rw [show q + 1 = b by omega]; exact hb2)
  refine ⟨hF _ _ s0 (fun z => (hl _ z).2.1 rfl), s1.fr hF (kl s1).1 (kl s1).2, s2.fr hF (kl s2).1 (kl s2).2, s3.fr hF (fun z => (hl _ z).2.2 rfl) (kl s3.2.1).1 (kl s3.2.1).2 (fun x hx => ?_), s4, fun q hq => ⟨kf q _ (s5 q hq).1, (s5 q hq).2⟩, fun q hq => ?_, s7, s8, s9⟩
  · obtain ⟨-, hh, b, -⟩ := s3.2.2.2.2 x hx
    exact kp x hh b
  · obtain ⟨v, a1, a2⟩ := s6 q hq
    exact ⟨v, kf q v a1, a2⟩
