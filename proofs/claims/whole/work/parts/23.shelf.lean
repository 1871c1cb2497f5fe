/-! the shelf -/
/-- cells of another kind than those that the files' methods touch: objects but File, Piece, ArrayList; arrays of numbers whose left neighbour is such a cell, too -/
def gUk (v : va_E) : Prop := (∃ ci fs, v = .inr (ci, fs) ∧ ci ≠ 2 ∧ ci ≠ 4 ∧ ci ≠ 6) ∨ ∃ k n g, v = .inl (k, n, .inl g)
def gUo (f : gM) (U : Nat → Prop) : Prop := ∀ c, U c → ∃ v, f c = some v ∧ gUk v ∧ (((∃ x, v = .inl x) ∨ ∃ fs, v = .inr (1, fs)) → ∃ b, c = b + 1 ∧ U b)
def gFU (f f1 : gM) (U : Nat → Prop) : Prop := ∀ c v, U c → f c = some v → f1 c = some v
theorem gFU.rf {f : gM} {U : Nat → Prop} : gFU f f U := fun _ _ _ h => h
theorem gFU.trans {f f1 f2 : gM} {U : Nat → Prop} (h : gFU f f1 U) (h1 : gFU f1 f2 U) : gFU f f2 U := fun c v hc hf => h1 c v hc (h c v hc hf)
theorem gUo.to {f f1 : gM} {U : Nat → Prop} (h : gUo f U) (h1 : gFU f f1 U) : gUo f1 U := fun c hc => by
  obtain ⟨v, a1, a2, a3⟩ := h c hc
  exact ⟨v, h1 c v hc a1, a2, a3⟩
/-- an outer cell is none of a list -/
theorem gUo.li {P : gPar} {f : gM} {U : Nat → Prop} (h : gUo f U) {a e cap : Nat} {L : List Nat} (hl : gLi P f a e cap L) (hz : f P.2.2.2.1 = none) {c : Nat} (hc : U c) : c ∉ [a, e] := by
  obtain ⟨v, a1, a2, -⟩ := h c hc
  rcases a2 with ⟨ci, fs, rfl, -, -, h6⟩ | ⟨k, n, g, rfl⟩
  · exact hl.npc h6 a1 hz
  · intro z
    rcases List.mem_cons.mp z with z | z
    · obtain ⟨⟨m, h1⟩, -⟩ := hl
      rw [z, h1] at a1; cases a1
    · have z := List.mem_singleton.mp z
      rcases hl.2 with ⟨e0, -, -⟩ | ⟨-, g2, h1, -⟩
      · rw [z, e0, hz] at a1; cases a1
      · rw [z, h1] at a1; injection a1 with a1; injection a1 with a1; injection a1 with _ a1; injection a1 with _ a1; cases a1
/-- nor of a piece -/
theorem gUo.pc {P : gPar} {f : gM} {U : Nat → Prop} (h : gUo f U) {x : Nat} {hh : Nat → Int32} (hx : gPc P f x hh) {c : Nat} (hc : U c) : c ≠ x ∧ c ≠ x + 1 := by
  obtain ⟨v, a1, a2, a3⟩ := h c hc
  constructor
  · intro z
    rw [z, hx.1] at a1; injection a1 with a1
    rcases a2 with ⟨ci, fs, e, h2, -, -⟩ | ⟨k, n, g, e⟩
    · rw [← a1] at e; injection e with e; injection e with e; exact h2 e.symm
    · rw [← a1] at e; cases e
  · intro z
    have hv : ∃ y, v = .inl y := by rw [z, hx.2.1] at a1; injection a1 with a1; exact ⟨_, a1.symm⟩
    obtain ⟨b, hb, hU⟩ := a3 (Or.inl hv)
    have e : b = x := by omega
    obtain ⟨w, b1, b2, -⟩ := h b hU
    rw [e, hx.1] at b1; injection b1 with b1
    rcases b2 with ⟨ci, fs, e2, h2, -, -⟩ | ⟨k, n, g, e2⟩
    · rw [← b1] at e2; injection e2 with e2; injection e2 with e2; exact h2 e2.symm
    · rw [← b1] at e2; cases e2
/-- nor of a file -/
theorem gUo.fi {P : gPar} {f : gM} {ow : gO} {U : Nat → Prop} (h : gUo f U) {pl q : Nat} {v : AFile} (hq : gFi P f ow pl q v) {c : Nat} (hc : U c) : c ≠ q ∧ c ≠ q + 3 := by
  obtain ⟨n, g, ps, q0, q1, q2, q3, -⟩ := hq
  obtain ⟨w, a1, a2, -⟩ := h c hc
  constructor
  · intro z
    rw [z, q0] at a1; injection a1 with a1
    rcases a2 with ⟨ci, fs, e, -, h4, -⟩ | ⟨k, n, g, e⟩
    · rw [← a1] at e; injection e with e; injection e with e; exact h4 e.symm
    · rw [← a1] at e; cases e
  · intro z
    rw [z, q3] at a1; injection a1 with a1
    rcases a2 with ⟨ci, fs, e, -, h4, -⟩ | ⟨k, n, g, e⟩
    · rw [← a1] at e; cases e
    · rw [← a1] at e; injection e with e; injection e with _ e; injection e with _ e; cases e
/-- a title is no outer cell -/
theorem gUo.nt {f : gM} {U : Nat → Prop} (h : gUo f U) {x : Nat} {fs gs : List Value} (hx0 : f x = some (.inr (4, fs))) (hx1 : f (x + 1) = some (.inr (1, gs))) : ¬ U (x + 1) := fun hc => by
  obtain ⟨v, a1, a2, a3⟩ := h _ hc
  rw [hx1] at a1; injection a1 with a1
  obtain ⟨b, hb, hU⟩ := a3 (Or.inr ⟨_, a1.symm⟩)
  obtain ⟨w, b1, b2, -⟩ := h b hU
  rw [show b = x by omega, hx0] at b1; injection b1 with b1
  rcases b2 with ⟨ci, gs, e, -, h4, -⟩ | ⟨k, n, g, e⟩
  · rw [← b1] at e; injection e with e; injection e with e; exact h4 e.symm
  · rw [← b1] at e; cases e
/-- the shelf sh: ordered sh + 1, spare sh + 2, pool sh + 3 with its list sh + 4 -/
def gSh (P : gPar) (f : gM) (ow : gO) (sh : Nat) (L SF SP : List Nat) (e1 c1 e2 c2 e3 c3 : Nat) (af : Nat → AFile) : Prop :=
  f sh = some (.inr (5, [.ref (sh + 1), .ref (sh + 2), .ref (sh + 3)])) ∧ gLi P f (sh + 1) e1 c1 L ∧ gLi P f (sh + 2) e2 c2 SF ∧ gSp P f ow (sh + 3) e3 c3 SP ∧ (c1 ≤ 200 ∧ c2 ≤ 200) ∧
  (∀ q ∈ L, gFi P f ow (sh + 3) q (af q) ∧ wfF (af q).2.2.1 (af q).2.2.2.1 (af q).2.2.2.2) ∧ (∀ q ∈ SF, ∃ v, gFi P f ow (sh + 3) q v ∧ v.2.2.1 = 0 ∧ (∀ s, v.2.2.2.1 s = false) ∧ ∀ p, v.2.2.2.2 p = 0) ∧
  (L ++ SF).Nodup ∧ L.length + SF.length ≤ 48 ∧ ((e1 = e2 → e1 = P.2.2.2.1) ∧ (e1 = e3 → e1 = P.2.2.2.1) ∧ (e2 = e3 → e2 = P.2.2.2.1))
theorem gSh.el {P : gPar} {f : gM} {ow : gO} {sh : Nat} {L SF SP : List Nat} {e1 c1 e2 c2 e3 c3 : Nat} {af : Nat → AFile} (h : gSh P f ow sh L SF SP e1 c1 e2 c2 e3 c3 af) : gEl 4 f L := ⟨Or.inl rfl, fun q hq => by
  obtain ⟨⟨n, g, ps, q0, -⟩, -⟩ := h.2.2.2.2.2.1 q hq
  exact ⟨_, q0⟩⟩
theorem gSh.elS {P : gPar} {f : gM} {ow : gO} {sh : Nat} {L SF SP : List Nat} {e1 c1 e2 c2 e3 c3 : Nat} {af : Nat → AFile} (h : gSh P f ow sh L SF SP e1 c1 e2 c2 e3 c3 af) : gEl 4 f SF := ⟨Or.inl rfl, fun q hq => by
  obtain ⟨v, ⟨n, g, ps, q0, -⟩, -⟩ := h.2.2.2.2.2.2.1 q hq
  exact ⟨_, q0⟩⟩
/-- Boolean: before -/
def nltb : List Nat → List Nat → Bool
  | [], [] => false
  | [], _ :: _ => true
  | _ :: _, [] => false
  | a :: as, b :: bs => decide (a < b) || (decide (a = b) && nltb as bs)
theorem nltb_iff : ∀ {a b : List Nat}, nltb a b = true ↔ nlt a b
  | [], [] => by simp [nltb, nlt]
  | [], _ :: _ => by simp [nltb, nlt]
  | _ :: _, [] => by simp [nltb, nlt]
  | a :: as, b :: bs => by simp [nltb, nlt, nltb_iff (a := as) (b := bs)]
/-- how many at the beginning stand before nm -/
def plc : List (List Nat) → List Nat → Nat
  | [], _ => 0
  | x :: xs, nm => if nltb x nm = true then plc xs nm + 1 else 0
theorem plc_le : ∀ (l : List (List Nat)) (nm : List Nat), plc l nm ≤ l.length
  | [], _ => Nat.le_refl _
  | x :: xs, nm => by
    unfold plc
    have := plc_le xs nm
    by_cases h : nltb x nm = true
    · rw [if_pos h, List.length_cons]; omega
    · rw [if_neg h]; omega
/-- what a search from the left finds -/
theorem plc_eq : ∀ {l : List (List Nat)} {nm : List Nat} {k : Nat}, k ≤ l.length → (∀ i x, i < k → l[i]? = some x → nlt x nm) → (∀ x, l[k]? = some x → ¬ nlt x nm) → plc l nm = k
  | [], nm, k, h, _, _ => by simp at h; subst h; rfl
  | x :: xs, nm, 0, _, _, h => by
    unfold plc
    rw [if_neg (fun z => h x rfl (nltb_iff.mp z))]
  | x :: xs, nm, k + 1, hk, h1, h2 => by
    unfold plc
    rw [if_pos (nltb_iff.mpr (h1 0 x (by omega) rfl)), plc_eq (k := k) (by simpa using hk) (fun i y hi hy => h1 (i + 1) y (by omega) hy) (fun y hy => h2 y hy)]
def idx (l : List (List Nat)) (nm : List Nat) : Option Nat := if l[plc l nm]? = some nm then some (plc l nm) else none
/-- the names on the shelf -/
def nms (af : Nat → AFile) (L : List Nat) : List (List Nat) := L.map (fun q => (af q).1)
theorem nms_get {af : Nat → AFile} {L : List Nat} {i : Nat} : (nms af L)[i]? = (L[i]?).map (fun q => (af q).1) := by simp [nms]
def sumB (af : Nat → AFile) (L : List Nat) : Nat := (L.map (fun q => (af q).2.2.1)).sum
def sumC (af : Nat → AFile) (L : List Nat) : Nat := (L.map (fun q => cntL (af q).2.2.2.1 19)).sum
theorem sum_take_s {α : Type} (F : α → Nat) {L : List α} {i : Nat} {q : α} (h : L[i]? = some q) : ((L.take (i + 1)).map F).sum = ((L.take i).map F).sum + F q := by
  rw [List.take_add_one, h]
  simp
theorem sum_le {α : Type} (F : α → Nat) (B : Nat) : ∀ {L : List α}, (∀ q ∈ L, F q ≤ B) → (L.map F).sum ≤ B * L.length
  | [], _ => by simp
  | a :: l, h => by
    have h1 := sum_le F B (L := l) (fun q hq => h q (by simp [hq]))
    have h2 := h a (by simp)
    simp only [List.map_cons, List.sum_cons, List.length_cons, Nat.mul_add, Nat.mul_one]
    omega
