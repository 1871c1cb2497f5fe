/-! what the class's cells stand for -/
theorem gB_none {P : gPar} {f : gM} {s : State} {H : Heap} {locs : List Loc} (hI : gB P f s H locs) {q : Nat} (h : H.size ≤ q) : f q = none := by
  cases hf : f q with
  | none => rfl
  | some v =>
    obtain ⟨L, k, -, hP, -, h0⟩ := gh_open hI.2.1 hf
    have := (hP k _ h0).lt
    exact absurd this (by show ¬ q < H.size; omega)
/-- a file: name, number, length, which stripes are laid, its bytes (0 where there are none) -/
abbrev AFile : Type := List Nat × Int32 × Nat × (Nat → Bool) × (Nat → Nat)
/-- whose a piece is: a file's stripe, or nobody's -/
abbrev gO : Type := Nat → Option (Nat × Nat)
/-- the piece x with the bytes h -/
def gPc (P : gPar) (f : gM) (x : Nat) (h : Nat → Int32) : Prop := f x = some (.inr (2, [.ref (x + 1)])) ∧ f (x + 1) = some (.inl (P.2.1 0, 448, .inl h)) ∧ sb_Fit h
def gPs (P : gPar) (f : gM) (ow : gO) (q : Nat) (ps : Nat → Option Nat) (ld : Nat → Bool) (C : Nat → Nat) : Prop :=
  ∀ s, s < 19 → (ps s).isSome = ld s ∧ ∀ x, ps s = some x → ow x = some (q, s) ∧ ∃ h, gPc P f x h ∧ ∀ j, j < 448 → ub (h j) = C (448 * s + j)
/-- the file object q -/
def gFi (P : gPar) (f : gM) (ow : gO) (pl q : Nat) (v : AFile) : Prop :=
  ∃ (n : Nat) (g : Nat → Int32) (ps : Nat → Option Nat), f q = some (.inr (4, [.ref pl, .ref (q + 1), .ref (q + 3), .int v.2.1, .int (nI v.2.2.1)])) ∧ f (q + 1) = some (.inr (1, [.ref (q + 2), .int (nI n)])) ∧ f (q + 2) = some (.inl (P.2.1 0, 200, .inl g)) ∧ f (q + 3) = some (.inl (P.2.1 3, 19, .inr (.inr (.inr (.inr ps))))) ∧ n ≤ 200 ∧ sb_Fit g ∧ nmL n g = v.1 ∧ gPs P f ow q ps v.2.2.2.1 v.2.2.2.2
/-- a file's own law -/
def wfF (len : Nat) (ld : Nat → Bool) (C : Nat → Nat) : Prop := len ≤ 8192 ∧ (∀ p, len ≤ p → C p = 0) ∧ (∀ s, ld s = true → 448 * s < len) ∧ ∀ p, ld (p / 448) = false → C p = 0
/-- the spare pieces -/
def gSp (P : gPar) (f : gM) (ow : gO) (pl e cap : Nat) (SP : List Nat) : Prop :=
  f pl = some (.inr (3, [.ref (pl + 1)])) ∧ gLi P f (pl + 1) e cap SP ∧ cap ≤ 200 ∧ SP.Nodup ∧ ∀ x ∈ SP, ow x = none ∧ ∃ h, gPc P f x h ∧ ∀ j, j < 448 → h j = 0
theorem gPc.fr {P : gPar} {f f1 : gM} {x : Nat} {h : Nat → Int32} {l : List Nat} (hp : gPc P f x h) (hF : gFr f f1 l) (h1 : x ∉ l) (h2 : x + 1 ∉ l) : gPc P f1 x h := ⟨hF _ _ hp.1 h1, hF _ _ hp.2.1 h2, hp.2.2⟩
theorem gSp.el {P : gPar} {f : gM} {ow : gO} {pl e cap : Nat} {SP : List Nat} (h : gSp P f ow pl e cap SP) : gEl 2 f SP := ⟨Or.inr rfl, fun y hy => by
  obtain ⟨-, hh, hp, -⟩ := h.2.2.2.2 y hy
  exact ⟨_, hp.1⟩⟩
/-- the cells of a list hold no piece -/
theorem gLi.npc {P : gPar} {f : gM} {a e cap : Nat} {L : List Nat} (h : gLi P f a e cap L) {x k : Nat} {fs : List Value} (hk : k ≠ 6) (hx : f x = some (.inr (k, fs))) (hz : f P.2.2.2.1 = none) : x ∉ [a, e] := by
  intro z
  rcases List.mem_cons.mp z with rfl | z
  · obtain ⟨⟨m, h1⟩, -⟩ := h
    rw [hx] at h1; injection h1 with h1; injection h1 with h1; injection h1 with h1; exact absurd h1 hk
  · have z := List.mem_singleton.mp z
    subst z
    rcases h.2 with ⟨rfl, -, -⟩ | ⟨-, g, h1, -⟩
    · rw [hz] at hx; cases hx
    · rw [hx] at h1; cases h1
theorem gLi.nba {P : gPar} {f : gM} {a e cap : Nat} {L : List Nat} (h : gLi P f a e cap L) {x n : Nat} {g : Nat → Int32} (hx : f x = some (.inl (P.2.1 0, n, .inl g))) (hz : f P.2.2.2.1 = none) : x ∉ [a, e] := by
  intro z
  rcases List.mem_cons.mp z with rfl | z
  · obtain ⟨⟨m, h1⟩, -⟩ := h
    rw [hx] at h1; cases h1
  · have z := List.mem_singleton.mp z
    subst z
    rcases h.2 with ⟨rfl, -, -⟩ | ⟨-, g, h1, -⟩
    · rw [hz] at hx; cases hx
    · rw [hx] at h1; injection h1 with h1; injection h1 with h1; injection h1 with _ h1; injection h1 with _ h1; cases h1
/-- the static array isn't owned -/
theorem gB_z {P : gPar} {f : gM} {s : State} {H : Heap} {locs : List Loc} (hI : gB P f s H locs) : f P.2.2.2.1 = none := by
  cases hf : f P.2.2.2.1 with
  | none => rfl
  | some v =>
    obtain ⟨L, k, -, -, hD, h0⟩ := gh_open hI.2.1 hf
    obtain ⟨cell, -, -, -, hn⟩ := hI.1.2.2.2.2.2.2.2.2.2
    exact absurd (hD.2 k _ h0) hn
theorem l_last {L : List Nat} {x : Nat} (h : L[L.length - 1]? = some x) : L = L.eraseIdx (L.length - 1) ++ [x] := by
  have hl : L.length - 1 < L.length := (List.getElem?_eq_some_iff.mp h).1
  have he : (L.eraseIdx (L.length - 1)).length = L.length - 1 := List.length_eraseIdx_of_lt hl
  apply List.ext_getElem?
  intro j
  by_cases h1 : j < L.length - 1
  · rw [List.getElem?_append_left (by omega), List.getElem?_eraseIdx, if_pos h1]
  · rw [List.getElem?_append_right (by omega)]
    by_cases h2 : j = L.length - 1
    · subst h2; rw [h, he, Nat.sub_self]; rfl
    · rw [List.getElem?_eq_none (by omega), List.getElem?_eq_none (by simp; omega)]
/-- how many of the first k stripes are laid -/
def cntL (ld : Nat → Bool) : Nat → Nat
  | 0 => 0
  | k + 1 => cntL ld k + (if ld k = true then 1 else 0)
theorem cntL_le (ld : Nat → Bool) : ∀ k, cntL ld k ≤ k
  | 0 => Nat.le_refl _
  | k + 1 => by
    have := cntL_le ld k
    unfold cntL
    by_cases h : ld k = true
    · rw [if_pos h]; omega
    · rw [if_neg h]; omega
theorem cntL_congr {ld ld' : Nat → Bool} : ∀ k, (∀ s, s < k → ld s = ld' s) → cntL ld k = cntL ld' k
  | 0, _ => rfl
  | k + 1, h => by
    unfold cntL
    rw [cntL_congr k (fun s hs => h s (by omega)), h k (by omega)]
/-- byte i of stripe s as it is kept -/
def pcV (len : Nat) (ld : Nat → Bool) (C : Nat → Nat) (s i : Int32) : Int32 :=
  if ¬ s < 0 ∧ s < nI 19 ∧ ¬ i < 0 ∧ i < nI 448 ∧ ld s.toNatClampNeg = true ∧ 448 * s.toNatClampNeg + i.toNatClampNeg < len then nI (C (448 * s.toNatClampNeg + i.toNatClampNeg)) else (-2)
