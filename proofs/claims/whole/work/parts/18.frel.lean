/-! what a file's methods may change: the file, the pool's list, its own pieces and the spare ones -/
def gXs (q pl e : Nat) (SP : List Nat) (ps : Nat → Option Nat) (c : Nat) : Prop := c = q ∨ c = q + 3 ∨ c = pl + 1 ∨ c = e ∨ ∃ x, (c = x ∨ c = x + 1) ∧ (x ∈ SP ∨ ∃ s, s < 19 ∧ ps s = some x)
def gFp (f f1 : gM) (X : Nat → Prop) : Prop := ∀ c v, f c = some v → ¬ X c → f1 c = some v
def gHo (f : gM) (e : Nat) (SP : List Nat) (ps : Nat → Option Nat) (e1 : Nat) (SP1 : List Nat) (ps1 : Nat → Option Nat) : Prop := (e1 = e ∨ gNew f e1) ∧ ∀ x, (x ∈ SP1 ∨ ∃ s, s < 19 ∧ ps1 s = some x) → (x ∈ SP ∨ ∃ s, s < 19 ∧ ps s = some x) ∨ gNew f x
def gRel (q pl : Nat) (f : gM) (ow : gO) (e : Nat) (SP : List Nat) (ps : Nat → Option Nat) (f1 : gM) (ow1 : gO) (e1 : Nat) (SP1 : List Nat) (ps1 : Nat → Option Nat) : Prop :=
  gFp f f1 (gXs q pl e SP ps) ∧ gHo f e SP ps e1 SP1 ps1 ∧ (∀ y, f y ≠ none → ¬ gXs q pl e SP ps y → ow1 y = ow y) ∧ ∀ c, f1 c = none → f c = none
theorem gHo.out {f : gM} {q pl e e1 : Nat} {SP SP1 : List Nat} {ps ps1 : Nat → Option Nat} (h : gHo f e SP ps e1 SP1 ps1) {c : Nat} {v : va_E} (hc : f c = some v) (hX : ¬ gXs q pl e SP ps c) : ¬ gXs q pl e1 SP1 ps1 c := by
  intro z
  rcases z with z | z | z | z | ⟨x, z1, z2⟩
  · exact hX (Or.inl z)
  · exact hX (Or.inr (Or.inl z))
  · exact hX (Or.inr (Or.inr (Or.inl z)))
  · rcases h.1 with e2 | e2
    · exact hX (Or.inr (Or.inr (Or.inr (Or.inl (z.trans e2)))))
    · rw [z, e2.n] at hc; cases hc
  · rcases h.2 x z2 with y | y1
    · exact hX (Or.inr (Or.inr (Or.inr (Or.inr ⟨x, z1, y⟩))))
    · rcases z1 with z1 | z1
      · rw [z1, y1.n] at hc; cases hc
      · rw [z1, y1 (x + 1) (by omega)] at hc; cases hc
theorem gRel.rf {q pl : Nat} {f : gM} {ow : gO} {e : Nat} {SP : List Nat} {ps : Nat → Option Nat} : gRel q pl f ow e SP ps f ow e SP ps := ⟨fun _ _ h _ => h, ⟨Or.inl rfl, fun _ h => Or.inl h⟩, fun _ _ _ => rfl, fun _ h => h⟩
theorem gRel.trans {q pl : Nat} {f f1 f2 : gM} {ow ow1 ow2 : gO} {e e1 e2 : Nat} {SP SP1 SP2 : List Nat} {ps ps1 ps2 : Nat → Option Nat} (h : gRel q pl f ow e SP ps f1 ow1 e1 SP1 ps1) (h2 : gRel q pl f1 ow1 e1 SP1 ps1 f2 ow2 e2 SP2 ps2) : gRel q pl f ow e SP ps f2 ow2 e2 SP2 ps2 := by
  obtain ⟨a1, a2, a3, hm⟩ := h
  obtain ⟨b1, b2, b3, hm2⟩ := h2
  refine ⟨fun c v hc hX => b1 c v (a1 c v hc hX) (a2.out hc hX), ⟨?_, ?_⟩, fun y hy hX => ?_, fun c hc => hm c (hm2 c hc)⟩
  · rcases b2.1 with z | z
    · rw [z]; exact a2.1
    · exact Or.inr (z.back hm)
  · intro x hx
    rcases b2.2 x hx with z | z1
    · exact a2.2 x z
    · exact Or.inr (z1.back hm)
  · obtain ⟨v, hv⟩ := Option.ne_none_iff_exists'.mp hy
    rw [b3 y (by rw [a1 y v hv hX]; simp) (a2.out hv hX), a3 y hy hX]
/-- a step that changes cells of the list l alone, and no owner -/
theorem gRel.fr {q pl : Nat} {f f1 : gM} {ow : gO} {e : Nat} {SP : List Nat} {ps : Nat → Option Nat} {l : List Nat} (hF : gFr f f1 l) (hl : ∀ c ∈ l, gXs q pl e SP ps c ∧ f1 c ≠ none) : gRel q pl f ow e SP ps f1 ow e SP ps :=
  ⟨fun c v hc hX => hF c v hc (fun z => hX (hl c z).1), ⟨Or.inl rfl, fun _ h => Or.inl h⟩, fun _ _ _ => rfl, fun c hc => by
    cases hf : f c with
    | none => rfl
    | some v =>
      by_cases h : c ∈ l
      · exact absurd hc (hl c h).2
      · rw [hF c v hf h] at hc; cases hc⟩
/-- cells never go -/
theorem gFr_dom {f f1 : gM} {l : List Nat} (hF : gFr f f1 l) (hl : ∀ c ∈ l, f1 c ≠ none) : ∀ c, f1 c = none → f c = none := fun c hc => by
  cases hf : f c with
  | none => rfl
  | some v =>
    by_cases h : c ∈ l
    · exact absurd hc (hl c h)
    · rw [hF c v hf h] at hc; cases hc
theorem gLi_some {P : gPar} {f : gM} {a e cap : Nat} {L : List Nat} (h : gLi P f a e cap L) : f a ≠ none := by
  obtain ⟨⟨m, h1⟩, -⟩ := h
  rw [h1]; simp
theorem cntL_up (ld : Nat → Bool) {s : Nat} : ∀ k, s < k → ld s = false → cntL (va_up ld s true) k = cntL ld k + 1
  | 0, h, _ => absurd h (by omega)
  | k + 1, h, hs => by
    unfold cntL
    by_cases e : s = k
    · subst e
      rw [va_up_self, if_pos rfl, hs, if_neg (by decide), cntL_congr s (fun t ht => va_up_ne _ _ (by omega))]
    · rw [cntL_up ld k (by omega) hs, va_up_ne _ _ (by omega)]; omega
theorem cntL_dn (ld : Nat → Bool) {s : Nat} : ∀ k, s < k → ld s = true → cntL (va_up ld s false) k + 1 = cntL ld k
  | 0, h, _ => absurd h (by omega)
  | k + 1, h, hs => by
    unfold cntL
    by_cases e : s = k
    · subst e
      rw [va_up_self, if_neg (by decide), hs, if_pos rfl, cntL_congr s (fun t ht => va_up_ne _ _ (by omega))]
    · have := cntL_dn ld k (by omega) hs
      rw [va_up_ne _ _ (by omega)]; omega
theorem va_up_same {α : Type} {f : Nat → α} {k : Nat} {v : α} (h : f k = v) : va_up f k v = f := by
  funext j; unfold va_up
  by_cases e : j = k
  · rw [if_pos e, e, h]
  · rw [if_neg e]
/-- pieces over a frame -/
theorem gPs.fr {P : gPar} {f f1 : gM} {ow : gO} {q : Nat} {ps : Nat → Option Nat} {ld : Nat → Bool} {C : Nat → Nat} {l : List Nat} (h : gPs P f ow q ps ld C) (hF : gFr f f1 l) (hl : ∀ s x, s < 19 → ps s = some x → x ∉ l ∧ x + 1 ∉ l) : gPs P f1 ow q ps ld C := fun s hs => by
  obtain ⟨h1, h2⟩ := h s hs
  refine ⟨h1, fun x hx => ?_⟩
  obtain ⟨a1, hh, a2, a3⟩ := h2 x hx
  exact ⟨a1, hh, a2.fr hF (hl s x hs hx).1 (hl s x hs hx).2, a3⟩
theorem gPs.one {P : gPar} {f : gM} {ow : gO} {q : Nat} {ps : Nat → Option Nat} {ld : Nat → Bool} {C : Nat → Nat} (h : gPs P f ow q ps ld C) {s t x : Nat} (hs : s < 19) (ht : t < 19) (h1 : ps s = some x) (h2 : ps t = some x) : s = t := by
  have e1 := ((h s hs).2 x h1).1
  have e2 := ((h t ht).2 x h2).1
  rw [e1] at e2
  injection e2 with e2
  injection e2
/-- the pool's cells and a file's pieces lie apart -/
theorem gPs.li {P : gPar} {f : gM} {ow : gO} {q a e cap : Nat} {L : List Nat} {ps : Nat → Option Nat} {ld : Nat → Bool} {C : Nat → Nat} (h : gPs P f ow q ps ld C) (hl : gLi P f a e cap L) (hz : f P.2.2.2.1 = none) {s x : Nat} (hs : s < 19) (hx : ps s = some x) : x ∉ [a, e] ∧ x + 1 ∉ [a, e] := by
  obtain ⟨-, hh, a2, -⟩ := (h s hs).2 x hx
  exact ⟨hl.npc (by decide) a2.1 hz, hl.nba a2.2.1 hz⟩
theorem ub_0 : ub 0 = 0 := by decide
/-- a blank piece comes in at the free place s -/
theorem gPs.put {P : gPar} {f : gM} {ow : gO} {q s x : Nat} {ps : Nat → Option Nat} {ld : Nat → Bool} {C : Nat → Nat} {hh : Nat → Int32} (h : gPs P f ow q ps ld C) (hs : s < 19) (hn : ps s = none) (hx : ∀ t, t < 19 → ps t ≠ some x) (hp : gPc P f x hh) (h0 : ∀ j, j < 448 → ub (hh j) = C (448 * s + j)) : gPs P f (va_up ow x (some (q, s))) q (va_up ps s (some x)) (va_up ld s true) C := by
  intro t ht
  by_cases e : t = s
  · subst e
    rw [va_up_self, va_up_self]
    refine ⟨rfl, fun y hy => ?_⟩
    cases hy
    exact ⟨va_up_self _ _ _, hh, hp, h0⟩
  · rw [va_up_ne _ _ e, va_up_ne _ _ e]
    obtain ⟨h1, h2⟩ := h t ht
    refine ⟨h1, fun y hy => ?_⟩
    obtain ⟨a1, a2⟩ := h2 y hy
    exact ⟨by rw [va_up_ne _ _ (fun z => hx t ht (by rw [hy, z]))]; exact a1, a2⟩
/-- arrays of pieces and of objects are of two classes -/
theorem gX_34 {P : gPar} {s : State} (h : gX P s) : P.2.1 3 ≠ P.2.1 4 := by
  intro e
  obtain ⟨kA, c1, a1, a2, -, -⟩ := (h.1.2 3 _ rfl).2
  obtain ⟨kB, c2, b1, b2, -, -⟩ := (h.1.2 4 _ rfl).2
  rw [e, b1] at a1
  cases a1
  rw [b2] at a2
  injection a2 with _ a2
  exact absurd a2 (by decide)
theorem gLi.npa {P : gPar} {f : gM} {a e cap : Nat} {L : List Nat} (h : gLi P f a e cap L) {x n : Nat} {g : Nat → Option Nat} (h34 : P.2.1 3 ≠ P.2.1 4) (hx : f x = some (.inl (P.2.1 3, n, .inr (.inr (.inr (.inr g)))))) (hz : f P.2.2.2.1 = none) : x ∉ [a, e] := by
  intro z
  rcases List.mem_cons.mp z with rfl | z
  · obtain ⟨⟨m, h1⟩, -⟩ := h
    rw [hx] at h1; cases h1
  · have z := List.mem_singleton.mp z
    subst z
    rcases h.2 with ⟨rfl, -, -⟩ | ⟨-, g, h1, -⟩
    · rw [hz] at hx; cases hx
    · rw [hx] at h1; injection h1 with h1; injection h1 with h1; injection h1 with h1; exact absurd h1 h34
/-- writing n bytes T from byte fr on: which stripes are laid then, what they hold; wlK, wcK: the first k stripes are through -/
def wl (ld : Nat → Bool) (fr n t : Nat) : Bool := ld t || decide (max fr (448 * t) < min (fr + n) (448 * t + 448))
def wC (C T : Nat → Nat) (fr n p : Nat) : Nat := if fr ≤ p ∧ p < fr + n then T (p - fr) else C p
def wlK (ld : Nat → Bool) (fr n k t : Nat) : Bool := if t < k then wl ld fr n t else ld t
def wcK (C T : Nat → Nat) (fr n k p : Nat) : Nat := if p < 448 * k then wC C T fr n p else C p
theorem wlK_0 (ld : Nat → Bool) (fr n : Nat) : wlK ld fr n 0 = ld := by funext t; unfold wlK; rw [if_neg (by omega)]
theorem wcK_0 (C T : Nat → Nat) (fr n : Nat) : wcK C T fr n 0 = C := by funext t; unfold wcK; rw [if_neg (by omega)]
theorem wlK_e {ld : Nat → Bool} {fr n : Nat} (h : fr + n ≤ 8192) : wlK ld fr n 19 = wl ld fr n := by
  funext t; unfold wlK
  by_cases h1 : t < 19
  · rw [if_pos h1]
  · rw [if_neg h1]; unfold wl
    rw [show decide (max fr (448 * t) < min (fr + n) (448 * t + 448)) = false by simp; omega]; simp
theorem wcK_e {C T : Nat → Nat} {fr n : Nat} (h : fr + n ≤ 8192) : wcK C T fr n 19 = wC C T fr n := by
  funext p; unfold wcK
  by_cases h1 : p < 448 * 19
  · rw [if_pos h1]
  · rw [if_neg h1]; unfold wC; rw [if_neg (by omega)]
theorem wlK_no {ld : Nat → Bool} {fr n k : Nat} (h : ¬ max fr (448 * k) < min (fr + n) (448 * k + 448)) : wlK ld fr n (k + 1) = wlK ld fr n k := by
  funext t; unfold wlK
  by_cases h1 : t < k
  · rw [if_pos h1, if_pos (by omega)]
  · rw [if_neg h1]
    by_cases h2 : t = k
    · subst h2; rw [if_pos (by omega)]; unfold wl; rw [decide_eq_false h]; simp
    · rw [if_neg (by omega)]
theorem wlK_yes {ld : Nat → Bool} {fr n k : Nat} (h : max fr (448 * k) < min (fr + n) (448 * k + 448)) : wlK ld fr n (k + 1) = va_up (wlK ld fr n k) k true := by
  funext t; unfold wlK va_up
  by_cases h2 : t = k
  · subst h2; rw [if_pos (by omega), if_pos rfl]; unfold wl; rw [decide_eq_true h]; simp
  · rw [if_neg h2]
    show _ = (if t < k then wl ld fr n t else ld t)
    by_cases h1 : t < k
    · rw [if_pos h1, if_pos (by omega)]
    · rw [if_neg h1, if_neg (by omega)]
theorem wcK_no {C T : Nat → Nat} {fr n k : Nat} (h : ¬ max fr (448 * k) < min (fr + n) (448 * k + 448)) : wcK C T fr n (k + 1) = wcK C T fr n k := by
  funext p; unfold wcK
  by_cases h1 : p < 448 * k
  · rw [if_pos h1, if_pos (by omega)]
  · rw [if_neg h1]
    by_cases h2 : p < 448 * (k + 1)
    · rw [if_pos h2]; unfold wC; rw [if_neg (by omega)]
    · rw [if_neg h2]
theorem wcK_old {C T : Nat → Nat} {fr n k p : Nat} (h : 448 * k ≤ p) : wcK C T fr n k p = C p := by unfold wcK; rw [if_neg (by omega)]
theorem wcK_ne {C T : Nat → Nat} {fr n k s j : Nat} (h : s ≠ k) (hj : j < 448) : wcK C T fr n (k + 1) (448 * s + j) = wcK C T fr n k (448 * s + j) := by
  unfold wcK
  by_cases h1 : s < k
  · rw [if_pos (by omega), if_pos (by omega)]
  · rw [if_neg (by omega), if_neg (by omega)]
theorem wcK_at {C : Nat → Nat} {g h : Nat → Int32} {fr n k j lo hi : Nat} (hlo : lo = max fr (448 * k)) (hhi : hi = min (fr + n) (448 * k + 448)) (hlt : lo < hi) (hj : j < 448) (hh : ub (h j) = C (448 * k + j)) : ub (va_cpy g h (lo - fr) (lo - 448 * k) (hi - lo) j) = wcK C (fun i => ub (g i)) fr n (k + 1) (448 * k + j) := by
  unfold wcK
  rw [if_pos (by omega)]
  unfold wC
  by_cases h1 : fr ≤ 448 * k + j ∧ 448 * k + j < fr + n
  · rw [if_pos h1, pk_cpy_in (by omega) (by omega)]
    congr 2; omega
  · rw [if_neg h1, pk_cpy_out (by omega)]; exact hh
