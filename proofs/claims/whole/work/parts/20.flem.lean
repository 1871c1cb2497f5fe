/-! the steps of a file's methods on the pictures -/
theorem gSp.ow {P : gPar} {f : gM} {ow ow1 : gO} {pl e cap : Nat} {SP : List Nat} (h : gSp P f ow pl e cap SP) (ho : ∀ y ∈ SP, ow1 y = ow y) : gSp P f ow1 pl e cap SP :=
  ⟨h.1, h.2.1, h.2.2.1, h.2.2.2.1, fun y hy => ⟨by rw [ho y hy]; exact (h.2.2.2.2 y hy).1, (h.2.2.2.2 y hy).2⟩⟩
theorem gPs.ow {P : gPar} {f : gM} {ow ow1 : gO} {q : Nat} {ps : Nat → Option Nat} {ld : Nat → Bool} {C : Nat → Nat} (h : gPs P f ow q ps ld C) (ho : ∀ s x, s < 19 → ps s = some x → ow1 x = ow x) : gPs P f ow1 q ps ld C := fun s hs => ⟨(h s hs).1, fun x hx => ⟨by rw [ho s x hs hx]; exact ((h s hs).2 x hx).1, ((h s hs).2 x hx).2⟩⟩
theorem gPs.nsp {P : gPar} {f : gM} {ow : gO} {q pl e cap : Nat} {SP : List Nat} {ps : Nat → Option Nat} {ld : Nat → Bool} {C : Nat → Nat} (h : gPs P f ow q ps ld C) (hs : gSp P f ow pl e cap SP) {t x : Nat} (ht : t < 19) (hx : ps t = some x) : x ∉ SP := fun z => by
  have h1 := ((h t ht).2 x hx).1
  rw [(hs.2.2.2.2 x z).1] at h1
  cases h1
theorem gPs.apart {P : gPar} {f : gM} {ow : gO} {q : Nat} {ps : Nat → Option Nat} {ld : Nat → Bool} {C : Nat → Nat} (h : gPs P f ow q ps ld C) {a n : Nat} {g : Nat → Option Nat} {k : ClassId} (ha : f a = some (.inl (k, n, .inr (.inr (.inr (.inr g)))))) {t x : Nat} (ht : t < 19) (hx : ps t = some x) : x ∉ [a] ∧ x + 1 ∉ [a] := by
  obtain ⟨-, hh, ⟨a1, a2, -⟩, -⟩ := (h t ht).2 x hx
  constructor
  · intro z; rw [List.mem_singleton.mp z, ha] at a1; cases a1
  · intro z; rw [List.mem_singleton.mp z, ha] at a2; injection a2 with a2; injection a2 with a2; injection a2 with _ a2; injection a2 with _ a2; cases a2
theorem gSp.apart {P : gPar} {f : gM} {ow : gO} {pl e cap : Nat} {SP : List Nat} (h : gSp P f ow pl e cap SP) {a n : Nat} {g : Nat → Option Nat} {k : ClassId} (ha : f a = some (.inl (k, n, .inr (.inr (.inr (.inr g)))))) {x : Nat} (hx : x ∈ SP) : x ∉ [a] ∧ x + 1 ∉ [a] := by
  obtain ⟨-, hh, ⟨a1, a2, -⟩, -⟩ := h.2.2.2.2 x hx
  constructor
  · intro z; rw [List.mem_singleton.mp z, ha] at a1; cases a1
  · intro z; rw [List.mem_singleton.mp z, ha] at a2; injection a2 with a2; injection a2 with a2; injection a2 with _ a2; injection a2 with _ a2; cases a2
/-- a spare or new piece x comes in at the free stripe s of the file q -/
theorem lay_step {P : gPar} {f f1 : gM} {ow : gO} {q pl e cap s x len : Nat} {id : Int32} {SP SP1 : List Nat} {ps : Nat → Option Nat} {ld : Nat → Bool} {C : Nat → Nat} {hh : Nat → Int32} (h34 : P.2.1 3 ≠ P.2.1 4) (hz : f P.2.2.2.1 = none)
    (hq : f q = some (.inr (4, [.ref pl, .ref (q + 1), .ref (q + 3), .int id, .int (nI len)]))) (hq3 : f (q + 3) = some (.inl (P.2.1 3, 19, .inr (.inr (.inr (.inr ps)))))) (hps : gPs P f ow q ps ld C) (h : gSp P f ow pl e cap SP) (hs : s < 19) (hn : ps s = none) (hC : ∀ j, j < 448 → C (448 * s + j) = 0)
    (hx : SP = SP1 ++ [x] ∨ (SP = [] ∧ SP1 = [] ∧ gNew f x)) (hp : gPc P f1 x hh) (hp0 : ∀ j, j < 448 → hh j = 0) (h1 : gSp P f1 ow pl e cap SP1) (hF : gFr f f1 [pl + 1, e]) (f2 : gM) (hf2 : f2 = va_up f1 (q + 3) (some (.inl (P.2.1 3, 19, .inr (.inr (.inr (.inr (va_up ps s (some x)))))))))  :
    gPc P f2 x hh ∧ f2 q = some (.inr (4, [.ref pl, .ref (q + 1), .ref (q + 3), .int id, .int (nI len)])) ∧ gSp P f2 (va_up ow x (some (q, s))) pl e cap SP1 ∧ gPs P f2 (va_up ow x (some (q, s))) q (va_up ps s (some x)) (va_up ld s true) C ∧ gRel q pl f ow e SP ps f2 (va_up ow x (some (q, s))) e SP1 (va_up ps s (some x)) ∧ (SP1.length + cntL (va_up ld s true) 19 = SP.length + cntL ld 19 ∨ SP1 = []) ∧ SP1.length ≤ SP.length := by
  have hli := h.2.1
  have hq1 := hF q _ hq (hli.npc (by decide) hq hz)
  have hq31 := hF (q + 3) _ hq3 (hli.npa h34 hq3 hz)
  have hF2 : gFr f1 f2 [q + 3] := by rw [hf2]; exact gFr.upA (by simp) gFr.rf
  have hq32 : f2 (q + 3) = some (.inl (P.2.1 3, 19, .inr (.inr (.inr (.inr (va_up ps s (some x))))))) := by rw [hf2]; exact va_up_self _ _ _
  have hxp : ∀ t, t < 19 → ps t ≠ some x := by
    intro t ht e1
    rcases hx with e2 | ⟨-, -, e2⟩
    · exact hps.nsp h ht e1 (by rw [e2]; simp)
    · obtain ⟨-, _, ⟨a1, -, -⟩, -⟩ := (hps t ht).2 x e1
      rw [e2.n] at a1; cases a1
  have hx1 : x ∉ SP1 := by
    rcases hx with e2 | ⟨-, e2, -⟩
    · intro z
      have hnd := h.2.2.2.1
      rw [e2] at hnd
      exact (List.nodup_append.mp hnd).2.2 x z x (by simp) rfl
    · rw [e2]; simp
  have hps1 : gPs P f1 ow q ps ld C := hps.fr hF (fun t y ht hy => hps.li hli hz ht hy)
  have hps2 := hps1.put hs hn hxp hp (fun j hj => by rw [hp0 j hj, hC j hj]; exact ub_0)
  have hps3 : gPs P f2 (va_up ow x (some (q, s))) q (va_up ps s (some x)) (va_up ld s true) C := hps2.fr hF2 (fun t y ht hy => hps2.apart hq31 ht hy)
  have hld : ld s = false := by rw [← (hps s hs).1, hn]; rfl
  refine ⟨hp.fr hF2 ?_ ?_, hF2 q _ hq1 (by simp), (h1.fr hF2 ?_ ?_ ?_ (fun y hy => h1.apart hq31 hy)).ow (fun y hy => va_up_ne _ _ (fun z => hx1 (z ▸ hy))), hps3, ⟨?_, ⟨Or.inl rfl, ?_⟩, ?_, ?_⟩, ?_, ?_⟩
  · simp; exact gh_ne hp.1 hq31 (by intro h; cases h)
  · have h2 := hp.2.1
    intro z
    rw [List.mem_singleton.mp z, hq31] at h2
    injection h2 with h2; injection h2 with h2; injection h2 with _ h2; injection h2 with _ h2; cases h2
  · simp; exact gh_ne h1.1 hq31 (by intro h; cases h)
  · obtain ⟨⟨m, h2⟩, -⟩ := h1.2.1
    intro z
    rw [List.mem_singleton.mp z, hq31] at h2; cases h2
  · intro z
    exact (hli.npa h34 hq3 hz) (by rw [← List.mem_singleton.mp z]; simp)
  · intro c v hc hX
    have hc1 := hF c v hc (fun z => hX (by
      rcases List.mem_cons.mp z with z | z
      · exact Or.inr (Or.inr (Or.inl z))
      · exact Or.inr (Or.inr (Or.inr (Or.inl (List.mem_singleton.mp z))))))
    exact hF2 c v hc1 (fun z => hX (Or.inr (Or.inl (List.mem_singleton.mp z))))
  · intro y hy
    rcases hy with hy | ⟨t, ht, hy⟩
    · left; left
      rcases hx with e2 | ⟨-, e2, -⟩
      · rw [e2]; exact List.mem_append_left _ hy
      · rw [e2] at hy; cases hy
    · by_cases e : t = s
      · subst e
        rw [va_up_self] at hy
        cases hy
        rcases hx with e2 | ⟨-, -, e2⟩
        · left; left; rw [e2]; simp
        · exact Or.inr e2
      · rw [va_up_ne _ _ e] at hy
        exact Or.inl (Or.inr ⟨t, ht, hy⟩)
  · intro y hy hX
    refine va_up_ne _ _ (fun z => ?_)
    rcases hx with e2 | ⟨-, -, e2⟩
    · exact hX (Or.inr (Or.inr (Or.inr (Or.inr ⟨y, Or.inl rfl, Or.inl (by rw [e2, z]; simp)⟩))))
    · exact hy (by rw [z]; exact e2.n)
  · intro c hc
    by_cases hcq : c = q + 3
    · rw [hcq, hq32] at hc; cases hc
    · have hc1 : f1 c = none := by rw [hf2, va_up_ne _ _ hcq] at hc; exact hc
      cases hf : f c with
      | none => rfl
      | some v =>
        exfalso
        by_cases hl : c ∈ [pl + 1, e]
        · rcases List.mem_cons.mp hl with z | z
          · obtain ⟨⟨m, h2⟩, -⟩ := h1.2.1
            rw [← z, hc1] at h2; cases h2
          · have z := List.mem_singleton.mp z
            rcases h1.2.1.2 with ⟨e1, -, -⟩ | ⟨-, g, e1, -⟩
            · rw [z, e1, hz] at hf; cases hf
            · rw [← z, hc1] at e1; cases e1
        · rw [hF c v hf hl] at hc1; cases hc1
  · rcases hx with e2 | ⟨-, e2, -⟩
    · left
      rw [cntL_up ld 19 hs hld, e2, List.length_append, List.length_singleton]; omega
    · exact Or.inr e2
  · rcases hx with e2 | ⟨-, e2, -⟩
    · rw [e2, List.length_append]; omega
    · rw [e2]; simp
/-- a row and its bytes lie outside of what a file's methods change -/
theorem gXs_row {P : gPar} {f : gM} {ow : gO} {q pl e cap a n capR len : Nat} {id : Int32} {SP : List Nat} {ps : Nat → Option Nat} {ld : Nat → Bool} {C : Nat → Nat} {g : Nat → Int32} (hz : f P.2.2.2.1 = none) (hq : f q = some (.inr (4, [.ref pl, .ref (q + 1), .ref (q + 3), .int id, .int (nI len)]))) (hq3 : f (q + 3) = some (.inl (P.2.1 3, 19, .inr (.inr (.inr (.inr ps)))))) (hps : gPs P f ow q ps ld C) (h : gSp P f ow pl e cap SP)
    (ha : f a = some (.inr (1, [.ref (a + 1), .int (nI n)]))) (hb : f (a + 1) = some (.inl (P.2.1 0, capR, .inl g))) : ¬ gXs q pl e SP ps a ∧ ¬ gXs q pl e SP ps (a + 1) := by
  have hpc : ∀ x, (x ∈ SP ∨ ∃ s, s < 19 ∧ ps s = some x) → ∃ hh, gPc P f x hh := by
    intro x hx
    rcases hx with hx | ⟨s, hs, hx⟩
    · obtain ⟨-, hh, a2, -⟩ := h.2.2.2.2 x hx; exact ⟨hh, a2⟩
    · obtain ⟨-, hh, a2, -⟩ := (hps s hs).2 x hx; exact ⟨hh, a2⟩
  constructor
  · intro z
    rcases z with z | z | z | z | ⟨x, z1, z2⟩
    · rw [z, hq] at ha; simp at ha
    · rw [z, hq3] at ha; cases ha
    · exact (h.2.1.npc (by decide) ha hz) (by rw [z]; simp)
    · exact (h.2.1.npc (by decide) ha hz) (by rw [z]; simp)
    · obtain ⟨hh, p1, p2, -⟩ := hpc x z2
      rcases z1 with z1 | z1
      · rw [z1, p1] at ha; simp at ha
      · rw [z1, p2] at ha; cases ha
  · intro z
    rcases z with z | z | z | z | ⟨x, z1, z2⟩
    · rw [z, hq] at hb; cases hb
    · rw [z, hq3] at hb; injection hb with hb; injection hb with hb; injection hb with _ hb; injection hb with _ hb; cases hb
    · exact (h.2.1.nba hb hz) (by rw [z]; simp)
    · exact (h.2.1.nba hb hz) (by rw [z]; simp)
    · obtain ⟨hh, p1, p2, -⟩ := hpc x z2
      rcases z1 with z1 | z1
      · rw [z1, p1] at hb; cases hb
      · have e : x = a := by omega
        rw [e, ha] at p1; simp at p1
/-- the bytes of the piece at stripe s are new -/
theorem gPs.upd {P : gPar} {f f2 : gM} {ow : gO} {q s x : Nat} {ps : Nat → Option Nat} {ld : Nat → Bool} {C C' : Nat → Nat} {hh : Nat → Int32} (h : gPs P f ow q ps ld C) (hs : s < 19) (hx : ps s = some x) (hfit : sb_Fit hh) (hf2 : f2 = va_up f (x + 1) (some (.inl (P.2.1 0, 448, .inl hh)))) (hC : ∀ t j, t < 19 → t ≠ s → j < 448 → C' (448 * t + j) = C (448 * t + j)) (hC2 : ∀ j, j < 448 → ub (hh j) = C' (448 * s + j)) : gPs P f2 ow q ps ld C' := by
  obtain ⟨-, h0, hx0, -⟩ := (h s hs).2 x hx
  intro t ht
  obtain ⟨h1, h2⟩ := h t ht
  refine ⟨h1, fun y hy => ?_⟩
  obtain ⟨a1, h3, ⟨b1, b2, b3⟩, a3⟩ := h2 y hy
  have hyx : y ≠ x + 1 := gh_ne b1 hx0.2.1 (by intro h; cases h)
  by_cases e : t = s
  · subst e
    have e2 : y = x := by rw [hx] at hy; cases hy; rfl
    subst e2
    exact ⟨a1, hh, ⟨by rw [hf2, va_up_ne _ _ hyx]; exact b1, by rw [hf2]; exact va_up_self _ _ _, hfit⟩, hC2⟩
  · have hne : y ≠ x := fun z => e (h.one ht hs hy (z ▸ hx))
    exact ⟨a1, h3, ⟨by rw [hf2, va_up_ne _ _ hyx]; exact b1, by rw [hf2, va_up_ne _ _ (by omega)]; exact b2, b3⟩, fun j hj => by rw [hC t j ht e hj]; exact a3 j hj⟩
theorem gSp.upd {P : gPar} {f f2 : gM} {ow : gO} {pl e cap x : Nat} {SP : List Nat} {hh h0 : Nat → Int32} (h : gSp P f ow pl e cap SP) (hz : f P.2.2.2.1 = none) (hx : gPc P f x h0) (hn : x ∉ SP) (hf2 : f2 = va_up f (x + 1) (some (.inl (P.2.1 0, 448, .inl hh)))) : gSp P f2 ow pl e cap SP := by
  have hF : gFr f f2 [x + 1] := by rw [hf2]; exact gFr.upA (by simp) gFr.rf
  have hl := h.2.1.nba hx.2.1 hz
  refine h.fr hF ?_ ?_ ?_ (fun y hy => ?_)
  · simp; exact gh_ne h.1 hx.2.1 (by intro h; cases h)
  · intro z; exact hl (by rw [← List.mem_singleton.mp z]; simp)
  · intro z; exact hl (by rw [← List.mem_singleton.mp z]; simp)
  · obtain ⟨-, _, b1, -⟩ := h.2.2.2.2 y hy
    refine ⟨?_, ?_⟩
    · simp; exact gh_ne b1.1 hx.2.1 (by intro h; cases h)
    · simp; exact fun z => hn (z ▸ hy)
theorem gPs.frrow {P : gPar} {f f1 : gM} {ow : gO} {q a n capR : Nat} {ps : Nat → Option Nat} {ld : Nat → Bool} {C : Nat → Nat} {g : Nat → Int32} (h : gPs P f ow q ps ld C) (ha : f a = some (.inr (1, [.ref (a + 1), .int (nI n)]))) (hb : f (a + 1) = some (.inl (P.2.1 0, capR, .inl g))) (hF : gFr f f1 [a, a + 1]) : gPs P f1 ow q ps ld C := h.fr hF (fun t y ht hy => by
  obtain ⟨-, _, ⟨b1, b2, -⟩, -⟩ := (h t ht).2 y hy
  have h1 : y ≠ a := gh_ne b1 ha (by intro h; simp at h)
  have h2 : y ≠ a + 1 := gh_ne b1 hb (by intro h; cases h)
  have h3 : y + 1 ≠ a := gh_ne b2 ha (by intro h; cases h)
  constructor
  · intro z
    rcases List.mem_cons.mp z with z | z
    · exact h1 z
    · exact h2 (List.mem_singleton.mp z)
  · intro z
    rcases List.mem_cons.mp z with z | z
    · exact h3 z
    · have := List.mem_singleton.mp z; omega)
theorem gPs.congr {P : gPar} {f : gM} {ow : gO} {q : Nat} {ps : Nat → Option Nat} {ld ld' : Nat → Bool} {C C' : Nat → Nat} (h : gPs P f ow q ps ld C) (hl : ∀ t, t < 19 → ld' t = ld t) (hC : ∀ t j, t < 19 → ld t = true → j < 448 → C' (448 * t + j) = C (448 * t + j)) : gPs P f ow q ps ld' C' := fun s hs => by
  obtain ⟨h1, h2⟩ := h s hs
  refine ⟨by rw [hl s hs]; exact h1, fun x hx => ?_⟩
  obtain ⟨a1, hh, a2, a3⟩ := h2 x hx
  exact ⟨a1, hh, a2, fun j hj => by rw [hC s j hs (by rw [← h1, hx]; rfl) hj]; exact a3 j hj⟩
/-- stripe s keeps its first k bytes -/
def ctS (C : Nat → Nat) (s k p : Nat) : Nat := if 448 * s ≤ p ∧ p < 448 * s + 448 ∧ 448 * s + k ≤ p then 0 else C p
theorem ctS_ne {C : Nat → Nat} {s k t j : Nat} (h : t ≠ s) (hj : j < 448) : ctS C s k (448 * t + j) = C (448 * t + j) := by
  unfold ctS; rw [if_neg (by omega)]
theorem ctS_hi {C : Nat → Nat} {s k p : Nat} (h : 448 ≤ k) : ctS C s k p = C p := by
  unfold ctS; rw [if_neg (by omega)]
theorem ctS_fil {C : Nat → Nat} {hh : Nat → Int32} {s k j : Nat} (hj : j < 448) (h : ub (hh j) = C (448 * s + j)) : ub (g_fil hh k 448 (nI 0) j) = ctS C s k (448 * s + j) := by
  unfold g_fil ctS
  by_cases h1 : k ≤ j
  · rw [if_pos (by omega), if_pos (by omega)]; decide
  · rw [if_neg (by omega), if_neg (by omega)]; exact h
def ctlK (ld : Nat → Bool) (a k t : Nat) : Bool := if t < k then (ld t && decide (448 * t < a)) else ld t
def ctcK (C : Nat → Nat) (a k p : Nat) : Nat := if p < 448 * k ∧ a ≤ p then 0 else C p
def ctl (ld : Nat → Bool) (a t : Nat) : Bool := ld t && decide (448 * t < a)
def ctc (C : Nat → Nat) (a p : Nat) : Nat := if a ≤ p then 0 else C p
theorem ctlK_0 (ld : Nat → Bool) (a : Nat) : ctlK ld a 0 = ld := by funext t; unfold ctlK; rw [if_neg (by omega)]
theorem ctcK_0 (C : Nat → Nat) (a : Nat) : ctcK C a 0 = C := by funext t; unfold ctcK; rw [if_neg (by omega)]
theorem ctlK_e {ld : Nat → Bool} {a : Nat} (h : ∀ s, ld s = true → 448 * s < 8192) : ctlK ld a 19 = ctl ld a := by
  funext t; unfold ctlK ctl
  by_cases h1 : t < 19
  · rw [if_pos h1]
  · rw [if_neg h1]
    cases hl : ld t with
    | false => rfl
    | true => have := h t hl; omega
theorem ctcK_e {C : Nat → Nat} {a : Nat} (h : ∀ p, 8192 ≤ p → C p = 0) : ctcK C a 19 = ctc C a := by
  funext p; unfold ctcK ctc
  by_cases h1 : a ≤ p
  · rw [if_pos h1]
    by_cases h2 : p < 448 * 19
    · rw [if_pos ⟨h2, h1⟩]
    · rw [if_neg (by omega)]; exact h p (by omega)
  · rw [if_neg h1, if_neg (by omega)]
theorem ctlK_s (ld : Nat → Bool) (a k : Nat) : va_up (ctlK ld a k) k (ctlK ld a k k && decide (0 < a - 448 * k)) = ctlK ld a (k + 1) := by
  funext t; unfold va_up
  by_cases h : t = k
  · subst h
    rw [if_pos rfl]; unfold ctlK; rw [if_neg (by omega), if_pos (by omega)]
    rw [show decide (0 < a - 448 * t) = decide (448 * t < a) by simp; omega]
  · rw [if_neg h]; unfold ctlK
    by_cases h1 : t < k
    · rw [if_pos h1, if_pos (by omega)]
    · rw [if_neg h1, if_neg (by omega)]
theorem ctcK_s (C : Nat → Nat) (a k : Nat) : ctS (ctcK C a k) k (a - 448 * k) = ctcK C a (k + 1) := by
  funext p; unfold ctS ctcK
  by_cases h1 : 448 * k ≤ p ∧ p < 448 * k + 448 ∧ 448 * k + (a - 448 * k) ≤ p
  · rw [if_pos h1, if_pos (by omega)]
  · rw [if_neg h1]
    by_cases h2 : p < 448 * k ∧ a ≤ p
    · rw [if_pos h2, if_pos (by omega)]
    · rw [if_neg h2, if_neg (by omega)]
/-- the piece x of stripe s goes back to the pool -/
theorem drop_step {P : gPar} {f f1 f2 : gM} {ow : gO} {q pl e cap e1 cap1 s x len : Nat} {idv : Int32} {SP : List Nat} {ps : Nat → Option Nat} {ld : Nat → Bool} {C : Nat → Nat} (h34 : P.2.1 3 ≠ P.2.1 4) (hz : f P.2.2.2.1 = none)
    (hq : f q = some (.inr (4, [.ref pl, .ref (q + 1), .ref (q + 3), .int idv, .int (nI len)]))) (hq3 : f (q + 3) = some (.inl (P.2.1 3, 19, .inr (.inr (.inr (.inr ps)))))) (hps : gPs P f ow q ps ld C) (h : gSp P f ow pl e cap SP) (hs : s < 19) (hx : ps s = some x)
    (hf1 : f1 = va_up f (q + 3) (some (.inl (P.2.1 3, 19, .inr (.inr (.inr (.inr (va_up ps s none)))))))) (h2 : gSp P f2 (va_up ow x none) pl e1 cap1 (SP ++ [x])) (he : e1 = e ∨ gNew f1 e1) (hF : gFr f1 f2 [x + 1, pl + 1, e]) (hD : gDm f1 f2) :
    f2 q = some (.inr (4, [.ref pl, .ref (q + 1), .ref (q + 3), .int idv, .int (nI len)])) ∧ f2 (q + 3) = some (.inl (P.2.1 3, 19, .inr (.inr (.inr (.inr (va_up ps s none)))))) ∧ gPs P f2 (va_up ow x none) q (va_up ps s none) (va_up ld s false) (ctS C s 0) ∧ gRel q pl f ow e SP ps f2 (va_up ow x none) e1 (SP ++ [x]) (va_up ps s none) ∧ (SP ++ [x]).length + cntL (va_up ld s false) 19 = SP.length + cntL ld 19 := by
  have hli := h.2.1
  have hF1 : gFr f f1 [q + 3] := by rw [hf1]; exact gFr.upA (by simp) gFr.rf
  have hq31 : f1 (q + 3) = some (.inl (P.2.1 3, 19, .inr (.inr (.inr (.inr (va_up ps s none)))))) := by rw [hf1]; exact va_up_self _ _ _
  have hq1 := hF1 q _ hq (by simp)
  obtain ⟨hox, hh, hxp, -⟩ := (hps s hs).2 x hx
  have hxa := hps.apart hq3 hs hx
  have hld : ld s = true := by rw [← (hps s hs).1, hx]; rfl
  have hz1 : f1 P.2.2.2.1 = none := by
    rw [hf1, va_up_ne _ _ (fun z => by rw [z, hq3] at hz; cases hz)]; exact hz
  have hli1 := (h.fr hF1 (by simp; exact gh_ne h.1 hq3 (by intro h; cases h)) (by
      obtain ⟨⟨m, h9⟩, -⟩ := hli
      intro z; rw [List.mem_singleton.mp z, hq3] at h9; cases h9) (fun z => (hli.npa h34 hq3 hz) (by rw [← List.mem_singleton.mp z]; simp)) (fun y hy => h.apart hq3 hy)).2.1
  have hx1 := hxp.fr hF1 hxa.1 hxa.2
  have hout : ∀ c v, f1 c = some v → c ≠ x + 1 → c ∉ [pl + 1, e] → f2 c = some v := fun c v hc h1 h3 => hF c v hc (fun z => by
    rcases List.mem_cons.mp z with z | z
    · exact h1 z
    · exact h3 z)
  have gq2 := hout q _ hq1 (gh_ne hq1 hx1.2.1 (by intro h; cases h)) (hli1.npc (by decide) hq1 hz1)
  have gq32 := hout (q + 3) _ hq31 (fun z => by
    have h9 := hx1.2.1
    rw [← z, hq31] at h9
    injection h9 with h9; injection h9 with h9; injection h9 with _ h9; injection h9 with _ h9; cases h9) (hli1.npa h34 hq31 hz1)
  have gps1 : gPs P f1 ow q ps ld C := hps.fr hF1 (fun t y ht hy => hps.apart hq3 ht hy)
  refine ⟨gq2, gq32, ?_, ⟨?_, ⟨?_, ?_⟩, ?_, ?_⟩, ?_⟩
  · intro t ht
    by_cases e0 : t = s
    · subst e0
      rw [va_up_self, va_up_self]
      exact ⟨rfl, fun y hy => by cases hy⟩
    · rw [va_up_ne _ _ e0, va_up_ne _ _ e0]
      obtain ⟨a1, a2⟩ := gps1 t ht
      refine ⟨a1, fun y hy => ?_⟩
      obtain ⟨b1, h3, ⟨b2, b3, b4⟩, b5⟩ := a2 y hy
      have hyx : y ≠ x := fun z => e0 (gps1.one ht hs hy (z ▸ hx))
      refine ⟨by rw [va_up_ne _ _ hyx]; exact b1, h3, ⟨hout y _ b2 (gh_ne b2 hx1.2.1 (by intro h; cases h)) (hli1.npc (by decide) b2 hz1), hout (y + 1) _ b3 (by omega) (hli1.nba b3 hz1), b4⟩, fun j hj => by rw [ctS_ne e0 hj]; exact b5 j hj⟩
  · intro c v hc hX
    have hc1 := hF1 c v hc (fun z => hX (Or.inr (Or.inl (List.mem_singleton.mp z))))
    exact hF c v hc1 (fun z => hX (by
      rcases List.mem_cons.mp z with z | z
      · exact Or.inr (Or.inr (Or.inr (Or.inr ⟨x, Or.inr z, Or.inr ⟨s, hs, hx⟩⟩)))
      · rcases List.mem_cons.mp z with z | z
        · exact Or.inr (Or.inr (Or.inl z))
        · exact Or.inr (Or.inr (Or.inr (Or.inl (List.mem_singleton.mp z))))))
  · exact he.imp id (fun z => z.back (by rw [hf1]; exact gDm.rf.up))
  · intro y hy
    rcases hy with hy | ⟨t, ht, hy⟩
    · rcases List.mem_append.mp hy with hy | hy
      · exact Or.inl (Or.inl hy)
      · rw [List.mem_singleton.mp hy]; exact Or.inl (Or.inr ⟨s, hs, hx⟩)
    · by_cases e0 : t = s
      · subst e0; rw [va_up_self] at hy; cases hy
      · rw [va_up_ne _ _ e0] at hy; exact Or.inl (Or.inr ⟨t, ht, hy⟩)
  · intro y hy hX
    exact va_up_ne _ _ (fun z => hX (Or.inr (Or.inr (Or.inr (Or.inr ⟨x, Or.inl z, Or.inr ⟨s, hs, hx⟩⟩)))))
  · intro c hc
    have h9 := hD c hc
    rw [hf1] at h9
    by_cases hcq : c = q + 3
    · rw [hcq, va_up_self] at h9; cases h9
    · rw [va_up_ne _ _ hcq] at h9; exact h9
  · rw [List.length_append, List.length_singleton]
    have := cntL_dn ld 19 hs hld
    omega
