/-! the shelf's picture over the steps of its methods -/
theorem nm3 {a b c d : Nat} (h1 : a ≠ b) (h2 : a ≠ c) (h3 : a ≠ d) : a ∉ [b, c, d] := by
  intro z
  rcases List.mem_cons.mp z with z | z
  · exact h1 z
  · rcases List.mem_cons.mp z with z | z
    · exact h2 z
    · exact h3 (List.mem_singleton.mp z)
theorem nm2 {a b c : Nat} (h1 : a ≠ b) (h2 : a ≠ c) : a ∉ [b, c] := by
  intro z
  rcases List.mem_cons.mp z with z | z
  · exact h1 z
  · exact h2 (List.mem_singleton.mp z)
theorem gLi.frz {P : gPar} {f f1 : gM} {a e cap : Nat} {L l : List Nat} (h : gLi P f a e cap L) (hF : gFr f f1 l) (ha : a ∉ l) (he : e ∉ l ∨ e = P.2.2.2.1) (hz : f P.2.2.2.1 = none) : gLi P f1 a e cap L := by
  obtain ⟨⟨m, h1⟩, h2⟩ := h
  refine ⟨⟨m, hF a _ h1 ha⟩, ?_⟩
  rcases h2 with h2 | ⟨h0, h2⟩
  · exact Or.inl h2
  · rcases he with he | he
    · exact Or.inr ⟨h0, h2.fr hF he⟩
    · obtain ⟨g, h3, -⟩ := h2
      rw [he, hz] at h3; cases h3
theorem gFi.fr {P : gPar} {f f1 : gM} {ow : gO} {pl q : Nat} {v : AFile} {l : List Nat} (h : gFi P f ow pl q v) (hF : gFr f f1 l) (h0 : q ∉ l) (h1 : q + 1 ∉ l) (h2 : q + 2 ∉ l) (h3 : q + 3 ∉ l) (h4 : ∀ x hh, gPc P f x hh → x ∉ l ∧ x + 1 ∉ l) : gFi P f1 ow pl q v := by
  obtain ⟨n, g, ps, a0, a1, a2, a3, a4, a5, a6, a7⟩ := h
  refine ⟨n, g, ps, hF _ _ a0 h0, hF _ _ a1 h1, hF _ _ a2 h2, hF _ _ a3 h3, a4, a5, a6, a7.fr hF (fun s x hs hx => ?_)⟩
  obtain ⟨-, hh, b, -⟩ := (a7 s hs).2 x hx
  exact h4 x hh b
theorem gFi.li {P : gPar} {f f1 : gM} {ow : gO} {pl q a e cap : Nat} {L : List Nat} {v : AFile} (h : gFi P f ow pl q v) (hl : gLi P f a e cap L) (h34 : P.2.1 3 ≠ P.2.1 4) (hz : f P.2.2.2.1 = none) (hF : gFr f f1 [a, e]) : gFi P f1 ow pl q v := by
  obtain ⟨n, g, ps, a0, a1, a2, a3, a4⟩ := id h
  exact h.fr hF (hl.npc (by decide) a0 hz) (hl.npc (by decide) a1 hz) (hl.nba a2 hz) (hl.npa h34 a3 hz) (fun x hh hx => ⟨hl.npc (by decide) hx.1 hz, hl.nba hx.2.1 hz⟩)
/-- a title changes: no other file does -/
theorem gFi.tt {P : gPar} {f f1 : gM} {ow : gO} {pl q x n0 : Nat} {v : AFile} {fs : List Value} {g0 : Nat → Int32} (h : gFi P f ow pl q v) (hx0 : f x = some (.inr (4, fs))) (hx1 : f (x + 1) = some (.inr (1, [.ref (x + 2), .int (nI n0)]))) (hx2 : f (x + 2) = some (.inl (P.2.1 0, 200, .inl g0))) (hne : q ≠ x) (hF : gFr f f1 [x, x + 1, x + 2]) : gFi P f1 ow pl q v := by
  obtain ⟨n, g, ps, a0, a1, a2, a3, a4⟩ := id h
  have k03 : q + 3 ≠ x := gh_ne a3 hx0 (by intro h; cases h)
  have k13 : q + 3 ≠ x + 1 := gh_ne a3 hx1 (by intro h; cases h)
  have k23 : q + 3 ≠ x + 2 := fun z => by
    rw [z, hx2] at a3; injection a3 with a3; injection a3 with a3; injection a3 with _ a3; injection a3 with _ a3; cases a3
  have k01 : q + 1 ≠ x := gh_ne a1 hx0 (by intro h; simp at h)
  have k12 : q + 1 ≠ x + 2 := gh_ne a1 hx2 (by intro h; cases h)
  have k02 : q + 2 ≠ x := gh_ne a2 hx0 (by intro h; cases h)
  have k21 : q + 2 ≠ x + 1 := gh_ne a2 hx1 (by intro h; cases h)
  have l1 : q ≠ x + 1 := gh_ne a0 hx1 (by intro h; simp at h)
  have l2 : q ≠ x + 2 := gh_ne a0 hx2 (by intro h; cases h)
  refine h.fr hF (by simp; omega) (by simp; omega) (by simp; omega) (by simp; omega) (fun y hh hy => ?_)
  have m0 : y ≠ x := gh_ne hy.1 hx0 (by intro h; simp at h)
  have m1 : y ≠ x + 1 := gh_ne hy.1 hx1 (by intro h; simp at h)
  have m2 : y ≠ x + 2 := gh_ne hy.1 hx2 (by intro h; cases h)
  have m3 : y + 1 ≠ x := gh_ne hy.2.1 hx0 (by intro h; cases h)
  exact ⟨by simp; omega, by simp; omega⟩
/-- a file's method: another file stays -/
theorem gFi.keep {P : gPar} {f f1 : gM} {ow ow1 : gO} {pl q x e cap e' : Nat} {v w : AFile} {SP SP1 : List Nat} {ps ps1 : Nat → Option Nat} (h : gFi P f ow pl q v) (hne : q ≠ x) (hx0 : ∃ fs, f x = some (.inr (4, fs))) (hx3 : f (x + 3) = some (.inl (P.2.1 3, 19, .inr (.inr (.inr (.inr ps)))))) (hps : gPs P f ow x ps w.2.2.2.1 w.2.2.2.2) (hs : gSp P f ow pl e cap SP) (h34 : P.2.1 3 ≠ P.2.1 4) (hz : f P.2.2.2.1 = none) (hr : gRel x pl f ow e SP ps f1 ow1 e' SP1 ps1) : gFi P f1 ow1 pl q v := by
  obtain ⟨fs0, hx0⟩ := hx0
  obtain ⟨n, g, qs, a0, a1, a2, a3, a4, a5, a6, a7⟩ := h
  have hli := hs.2.1
  have hpc : ∀ y, (y ∈ SP ∨ ∃ s, s < 19 ∧ ps s = some y) → (∃ hh, gPc P f y hh) ∧ ∀ t, ow y ≠ some (q, t) := by
    intro y hy
    rcases hy with hy | ⟨s, hs1, hy⟩
    · obtain ⟨b1, hh, b2, -⟩ := hs.2.2.2.2 y hy; exact ⟨⟨hh, b2⟩, fun t z => by rw [b1] at z; cases z⟩
    · obtain ⟨b1, hh, b2, -⟩ := (hps s hs1).2 y hy
      exact ⟨⟨hh, b2⟩, fun t z => by rw [b1] at z; injection z with z; injection z with z; exact hne z.symm⟩
  have out : ∀ c w', f c = some w' → c ≠ x → c ≠ x + 3 → c ∉ [pl + 1, e] → (∀ y hh, gPc P f y hh → (∀ t, ow y ≠ some (q, t)) → c ≠ y ∧ c ≠ y + 1) → ¬ gXs x pl e SP ps c := by
    intro c w' hc h1 h2 h3 h4 z
    rcases z with z | z | z | z | ⟨y, z1, z2⟩
    · exact h1 z
    · exact h2 z
    · exact h3 (by rw [z]; simp)
    · exact h3 (by rw [z]; simp)
    · obtain ⟨⟨hh, b⟩, b2⟩ := hpc y z2
      have := h4 y hh b b2
      rcases z1 with z1 | z1
      · exact this.1 z1
      · exact this.2 z1
  have o0 := out q _ a0 hne (gh_ne a0 hx3 (by intro h; cases h)) (hli.npc (by decide) a0 hz) (fun y hh b _ => ⟨gh_ne a0 b.1 (by intro h; simp at h), gh_ne a0 b.2.1 (by intro h; cases h)⟩)
  have o1 := out (q + 1) _ a1 (gh_ne a1 hx0 (by intro h; simp at h)) (gh_ne a1 hx3 (by intro h; cases h)) (hli.npc (by decide) a1 hz) (fun y hh b _ => ⟨gh_ne a1 b.1 (by intro h; simp at h), gh_ne a1 b.2.1 (by intro h; cases h)⟩)
  have o2 := out (q + 2) _ a2 (gh_ne a2 hx0 (by intro h; cases h)) (fun z => by rw [z, hx3] at a2; injection a2 with a2; injection a2 with a2; injection a2 with _ a2; injection a2 with _ a2; cases a2) (hli.nba a2 hz) (fun y hh b _ => ⟨gh_ne a2 b.1 (by intro h; cases h), fun z => by have b1 := b.1; rw [show y = q + 1 by omega, a1] at b1; simp at b1⟩)
  have o3 := out (q + 3) _ a3 (gh_ne a3 hx0 (by intro h; cases h)) (by omega) (hli.npa h34 a3 hz) (fun y hh b _ => ⟨gh_ne a3 b.1 (by intro h; cases h), fun z => by have b1 := b.2.1; rw [← z, a3] at b1; injection b1 with b1; injection b1 with b1; injection b1 with _ b1; injection b1 with _ b1; cases b1⟩)
  refine ⟨n, g, qs, hr.1 _ _ a0 o0, hr.1 _ _ a1 o1, hr.1 _ _ a2 o2, hr.1 _ _ a3 o3, a4, a5, a6, fun s hs1 => ⟨(a7 s hs1).1, fun y hy => ?_⟩⟩
  obtain ⟨b1, hh, b2, b3⟩ := (a7 s hs1).2 y hy
  have p0 := out y _ b2.1 (gh_ne b2.1 hx0 (by intro h; simp at h)) (gh_ne b2.1 hx3 (by intro h; cases h)) (hli.npc (by decide) b2.1 hz) (fun y2 hh2 c c2 => ⟨fun z => c2 s (by rw [← z]; exact b1), gh_ne b2.1 c.2.1 (by intro h; cases h)⟩)
  have p1 := out (y + 1) _ b2.2.1 (gh_ne b2.2.1 hx0 (by intro h; cases h)) (fun z => by have c1 := b2.2.1; rw [z, hx3] at c1; injection c1 with c1; injection c1 with c1; injection c1 with _ c1; injection c1 with _ c1; cases c1) (hli.nba b2.2.1 hz) (fun y2 hh2 c c2 => ⟨gh_ne b2.2.1 c.1 (by intro h; cases h), fun z => c2 s (by rw [show y2 = y by omega]; exact b1)⟩)
  exact ⟨by rw [hr.2.2.1 y (by rw [b2.1]; simp) p0]; exact b1, hh, ⟨hr.1 _ _ b2.1 p0, hr.1 _ _ b2.2.1 p1, b2.2.2⟩, b3⟩
/-- the outer cells over a file's method -/
theorem gUo.rel {P : gPar} {f f1 : gM} {ow ow1 : gO} {U : Nat → Prop} {pl x e cap e' : Nat} {v : AFile} {SP SP1 : List Nat} {ps ps1 : Nat → Option Nat} (h : gUo f U) (hx : gFi P f ow pl x v) (hps : gPs P f ow x ps v.2.2.2.1 v.2.2.2.2) (hs : gSp P f ow pl e cap SP) (hz : f P.2.2.2.1 = none) (hr : gRel x pl f ow e SP ps f1 ow1 e' SP1 ps1) : gFU f f1 U := by
  intro c w hc hf
  refine hr.1 c w hf (fun z => ?_)
  have h1 := h.fi hx hc
  have h2 := h.li hs.2.1 hz hc
  rcases z with z | z | z | z | ⟨y, z1, z2⟩
  · exact h1.1 z
  · exact h1.2 z
  · exact h2 (by rw [z]; simp)
  · exact h2 (by rw [z]; simp)
  · have hp : ∃ hh, gPc P f y hh := by
      rcases z2 with z2 | ⟨s, hs1, z2⟩
      · obtain ⟨-, hh, b, -⟩ := hs.2.2.2.2 y z2; exact ⟨hh, b⟩
      · obtain ⟨-, hh, b, -⟩ := (hps s hs1).2 y z2; exact ⟨hh, b⟩
    obtain ⟨hh, b⟩ := hp
    have h3 := h.pc b hc
    rcases z1 with z1 | z1
    · exact h3.1 z1
    · exact h3.2 z1
theorem gUo.frl {P : gPar} {f f1 : gM} {U : Nat → Prop} {a e cap : Nat} {L : List Nat} (h : gUo f U) (hl : gLi P f a e cap L) (hz : f P.2.2.2.1 = none) (hF : gFr f f1 [a, e]) : gFU f f1 U := fun c v hc hf => hF c v hf (h.li hl hz hc)
/-- the array of a list over a frame that leaves it out -/
theorem gLi.ne {P : gPar} {f : gM} {a e cap a' e' cap' : Nat} {L L' : List Nat} (h : gLi P f a e cap L) (h' : gLi P f a' e' cap' L') (hz : f P.2.2.2.1 = none) : a ≠ e' := by
  obtain ⟨⟨m, h1⟩, -⟩ := h
  rcases h'.2 with ⟨e0, -, -⟩ | ⟨-, g, h2, -⟩
  · intro z; rw [z, e0, hz] at h1; cases h1
  · exact gh_ne h1 h2 (by intro h; cases h)
theorem gLi.nz {P : gPar} {f : gM} {a e cap x : Nat} {L : List Nat} (h : gLi P f a e cap L) (hx : f x = none) (he : e = x) : e = P.2.2.2.1 := by
  rcases h.2 with ⟨e0, -, -⟩ | ⟨-, g, h2, -⟩
  · exact e0
  · rw [he, hx] at h2; cases h2
/-- the pool over another list's step -/
theorem gSp.li {P : gPar} {f f1 : gM} {ow : gO} {pl e3 c3 a e cap : Nat} {SP L : List Nat} (h : gSp P f ow pl e3 c3 SP) (hl : gLi P f a e cap L) (ha : pl + 1 ≠ a) (he : e3 = e → e3 = P.2.2.2.1) (hz : f P.2.2.2.1 = none) (hF : gFr f f1 [a, e]) : gSp P f1 ow pl e3 c3 SP := by
  obtain ⟨b1, b2, b3, b4, b5⟩ := h
  refine ⟨hF _ _ b1 (hl.npc (by decide) b1 hz), b2.frz hF (by simp; exact ⟨ha, b2.ne hl hz⟩) ?_ hz, b3, b4, fun y hy => ?_⟩
  · by_cases hh : e3 = P.2.2.2.1
    · exact Or.inr hh
    · left
      simp
      exact ⟨fun z => hl.ne b2 hz z.symm, fun z => hh (he z)⟩
  · obtain ⟨d1, hh, d2, d3⟩ := b5 y hy
    exact ⟨d1, hh, d2.fr hF (hl.npc (by decide) d2.1 hz) (hl.nba d2.2.1 hz), d3⟩
/-- the list of the files changes -/
theorem gSh.setL {P : gPar} {f f1 : gM} {ow : gO} {sh : Nat} {L L' SF SP : List Nat} {e1 c1 e2 c2 e3 c3 e1' c1' : Nat} {af af' : Nat → AFile} (h : gSh P f ow sh L SF SP e1 c1 e2 c2 e3 c3 af) (h34 : P.2.1 3 ≠ P.2.1 4) (hz : f P.2.2.2.1 = none) (hF : gFr f f1 [sh + 1, e1]) (hl : gLi P f1 (sh + 1) e1' c1' L') (hc : c1' ≤ 200) (he : e1' = e1 ∨ gNew f e1')
    (hL : ∀ q ∈ L', gFi P f ow (sh + 3) q (af' q) ∧ wfF (af' q).2.2.1 (af' q).2.2.2.1 (af' q).2.2.2.2) (hnd : (L' ++ SF).Nodup) (hlen : L'.length + SF.length ≤ 48) : gSh P f1 ow sh L' SF SP e1' c1' e2 c2 e3 c3 af' := by
  obtain ⟨s0, s1, s2, s3, s4, s5, s6, s7, s8, s9⟩ := h
  refine ⟨hF _ _ s0 (s1.npc (by decide) s0 hz), hl, s2.frz hF (by simp; exact s2.ne s1 hz) ?_ hz, s3.li s1 (by omega) (fun z => by rw [z] at s9; rw [z]; exact s9.2.1 rfl) hz hF, ⟨hc, s4.2⟩, fun q hq => ⟨(hL q hq).1.li s1 h34 hz hF, (hL q hq).2⟩, fun q hq => ?_, hnd, hlen, ?_⟩
  · by_cases hh : e2 = P.2.2.2.1
    · exact Or.inr hh
    · left
      simp
      exact ⟨fun z => s1.ne s2 hz z.symm, fun z => hh (by rw [z]; exact s9.1 z.symm)⟩
  · obtain ⟨v, a1, a2⟩ := s6 q hq
    exact ⟨v, a1.li s1 h34 hz hF, a2⟩
  · refine ⟨fun z => ?_, fun z => ?_, s9.2.2⟩
    · rcases he with e | e
      · rw [e] at z ⊢; exact s9.1 z
      · rw [z]; exact s2.nz e.n z.symm
    · rcases he with e | e
      · rw [e] at z ⊢; exact s9.2.1 z
      · rw [z]; exact s3.2.1.nz e.n z.symm
/-- the list of the spare files changes -/
theorem gSh.setS {P : gPar} {f f1 : gM} {ow : gO} {sh : Nat} {L SF SF' SP : List Nat} {e1 c1 e2 c2 e3 c3 e2' c2' : Nat} {af : Nat → AFile} (h : gSh P f ow sh L SF SP e1 c1 e2 c2 e3 c3 af) (h34 : P.2.1 3 ≠ P.2.1 4) (hz : f P.2.2.2.1 = none) (hF : gFr f f1 [sh + 2, e2]) (hl : gLi P f1 (sh + 2) e2' c2' SF') (hc : c2' ≤ 200) (he : e2' = e2 ∨ gNew f e2')
    (hL : ∀ q ∈ SF', ∃ v, gFi P f ow (sh + 3) q v ∧ v.2.2.1 = 0 ∧ (∀ s, v.2.2.2.1 s = false) ∧ ∀ p, v.2.2.2.2 p = 0) (hnd : (L ++ SF').Nodup) (hlen : L.length + SF'.length ≤ 48) : gSh P f1 ow sh L SF' SP e1 c1 e2' c2' e3 c3 af := by
  obtain ⟨s0, s1, s2, s3, s4, s5, s6, s7, s8, s9⟩ := h
  refine ⟨hF _ _ s0 (s2.npc (by decide) s0 hz), s1.frz hF (by simp; exact s1.ne s2 hz) ?_ hz, hl, s3.li s2 (by omega) (fun z => by rw [z] at s9; rw [z]; exact s9.2.2 rfl) hz hF, ⟨s4.1, hc⟩, fun q hq => ⟨(s5 q hq).1.li s2 h34 hz hF, (s5 q hq).2⟩, fun q hq => ?_, hnd, hlen, ?_⟩
  · by_cases hh : e1 = P.2.2.2.1
    · exact Or.inr hh
    · left
      simp
      exact ⟨fun z => s2.ne s1 hz z.symm, fun z => hh (s9.1 z)⟩
  · obtain ⟨v, a1, a2⟩ := hL q hq
    exact ⟨v, a1.li s2 h34 hz hF, a2⟩
  · refine ⟨fun z => ?_, s9.2.1, fun z => ?_⟩
    · rcases he with e | e
      · rw [e] at z; exact s9.1 z
      · exact s1.nz e.n z
    · rcases he with e | e
      · rw [e] at z ⊢; exact s9.2.2 z
      · rw [z]; exact s3.2.1.nz e.n z.symm
/-- a file's method on x, which is in L or loose -/
theorem gSh.rel {P : gPar} {f f1 : gM} {ow ow1 : gO} {sh x : Nat} {L SF SP SP1 : List Nat} {e1 c1 e2 c2 e3 c3 e3' c3' : Nat} {af af' : Nat → AFile} {v : AFile} {ps ps1 : Nat → Option Nat} (h : gSh P f ow sh L SF SP e1 c1 e2 c2 e3 c3 af) (h34 : P.2.1 3 ≠ P.2.1 4) (hz : f P.2.2.2.1 = none) (hx0 : ∃ fs, f x = some (.inr (4, fs))) (hx3 : f (x + 3) = some (.inl (P.2.1 3, 19, .inr (.inr (.inr (.inr ps)))))) (hps : gPs P f ow x ps v.2.2.2.1 v.2.2.2.2)
    (hr : gRel x (sh + 3) f ow e3 SP ps f1 ow1 e3' SP1 ps1) (hsp : gSp P f1 ow1 (sh + 3) e3' c3' SP1) (haf : ∀ q ∈ L, q ≠ x → af' q = af q) (hxL : x ∈ L → gFi P f1 ow1 (sh + 3) x (af' x) ∧ wfF (af' x).2.2.1 (af' x).2.2.2.1 (af' x).2.2.2.2) (hxS : x ∉ SF) : gSh P f1 ow1 sh L SF SP1 e1 c1 e2 c2 e3' c3' af' := by
  obtain ⟨fs0, hx0⟩ := hx0
  obtain ⟨s0, s1, s2, s3, s4, s5, s6, s7, s8, s9⟩ := h
  have hpc : ∀ y, (y ∈ SP ∨ ∃ s, s < 19 ∧ ps s = some y) → ∃ hh, gPc P f y hh := by
    intro y hy
    rcases hy with hy | ⟨s, hs1, hy⟩
    · obtain ⟨b1, hh, b2, -⟩ := s3.2.2.2.2 y hy; exact ⟨hh, b2⟩
    · obtain ⟨b1, hh, b2, -⟩ := (hps s hs1).2 y hy; exact ⟨hh, b2⟩
  have out : ∀ c w', f c = some w' → c ≠ x → c ≠ x + 3 → c ∉ [sh + 3 + 1, e3] → (∀ y hh, gPc P f y hh → c ≠ y ∧ c ≠ y + 1) → f1 c = some w' := by
    intro c w' hc h1 h2 h3 h4
    refine hr.1 c w' hc (fun z => ?_)
    rcases z with z | z | z | z | ⟨y, z1, z2⟩
    · exact h1 z
    · exact h2 z
    · exact h3 (by rw [z]; simp)
    · exact h3 (by rw [z]; simp)
    · obtain ⟨hh, b⟩ := hpc y z2
      have := h4 y hh b
      rcases z1 with z1 | z1
      · exact this.1 z1
      · exact this.2 z1
  have keepLi : ∀ {a e cap : Nat} {M : List Nat}, gLi P f a e cap M → a ≠ sh + 3 + 1 → (e = e3 → e = P.2.2.2.1) → gLi P f1 a e cap M := by
    intro a e cap M hl ha he
    obtain ⟨⟨m, g1⟩, g2⟩ := id hl
    refine ⟨⟨m, out a _ g1 (gh_ne g1 hx0 (by intro h; simp at h)) (gh_ne g1 hx3 (by intro h; cases h)) (by simp; exact ⟨ha, hl.ne s3.2.1 hz⟩) (fun y hh b => ⟨gh_ne g1 b.1 (by intro h; simp at h), gh_ne g1 b.2.1 (by intro h; cases h)⟩)⟩, ?_⟩
    rcases g2 with g2 | ⟨g0, g, g2, g3⟩
    · exact Or.inl g2
    · refine Or.inr ⟨g0, g, out e _ g2 (gh_ne g2 hx0 (by intro h; cases h)) (fun z => ?_) ?_ (fun y hh b => ⟨gh_ne g2 b.1 (by intro h; cases h), fun z => ?_⟩), g3⟩
      · rw [z, hx3] at g2; injection g2 with g2; injection g2 with g2; injection g2 with g2; exact h34 g2
      · simp
        refine ⟨fun z => s3.2.1.ne hl hz z.symm, fun z => ?_⟩
        have := he z
        rw [this, hz] at g2; cases g2
      · have b1 := b.2.1
        rw [← z, g2] at b1; injection b1 with b1; injection b1 with b1; injection b1 with _ b1; injection b1 with _ b1; cases b1
  refine ⟨out sh _ s0 (gh_ne s0 hx0 (by intro h; simp at h)) (gh_ne s0 hx3 (by intro h; cases h)) (s3.2.1.npc (by decide) s0 hz) (fun y hh b => ⟨gh_ne s0 b.1 (by intro h; simp at h), gh_ne s0 b.2.1 (by intro h; cases h)⟩), keepLi s1 (by omega) s9.2.1, keepLi s2 (by omega) s9.2.2, hsp, s4, fun q hq => ?_, fun q hq => ?_, s7, s8, s9.1, ?_⟩
  · by_cases e : q = x
    · subst e; exact hxL hq
    · rw [haf q hq e]
      exact ⟨(s5 q hq).1.keep e ⟨fs0, hx0⟩ hx3 hps s3 h34 hz hr, (s5 q hq).2⟩
  · obtain ⟨w, a1, a2⟩ := s6 q hq
    exact ⟨w, a1.keep (fun z => hxS (by rw [← z]; exact hq)) ⟨fs0, hx0⟩ hx3 hps s3 h34 hz hr, a2⟩
  · rcases hr.2.1.1 with e | e
    · rw [e]; exact s9.2
    · exact ⟨fun z => s1.nz e.n z, fun z => s2.nz e.n z⟩
/-- a title changes: x in L or loose -/
theorem gSh.tt {P : gPar} {f f1 : gM} {ow : gO} {sh x n0 : Nat} {L SF SP : List Nat} {e1 c1 e2 c2 e3 c3 : Nat} {af af' : Nat → AFile} {fs : List Value} {g0 : Nat → Int32} (h : gSh P f ow sh L SF SP e1 c1 e2 c2 e3 c3 af) (hz : f P.2.2.2.1 = none) (hx0 : f x = some (.inr (4, fs))) (hx1 : f (x + 1) = some (.inr (1, [.ref (x + 2), .int (nI n0)]))) (hx2 : f (x + 2) = some (.inl (P.2.1 0, 200, .inl g0))) (hF : gFr f f1 [x, x + 1, x + 2])
    (haf : ∀ q ∈ L, q ≠ x → af' q = af q) (hxL : x ∈ L → gFi P f1 ow (sh + 3) x (af' x) ∧ wfF (af' x).2.2.1 (af' x).2.2.2.1 (af' x).2.2.2.2) (hxS : x ∉ SF) : gSh P f1 ow sh L SF SP e1 c1 e2 c2 e3 c3 af' := by
  obtain ⟨s0, s1, s2, s3, s4, s5, s6, s7, s8, s9⟩ := h
  have inl : ∀ {a e cap : Nat} {M : List Nat}, gLi P f a e cap M → a ∉ [x, x + 1, x + 2] ∧ (e ∉ [x, x + 1, x + 2] ∨ e = P.2.2.2.1) := by
    intro a e cap M hl
    have p0 := hl.npc (by decide) hx0 hz
    have p1 := hl.npc (by decide) hx1 hz
    have p2 := hl.nba hx2 hz
    simp at p0 p1 p2 ⊢
    refine ⟨⟨fun z => p0.1 z.symm, fun z => p1.1 z.symm, fun z => p2.1 z.symm⟩, Or.inl ⟨fun z => p0.2 z.symm, fun z => p1.2 z.symm, fun z => p2.2 z.symm⟩⟩
  refine ⟨hF _ _ s0 (nm3 (gh_ne s0 hx0 (by intro h; simp at h)) (gh_ne s0 hx1 (by intro h; simp at h)) (gh_ne s0 hx2 (by intro h; cases h))), s1.frz hF (inl s1).1 (inl s1).2 hz, s2.frz hF (inl s2).1 (inl s2).2 hz, ⟨hF _ _ s3.1 (nm3 (gh_ne s3.1 hx0 (by intro h; simp at h)) (gh_ne s3.1 hx1 (by intro h; simp at h)) (gh_ne s3.1 hx2 (by intro h; cases h))), s3.2.1.frz hF (inl s3.2.1).1 (inl s3.2.1).2 hz, s3.2.2.1, s3.2.2.2.1, fun y hy => ?_⟩, s4, fun q hq => ?_, fun q hq => ?_, s7, s8, s9⟩
  · obtain ⟨d1, hh, d2, d3⟩ := s3.2.2.2.2 y hy
    have m0 : y ≠ x := gh_ne d2.1 hx0 (by intro h; simp at h)
    have m1 : y ≠ x + 1 := gh_ne d2.1 hx1 (by intro h; simp at h)
    have m2 : y ≠ x + 2 := gh_ne d2.1 hx2 (by intro h; cases h)
    have m3 : y + 1 ≠ x := gh_ne d2.2.1 hx0 (by intro h; cases h)
    exact ⟨d1, hh, d2.fr hF (by simp; omega) (by simp; omega), d3⟩
  · by_cases e : q = x
    · subst e; exact hxL hq
    · rw [haf q hq e]
      exact ⟨(s5 q hq).1.tt hx0 hx1 hx2 e hF, (s5 q hq).2⟩
  · obtain ⟨w, a1, a2⟩ := s6 q hq
    exact ⟨w, a1.tt hx0 hx1 hx2 (fun z => hxS (by rw [← z]; exact hq)) hF, a2⟩
theorem gUo.tt {P : gPar} {f f1 : gM} {U : Nat → Prop} {x n0 : Nat} {fs : List Value} {g0 : Nat → Int32} (h : gUo f U) (hx0 : f x = some (.inr (4, fs))) (hx1 : f (x + 1) = some (.inr (1, [.ref (x + 2), .int (nI n0)]))) (hx2 : f (x + 2) = some (.inl (P.2.1 0, 200, .inl g0))) (hF : gFr f f1 [x, x + 1, x + 2]) : gFU f f1 U := fun c v hc hf => by
  have hn := h.nt hx0 hx1
  refine hF c v hf ?_
  obtain ⟨w, a1, a2, a3⟩ := h c hc
  have k0 : c ≠ x := fun z => by
    rw [z, hx0] at a1; injection a1 with a1
    rcases a2 with ⟨ci, fs, e, -, h4, -⟩ | ⟨k, n, g, e⟩
    · rw [← a1] at e; injection e with e; injection e with e; exact h4 e.symm
    · rw [← a1] at e; cases e
  have k1 : c ≠ x + 1 := fun z => hn (z ▸ hc)
  have k2 : c ≠ x + 2 := fun z => by
    have hv : ∃ y, w = .inl y := by rw [z, hx2] at a1; injection a1 with a1; exact ⟨_, a1.symm⟩
    obtain ⟨b, hb, hU⟩ := a3 (Or.inl hv)
    exact hn (by rw [show x + 1 = b by omega]; exact hU)
  simp; exact ⟨k0, k1, k2⟩
theorem gFi.fr0 {P : gPar} {f f1 : gM} {ow : gO} {pl q : Nat} {v : AFile} (h : gFi P f ow pl q v) (hF : gFr f f1 []) : gFi P f1 ow pl q v := h.fr hF (by simp) (by simp) (by simp) (by simp) (fun x hh _ => by simp)
theorem gSh.fr0 {P : gPar} {f f1 : gM} {ow : gO} {sh : Nat} {L SF SP : List Nat} {e1 c1 e2 c2 e3 c3 : Nat} {af : Nat → AFile} (h : gSh P f ow sh L SF SP e1 c1 e2 c2 e3 c3 af) (hF : gFr f f1 []) : gSh P f1 ow sh L SF SP e1 c1 e2 c2 e3 c3 af := by
  obtain ⟨s0, s1, s2, s3, s4, s5, s6, s7, s8, s9⟩ := h
  refine ⟨hF _ _ s0 (by simp), s1.fr hF (by simp) (by simp), s2.fr hF (by simp) (by simp), s3.fr hF (by simp) (by simp) (by simp) (fun x _ => by simp), s4, fun q hq => ⟨(s5 q hq).1.fr0 hF, (s5 q hq).2⟩, fun q hq => ?_, s7, s8, s9⟩
  obtain ⟨v, a1, a2⟩ := s6 q hq
  exact ⟨v, a1.fr0 hF, a2⟩
theorem gFU.fr0 {f f1 : gM} {U : Nat → Prop} (hF : gFr f f1 []) : gFU f f1 U := fun c v _ hf => hF c v hf (by simp)
theorem sum_mem {α : Type} (F : α → Nat) : ∀ {L : List α} {q : α}, q ∈ L → F q ≤ (L.map F).sum
  | a :: l, q, h => by
    rcases List.mem_cons.mp h with rfl | h
    · simp
    · have := sum_mem F h
      simp only [List.map_cons, List.sum_cons]; omega
theorem nodup_ins {L S : List Nat} {x i : Nat} (h : (L ++ S).Nodup) (hx : x ∉ L ++ S) (hi : i ≤ L.length) : (L.insertIdx i x ++ S).Nodup := by
  have hp : (L.insertIdx i x ++ S).Perm (x :: (L ++ S)) := (List.perm_insertIdx x L hi).append_right S
  exact hp.nodup_iff.mpr (List.nodup_cons.mpr ⟨hx, h⟩)
theorem mem_ins {L : List Nat} {x i q : Nat} (hi : i ≤ L.length) : q ∈ L.insertIdx i x ↔ q = x ∨ q ∈ L := by
  rw [(List.perm_insertIdx x L hi).mem_iff, List.mem_cons]
