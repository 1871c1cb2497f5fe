/-! the frame of the ghost heap: what was known of cells outside l is still so -/
def gFr (f f1 : gM) (l : List Nat) : Prop := ∀ q v, f q = some v → q ∉ l → f1 q = some v
theorem gFr.rf {f : gM} {l : List Nat} : gFr f f l := fun _ _ h _ => h
theorem gFr.upA {f f1 : gM} {l : List Nat} {a : Nat} {x : Option va_E} (ha : a ∈ l) (h : gFr f f1 l) : gFr f (va_up f1 a x) l := fun q v hq hl => by
  have hne : q ≠ a := fun e => hl (by rw [e]; exact ha)
  rw [va_up_ne _ _ hne]
  exact h q v hq hl
theorem gFr.upN {f f1 : gM} {l : List Nat} {a : Nat} {x : Option va_E} (hn : f1 a = none) (h : gFr f f1 l) : gFr f (va_up f1 a x) l := fun q v hq hl => by
  have h1 := h q v hq hl
  have hne : q ≠ a := fun e => by rw [e, hn] at h1; cases h1
  rw [va_up_ne _ _ hne]
  exact h1
theorem gFr.call {f f1 f2 : gM} {l l1 : List Nat} (h : gFr f f1 l) (h1 : gFr f1 f2 l1) (hs : ∀ q ∈ l1, q ∈ l ∨ f q = none) : gFr f f2 l := fun q v hq hl => h1 q v (h q v hq hl) (fun z => (hs q z).elim hl (fun e => by rw [hq] at e; cases e))
theorem gFr.mono {f f1 : gM} {l l1 : List Nat} (h : gFr f f1 l) (hs : ∀ q ∈ l, q ∈ l1) : gFr f f1 l1 := fun q v hq hl => h q v hq (fun z => hl (hs q z))
theorem gFr.at {f f1 : gM} {l : List Nat} (h : gFr f f1 l) {q : Nat} {v : va_E} (hq : f q = some v) (hl : q ∉ l) : f1 q = some v := h q v hq hl
theorem gFr.none {f f1 : gM} {l : List Nat} (h : gFr f f1 l) {q : Nat} (hq : f1 q = none) (hl : q ∉ l) : f q = none := by
  cases hf : f q with
  | none => rfl
  | some v => rw [h q v hf hl] at hq; cases hq
theorem gh_nn {f : gM} {a b : Nat} {v : va_E} (ha : f a = some v) (hb : f b = none) : a ≠ b := fun e => by rw [e, hb] at ha; cases ha
section GHS
variable {p : Program} {l : Launch} {e : Env} {R : Room} {s : State} {m : MethodId} {args : Array Value} {below : List Frame} {meth : Method} {c : Code} {H : Heap} {locs : List Loc} {cells slots : Nat} {Q : State → Prop}
variable {cc : ByteArray} {pc : Nat} {ls : Array Slot} {rest : List Value} {P : gPar} {a : Nat} {f : gM} {own ref C : String} {T : u_T} {N ci index nL : Nat}
theorem gh_getS (S : CallFix p m c cc nL s args gw own) (hI : gB P f s H locs) {fs : List Value} (he : f a = some (.inr (ci, fs))) (hc : gcl[ci]? = some (C, T, N)) (hin : ∀ w ∈ u_ws C T N, w ∈ gw) (k : Nat) (hk : k < N) (hsm : Cond.sameField ref (T k).1 (T k).2.1 (T k).2.2.1 ∈ gw) (hlink : Cond.fieldLink own index ref (T k).2.1 (T k).2.2.1 ∈ gw) {v : Value} (hv : fs[k]? = some v) (hdg : decode cc pc = .ok (.getfield index, 3))
    (kk : W p l e R s m args below meth c H locs cells slots Q (F0 m (pc + 3) ls (v :: rest))) : W p l e R s m args below meth c H locs cells slots Q (F0 m pc ls (.ref a :: rest)) := by
  obtain ⟨hX, hH, hS⟩ := hI
  have hK := hX.1
  obtain ⟨L, k0, hL, hP, hD, h0⟩ := gh_open hH he
  exact va_get S.1 S.2.1 S.2.2.2.2 hin S.2.2.2.1 hK hP k0 h0 hc k hk (S.2.2.2.2 _ hlink) (fun x h => u_same (S.2.2.2.2 _ hsm) x h) hv hdg kk
theorem gh_putS (S : CallFix p m c cc nL s args gw own) (hI : gB P f s H locs) {fs : List Value} (he : f a = some (.inr (ci, fs))) (hc : gcl[ci]? = some (C, T, N)) (hin : ∀ w ∈ u_ws C T N, w ∈ gw) (ty0 : Nat → FieldType) (hty : ∀ k, k < N → parseFieldDescriptor (T k).2.2.1 = some (ty0 k)) (hnm : ∀ a, a < N → ∀ b, b < N → a ≠ b → (T a).2.1 ≠ (T b).2.1) (k : Nat) (hk : k < N) (hsm : Cond.sameField ref (T k).1 (T k).2.1 (T k).2.2.1 ∈ gw) (hlink : Cond.fieldLink own index ref (T k).2.1 (T k).2.2.1 ∈ gw) (hfin : (T k).2.2.2 = false) {v : Value} (hn : narrow (ty0 k) v = v) (hfit : fits (ty0 k) v = true) (hl : k < fs.length) (hdg : decode cc pc = .ok (.putfield index, 3))
    (kk : ∀ (H1 : Heap) (locs1 : List Loc), gB P (va_up f a (some (.inr (ci, fs.set k v)))) s H1 locs1 → W p l e R s m args below meth c H1 locs1 cells slots Q (F0 m (pc + 3) ls rest)) : W p l e R s m args below meth c H locs cells slots Q (F0 m pc ls (v :: .ref a :: rest)) := by
  obtain ⟨hX, hH, hS⟩ := hI
  have hK := hX.1
  obtain ⟨L, k0, hL, hP, hD, h0⟩ := gh_open hH he
  exact va_put S.1 S.2.1 S.2.2.2.2 hin ty0 hty hnm S.2.2.2.1 hK hP hD hS k0 h0 hc k hk (S.2.2.2.2 _ hlink) (fun x h => u_same (S.2.2.2.2 _ hsm) x h) hfin (hty k hk) hn hfit hl hdg (fun H1 locs1 hP1 hD1 hS1 => kk H1 locs1 ⟨hX, gh_close hL hD he h0 hP1 hD1, hS1⟩)
/-- a cast to the object's own class -/
theorem gh_cast {q : vw_C} {fs : List Value} (S : CallFix p m c cc nL s args gw own) (hI : gB P f s H locs) (hc : gcl[ci]? = some q) (he : f a = some (.inr (ci, fs))) (hlink : Cond.classLink own index q.1 ∈ gw) (hdg : decode cc pc = .ok (.checkcast index, 3))
    (kk : W p l e R s m args below meth c H locs cells slots Q (F0 m (pc + 3) ls (.ref a :: rest))) : W p l e R s m args below meth c H locs cells slots Q (F0 m pc ls (.ref a :: rest)) :=
  va_castS S.1 S.2.1 S.2.2.2.1 (S.2.2.2.2 _ hlink) (hI.1.1.1 ci _ hc).2 (gh_recv hI hc he) hdg kk
end GHS
/-- the places lo to hi - 1 hold x -/
def g_fil {α : Type} (g : Nat → α) (lo hi : Nat) (x : α) : Nat → α := fun j => if lo ≤ j ∧ j < hi then x else g j
theorem g_fil_0 {α : Type} (g : Nat → α) (lo : Nat) (x : α) : g_fil g lo lo x = g := by
  funext j; unfold g_fil; rw [if_neg (by omega)]
theorem g_fil_s (g : Nat → Int32) {lo hi : Nat} (h : lo ≤ hi) (x : Int32) : upd (g_fil g lo hi x) hi x = g_fil g lo (hi + 1) x := by
  funext j; unfold upd g_fil
  by_cases h1 : j = hi
  · rw [if_pos h1, if_pos (by omega)]
  · rw [if_neg h1]
    by_cases h2 : lo ≤ j ∧ j < hi
    · rw [if_pos h2, if_pos (by omega)]
    · rw [if_neg h2, if_neg (by omega)]
theorem g_fil_fit {g : Nat → Int32} {lo hi : Nat} {x : Int32} (hg : sb_Fit g) (hx : fits .byte (.int x) = true) : sb_Fit (g_fil g lo hi x) := fun j => by
  unfold g_fil
  by_cases h : lo ≤ j ∧ j < hi
  · rw [if_pos h]; exact hx
  · rw [if_neg h]; exact hg j
/-- cells never go -/
def gDm (f f1 : gM) : Prop := ∀ c, f1 c = none → f c = none
theorem gDm.rf {f : gM} : gDm f f := fun _ h => h
theorem gDm.up {f f1 : gM} {a : Nat} {x : va_E} (h : gDm f f1) : gDm f (va_up f1 a (some x)) := fun c hc => by
  by_cases e : c = a
  · rw [e, va_up_self] at hc; cases hc
  · rw [va_up_ne _ _ e] at hc; exact h c hc
theorem gDm.trans {f f1 f2 : gM} (h : gDm f f1) (h2 : gDm f1 f2) : gDm f f2 := fun c hc => h c (h2 c hc)
theorem gDm.fr {f f1 : gM} {l : List Nat} (hF : gFr f f1 l) (hl : ∀ c ∈ l, f1 c ≠ none) : gDm f f1 := fun c hc => by
  cases hf : f c with
  | none => rfl
  | some v =>
    by_cases h : c ∈ l
    · exact absurd hc (hl c h)
    · rw [hF c v hf h] at hc; cases hc
/-- x lies behind all owned cells -/
def gNew (f : gM) (x : Nat) : Prop := ∀ c, x ≤ c → f c = none
theorem gNew.n {f : gM} {x : Nat} (h : gNew f x) : f x = none := h x (Nat.le_refl _)
theorem gNew.back {f f1 : gM} {x : Nat} (h : gNew f1 x) (hD : gDm f f1) : gNew f x := fun c hc => hD c (h c hc)
theorem gNew.lt {f : gM} {x c : Nat} {v : va_E} (h : gNew f x) (hc : f c = some v) : c < x := by
  rcases Nat.lt_or_ge c x with z | z
  · exact z
  · rw [h c z] at hc; cases hc
