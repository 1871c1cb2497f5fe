/-! THE GHOST HEAP: a partial function from addresses to what the owned cells hold; every row below speaks of it alone. -/
abbrev gM : Type := Nat → Option va_E
def gh_F (f : gM) (a : Nat) : va_E := (f a).getD (.inr (0, []))
def gh_H (D : va_G) (cl : List vw_C) (A : Nat → Prop) (f : gM) (H : Heap) : Prop :=
  ∃ L : List Nat, (∀ a, a ∈ L ↔ f a ≠ none) ∧ va_P D cl ([] ++ va_pl L (gh_F f)) H ∧ va_D A ([] ++ va_pl L (gh_F f))
theorem gh_F_of {f : gM} {a : Nat} {e : va_E} (h : f a = some e) : gh_F f a = e := by
  unfold gh_F; rw [h]; rfl
theorem gh_F_up (f : gM) (a : Nat) (e : va_E) : gh_F (va_up f a (some e)) = va_up (gh_F f) a e := by
  funext b
  unfold gh_F va_up
  by_cases h : b = a
  · simp [h]
  · simp [h]
theorem gh_open {D : va_G} {cl : List vw_C} {A : Nat → Prop} {f : gM} {H : Heap} (h : gh_H D cl A f H) {a : Nat} {e : va_E} (ha : f a = some e) :
    ∃ (L : List Nat) (k : Nat), (∀ b, b ∈ L ↔ f b ≠ none) ∧ va_P D cl ([] ++ va_pl L (gh_F f)) H ∧ va_D A ([] ++ va_pl L (gh_F f)) ∧ ([] ++ va_pl L (gh_F f))[k]? = some (a, e) := by
  obtain ⟨L, hL, hP, hD⟩ := h
  have hm : a ∈ L := (hL a).mpr (by rw [ha]; exact Option.some_ne_none e)
  obtain ⟨k, hk⟩ := va_pl_get (X := []) (f := gh_F f) hm
  rw [gh_F_of ha] at hk
  exact ⟨L, k, hL, hP, hD, hk⟩
theorem gh_idx {f : gM} {L : List Nat} (hL : ∀ b, b ∈ L ↔ f b ≠ none) {a : Nat} {e : va_E} (ha : f a = some e) : ∃ k : Nat, ([] ++ va_pl L (gh_F f))[k]? = some (a, e) := by
  have hm : a ∈ L := (hL a).mpr (by rw [ha]; exact Option.some_ne_none e)
  obtain ⟨k, hk⟩ := va_pl_get (X := []) (f := gh_F f) hm
  rw [gh_F_of ha] at hk
  exact ⟨k, hk⟩
theorem gh_close {D : va_G} {cl : List vw_C} {A : Nat → Prop} {f : gM} {L : List Nat} {k a : Nat} {e0 e1 : va_E} {H1 : Heap} (hL : ∀ b, b ∈ L ↔ f b ≠ none) (hD : va_D A ([] ++ va_pl L (gh_F f))) (ha : f a = some e0) (hk : ([] ++ va_pl L (gh_F f))[k]? = some (a, e0))
    (hP1 : va_P D cl (([] ++ va_pl L (gh_F f)).set k (a, e1)) H1) (hD1 : va_D A (([] ++ va_pl L (gh_F f)).set k (a, e1))) : gh_H D cl A (va_up f a (some e1)) H1 := by
  have hm : a ∈ L := (hL a).mpr (by rw [ha]; exact Option.some_ne_none e0)
  have e : ([] ++ va_pl L (gh_F f)).set k (a, e1) = [] ++ va_pl L (gh_F (va_up f a (some e1))) := by
    rw [va_pl_set hD hm (by rw [gh_F_of ha]; exact hk), gh_F_up]
  rw [e] at hP1 hD1
  refine ⟨L, fun b => ?_, hP1, hD1⟩
  by_cases hb : b = a
  · subst hb
    rw [va_up_self]
    exact ⟨fun _ => Option.some_ne_none e1, fun _ => hm⟩
  · rw [va_up_ne _ _ hb]
    exact hL b
theorem gh_push {D : va_G} {cl : List vw_C} {A : Nat → Prop} {f : gM} {L : List Nat} {q : Nat} {e : va_E} {H1 : Heap} (hL : ∀ b, b ∈ L ↔ f b ≠ none)
    (hP1 : va_P D cl (([] ++ va_pl L (gh_F f)) ++ [(q, e)]) H1) (hD1 : va_D A (([] ++ va_pl L (gh_F f)) ++ [(q, e)])) : gh_H D cl A (va_up f q (some e)) H1 ∧ f q = none := by
  have hq : q ∉ L := va_pl_fresh2 (X := []) hD1
  have e2 : ([] ++ va_pl L (gh_F f)) ++ [(q, e)] = [] ++ va_pl (L ++ [q]) (gh_F (va_up f q (some e))) := by
    rw [List.nil_append, List.nil_append, va_pl_push hq, gh_F_up]
  rw [e2] at hP1 hD1
  have hn : f q = none := Classical.byContradiction fun h => hq ((hL q).mpr h)
  refine ⟨⟨L ++ [q], fun b => ?_, hP1, hD1⟩, hn⟩
  by_cases hb : b = q
  · subst hb
    rw [va_up_self]
    exact ⟨fun _ => Option.some_ne_none e, fun _ => List.mem_append_right _ (List.mem_singleton.mpr rfl)⟩
  · rw [va_up_ne _ _ hb, ← hL b]
    exact ⟨fun h => (List.mem_append.mp h).elim id (fun z => absurd (List.mem_singleton.mp z) hb), fun h => List.mem_append_left _ h⟩
/-- two cells that hold different things lie apart -/
theorem gh_ne {f : gM} {a b : Nat} {x y : Option va_E} (ha : f a = x) (hb : f b = y) (h : x ≠ y) : a ≠ b := fun e => h (by rw [← ha, ← hb, e])
/-- the parameters of all contracts: class and slot numbers, array classes, the cells that may change, the empty list's array, the mirror -/
abbrev gPar : Type := va_G × (Nat → ClassId) × (Nat → Prop) × Nat × Nat
abbrev gD (P : gPar) : va_G := P.1
abbrev gA (P : gPar) : Nat → Prop := P.2.2.1
abbrev gty (P : gPar) : List (ClassId × FieldType) := [(P.2.1 0, .byte), (P.2.1 1, .int), (P.2.1 2, .boolean), (P.2.1 3, .object "StripeFiles$Piece"), (P.2.1 4, .object "java/lang/Object")]
def gnF : List Cond := [.fieldLinkNest R_Pool 33 R_Piece "bytes" "[B" R_SF, .fieldLinkNest R_File 41 R_Piece "bytes" "[B" R_SF]
/-- what all states keep: tables, the static empty array, the words of nest mates and casts -/
def gX (P : gPar) (U : State) : Prop :=
  va_K (gD P) gcl (gty P) U ∧ (∀ q, U.heap.size ≤ q → gA P q) ∧
  (va_Nw (.fieldLinkNest R_Pool 33 R_Piece "bytes" "[B" R_SF) U ∧ va_Nw (.fieldLinkNest R_File 41 R_Piece "bytes" "[B" R_SF) U ∧ va_Nw (.castable R_File R_File) U ∧ va_Nw (.castable R_Piece R_Piece) U ∧ va_Nw (.castable R_File R_Obj) U ∧ va_Nw (.castable R_Piece R_Obj) U) ∧
  va_AO "StripeFiles$Piece" U ∧ va_AO "java/lang/Object" U ∧ va_Dc U ∧ va_Mi "[Ljava/lang/Object;" P.2.2.2.2 U ∧
  va_Z "java/util/ArrayList" "DEFAULTCAPACITY_EMPTY_ELEMENTDATA" "[Ljava/lang/Object;" (.ref P.2.2.2.1) (gA P) U U.heap ∧ va_T (.object "java/lang/Object") P.2.2.2.1 0 (fun _ => .null) (gA P) U U.heap ∧ va_O "[Ljava/lang/Object;" P.2.2.2.1 (gA P) U U.heap
theorem gX.to {P : gPar} {s U : State} {H : Heap} {locs : List Loc} (h : gX P s) (hS : va_S (gA P) s.heap H locs) (hU : U.heap = H) (hW : s.WarmedH U.vm) : gX P U := by
  obtain ⟨hK, hA, ⟨n1, n2, n3, n4, n5, n6⟩, a1, a2, hc, hm, hz, ht, ho⟩ := h
  subst hU
  exact ⟨va_K.moved hW.alike hK, fun q hq => hA q (Nat.le_trans hS.1 hq), ⟨va_Nw.warmF hW n1, va_Nw.warmF hW n2, va_Nw.warmC hW n3, va_Nw.warmC hW n4, va_Nw.warmC hW n5, va_Nw.warmC hW n6⟩, va_AO.moved hW.alike a1, va_AO.moved hW.alike a2, va_Dc.moved hW.alike hc, va_Mi.moved hW.alike hm,
    va_Z.moved hW.alike (va_Z.kept hz hS.2.1), va_T.moved hW.alike (va_T.kept ht hS.2.1), va_O.moved hW.alike (va_O.kept ho hS.2.1)⟩
theorem gX.call {P : gPar} {U : State} {g : JFrame} {mk : MethodId} {a : Array Value} (h : gX P U) : gX P (U.calling g mk a) := by
  obtain ⟨hK, hA, ⟨n1, n2, n3, n4, n5, n6⟩, a1, a2, hc, hm, hz, ht, ho⟩ := h
  exact ⟨va_K.moved (u := U) (U := U.calling g mk a) (Vm.Alike.refl U.vm) hK, hA, ⟨va_Nw.same rfl rfl n1, va_Nw.same rfl rfl n2, va_Nw.same rfl rfl n3, va_Nw.same rfl rfl n4, va_Nw.same rfl rfl n5, va_Nw.same rfl rfl n6⟩, va_AO.moved (u := U) (Vm.Alike.refl U.vm) a1, va_AO.moved (u := U) (Vm.Alike.refl U.vm) a2, va_Dc.moved (u := U) (Vm.Alike.refl U.vm) hc, va_Mi.moved (u := U) (Vm.Alike.refl U.vm) hm,
    va_Z.moved (u := U) (Vm.Alike.refl U.vm) hz, va_T.moved (u := U) (Vm.Alike.refl U.vm) ht, va_O.moved (u := U) (Vm.Alike.refl U.vm) ho⟩
/-- a state that holds the owned cells f -/
def gS (P : gPar) (f : gM) (U : State) : Prop := gX P U ∧ gh_H (gD P) gcl (gA P) f U.heap
/-- a point of a method's body -/
def gB (P : gPar) (f : gM) (s : State) (H : Heap) (locs : List Loc) : Prop := gX P s ∧ gh_H (gD P) gcl (gA P) f H ∧ va_S (gA P) s.heap H locs
section GHR
variable {p : Program} {l : Launch} {e : Env} {R : Room} {s : State} {m : MethodId} {args : Array Value} {below : List Frame} {meth : Method} {c : Code} {H : Heap} {locs : List Loc} {cells slots : Nat} {Q : State → Prop}
variable {cc : ByteArray} {pc : Nat} {ls : Array Slot} {rest : List Value} {P : gPar} {a : Nat} {f : gM} {own ref C : String} {T : u_T} {N ci index nL : Nat}
theorem gh_get (S : CallFix p m c cc nL s args gw own) (hI : gB P f s H locs) {fs : List Value} (he : f a = some (.inr (ci, fs))) (hc : gcl[ci]? = some (C, T, N)) (hin : ∀ w ∈ u_ws C T N, w ∈ gw) (k : Nat) (hk : k < N) (hlink : Cond.fieldLink own index (T k).1 (T k).2.1 (T k).2.2.1 ∈ gw) {v : Value} (hv : fs[k]? = some v) (hdg : decode cc pc = .ok (.getfield index, 3))
    (kk : W p l e R s m args below meth c H locs cells slots Q (F0 m (pc + 3) ls (v :: rest))) : W p l e R s m args below meth c H locs cells slots Q (F0 m pc ls (.ref a :: rest)) := by
  obtain ⟨hX, hH, hS⟩ := hI
  have hK := hX.1
  obtain ⟨L, k0, hL, hP, hD, h0⟩ := gh_open hH he
  exact va_get S.1 S.2.1 S.2.2.2.2 hin S.2.2.2.1 hK hP k0 h0 hc k hk (S.2.2.2.2 _ hlink) (fun _ h => h) hv hdg kk
theorem gh_getN {host : String} (S : CallFix p m c cc nL s args gw own) (hI : gB P f s H locs) {fs : List Value} (he : f a = some (.inr (ci, fs))) (hc : gcl[ci]? = some (C, T, N)) (hin : ∀ w ∈ u_ws C T N, w ∈ gw) (k : Nat) (hk : k < N) (hlink : va_Nw (.fieldLinkNest own index (T k).1 (T k).2.1 (T k).2.2.1 host) s) {v : Value} (hv : fs[k]? = some v) (hdg : decode cc pc = .ok (.getfield index, 3))
    (kk : W p l e R s m args below meth c H locs cells slots Q (F0 m (pc + 3) ls (v :: rest))) : W p l e R s m args below meth c H locs cells slots Q (F0 m pc ls (.ref a :: rest)) := by
  obtain ⟨hX, hH, hS⟩ := hI
  have hK := hX.1
  obtain ⟨L, k0, hL, hP, hD, h0⟩ := gh_open hH he
  exact va_getN S.1 S.2.1 S.2.2.2.2 hin S.2.2.2.1 hK hP k0 h0 hc k hk (va_Nw.use rfl hlink) (fun _ h => h) hv hdg kk
theorem gh_put (S : CallFix p m c cc nL s args gw own) (hI : gB P f s H locs) {fs : List Value} (he : f a = some (.inr (ci, fs))) (hc : gcl[ci]? = some (C, T, N)) (hin : ∀ w ∈ u_ws C T N, w ∈ gw) (ty0 : Nat → FieldType) (hty : ∀ k, k < N → parseFieldDescriptor (T k).2.2.1 = some (ty0 k)) (hnm : ∀ a, a < N → ∀ b, b < N → a ≠ b → (T a).2.1 ≠ (T b).2.1) (k : Nat) (hk : k < N) (hlink : Cond.fieldLink own index (T k).1 (T k).2.1 (T k).2.2.1 ∈ gw) (hfin : (T k).2.2.2 = false) {v : Value} (hn : narrow (ty0 k) v = v) (hfit : fits (ty0 k) v = true) (hl : k < fs.length) (hdg : decode cc pc = .ok (.putfield index, 3))
    (kk : ∀ (H1 : Heap) (locs1 : List Loc), gB P (va_up f a (some (.inr (ci, fs.set k v)))) s H1 locs1 → W p l e R s m args below meth c H1 locs1 cells slots Q (F0 m (pc + 3) ls rest)) : W p l e R s m args below meth c H locs cells slots Q (F0 m pc ls (v :: .ref a :: rest)) := by
  obtain ⟨hX, hH, hS⟩ := hI
  have hK := hX.1
  obtain ⟨L, k0, hL, hP, hD, h0⟩ := gh_open hH he
  exact va_put S.1 S.2.1 S.2.2.2.2 hin ty0 hty hnm S.2.2.2.1 hK hP hD hS k0 h0 hc k hk (S.2.2.2.2 _ hlink) (fun _ h => h) hfin (hty k hk) hn hfit hl hdg (fun H1 locs1 hP1 hD1 hS1 => kk H1 locs1 ⟨hX, gh_close hL hD he h0 hP1 hD1, hS1⟩)
theorem gh_putF (S : CallFix p m c cc nL s args gw own) (hI : gB P f s H locs) {fs : List Value} (he : f a = some (.inr (ci, fs))) (hc : gcl[ci]? = some (C, T, N)) (hin : ∀ w ∈ u_ws C T N, w ∈ gw) (ty0 : Nat → FieldType) (hty : ∀ k, k < N → parseFieldDescriptor (T k).2.2.1 = some (ty0 k)) (hnm : ∀ a, a < N → ∀ b, b < N → a ≠ b → (T a).2.1 ≠ (T b).2.1) (k : Nat) (hk : k < N) (hlink : Cond.fieldLink own index (T k).1 (T k).2.1 (T k).2.2.1 ∈ gw) (hfin : (T k).2.2.2 = true) (hin2 : meth.name = "<init>") (hdecl : (T k).1 = own) {v : Value} (hn : narrow (ty0 k) v = v) (hfit : fits (ty0 k) v = true) (hl : k < fs.length) (hdg : decode cc pc = .ok (.putfield index, 3))
    (kk : ∀ (H1 : Heap) (locs1 : List Loc), gB P (va_up f a (some (.inr (ci, fs.set k v)))) s H1 locs1 → W p l e R s m args below meth c H1 locs1 cells slots Q (F0 m (pc + 3) ls rest)) : W p l e R s m args below meth c H locs cells slots Q (F0 m pc ls (v :: .ref a :: rest)) := by
  obtain ⟨hX, hH, hS⟩ := hI
  have hK := hX.1
  obtain ⟨L, k0, hL, hP, hD, h0⟩ := gh_open hH he
  exact va_putF S.1 S.2.1 S.2.2.2.2 hin ty0 hty hnm S.2.2.2.1 hK hP hD hS k0 h0 hc k hk (S.2.2.2.2 _ hlink) (fun _ h => h) hfin hin2 hdecl (hty k hk) hn hfit hl hdg (fun H1 locs1 hP1 hD1 hS1 => kk H1 locs1 ⟨hX, gh_close hL hD he h0 hP1 hD1, hS1⟩)
/-- array reads: bytes, ints, references; the index is a natural number -/
theorem gh_bald (S : CallFix p m c cc nL s args gw own) (hI : gB P f s H locs) (t0 : Nat) {cA : ClassId} {n : Nat} {g : Nat → Int32} (he : f a = some (.inl (cA, n, .inl g))) (ht : (gty P)[t0]? = some (cA, .byte)) {i : Int32} {j : Nat} (hi : i = nI j) (hj : j < n) (hn : n < 2 ^ 31) (hdg : decode cc pc = .ok (.baload, 1))
    (kk : W p l e R s m args below meth c H locs cells slots Q (F0 m (pc + 1) ls (.int (g j) :: rest))) : W p l e R s m args below meth c H locs cells slots Q (F0 m pc ls (.int i :: .ref a :: rest)) := by
  subst hi
  obtain ⟨hX, hH, hS⟩ := hI
  have hK := hX.1
  obtain ⟨L, k0, hL, hP, hD, h0⟩ := gh_open hH he
  exact va_bald S.1 S.2.1 hK hP k0 t0 h0 ht (vp_in_nI hj hn) hdg (by rw [nI_clamp (by omega)]; exact kk)
theorem gh_iald (S : CallFix p m c cc nL s args gw own) (hI : gB P f s H locs) (t0 : Nat) {cA : ClassId} {n : Nat} {g : Nat → Int32} (he : f a = some (.inl (cA, n, .inl g))) (ht : (gty P)[t0]? = some (cA, .int)) {i : Int32} {j : Nat} (hi : i = nI j) (hj : j < n) (hn : n < 2 ^ 31) (hdg : decode cc pc = .ok (.iaload, 1))
    (kk : W p l e R s m args below meth c H locs cells slots Q (F0 m (pc + 1) ls (.int (g j) :: rest))) : W p l e R s m args below meth c H locs cells slots Q (F0 m pc ls (.int i :: .ref a :: rest)) := by
  subst hi
  obtain ⟨hX, hH, hS⟩ := hI
  have hK := hX.1
  obtain ⟨L, k0, hL, hP, hD, h0⟩ := gh_open hH he
  exact va_iald S.1 S.2.1 hK hP k0 t0 h0 ht (vp_in_nI hj hn) hdg (by rw [nI_clamp (by omega)]; exact kk)
theorem gh_aald (S : CallFix p m c cc nL s args gw own) (hI : gB P f s H locs) (t0 : Nat) {cA : ClassId} {E : String} {n : Nat} {g : Nat → Option Nat} (he : f a = some (.inl (cA, n, .inr (.inr (.inr (.inr g)))))) (ht : (gty P)[t0]? = some (cA, .object E)) {i : Int32} {j : Nat} (hi : i = nI j) (hj : j < n) (hn : n < 2 ^ 31) (hdg : decode cc pc = .ok (.aaload, 1))
    (kk : W p l e R s m args below meth c H locs cells slots Q (F0 m (pc + 1) ls (va_rf (g j) :: rest))) : W p l e R s m args below meth c H locs cells slots Q (F0 m pc ls (.int i :: .ref a :: rest)) := by
  subst hi
  obtain ⟨hX, hH, hS⟩ := hI
  have hK := hX.1
  obtain ⟨L, k0, hL, hP, hD, h0⟩ := gh_open hH he
  exact va_aldq S.1 S.2.1 hK hP k0 t0 h0 ht (vp_in_nI hj hn) hdg (by rw [nI_clamp (by omega)]; exact kk)
theorem gh_alen (S : CallFix p m c cc nL s args gw own) (hI : gB P f s H locs) (t0 : Nat) {cA : ClassId} {x : vp_A} (he : f a = some (.inl (cA, x))) {ty : FieldType} (ht : (gty P)[t0]? = some (cA, ty)) (hdg : decode cc pc = .ok (.arraylength, 1))
    (kk : W p l e R s m args below meth c H locs cells slots Q (F0 m (pc + 1) ls (.int (nI x.1) :: rest))) : W p l e R s m args below meth c H locs cells slots Q (F0 m pc ls (.ref a :: rest)) := by
  obtain ⟨hX, hH, hS⟩ := hI
  have hK := hX.1
  obtain ⟨L, k0, hL, hP, hD, h0⟩ := gh_open hH he
  exact va_alen S.1 S.2.1 hK hP k0 t0 h0 ht rfl hdg kk
theorem gh_bast (S : CallFix p m c cc nL s args gw own) (hI : gB P f s H locs) (t0 : Nat) {cA : ClassId} {n : Nat} {g : Nat → Int32} (he : f a = some (.inl (cA, n, .inl g))) (ht : (gty P)[t0]? = some (cA, .byte)) {i x : Int32} {j : Nat} (hi : i = nI j) (hj : j < n) (hn : n < 2 ^ 31) (hdg : decode cc pc = .ok (.bastore, 1))
    (kk : ∀ (H1 : Heap) (locs1 : List Loc), gB P (va_up f a (some (.inl (cA, n, .inl (upd g j (x.toInt8.toInt32)))))) s H1 locs1 → W p l e R s m args below meth c H1 locs1 cells slots Q (F0 m (pc + 1) ls rest)) : W p l e R s m args below meth c H locs cells slots Q (F0 m pc ls (.int x :: .int i :: .ref a :: rest)) := by
  subst hi
  obtain ⟨hX, hH, hS⟩ := hI
  have hK := hX.1
  obtain ⟨L, k0, hL, hP, hD, h0⟩ := gh_open hH he
  exact va_bast S.1 S.2.1 hK hP hD hS k0 t0 h0 ht (vp_in_nI hj hn) hdg (fun H1 locs1 hP1 hD1 hS1 => kk H1 locs1 ⟨hX, by
    rw [nI_clamp (by omega)] at hP1 hD1
    exact gh_close hL hD he h0 hP1 hD1, hS1⟩)
theorem gh_iast (S : CallFix p m c cc nL s args gw own) (hI : gB P f s H locs) (t0 : Nat) {cA : ClassId} {n : Nat} {g : Nat → Int32} (he : f a = some (.inl (cA, n, .inl g))) (ht : (gty P)[t0]? = some (cA, .int)) {i x : Int32} {j : Nat} (hi : i = nI j) (hj : j < n) (hn : n < 2 ^ 31) (hdg : decode cc pc = .ok (.iastore, 1))
    (kk : ∀ (H1 : Heap) (locs1 : List Loc), gB P (va_up f a (some (.inl (cA, n, .inl (upd g j x))))) s H1 locs1 → W p l e R s m args below meth c H1 locs1 cells slots Q (F0 m (pc + 1) ls rest)) : W p l e R s m args below meth c H locs cells slots Q (F0 m pc ls (.int x :: .int i :: .ref a :: rest)) := by
  subst hi
  obtain ⟨hX, hH, hS⟩ := hI
  have hK := hX.1
  obtain ⟨L, k0, hL, hP, hD, h0⟩ := gh_open hH he
  exact va_iast S.1 S.2.1 hK hP hD hS k0 t0 h0 ht (vp_in_nI hj hn) hdg (fun H1 locs1 hP1 hD1 hS1 => kk H1 locs1 ⟨hX, by
    rw [nI_clamp (by omega)] at hP1 hD1
    exact gh_close hL hD he h0 hP1 hD1, hS1⟩)
theorem gh_zald (S : CallFix p m c cc nL s args gw own) (hI : gB P f s H locs) (t0 : Nat) {cA : ClassId} {n : Nat} {g : Nat → Int32} (he : f a = some (.inl (cA, n, .inl g))) (ht : (gty P)[t0]? = some (cA, .boolean)) {i : Int32} {j : Nat} (hi : i = nI j) (hj : j < n) (hn : n < 2 ^ 31) (hdg : decode cc pc = .ok (.baload, 1))
    (kk : W p l e R s m args below meth c H locs cells slots Q (F0 m (pc + 1) ls (.int (g j) :: rest))) : W p l e R s m args below meth c H locs cells slots Q (F0 m pc ls (.int i :: .ref a :: rest)) := by
  subst hi
  obtain ⟨hX, hH, hS⟩ := hI
  have hK := hX.1
  obtain ⟨L, k0, hL, hP, hD, h0⟩ := gh_open hH he
  exact va_zald S.1 S.2.1 hK hP k0 t0 h0 ht (vp_in_nI hj hn) hdg (by rw [nI_clamp (by omega)]; exact kk)
theorem gh_zast (S : CallFix p m c cc nL s args gw own) (hI : gB P f s H locs) (t0 : Nat) {cA : ClassId} {n : Nat} {g : Nat → Int32} (he : f a = some (.inl (cA, n, .inl g))) (ht : (gty P)[t0]? = some (cA, .boolean)) {i x : Int32} {j : Nat} (hx : x = 0 ∨ x = 1) (hi : i = nI j) (hj : j < n) (hn : n < 2 ^ 31) (hdg : decode cc pc = .ok (.bastore, 1))
    (kk : ∀ (H1 : Heap) (locs1 : List Loc), gB P (va_up f a (some (.inl (cA, n, .inl (upd g j (x)))))) s H1 locs1 → W p l e R s m args below meth c H1 locs1 cells slots Q (F0 m (pc + 1) ls rest)) : W p l e R s m args below meth c H locs cells slots Q (F0 m pc ls (.int x :: .int i :: .ref a :: rest)) := by
  subst hi
  obtain ⟨hX, hH, hS⟩ := hI
  have hK := hX.1
  obtain ⟨L, k0, hL, hP, hD, h0⟩ := gh_open hH he
  exact va_zast S.1 S.2.1 hK hP hD hS k0 t0 h0 ht (vp_in_nI hj hn) hdg (fun H1 locs1 hP1 hD1 hS1 => kk H1 locs1 ⟨hX, by
    rw [nI_clamp (by omega), show vp_nar .boolean x = x by rcases hx with rfl | rfl <;> rfl] at hP1 hD1
    exact gh_close hL hD he h0 hP1 hD1, hS1⟩)
/-- a reference comes into an array of its class -/
theorem gh_aast (S : CallFix p m c cc nL s args gw own) (hI : gB P f s H locs) (t0 : Nat) {cA : ClassId} {r : vw_C} {n v : Nat} {vs : List Value} {g : Nat → Option Nat} (he : f a = some (.inl (cA, n, .inr (.inr (.inr (.inr g)))))) (ht : (gty P)[t0]? = some (cA, .object r.1)) (hv : f v = some (.inr (ci, vs))) (hc : gcl[ci]? = some r) {i : Int32} {j : Nat} (hi : i = nI j) (hj : j < n) (hn : n < 2 ^ 31) (hdg : decode cc pc = .ok (.aastore, 1))
    (kk : ∀ (H1 : Heap) (locs1 : List Loc), gB P (va_up f a (some (.inl (cA, n, .inr (.inr (.inr (.inr (va_up g j (some v))))))))) s H1 locs1 → W p l e R s m args below meth c H1 locs1 cells slots Q (F0 m (pc + 1) ls rest)) : W p l e R s m args below meth c H locs cells slots Q (F0 m pc ls (.ref v :: .int i :: .ref a :: rest)) := by
  subst hi
  obtain ⟨hX, hH, hS⟩ := hI
  have hK := hX.1
  obtain ⟨L, k0, hL, hP, hD, h0⟩ := gh_open hH he
  obtain ⟨k1, h1⟩ := gh_idx hL hv
  exact va_astq S.1 S.2.1 hK hP hD hS k0 t0 k1 ci h0 ht h1 hc (vp_in_nI hj hn) hdg (fun H1 locs1 hP1 hD1 hS1 => kk H1 locs1 ⟨hX, by
    rw [nI_clamp (by omega)] at hP1 hD1
    exact gh_close hL hD he h0 hP1 hD1, hS1⟩)
/-- a reference comes into an array of a wider class -/
theorem gh_aastO (S : CallFix p m c cc nL s args gw own) (hI : gB P f s H locs) (t0 : Nat) {E : String} {cA : ClassId} {r : vw_C} {n v : Nat} {vs : List Value} {g : Nat → Option Nat} (he : f a = some (.inl (cA, n, .inr (.inr (.inr (.inr g)))))) (ht : (gty P)[t0]? = some (cA, .object E)) (hca : va_Nw (.castable r.1 E) s) (hv : f v = some (.inr (ci, vs))) (hc : gcl[ci]? = some r) {i : Int32} {j : Nat} (hi : i = nI j) (hj : j < n) (hn : n < 2 ^ 31) (hdg : decode cc pc = .ok (.aastore, 1))
    (kk : ∀ (H1 : Heap) (locs1 : List Loc), gB P (va_up f a (some (.inl (cA, n, .inr (.inr (.inr (.inr (va_up g j (some v))))))))) s H1 locs1 → W p l e R s m args below meth c H1 locs1 cells slots Q (F0 m (pc + 1) ls rest)) : W p l e R s m args below meth c H locs cells slots Q (F0 m pc ls (.ref v :: .int i :: .ref a :: rest)) := by
  subst hi
  obtain ⟨hX, hH, hS⟩ := hI
  have hK := hX.1
  obtain ⟨L, k0, hL, hP, hD, h0⟩ := gh_open hH he
  obtain ⟨k1, h1⟩ := gh_idx hL hv
  exact va_astqO S.1 S.2.1 hK hP hD hS k0 t0 k1 ci h0 ht hca h1 hc (vp_in_nI hj hn) hdg (fun H1 locs1 hP1 hD1 hS1 => kk H1 locs1 ⟨hX, by
    rw [nI_clamp (by omega)] at hP1 hD1
    exact gh_close hL hD he h0 hP1 hD1, hS1⟩)
theorem gh_aastN (S : CallFix p m c cc nL s args gw own) (hI : gB P f s H locs) (t0 : Nat) {E : String} {cA : ClassId} {n : Nat} {g : Nat → Option Nat} (he : f a = some (.inl (cA, n, .inr (.inr (.inr (.inr g)))))) (ht : (gty P)[t0]? = some (cA, .object E)) {i : Int32} {j : Nat} (hi : i = nI j) (hj : j < n) (hn : n < 2 ^ 31) (hdg : decode cc pc = .ok (.aastore, 1))
    (kk : ∀ (H1 : Heap) (locs1 : List Loc), gB P (va_up f a (some (.inl (cA, n, .inr (.inr (.inr (.inr (va_up g j none)))))))) s H1 locs1 → W p l e R s m args below meth c H1 locs1 cells slots Q (F0 m (pc + 1) ls rest)) : W p l e R s m args below meth c H locs cells slots Q (F0 m pc ls (.null :: .int i :: .ref a :: rest)) := by
  subst hi
  obtain ⟨hX, hH, hS⟩ := hI
  have hK := hX.1
  obtain ⟨L, k0, hL, hP, hD, h0⟩ := gh_open hH he
  exact va_astqN S.1 S.2.1 hK hP hD hS k0 t0 h0 ht (vp_in_nI hj hn) hdg (fun H1 locs1 hP1 hD1 hS1 => kk H1 locs1 ⟨hX, by
    rw [nI_clamp (by omega)] at hP1 hD1
    exact gh_close hL hD he h0 hP1 hD1, hS1⟩)
/-- a new object -/
theorem gh_new (S : CallFix p m c cc nL s args gw own) (hI : gB P f s H locs) (hc : gcl[ci]? = some (C, T, N)) (hin : ∀ w ∈ u_ws C T N, w ∈ gw) (ty0 : Nat → FieldType) (hty : ∀ k, k < N → parseFieldDescriptor (T k).2.2.1 = some (ty0 k)) (hcl : Cond.classLink own index C ∈ gw) (hinst : Cond.instantiable C N ∈ gw) (hini : Cond.initialized C ∈ gw) {fs : List Value} (hfs : ∀ j, j < N → defaultValue (ty0 j) = vp_V fs j) (hcells : cells + 1 ≤ R.cells) (hslots : slots + N ≤ R.slots) (hdg : decode cc pc = .ok (.new index, 3))
    (kk : ∀ (q : Nat) (H1 : Heap), f q = none → gB P (va_up f q (some (.inr (ci, fs)))) s H1 locs → W p l e R s m args below meth c H1 locs (cells + 1) (slots + N) Q (F0 m (pc + 3) ls (.ref q :: rest))) : W p l e R s m args below meth c H locs cells slots Q (F0 m pc ls rest) := by
  obtain ⟨hX, ⟨L, hL, hP, hD⟩, hS⟩ := hI
  have hK := hX.1
  have hA := hX.2.1
  refine va_new S.1 S.2.1 S.2.2.2.2 hin ty0 hty S.2.2.2.1 (S.2.2.2.2 _ hcl) (S.2.2.2.2 _ hinst) (S.2.2.2.2 _ hini) hK hP hD hS hA hc hfs hcells hslots hdg (fun q H1 hP1 hD1 hS1 => ?_)
  obtain ⟨g1, g2⟩ := gh_push hL hP1 hD1
  exact kk q H1 g2 ⟨hX, g1, hS1⟩
/-- the class of an array of a kind is one -/
theorem gh_cA {cA cB : ClassId} {ty : FieldType} (h1 : va_RA s cA ty) (h2 : va_RA s cB ty) : cA = cB := by
  cases ty with
  | object E =>
    obtain ⟨_, _, -, -, -, h1⟩ := h1
    obtain ⟨_, _, -, -, -, h2⟩ := h2
    exact Option.some.inj (h1.symm.trans h2)
  | _ => exact Option.some.inj (Eq.trans (Eq.symm h1) h2)
theorem gh_newb (S : CallFix p m c cc nL s args gw own) (hI : gB P f s H locs) (t0 : Nat) {cA : ClassId} (ht : (gty P)[t0]? = some (cA, .byte)) (hw : Cond.arrayClass .byte ∈ gw) {i : Int32} {n : Nat} (hi : i = nI n) (hn : n < 2 ^ 20) (hcells : cells + 1 ≤ R.cells) (hslots : slots + n ≤ R.slots) (hdg : decode cc pc = .ok (.newarray .byte, 2))
    (kk : ∀ (q : Nat) (H1 : Heap), f q = none → gB P (va_up f q (some (.inl (cA, n, .inl (fun _ => 0))))) s H1 locs → W p l e R s m args below meth c H1 locs (cells + 1) (slots + n) Q (F0 m (pc + 2) ls (.ref q :: rest))) : W p l e R s m args below meth c H locs cells slots Q (F0 m pc ls (.int i :: rest)) := by
  subst hi
  obtain ⟨hX, ⟨L, hL, hP, hD⟩, hS⟩ := hI
  have hK := hX.1
  have hA := hX.2.1
  refine va_newa (atype := .byte) S.1 S.2.1 (S.2.2.2.2 _ hw) (ty := .byte) rfl hK hP hD hS hA (n := nI n) (N' := n) (a0 := (n, .inl (fun _ => 0))) (fun _ => rfl) (nI_pos (by omega)) (nI_clamp (by omega)) (by show n * 1 ≤ _; omega) hcells hslots hdg (fun q cA' H1 hK1 hP1 hD1 hS1 => ?_)
  have hr := (hK1.2 (gty P).length (cA', .byte) (by rw [List.getElem?_append_right (Nat.le_refl _), Nat.sub_self]; rfl)).2
  have hc : cA' = cA := gh_cA hr (hK.2 t0 _ ht).2
  subst hc
  obtain ⟨g1, g2⟩ := gh_push hL hP1 hD1
  exact kk q H1 g2 ⟨hX, g1, hS1⟩
theorem gh_newz (S : CallFix p m c cc nL s args gw own) (hI : gB P f s H locs) (t0 : Nat) {cA : ClassId} (ht : (gty P)[t0]? = some (cA, .boolean)) (hw : Cond.arrayClass .boolean ∈ gw) {i : Int32} {n : Nat} (hi : i = nI n) (hn : n < 2 ^ 20) (hcells : cells + 1 ≤ R.cells) (hslots : slots + n ≤ R.slots) (hdg : decode cc pc = .ok (.newarray .boolean, 2))
    (kk : ∀ (q : Nat) (H1 : Heap), f q = none → gB P (va_up f q (some (.inl (cA, n, .inl (fun _ => 0))))) s H1 locs → W p l e R s m args below meth c H1 locs (cells + 1) (slots + n) Q (F0 m (pc + 2) ls (.ref q :: rest))) : W p l e R s m args below meth c H locs cells slots Q (F0 m pc ls (.int i :: rest)) := by
  subst hi
  obtain ⟨hX, ⟨L, hL, hP, hD⟩, hS⟩ := hI
  have hK := hX.1
  have hA := hX.2.1
  refine va_newa (atype := .boolean) S.1 S.2.1 (S.2.2.2.2 _ hw) (ty := .boolean) rfl hK hP hD hS hA (n := nI n) (N' := n) (a0 := (n, .inl (fun _ => 0))) (fun _ => rfl) (nI_pos (by omega)) (nI_clamp (by omega)) (by show n * 1 ≤ _; omega) hcells hslots hdg (fun q cA' H1 hK1 hP1 hD1 hS1 => ?_)
  have hr := (hK1.2 (gty P).length (cA', .boolean) (by rw [List.getElem?_append_right (Nat.le_refl _), Nat.sub_self]; rfl)).2
  have hc : cA' = cA := gh_cA hr (hK.2 t0 _ ht).2
  subst hc
  obtain ⟨g1, g2⟩ := gh_push hL hP1 hD1
  exact kk q H1 g2 ⟨hX, g1, hS1⟩
theorem gh_newi (S : CallFix p m c cc nL s args gw own) (hI : gB P f s H locs) (t0 : Nat) {cA : ClassId} (ht : (gty P)[t0]? = some (cA, .int)) (hw : Cond.arrayClass .int ∈ gw) {i : Int32} {n : Nat} (hi : i = nI n) (hn : n < 2 ^ 20) (hcells : cells + 1 ≤ R.cells) (hslots : slots + n ≤ R.slots) (hdg : decode cc pc = .ok (.newarray .int, 2))
    (kk : ∀ (q : Nat) (H1 : Heap), f q = none → gB P (va_up f q (some (.inl (cA, n, .inl (fun _ => 0))))) s H1 locs → W p l e R s m args below meth c H1 locs (cells + 1) (slots + n) Q (F0 m (pc + 2) ls (.ref q :: rest))) : W p l e R s m args below meth c H locs cells slots Q (F0 m pc ls (.int i :: rest)) := by
  subst hi
  obtain ⟨hX, ⟨L, hL, hP, hD⟩, hS⟩ := hI
  have hK := hX.1
  have hA := hX.2.1
  refine va_newa (atype := .int) S.1 S.2.1 (S.2.2.2.2 _ hw) (ty := .int) rfl hK hP hD hS hA (n := nI n) (N' := n) (a0 := (n, .inl (fun _ => 0))) (fun _ => rfl) (nI_pos (by omega)) (nI_clamp (by omega)) (by show n * 4 ≤ _; omega) hcells hslots hdg (fun q cA' H1 hK1 hP1 hD1 hS1 => ?_)
  have hr := (hK1.2 (gty P).length (cA', .int) (by rw [List.getElem?_append_right (Nat.le_refl _), Nat.sub_self]; rfl)).2
  have hc : cA' = cA := gh_cA hr (hK.2 t0 _ ht).2
  subst hc
  obtain ⟨g1, g2⟩ := gh_push hL hP1 hD1
  exact kk q H1 g2 ⟨hX, g1, hS1⟩
theorem gh_newq (S : CallFix p m c cc nL s args gw own) (hI : gB P f s H locs) (t0 : Nat) {cA : ClassId} {E : String} (ht : (gty P)[t0]? = some (cA, .object E)) (hcl : Cond.classLink own index E ∈ gw) (hover : va_AO E s) {i : Int32} {n : Nat} (hi : i = nI n) (hn : n < 2 ^ 20) (hcells : cells + 1 ≤ R.cells) (hslots : slots + n ≤ R.slots) (hdg : decode cc pc = .ok (.anewarray index, 3))
    (kk : ∀ (q : Nat) (H1 : Heap), f q = none → gB P (va_up f q (some (.inl (cA, n, .inr (.inr (.inr (.inr (fun _ => none)))))))) s H1 locs → W p l e R s m args below meth c H1 locs (cells + 1) (slots + n) Q (F0 m (pc + 3) ls (.ref q :: rest))) : W p l e R s m args below meth c H locs cells slots Q (F0 m pc ls (.int i :: rest)) := by
  subst hi
  obtain ⟨hX, ⟨L, hL, hP, hD⟩, hS⟩ := hI
  have hK := hX.1
  have hA := hX.2.1
  refine va_newq S.1 S.2.1 S.2.2.2.1 (S.2.2.2.2 _ hcl) hover hK hP hD hS hA (n := nI n) (N' := n) (nI_pos (by omega)) (nI_clamp (by omega)) (by omega) hcells hslots hdg (fun q cA' H1 hK1 hP1 hD1 hS1 => ?_)
  have hr := (hK1.2 (gty P).length (cA', .object E) (by rw [List.getElem?_append_right (Nat.le_refl _), Nat.sub_self]; rfl)).2
  have hc : cA' = cA := gh_cA hr (hK.2 t0 _ ht).2
  subst hc
  obtain ⟨g1, g2⟩ := gh_push hL hP1 hD1
  exact kk q H1 g2 ⟨hX, g1, hS1⟩
/-- System.arraycopy of bytes -/
theorem gh_copyb (S : CallFix p m c cc nL s args gw own) (hI : gB P f s H locs) (hlsz : ls.size = nL) (hlink : Cond.methodLink own index arraycopyName ∈ gw) (hnat : Cond.native arraycopyName ∈ gw) (hstat : Cond.static arraycopyName ∈ gw) (hini : Cond.initialized "java/lang/System" ∈ gw) (t0 : Nat) {a0 : Nat} {cA : ClassId} {n0 n1 : Nat} {g0 g1 : Nat → Int32} (he0 : f a0 = some (.inl (cA, n0, .inl g0))) (he : f a = some (.inl (cA, n1, .inl g1))) (ht : (gty P)[t0]? = some (cA, .byte))
    {i0 i1 i2 : Int32} {sp dp n : Nat} (h0 : i0 = nI sp) (h1 : i1 = nI dp) (h2 : i2 = nI n) (h4 : sp + n ≤ n0) (h5 : dp + n ≤ n1) (hn0 : n0 < 2 ^ 31) (hn1 : n1 < 2 ^ 31) (hfit : ∀ i, i < n → fits .byte (.int (g0 (sp + i))) = true)
    (hframes : 1 ≤ R.frames) (hlocals : (rest.map fun v => v.category).sum + (nativeFrameWords "java/lang/System" "arraycopy" 5 + 11) ≤ R.locals) (hdg : decode cc pc = .ok (.invokestatic index, 3))
    (kk : ∀ (H1 : Heap) (locs1 : List Loc), gB P (va_up f a (some (.inl (cA, n1, .inl (va_cpy g0 g1 sp dp n))))) s H1 locs1 → W p l e R s m args below meth c H1 locs1 cells slots Q (F0 m (pc + 3) ls rest)) : W p l e R s m args below meth c H locs cells slots Q (F0 m pc ls (.int i2 :: .int i1 :: .ref a :: .int i0 :: .ref a0 :: rest)) := by
  subst h0 h1 h2
  obtain ⟨hX, hH, hS⟩ := hI
  have hK := hX.1
  obtain ⟨L, k0, hL, hP, hD, z0⟩ := gh_open hH he
  obtain ⟨k1, z1⟩ := gh_idx hL he0
  have c0 : (nI sp).toNatClampNeg = sp := nI_clamp (by omega)
  have c1 : (nI dp).toNatClampNeg = dp := nI_clamp (by omega)
  have c2 : (nI n).toNatClampNeg = n := nI_clamp (by omega)
  refine va_copyi S.1 S.2.1 (S.2.2.1.trans hlsz.symm) S.2.2.2.1 (S.2.2.2.2 _ hlink) (S.2.2.2.2 _ hnat) (S.2.2.2.2 _ hstat) (S.2.2.2.2 _ hini) hK hP hD hS k1 k0 t0 t0 z1 z0 ht ht rfl (nI_pos (by omega)) (nI_pos (by omega)) (nI_pos (by omega)) (by rw [c0, c2]; exact h4) (by rw [c1, c2]; exact h5) (by rw [c0, c2]; exact hfit) hframes hlocals hdg (fun H1 locs1 hP1 hD1 hS1 => ?_)
  rw [c0, c1, c2] at hP1 hD1
  exact kk H1 locs1 ⟨hX, gh_close hL hD he z0 hP1 hD1, hS1⟩
theorem gh_any {E : String} {r : vw_C} (hI : gB P f s H locs) {fs : List Value} (he : f a = some (.inr (ci, fs))) (hc : gcl[ci]? = some r) (hca : va_Nw (.castable r.1 E) s) : va_Any E s H a := by
  obtain ⟨hX, hH, hS⟩ := hI
  have hK := hX.1
  obtain ⟨L, k0, hL, hP, hD, h0⟩ := gh_open hH he
  exact va_rAny hK hP h0 hc (vb_asgC hca)
/-- System.arraycopy of references, within one array or between two of a kind -/
theorem gh_copyq (S : CallFix p m c cc nL s args gw own) (hI : gB P f s H locs) (hlsz : ls.size = nL) (hlink : Cond.methodLink own index arraycopyName ∈ gw) (hnat : Cond.native arraycopyName ∈ gw) (hstat : Cond.static arraycopyName ∈ gw) (hini : Cond.initialized "java/lang/System" ∈ gw) (t0 : Nat) {a0 : Nat} {cA : ClassId} {E : String} {n0 n1 : Nat} {g0 g1 : Nat → Option Nat} (he0 : f a0 = some (.inl (cA, n0, .inr (.inr (.inr (.inr g0)))))) (he : f a = some (.inl (cA, n1, .inr (.inr (.inr (.inr g1)))))) (ht : (gty P)[t0]? = some (cA, .object E))
    {i0 i1 i2 : Int32} {sp dp n : Nat} (h0 : i0 = nI sp) (h1 : i1 = nI dp) (h2 : i2 = nI n) (h4 : sp + n ≤ n0) (h5 : dp + n ≤ n1) (hn0 : n0 < 2 ^ 31) (hn1 : n1 < 2 ^ 31) (hel : ∀ i : Nat, i < n → ∀ y : Nat, g0 (sp + i) = some y → va_Any E s H y)
    (hframes : 1 ≤ R.frames) (hlocals : (rest.map fun v => v.category).sum + (nativeFrameWords "java/lang/System" "arraycopy" 5 + 11) ≤ R.locals) (hdg : decode cc pc = .ok (.invokestatic index, 3))
    (kk : ∀ (H1 : Heap) (locs1 : List Loc), gB P (va_up f a (some (.inl (cA, n1, .inr (.inr (.inr (.inr (va_cpy g0 g1 sp dp n)))))))) s H1 locs1 → W p l e R s m args below meth c H1 locs1 cells slots Q (F0 m (pc + 3) ls rest)) : W p l e R s m args below meth c H locs cells slots Q (F0 m pc ls (.int i2 :: .int i1 :: .ref a :: .int i0 :: .ref a0 :: rest)) := by
  subst h0 h1 h2
  obtain ⟨hX, hH, hS⟩ := hI
  have hK := hX.1
  obtain ⟨L, k0, hL, hP, hD, z0⟩ := gh_open hH he
  obtain ⟨k1, z1⟩ := gh_idx hL he0
  have c0 : (nI sp).toNatClampNeg = sp := nI_clamp (by omega)
  have c1 : (nI dp).toNatClampNeg = dp := nI_clamp (by omega)
  have c2 : (nI n).toNatClampNeg = n := nI_clamp (by omega)
  refine va_copyM S.1 S.2.1 (S.2.2.1.trans hlsz.symm) S.2.2.2.1 (S.2.2.2.2 _ hlink) (S.2.2.2.2 _ hnat) (S.2.2.2.2 _ hstat) (S.2.2.2.2 _ hini) hK hP hD hS k1 k0 t0 t0 z1 z0 ht ht (nI_pos (by omega)) (nI_pos (by omega)) (nI_pos (by omega)) (by rw [c0, c2]; exact h4) (by rw [c1, c2]; exact h5) (by rw [c0, c2]; exact hel) hframes hlocals hdg (fun H1 locs1 hP1 hD1 hS1 => ?_)
  rw [c0, c1, c2] at hP1 hD1
  exact kk H1 locs1 ⟨hX, gh_close hL hD he z0 hP1 hD1, hS1⟩
theorem gh_recv {q : vw_C} {fs : List Value} (hI : gB P f s H locs) (hc : gcl[ci]? = some q) (he : f a = some (.inr (ci, fs))) : ∃ cell : Cell, H[a]? = some cell ∧ cell.vm.isStatics = false ∧ s.vm.findClass q.1 = some cell.cls := by
  obtain ⟨hX, hH, hS⟩ := hI
  have hK := hX.1
  obtain ⟨L, k0, hL, hP, hD, h0⟩ := gh_open hH he
  exact va_recv hK hP hc h0
end GHR
