/-! rows that know the heap's size: a made cell lies at its end -/
theorem gh_mk {P : gPar} {f : gM} {s : State} {H H1 : Heap} {locs : List Loc} {e : va_E} (hI : gB P f s H locs) (hz : H1.size = H.size + 1) (ho : ∀ q, q < H.size → H1[q]? = H[q]?) (he : va_at (gD P) gcl (H.size, e) H1) : gB P (va_up f H.size (some e)) s H1 locs ∧ f H.size = none := by
  obtain ⟨hX, ⟨L, hL, hP, hD⟩, hS⟩ := hI
  have hP1 : va_P (gD P) gcl (([] ++ va_pl L (gh_F f)) ++ [(H.size, e)]) H1 := by
    refine va_P.app (hP.kept (fun k x hx => ho x.1 ((hP k x hx).lt))) (fun k x hx => ?_)
    have h1 : k < 1 := (List.getElem?_eq_some_iff.mp hx).1
    rw [show k = 0 by omega] at hx
    cases hx
    exact he
  have hD1 := hD.push (e := e) hP rfl (hX.2.1 H.size hS.1)
  obtain ⟨g1, g2⟩ := gh_push hL hP1 hD1
  exact ⟨⟨hX, g1, Nat.le_trans hS.1 (by omega), fun x h1 h2 => (ho x (Nat.lt_of_lt_of_le h1 hS.1)).trans (hS.2.1 x h1 h2), hS.2.2⟩, g2⟩
theorem gh_st {P : gPar} {f : gM} {s : State} {H H1 : Heap} {locs : List Loc} {a k : Nat} {e0 e1 : va_E} (hI : gB P f s H locs) (ha : f a = some e0) (hz : H1.size = H.size) (ho : ∀ q, q ≠ a → H1[q]? = H[q]?) (he : va_at (gD P) gcl (a, e1) H1) : gB P (va_up f a (some e1)) s H1 (locs ++ [⟨a, k⟩]) := by
  obtain ⟨hX, hH, hS⟩ := hI
  obtain ⟨L, k0, hL, hP, hD, h0⟩ := gh_open hH ha
  exact ⟨hX, gh_close hL hD ha h0 (hP.set hD h0 he ho) (hD.set h0), hS.put hz ho (hD.2 k0 _ h0)⟩
theorem gB_new {P : gPar} {f : gM} {s : State} {H : Heap} {locs : List Loc} (hI : gB P f s H locs) {z : Nat} (hz : H.size = z) : gNew f z := fun q h => by
  cases hf : f q with
  | none => rfl
  | some v =>
    obtain ⟨L, k, -, hP, -, h0⟩ := gh_open hI.2.1 hf
    have := (hP k _ h0).lt
    exact absurd this (by show ¬ q < H.size; omega)
section GHZ
variable {p : Program} {l : Launch} {e : Env} {R : Room} {s : State} {m : MethodId} {args : Array Value} {below : List Frame} {meth : Method} {c : Code} {H : Heap} {locs : List Loc} {cells slots : Nat} {Q : State → Prop}
variable {cc : ByteArray} {pc : Nat} {ls : Array Slot} {rest st0 : List Value} {P : gPar} {a : Nat} {f : gM} {own ref C : String} {T : u_T} {N ci index nL z : Nat}
theorem gh_newZ (S : CallFix p m c cc nL s args gw own) (hI : gB P f s H locs) (hz : H.size = z) (hc : gcl[ci]? = some (C, T, N)) (hin : ∀ w ∈ u_ws C T N, w ∈ gw) (ty0 : Nat → FieldType) (hty : ∀ k, k < N → parseFieldDescriptor (T k).2.2.1 = some (ty0 k)) (hcl : Cond.classLink own index C ∈ gw) (hinst : Cond.instantiable C N ∈ gw) (hini : Cond.initialized C ∈ gw) {fs : List Value} (hfs : ∀ j, j < N → defaultValue (ty0 j) = vp_V fs j) (hcells : cells + 1 ≤ R.cells) (hslots : slots + N ≤ R.slots) (hdg : decode cc pc = .ok (.new index, 3))
    (kk : ∀ H1 : Heap, f z = none → H1.size = z + 1 → gB P (va_up f z (some (.inr (ci, fs)))) s H1 locs → W p l e R s m args below meth c H1 locs (cells + 1) (slots + N) Q (F0 m (pc + 3) ls (.ref z :: rest))) : W p l e R s m args below meth c H locs cells slots Q (F0 m pc ls rest) := by
  subst hz
  have hKn := hI.1.1.1 ci _ hc
  refine W.newcK S.1 S.2.1 S.2.2.2.1 (S.2.2.2.2 _ hcl) (S.2.2.2.2 _ hinst) (S.2.2.2.2 _ hini) rfl hdg hcells hslots hKn.2.1 rfl fun H1 kC hkC e1 z1 o1 => ?_
  obtain ⟨g1, g2⟩ := gh_mk hI z1 o1 (e := .inr (ci, fs)) ⟨_, hc, (u_born ty0 S.2.2.2.2 hin hKn hkC e1 hty).to hfs⟩
  exact kk H1 g2 z1 g1
theorem gh_newbZ (S : CallFix p m c cc nL s args gw own) (hI : gB P f s H locs) (hz : H.size = z) (hw : Cond.arrayClass .byte ∈ gw) {i : Int32} {n : Nat} (hi : i = nI n) (hn : n < 2 ^ 20) (hcells : cells + 1 ≤ R.cells) (hslots : slots + n ≤ R.slots) (hdg : decode cc pc = .ok (.newarray .byte, 2))
    (kk : ∀ H1 : Heap, f z = none → H1.size = z + 1 → gB P (va_up f z (some (.inl (P.2.1 0, n, .inl (fun _ => 0))))) s H1 locs → W p l e R s m args below meth c H1 locs (cells + 1) (slots + n) Q (F0 m (pc + 2) ls (.ref z :: rest))) : W p l e R s m args below meth c H locs cells slots Q (F0 m pc ls (.int i :: rest)) := by
  subst hz hi
  refine va_newaK (atype := .byte) S.1 S.2.1 (S.2.2.2.2 _ hw) rfl hdg rfl (nI_pos (by omega)) (nI_clamp (by omega)) (by show n * 1 ≤ _; omega) hcells hslots rfl fun H1 cA e1 z1 o1 hAr hNm => ?_
  have hcA : cA = P.2.1 0 := gh_cA (ty := .byte) (s := s) hNm (hI.1.1.2 0 _ rfl).2
  subst hcA
  obtain ⟨g1, g2⟩ := gh_mk hI z1 o1 (e := .inl (P.2.1 0, n, .inl (fun _ => 0))) e1
  exact kk H1 g2 z1 g1
theorem gh_newqZ (S : CallFix p m c cc nL s args gw own) (hI : gB P f s H locs) (hz : H.size = z) (hcl : Cond.classLink own index "StripeFiles$Piece" ∈ gw) {i : Int32} {n : Nat} (hi : i = nI n) (hn : n < 2 ^ 20) (hcells : cells + 1 ≤ R.cells) (hslots : slots + n ≤ R.slots) (hdg : decode cc pc = .ok (.anewarray index, 3))
    (kk : ∀ H1 : Heap, f z = none → H1.size = z + 1 → gB P (va_up f z (some (.inl (P.2.1 3, n, .inr (.inr (.inr (.inr (fun _ => none)))))))) s H1 locs → W p l e R s m args below meth c H1 locs (cells + 1) (slots + n) Q (F0 m (pc + 3) ls (.ref z :: rest))) : W p l e R s m args below meth c H locs cells slots Q (F0 m pc ls (.int i :: rest)) := by
  subst hz hi
  have hcl2 : (nI n).toNatClampNeg = n := nI_clamp (by omega)
  refine W.anew S.1 S.2.1 S.2.2.2.1 (S.2.2.2.2 _ hcl) (va_AO.use hI.1.2.2.2.1) rfl hdg rfl (nI_pos (by omega)) (by rw [hcl2]; omega) hcells (by rw [hcl2]; exact hslots) fun cA kA comp f1 f2 f3 f4 => ?_
  rw [hcl2]
  have hr : va_RA s cA (.object "StripeFiles$Piece") := ⟨kA, comp, f2, f3, f4, f1⟩
  have hcA : cA = P.2.1 3 := gh_cA hr (hI.1.1.2 3 _ rfl).2
  subst hcA
  generalize hH1 : H.push ({ cls := P.2.1 3, slots := Array.replicate n .null, vm := .none } : Cell) = H1
  have z1 : H1.size = H.size + 1 := by rw [← hH1, Array.size_push]
  have e1 : H1[H.size]? = some (arrV (P.2.1 3) n (fun _ => .null)) := by rw [← hH1, Array.getElem?_push_size, ← arrV_new]
  have o1 : ∀ q : Nat, q < H.size → H1[q]? = H[q]? := fun q hq => by rw [← hH1, Array.getElem?_push, if_neg (Nat.ne_of_lt hq)]
  obtain ⟨g1, g2⟩ := gh_mk hI z1 o1 (e := .inl (P.2.1 3, n, .inr (.inr (.inr (.inr (fun _ => none)))))) e1
  exact kk H1 g2 z1 g1
theorem gh_newqOZ (S : CallFix p m c cc nL s args gw own) (hI : gB P f s H locs) (hz : H.size = z) (hcl : Cond.classLink own index "java/lang/Object" ∈ gw) {i : Int32} {n : Nat} (hi : i = nI n) (hn : n < 2 ^ 20) (hcells : cells + 1 ≤ R.cells) (hslots : slots + n ≤ R.slots) (hdg : decode cc pc = .ok (.anewarray index, 3))
    (kk : ∀ H1 : Heap, f z = none → H1.size = z + 1 → gB P (va_up f z (some (.inl (P.2.1 4, n, .inr (.inr (.inr (.inr (fun _ => none)))))))) s H1 locs → W p l e R s m args below meth c H1 locs (cells + 1) (slots + n) Q (F0 m (pc + 3) ls (.ref z :: rest))) : W p l e R s m args below meth c H locs cells slots Q (F0 m pc ls (.int i :: rest)) := by
  subst hz hi
  have hcl2 : (nI n).toNatClampNeg = n := nI_clamp (by omega)
  refine W.anew S.1 S.2.1 S.2.2.2.1 (S.2.2.2.2 _ hcl) (va_AO.use hI.1.2.2.2.2.1) rfl hdg rfl (nI_pos (by omega)) (by rw [hcl2]; omega) hcells (by rw [hcl2]; exact hslots) fun cA kA comp f1 f2 f3 f4 => ?_
  rw [hcl2]
  have hr : va_RA s cA (.object "java/lang/Object") := ⟨kA, comp, f2, f3, f4, f1⟩
  have hcA : cA = P.2.1 4 := gh_cA hr (hI.1.1.2 4 _ rfl).2
  subst hcA
  generalize hH1 : H.push ({ cls := P.2.1 4, slots := Array.replicate n .null, vm := .none } : Cell) = H1
  have z1 : H1.size = H.size + 1 := by rw [← hH1, Array.size_push]
  have e1 : H1[H.size]? = some (arrV (P.2.1 4) n (fun _ => .null)) := by rw [← hH1, Array.getElem?_push_size, ← arrV_new]
  have o1 : ∀ q : Nat, q < H.size → H1[q]? = H[q]? := fun q hq => by rw [← hH1, Array.getElem?_push, if_neg (Nat.ne_of_lt hq)]
  obtain ⟨g1, g2⟩ := gh_mk hI z1 o1 (e := .inl (P.2.1 4, n, .inr (.inr (.inr (.inr (fun _ => none)))))) e1
  exact kk H1 g2 z1 g1
theorem gh_putFZ (S : CallFix p m c cc nL s args gw own) (hI : gB P f s H locs) (hz : H.size = z) {fs : List Value} (he : f a = some (.inr (ci, fs))) (hc : gcl[ci]? = some (C, T, N)) (hin : ∀ w ∈ u_ws C T N, w ∈ gw) (ty0 : Nat → FieldType) (hty : ∀ k, k < N → parseFieldDescriptor (T k).2.2.1 = some (ty0 k)) (hnm : ∀ a, a < N → ∀ b, b < N → a ≠ b → (T a).2.1 ≠ (T b).2.1) (k : Nat) (hk : k < N) (hlink : Cond.fieldLink own index (T k).1 (T k).2.1 (T k).2.2.1 ∈ gw) (hfin : (T k).2.2.2 = true) (hin2 : meth.name = "<init>") (hdecl : (T k).1 = own) {v : Value} (hn : narrow (ty0 k) v = v) (hfit : fits (ty0 k) v = true) (hl : k < fs.length) (hdg : decode cc pc = .ok (.putfield index, 3))
    (kk : ∀ (H1 : Heap) (locs1 : List Loc), H1.size = z → gB P (va_up f a (some (.inr (ci, fs.set k v)))) s H1 locs1 → W p l e R s m args below meth c H1 locs1 cells slots Q (F0 m (pc + 3) ls rest)) : W p l e R s m args below meth c H locs cells slots Q (F0 m pc ls (v :: .ref a :: rest)) := by
  subst hz
  have hts := S.2.2.2.2
  have hK := hI.1.1
  have hap := va_apart (own := own) hts hin ty0 hty hnm hK hc
  obtain ⟨L, k0, hL, hP, hD, h0⟩ := gh_open hI.2.1 he
  obtain ⟨r, h1, cell, q1, q2, q3, q4⟩ := hP k0 _ h0
  have hr : r = (C, T, N) := Option.some.inj (h1.symm.trans hc)
  subst hr
  obtain ⟨hSl, hfc, kC, hkC, hkind⟩ := hK.1 ci _ hc
  obtain ⟨cf, kf, fi, fd, hi, hsl⟩ := hSl k hk
  have hlay := hts _ (hin _ (u_in_lay hk))
  unfold u_lay at hlay
  rw [if_pos hfin] at hlay
  have hst := (u_facts hfc hkC (u_lays hts hin hk) hi).1
  have hcf : m.cls = cf := by
    obtain ⟨_, _, c', _, _, _, -, -, hf', -, -, -, hown2, -⟩ := Cond.laysFinal_spec hlay
    have e1 : c' = cf := by have := hi.symm.trans hf'; simp at this; exact this.1.symm
    rw [hdecl] at hown2
    rw [← e1]; exact Option.some.inj (S.2.2.2.1.symm.trans hown2)
  have h6 := u_fits hfc hkC hkind (Or.inr hlay) hi (hty k hk) hn hfit
  refine W.putFinK S.1 S.2.1 S.2.2.2.1 (hts _ hlink) hi hst hcf hin2 (by rw [q2]; exact h6) q1 q3 (by rw [hsl]; exact k2_hasslot (q4 k hk)) rfl rfl hdg fun H' e1 e2 e3 => ?_
  rw [hsl] at e1 ⊢
  exact kk H' _ e2 (gh_st hI he e2 e3 ⟨_, hc, t_OB.to (V := updV (vp_V fs) k v) ⟨_, e1, q2, q3, t_set q4 hap hk v⟩ (fun j _ => vp_updV_set hl v j)⟩)
theorem gh_putZ (S : CallFix p m c cc nL s args gw own) (hI : gB P f s H locs) (hz : H.size = z) {fs : List Value} (he : f a = some (.inr (ci, fs))) (hc : gcl[ci]? = some (C, T, N)) (hin : ∀ w ∈ u_ws C T N, w ∈ gw) (ty0 : Nat → FieldType) (hty : ∀ k, k < N → parseFieldDescriptor (T k).2.2.1 = some (ty0 k)) (hnm : ∀ a, a < N → ∀ b, b < N → a ≠ b → (T a).2.1 ≠ (T b).2.1) (k : Nat) (hk : k < N) (hlink : Cond.fieldLink own index (T k).1 (T k).2.1 (T k).2.2.1 ∈ gw) (hfin : (T k).2.2.2 = false) {v : Value} (hn : narrow (ty0 k) v = v) (hfit : fits (ty0 k) v = true) (hl : k < fs.length) (hdg : decode cc pc = .ok (.putfield index, 3))
    (kk : ∀ (H1 : Heap) (locs1 : List Loc), H1.size = z → gB P (va_up f a (some (.inr (ci, fs.set k v)))) s H1 locs1 → W p l e R s m args below meth c H1 locs1 cells slots Q (F0 m (pc + 3) ls rest)) : W p l e R s m args below meth c H locs cells slots Q (F0 m pc ls (v :: .ref a :: rest)) := by
  subst hz
  have hts := S.2.2.2.2
  have hK := hI.1.1
  have hap := va_apart (own := own) hts hin ty0 hty hnm hK hc
  obtain ⟨L, k0, hL, hP, hD, h0⟩ := gh_open hI.2.1 he
  obtain ⟨r, h1, cell, q1, q2, q3, q4⟩ := hP k0 _ h0
  have hr : r = (C, T, N) := Option.some.inj (h1.symm.trans hc)
  subst hr
  obtain ⟨hSl, hfc, kC, hkC, hkind⟩ := hK.1 ci _ hc
  obtain ⟨cf, kf, fi, fd, hi, hsl⟩ := hSl k hk
  have hlay := hts _ (hin _ (u_in_lay hk))
  unfold u_lay at hlay
  rw [if_neg (by rw [hfin]; decide)] at hlay
  have hst := (u_facts hfc hkC (u_lays hts hin hk) hi).1
  have h6 := u_store hfc hkC hkind hlay hi (hty k hk) hn hfit
  refine W.putK S.1 S.2.1 (f := fd) ⟨S.2.2.2.1, hts _ hlink, ⟨_, _, _, hi⟩, hst⟩ (by rw [q2]; exact h6) q1 q3 (by rw [hsl]; exact k2_hasslot (q4 k hk)) rfl rfl hdg fun H' e1 e2 e3 => ?_
  rw [hsl] at e1 ⊢
  exact kk H' _ e2 (gh_st hI he e2 e3 ⟨_, hc, t_OB.to (V := updV (vp_V fs) k v) ⟨_, e1, q2, q3, t_set q4 hap hk v⟩ (fun j _ => vp_updV_set hl v j)⟩)
end GHZ
/-- contracts that know the size -/
def gSz (P : gPar) (u : gM × Nat) (U : State) : Prop := gS P u.1 U ∧ U.heap.size = u.2
def gQz (P : gPar) (post : gM × Nat → Prop) : Array Value → State → Outcome → State → Prop := va_Qv post (gSz P) (gA P)
def gCz (l : Launch) (P : gPar) (y : MethodName) (b : ByteArray) (maxL : Nat) (ret : Option FieldType) (d mc ms : Nat) (av : List Value) (u : gM × Nat) (Qc : Array Value → State → Outcome → State → Prop) : Prop :=
  Met l y (.code y b maxL ret :: gw) (grm d mc ms) (va_Pc av (gSz P u)) Qc mc ms (gA P)
theorem gCz_of {l : Launch} {P : gPar} {y : MethodName} {b : ByteArray} {maxL : Nat} {ret : Option FieldType} {d mc ms : Nat} {av : List Value} {f : gM} {z : Nat} {Qc : Array Value → State → Outcome → State → Prop} (hy : plainName y.cls = true) (hsz : (lg_sl av).length ≤ maxL)
    (body : ∀ (p : Program) (e : Env) (s : State) (m : MethodId) (args : Array Value) (below : List Frame) (meth : Method) (c : Code), CallFix p m c b maxL s args gw y.cls → meth.sig.returnType = ret → meth.locks = false → meth.name = y.name → ∀ (H : Heap) (locs : List Loc), gB P f s H locs → H.size = z →
      ∀ ls : Array Slot, lv_has ls maxL (lv_args 0 av) → W p l e (grm d mc ms) s m args below meth c H locs 0 0 (MQ below Qc args s mc ms (gA P)) (F0 m 0 ls [])) : gCz l P y b maxL ret d mc ms av (f, z) Qc := by
  refine Met.ofW (cc := b) (maxL := maxL) (ret := ret) hy rfl ?_
  intro p e s m args below meth c s₁ B hml hv
  obtain ⟨rfl, ⟨hX, hH⟩, hz⟩ := hv
  have hts := atoms_spec (ws := .code y b maxL ret :: gw) B.pre
  have hown : s.vm.findClass y.cls = some m.cls := findClass_of_methodNamed B.named
  have hin : meth.name = y.name := (name_of_methodNamed B.named B.method).1
  have hl := lv_entry av (n := maxL) hsz
  have hB : gB P f s s.heap [] := ⟨hX, hH, va_S.rf⟩
  have K := body p e s m av.toArray below meth c ⟨B.exec, B.bytes, hml, hown, fun w h => hts w (List.mem_cons_of_mem _ h)⟩ B.returns B.notSynchronized hin _ _ hB hz _ hl
  rw [lg_entry_eq]
  exact K
section GCZ
variable {p : Program} {l : Launch} {e : Env} {R : Room} {s : State} {m : MethodId} {args : Array Value} {below : List Frame} {meth : Method} {c : Code} {H : Heap} {locs : List Loc} {cells slots : Nat} {Q : State → Prop}
variable {cc : ByteArray} {pc : Nat} {ls : Array Slot} {rest st0 : List Value} {P : gPar} {a z : Nat} {f : gM} {own : String} {index nL : Nat} {y : MethodName} {b : ByteArray} {maxL n d mc ms : Nat} {As : List Value}
theorem gc_Iz {post : gM × Nat → Prop} (S : CallFix p m c cc nL s args gw own) (hI : gB P f s H locs) (hz : H.size = z) (hM : gCz l P y b maxL none d mc ms (.ref a :: As) (f, z) (gQz P post)) (hk : gVi y b maxL n) (hlink : Cond.methodLink own index y ∈ gw) (hn : As.length = n) (hls : ls.size = nL) (hst : st0 = As.reverse ++ .ref a :: rest) (hrest : (rest.map fun v => v.category).sum ≤ 8) (hd : d + 1 ≤ R.frames ∧ 8 + (maxL + 11) + 40 * d ≤ R.locals) (hf : cells + mc ≤ R.cells ∧ slots + ms ≤ R.slots) (hdg : decode cc pc = .ok (.invokespecial index, 3))
    (kk : ∀ (f1 : gM) (z1 : Nat) (H1 : Heap) (locs1 : List Loc), post (f1, z1) → gB P f1 s H1 locs1 → H1.size = z1 → W p l e R s m args below meth c H1 locs1 (cells + mc) (slots + ms) Q (F0 m (pc + 3) ls rest)) : W p l e R s m args below meth c H locs cells slots Q (F0 m pc ls st0) := by
  have hp : PreS s H (va_Pc (.ref a :: As) (gSz P (f, z))) (.ref a :: As) := by
    obtain ⟨hX, hH, hS⟩ := hI
    exact ⟨fun _ U g mk q => ⟨q.1, ⟨q.2.1.1.call, q.2.1.2⟩, q.2.2⟩, fun U hU hW => ⟨rfl, ⟨hX.to hS hU hW, by rw [hU]; exact hH⟩, by rw [hU]; exact hz⟩⟩
  exact va_callv (va_runI S hM (cwI n S.2.2.2.2 (gw_good hk.1) rfl rfl rfl (S.2.2.2.2 _ hk.2.2.1) (S.2.2.2.2 _ hlink) (S.2.2.2.2 _ hk.2.1) hk.2.2.2.1 hk.2.2.2.2 hd) hp rfl hn hls hst (lv_room hrest) hdg hf) hI.2.2 (fun _ _ h => h) (fun _ h => h) (fun u t H1 locs1 ht _ hw hB _ _ hS1 => kk u.1 u.2 H1 locs1 hw ⟨hI.1, by rw [← ht]; exact hB.1.2, hS1⟩ (by rw [← ht]; exact hB.2))
theorem gr_vz {post : gM × Nat → Prop} (S : CallFix p m c cc nL s args gw own) (hr : meth.sig.returnType = none) (hlk : meth.locks = false) (hI : gB P f s H locs) (hz : H.size = z) (hp : post (f, z)) (hdg : decode cc pc = .ok (.return_, 1)) : W p l e R s m args below meth c H locs cells slots (MQ below (gQz P post) args s cells slots (gA P)) (F0 m pc ls []) :=
  W.vret S.1 S.2.1 hr (fun t ht hW => ⟨⟨(f, z), rfl, hp, ⟨hI.1.to hI.2.2 ht hW, by rw [ht]; exact hI.2.1⟩, by rw [ht]; exact hz⟩, hI.2.2.F ht⟩) hI.2.2.2.2 hdg hlk
end GCZ
