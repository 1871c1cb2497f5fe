/-! CONTRACTS over the ghost heap, their opening, their ends, their calls -/
def grm (d mc ms : Nat) : Room := { frames := d, cells := mc, slots := ms, locals := 40 * d }
def gQv (P : gPar) (post : gM → Prop) : Array Value → State → Outcome → State → Prop := va_Qv post (gS P) (gA P)
def gQi (P : gPar) (post : Int32 → gM → Prop) : Array Value → State → Outcome → State → Prop := va_Qi post (gS P) (gA P)
def gQq (P : gPar) (post : Option Nat → gM → Prop) : Array Value → State → Outcome → State → Prop := va_Qq post (gS P) (gA P)
def gC (l : Launch) (P : gPar) (y : MethodName) (b : ByteArray) (maxL : Nat) (ret : Option FieldType) (d mc ms : Nat) (av : List Value) (f : gM) (Qc : Array Value → State → Outcome → State → Prop) : Prop :=
  Met l y (.code y b maxL ret :: gw) (grm d mc ms) (va_Pc av (gS P f)) Qc mc ms (gA P)
theorem gC_of {l : Launch} {P : gPar} {y : MethodName} {b : ByteArray} {maxL : Nat} {ret : Option FieldType} {d mc ms : Nat} {av : List Value} {f : gM} {Qc : Array Value → State → Outcome → State → Prop} (hy : plainName y.cls = true) (hsz : (lg_sl av).length ≤ maxL)
    (body : ∀ (p : Program) (e : Env) (s : State) (m : MethodId) (args : Array Value) (below : List Frame) (meth : Method) (c : Code), CallFix p m c b maxL s args gw y.cls → meth.sig.returnType = ret → meth.locks = false → meth.name = y.name → ∀ (H : Heap) (locs : List Loc), gB P f s H locs →
      ∀ ls : Array Slot, lv_has ls maxL (lv_args 0 av) → W p l e (grm d mc ms) s m args below meth c H locs 0 0 (MQ below Qc args s mc ms (gA P)) (F0 m 0 ls [])) : gC l P y b maxL ret d mc ms av f Qc := by
  refine Met.ofW (cc := b) (maxL := maxL) (ret := ret) hy rfl ?_
  intro p e s m args below meth c s₁ B hml hv
  obtain ⟨rfl, hX, hH⟩ := hv
  have hts := atoms_spec (ws := .code y b maxL ret :: gw) B.pre
  have hown : s.vm.findClass y.cls = some m.cls := findClass_of_methodNamed B.named
  have hin : meth.name = y.name := (name_of_methodNamed B.named B.method).1
  have hl := lv_entry av (n := maxL) hsz
  have hB : gB P f s s.heap [] := ⟨hX, hH, va_S.rf⟩
  have K := body p e s m av.toArray below meth c ⟨B.exec, B.bytes, hml, hown, fun w h => hts w (List.mem_cons_of_mem _ h)⟩ B.returns B.notSynchronized hin _ _ hB _ hl
  rw [lg_entry_eq]
  exact K
/-- what a method's words say for its callers -/
def gV (y : MethodName) (b : ByteArray) (maxL : Nat) (ret : Option FieldType) (n : Nat) : Prop :=
  Cond.code y b maxL ret ∈ gw ∧ Cond.instanceMethod y ∈ gw ∧ Cond.selects y.cls y y ∈ gw ∧ Cond.initialized y.cls ∈ gw ∧ y.cls ≠ "java/lang/invoke/MethodHandle" ∧ y.cls ≠ "java/lang/invoke/VarHandle" ∧ (parseMethodDescriptor y.desc).map (fun d => d.parameters.length) = some n
def gVs (y : MethodName) (b : ByteArray) (maxL : Nat) (ret : Option FieldType) (n : Nat) : Prop :=
  Cond.code y b maxL ret ∈ gw ∧ Cond.static y ∈ gw ∧ Cond.initialized y.cls ∈ gw ∧ y.cls ≠ "java/lang/invoke/MethodHandle" ∧ y.cls ≠ "java/lang/invoke/VarHandle" ∧ (parseMethodDescriptor y.desc).map (fun d => d.parameters.length) = some n
def gVi (y : MethodName) (b : ByteArray) (maxL : Nat) (n : Nat) : Prop :=
  Cond.code y b maxL none ∈ gw ∧ Cond.instanceMethod y ∈ gw ∧ Cond.initialized y.cls ∈ gw ∧ y.name = "<init>" ∧ y.cls ≠ "java/lang/invoke/MethodHandle" ∧ y.cls ≠ "java/lang/invoke/VarHandle" ∧ (parseMethodDescriptor y.desc).map (fun d => d.parameters.length) = some n
theorem gw_good {y : MethodName} {b : ByteArray} {maxL : Nat} {ret : Option FieldType} (h : Cond.code y b maxL ret ∈ gw) : GoodIn gw (Cond.code y b maxL ret :: gw) := by
  intro w hw
  rcases List.mem_cons.mp hw with rfl | hw
  · exact ⟨h, good_of_word (gw_ok h)⟩
  · exact ⟨hw, good_of_word (gw_ok hw)⟩
section GCL
variable {p : Program} {l : Launch} {e : Env} {R : Room} {s : State} {m : MethodId} {args : Array Value} {below : List Frame} {meth : Method} {c : Code} {H : Heap} {locs : List Loc} {cells slots : Nat} {Q : State → Prop}
variable {cc : ByteArray} {pc : Nat} {ls : Array Slot} {rest st0 : List Value} {P : gPar} {a : Nat} {f : gM} {own : String} {ci index nL : Nat} {y : MethodName} {b : ByteArray} {maxL n d mc ms : Nat} {ret : Option FieldType} {As : List Value} {q : vw_C} {fs : List Value}
theorem gc_cw (S : CallFix p m c cc nL s args gw own) (hk : gV y b maxL ret n) (hlink : Cond.methodLink own index y ∈ gw) (hd : d + 1 ≤ R.frames ∧ 8 + (maxL + 11) + 40 * d ≤ R.locals) : CallW R s args own y.cls index y b maxL ret (.code y b maxL ret :: gw) (grm d mc ms) mc ms n :=
  ⟨callB_of n S.2.2.2.2 (gw_good hk.1) rfl rfl rfl (S.2.2.2.2 _ hk.2.2.2.1) (S.2.2.2.2 _ hlink) hk.2.2.2.2 hd, S.2.2.2.2 _ hk.2.1, S.2.2.2.2 _ hk.2.2.1⟩
theorem gc_pv (hI : gB P f s H locs) (hc : gcl[ci]? = some q) (hq : q.1 = y.cls) (he : f a = some (.inr (ci, fs))) : PreV s H y.cls a (va_Pc (.ref a :: As) (gS P f)) As := by
  obtain ⟨hX, hH, hS⟩ := id hI
  refine ⟨fun _ U g mk q => ⟨q.1, q.2.1.call, q.2.2⟩, ?_, fun U hU hW => ⟨rfl, hX.to hS hU hW, by rw [hU]; exact hH⟩⟩
  rw [← hq]
  exact gh_recv hI hc he
theorem gc_ps (hI : gB P f s H locs) : PreS s H (va_Pc As (gS P f)) As := by
  obtain ⟨hX, hH, hS⟩ := hI
  exact ⟨fun _ U g mk q => ⟨q.1, q.2.1.call, q.2.2⟩, fun U hU hW => ⟨rfl, hX.to hS hU hW, by rw [hU]; exact hH⟩⟩
theorem gc_Vi {post : Int32 → gM → Prop} (S : CallFix p m c cc nL s args gw own) (hI : gB P f s H locs) (hM : gC l P y b maxL ret d mc ms (.ref a :: As) f (gQi P post)) (hk : gV y b maxL ret n) (hlink : Cond.methodLink own index y ∈ gw) (he : f a = some (.inr (ci, fs))) (hc : gcl[ci]? = some q) (hq : q.1 = y.cls) (hn : As.length = n) (hls : ls.size = nL) (hst : st0 = As.reverse ++ .ref a :: rest) (hrest : (rest.map fun v => v.category).sum ≤ 8) (hd : d + 1 ≤ R.frames ∧ 8 + (maxL + 11) + 40 * d ≤ R.locals) (hf : cells + mc ≤ R.cells ∧ slots + ms ≤ R.slots) (hdg : decode cc pc = .ok (.invokevirtual index, 3))
    (kk : ∀ (r : Int32) (f1 : gM) (H1 : Heap) (locs1 : List Loc), post r f1 → gB P f1 s H1 locs1 → W p l e R s m args below meth c H1 locs1 (cells + mc) (slots + ms) Q (F0 m (pc + 3) ls (.int r :: rest))) : W p l e R s m args below meth c H locs cells slots Q (F0 m pc ls st0) :=
  va_calli (va_runV S hM (gc_cw S hk hlink hd) (gc_pv hI hc hq he) rfl hn hls hst (lv_room hrest) hdg hf) hI.2.2 (fun _ _ h => h) (fun _ h => h) (fun r u t H1 locs1 ht _ hw hB _ _ hS1 => kk r u H1 locs1 hw ⟨hI.1, by rw [← ht]; exact hB.2, hS1⟩)
theorem gc_Vv {post : gM → Prop} (S : CallFix p m c cc nL s args gw own) (hI : gB P f s H locs) (hM : gC l P y b maxL ret d mc ms (.ref a :: As) f (gQv P post)) (hk : gV y b maxL ret n) (hlink : Cond.methodLink own index y ∈ gw) (he : f a = some (.inr (ci, fs))) (hc : gcl[ci]? = some q) (hq : q.1 = y.cls) (hn : As.length = n) (hls : ls.size = nL) (hst : st0 = As.reverse ++ .ref a :: rest) (hrest : (rest.map fun v => v.category).sum ≤ 8) (hd : d + 1 ≤ R.frames ∧ 8 + (maxL + 11) + 40 * d ≤ R.locals) (hf : cells + mc ≤ R.cells ∧ slots + ms ≤ R.slots) (hdg : decode cc pc = .ok (.invokevirtual index, 3))
    (kk : ∀ (f1 : gM) (H1 : Heap) (locs1 : List Loc), post f1 → gB P f1 s H1 locs1 → W p l e R s m args below meth c H1 locs1 (cells + mc) (slots + ms) Q (F0 m (pc + 3) ls rest)) : W p l e R s m args below meth c H locs cells slots Q (F0 m pc ls st0) :=
  va_callv (va_runV S hM (gc_cw S hk hlink hd) (gc_pv hI hc hq he) rfl hn hls hst (lv_room hrest) hdg hf) hI.2.2 (fun _ _ h => h) (fun _ h => h) (fun u t H1 locs1 ht _ hw hB _ _ hS1 => kk u H1 locs1 hw ⟨hI.1, by rw [← ht]; exact hB.2, hS1⟩)
theorem gc_Vq {post : Option Nat → gM → Prop} (S : CallFix p m c cc nL s args gw own) (hI : gB P f s H locs) (hM : gC l P y b maxL ret d mc ms (.ref a :: As) f (gQq P post)) (hk : gV y b maxL ret n) (hlink : Cond.methodLink own index y ∈ gw) (he : f a = some (.inr (ci, fs))) (hc : gcl[ci]? = some q) (hq : q.1 = y.cls) (hn : As.length = n) (hls : ls.size = nL) (hst : st0 = As.reverse ++ .ref a :: rest) (hrest : (rest.map fun v => v.category).sum ≤ 8) (hd : d + 1 ≤ R.frames ∧ 8 + (maxL + 11) + 40 * d ≤ R.locals) (hf : cells + mc ≤ R.cells ∧ slots + ms ≤ R.slots) (hdg : decode cc pc = .ok (.invokevirtual index, 3))
    (kk : ∀ (r : Option Nat) (f1 : gM) (H1 : Heap) (locs1 : List Loc), post r f1 → gB P f1 s H1 locs1 → W p l e R s m args below meth c H1 locs1 (cells + mc) (slots + ms) Q (F0 m (pc + 3) ls (va_rf r :: rest))) : W p l e R s m args below meth c H locs cells slots Q (F0 m pc ls st0) :=
  va_callq (va_runV S hM (gc_cw S hk hlink hd) (gc_pv hI hc hq he) rfl hn hls hst (lv_room hrest) hdg hf) hI.2.2 (fun _ _ h => h) (fun _ h => h) (fun r u t H1 locs1 ht _ hw hB _ _ hS1 => kk r u H1 locs1 hw ⟨hI.1, by rw [← ht]; exact hB.2, hS1⟩)
/-- the answer is a cell -/
theorem gc_Vr {post : Nat → gM → Prop} (S : CallFix p m c cc nL s args gw own) (hI : gB P f s H locs) (hM : gC l P y b maxL ret d mc ms (.ref a :: As) f (gQq P (fun r f1 => ∃ x, r = some x ∧ post x f1))) (hk : gV y b maxL ret n) (hlink : Cond.methodLink own index y ∈ gw) (he : f a = some (.inr (ci, fs))) (hc : gcl[ci]? = some q) (hq : q.1 = y.cls) (hn : As.length = n) (hls : ls.size = nL) (hst : st0 = As.reverse ++ .ref a :: rest) (hrest : (rest.map fun v => v.category).sum ≤ 8) (hd : d + 1 ≤ R.frames ∧ 8 + (maxL + 11) + 40 * d ≤ R.locals) (hf : cells + mc ≤ R.cells ∧ slots + ms ≤ R.slots) (hdg : decode cc pc = .ok (.invokevirtual index, 3))
    (kk : ∀ (x : Nat) (f1 : gM) (H1 : Heap) (locs1 : List Loc), post x f1 → gB P f1 s H1 locs1 → W p l e R s m args below meth c H1 locs1 (cells + mc) (slots + ms) Q (F0 m (pc + 3) ls (.ref x :: rest))) : W p l e R s m args below meth c H locs cells slots Q (F0 m pc ls st0) :=
  gc_Vq S hI hM hk hlink he hc hq hn hls hst hrest hd hf hdg (fun r f1 H1 locs1 hp hI1 => by
    obtain ⟨x, rfl, hp⟩ := hp
    exact kk x f1 H1 locs1 hp hI1)
theorem gc_Iv {post : gM → Prop} (S : CallFix p m c cc nL s args gw own) (hI : gB P f s H locs) (hM : gC l P y b maxL none d mc ms (.ref a :: As) f (gQv P post)) (hk : gVi y b maxL n) (hlink : Cond.methodLink own index y ∈ gw) (hn : As.length = n) (hls : ls.size = nL) (hst : st0 = As.reverse ++ .ref a :: rest) (hrest : (rest.map fun v => v.category).sum ≤ 8) (hd : d + 1 ≤ R.frames ∧ 8 + (maxL + 11) + 40 * d ≤ R.locals) (hf : cells + mc ≤ R.cells ∧ slots + ms ≤ R.slots) (hdg : decode cc pc = .ok (.invokespecial index, 3))
    (kk : ∀ (f1 : gM) (H1 : Heap) (locs1 : List Loc), post f1 → gB P f1 s H1 locs1 → W p l e R s m args below meth c H1 locs1 (cells + mc) (slots + ms) Q (F0 m (pc + 3) ls rest)) : W p l e R s m args below meth c H locs cells slots Q (F0 m pc ls st0) :=
  va_callv (va_runI S hM (cwI n S.2.2.2.2 (gw_good hk.1) rfl rfl rfl (S.2.2.2.2 _ hk.2.2.1) (S.2.2.2.2 _ hlink) (S.2.2.2.2 _ hk.2.1) hk.2.2.2.1 hk.2.2.2.2 hd) (gc_ps hI) rfl hn hls hst (lv_room hrest) hdg hf) hI.2.2 (fun _ _ h => h) (fun _ h => h) (fun u t H1 locs1 ht _ hw hB _ _ hS1 => kk u H1 locs1 hw ⟨hI.1, by rw [← ht]; exact hB.2, hS1⟩)
theorem gc_sw (S : CallFix p m c cc nL s args gw own) (hk : gVs y b maxL ret n) (hlink : Cond.methodLink own index y ∈ gw) (hd : d + 1 ≤ R.frames ∧ 8 + (maxL + 11) + 40 * d ≤ R.locals) : CallB R s args own index y b maxL ret (.code y b maxL ret :: gw) (grm d mc ms) mc ms n ∧ (Cond.static y).before args s = true :=
  ⟨callB_of n S.2.2.2.2 (gw_good hk.1) rfl rfl rfl (S.2.2.2.2 _ hk.2.2.1) (S.2.2.2.2 _ hlink) hk.2.2.2 hd, S.2.2.2.2 _ hk.2.1⟩
theorem gc_Si {post : Int32 → gM → Prop} (S : CallFix p m c cc nL s args gw own) (hI : gB P f s H locs) (hM : gC l P y b maxL ret d mc ms As f (gQi P post)) (hk : gVs y b maxL ret n) (hlink : Cond.methodLink own index y ∈ gw) (hn : As.length = n) (hls : ls.size = nL) (hst : st0 = As.reverse ++ rest) (hrest : (rest.map fun v => v.category).sum ≤ 8) (hd : d + 1 ≤ R.frames ∧ 8 + (maxL + 11) + 40 * d ≤ R.locals) (hf : cells + mc ≤ R.cells ∧ slots + ms ≤ R.slots) (hdg : decode cc pc = .ok (.invokestatic index, 3))
    (kk : ∀ (r : Int32) (f1 : gM) (H1 : Heap) (locs1 : List Loc), post r f1 → gB P f1 s H1 locs1 → W p l e R s m args below meth c H1 locs1 (cells + mc) (slots + ms) Q (F0 m (pc + 3) ls (.int r :: rest))) : W p l e R s m args below meth c H locs cells slots Q (F0 m pc ls st0) :=
  va_calli (va_runS S hM (gc_sw S hk hlink hd) (gc_ps hI) rfl hn hls hst (lv_room hrest) hdg hf) hI.2.2 (fun _ _ h => h) (fun _ h => h) (fun r u t H1 locs1 ht _ hw hB _ _ hS1 => kk r u H1 locs1 hw ⟨hI.1, by rw [← ht]; exact hB.2, hS1⟩)
theorem gc_Sv {post : gM → Prop} (S : CallFix p m c cc nL s args gw own) (hI : gB P f s H locs) (hM : gC l P y b maxL ret d mc ms As f (gQv P post)) (hk : gVs y b maxL ret n) (hlink : Cond.methodLink own index y ∈ gw) (hn : As.length = n) (hls : ls.size = nL) (hst : st0 = As.reverse ++ rest) (hrest : (rest.map fun v => v.category).sum ≤ 8) (hd : d + 1 ≤ R.frames ∧ 8 + (maxL + 11) + 40 * d ≤ R.locals) (hf : cells + mc ≤ R.cells ∧ slots + ms ≤ R.slots) (hdg : decode cc pc = .ok (.invokestatic index, 3))
    (kk : ∀ (f1 : gM) (H1 : Heap) (locs1 : List Loc), post f1 → gB P f1 s H1 locs1 → W p l e R s m args below meth c H1 locs1 (cells + mc) (slots + ms) Q (F0 m (pc + 3) ls rest)) : W p l e R s m args below meth c H locs cells slots Q (F0 m pc ls st0) :=
  va_callv (va_runS S hM (gc_sw S hk hlink hd) (gc_ps hI) rfl hn hls hst (lv_room hrest) hdg hf) hI.2.2 (fun _ _ h => h) (fun _ h => h) (fun u t H1 locs1 ht _ hw hB _ _ hS1 => kk u H1 locs1 hw ⟨hI.1, by rw [← ht]; exact hB.2, hS1⟩)
theorem gc_Sr {post : Nat → gM → Prop} (S : CallFix p m c cc nL s args gw own) (hI : gB P f s H locs) (hM : gC l P y b maxL ret d mc ms As f (gQq P (fun r f1 => ∃ x, r = some x ∧ post x f1))) (hk : gVs y b maxL ret n) (hlink : Cond.methodLink own index y ∈ gw) (hn : As.length = n) (hls : ls.size = nL) (hst : st0 = As.reverse ++ rest) (hrest : (rest.map fun v => v.category).sum ≤ 8) (hd : d + 1 ≤ R.frames ∧ 8 + (maxL + 11) + 40 * d ≤ R.locals) (hf : cells + mc ≤ R.cells ∧ slots + ms ≤ R.slots) (hdg : decode cc pc = .ok (.invokestatic index, 3))
    (kk : ∀ (x : Nat) (f1 : gM) (H1 : Heap) (locs1 : List Loc), post x f1 → gB P f1 s H1 locs1 → W p l e R s m args below meth c H1 locs1 (cells + mc) (slots + ms) Q (F0 m (pc + 3) ls (.ref x :: rest))) : W p l e R s m args below meth c H locs cells slots Q (F0 m pc ls st0) :=
  va_callq (va_runS S hM (gc_sw S hk hlink hd) (gc_ps hI) rfl hn hls hst (lv_room hrest) hdg hf) hI.2.2 (fun _ _ h => h) (fun _ h => h) (fun r u t H1 locs1 ht _ hw hB _ _ hS1 => by
    obtain ⟨x, rfl, hp⟩ := hw
    exact kk x u H1 locs1 hp ⟨hI.1, by rw [← ht]; exact hB.2, hS1⟩)
/-- ends -/
theorem gr_i {post : Int32 → gM → Prop} {v : Int32} (S : CallFix p m c cc nL s args gw own) (hr : meth.sig.returnType = some .int) (hlk : meth.locks = false) (hI : gB P f s H locs) (hp : post v f) (hdg : decode cc pc = .ok (.ireturn, 1)) : W p l e R s m args below meth c H locs cells slots (MQ below (gQi P post) args s cells slots (gA P)) (F0 m pc ls [.int v]) :=
  W.iret S.1 S.2.1 hr (fun t ht hW => ⟨⟨v, f, rfl, hp, hI.1.to hI.2.2 ht hW, by rw [ht]; exact hI.2.1⟩, hI.2.2.F ht⟩) hI.2.2.2.2 hdg hlk
theorem gr_z {post : Int32 → gM → Prop} {v : Int32} (S : CallFix p m c cc nL s args gw own) (hr : meth.sig.returnType = some .boolean) (hlk : meth.locks = false) (hI : gB P f s H locs) (hv : v = 0 ∨ v = 1) (hp : post v f) (hdg : decode cc pc = .ok (.ireturn, 1)) : W p l e R s m args below meth c H locs cells slots (MQ below (gQi P post) args s cells slots (gA P)) (F0 m pc ls [.int v]) :=
  W.zret S.1 S.2.1 hr (by rcases hv with rfl | rfl <;> rfl) (fun t ht hW => ⟨⟨v, f, rfl, hp, hI.1.to hI.2.2 ht hW, by rw [ht]; exact hI.2.1⟩, hI.2.2.F ht⟩) hI.2.2.2.2 hdg hlk
theorem gr_v {post : gM → Prop} (S : CallFix p m c cc nL s args gw own) (hr : meth.sig.returnType = none) (hlk : meth.locks = false) (hI : gB P f s H locs) (hp : post f) (hdg : decode cc pc = .ok (.return_, 1)) : W p l e R s m args below meth c H locs cells slots (MQ below (gQv P post) args s cells slots (gA P)) (F0 m pc ls []) :=
  W.vret S.1 S.2.1 hr (fun t ht hW => ⟨⟨f, rfl, hp, hI.1.to hI.2.2 ht hW, by rw [ht]; exact hI.2.1⟩, hI.2.2.F ht⟩) hI.2.2.2.2 hdg hlk
theorem gr_q {post : Option Nat → gM → Prop} {r : Option Nat} {rt : FieldType} (S : CallFix p m c cc nL s args gw own) (hr : meth.sig.returnType = some rt) (hrt : (∃ n, rt = .object n) ∨ ∃ t, rt = .array t) (hlk : meth.locks = false) (hI : gB P f s H locs) (hp : post r f) (hdg : decode cc pc = .ok (.areturn, 1)) : W p l e R s m args below meth c H locs cells slots (MQ below (gQq P post) args s cells slots (gA P)) (F0 m pc ls [va_rf r]) :=
  W.aret S.1 S.2.1 hr hrt (va_rf_or r) (fun t ht hW => ⟨⟨r, f, rfl, hp, hI.1.to hI.2.2 ht hW, by rw [ht]; exact hI.2.1⟩, hI.2.2.F ht⟩) hI.2.2.2.2 hdg hlk
theorem gr_r {post : Nat → gM → Prop} {x : Nat} {rt : FieldType} (S : CallFix p m c cc nL s args gw own) (hr : meth.sig.returnType = some rt) (hrt : (∃ n, rt = .object n) ∨ ∃ t, rt = .array t) (hlk : meth.locks = false) (hI : gB P f s H locs) (hp : post x f) (hdg : decode cc pc = .ok (.areturn, 1)) : W p l e R s m args below meth c H locs cells slots (MQ below (gQq P (fun r f1 => ∃ x, r = some x ∧ post x f1)) args s cells slots (gA P)) (F0 m pc ls [.ref x]) :=
  gr_q (r := some x) S hr hrt hlk hI ⟨x, rfl, hp⟩ hdg
/-- Object's constructor -/
theorem gc_obj (S : CallFix p m c cc nL s args gw own) (hlink : Cond.methodLink own index y_Obj_init ∈ gw) (hls : ls.size = nL) (hdg : decode cc pc = .ok (.invokespecial index, 3)) (hf : 1 ≤ R.frames) (hrest : (rest.map fun v => v.category).sum + 12 ≤ R.locals)
    (kk : W p l e R s m args below meth c H locs cells slots Q (F0 m (pc + 3) ls rest)) : W p l e R s m args below meth c H locs cells slots Q (F0 m pc ls (.ref a :: rest)) :=
  W.objInit S.1 S.2.1 S.2.2.2.1 (S.2.2.2.2 _ hlink) (S.2.2.2.2 _ wi_23) (S.2.2.2.2 _ wi_24) rfl (by rw [S.2.2.1]; exact hls) rfl hdg hf (by show 2 * 0 + _ + 12 ≤ _; omega) kk
theorem gc_max (S : CallFix p m c cc nL s args gw own) (hlink : Cond.methodLink own index y_Math_max ∈ gw) (hls : ls.size = nL) (hdg : decode cc pc = .ok (.invokestatic index, 3)) {x z : Nat} (hx : x < 2 ^ 31) (hz : z < 2 ^ 31) (hf : 1 ≤ R.frames) (hrest : (rest.map fun v => v.category).sum + 13 ≤ R.locals) (h1 : cells ≤ R.cells) (h2 : slots ≤ R.slots)
    (kk : W p l e R s m args below meth c H locs cells slots Q (F0 m (pc + 3) ls (.int (nI (max x z)) :: rest))) : W p l e R s m args below meth c H locs cells slots Q (F0 m pc ls (.int (nI z) :: .int (nI x) :: rest)) := by
  refine va_mmax S.1 S.2.1 (S.2.2.1.trans hls.symm) S.2.2.2.1 (S.2.2.2.2 _ hlink) (S.2.2.2.2 _ wi_230) (S.2.2.2.2 _ wi_12) (S.2.2.2.2 _ wi_231) hf hrest h1 h2 hdg ?_
  have e1 : (if nI x < nI z then nI z else nI x) = nI (max x z) := by
    by_cases h : x < z
    · rw [if_pos (nI_lt h hz), Nat.max_eq_right (Nat.le_of_lt h)]
    · rw [if_neg (nI_nlt (by omega) hx), Nat.max_eq_left (by omega)]
  rw [e1]
  exact kk
theorem gc_min (S : CallFix p m c cc nL s args gw own) (hlink : Cond.methodLink own index y_Math_min ∈ gw) (hls : ls.size = nL) (hdg : decode cc pc = .ok (.invokestatic index, 3)) {x z : Nat} (hx : x < 2 ^ 31) (hz : z < 2 ^ 31) (hf : 1 ≤ R.frames) (hrest : (rest.map fun v => v.category).sum + 13 ≤ R.locals) (h1 : cells ≤ R.cells) (h2 : slots ≤ R.slots)
    (kk : W p l e R s m args below meth c H locs cells slots Q (F0 m (pc + 3) ls (.int (nI (min x z)) :: rest))) : W p l e R s m args below meth c H locs cells slots Q (F0 m pc ls (.int (nI z) :: .int (nI x) :: rest)) := by
  refine va_mmin S.1 S.2.1 (S.2.2.1.trans hls.symm) S.2.2.2.1 (S.2.2.2.2 _ hlink) (S.2.2.2.2 _ wi_166) (S.2.2.2.2 _ wi_12) (S.2.2.2.2 _ wi_167) hf hrest h1 h2 hdg ?_
  have e1 : (if nI z < nI x then nI z else nI x) = nI (min x z) := by
    by_cases h : z < x
    · rw [if_pos (nI_lt h hx), Nat.min_eq_right (Nat.le_of_lt h)]
    · rw [if_neg (nI_nlt (by omega) hz), Nat.min_eq_left (by omega)]
  rw [e1]
  exact kk
end GCL
