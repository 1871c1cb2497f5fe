/-! lists: ArrayList's two cells -/
section GHL
variable {p : Program} {l : Launch} {e : Env} {R : Room} {s : State} {m : MethodId} {args : Array Value} {below : List Frame} {meth : Method} {c : Code} {H : Heap} {locs : List Loc} {cells slots : Nat} {Q : State → Prop}
variable {cc : ByteArray} {pc : Nat} {ls : Array Slot} {rest : List Value} {P : gPar} {a : Nat} {f : gM} {own : String} {index nL : Nat}
theorem gh_gets0 (S : CallFix p m c cc nL s args gw own) (hI : gB P f s H locs) (hlink : Cond.fieldLink own index R_AL "DEFAULTCAPACITY_EMPTY_ELEMENTDATA" "[Ljava/lang/Object;" ∈ gw) (hdg : decode cc pc = .ok (.getstatic index, 3))
    (kk : W p l e R s m args below meth c H locs cells slots Q (F0 m (pc + 3) ls (.ref P.2.2.2.1 :: rest))) : W p l e R s m args below meth c H locs cells slots Q (F0 m pc ls rest) :=
  va_gets S.1 S.2.1 hI.1.2.2.2.2.2.2.2.1 hI.2.2 S.2.2.2.1 (S.2.2.2.2 _ hlink) (fun _ h => h) hdg kk
theorem gh_zlen (S : CallFix p m c cc nL s args gw own) (hI : gB P f s H locs) (hdg : decode cc pc = .ok (.arraylength, 1))
    (kk : W p l e R s m args below meth c H locs cells slots Q (F0 m (pc + 1) ls (.int (nI 0) :: rest))) : W p l e R s m args below meth c H locs cells slots Q (F0 m pc ls (.ref P.2.2.2.1 :: rest)) :=
  va_tlen S.1 S.2.1 hI.1.2.2.2.2.2.2.2.2.1 hI.2.2 rfl hdg kk
theorem gh_ldcM (S : CallFix p m c cc nL s args gw own) (hI : gB P f s H locs) (hlink : Cond.classLink own index "[Ljava/lang/Object;" ∈ gw) (hdg : decode cc pc = .ok (.ldc index, 2))
    (kk : W p l e R s m args below meth c H locs cells slots Q (F0 m (pc + 2) ls (.ref P.2.2.2.2 :: rest))) : W p l e R s m args below meth c H locs cells slots Q (F0 m pc ls rest) :=
  va_ldcM S.1 S.2.1 S.2.2.2.1 (S.2.2.2.2 _ hlink) hI.1.2.2.2.2.2.2.1 hdg kk
theorem gh_acmpne {x : Nat} {off : Int} (S : CallFix p m c cc nL s args gw own) (hdg : decode cc pc = .ok (.if_acmp .ne off, 3)) {tgt : Nat} (ht : (pc : Int) + off = (tgt : Int))
    (kk : W p l e R s m args below meth c H locs cells slots Q (F0 m (pc + 3) ls rest)) : W p l e R s m args below meth c H locs cells slots Q (F0 m pc ls (.ref x :: .ref x :: rest)) :=
  lv_acmp_ne (rx := some x) (ry := some x) (tgt := tgt) S.1 S.2.1 hdg ht (fun h => absurd rfl h) (fun _ => kk)
theorem gh_acmpeq {x : Nat} {off : Int} (S : CallFix p m c cc nL s args gw own) (hdg : decode cc pc = .ok (.if_acmp .eq off, 3)) {tgt : Nat} (ht : (pc : Int) + off = (tgt : Int))
    (kk : W p l e R s m args below meth c H locs cells slots Q (F0 m tgt ls rest)) : W p l e R s m args below meth c H locs cells slots Q (F0 m pc ls (.ref x :: .ref x :: rest)) :=
  lv_acmp_eq (rx := some x) (ry := some x) (tgt := tgt) S.1 S.2.1 hdg ht (fun _ => kk) (fun h => absurd rfl h)
theorem gh_recvA {n : Nat} {g : Nat → Option Nat} (hI : gB P f s H locs) (he : f a = some (.inl (P.2.1 4, n, .inr (.inr (.inr (.inr g)))))) : ∃ cell : Cell, H[a]? = some cell ∧ cell.vm.isStatics = false ∧ s.vm.findClass "[Ljava/lang/Object;" = some cell.cls := by
  obtain ⟨hX, hH, hS⟩ := hI
  obtain ⟨L, k0, hL, hP, hD, h0⟩ := gh_open hH he
  refine ⟨_, hP k0 _ h0, rfl, ?_⟩
  exact va_nmO (hX.1.2 4 _ rfl).2 (by decide +kernel)
theorem gh_getC {n : Nat} {g : Nat → Option Nat} (S : CallFix p m c cc nL s args gw own) (hI : gB P f s H locs) (hls : ls.size = nL) (he : f a = some (.inl (P.2.1 4, n, .inr (.inr (.inr (.inr g)))))) (hlink : Cond.methodLink own index ⟨"java/lang/Object", "getClass", "()Ljava/lang/Class;"⟩ ∈ gw) (hsel : Cond.selects "[Ljava/lang/Object;" ⟨"java/lang/Object", "getClass", "()Ljava/lang/Class;"⟩ ⟨"java/lang/Object", "getClass", "()Ljava/lang/Class;"⟩ ∈ gw) (hinst : Cond.instanceMethod ⟨"java/lang/Object", "getClass", "()Ljava/lang/Class;"⟩ ∈ gw) (hnat : Cond.native ⟨"java/lang/Object", "getClass", "()Ljava/lang/Class;"⟩ ∈ gw) (hf : 1 ≤ R.frames) (hrest : (rest.map fun v => v.category).sum + 14 ≤ R.locals) (hdg : decode cc pc = .ok (.invokevirtual index, 3))
    (kk : W p l e R s m args below meth c H locs cells slots Q (F0 m (pc + 3) ls (.ref P.2.2.2.2 :: rest))) : W p l e R s m args below meth c H locs cells slots Q (F0 m pc ls (.ref a :: rest)) :=
  va_getC S.1 S.2.1 (S.2.2.1.trans hls.symm) S.2.2.2.1 (S.2.2.2.2 _ hlink) (va_Dc.use hI.1.2.2.2.2.2.1) (S.2.2.2.2 _ hsel) (S.2.2.2.2 _ hinst) (S.2.2.2.2 _ hnat) hI.1.2.2.2.2.2.2.1 (gh_recvA hI he) hf hrest hdg kk
end GHL
/-- all of L are objects of the class k, File or Piece -/
def gEl (k : Nat) (f : gM) (L : List Nat) : Prop := (k = 4 ∨ k = 2) ∧ ∀ y ∈ L, ∃ fs, f y = some (.inr (k, fs))
theorem gEl.fr {k : Nat} {f f1 : gM} {L l : List Nat} (h : gEl k f L) (hF : gFr f f1 l) (hl : ∀ y ∈ L, y ∉ l) : gEl k f1 L := ⟨h.1, fun y hy => by
  obtain ⟨fs, e⟩ := h.2 y hy
  exact ⟨fs, hF y _ e (hl y hy)⟩⟩
theorem gEl.any {p : Program} {k : Nat} {f : gM} {L : List Nat} {P : gPar} {s : State} {H : Heap} {locs : List Loc} (h : gEl k f L) (hI : gB P f s H locs) {y : Nat} (hy : y ∈ L) : va_Any "java/lang/Object" s H y := by
  obtain ⟨hk, h⟩ := h
  obtain ⟨fs, e⟩ := h y hy
  rcases hk with rfl | rfl
  · exact gh_any hI e (r := (R_File, F_File, 5)) rfl hI.1.2.2.1.2.2.2.2.1
  · exact gh_any hI e (r := (R_Piece, F_Piece, 1)) rfl hI.1.2.2.1.2.2.2.2.2
/-- the array e of cap places holds L at its beginning -/
def gAr (P : gPar) (f : gM) (e cap : Nat) (L : List Nat) : Prop := ∃ g : Nat → Option Nat, f e = some (.inl (P.2.1 4, cap, .inr (.inr (.inr (.inr g))))) ∧ L.length ≤ cap ∧ ∀ i, i < L.length → g i = L[i]?
/-- the list object a with its array e holds L -/
def gLi (P : gPar) (f : gM) (a e cap : Nat) (L : List Nat) : Prop := (∃ m : Int32, f a = some (.inr (6, [.int m, .ref e, .int (nI L.length)]))) ∧ ((e = P.2.2.2.1 ∧ cap = 0 ∧ L = []) ∨ (0 < cap ∧ gAr P f e cap L))
theorem gAr.fr {P : gPar} {f f1 : gM} {e cap : Nat} {L l : List Nat} (h : gAr P f e cap L) (hF : gFr f f1 l) (he : e ∉ l) : gAr P f1 e cap L := by
  obtain ⟨g, h1, h2, h3⟩ := h
  exact ⟨g, hF e _ h1 he, h2, h3⟩
theorem gLi.fr {P : gPar} {f f1 : gM} {a e cap : Nat} {L l : List Nat} (h : gLi P f a e cap L) (hF : gFr f f1 l) (ha : a ∉ l) (he : e ∉ l) : gLi P f1 a e cap L := by
  obtain ⟨⟨m, h1⟩, h2⟩ := h
  exact ⟨⟨m, hF a _ h1 ha⟩, h2.imp id (fun z => ⟨z.1, z.2.fr hF he⟩)⟩
theorem gLi.ar {P : gPar} {f : gM} {a e cap : Nat} {L : List Nat} (h : gLi P f a e cap L) {i : Nat} (hi : i < L.length) : gAr P f e cap L := by
  rcases h.2 with ⟨-, -, rfl⟩ | h
  · simp at hi
  · exact h.2
theorem gLi.le {P : gPar} {f : gM} {a e cap : Nat} {L : List Nat} (h : gLi P f a e cap L) : L.length ≤ cap := by
  rcases h.2 with ⟨-, rfl, rfl⟩ | ⟨-, g, -, h, -⟩
  · exact Nat.le_refl _
  · exact h
theorem l_set {L : List Nat} {g : Nat → Option Nat} {i x : Nat} (h : ∀ j, j < L.length → g j = L[j]?) : ∀ j, j < (L.set i x).length → va_up g i (some x) j = (L.set i x)[j]? := fun j hj => by
  rw [List.length_set] at hj
  by_cases e : j = i
  · subst e; rw [va_up_self, List.getElem?_set_self hj]
  · rw [va_up_ne _ _ e, List.getElem?_set_ne (Ne.symm e)]; exact h j hj
theorem l_push {L : List Nat} {g : Nat → Option Nat} {x : Nat} (h : ∀ j, j < L.length → g j = L[j]?) : ∀ j, j < (L ++ [x]).length → va_up g L.length (some x) j = (L ++ [x])[j]? := fun j hj => by
  rw [List.length_append, List.length_singleton] at hj
  by_cases e : j = L.length
  · subst e; rw [va_up_self, List.getElem?_append_right (Nat.le_refl _), Nat.sub_self]; rfl
  · rw [va_up_ne _ _ e, List.getElem?_append_left (by omega)]; exact h j (by omega)
theorem l_erase {L : List Nat} {g : Nat → Option Nat} {i k : Nat} {z : Option Nat} (hi : i < L.length) (hk : k = L.length - 1 - i) (h : ∀ j, j < L.length → g j = L[j]?) : ∀ j, j < (L.eraseIdx i).length → va_up (va_cpy g g (i + 1) i k) (L.length - 1) z j = (L.eraseIdx i)[j]? := fun j hj => by
  rw [List.length_eraseIdx_of_lt hi] at hj
  rw [va_up_ne _ _ (by omega), List.getElem?_eraseIdx]
  by_cases e : j < i
  · rw [if_pos e, pk_cpy_out (Or.inl e)]; exact h j (by omega)
  · rw [if_neg e, pk_cpy_in (by omega) (by omega), h _ (by omega)]
    congr 1; omega
theorem l_erase1 {L : List Nat} {g : Nat → Option Nat} {z : Option Nat} (hi : 0 < L.length) (h : ∀ j, j < L.length → g j = L[j]?) : ∀ j, j < (L.eraseIdx (L.length - 1)).length → va_up g (L.length - 1) z j = (L.eraseIdx (L.length - 1))[j]? := fun j hj => by
  rw [List.length_eraseIdx_of_lt (by omega)] at hj
  rw [va_up_ne _ _ (by omega), List.getElem?_eraseIdx, if_pos (by omega)]
  exact h j (by omega)
theorem l_ins {L : List Nat} {g : Nat → Option Nat} {i x k : Nat} (hi : i ≤ L.length) (hk : k = L.length - i) (h : ∀ j, j < L.length → g j = L[j]?) : ∀ j, j < (L.insertIdx i x).length → va_up (va_cpy g g i (i + 1) k) i (some x) j = (L.insertIdx i x)[j]? := fun j hj => by
  rw [List.length_insertIdx_of_le_length hi] at hj
  rw [List.getElem?_insertIdx]
  by_cases e : j < i
  · rw [if_pos e, va_up_ne _ _ (by omega), pk_cpy_out (by omega)]; exact h j (by omega)
  · rw [if_neg e]
    by_cases e2 : j = i
    · subst e2; rw [va_up_self, if_pos rfl, if_pos hi]
    · rw [if_neg e2, va_up_ne _ _ e2, pk_cpy_in (by omega) (by omega), h _ (by omega)]
      congr 1; omega
/-- how many places a full array of n gets -/
def gcap (n : Nat) : Nat := if n = 0 then 10 else n + max 1 (n / 2)
theorem gh_aastA {p : Program} {l : Launch} {e : Env} {R : Room} {s : State} {m : MethodId} {args : Array Value} {below : List Frame} {meth : Method} {c : Code} {H : Heap} {locs : List Loc} {cells slots : Nat} {Q : State → Prop} {cc : ByteArray} {pc : Nat} {ls : Array Slot} {rest : List Value} {P : gPar} {a : Nat} {f : gM} {own : String} {nL : Nat}
    (S : CallFix p m c cc nL s args gw own) (hI : gB P f s H locs) {n v k : Nat} {vs : List Value} {g : Nat → Option Nat} (he : f a = some (.inl (P.2.1 4, n, .inr (.inr (.inr (.inr g)))))) (hk : k = 4 ∨ k = 2) (hv : f v = some (.inr (k, vs))) {i : Int32} {j : Nat} (hi : i = nI j) (hj : j < n) (hn : n < 2 ^ 31) (hdg : decode cc pc = .ok (.aastore, 1))
    (kk : ∀ (H1 : Heap) (locs1 : List Loc), gB P (va_up f a (some (.inl (P.2.1 4, n, .inr (.inr (.inr (.inr (va_up g j (some v))))))))) s H1 locs1 → W p l e R s m args below meth c H1 locs1 cells slots Q (F0 m (pc + 1) ls rest)) : W p l e R s m args below meth c H locs cells slots Q (F0 m pc ls (.ref v :: .int i :: .ref a :: rest)) := by
  rcases hk with rfl | rfl
  · exact gh_aastO S hI 4 he rfl (r := (R_File, F_File, 5)) hI.1.2.2.1.2.2.2.2.1 hv rfl hi hj hn hdg kk
  · exact gh_aastO S hI 4 he rfl (r := (R_Piece, F_Piece, 1)) hI.1.2.2.1.2.2.2.2.2 hv rfl hi hj hn hdg kk
