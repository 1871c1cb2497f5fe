/-! the files as a list of values, over the shelf's steps -/
theorem map_up {L : List Nat} {af : Nat → AFile} {x : Nat} {v : AFile} (h : x ∉ L) : L.map (va_up af x v) = L.map af := List.map_congr_left (fun q hq => va_up_ne _ _ (fun z => h (by rw [← z]; exact hq)))
theorem map_ins (F : Nat → AFile) : ∀ (L : List Nat) (i x : Nat), (L.insertIdx i x).map F = (L.map F).insertIdx i (F x)
  | _, 0, _ => by simp
  | [], i + 1, _ => by simp
  | a :: l, i + 1, x => by simp [map_ins F l i x]
theorem map_ins_up {L : List Nat} {af : Nat → AFile} {x i : Nat} {v : AFile} (h : x ∉ L) : (L.insertIdx i x).map (va_up af x v) = (L.map af).insertIdx i v := by
  rw [map_ins, map_up h, va_up_self]
theorem map_set_up {L : List Nat} {af : Nat → AFile} {x k : Nat} {v : AFile} (hnd : L.Nodup) (hx : L[k]? = some x) : L.map (va_up af x v) = (L.map af).set k v := by
  apply List.ext_getElem?
  intro j
  rw [List.getElem?_map]
  by_cases e : j = k
  · subst e
    have hl := (List.getElem?_eq_some_iff.mp hx).1
    rw [hx, List.getElem?_set_self (by simpa using hl)]
    show some (va_up af x v x) = some v
    rw [va_up_self]
  · rw [List.getElem?_set_ne (Ne.symm e), List.getElem?_map]
    cases hj : L[j]? with
    | none => rfl
    | some q =>
      show some (va_up af x v q) = some (af q)
      rw [va_up_ne _ _ (fun z => e ?_)]
      obtain ⟨a1, a2⟩ := List.getElem?_eq_some_iff.mp hj
      obtain ⟨b1, b2⟩ := List.getElem?_eq_some_iff.mp hx
      exact (List.getElem_inj hnd).mp (a2.trans (z.trans b2.symm))
theorem sum_ins {F : Nat → Nat} {L : List Nat} {x i : Nat} (hi : i ≤ L.length) : ((L.insertIdx i x).map F).sum = F x + (L.map F).sum := by
  have hp : ((L.insertIdx i x).map F).Perm ((x :: L).map F) := (List.perm_insertIdx x L hi).map F
  rw [hp.sum_nat]; simp
theorem sum_er {F : Nat → Nat} : ∀ {L : List Nat} {x k : Nat}, L[k]? = some x → ((L.eraseIdx k).map F).sum + F x = (L.map F).sum
  | a :: l, x, 0, h => by
    simp at h
    subst h
    simp; omega
  | a :: l, x, k + 1, h => by
    have := sum_er (F := F) (L := l) (k := k) (by simpa using h)
    simp; omega
theorem sum_congr {F G : Nat → Nat} : ∀ {L : List Nat}, (∀ q ∈ L, F q = G q) → (L.map F).sum = (L.map G).sum
  | [], _ => rfl
  | a :: l, h => by
    simp only [List.map_cons, List.sum_cons]
    rw [h a (by simp), sum_congr (fun q hq => h q (by simp [hq]))]
/-- one file is changed -/
theorem sum_up {G : AFile → Nat} {af : Nat → AFile} {x : Nat} {v : AFile} : ∀ {L : List Nat}, L.Nodup → x ∈ L → (L.map (fun q => G (va_up af x v q))).sum + G (af x) = (L.map (fun q => G (af q))).sum + G v
  | a :: l, hnd, hx => by
    obtain ⟨h1, h2⟩ := List.nodup_cons.mp hnd
    simp only [List.map_cons, List.sum_cons]
    rcases List.mem_cons.mp hx with e | e
    · subst e
      rw [va_up_self, sum_congr (L := l) (G := fun q => G (af q)) (fun q hq => by rw [va_up_ne _ _ (fun z => h1 (by rw [← z]; exact hq))])]
      omega
    · have := sum_up (G := G) (af := af) (v := v) h2 e
      rw [va_up_ne _ _ (fun z => h1 (by rw [z]; exact e))]
      omega
theorem cnt_le {len : Nat} {ld : Nat → Bool} {C : Nat → Nat} (h : wfF len ld C) : ∀ k, cntL ld k ≤ (len + 447) / 448
  | 0 => by unfold cntL; omega
  | k + 1 => by
    unfold cntL
    by_cases c : ld k = true
    · rw [if_pos c]
      have h1 := cntL_le ld k
      have h2 := h.2.2.1 k c
      omega
    · rw [if_neg c]
      exact cnt_le h k
theorem sumC_le {af : Nat → AFile} : ∀ {L : List Nat}, (∀ q ∈ L, wfF (af q).2.2.1 (af q).2.2.2.1 (af q).2.2.2.2) → 448 * sumC af L ≤ sumB af L + 447 * L.length
  | [], _ => by simp [sumC, sumB]
  | a :: l, h => by
    have h1 := sumC_le (af := af) (L := l) (fun q hq => h q (by simp [hq]))
    have h2 := cnt_le (h a (by simp)) 19
    unfold sumC sumB at *
    simp only [List.map_cons, List.sum_cons, List.length_cons]
    omega
theorem sumC_121 {af : Nat → AFile} {L : List Nat} (h : ∀ q ∈ L, wfF (af q).2.2.1 (af q).2.2.2.1 (af q).2.2.2.2) (hb : sumB af L ≤ 32768) (hl : L.length ≤ 48) : sumC af L ≤ 121 := by
  have := sumC_le h
  omega
theorem wC_lF {C : Nat → Nat} {g : Nat → Int32} {fr n : Nat} : wC C (fun i => ub (g i)) fr n = wC C (lF (nmL n g)) fr n := by
  funext p; unfold wC lF
  by_cases h : fr ≤ p ∧ p < fr + n
  · rw [if_pos h, if_pos h, List.getD_eq_getElem?_getD, nmL_get (by omega)]; rfl
  · rw [if_neg h, if_neg h]
/-- a written file keeps its law -/
theorem wfF_wr {len fr n : Nat} {ld : Nat → Bool} {C T : Nat → Nat} (h : wfF len ld C) (h8 : (if n = 0 then len else max len (fr + n)) ≤ 8192) : wfF (if n = 0 then len else max len (fr + n)) (wl ld fr n) (wC C T fr n) := by
  obtain ⟨a1, a2, a3, a4⟩ := h
  by_cases hn : n = 0
  · subst hn
    rw [if_pos rfl] at h8 ⊢
    have e1 : wl ld fr 0 = ld := by funext t; unfold wl; rw [show decide (max fr (448 * t) < min (fr + 0) (448 * t + 448)) = false by simp; omega]; simp
    have e2 : wC C T fr 0 = C := by funext p; unfold wC; rw [if_neg (by omega)]
    rw [e1, e2]; exact ⟨a1, a2, a3, a4⟩
  · rw [if_neg hn] at h8 ⊢
    refine ⟨h8, fun p hp => ?_, fun s hs => ?_, fun p hp => ?_⟩
    · unfold wC; rw [if_neg (by omega)]; exact a2 p (by omega)
    · unfold wl at hs
      rcases (Bool.or_eq_true _ _).mp hs with e | e
      · have := a3 s e; omega
      · have := of_decide_eq_true e; omega
    · unfold wl at hp
      obtain ⟨p1, p2⟩ := Bool.or_eq_false_iff.mp hp
      have p3 := of_decide_eq_false p2
      unfold wC
      rw [if_neg (by omega)]
      exact a4 p p1
theorem wfF_cut {len n : Nat} {ld : Nat → Bool} {C : Nat → Nat} (h : wfF len ld C) (hn : n ≤ 8192) : wfF n (ctl ld n) (ctc C n) := by
  obtain ⟨a1, a2, a3, a4⟩ := h
  refine ⟨hn, fun p hp => by unfold ctc; rw [if_pos hp], fun s hs => ?_, fun p hp => ?_⟩
  · unfold ctl at hs
    exact of_decide_eq_true ((Bool.and_eq_true _ _).mp hs).2
  · unfold ctc
    by_cases c : n ≤ p
    · rw [if_pos c]
    · rw [if_neg c]
      unfold ctl at hp
      rcases (Bool.and_eq_false_iff).mp hp with e | e
      · exact a4 p e
      · have := of_decide_eq_false e; omega
theorem getD_map {L : List Nat} {af : Nat → AFile} {k x : Nat} {d : AFile} (h : L[k]? = some x) : (L.map af).getD k d = af x := by
  rw [List.getD_eq_getElem?_getD, List.getElem?_map, h]; rfl
theorem idx_get {L : List Nat} {af : Nat → AFile} {nm : List Nat} {k : Nat} (h : idx (nms af L) nm = some k) : ∃ x, L[k]? = some x ∧ (af x).1 = nm ∧ x ∈ L := by
  obtain ⟨h1, -, h3⟩ := idx_lt h
  rw [nms_get] at h3
  cases hx : L[k]? with
  | none => rw [hx] at h3; cases h3
  | some x =>
    rw [hx] at h3
    exact ⟨x, rfl, Option.some.inj h3, List.mem_of_getElem? hx⟩
