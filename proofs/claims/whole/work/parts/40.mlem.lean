/-! the reference's files over its steps -/
theorem mem_er {L : List Nat} (hnd : L.Nodup) {k q x : Nat} (hk : L[k]? = some q) : x ∈ L.eraseIdx k ↔ x ∈ L ∧ x ≠ q := by
  constructor
  · intro h
    exact ⟨List.mem_of_mem_eraseIdx h, fun z => nodup_er hnd hk (by rw [← z]; exact h)⟩
  · rintro ⟨h1, h2⟩
    obtain ⟨j, hj⟩ := List.getElem?_of_mem h1
    have hjk : j ≠ k := fun z => h2 (by rw [z, hk] at hj; injection hj with hj; exact hj.symm)
    by_cases c : j < k
    · exact List.mem_of_getElem? (i := j) (by rw [List.getElem?_eraseIdx, if_pos c]; exact hj)
    · exact List.mem_of_getElem? (i := j - 1) (by rw [List.getElem?_eraseIdx, if_neg (by omega), show j - 1 + 1 = j by omega]; exact hj)
theorem nd_ins {L : List Nat} {p q : Nat} (h : L.Nodup) (hq : q ∉ L) (hp : p ≤ L.length) : (L.insertIdx p q).Nodup := by
  have := nodup_ins (S := []) (L := L) (x := q) (i := p) (by simpa using h) (by simpa using hq) hp
  simpa using this
theorem mFb_ne {gi gz gy ga gi1 gz1 gy1 ga1 : Nat → Int32} {q : Nat} {v : AFile} (h : mFb gi gz gy ga q v) (h1 : gi1 q = gi q) (h2 : gz1 q = gz q) (h3 : ∀ p, p < v.2.2.1 → gy1 (8192 * q + p) = gy (8192 * q + p)) (h4 : ∀ s, s < 19 → ga1 (19 * q + s) = ga (19 * q + s)) : mFb gi1 gz1 gy1 ga1 q v := by
  obtain ⟨a1, a2, a3, a4⟩ := h
  exact ⟨h1.trans a1, h2.trans a2, fun p hp => by rw [h3 p hp]; exact a3 p hp, fun s hs => by rw [h4 s hs]; exact a4 s hs⟩
theorem mFs_resize {go gu gf gk gi gz gy ga gy1 ga1 : Nat → Int32} {L : List Nat} {af : Nat → AFile} {q n : Nat} (h : mFs go gu gf gk gi gz gy ga L af) (hq : q ∈ L) (hw : ∀ x ∈ L, wfF (af x).2.2.1 (af x).2.2.2.1 (af x).2.2.2.2) (hn : n ≤ 8192) (hy : ∀ x, gy1 x = if 8192 * q + (af q).2.2.1 ≤ x ∧ x < 8192 * q + n then 0 else gy x) (ha : ∀ x, ga1 x = if 19 * q ≤ x ∧ x < 19 * q + 19 ∧ n ≤ 448 * (x - 19 * q) then 0 else ga x) : mFs go gu gf gk gi (upd gz q (nI n)) gy1 ga1 L (va_up af q (fCut (af q) n)) := by
  obtain ⟨a1, a2, a3, a4, a5⟩ := h
  refine ⟨a1, a2, a3, a4, fun x hx => ?_⟩
  obtain ⟨b1, b2, b3⟩ := a5 x hx
  by_cases e : x = q
  · subst e
    rw [va_up_self]
    obtain ⟨c1, c2, c3, c4⟩ := b3
    obtain ⟨w1, w2, w3, w4⟩ := hw x hx
    refine ⟨b1, b2, c1, pk_us, fun p hp => ?_, fun s hs => ?_⟩
    · have hp : p < n := hp
      show ub (gy1 (8192 * x + p)) = ctc (af x).2.2.2.2 n p
      unfold ctc
      rw [if_neg (by omega), hy]
      by_cases c : (af x).2.2.1 ≤ p
      · rw [if_pos (by omega), w2 p c]; exact ub_0
      · rw [if_neg (by omega)]; exact c3 p (by omega)
    · show ga1 (19 * x + s) = if ctl (af x).2.2.2.1 n s = true then 1 else 0
      rw [ha]
      unfold ctl
      by_cases c : n ≤ 448 * s
      · rw [if_pos ⟨by omega, by omega, by rw [Nat.add_sub_cancel_left]; exact c⟩, if_neg (by simp; omega)]
      · rw [if_neg (fun z => c (by have := z.2.2; rw [Nat.add_sub_cancel_left] at this; exact this)), c4 s hs]
        have : decide (448 * s < n) = true := decide_eq_true (by omega)
        rw [this, Bool.and_true]
  · rw [va_up_ne _ _ e]
    have := (hw x hx).1
    refine ⟨b1, b2, mFb_ne b3 rfl (pk_un e) (fun p hp => ?_) (fun s hs => ?_)⟩
    · rw [hy, if_neg (by omega)]
    · rw [ha, if_neg (by omega)]
theorem mFs_made {go gu gf gk gi gz gy ga g4 g6 g7 g11 : Nat → Int32} {L : List Nat} {af : Nat → AFile} {q p : Nat} {nm : List Nat} {idv : Int32} (h : mFs go gu gf gk gi gz gy ga L af) (hq : q < 48) (hqL : q ∉ L) (hl : L.length < 48) (hp : p ≤ L.length) (hO : mOr g4 (L.insertIdx p q)) (hK : mNk g6 g7 q nm) (hKo : ∀ k2 nm2, k2 ≠ q → mNk gf gk k2 nm2 → mNk g6 g7 k2 nm2) (hA : ∀ x, g11 x = if 19 * q ≤ x ∧ x < 19 * q + 19 then 0 else ga x) : mFs g4 (upd gu q (nI 1)) g6 g7 (upd gi q idv) (upd gz q (nI 0)) gy g11 (L.insertIdx p q) (va_up af q (fNew nm idv)) := by
  obtain ⟨a1, a2, a3, a4, a5⟩ := h
  refine ⟨nd_ins a1 hqL hp, by rw [List.length_insertIdx_of_le_length hp]; omega, hO, fun x hx => ?_, fun x hx => ?_⟩
  · by_cases e : x = q
    · rw [e, pk_us, if_pos ((mem_ins hp).mpr (Or.inl rfl))]; rfl
    · rw [pk_un e, a4 x hx]
      by_cases c : x ∈ L
      · rw [if_pos c, if_pos ((mem_ins hp).mpr (Or.inr c))]
      · rw [if_neg c, if_neg (fun z => ((mem_ins hp).mp z).elim e c)]
  · rcases (mem_ins hp).mp hx with e | e
    · rw [e, va_up_self]
      refine ⟨hq, hK, pk_us, pk_us, fun p hp => absurd hp (Nat.not_lt_zero _), fun s hs => ?_⟩
      rw [hA, if_pos (by omega)]; rfl
    · have hne : x ≠ q := fun z => hqL (by rw [← z]; exact e)
      rw [va_up_ne _ _ hne]
      obtain ⟨b1, b2, b3⟩ := a5 x e
      exact ⟨b1, hKo x _ hne b2, mFb_ne b3 (pk_un hne) (pk_un hne) (fun _ _ => rfl) (fun s hs => by rw [hA, if_neg (by omega)])⟩
theorem mFs_gone {go gu gf gk gi gz gy ga g4 : Nat → Int32} {L : List Nat} {af : Nat → AFile} {q k : Nat} (h : mFs go gu gf gk gi gz gy ga L af) (hk : L[k]? = some q) (hO : mOr g4 (L.eraseIdx k)) : mFs g4 (upd gu q (nI 0)) gf gk gi gz gy ga (L.eraseIdx k) af := by
  obtain ⟨a1, a2, a3, a4, a5⟩ := h
  have hkl := (List.getElem?_eq_some_iff.mp hk).1
  refine ⟨a1.sublist (List.eraseIdx_sublist L k), by rw [List.length_eraseIdx_of_lt hkl]; omega, hO, fun x hx => ?_, fun x hx => a5 x (List.mem_of_mem_eraseIdx hx)⟩
  by_cases e : x = q
  · rw [e, pk_us, if_neg (fun z => ((mem_er a1 hk).mp z).2 rfl)]; rfl
  · rw [pk_un e, a4 x hx]
    by_cases c : x ∈ L
    · rw [if_pos c, if_pos ((mem_er a1 hk).mpr ⟨c, e⟩)]
    · rw [if_neg c, if_neg (fun z => c ((mem_er a1 hk).mp z).1)]
theorem mFs_ren {go gu gf gk gi gz gy ga g4 g6 g7 : Nat → Int32} {L : List Nat} {af : Nat → AFile} {q k p : Nat} {nm : List Nat} (h : mFs go gu gf gk gi gz gy ga L af) (hk : L[k]? = some q) (hp : p ≤ (L.eraseIdx k).length) (hO : mOr g4 ((L.eraseIdx k).insertIdx p q)) (hK : mNk g6 g7 q nm) (hKo : ∀ k2 nm2, k2 ≠ q → mNk gf gk k2 nm2 → mNk g6 g7 k2 nm2) : mFs g4 gu g6 g7 gi gz gy ga ((L.eraseIdx k).insertIdx p q) (va_up af q (nm, (af q).2)) := by
  obtain ⟨a1, a2, a3, a4, a5⟩ := h
  have hkl := (List.getElem?_eq_some_iff.mp hk).1
  have hle := List.length_eraseIdx_of_lt hkl
  have hm : ∀ x, x ∈ (L.eraseIdx k).insertIdx p q ↔ x ∈ L := fun x => by
    rw [mem_ins hp, mem_er a1 hk]
    constructor
    · rintro (e | e)
      · rw [e]; exact List.mem_of_getElem? hk
      · exact e.1
    · intro e
      by_cases c : x = q
      · exact Or.inl c
      · exact Or.inr ⟨e, c⟩
  refine ⟨nd_ins (a1.sublist (List.eraseIdx_sublist L k)) (nodup_er a1 hk) hp, by rw [List.length_insertIdx_of_le_length hp]; omega, hO, fun x hx => ?_, fun x hx => ?_⟩
  · rw [a4 x hx]
    by_cases c : x ∈ L
    · rw [if_pos c, if_pos ((hm x).mpr c)]
    · rw [if_neg c, if_neg (fun z => c ((hm x).mp z))]
  · obtain ⟨b1, b2, b3⟩ := a5 x ((hm x).mp hx)
    by_cases e : x = q
    · subst e; rw [va_up_self]; exact ⟨b1, hK, b3⟩
    · rw [va_up_ne _ _ e]; exact ⟨b1, hKo x _ e b2, b3⟩
/-- the bytes are written -/
theorem mFs_write {go gu gf gk gi gz gy ga gt gy1 ga1 : Nat → Int32} {L : List Nat} {af : Nat → AFile} {q fr n : Nat} {v : AFile} {T : List Nat} (h : mFs go gu gf gk gi gz gy ga L (va_up af q (fCut v (if T.length = 0 then v.2.2.1 else max v.2.2.1 (fr + T.length))))) (hq : q ∈ L) (hv : af q = v) (hwa : ∀ x ∈ L, (af x).2.2.1 ≤ 8192) (hw : wfF v.2.2.1 v.2.2.2.1 v.2.2.2.2) (hn : n = T.length) (hT : nmL n gt = T) (h8 : fr + n ≤ 8192)
    (hy1 : ∀ j, j < n → ub (gy1 (8192 * q + fr + j)) = ub (gt j)) (hy2 : ∀ x, (x < 8192 * q + fr ∨ 8192 * q + fr + n ≤ x) → gy1 x = gy x) (ha1 : ∀ j, j < n → ga1 (19 * q + (fr + j) / 448) = 1) (ha2 : ∀ x, (∀ j, j < n → x ≠ 19 * q + (fr + j) / 448) → ga1 x = ga x) : mFs go gu gf gk gi gz gy1 ga1 L (va_up af q (fWr v fr T)) := by
  obtain ⟨a1, a2, a3, a4, a5⟩ := h
  obtain ⟨w1, w2, w3, w4⟩ := hw
  refine ⟨a1, a2, a3, a4, fun x hx => ?_⟩
  obtain ⟨b1, b2, b3⟩ := a5 x hx
  by_cases e : x = q
  · subst e
    rw [va_up_self] at b2 b3 ⊢
    obtain ⟨c1, c2, c3, c4⟩ := b3
    refine ⟨b1, b2, c1, c2, fun p hp => ?_, fun s hs => ?_⟩
    · show ub (gy1 (8192 * x + p)) = wC v.2.2.2.2 (lF T) fr T.length p
      unfold wC
      by_cases c : fr ≤ p ∧ p < fr + T.length
      · rw [if_pos c]
        have := hy1 (p - fr) (by omega)
        rw [show 8192 * x + fr + (p - fr) = 8192 * x + p by omega] at this
        rw [this]
        unfold lF
        rw [List.getD_eq_getElem?_getD, ← hT, nmL_get (by omega)]; rfl
      · rw [if_neg c, hy2 _ (by omega)]
        have hp2 : p < (if T.length = 0 then v.2.2.1 else max v.2.2.1 (fr + T.length)) := hp
        have := c3 p hp
        rw [this]
        show ctc v.2.2.2.2 _ p = _
        unfold ctc
        rw [if_neg (by omega)]
    · show ga1 (19 * x + s) = if wl v.2.2.2.1 fr T.length s = true then 1 else 0
      unfold wl
      by_cases c : max fr (448 * s) < min (fr + T.length) (448 * s + 448)
      · rw [decide_eq_true c, Bool.or_true, if_pos rfl]
        have := ha1 (max fr (448 * s) - fr) (by omega)
        rw [show (fr + (max fr (448 * s) - fr)) / 448 = s by omega] at this
        exact this
      · rw [decide_eq_false c, Bool.or_false, ha2 _ (fun j hj z => c (by omega)), c4 s hs]
        show (if ctl v.2.2.2.1 _ s = true then (1 : Int32) else 0) = _
        have : ctl v.2.2.2.1 (if T.length = 0 then v.2.2.1 else max v.2.2.1 (fr + T.length)) s = v.2.2.2.1 s := by
          unfold ctl
          cases hld : v.2.2.2.1 s with
          | false => rfl
          | true =>
            have := w3 s hld
            rw [decide_eq_true (by split <;> omega)]; rfl
        rw [this]
  · rw [va_up_ne _ _ e] at b2 b3 ⊢
    have h1 := hwa x hx
    refine ⟨b1, b2, mFb_ne b3 rfl rfl (fun p hp => hy2 _ (by omega)) (fun s hs => ha2 _ (fun j hj z => e (by omega)))⟩
/-- the next name -/
theorem next_at {l : List (List Nat)} (hs : srt l) {nm : List Nat} {i : Nat} (hi : i ≤ l.length) (hlo : ∀ j x, j < i → l[j]? = some x → ¬ nlt nm x) (hhi : ∀ x, l[i]? = some x → nlt nm x) : (if l[plc l nm]? = some nm then plc l nm + 1 else plc l nm) = i := by
  have hpl := plc_le l nm
  have hge : plc l nm ≤ i := by
    rcases Nat.lt_or_ge i (plc l nm) with z | z
    · obtain ⟨x, hx⟩ : ∃ x, l[i]? = some x := ⟨_, List.getElem?_eq_getElem (by omega)⟩
      exact absurd (nlt_trans (hhi x hx) (plc_bf z hx)) (nlt_irrefl _)
    · exact z
  by_cases c : l[plc l nm]? = some nm
  · rw [if_pos c]
    have hlt := (List.getElem?_eq_some_iff.mp c).1
    have h1 : plc l nm ≠ i := fun z => nlt_irrefl _ (hhi nm (by rw [← z]; exact c))
    rcases Nat.lt_or_ge (plc l nm + 1) i with z | z
    · obtain ⟨x, hx⟩ : ∃ x, l[plc l nm + 1]? = some x := ⟨_, List.getElem?_eq_getElem (by omega)⟩
      exact absurd (srt_lt hs (by omega) c hx) (hlo _ x z hx)
    · omega
  · rw [if_neg c]
    rcases Nat.lt_or_ge (plc l nm) i with z | z
    · obtain ⟨x, hx⟩ : ∃ x, l[plc l nm]? = some x := ⟨_, List.getElem?_eq_getElem (by omega)⟩
      rcases nlt_tri x nm with e | e | e
      · exact absurd e (plc_sp hx)
      · exact absurd (hx.trans (by rw [e])) c
      · exact absurd e (hlo _ x z hx)
    · omega
