/-! the reference's picture: pure part -/
theorem ub_mod (x : Int32) : ub x = x.toBitVec.toNat % 256 := by
  have h := pk_and x (m := 255) 8 (by decide)
  unfold ub
  rw [h, pk_tn (by omega)]
theorem ub_nb (x : Int32) : ub (Int8.toInt32 (Int32.toInt8 x)) = ub x := by
  rw [ub_mod, ub_mod]
  have e : (Int8.toInt32 (Int32.toInt8 x)).toBitVec = (x.toBitVec.setWidth 8).signExtend 32 := by rw [Int8.toBitVec_toInt32, Int32.toBitVec_toInt8, show BitVec.signExtend 8 x.toBitVec = BitVec.setWidth 8 x.toBitVec from BitVec.signExtend_eq_setWidth_of_le _ (by omega)]
  rw [e, BitVec.toNat_signExtend, BitVec.toNat_setWidth, BitVec.toNat_setWidth]
  have h1 : x.toBitVec.toNat % 2 ^ 8 < 2 ^ 32 := by omega
  rw [Nat.mod_eq_of_lt h1]
  split
  · omega
  · omega
theorem toInt_nat (x : Int32) : x.toInt = (x.toBitVec.toNat : Int) ∨ x.toInt = (x.toBitVec.toNat : Int) - 4294967296 := by
  have h : x.toInt = x.toBitVec.toInt := rfl
  rw [h, BitVec.toInt_eq_toNat_cond]
  split
  · exact Or.inl rfl
  · exact Or.inr rfl
theorem ub_shr (x : Int32) (t : Nat) (h : t = 24 ∨ t = 16 ∨ t = 8 ∨ t = 0) : ub (Int8.toInt32 (Int32.toInt8 (x >>> (nI t &&& 31)))) = ub (wb x (nI t)) := by
  unfold wb
  rw [ub_nb, ub_nb, ub_mod, ub_mod]
  have h1 : (x >>> (nI t &&& 31)).toInt = x.toInt >>> t := pk_shr x _ t (by rcases h with e | e | e | e <;> subst e <;> decide)
  have h2 := pk_ushr x (nI t) t (by rcases h with e | e | e | e <;> subst e <;> decide)
  rw [h2]
  have e1 := toInt_nat (x >>> (nI t &&& 31))
  have e2 := toInt_nat x
  have b1 : (x >>> (nI t &&& 31)).toBitVec.toNat < 4294967296 := (x >>> (nI t &&& 31)).toBitVec.isLt
  have b2 : x.toBitVec.toNat < 4294967296 := x.toBitVec.isLt
  rw [Int.shiftRight_eq_div_pow] at h1
  rcases h with e | e | e | e <;> subst e <;> omega
/-- a name in a field of names: name k has its bytes from 200 k on, its length in gl -/
def mNk (g gl : Nat → Int32) (k : Nat) (nm : List Nat) : Prop := gl k = nI nm.length ∧ nm.length ≤ 200 ∧ nmL nm.length (fun j => g (200 * k + j)) = nm
/-- a file in slot q, but for its name -/
def mFb (gi gz gy ga : Nat → Int32) (q : Nat) (v : AFile) : Prop := gi q = v.2.1 ∧ gz q = nI v.2.2.1 ∧ (∀ p, p < v.2.2.1 → ub (gy (8192 * q + p)) = v.2.2.2.2 p) ∧ ∀ s, s < 19 → ga (19 * q + s) = if v.2.2.2.1 s = true then 1 else 0
/-- the order of the slots -/
def mOr (go : Nat → Int32) (L : List Nat) : Prop := ∀ i q, L[i]? = some q → go i = nI q
def mUs (gu : Nat → Int32) (L : List Nat) : Prop := ∀ q, q < 48 → gu q = if q ∈ L then 1 else 0
def srt (l : List (List Nat)) : Prop := l.Pairwise nlt
theorem srt_lt {l : List (List Nat)} (h : srt l) {i j : Nat} {x y : List Nat} (hij : i < j) (hx : l[i]? = some x) (hy : l[j]? = some y) : nlt x y := by
  obtain ⟨a1, a2⟩ := List.getElem?_eq_some_iff.mp hx
  obtain ⟨b1, b2⟩ := List.getElem?_eq_some_iff.mp hy
  have := List.pairwise_iff_getElem.mp h i j a1 b1 hij
  rw [a2, b2] at this
  exact this
theorem idx_srt {l : List (List Nat)} (h : srt l) {i : Nat} {nm : List Nat} (hi : l[i]? = some nm) : idx l nm = some i := by
  have hp : plc l nm = i := plc_eq (Nat.le_of_lt (List.getElem?_eq_some_iff.mp hi).1) (fun j x hj hx => srt_lt h hj hx hi) (fun x hx => by rw [hi] at hx; injection hx with hx; rw [← hx]; exact nlt_irrefl _)
  unfold idx
  rw [hp, if_pos hi]
theorem idx_no {l : List (List Nat)} {nm : List Nat} (h : ∀ i : Nat, l[i]? ≠ some nm) : idx l nm = none := by
  unfold idx
  rw [if_neg (h _)]
theorem idx_nm {l : List (List Nat)} (hs : srt l) {nm : List Nat} (h : idx l nm = none) : nm ∉ l := fun z => by
  obtain ⟨i, hi⟩ := List.getElem?_of_mem z
  rw [idx_srt hs hi] at h; cases h
/-- where a new name goes -/
theorem plc_at {l : List (List Nat)} (hs : srt l) {nm : List Nat} (hn : nm ∉ l) {k : Nat} (hk : k ≤ l.length) (hhi : ∀ j x, k ≤ j → l[j]? = some x → nlt nm x) (hlo : ∀ x, 0 < k → l[k - 1]? = some x → ¬ nlt nm x) : plc l nm = k := by
  refine plc_eq hk (fun i x hi hx => ?_) (fun x hx => ?_)
  · obtain ⟨y, hy⟩ : ∃ y, l[k - 1]? = some y := ⟨_, List.getElem?_eq_getElem (by omega)⟩
    have hly : nlt y nm := by
      rcases nlt_tri y nm with e | e | e
      · exact e
      · exact absurd (List.mem_of_getElem? (by rw [← e]; exact hy)) hn
      · exact absurd e (hlo y (by omega) hy)
    by_cases c : i = k - 1
    · rw [c, hy] at hx; injection hx with hx; rw [← hx]; exact hly
    · exact nlt_trans (srt_lt hs (by omega) hx hy) hly
  · have := hhi k x (Nat.le_refl _) hx
    exact fun z => nlt_irrefl _ (nlt_trans this z)
theorem plc_sp : ∀ {l : List (List Nat)} {nm : List Nat} {y : List Nat}, l[plc l nm]? = some y → ¬ nlt y nm
  | [], nm, y, h => by simp at h
  | x :: xs, nm, y, h => by
    unfold plc at h
    by_cases c : nltb x nm = true
    · rw [if_pos c] at h
      exact plc_sp (l := xs) (by simpa using h)
    · rw [if_neg c] at h
      simp at h
      rw [← h]
      exact fun z => c (nltb_iff.mpr z)
theorem plc_af {l : List (List Nat)} (hs : srt l) {nm : List Nat} (hn : nm ∉ l) {j : Nat} {x : List Nat} (hj : plc l nm ≤ j) (hx : l[j]? = some x) : nlt nm x := by
  have h0 : ∀ y, l[plc l nm]? = some y → nlt nm y := fun y hy => by
    rcases nlt_tri y nm with e | e | e
    · exact absurd e (plc_sp hy)
    · exact absurd (List.mem_of_getElem? (by rw [← e]; exact hy)) hn
    · exact e
  by_cases c : plc l nm = j
  · exact h0 x (by rw [c]; exact hx)
  · obtain ⟨y, hy⟩ : ∃ y, l[plc l nm]? = some y := ⟨_, List.getElem?_eq_getElem (by have := (List.getElem?_eq_some_iff.mp hx).1; omega)⟩
    exact nlt_trans (h0 y hy) (srt_lt hs (by omega) hy hx)
theorem srt_ins {l : List (List Nat)} (hs : srt l) {nm : List Nat} (hn : nm ∉ l) : srt (l.insertIdx (plc l nm) nm) := by
  have hple := plc_le l nm
  unfold srt
  rw [List.pairwise_iff_getElem]
  intro i j hi hj hij
  have ei := List.getElem?_eq_getElem hi
  have ej := List.getElem?_eq_getElem hj
  rw [List.getElem?_insertIdx] at ei ej
  by_cases c1 : i < plc l nm
  · rw [if_pos c1] at ei
    have hb := plc_bf c1 ei
    by_cases c2 : j < plc l nm
    · rw [if_pos c2] at ej; exact srt_lt hs hij ei ej
    · rw [if_neg c2] at ej
      by_cases c3 : j = plc l nm
      · rw [if_pos c3, if_pos (by omega)] at ej; injection ej with ej; rw [← ej]; exact hb
      · rw [if_neg c3] at ej
        exact srt_lt hs (by omega) ei ej
  · rw [if_neg c1] at ei
    by_cases c2 : i = plc l nm
    · rw [if_pos c2, if_pos (by omega)] at ei; injection ei with ei
      rw [if_neg (by omega), if_neg (by omega)] at ej
      rw [← ei]
      exact plc_af hs hn (by omega) ej
    · rw [if_neg c2] at ei
      rw [if_neg (by omega), if_neg (by omega)] at ej
      exact srt_lt hs (by omega) ei ej
theorem srt_er {l : List (List Nat)} (hs : srt l) (k : Nat) : srt (l.eraseIdx k) := hs.sublist (List.eraseIdx_sublist l k)
theorem pigeon : ∀ (n : Nat) (L : List Nat), (∀ j, j < n → j ∈ L) → n ≤ L.length
  | 0, _, _ => Nat.zero_le _
  | n + 1, L, h => by
    have h1 := pigeon n (L.erase n) (fun j hj => (List.mem_erase_of_ne (by omega)).mpr (h j (by omega)))
    have h2 : n ∈ L := h n (by omega)
    rw [List.length_erase_of_mem h2] at h1
    have := List.length_pos_of_mem h2
    omega
theorem srt_uniq : ∀ {l l' : List AFile}, srt (fN l) → srt (fN l') → (∀ v, v ∈ l ↔ v ∈ l') → l = l'
  | [], [], _, _, _ => rfl
  | [], b :: l', _, _, h => absurd ((h b).mpr (by simp)) (by simp)
  | a :: l, [], _, _, h => absurd ((h a).mp (by simp)) (by simp)
  | a :: l, b :: l', h1, h2, h => by
    obtain ⟨p1, p2⟩ := List.pairwise_cons.mp h1
    obtain ⟨q1, q2⟩ := List.pairwise_cons.mp h2
    have ab : a = b := by
      rcases List.mem_cons.mp ((h a).mp (by simp)) with e | e
      · exact e
      · rcases List.mem_cons.mp ((h b).mpr (by simp)) with e2 | e2
        · exact e2.symm
        · have r1 := q1 a.1 (List.mem_map.mpr ⟨a, e, rfl⟩)
          have r2 := p1 b.1 (List.mem_map.mpr ⟨b, e2, rfl⟩)
          exact absurd (nlt_trans r1 r2) (nlt_irrefl _)
    subst ab
    rw [srt_uniq (l := l) (l' := l') p2 q2 (fun v => ⟨fun hv => ?_, fun hv => ?_⟩)]
    · rcases List.mem_cons.mp ((h v).mp (List.mem_cons_of_mem _ hv)) with e | e
      · exact absurd (p1 v.1 (List.mem_map.mpr ⟨v, hv, rfl⟩)) (by rw [e]; exact nlt_irrefl _)
      · exact e
    · rcases List.mem_cons.mp ((h v).mpr (List.mem_cons_of_mem _ hv)) with e | e
      · exact absurd (q1 v.1 (List.mem_map.mpr ⟨v, hv, rfl⟩)) (by rw [e]; exact nlt_irrefl _)
      · exact e
theorem nI_dec {n : Nat} (h : 0 < n) : nI n + Int32.ofInt (-1) = nI (n - 1) := by
  obtain ⟨k, rfl⟩ : ∃ k, n = k + 1 := ⟨n - 1, by omega⟩
  exact pk_m1 k
