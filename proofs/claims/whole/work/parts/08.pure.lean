/-! names as lists of naturals, and their order -/
/-- a byte as a number from 0 to 255 -/
def ub (x : Int32) : Nat := (x &&& 255).toBitVec.toNat
theorem ub_nI (x : Int32) : x &&& 255 = nI (ub x) := by
  have h := pk_and x (m := 255) 8 (by decide)
  unfold ub
  rw [h, pk_tn (by omega)]
theorem ub_lt (x : Int32) : ub x < 256 := by
  have h := pk_and x (m := 255) 8 (by decide)
  unfold ub
  rw [h, pk_tn (by omega)]
  omega
def nmL (n : Nat) (g : Nat → Int32) : List Nat := (List.range n).map (fun i => ub (g i))
/-- before, in the order of names -/
def nlt : List Nat → List Nat → Prop
  | [], [] => False
  | [], _ :: _ => True
  | _ :: _, [] => False
  | a :: as, b :: bs => a < b ∨ (a = b ∧ nlt as bs)
theorem nlt_irrefl : ∀ a : List Nat, ¬ nlt a a
  | [] => fun h => h
  | a :: as => fun h => by
    rcases h with h | ⟨-, h⟩
    · omega
    · exact nlt_irrefl as h
theorem nlt_trans : ∀ {a b c : List Nat}, nlt a b → nlt b c → nlt a c
  | [], [], _, h, _ => h.elim
  | [], _ :: _, [], _, h => h.elim
  | [], _ :: _, _ :: _, _, _ => trivial
  | _ :: _, [], _, h, _ => h.elim
  | _ :: _, _ :: _, [], _, h => h.elim
  | a :: as, b :: bs, c :: cs, h1, h2 => by
    rcases h1 with h1 | ⟨e1, h1⟩ <;> rcases h2 with h2 | ⟨e2, h2⟩
    · exact Or.inl (by omega)
    · exact Or.inl (by omega)
    · exact Or.inl (by omega)
    · exact Or.inr ⟨by omega, nlt_trans h1 h2⟩
theorem nlt_tri : ∀ a b : List Nat, nlt a b ∨ a = b ∨ nlt b a
  | [], [] => Or.inr (Or.inl rfl)
  | [], _ :: _ => Or.inl trivial
  | _ :: _, [] => Or.inr (Or.inr trivial)
  | a :: as, b :: bs => by
    rcases Nat.lt_trichotomy a b with h | h | h
    · exact Or.inl (Or.inl h)
    · rcases nlt_tri as bs with z | z | z
      · exact Or.inl (Or.inr ⟨h, z⟩)
      · exact Or.inr (Or.inl (by rw [h, z]))
      · exact Or.inr (Or.inr (Or.inr ⟨h.symm, z⟩))
    · exact Or.inr (Or.inr (Or.inl h))
theorem nmL_len (n : Nat) (g : Nat → Int32) : (nmL n g).length = n := by simp [nmL]
theorem nmL_get {n : Nat} {g : Nat → Int32} {i : Nat} (h : i < n) : (nmL n g)[i]? = some (ub (g i)) := by simp [nmL, h]
theorem nmL_congr {n : Nat} {g h : Nat → Int32} (e : ∀ i, i < n → g i = h i) : nmL n g = nmL n h := by
  unfold nmL
  apply List.map_congr_left
  intro i hi
  rw [e i (List.mem_range.mp hi)]
theorem nmL_cpy {n : Nat} {g h : Nat → Int32} : nmL n (va_cpy g h 0 0 n) = nmL n g := nmL_congr (fun i hi => by rw [pk_cpy_in (by omega) (by omega)]; simp)
/-- two lists that agree up to i -/
theorem nlt_at : ∀ {a b : List Nat} (i : Nat), (∀ j, j < i → a[j]? = b[j]?) → ∀ {x y : Nat}, a[i]? = some x → b[i]? = some y → x < y → nlt a b
  | [], _, i, _, x, y, h, _, _ => by simp at h
  | _ :: _, [], i, _, x, y, _, h, _ => by simp at h
  | a :: as, b :: bs, 0, _, x, y, h1, h2, h => by
    simp at h1 h2
    exact Or.inl (by omega)
  | a :: as, b :: bs, i + 1, hj, x, y, h1, h2, h => by
    have h0 := hj 0 (by omega)
    simp at h0
    exact Or.inr ⟨h0, nlt_at i (fun j hji => by have := hj (j + 1) (by omega); simpa using this) (by simpa using h1) (by simpa using h2) h⟩
theorem nlt_pre : ∀ {a b : List Nat}, (∀ j, j < a.length → a[j]? = b[j]?) → a.length < b.length → nlt a b
  | [], [], _, h => by simp at h
  | [], _ :: _, _, _ => trivial
  | _ :: _, [], _, h => by simp at h
  | a :: as, b :: bs, hj, h => by
    have h0 := hj 0 (by simp)
    simp at h0
    exact Or.inr ⟨h0, nlt_pre (fun j hji => by have := hj (j + 1) (by simp; omega); simpa using this) (by simpa using h)⟩
theorem nl_eq {a b : List Nat} (h : a.length = b.length) (hj : ∀ j, j < a.length → a[j]? = b[j]?) : a = b := by
  apply List.ext_getElem?
  intro j
  by_cases hl : j < a.length
  · exact hj j hl
  · rw [List.getElem?_eq_none (by omega), List.getElem?_eq_none (by omega)]
/-- what a comparison's answer says -/
def cmpOK (r : Int32) (a b : List Nat) : Prop := (r < 0 ∧ nlt a b) ∨ (r = 0 ∧ a = b) ∨ (0 < r ∧ nlt b a)
theorem cmpOK.lt {r : Int32} {a b : List Nat} (h : cmpOK r a b) : r < 0 ↔ nlt a b := by
  rcases h with ⟨h1, h2⟩ | ⟨h1, h2⟩ | ⟨h1, h2⟩
  · exact ⟨fun _ => h2, fun _ => h1⟩
  · subst h1 h2; exact ⟨fun h => absurd h (by decide), fun h => absurd h (nlt_irrefl a)⟩
  · exact ⟨fun h => absurd (Int32.lt_trans h1 h) (by decide), fun h => absurd (nlt_trans h h2) (nlt_irrefl a)⟩
theorem cmpOK.eq {r : Int32} {a b : List Nat} (h : cmpOK r a b) : r = 0 ↔ a = b := by
  rcases h with ⟨h1, h2⟩ | ⟨h1, h2⟩ | ⟨h1, h2⟩
  · exact ⟨fun h => by subst h; exact absurd h1 (by decide), fun h => by subst h; exact absurd h2 (nlt_irrefl a)⟩
  · exact ⟨fun _ => h2, fun _ => h1⟩
  · exact ⟨fun h => by subst h; exact absurd h1 (by decide), fun h => by subst h; exact absurd h2 (nlt_irrefl a)⟩
theorem cmpOK.gt {r : Int32} {a b : List Nat} (h : cmpOK r a b) : 0 < r ↔ nlt b a := by
  rcases h with ⟨h1, h2⟩ | ⟨h1, h2⟩ | ⟨h1, h2⟩
  · exact ⟨fun h => absurd (Int32.lt_trans h h1) (by decide), fun h => absurd (nlt_trans h h2) (nlt_irrefl b)⟩
  · subst h1 h2; exact ⟨fun h => absurd h (by decide), fun h => absurd h (nlt_irrefl a)⟩
  · exact ⟨fun _ => h2, fun _ => h1⟩
theorem nI_sub_cmp {a b : Nat} (ha : a < 2 ^ 30) (hb : b < 2 ^ 30) : (a < b → nI a - nI b < 0) ∧ (a = b → nI a - nI b = 0) ∧ (b < a → 0 < nI a - nI b) := by
  refine ⟨fun h => pk_sneg hb h, fun h => by subst h; rw [pk_sub (Nat.le_refl _), Nat.sub_self]; rfl, fun h => ?_⟩
  rw [pk_sub (by omega)]
  exact nI_lt (a := 0) (by omega) (by omega)
/-- a comparison that ends at a difference -/
theorem cmp_diff {n m : Nat} {g h : Nat → Int32} {i : Nat} (hn : i < n) (hm : i < m) (he : ∀ j, j < i → ub (g j) = ub (h j)) (hne : ub (g i) ≠ ub (h i)) : cmpOK (nI (ub (g i)) - nI (ub (h i))) (nmL n g) (nmL m h) := by
  have h1 := ub_lt (g i)
  have h2 := ub_lt (h i)
  have hc := nI_sub_cmp (a := ub (g i)) (b := ub (h i)) (by omega) (by omega)
  have hj : ∀ j, j < i → (nmL n g)[j]? = (nmL m h)[j]? := fun j hji => by rw [nmL_get (by omega), nmL_get (by omega), he j hji]
  rcases Nat.lt_or_gt_of_ne hne with z | z
  · exact Or.inl ⟨hc.1 z, nlt_at i hj (nmL_get hn) (nmL_get hm) z⟩
  · exact Or.inr (Or.inr ⟨hc.2.2 z, nlt_at i (fun j hji => (hj j hji).symm) (nmL_get hm) (nmL_get hn) z⟩)
/-- a comparison that comes to an end of one of the names -/
theorem cmp_end {n m : Nat} {g h : Nat → Int32} (hn : n < 2 ^ 30) (hm : m < 2 ^ 30) (he : ∀ j, j < n → j < m → ub (g j) = ub (h j)) : cmpOK (nI n - nI m) (nmL n g) (nmL m h) := by
  have hc := nI_sub_cmp (a := n) (b := m) hn hm
  rcases Nat.lt_trichotomy n m with z | z | z
  · exact Or.inl ⟨hc.1 z, nlt_pre (fun j hj => by rw [nmL_len] at hj; rw [nmL_get hj, nmL_get (by omega), he j hj (by omega)]) (by rw [nmL_len, nmL_len]; exact z)⟩
  · exact Or.inr (Or.inl ⟨hc.2.1 z, nl_eq (by rw [nmL_len, nmL_len]; exact z) (fun j hj => by rw [nmL_len] at hj; rw [nmL_get hj, nmL_get (by omega), he j hj (by omega)])⟩)
  · exact Or.inr (Or.inr ⟨hc.2.2 z, nlt_pre (fun j hj => by rw [nmL_len] at hj; rw [nmL_get hj, nmL_get (by omega), he j (by omega) hj]) (by rw [nmL_len, nmL_len]; exact z)⟩)
/-- byte k of a word, as addWord casts it -/
def wb (x k : Int32) : Int32 := Int8.toInt32 (Int32.toInt8 ((Int32.toUInt32 x >>> (Int32.toUInt32 k &&& Int32.toUInt32 31)).toInt32))
def upd4 (g : Nat → Int32) (n : Nat) (x : Int32) : Nat → Int32 := upd (upd (upd (upd g n (wb x 24)) (n + 1) (wb x 16)) (n + 2) (wb x 8)) (n + 3) (wb x 0)
theorem i8_idem (x : Int32) : Int8.toInt32 (Int32.toInt8 (Int8.toInt32 (Int32.toInt8 x))) = Int8.toInt32 (Int32.toInt8 x) := by simp
theorem upd4_fit {g : Nat → Int32} {n : Nat} {x : Int32} (hg : sb_Fit g) : sb_Fit (upd4 g n x) := sb_fitU (sb_fitU (sb_fitU (sb_fitU hg (pk_fb _)) (pk_fb _)) (pk_fb _)) (pk_fb _)
