set_option maxHeartbeats 4000000 in
set_option maxRecDepth 100000 in
/-- Arrays.rangeCheck: nothing -/
theorem c_Arrs_rangeCheck (l : Launch) (P : gPar) (f : gM) {n lo hi : Nat} (h1 : lo ≤ hi) (h2 : hi ≤ n) (h3 : n < 2 ^ 31) : gC l P y_Arrs_rangeCheck b_Arrs_rangeCheck 3 none 1 0 0 [.int (nI n), .int (nI lo), .int (nI hi)] f (gQv P (fun f1 => f1 = f)) := by
  refine gC_of (by decide) (Nat.le_of_ble_eq_true rfl) (fun p env s m args below meth c S hr hlk hnm H locs hI ls hl => ?_)
  have hl : lv_has ls 3 [(0, .int (nI n)), (1, .int (nI lo)), (2, .int (nI hi))] := hl
  refine lv_iload_n S.1 S.2.1 d_Arrs_rangeCheck_0 rfl (lv_at hl 1 rfl) ?_
  refine lv_iload_n S.1 S.2.1 d_Arrs_rangeCheck_1 rfl (lv_at hl 2 rfl) ?_
  refine lv_icmp_le (tgt := 46) S.1 S.2.1 d_Arrs_rangeCheck_2 (by decide) (fun c1 => ?_) (fun c1 => ?_)
  · skip
    replace c1 : lo ≤ hi := (nI_leI (a := lo) (b := hi) (by omega) (by omega)).mp c1
    refine lv_iload_n S.1 S.2.1 d_Arrs_rangeCheck_46 rfl (lv_at hl 1 rfl) ?_
    refine lv_if_ge (tgt := 59) S.1 S.2.1 d_Arrs_rangeCheck_47 (by decide) (fun c2 => ?_) (fun c2 => ?_)
    · skip
      refine lv_iload_n S.1 S.2.1 d_Arrs_rangeCheck_59 rfl (lv_at hl 2 rfl) ?_
      refine lv_iload_n S.1 S.2.1 d_Arrs_rangeCheck_60 rfl (lv_at hl 0 rfl) ?_
      refine lv_icmp_le (tgt := 73) S.1 S.2.1 d_Arrs_rangeCheck_61 (by decide) (fun c3 => ?_) (fun c3 => ?_)
      · skip
        replace c3 : hi ≤ n := (nI_leI (a := hi) (b := n) (by omega) (by omega)).mp c3
        exact gr_v S hr hlk hI (rfl) d_Arrs_rangeCheck_73
      · skip
        replace c3 : ¬ hi ≤ n := fun z => c3 ((nI_leI (a := hi) (b := n) (by omega) (by omega)).mpr z)
        exact absurd c3 (by omega)
    · skip
      exact absurd (nI_pos' (by omega)) c2
  · skip
    replace c1 : ¬ lo ≤ hi := fun z => c1 ((nI_leI (a := lo) (b := hi) (by omega) (by omega)).mpr z)
    exact absurd c1 (by omega)
set_option maxHeartbeats 4000000 in
set_option maxRecDepth 100000 in
/-- Arrays.fill of bytes -/
theorem c_Arrs_fill (l : Launch) (P : gPar) (f : gM) {a n lo hi : Nat} {g : Nat → Int32} {x : Int32} (ha : f a = some (.inl (P.2.1 0, n, .inl g))) (h1 : lo ≤ hi) (h2 : hi ≤ n) (h3 : n < 2 ^ 31) (hx : Int8.toInt32 (Int32.toInt8 x) = x) : gC l P y_Arrs_fill b_Arrs_fill 5 none 2 0 0 [.ref a, .int (nI lo), .int (nI hi), .int x] f (gQv P (fun f1 => f1 = va_up f a (some (.inl (P.2.1 0, n, .inl (g_fil g lo hi x)))))) := by
  refine gC_of (by decide) (Nat.le_of_ble_eq_true rfl) (fun p env s m args below meth c S hr hlk hnm H locs hI ls hl => ?_)
  have hl : lv_has ls 5 [(0, .ref a), (1, .int (nI lo)), (2, .int (nI hi)), (3, .int x)] := hl
  refine lv_aload_n S.1 S.2.1 d_Arrs_fill_0 rfl (lv_at hl 0 rfl) ?_
  refine gh_alen S hI 0 ha rfl d_Arrs_fill_1 ?_
  refine lv_iload_n S.1 S.2.1 d_Arrs_fill_2 rfl (lv_at hl 1 rfl) ?_
  refine lv_iload_n S.1 S.2.1 d_Arrs_fill_3 rfl (lv_at hl 2 rfl) ?_
  refine gc_Sv S hI (c_Arrs_rangeCheck l P f (n := n) (lo := lo) (hi := hi) h1 h2 h3) kv_Arrs_rangeCheck wi_325 rfl hl.1 rfl (Nat.le_of_ble_eq_true rfl) ⟨Nat.le_of_ble_eq_true rfl, Nat.le_of_ble_eq_true rfl⟩ ⟨Nat.le_of_ble_eq_true rfl, Nat.le_of_ble_eq_true rfl⟩ d_Arrs_fill_4 (fun f5 H locs hp6 hI => ?_)
  rw [hp6] at hI
  refine lv_iload_n S.1 S.2.1 d_Arrs_fill_7 rfl (lv_at hl 1 rfl) ?_
  refine lv_istore (lv' := [(4, .int (nI lo)), (0, .ref a), (1, .int (nI lo)), (2, .int (nI hi)), (3, .int x)]) S.1 S.2.1 d_Arrs_fill_8 hl (by decide) rfl (fun ls hl => ?_)
  have hI0 : gB P (va_up f a (some (.inl (P.2.1 0, n, .inl (g_fil g lo lo x))))) s H locs := by
    have e0 : va_up f a (some (.inl (P.2.1 0, n, .inl (g_fil g lo lo x)))) = f := by
      rw [g_fil_0]; funext q; unfold va_up; by_cases h : q = a
      · rw [if_pos h, h, ha]
      · rw [if_neg h]
    rw [e0]; exact hI
  have loop : ∀ (k j : Nat), lo ≤ j → j ≤ hi → hi - j < k → ∀ (H : Heap) (locs : List Loc), gB P (va_up f a (some (.inl (P.2.1 0, n, .inl (g_fil g lo j x))))) s H locs → ∀ ls : Array Slot, lv_has ls 5 [(4, .int (nI j)), (0, .ref a), (1, .int (nI lo)), (2, .int (nI hi)), (3, .int x)] → W p l env (grm 2 0 0) s m args below meth c H locs 0 0 (MQ below (gQv P (fun f1 => f1 = va_up f a (some (.inl (P.2.1 0, n, .inl (g_fil g lo hi x)))))) args s 0 0 (gA P)) (F0 m 10 ls []) := by
    intro k
    induction k with
    | zero => intro j h4 h5 h6; exact absurd h6 (by omega)
    | succ k ih =>
      intro j h4 h5 h6 H locs hI ls hl
      obtain ⟨fj, ej⟩ : ∃ z, z = va_up f a (some (.inl (P.2.1 0, n, .inl (g_fil g lo j x)))) := ⟨_, rfl⟩
      rw [← ej] at hI
      have hj : fj a = some (.inl (P.2.1 0, n, .inl (g_fil g lo j x))) := by rw [ej]; exact va_up_self _ _ _
      refine lv_iload S.1 S.2.1 d_Arrs_fill_10 (lv_at hl 0 rfl) ?_
      refine lv_iload_n S.1 S.2.1 d_Arrs_fill_12 rfl (lv_at hl 3 rfl) ?_
      refine lv_icmp_ge (tgt := 27) S.1 S.2.1 d_Arrs_fill_13 (by decide) (fun c7 => ?_) (fun c7 => ?_)
      · skip
        replace c7 : hi ≤ j := (nI_leI (a := hi) (b := j) (by omega) (by omega)).mp c7
        exact gr_v S hr hlk hI (by rw [ej, show j = hi by omega]) d_Arrs_fill_27
      · skip
        replace c7 : ¬ hi ≤ j := fun z => c7 ((nI_leI (a := hi) (b := j) (by omega) (by omega)).mpr z)
        refine lv_aload_n S.1 S.2.1 d_Arrs_fill_16 rfl (lv_at hl 1 rfl) ?_
        refine lv_iload S.1 S.2.1 d_Arrs_fill_17 (lv_at hl 0 rfl) ?_
        refine lv_iload_n S.1 S.2.1 d_Arrs_fill_19 rfl (lv_at hl 4 rfl) ?_
        refine gh_bast (j := j) S hI 0 hj rfl rfl (by omega) (by omega) d_Arrs_fill_20 (fun H locs hI => ?_)
        have hI : gB P (va_up fj a (some (.inl (P.2.1 0, n, .inl (upd (g_fil g lo j x) j (Int8.toInt32 (Int32.toInt8 x))))))) s H locs := hI
        obtain ⟨f8, ef8⟩ : ∃ z, z = va_up fj a (some (.inl (P.2.1 0, n, .inl (upd (g_fil g lo j x) j (Int8.toInt32 (Int32.toInt8 x)))))) := ⟨_, rfl⟩
        rw [← ef8] at hI
        have h9 : f8 a = some (.inl (P.2.1 0, n, .inl (upd (g_fil g lo j x) j (Int8.toInt32 (Int32.toInt8 x))))) := by rw [ef8]; exact va_up_self _ _ _
        refine lv_iinc (v := nI (j + 1)) (lv' := [(4, .int (nI (j + 1))), (0, .ref a), (1, .int (nI lo)), (2, .int (nI hi)), (3, .int x)]) S.1 S.2.1 d_Arrs_fill_21 hl (k := 0) rfl (nI_add _ _) (by decide) rfl (fun ls hl => ?_)
        have eU : f8 = va_up f a (some (.inl (P.2.1 0, n, .inl (g_fil g lo (j + 1) x)))) := by rw [ef8, ej, bx_uu, hx, g_fil_s _ h4]
        rw [eU] at hI
        refine lv_goto (tgt := 10) S.1 S.2.1 d_Arrs_fill_24 (by decide) ?_
        exact ih (j + 1) (by omega) (by omega) (by omega) _ _ hI _ (lv_sub hl [0, 1, 2, 3, 4] rfl)
  exact loop (hi - lo + 1) lo (Nat.le_refl _) h1 (by omega) _ _ hI0 _ (lv_sub hl [0, 1, 2, 3, 4] rfl)
