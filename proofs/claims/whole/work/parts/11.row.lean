set_option maxHeartbeats 4000000 in
set_option maxRecDepth 100000 in
/-- Row(most) -/
theorem c_Row_init (l : Launch) (P : gPar) (f : gM) {a cap : Nat} (ha : f a = some (.inr (1, [.null, .int 0]))) (hc : cap < 2 ^ 20) : gC l P y_Row_init b_Row_init 2 none 1 1 cap [.ref a, .int (nI cap)] f (gQv P (fun f1 => ∃ b, f b = none ∧ f1 a = some (.inr (1, [.ref b, .int (nI 0)])) ∧ f1 b = some (.inl (P.2.1 0, cap, .inl (fun _ => 0))) ∧ gFr f f1 [a])) := by
  refine gC_of (by decide) (Nat.le_of_ble_eq_true rfl) (fun p env s m args below meth c S hr hlk hnm H locs hI ls hl => ?_)
  have hl : lv_has ls 2 [(0, .ref a), (1, .int (nI cap))] := hl
  have hF : gFr f f [a] := gFr.rf
  refine lv_aload_n S.1 S.2.1 d_Row_init_0 rfl (lv_at hl 0 rfl) ?_
  refine gc_obj S wi_30 hl.1 d_Row_init_1 (Nat.le_of_ble_eq_true rfl) (Nat.le_of_ble_eq_true rfl) ?_
  refine lv_aload_n S.1 S.2.1 d_Row_init_4 rfl (lv_at hl 0 rfl) ?_
  refine lv_iload_n S.1 S.2.1 d_Row_init_5 rfl (lv_at hl 1 rfl) ?_
  refine gh_newb (n := cap) S hI 0 rfl wi_33 rfl (by omega) (Nat.le_of_ble_eq_true rfl) (by show _ ≤ cap; omega) d_Row_init_6 (fun q1 H hnq1 hI => ?_)
  have hI : gB P (va_up f q1 (some (.inl (P.2.1 0, cap, .inl (fun _ => 0))))) s H locs := hI
  obtain ⟨f2, ef2⟩ : ∃ z, z = va_up f q1 (some (.inl (P.2.1 0, cap, .inl (fun _ => 0)))) := ⟨_, rfl⟩
  rw [← ef2] at hI
  have h3 : f2 a = some (.inr (1, [.null, .int 0])) := by rw [ef2, va_up_ne _ _ (gh_ne ha hnq1 (by intro h; cases h))]; exact ha
  have h4 : f2 q1 = some (.inl (P.2.1 0, cap, .inl (fun _ => 0))) := by rw [ef2]; exact va_up_self _ _ _
  have hF : gFr f f2 [a] := by rw [ef2]; exact gFr.upN hnq1 hF
  refine gh_putF S hI h3 rfl i_Row t_Row tk_Row n_Row 0 (by decide) wi_31 rfl hnm rfl rfl rfl (Nat.le_of_ble_eq_true rfl) d_Row_init_8 (fun H locs hI => ?_)
  have hI : gB P (va_up f2 a (some (.inr (1, [.ref q1, .int 0])))) s H locs := hI
  obtain ⟨f5, ef5⟩ : ∃ z, z = va_up f2 a (some (.inr (1, [.ref q1, .int 0]))) := ⟨_, rfl⟩
  rw [← ef5] at hI
  have h6 : f5 q1 = some (.inl (P.2.1 0, cap, .inl (fun _ => 0))) := by rw [ef5, va_up_ne _ _ (gh_ne h4 h3 (by intro h; cases h))]; exact h4
  have h7 : f5 a = some (.inr (1, [.ref q1, .int 0])) := by rw [ef5]; exact va_up_self _ _ _
  have hF : gFr f f5 [a] := by rw [ef5]; exact gFr.upA (by simp) hF
  refine lv_aload_n S.1 S.2.1 d_Row_init_11 rfl (lv_at hl 0 rfl) ?_
  refine lv_iconst (v := nI 0) S.1 S.2.1 d_Row_init_12 (by decide) ?_
  refine gh_put S hI h7 rfl i_Row t_Row tk_Row n_Row 1 (by decide) wi_32 rfl rfl rfl (Nat.le_of_ble_eq_true rfl) d_Row_init_13 (fun H locs hI => ?_)
  have hI : gB P (va_up f5 a (some (.inr (1, [.ref q1, .int (nI 0)])))) s H locs := hI
  obtain ⟨f8, ef8⟩ : ∃ z, z = va_up f5 a (some (.inr (1, [.ref q1, .int (nI 0)]))) := ⟨_, rfl⟩
  rw [← ef8] at hI
  have h9 : f8 q1 = some (.inl (P.2.1 0, cap, .inl (fun _ => 0))) := by rw [ef8, va_up_ne _ _ (gh_ne h6 h7 (by intro h; cases h))]; exact h6
  have h10 : f8 a = some (.inr (1, [.ref q1, .int (nI 0)])) := by rw [ef8]; exact va_up_self _ _ _
  have hF : gFr f f8 [a] := by rw [ef8]; exact gFr.upA (by simp) hF
  refine W.widen (k := 1) (n := cap) (by omega) (by omega) ?_
  exact gr_v S hr hlk hI (⟨q1, hnq1, h10, h9, hF⟩) d_Row_init_16
set_option maxHeartbeats 4000000 in
set_option maxRecDepth 100000 in
theorem c_Row_length (l : Launch) (P : gPar) (f : gM) {a b n : Nat} (ha : f a = some (.inr (1, [.ref b, .int (nI n)]))) : gC l P y_Row_length b_Row_length 1 (some .int) 0 0 0 [.ref a] f (gQi P (fun r f1 => r = nI n ∧ f1 = f)) := by
  refine gC_of (by decide) (Nat.le_of_ble_eq_true rfl) (fun p env s m args below meth c S hr hlk hnm H locs hI ls hl => ?_)
  have hl : lv_has ls 1 [(0, .ref a)] := hl
  refine lv_aload_n S.1 S.2.1 d_Row_length_0 rfl (lv_at hl 0 rfl) ?_
  refine gh_get S hI ha rfl i_Row 1 (by decide) wi_32 rfl d_Row_length_1 ?_
  exact gr_i S hr hlk hI (⟨rfl, rfl⟩) d_Row_length_4
set_option maxHeartbeats 4000000 in
set_option maxRecDepth 100000 in
theorem c_Row_isEmpty (l : Launch) (P : gPar) (f : gM) {a b n : Nat} (ha : f a = some (.inr (1, [.ref b, .int (nI n)]))) (hn : n < 2 ^ 31) : gC l P y_Row_isEmpty b_Row_isEmpty 1 (some .boolean) 0 0 0 [.ref a] f (gQi P (fun r f1 => r = (if n = 0 then nI 1 else nI 0) ∧ f1 = f)) := by
  refine gC_of (by decide) (Nat.le_of_ble_eq_true rfl) (fun p env s m args below meth c S hr hlk hnm H locs hI ls hl => ?_)
  have hl : lv_has ls 1 [(0, .ref a)] := hl
  refine lv_aload_n S.1 S.2.1 d_Row_isEmpty_0 rfl (lv_at hl 0 rfl) ?_
  refine gh_get S hI ha rfl i_Row 1 (by decide) wi_32 rfl d_Row_isEmpty_1 ?_
  refine lv_if_ne (tgt := 11) S.1 S.2.1 d_Row_isEmpty_4 (by decide) (fun c11 => ?_) (fun c11 => ?_)
  · skip
    replace c11 : ¬ n = 0 := fun z => c11 ((nI_eq (a := n) (b := 0) (by omega) (by omega)).mpr z)
    refine lv_iconst (v := nI 0) S.1 S.2.1 d_Row_isEmpty_11 (by decide) ?_
    exact gr_z S hr hlk hI (by first | exact Or.inl rfl | exact Or.inr rfl) (⟨(if_neg c11).symm, rfl⟩) d_Row_isEmpty_12
  · skip
    replace c11 : n = 0 := (nI_eq (a := n) (b := 0) (by omega) (by omega)).mp c11
    refine lv_iconst (v := nI 1) S.1 S.2.1 d_Row_isEmpty_7 (by decide) ?_
    refine lv_goto (tgt := 12) S.1 S.2.1 d_Row_isEmpty_8 (by decide) ?_
    exact gr_z S hr hlk hI (by first | exact Or.inl rfl | exact Or.inr rfl) (⟨(if_pos c11).symm, rfl⟩) d_Row_isEmpty_12
set_option maxHeartbeats 4000000 in
set_option maxRecDepth 100000 in
theorem c_Row_byteAt (l : Launch) (P : gPar) (f : gM) {a b n cap : Nat} {g : Nat → Int32} {i : Int32} (ha : f a = some (.inr (1, [.ref b, .int (nI n)]))) (hb : f b = some (.inl (P.2.1 0, cap, .inl g))) (hn : n ≤ cap) (hc : cap < 2 ^ 20) : gC l P y_Row_byteAt b_Row_byteAt 2 (some .int) 0 0 0 [.ref a, .int i] f (gQi P (fun r f1 => r = (if ¬ i < 0 ∧ i < nI n then nI (ub (g i.toNatClampNeg)) else (-2)) ∧ f1 = f)) := by
  refine gC_of (by decide) (Nat.le_of_ble_eq_true rfl) (fun p env s m args below meth c S hr hlk hnm H locs hI ls hl => ?_)
  have hl : lv_has ls 2 [(0, .ref a), (1, .int i)] := hl
  refine lv_iload_n S.1 S.2.1 d_Row_byteAt_0 rfl (lv_at hl 1 rfl) ?_
  refine lv_if_lt (tgt := 25) S.1 S.2.1 d_Row_byteAt_1 (by decide) (fun c12 => ?_) (fun c12 => ?_)
  · skip
    refine lv_bipush (v := (-2)) S.1 S.2.1 d_Row_byteAt_25 (by decide) ?_
    exact gr_i S hr hlk hI (⟨by rw [if_neg (fun z => absurd c12 z.1)], rfl⟩) d_Row_byteAt_27
  · skip
    obtain ⟨j, hj, rfl⟩ := nI_of c12
    refine lv_iload_n S.1 S.2.1 d_Row_byteAt_4 rfl (lv_at hl 1 rfl) ?_
    refine lv_aload_n S.1 S.2.1 d_Row_byteAt_5 rfl (lv_at hl 0 rfl) ?_
    refine gh_get S hI ha rfl i_Row 1 (by decide) wi_32 rfl d_Row_byteAt_6 ?_
    refine lv_icmp_ge (tgt := 25) S.1 S.2.1 d_Row_byteAt_9 (by decide) (fun c13 => ?_) (fun c13 => ?_)
    · skip
      replace c13 : n ≤ j := (nI_leI (a := n) (b := j) (by omega) (by omega)).mp c13
      refine lv_bipush (v := (-2)) S.1 S.2.1 d_Row_byteAt_25 (by decide) ?_
      exact gr_i S hr hlk hI (⟨by rw [if_neg (fun z => absurd z.2 (fun h => absurd ((nI_ltI (by omega) (by omega)).mp h) (by omega)))], rfl⟩) d_Row_byteAt_27
    · skip
      replace c13 : ¬ n ≤ j := fun z => c13 ((nI_leI (a := n) (b := j) (by omega) (by omega)).mpr z)
      refine lv_aload_n S.1 S.2.1 d_Row_byteAt_12 rfl (lv_at hl 0 rfl) ?_
      refine gh_get S hI ha rfl i_Row 0 (by decide) wi_31 rfl d_Row_byteAt_13 ?_
      refine lv_iload_n S.1 S.2.1 d_Row_byteAt_16 rfl (lv_at hl 1 rfl) ?_
      refine gh_bald (j := j) S hI 0 hb rfl rfl (by omega) (by omega) d_Row_byteAt_17 ?_
      refine lv_sipush (v := nI 255) S.1 S.2.1 d_Row_byteAt_18 (by decide) ?_
      refine lv_iand S.1 S.2.1 d_Row_byteAt_21 ?_
      refine lv_topi (fun v14 ev14 => ?_)
      replace ev14 : v14 = nI (ub (g j)) := ev14.trans (ub_nI _)
      subst ev14
      refine lv_goto (tgt := 27) S.1 S.2.1 d_Row_byteAt_22 (by decide) ?_
      exact gr_i S hr hlk hI (⟨by rw [if_pos ⟨c12, nI_lt (by omega) (by omega)⟩, nI_clamp (by omega)], rfl⟩) d_Row_byteAt_27
set_option maxHeartbeats 4000000 in
set_option maxRecDepth 100000 in
theorem c_Row_shorten (l : Launch) (P : gPar) (f : gM) {a b n k : Nat} (ha : f a = some (.inr (1, [.ref b, .int (nI n)]))) : gC l P y_Row_shorten b_Row_shorten 2 none 0 0 0 [.ref a, .int (nI k)] f (gQv P (fun f1 => f1 = va_up f a (some (.inr (1, [.ref b, .int (nI k)]))))) := by
  refine gC_of (by decide) (Nat.le_of_ble_eq_true rfl) (fun p env s m args below meth c S hr hlk hnm H locs hI ls hl => ?_)
  have hl : lv_has ls 2 [(0, .ref a), (1, .int (nI k))] := hl
  refine lv_aload_n S.1 S.2.1 d_Row_shorten_0 rfl (lv_at hl 0 rfl) ?_
  refine lv_iload_n S.1 S.2.1 d_Row_shorten_1 rfl (lv_at hl 1 rfl) ?_
  refine gh_put S hI ha rfl i_Row t_Row tk_Row n_Row 1 (by decide) wi_32 rfl rfl rfl (Nat.le_of_ble_eq_true rfl) d_Row_shorten_2 (fun H locs hI => ?_)
  have hI : gB P (va_up f a (some (.inr (1, [.ref b, .int (nI k)])))) s H locs := hI
  obtain ⟨f15, ef15⟩ : ∃ z, z = va_up f a (some (.inr (1, [.ref b, .int (nI k)]))) := ⟨_, rfl⟩
  rw [← ef15] at hI
  have h16 : f15 a = some (.inr (1, [.ref b, .int (nI k)])) := by rw [ef15]; exact va_up_self _ _ _
  exact gr_v S hr hlk hI (ef15) d_Row_shorten_5
set_option maxHeartbeats 4000000 in
set_option maxRecDepth 100000 in
theorem c_Row_addWord (l : Launch) (P : gPar) (f : gM) {a b n cap : Nat} {g : Nat → Int32} {x : Int32} (ha : f a = some (.inr (1, [.ref b, .int (nI n)]))) (hb : f b = some (.inl (P.2.1 0, cap, .inl g))) (hn : n + 4 ≤ cap) (hc : cap < 2 ^ 20) : gC l P y_Row_addWord b_Row_addWord 3 none 0 0 0 [.ref a, .int x] f (gQv P (fun f1 => f1 a = some (.inr (1, [.ref b, .int (nI (n + 1 + 1 + 1 + 1))])) ∧ f1 b = some (.inl (P.2.1 0, cap, .inl (upd4 g n x))) ∧ gFr f f1 [a, b])) := by
  refine gC_of (by decide) (Nat.le_of_ble_eq_true rfl) (fun p env s m args below meth c S hr hlk hnm H locs hI ls hl => ?_)
  have hl : lv_has ls 3 [(0, .ref a), (1, .int x)] := hl
  have hF : gFr f f [a, b] := gFr.rf
  refine lv_bipush (v := nI 24) S.1 S.2.1 d_Row_addWord_0 (by decide) ?_
  refine lv_istore_n (lv' := [(2, .int (nI 24)), (0, .ref a), (1, .int x)]) S.1 S.2.1 d_Row_addWord_2 rfl hl (by decide) rfl (fun ls hl => ?_)
  refine lv_iload_n S.1 S.2.1 d_Row_addWord_3 rfl (lv_at hl 0 rfl) ?_
  refine lv_if_lt (tgt := 36) S.1 S.2.1 d_Row_addWord_4 (by decide) (fun c17 => absurd c17 (by decide)) (fun c17 => ?_)
  refine lv_aload_n S.1 S.2.1 d_Row_addWord_7 rfl (lv_at hl 1 rfl) ?_
  refine gh_get S hI ha rfl i_Row 0 (by decide) wi_31 rfl d_Row_addWord_8 ?_
  refine lv_aload_n S.1 S.2.1 d_Row_addWord_11 rfl (lv_at hl 1 rfl) ?_
  refine gh_get S hI ha rfl i_Row 1 (by decide) wi_32 rfl d_Row_addWord_12 ?_
  refine lv_iload_n S.1 S.2.1 d_Row_addWord_15 rfl (lv_at hl 2 rfl) ?_
  refine lv_iload_n S.1 S.2.1 d_Row_addWord_16 rfl (lv_at hl 0 rfl) ?_
  obtain ⟨v18, ev18⟩ : ∃ y : Int32, y = (Int32.toUInt32 x >>> (Int32.toUInt32 (nI 24) &&& Int32.toUInt32 31)).toInt32 := ⟨_, rfl⟩
  refine lv_iushr (v := v18) S.1 S.2.1 d_Row_addWord_17 ev18.symm ?_
  refine lv_i2b (v := Int8.toInt32 (Int32.toInt8 v18)) S.1 S.2.1 d_Row_addWord_18 rfl ?_
  refine gh_bast (j := n) S hI 0 hb rfl rfl (by omega) (by omega) d_Row_addWord_19 (fun H locs hI => ?_)
  have hI : gB P (va_up f b (some (.inl (P.2.1 0, cap, .inl (upd g n (Int8.toInt32 (Int32.toInt8 (Int8.toInt32 (Int32.toInt8 v18))))))))) s H locs := hI
  obtain ⟨f19, ef19⟩ : ∃ z, z = va_up f b (some (.inl (P.2.1 0, cap, .inl (upd g n (Int8.toInt32 (Int32.toInt8 (Int8.toInt32 (Int32.toInt8 v18)))))))) := ⟨_, rfl⟩
  rw [← ef19] at hI
  have h20 : f19 a = some (.inr (1, [.ref b, .int (nI n)])) := by rw [ef19, va_up_ne _ _ (gh_ne ha hb (by intro h; cases h))]; exact ha
  have h21 : f19 b = some (.inl (P.2.1 0, cap, .inl (upd g n (Int8.toInt32 (Int32.toInt8 (Int8.toInt32 (Int32.toInt8 v18))))))) := by rw [ef19]; exact va_up_self _ _ _
  have hF : gFr f f19 [a, b] := by rw [ef19]; exact gFr.upA (by simp) hF
  refine lv_aload_n S.1 S.2.1 d_Row_addWord_20 rfl (lv_at hl 1 rfl) ?_
  refine lv_dup S.1 S.2.1 d_Row_addWord_21 rfl ?_
  refine gh_get S hI h20 rfl i_Row 1 (by decide) wi_32 rfl d_Row_addWord_22 ?_
  refine lv_iconst (v := nI 1) S.1 S.2.1 d_Row_addWord_25 (by decide) ?_
  refine lv_iadd S.1 S.2.1 d_Row_addWord_26 ?_
  refine lv_topi (fun v22 ev22 => ?_)
  replace ev22 : v22 = nI (n + 1) := ev22.trans (nI_add _ _)
  subst ev22
  refine gh_put S hI h20 rfl i_Row t_Row tk_Row n_Row 1 (by decide) wi_32 rfl rfl rfl (Nat.le_of_ble_eq_true rfl) d_Row_addWord_27 (fun H locs hI => ?_)
  have hI : gB P (va_up f19 a (some (.inr (1, [.ref b, .int (nI (n + 1))])))) s H locs := hI
  obtain ⟨f23, ef23⟩ : ∃ z, z = va_up f19 a (some (.inr (1, [.ref b, .int (nI (n + 1))]))) := ⟨_, rfl⟩
  rw [← ef23] at hI
  have h24 : f23 b = some (.inl (P.2.1 0, cap, .inl (upd g n (Int8.toInt32 (Int32.toInt8 (Int8.toInt32 (Int32.toInt8 v18))))))) := by rw [ef23, va_up_ne _ _ (gh_ne h21 h20 (by intro h; cases h))]; exact h21
  have h25 : f23 a = some (.inr (1, [.ref b, .int (nI (n + 1))])) := by rw [ef23]; exact va_up_self _ _ _
  have hF : gFr f f23 [a, b] := by rw [ef23]; exact gFr.upA (by simp) hF
  refine lv_iinc (v := nI 16) (lv' := [(2, .int (nI 16)), (0, .ref a), (1, .int x)]) S.1 S.2.1 d_Row_addWord_30 hl (k := 0) rfl (by decide) (by decide) rfl (fun ls hl => ?_)
  refine lv_goto (tgt := 3) S.1 S.2.1 d_Row_addWord_33 (by decide) ?_
  refine lv_iload_n S.1 S.2.1 d_Row_addWord_3 rfl (lv_at hl 0 rfl) ?_
  refine lv_if_lt (tgt := 36) S.1 S.2.1 d_Row_addWord_4 (by decide) (fun c26 => absurd c26 (by decide)) (fun c26 => ?_)
  refine lv_aload_n S.1 S.2.1 d_Row_addWord_7 rfl (lv_at hl 1 rfl) ?_
  refine gh_get S hI h25 rfl i_Row 0 (by decide) wi_31 rfl d_Row_addWord_8 ?_
  refine lv_aload_n S.1 S.2.1 d_Row_addWord_11 rfl (lv_at hl 1 rfl) ?_
  refine gh_get S hI h25 rfl i_Row 1 (by decide) wi_32 rfl d_Row_addWord_12 ?_
  refine lv_iload_n S.1 S.2.1 d_Row_addWord_15 rfl (lv_at hl 2 rfl) ?_
  refine lv_iload_n S.1 S.2.1 d_Row_addWord_16 rfl (lv_at hl 0 rfl) ?_
  obtain ⟨v27, ev27⟩ : ∃ y : Int32, y = (Int32.toUInt32 x >>> (Int32.toUInt32 (nI 16) &&& Int32.toUInt32 31)).toInt32 := ⟨_, rfl⟩
  refine lv_iushr (v := v27) S.1 S.2.1 d_Row_addWord_17 ev27.symm ?_
  refine lv_i2b (v := Int8.toInt32 (Int32.toInt8 v27)) S.1 S.2.1 d_Row_addWord_18 rfl ?_
  refine gh_bast (j := n + 1) S hI 0 h24 rfl rfl (by omega) (by omega) d_Row_addWord_19 (fun H locs hI => ?_)
  have hI : gB P (va_up f23 b (some (.inl (P.2.1 0, cap, .inl (upd (upd g n (Int8.toInt32 (Int32.toInt8 (Int8.toInt32 (Int32.toInt8 v18))))) (n + 1) (Int8.toInt32 (Int32.toInt8 (Int8.toInt32 (Int32.toInt8 v27))))))))) s H locs := hI
  obtain ⟨f28, ef28⟩ : ∃ z, z = va_up f23 b (some (.inl (P.2.1 0, cap, .inl (upd (upd g n (Int8.toInt32 (Int32.toInt8 (Int8.toInt32 (Int32.toInt8 v18))))) (n + 1) (Int8.toInt32 (Int32.toInt8 (Int8.toInt32 (Int32.toInt8 v27)))))))) := ⟨_, rfl⟩
  rw [← ef28] at hI
  have h29 : f28 a = some (.inr (1, [.ref b, .int (nI (n + 1))])) := by rw [ef28, va_up_ne _ _ (gh_ne h25 h24 (by intro h; cases h))]; exact h25
  have h30 : f28 b = some (.inl (P.2.1 0, cap, .inl (upd (upd g n (Int8.toInt32 (Int32.toInt8 (Int8.toInt32 (Int32.toInt8 v18))))) (n + 1) (Int8.toInt32 (Int32.toInt8 (Int8.toInt32 (Int32.toInt8 v27))))))) := by rw [ef28]; exact va_up_self _ _ _
  have hF : gFr f f28 [a, b] := by rw [ef28]; exact gFr.upA (by simp) hF
  refine lv_aload_n S.1 S.2.1 d_Row_addWord_20 rfl (lv_at hl 1 rfl) ?_
  refine lv_dup S.1 S.2.1 d_Row_addWord_21 rfl ?_
  refine gh_get S hI h29 rfl i_Row 1 (by decide) wi_32 rfl d_Row_addWord_22 ?_
  refine lv_iconst (v := nI 1) S.1 S.2.1 d_Row_addWord_25 (by decide) ?_
  refine lv_iadd S.1 S.2.1 d_Row_addWord_26 ?_
  refine lv_topi (fun v31 ev31 => ?_)
  replace ev31 : v31 = nI ((n + 1) + 1) := ev31.trans (nI_add _ _)
  subst ev31
  refine gh_put S hI h29 rfl i_Row t_Row tk_Row n_Row 1 (by decide) wi_32 rfl rfl rfl (Nat.le_of_ble_eq_true rfl) d_Row_addWord_27 (fun H locs hI => ?_)
  have hI : gB P (va_up f28 a (some (.inr (1, [.ref b, .int (nI ((n + 1) + 1))])))) s H locs := hI
  obtain ⟨f32, ef32⟩ : ∃ z, z = va_up f28 a (some (.inr (1, [.ref b, .int (nI ((n + 1) + 1))]))) := ⟨_, rfl⟩
  rw [← ef32] at hI
  have h33 : f32 b = some (.inl (P.2.1 0, cap, .inl (upd (upd g n (Int8.toInt32 (Int32.toInt8 (Int8.toInt32 (Int32.toInt8 v18))))) (n + 1) (Int8.toInt32 (Int32.toInt8 (Int8.toInt32 (Int32.toInt8 v27))))))) := by rw [ef32, va_up_ne _ _ (gh_ne h30 h29 (by intro h; cases h))]; exact h30
  have h34 : f32 a = some (.inr (1, [.ref b, .int (nI ((n + 1) + 1))])) := by rw [ef32]; exact va_up_self _ _ _
  have hF : gFr f f32 [a, b] := by rw [ef32]; exact gFr.upA (by simp) hF
  refine lv_iinc (v := nI 8) (lv' := [(2, .int (nI 8)), (0, .ref a), (1, .int x)]) S.1 S.2.1 d_Row_addWord_30 hl (k := 0) rfl (by decide) (by decide) rfl (fun ls hl => ?_)
  refine lv_goto (tgt := 3) S.1 S.2.1 d_Row_addWord_33 (by decide) ?_
  refine lv_iload_n S.1 S.2.1 d_Row_addWord_3 rfl (lv_at hl 0 rfl) ?_
  refine lv_if_lt (tgt := 36) S.1 S.2.1 d_Row_addWord_4 (by decide) (fun c35 => absurd c35 (by decide)) (fun c35 => ?_)
  refine lv_aload_n S.1 S.2.1 d_Row_addWord_7 rfl (lv_at hl 1 rfl) ?_
  refine gh_get S hI h34 rfl i_Row 0 (by decide) wi_31 rfl d_Row_addWord_8 ?_
  refine lv_aload_n S.1 S.2.1 d_Row_addWord_11 rfl (lv_at hl 1 rfl) ?_
  refine gh_get S hI h34 rfl i_Row 1 (by decide) wi_32 rfl d_Row_addWord_12 ?_
  refine lv_iload_n S.1 S.2.1 d_Row_addWord_15 rfl (lv_at hl 2 rfl) ?_
  refine lv_iload_n S.1 S.2.1 d_Row_addWord_16 rfl (lv_at hl 0 rfl) ?_
  obtain ⟨v36, ev36⟩ : ∃ y : Int32, y = (Int32.toUInt32 x >>> (Int32.toUInt32 (nI 8) &&& Int32.toUInt32 31)).toInt32 := ⟨_, rfl⟩
  refine lv_iushr (v := v36) S.1 S.2.1 d_Row_addWord_17 ev36.symm ?_
  refine lv_i2b (v := Int8.toInt32 (Int32.toInt8 v36)) S.1 S.2.1 d_Row_addWord_18 rfl ?_
  refine gh_bast (j := (n + 1) + 1) S hI 0 h33 rfl rfl (by omega) (by omega) d_Row_addWord_19 (fun H locs hI => ?_)
  have hI : gB P (va_up f32 b (some (.inl (P.2.1 0, cap, .inl (upd (upd (upd g n (Int8.toInt32 (Int32.toInt8 (Int8.toInt32 (Int32.toInt8 v18))))) (n + 1) (Int8.toInt32 (Int32.toInt8 (Int8.toInt32 (Int32.toInt8 v27))))) ((n + 1) + 1) (Int8.toInt32 (Int32.toInt8 (Int8.toInt32 (Int32.toInt8 v36))))))))) s H locs := hI
  obtain ⟨f37, ef37⟩ : ∃ z, z = va_up f32 b (some (.inl (P.2.1 0, cap, .inl (upd (upd (upd g n (Int8.toInt32 (Int32.toInt8 (Int8.toInt32 (Int32.toInt8 v18))))) (n + 1) (Int8.toInt32 (Int32.toInt8 (Int8.toInt32 (Int32.toInt8 v27))))) ((n + 1) + 1) (Int8.toInt32 (Int32.toInt8 (Int8.toInt32 (Int32.toInt8 v36)))))))) := ⟨_, rfl⟩
  rw [← ef37] at hI
  have h38 : f37 a = some (.inr (1, [.ref b, .int (nI ((n + 1) + 1))])) := by rw [ef37, va_up_ne _ _ (gh_ne h34 h33 (by intro h; cases h))]; exact h34
  have h39 : f37 b = some (.inl (P.2.1 0, cap, .inl (upd (upd (upd g n (Int8.toInt32 (Int32.toInt8 (Int8.toInt32 (Int32.toInt8 v18))))) (n + 1) (Int8.toInt32 (Int32.toInt8 (Int8.toInt32 (Int32.toInt8 v27))))) ((n + 1) + 1) (Int8.toInt32 (Int32.toInt8 (Int8.toInt32 (Int32.toInt8 v36))))))) := by rw [ef37]; exact va_up_self _ _ _
  have hF : gFr f f37 [a, b] := by rw [ef37]; exact gFr.upA (by simp) hF
  refine lv_aload_n S.1 S.2.1 d_Row_addWord_20 rfl (lv_at hl 1 rfl) ?_
  refine lv_dup S.1 S.2.1 d_Row_addWord_21 rfl ?_
  refine gh_get S hI h38 rfl i_Row 1 (by decide) wi_32 rfl d_Row_addWord_22 ?_
  refine lv_iconst (v := nI 1) S.1 S.2.1 d_Row_addWord_25 (by decide) ?_
  refine lv_iadd S.1 S.2.1 d_Row_addWord_26 ?_
  refine lv_topi (fun v40 ev40 => ?_)
  replace ev40 : v40 = nI (((n + 1) + 1) + 1) := ev40.trans (nI_add _ _)
  subst ev40
  refine gh_put S hI h38 rfl i_Row t_Row tk_Row n_Row 1 (by decide) wi_32 rfl rfl rfl (Nat.le_of_ble_eq_true rfl) d_Row_addWord_27 (fun H locs hI => ?_)
  have hI : gB P (va_up f37 a (some (.inr (1, [.ref b, .int (nI (((n + 1) + 1) + 1))])))) s H locs := hI
  obtain ⟨f41, ef41⟩ : ∃ z, z = va_up f37 a (some (.inr (1, [.ref b, .int (nI (((n + 1) + 1) + 1))]))) := ⟨_, rfl⟩
  rw [← ef41] at hI
  have h42 : f41 b = some (.inl (P.2.1 0, cap, .inl (upd (upd (upd g n (Int8.toInt32 (Int32.toInt8 (Int8.toInt32 (Int32.toInt8 v18))))) (n + 1) (Int8.toInt32 (Int32.toInt8 (Int8.toInt32 (Int32.toInt8 v27))))) ((n + 1) + 1) (Int8.toInt32 (Int32.toInt8 (Int8.toInt32 (Int32.toInt8 v36))))))) := by rw [ef41, va_up_ne _ _ (gh_ne h39 h38 (by intro h; cases h))]; exact h39
  have h43 : f41 a = some (.inr (1, [.ref b, .int (nI (((n + 1) + 1) + 1))])) := by rw [ef41]; exact va_up_self _ _ _
  have hF : gFr f f41 [a, b] := by rw [ef41]; exact gFr.upA (by simp) hF
  refine lv_iinc (v := nI 0) (lv' := [(2, .int (nI 0)), (0, .ref a), (1, .int x)]) S.1 S.2.1 d_Row_addWord_30 hl (k := 0) rfl (by decide) (by decide) rfl (fun ls hl => ?_)
  refine lv_goto (tgt := 3) S.1 S.2.1 d_Row_addWord_33 (by decide) ?_
  refine lv_iload_n S.1 S.2.1 d_Row_addWord_3 rfl (lv_at hl 0 rfl) ?_
  refine lv_if_lt (tgt := 36) S.1 S.2.1 d_Row_addWord_4 (by decide) (fun c44 => absurd c44 (by decide)) (fun c44 => ?_)
  refine lv_aload_n S.1 S.2.1 d_Row_addWord_7 rfl (lv_at hl 1 rfl) ?_
  refine gh_get S hI h43 rfl i_Row 0 (by decide) wi_31 rfl d_Row_addWord_8 ?_
  refine lv_aload_n S.1 S.2.1 d_Row_addWord_11 rfl (lv_at hl 1 rfl) ?_
  refine gh_get S hI h43 rfl i_Row 1 (by decide) wi_32 rfl d_Row_addWord_12 ?_
  refine lv_iload_n S.1 S.2.1 d_Row_addWord_15 rfl (lv_at hl 2 rfl) ?_
  refine lv_iload_n S.1 S.2.1 d_Row_addWord_16 rfl (lv_at hl 0 rfl) ?_
  obtain ⟨v45, ev45⟩ : ∃ y : Int32, y = (Int32.toUInt32 x >>> (Int32.toUInt32 (nI 0) &&& Int32.toUInt32 31)).toInt32 := ⟨_, rfl⟩
  refine lv_iushr (v := v45) S.1 S.2.1 d_Row_addWord_17 ev45.symm ?_
  refine lv_i2b (v := Int8.toInt32 (Int32.toInt8 v45)) S.1 S.2.1 d_Row_addWord_18 rfl ?_
  refine gh_bast (j := ((n + 1) + 1) + 1) S hI 0 h42 rfl rfl (by omega) (by omega) d_Row_addWord_19 (fun H locs hI => ?_)
  have hI : gB P (va_up f41 b (some (.inl (P.2.1 0, cap, .inl (upd (upd (upd (upd g n (Int8.toInt32 (Int32.toInt8 (Int8.toInt32 (Int32.toInt8 v18))))) (n + 1) (Int8.toInt32 (Int32.toInt8 (Int8.toInt32 (Int32.toInt8 v27))))) ((n + 1) + 1) (Int8.toInt32 (Int32.toInt8 (Int8.toInt32 (Int32.toInt8 v36))))) (((n + 1) + 1) + 1) (Int8.toInt32 (Int32.toInt8 (Int8.toInt32 (Int32.toInt8 v45))))))))) s H locs := hI
  obtain ⟨f46, ef46⟩ : ∃ z, z = va_up f41 b (some (.inl (P.2.1 0, cap, .inl (upd (upd (upd (upd g n (Int8.toInt32 (Int32.toInt8 (Int8.toInt32 (Int32.toInt8 v18))))) (n + 1) (Int8.toInt32 (Int32.toInt8 (Int8.toInt32 (Int32.toInt8 v27))))) ((n + 1) + 1) (Int8.toInt32 (Int32.toInt8 (Int8.toInt32 (Int32.toInt8 v36))))) (((n + 1) + 1) + 1) (Int8.toInt32 (Int32.toInt8 (Int8.toInt32 (Int32.toInt8 v45)))))))) := ⟨_, rfl⟩
  rw [← ef46] at hI
  have h47 : f46 a = some (.inr (1, [.ref b, .int (nI (((n + 1) + 1) + 1))])) := by rw [ef46, va_up_ne _ _ (gh_ne h43 h42 (by intro h; cases h))]; exact h43
  have h48 : f46 b = some (.inl (P.2.1 0, cap, .inl (upd (upd (upd (upd g n (Int8.toInt32 (Int32.toInt8 (Int8.toInt32 (Int32.toInt8 v18))))) (n + 1) (Int8.toInt32 (Int32.toInt8 (Int8.toInt32 (Int32.toInt8 v27))))) ((n + 1) + 1) (Int8.toInt32 (Int32.toInt8 (Int8.toInt32 (Int32.toInt8 v36))))) (((n + 1) + 1) + 1) (Int8.toInt32 (Int32.toInt8 (Int8.toInt32 (Int32.toInt8 v45))))))) := by rw [ef46]; exact va_up_self _ _ _
  have hF : gFr f f46 [a, b] := by rw [ef46]; exact gFr.upA (by simp) hF
  refine lv_aload_n S.1 S.2.1 d_Row_addWord_20 rfl (lv_at hl 1 rfl) ?_
  refine lv_dup S.1 S.2.1 d_Row_addWord_21 rfl ?_
  refine gh_get S hI h47 rfl i_Row 1 (by decide) wi_32 rfl d_Row_addWord_22 ?_
  refine lv_iconst (v := nI 1) S.1 S.2.1 d_Row_addWord_25 (by decide) ?_
  refine lv_iadd S.1 S.2.1 d_Row_addWord_26 ?_
  refine lv_topi (fun v49 ev49 => ?_)
  replace ev49 : v49 = nI ((((n + 1) + 1) + 1) + 1) := ev49.trans (nI_add _ _)
  subst ev49
  refine gh_put S hI h47 rfl i_Row t_Row tk_Row n_Row 1 (by decide) wi_32 rfl rfl rfl (Nat.le_of_ble_eq_true rfl) d_Row_addWord_27 (fun H locs hI => ?_)
  have hI : gB P (va_up f46 a (some (.inr (1, [.ref b, .int (nI ((((n + 1) + 1) + 1) + 1))])))) s H locs := hI
  obtain ⟨f50, ef50⟩ : ∃ z, z = va_up f46 a (some (.inr (1, [.ref b, .int (nI ((((n + 1) + 1) + 1) + 1))]))) := ⟨_, rfl⟩
  rw [← ef50] at hI
  have h51 : f50 b = some (.inl (P.2.1 0, cap, .inl (upd (upd (upd (upd g n (Int8.toInt32 (Int32.toInt8 (Int8.toInt32 (Int32.toInt8 v18))))) (n + 1) (Int8.toInt32 (Int32.toInt8 (Int8.toInt32 (Int32.toInt8 v27))))) ((n + 1) + 1) (Int8.toInt32 (Int32.toInt8 (Int8.toInt32 (Int32.toInt8 v36))))) (((n + 1) + 1) + 1) (Int8.toInt32 (Int32.toInt8 (Int8.toInt32 (Int32.toInt8 v45))))))) := by rw [ef50, va_up_ne _ _ (gh_ne h48 h47 (by intro h; cases h))]; exact h48
  have h52 : f50 a = some (.inr (1, [.ref b, .int (nI ((((n + 1) + 1) + 1) + 1))])) := by rw [ef50]; exact va_up_self _ _ _
  have hF : gFr f f50 [a, b] := by rw [ef50]; exact gFr.upA (by simp) hF
  refine lv_iinc (v := (-8)) (lv' := [(2, .int (-8)), (0, .ref a), (1, .int x)]) S.1 S.2.1 d_Row_addWord_30 hl (k := 0) rfl (by decide) (by decide) rfl (fun ls hl => ?_)
  refine lv_goto (tgt := 3) S.1 S.2.1 d_Row_addWord_33 (by decide) ?_
  refine lv_iload_n S.1 S.2.1 d_Row_addWord_3 rfl (lv_at hl 0 rfl) ?_
  refine lv_if_lt (tgt := 36) S.1 S.2.1 d_Row_addWord_4 (by decide) (fun c53 => ?_) (fun c53 => absurd (by decide) c53)
  refine gr_v S hr hlk hI ⟨h52, ?_, hF⟩ d_Row_addWord_36
  rw [h51]
  simp only [ev18, ev27, ev36, ev45, i8_idem]
  rfl
set_option maxHeartbeats 4000000 in
set_option maxRecDepth 100000 in
theorem c_Row_addBytes (l : Launch) (P : gPar) (f : gM) {a b n cap c0 cap0 fr k : Nat} {g g0 : Nat → Int32} (ha : f a = some (.inr (1, [.ref b, .int (nI n)]))) (hb : f b = some (.inl (P.2.1 0, cap, .inl g))) (h0 : f c0 = some (.inl (P.2.1 0, cap0, .inl g0))) (hne : c0 ≠ b) (h1 : fr + k ≤ cap0) (h2 : n + k ≤ cap) (hc : cap < 2 ^ 20) (hc0 : cap0 < 2 ^ 20) (hg : sb_Fit g0) : gC l P y_Row_addBytes b_Row_addBytes 4 none 1 0 0 [.ref a, .ref c0, .int (nI fr), .int (nI k)] f (gQv P (fun f1 => f1 a = some (.inr (1, [.ref b, .int (nI (n + k))])) ∧ f1 b = some (.inl (P.2.1 0, cap, .inl (va_cpy g0 g fr n k))) ∧ gFr f f1 [a, b])) := by
  refine gC_of (by decide) (Nat.le_of_ble_eq_true rfl) (fun p env s m args below meth c S hr hlk hnm H locs hI ls hl => ?_)
  have hl : lv_has ls 4 [(0, .ref a), (1, .ref c0), (2, .int (nI fr)), (3, .int (nI k))] := hl
  have hF : gFr f f [a, b] := gFr.rf
  refine lv_aload_n S.1 S.2.1 d_Row_addBytes_0 rfl (lv_at hl 1 rfl) ?_
  refine lv_iload_n S.1 S.2.1 d_Row_addBytes_1 rfl (lv_at hl 2 rfl) ?_
  refine lv_aload_n S.1 S.2.1 d_Row_addBytes_2 rfl (lv_at hl 0 rfl) ?_
  refine gh_get S hI ha rfl i_Row 0 (by decide) wi_31 rfl d_Row_addBytes_3 ?_
  refine lv_aload_n S.1 S.2.1 d_Row_addBytes_6 rfl (lv_at hl 0 rfl) ?_
  refine gh_get S hI ha rfl i_Row 1 (by decide) wi_32 rfl d_Row_addBytes_7 ?_
  refine lv_iload_n S.1 S.2.1 d_Row_addBytes_10 rfl (lv_at hl 3 rfl) ?_
  refine gh_copyb (sp := fr) (dp := n) (n := k) S hI hl.1 wi_111 wi_113 wi_112 wi_9 0 h0 hb rfl rfl rfl rfl (by omega) (by omega) (by omega) (by omega) (fun i _ => hg _) (Nat.le_of_ble_eq_true rfl) (Nat.le_of_ble_eq_true rfl) d_Row_addBytes_11 (fun H locs hI => ?_)
  have hI : gB P (va_up f b (some (.inl (P.2.1 0, cap, .inl (va_cpy g0 g fr n k))))) s H locs := hI
  obtain ⟨f54, ef54⟩ : ∃ z, z = va_up f b (some (.inl (P.2.1 0, cap, .inl (va_cpy g0 g fr n k)))) := ⟨_, rfl⟩
  rw [← ef54] at hI
  have h55 : f54 a = some (.inr (1, [.ref b, .int (nI n)])) := by rw [ef54, va_up_ne _ _ (gh_ne ha hb (by intro h; cases h))]; exact ha
  have h56 : f54 c0 = some (.inl (P.2.1 0, cap0, .inl g0)) := by rw [ef54, va_up_ne _ _ (hne)]; exact h0
  have h57 : f54 b = some (.inl (P.2.1 0, cap, .inl (va_cpy g0 g fr n k))) := by rw [ef54]; exact va_up_self _ _ _
  have hF : gFr f f54 [a, b] := by rw [ef54]; exact gFr.upA (by simp) hF
  refine lv_aload_n S.1 S.2.1 d_Row_addBytes_14 rfl (lv_at hl 0 rfl) ?_
  refine lv_dup S.1 S.2.1 d_Row_addBytes_15 rfl ?_
  refine gh_get S hI h55 rfl i_Row 1 (by decide) wi_32 rfl d_Row_addBytes_16 ?_
  refine lv_iload_n S.1 S.2.1 d_Row_addBytes_19 rfl (lv_at hl 3 rfl) ?_
  refine lv_iadd S.1 S.2.1 d_Row_addBytes_20 ?_
  refine lv_topi (fun v58 ev58 => ?_)
  replace ev58 : v58 = nI (n + k) := ev58.trans (nI_add _ _)
  subst ev58
  refine gh_put S hI h55 rfl i_Row t_Row tk_Row n_Row 1 (by decide) wi_32 rfl rfl rfl (Nat.le_of_ble_eq_true rfl) d_Row_addBytes_21 (fun H locs hI => ?_)
  have hI : gB P (va_up f54 a (some (.inr (1, [.ref b, .int (nI (n + k))])))) s H locs := hI
  obtain ⟨f59, ef59⟩ : ∃ z, z = va_up f54 a (some (.inr (1, [.ref b, .int (nI (n + k))]))) := ⟨_, rfl⟩
  rw [← ef59] at hI
  have h60 : f59 c0 = some (.inl (P.2.1 0, cap0, .inl g0)) := by rw [ef59, va_up_ne _ _ (gh_ne h56 h55 (by intro h; cases h))]; exact h56
  have h61 : f59 b = some (.inl (P.2.1 0, cap, .inl (va_cpy g0 g fr n k))) := by rw [ef59, va_up_ne _ _ (gh_ne h57 h55 (by intro h; cases h))]; exact h57
  have h62 : f59 a = some (.inr (1, [.ref b, .int (nI (n + k))])) := by rw [ef59]; exact va_up_self _ _ _
  have hF : gFr f f59 [a, b] := by rw [ef59]; exact gFr.upA (by simp) hF
  exact gr_v S hr hlk hI (⟨h62, h61, hF⟩) d_Row_addBytes_24
set_option maxHeartbeats 4000000 in
set_option maxRecDepth 100000 in
theorem c_Row_addZeros (l : Launch) (P : gPar) (f : gM) {a b n cap k : Nat} {g : Nat → Int32} (ha : f a = some (.inr (1, [.ref b, .int (nI n)]))) (hb : f b = some (.inl (P.2.1 0, cap, .inl g))) (h2 : n + k ≤ cap) (hc : cap < 2 ^ 20) : gC l P y_Row_addZeros b_Row_addZeros 2 none 3 0 0 [.ref a, .int (nI k)] f (gQv P (fun f1 => f1 a = some (.inr (1, [.ref b, .int (nI (n + k))])) ∧ f1 b = some (.inl (P.2.1 0, cap, .inl (g_fil g n (n + k) (nI 0)))) ∧ gFr f f1 [a, b])) := by
  refine gC_of (by decide) (Nat.le_of_ble_eq_true rfl) (fun p env s m args below meth c S hr hlk hnm H locs hI ls hl => ?_)
  have hl : lv_has ls 2 [(0, .ref a), (1, .int (nI k))] := hl
  have hF : gFr f f [a, b] := gFr.rf
  refine lv_aload_n S.1 S.2.1 d_Row_addZeros_0 rfl (lv_at hl 0 rfl) ?_
  refine gh_get S hI ha rfl i_Row 0 (by decide) wi_31 rfl d_Row_addZeros_1 ?_
  refine lv_aload_n S.1 S.2.1 d_Row_addZeros_4 rfl (lv_at hl 0 rfl) ?_
  refine gh_get S hI ha rfl i_Row 1 (by decide) wi_32 rfl d_Row_addZeros_5 ?_
  refine lv_aload_n S.1 S.2.1 d_Row_addZeros_8 rfl (lv_at hl 0 rfl) ?_
  refine gh_get S hI ha rfl i_Row 1 (by decide) wi_32 rfl d_Row_addZeros_9 ?_
  refine lv_iload_n S.1 S.2.1 d_Row_addZeros_12 rfl (lv_at hl 1 rfl) ?_
  refine lv_iadd S.1 S.2.1 d_Row_addZeros_13 ?_
  refine lv_topi (fun v63 ev63 => ?_)
  replace ev63 : v63 = nI (n + k) := ev63.trans (nI_add _ _)
  subst ev63
  refine lv_iconst (v := nI 0) S.1 S.2.1 d_Row_addZeros_14 (by decide) ?_
  refine gc_Sv S hI (c_Arrs_fill l P f (lo := n) (hi := n + k) (x := nI 0) hb (by omega) (by omega) (by omega) (by decide)) kv_Arrs_fill wi_383 rfl hl.1 rfl (Nat.le_of_ble_eq_true rfl) ⟨Nat.le_of_ble_eq_true rfl, Nat.le_of_ble_eq_true rfl⟩ ⟨Nat.le_of_ble_eq_true rfl, Nat.le_of_ble_eq_true rfl⟩ d_Row_addZeros_15 (fun f65 H locs hp66 hI => ?_)
  rw [hp66] at hI
  have hI : gB P (va_up f b (some (.inl (P.2.1 0, cap, .inl (g_fil g n (n + k) (nI 0)))))) s H locs := hI
  obtain ⟨f67, ef67⟩ : ∃ z, z = va_up f b (some (.inl (P.2.1 0, cap, .inl (g_fil g n (n + k) (nI 0))))) := ⟨_, rfl⟩
  rw [← ef67] at hI
  have h68 : f67 a = some (.inr (1, [.ref b, .int (nI n)])) := by rw [ef67, va_up_ne _ _ (gh_ne ha hb (by intro h; cases h))]; exact ha
  have h69 : f67 b = some (.inl (P.2.1 0, cap, .inl (g_fil g n (n + k) (nI 0)))) := by rw [ef67]; exact va_up_self _ _ _
  have hF : gFr f f67 [a, b] := by rw [ef67]; exact gFr.upA (by simp) hF
  refine lv_aload_n S.1 S.2.1 d_Row_addZeros_18 rfl (lv_at hl 0 rfl) ?_
  refine lv_dup S.1 S.2.1 d_Row_addZeros_19 rfl ?_
  refine gh_get S hI h68 rfl i_Row 1 (by decide) wi_32 rfl d_Row_addZeros_20 ?_
  refine lv_iload_n S.1 S.2.1 d_Row_addZeros_23 rfl (lv_at hl 1 rfl) ?_
  refine lv_iadd S.1 S.2.1 d_Row_addZeros_24 ?_
  refine lv_topi (fun v70 ev70 => ?_)
  replace ev70 : v70 = nI (n + k) := ev70.trans (nI_add _ _)
  subst ev70
  refine gh_put S hI h68 rfl i_Row t_Row tk_Row n_Row 1 (by decide) wi_32 rfl rfl rfl (Nat.le_of_ble_eq_true rfl) d_Row_addZeros_25 (fun H locs hI => ?_)
  have hI : gB P (va_up f67 a (some (.inr (1, [.ref b, .int (nI (n + k))])))) s H locs := hI
  obtain ⟨f71, ef71⟩ : ∃ z, z = va_up f67 a (some (.inr (1, [.ref b, .int (nI (n + k))]))) := ⟨_, rfl⟩
  rw [← ef71] at hI
  have h72 : f71 b = some (.inl (P.2.1 0, cap, .inl (g_fil g n (n + k) (nI 0)))) := by rw [ef71, va_up_ne _ _ (gh_ne h69 h68 (by intro h; cases h))]; exact h69
  have h73 : f71 a = some (.inr (1, [.ref b, .int (nI (n + k))])) := by rw [ef71]; exact va_up_self _ _ _
  have hF : gFr f f71 [a, b] := by rw [ef71]; exact gFr.upA (by simp) hF
  exact gr_v S hr hlk hI (⟨h73, h72, hF⟩) d_Row_addZeros_28
set_option maxHeartbeats 4000000 in
set_option maxRecDepth 100000 in
theorem c_Row_become (l : Launch) (P : gPar) (f : gM) {a b n cap a2 b2 n2 cap2 : Nat} {g g2 : Nat → Int32} (ha : f a = some (.inr (1, [.ref b, .int (nI n)]))) (hb : f b = some (.inl (P.2.1 0, cap, .inl g))) (ha2 : f a2 = some (.inr (1, [.ref b2, .int (nI n2)]))) (hb2 : f b2 = some (.inl (P.2.1 0, cap2, .inl g2))) (hna : a ≠ a2) (hnb : b ≠ b2) (h1 : n2 ≤ cap2) (h2 : n2 ≤ cap) (hc : cap < 2 ^ 20) (hc2 : cap2 < 2 ^ 20) (hg2 : sb_Fit g2) : gC l P y_Row_become b_Row_become 2 none 2 0 0 [.ref a, .ref a2] f (gQv P (fun f1 => f1 a = some (.inr (1, [.ref b, .int (nI n2)])) ∧ f1 b = some (.inl (P.2.1 0, cap, .inl (va_cpy g2 g 0 0 n2))) ∧ gFr f f1 [a, b])) := by
  refine gC_of (by decide) (Nat.le_of_ble_eq_true rfl) (fun p env s m args below meth c S hr hlk hnm H locs hI ls hl => ?_)
  have hl : lv_has ls 2 [(0, .ref a), (1, .ref a2)] := hl
  have hF : gFr f f [a, b] := gFr.rf
  refine lv_aload_n S.1 S.2.1 d_Row_become_0 rfl (lv_at hl 0 rfl) ?_
  refine lv_iconst (v := nI 0) S.1 S.2.1 d_Row_become_1 (by decide) ?_
  refine gh_put S hI ha rfl i_Row t_Row tk_Row n_Row 1 (by decide) wi_32 rfl rfl rfl (Nat.le_of_ble_eq_true rfl) d_Row_become_2 (fun H locs hI => ?_)
  have hI : gB P (va_up f a (some (.inr (1, [.ref b, .int (nI 0)])))) s H locs := hI
  obtain ⟨f74, ef74⟩ : ∃ z, z = va_up f a (some (.inr (1, [.ref b, .int (nI 0)]))) := ⟨_, rfl⟩
  rw [← ef74] at hI
  have h75 : f74 b = some (.inl (P.2.1 0, cap, .inl g)) := by rw [ef74, va_up_ne _ _ (gh_ne hb ha (by intro h; cases h))]; exact hb
  have h76 : f74 a2 = some (.inr (1, [.ref b2, .int (nI n2)])) := by rw [ef74, va_up_ne _ _ (Ne.symm (hna))]; exact ha2
  have h77 : f74 b2 = some (.inl (P.2.1 0, cap2, .inl g2)) := by rw [ef74, va_up_ne _ _ (gh_ne hb2 ha (by intro h; cases h))]; exact hb2
  have h78 : f74 a = some (.inr (1, [.ref b, .int (nI 0)])) := by rw [ef74]; exact va_up_self _ _ _
  have hF : gFr f f74 [a, b] := by rw [ef74]; exact gFr.upA (by simp) hF
  refine lv_aload_n S.1 S.2.1 d_Row_become_5 rfl (lv_at hl 0 rfl) ?_
  refine lv_aload_n S.1 S.2.1 d_Row_become_6 rfl (lv_at hl 1 rfl) ?_
  refine gh_get S hI h76 rfl i_Row 0 (by decide) wi_31 rfl d_Row_become_7 ?_
  refine lv_iconst (v := nI 0) S.1 S.2.1 d_Row_become_10 (by decide) ?_
  refine lv_aload_n S.1 S.2.1 d_Row_become_11 rfl (lv_at hl 1 rfl) ?_
  refine gh_get S hI h76 rfl i_Row 1 (by decide) wi_32 rfl d_Row_become_12 ?_
  refine gc_Vv S hI (c_Row_addBytes l P f74 (k := n2) (fr := 0) (n := 0) h78 h75 h77 (fun h => hnb h.symm) (by omega) (by omega) hc hc2 hg2) kv_Row_addBytes wi_107 h78 rfl rfl rfl hl.1 rfl (Nat.le_of_ble_eq_true rfl) ⟨Nat.le_of_ble_eq_true rfl, Nat.le_of_ble_eq_true rfl⟩ ⟨Nat.le_of_ble_eq_true rfl, Nat.le_of_ble_eq_true rfl⟩ d_Row_become_15 (fun f80 H locs hp81 hI => ?_)
  obtain ⟨hp1, hp2, hp3⟩ := hp81
  rw [Nat.zero_add] at hp1
  have hF := gFr.call hF hp3 (fun q hq => Or.inl hq)
  exact gr_v S hr hlk hI (⟨hp1, hp2, hF⟩) d_Row_become_18
set_option maxHeartbeats 4000000 in
set_option maxRecDepth 100000 in
theorem c_Row_copyTo (l : Launch) (P : gPar) (f : gM) {a b n cap c0 cap0 at_ fr k : Nat} {g g0 : Nat → Int32} (ha : f a = some (.inr (1, [.ref b, .int (nI n)]))) (hb : f b = some (.inl (P.2.1 0, cap, .inl g))) (h0 : f c0 = some (.inl (P.2.1 0, cap0, .inl g0))) (hne : b ≠ c0) (h1 : fr + k ≤ cap) (h2 : at_ + k ≤ cap0) (hc : cap < 2 ^ 20) (hc0 : cap0 < 2 ^ 20) (hg : sb_Fit g) : gC l P y_Row_copyTo b_Row_copyTo 5 none 1 0 0 [.ref a, .ref c0, .int (nI at_), .int (nI fr), .int (nI k)] f (gQv P (fun f1 => f1 = va_up f c0 (some (.inl (P.2.1 0, cap0, .inl (va_cpy g g0 fr at_ k)))))) := by
  refine gC_of (by decide) (Nat.le_of_ble_eq_true rfl) (fun p env s m args below meth c S hr hlk hnm H locs hI ls hl => ?_)
  have hl : lv_has ls 5 [(0, .ref a), (1, .ref c0), (2, .int (nI at_)), (3, .int (nI fr)), (4, .int (nI k))] := hl
  refine lv_aload_n S.1 S.2.1 d_Row_copyTo_0 rfl (lv_at hl 0 rfl) ?_
  refine gh_get S hI ha rfl i_Row 0 (by decide) wi_31 rfl d_Row_copyTo_1 ?_
  refine lv_iload_n S.1 S.2.1 d_Row_copyTo_4 rfl (lv_at hl 3 rfl) ?_
  refine lv_aload_n S.1 S.2.1 d_Row_copyTo_5 rfl (lv_at hl 1 rfl) ?_
  refine lv_iload_n S.1 S.2.1 d_Row_copyTo_6 rfl (lv_at hl 2 rfl) ?_
  refine lv_iload S.1 S.2.1 d_Row_copyTo_7 (lv_at hl 4 rfl) ?_
  refine gh_copyb (sp := fr) (dp := at_) (n := k) S hI hl.1 wi_111 wi_113 wi_112 wi_9 0 hb h0 rfl rfl rfl rfl (by omega) (by omega) (by omega) (by omega) (fun i _ => hg _) (Nat.le_of_ble_eq_true rfl) (Nat.le_of_ble_eq_true rfl) d_Row_copyTo_9 (fun H locs hI => ?_)
  have hI : gB P (va_up f c0 (some (.inl (P.2.1 0, cap0, .inl (va_cpy g g0 fr at_ k))))) s H locs := hI
  obtain ⟨f82, ef82⟩ : ∃ z, z = va_up f c0 (some (.inl (P.2.1 0, cap0, .inl (va_cpy g g0 fr at_ k)))) := ⟨_, rfl⟩
  rw [← ef82] at hI
  have h83 : f82 a = some (.inr (1, [.ref b, .int (nI n)])) := by rw [ef82, va_up_ne _ _ (gh_ne ha h0 (by intro h; cases h))]; exact ha
  have h84 : f82 b = some (.inl (P.2.1 0, cap, .inl g)) := by rw [ef82, va_up_ne _ _ (hne)]; exact hb
  have h85 : f82 c0 = some (.inl (P.2.1 0, cap0, .inl (va_cpy g g0 fr at_ k))) := by rw [ef82]; exact va_up_self _ _ _
  exact gr_v S hr hlk hI (ef82) d_Row_copyTo_12
set_option maxHeartbeats 4000000 in
set_option maxRecDepth 100000 in
theorem c_Row_compareWith (l : Launch) (P : gPar) (f : gM) {a b n cap a2 b2 n2 cap2 : Nat} {g g2 : Nat → Int32} (ha : f a = some (.inr (1, [.ref b, .int (nI n)]))) (hb : f b = some (.inl (P.2.1 0, cap, .inl g))) (ha2 : f a2 = some (.inr (1, [.ref b2, .int (nI n2)]))) (hb2 : f b2 = some (.inl (P.2.1 0, cap2, .inl g2))) (h1 : n ≤ cap) (h2 : n2 ≤ cap2) (hc : cap < 2 ^ 20) (hc2 : cap2 < 2 ^ 20) : gC l P y_Row_compareWith b_Row_compareWith 5 (some .int) 1 0 0 [.ref a, .ref a2] f (gQi P (fun r f1 => cmpOK r (nmL n g) (nmL n2 g2) ∧ f1 = f)) := by
  refine gC_of (by decide) (Nat.le_of_ble_eq_true rfl) (fun p env s m args below meth c S hr hlk hnm H locs hI ls hl => ?_)
  have hl : lv_has ls 5 [(0, .ref a), (1, .ref a2)] := hl
  refine lv_aload_n S.1 S.2.1 d_Row_compareWith_0 rfl (lv_at hl 0 rfl) ?_
  refine gh_get S hI ha rfl i_Row 1 (by decide) wi_32 rfl d_Row_compareWith_1 ?_
  refine lv_aload_n S.1 S.2.1 d_Row_compareWith_4 rfl (lv_at hl 1 rfl) ?_
  refine gh_get S hI ha2 rfl i_Row 1 (by decide) wi_32 rfl d_Row_compareWith_5 ?_
  refine gc_min S wi_165 hl.1 d_Row_compareWith_8 (by omega) (by omega) (Nat.le_of_ble_eq_true rfl) (Nat.le_of_ble_eq_true rfl) (Nat.le_of_ble_eq_true rfl) (Nat.le_of_ble_eq_true rfl) ?_
  refine lv_istore_n (lv' := [(2, .int (nI (min n n2))), (0, .ref a), (1, .ref a2)]) S.1 S.2.1 d_Row_compareWith_11 rfl hl (by decide) rfl (fun ls hl => ?_)
  refine lv_iconst (v := nI 0) S.1 S.2.1 d_Row_compareWith_12 (by decide) ?_
  refine lv_istore_n (lv' := [(3, .int (nI 0)), (2, .int (nI (min n n2))), (0, .ref a), (1, .ref a2)]) S.1 S.2.1 d_Row_compareWith_13 rfl hl (by decide) rfl (fun ls hl => ?_)
  have loop : ∀ (k i : Nat), i ≤ min n n2 → min n n2 - i < k → (∀ j, j < i → ub (g j) = ub (g2 j)) → ∀ (H : Heap) (locs : List Loc), gB P f s H locs → ∀ ls : Array Slot, lv_has ls 5 [(0, .ref a), (1, .ref a2), (2, .int (nI (min n n2))), (3, .int (nI i))] → W p l env (grm 1 0 0) s m args below meth c H locs 0 0 (MQ below (gQi P (fun r f1 => cmpOK r (nmL n g) (nmL n2 g2) ∧ f1 = f)) args s 0 0 (gA P)) (F0 m 14 ls []) := by
    intro k
    induction k with
    | zero => intro i h4 h5; exact absurd h5 (by omega)
    | succ k ih =>
      intro i h4 h5 he H locs hI ls hl
      refine lv_iload_n S.1 S.2.1 d_Row_compareWith_14 rfl (lv_at hl 3 rfl) ?_
      refine lv_iload_n S.1 S.2.1 d_Row_compareWith_15 rfl (lv_at hl 2 rfl) ?_
      refine lv_icmp_ge (tgt := 56) S.1 S.2.1 d_Row_compareWith_16 (by decide) (fun c86 => ?_) (fun c86 => ?_)
      · skip
        replace c86 : (min n n2) ≤ i := (nI_leI (a := min n n2) (b := i) (by omega) (by omega)).mp c86
        refine lv_aload_n S.1 S.2.1 d_Row_compareWith_56 rfl (lv_at hl 0 rfl) ?_
        refine gh_get S hI ha rfl i_Row 1 (by decide) wi_32 rfl d_Row_compareWith_57 ?_
        refine lv_aload_n S.1 S.2.1 d_Row_compareWith_60 rfl (lv_at hl 1 rfl) ?_
        refine gh_get S hI ha2 rfl i_Row 1 (by decide) wi_32 rfl d_Row_compareWith_61 ?_
        refine lv_isub S.1 S.2.1 d_Row_compareWith_64 ?_
        exact gr_i S hr hlk hI (⟨cmp_end (by omega) (by omega) (fun j h6 h7 => he j (by omega)), rfl⟩) d_Row_compareWith_65
      · skip
        replace c86 : ¬ (min n n2) ≤ i := fun z => c86 ((nI_leI (a := min n n2) (b := i) (by omega) (by omega)).mpr z)
        refine lv_aload_n S.1 S.2.1 d_Row_compareWith_19 rfl (lv_at hl 0 rfl) ?_
        refine gh_get S hI ha rfl i_Row 0 (by decide) wi_31 rfl d_Row_compareWith_20 ?_
        refine lv_iload_n S.1 S.2.1 d_Row_compareWith_23 rfl (lv_at hl 3 rfl) ?_
        refine gh_bald (j := i) S hI 0 hb rfl rfl (by omega) (by omega) d_Row_compareWith_24 ?_
        refine lv_sipush (v := nI 255) S.1 S.2.1 d_Row_compareWith_25 (by decide) ?_
        refine lv_iand S.1 S.2.1 d_Row_compareWith_28 ?_
        refine lv_topi (fun v87 ev87 => ?_)
        replace ev87 : v87 = nI (ub (g i)) := ev87.trans (ub_nI _)
        subst ev87
        refine lv_aload_n S.1 S.2.1 d_Row_compareWith_29 rfl (lv_at hl 1 rfl) ?_
        refine gh_get S hI ha2 rfl i_Row 0 (by decide) wi_31 rfl d_Row_compareWith_30 ?_
        refine lv_iload_n S.1 S.2.1 d_Row_compareWith_33 rfl (lv_at hl 3 rfl) ?_
        refine gh_bald (j := i) S hI 0 hb2 rfl rfl (by omega) (by omega) d_Row_compareWith_34 ?_
        refine lv_sipush (v := nI 255) S.1 S.2.1 d_Row_compareWith_35 (by decide) ?_
        refine lv_iand S.1 S.2.1 d_Row_compareWith_38 ?_
        refine lv_topi (fun v88 ev88 => ?_)
        replace ev88 : v88 = nI (ub (g2 i)) := ev88.trans (ub_nI _)
        subst ev88
        refine lv_isub S.1 S.2.1 d_Row_compareWith_39 ?_
        refine lv_topi (fun v89 ev89 => ?_)
        refine lv_istore (lv' := [(4, .int v89), (0, .ref a), (1, .ref a2), (2, .int (nI (min n n2))), (3, .int (nI i))]) S.1 S.2.1 d_Row_compareWith_40 hl (by decide) rfl (fun ls hl => ?_)
        refine lv_iload S.1 S.2.1 d_Row_compareWith_42 (lv_at hl 0 rfl) ?_
        refine lv_if_eq (tgt := 50) S.1 S.2.1 d_Row_compareWith_44 (by decide) (fun c90 => ?_) (fun c90 => ?_)
        · skip
          have hu : ub (g i) = ub (g2 i) := Classical.byContradiction fun hne => by
            have h1 := ub_lt (g i)
            have h2 := ub_lt (g2 i)
            have hc3 := nI_sub_cmp (a := ub (g i)) (b := ub (g2 i)) (by omega) (by omega)
            rw [← ev89, c90] at hc3
            rcases Nat.lt_or_gt_of_ne hne with q | q
            · exact absurd (hc3.1 q) (by decide)
            · exact absurd (hc3.2.2 q) (by decide)
          refine lv_iinc (v := nI (i + 1)) (lv' := [(3, .int (nI (i + 1))), (4, .int v89), (0, .ref a), (1, .ref a2), (2, .int (nI (min n n2)))]) S.1 S.2.1 d_Row_compareWith_50 hl (k := 4) rfl (nI_add _ _) (by decide) rfl (fun ls hl => ?_)
          refine lv_goto (tgt := 14) S.1 S.2.1 d_Row_compareWith_53 (by decide) ?_
          exact ih (i + 1) (by omega) (by omega) (fun j hj => (Nat.lt_succ_iff_lt_or_eq.mp hj).elim (he j) (fun q => by rw [q]; exact hu)) _ _ hI _ (lv_sub hl [2, 3, 4, 0] rfl)
        · skip
          refine lv_iload S.1 S.2.1 d_Row_compareWith_47 (lv_at hl 0 rfl) ?_
          exact gr_i S hr hlk hI (⟨by rw [ev89]; exact cmp_diff (by omega) (by omega) he (fun q => c90 (by rw [ev89, q, pk_sub (Nat.le_refl _), Nat.sub_self]; rfl)), rfl⟩) d_Row_compareWith_49
  exact loop (min n n2 + 1) 0 (Nat.zero_le _) (by omega) (fun j h => absurd h (by omega)) _ _ hI _ (lv_sub hl [2, 3, 1, 0] rfl)
