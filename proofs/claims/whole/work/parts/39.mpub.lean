set_option maxHeartbeats 4000000 in
set_option maxRecDepth 100000 in
theorem c_Mdl_feed (l : Launch) (P : gPar) (f : gM) {b : Nat} {st : ASt} {x1 x2 x3 x4 x5 : Int32} (h : gMo P f b st) : gC l P y_Mdl_feed b_Mdl_feed 6 (some .int) 1 0 0 [.ref b, .int x1, .int x2, .int x3, .int x4, .int x5] f (gQi P (fun r f1 => r = (aFeed st x1 x2 x3 x4 x5).1 ∧ gMo P f1 b (aFeed st x1 x2 x3 x4 x5).2 ∧ gFr f f1 [b, b + 1, b + 2, b + 3, b + 4, b + 5, b + 6, b + 7, b + 8, b + 9, b + 10, b + 11, b + 12])) := by
  refine gC_of (by decide) (Nat.le_of_ble_eq_true rfl) (fun p env s m args below meth c S hr hlk hnm H locs hI ls hl => ?_)
  have hl : lv_has ls 6 [(0, .ref b), (1, .int x1), (2, .int x2), (3, .int x3), (4, .int x4), (5, .int x5)] := hl
  obtain ⟨gt, gn, gl, go, gu, gf, gk, gi, gz, gy, ga, gd, L, af, ⟨hb, h1, h2, h3, h4, h5, h6, h7, h8, h9, h10, h11, h12⟩, ⟨ht1, ht2⟩, ⟨hn0, hn1⟩, ⟨hd1, hd2⟩, ⟨hnd, hlL, hO, hU, hM⟩, hFS⟩ := h
  have hlF : st.2.2.2.2.2.length = L.length := by rw [← hFS, List.length_map]
  have hnF : nms af L = fN st.2.2.2.2.2 := by rw [← hFS, fN_L]
  refine lv_aload_n S.1 S.2.1 d_Mdl_feed_0 rfl (lv_at hl 0 rfl) ?_
  refine gh_get S hI hb rfl i_Mdl 1 (by decide) wi_436 rfl d_Mdl_feed_1 ?_
  refine lv_bipush (v := nI 20) S.1 S.2.1 d_Mdl_feed_4 (by decide) ?_
  refine lv_iadd S.1 S.2.1 d_Mdl_feed_6 ?_
  refine lv_topi (fun v127 ev127 => ?_)
  replace ev127 : v127 = nI (st.1.length + 20) := ev127.trans (nI_add _ _)
  subst ev127
  refine lv_sipush (v := nI 2048) S.1 S.2.1 d_Mdl_feed_7 (by decide) ?_
  refine lv_icmp_le (tgt := 16) S.1 S.2.1 d_Mdl_feed_10 (by decide) (fun c128 => ?_) (fun c128 => ?_)
  · skip
    replace c128 : (st.1.length + 20) ≤ 2048 := (nI_leI (a := st.1.length + 20) (b := 2048) (by omega) (by omega)).mp c128
    have hF : gFr f f [b, b + 1] := gFr.rf
    have k0 := hb
    have k1 := h1
    have e5 : nmL st.1.length gt = st.1 := ht2
    refine lv_aload_n S.1 S.2.1 d_Mdl_feed_16 rfl (lv_at hl 0 rfl) ?_
    refine lv_iload_n S.1 S.2.1 d_Mdl_feed_17 rfl (lv_at hl 1 rfl) ?_
    refine gc_Vv S hI (c_Mdl_put l P f (tl := st.1.length) (x := x1) k0 k1 (by omega)) kv_Mdl_put wi_458 hb rfl rfl rfl hl.1 rfl (Nat.le_of_ble_eq_true rfl) ⟨Nat.le_of_ble_eq_true rfl, Nat.le_of_ble_eq_true rfl⟩ ⟨Nat.le_of_ble_eq_true rfl, Nat.le_of_ble_eq_true rfl⟩ d_Mdl_feed_18 (fun f130 H locs hp131 hI => ?_)
    obtain ⟨g0, k0, k1, kn, kF⟩ := hp131
    replace k0 : f130 b = some (.inr (7, [.ref (b + 1), .int (nI (st.1.length + 4)), .ref (b + 2), .ref (b + 3), .ref (b + 4), .ref (b + 5), .ref (b + 6), .ref (b + 7), .ref (b + 8), .ref (b + 9), .ref (b + 10), .ref (b + 11), .int (nI L.length), .int (nI (fB st.2.2.2.2.2)), .int (nI st.2.2.2.2.1), .ref (b + 12), .int (nI st.2.2.2.1.length)])) := k0
    have hF := hF.call kF (fun q hq => Or.inl hq)
    rw [e5] at kn
    have e5 : nmL (st.1.length + 4) g0 = (st.1 ++ w4 x1) := kn
    refine lv_aload_n S.1 S.2.1 d_Mdl_feed_21 rfl (lv_at hl 0 rfl) ?_
    refine lv_iload_n S.1 S.2.1 d_Mdl_feed_22 rfl (lv_at hl 2 rfl) ?_
    refine gc_Vv S hI (c_Mdl_put l P f130 (tl := st.1.length + 4) (x := x2) k0 k1 (by omega)) kv_Mdl_put wi_458 k0 rfl rfl rfl hl.1 rfl (Nat.le_of_ble_eq_true rfl) ⟨Nat.le_of_ble_eq_true rfl, Nat.le_of_ble_eq_true rfl⟩ ⟨Nat.le_of_ble_eq_true rfl, Nat.le_of_ble_eq_true rfl⟩ d_Mdl_feed_23 (fun f133 H locs hp134 hI => ?_)
    obtain ⟨g1, k0, k1, kn, kF⟩ := hp134
    replace k0 : f133 b = some (.inr (7, [.ref (b + 1), .int (nI (st.1.length + 8)), .ref (b + 2), .ref (b + 3), .ref (b + 4), .ref (b + 5), .ref (b + 6), .ref (b + 7), .ref (b + 8), .ref (b + 9), .ref (b + 10), .ref (b + 11), .int (nI L.length), .int (nI (fB st.2.2.2.2.2)), .int (nI st.2.2.2.2.1), .ref (b + 12), .int (nI st.2.2.2.1.length)])) := k0
    have hF := hF.call kF (fun q hq => Or.inl hq)
    rw [e5] at kn
    have e5 : nmL (st.1.length + 8) g1 = ((st.1 ++ w4 x1) ++ w4 x2) := kn
    refine lv_aload_n S.1 S.2.1 d_Mdl_feed_26 rfl (lv_at hl 0 rfl) ?_
    refine lv_iload_n S.1 S.2.1 d_Mdl_feed_27 rfl (lv_at hl 3 rfl) ?_
    refine gc_Vv S hI (c_Mdl_put l P f133 (tl := st.1.length + 8) (x := x3) k0 k1 (by omega)) kv_Mdl_put wi_458 k0 rfl rfl rfl hl.1 rfl (Nat.le_of_ble_eq_true rfl) ⟨Nat.le_of_ble_eq_true rfl, Nat.le_of_ble_eq_true rfl⟩ ⟨Nat.le_of_ble_eq_true rfl, Nat.le_of_ble_eq_true rfl⟩ d_Mdl_feed_28 (fun f136 H locs hp137 hI => ?_)
    obtain ⟨g2, k0, k1, kn, kF⟩ := hp137
    replace k0 : f136 b = some (.inr (7, [.ref (b + 1), .int (nI (st.1.length + 12)), .ref (b + 2), .ref (b + 3), .ref (b + 4), .ref (b + 5), .ref (b + 6), .ref (b + 7), .ref (b + 8), .ref (b + 9), .ref (b + 10), .ref (b + 11), .int (nI L.length), .int (nI (fB st.2.2.2.2.2)), .int (nI st.2.2.2.2.1), .ref (b + 12), .int (nI st.2.2.2.1.length)])) := k0
    have hF := hF.call kF (fun q hq => Or.inl hq)
    rw [e5] at kn
    have e5 : nmL (st.1.length + 12) g2 = (((st.1 ++ w4 x1) ++ w4 x2) ++ w4 x3) := kn
    refine lv_aload_n S.1 S.2.1 d_Mdl_feed_31 rfl (lv_at hl 0 rfl) ?_
    refine lv_iload S.1 S.2.1 d_Mdl_feed_32 (lv_at hl 4 rfl) ?_
    refine gc_Vv S hI (c_Mdl_put l P f136 (tl := st.1.length + 12) (x := x4) k0 k1 (by omega)) kv_Mdl_put wi_458 k0 rfl rfl rfl hl.1 rfl (Nat.le_of_ble_eq_true rfl) ⟨Nat.le_of_ble_eq_true rfl, Nat.le_of_ble_eq_true rfl⟩ ⟨Nat.le_of_ble_eq_true rfl, Nat.le_of_ble_eq_true rfl⟩ d_Mdl_feed_34 (fun f139 H locs hp140 hI => ?_)
    obtain ⟨g3, k0, k1, kn, kF⟩ := hp140
    replace k0 : f139 b = some (.inr (7, [.ref (b + 1), .int (nI (st.1.length + 16)), .ref (b + 2), .ref (b + 3), .ref (b + 4), .ref (b + 5), .ref (b + 6), .ref (b + 7), .ref (b + 8), .ref (b + 9), .ref (b + 10), .ref (b + 11), .int (nI L.length), .int (nI (fB st.2.2.2.2.2)), .int (nI st.2.2.2.2.1), .ref (b + 12), .int (nI st.2.2.2.1.length)])) := k0
    have hF := hF.call kF (fun q hq => Or.inl hq)
    rw [e5] at kn
    have e5 : nmL (st.1.length + 16) g3 = ((((st.1 ++ w4 x1) ++ w4 x2) ++ w4 x3) ++ w4 x4) := kn
    refine lv_aload_n S.1 S.2.1 d_Mdl_feed_37 rfl (lv_at hl 0 rfl) ?_
    refine lv_iload S.1 S.2.1 d_Mdl_feed_38 (lv_at hl 5 rfl) ?_
    refine gc_Vv S hI (c_Mdl_put l P f139 (tl := st.1.length + 16) (x := x5) k0 k1 (by omega)) kv_Mdl_put wi_458 k0 rfl rfl rfl hl.1 rfl (Nat.le_of_ble_eq_true rfl) ⟨Nat.le_of_ble_eq_true rfl, Nat.le_of_ble_eq_true rfl⟩ ⟨Nat.le_of_ble_eq_true rfl, Nat.le_of_ble_eq_true rfl⟩ d_Mdl_feed_40 (fun f142 H locs hp143 hI => ?_)
    obtain ⟨g4, k0, k1, kn, kF⟩ := hp143
    replace k0 : f142 b = some (.inr (7, [.ref (b + 1), .int (nI (st.1.length + 20)), .ref (b + 2), .ref (b + 3), .ref (b + 4), .ref (b + 5), .ref (b + 6), .ref (b + 7), .ref (b + 8), .ref (b + 9), .ref (b + 10), .ref (b + 11), .int (nI L.length), .int (nI (fB st.2.2.2.2.2)), .int (nI st.2.2.2.2.1), .ref (b + 12), .int (nI st.2.2.2.1.length)])) := k0
    have hF := hF.call kF (fun q hq => Or.inl hq)
    rw [e5] at kn
    have e5 : nmL (st.1.length + 20) g4 = (((((st.1 ++ w4 x1) ++ w4 x2) ++ w4 x3) ++ w4 x4) ++ w4 x5) := kn
    have elen : ((((((st.1 ++ w4 x1) ++ w4 x2) ++ w4 x3) ++ w4 x4) ++ w4 x5)).length = st.1.length + 20 := by simp [w4]
    have ef : aFeed st x1 x2 x3 x4 x5 = (nI (st.1.length + 20), ((((((st.1 ++ w4 x1) ++ w4 x2) ++ w4 x3) ++ w4 x4) ++ w4 x5), st.2)) := by unfold aFeed; rw [if_neg (by omega)]
    have m2 := hF (b + 2) _ h2 (by intro z; simp at z)
    have m3 := hF (b + 3) _ h3 (by intro z; simp at z)
    have m4 := hF (b + 4) _ h4 (by intro z; simp at z)
    have m5 := hF (b + 5) _ h5 (by intro z; simp at z)
    have m6 := hF (b + 6) _ h6 (by intro z; simp at z)
    have m7 := hF (b + 7) _ h7 (by intro z; simp at z)
    have m8 := hF (b + 8) _ h8 (by intro z; simp at z)
    have m9 := hF (b + 9) _ h9 (by intro z; simp at z)
    have m10 := hF (b + 10) _ h10 (by intro z; simp at z)
    have m11 := hF (b + 11) _ h11 (by intro z; simp at z)
    have m12 := hF (b + 12) _ h12 (by intro z; simp at z)
    refine lv_aload_n S.1 S.2.1 d_Mdl_feed_43 rfl (lv_at hl 0 rfl) ?_
    refine gh_get S hI k0 rfl i_Mdl 1 (by decide) wi_436 rfl d_Mdl_feed_44 ?_
    exact gr_i S hr hlk hI (by rw [ef]; exact ⟨rfl, ⟨g4, gn, gl, go, gu, gf, gk, gi, gz, gy, ga, gd, L, af, ⟨by rw [elen]; exact k0, k1, m2, m3, m4, m5, m6, m7, m8, m9, m10, m11, m12⟩, ⟨by rw [elen]; omega, by rw [elen]; exact e5⟩, ⟨hn0, hn1⟩, ⟨hd1, hd2⟩, ⟨hnd, hlL, hO, hU, hM⟩, hFS⟩, hF.mono (by intro q hq; simp at hq ⊢; omega)⟩) d_Mdl_feed_47
  · skip
    replace c128 : ¬ (st.1.length + 20) ≤ 2048 := fun z => c128 ((nI_leI (a := st.1.length + 20) (b := 2048) (by omega) (by omega)).mpr z)
    refine lv_bipush (v := (-4)) S.1 S.2.1 d_Mdl_feed_13 (by decide) ?_
    exact gr_i S hr hlk hI (by unfold aFeed; rw [if_pos (by omega)]; exact ⟨rfl, ⟨gt, gn, gl, go, gu, gf, gk, gi, gz, gy, ga, gd, L, af, ⟨hb, h1, h2, h3, h4, h5, h6, h7, h8, h9, h10, h11, h12⟩, ⟨ht1, ht2⟩, ⟨hn0, hn1⟩, ⟨hd1, hd2⟩, ⟨hnd, hlL, hO, hU, hM⟩, hFS⟩, gFr.rf⟩) d_Mdl_feed_15
set_option maxHeartbeats 4000000 in
set_option maxRecDepth 100000 in
theorem c_Mdl_end (l : Launch) (P : gPar) (f : gM) {b : Nat} {st : ASt} {n : Int32} (h : gMo P f b st) : gC l P y_Mdl_end b_Mdl_end 2 (some .int) 0 0 0 [.ref b, .int n] f (gQi P (fun r f1 => r = (aEnd st n).1 ∧ gMo P f1 b (aEnd st n).2 ∧ gFr f f1 [b, b + 1, b + 2, b + 3, b + 4, b + 5, b + 6, b + 7, b + 8, b + 9, b + 10, b + 11, b + 12])) := by
  refine gC_of (by decide) (Nat.le_of_ble_eq_true rfl) (fun p env s m args below meth c S hr hlk hnm H locs hI ls hl => ?_)
  have hl : lv_has ls 2 [(0, .ref b), (1, .int n)] := hl
  obtain ⟨gt, gn, gl, go, gu, gf, gk, gi, gz, gy, ga, gd, L, af, ⟨hb, h1, h2, h3, h4, h5, h6, h7, h8, h9, h10, h11, h12⟩, ⟨ht1, ht2⟩, ⟨hn0, hn1⟩, ⟨hd1, hd2⟩, ⟨hnd, hlL, hO, hU, hM⟩, hFS⟩ := h
  have hlF : st.2.2.2.2.2.length = L.length := by rw [← hFS, List.length_map]
  have hnF : nms af L = fN st.2.2.2.2.2 := by rw [← hFS, fN_L]
  refine lv_iload_n S.1 S.2.1 d_Mdl_end_0 rfl (lv_at hl 1 rfl) ?_
  refine lv_if_lt (tgt := 12) S.1 S.2.1 d_Mdl_end_1 (by decide) (fun c144 => ?_) (fun c144 => ?_)
  · skip
    refine lv_iconst (v := (-1)) S.1 S.2.1 d_Mdl_end_12 (by decide) ?_
    exact gr_i S hr hlk hI (by unfold aEnd; rw [if_neg (fun z => z.1 c144)]; exact ⟨rfl, ⟨gt, gn, gl, go, gu, gf, gk, gi, gz, gy, ga, gd, L, af, ⟨hb, h1, h2, h3, h4, h5, h6, h7, h8, h9, h10, h11, h12⟩, ⟨ht1, ht2⟩, ⟨hn0, hn1⟩, ⟨hd1, hd2⟩, ⟨hnd, hlL, hO, hU, hM⟩, hFS⟩, gFr.rf⟩) d_Mdl_end_13
  · skip
    obtain ⟨k, hk, hk2⟩ := nI_of c144
    subst hk2
    refine lv_iload_n S.1 S.2.1 d_Mdl_end_4 rfl (lv_at hl 1 rfl) ?_
    refine lv_aload_n S.1 S.2.1 d_Mdl_end_5 rfl (lv_at hl 0 rfl) ?_
    refine gh_get S hI hb rfl i_Mdl 1 (by decide) wi_436 rfl d_Mdl_end_6 ?_
    refine lv_icmp_le (tgt := 14) S.1 S.2.1 d_Mdl_end_9 (by decide) (fun c145 => ?_) (fun c145 => ?_)
    · skip
      replace c145 : k ≤ st.1.length := (nI_leI (a := k) (b := st.1.length) (by omega) (by omega)).mp c145
      have hF : gFr f f [b] := gFr.rf
      refine lv_aload_n S.1 S.2.1 d_Mdl_end_14 rfl (lv_at hl 0 rfl) ?_
      refine lv_iload_n S.1 S.2.1 d_Mdl_end_15 rfl (lv_at hl 1 rfl) ?_
      refine gh_put S hI hb rfl i_Mdl t_Mdl tk_Mdl n_Mdl 1 (by decide) wi_436 rfl rfl rfl (Nat.le_of_ble_eq_true rfl) d_Mdl_end_16 (fun H locs hI => ?_)
      have hI : gB P (va_up f b (some (.inr (7, [.ref (b + 1), .int (nI k), .ref (b + 2), .ref (b + 3), .ref (b + 4), .ref (b + 5), .ref (b + 6), .ref (b + 7), .ref (b + 8), .ref (b + 9), .ref (b + 10), .ref (b + 11), .int (nI L.length), .int (nI (fB st.2.2.2.2.2)), .int (nI st.2.2.2.2.1), .ref (b + 12), .int (nI st.2.2.2.1.length)])))) s H locs := hI
      obtain ⟨f146, ef146⟩ : ∃ z, z = va_up f b (some (.inr (7, [.ref (b + 1), .int (nI k), .ref (b + 2), .ref (b + 3), .ref (b + 4), .ref (b + 5), .ref (b + 6), .ref (b + 7), .ref (b + 8), .ref (b + 9), .ref (b + 10), .ref (b + 11), .int (nI L.length), .int (nI (fB st.2.2.2.2.2)), .int (nI st.2.2.2.2.1), .ref (b + 12), .int (nI st.2.2.2.1.length)]))) := ⟨_, rfl⟩
      rw [← ef146] at hI
      have h147 : f146 (b + 1) = some (.inl (P.2.1 0, 2048, .inl gt)) := by rw [ef146, va_up_ne _ _ (by omega)]; exact h1
      have h148 : f146 (b + 2) = some (.inl (P.2.1 0, 400, .inl gn)) := by rw [ef146, va_up_ne _ _ (by omega)]; exact h2
      have h149 : f146 (b + 3) = some (.inl (P.2.1 1, 2, .inl gl)) := by rw [ef146, va_up_ne _ _ (by omega)]; exact h3
      have h150 : f146 (b + 4) = some (.inl (P.2.1 1, 48, .inl go)) := by rw [ef146, va_up_ne _ _ (by omega)]; exact h4
      have h151 : f146 (b + 5) = some (.inl (P.2.1 2, 48, .inl gu)) := by rw [ef146, va_up_ne _ _ (by omega)]; exact h5
      have h152 : f146 (b + 6) = some (.inl (P.2.1 0, 9600, .inl gf)) := by rw [ef146, va_up_ne _ _ (by omega)]; exact h6
      have h153 : f146 (b + 7) = some (.inl (P.2.1 1, 48, .inl gk)) := by rw [ef146, va_up_ne _ _ (by omega)]; exact h7
      have h154 : f146 (b + 8) = some (.inl (P.2.1 1, 48, .inl gi)) := by rw [ef146, va_up_ne _ _ (by omega)]; exact h8
      have h155 : f146 (b + 9) = some (.inl (P.2.1 1, 48, .inl gz)) := by rw [ef146, va_up_ne _ _ (by omega)]; exact h9
      have h156 : f146 (b + 10) = some (.inl (P.2.1 0, 393216, .inl gy)) := by rw [ef146, va_up_ne _ _ (by omega)]; exact h10
      have h157 : f146 (b + 11) = some (.inl (P.2.1 2, 912, .inl ga)) := by rw [ef146, va_up_ne _ _ (by omega)]; exact h11
      have h158 : f146 (b + 12) = some (.inl (P.2.1 1, 2048, .inl gd)) := by rw [ef146, va_up_ne _ _ (by omega)]; exact h12
      have h159 : f146 b = some (.inr (7, [.ref (b + 1), .int (nI k), .ref (b + 2), .ref (b + 3), .ref (b + 4), .ref (b + 5), .ref (b + 6), .ref (b + 7), .ref (b + 8), .ref (b + 9), .ref (b + 10), .ref (b + 11), .int (nI L.length), .int (nI (fB st.2.2.2.2.2)), .int (nI st.2.2.2.2.1), .ref (b + 12), .int (nI st.2.2.2.1.length)])) := by rw [ef146]; exact va_up_self _ _ _
      have hF : gFr f f146 [b] := by rw [ef146]; exact gFr.upA (by simp) hF
      refine lv_iload_n S.1 S.2.1 d_Mdl_end_19 rfl (lv_at hl 1 rfl) ?_
      have ef : aEnd st (nI k) = (nI k, (st.1.take k, st.2)) := by unfold aEnd; rw [if_pos ⟨c144, nI_le c145 (by omega)⟩, nI_clamp hk]
      have elen : (st.1.take k).length = k := by rw [List.length_take]; omega
      exact gr_i S hr hlk hI (by rw [ef]; exact ⟨rfl, ⟨gt, gn, gl, go, gu, gf, gk, gi, gz, gy, ga, gd, L, af, ⟨by rw [elen]; exact h159, h147, h148, h149, h150, h151, h152, h153, h154, h155, h156, h157, h158⟩, ⟨by rw [elen]; omega, by rw [elen, nmL_take c145, ht2]⟩, ⟨hn0, hn1⟩, ⟨hd1, hd2⟩, ⟨hnd, hlL, hO, hU, hM⟩, hFS⟩, hF.mono (by intro q hq; simp at hq ⊢; omega)⟩) d_Mdl_end_20
    · skip
      replace c145 : ¬ k ≤ st.1.length := fun z => c145 ((nI_leI (a := k) (b := st.1.length) (by omega) (by omega)).mpr z)
      refine lv_iconst (v := (-1)) S.1 S.2.1 d_Mdl_end_12 (by decide) ?_
      exact gr_i S hr hlk hI (by unfold aEnd; rw [if_neg (fun z => absurd ((nI_leI (by omega) (by omega)).mp z.2) (by omega))]; exact ⟨rfl, ⟨gt, gn, gl, go, gu, gf, gk, gi, gz, gy, ga, gd, L, af, ⟨hb, h1, h2, h3, h4, h5, h6, h7, h8, h9, h10, h11, h12⟩, ⟨ht1, ht2⟩, ⟨hn0, hn1⟩, ⟨hd1, hd2⟩, ⟨hnd, hlL, hO, hU, hM⟩, hFS⟩, gFr.rf⟩) d_Mdl_end_13
set_option maxHeartbeats 4000000 in
set_option maxRecDepth 100000 in
theorem c_Mdl_name (l : Launch) (P : gPar) (f : gM) {b : Nat} {st : ASt} {k0 : Int32} (h : gMo P f b st) : gC l P y_Mdl_name b_Mdl_name 3 (some .int) 0 0 0 [.ref b, .int k0] f (gQi P (fun r f1 => r = (aName st k0).1 ∧ gMo P f1 b (aName st k0).2 ∧ gFr f f1 [b, b + 1, b + 2, b + 3, b + 4, b + 5, b + 6, b + 7, b + 8, b + 9, b + 10, b + 11, b + 12])) := by
  refine gC_of (by decide) (Nat.le_of_ble_eq_true rfl) (fun p env s m args below meth c S hr hlk hnm H locs hI ls hl => ?_)
  have hl : lv_has ls 3 [(0, .ref b), (1, .int k0)] := hl
  obtain ⟨gt, gn, gl, go, gu, gf, gk, gi, gz, gy, ga, gd, L, af, ⟨hb, h1, h2, h3, h4, h5, h6, h7, h8, h9, h10, h11, h12⟩, ⟨ht1, ht2⟩, ⟨hn0, hn1⟩, ⟨hd1, hd2⟩, ⟨hnd, hlL, hO, hU, hM⟩, hFS⟩ := h
  have hlF : st.2.2.2.2.2.length = L.length := by rw [← hFS, List.length_map]
  have hnF : nms af L = fN st.2.2.2.2.2 := by rw [← hFS, fN_L]
  refine lv_iload_n S.1 S.2.1 d_Mdl_name_0 rfl (lv_at hl 1 rfl) ?_
  refine lv_if_lt (tgt := 19) S.1 S.2.1 d_Mdl_name_1 (by decide) (fun c160 => ?_) (fun c160 => ?_)
  · skip
    refine lv_iconst (v := (-1)) S.1 S.2.1 d_Mdl_name_19 (by decide) ?_
    exact gr_i S hr hlk hI (by unfold aName; rw [if_neg (fun z => absurd c160 (by rcases z.1 with e | e <;> rw [e] <;> decide))]; exact ⟨rfl, ⟨gt, gn, gl, go, gu, gf, gk, gi, gz, gy, ga, gd, L, af, ⟨hb, h1, h2, h3, h4, h5, h6, h7, h8, h9, h10, h11, h12⟩, ⟨ht1, ht2⟩, ⟨hn0, hn1⟩, ⟨hd1, hd2⟩, ⟨hnd, hlL, hO, hU, hM⟩, hFS⟩, gFr.rf⟩) d_Mdl_name_20
  · skip
    obtain ⟨k, hk, hk2⟩ := nI_of c160
    subst hk2
    refine lv_iload_n S.1 S.2.1 d_Mdl_name_4 rfl (lv_at hl 1 rfl) ?_
    refine lv_iconst (v := nI 1) S.1 S.2.1 d_Mdl_name_5 (by decide) ?_
    refine lv_icmp_gt (tgt := 19) S.1 S.2.1 d_Mdl_name_6 (by decide) (fun c161 => ?_) (fun c161 => ?_)
    · skip
      replace c161 : 1 < k := (nI_ltI (a := 1) (b := k) (by omega) (by omega)).mp c161
      have hno : ¬ ((nI k = 0 ∨ nI k = 1) ∧ st.1.length ≤ 200) := by
        intro z
        rcases z.1 with e | e
        · exact absurd ((nI_eq (b := 0) hk (by omega)).mp e) (by omega)
        · exact absurd ((nI_eq (b := 1) hk (by omega)).mp e) (by omega)
      refine lv_iconst (v := (-1)) S.1 S.2.1 d_Mdl_name_19 (by decide) ?_
      exact gr_i S hr hlk hI (by unfold aName; rw [if_neg (hno)]; exact ⟨rfl, ⟨gt, gn, gl, go, gu, gf, gk, gi, gz, gy, ga, gd, L, af, ⟨hb, h1, h2, h3, h4, h5, h6, h7, h8, h9, h10, h11, h12⟩, ⟨ht1, ht2⟩, ⟨hn0, hn1⟩, ⟨hd1, hd2⟩, ⟨hnd, hlL, hO, hU, hM⟩, hFS⟩, gFr.rf⟩) d_Mdl_name_20
    · skip
      replace c161 : ¬ 1 < k := fun z => c161 ((nI_ltI (a := 1) (b := k) (by omega) (by omega)).mpr z)
      refine lv_aload_n S.1 S.2.1 d_Mdl_name_9 rfl (lv_at hl 0 rfl) ?_
      refine gh_get S hI hb rfl i_Mdl 1 (by decide) wi_436 rfl d_Mdl_name_10 ?_
      refine lv_sipush (v := nI 200) S.1 S.2.1 d_Mdl_name_13 (by decide) ?_
      refine lv_icmp_le (tgt := 21) S.1 S.2.1 d_Mdl_name_16 (by decide) (fun c162 => ?_) (fun c162 => ?_)
      · skip
        replace c162 : st.1.length ≤ 200 := (nI_leI (a := st.1.length) (b := 200) (by omega) (by omega)).mp c162
        rcases (show k = 0 ∨ k = 1 by omega) with e | e <;> subst e
        · skip
          refine lv_iconst (v := nI 0) S.1 S.2.1 d_Mdl_name_21 (by decide) ?_
          refine lv_istore_n (lv' := [(2, .int (nI 0)), (0, .ref b), (1, .int (nI 0))]) S.1 S.2.1 d_Mdl_name_22 rfl hl (by decide) rfl (fun ls hl => ?_)
          have loop : ∀ (u i : Nat) (fj : gM) (g2 : Nat → Int32), i ≤ st.1.length → st.1.length - i < u → fj (b + 2) = some (.inl (P.2.1 0, 400, .inl g2)) → gFr f fj [b + 2] → (∀ j, j < i → ub (g2 (200 * 0 + j)) = ub (gt j)) → (∀ x, (x < 200 * 0 ∨ 200 * 0 + 200 ≤ x) → g2 x = gn x) → ∀ (H : Heap) (locs : List Loc), gB P fj s H locs → ∀ ls : Array Slot, lv_has ls 3 [(0, .ref b), (1, .int (nI 0)), (2, .int (nI i))] → W p l env (grm 0 0 0) s m args below meth c H locs 0 0 (MQ below (gQi P (fun r f1 => r = (aName st (nI 0)).1 ∧ gMo P f1 b (aName st (nI 0)).2 ∧ gFr f f1 [b, b + 1, b + 2, b + 3, b + 4, b + 5, b + 6, b + 7, b + 8, b + 9, b + 10, b + 11, b + 12])) args s 0 0 (gA P)) (F0 m 23 ls []) := by
            intro u
            induction u with
            | zero => intro i fj g2 h9 h8; exact absurd h8 (by omega)
            | succ u ih =>
              intro i fj g2 hi1 hu j2 hF hlo hout H locs hI ls hl
              have jb := hF (b) _ hb (by intro z; simp at z)
              have j1 := hF (b + 1) _ h1 (by intro z; simp at z)
              have j3 := hF (b + 3) _ h3 (by intro z; simp at z)
              refine lv_iload_n S.1 S.2.1 d_Mdl_name_23 rfl (lv_at hl 2 rfl) ?_
              refine lv_aload_n S.1 S.2.1 d_Mdl_name_24 rfl (lv_at hl 0 rfl) ?_
              refine gh_get S hI jb rfl i_Mdl 1 (by decide) wi_436 rfl d_Mdl_name_25 ?_
              refine lv_icmp_ge (tgt := 55) S.1 S.2.1 d_Mdl_name_28 (by decide) (fun c163 => ?_) (fun c163 => ?_)
              · skip
                replace c163 : st.1.length ≤ i := (nI_leI (a := st.1.length) (b := i) (by omega) (by omega)).mp c163
                have hF : gFr f fj [b, b + 2, b + 3] := hF.mono (by intro q hq; simp at hq ⊢; omega)
                refine lv_aload_n S.1 S.2.1 d_Mdl_name_55 rfl (lv_at hl 0 rfl) ?_
                refine gh_get S hI jb rfl i_Mdl 3 (by decide) wi_438 rfl d_Mdl_name_56 ?_
                refine lv_iload_n S.1 S.2.1 d_Mdl_name_59 rfl (lv_at hl 1 rfl) ?_
                refine lv_aload_n S.1 S.2.1 d_Mdl_name_60 rfl (lv_at hl 0 rfl) ?_
                refine gh_get S hI jb rfl i_Mdl 1 (by decide) wi_436 rfl d_Mdl_name_61 ?_
                refine gh_iast (j := 0) S hI 1 j3 rfl rfl (by omega) (by omega) d_Mdl_name_64 (fun H locs hI => ?_)
                have hI : gB P (va_up fj (b + 3) (some (.inl (P.2.1 1, 2, .inl (upd gl 0 (nI st.1.length)))))) s H locs := hI
                obtain ⟨f164, ef164⟩ : ∃ z, z = va_up fj (b + 3) (some (.inl (P.2.1 1, 2, .inl (upd gl 0 (nI st.1.length))))) := ⟨_, rfl⟩
                rw [← ef164] at hI
                have h165 : f164 b = some (.inr (7, [.ref (b + 1), .int (nI st.1.length), .ref (b + 2), .ref (b + 3), .ref (b + 4), .ref (b + 5), .ref (b + 6), .ref (b + 7), .ref (b + 8), .ref (b + 9), .ref (b + 10), .ref (b + 11), .int (nI L.length), .int (nI (fB st.2.2.2.2.2)), .int (nI st.2.2.2.2.1), .ref (b + 12), .int (nI st.2.2.2.1.length)])) := by rw [ef164, va_up_ne _ _ (by omega)]; exact jb
                have h166 : f164 (b + 1) = some (.inl (P.2.1 0, 2048, .inl gt)) := by rw [ef164, va_up_ne _ _ (by omega)]; exact j1
                have h167 : f164 (b + 2) = some (.inl (P.2.1 0, 400, .inl g2)) := by rw [ef164, va_up_ne _ _ (by omega)]; exact j2
                have h168 : f164 (b + 3) = some (.inl (P.2.1 1, 2, .inl (upd gl 0 (nI st.1.length)))) := by rw [ef164]; exact va_up_self _ _ _
                have hF : gFr f f164 [b, b + 2, b + 3] := by rw [ef164]; exact gFr.upA (by simp) hF
                refine lv_aload_n S.1 S.2.1 d_Mdl_name_65 rfl (lv_at hl 0 rfl) ?_
                refine lv_iconst (v := nI 0) S.1 S.2.1 d_Mdl_name_66 (by decide) ?_
                refine gh_put S hI h165 rfl i_Mdl t_Mdl tk_Mdl n_Mdl 1 (by decide) wi_436 rfl rfl rfl (Nat.le_of_ble_eq_true rfl) d_Mdl_name_67 (fun H locs hI => ?_)
                have hI : gB P (va_up f164 b (some (.inr (7, [.ref (b + 1), .int (nI 0), .ref (b + 2), .ref (b + 3), .ref (b + 4), .ref (b + 5), .ref (b + 6), .ref (b + 7), .ref (b + 8), .ref (b + 9), .ref (b + 10), .ref (b + 11), .int (nI L.length), .int (nI (fB st.2.2.2.2.2)), .int (nI st.2.2.2.2.1), .ref (b + 12), .int (nI st.2.2.2.1.length)])))) s H locs := hI
                obtain ⟨f169, ef169⟩ : ∃ z, z = va_up f164 b (some (.inr (7, [.ref (b + 1), .int (nI 0), .ref (b + 2), .ref (b + 3), .ref (b + 4), .ref (b + 5), .ref (b + 6), .ref (b + 7), .ref (b + 8), .ref (b + 9), .ref (b + 10), .ref (b + 11), .int (nI L.length), .int (nI (fB st.2.2.2.2.2)), .int (nI st.2.2.2.2.1), .ref (b + 12), .int (nI st.2.2.2.1.length)]))) := ⟨_, rfl⟩
                rw [← ef169] at hI
                have h170 : f169 (b + 1) = some (.inl (P.2.1 0, 2048, .inl gt)) := by rw [ef169, va_up_ne _ _ (by omega)]; exact h166
                have h171 : f169 (b + 2) = some (.inl (P.2.1 0, 400, .inl g2)) := by rw [ef169, va_up_ne _ _ (by omega)]; exact h167
                have h172 : f169 (b + 3) = some (.inl (P.2.1 1, 2, .inl (upd gl 0 (nI st.1.length)))) := by rw [ef169, va_up_ne _ _ (by omega)]; exact h168
                have h173 : f169 b = some (.inr (7, [.ref (b + 1), .int (nI 0), .ref (b + 2), .ref (b + 3), .ref (b + 4), .ref (b + 5), .ref (b + 6), .ref (b + 7), .ref (b + 8), .ref (b + 9), .ref (b + 10), .ref (b + 11), .int (nI L.length), .int (nI (fB st.2.2.2.2.2)), .int (nI st.2.2.2.2.1), .ref (b + 12), .int (nI st.2.2.2.1.length)])) := by rw [ef169]; exact va_up_self _ _ _
                have hF : gFr f f169 [b, b + 2, b + 3] := by rw [ef169]; exact gFr.upA (by simp) hF
                refine lv_aload_n S.1 S.2.1 d_Mdl_name_70 rfl (lv_at hl 0 rfl) ?_
                refine gh_get S hI h173 rfl i_Mdl 3 (by decide) wi_438 rfl d_Mdl_name_71 ?_
                refine lv_iload_n S.1 S.2.1 d_Mdl_name_74 rfl (lv_at hl 1 rfl) ?_
                refine gh_iald (j := 0) S hI 1 h172 rfl rfl (by omega) (by omega) d_Mdl_name_75 ?_
                refine lv_topi (fun v174 ev174 => ?_)
                replace ev174 : v174 = nI st.1.length := ev174.trans (pk_us)
                subst ev174
                have m1 := hF (b + 1) _ h1 (by intro z; simp at z)
                have m4 := hF (b + 4) _ h4 (by intro z; simp at z)
                have m5 := hF (b + 5) _ h5 (by intro z; simp at z)
                have m6 := hF (b + 6) _ h6 (by intro z; simp at z)
                have m7 := hF (b + 7) _ h7 (by intro z; simp at z)
                have m8 := hF (b + 8) _ h8 (by intro z; simp at z)
                have m9 := hF (b + 9) _ h9 (by intro z; simp at z)
                have m10 := hF (b + 10) _ h10 (by intro z; simp at z)
                have m11 := hF (b + 11) _ h11 (by intro z; simp at z)
                have m12 := hF (b + 12) _ h12 (by intro z; simp at z)
                have knew : mNk g2 (upd gl 0 (nI st.1.length)) 0 st.1 := ⟨pk_us, by omega, by
                  have e : nmL st.1.length (fun j => g2 (200 * 0 + j)) = nmL st.1.length gt := List.map_congr_left (fun j hj => hlo j (by have := List.mem_range.mp hj; omega))
                  rw [e]; exact ht2⟩
                have kold : mNk g2 (upd gl 0 (nI st.1.length)) 1 st.2.2.1 := mNk_set hn1 (by omega) hout
                have ef : aName st (nI 0) = (nI st.1.length, ([], st.1, st.2.2)) := by unfold aName; rw [if_pos ⟨by decide, by omega⟩, if_pos (by decide)]
                exact gr_i S hr hlk hI (by rw [ef]; exact ⟨rfl, ⟨gt, g2, upd gl 0 (nI st.1.length), go, gu, gf, gk, gi, gz, gy, ga, gd, L, af, ⟨h173, m1, h171, h172, m4, m5, m6, m7, m8, m9, m10, m11, m12⟩, ⟨by simp, rfl⟩, ⟨knew, kold⟩, ⟨hd1, hd2⟩, ⟨hnd, hlL, hO, hU, hM⟩, hFS⟩, hF.mono (by intro q hq; simp at hq ⊢; omega)⟩) d_Mdl_name_76
              · skip
                replace c163 : ¬ st.1.length ≤ i := fun z => c163 ((nI_leI (a := st.1.length) (b := i) (by omega) (by omega)).mpr z)
                refine lv_aload_n S.1 S.2.1 d_Mdl_name_31 rfl (lv_at hl 0 rfl) ?_
                refine gh_get S hI jb rfl i_Mdl 2 (by decide) wi_437 rfl d_Mdl_name_32 ?_
                refine lv_sipush (v := nI 200) S.1 S.2.1 d_Mdl_name_35 (by decide) ?_
                refine lv_iload_n S.1 S.2.1 d_Mdl_name_38 rfl (lv_at hl 1 rfl) ?_
                refine lv_imul S.1 S.2.1 d_Mdl_name_39 ?_
                refine lv_topi (fun v175 ev175 => ?_)
                replace ev175 : v175 = nI (200 * 0) := ev175.trans (pk_mul _ _)
                subst ev175
                refine lv_iload_n S.1 S.2.1 d_Mdl_name_40 rfl (lv_at hl 2 rfl) ?_
                refine lv_iadd S.1 S.2.1 d_Mdl_name_41 ?_
                refine lv_topi (fun v176 ev176 => ?_)
                replace ev176 : v176 = nI ((200 * 0) + i) := ev176.trans (nI_add _ _)
                subst ev176
                refine lv_aload_n S.1 S.2.1 d_Mdl_name_42 rfl (lv_at hl 0 rfl) ?_
                refine gh_get S hI jb rfl i_Mdl 0 (by decide) wi_435 rfl d_Mdl_name_43 ?_
                refine lv_iload_n S.1 S.2.1 d_Mdl_name_46 rfl (lv_at hl 2 rfl) ?_
                refine gh_bald (j := i) S hI 0 j1 rfl rfl (by omega) (by omega) d_Mdl_name_47 ?_
                refine gh_bast (j := (200 * 0) + i) S hI 0 j2 rfl rfl (by omega) (by omega) d_Mdl_name_48 (fun H locs hI => ?_)
                have hI : gB P (va_up fj (b + 2) (some (.inl (P.2.1 0, 400, .inl (upd g2 ((200 * 0) + i) (Int8.toInt32 (Int32.toInt8 (gt i)))))))) s H locs := hI
                obtain ⟨f177, ef177⟩ : ∃ z, z = va_up fj (b + 2) (some (.inl (P.2.1 0, 400, .inl (upd g2 ((200 * 0) + i) (Int8.toInt32 (Int32.toInt8 (gt i))))))) := ⟨_, rfl⟩
                rw [← ef177] at hI
                have h178 : f177 b = some (.inr (7, [.ref (b + 1), .int (nI st.1.length), .ref (b + 2), .ref (b + 3), .ref (b + 4), .ref (b + 5), .ref (b + 6), .ref (b + 7), .ref (b + 8), .ref (b + 9), .ref (b + 10), .ref (b + 11), .int (nI L.length), .int (nI (fB st.2.2.2.2.2)), .int (nI st.2.2.2.2.1), .ref (b + 12), .int (nI st.2.2.2.1.length)])) := by rw [ef177, va_up_ne _ _ (by omega)]; exact jb
                have h179 : f177 (b + 1) = some (.inl (P.2.1 0, 2048, .inl gt)) := by rw [ef177, va_up_ne _ _ (by omega)]; exact j1
                have h180 : f177 (b + 3) = some (.inl (P.2.1 1, 2, .inl gl)) := by rw [ef177, va_up_ne _ _ (by omega)]; exact j3
                have h181 : f177 (b + 2) = some (.inl (P.2.1 0, 400, .inl (upd g2 ((200 * 0) + i) (Int8.toInt32 (Int32.toInt8 (gt i)))))) := by rw [ef177]; exact va_up_self _ _ _
                have hF : gFr f f177 [b + 2] := by rw [ef177]; exact gFr.upA (by simp) hF
                refine lv_iinc (v := nI (i + 1)) (lv' := [(2, .int (nI (i + 1))), (0, .ref b), (1, .int (nI 0))]) S.1 S.2.1 d_Mdl_name_49 hl (k := 2) rfl (nI_add _ _) (by decide) rfl (fun ls hl => ?_)
                refine lv_goto (tgt := 23) S.1 S.2.1 d_Mdl_name_52 (by decide) ?_
                exact ih (i + 1) _ _ (by omega) (by omega) h181 hF (fun j hj => by
                  unfold upd
                  by_cases hc : j = i
                  · rw [if_pos (by omega), hc, ub_nb]
                  · rw [if_neg (by omega)]; exact hlo j (by omega)) (fun x hx => by unfold upd; rw [if_neg (by omega)]; exact hout x hx) _ _ hI _ (lv_sub hl [1, 2, 0] rfl)
          exact loop (st.1.length + 1) 0 f gn (by omega) (by omega) h2 gFr.rf (fun j hj => absurd hj (by omega)) (fun _ _ => rfl) _ _ hI _ (lv_sub hl [1, 2, 0] rfl)
        · skip
          refine lv_iconst (v := nI 0) S.1 S.2.1 d_Mdl_name_21 (by decide) ?_
          refine lv_istore_n (lv' := [(2, .int (nI 0)), (0, .ref b), (1, .int (nI 1))]) S.1 S.2.1 d_Mdl_name_22 rfl hl (by decide) rfl (fun ls hl => ?_)
          have loop : ∀ (u i : Nat) (fj : gM) (g2 : Nat → Int32), i ≤ st.1.length → st.1.length - i < u → fj (b + 2) = some (.inl (P.2.1 0, 400, .inl g2)) → gFr f fj [b + 2] → (∀ j, j < i → ub (g2 (200 * 1 + j)) = ub (gt j)) → (∀ x, (x < 200 * 1 ∨ 200 * 1 + 200 ≤ x) → g2 x = gn x) → ∀ (H : Heap) (locs : List Loc), gB P fj s H locs → ∀ ls : Array Slot, lv_has ls 3 [(0, .ref b), (1, .int (nI 1)), (2, .int (nI i))] → W p l env (grm 0 0 0) s m args below meth c H locs 0 0 (MQ below (gQi P (fun r f1 => r = (aName st (nI 1)).1 ∧ gMo P f1 b (aName st (nI 1)).2 ∧ gFr f f1 [b, b + 1, b + 2, b + 3, b + 4, b + 5, b + 6, b + 7, b + 8, b + 9, b + 10, b + 11, b + 12])) args s 0 0 (gA P)) (F0 m 23 ls []) := by
            intro u
            induction u with
            | zero => intro i fj g2 h9 h8; exact absurd h8 (by omega)
            | succ u ih =>
              intro i fj g2 hi1 hu j2 hF hlo hout H locs hI ls hl
              have jb := hF (b) _ hb (by intro z; simp at z)
              have j1 := hF (b + 1) _ h1 (by intro z; simp at z)
              have j3 := hF (b + 3) _ h3 (by intro z; simp at z)
              refine lv_iload_n S.1 S.2.1 d_Mdl_name_23 rfl (lv_at hl 2 rfl) ?_
              refine lv_aload_n S.1 S.2.1 d_Mdl_name_24 rfl (lv_at hl 0 rfl) ?_
              refine gh_get S hI jb rfl i_Mdl 1 (by decide) wi_436 rfl d_Mdl_name_25 ?_
              refine lv_icmp_ge (tgt := 55) S.1 S.2.1 d_Mdl_name_28 (by decide) (fun c182 => ?_) (fun c182 => ?_)
              · skip
                replace c182 : st.1.length ≤ i := (nI_leI (a := st.1.length) (b := i) (by omega) (by omega)).mp c182
                have hF : gFr f fj [b, b + 2, b + 3] := hF.mono (by intro q hq; simp at hq ⊢; omega)
                refine lv_aload_n S.1 S.2.1 d_Mdl_name_55 rfl (lv_at hl 0 rfl) ?_
                refine gh_get S hI jb rfl i_Mdl 3 (by decide) wi_438 rfl d_Mdl_name_56 ?_
                refine lv_iload_n S.1 S.2.1 d_Mdl_name_59 rfl (lv_at hl 1 rfl) ?_
                refine lv_aload_n S.1 S.2.1 d_Mdl_name_60 rfl (lv_at hl 0 rfl) ?_
                refine gh_get S hI jb rfl i_Mdl 1 (by decide) wi_436 rfl d_Mdl_name_61 ?_
                refine gh_iast (j := 1) S hI 1 j3 rfl rfl (by omega) (by omega) d_Mdl_name_64 (fun H locs hI => ?_)
                have hI : gB P (va_up fj (b + 3) (some (.inl (P.2.1 1, 2, .inl (upd gl 1 (nI st.1.length)))))) s H locs := hI
                obtain ⟨f183, ef183⟩ : ∃ z, z = va_up fj (b + 3) (some (.inl (P.2.1 1, 2, .inl (upd gl 1 (nI st.1.length))))) := ⟨_, rfl⟩
                rw [← ef183] at hI
                have h184 : f183 b = some (.inr (7, [.ref (b + 1), .int (nI st.1.length), .ref (b + 2), .ref (b + 3), .ref (b + 4), .ref (b + 5), .ref (b + 6), .ref (b + 7), .ref (b + 8), .ref (b + 9), .ref (b + 10), .ref (b + 11), .int (nI L.length), .int (nI (fB st.2.2.2.2.2)), .int (nI st.2.2.2.2.1), .ref (b + 12), .int (nI st.2.2.2.1.length)])) := by rw [ef183, va_up_ne _ _ (by omega)]; exact jb
                have h185 : f183 (b + 1) = some (.inl (P.2.1 0, 2048, .inl gt)) := by rw [ef183, va_up_ne _ _ (by omega)]; exact j1
                have h186 : f183 (b + 2) = some (.inl (P.2.1 0, 400, .inl g2)) := by rw [ef183, va_up_ne _ _ (by omega)]; exact j2
                have h187 : f183 (b + 3) = some (.inl (P.2.1 1, 2, .inl (upd gl 1 (nI st.1.length)))) := by rw [ef183]; exact va_up_self _ _ _
                have hF : gFr f f183 [b, b + 2, b + 3] := by rw [ef183]; exact gFr.upA (by simp) hF
                refine lv_aload_n S.1 S.2.1 d_Mdl_name_65 rfl (lv_at hl 0 rfl) ?_
                refine lv_iconst (v := nI 0) S.1 S.2.1 d_Mdl_name_66 (by decide) ?_
                refine gh_put S hI h184 rfl i_Mdl t_Mdl tk_Mdl n_Mdl 1 (by decide) wi_436 rfl rfl rfl (Nat.le_of_ble_eq_true rfl) d_Mdl_name_67 (fun H locs hI => ?_)
                have hI : gB P (va_up f183 b (some (.inr (7, [.ref (b + 1), .int (nI 0), .ref (b + 2), .ref (b + 3), .ref (b + 4), .ref (b + 5), .ref (b + 6), .ref (b + 7), .ref (b + 8), .ref (b + 9), .ref (b + 10), .ref (b + 11), .int (nI L.length), .int (nI (fB st.2.2.2.2.2)), .int (nI st.2.2.2.2.1), .ref (b + 12), .int (nI st.2.2.2.1.length)])))) s H locs := hI
                obtain ⟨f188, ef188⟩ : ∃ z, z = va_up f183 b (some (.inr (7, [.ref (b + 1), .int (nI 0), .ref (b + 2), .ref (b + 3), .ref (b + 4), .ref (b + 5), .ref (b + 6), .ref (b + 7), .ref (b + 8), .ref (b + 9), .ref (b + 10), .ref (b + 11), .int (nI L.length), .int (nI (fB st.2.2.2.2.2)), .int (nI st.2.2.2.2.1), .ref (b + 12), .int (nI st.2.2.2.1.length)]))) := ⟨_, rfl⟩
                rw [← ef188] at hI
                have h189 : f188 (b + 1) = some (.inl (P.2.1 0, 2048, .inl gt)) := by rw [ef188, va_up_ne _ _ (by omega)]; exact h185
                have h190 : f188 (b + 2) = some (.inl (P.2.1 0, 400, .inl g2)) := by rw [ef188, va_up_ne _ _ (by omega)]; exact h186
                have h191 : f188 (b + 3) = some (.inl (P.2.1 1, 2, .inl (upd gl 1 (nI st.1.length)))) := by rw [ef188, va_up_ne _ _ (by omega)]; exact h187
                have h192 : f188 b = some (.inr (7, [.ref (b + 1), .int (nI 0), .ref (b + 2), .ref (b + 3), .ref (b + 4), .ref (b + 5), .ref (b + 6), .ref (b + 7), .ref (b + 8), .ref (b + 9), .ref (b + 10), .ref (b + 11), .int (nI L.length), .int (nI (fB st.2.2.2.2.2)), .int (nI st.2.2.2.2.1), .ref (b + 12), .int (nI st.2.2.2.1.length)])) := by rw [ef188]; exact va_up_self _ _ _
                have hF : gFr f f188 [b, b + 2, b + 3] := by rw [ef188]; exact gFr.upA (by simp) hF
                refine lv_aload_n S.1 S.2.1 d_Mdl_name_70 rfl (lv_at hl 0 rfl) ?_
                refine gh_get S hI h192 rfl i_Mdl 3 (by decide) wi_438 rfl d_Mdl_name_71 ?_
                refine lv_iload_n S.1 S.2.1 d_Mdl_name_74 rfl (lv_at hl 1 rfl) ?_
                refine gh_iald (j := 1) S hI 1 h191 rfl rfl (by omega) (by omega) d_Mdl_name_75 ?_
                refine lv_topi (fun v193 ev193 => ?_)
                replace ev193 : v193 = nI st.1.length := ev193.trans (pk_us)
                subst ev193
                have m1 := hF (b + 1) _ h1 (by intro z; simp at z)
                have m4 := hF (b + 4) _ h4 (by intro z; simp at z)
                have m5 := hF (b + 5) _ h5 (by intro z; simp at z)
                have m6 := hF (b + 6) _ h6 (by intro z; simp at z)
                have m7 := hF (b + 7) _ h7 (by intro z; simp at z)
                have m8 := hF (b + 8) _ h8 (by intro z; simp at z)
                have m9 := hF (b + 9) _ h9 (by intro z; simp at z)
                have m10 := hF (b + 10) _ h10 (by intro z; simp at z)
                have m11 := hF (b + 11) _ h11 (by intro z; simp at z)
                have m12 := hF (b + 12) _ h12 (by intro z; simp at z)
                have knew : mNk g2 (upd gl 1 (nI st.1.length)) 1 st.1 := ⟨pk_us, by omega, by
                  have e : nmL st.1.length (fun j => g2 (200 * 1 + j)) = nmL st.1.length gt := List.map_congr_left (fun j hj => hlo j (by have := List.mem_range.mp hj; omega))
                  rw [e]; exact ht2⟩
                have kold : mNk g2 (upd gl 1 (nI st.1.length)) 0 st.2.1 := mNk_set hn0 (by omega) hout
                have ef : aName st (nI 1) = (nI st.1.length, ([], st.2.1, st.1, st.2.2.2)) := by unfold aName; rw [if_pos ⟨by decide, by omega⟩, if_neg (by decide)]
                exact gr_i S hr hlk hI (by rw [ef]; exact ⟨rfl, ⟨gt, g2, upd gl 1 (nI st.1.length), go, gu, gf, gk, gi, gz, gy, ga, gd, L, af, ⟨h192, m1, h190, h191, m4, m5, m6, m7, m8, m9, m10, m11, m12⟩, ⟨by simp, rfl⟩, ⟨kold, knew⟩, ⟨hd1, hd2⟩, ⟨hnd, hlL, hO, hU, hM⟩, hFS⟩, hF.mono (by intro q hq; simp at hq ⊢; omega)⟩) d_Mdl_name_76
              · skip
                replace c182 : ¬ st.1.length ≤ i := fun z => c182 ((nI_leI (a := st.1.length) (b := i) (by omega) (by omega)).mpr z)
                refine lv_aload_n S.1 S.2.1 d_Mdl_name_31 rfl (lv_at hl 0 rfl) ?_
                refine gh_get S hI jb rfl i_Mdl 2 (by decide) wi_437 rfl d_Mdl_name_32 ?_
                refine lv_sipush (v := nI 200) S.1 S.2.1 d_Mdl_name_35 (by decide) ?_
                refine lv_iload_n S.1 S.2.1 d_Mdl_name_38 rfl (lv_at hl 1 rfl) ?_
                refine lv_imul S.1 S.2.1 d_Mdl_name_39 ?_
                refine lv_topi (fun v194 ev194 => ?_)
                replace ev194 : v194 = nI (200 * 1) := ev194.trans (pk_mul _ _)
                subst ev194
                refine lv_iload_n S.1 S.2.1 d_Mdl_name_40 rfl (lv_at hl 2 rfl) ?_
                refine lv_iadd S.1 S.2.1 d_Mdl_name_41 ?_
                refine lv_topi (fun v195 ev195 => ?_)
                replace ev195 : v195 = nI ((200 * 1) + i) := ev195.trans (nI_add _ _)
                subst ev195
                refine lv_aload_n S.1 S.2.1 d_Mdl_name_42 rfl (lv_at hl 0 rfl) ?_
                refine gh_get S hI jb rfl i_Mdl 0 (by decide) wi_435 rfl d_Mdl_name_43 ?_
                refine lv_iload_n S.1 S.2.1 d_Mdl_name_46 rfl (lv_at hl 2 rfl) ?_
                refine gh_bald (j := i) S hI 0 j1 rfl rfl (by omega) (by omega) d_Mdl_name_47 ?_
                refine gh_bast (j := (200 * 1) + i) S hI 0 j2 rfl rfl (by omega) (by omega) d_Mdl_name_48 (fun H locs hI => ?_)
                have hI : gB P (va_up fj (b + 2) (some (.inl (P.2.1 0, 400, .inl (upd g2 ((200 * 1) + i) (Int8.toInt32 (Int32.toInt8 (gt i)))))))) s H locs := hI
                obtain ⟨f196, ef196⟩ : ∃ z, z = va_up fj (b + 2) (some (.inl (P.2.1 0, 400, .inl (upd g2 ((200 * 1) + i) (Int8.toInt32 (Int32.toInt8 (gt i))))))) := ⟨_, rfl⟩
                rw [← ef196] at hI
                have h197 : f196 b = some (.inr (7, [.ref (b + 1), .int (nI st.1.length), .ref (b + 2), .ref (b + 3), .ref (b + 4), .ref (b + 5), .ref (b + 6), .ref (b + 7), .ref (b + 8), .ref (b + 9), .ref (b + 10), .ref (b + 11), .int (nI L.length), .int (nI (fB st.2.2.2.2.2)), .int (nI st.2.2.2.2.1), .ref (b + 12), .int (nI st.2.2.2.1.length)])) := by rw [ef196, va_up_ne _ _ (by omega)]; exact jb
                have h198 : f196 (b + 1) = some (.inl (P.2.1 0, 2048, .inl gt)) := by rw [ef196, va_up_ne _ _ (by omega)]; exact j1
                have h199 : f196 (b + 3) = some (.inl (P.2.1 1, 2, .inl gl)) := by rw [ef196, va_up_ne _ _ (by omega)]; exact j3
                have h200 : f196 (b + 2) = some (.inl (P.2.1 0, 400, .inl (upd g2 ((200 * 1) + i) (Int8.toInt32 (Int32.toInt8 (gt i)))))) := by rw [ef196]; exact va_up_self _ _ _
                have hF : gFr f f196 [b + 2] := by rw [ef196]; exact gFr.upA (by simp) hF
                refine lv_iinc (v := nI (i + 1)) (lv' := [(2, .int (nI (i + 1))), (0, .ref b), (1, .int (nI 1))]) S.1 S.2.1 d_Mdl_name_49 hl (k := 2) rfl (nI_add _ _) (by decide) rfl (fun ls hl => ?_)
                refine lv_goto (tgt := 23) S.1 S.2.1 d_Mdl_name_52 (by decide) ?_
                exact ih (i + 1) _ _ (by omega) (by omega) h200 hF (fun j hj => by
                  unfold upd
                  by_cases hc : j = i
                  · rw [if_pos (by omega), hc, ub_nb]
                  · rw [if_neg (by omega)]; exact hlo j (by omega)) (fun x hx => by unfold upd; rw [if_neg (by omega)]; exact hout x hx) _ _ hI _ (lv_sub hl [1, 2, 0] rfl)
          exact loop (st.1.length + 1) 0 f gn (by omega) (by omega) h2 gFr.rf (fun j hj => absurd hj (by omega)) (fun _ _ => rfl) _ _ hI _ (lv_sub hl [1, 2, 0] rfl)
      · skip
        replace c162 : ¬ st.1.length ≤ 200 := fun z => c162 ((nI_leI (a := st.1.length) (b := 200) (by omega) (by omega)).mpr z)
        refine lv_iconst (v := (-1)) S.1 S.2.1 d_Mdl_name_19 (by decide) ?_
        exact gr_i S hr hlk hI (by unfold aName; rw [if_neg (fun z => absurd z.2 (by omega))]; exact ⟨rfl, ⟨gt, gn, gl, go, gu, gf, gk, gi, gz, gy, ga, gd, L, af, ⟨hb, h1, h2, h3, h4, h5, h6, h7, h8, h9, h10, h11, h12⟩, ⟨ht1, ht2⟩, ⟨hn0, hn1⟩, ⟨hd1, hd2⟩, ⟨hnd, hlL, hO, hU, hM⟩, hFS⟩, gFr.rf⟩) d_Mdl_name_20
set_option maxHeartbeats 4000000 in
set_option maxRecDepth 100000 in
theorem c_Mdl_told (l : Launch) (P : gPar) (f : gM) {b : Nat} {st : ASt} {i : Int32} (h : gMo P f b st) : gC l P y_Mdl_told b_Mdl_told 2 (some .int) 0 0 0 [.ref b, .int i] f (gQi P (fun r f1 => r = aTold st i ∧ f1 = f)) := by
  refine gC_of (by decide) (Nat.le_of_ble_eq_true rfl) (fun p env s m args below meth c S hr hlk hnm H locs hI ls hl => ?_)
  have hl : lv_has ls 2 [(0, .ref b), (1, .int i)] := hl
  obtain ⟨gt, gn, gl, go, gu, gf, gk, gi, gz, gy, ga, gd, L, af, ⟨hb, h1, h2, h3, h4, h5, h6, h7, h8, h9, h10, h11, h12⟩, ⟨ht1, ht2⟩, ⟨hn0, hn1⟩, ⟨hd1, hd2⟩, ⟨hnd, hlL, hO, hU, hM⟩, hFS⟩ := h
  have hlF : st.2.2.2.2.2.length = L.length := by rw [← hFS, List.length_map]
  have hnF : nms af L = fN st.2.2.2.2.2 := by rw [← hFS, fN_L]
  refine lv_iload_n S.1 S.2.1 d_Mdl_told_0 rfl (lv_at hl 1 rfl) ?_
  refine lv_if_lt (tgt := 12) S.1 S.2.1 d_Mdl_told_1 (by decide) (fun c201 => ?_) (fun c201 => ?_)
  · skip
    refine lv_bipush (v := (-2)) S.1 S.2.1 d_Mdl_told_12 (by decide) ?_
    refine lv_goto (tgt := 23) S.1 S.2.1 d_Mdl_told_14 (by decide) ?_
    exact gr_i S hr hlk hI (⟨by unfold aTold; rw [if_neg (fun z => z.1 c201)], rfl⟩) d_Mdl_told_23
  · skip
    obtain ⟨k, hk, hk2⟩ := nI_of c201
    subst hk2
    refine lv_iload_n S.1 S.2.1 d_Mdl_told_4 rfl (lv_at hl 1 rfl) ?_
    refine lv_aload_n S.1 S.2.1 d_Mdl_told_5 rfl (lv_at hl 0 rfl) ?_
    refine gh_get S hI hb rfl i_Mdl 16 (by decide) wi_451 rfl d_Mdl_told_6 ?_
    refine lv_icmp_lt (tgt := 17) S.1 S.2.1 d_Mdl_told_9 (by decide) (fun c202 => ?_) (fun c202 => ?_)
    · skip
      replace c202 : k < st.2.2.2.1.length := (nI_ltI (a := k) (b := st.2.2.2.1.length) (by omega) (by omega)).mp c202
      refine lv_aload_n S.1 S.2.1 d_Mdl_told_17 rfl (lv_at hl 0 rfl) ?_
      refine gh_get S hI hb rfl i_Mdl 15 (by decide) wi_450 rfl d_Mdl_told_18 ?_
      refine lv_iload_n S.1 S.2.1 d_Mdl_told_21 rfl (lv_at hl 1 rfl) ?_
      refine gh_iald (j := k) S hI 1 h12 rfl rfl (by omega) (by omega) d_Mdl_told_22 ?_
      refine lv_topi (fun v203 ev203 => ?_)
      replace ev203 : v203 = nI (st.2.2.2.1.getD k 0) := ev203.trans (hd2 k c202)
      subst ev203
      exact gr_i S hr hlk hI (⟨by unfold aTold; rw [if_pos ⟨c201, nI_lt c202 (by omega)⟩, nI_clamp hk], rfl⟩) d_Mdl_told_23
    · skip
      replace c202 : ¬ k < st.2.2.2.1.length := fun z => c202 ((nI_ltI (a := k) (b := st.2.2.2.1.length) (by omega) (by omega)).mpr z)
      refine lv_bipush (v := (-2)) S.1 S.2.1 d_Mdl_told_12 (by decide) ?_
      refine lv_goto (tgt := 23) S.1 S.2.1 d_Mdl_told_14 (by decide) ?_
      exact gr_i S hr hlk hI (⟨by unfold aTold; rw [if_neg (fun z => absurd ((nI_ltI (by omega) (by omega)).mp z.2) (by omega))], rfl⟩) d_Mdl_told_23
theorem aPiece_bad {st : ASt} {k si ii : Int32} (h : ∀ len ld C, pcV len ld C si ii = (-2)) : aPiece st k si ii = (-2) := by
  unfold aPiece aPieceV
  cases fileK st.2.2.2.2.2 k with
  | none => rfl
  | some v => exact h _ _ _
theorem fileK_neg {FS : List AFile} {k : Int32} (h : k < 0) : fileK FS k = none := by unfold fileK; rw [if_neg (fun z => z.1 h)]
theorem fileK_nI {FS : List AFile} {k : Nat} (hk : k < 2 ^ 31) (hL : FS.length < 2 ^ 31) : fileK FS (nI k) = FS[k]? := by
  unfold fileK
  rw [nI_clamp hk]
  by_cases h : k < FS.length
  · rw [if_pos ⟨nI_pos hk, nI_lt h hL⟩]
  · rw [if_neg (fun z => h ((nI_ltI hk hL).mp z.2)), List.getElem?_eq_none (by omega)]
set_option maxHeartbeats 4000000 in
set_option maxRecDepth 100000 in
theorem c_Mdl_file (l : Launch) (P : gPar) (f : gM) {b : Nat} {st : ASt} {k0 wh : Int32} (h : gMo P f b st) : gC l P y_Mdl_file b_Mdl_file 4 (some .int) 1 0 0 [.ref b, .int k0, .int wh] f (gQi P (fun r f1 => r = aFile st k0 wh ∧ f1 = f)) := by
  refine gC_of (by decide) (Nat.le_of_ble_eq_true rfl) (fun p env s m args below meth c S hr hlk hnm H locs hI ls hl => ?_)
  have hl : lv_has ls 4 [(0, .ref b), (1, .int k0), (2, .int wh)] := hl
  obtain ⟨gt, gn, gl, go, gu, gf, gk, gi, gz, gy, ga, gd, L, af, ⟨hb, h1, h2, h3, h4, h5, h6, h7, h8, h9, h10, h11, h12⟩, ⟨ht1, ht2⟩, ⟨hn0, hn1⟩, ⟨hd1, hd2⟩, ⟨hnd, hlL, hO, hU, hM⟩, hFS⟩ := h
  have hlF : st.2.2.2.2.2.length = L.length := by rw [← hFS, List.length_map]
  have hnF : nms af L = fN st.2.2.2.2.2 := by rw [← hFS, fN_L]
  refine lv_iload_n S.1 S.2.1 d_Mdl_file_0 rfl (lv_at hl 2 rfl) ?_
  refine lv_if_lt (tgt := 9) S.1 S.2.1 d_Mdl_file_1 (by decide) (fun c204 => ?_) (fun c204 => ?_)
  · skip
    refine lv_iconst (v := (-1)) S.1 S.2.1 d_Mdl_file_9 (by decide) ?_
    exact gr_i S hr hlk hI (⟨by unfold aFile; rw [if_pos (Or.inl c204)], rfl⟩) d_Mdl_file_10
  · skip
    obtain ⟨u, hu, hu2⟩ := nI_of c204
    subst hu2
    refine lv_iload_n S.1 S.2.1 d_Mdl_file_4 rfl (lv_at hl 2 rfl) ?_
    refine lv_iconst (v := nI 3) S.1 S.2.1 d_Mdl_file_5 (by decide) ?_
    refine lv_icmp_le (tgt := 11) S.1 S.2.1 d_Mdl_file_6 (by decide) (fun c205 => ?_) (fun c205 => ?_)
    · skip
      replace c205 : u ≤ 3 := (nI_leI (a := u) (b := 3) (by omega) (by omega)).mp c205
      have hnr : ¬ (nI u < 0 ∨ 3 < nI u) := fun z => z.elim c204 (fun q => absurd ((nI_ltI (a := 3) (by omega) hu).mp q) (by omega))
      refine lv_iload_n S.1 S.2.1 d_Mdl_file_11 rfl (lv_at hl 1 rfl) ?_
      refine lv_if_lt (tgt := 23) S.1 S.2.1 d_Mdl_file_12 (by decide) (fun c206 => ?_) (fun c206 => ?_)
      · skip
        refine lv_bipush (v := (-2)) S.1 S.2.1 d_Mdl_file_23 (by decide) ?_
        exact gr_i S hr hlk hI (⟨by unfold aFile; rw [if_neg hnr, fileK_neg c206]; rfl, rfl⟩) d_Mdl_file_25
      · skip
        obtain ⟨k, hk, hk2⟩ := nI_of c206
        subst hk2
        refine lv_iload_n S.1 S.2.1 d_Mdl_file_15 rfl (lv_at hl 1 rfl) ?_
        refine lv_aload_n S.1 S.2.1 d_Mdl_file_16 rfl (lv_at hl 0 rfl) ?_
        refine gh_get S hI hb rfl i_Mdl 12 (by decide) wi_447 rfl d_Mdl_file_17 ?_
        refine lv_icmp_lt (tgt := 26) S.1 S.2.1 d_Mdl_file_20 (by decide) (fun c207 => ?_) (fun c207 => ?_)
        · skip
          replace c207 : k < L.length := (nI_ltI (a := k) (b := L.length) (by omega) (by omega)).mp c207
          obtain ⟨q, hq⟩ : ∃ q, L[k]? = some q := ⟨_, List.getElem?_eq_getElem (by omega)⟩
          obtain ⟨hq48, ⟨q1, q2, q3⟩, p1, p2, p3, p4⟩ := hM q (List.mem_of_getElem? hq)
          have hfk : fileK st.2.2.2.2.2 (nI k) = some (af q) := by rw [fileK_nI (by omega) (by omega), ← hFS, List.getElem?_map, hq]; rfl
          refine lv_aload_n S.1 S.2.1 d_Mdl_file_26 rfl (lv_at hl 0 rfl) ?_
          refine gh_get S hI hb rfl i_Mdl 4 (by decide) wi_439 rfl d_Mdl_file_27 ?_
          refine lv_iload_n S.1 S.2.1 d_Mdl_file_30 rfl (lv_at hl 1 rfl) ?_
          refine gh_iald (j := k) S hI 1 h4 rfl rfl (by omega) (by omega) d_Mdl_file_31 ?_
          refine lv_topi (fun v208 ev208 => ?_)
          replace ev208 : v208 = nI q := ev208.trans (hO k q hq)
          subst ev208
          refine lv_istore_n (lv' := [(3, .int (nI q)), (0, .ref b), (1, .int (nI k)), (2, .int (nI u))]) S.1 S.2.1 d_Mdl_file_32 rfl hl (by decide) rfl (fun ls hl => ?_)
          rcases (show u = 0 ∨ u = 1 ∨ u = 2 ∨ u = 3 by omega) with e | e | e | e <;> subst e
          · skip
            refine lv_iload_n S.1 S.2.1 d_Mdl_file_33 rfl (lv_at hl 3 rfl) ?_
            refine lv_if_ne (tgt := 46) S.1 S.2.1 d_Mdl_file_34 (by decide) (fun c209 => ?_) (fun c209 => ?_)
            · skip
              replace c209 : ¬ 0 = 0 := fun z => c209 ((nI_eq (a := 0) (b := 0) (by omega) (by omega)).mpr z)
              exact absurd c209 (by omega)
            · skip
              replace c209 : 0 = 0 := (nI_eq (a := 0) (b := 0) (by omega) (by omega)).mp c209
              refine lv_aload_n S.1 S.2.1 d_Mdl_file_37 rfl (lv_at hl 1 rfl) ?_
              refine gh_get S hI hb rfl i_Mdl 9 (by decide) wi_444 rfl d_Mdl_file_38 ?_
              refine lv_iload_n S.1 S.2.1 d_Mdl_file_41 rfl (lv_at hl 0 rfl) ?_
              refine gh_iald (j := q) S hI 1 h9 rfl rfl (by omega) (by omega) d_Mdl_file_42 ?_
              refine lv_topi (fun v210 ev210 => ?_)
              replace ev210 : v210 = nI (af q).2.2.1 := ev210.trans (p2)
              subst ev210
              refine lv_goto (tgt := 79) S.1 S.2.1 d_Mdl_file_43 (by decide) ?_
              exact gr_i S hr hlk hI (⟨by unfold aFile; rw [if_neg hnr, hfk]; unfold aFileV; rfl, rfl⟩) d_Mdl_file_79
          · skip
            refine lv_iload_n S.1 S.2.1 d_Mdl_file_33 rfl (lv_at hl 3 rfl) ?_
            refine lv_if_ne (tgt := 46) S.1 S.2.1 d_Mdl_file_34 (by decide) (fun c211 => ?_) (fun c211 => ?_)
            · skip
              replace c211 : ¬ 1 = 0 := fun z => c211 ((nI_eq (a := 1) (b := 0) (by omega) (by omega)).mpr z)
              refine lv_iload_n S.1 S.2.1 d_Mdl_file_46 rfl (lv_at hl 3 rfl) ?_
              refine lv_iconst (v := nI 1) S.1 S.2.1 d_Mdl_file_47 (by decide) ?_
              refine lv_icmp_ne (tgt := 60) S.1 S.2.1 d_Mdl_file_48 (by decide) (fun c212 => ?_) (fun c212 => ?_)
              · skip
                replace c212 : ¬ 1 = 1 := fun z => c212 ((nI_eq (a := 1) (b := 1) (by omega) (by omega)).mpr z)
                exact absurd c212 (by omega)
              · skip
                replace c212 : 1 = 1 := (nI_eq (a := 1) (b := 1) (by omega) (by omega)).mp c212
                refine lv_aload_n S.1 S.2.1 d_Mdl_file_51 rfl (lv_at hl 1 rfl) ?_
                refine gh_get S hI hb rfl i_Mdl 8 (by decide) wi_443 rfl d_Mdl_file_52 ?_
                refine lv_iload_n S.1 S.2.1 d_Mdl_file_55 rfl (lv_at hl 0 rfl) ?_
                refine gh_iald (j := q) S hI 1 h8 rfl rfl (by omega) (by omega) d_Mdl_file_56 ?_
                refine lv_topi (fun v213 ev213 => ?_)
                replace ev213 : v213 = (af q).2.1 := ev213.trans (p1)
                subst ev213
                refine lv_goto (tgt := 79) S.1 S.2.1 d_Mdl_file_57 (by decide) ?_
                exact gr_i S hr hlk hI (⟨by unfold aFile; rw [if_neg hnr, hfk]; unfold aFileV; rfl, rfl⟩) d_Mdl_file_79
            · skip
              replace c211 : 1 = 0 := (nI_eq (a := 1) (b := 0) (by omega) (by omega)).mp c211
              exact absurd c211 (by omega)
          · skip
            refine lv_iload_n S.1 S.2.1 d_Mdl_file_33 rfl (lv_at hl 3 rfl) ?_
            refine lv_if_ne (tgt := 46) S.1 S.2.1 d_Mdl_file_34 (by decide) (fun c214 => ?_) (fun c214 => ?_)
            · skip
              replace c214 : ¬ 2 = 0 := fun z => c214 ((nI_eq (a := 2) (b := 0) (by omega) (by omega)).mpr z)
              refine lv_iload_n S.1 S.2.1 d_Mdl_file_46 rfl (lv_at hl 3 rfl) ?_
              refine lv_iconst (v := nI 1) S.1 S.2.1 d_Mdl_file_47 (by decide) ?_
              refine lv_icmp_ne (tgt := 60) S.1 S.2.1 d_Mdl_file_48 (by decide) (fun c215 => ?_) (fun c215 => ?_)
              · skip
                replace c215 : ¬ 2 = 1 := fun z => c215 ((nI_eq (a := 2) (b := 1) (by omega) (by omega)).mpr z)
                refine lv_iload_n S.1 S.2.1 d_Mdl_file_60 rfl (lv_at hl 3 rfl) ?_
                refine lv_iconst (v := nI 2) S.1 S.2.1 d_Mdl_file_61 (by decide) ?_
                refine lv_icmp_ne (tgt := 74) S.1 S.2.1 d_Mdl_file_62 (by decide) (fun c216 => ?_) (fun c216 => ?_)
                · skip
                  replace c216 : ¬ 2 = 2 := fun z => c216 ((nI_eq (a := 2) (b := 2) (by omega) (by omega)).mpr z)
                  exact absurd c216 (by omega)
                · skip
                  replace c216 : 2 = 2 := (nI_eq (a := 2) (b := 2) (by omega) (by omega)).mp c216
                  refine lv_aload_n S.1 S.2.1 d_Mdl_file_65 rfl (lv_at hl 1 rfl) ?_
                  refine gh_get S hI hb rfl i_Mdl 7 (by decide) wi_442 rfl d_Mdl_file_66 ?_
                  refine lv_iload_n S.1 S.2.1 d_Mdl_file_69 rfl (lv_at hl 0 rfl) ?_
                  refine gh_iald (j := q) S hI 1 h7 rfl rfl (by omega) (by omega) d_Mdl_file_70 ?_
                  refine lv_topi (fun v217 ev217 => ?_)
                  replace ev217 : v217 = nI (af q).1.length := ev217.trans (q1)
                  subst ev217
                  refine lv_goto (tgt := 79) S.1 S.2.1 d_Mdl_file_71 (by decide) ?_
                  exact gr_i S hr hlk hI (⟨by unfold aFile; rw [if_neg hnr, hfk]; unfold aFileV; rfl, rfl⟩) d_Mdl_file_79
              · skip
                replace c215 : 2 = 1 := (nI_eq (a := 2) (b := 1) (by omega) (by omega)).mp c215
                exact absurd c215 (by omega)
            · skip
              replace c214 : 2 = 0 := (nI_eq (a := 2) (b := 0) (by omega) (by omega)).mp c214
              exact absurd c214 (by omega)
          · skip
            refine lv_iload_n S.1 S.2.1 d_Mdl_file_33 rfl (lv_at hl 3 rfl) ?_
            refine lv_if_ne (tgt := 46) S.1 S.2.1 d_Mdl_file_34 (by decide) (fun c218 => ?_) (fun c218 => ?_)
            · skip
              replace c218 : ¬ 3 = 0 := fun z => c218 ((nI_eq (a := 3) (b := 0) (by omega) (by omega)).mpr z)
              refine lv_iload_n S.1 S.2.1 d_Mdl_file_46 rfl (lv_at hl 3 rfl) ?_
              refine lv_iconst (v := nI 1) S.1 S.2.1 d_Mdl_file_47 (by decide) ?_
              refine lv_icmp_ne (tgt := 60) S.1 S.2.1 d_Mdl_file_48 (by decide) (fun c219 => ?_) (fun c219 => ?_)
              · skip
                replace c219 : ¬ 3 = 1 := fun z => c219 ((nI_eq (a := 3) (b := 1) (by omega) (by omega)).mpr z)
                refine lv_iload_n S.1 S.2.1 d_Mdl_file_60 rfl (lv_at hl 3 rfl) ?_
                refine lv_iconst (v := nI 2) S.1 S.2.1 d_Mdl_file_61 (by decide) ?_
                refine lv_icmp_ne (tgt := 74) S.1 S.2.1 d_Mdl_file_62 (by decide) (fun c220 => ?_) (fun c220 => ?_)
                · skip
                  replace c220 : ¬ 3 = 2 := fun z => c220 ((nI_eq (a := 3) (b := 2) (by omega) (by omega)).mpr z)
                  refine lv_aload_n S.1 S.2.1 d_Mdl_file_74 rfl (lv_at hl 1 rfl) ?_
                  refine lv_iload_n S.1 S.2.1 d_Mdl_file_75 rfl (lv_at hl 0 rfl) ?_
                  refine gc_Vi S hI (c_Mdl_stripes l P f hb h11 hq48 p4) kv_Mdl_stripes wi_521 hb rfl rfl rfl hl.1 rfl (Nat.le_of_ble_eq_true rfl) ⟨Nat.le_of_ble_eq_true rfl, Nat.le_of_ble_eq_true rfl⟩ ⟨Nat.le_of_ble_eq_true rfl, Nat.le_of_ble_eq_true rfl⟩ d_Mdl_file_76 (fun r221 f222 H locs hp223 hI => ?_)
                  obtain ⟨hp1, hp2⟩ := hp223
                  subst hp1
                  rw [hp2] at hI
                  exact gr_i S hr hlk hI (⟨by unfold aFile; rw [if_neg hnr, hfk]; unfold aFileV; rfl, rfl⟩) d_Mdl_file_79
                · skip
                  replace c220 : 3 = 2 := (nI_eq (a := 3) (b := 2) (by omega) (by omega)).mp c220
                  exact absurd c220 (by omega)
              · skip
                replace c219 : 3 = 1 := (nI_eq (a := 3) (b := 1) (by omega) (by omega)).mp c219
                exact absurd c219 (by omega)
            · skip
              replace c218 : 3 = 0 := (nI_eq (a := 3) (b := 0) (by omega) (by omega)).mp c218
              exact absurd c218 (by omega)
        · skip
          replace c207 : ¬ k < L.length := fun z => c207 ((nI_ltI (a := k) (b := L.length) (by omega) (by omega)).mpr z)
          refine lv_bipush (v := (-2)) S.1 S.2.1 d_Mdl_file_23 (by decide) ?_
          exact gr_i S hr hlk hI (⟨by unfold aFile; rw [if_neg hnr, fileK_nI hk (by omega), List.getElem?_eq_none (by omega)]; rfl, rfl⟩) d_Mdl_file_25
    · skip
      replace c205 : ¬ u ≤ 3 := fun z => c205 ((nI_leI (a := u) (b := 3) (by omega) (by omega)).mpr z)
      refine lv_iconst (v := (-1)) S.1 S.2.1 d_Mdl_file_9 (by decide) ?_
      exact gr_i S hr hlk hI (⟨by unfold aFile; rw [if_pos (show nI u < 0 ∨ 3 < nI u from Or.inr (nI_lt (a := 3) (by omega) hu))], rfl⟩) d_Mdl_file_10
set_option maxHeartbeats 4000000 in
set_option maxRecDepth 100000 in
theorem c_Mdl_piece (l : Launch) (P : gPar) (f : gM) {b : Nat} {st : ASt} {k0 si ii : Int32} (h : gMo P f b st) (hw : wfS st.2.2.2.2.2) : gC l P y_Mdl_piece b_Mdl_piece 6 (some .int) 0 0 0 [.ref b, .int k0, .int si, .int ii] f (gQi P (fun r f1 => r = aPiece st k0 si ii ∧ f1 = f)) := by
  refine gC_of (by decide) (Nat.le_of_ble_eq_true rfl) (fun p env s m args below meth c S hr hlk hnm H locs hI ls hl => ?_)
  have hl : lv_has ls 6 [(0, .ref b), (1, .int k0), (2, .int si), (3, .int ii)] := hl
  obtain ⟨gt, gn, gl, go, gu, gf, gk, gi, gz, gy, ga, gd, L, af, ⟨hb, h1, h2, h3, h4, h5, h6, h7, h8, h9, h10, h11, h12⟩, ⟨ht1, ht2⟩, ⟨hn0, hn1⟩, ⟨hd1, hd2⟩, ⟨hnd, hlL, hO, hU, hM⟩, hFS⟩ := h
  have hlF : st.2.2.2.2.2.length = L.length := by rw [← hFS, List.length_map]
  have hnF : nms af L = fN st.2.2.2.2.2 := by rw [← hFS, fN_L]
  refine lv_iload_n S.1 S.2.1 d_Mdl_piece_0 rfl (lv_at hl 1 rfl) ?_
  refine lv_if_lt (tgt := 33) S.1 S.2.1 d_Mdl_piece_1 (by decide) (fun c224 => ?_) (fun c224 => ?_)
  · skip
    refine lv_bipush (v := (-2)) S.1 S.2.1 d_Mdl_piece_33 (by decide) ?_
    exact gr_i S hr hlk hI (⟨by unfold aPiece; rw [fileK_neg c224]; rfl, rfl⟩) d_Mdl_piece_35
  · skip
    obtain ⟨k, hk, hk2⟩ := nI_of c224
    subst hk2
    refine lv_iload_n S.1 S.2.1 d_Mdl_piece_4 rfl (lv_at hl 1 rfl) ?_
    refine lv_aload_n S.1 S.2.1 d_Mdl_piece_5 rfl (lv_at hl 0 rfl) ?_
    refine gh_get S hI hb rfl i_Mdl 12 (by decide) wi_447 rfl d_Mdl_piece_6 ?_
    refine lv_icmp_ge (tgt := 33) S.1 S.2.1 d_Mdl_piece_9 (by decide) (fun c225 => ?_) (fun c225 => ?_)
    · skip
      replace c225 : L.length ≤ k := (nI_leI (a := L.length) (b := k) (by omega) (by omega)).mp c225
      refine lv_bipush (v := (-2)) S.1 S.2.1 d_Mdl_piece_33 (by decide) ?_
      exact gr_i S hr hlk hI (⟨by unfold aPiece; rw [fileK_nI hk (by omega), List.getElem?_eq_none (by omega)]; rfl, rfl⟩) d_Mdl_piece_35
    · skip
      replace c225 : ¬ L.length ≤ k := fun z => c225 ((nI_leI (a := L.length) (b := k) (by omega) (by omega)).mpr z)
      refine lv_iload_n S.1 S.2.1 d_Mdl_piece_12 rfl (lv_at hl 2 rfl) ?_
      refine lv_if_lt (tgt := 33) S.1 S.2.1 d_Mdl_piece_13 (by decide) (fun c226 => ?_) (fun c226 => ?_)
      · skip
        refine lv_bipush (v := (-2)) S.1 S.2.1 d_Mdl_piece_33 (by decide) ?_
        exact gr_i S hr hlk hI (⟨(aPiece_bad (fun len ld C => by unfold pcV; rw [if_neg (fun z => z.1 c226)])).symm, rfl⟩) d_Mdl_piece_35
      · skip
        obtain ⟨t, ht, ht9⟩ := nI_of c226
        subst ht9
        refine lv_iload_n S.1 S.2.1 d_Mdl_piece_16 rfl (lv_at hl 2 rfl) ?_
        refine lv_bipush (v := nI 18) S.1 S.2.1 d_Mdl_piece_17 (by decide) ?_
        refine lv_icmp_gt (tgt := 33) S.1 S.2.1 d_Mdl_piece_19 (by decide) (fun c227 => ?_) (fun c227 => ?_)
        · skip
          replace c227 : 18 < t := (nI_ltI (a := 18) (b := t) (by omega) (by omega)).mp c227
          refine lv_bipush (v := (-2)) S.1 S.2.1 d_Mdl_piece_33 (by decide) ?_
          exact gr_i S hr hlk hI (⟨(aPiece_bad (fun len ld C => by unfold pcV; rw [if_neg (fun z => absurd ((nI_ltI (by omega) (by omega)).mp z.2.1) (by omega))])).symm, rfl⟩) d_Mdl_piece_35
        · skip
          replace c227 : ¬ 18 < t := fun z => c227 ((nI_ltI (a := 18) (b := t) (by omega) (by omega)).mpr z)
          refine lv_iload_n S.1 S.2.1 d_Mdl_piece_22 rfl (lv_at hl 3 rfl) ?_
          refine lv_if_lt (tgt := 33) S.1 S.2.1 d_Mdl_piece_23 (by decide) (fun c228 => ?_) (fun c228 => ?_)
          · skip
            refine lv_bipush (v := (-2)) S.1 S.2.1 d_Mdl_piece_33 (by decide) ?_
            exact gr_i S hr hlk hI (⟨(aPiece_bad (fun len ld C => by unfold pcV; rw [if_neg (fun z => z.2.2.1 c228)])).symm, rfl⟩) d_Mdl_piece_35
          · skip
            obtain ⟨j, hj, hj9⟩ := nI_of c228
            subst hj9
            refine lv_iload_n S.1 S.2.1 d_Mdl_piece_26 rfl (lv_at hl 3 rfl) ?_
            refine lv_sipush (v := nI 448) S.1 S.2.1 d_Mdl_piece_27 (by decide) ?_
            refine lv_icmp_lt (tgt := 36) S.1 S.2.1 d_Mdl_piece_30 (by decide) (fun c229 => ?_) (fun c229 => ?_)
            · skip
              replace c229 : j < 448 := (nI_ltI (a := j) (b := 448) (by omega) (by omega)).mp c229
              obtain ⟨q, hq⟩ : ∃ q, L[k]? = some q := ⟨_, List.getElem?_eq_getElem (by omega)⟩
              obtain ⟨hq48, ⟨q1, q2, q3⟩, p1, p2, p3, p4⟩ := hM q (List.mem_of_getElem? hq)
              have hfk : fileK st.2.2.2.2.2 (nI k) = some (af q) := by rw [fileK_nI (by omega) (by omega), ← hFS, List.getElem?_map, hq]; rfl
              have et : (nI t).toNatClampNeg = t := nI_clamp ht
              have ej : (nI j).toNatClampNeg = j := nI_clamp hj
              obtain ⟨wq, hwq⟩ : wfF (af q).2.2.1 (af q).2.2.2.1 (af q).2.2.2.2 ∧ True := ⟨hw.2.2 _ (by rw [← hFS]; exact List.mem_map.mpr ⟨q, List.mem_of_getElem? hq, rfl⟩), trivial⟩
              have wq1 := wq.1
              refine lv_aload_n S.1 S.2.1 d_Mdl_piece_36 rfl (lv_at hl 0 rfl) ?_
              refine gh_get S hI hb rfl i_Mdl 4 (by decide) wi_439 rfl d_Mdl_piece_37 ?_
              refine lv_iload_n S.1 S.2.1 d_Mdl_piece_40 rfl (lv_at hl 1 rfl) ?_
              refine gh_iald (j := k) S hI 1 h4 rfl rfl (by omega) (by omega) d_Mdl_piece_41 ?_
              refine lv_topi (fun v230 ev230 => ?_)
              replace ev230 : v230 = nI q := ev230.trans (hO k q hq)
              subst ev230
              refine lv_istore (lv' := [(4, .int (nI q)), (0, .ref b), (1, .int (nI k)), (2, .int (nI t)), (3, .int (nI j))]) S.1 S.2.1 d_Mdl_piece_42 hl (by decide) rfl (fun ls hl => ?_)
              refine lv_sipush (v := nI 448) S.1 S.2.1 d_Mdl_piece_44 (by decide) ?_
              refine lv_iload_n S.1 S.2.1 d_Mdl_piece_47 rfl (lv_at hl 3 rfl) ?_
              refine lv_imul S.1 S.2.1 d_Mdl_piece_48 ?_
              refine lv_topi (fun v231 ev231 => ?_)
              replace ev231 : v231 = nI (448 * t) := ev231.trans (pk_mul _ _)
              subst ev231
              refine lv_iload_n S.1 S.2.1 d_Mdl_piece_49 rfl (lv_at hl 4 rfl) ?_
              refine lv_iadd S.1 S.2.1 d_Mdl_piece_50 ?_
              refine lv_topi (fun v232 ev232 => ?_)
              replace ev232 : v232 = nI ((448 * t) + j) := ev232.trans (nI_add _ _)
              subst ev232
              refine lv_istore (lv' := [(5, .int (nI ((448 * t) + j))), (4, .int (nI q)), (0, .ref b), (1, .int (nI k)), (2, .int (nI t)), (3, .int (nI j))]) S.1 S.2.1 d_Mdl_piece_51 hl (by decide) rfl (fun ls hl => ?_)
              refine lv_aload_n S.1 S.2.1 d_Mdl_piece_53 rfl (lv_at hl 2 rfl) ?_
              refine gh_get S hI hb rfl i_Mdl 11 (by decide) wi_446 rfl d_Mdl_piece_54 ?_
              refine lv_bipush (v := nI 19) S.1 S.2.1 d_Mdl_piece_57 (by decide) ?_
              refine lv_iload S.1 S.2.1 d_Mdl_piece_59 (lv_at hl 1 rfl) ?_
              refine lv_imul S.1 S.2.1 d_Mdl_piece_61 ?_
              refine lv_topi (fun v233 ev233 => ?_)
              replace ev233 : v233 = nI (19 * q) := ev233.trans (pk_mul _ _)
              subst ev233
              refine lv_iload_n S.1 S.2.1 d_Mdl_piece_62 rfl (lv_at hl 4 rfl) ?_
              refine lv_iadd S.1 S.2.1 d_Mdl_piece_63 ?_
              refine lv_topi (fun v234 ev234 => ?_)
              replace ev234 : v234 = nI ((19 * q) + t) := ev234.trans (nI_add _ _)
              subst ev234
              refine gh_zald (j := (19 * q) + t) S hI 2 h11 rfl rfl (by omega) (by omega) d_Mdl_piece_64 ?_
              rcases hld : (af q).2.2.2.1 t with _ | _
              · skip
                refine lv_topi (fun v235 ev235 => ?_)
                replace ev235 : v235 = nI 0 := ev235.trans (by rw [p4 t (by omega), hld]; rfl)
                subst ev235
                refine lv_if_eq (tgt := 101) S.1 S.2.1 d_Mdl_piece_65 (by decide) (fun c236 => ?_) (fun c236 => ?_)
                · skip
                  replace c236 : 0 = 0 := (nI_eq (a := 0) (b := 0) (by omega) (by omega)).mp c236
                  refine lv_bipush (v := (-2)) S.1 S.2.1 d_Mdl_piece_101 (by decide) ?_
                  exact gr_i S hr hlk hI (⟨by unfold aPiece; rw [hfk]; show _ = pcV (af q).2.2.1 (af q).2.2.2.1 (af q).2.2.2.2 (nI t) (nI j); unfold pcV; rw [if_neg (fun z => by have z5 := z.2.2.2.2.1; rw [et, hld] at z5; cases z5)], rfl⟩) d_Mdl_piece_103
                · skip
                  replace c236 : ¬ 0 = 0 := fun z => c236 ((nI_eq (a := 0) (b := 0) (by omega) (by omega)).mpr z)
                  exact absurd c236 (by omega)
              · skip
                refine lv_topi (fun v237 ev237 => ?_)
                replace ev237 : v237 = nI 1 := ev237.trans (by rw [p4 t (by omega), hld]; rfl)
                subst ev237
                refine lv_if_eq (tgt := 101) S.1 S.2.1 d_Mdl_piece_65 (by decide) (fun c238 => ?_) (fun c238 => ?_)
                · skip
                  replace c238 : 1 = 0 := (nI_eq (a := 1) (b := 0) (by omega) (by omega)).mp c238
                  exact absurd c238 (by omega)
                · skip
                  replace c238 : ¬ 1 = 0 := fun z => c238 ((nI_eq (a := 1) (b := 0) (by omega) (by omega)).mpr z)
                  refine lv_iload S.1 S.2.1 d_Mdl_piece_68 (lv_at hl 0 rfl) ?_
                  refine lv_aload_n S.1 S.2.1 d_Mdl_piece_70 rfl (lv_at hl 2 rfl) ?_
                  refine gh_get S hI hb rfl i_Mdl 9 (by decide) wi_444 rfl d_Mdl_piece_71 ?_
                  refine lv_iload S.1 S.2.1 d_Mdl_piece_74 (lv_at hl 1 rfl) ?_
                  refine gh_iald (j := q) S hI 1 h9 rfl rfl (by omega) (by omega) d_Mdl_piece_76 ?_
                  refine lv_topi (fun v239 ev239 => ?_)
                  replace ev239 : v239 = nI (af q).2.2.1 := ev239.trans (p2)
                  subst ev239
                  refine lv_icmp_ge (tgt := 101) S.1 S.2.1 d_Mdl_piece_77 (by decide) (fun c240 => ?_) (fun c240 => ?_)
                  · skip
                    replace c240 : ((af q).2.2.1) ≤ ((448 * t) + j) := (nI_leI (a := (af q).2.2.1) (b := (448 * t) + j) (by omega) (by omega)).mp c240
                    refine lv_bipush (v := (-2)) S.1 S.2.1 d_Mdl_piece_101 (by decide) ?_
                    exact gr_i S hr hlk hI (⟨by unfold aPiece; rw [hfk]; show _ = pcV (af q).2.2.1 (af q).2.2.2.1 (af q).2.2.2.2 (nI t) (nI j); unfold pcV; rw [if_neg (fun z => absurd z.2.2.2.2.2 (by rw [et, ej]; omega))], rfl⟩) d_Mdl_piece_103
                  · skip
                    replace c240 : ¬ ((af q).2.2.1) ≤ ((448 * t) + j) := fun z => c240 ((nI_leI (a := (af q).2.2.1) (b := (448 * t) + j) (by omega) (by omega)).mpr z)
                    refine lv_aload_n S.1 S.2.1 d_Mdl_piece_80 rfl (lv_at hl 2 rfl) ?_
                    refine gh_get S hI hb rfl i_Mdl 10 (by decide) wi_445 rfl d_Mdl_piece_81 ?_
                    refine lv_sipush (v := nI 8192) S.1 S.2.1 d_Mdl_piece_84 (by decide) ?_
                    refine lv_iload S.1 S.2.1 d_Mdl_piece_87 (lv_at hl 1 rfl) ?_
                    refine lv_imul S.1 S.2.1 d_Mdl_piece_89 ?_
                    refine lv_topi (fun v241 ev241 => ?_)
                    replace ev241 : v241 = nI (8192 * q) := ev241.trans (pk_mul _ _)
                    subst ev241
                    refine lv_iload S.1 S.2.1 d_Mdl_piece_90 (lv_at hl 0 rfl) ?_
                    refine lv_iadd S.1 S.2.1 d_Mdl_piece_92 ?_
                    refine lv_topi (fun v242 ev242 => ?_)
                    replace ev242 : v242 = nI ((8192 * q) + ((448 * t) + j)) := ev242.trans (nI_add _ _)
                    subst ev242
                    refine gh_bald (j := (8192 * q) + ((448 * t) + j)) S hI 0 h10 rfl rfl (by omega) (by omega) d_Mdl_piece_93 ?_
                    refine lv_sipush (v := nI 255) S.1 S.2.1 d_Mdl_piece_94 (by decide) ?_
                    refine lv_iand S.1 S.2.1 d_Mdl_piece_97 ?_
                    refine lv_topi (fun v243 ev243 => ?_)
                    replace ev243 : v243 = nI (ub (gy (8192 * q + (448 * t + j)))) := ev243.trans (ub_nI _)
                    subst ev243
                    refine lv_goto (tgt := 103) S.1 S.2.1 d_Mdl_piece_98 (by decide) ?_
                    exact gr_i S hr hlk hI (⟨by unfold aPiece; rw [hfk]; show _ = pcV (af q).2.2.1 (af q).2.2.2.1 (af q).2.2.2.2 (nI t) (nI j); unfold pcV; rw [if_pos ⟨c226, nI_lt (by omega) (by omega), c228, nI_lt (by omega) (by omega), by rw [et]; exact hld, by rw [et, ej]; omega⟩, et, ej, p3 _ (by omega)], rfl⟩) d_Mdl_piece_103
            · skip
              replace c229 : ¬ j < 448 := fun z => c229 ((nI_ltI (a := j) (b := 448) (by omega) (by omega)).mpr z)
              refine lv_bipush (v := (-2)) S.1 S.2.1 d_Mdl_piece_33 (by decide) ?_
              exact gr_i S hr hlk hI (⟨(aPiece_bad (fun len ld C => by unfold pcV; rw [if_neg (fun z => absurd ((nI_ltI (by omega) (by omega)).mp z.2.2.2.1) (by omega))])).symm, rfl⟩) d_Mdl_piece_35
set_option maxHeartbeats 4000000 in
set_option maxRecDepth 100000 in
theorem c_Mdl_count (l : Launch) (P : gPar) (f : gM) {b : Nat} {st : ASt} {wh : Int32} (h : gMo P f b st) : gC l P y_Mdl_count b_Mdl_count 4 (some .int) 1 0 0 [.ref b, .int wh] f (gQi P (fun r f1 => r = aCount st wh ∧ f1 = f)) := by
  refine gC_of (by decide) (Nat.le_of_ble_eq_true rfl) (fun p env s m args below meth c S hr hlk hnm H locs hI ls hl => ?_)
  have hl : lv_has ls 4 [(0, .ref b), (1, .int wh)] := hl
  obtain ⟨gt, gn, gl, go, gu, gf, gk, gi, gz, gy, ga, gd, L, af, ⟨hb, h1, h2, h3, h4, h5, h6, h7, h8, h9, h10, h11, h12⟩, ⟨ht1, ht2⟩, ⟨hn0, hn1⟩, ⟨hd1, hd2⟩, ⟨hnd, hlL, hO, hU, hM⟩, hFS⟩ := h
  have hlF : st.2.2.2.2.2.length = L.length := by rw [← hFS, List.length_map]
  have hnF : nms af L = fN st.2.2.2.2.2 := by rw [← hFS, fN_L]
  refine lv_iconst (v := nI 0) S.1 S.2.1 d_Mdl_count_0 (by decide) ?_
  refine lv_istore_n (lv' := [(2, .int (nI 0)), (0, .ref b), (1, .int wh)]) S.1 S.2.1 d_Mdl_count_1 rfl hl (by decide) rfl (fun ls hl => ?_)
  refine lv_iconst (v := nI 0) S.1 S.2.1 d_Mdl_count_2 (by decide) ?_
  refine lv_istore_n (lv' := [(3, .int (nI 0)), (2, .int (nI 0)), (0, .ref b), (1, .int wh)]) S.1 S.2.1 d_Mdl_count_3 rfl hl (by decide) rfl (fun ls hl => ?_)
  have loop : ∀ (u i : Nat), i ≤ L.length → L.length - i < u → ∀ (H : Heap) (locs : List Loc), gB P f s H locs → ∀ ls : Array Slot, lv_has ls 4 [(0, .ref b), (1, .int wh), (2, .int (nI (((L.take i).map (fun q => cntL (af q).2.2.2.1 19)).sum))), (3, .int (nI i))] → W p l env (grm 1 0 0) s m args below meth c H locs 0 0 (MQ below (gQi P (fun r f1 => r = aCount st wh ∧ f1 = f)) args s 0 0 (gA P)) (F0 m 4 ls []) := by
    intro u
    induction u with
    | zero => intro i h9 h8; exact absurd h8 (by omega)
    | succ u ih =>
      intro i hi1 hu H locs hI ls hl
      refine lv_iload_n S.1 S.2.1 d_Mdl_count_4 rfl (lv_at hl 3 rfl) ?_
      refine lv_aload_n S.1 S.2.1 d_Mdl_count_5 rfl (lv_at hl 0 rfl) ?_
      refine gh_get S hI hb rfl i_Mdl 12 (by decide) wi_447 rfl d_Mdl_count_6 ?_
      refine lv_icmp_ge (tgt := 31) S.1 S.2.1 d_Mdl_count_9 (by decide) (fun c244 => ?_) (fun c244 => ?_)
      · skip
        replace c244 : L.length ≤ i := (nI_leI (a := L.length) (b := i) (by omega) (by omega)).mp c244
        have es : ((L.take i).map (fun q => cntL (af q).2.2.2.1 19)).sum = fC st.2.2.2.2.2 := by rw [List.take_of_length_le (by omega), ← hFS, fC_L]; rfl
        refine lv_iload_n S.1 S.2.1 d_Mdl_count_31 rfl (lv_at hl 1 rfl) ?_
        by_cases hin : ¬ wh < 0 ∧ wh ≤ nI 4
        · skip
          obtain ⟨u, hu, hu2⟩ := nI_of hin.1
          have hu3 : u ≤ 4 := (nI_leI (b := 4) (by omega) (by omega)).mp (by rw [← hu2]; exact hin.2)
          subst hu2
          rcases (show u = 0 ∨ u = 1 ∨ u = 2 ∨ u = 3 ∨ u = 4 by omega) with e | e | e | e | e <;> subst e
          · skip
            refine lv_tableIn (tgt := 68) S.1 S.2.1 d_Mdl_count_32 (by decide) (by decide) rfl (by decide) ?_
            refine lv_aload_n S.1 S.2.1 d_Mdl_count_68 rfl (lv_at hl 0 rfl) ?_
            refine gh_get S hI hb rfl i_Mdl 12 (by decide) wi_447 rfl d_Mdl_count_69 ?_
            exact gr_i S hr hlk hI (⟨by unfold aCount; rw [if_pos (by decide), hlF], rfl⟩) d_Mdl_count_72
          · skip
            refine lv_tableIn (tgt := 73) S.1 S.2.1 d_Mdl_count_32 (by decide) (by decide) rfl (by decide) ?_
            refine lv_aload_n S.1 S.2.1 d_Mdl_count_73 rfl (lv_at hl 0 rfl) ?_
            refine gh_get S hI hb rfl i_Mdl 13 (by decide) wi_448 rfl d_Mdl_count_74 ?_
            exact gr_i S hr hlk hI (⟨by unfold aCount; rw [if_neg (by decide), if_pos (by decide)], rfl⟩) d_Mdl_count_77
          · skip
            refine lv_tableIn (tgt := 78) S.1 S.2.1 d_Mdl_count_32 (by decide) (by decide) rfl (by decide) ?_
            refine lv_iload_n S.1 S.2.1 d_Mdl_count_78 rfl (lv_at hl 2 rfl) ?_
            exact gr_i S hr hlk hI (⟨by unfold aCount; rw [if_neg (by decide), if_neg (by decide), if_pos (by decide), es], rfl⟩) d_Mdl_count_79
          · skip
            refine lv_tableIn (tgt := 80) S.1 S.2.1 d_Mdl_count_32 (by decide) (by decide) rfl (by decide) ?_
            refine lv_aload_n S.1 S.2.1 d_Mdl_count_80 rfl (lv_at hl 0 rfl) ?_
            refine gh_get S hI hb rfl i_Mdl 14 (by decide) wi_449 rfl d_Mdl_count_81 ?_
            exact gr_i S hr hlk hI (⟨by unfold aCount; rw [if_neg (by decide), if_neg (by decide), if_neg (by decide), if_pos (by decide)], rfl⟩) d_Mdl_count_84
          · skip
            refine lv_tableIn (tgt := 85) S.1 S.2.1 d_Mdl_count_32 (by decide) (by decide) rfl (by decide) ?_
            refine lv_aload_n S.1 S.2.1 d_Mdl_count_85 rfl (lv_at hl 0 rfl) ?_
            refine gh_get S hI hb rfl i_Mdl 1 (by decide) wi_436 rfl d_Mdl_count_86 ?_
            exact gr_i S hr hlk hI (⟨by unfold aCount; rw [if_neg (by decide), if_neg (by decide), if_neg (by decide), if_neg (by decide), if_pos (by decide)], rfl⟩) d_Mdl_count_89
        · skip
          have hno : ∀ j : Nat, j ≤ 4 → wh ≠ nI j := fun j hj e => hin (by rw [e]; exact ⟨nI_pos (by omega), nI_le hj (by omega)⟩)
          have hout : wh.toInt < 0 ∨ 4 < wh.toInt := by
            rcases Classical.em (wh < 0) with q | q
            · exact Or.inl (Int32.lt_iff_toInt_lt.mp q)
            · right
              have q2 : ¬ wh ≤ nI 4 := fun z => hin ⟨q, z⟩
              have q3 := Int32.lt_iff_toInt_lt.mp (Int32.not_le.mp q2)
              rw [nI_toInt (by omega)] at q3; exact q3
          refine lv_tableOut (tgt := 90) S.1 S.2.1 d_Mdl_count_32 hout (by decide) ?_
          refine lv_iconst (v := (-1)) S.1 S.2.1 d_Mdl_count_90 (by decide) ?_
          exact gr_i S hr hlk hI (⟨by unfold aCount; rw [if_neg (show ¬ wh = 0 from hno 0 (by omega)), if_neg (show ¬ wh = 1 from hno 1 (by omega)), if_neg (show ¬ wh = 2 from hno 2 (by omega)), if_neg (show ¬ wh = 3 from hno 3 (by omega)), if_neg (show ¬ wh = 4 from hno 4 (by omega))], rfl⟩) d_Mdl_count_91
      · skip
        replace c244 : ¬ L.length ≤ i := fun z => c244 ((nI_leI (a := L.length) (b := i) (by omega) (by omega)).mpr z)
        obtain ⟨q, hq⟩ : ∃ q, L[i]? = some q := ⟨_, List.getElem?_eq_getElem (by omega)⟩
        obtain ⟨hq48, ⟨q1, q2, q3⟩, p1, p2, p3, p4⟩ := hM q (List.mem_of_getElem? hq)
        refine lv_iload_n S.1 S.2.1 d_Mdl_count_12 rfl (lv_at hl 2 rfl) ?_
        refine lv_aload_n S.1 S.2.1 d_Mdl_count_13 rfl (lv_at hl 0 rfl) ?_
        refine lv_aload_n S.1 S.2.1 d_Mdl_count_14 rfl (lv_at hl 0 rfl) ?_
        refine gh_get S hI hb rfl i_Mdl 4 (by decide) wi_439 rfl d_Mdl_count_15 ?_
        refine lv_iload_n S.1 S.2.1 d_Mdl_count_18 rfl (lv_at hl 3 rfl) ?_
        refine gh_iald (j := i) S hI 1 h4 rfl rfl (by omega) (by omega) d_Mdl_count_19 ?_
        refine lv_topi (fun v245 ev245 => ?_)
        replace ev245 : v245 = nI q := ev245.trans (hO i q hq)
        subst ev245
        refine gc_Vi S hI (c_Mdl_stripes l P f hb h11 hq48 p4) kv_Mdl_stripes wi_521 hb rfl rfl rfl hl.1 rfl (Nat.le_of_ble_eq_true rfl) ⟨Nat.le_of_ble_eq_true rfl, Nat.le_of_ble_eq_true rfl⟩ ⟨Nat.le_of_ble_eq_true rfl, Nat.le_of_ble_eq_true rfl⟩ d_Mdl_count_20 (fun r246 f247 H locs hp248 hI => ?_)
        obtain ⟨hp1, hp2⟩ := hp248
        subst hp1
        rw [hp2] at hI
        refine lv_iadd S.1 S.2.1 d_Mdl_count_23 ?_
        refine lv_topi (fun v249 ev249 => ?_)
        replace ev249 : v249 = nI ((((L.take i).map (fun q => cntL (af q).2.2.2.1 19)).sum) + (cntL (af q).2.2.2.1 19)) := ev249.trans (nI_add _ _)
        subst ev249
        refine lv_topi (fun v250 ev250 => ?_)
        replace ev250 : v250 = nI ((L.take (i + 1)).map (fun q => cntL (af q).2.2.2.1 19)).sum := ev250.trans (by rw [sum_take_s (fun q => cntL (af q).2.2.2.1 19) hq])
        subst ev250
        refine lv_istore_n (lv' := [(2, .int (nI ((L.take (i + 1)).map (fun q => cntL (af q).2.2.2.1 19)).sum)), (0, .ref b), (1, .int wh), (3, .int (nI i))]) S.1 S.2.1 d_Mdl_count_24 rfl hl (by decide) rfl (fun ls hl => ?_)
        refine lv_iinc (v := nI (i + 1)) (lv' := [(3, .int (nI (i + 1))), (2, .int (nI ((L.take (i + 1)).map (fun q => cntL (af q).2.2.2.1 19)).sum)), (0, .ref b), (1, .int wh)]) S.1 S.2.1 d_Mdl_count_25 hl (k := 3) rfl (nI_add _ _) (by decide) rfl (fun ls hl => ?_)
        refine lv_goto (tgt := 4) S.1 S.2.1 d_Mdl_count_28 (by decide) ?_
        exact ih (i + 1) (by omega) (by omega) _ _ hI _ (lv_sub hl [2, 3, 1, 0] rfl)
  exact loop (L.length + 1) 0 (by omega) (by omega) _ _ hI _ (lv_sub hl [2, 3, 1, 0] rfl)
