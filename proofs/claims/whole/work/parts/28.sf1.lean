theorem gFS.out {P : gPar} {f f1 : gM} {a : Nat} {st : ASt} {V : Nat → Prop} {l : List Nat} (h : gSF P f a st) (hV : gUo f V) (hz : f P.2.2.2.1 = none) (hF : gFr f f1 l) (hl : ∀ c ∈ l, a ≤ c ∧ c ≤ a + 8) : gFS P f1 (a + 9) st.2.2.2.2.2 := by
  obtain ⟨ow, L, SF, SP, e1, c1, e2, c2, e3, c3, af, s1, s2, s3⟩ := h.2.2.2.2.2
  exact ⟨ow, L, SF, SP, e1, c1, e2, c2, e3, c3, af, s1.out hz (h.uo hV) hF (fun c hc => ⟨Or.inl (hl c hc), by have := hl c hc; omega, by have := hl c hc; omega⟩), s2, s3⟩
theorem gFU.out {f f1 : gM} {a : Nat} {V : Nat → Prop} {l : List Nat} (hVa : ∀ c, V c → a + 14 ≤ c) (hF : gFr f f1 l) (hl : ∀ c ∈ l, a ≤ c ∧ c ≤ a + 8) : gFU f f1 V := fun c v hc hf => hF c v hf (fun z => by have := hl c z; have := hVa c hc; omega)
theorem inr2 {a x y : Nat} (h1 : a ≤ x ∧ x ≤ a + 8) (h2 : a ≤ y ∧ y ≤ a + 8) : ∀ c ∈ [x, y], a ≤ c ∧ c ≤ a + 8 := by
  intro c hc
  rcases List.mem_cons.mp hc with z | z
  · rw [z]; exact h1
  · rw [List.mem_singleton.mp z]; exact h2
theorem inr1 {a x : Nat} (h1 : a ≤ x ∧ x ≤ a + 8) : ∀ c ∈ [x], a ≤ c ∧ c ≤ a + 8 := by
  intro c hc
  rw [List.mem_singleton.mp hc]; exact h1
theorem gRw.len {P : gPar} {f : gM} {r cap : Nat} {nm : List Nat} (h : gRw P f r cap nm) : nm.length ≤ cap := by
  obtain ⟨g, -, -, h, -⟩ := h
  exact h
theorem fileK_L {L : List Nat} {af : Nat → AFile} {k : Int32} : fileK (L.map af) k = (fAt L k).map af := by
  unfold fileK fAt
  rw [List.length_map]
  by_cases h : ¬ k < 0 ∧ k < nI L.length
  · rw [if_pos h, if_pos h, List.getElem?_map]
  · rw [if_neg h, if_neg h]; rfl
theorem fB_L {L : List Nat} {af : Nat → AFile} : fB (L.map af) = sumB af L := by unfold fB sumB; rw [List.map_map]; rfl
theorem fC_L {L : List Nat} {af : Nat → AFile} : fC (L.map af) = sumC af L := by unfold fC sumC; rw [List.map_map]; rfl
theorem fN_L {L : List Nat} {af : Nat → AFile} : fN (L.map af) = nms af L := by unfold fN nms; rw [List.map_map]; rfl
set_option maxHeartbeats 4000000 in
set_option maxRecDepth 100000 in
theorem c_SF_isWithin (l : Launch) (P : gPar) (f : gM) {x m0 : Int32} : gC l P y_SF_isWithin b_SF_isWithin 2 (some .boolean) 0 0 0 [.int x, .int m0] f (gQi P (fun r f1 => r = (if ¬ x < 0 ∧ x ≤ m0 then nI 1 else nI 0) ∧ f1 = f)) := by
  refine gC_of (by decide) (Nat.le_of_ble_eq_true rfl) (fun p env s m args below meth c S hr hlk hnm H locs hI ls hl => ?_)
  have hl : lv_has ls 2 [(0, .int x), (1, .int m0)] := hl
  refine lv_iload_n S.1 S.2.1 d_SF_isWithin_0 rfl (lv_at hl 0 rfl) ?_
  refine lv_if_lt (tgt := 13) S.1 S.2.1 d_SF_isWithin_1 (by decide) (fun c17 => ?_) (fun c17 => ?_)
  · skip
    refine lv_iconst (v := nI 0) S.1 S.2.1 d_SF_isWithin_13 (by decide) ?_
    exact gr_z S hr hlk hI (by first | exact Or.inl rfl | exact Or.inr rfl) (⟨by rw [if_neg (fun z => z.1 c17)], rfl⟩) d_SF_isWithin_14
  · skip
    refine lv_iload_n S.1 S.2.1 d_SF_isWithin_4 rfl (lv_at hl 0 rfl) ?_
    refine lv_iload_n S.1 S.2.1 d_SF_isWithin_5 rfl (lv_at hl 1 rfl) ?_
    refine lv_icmp_gt (tgt := 13) S.1 S.2.1 d_SF_isWithin_6 (by decide) (fun c18 => ?_) (fun c18 => ?_)
    · skip
      refine lv_iconst (v := nI 0) S.1 S.2.1 d_SF_isWithin_13 (by decide) ?_
      exact gr_z S hr hlk hI (by first | exact Or.inl rfl | exact Or.inr rfl) (⟨by rw [if_neg (fun z => absurd z.2 (Int32.not_le.mpr c18))], rfl⟩) d_SF_isWithin_14
    · skip
      refine lv_iconst (v := nI 1) S.1 S.2.1 d_SF_isWithin_9 (by decide) ?_
      refine lv_goto (tgt := 14) S.1 S.2.1 d_SF_isWithin_10 (by decide) ?_
      exact gr_z S hr hlk hI (by first | exact Or.inl rfl | exact Or.inr rfl) (⟨by rw [if_pos ⟨c17, Int32.not_lt.mp c18⟩], rfl⟩) d_SF_isWithin_14
set_option maxHeartbeats 4000000 in
set_option maxRecDepth 100000 in
theorem c_SF_feed (l : Launch) (P : gPar) (f : gM) {a : Nat} {st : ASt} {V : Nat → Prop} {x1 x2 x3 x4 x5 : Int32} (h : gSF P f a st) (hV : gUo f V) (hVa : ∀ c, V c → a + 14 ≤ c) : gC l P y_SF_feed b_SF_feed 6 (some .int) 1 0 0 [.ref a, .int x1, .int x2, .int x3, .int x4, .int x5] f (gQi P (fun r f1 => r = (aFeed st x1 x2 x3 x4 x5).1 ∧ gSF P f1 a (aFeed st x1 x2 x3 x4 x5).2 ∧ gFU f f1 V)) := by
  refine gC_of (by decide) (Nat.le_of_ble_eq_true rfl) (fun p env s m args below meth c S hr hlk hnm H locs hI ls hl => ?_)
  have hl : lv_has ls 6 [(0, .ref a), (1, .int x1), (2, .int x2), (3, .int x3), (4, .int x4), (5, .int x5)] := hl
  have hz0 := gB_z hI
  have h0 := h.1
  obtain ⟨gt, t1, t2, t3, t4, t5⟩ := h.2.1
  replace t1 : f (a + 1) = some (.inr (1, [.ref (a + 2), .int (nI st.1.length)])) := t1
  replace t2 : f (a + 2) = some (.inl (P.2.1 0, 2048, .inl gt)) := t2
  obtain ⟨gn, n1, n2, n3, n4, n5⟩ := h.2.2.1
  replace n1 : f (a + 3) = some (.inr (1, [.ref (a + 4), .int (nI st.2.1.length)])) := n1
  replace n2 : f (a + 4) = some (.inl (P.2.1 0, 200, .inl gn)) := n2
  obtain ⟨gm, m1, m2, m3, m4, m5⟩ := h.2.2.2.1
  replace m1 : f (a + 5) = some (.inr (1, [.ref (a + 6), .int (nI st.2.2.1.length)])) := m1
  replace m2 : f (a + 6) = some (.inl (P.2.1 0, 200, .inl gm)) := m2
  obtain ⟨gd, d1, d2, d3, d4, d5⟩ := h.2.2.2.2.1
  replace d1 : f (a + 7) = some (.inr (1, [.ref (a + 8), .int (nI st.2.2.2.1.length)])) := d1
  replace d2 : f (a + 8) = some (.inl (P.2.1 0, 2048, .inl gd)) := d2
  refine lv_aload_n S.1 S.2.1 d_SF_feed_0 rfl (lv_at hl 0 rfl) ?_
  refine gh_get S hI h0 rfl i_SF 0 (by decide) wi_70 rfl d_SF_feed_1 ?_
  refine gc_Vi S hI (c_Row_length l P f t1) kv_Row_length wi_80 t1 rfl rfl rfl hl.1 rfl (Nat.le_of_ble_eq_true rfl) ⟨Nat.le_of_ble_eq_true rfl, Nat.le_of_ble_eq_true rfl⟩ ⟨Nat.le_of_ble_eq_true rfl, Nat.le_of_ble_eq_true rfl⟩ d_SF_feed_4 (fun r19 f20 H locs hp21 hI => ?_)
  obtain ⟨hp1, hp2⟩ := hp21
  subst hp1
  rw [hp2] at hI
  refine lv_bipush (v := nI 20) S.1 S.2.1 d_SF_feed_7 (by decide) ?_
  refine lv_iadd S.1 S.2.1 d_SF_feed_9 ?_
  refine lv_topi (fun v22 ev22 => ?_)
  replace ev22 : v22 = nI (st.1.length + 20) := ev22.trans (nI_add _ _)
  subst ev22
  refine lv_sipush (v := nI 2048) S.1 S.2.1 d_SF_feed_10 (by decide) ?_
  refine lv_icmp_le (tgt := 19) S.1 S.2.1 d_SF_feed_13 (by decide) (fun c23 => ?_) (fun c23 => ?_)
  · skip
    replace c23 : (st.1.length + 20) ≤ 2048 := (nI_leI (a := st.1.length + 20) (b := 2048) (by omega) (by omega)).mp c23
    have hF : gFr f f [a + 1, a + 2] := gFr.rf
    have v1 := t1
    have v2 := t2
    have v4 := t4
    have v5 : nmL st.1.length gt = st.1 := t5
    refine lv_aload_n S.1 S.2.1 d_SF_feed_19 rfl (lv_at hl 0 rfl) ?_
    refine gh_get S hI h0 rfl i_SF 0 (by decide) wi_70 rfl d_SF_feed_20 ?_
    refine lv_iload_n S.1 S.2.1 d_SF_feed_23 rfl (lv_at hl 1 rfl) ?_
    refine gc_Vv S hI (c_Row_addWord l P f (x := x1) v1 v2 (by omega) (by omega)) kv_Row_addWord wi_84 t1 rfl rfl rfl hl.1 rfl (Nat.le_of_ble_eq_true rfl) ⟨Nat.le_of_ble_eq_true rfl, Nat.le_of_ble_eq_true rfl⟩ ⟨Nat.le_of_ble_eq_true rfl, Nat.le_of_ble_eq_true rfl⟩ d_SF_feed_24 (fun f25 H locs hp26 hI => ?_)
    obtain ⟨w1, w2, w3⟩ := hp26
    replace w1 : f25 (a + 1) = some (.inr (1, [.ref (a + 2), .int (nI (st.1.length + 4))])) := w1
    have h0 := w3 a _ h0 (nm2 (by omega) (by omega))
    have hF := hF.call w3 (fun q hq => Or.inl hq)
    have e5 := nmL_up4 (n := st.1.length) (g := gt) x1
    rw [v5] at e5
    have v1 := w1
    have v2 := w2
    have v4 : sb_Fit (upd4 gt (st.1.length) x1) := upd4_fit v4
    have v5 : nmL (st.1.length + 4) (upd4 gt (st.1.length) x1) = (st.1 ++ w4 x1) := e5
    refine lv_aload_n S.1 S.2.1 d_SF_feed_27 rfl (lv_at hl 0 rfl) ?_
    refine gh_get S hI h0 rfl i_SF 0 (by decide) wi_70 rfl d_SF_feed_28 ?_
    refine lv_iload_n S.1 S.2.1 d_SF_feed_31 rfl (lv_at hl 2 rfl) ?_
    refine gc_Vv S hI (c_Row_addWord l P f25 (x := x2) v1 v2 (by omega) (by omega)) kv_Row_addWord wi_84 v1 rfl rfl rfl hl.1 rfl (Nat.le_of_ble_eq_true rfl) ⟨Nat.le_of_ble_eq_true rfl, Nat.le_of_ble_eq_true rfl⟩ ⟨Nat.le_of_ble_eq_true rfl, Nat.le_of_ble_eq_true rfl⟩ d_SF_feed_32 (fun f28 H locs hp29 hI => ?_)
    obtain ⟨w1, w2, w3⟩ := hp29
    replace w1 : f28 (a + 1) = some (.inr (1, [.ref (a + 2), .int (nI (st.1.length + 8))])) := w1
    have h0 := w3 a _ h0 (nm2 (by omega) (by omega))
    have hF := hF.call w3 (fun q hq => Or.inl hq)
    have e5 := nmL_up4 (n := st.1.length + 4) (g := upd4 gt (st.1.length) x1) x2
    rw [v5] at e5
    have v1 := w1
    have v2 := w2
    have v4 : sb_Fit (upd4 (upd4 gt (st.1.length) x1) (st.1.length + 4) x2) := upd4_fit v4
    have v5 : nmL (st.1.length + 8) (upd4 (upd4 gt (st.1.length) x1) (st.1.length + 4) x2) = ((st.1 ++ w4 x1) ++ w4 x2) := e5
    refine lv_aload_n S.1 S.2.1 d_SF_feed_35 rfl (lv_at hl 0 rfl) ?_
    refine gh_get S hI h0 rfl i_SF 0 (by decide) wi_70 rfl d_SF_feed_36 ?_
    refine lv_iload_n S.1 S.2.1 d_SF_feed_39 rfl (lv_at hl 3 rfl) ?_
    refine gc_Vv S hI (c_Row_addWord l P f28 (x := x3) v1 v2 (by omega) (by omega)) kv_Row_addWord wi_84 v1 rfl rfl rfl hl.1 rfl (Nat.le_of_ble_eq_true rfl) ⟨Nat.le_of_ble_eq_true rfl, Nat.le_of_ble_eq_true rfl⟩ ⟨Nat.le_of_ble_eq_true rfl, Nat.le_of_ble_eq_true rfl⟩ d_SF_feed_40 (fun f31 H locs hp32 hI => ?_)
    obtain ⟨w1, w2, w3⟩ := hp32
    replace w1 : f31 (a + 1) = some (.inr (1, [.ref (a + 2), .int (nI (st.1.length + 12))])) := w1
    have h0 := w3 a _ h0 (nm2 (by omega) (by omega))
    have hF := hF.call w3 (fun q hq => Or.inl hq)
    have e5 := nmL_up4 (n := st.1.length + 8) (g := upd4 (upd4 gt (st.1.length) x1) (st.1.length + 4) x2) x3
    rw [v5] at e5
    have v1 := w1
    have v2 := w2
    have v4 : sb_Fit (upd4 (upd4 (upd4 gt (st.1.length) x1) (st.1.length + 4) x2) (st.1.length + 8) x3) := upd4_fit v4
    have v5 : nmL (st.1.length + 12) (upd4 (upd4 (upd4 gt (st.1.length) x1) (st.1.length + 4) x2) (st.1.length + 8) x3) = (((st.1 ++ w4 x1) ++ w4 x2) ++ w4 x3) := e5
    refine lv_aload_n S.1 S.2.1 d_SF_feed_43 rfl (lv_at hl 0 rfl) ?_
    refine gh_get S hI h0 rfl i_SF 0 (by decide) wi_70 rfl d_SF_feed_44 ?_
    refine lv_iload S.1 S.2.1 d_SF_feed_47 (lv_at hl 4 rfl) ?_
    refine gc_Vv S hI (c_Row_addWord l P f31 (x := x4) v1 v2 (by omega) (by omega)) kv_Row_addWord wi_84 v1 rfl rfl rfl hl.1 rfl (Nat.le_of_ble_eq_true rfl) ⟨Nat.le_of_ble_eq_true rfl, Nat.le_of_ble_eq_true rfl⟩ ⟨Nat.le_of_ble_eq_true rfl, Nat.le_of_ble_eq_true rfl⟩ d_SF_feed_49 (fun f34 H locs hp35 hI => ?_)
    obtain ⟨w1, w2, w3⟩ := hp35
    replace w1 : f34 (a + 1) = some (.inr (1, [.ref (a + 2), .int (nI (st.1.length + 16))])) := w1
    have h0 := w3 a _ h0 (nm2 (by omega) (by omega))
    have hF := hF.call w3 (fun q hq => Or.inl hq)
    have e5 := nmL_up4 (n := st.1.length + 12) (g := upd4 (upd4 (upd4 gt (st.1.length) x1) (st.1.length + 4) x2) (st.1.length + 8) x3) x4
    rw [v5] at e5
    have v1 := w1
    have v2 := w2
    have v4 : sb_Fit (upd4 (upd4 (upd4 (upd4 gt (st.1.length) x1) (st.1.length + 4) x2) (st.1.length + 8) x3) (st.1.length + 12) x4) := upd4_fit v4
    have v5 : nmL (st.1.length + 16) (upd4 (upd4 (upd4 (upd4 gt (st.1.length) x1) (st.1.length + 4) x2) (st.1.length + 8) x3) (st.1.length + 12) x4) = ((((st.1 ++ w4 x1) ++ w4 x2) ++ w4 x3) ++ w4 x4) := e5
    refine lv_aload_n S.1 S.2.1 d_SF_feed_52 rfl (lv_at hl 0 rfl) ?_
    refine gh_get S hI h0 rfl i_SF 0 (by decide) wi_70 rfl d_SF_feed_53 ?_
    refine lv_iload S.1 S.2.1 d_SF_feed_56 (lv_at hl 5 rfl) ?_
    refine gc_Vv S hI (c_Row_addWord l P f34 (x := x5) v1 v2 (by omega) (by omega)) kv_Row_addWord wi_84 v1 rfl rfl rfl hl.1 rfl (Nat.le_of_ble_eq_true rfl) ⟨Nat.le_of_ble_eq_true rfl, Nat.le_of_ble_eq_true rfl⟩ ⟨Nat.le_of_ble_eq_true rfl, Nat.le_of_ble_eq_true rfl⟩ d_SF_feed_58 (fun f37 H locs hp38 hI => ?_)
    obtain ⟨w1, w2, w3⟩ := hp38
    replace w1 : f37 (a + 1) = some (.inr (1, [.ref (a + 2), .int (nI (st.1.length + 20))])) := w1
    have h0 := w3 a _ h0 (nm2 (by omega) (by omega))
    have hF := hF.call w3 (fun q hq => Or.inl hq)
    have e5 := nmL_up4 (n := st.1.length + 16) (g := upd4 (upd4 (upd4 (upd4 gt (st.1.length) x1) (st.1.length + 4) x2) (st.1.length + 8) x3) (st.1.length + 12) x4) x5
    rw [v5] at e5
    have v1 := w1
    have v2 := w2
    have v4 : sb_Fit (upd4 (upd4 (upd4 (upd4 (upd4 gt (st.1.length) x1) (st.1.length + 4) x2) (st.1.length + 8) x3) (st.1.length + 12) x4) (st.1.length + 16) x5) := upd4_fit v4
    have v5 : nmL (st.1.length + 20) (upd4 (upd4 (upd4 (upd4 (upd4 gt (st.1.length) x1) (st.1.length + 4) x2) (st.1.length + 8) x3) (st.1.length + 12) x4) (st.1.length + 16) x5) = (((((st.1 ++ w4 x1) ++ w4 x2) ++ w4 x3) ++ w4 x4) ++ w4 x5) := e5
    refine lv_aload_n S.1 S.2.1 d_SF_feed_61 rfl (lv_at hl 0 rfl) ?_
    refine gh_get S hI h0 rfl i_SF 0 (by decide) wi_70 rfl d_SF_feed_62 ?_
    refine gc_Vi S hI (c_Row_length l P f37 v1) kv_Row_length wi_80 v1 rfl rfl rfl hl.1 rfl (Nat.le_of_ble_eq_true rfl) ⟨Nat.le_of_ble_eq_true rfl, Nat.le_of_ble_eq_true rfl⟩ ⟨Nat.le_of_ble_eq_true rfl, Nat.le_of_ble_eq_true rfl⟩ d_SF_feed_65 (fun r39 f40 H locs hp41 hI => ?_)
    obtain ⟨hp1, hp2⟩ := hp41
    subst hp1
    rw [hp2] at hI
    have rw3 : gRw P f37 (a + 3) 200 st.2.1 := gRw.fr (show gRw P f (a + 3) 200 st.2.1 from ⟨gn, n1, n2, n3, n4, n5⟩) hF (by simp) (by simp)
    have rw5 : gRw P f37 (a + 5) 200 st.2.2.1 := gRw.fr (show gRw P f (a + 5) 200 st.2.2.1 from ⟨gm, m1, m2, m3, m4, m5⟩) hF (by simp) (by simp)
    have rw7 : gRw P f37 (a + 7) 2048 st.2.2.2.1 := gRw.fr (show gRw P f (a + 7) 2048 st.2.2.2.1 from ⟨gd, d1, d2, d3, d4, d5⟩) hF (by simp) (by simp)
    have elen : ((((((st.1 ++ w4 x1) ++ w4 x2) ++ w4 x3) ++ w4 x4) ++ w4 x5)).length = st.1.length + 20 := by simp [w4]
    have hin := inr2 (a := a) (x := a + 1) (y := a + 2) (by omega) (by omega)
    have gfs := gFS.out h hV hz0 hF hin
    have gfu := gFU.out hVa hF hin
    have ef : aFeed st x1 x2 x3 x4 x5 = (nI (st.1.length + 20), ((((((st.1 ++ w4 x1) ++ w4 x2) ++ w4 x3) ++ w4 x4) ++ w4 x5), st.2)) := by unfold aFeed; rw [if_neg (by omega)]
    exact gr_i S hr hlk hI (by rw [ef]; exact ⟨rfl, ⟨h0, ⟨_, by rw [elen]; exact v1, v2, by rw [elen]; omega, v4, by rw [elen]; exact v5⟩, rw3, rw5, rw7, gfs⟩, gfu⟩) d_SF_feed_68
  · skip
    replace c23 : ¬ (st.1.length + 20) ≤ 2048 := fun z => c23 ((nI_leI (a := st.1.length + 20) (b := 2048) (by omega) (by omega)).mpr z)
    refine lv_bipush (v := (-4)) S.1 S.2.1 d_SF_feed_16 (by decide) ?_
    exact gr_i S hr hlk hI (by unfold aFeed; rw [if_pos (by omega)]; exact ⟨rfl, h, gFU.rf⟩) d_SF_feed_18
set_option maxHeartbeats 4000000 in
set_option maxRecDepth 100000 in
theorem c_SF_end (l : Launch) (P : gPar) (f : gM) {a : Nat} {st : ASt} {V : Nat → Prop} {n : Int32} (h : gSF P f a st) (hV : gUo f V) (hVa : ∀ c, V c → a + 14 ≤ c) : gC l P y_SF_end b_SF_end 2 (some .int) 1 0 0 [.ref a, .int n] f (gQi P (fun r f1 => r = (aEnd st n).1 ∧ gSF P f1 a (aEnd st n).2 ∧ gFU f f1 V)) := by
  refine gC_of (by decide) (Nat.le_of_ble_eq_true rfl) (fun p env s m args below meth c S hr hlk hnm H locs hI ls hl => ?_)
  have hl : lv_has ls 2 [(0, .ref a), (1, .int n)] := hl
  have hz0 := gB_z hI
  have h0 := h.1
  obtain ⟨gt, t1, t2, t3, t4, t5⟩ := h.2.1
  replace t1 : f (a + 1) = some (.inr (1, [.ref (a + 2), .int (nI st.1.length)])) := t1
  replace t2 : f (a + 2) = some (.inl (P.2.1 0, 2048, .inl gt)) := t2
  obtain ⟨gn, n1, n2, n3, n4, n5⟩ := h.2.2.1
  replace n1 : f (a + 3) = some (.inr (1, [.ref (a + 4), .int (nI st.2.1.length)])) := n1
  replace n2 : f (a + 4) = some (.inl (P.2.1 0, 200, .inl gn)) := n2
  obtain ⟨gm, m1, m2, m3, m4, m5⟩ := h.2.2.2.1
  replace m1 : f (a + 5) = some (.inr (1, [.ref (a + 6), .int (nI st.2.2.1.length)])) := m1
  replace m2 : f (a + 6) = some (.inl (P.2.1 0, 200, .inl gm)) := m2
  obtain ⟨gd, d1, d2, d3, d4, d5⟩ := h.2.2.2.2.1
  replace d1 : f (a + 7) = some (.inr (1, [.ref (a + 8), .int (nI st.2.2.2.1.length)])) := d1
  replace d2 : f (a + 8) = some (.inl (P.2.1 0, 2048, .inl gd)) := d2
  refine lv_iload_n S.1 S.2.1 d_SF_end_0 rfl (lv_at hl 1 rfl) ?_
  refine lv_aload_n S.1 S.2.1 d_SF_end_1 rfl (lv_at hl 0 rfl) ?_
  refine gh_get S hI h0 rfl i_SF 0 (by decide) wi_70 rfl d_SF_end_2 ?_
  refine gc_Vi S hI (c_Row_length l P f t1) kv_Row_length wi_80 t1 rfl rfl rfl hl.1 rfl (Nat.le_of_ble_eq_true rfl) ⟨Nat.le_of_ble_eq_true rfl, Nat.le_of_ble_eq_true rfl⟩ ⟨Nat.le_of_ble_eq_true rfl, Nat.le_of_ble_eq_true rfl⟩ d_SF_end_5 (fun r42 f43 H locs hp44 hI => ?_)
  obtain ⟨hp1, hp2⟩ := hp44
  subst hp1
  rw [hp2] at hI
  refine gc_Si S hI (c_SF_isWithin l P f (x := n) (m0 := nI st.1.length)) kv_SF_isWithin wi_92 rfl hl.1 rfl (Nat.le_of_ble_eq_true rfl) ⟨Nat.le_of_ble_eq_true rfl, Nat.le_of_ble_eq_true rfl⟩ ⟨Nat.le_of_ble_eq_true rfl, Nat.le_of_ble_eq_true rfl⟩ d_SF_end_8 (fun r45 f46 H locs hp47 hI => ?_)
  obtain ⟨hp1, hp2⟩ := hp47
  subst hp1
  rw [hp2] at hI
  by_cases hw48 : ¬ n < 0 ∧ n ≤ (nI st.1.length)
  · rw [show (if ¬ n < 0 ∧ n ≤ (nI st.1.length) then nI 1 else nI 0 : Int32) = nI 1 from if_pos hw48]
    refine lv_if_ne (tgt := 16) S.1 S.2.1 d_SF_end_11 (by decide) (fun c49 => ?_) (fun c49 => ?_)
    · skip
      replace c49 : ¬ 1 = 0 := fun z => c49 ((nI_eq (a := 1) (b := 0) (by omega) (by omega)).mpr z)
      obtain ⟨k, hk, hk2⟩ := nI_of hw48.1
      subst hk2
      have hkn : k ≤ st.1.length := (nI_leI (by omega) (by omega)).mp hw48.2
      refine lv_aload_n S.1 S.2.1 d_SF_end_16 rfl (lv_at hl 0 rfl) ?_
      refine gh_get S hI h0 rfl i_SF 0 (by decide) wi_70 rfl d_SF_end_17 ?_
      refine lv_iload_n S.1 S.2.1 d_SF_end_20 rfl (lv_at hl 1 rfl) ?_
      refine gc_Vv S hI (c_Row_shorten l P f (k := k) t1) kv_Row_shorten wi_95 t1 rfl rfl rfl hl.1 rfl (Nat.le_of_ble_eq_true rfl) ⟨Nat.le_of_ble_eq_true rfl, Nat.le_of_ble_eq_true rfl⟩ ⟨Nat.le_of_ble_eq_true rfl, Nat.le_of_ble_eq_true rfl⟩ d_SF_end_21 (fun f51 H locs hp52 hI => ?_)
      have hF : gFr f f51 [a + 1] := by rw [hp52]; exact gFr.upA (by simp) gFr.rf
      have v1 : f51 (a + 1) = some (.inr (1, [.ref (a + 2), .int (nI k)])) := by rw [hp52]; exact va_up_self _ _ _
      have v2 := hF (a + 2) _ t2 (by simp)
      have h0 := hF a _ h0 (by simp)
      have rw3 : gRw P f51 (a + 3) 200 st.2.1 := gRw.fr (show gRw P f (a + 3) 200 st.2.1 from ⟨gn, n1, n2, n3, n4, n5⟩) hF (by simp) (by simp)
      have rw5 : gRw P f51 (a + 5) 200 st.2.2.1 := gRw.fr (show gRw P f (a + 5) 200 st.2.2.1 from ⟨gm, m1, m2, m3, m4, m5⟩) hF (by simp) (by simp)
      have rw7 : gRw P f51 (a + 7) 2048 st.2.2.2.1 := gRw.fr (show gRw P f (a + 7) 2048 st.2.2.2.1 from ⟨gd, d1, d2, d3, d4, d5⟩) hF (by simp) (by simp)
      have hin := inr1 (a := a) (x := a + 1) (by omega)
      have gfs := gFS.out h hV hz0 hF hin
      have gfu := gFU.out hVa hF hin
      have elen : (st.1.take k).length = k := by rw [List.length_take]; omega
      have ef : aEnd st (nI k) = (nI k, (st.1.take k, st.2)) := by unfold aEnd; rw [if_pos hw48, nI_clamp hk]
      refine lv_iload_n S.1 S.2.1 d_SF_end_24 rfl (lv_at hl 1 rfl) ?_
      exact gr_i S hr hlk hI (by rw [ef]; exact ⟨rfl, ⟨h0, ⟨gt, by rw [elen]; exact v1, v2, by rw [elen]; omega, t4, by rw [elen, nmL_take hkn, t5]⟩, rw3, rw5, rw7, gfs⟩, gfu⟩) d_SF_end_25
    · skip
      replace c49 : 1 = 0 := (nI_eq (a := 1) (b := 0) (by omega) (by omega)).mp c49
      exact absurd c49 (by omega)
  · rw [show (if ¬ n < 0 ∧ n ≤ (nI st.1.length) then nI 1 else nI 0 : Int32) = nI 0 from if_neg hw48]
    refine lv_if_ne (tgt := 16) S.1 S.2.1 d_SF_end_11 (by decide) (fun c53 => ?_) (fun c53 => ?_)
    · skip
      replace c53 : ¬ 0 = 0 := fun z => c53 ((nI_eq (a := 0) (b := 0) (by omega) (by omega)).mpr z)
      exact absurd c53 (by omega)
    · skip
      replace c53 : 0 = 0 := (nI_eq (a := 0) (b := 0) (by omega) (by omega)).mp c53
      refine lv_iconst (v := (-1)) S.1 S.2.1 d_SF_end_14 (by decide) ?_
      exact gr_i S hr hlk hI (by unfold aEnd; rw [if_neg hw48]; exact ⟨rfl, h, gFU.rf⟩) d_SF_end_15
set_option maxHeartbeats 4000000 in
set_option maxRecDepth 100000 in
theorem c_SF_name (l : Launch) (P : gPar) (f : gM) {a : Nat} {st : ASt} {V : Nat → Prop} {k0 : Int32} (h : gSF P f a st) (hV : gUo f V) (hVa : ∀ c, V c → a + 14 ≤ c) : gC l P y_SF_name b_SF_name 3 (some .int) 3 0 0 [.ref a, .int k0] f (gQi P (fun r f1 => r = (aName st k0).1 ∧ gSF P f1 a (aName st k0).2 ∧ gFU f f1 V)) := by
  refine gC_of (by decide) (Nat.le_of_ble_eq_true rfl) (fun p env s m args below meth c S hr hlk hnm H locs hI ls hl => ?_)
  have hl : lv_has ls 3 [(0, .ref a), (1, .int k0)] := hl
  have hz0 := gB_z hI
  have h0 := h.1
  obtain ⟨gt, t1, t2, t3, t4, t5⟩ := h.2.1
  replace t1 : f (a + 1) = some (.inr (1, [.ref (a + 2), .int (nI st.1.length)])) := t1
  replace t2 : f (a + 2) = some (.inl (P.2.1 0, 2048, .inl gt)) := t2
  obtain ⟨gn, n1, n2, n3, n4, n5⟩ := h.2.2.1
  replace n1 : f (a + 3) = some (.inr (1, [.ref (a + 4), .int (nI st.2.1.length)])) := n1
  replace n2 : f (a + 4) = some (.inl (P.2.1 0, 200, .inl gn)) := n2
  obtain ⟨gm, m1, m2, m3, m4, m5⟩ := h.2.2.2.1
  replace m1 : f (a + 5) = some (.inr (1, [.ref (a + 6), .int (nI st.2.2.1.length)])) := m1
  replace m2 : f (a + 6) = some (.inl (P.2.1 0, 200, .inl gm)) := m2
  obtain ⟨gd, d1, d2, d3, d4, d5⟩ := h.2.2.2.2.1
  replace d1 : f (a + 7) = some (.inr (1, [.ref (a + 8), .int (nI st.2.2.2.1.length)])) := d1
  replace d2 : f (a + 8) = some (.inl (P.2.1 0, 2048, .inl gd)) := d2
  refine lv_iload_n S.1 S.2.1 d_SF_name_0 rfl (lv_at hl 1 rfl) ?_
  refine lv_iconst (v := nI 1) S.1 S.2.1 d_SF_name_1 (by decide) ?_
  refine gc_Si S hI (c_SF_isWithin l P f (x := k0) (m0 := nI 1)) kv_SF_isWithin wi_92 rfl hl.1 rfl (Nat.le_of_ble_eq_true rfl) ⟨Nat.le_of_ble_eq_true rfl, Nat.le_of_ble_eq_true rfl⟩ ⟨Nat.le_of_ble_eq_true rfl, Nat.le_of_ble_eq_true rfl⟩ d_SF_name_2 (fun r54 f55 H locs hp56 hI => ?_)
  obtain ⟨hp1, hp2⟩ := hp56
  subst hp1
  rw [hp2] at hI
  by_cases hw57 : ¬ k0 < 0 ∧ k0 ≤ (nI 1)
  · rw [show (if ¬ k0 < 0 ∧ k0 ≤ (nI 1) then nI 1 else nI 0 : Int32) = nI 1 from if_pos hw57]
    refine lv_if_eq (tgt := 21) S.1 S.2.1 d_SF_name_5 (by decide) (fun c58 => ?_) (fun c58 => ?_)
    · skip
      replace c58 : 1 = 0 := (nI_eq (a := 1) (b := 0) (by omega) (by omega)).mp c58
      exact absurd c58 (by omega)
    · skip
      replace c58 : ¬ 1 = 0 := fun z => c58 ((nI_eq (a := 1) (b := 0) (by omega) (by omega)).mpr z)
      obtain ⟨k, hk, hk2⟩ := nI_of hw57.1
      subst hk2
      have hk1 : k ≤ 1 := (nI_leI (b := 1) (by omega) (by omega)).mp hw57.2
      refine lv_aload_n S.1 S.2.1 d_SF_name_8 rfl (lv_at hl 0 rfl) ?_
      refine gh_get S hI h0 rfl i_SF 0 (by decide) wi_70 rfl d_SF_name_9 ?_
      refine gc_Vi S hI (c_Row_length l P f t1) kv_Row_length wi_80 t1 rfl rfl rfl hl.1 rfl (Nat.le_of_ble_eq_true rfl) ⟨Nat.le_of_ble_eq_true rfl, Nat.le_of_ble_eq_true rfl⟩ ⟨Nat.le_of_ble_eq_true rfl, Nat.le_of_ble_eq_true rfl⟩ d_SF_name_12 (fun r59 f60 H locs hp61 hI => ?_)
      obtain ⟨hp1, hp2⟩ := hp61
      subst hp1
      rw [hp2] at hI
      refine lv_sipush (v := nI 200) S.1 S.2.1 d_SF_name_15 (by decide) ?_
      refine lv_icmp_le (tgt := 23) S.1 S.2.1 d_SF_name_18 (by decide) (fun c62 => ?_) (fun c62 => ?_)
      · skip
        replace c62 : st.1.length ≤ 200 := (nI_leI (a := st.1.length) (b := 200) (by omega) (by omega)).mp c62
        refine lv_iload_n S.1 S.2.1 d_SF_name_23 rfl (lv_at hl 1 rfl) ?_
        refine lv_if_ne (tgt := 34) S.1 S.2.1 d_SF_name_24 (by decide) (fun c63 => ?_) (fun c63 => ?_)
        · skip
          replace c63 : ¬ k = 0 := fun z => c63 ((nI_eq (a := k) (b := 0) (by omega) (by omega)).mpr z)
          have ek : k = 1 := by omega
          subst ek
          have ef : aName st (nI 1) = (nI st.1.length, ([], st.2.1, st.1, st.2.2.2)) := by unfold aName; rw [if_pos ⟨Or.inr rfl, by omega⟩, if_neg (by decide)]
          refine lv_aload_n S.1 S.2.1 d_SF_name_34 rfl (lv_at hl 0 rfl) ?_
          refine gh_get S hI h0 rfl i_SF 2 (by decide) wi_72 rfl d_SF_name_35 ?_
          refine lv_astore_n (lv' := [(2, .ref (a + 5)), (0, .ref a), (1, .int (nI 1))]) S.1 S.2.1 d_SF_name_38 rfl hl (by decide) rfl (fun ls hl => ?_)
          refine lv_aload_n S.1 S.2.1 d_SF_name_39 rfl (lv_at hl 0 rfl) ?_
          refine lv_aload_n S.1 S.2.1 d_SF_name_40 rfl (lv_at hl 1 rfl) ?_
          refine gh_get S hI h0 rfl i_SF 0 (by decide) wi_70 rfl d_SF_name_41 ?_
          refine gc_Vv S hI (c_Row_become l P f m1 m2 t1 t2 (by omega) (by omega) (by omega) (by omega) (by omega) (by omega) t4) kv_Row_become wi_103 m1 rfl rfl rfl hl.1 rfl (Nat.le_of_ble_eq_true rfl) ⟨Nat.le_of_ble_eq_true rfl, Nat.le_of_ble_eq_true rfl⟩ ⟨Nat.le_of_ble_eq_true rfl, Nat.le_of_ble_eq_true rfl⟩ d_SF_name_44 (fun f65 H locs hp66 hI => ?_)
          obtain ⟨p1, p2, pF⟩ := hp66
          have h01 := pF a _ h0 (nm2 (by omega) (by omega))
          have tt1 := pF (a + 1) _ t1 (nm2 (by omega) (by omega))
          have tt2 := pF (a + 2) _ t2 (nm2 (by omega) (by omega))
          refine lv_aload_n S.1 S.2.1 d_SF_name_47 rfl (lv_at hl 1 rfl) ?_
          refine gh_get S hI h01 rfl i_SF 0 (by decide) wi_70 rfl d_SF_name_48 ?_
          refine lv_iconst (v := nI 0) S.1 S.2.1 d_SF_name_51 (by decide) ?_
          refine gc_Vv S hI (c_Row_shorten l P f65 (k := 0) tt1) kv_Row_shorten wi_95 tt1 rfl rfl rfl hl.1 rfl (Nat.le_of_ble_eq_true rfl) ⟨Nat.le_of_ble_eq_true rfl, Nat.le_of_ble_eq_true rfl⟩ ⟨Nat.le_of_ble_eq_true rfl, Nat.le_of_ble_eq_true rfl⟩ d_SF_name_52 (fun f68 H locs hp69 hI => ?_)
          have sF : gFr f65 f68 [a + 1] := by rw [hp69]; exact gFr.upA (by simp) gFr.rf
          have s1 : f68 (a + 1) = some (.inr (1, [.ref (a + 2), .int (nI 0)])) := by rw [hp69]; exact va_up_self _ _ _
          have s2 := sF (a + 2) _ tt2 (by simp)
          have s0 := sF a _ h01 (by simp)
          have q1 := sF (a + 5) _ p1 (by simp)
          have q2 := sF (a + 6) _ p2 (by simp)
          have hF : gFr f f68 [a + 1, a + 5, a + 6] := (pF.mono (fun q hq => List.mem_cons_of_mem _ hq)).call sF (fun q hq => Or.inl (by rw [List.mem_singleton.mp hq]; simp))
          have hin : ∀ c ∈ [a + 1, a + 5, a + 6], a ≤ c ∧ c ≤ a + 8 := by
            intro c hc; simp at hc; omega
          have gfs := gFS.out h hV hz0 hF hin
          have gfu := gFU.out hVa hF hin
          have rw3 : gRw P f68 (a + 3) 200 st.2.1 := gRw.fr (show gRw P f (a + 3) 200 st.2.1 from ⟨gn, n1, n2, n3, n4, n5⟩) hF (by simp) (by simp)
          have rw7 : gRw P f68 (a + 7) 2048 st.2.2.2.1 := gRw.fr (show gRw P f (a + 7) 2048 st.2.2.2.1 from ⟨gd, d1, d2, d3, d4, d5⟩) hF (by simp) (by simp)
          refine lv_aload_n S.1 S.2.1 d_SF_name_55 rfl (lv_at hl 0 rfl) ?_
          refine gc_Vi S hI (c_Row_length l P f68 q1) kv_Row_length wi_80 q1 rfl rfl rfl hl.1 rfl (Nat.le_of_ble_eq_true rfl) ⟨Nat.le_of_ble_eq_true rfl, Nat.le_of_ble_eq_true rfl⟩ ⟨Nat.le_of_ble_eq_true rfl, Nat.le_of_ble_eq_true rfl⟩ d_SF_name_56 (fun r70 f71 H locs hp72 hI => ?_)
          obtain ⟨hp1, hp2⟩ := hp72
          subst hp1
          rw [hp2] at hI
          exact gr_i S hr hlk hI (by rw [ef]; exact ⟨rfl, ⟨s0, ⟨gt, s1, s2, by simp, t4, rfl⟩, rw3, ⟨_, q1, q2, by omega, sb_fitC t4 m4, by rw [nmL_cpy]; exact t5⟩, rw7, gfs⟩, gfu⟩) d_SF_name_59
        · skip
          replace c63 : k = 0 := (nI_eq (a := k) (b := 0) (by omega) (by omega)).mp c63
          subst c63
          have ef : aName st (nI 0) = (nI st.1.length, ([], st.1, st.2.2)) := by unfold aName; rw [if_pos ⟨Or.inl rfl, by omega⟩, if_pos (by decide)]
          refine lv_aload_n S.1 S.2.1 d_SF_name_27 rfl (lv_at hl 0 rfl) ?_
          refine gh_get S hI h0 rfl i_SF 1 (by decide) wi_71 rfl d_SF_name_28 ?_
          refine lv_goto (tgt := 38) S.1 S.2.1 d_SF_name_31 (by decide) ?_
          refine lv_astore_n (lv' := [(2, .ref (a + 3)), (0, .ref a), (1, .int (nI 0))]) S.1 S.2.1 d_SF_name_38 rfl hl (by decide) rfl (fun ls hl => ?_)
          refine lv_aload_n S.1 S.2.1 d_SF_name_39 rfl (lv_at hl 0 rfl) ?_
          refine lv_aload_n S.1 S.2.1 d_SF_name_40 rfl (lv_at hl 1 rfl) ?_
          refine gh_get S hI h0 rfl i_SF 0 (by decide) wi_70 rfl d_SF_name_41 ?_
          refine gc_Vv S hI (c_Row_become l P f n1 n2 t1 t2 (by omega) (by omega) (by omega) (by omega) (by omega) (by omega) t4) kv_Row_become wi_103 n1 rfl rfl rfl hl.1 rfl (Nat.le_of_ble_eq_true rfl) ⟨Nat.le_of_ble_eq_true rfl, Nat.le_of_ble_eq_true rfl⟩ ⟨Nat.le_of_ble_eq_true rfl, Nat.le_of_ble_eq_true rfl⟩ d_SF_name_44 (fun f74 H locs hp75 hI => ?_)
          obtain ⟨p1, p2, pF⟩ := hp75
          have h01 := pF a _ h0 (nm2 (by omega) (by omega))
          have tt1 := pF (a + 1) _ t1 (nm2 (by omega) (by omega))
          have tt2 := pF (a + 2) _ t2 (nm2 (by omega) (by omega))
          refine lv_aload_n S.1 S.2.1 d_SF_name_47 rfl (lv_at hl 1 rfl) ?_
          refine gh_get S hI h01 rfl i_SF 0 (by decide) wi_70 rfl d_SF_name_48 ?_
          refine lv_iconst (v := nI 0) S.1 S.2.1 d_SF_name_51 (by decide) ?_
          refine gc_Vv S hI (c_Row_shorten l P f74 (k := 0) tt1) kv_Row_shorten wi_95 tt1 rfl rfl rfl hl.1 rfl (Nat.le_of_ble_eq_true rfl) ⟨Nat.le_of_ble_eq_true rfl, Nat.le_of_ble_eq_true rfl⟩ ⟨Nat.le_of_ble_eq_true rfl, Nat.le_of_ble_eq_true rfl⟩ d_SF_name_52 (fun f77 H locs hp78 hI => ?_)
          have sF : gFr f74 f77 [a + 1] := by rw [hp78]; exact gFr.upA (by simp) gFr.rf
          have s1 : f77 (a + 1) = some (.inr (1, [.ref (a + 2), .int (nI 0)])) := by rw [hp78]; exact va_up_self _ _ _
          have s2 := sF (a + 2) _ tt2 (by simp)
          have s0 := sF a _ h01 (by simp)
          have q1 := sF (a + 3) _ p1 (by simp)
          have q2 := sF (a + 4) _ p2 (by simp)
          have hF : gFr f f77 [a + 1, a + 3, a + 4] := (pF.mono (fun q hq => List.mem_cons_of_mem _ hq)).call sF (fun q hq => Or.inl (by rw [List.mem_singleton.mp hq]; simp))
          have hin : ∀ c ∈ [a + 1, a + 3, a + 4], a ≤ c ∧ c ≤ a + 8 := by
            intro c hc; simp at hc; omega
          have gfs := gFS.out h hV hz0 hF hin
          have gfu := gFU.out hVa hF hin
          have rw5 : gRw P f77 (a + 5) 200 st.2.2.1 := gRw.fr (show gRw P f (a + 5) 200 st.2.2.1 from ⟨gm, m1, m2, m3, m4, m5⟩) hF (by simp) (by simp)
          have rw7 : gRw P f77 (a + 7) 2048 st.2.2.2.1 := gRw.fr (show gRw P f (a + 7) 2048 st.2.2.2.1 from ⟨gd, d1, d2, d3, d4, d5⟩) hF (by simp) (by simp)
          refine lv_aload_n S.1 S.2.1 d_SF_name_55 rfl (lv_at hl 0 rfl) ?_
          refine gc_Vi S hI (c_Row_length l P f77 q1) kv_Row_length wi_80 q1 rfl rfl rfl hl.1 rfl (Nat.le_of_ble_eq_true rfl) ⟨Nat.le_of_ble_eq_true rfl, Nat.le_of_ble_eq_true rfl⟩ ⟨Nat.le_of_ble_eq_true rfl, Nat.le_of_ble_eq_true rfl⟩ d_SF_name_56 (fun r79 f80 H locs hp81 hI => ?_)
          obtain ⟨hp1, hp2⟩ := hp81
          subst hp1
          rw [hp2] at hI
          exact gr_i S hr hlk hI (by rw [ef]; exact ⟨rfl, ⟨s0, ⟨gt, s1, s2, by simp, t4, rfl⟩, ⟨_, q1, q2, by omega, sb_fitC t4 n4, by rw [nmL_cpy]; exact t5⟩, rw5, rw7, gfs⟩, gfu⟩) d_SF_name_59
      · skip
        replace c62 : ¬ st.1.length ≤ 200 := fun z => c62 ((nI_leI (a := st.1.length) (b := 200) (by omega) (by omega)).mpr z)
        refine lv_iconst (v := (-1)) S.1 S.2.1 d_SF_name_21 (by decide) ?_
        exact gr_i S hr hlk hI (by unfold aName; rw [if_neg (fun z => absurd z.2 (by omega))]; exact ⟨rfl, h, gFU.rf⟩) d_SF_name_22
  · rw [show (if ¬ k0 < 0 ∧ k0 ≤ (nI 1) then nI 1 else nI 0 : Int32) = nI 0 from if_neg hw57]
    refine lv_if_eq (tgt := 21) S.1 S.2.1 d_SF_name_5 (by decide) (fun c82 => ?_) (fun c82 => ?_)
    · skip
      replace c82 : 0 = 0 := (nI_eq (a := 0) (b := 0) (by omega) (by omega)).mp c82
      refine lv_iconst (v := (-1)) S.1 S.2.1 d_SF_name_21 (by decide) ?_
      exact gr_i S hr hlk hI (by unfold aName; rw [if_neg (fun z => hw57 (by rcases z.1 with e | e <;> rw [e] <;> decide))]; exact ⟨rfl, h, gFU.rf⟩) d_SF_name_22
    · skip
      replace c82 : ¬ 0 = 0 := fun z => c82 ((nI_eq (a := 0) (b := 0) (by omega) (by omega)).mpr z)
      exact absurd c82 (by omega)
set_option maxHeartbeats 4000000 in
set_option maxRecDepth 100000 in
theorem c_SF_told (l : Launch) (P : gPar) (f : gM) {a : Nat} {st : ASt} {i : Int32} (h : gSF P f a st) : gC l P y_SF_told b_SF_told 2 (some .int) 1 0 0 [.ref a, .int i] f (gQi P (fun r f1 => r = aTold st i ∧ f1 = f)) := by
  refine gC_of (by decide) (Nat.le_of_ble_eq_true rfl) (fun p env s m args below meth c S hr hlk hnm H locs hI ls hl => ?_)
  have hl : lv_has ls 2 [(0, .ref a), (1, .int i)] := hl
  have h0 := h.1
  obtain ⟨gt, t1, t2, t3, t4, t5⟩ := h.2.1
  replace t1 : f (a + 1) = some (.inr (1, [.ref (a + 2), .int (nI st.1.length)])) := t1
  replace t2 : f (a + 2) = some (.inl (P.2.1 0, 2048, .inl gt)) := t2
  obtain ⟨gn, n1, n2, n3, n4, n5⟩ := h.2.2.1
  replace n1 : f (a + 3) = some (.inr (1, [.ref (a + 4), .int (nI st.2.1.length)])) := n1
  replace n2 : f (a + 4) = some (.inl (P.2.1 0, 200, .inl gn)) := n2
  obtain ⟨gm, m1, m2, m3, m4, m5⟩ := h.2.2.2.1
  replace m1 : f (a + 5) = some (.inr (1, [.ref (a + 6), .int (nI st.2.2.1.length)])) := m1
  replace m2 : f (a + 6) = some (.inl (P.2.1 0, 200, .inl gm)) := m2
  obtain ⟨gd, d1, d2, d3, d4, d5⟩ := h.2.2.2.2.1
  replace d1 : f (a + 7) = some (.inr (1, [.ref (a + 8), .int (nI st.2.2.2.1.length)])) := d1
  replace d2 : f (a + 8) = some (.inl (P.2.1 0, 2048, .inl gd)) := d2
  refine lv_aload_n S.1 S.2.1 d_SF_told_0 rfl (lv_at hl 0 rfl) ?_
  refine gh_get S hI h0 rfl i_SF 3 (by decide) wi_73 rfl d_SF_told_1 ?_
  refine lv_iload_n S.1 S.2.1 d_SF_told_4 rfl (lv_at hl 1 rfl) ?_
  refine gc_Vi S hI (c_Row_byteAt l P f (i := i) d1 d2 d3 (by omega)) kv_Row_byteAt wi_389 d1 rfl rfl rfl hl.1 rfl (Nat.le_of_ble_eq_true rfl) ⟨Nat.le_of_ble_eq_true rfl, Nat.le_of_ble_eq_true rfl⟩ ⟨Nat.le_of_ble_eq_true rfl, Nat.le_of_ble_eq_true rfl⟩ d_SF_told_5 (fun r83 f84 H locs hp85 hI => ?_)
  obtain ⟨hp1, hp2⟩ := hp85
  rw [hp2] at hI
  have ev : r83 = aTold st i := by
    rw [hp1]; unfold aTold
    by_cases hc : ¬ i < 0 ∧ i < nI st.2.2.2.1.length
    · rw [if_pos hc, if_pos hc]
      obtain ⟨j, hj, hj2⟩ := nI_of hc.1
      subst hj2
      have hjn := (nI_ltI (by omega) (by omega)).mp hc.2
      rw [nI_clamp hj]
      have e9 := nmL_get (g := gd) hjn
      rw [d5] at e9
      rw [List.getD_eq_getElem?_getD, e9]; rfl
    · rw [if_neg hc, if_neg hc]
  exact gr_i S hr hlk hI (⟨ev, rfl⟩) d_SF_told_8
set_option maxHeartbeats 4000000 in
set_option maxRecDepth 100000 in
theorem c_SF_file (l : Launch) (P : gPar) (f : gM) {a : Nat} {st : ASt} {k wh : Int32} (h : gSF P f a st) : gC l P y_SF_file b_SF_file 4 (some .int) 4 0 0 [.ref a, .int k, .int wh] f (gQi P (fun r f1 => r = aFile st k wh ∧ f1 = f)) := by
  refine gC_of (by decide) (Nat.le_of_ble_eq_true rfl) (fun p env s m args below meth c S hr hlk hnm H locs hI ls hl => ?_)
  have hl : lv_has ls 4 [(0, .ref a), (1, .int k), (2, .int wh)] := hl
  have h0 := h.1
  obtain ⟨gt, t1, t2, t3, t4, t5⟩ := h.2.1
  replace t1 : f (a + 1) = some (.inr (1, [.ref (a + 2), .int (nI st.1.length)])) := t1
  replace t2 : f (a + 2) = some (.inl (P.2.1 0, 2048, .inl gt)) := t2
  obtain ⟨gn, n1, n2, n3, n4, n5⟩ := h.2.2.1
  replace n1 : f (a + 3) = some (.inr (1, [.ref (a + 4), .int (nI st.2.1.length)])) := n1
  replace n2 : f (a + 4) = some (.inl (P.2.1 0, 200, .inl gn)) := n2
  obtain ⟨gm, m1, m2, m3, m4, m5⟩ := h.2.2.2.1
  replace m1 : f (a + 5) = some (.inr (1, [.ref (a + 6), .int (nI st.2.2.1.length)])) := m1
  replace m2 : f (a + 6) = some (.inl (P.2.1 0, 200, .inl gm)) := m2
  obtain ⟨gd, d1, d2, d3, d4, d5⟩ := h.2.2.2.2.1
  replace d1 : f (a + 7) = some (.inr (1, [.ref (a + 8), .int (nI st.2.2.2.1.length)])) := d1
  replace d2 : f (a + 8) = some (.inl (P.2.1 0, 2048, .inl gd)) := d2
  obtain ⟨ow, L, SF, SP, e1, c1, e2, c2, e3, c3, af, s1, s2, s3⟩ := h.2.2.2.2.2
  refine lv_iload_n S.1 S.2.1 d_SF_file_0 rfl (lv_at hl 2 rfl) ?_
  refine lv_iconst (v := nI 3) S.1 S.2.1 d_SF_file_1 (by decide) ?_
  refine gc_Si S hI (c_SF_isWithin l P f (x := wh) (m0 := nI 3)) kv_SF_isWithin wi_92 rfl hl.1 rfl (Nat.le_of_ble_eq_true rfl) ⟨Nat.le_of_ble_eq_true rfl, Nat.le_of_ble_eq_true rfl⟩ ⟨Nat.le_of_ble_eq_true rfl, Nat.le_of_ble_eq_true rfl⟩ d_SF_file_2 (fun r86 f87 H locs hp88 hI => ?_)
  obtain ⟨hp1, hp2⟩ := hp88
  subst hp1
  rw [hp2] at hI
  by_cases hw89 : ¬ wh < 0 ∧ wh ≤ (nI 3)
  · rw [show (if ¬ wh < 0 ∧ wh ≤ (nI 3) then nI 1 else nI 0 : Int32) = nI 1 from if_pos hw89]
    refine lv_if_ne (tgt := 10) S.1 S.2.1 d_SF_file_5 (by decide) (fun c90 => ?_) (fun c90 => ?_)
    · skip
      replace c90 : ¬ 1 = 0 := fun z => c90 ((nI_eq (a := 1) (b := 0) (by omega) (by omega)).mpr z)
      have hnr : ¬ (wh < 0 ∨ 3 < wh) := fun z => z.elim hw89.1 (fun q => absurd hw89.2 (Int32.not_le.mpr q))
      obtain ⟨u, hu, hu2⟩ := nI_of hw89.1
      have hu3 : u ≤ 3 := (nI_leI (b := 3) (by omega) (by omega)).mp (by rw [← hu2]; exact hw89.2)
      refine lv_aload_n S.1 S.2.1 d_SF_file_10 rfl (lv_at hl 0 rfl) ?_
      refine gh_get S hI h0 rfl i_SF 4 (by decide) wi_74 rfl d_SF_file_11 ?_
      refine lv_iload_n S.1 S.2.1 d_SF_file_14 rfl (lv_at hl 1 rfl) ?_
      refine gc_Vq S hI (c_Shelf_fileAt l P f (k := k) s1) kv_Shelf_fileAt wi_397 s1.1 rfl rfl rfl hl.1 rfl (Nat.le_of_ble_eq_true rfl) ⟨Nat.le_of_ble_eq_true rfl, Nat.le_of_ble_eq_true rfl⟩ ⟨Nat.le_of_ble_eq_true rfl, Nat.le_of_ble_eq_true rfl⟩ d_SF_file_15 (fun r91 f92 H locs hp93 hI => ?_)
      obtain ⟨hp1, hp2⟩ := hp93
      rw [hp2] at hI
      have hfk : fileK st.2.2.2.2.2 k = (fAt L k).map af := by rw [← s2]; exact fileK_L
      rw [← hp1] at hfk
      have hmem : ∀ x, r91 = some x → x ∈ L := by
        intro x hx
        rw [hp1] at hx
        unfold fAt at hx
        split at hx
        · exact List.mem_of_getElem? hx
        · cases hx
      rcases hr9 : r91 with _ | x
      · subst hr9
        rw [show va_rf none = .null from rfl]
        refine lv_astore_nN (lv' := [(3, .null), (0, .ref a), (1, .int k), (2, .int wh)]) S.1 S.2.1 d_SF_file_18 rfl hl (by decide) rfl (fun ls hl => ?_)
        refine lv_aload_nN S.1 S.2.1 d_SF_file_19 rfl (lv_at hl 0 rfl) ?_
        refine lv_ifnonnullN S.1 S.2.1 d_SF_file_20 ?_
        refine lv_bipush (v := (-2)) S.1 S.2.1 d_SF_file_23 (by decide) ?_
        exact gr_i S hr hlk hI (⟨by unfold aFile; rw [if_neg hnr, hfk]; rfl, rfl⟩) d_SF_file_25
      · subst hr9
        rw [show va_rf (some x) = .ref x from rfl]
        refine lv_astore_n (lv' := [(3, .ref x), (0, .ref a), (1, .int k), (2, .int wh)]) S.1 S.2.1 d_SF_file_18 rfl hl (by decide) rfl (fun ls hl => ?_)
        refine lv_aload_n S.1 S.2.1 d_SF_file_19 rfl (lv_at hl 0 rfl) ?_
        refine lv_ifnonnull (tgt := 26) S.1 S.2.1 d_SF_file_20 (by decide) ?_
        replace hfk : fileK st.2.2.2.2.2 k = some (af x) := hfk
        obtain ⟨⟨nx, gx, psx, x0, x1, x2, x3, x4, x5, x6, x7⟩, xw⟩ := s1.2.2.2.2.2.1 x (hmem x rfl)
        subst hu2
        refine lv_iload_n S.1 S.2.1 d_SF_file_26 rfl (lv_at hl 3 rfl) ?_
        rcases (show u = 0 ∨ u = 1 ∨ u = 2 ∨ u = 3 by omega) with e | e | e | e <;> subst e
        · skip
          refine lv_tableIn (tgt := 52) S.1 S.2.1 d_SF_file_27 (by decide) (by decide) rfl (by decide) ?_
          refine lv_aload_n S.1 S.2.1 d_SF_file_52 rfl (lv_at hl 0 rfl) ?_
          refine gc_Vi S hI (c_File_length l P f x0) kv_File_length wi_263 x0 rfl rfl rfl hl.1 rfl (Nat.le_of_ble_eq_true rfl) ⟨Nat.le_of_ble_eq_true rfl, Nat.le_of_ble_eq_true rfl⟩ ⟨Nat.le_of_ble_eq_true rfl, Nat.le_of_ble_eq_true rfl⟩ d_SF_file_53 (fun r94 f95 H locs hp96 hI => ?_)
          obtain ⟨hp1, hp2⟩ := hp96
          subst hp1
          rw [hp2] at hI
          exact gr_i S hr hlk hI (⟨by unfold aFile; rw [if_neg hnr, hfk]; unfold aFileV; rfl, rfl⟩) d_SF_file_56
        · skip
          refine lv_tableIn (tgt := 57) S.1 S.2.1 d_SF_file_27 (by decide) (by decide) rfl (by decide) ?_
          refine lv_aload_n S.1 S.2.1 d_SF_file_57 rfl (lv_at hl 0 rfl) ?_
          refine gc_Vi S hI (c_File_id l P f x0) kv_File_id wi_398 x0 rfl rfl rfl hl.1 rfl (Nat.le_of_ble_eq_true rfl) ⟨Nat.le_of_ble_eq_true rfl, Nat.le_of_ble_eq_true rfl⟩ ⟨Nat.le_of_ble_eq_true rfl, Nat.le_of_ble_eq_true rfl⟩ d_SF_file_58 (fun r97 f98 H locs hp99 hI => ?_)
          obtain ⟨hp1, hp2⟩ := hp99
          subst hp1
          rw [hp2] at hI
          exact gr_i S hr hlk hI (⟨by unfold aFile; rw [if_neg hnr, hfk]; unfold aFileV; rfl, rfl⟩) d_SF_file_61
        · skip
          refine lv_tableIn (tgt := 62) S.1 S.2.1 d_SF_file_27 (by decide) (by decide) rfl (by decide) ?_
          refine lv_aload_n S.1 S.2.1 d_SF_file_62 rfl (lv_at hl 0 rfl) ?_
          refine gc_Vr S hI (c_File_title l P f x0) kv_File_title wi_364 x0 rfl rfl rfl hl.1 rfl (Nat.le_of_ble_eq_true rfl) ⟨Nat.le_of_ble_eq_true rfl, Nat.le_of_ble_eq_true rfl⟩ ⟨Nat.le_of_ble_eq_true rfl, Nat.le_of_ble_eq_true rfl⟩ d_SF_file_63 (fun r100 f101 H locs hp102 hI => ?_)
          obtain ⟨ht1, ht2⟩ := hp102
          subst ht1
          rw [ht2] at hI
          refine gc_Vi S hI (c_Row_length l P f x1) kv_Row_length wi_80 x1 rfl rfl rfl hl.1 rfl (Nat.le_of_ble_eq_true rfl) ⟨Nat.le_of_ble_eq_true rfl, Nat.le_of_ble_eq_true rfl⟩ ⟨Nat.le_of_ble_eq_true rfl, Nat.le_of_ble_eq_true rfl⟩ d_SF_file_66 (fun r103 f104 H locs hp105 hI => ?_)
          obtain ⟨hp1, hp2⟩ := hp105
          subst hp1
          rw [hp2] at hI
          exact gr_i S hr hlk hI (⟨by unfold aFile; rw [if_neg hnr, hfk]; show nI nx = nI (af x).1.length; rw [← x6, nmL_len], rfl⟩) d_SF_file_69
        · skip
          refine lv_tableOut (tgt := 70) S.1 S.2.1 d_SF_file_27 (Or.inr (by decide)) (by decide) ?_
          refine lv_aload_n S.1 S.2.1 d_SF_file_70 rfl (lv_at hl 0 rfl) ?_
          refine gc_Vi S hI (c_File_laidStripes l P f x0 x3 x7) kv_File_laidStripes wi_402 x0 rfl rfl rfl hl.1 rfl (Nat.le_of_ble_eq_true rfl) ⟨Nat.le_of_ble_eq_true rfl, Nat.le_of_ble_eq_true rfl⟩ ⟨Nat.le_of_ble_eq_true rfl, Nat.le_of_ble_eq_true rfl⟩ d_SF_file_71 (fun r106 f107 H locs hp108 hI => ?_)
          obtain ⟨hp1, hp2⟩ := hp108
          subst hp1
          rw [hp2] at hI
          exact gr_i S hr hlk hI (⟨by unfold aFile; rw [if_neg hnr, hfk]; unfold aFileV; rfl, rfl⟩) d_SF_file_74
    · skip
      replace c90 : 1 = 0 := (nI_eq (a := 1) (b := 0) (by omega) (by omega)).mp c90
      exact absurd c90 (by omega)
  · rw [show (if ¬ wh < 0 ∧ wh ≤ (nI 3) then nI 1 else nI 0 : Int32) = nI 0 from if_neg hw89]
    refine lv_if_ne (tgt := 10) S.1 S.2.1 d_SF_file_5 (by decide) (fun c109 => ?_) (fun c109 => ?_)
    · skip
      replace c109 : ¬ 0 = 0 := fun z => c109 ((nI_eq (a := 0) (b := 0) (by omega) (by omega)).mpr z)
      exact absurd c109 (by omega)
    · skip
      replace c109 : 0 = 0 := (nI_eq (a := 0) (b := 0) (by omega) (by omega)).mp c109
      refine lv_iconst (v := (-1)) S.1 S.2.1 d_SF_file_8 (by decide) ?_
      exact gr_i S hr hlk hI (⟨by unfold aFile; rw [if_pos (show wh < 0 ∨ 3 < wh from Classical.byContradiction fun z => hw89 ⟨fun q => z (Or.inl q), Int32.not_lt.mp (fun q => z (Or.inr q))⟩)], rfl⟩) d_SF_file_9
set_option maxHeartbeats 4000000 in
set_option maxRecDepth 100000 in
theorem c_SF_piece (l : Launch) (P : gPar) (f : gM) {a : Nat} {st : ASt} {k si ii : Int32} (h : gSF P f a st) : gC l P y_SF_piece b_SF_piece 5 (some .int) 4 0 0 [.ref a, .int k, .int si, .int ii] f (gQi P (fun r f1 => r = aPiece st k si ii ∧ f1 = f)) := by
  refine gC_of (by decide) (Nat.le_of_ble_eq_true rfl) (fun p env s m args below meth c S hr hlk hnm H locs hI ls hl => ?_)
  have hl : lv_has ls 5 [(0, .ref a), (1, .int k), (2, .int si), (3, .int ii)] := hl
  have h0 := h.1
  obtain ⟨gt, t1, t2, t3, t4, t5⟩ := h.2.1
  replace t1 : f (a + 1) = some (.inr (1, [.ref (a + 2), .int (nI st.1.length)])) := t1
  replace t2 : f (a + 2) = some (.inl (P.2.1 0, 2048, .inl gt)) := t2
  obtain ⟨gn, n1, n2, n3, n4, n5⟩ := h.2.2.1
  replace n1 : f (a + 3) = some (.inr (1, [.ref (a + 4), .int (nI st.2.1.length)])) := n1
  replace n2 : f (a + 4) = some (.inl (P.2.1 0, 200, .inl gn)) := n2
  obtain ⟨gm, m1, m2, m3, m4, m5⟩ := h.2.2.2.1
  replace m1 : f (a + 5) = some (.inr (1, [.ref (a + 6), .int (nI st.2.2.1.length)])) := m1
  replace m2 : f (a + 6) = some (.inl (P.2.1 0, 200, .inl gm)) := m2
  obtain ⟨gd, d1, d2, d3, d4, d5⟩ := h.2.2.2.2.1
  replace d1 : f (a + 7) = some (.inr (1, [.ref (a + 8), .int (nI st.2.2.2.1.length)])) := d1
  replace d2 : f (a + 8) = some (.inl (P.2.1 0, 2048, .inl gd)) := d2
  obtain ⟨ow, L, SF, SP, e1, c1, e2, c2, e3, c3, af, s1, s2, s3⟩ := h.2.2.2.2.2
  refine lv_aload_n S.1 S.2.1 d_SF_piece_0 rfl (lv_at hl 0 rfl) ?_
  refine gh_get S hI h0 rfl i_SF 4 (by decide) wi_74 rfl d_SF_piece_1 ?_
  refine lv_iload_n S.1 S.2.1 d_SF_piece_4 rfl (lv_at hl 1 rfl) ?_
  refine gc_Vq S hI (c_Shelf_fileAt l P f (k := k) s1) kv_Shelf_fileAt wi_397 s1.1 rfl rfl rfl hl.1 rfl (Nat.le_of_ble_eq_true rfl) ⟨Nat.le_of_ble_eq_true rfl, Nat.le_of_ble_eq_true rfl⟩ ⟨Nat.le_of_ble_eq_true rfl, Nat.le_of_ble_eq_true rfl⟩ d_SF_piece_5 (fun r110 f111 H locs hp112 hI => ?_)
  obtain ⟨hp1, hp2⟩ := hp112
  rw [hp2] at hI
  have hfk : fileK st.2.2.2.2.2 k = (fAt L k).map af := by rw [← s2]; exact fileK_L
  rw [← hp1] at hfk
  have hmem : ∀ x, r110 = some x → x ∈ L := by
    intro x hx
    rw [hp1] at hx
    unfold fAt at hx
    split at hx
    · exact List.mem_of_getElem? hx
    · cases hx
  rcases hr9 : r110 with _ | x
  · subst hr9
    rw [show va_rf none = .null from rfl]
    refine lv_astoreN (lv' := [(4, .null), (0, .ref a), (1, .int k), (2, .int si), (3, .int ii)]) S.1 S.2.1 d_SF_piece_8 hl (by decide) rfl (fun ls hl => ?_)
    refine lv_aloadN S.1 S.2.1 d_SF_piece_10 (lv_at hl 0 rfl) ?_
    refine lv_ifnonnullN S.1 S.2.1 d_SF_piece_12 ?_
    refine lv_bipush (v := (-2)) S.1 S.2.1 d_SF_piece_15 (by decide) ?_
    exact gr_i S hr hlk hI (⟨by unfold aPiece; rw [hfk]; rfl, rfl⟩) d_SF_piece_17
  · subst hr9
    rw [show va_rf (some x) = .ref x from rfl]
    refine lv_astore (lv' := [(4, .ref x), (0, .ref a), (1, .int k), (2, .int si), (3, .int ii)]) S.1 S.2.1 d_SF_piece_8 hl (by decide) rfl (fun ls hl => ?_)
    refine lv_aload S.1 S.2.1 d_SF_piece_10 (lv_at hl 0 rfl) ?_
    refine lv_ifnonnull (tgt := 18) S.1 S.2.1 d_SF_piece_12 (by decide) ?_
    replace hfk : fileK st.2.2.2.2.2 k = some (af x) := hfk
    obtain ⟨⟨nx, gx, psx, x0, x1, x2, x3, x4, x5, x6, x7⟩, xw⟩ := s1.2.2.2.2.2.1 x (hmem x rfl)
    refine lv_aload S.1 S.2.1 d_SF_piece_18 (lv_at hl 0 rfl) ?_
    refine lv_iload_n S.1 S.2.1 d_SF_piece_20 rfl (lv_at hl 3 rfl) ?_
    refine lv_iload_n S.1 S.2.1 d_SF_piece_21 rfl (lv_at hl 4 rfl) ?_
    refine gc_Vi S hI (c_File_keptByte l P f (si := si) (ii := ii) x0 x3 x7 xw.1) kv_File_keptByte wi_410 x0 rfl rfl rfl hl.1 rfl (Nat.le_of_ble_eq_true rfl) ⟨Nat.le_of_ble_eq_true rfl, Nat.le_of_ble_eq_true rfl⟩ ⟨Nat.le_of_ble_eq_true rfl, Nat.le_of_ble_eq_true rfl⟩ d_SF_piece_22 (fun r113 f114 H locs hp115 hI => ?_)
    obtain ⟨q1, q2⟩ := hp115
    rw [q2] at hI
    exact gr_i S hr hlk hI (⟨by unfold aPiece; rw [hfk, q1]; rfl, rfl⟩) d_SF_piece_25
set_option maxHeartbeats 4000000 in
set_option maxRecDepth 100000 in
theorem c_SF_count (l : Launch) (P : gPar) (f : gM) {a : Nat} {st : ASt} {wh : Int32} (h : gSF P f a st) : gC l P y_SF_count b_SF_count 2 (some .int) 4 0 0 [.ref a, .int wh] f (gQi P (fun r f1 => r = aCount st wh ∧ f1 = f)) := by
  refine gC_of (by decide) (Nat.le_of_ble_eq_true rfl) (fun p env s m args below meth c S hr hlk hnm H locs hI ls hl => ?_)
  have hl : lv_has ls 2 [(0, .ref a), (1, .int wh)] := hl
  have h0 := h.1
  obtain ⟨gt, t1, t2, t3, t4, t5⟩ := h.2.1
  replace t1 : f (a + 1) = some (.inr (1, [.ref (a + 2), .int (nI st.1.length)])) := t1
  replace t2 : f (a + 2) = some (.inl (P.2.1 0, 2048, .inl gt)) := t2
  obtain ⟨gn, n1, n2, n3, n4, n5⟩ := h.2.2.1
  replace n1 : f (a + 3) = some (.inr (1, [.ref (a + 4), .int (nI st.2.1.length)])) := n1
  replace n2 : f (a + 4) = some (.inl (P.2.1 0, 200, .inl gn)) := n2
  obtain ⟨gm, m1, m2, m3, m4, m5⟩ := h.2.2.2.1
  replace m1 : f (a + 5) = some (.inr (1, [.ref (a + 6), .int (nI st.2.2.1.length)])) := m1
  replace m2 : f (a + 6) = some (.inl (P.2.1 0, 200, .inl gm)) := m2
  obtain ⟨gd, d1, d2, d3, d4, d5⟩ := h.2.2.2.2.1
  replace d1 : f (a + 7) = some (.inr (1, [.ref (a + 8), .int (nI st.2.2.2.1.length)])) := d1
  replace d2 : f (a + 8) = some (.inl (P.2.1 0, 2048, .inl gd)) := d2
  obtain ⟨ow, L, SF, SP, e1, c1, e2, c2, e3, c3, af, s1, s2, s3⟩ := h.2.2.2.2.2
  refine lv_iload_n S.1 S.2.1 d_SF_count_0 rfl (lv_at hl 1 rfl) ?_
  by_cases hin : ¬ wh < 0 ∧ wh ≤ nI 4
  · skip
    obtain ⟨u, hu, hu2⟩ := nI_of hin.1
    have hu3 : u ≤ 4 := (nI_leI (b := 4) (by omega) (by omega)).mp (by rw [← hu2]; exact hin.2)
    subst hu2
    rcases (show u = 0 ∨ u = 1 ∨ u = 2 ∨ u = 3 ∨ u = 4 by omega) with e | e | e | e | e <;> subst e
    · skip
      refine lv_tableIn (tgt := 36) S.1 S.2.1 d_SF_count_1 (by decide) (by decide) rfl (by decide) ?_
      refine lv_aload_n S.1 S.2.1 d_SF_count_36 rfl (lv_at hl 0 rfl) ?_
      refine gh_get S hI h0 rfl i_SF 4 (by decide) wi_74 rfl d_SF_count_37 ?_
      refine gc_Vi S hI (c_Shelf_size l P f s1) kv_Shelf_size wi_418 s1.1 rfl rfl rfl hl.1 rfl (Nat.le_of_ble_eq_true rfl) ⟨Nat.le_of_ble_eq_true rfl, Nat.le_of_ble_eq_true rfl⟩ ⟨Nat.le_of_ble_eq_true rfl, Nat.le_of_ble_eq_true rfl⟩ d_SF_count_40 (fun r116 f117 H locs hp118 hI => ?_)
      obtain ⟨hp1, hp2⟩ := hp118
      subst hp1
      rw [hp2] at hI
      exact gr_i S hr hlk hI (⟨by unfold aCount; rw [if_pos (by decide), ← s2, List.length_map], rfl⟩) d_SF_count_43
    · skip
      refine lv_tableIn (tgt := 44) S.1 S.2.1 d_SF_count_1 (by decide) (by decide) rfl (by decide) ?_
      refine lv_aload_n S.1 S.2.1 d_SF_count_44 rfl (lv_at hl 0 rfl) ?_
      refine gh_get S hI h0 rfl i_SF 4 (by decide) wi_74 rfl d_SF_count_45 ?_
      refine gc_Vi S hI (c_Shelf_allBytes l P f s1) kv_Shelf_allBytes wi_422 s1.1 rfl rfl rfl hl.1 rfl (Nat.le_of_ble_eq_true rfl) ⟨Nat.le_of_ble_eq_true rfl, Nat.le_of_ble_eq_true rfl⟩ ⟨Nat.le_of_ble_eq_true rfl, Nat.le_of_ble_eq_true rfl⟩ d_SF_count_48 (fun r119 f120 H locs hp121 hI => ?_)
      obtain ⟨hp1, hp2⟩ := hp121
      subst hp1
      rw [hp2] at hI
      exact gr_i S hr hlk hI (⟨by unfold aCount; rw [if_neg (by decide), if_pos (by decide), ← s2, fB_L], rfl⟩) d_SF_count_51
    · skip
      refine lv_tableIn (tgt := 52) S.1 S.2.1 d_SF_count_1 (by decide) (by decide) rfl (by decide) ?_
      refine lv_aload_n S.1 S.2.1 d_SF_count_52 rfl (lv_at hl 0 rfl) ?_
      refine gh_get S hI h0 rfl i_SF 4 (by decide) wi_74 rfl d_SF_count_53 ?_
      refine gc_Vi S hI (c_Shelf_laidStripes l P f s1) kv_Shelf_laidStripes wi_423 s1.1 rfl rfl rfl hl.1 rfl (Nat.le_of_ble_eq_true rfl) ⟨Nat.le_of_ble_eq_true rfl, Nat.le_of_ble_eq_true rfl⟩ ⟨Nat.le_of_ble_eq_true rfl, Nat.le_of_ble_eq_true rfl⟩ d_SF_count_56 (fun r122 f123 H locs hp124 hI => ?_)
      obtain ⟨hp1, hp2⟩ := hp124
      subst hp1
      rw [hp2] at hI
      exact gr_i S hr hlk hI (⟨by unfold aCount; rw [if_neg (by decide), if_neg (by decide), if_pos (by decide), ← s2, fC_L], rfl⟩) d_SF_count_59
    · skip
      refine lv_tableIn (tgt := 60) S.1 S.2.1 d_SF_count_1 (by decide) (by decide) rfl (by decide) ?_
      refine lv_aload_n S.1 S.2.1 d_SF_count_60 rfl (lv_at hl 0 rfl) ?_
      refine gh_get S hI h0 rfl i_SF 5 (by decide) wi_75 rfl d_SF_count_61 ?_
      exact gr_i S hr hlk hI (⟨by unfold aCount; rw [if_neg (by decide), if_neg (by decide), if_neg (by decide), if_pos (by decide)], rfl⟩) d_SF_count_64
    · skip
      refine lv_tableIn (tgt := 65) S.1 S.2.1 d_SF_count_1 (by decide) (by decide) rfl (by decide) ?_
      refine lv_aload_n S.1 S.2.1 d_SF_count_65 rfl (lv_at hl 0 rfl) ?_
      refine gh_get S hI h0 rfl i_SF 0 (by decide) wi_70 rfl d_SF_count_66 ?_
      refine gc_Vi S hI (c_Row_length l P f t1) kv_Row_length wi_80 t1 rfl rfl rfl hl.1 rfl (Nat.le_of_ble_eq_true rfl) ⟨Nat.le_of_ble_eq_true rfl, Nat.le_of_ble_eq_true rfl⟩ ⟨Nat.le_of_ble_eq_true rfl, Nat.le_of_ble_eq_true rfl⟩ d_SF_count_69 (fun r125 f126 H locs hp127 hI => ?_)
      obtain ⟨hp1, hp2⟩ := hp127
      subst hp1
      rw [hp2] at hI
      exact gr_i S hr hlk hI (⟨by unfold aCount; rw [if_neg (by decide), if_neg (by decide), if_neg (by decide), if_neg (by decide), if_pos (by decide)], rfl⟩) d_SF_count_72
  · skip
    have hno : ∀ j : Nat, j ≤ 4 → wh ≠ nI j := fun j hj e => hin (by rw [e]; exact ⟨nI_pos (by omega), nI_le hj (by omega)⟩)
    have hout : wh.toInt < 0 ∨ 4 < wh.toInt := by
      rcases Classical.em (wh < 0) with q | q
      · exact Or.inl (Int32.lt_iff_toInt_lt.mp q)
      · right
        have q2 : ¬ wh ≤ nI 4 := fun z => hin ⟨q, z⟩
        have q3 := Int32.lt_iff_toInt_lt.mp (Int32.not_le.mp q2)
        rw [nI_toInt (by omega)] at q3; exact q3
    refine lv_tableOut (tgt := 73) S.1 S.2.1 d_SF_count_1 hout (by decide) ?_
    refine lv_iconst (v := (-1)) S.1 S.2.1 d_SF_count_73 (by decide) ?_
    exact gr_i S hr hlk hI (⟨by unfold aCount; rw [if_neg (show ¬ wh = 0 from hno 0 (by omega)), if_neg (show ¬ wh = 1 from hno 1 (by omega)), if_neg (show ¬ wh = 2 from hno 2 (by omega)), if_neg (show ¬ wh = 3 from hno 3 (by omega)), if_neg (show ¬ wh = 4 from hno 4 (by omega))], rfl⟩) d_SF_count_74
