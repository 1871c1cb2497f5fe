set_option maxHeartbeats 4000000 in
set_option maxRecDepth 100000 in
theorem c_SF_cutFile (l : Launch) (P : gPar) (f : gM) {a : Nat} {st : ASt} {V : Nat → Prop} {ow : gO} {L SF SP : List Nat} {e1 c1 e2 c2 e3 c3 : Nat} {af : Nat → AFile} {x k an : Nat} (h : gSF P f a (aIn st)) (hV : gUo f V) (hVa : ∀ c, V c → a + 14 ≤ c) (s1 : gSh P f ow (a + 9) L SF SP e1 c1 e2 c2 e3 c3 af) (s2 : L.map af = st.2.2.2.2.2) (s3 : SP.length + sumC af L ≤ 121) (hix : idx (fN st.2.2.2.2.2) st.2.1 = some k) (hx1 : L[k]? = some x) (hAn : an ≤ 8192) : gC l P y_SF_cutFile b_SF_cutFile 4 (some .int) 10 19 5700 [.ref a, .ref x, .int (nI an)] f (gQi P (fun r f1 => r = (oCut st an).1 ∧ gSF P f1 a (aAft st (oCut st an)) ∧ gFU f f1 V)) := by
  refine gC_of (by decide) (Nat.le_of_ble_eq_true rfl) (fun p env s m args below meth c S hr hlk hnm H locs hI ls hl => ?_)
  have hl : lv_has ls 4 [(0, .ref a), (1, .ref x), (2, .int (nI an))] := hl
  have hz0 := gB_z hI
  have h34 := gX_34 hI.1
  have h0 : f a = some (.inr (0, [.ref (a + 1), .ref (a + 3), .ref (a + 5), .ref (a + 7), .ref (a + 9), .int (nI (st.2.2.2.2.1 + 1))])) := h.1
  obtain ⟨gt, t1, t2, t3, t4, t5⟩ := h.2.1
  replace t1 : f (a + 1) = some (.inr (1, [.ref (a + 2), .int (nI st.1.length)])) := t1
  replace t2 : f (a + 2) = some (.inl (P.2.1 0, 2048, .inl gt)) := t2
  replace t3 : st.1.length ≤ 2048 := t3
  replace t5 : nmL st.1.length gt = st.1 := t5
  obtain ⟨gn, n1, n2, n3, n4, n5⟩ := h.2.2.1
  replace n1 : f (a + 3) = some (.inr (1, [.ref (a + 4), .int (nI st.2.1.length)])) := n1
  replace n2 : f (a + 4) = some (.inl (P.2.1 0, 200, .inl gn)) := n2
  replace n3 : st.2.1.length ≤ 200 := n3
  replace n5 : nmL st.2.1.length gn = st.2.1 := n5
  obtain ⟨gm, m1, m2, m3, m4, m5⟩ := h.2.2.2.1
  replace m1 : f (a + 5) = some (.inr (1, [.ref (a + 6), .int (nI st.2.2.1.length)])) := m1
  replace m2 : f (a + 6) = some (.inl (P.2.1 0, 200, .inl gm)) := m2
  replace m3 : st.2.2.1.length ≤ 200 := m3
  replace m5 : nmL st.2.2.1.length gm = st.2.2.1 := m5
  obtain ⟨gd, d1, d2, d3, d4, d5⟩ := h.2.2.2.2.1
  replace d1 : f (a + 7) = some (.inr (1, [.ref (a + 8), .int (nI 0)])) := d1
  replace d2 : f (a + 8) = some (.inl (P.2.1 0, 2048, .inl gd)) := d2
  have hlL : L.length ≤ 48 := by have := s1.2.2.2.2.2.2.2.2.1; omega
  have hfx : nms af L = fN st.2.2.2.2.2 := by rw [← s2, fN_L]
  have hlF : st.2.2.2.2.2.length = L.length := by rw [← s2, List.length_map]
  have hndL := (List.nodup_append.mp s1.2.2.2.2.2.2.2.1).1
  have hUo := h.uo hV
  have hfB : fB st.2.2.2.2.2 = sumB af L := by rw [← s2, fB_L]
  have hx3 := List.mem_of_getElem? hx1
  have hgD : st.2.2.2.2.2.getD k (fNew [] 0) = af x := by rw [← s2]; exact getD_map hx1
  have xfi := (s1.2.2.2.2.2.1 x hx3).1
  have xw := (s1.2.2.2.2.2.1 x hx3).2
  obtain ⟨nx, gx, psx, x0, x1, x2, x3, x4, x5, x6, x7⟩ := id xfi
  have xw1 := xw.1
  refine lv_aload_n S.1 S.2.1 d_SF_cutFile_0 rfl (lv_at hl 1 rfl) ?_
  refine gc_Vi S hI (c_File_length l P f x0) kv_File_length wi_263 x0 rfl rfl rfl hl.1 rfl (Nat.le_of_ble_eq_true rfl) ⟨Nat.le_of_ble_eq_true rfl, Nat.le_of_ble_eq_true rfl⟩ ⟨Nat.le_of_ble_eq_true rfl, Nat.le_of_ble_eq_true rfl⟩ d_SF_cutFile_1 (fun r313 f314 H locs hp315 hI => ?_)
  obtain ⟨hp1, hp2⟩ := hp315
  subst hp1
  rw [hp2] at hI
  refine lv_istore_n (lv' := [(3, .int (nI ((af x).2.2.1))), (0, .ref a), (1, .ref x), (2, .int (nI an))]) S.1 S.2.1 d_SF_cutFile_4 rfl hl (by decide) rfl (fun ls hl => ?_)
  refine lv_iload_n S.1 S.2.1 d_SF_cutFile_5 rfl (lv_at hl 3 rfl) ?_
  refine lv_iload_n S.1 S.2.1 d_SF_cutFile_6 rfl (lv_at hl 0 rfl) ?_
  refine lv_icmp_le (tgt := 25) S.1 S.2.1 d_SF_cutFile_7 (by decide) (fun c316 => ?_) (fun c316 => ?_)
  · skip
    replace c316 : an ≤ ((af x).2.2.1) := (nI_leI (a := an) (b := (af x).2.2.1) (by omega) (by omega)).mp c316
    refine lv_aload_n S.1 S.2.1 d_SF_cutFile_25 rfl (lv_at hl 2 rfl) ?_
    refine lv_iload_n S.1 S.2.1 d_SF_cutFile_26 rfl (lv_at hl 3 rfl) ?_
    have hcx : cntL (af x).2.2.2.1 19 ≤ sumC af L := sum_mem (fun q => cntL (af q).2.2.2.1 19) hx3
    refine gc_Vv S hI (c_File_cut l P f (nl := an) x0 x3 x7 s1.2.2.2.1 (by omega) hAn (fun s hs => by have := xw.2.2.1 s hs; omega) (fun p hp => xw.2.1 p (by omega))) kv_File_cut wi_371 x0 rfl rfl rfl hl.1 rfl (Nat.le_of_ble_eq_true rfl) ⟨Nat.le_of_ble_eq_true rfl, Nat.le_of_ble_eq_true rfl⟩ ⟨Nat.le_of_ble_eq_true rfl, Nat.le_of_ble_eq_true rfl⟩ d_SF_cutFile_27 (fun f318 H locs hp319 hI => ?_)
    obtain ⟨ow1, ps1, SP1, e3v, c3v, d0, d3, d4, d5, d6, d7⟩ := hp319
    have hS1 : gSh P f318 ow1 (a + 9) L SF SP1 e1 c1 e2 c2 e3v c3v (va_up af x (fCut (af x) an)) := s1.file h34 hz0 hx3 x0 x1 x2 x3 x4 x5 x6 x7 d0 d3 d4 d5 d6 (wfF_cut xw hAn)
    have hFU1 : gFU f f318 (gUS a V) := hUo.rel xfi x7 s1.2.2.2.1 hz0 d6
    have hfin := gSF.sh h hFU1 ⟨ow1, L, SF, SP1, e1, c1, e2, c2, e3v, c3v, _, hS1, map_set_up hndL hx1, cnt_file hndL hx3 s3 d7⟩
    rw [s2] at hfin
    refine lv_iload_n S.1 S.2.1 d_SF_cutFile_30 rfl (lv_at hl 0 rfl) ?_
    exact gr_i S hr hlk hI (by rw [oCut_s hix hgD, if_neg (fun z => absurd z.1 (by omega))]; exact ⟨rfl, hfin⟩) d_SF_cutFile_31
  · skip
    replace c316 : ¬ an ≤ ((af x).2.2.1) := fun z => c316 ((nI_leI (a := an) (b := (af x).2.2.1) (by omega) (by omega)).mpr z)
    refine lv_aload_n S.1 S.2.1 d_SF_cutFile_10 rfl (lv_at hl 1 rfl) ?_
    refine gh_get S hI h0 rfl i_SF 4 (by decide) wi_74 rfl d_SF_cutFile_11 ?_
    refine lv_iload_n S.1 S.2.1 d_SF_cutFile_14 rfl (lv_at hl 0 rfl) ?_
    refine lv_iload_n S.1 S.2.1 d_SF_cutFile_15 rfl (lv_at hl 3 rfl) ?_
    refine gc_Vi S hI (c_Shelf_hasRoom l P f (bf := (af x).2.2.1) (at_ := an) s1 (sum_mem (fun q => (af q).2.2.1) hx3) (by omega)) kv_Shelf_hasRoom wi_268 s1.1 rfl rfl rfl hl.1 rfl (Nat.le_of_ble_eq_true rfl) ⟨Nat.le_of_ble_eq_true rfl, Nat.le_of_ble_eq_true rfl⟩ ⟨Nat.le_of_ble_eq_true rfl, Nat.le_of_ble_eq_true rfl⟩ d_SF_cutFile_16 (fun r320 f321 H locs hp322 hI => ?_)
    obtain ⟨hp1, hp2⟩ := hp322
    subst hp1
    rw [hp2] at hI
    by_cases hc323 : an ≤ 8192 ∧ sumB af L - (af x).2.2.1 + an ≤ 32768
    · rw [show (if an ≤ 8192 ∧ sumB af L - (af x).2.2.1 + an ≤ 32768 then nI 1 else nI 0 : Int32) = nI 1 from if_pos hc323]
      refine lv_if_ne (tgt := 25) S.1 S.2.1 d_SF_cutFile_19 (by decide) (fun c324 => ?_) (fun c324 => ?_)
      · skip
        replace c324 : ¬ 1 = 0 := fun z => c324 ((nI_eq (a := 1) (b := 0) (by omega) (by omega)).mpr z)
        refine lv_aload_n S.1 S.2.1 d_SF_cutFile_25 rfl (lv_at hl 2 rfl) ?_
        refine lv_iload_n S.1 S.2.1 d_SF_cutFile_26 rfl (lv_at hl 3 rfl) ?_
        have hcx : cntL (af x).2.2.2.1 19 ≤ sumC af L := sum_mem (fun q => cntL (af q).2.2.2.1 19) hx3
        refine gc_Vv S hI (c_File_cut l P f (nl := an) x0 x3 x7 s1.2.2.2.1 (by omega) hAn (fun s hs => by have := xw.2.2.1 s hs; omega) (fun p hp => xw.2.1 p (by omega))) kv_File_cut wi_371 x0 rfl rfl rfl hl.1 rfl (Nat.le_of_ble_eq_true rfl) ⟨Nat.le_of_ble_eq_true rfl, Nat.le_of_ble_eq_true rfl⟩ ⟨Nat.le_of_ble_eq_true rfl, Nat.le_of_ble_eq_true rfl⟩ d_SF_cutFile_27 (fun f326 H locs hp327 hI => ?_)
        obtain ⟨ow1, ps1, SP1, e3v, c3v, d0, d3, d4, d5, d6, d7⟩ := hp327
        have hS1 : gSh P f326 ow1 (a + 9) L SF SP1 e1 c1 e2 c2 e3v c3v (va_up af x (fCut (af x) an)) := s1.file h34 hz0 hx3 x0 x1 x2 x3 x4 x5 x6 x7 d0 d3 d4 d5 d6 (wfF_cut xw hAn)
        have hFU1 : gFU f f326 (gUS a V) := hUo.rel xfi x7 s1.2.2.2.1 hz0 d6
        have hfin := gSF.sh h hFU1 ⟨ow1, L, SF, SP1, e1, c1, e2, c2, e3v, c3v, _, hS1, map_set_up hndL hx1, cnt_file hndL hx3 s3 d7⟩
        rw [s2] at hfin
        refine lv_iload_n S.1 S.2.1 d_SF_cutFile_30 rfl (lv_at hl 0 rfl) ?_
        exact gr_i S hr hlk hI (by rw [oCut_s hix hgD, if_neg (fun z => z.2 (by rw [hfB]; exact hc323.2))]; exact ⟨rfl, hfin⟩) d_SF_cutFile_31
      · skip
        replace c324 : 1 = 0 := (nI_eq (a := 1) (b := 0) (by omega) (by omega)).mp c324
        exact absurd c324 (by omega)
    · rw [show (if an ≤ 8192 ∧ sumB af L - (af x).2.2.1 + an ≤ 32768 then nI 1 else nI 0 : Int32) = nI 0 from if_neg hc323]
      refine lv_if_ne (tgt := 25) S.1 S.2.1 d_SF_cutFile_19 (by decide) (fun c328 => ?_) (fun c328 => ?_)
      · skip
        replace c328 : ¬ 0 = 0 := fun z => c328 ((nI_eq (a := 0) (b := 0) (by omega) (by omega)).mpr z)
        exact absurd c328 (by omega)
      · skip
        replace c328 : 0 = 0 := (nI_eq (a := 0) (b := 0) (by omega) (by omega)).mp c328
        refine lv_bipush (v := (-4)) S.1 S.2.1 d_SF_cutFile_22 (by decide) ?_
        refine W.widen (k := 19) (n := 5700) (by omega) (by omega) ?_
        exact gr_i S hr hlk hI (by rw [oCut_s hix hgD, if_pos ⟨by omega, fun z => hc323 ⟨hAn, by rw [← hfB]; exact z⟩⟩]; exact ⟨rfl, h, gFU.rf⟩) d_SF_cutFile_24
set_option maxHeartbeats 4000000 in
set_option maxRecDepth 100000 in
theorem c_SF_runOnFile3 (l : Launch) (P : gPar) (f : gM) {a : Nat} {st : ASt} {V : Nat → Prop} {an : Nat} {bb : Int32} (h : gSF P f a (aIn st)) (hV : gUo f V) (hVa : ∀ c, V c → a + 14 ≤ c) (hAn : an ≤ 8192) : gC l P y_SF_runOnFile b_SF_runOnFile 6 (some .int) 11 20 6000 [.ref a, .int (nI 3), .int (nI an), .int bb] f (gQi P (fun r f1 => r = (oCut st an).1 ∧ gSF P f1 a (aAft st (oCut st an)) ∧ gFU f f1 V)) := by
  refine gC_of (by decide) (Nat.le_of_ble_eq_true rfl) (fun p env s m args below meth c S hr hlk hnm H locs hI ls hl => ?_)
  have hl : lv_has ls 6 [(0, .ref a), (1, .int (nI 3)), (2, .int (nI an)), (3, .int bb)] := hl
  have hz0 := gB_z hI
  have h34 := gX_34 hI.1
  have h0 : f a = some (.inr (0, [.ref (a + 1), .ref (a + 3), .ref (a + 5), .ref (a + 7), .ref (a + 9), .int (nI (st.2.2.2.2.1 + 1))])) := h.1
  obtain ⟨gt, t1, t2, t3, t4, t5⟩ := h.2.1
  replace t1 : f (a + 1) = some (.inr (1, [.ref (a + 2), .int (nI st.1.length)])) := t1
  replace t2 : f (a + 2) = some (.inl (P.2.1 0, 2048, .inl gt)) := t2
  replace t3 : st.1.length ≤ 2048 := t3
  replace t5 : nmL st.1.length gt = st.1 := t5
  obtain ⟨gn, n1, n2, n3, n4, n5⟩ := h.2.2.1
  replace n1 : f (a + 3) = some (.inr (1, [.ref (a + 4), .int (nI st.2.1.length)])) := n1
  replace n2 : f (a + 4) = some (.inl (P.2.1 0, 200, .inl gn)) := n2
  replace n3 : st.2.1.length ≤ 200 := n3
  replace n5 : nmL st.2.1.length gn = st.2.1 := n5
  obtain ⟨gm, m1, m2, m3, m4, m5⟩ := h.2.2.2.1
  replace m1 : f (a + 5) = some (.inr (1, [.ref (a + 6), .int (nI st.2.2.1.length)])) := m1
  replace m2 : f (a + 6) = some (.inl (P.2.1 0, 200, .inl gm)) := m2
  replace m3 : st.2.2.1.length ≤ 200 := m3
  replace m5 : nmL st.2.2.1.length gm = st.2.2.1 := m5
  obtain ⟨gd, d1, d2, d3, d4, d5⟩ := h.2.2.2.2.1
  replace d1 : f (a + 7) = some (.inr (1, [.ref (a + 8), .int (nI 0)])) := d1
  replace d2 : f (a + 8) = some (.inl (P.2.1 0, 2048, .inl gd)) := d2
  obtain ⟨ow, L, SF, SP, e1, c1, e2, c2, e3, c3, af, s1, s2, s3⟩ := h.2.2.2.2.2
  replace s2 : L.map af = st.2.2.2.2.2 := s2
  have hlL : L.length ≤ 48 := by have := s1.2.2.2.2.2.2.2.2.1; omega
  have hfx : nms af L = fN st.2.2.2.2.2 := by rw [← s2, fN_L]
  have hlF : st.2.2.2.2.2.length = L.length := by rw [← s2, List.length_map]
  have hndL := (List.nodup_append.mp s1.2.2.2.2.2.2.2.1).1
  have hUo := h.uo hV
  have hfB : fB st.2.2.2.2.2 = sumB af L := by rw [← s2, fB_L]
  refine lv_aload_n S.1 S.2.1 d_SF_runOnFile_0 rfl (lv_at hl 0 rfl) ?_
  refine gh_get S hI h0 rfl i_SF 4 (by decide) wi_74 rfl d_SF_runOnFile_1 ?_
  refine lv_aload_n S.1 S.2.1 d_SF_runOnFile_4 rfl (lv_at hl 0 rfl) ?_
  refine gh_get S hI h0 rfl i_SF 1 (by decide) wi_71 rfl d_SF_runOnFile_5 ?_
  refine gc_Vq S hI (c_Shelf_find l P f s1 n1 n2 n3 (by omega)) kv_Shelf_find wi_128 s1.1 rfl rfl rfl hl.1 rfl (Nat.le_of_ble_eq_true rfl) ⟨Nat.le_of_ble_eq_true rfl, Nat.le_of_ble_eq_true rfl⟩ ⟨Nat.le_of_ble_eq_true rfl, Nat.le_of_ble_eq_true rfl⟩ d_SF_runOnFile_8 (fun r329 f330 H locs hp331 hI => ?_)
  obtain ⟨hp1, hp2⟩ := hp331
  rw [hp2] at hI
  rw [hfx, n5] at hp1
  rcases hix : idx (fN st.2.2.2.2.2) st.2.1 with _ | k
  · skip
    replace hp1 : r329 = none := by rw [hp1, hix]; rfl
    rw [show va_rf r329 = .null from by rw [hp1]; rfl]
    refine lv_astoreN (lv' := [(4, .null), (0, .ref a), (1, .int (nI 3)), (2, .int (nI an)), (3, .int bb)]) S.1 S.2.1 d_SF_runOnFile_11 hl (by decide) rfl (fun ls hl => ?_)
    refine lv_aloadN S.1 S.2.1 d_SF_runOnFile_13 (lv_at hl 0 rfl) ?_
    refine lv_ifnonnullN S.1 S.2.1 d_SF_runOnFile_15 ?_
    refine lv_bipush (v := (-2)) S.1 S.2.1 d_SF_runOnFile_18 (by decide) ?_
    refine W.widen (k := 20) (n := 6000) (by omega) (by omega) ?_
    exact gr_i S hr hlk hI (by rw [oCut_n hix]; exact ⟨rfl, h, gFU.rf⟩) d_SF_runOnFile_20
  · skip
    obtain ⟨x, hx1, hx2, hx3⟩ := idx_get (af := af) (L := L) (nm := st.2.1) (k := k) (by rw [hfx]; exact hix)
    replace hp1 : r329 = some x := by rw [hp1, hix]; exact hx1
    have hgD : st.2.2.2.2.2.getD k (fNew [] 0) = af x := by rw [← s2]; exact getD_map hx1
    have xfi := (s1.2.2.2.2.2.1 x hx3).1
    have xw := (s1.2.2.2.2.2.1 x hx3).2
    obtain ⟨nx, gx, psx, x0, x1, x2, x3, x4, x5, x6, x7⟩ := id xfi
    rw [show va_rf r329 = .ref x from by rw [hp1]; rfl]
    refine lv_astore (lv' := [(4, .ref x), (0, .ref a), (1, .int (nI 3)), (2, .int (nI an)), (3, .int bb)]) S.1 S.2.1 d_SF_runOnFile_11 hl (by decide) rfl (fun ls hl => ?_)
    refine lv_aload S.1 S.2.1 d_SF_runOnFile_13 (lv_at hl 0 rfl) ?_
    refine lv_ifnonnull (tgt := 21) S.1 S.2.1 d_SF_runOnFile_15 (by decide) ?_
    refine lv_aload S.1 S.2.1 d_SF_runOnFile_21 (lv_at hl 0 rfl) ?_
    refine gc_Vi S hI (c_File_length l P f x0) kv_File_length wi_263 x0 rfl rfl rfl hl.1 rfl (Nat.le_of_ble_eq_true rfl) ⟨Nat.le_of_ble_eq_true rfl, Nat.le_of_ble_eq_true rfl⟩ ⟨Nat.le_of_ble_eq_true rfl, Nat.le_of_ble_eq_true rfl⟩ d_SF_runOnFile_23 (fun r332 f333 H locs hp334 hI => ?_)
    obtain ⟨hp1, hp2⟩ := hp334
    subst hp1
    rw [hp2] at hI
    refine lv_istore (lv' := [(5, .int (nI ((af x).2.2.1))), (4, .ref x), (0, .ref a), (1, .int (nI 3)), (2, .int (nI an)), (3, .int bb)]) S.1 S.2.1 d_SF_runOnFile_26 hl (by decide) rfl (fun ls hl => ?_)
    refine lv_iload_n S.1 S.2.1 d_SF_runOnFile_28 rfl (lv_at hl 3 rfl) ?_
    refine lv_tableIn (tgt := 68) S.1 S.2.1 d_SF_runOnFile_29 (by decide) (by decide) rfl (by decide) ?_
    refine lv_aload_n S.1 S.2.1 d_SF_runOnFile_68 rfl (lv_at hl 2 rfl) ?_
    refine lv_aload S.1 S.2.1 d_SF_runOnFile_69 (lv_at hl 1 rfl) ?_
    refine lv_iload_n S.1 S.2.1 d_SF_runOnFile_71 rfl (lv_at hl 4 rfl) ?_
    refine gc_Vi S hI (c_SF_cutFile l P f h hV hVa s1 s2 s3 hix hx1 hAn) kv_SF_cutFile wi_368 h0 rfl rfl rfl hl.1 rfl (Nat.le_of_ble_eq_true rfl) ⟨Nat.le_of_ble_eq_true rfl, Nat.le_of_ble_eq_true rfl⟩ ⟨Nat.le_of_ble_eq_true rfl, Nat.le_of_ble_eq_true rfl⟩ d_SF_runOnFile_72 (fun r335 f336 H locs hp337 hI => ?_)
    obtain ⟨hq1, hq2⟩ := hp337
    subst hq1
    refine W.widen (k := 20) (n := 6000) (by omega) (by omega) ?_
    exact gr_i S hr hlk hI (⟨rfl, hq2⟩) d_SF_runOnFile_75
set_option maxHeartbeats 4000000 in
set_option maxRecDepth 100000 in
theorem c_SF_runOnFile4 (l : Launch) (P : gPar) (f : gM) {a : Nat} {st : ASt} {V : Nat → Prop} {an bn : Nat} (h : gSF P f a (aIn st)) (hV : gUo f V) (hVa : ∀ c, V c → a + 14 ≤ c) (hAn : an ≤ 8192) (hBn : bn ≤ 2048) : gC l P y_SF_runOnFile b_SF_runOnFile 6 (some .int) 11 20 6000 [.ref a, .int (nI 4), .int (nI an), .int (nI bn)] f (gQi P (fun r f1 => r = (oRead st an bn).1 ∧ gSF P f1 a (aAft st (oRead st an bn)) ∧ gFU f f1 V)) := by
  refine gC_of (by decide) (Nat.le_of_ble_eq_true rfl) (fun p env s m args below meth c S hr hlk hnm H locs hI ls hl => ?_)
  have hl : lv_has ls 6 [(0, .ref a), (1, .int (nI 4)), (2, .int (nI an)), (3, .int (nI bn))] := hl
  have hz0 := gB_z hI
  have h34 := gX_34 hI.1
  have h0 : f a = some (.inr (0, [.ref (a + 1), .ref (a + 3), .ref (a + 5), .ref (a + 7), .ref (a + 9), .int (nI (st.2.2.2.2.1 + 1))])) := h.1
  obtain ⟨gt, t1, t2, t3, t4, t5⟩ := h.2.1
  replace t1 : f (a + 1) = some (.inr (1, [.ref (a + 2), .int (nI st.1.length)])) := t1
  replace t2 : f (a + 2) = some (.inl (P.2.1 0, 2048, .inl gt)) := t2
  replace t3 : st.1.length ≤ 2048 := t3
  replace t5 : nmL st.1.length gt = st.1 := t5
  obtain ⟨gn, n1, n2, n3, n4, n5⟩ := h.2.2.1
  replace n1 : f (a + 3) = some (.inr (1, [.ref (a + 4), .int (nI st.2.1.length)])) := n1
  replace n2 : f (a + 4) = some (.inl (P.2.1 0, 200, .inl gn)) := n2
  replace n3 : st.2.1.length ≤ 200 := n3
  replace n5 : nmL st.2.1.length gn = st.2.1 := n5
  obtain ⟨gm, m1, m2, m3, m4, m5⟩ := h.2.2.2.1
  replace m1 : f (a + 5) = some (.inr (1, [.ref (a + 6), .int (nI st.2.2.1.length)])) := m1
  replace m2 : f (a + 6) = some (.inl (P.2.1 0, 200, .inl gm)) := m2
  replace m3 : st.2.2.1.length ≤ 200 := m3
  replace m5 : nmL st.2.2.1.length gm = st.2.2.1 := m5
  obtain ⟨gd, d1, d2, d3, d4, d5⟩ := h.2.2.2.2.1
  replace d1 : f (a + 7) = some (.inr (1, [.ref (a + 8), .int (nI 0)])) := d1
  replace d2 : f (a + 8) = some (.inl (P.2.1 0, 2048, .inl gd)) := d2
  obtain ⟨ow, L, SF, SP, e1, c1, e2, c2, e3, c3, af, s1, s2, s3⟩ := h.2.2.2.2.2
  replace s2 : L.map af = st.2.2.2.2.2 := s2
  have hlL : L.length ≤ 48 := by have := s1.2.2.2.2.2.2.2.2.1; omega
  have hfx : nms af L = fN st.2.2.2.2.2 := by rw [← s2, fN_L]
  have hlF : st.2.2.2.2.2.length = L.length := by rw [← s2, List.length_map]
  have hndL := (List.nodup_append.mp s1.2.2.2.2.2.2.2.1).1
  have hUo := h.uo hV
  have hfB : fB st.2.2.2.2.2 = sumB af L := by rw [← s2, fB_L]
  refine lv_aload_n S.1 S.2.1 d_SF_runOnFile_0 rfl (lv_at hl 0 rfl) ?_
  refine gh_get S hI h0 rfl i_SF 4 (by decide) wi_74 rfl d_SF_runOnFile_1 ?_
  refine lv_aload_n S.1 S.2.1 d_SF_runOnFile_4 rfl (lv_at hl 0 rfl) ?_
  refine gh_get S hI h0 rfl i_SF 1 (by decide) wi_71 rfl d_SF_runOnFile_5 ?_
  refine gc_Vq S hI (c_Shelf_find l P f s1 n1 n2 n3 (by omega)) kv_Shelf_find wi_128 s1.1 rfl rfl rfl hl.1 rfl (Nat.le_of_ble_eq_true rfl) ⟨Nat.le_of_ble_eq_true rfl, Nat.le_of_ble_eq_true rfl⟩ ⟨Nat.le_of_ble_eq_true rfl, Nat.le_of_ble_eq_true rfl⟩ d_SF_runOnFile_8 (fun r338 f339 H locs hp340 hI => ?_)
  obtain ⟨hp1, hp2⟩ := hp340
  rw [hp2] at hI
  rw [hfx, n5] at hp1
  rcases hix : idx (fN st.2.2.2.2.2) st.2.1 with _ | k
  · skip
    replace hp1 : r338 = none := by rw [hp1, hix]; rfl
    rw [show va_rf r338 = .null from by rw [hp1]; rfl]
    refine lv_astoreN (lv' := [(4, .null), (0, .ref a), (1, .int (nI 4)), (2, .int (nI an)), (3, .int (nI bn))]) S.1 S.2.1 d_SF_runOnFile_11 hl (by decide) rfl (fun ls hl => ?_)
    refine lv_aloadN S.1 S.2.1 d_SF_runOnFile_13 (lv_at hl 0 rfl) ?_
    refine lv_ifnonnullN S.1 S.2.1 d_SF_runOnFile_15 ?_
    refine lv_bipush (v := (-2)) S.1 S.2.1 d_SF_runOnFile_18 (by decide) ?_
    refine W.widen (k := 20) (n := 6000) (by omega) (by omega) ?_
    exact gr_i S hr hlk hI (by rw [oRead_n hix]; exact ⟨rfl, h, gFU.rf⟩) d_SF_runOnFile_20
  · skip
    obtain ⟨x, hx1, hx2, hx3⟩ := idx_get (af := af) (L := L) (nm := st.2.1) (k := k) (by rw [hfx]; exact hix)
    replace hp1 : r338 = some x := by rw [hp1, hix]; exact hx1
    have hgD : st.2.2.2.2.2.getD k (fNew [] 0) = af x := by rw [← s2]; exact getD_map hx1
    have xfi := (s1.2.2.2.2.2.1 x hx3).1
    have xw := (s1.2.2.2.2.2.1 x hx3).2
    obtain ⟨nx, gx, psx, x0, x1, x2, x3, x4, x5, x6, x7⟩ := id xfi
    rw [show va_rf r338 = .ref x from by rw [hp1]; rfl]
    refine lv_astore (lv' := [(4, .ref x), (0, .ref a), (1, .int (nI 4)), (2, .int (nI an)), (3, .int (nI bn))]) S.1 S.2.1 d_SF_runOnFile_11 hl (by decide) rfl (fun ls hl => ?_)
    refine lv_aload S.1 S.2.1 d_SF_runOnFile_13 (lv_at hl 0 rfl) ?_
    refine lv_ifnonnull (tgt := 21) S.1 S.2.1 d_SF_runOnFile_15 (by decide) ?_
    refine lv_aload S.1 S.2.1 d_SF_runOnFile_21 (lv_at hl 0 rfl) ?_
    refine gc_Vi S hI (c_File_length l P f x0) kv_File_length wi_263 x0 rfl rfl rfl hl.1 rfl (Nat.le_of_ble_eq_true rfl) ⟨Nat.le_of_ble_eq_true rfl, Nat.le_of_ble_eq_true rfl⟩ ⟨Nat.le_of_ble_eq_true rfl, Nat.le_of_ble_eq_true rfl⟩ d_SF_runOnFile_23 (fun r341 f342 H locs hp343 hI => ?_)
    obtain ⟨hp1, hp2⟩ := hp343
    subst hp1
    rw [hp2] at hI
    refine lv_istore (lv' := [(5, .int (nI ((af x).2.2.1))), (4, .ref x), (0, .ref a), (1, .int (nI 4)), (2, .int (nI an)), (3, .int (nI bn))]) S.1 S.2.1 d_SF_runOnFile_26 hl (by decide) rfl (fun ls hl => ?_)
    refine lv_iload_n S.1 S.2.1 d_SF_runOnFile_28 rfl (lv_at hl 3 rfl) ?_
    refine lv_tableIn (tgt := 76) S.1 S.2.1 d_SF_runOnFile_29 (by decide) (by decide) rfl (by decide) ?_
    refine lv_aload S.1 S.2.1 d_SF_runOnFile_76 (lv_at hl 1 rfl) ?_
    refine lv_iload_n S.1 S.2.1 d_SF_runOnFile_78 rfl (lv_at hl 4 rfl) ?_
    refine lv_iload_n S.1 S.2.1 d_SF_runOnFile_79 rfl (lv_at hl 5 rfl) ?_
    refine lv_aload_n S.1 S.2.1 d_SF_runOnFile_80 rfl (lv_at hl 2 rfl) ?_
    refine gh_get S hI h0 rfl i_SF 3 (by decide) wi_73 rfl d_SF_runOnFile_81 ?_
    have dl0 : f (a + 7) = some (.inr (1, [.ref (a + 7 + 1), .int (nI 0)])) := d1
    refine gc_Vv S hI (c_File_read l P f (a := a + 7) x0 x3 x7 dl0 d2 xw.1 hAn hBn xw.2.2.2 (by omega) d4) kv_File_read wi_372 x0 rfl rfl rfl hl.1 rfl (Nat.le_of_ble_eq_true rfl) ⟨Nat.le_of_ble_eq_true rfl, Nat.le_of_ble_eq_true rfl⟩ ⟨Nat.le_of_ble_eq_true rfl, Nat.le_of_ble_eq_true rfl⟩ d_SF_runOnFile_84 (fun f345 H locs hp346 hI => ?_)
    obtain ⟨w1, ⟨g1, w2, w3, w4⟩, w5⟩ := hp346
    have hml : min (af x).2.2.1 (an + bn) - an ≤ 2048 := by omega
    have el : ((List.range (min (af x).2.2.1 (an + bn) - an)).map (fun i => (af x).2.2.2.2 (an + i))).length = min (af x).2.2.1 (an + bn) - an := by simp
    have hfin := gSF.shd (T := (List.range (min (af x).2.2.1 (an + bn) - an)).map (fun i => (af x).2.2.2.2 (an + i))) h hV hVa hz0 w5 ⟨g1, by rw [el]; exact w1, w2, by rw [el]; exact hml, w3, by rw [el]; exact range_nmL w4⟩
    have kh0 := w5 a _ h0 (nm2 (by omega) (by omega))
    refine lv_aload_n S.1 S.2.1 d_SF_runOnFile_87 rfl (lv_at hl 2 rfl) ?_
    refine gh_get S hI kh0 rfl i_SF 3 (by decide) wi_73 rfl d_SF_runOnFile_88 ?_
    refine gc_Vi S hI (c_Row_length l P f345 w1) kv_Row_length wi_80 w1 rfl rfl rfl hl.1 rfl (Nat.le_of_ble_eq_true rfl) ⟨Nat.le_of_ble_eq_true rfl, Nat.le_of_ble_eq_true rfl⟩ ⟨Nat.le_of_ble_eq_true rfl, Nat.le_of_ble_eq_true rfl⟩ d_SF_runOnFile_91 (fun r347 f348 H locs hp349 hI => ?_)
    obtain ⟨hp1, hp2⟩ := hp349
    subst hp1
    rw [hp2] at hI
    refine W.widen (k := 20) (n := 6000) (by omega) (by omega) ?_
    exact gr_i S hr hlk hI (by rw [oRead_s hix hgD]; exact ⟨rfl, hfin⟩) d_SF_runOnFile_94
set_option maxHeartbeats 4000000 in
set_option maxRecDepth 100000 in
theorem c_SF_runOnFile5 (l : Launch) (P : gPar) (f : gM) {a : Nat} {st : ASt} {V : Nat → Prop} {aa bb : Int32} (h : gSF P f a (aIn st)) (hV : gUo f V) (hVa : ∀ c, V c → a + 14 ≤ c) : gC l P y_SF_runOnFile b_SF_runOnFile 6 (some .int) 11 20 6000 [.ref a, .int (nI 5), .int aa, .int bb] f (gQi P (fun r f1 => r = (oRemove st).1 ∧ gSF P f1 a (aAft st (oRemove st)) ∧ gFU f f1 V)) := by
  refine gC_of (by decide) (Nat.le_of_ble_eq_true rfl) (fun p env s m args below meth c S hr hlk hnm H locs hI ls hl => ?_)
  have hl : lv_has ls 6 [(0, .ref a), (1, .int (nI 5)), (2, .int aa), (3, .int bb)] := hl
  have hz0 := gB_z hI
  have h34 := gX_34 hI.1
  have h0 : f a = some (.inr (0, [.ref (a + 1), .ref (a + 3), .ref (a + 5), .ref (a + 7), .ref (a + 9), .int (nI (st.2.2.2.2.1 + 1))])) := h.1
  obtain ⟨gt, t1, t2, t3, t4, t5⟩ := h.2.1
  replace t1 : f (a + 1) = some (.inr (1, [.ref (a + 2), .int (nI st.1.length)])) := t1
  replace t2 : f (a + 2) = some (.inl (P.2.1 0, 2048, .inl gt)) := t2
  replace t3 : st.1.length ≤ 2048 := t3
  replace t5 : nmL st.1.length gt = st.1 := t5
  obtain ⟨gn, n1, n2, n3, n4, n5⟩ := h.2.2.1
  replace n1 : f (a + 3) = some (.inr (1, [.ref (a + 4), .int (nI st.2.1.length)])) := n1
  replace n2 : f (a + 4) = some (.inl (P.2.1 0, 200, .inl gn)) := n2
  replace n3 : st.2.1.length ≤ 200 := n3
  replace n5 : nmL st.2.1.length gn = st.2.1 := n5
  obtain ⟨gm, m1, m2, m3, m4, m5⟩ := h.2.2.2.1
  replace m1 : f (a + 5) = some (.inr (1, [.ref (a + 6), .int (nI st.2.2.1.length)])) := m1
  replace m2 : f (a + 6) = some (.inl (P.2.1 0, 200, .inl gm)) := m2
  replace m3 : st.2.2.1.length ≤ 200 := m3
  replace m5 : nmL st.2.2.1.length gm = st.2.2.1 := m5
  obtain ⟨gd, d1, d2, d3, d4, d5⟩ := h.2.2.2.2.1
  replace d1 : f (a + 7) = some (.inr (1, [.ref (a + 8), .int (nI 0)])) := d1
  replace d2 : f (a + 8) = some (.inl (P.2.1 0, 2048, .inl gd)) := d2
  obtain ⟨ow, L, SF, SP, e1, c1, e2, c2, e3, c3, af, s1, s2, s3⟩ := h.2.2.2.2.2
  replace s2 : L.map af = st.2.2.2.2.2 := s2
  have hlL : L.length ≤ 48 := by have := s1.2.2.2.2.2.2.2.2.1; omega
  have hfx : nms af L = fN st.2.2.2.2.2 := by rw [← s2, fN_L]
  have hlF : st.2.2.2.2.2.length = L.length := by rw [← s2, List.length_map]
  have hndL := (List.nodup_append.mp s1.2.2.2.2.2.2.2.1).1
  have hUo := h.uo hV
  have hfB : fB st.2.2.2.2.2 = sumB af L := by rw [← s2, fB_L]
  refine lv_aload_n S.1 S.2.1 d_SF_runOnFile_0 rfl (lv_at hl 0 rfl) ?_
  refine gh_get S hI h0 rfl i_SF 4 (by decide) wi_74 rfl d_SF_runOnFile_1 ?_
  refine lv_aload_n S.1 S.2.1 d_SF_runOnFile_4 rfl (lv_at hl 0 rfl) ?_
  refine gh_get S hI h0 rfl i_SF 1 (by decide) wi_71 rfl d_SF_runOnFile_5 ?_
  refine gc_Vq S hI (c_Shelf_find l P f s1 n1 n2 n3 (by omega)) kv_Shelf_find wi_128 s1.1 rfl rfl rfl hl.1 rfl (Nat.le_of_ble_eq_true rfl) ⟨Nat.le_of_ble_eq_true rfl, Nat.le_of_ble_eq_true rfl⟩ ⟨Nat.le_of_ble_eq_true rfl, Nat.le_of_ble_eq_true rfl⟩ d_SF_runOnFile_8 (fun r350 f351 H locs hp352 hI => ?_)
  obtain ⟨hp1, hp2⟩ := hp352
  rw [hp2] at hI
  rw [hfx, n5] at hp1
  rcases hix : idx (fN st.2.2.2.2.2) st.2.1 with _ | k
  · skip
    replace hp1 : r350 = none := by rw [hp1, hix]; rfl
    rw [show va_rf r350 = .null from by rw [hp1]; rfl]
    refine lv_astoreN (lv' := [(4, .null), (0, .ref a), (1, .int (nI 5)), (2, .int aa), (3, .int bb)]) S.1 S.2.1 d_SF_runOnFile_11 hl (by decide) rfl (fun ls hl => ?_)
    refine lv_aloadN S.1 S.2.1 d_SF_runOnFile_13 (lv_at hl 0 rfl) ?_
    refine lv_ifnonnullN S.1 S.2.1 d_SF_runOnFile_15 ?_
    refine lv_bipush (v := (-2)) S.1 S.2.1 d_SF_runOnFile_18 (by decide) ?_
    refine W.widen (k := 20) (n := 6000) (by omega) (by omega) ?_
    exact gr_i S hr hlk hI (by rw [oRemove_n hix]; exact ⟨rfl, h, gFU.rf⟩) d_SF_runOnFile_20
  · skip
    obtain ⟨x, hx1, hx2, hx3⟩ := idx_get (af := af) (L := L) (nm := st.2.1) (k := k) (by rw [hfx]; exact hix)
    replace hp1 : r350 = some x := by rw [hp1, hix]; exact hx1
    have hgD : st.2.2.2.2.2.getD k (fNew [] 0) = af x := by rw [← s2]; exact getD_map hx1
    have xfi := (s1.2.2.2.2.2.1 x hx3).1
    have xw := (s1.2.2.2.2.2.1 x hx3).2
    obtain ⟨nx, gx, psx, x0, x1, x2, x3, x4, x5, x6, x7⟩ := id xfi
    rw [show va_rf r350 = .ref x from by rw [hp1]; rfl]
    refine lv_astore (lv' := [(4, .ref x), (0, .ref a), (1, .int (nI 5)), (2, .int aa), (3, .int bb)]) S.1 S.2.1 d_SF_runOnFile_11 hl (by decide) rfl (fun ls hl => ?_)
    refine lv_aload S.1 S.2.1 d_SF_runOnFile_13 (lv_at hl 0 rfl) ?_
    refine lv_ifnonnull (tgt := 21) S.1 S.2.1 d_SF_runOnFile_15 (by decide) ?_
    refine lv_aload S.1 S.2.1 d_SF_runOnFile_21 (lv_at hl 0 rfl) ?_
    refine gc_Vi S hI (c_File_length l P f x0) kv_File_length wi_263 x0 rfl rfl rfl hl.1 rfl (Nat.le_of_ble_eq_true rfl) ⟨Nat.le_of_ble_eq_true rfl, Nat.le_of_ble_eq_true rfl⟩ ⟨Nat.le_of_ble_eq_true rfl, Nat.le_of_ble_eq_true rfl⟩ d_SF_runOnFile_23 (fun r353 f354 H locs hp355 hI => ?_)
    obtain ⟨hp1, hp2⟩ := hp355
    subst hp1
    rw [hp2] at hI
    refine lv_istore (lv' := [(5, .int (nI ((af x).2.2.1))), (4, .ref x), (0, .ref a), (1, .int (nI 5)), (2, .int aa), (3, .int bb)]) S.1 S.2.1 d_SF_runOnFile_26 hl (by decide) rfl (fun ls hl => ?_)
    refine lv_iload_n S.1 S.2.1 d_SF_runOnFile_28 rfl (lv_at hl 3 rfl) ?_
    refine lv_tableIn (tgt := 95) S.1 S.2.1 d_SF_runOnFile_29 (by decide) (by decide) rfl (by decide) ?_
    refine lv_aload_n S.1 S.2.1 d_SF_runOnFile_95 rfl (lv_at hl 2 rfl) ?_
    refine gh_get S hI h0 rfl i_SF 4 (by decide) wi_74 rfl d_SF_runOnFile_96 ?_
    refine lv_aload_n S.1 S.2.1 d_SF_runOnFile_99 rfl (lv_at hl 2 rfl) ?_
    refine gh_get S hI h0 rfl i_SF 1 (by decide) wi_71 rfl d_SF_runOnFile_100 ?_
    refine gc_Vi S hI (c_Shelf_remove l P f (U := gUS a V) s1 n1 n2 n3 (by omega) hUo s3) kv_Shelf_remove wi_311 s1.1 rfl rfl rfl hl.1 rfl (Nat.le_of_ble_eq_true rfl) ⟨Nat.le_of_ble_eq_true rfl, Nat.le_of_ble_eq_true rfl⟩ ⟨Nat.le_of_ble_eq_true rfl, Nat.le_of_ble_eq_true rfl⟩ d_SF_runOnFile_103 (fun r356 f357 H locs hp358 hI => ?_)
    rw [hfx, n5] at hp358
    rcases hp358 with ⟨z1, -, -⟩ | ⟨k9, x9, z1, z2, -, ow1, SP1, e2v, c2v, e3v, c3v, z3, z4, z5⟩
    · rw [hix] at z1; cases z1
    · skip
      rw [hix] at z1; injection z1 with z1; subst z1
      rw [hx1] at z2; injection z2 with z2; subst z2
      have hse := sum_er (F := fun q => cntL (af q).2.2.2.1 19) hx1
      have hfin := gSF.sh h z5 ⟨ow1, _, _, SP1, e1, c1, e2v, c2v, e3v, c3v, af, z3, map_er af L k, by unfold sumC at s3 ⊢; omega⟩
      rw [s2] at hfin
      refine lv_pop S.1 S.2.1 d_SF_runOnFile_106 rfl ?_
      refine lv_iload S.1 S.2.1 d_SF_runOnFile_107 (lv_at hl 0 rfl) ?_
      exact gr_i S hr hlk hI (by rw [oRemove_s hix hgD]; exact ⟨rfl, hfin⟩) d_SF_runOnFile_109
set_option maxHeartbeats 4000000 in
set_option maxRecDepth 100000 in
theorem c_SF_runOnFile8 (l : Launch) (P : gPar) (f : gM) {a : Nat} {st : ASt} {V : Nat → Prop} {aa bb : Int32} (h : gSF P f a (aIn st)) (hV : gUo f V) (hVa : ∀ c, V c → a + 14 ≤ c) : gC l P y_SF_runOnFile b_SF_runOnFile 6 (some .int) 11 20 6000 [.ref a, .int (nI 8), .int aa, .int bb] f (gQi P (fun r f1 => r = (oSize st).1 ∧ gSF P f1 a (aAft st (oSize st)) ∧ gFU f f1 V)) := by
  refine gC_of (by decide) (Nat.le_of_ble_eq_true rfl) (fun p env s m args below meth c S hr hlk hnm H locs hI ls hl => ?_)
  have hl : lv_has ls 6 [(0, .ref a), (1, .int (nI 8)), (2, .int aa), (3, .int bb)] := hl
  have hz0 := gB_z hI
  have h34 := gX_34 hI.1
  have h0 : f a = some (.inr (0, [.ref (a + 1), .ref (a + 3), .ref (a + 5), .ref (a + 7), .ref (a + 9), .int (nI (st.2.2.2.2.1 + 1))])) := h.1
  obtain ⟨gt, t1, t2, t3, t4, t5⟩ := h.2.1
  replace t1 : f (a + 1) = some (.inr (1, [.ref (a + 2), .int (nI st.1.length)])) := t1
  replace t2 : f (a + 2) = some (.inl (P.2.1 0, 2048, .inl gt)) := t2
  replace t3 : st.1.length ≤ 2048 := t3
  replace t5 : nmL st.1.length gt = st.1 := t5
  obtain ⟨gn, n1, n2, n3, n4, n5⟩ := h.2.2.1
  replace n1 : f (a + 3) = some (.inr (1, [.ref (a + 4), .int (nI st.2.1.length)])) := n1
  replace n2 : f (a + 4) = some (.inl (P.2.1 0, 200, .inl gn)) := n2
  replace n3 : st.2.1.length ≤ 200 := n3
  replace n5 : nmL st.2.1.length gn = st.2.1 := n5
  obtain ⟨gm, m1, m2, m3, m4, m5⟩ := h.2.2.2.1
  replace m1 : f (a + 5) = some (.inr (1, [.ref (a + 6), .int (nI st.2.2.1.length)])) := m1
  replace m2 : f (a + 6) = some (.inl (P.2.1 0, 200, .inl gm)) := m2
  replace m3 : st.2.2.1.length ≤ 200 := m3
  replace m5 : nmL st.2.2.1.length gm = st.2.2.1 := m5
  obtain ⟨gd, d1, d2, d3, d4, d5⟩ := h.2.2.2.2.1
  replace d1 : f (a + 7) = some (.inr (1, [.ref (a + 8), .int (nI 0)])) := d1
  replace d2 : f (a + 8) = some (.inl (P.2.1 0, 2048, .inl gd)) := d2
  obtain ⟨ow, L, SF, SP, e1, c1, e2, c2, e3, c3, af, s1, s2, s3⟩ := h.2.2.2.2.2
  replace s2 : L.map af = st.2.2.2.2.2 := s2
  have hlL : L.length ≤ 48 := by have := s1.2.2.2.2.2.2.2.2.1; omega
  have hfx : nms af L = fN st.2.2.2.2.2 := by rw [← s2, fN_L]
  have hlF : st.2.2.2.2.2.length = L.length := by rw [← s2, List.length_map]
  have hndL := (List.nodup_append.mp s1.2.2.2.2.2.2.2.1).1
  have hUo := h.uo hV
  have hfB : fB st.2.2.2.2.2 = sumB af L := by rw [← s2, fB_L]
  refine lv_aload_n S.1 S.2.1 d_SF_runOnFile_0 rfl (lv_at hl 0 rfl) ?_
  refine gh_get S hI h0 rfl i_SF 4 (by decide) wi_74 rfl d_SF_runOnFile_1 ?_
  refine lv_aload_n S.1 S.2.1 d_SF_runOnFile_4 rfl (lv_at hl 0 rfl) ?_
  refine gh_get S hI h0 rfl i_SF 1 (by decide) wi_71 rfl d_SF_runOnFile_5 ?_
  refine gc_Vq S hI (c_Shelf_find l P f s1 n1 n2 n3 (by omega)) kv_Shelf_find wi_128 s1.1 rfl rfl rfl hl.1 rfl (Nat.le_of_ble_eq_true rfl) ⟨Nat.le_of_ble_eq_true rfl, Nat.le_of_ble_eq_true rfl⟩ ⟨Nat.le_of_ble_eq_true rfl, Nat.le_of_ble_eq_true rfl⟩ d_SF_runOnFile_8 (fun r359 f360 H locs hp361 hI => ?_)
  obtain ⟨hp1, hp2⟩ := hp361
  rw [hp2] at hI
  rw [hfx, n5] at hp1
  rcases hix : idx (fN st.2.2.2.2.2) st.2.1 with _ | k
  · skip
    replace hp1 : r359 = none := by rw [hp1, hix]; rfl
    rw [show va_rf r359 = .null from by rw [hp1]; rfl]
    refine lv_astoreN (lv' := [(4, .null), (0, .ref a), (1, .int (nI 8)), (2, .int aa), (3, .int bb)]) S.1 S.2.1 d_SF_runOnFile_11 hl (by decide) rfl (fun ls hl => ?_)
    refine lv_aloadN S.1 S.2.1 d_SF_runOnFile_13 (lv_at hl 0 rfl) ?_
    refine lv_ifnonnullN S.1 S.2.1 d_SF_runOnFile_15 ?_
    refine lv_bipush (v := (-2)) S.1 S.2.1 d_SF_runOnFile_18 (by decide) ?_
    refine W.widen (k := 20) (n := 6000) (by omega) (by omega) ?_
    exact gr_i S hr hlk hI (by rw [oSize_n hix]; exact ⟨rfl, h, gFU.rf⟩) d_SF_runOnFile_20
  · skip
    obtain ⟨x, hx1, hx2, hx3⟩ := idx_get (af := af) (L := L) (nm := st.2.1) (k := k) (by rw [hfx]; exact hix)
    replace hp1 : r359 = some x := by rw [hp1, hix]; exact hx1
    have hgD : st.2.2.2.2.2.getD k (fNew [] 0) = af x := by rw [← s2]; exact getD_map hx1
    have xfi := (s1.2.2.2.2.2.1 x hx3).1
    have xw := (s1.2.2.2.2.2.1 x hx3).2
    obtain ⟨nx, gx, psx, x0, x1, x2, x3, x4, x5, x6, x7⟩ := id xfi
    rw [show va_rf r359 = .ref x from by rw [hp1]; rfl]
    refine lv_astore (lv' := [(4, .ref x), (0, .ref a), (1, .int (nI 8)), (2, .int aa), (3, .int bb)]) S.1 S.2.1 d_SF_runOnFile_11 hl (by decide) rfl (fun ls hl => ?_)
    refine lv_aload S.1 S.2.1 d_SF_runOnFile_13 (lv_at hl 0 rfl) ?_
    refine lv_ifnonnull (tgt := 21) S.1 S.2.1 d_SF_runOnFile_15 (by decide) ?_
    refine lv_aload S.1 S.2.1 d_SF_runOnFile_21 (lv_at hl 0 rfl) ?_
    refine gc_Vi S hI (c_File_length l P f x0) kv_File_length wi_263 x0 rfl rfl rfl hl.1 rfl (Nat.le_of_ble_eq_true rfl) ⟨Nat.le_of_ble_eq_true rfl, Nat.le_of_ble_eq_true rfl⟩ ⟨Nat.le_of_ble_eq_true rfl, Nat.le_of_ble_eq_true rfl⟩ d_SF_runOnFile_23 (fun r362 f363 H locs hp364 hI => ?_)
    obtain ⟨hp1, hp2⟩ := hp364
    subst hp1
    rw [hp2] at hI
    refine lv_istore (lv' := [(5, .int (nI ((af x).2.2.1))), (4, .ref x), (0, .ref a), (1, .int (nI 8)), (2, .int aa), (3, .int bb)]) S.1 S.2.1 d_SF_runOnFile_26 hl (by decide) rfl (fun ls hl => ?_)
    refine lv_iload_n S.1 S.2.1 d_SF_runOnFile_28 rfl (lv_at hl 3 rfl) ?_
    refine lv_tableIn (tgt := 110) S.1 S.2.1 d_SF_runOnFile_29 (by decide) (by decide) rfl (by decide) ?_
    refine lv_iload S.1 S.2.1 d_SF_runOnFile_110 (lv_at hl 0 rfl) ?_
    refine W.widen (k := 20) (n := 6000) (by omega) (by omega) ?_
    exact gr_i S hr hlk hI (by rw [oSize_s hix hgD]; exact ⟨rfl, h, gFU.rf⟩) d_SF_runOnFile_112
set_option maxHeartbeats 4000000 in
set_option maxRecDepth 100000 in
theorem c_SF_renameFile (l : Launch) (P : gPar) (f : gM) {a : Nat} {st : ASt} {V : Nat → Prop} (h : gSF P f a (aIn st)) (hV : gUo f V) (hVa : ∀ c, V c → a + 14 ≤ c) : gC l P y_SF_renameFile b_SF_renameFile 2 (some .int) 11 21 6300 [.ref a] f (gQi P (fun r f1 => r = (oRename st).1 ∧ gSF P f1 a (aAft st (oRename st)) ∧ gFU f f1 V)) := by
  refine gC_of (by decide) (Nat.le_of_ble_eq_true rfl) (fun p env s m args below meth c S hr hlk hnm H locs hI ls hl => ?_)
  have hl : lv_has ls 2 [(0, .ref a)] := hl
  have hz0 := gB_z hI
  have h34 := gX_34 hI.1
  have h0 : f a = some (.inr (0, [.ref (a + 1), .ref (a + 3), .ref (a + 5), .ref (a + 7), .ref (a + 9), .int (nI (st.2.2.2.2.1 + 1))])) := h.1
  obtain ⟨gt, t1, t2, t3, t4, t5⟩ := h.2.1
  replace t1 : f (a + 1) = some (.inr (1, [.ref (a + 2), .int (nI st.1.length)])) := t1
  replace t2 : f (a + 2) = some (.inl (P.2.1 0, 2048, .inl gt)) := t2
  replace t3 : st.1.length ≤ 2048 := t3
  replace t5 : nmL st.1.length gt = st.1 := t5
  obtain ⟨gn, n1, n2, n3, n4, n5⟩ := h.2.2.1
  replace n1 : f (a + 3) = some (.inr (1, [.ref (a + 4), .int (nI st.2.1.length)])) := n1
  replace n2 : f (a + 4) = some (.inl (P.2.1 0, 200, .inl gn)) := n2
  replace n3 : st.2.1.length ≤ 200 := n3
  replace n5 : nmL st.2.1.length gn = st.2.1 := n5
  obtain ⟨gm, m1, m2, m3, m4, m5⟩ := h.2.2.2.1
  replace m1 : f (a + 5) = some (.inr (1, [.ref (a + 6), .int (nI st.2.2.1.length)])) := m1
  replace m2 : f (a + 6) = some (.inl (P.2.1 0, 200, .inl gm)) := m2
  replace m3 : st.2.2.1.length ≤ 200 := m3
  replace m5 : nmL st.2.2.1.length gm = st.2.2.1 := m5
  obtain ⟨gd, d1, d2, d3, d4, d5⟩ := h.2.2.2.2.1
  replace d1 : f (a + 7) = some (.inr (1, [.ref (a + 8), .int (nI 0)])) := d1
  replace d2 : f (a + 8) = some (.inl (P.2.1 0, 2048, .inl gd)) := d2
  obtain ⟨ow, L, SF, SP, e1, c1, e2, c2, e3, c3, af, s1, s2, s3⟩ := h.2.2.2.2.2
  replace s2 : L.map af = st.2.2.2.2.2 := s2
  have hlL : L.length ≤ 48 := by have := s1.2.2.2.2.2.2.2.2.1; omega
  have hfx : nms af L = fN st.2.2.2.2.2 := by rw [← s2, fN_L]
  have hlF : st.2.2.2.2.2.length = L.length := by rw [← s2, List.length_map]
  have hndL := (List.nodup_append.mp s1.2.2.2.2.2.2.2.1).1
  have hUo := h.uo hV
  have hfB : fB st.2.2.2.2.2 = sumB af L := by rw [← s2, fB_L]
  refine lv_aload_n S.1 S.2.1 d_SF_renameFile_0 rfl (lv_at hl 0 rfl) ?_
  refine gh_get S hI h0 rfl i_SF 4 (by decide) wi_74 rfl d_SF_renameFile_1 ?_
  refine lv_aload_n S.1 S.2.1 d_SF_renameFile_4 rfl (lv_at hl 0 rfl) ?_
  refine gh_get S hI h0 rfl i_SF 1 (by decide) wi_71 rfl d_SF_renameFile_5 ?_
  refine gc_Vq S hI (c_Shelf_find l P f s1 n1 n2 n3 (by omega)) kv_Shelf_find wi_128 s1.1 rfl rfl rfl hl.1 rfl (Nat.le_of_ble_eq_true rfl) ⟨Nat.le_of_ble_eq_true rfl, Nat.le_of_ble_eq_true rfl⟩ ⟨Nat.le_of_ble_eq_true rfl, Nat.le_of_ble_eq_true rfl⟩ d_SF_renameFile_8 (fun r365 f366 H locs hp367 hI => ?_)
  obtain ⟨hp1, hp2⟩ := hp367
  rw [hp2] at hI
  rw [hfx, n5] at hp1
  rcases hix : idx (fN st.2.2.2.2.2) st.2.1 with _ | k
  · skip
    replace hp1 : r365 = none := by rw [hp1, hix]; rfl
    rw [show va_rf r365 = .null from by rw [hp1]; rfl]
    refine lv_ifnonnullN S.1 S.2.1 d_SF_renameFile_11 ?_
    refine lv_bipush (v := (-2)) S.1 S.2.1 d_SF_renameFile_14 (by decide) ?_
    refine W.widen (k := 21) (n := 6300) (by omega) (by omega) ?_
    exact gr_i S hr hlk hI (by rw [oRename_n hix]; exact ⟨rfl, h, gFU.rf⟩) d_SF_renameFile_16
  · skip
    obtain ⟨x, hx1, hx2, hx3⟩ := idx_get (af := af) (L := L) (nm := st.2.1) (k := k) (by rw [hfx]; exact hix)
    replace hp1 : r365 = some x := by rw [hp1, hix]; exact hx1
    have hgD : st.2.2.2.2.2.getD k (fNew [] 0) = af x := by rw [← s2]; exact getD_map hx1
    have xfi := (s1.2.2.2.2.2.1 x hx3).1
    have xw := (s1.2.2.2.2.2.1 x hx3).2
    obtain ⟨nx, gx, psx, x0, x1, x2, x3, x4, x5, x6, x7⟩ := id xfi
    rw [show va_rf r365 = .ref x from by rw [hp1]; rfl]
    refine lv_ifnonnull (tgt := 17) S.1 S.2.1 d_SF_renameFile_11 (by decide) ?_
    refine lv_aload_n S.1 S.2.1 d_SF_renameFile_17 rfl (lv_at hl 0 rfl) ?_
    refine gh_get S hI h0 rfl i_SF 1 (by decide) wi_71 rfl d_SF_renameFile_18 ?_
    refine lv_aload_n S.1 S.2.1 d_SF_renameFile_21 rfl (lv_at hl 0 rfl) ?_
    refine gh_get S hI h0 rfl i_SF 2 (by decide) wi_72 rfl d_SF_renameFile_22 ?_
    refine gc_Vi S hI (c_Row_compareWith l P f n1 n2 m1 m2 n3 m3 (by omega) (by omega)) kv_Row_compareWith wi_310 n1 rfl rfl rfl hl.1 rfl (Nat.le_of_ble_eq_true rfl) ⟨Nat.le_of_ble_eq_true rfl, Nat.le_of_ble_eq_true rfl⟩ ⟨Nat.le_of_ble_eq_true rfl, Nat.le_of_ble_eq_true rfl⟩ d_SF_renameFile_25 (fun r368 f369 H locs hp370 hI => ?_)
    obtain ⟨hcm, hc2⟩ := hp370
    rw [hc2] at hI
    rw [n5, m5] at hcm
    refine lv_if_ne (tgt := 33) S.1 S.2.1 d_SF_renameFile_28 (by decide) (fun c371 => ?_) (fun c371 => ?_)
    · skip
      have hne : st.2.1 ≠ st.2.2.1 := fun z => c371 (hcm.eq.mpr z)
      refine lv_aload_n S.1 S.2.1 d_SF_renameFile_33 rfl (lv_at hl 0 rfl) ?_
      refine gh_get S hI h0 rfl i_SF 4 (by decide) wi_74 rfl d_SF_renameFile_34 ?_
      refine lv_aload_n S.1 S.2.1 d_SF_renameFile_37 rfl (lv_at hl 0 rfl) ?_
      refine gh_get S hI h0 rfl i_SF 2 (by decide) wi_72 rfl d_SF_renameFile_38 ?_
      refine gc_Vi S hI (c_Shelf_remove l P f (U := gUS a V) s1 m1 m2 m3 (by omega) hUo s3) kv_Shelf_remove wi_311 s1.1 rfl rfl rfl hl.1 rfl (Nat.le_of_ble_eq_true rfl) ⟨Nat.le_of_ble_eq_true rfl, Nat.le_of_ble_eq_true rfl⟩ ⟨by show _ ≤ 21; omega, by show _ ≤ 6300; omega⟩ d_SF_renameFile_41 (fun r372 f373 H locs hp374 hI => ?_)
      rw [hfx, m5] at hp374
      rcases hp374 with ⟨z1, z2, z3⟩ | ⟨j, x9, z1, z2, z0, ow1, SP1, e2v, c2v, e3v, c3v, z3, z4, z5⟩
      · subst z2; rw [z3] at hI
        have kh0 := h0
        have kn1 := n1
        have kn2 := n2
        have km1 := m1
        have km2 := m2
        refine lv_istore_n (lv' := [(1, .int (nI 0)), (0, .ref a)]) S.1 S.2.1 d_SF_renameFile_44 rfl hl (by decide) rfl (fun ls hl => ?_)
        refine lv_aload_n S.1 S.2.1 d_SF_renameFile_45 rfl (lv_at hl 1 rfl) ?_
        refine gh_get S hI kh0 rfl i_SF 4 (by decide) wi_74 rfl d_SF_renameFile_46 ?_
        refine lv_aload_n S.1 S.2.1 d_SF_renameFile_49 rfl (lv_at hl 1 rfl) ?_
        refine gh_get S hI kh0 rfl i_SF 1 (by decide) wi_71 rfl d_SF_renameFile_50 ?_
        refine lv_aload_n S.1 S.2.1 d_SF_renameFile_53 rfl (lv_at hl 1 rfl) ?_
        refine gh_get S hI kh0 rfl i_SF 2 (by decide) wi_72 rfl d_SF_renameFile_54 ?_
        refine gc_Vv S hI (c_Shelf_rename l P f (U := gUS a V) (k := k) s1 kn1 kn2 n3 (by omega) km1 km2 m3 (by omega) m4 m3 (Or.inl ⟨by omega, by omega⟩) (Or.inl ⟨by omega, by omega⟩) hUo (by rw [n5]; exact (hfx ▸ hix))) kv_Shelf_rename wi_341 s1.1 rfl rfl rfl hl.1 rfl (Nat.le_of_ble_eq_true rfl) ⟨Nat.le_of_ble_eq_true rfl, Nat.le_of_ble_eq_true rfl⟩ ⟨by show _ ≤ 21; omega, by show _ ≤ 6300; omega⟩ d_SF_renameFile_57 (fun f376 H locs hp377 hI => ?_)
        obtain ⟨y, y1, e1v, c1v, y2, y3⟩ := hp377
        rw [m5] at y2
        rw [hx1] at y1; injection y1 with y1; subst y1
        have hxE := nodup_er hndL hx1
        have hpl : plc (nms af (L.eraseIdx k)) st.2.2.1 ≤ (L.eraseIdx k).length := by have := plc_le (nms af (L.eraseIdx k)) st.2.2.1; rw [show (nms af (L.eraseIdx k)).length = (L.eraseIdx k).length by simp [nms]] at this; exact this
        have hse := sum_er (F := fun q => cntL (af q).2.2.2.1 19) hx1
        have hpn : nms af (L.eraseIdx k) = fN (st.2.2.2.2.2.eraseIdx k) := by rw [← s2, ← map_er, fN_L]
        have hfin := gSF.sh h y3 (FS := fIns (st.2.2.2.2.2.eraseIdx k) (st.2.2.1, (st.2.2.2.2.2.getD k (fNew [] 0)).2)) ⟨ow, _, SF, SP, e1v, c1v, e2, c2, e3, c3, _, y2, by rw [map_ins_up hxE, map_er, s2, hgD, hpn]; rfl, by unfold sumC at s3 ⊢; rw [sumG_ins (G := fun w => cntL w.2.2.2.1 19) hxE hpl]; dsimp only; omega⟩
        refine lv_iload_n S.1 S.2.1 d_SF_renameFile_60 rfl (lv_at hl 0 rfl) ?_
        refine lv_if_eq (tgt := 68) S.1 S.2.1 d_SF_renameFile_61 (by decide) (fun c378 => ?_) (fun c378 => ?_)
        · skip
          replace c378 : 0 = 0 := (nI_eq (a := 0) (b := 0) (by omega) (by omega)).mp c378
          refine lv_iconst (v := nI 0) S.1 S.2.1 d_SF_renameFile_68 (by decide) ?_
          refine W.widen (k := 21) (n := 6300) (by omega) (by omega) ?_
          exact gr_i S hr hlk hI (by rw [oRename_0 hix hne z1]; exact ⟨rfl, hfin⟩) d_SF_renameFile_69
        · skip
          replace c378 : ¬ 0 = 0 := fun z => c378 ((nI_eq (a := 0) (b := 0) (by omega) (by omega)).mpr z)
          exact absurd c378 (by omega)
      · subst z0
        have kh0 := z5 a _ (Or.inl ⟨by omega, by omega⟩) h0
        have kn1 := z5 (a + 3) _ (Or.inl ⟨by omega, by omega⟩) n1
        have kn2 := z5 (a + 4) _ (Or.inl ⟨by omega, by omega⟩) n2
        have km1 := z5 (a + 5) _ (Or.inl ⟨by omega, by omega⟩) m1
        have km2 := z5 (a + 6) _ (Or.inl ⟨by omega, by omega⟩) m2
        have hUo1 := hUo.to z5
        have hjk : j ≠ k := fun q => by
          have q1 := (idx_lt z1).2.2
          have q2 := (idx_lt hix).2.2
          rw [q, q2] at q1; injection q1 with q1; exact hne q1
        have hpn1 : nms af (L.eraseIdx j) = (fN st.2.2.2.2.2).eraseIdx j := by rw [← hfx]; exact map_er _ L j
        have hi1 : idx (nms af (L.eraseIdx j)) st.2.1 = some (if j < k then k - 1 else k) := by rw [hpn1]; exact idx_er hix hjk
        obtain ⟨k1, hk1⟩ : ∃ q, q = (if j < k then k - 1 else k) := ⟨_, rfl⟩
        rw [← hk1] at hi1
        refine lv_istore_n (lv' := [(1, .int (nI 1)), (0, .ref a)]) S.1 S.2.1 d_SF_renameFile_44 rfl hl (by decide) rfl (fun ls hl => ?_)
        refine lv_aload_n S.1 S.2.1 d_SF_renameFile_45 rfl (lv_at hl 1 rfl) ?_
        refine gh_get S hI kh0 rfl i_SF 4 (by decide) wi_74 rfl d_SF_renameFile_46 ?_
        refine lv_aload_n S.1 S.2.1 d_SF_renameFile_49 rfl (lv_at hl 1 rfl) ?_
        refine gh_get S hI kh0 rfl i_SF 1 (by decide) wi_71 rfl d_SF_renameFile_50 ?_
        refine lv_aload_n S.1 S.2.1 d_SF_renameFile_53 rfl (lv_at hl 1 rfl) ?_
        refine gh_get S hI kh0 rfl i_SF 2 (by decide) wi_72 rfl d_SF_renameFile_54 ?_
        refine gc_Vv S hI (c_Shelf_rename l P f373 (U := gUS a V) (k := k1) z3 kn1 kn2 n3 (by omega) km1 km2 m3 (by omega) m4 m3 (Or.inl ⟨by omega, by omega⟩) (Or.inl ⟨by omega, by omega⟩) hUo1 (by rw [n5]; exact hi1)) kv_Shelf_rename wi_341 z3.1 rfl rfl rfl hl.1 rfl (Nat.le_of_ble_eq_true rfl) ⟨Nat.le_of_ble_eq_true rfl, Nat.le_of_ble_eq_true rfl⟩ ⟨by show _ ≤ 21; omega, by show _ ≤ 6300; omega⟩ d_SF_renameFile_57 (fun f380 H locs hp381 hI => ?_)
        obtain ⟨y, y1, e1v, c1v, y2, y3⟩ := hp381
        rw [m5] at y2
        have hndE := (List.nodup_append.mp z3.2.2.2.2.2.2.2.1).1
        have hxE := nodup_er hndE y1
        have hpl : plc (nms af ((L.eraseIdx j).eraseIdx k1)) st.2.2.1 ≤ ((L.eraseIdx j).eraseIdx k1).length := by have := plc_le (nms af ((L.eraseIdx j).eraseIdx k1)) st.2.2.1; rw [show (nms af ((L.eraseIdx j).eraseIdx k1)).length = ((L.eraseIdx j).eraseIdx k1).length by simp [nms]] at this; exact this
        have hse := sum_er (F := fun q => cntL (af q).2.2.2.1 19) y1
        have hse2 := sum_er (F := fun q => cntL (af q).2.2.2.1 19) z2
        have hgD1 : (st.2.2.2.2.2.eraseIdx j).getD k1 (fNew [] 0) = af y := by rw [← s2, ← map_er]; exact getD_map y1
        have hpn2 : nms af ((L.eraseIdx j).eraseIdx k1) = fN ((st.2.2.2.2.2.eraseIdx j).eraseIdx k1) := by rw [← s2, ← map_er, ← map_er, fN_L]
        have hfn : fN (st.2.2.2.2.2.eraseIdx j) = nms af (L.eraseIdx j) := by rw [← s2, ← map_er, fN_L]
        have hfin := gSF.sh h (z5.trans y3) (FS := fIns ((st.2.2.2.2.2.eraseIdx j).eraseIdx k1) (st.2.2.1, ((st.2.2.2.2.2.eraseIdx j).getD k1 (fNew [] 0)).2)) ⟨ow1, _, _, SP1, e1v, c1v, e2v, c2v, e3v, c3v, _, y2, by rw [map_ins_up hxE, map_er, map_er, s2, hgD1, hpn2]; rfl, by unfold sumC at s3 ⊢; rw [sumG_ins (G := fun w => cntL w.2.2.2.1 19) hxE hpl]; dsimp only; omega⟩
        refine lv_iload_n S.1 S.2.1 d_SF_renameFile_60 rfl (lv_at hl 0 rfl) ?_
        refine lv_if_eq (tgt := 68) S.1 S.2.1 d_SF_renameFile_61 (by decide) (fun c382 => ?_) (fun c382 => ?_)
        · skip
          replace c382 : 1 = 0 := (nI_eq (a := 1) (b := 0) (by omega) (by omega)).mp c382
          exact absurd c382 (by omega)
        · skip
          replace c382 : ¬ 1 = 0 := fun z => c382 ((nI_eq (a := 1) (b := 0) (by omega) (by omega)).mpr z)
          refine lv_iconst (v := nI 1) S.1 S.2.1 d_SF_renameFile_64 (by decide) ?_
          refine lv_goto (tgt := 69) S.1 S.2.1 d_SF_renameFile_65 (by decide) ?_
          exact gr_i S hr hlk hI (by rw [oRename_1 hix hne z1 (by rw [hfn]; exact hi1)]; exact ⟨rfl, hfin⟩) d_SF_renameFile_69
    · skip
      refine lv_iconst (v := nI 0) S.1 S.2.1 d_SF_renameFile_31 (by decide) ?_
      refine W.widen (k := 21) (n := 6300) (by omega) (by omega) ?_
      exact gr_i S hr hlk hI (by rw [oRename_e hix (hcm.eq.mp c371)]; exact ⟨rfl, h, gFU.rf⟩) d_SF_renameFile_32
set_option maxHeartbeats 4000000 in
set_option maxRecDepth 100000 in
theorem c_SF_swapFiles (l : Launch) (P : gPar) (f : gM) {a : Nat} {st : ASt} {V : Nat → Prop} (h : gSF P f a (aIn st)) (hV : gUo f V) (hVa : ∀ c, V c → a + 14 ≤ c) : gC l P y_SF_swapFiles b_SF_swapFiles 1 (some .int) 6 0 0 [.ref a] f (gQi P (fun r f1 => r = (oSwap st).1 ∧ gSF P f1 a (aAft st (oSwap st)) ∧ gFU f f1 V)) := by
  refine gC_of (by decide) (Nat.le_of_ble_eq_true rfl) (fun p env s m args below meth c S hr hlk hnm H locs hI ls hl => ?_)
  have hl : lv_has ls 1 [(0, .ref a)] := hl
  have hz0 := gB_z hI
  have h34 := gX_34 hI.1
  have h0 : f a = some (.inr (0, [.ref (a + 1), .ref (a + 3), .ref (a + 5), .ref (a + 7), .ref (a + 9), .int (nI (st.2.2.2.2.1 + 1))])) := h.1
  obtain ⟨gt, t1, t2, t3, t4, t5⟩ := h.2.1
  replace t1 : f (a + 1) = some (.inr (1, [.ref (a + 2), .int (nI st.1.length)])) := t1
  replace t2 : f (a + 2) = some (.inl (P.2.1 0, 2048, .inl gt)) := t2
  replace t3 : st.1.length ≤ 2048 := t3
  replace t5 : nmL st.1.length gt = st.1 := t5
  obtain ⟨gn, n1, n2, n3, n4, n5⟩ := h.2.2.1
  replace n1 : f (a + 3) = some (.inr (1, [.ref (a + 4), .int (nI st.2.1.length)])) := n1
  replace n2 : f (a + 4) = some (.inl (P.2.1 0, 200, .inl gn)) := n2
  replace n3 : st.2.1.length ≤ 200 := n3
  replace n5 : nmL st.2.1.length gn = st.2.1 := n5
  obtain ⟨gm, m1, m2, m3, m4, m5⟩ := h.2.2.2.1
  replace m1 : f (a + 5) = some (.inr (1, [.ref (a + 6), .int (nI st.2.2.1.length)])) := m1
  replace m2 : f (a + 6) = some (.inl (P.2.1 0, 200, .inl gm)) := m2
  replace m3 : st.2.2.1.length ≤ 200 := m3
  replace m5 : nmL st.2.2.1.length gm = st.2.2.1 := m5
  obtain ⟨gd, d1, d2, d3, d4, d5⟩ := h.2.2.2.2.1
  replace d1 : f (a + 7) = some (.inr (1, [.ref (a + 8), .int (nI 0)])) := d1
  replace d2 : f (a + 8) = some (.inl (P.2.1 0, 2048, .inl gd)) := d2
  obtain ⟨ow, L, SF, SP, e1, c1, e2, c2, e3, c3, af, s1, s2, s3⟩ := h.2.2.2.2.2
  replace s2 : L.map af = st.2.2.2.2.2 := s2
  have hlL : L.length ≤ 48 := by have := s1.2.2.2.2.2.2.2.2.1; omega
  have hfx : nms af L = fN st.2.2.2.2.2 := by rw [← s2, fN_L]
  have hlF : st.2.2.2.2.2.length = L.length := by rw [← s2, List.length_map]
  have hndL := (List.nodup_append.mp s1.2.2.2.2.2.2.2.1).1
  have hUo := h.uo hV
  have hfB : fB st.2.2.2.2.2 = sumB af L := by rw [← s2, fB_L]
  refine lv_aload_n S.1 S.2.1 d_SF_swapFiles_0 rfl (lv_at hl 0 rfl) ?_
  refine gh_get S hI h0 rfl i_SF 4 (by decide) wi_74 rfl d_SF_swapFiles_1 ?_
  refine lv_aload_n S.1 S.2.1 d_SF_swapFiles_4 rfl (lv_at hl 0 rfl) ?_
  refine gh_get S hI h0 rfl i_SF 1 (by decide) wi_71 rfl d_SF_swapFiles_5 ?_
  refine lv_aload_n S.1 S.2.1 d_SF_swapFiles_8 rfl (lv_at hl 0 rfl) ?_
  refine gh_get S hI h0 rfl i_SF 2 (by decide) wi_72 rfl d_SF_swapFiles_9 ?_
  refine gc_Vi S hI (c_Shelf_swap l P f (U := gUS a V) s1 n1 n2 n3 (by omega) n4 n3 (Or.inl ⟨by omega, by omega⟩) (Or.inl ⟨by omega, by omega⟩) m1 m2 m3 (by omega) m4 m3 (Or.inl ⟨by omega, by omega⟩) (Or.inl ⟨by omega, by omega⟩) hUo) kv_Shelf_swap wi_349 s1.1 rfl rfl rfl hl.1 rfl (Nat.le_of_ble_eq_true rfl) ⟨Nat.le_of_ble_eq_true rfl, Nat.le_of_ble_eq_true rfl⟩ ⟨Nat.le_of_ble_eq_true rfl, Nat.le_of_ble_eq_true rfl⟩ d_SF_swapFiles_12 (fun r383 f384 H locs hp385 hI => ?_)
  rw [hfx, n5, m5] at hp385
  rcases hp385 with ⟨z1, z2, z3⟩ | ⟨i, j, x, y, z1, z2, z3, z4, z0, z5, z6⟩
  · subst z2; rw [z3] at hI
    refine lv_if_eq (tgt := 22) S.1 S.2.1 d_SF_swapFiles_15 (by decide) (fun c386 => ?_) (fun c386 => ?_)
    · skip
      replace c386 : 0 = 0 := (nI_eq (a := 0) (b := 0) (by omega) (by omega)).mp c386
      refine lv_bipush (v := (-2)) S.1 S.2.1 d_SF_swapFiles_22 (by decide) ?_
      exact gr_i S hr hlk hI (by rw [oSwap_n z1]; exact ⟨rfl, h, gFU.rf⟩) d_SF_swapFiles_24
    · skip
      replace c386 : ¬ 0 = 0 := fun z => c386 ((nI_eq (a := 0) (b := 0) (by omega) (by omega)).mpr z)
      exact absurd c386 (by omega)
  · subst z0
    have hgi : st.2.2.2.2.2.getD i (fNew [] 0) = af x := by rw [← s2]; exact getD_map z3
    have hgj : st.2.2.2.2.2.getD j (fNew [] 0) = af y := by rw [← s2]; exact getD_map z4
    obtain ⟨x9, q1, q2, q3⟩ := idx_get (af := af) (L := L) (nm := st.2.1) (k := i) (by rw [hfx]; exact z1)
    rw [z3] at q1; injection q1 with q1; subst q1
    obtain ⟨y9, p1, p2, p3⟩ := idx_get (af := af) (L := L) (nm := st.2.2.1) (k := j) (by rw [hfx]; exact z2)
    rw [z4] at p1; injection p1 with p1; subst p1
    have hmp := map_sw hndL z3 z4 q2 p2
    rw [s2] at hmp
    have hcn : SP.length + sumC (va_up (va_up af x (st.2.2.1, (af x).2)) y (st.2.1, (va_up af x (st.2.2.1, (af x).2) y).2)) ((L.set i y).set j x) ≤ 121 := by
      rw [← fC_L, hmp, ← s2]
      unfold fC
      rw [List.map_set, List.map_set, sum_sw (p := cntL (af x).2.2.2.1 19) (q := cntL (af y).2.2.2.1 19) (by simp [z3]) (by simp [z4])]
      unfold sumC at s3
      rw [List.map_map]; exact s3
    have hfin := gSF.sh h z6 ⟨ow, _, SF, SP, e1, c1, e2, c2, e3, c3, _, z5, hmp, hcn⟩
    refine lv_if_eq (tgt := 22) S.1 S.2.1 d_SF_swapFiles_15 (by decide) (fun c387 => ?_) (fun c387 => ?_)
    · skip
      replace c387 : 1 = 0 := (nI_eq (a := 1) (b := 0) (by omega) (by omega)).mp c387
      exact absurd c387 (by omega)
    · skip
      replace c387 : ¬ 1 = 0 := fun z => c387 ((nI_eq (a := 1) (b := 0) (by omega) (by omega)).mpr z)
      refine lv_iconst (v := nI 0) S.1 S.2.1 d_SF_swapFiles_18 (by decide) ?_
      refine lv_goto (tgt := 24) S.1 S.2.1 d_SF_swapFiles_19 (by decide) ?_
      exact gr_i S hr hlk hI (by rw [oSwap_s z1 z2, hgi, hgj]; exact ⟨rfl, hfin⟩) d_SF_swapFiles_24
theorem oNext_n {st : ASt} (h : st.2.2.2.2.2[if (fN st.2.2.2.2.2)[plc (fN st.2.2.2.2.2) st.2.1]? = some st.2.1 then plc (fN st.2.2.2.2.2) st.2.1 + 1 else plc (fN st.2.2.2.2.2) st.2.1]? = none) : oNext st = (-2, [], st.1, st.2.2.2.2.2) := by simp only [oNext, h]
theorem oNext_s {st : ASt} {v : AFile} (h : st.2.2.2.2.2[if (fN st.2.2.2.2.2)[plc (fN st.2.2.2.2.2) st.2.1]? = some st.2.1 then plc (fN st.2.2.2.2.2) st.2.1 + 1 else plc (fN st.2.2.2.2.2) st.2.1]? = some v) : oNext st = (nI v.1.length, v.1, st.1, st.2.2.2.2.2) := by simp only [oNext, h]
set_option maxHeartbeats 4000000 in
set_option maxRecDepth 100000 in
theorem c_SF_tellNextName (l : Launch) (P : gPar) (f : gM) {a : Nat} {st : ASt} {V : Nat → Prop} (h : gSF P f a (aIn st)) (hV : gUo f V) (hVa : ∀ c, V c → a + 14 ≤ c) : gC l P y_SF_tellNextName b_SF_tellNextName 2 (some .int) 5 0 0 [.ref a] f (gQi P (fun r f1 => r = (oNext st).1 ∧ gSF P f1 a (aAft st (oNext st)) ∧ gFU f f1 V)) := by
  refine gC_of (by decide) (Nat.le_of_ble_eq_true rfl) (fun p env s m args below meth c S hr hlk hnm H locs hI ls hl => ?_)
  have hl : lv_has ls 2 [(0, .ref a)] := hl
  have hz0 := gB_z hI
  have h34 := gX_34 hI.1
  have h0 : f a = some (.inr (0, [.ref (a + 1), .ref (a + 3), .ref (a + 5), .ref (a + 7), .ref (a + 9), .int (nI (st.2.2.2.2.1 + 1))])) := h.1
  obtain ⟨gt, t1, t2, t3, t4, t5⟩ := h.2.1
  replace t1 : f (a + 1) = some (.inr (1, [.ref (a + 2), .int (nI st.1.length)])) := t1
  replace t2 : f (a + 2) = some (.inl (P.2.1 0, 2048, .inl gt)) := t2
  replace t3 : st.1.length ≤ 2048 := t3
  replace t5 : nmL st.1.length gt = st.1 := t5
  obtain ⟨gn, n1, n2, n3, n4, n5⟩ := h.2.2.1
  replace n1 : f (a + 3) = some (.inr (1, [.ref (a + 4), .int (nI st.2.1.length)])) := n1
  replace n2 : f (a + 4) = some (.inl (P.2.1 0, 200, .inl gn)) := n2
  replace n3 : st.2.1.length ≤ 200 := n3
  replace n5 : nmL st.2.1.length gn = st.2.1 := n5
  obtain ⟨gm, m1, m2, m3, m4, m5⟩ := h.2.2.2.1
  replace m1 : f (a + 5) = some (.inr (1, [.ref (a + 6), .int (nI st.2.2.1.length)])) := m1
  replace m2 : f (a + 6) = some (.inl (P.2.1 0, 200, .inl gm)) := m2
  replace m3 : st.2.2.1.length ≤ 200 := m3
  replace m5 : nmL st.2.2.1.length gm = st.2.2.1 := m5
  obtain ⟨gd, d1, d2, d3, d4, d5⟩ := h.2.2.2.2.1
  replace d1 : f (a + 7) = some (.inr (1, [.ref (a + 8), .int (nI 0)])) := d1
  replace d2 : f (a + 8) = some (.inl (P.2.1 0, 2048, .inl gd)) := d2
  obtain ⟨ow, L, SF, SP, e1, c1, e2, c2, e3, c3, af, s1, s2, s3⟩ := h.2.2.2.2.2
  replace s2 : L.map af = st.2.2.2.2.2 := s2
  have hlL : L.length ≤ 48 := by have := s1.2.2.2.2.2.2.2.2.1; omega
  have hfx : nms af L = fN st.2.2.2.2.2 := by rw [← s2, fN_L]
  have hlF : st.2.2.2.2.2.length = L.length := by rw [← s2, List.length_map]
  have hndL := (List.nodup_append.mp s1.2.2.2.2.2.2.2.1).1
  have hUo := h.uo hV
  have hfB : fB st.2.2.2.2.2 = sumB af L := by rw [← s2, fB_L]
  refine lv_aload_n S.1 S.2.1 d_SF_tellNextName_0 rfl (lv_at hl 0 rfl) ?_
  refine gh_get S hI h0 rfl i_SF 4 (by decide) wi_74 rfl d_SF_tellNextName_1 ?_
  refine lv_aload_n S.1 S.2.1 d_SF_tellNextName_4 rfl (lv_at hl 0 rfl) ?_
  refine gh_get S hI h0 rfl i_SF 1 (by decide) wi_71 rfl d_SF_tellNextName_5 ?_
  refine gc_Vq S hI (c_Shelf_findAfter l P f s1 n1 n2 n3 (by omega)) kv_Shelf_findAfter wi_360 s1.1 rfl rfl rfl hl.1 rfl (Nat.le_of_ble_eq_true rfl) ⟨Nat.le_of_ble_eq_true rfl, Nat.le_of_ble_eq_true rfl⟩ ⟨Nat.le_of_ble_eq_true rfl, Nat.le_of_ble_eq_true rfl⟩ d_SF_tellNextName_8 (fun r388 f389 H locs hp390 hI => ?_)
  obtain ⟨hp1, hp2⟩ := hp390
  rw [hp2] at hI
  rw [hfx, n5] at hp1
  obtain ⟨q, hq⟩ : ∃ q, q = (if (fN st.2.2.2.2.2)[plc (fN st.2.2.2.2.2) st.2.1]? = some st.2.1 then plc (fN st.2.2.2.2.2) st.2.1 + 1 else plc (fN st.2.2.2.2.2) st.2.1) := ⟨_, rfl⟩
  rw [← hq] at hp1
  have hFq : st.2.2.2.2.2[q]? = (L[q]?).map af := by rw [← s2, List.getElem?_map]
  rcases hLq : L[q]? with _ | x
  · rw [hLq] at hp1 hFq
    rw [show va_rf r388 = .null from by rw [hp1]; rfl]
    refine lv_astore_nN (lv' := [(1, .null), (0, .ref a)]) S.1 S.2.1 d_SF_tellNextName_11 rfl hl (by decide) rfl (fun ls hl => ?_)
    refine lv_aload_nN S.1 S.2.1 d_SF_tellNextName_12 rfl (lv_at hl 0 rfl) ?_
    refine lv_ifnonnullN S.1 S.2.1 d_SF_tellNextName_13 ?_
    refine lv_bipush (v := (-2)) S.1 S.2.1 d_SF_tellNextName_16 (by decide) ?_
    exact gr_i S hr hlk hI (by rw [oNext_n (by rw [← hq]; exact hFq)]; exact ⟨rfl, h, gFU.rf⟩) d_SF_tellNextName_18
  · rw [hLq] at hp1 hFq
    have hx3 := List.mem_of_getElem? hLq
    have xfi := (s1.2.2.2.2.2.1 x hx3).1
    have xw := (s1.2.2.2.2.2.1 x hx3).2
    obtain ⟨nx, gx, psx, x0, x1, x2, x3, x4, x5, x6, x7⟩ := id xfi
    rw [show va_rf r388 = .ref x from by rw [hp1]; rfl]
    refine lv_astore_n (lv' := [(1, .ref x), (0, .ref a)]) S.1 S.2.1 d_SF_tellNextName_11 rfl hl (by decide) rfl (fun ls hl => ?_)
    refine lv_aload_n S.1 S.2.1 d_SF_tellNextName_12 rfl (lv_at hl 0 rfl) ?_
    refine lv_ifnonnull (tgt := 19) S.1 S.2.1 d_SF_tellNextName_13 (by decide) ?_
    refine lv_aload_n S.1 S.2.1 d_SF_tellNextName_19 rfl (lv_at hl 1 rfl) ?_
    refine gh_get S hI h0 rfl i_SF 3 (by decide) wi_73 rfl d_SF_tellNextName_20 ?_
    refine lv_aload_n S.1 S.2.1 d_SF_tellNextName_23 rfl (lv_at hl 0 rfl) ?_
    refine gc_Vr S hI (c_File_title l P f x0) kv_File_title wi_364 x0 rfl rfl rfl hl.1 rfl (Nat.le_of_ble_eq_true rfl) ⟨Nat.le_of_ble_eq_true rfl, Nat.le_of_ble_eq_true rfl⟩ ⟨Nat.le_of_ble_eq_true rfl, Nat.le_of_ble_eq_true rfl⟩ d_SF_tellNextName_24 (fun r391 f392 H locs hp393 hI => ?_)
    obtain ⟨ht1, ht2⟩ := hp393
    subst ht1
    rw [ht2] at hI
    have hnt := hUo.nt x0 x1
    refine gc_Vv S hI (c_Row_become l P f d1 d2 x1 x2 (fun z => hnt (by rw [← z]; exact (Or.inl ⟨by omega, by omega⟩))) (fun z => hnt (by rw [show x + 1 = a + 7 by omega]; exact (Or.inl ⟨by omega, by omega⟩))) x4 (by omega) (by omega) (by omega) x5) kv_Row_become wi_103 d1 rfl rfl rfl hl.1 rfl (Nat.le_of_ble_eq_true rfl) ⟨Nat.le_of_ble_eq_true rfl, Nat.le_of_ble_eq_true rfl⟩ ⟨Nat.le_of_ble_eq_true rfl, Nat.le_of_ble_eq_true rfl⟩ d_SF_tellNextName_27 (fun f395 H locs hp396 hI => ?_)
    obtain ⟨w1, w2, w5⟩ := hp396
    have el : (af x).1.length = nx := by rw [← x6, nmL_len]
    have hfin := gSF.shd (T := (af x).1) h hV hVa hz0 w5 ⟨_, by rw [el]; exact w1, w2, by rw [el]; omega, sb_fitC x5 d4, by rw [el, nmL_cpy]; exact x6⟩
    have kh0 := w5 a _ h0 (nm2 (by omega) (by omega))
    refine lv_aload_n S.1 S.2.1 d_SF_tellNextName_30 rfl (lv_at hl 1 rfl) ?_
    refine gh_get S hI kh0 rfl i_SF 3 (by decide) wi_73 rfl d_SF_tellNextName_31 ?_
    refine gc_Vi S hI (c_Row_length l P f395 w1) kv_Row_length wi_80 w1 rfl rfl rfl hl.1 rfl (Nat.le_of_ble_eq_true rfl) ⟨Nat.le_of_ble_eq_true rfl, Nat.le_of_ble_eq_true rfl⟩ ⟨Nat.le_of_ble_eq_true rfl, Nat.le_of_ble_eq_true rfl⟩ d_SF_tellNextName_34 (fun r397 f398 H locs hp399 hI => ?_)
    obtain ⟨hp1, hp2⟩ := hp399
    subst hp1
    rw [hp2] at hI
    exact gr_i S hr hlk hI (by rw [oNext_s (by rw [← hq]; exact hFq)]; exact ⟨by show nI nx = nI (af x).1.length; rw [el], hfin⟩) d_SF_tellNextName_37
set_option maxHeartbeats 4000000 in
set_option maxRecDepth 100000 in
theorem c_SF_run (l : Launch) (P : gPar) (f : gM) {a : Nat} {st : ASt} {V : Nat → Prop} {kd aa bb : Int32} (h : gSF P f a st) (hV : gUo f V) (hVa : ∀ c, V c → a + 14 ≤ c) : gC l P y_SF_run b_SF_run 5 (some .int) 12 43 9057 [.ref a, .int kd, .int aa, .int bb] f (gQi P (fun r f1 => r = (aRun st kd aa bb).1 ∧ gSF P f1 a (aRun st kd aa bb).2 ∧ gFU f f1 V)) := by
  refine gC_of (by decide) (Nat.le_of_ble_eq_true rfl) (fun p env s m args below meth c S hr hlk hnm H locs hI ls hl => ?_)
  have hl : lv_has ls 5 [(0, .ref a), (1, .int kd), (2, .int aa), (3, .int bb)] := hl
  have h0 : f a = some (.inr (0, [.ref (a + 1), .ref (a + 3), .ref (a + 5), .ref (a + 7), .ref (a + 9), .int (nI st.2.2.2.2.1)])) := h.1
  obtain ⟨gd, d1, d2, d3, d4, d5⟩ := h.2.2.2.2.1
  replace d1 : f (a + 7) = some (.inr (1, [.ref (a + 8), .int (nI st.2.2.2.1.length)])) := d1
  replace d2 : f (a + 8) = some (.inl (P.2.1 0, 2048, .inl gd)) := d2
  replace d3 : st.2.2.2.1.length ≤ 2048 := d3
  replace d5 : nmL st.2.2.2.1.length gd = st.2.2.2.1 := d5
  have hz0 := gB_z hI
  refine lv_aload_n S.1 S.2.1 d_SF_run_0 rfl (lv_at hl 0 rfl) ?_
  refine lv_iload_n S.1 S.2.1 d_SF_run_1 rfl (lv_at hl 1 rfl) ?_
  refine lv_iload_n S.1 S.2.1 d_SF_run_2 rfl (lv_at hl 2 rfl) ?_
  refine lv_iload_n S.1 S.2.1 d_SF_run_3 rfl (lv_at hl 3 rfl) ?_
  refine gc_Vi S hI (c_SF_isRefused l P f (kd := kd) (aa := aa) (bb := bb) h) kv_SF_isRefused wi_118 h0 rfl rfl rfl hl.1 rfl (Nat.le_of_ble_eq_true rfl) ⟨Nat.le_of_ble_eq_true rfl, Nat.le_of_ble_eq_true rfl⟩ ⟨Nat.le_of_ble_eq_true rfl, Nat.le_of_ble_eq_true rfl⟩ d_SF_run_4 (fun r400 f401 H locs hp402 hI => ?_)
  obtain ⟨hp1, hp2⟩ := hp402
  rw [hp2] at hI
  rcases hp1 with ⟨hrf, hr1⟩ | ⟨hrf, hr1⟩
  · subst hr1
    refine lv_if_eq (tgt := 12) S.1 S.2.1 d_SF_run_7 (by decide) (fun c403 => ?_) (fun c403 => ?_)
    · skip
      replace c403 : 1 = 0 := (nI_eq (a := 1) (b := 0) (by omega) (by omega)).mp c403
      exact absurd c403 (by omega)
    · skip
      replace c403 : ¬ 1 = 0 := fun z => c403 ((nI_eq (a := 1) (b := 0) (by omega) (by omega)).mpr z)
      refine lv_iconst (v := (-1)) S.1 S.2.1 d_SF_run_10 (by decide) ?_
      refine W.widen (k := 43) (n := 9057) (by omega) (by omega) ?_
      exact gr_i S hr hlk hI (by rw [aRun_ref hrf]; exact ⟨rfl, h, gFU.rf⟩) d_SF_run_11
  · subst hr1
    refine lv_if_eq (tgt := 12) S.1 S.2.1 d_SF_run_7 (by decide) (fun c404 => ?_) (fun c404 => ?_)
    · skip
      replace c404 : 0 = 0 := (nI_eq (a := 0) (b := 0) (by omega) (by omega)).mp c404
      refine lv_aload_n S.1 S.2.1 d_SF_run_12 rfl (lv_at hl 0 rfl) ?_
      refine gh_get S hI h0 rfl i_SF 5 (by decide) wi_75 rfl d_SF_run_13 ?_
      refine lv_istore (lv' := [(4, .int (nI st.2.2.2.2.1)), (0, .ref a), (1, .int kd), (2, .int aa), (3, .int bb)]) S.1 S.2.1 d_SF_run_16 hl (by decide) rfl (fun ls hl => ?_)
      refine lv_aload_n S.1 S.2.1 d_SF_run_18 rfl (lv_at hl 1 rfl) ?_
      refine lv_aload_n S.1 S.2.1 d_SF_run_19 rfl (lv_at hl 1 rfl) ?_
      refine gh_get S hI h0 rfl i_SF 5 (by decide) wi_75 rfl d_SF_run_20 ?_
      refine lv_iconst (v := nI 1) S.1 S.2.1 d_SF_run_23 (by decide) ?_
      refine lv_iadd S.1 S.2.1 d_SF_run_24 ?_
      refine lv_topi (fun v405 ev405 => ?_)
      replace ev405 : v405 = nI (st.2.2.2.2.1 + 1) := ev405.trans (nI_add _ _)
      subst ev405
      refine gh_put S hI h0 rfl i_SF t_SF tk_SF n_SF 5 (by decide) wi_75 rfl rfl rfl (Nat.le_of_ble_eq_true rfl) d_SF_run_25 (fun H locs hI => ?_)
      have hI : gB P (va_up f a (some (.inr (0, [.ref (a + 1), .ref (a + 3), .ref (a + 5), .ref (a + 7), .ref (a + 9), .int (nI (st.2.2.2.2.1 + 1))])))) s H locs := hI
      obtain ⟨f406, ef406⟩ : ∃ z, z = va_up f a (some (.inr (0, [.ref (a + 1), .ref (a + 3), .ref (a + 5), .ref (a + 7), .ref (a + 9), .int (nI (st.2.2.2.2.1 + 1))]))) := ⟨_, rfl⟩
      rw [← ef406] at hI
      have h407 : f406 (a + 7) = some (.inr (1, [.ref (a + 8), .int (nI st.2.2.2.1.length)])) := by rw [ef406, va_up_ne _ _ (by omega)]; exact d1
      have h408 : f406 a = some (.inr (0, [.ref (a + 1), .ref (a + 3), .ref (a + 5), .ref (a + 7), .ref (a + 9), .int (nI (st.2.2.2.2.1 + 1))])) := by rw [ef406]; exact va_up_self _ _ _
      refine lv_aload_n S.1 S.2.1 d_SF_run_28 rfl (lv_at hl 1 rfl) ?_
      refine gh_get S hI h408 rfl i_SF 3 (by decide) wi_73 rfl d_SF_run_29 ?_
      refine lv_iconst (v := nI 0) S.1 S.2.1 d_SF_run_32 (by decide) ?_
      refine gc_Vv S hI (c_Row_shorten l P f406 (k := 0) h407) kv_Row_shorten wi_95 h407 rfl rfl rfl hl.1 rfl (Nat.le_of_ble_eq_true rfl) ⟨Nat.le_of_ble_eq_true rfl, Nat.le_of_ble_eq_true rfl⟩ ⟨Nat.le_of_ble_eq_true rfl, Nat.le_of_ble_eq_true rfl⟩ d_SF_run_33 (fun f410 H locs hp411 hI => ?_)
      have hin := gSF.inn h hV hVa hz0 ef406 hp411
      have h := hin.1
      have hFU0 := hin.2
      have hV := hV.to hFU0
      refine lv_iload_n S.1 S.2.1 d_SF_run_36 rfl (lv_at hl 2 rfl) ?_
      have hrg : ¬ (kd < 0 ∨ 9 < kd) := fun z => hrf (Or.inl z)
      obtain ⟨u, hu, hu2⟩ := nI_of (fun z => hrg (Or.inl z))
      have hu3 : u ≤ 9 := (nI_leI (b := 9) (by omega) (by omega)).mp (by rw [← hu2]; exact Int32.not_lt.mp (fun z => hrg (Or.inr z)))
      subst hu2
      have hA : (nI u = 1 ∨ nI u = 3 ∨ nI u = 4) → ∃ an, an ≤ 8192 ∧ aa = nI an ∧ aa.toNatClampNeg = an := by
        intro z
        have z2 : ¬ (aa < 0 ∨ 8192 < aa) := fun q => hrf (Or.inr (Or.inr (Or.inr (Or.inl ⟨z, q⟩))))
        obtain ⟨an, q1, q2⟩ := nI_of (fun q => z2 (Or.inl q))
        exact ⟨an, (nI_leI (b := 8192) (by omega) (by omega)).mp (by rw [← q2]; exact Int32.not_lt.mp (fun q => z2 (Or.inr q))), q2, by rw [q2]; exact nI_clamp q1⟩
      have hB : nI u = 4 → ∃ bn, bn ≤ 2048 ∧ bb = nI bn ∧ bb.toNatClampNeg = bn := by
        intro z
        have z2 : ¬ (bb < 0 ∨ 2048 < bb) := fun q => hrf (Or.inr (Or.inr (Or.inr (Or.inr ⟨z, q⟩))))
        obtain ⟨bn, q1, q2⟩ := nI_of (fun q => z2 (Or.inl q))
        exact ⟨bn, (nI_leI (b := 2048) (by omega) (by omega)).mp (by rw [← q2]; exact Int32.not_lt.mp (fun q => z2 (Or.inr q))), q2, by rw [q2]; exact nI_clamp q1⟩
      rcases (show u = 0 ∨ u = 1 ∨ u = 2 ∨ u = 3 ∨ u = 4 ∨ u = 5 ∨ u = 6 ∨ u = 7 ∨ u = 8 ∨ u = 9 by omega) with e | e | e | e | e | e | e | e | e | e <;> subst e
      · skip
        refine lv_tableIn (tgt := 92) S.1 S.2.1 d_SF_run_37 (by decide) (by decide) rfl (by decide) ?_
        have eo : aOp st (nI 0) aa bb = oMake st := by unfold aOp; rw [if_pos (show (nI 0 : Int32) = 0 by decide)]
        refine lv_aload_n S.1 S.2.1 d_SF_run_92 rfl (lv_at hl 1 rfl) ?_
        refine lv_iload S.1 S.2.1 d_SF_run_93 (lv_at hl 0 rfl) ?_
        refine gc_Vi S hI (c_SF_makeFile l P f410 h hV hVa) kv_SF_makeFile wi_125 h.1 rfl rfl rfl hl.1 rfl (Nat.le_of_ble_eq_true rfl) ⟨Nat.le_of_ble_eq_true rfl, Nat.le_of_ble_eq_true rfl⟩ ⟨Nat.le_of_ble_eq_true rfl, Nat.le_of_ble_eq_true rfl⟩ d_SF_run_95 (fun r412 f413 H locs hp414 hI => ?_)
        obtain ⟨k1, k2, k3⟩ := hp414
        rw [← eo] at k1 k2
        refine W.widen (k := 43) (n := 9057) (by omega) (by omega) ?_
        exact gr_i S hr hlk hI (by rw [aRun_op hrf]; exact ⟨k1, k2, hFU0.trans k3⟩) d_SF_run_98
      · skip
        obtain ⟨an, hAn, ea, ea2⟩ := hA (by decide)
        subst ea
        refine lv_tableIn (tgt := 99) S.1 S.2.1 d_SF_run_37 (by decide) (by decide) rfl (by decide) ?_
        have eo : aOp st (nI 1) (nI an) bb = oWrite st false an := by unfold aOp; rw [if_neg (show ¬ (nI 1 : Int32) = 0 by decide), if_pos (show (nI 1 : Int32) = 1 by decide), ea2]
        refine lv_aload_n S.1 S.2.1 d_SF_run_99 rfl (lv_at hl 1 rfl) ?_
        refine lv_iload_n S.1 S.2.1 d_SF_run_100 rfl (lv_at hl 2 rfl) ?_
        refine lv_iload_n S.1 S.2.1 d_SF_run_101 rfl (lv_at hl 3 rfl) ?_
        refine lv_iload S.1 S.2.1 d_SF_run_102 (lv_at hl 0 rfl) ?_
        refine gc_Vi S hI (c_SF_writeTape1 l P f410 h hV hVa hAn) kv_SF_writeTape wi_260 h.1 rfl rfl rfl hl.1 rfl (Nat.le_of_ble_eq_true rfl) ⟨Nat.le_of_ble_eq_true rfl, Nat.le_of_ble_eq_true rfl⟩ ⟨Nat.le_of_ble_eq_true rfl, Nat.le_of_ble_eq_true rfl⟩ d_SF_run_104 (fun r415 f416 H locs hp417 hI => ?_)
        obtain ⟨k1, k2, k3⟩ := hp417
        rw [← eo] at k1 k2
        exact gr_i S hr hlk hI (by rw [aRun_op hrf]; exact ⟨k1, k2, hFU0.trans k3⟩) d_SF_run_107
      · skip
        refine lv_tableIn (tgt := 99) S.1 S.2.1 d_SF_run_37 (by decide) (by decide) rfl (by decide) ?_
        have eo : aOp st (nI 2) aa bb = oWrite st true 0 := by unfold aOp; rw [if_neg (show ¬ (nI 2 : Int32) = 0 by decide), if_neg (show ¬ (nI 2 : Int32) = 1 by decide), if_pos (show (nI 2 : Int32) = 2 by decide)]
        refine lv_aload_n S.1 S.2.1 d_SF_run_99 rfl (lv_at hl 1 rfl) ?_
        refine lv_iload_n S.1 S.2.1 d_SF_run_100 rfl (lv_at hl 2 rfl) ?_
        refine lv_iload_n S.1 S.2.1 d_SF_run_101 rfl (lv_at hl 3 rfl) ?_
        refine lv_iload S.1 S.2.1 d_SF_run_102 (lv_at hl 0 rfl) ?_
        refine gc_Vi S hI (c_SF_writeTape2 l P f410 (an := 0) h hV hVa) kv_SF_writeTape wi_260 h.1 rfl rfl rfl hl.1 rfl (Nat.le_of_ble_eq_true rfl) ⟨Nat.le_of_ble_eq_true rfl, Nat.le_of_ble_eq_true rfl⟩ ⟨Nat.le_of_ble_eq_true rfl, Nat.le_of_ble_eq_true rfl⟩ d_SF_run_104 (fun r418 f419 H locs hp420 hI => ?_)
        obtain ⟨k1, k2, k3⟩ := hp420
        rw [← eo] at k1 k2
        exact gr_i S hr hlk hI (by rw [aRun_op hrf]; exact ⟨k1, k2, hFU0.trans k3⟩) d_SF_run_107
      · skip
        obtain ⟨an, hAn, ea, ea2⟩ := hA (by decide)
        subst ea
        refine lv_tableIn (tgt := 123) S.1 S.2.1 d_SF_run_37 (by decide) (by decide) rfl (by decide) ?_
        have eo : aOp st (nI 3) (nI an) bb = oCut st an := by unfold aOp; rw [if_neg (show ¬ (nI 3 : Int32) = 0 by decide), if_neg (show ¬ (nI 3 : Int32) = 1 by decide), if_neg (show ¬ (nI 3 : Int32) = 2 by decide), if_pos (show (nI 3 : Int32) = 3 by decide), ea2]
        refine lv_aload_n S.1 S.2.1 d_SF_run_123 rfl (lv_at hl 1 rfl) ?_
        refine lv_iload_n S.1 S.2.1 d_SF_run_124 rfl (lv_at hl 2 rfl) ?_
        refine lv_iload_n S.1 S.2.1 d_SF_run_125 rfl (lv_at hl 3 rfl) ?_
        refine lv_iload_n S.1 S.2.1 d_SF_run_126 rfl (lv_at hl 4 rfl) ?_
        refine gc_Vi S hI (c_SF_runOnFile3 l P f410 h hV hVa hAn) kv_SF_runOnFile wi_365 h.1 rfl rfl rfl hl.1 rfl (Nat.le_of_ble_eq_true rfl) ⟨Nat.le_of_ble_eq_true rfl, Nat.le_of_ble_eq_true rfl⟩ ⟨Nat.le_of_ble_eq_true rfl, Nat.le_of_ble_eq_true rfl⟩ d_SF_run_127 (fun r421 f422 H locs hp423 hI => ?_)
        obtain ⟨k1, k2, k3⟩ := hp423
        rw [← eo] at k1 k2
        refine W.widen (k := 43) (n := 9057) (by omega) (by omega) ?_
        exact gr_i S hr hlk hI (by rw [aRun_op hrf]; exact ⟨k1, k2, hFU0.trans k3⟩) d_SF_run_130
      · skip
        obtain ⟨an, hAn, ea, ea2⟩ := hA (by decide)
        subst ea
        obtain ⟨bn, hBn, eb, eb2⟩ := hB (by decide)
        subst eb
        refine lv_tableIn (tgt := 123) S.1 S.2.1 d_SF_run_37 (by decide) (by decide) rfl (by decide) ?_
        have eo : aOp st (nI 4) (nI an) (nI bn) = oRead st an bn := by unfold aOp; rw [if_neg (show ¬ (nI 4 : Int32) = 0 by decide), if_neg (show ¬ (nI 4 : Int32) = 1 by decide), if_neg (show ¬ (nI 4 : Int32) = 2 by decide), if_neg (show ¬ (nI 4 : Int32) = 3 by decide), if_pos (show (nI 4 : Int32) = 4 by decide), ea2, eb2]
        refine lv_aload_n S.1 S.2.1 d_SF_run_123 rfl (lv_at hl 1 rfl) ?_
        refine lv_iload_n S.1 S.2.1 d_SF_run_124 rfl (lv_at hl 2 rfl) ?_
        refine lv_iload_n S.1 S.2.1 d_SF_run_125 rfl (lv_at hl 3 rfl) ?_
        refine lv_iload_n S.1 S.2.1 d_SF_run_126 rfl (lv_at hl 4 rfl) ?_
        refine gc_Vi S hI (c_SF_runOnFile4 l P f410 h hV hVa hAn hBn) kv_SF_runOnFile wi_365 h.1 rfl rfl rfl hl.1 rfl (Nat.le_of_ble_eq_true rfl) ⟨Nat.le_of_ble_eq_true rfl, Nat.le_of_ble_eq_true rfl⟩ ⟨Nat.le_of_ble_eq_true rfl, Nat.le_of_ble_eq_true rfl⟩ d_SF_run_127 (fun r424 f425 H locs hp426 hI => ?_)
        obtain ⟨k1, k2, k3⟩ := hp426
        rw [← eo] at k1 k2
        refine W.widen (k := 43) (n := 9057) (by omega) (by omega) ?_
        exact gr_i S hr hlk hI (by rw [aRun_op hrf]; exact ⟨k1, k2, hFU0.trans k3⟩) d_SF_run_130
      · skip
        refine lv_tableIn (tgt := 123) S.1 S.2.1 d_SF_run_37 (by decide) (by decide) rfl (by decide) ?_
        have eo : aOp st (nI 5) aa bb = oRemove st := by unfold aOp; rw [if_neg (show ¬ (nI 5 : Int32) = 0 by decide), if_neg (show ¬ (nI 5 : Int32) = 1 by decide), if_neg (show ¬ (nI 5 : Int32) = 2 by decide), if_neg (show ¬ (nI 5 : Int32) = 3 by decide), if_neg (show ¬ (nI 5 : Int32) = 4 by decide), if_pos (show (nI 5 : Int32) = 5 by decide)]
        refine lv_aload_n S.1 S.2.1 d_SF_run_123 rfl (lv_at hl 1 rfl) ?_
        refine lv_iload_n S.1 S.2.1 d_SF_run_124 rfl (lv_at hl 2 rfl) ?_
        refine lv_iload_n S.1 S.2.1 d_SF_run_125 rfl (lv_at hl 3 rfl) ?_
        refine lv_iload_n S.1 S.2.1 d_SF_run_126 rfl (lv_at hl 4 rfl) ?_
        refine gc_Vi S hI (c_SF_runOnFile5 l P f410 h hV hVa) kv_SF_runOnFile wi_365 h.1 rfl rfl rfl hl.1 rfl (Nat.le_of_ble_eq_true rfl) ⟨Nat.le_of_ble_eq_true rfl, Nat.le_of_ble_eq_true rfl⟩ ⟨Nat.le_of_ble_eq_true rfl, Nat.le_of_ble_eq_true rfl⟩ d_SF_run_127 (fun r427 f428 H locs hp429 hI => ?_)
        obtain ⟨k1, k2, k3⟩ := hp429
        rw [← eo] at k1 k2
        refine W.widen (k := 43) (n := 9057) (by omega) (by omega) ?_
        exact gr_i S hr hlk hI (by rw [aRun_op hrf]; exact ⟨k1, k2, hFU0.trans k3⟩) d_SF_run_130
      · skip
        refine lv_tableIn (tgt := 108) S.1 S.2.1 d_SF_run_37 (by decide) (by decide) rfl (by decide) ?_
        have eo : aOp st (nI 6) aa bb = oRename st := by unfold aOp; rw [if_neg (show ¬ (nI 6 : Int32) = 0 by decide), if_neg (show ¬ (nI 6 : Int32) = 1 by decide), if_neg (show ¬ (nI 6 : Int32) = 2 by decide), if_neg (show ¬ (nI 6 : Int32) = 3 by decide), if_neg (show ¬ (nI 6 : Int32) = 4 by decide), if_neg (show ¬ (nI 6 : Int32) = 5 by decide), if_pos (show (nI 6 : Int32) = 6 by decide)]
        refine lv_aload_n S.1 S.2.1 d_SF_run_108 rfl (lv_at hl 1 rfl) ?_
        refine gc_Vi S hI (c_SF_renameFile l P f410 h hV hVa) kv_SF_renameFile wi_307 h.1 rfl rfl rfl hl.1 rfl (Nat.le_of_ble_eq_true rfl) ⟨Nat.le_of_ble_eq_true rfl, Nat.le_of_ble_eq_true rfl⟩ ⟨Nat.le_of_ble_eq_true rfl, Nat.le_of_ble_eq_true rfl⟩ d_SF_run_109 (fun r430 f431 H locs hp432 hI => ?_)
        obtain ⟨k1, k2, k3⟩ := hp432
        rw [← eo] at k1 k2
        refine W.widen (k := 43) (n := 9057) (by omega) (by omega) ?_
        exact gr_i S hr hlk hI (by rw [aRun_op hrf]; exact ⟨k1, k2, hFU0.trans k3⟩) d_SF_run_112
      · skip
        refine lv_tableIn (tgt := 113) S.1 S.2.1 d_SF_run_37 (by decide) (by decide) rfl (by decide) ?_
        have eo : aOp st (nI 7) aa bb = oSwap st := by unfold aOp; rw [if_neg (show ¬ (nI 7 : Int32) = 0 by decide), if_neg (show ¬ (nI 7 : Int32) = 1 by decide), if_neg (show ¬ (nI 7 : Int32) = 2 by decide), if_neg (show ¬ (nI 7 : Int32) = 3 by decide), if_neg (show ¬ (nI 7 : Int32) = 4 by decide), if_neg (show ¬ (nI 7 : Int32) = 5 by decide), if_neg (show ¬ (nI 7 : Int32) = 6 by decide), if_pos (show (nI 7 : Int32) = 7 by decide)]
        refine lv_aload_n S.1 S.2.1 d_SF_run_113 rfl (lv_at hl 1 rfl) ?_
        refine gc_Vi S hI (c_SF_swapFiles l P f410 h hV hVa) kv_SF_swapFiles wi_346 h.1 rfl rfl rfl hl.1 rfl (Nat.le_of_ble_eq_true rfl) ⟨Nat.le_of_ble_eq_true rfl, Nat.le_of_ble_eq_true rfl⟩ ⟨Nat.le_of_ble_eq_true rfl, Nat.le_of_ble_eq_true rfl⟩ d_SF_run_114 (fun r433 f434 H locs hp435 hI => ?_)
        obtain ⟨k1, k2, k3⟩ := hp435
        rw [← eo] at k1 k2
        refine W.widen (k := 43) (n := 9057) (by omega) (by omega) ?_
        exact gr_i S hr hlk hI (by rw [aRun_op hrf]; exact ⟨k1, k2, hFU0.trans k3⟩) d_SF_run_117
      · skip
        refine lv_tableIn (tgt := 123) S.1 S.2.1 d_SF_run_37 (by decide) (by decide) rfl (by decide) ?_
        have eo : aOp st (nI 8) aa bb = oSize st := by unfold aOp; rw [if_neg (show ¬ (nI 8 : Int32) = 0 by decide), if_neg (show ¬ (nI 8 : Int32) = 1 by decide), if_neg (show ¬ (nI 8 : Int32) = 2 by decide), if_neg (show ¬ (nI 8 : Int32) = 3 by decide), if_neg (show ¬ (nI 8 : Int32) = 4 by decide), if_neg (show ¬ (nI 8 : Int32) = 5 by decide), if_neg (show ¬ (nI 8 : Int32) = 6 by decide), if_neg (show ¬ (nI 8 : Int32) = 7 by decide), if_pos (show (nI 8 : Int32) = 8 by decide)]
        refine lv_aload_n S.1 S.2.1 d_SF_run_123 rfl (lv_at hl 1 rfl) ?_
        refine lv_iload_n S.1 S.2.1 d_SF_run_124 rfl (lv_at hl 2 rfl) ?_
        refine lv_iload_n S.1 S.2.1 d_SF_run_125 rfl (lv_at hl 3 rfl) ?_
        refine lv_iload_n S.1 S.2.1 d_SF_run_126 rfl (lv_at hl 4 rfl) ?_
        refine gc_Vi S hI (c_SF_runOnFile8 l P f410 h hV hVa) kv_SF_runOnFile wi_365 h.1 rfl rfl rfl hl.1 rfl (Nat.le_of_ble_eq_true rfl) ⟨Nat.le_of_ble_eq_true rfl, Nat.le_of_ble_eq_true rfl⟩ ⟨Nat.le_of_ble_eq_true rfl, Nat.le_of_ble_eq_true rfl⟩ d_SF_run_127 (fun r436 f437 H locs hp438 hI => ?_)
        obtain ⟨k1, k2, k3⟩ := hp438
        rw [← eo] at k1 k2
        refine W.widen (k := 43) (n := 9057) (by omega) (by omega) ?_
        exact gr_i S hr hlk hI (by rw [aRun_op hrf]; exact ⟨k1, k2, hFU0.trans k3⟩) d_SF_run_130
      · skip
        refine lv_tableIn (tgt := 118) S.1 S.2.1 d_SF_run_37 (by decide) (by decide) rfl (by decide) ?_
        have eo : aOp st (nI 9) aa bb = oNext st := by unfold aOp; rw [if_neg (show ¬ (nI 9 : Int32) = 0 by decide), if_neg (show ¬ (nI 9 : Int32) = 1 by decide), if_neg (show ¬ (nI 9 : Int32) = 2 by decide), if_neg (show ¬ (nI 9 : Int32) = 3 by decide), if_neg (show ¬ (nI 9 : Int32) = 4 by decide), if_neg (show ¬ (nI 9 : Int32) = 5 by decide), if_neg (show ¬ (nI 9 : Int32) = 6 by decide), if_neg (show ¬ (nI 9 : Int32) = 7 by decide), if_neg (show ¬ (nI 9 : Int32) = 8 by decide)]
        refine lv_aload_n S.1 S.2.1 d_SF_run_118 rfl (lv_at hl 1 rfl) ?_
        refine gc_Vi S hI (c_SF_tellNextName l P f410 h hV hVa) kv_SF_tellNextName wi_357 h.1 rfl rfl rfl hl.1 rfl (Nat.le_of_ble_eq_true rfl) ⟨Nat.le_of_ble_eq_true rfl, Nat.le_of_ble_eq_true rfl⟩ ⟨Nat.le_of_ble_eq_true rfl, Nat.le_of_ble_eq_true rfl⟩ d_SF_run_119 (fun r439 f440 H locs hp441 hI => ?_)
        obtain ⟨k1, k2, k3⟩ := hp441
        rw [← eo] at k1 k2
        refine W.widen (k := 43) (n := 9057) (by omega) (by omega) ?_
        exact gr_i S hr hlk hI (by rw [aRun_op hrf]; exact ⟨k1, k2, hFU0.trans k3⟩) d_SF_run_122
    · skip
      replace c404 : ¬ 0 = 0 := fun z => c404 ((nI_eq (a := 0) (b := 0) (by omega) (by omega)).mpr z)
      exact absurd c404 (by omega)
