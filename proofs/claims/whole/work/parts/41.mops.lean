set_option maxHeartbeats 4000000 in
set_option maxRecDepth 100000 in
theorem c_Mdl_cut (l : Launch) (P : gPar) (f : gM) {b : Nat} {st : ASt} {an : Nat} (h : gMo P f b (aIn st)) (hw : wfS st.2.2.2.2.2) (hAn : an ≤ 8192) : gC l P y_Mdl_cut b_Mdl_cut 4 (some .int) 2 0 0 [.ref b, .int (nI an)] f (gQi P (fun r f1 => r = (oCut st an).1 ∧ gMo P f1 b (aAft st (oCut st an)) ∧ gFr f f1 [b, b + 1, b + 2, b + 3, b + 4, b + 5, b + 6, b + 7, b + 8, b + 9, b + 10, b + 11, b + 12])) := by
  refine gC_of (by decide) (Nat.le_of_ble_eq_true rfl) (fun p env s m args below meth c S hr hlk hnm H locs hI ls hl => ?_)
  have hl : lv_has ls 4 [(0, .ref b), (1, .int (nI an))] := hl
  obtain ⟨gt, gn, gl, go, gu, gf, gk, gi, gz, gy, ga, gd, L, af, ⟨hb, h1, h2, h3, h4, h5, h6, h7, h8, h9, h10, h11, h12⟩, ⟨ht1, ht2⟩, ⟨hn0, hn1⟩, -, hmF, hFS⟩ := id h
  have hd0 : mTold gd [] := ⟨by simp, fun i hi => absurd hi (by simp)⟩
  obtain ⟨hnd, hlL, hO, hU, hM⟩ := id hmF
  replace hb : f b = some (.inr (7, [.ref (b + 1), .int (nI st.1.length), .ref (b + 2), .ref (b + 3), .ref (b + 4), .ref (b + 5), .ref (b + 6), .ref (b + 7), .ref (b + 8), .ref (b + 9), .ref (b + 10), .ref (b + 11), .int (nI L.length), .int (nI (fB st.2.2.2.2.2)), .int (nI (st.2.2.2.2.1 + 1)), .ref (b + 12), .int (nI 0)])) := hb
  replace ht1 : st.1.length ≤ 2048 := ht1
  replace ht2 : nmL st.1.length gt = st.1 := ht2
  replace hn0 : mNk gn gl 0 st.2.1 := hn0
  replace hn1 : mNk gn gl 1 st.2.2.1 := hn1
  replace hFS : L.map af = st.2.2.2.2.2 := hFS
  have hlF : st.2.2.2.2.2.length = L.length := by rw [← hFS, List.length_map]
  have hnF : nms af L = fN st.2.2.2.2.2 := by rw [← hFS, fN_L]
  have hs : srt (nms af L) := by rw [hnF]; exact hw.1
  have hN : ∀ q ∈ L, q < 48 ∧ mNk gf gk q (af q).1 := fun q hq => ⟨(hM q hq).1, (hM q hq).2.1⟩
  have hWf : ∀ q ∈ L, wfF (af q).2.2.1 (af q).2.2.2.1 (af q).2.2.2.2 := fun q hq => hw.2.2 _ (by rw [← hFS]; exact List.mem_map.mpr ⟨q, hq, rfl⟩)
  have hfB := hw.2.1
  have hle : ∀ q ∈ L, (af q).2.2.1 ≤ fB st.2.2.2.2.2 := fun q hq => fB_le (by rw [← hFS]; exact List.mem_map.mpr ⟨q, hq, rfl⟩)
  refine lv_aload_n S.1 S.2.1 d_Mdl_cut_0 rfl (lv_at hl 0 rfl) ?_
  refine lv_iconst (v := nI 0) S.1 S.2.1 d_Mdl_cut_1 (by decide) ?_
  refine gc_Vi S hI (c_Mdl_find l P f (k := 0) (nm := st.2.1) (af := af) hb h2 h3 h4 h6 h7 hO hN hlL (by omega) hn0 hs) kv_Mdl_find wi_473 hb rfl rfl rfl hl.1 rfl (Nat.le_of_ble_eq_true rfl) ⟨Nat.le_of_ble_eq_true rfl, Nat.le_of_ble_eq_true rfl⟩ ⟨Nat.le_of_ble_eq_true rfl, Nat.le_of_ble_eq_true rfl⟩ d_Mdl_cut_2 (fun r251 f252 H locs hp253 hI => ?_)
  obtain ⟨hp1, hp2⟩ := hp253
  rw [hp2] at hI
  rw [hnF] at hp1
  rcases hp1 with ⟨hix, hr9⟩ | ⟨i, q, hix, hq, hr9⟩
  · subst hr9
    refine lv_istore_n (lv' := [(2, .int (-1)), (0, .ref b), (1, .int (nI an))]) S.1 S.2.1 d_Mdl_cut_5 rfl hl (by decide) rfl (fun ls hl => ?_)
    refine lv_iload_n S.1 S.2.1 d_Mdl_cut_6 rfl (lv_at hl 0 rfl) ?_
    refine lv_if_ge (tgt := 13) S.1 S.2.1 d_Mdl_cut_7 (by decide) (fun c254 => ?_) (fun c254 => ?_)
    · skip
      exact absurd c254 (by decide)
    · skip
      refine lv_bipush (v := (-2)) S.1 S.2.1 d_Mdl_cut_10 (by decide) ?_
      exact gr_i S hr hlk hI (by rw [oCut_n hix]; exact ⟨rfl, h, gFr.rf⟩) d_Mdl_cut_12
  · subst hr9
    have hqL := List.mem_of_getElem? hq
    obtain ⟨hq48, hqn, p1, p2, p3, p4⟩ := hM q hqL
    have hgD : st.2.2.2.2.2.getD i (fNew [] 0) = af q := by rw [← hFS]; exact getD_map hq
    have hFi : st.2.2.2.2.2[i]? = some (af q) := by rw [← hFS, List.getElem?_map, hq]; rfl
    refine lv_istore_n (lv' := [(2, .int (nI q)), (0, .ref b), (1, .int (nI an))]) S.1 S.2.1 d_Mdl_cut_5 rfl hl (by decide) rfl (fun ls hl => ?_)
    refine lv_iload_n S.1 S.2.1 d_Mdl_cut_6 rfl (lv_at hl 0 rfl) ?_
    refine lv_if_ge (tgt := 13) S.1 S.2.1 d_Mdl_cut_7 (by decide) (fun c255 => ?_) (fun c255 => ?_)
    · skip
      replace c255 : 0 ≤ q := (nI_leI (a := 0) (b := q) (by omega) (by omega)).mp c255
      have hlq := hle q hqL
      have hw1 := (hWf q hqL).1
      refine lv_aload_n S.1 S.2.1 d_Mdl_cut_13 rfl (lv_at hl 1 rfl) ?_
      refine gh_get S hI hb rfl i_Mdl 9 (by decide) wi_444 rfl d_Mdl_cut_14 ?_
      refine lv_iload_n S.1 S.2.1 d_Mdl_cut_17 rfl (lv_at hl 0 rfl) ?_
      refine gh_iald (j := q) S hI 1 h9 rfl rfl (by omega) (by omega) d_Mdl_cut_18 ?_
      refine lv_topi (fun v256 ev256 => ?_)
      replace ev256 : v256 = nI (af q).2.2.1 := ev256.trans (p2)
      subst ev256
      refine lv_istore_n (lv' := [(3, .int (nI (af q).2.2.1)), (2, .int (nI q)), (0, .ref b), (1, .int (nI an))]) S.1 S.2.1 d_Mdl_cut_19 rfl hl (by decide) rfl (fun ls hl => ?_)
      refine lv_aload_n S.1 S.2.1 d_Mdl_cut_20 rfl (lv_at hl 2 rfl) ?_
      refine gh_get S hI hb rfl i_Mdl 13 (by decide) wi_448 rfl d_Mdl_cut_21 ?_
      refine lv_iload_n S.1 S.2.1 d_Mdl_cut_24 rfl (lv_at hl 0 rfl) ?_
      refine lv_isub S.1 S.2.1 d_Mdl_cut_25 ?_
      refine lv_topi (fun v257 ev257 => ?_)
      replace ev257 : v257 = nI ((fB st.2.2.2.2.2) - ((af q).2.2.1)) := ev257.trans (pk_sub (by omega))
      subst ev257
      refine lv_iload_n S.1 S.2.1 d_Mdl_cut_26 rfl (lv_at hl 3 rfl) ?_
      refine lv_iadd S.1 S.2.1 d_Mdl_cut_27 ?_
      refine lv_topi (fun v258 ev258 => ?_)
      replace ev258 : v258 = nI (((fB st.2.2.2.2.2) - ((af q).2.2.1)) + an) := ev258.trans (nI_add _ _)
      subst ev258
      refine lv_ldc (v := nI 32768) S.1 S.2.1 S.2.2.2.1 (S.2.2.2.2 _ wi_488) d_Mdl_cut_28 ?_
      refine lv_icmp_le (tgt := 36) S.1 S.2.1 d_Mdl_cut_30 (by decide) (fun c259 => ?_) (fun c259 => ?_)
      · skip
        replace c259 : (((fB st.2.2.2.2.2) - ((af q).2.2.1)) + an) ≤ 32768 := (nI_leI (a := ((fB st.2.2.2.2.2) - ((af q).2.2.1)) + an) (b := 32768) (by omega) (by omega)).mp c259
        refine lv_aload_n S.1 S.2.1 d_Mdl_cut_36 rfl (lv_at hl 2 rfl) ?_
        refine lv_iload_n S.1 S.2.1 d_Mdl_cut_37 rfl (lv_at hl 1 rfl) ?_
        refine lv_iload_n S.1 S.2.1 d_Mdl_cut_38 rfl (lv_at hl 3 rfl) ?_
        refine gc_Vv S hI (c_Mdl_resize l P f (q := q) (n := an) (old := (af q).2.2.1) hb h9 h10 h11 hq48 hAn hw1 p2 hlq) kv_Mdl_resize wi_489 hb rfl rfl rfl hl.1 rfl (Nat.le_of_ble_eq_true rfl) ⟨Nat.le_of_ble_eq_true rfl, Nat.le_of_ble_eq_true rfl⟩ ⟨Nat.le_of_ble_eq_true rfl, Nat.le_of_ble_eq_true rfl⟩ d_Mdl_cut_39 (fun f261 H locs hp262 hI => ?_)
        obtain ⟨gy1, ga1, k0, k9, k10, k11, ky, ka, kF⟩ := hp262
        have hmF1 := mFs_resize hmF hqL hWf hAn ky ka
        have m1 := kF (b + 1) _ h1 (by intro z; simp at z)
        have m2 := kF (b + 2) _ h2 (by intro z; simp at z)
        have m3 := kF (b + 3) _ h3 (by intro z; simp at z)
        have m4 := kF (b + 4) _ h4 (by intro z; simp at z)
        have m5 := kF (b + 5) _ h5 (by intro z; simp at z)
        have m6 := kF (b + 6) _ h6 (by intro z; simp at z)
        have m7 := kF (b + 7) _ h7 (by intro z; simp at z)
        have m8 := kF (b + 8) _ h8 (by intro z; simp at z)
        have m12 := kF (b + 12) _ h12 (by intro z; simp at z)
        have hbs := fB_set (v := fCut (af q) an) hFi
        have hbs2 : (fCut (af q) an).2.2.1 = an := rfl
        rw [hbs2] at hbs
        have eB : fB (st.2.2.2.2.2.set i (fCut (af q) an)) = fB st.2.2.2.2.2 - (af q).2.2.1 + an := by omega
        have k00 : f261 b = some (.inr (7, [.ref (b + 1), .int (nI st.1.length), .ref (b + 2), .ref (b + 3), .ref (b + 4), .ref (b + 5), .ref (b + 6), .ref (b + 7), .ref (b + 8), .ref (b + 9), .ref (b + 10), .ref (b + 11), .int (nI L.length), .int (nI (fB (st.2.2.2.2.2.set i (fCut (af q) an)))), .int (nI (st.2.2.2.2.1 + 1)), .ref (b + 12), .int (nI 0)])) := by rw [eB]; exact k0
        have hfs : L.map (va_up af q (fCut (af q) an)) = st.2.2.2.2.2.set i (fCut (af q) an) := by rw [map_set_up hnd hq, hFS]
        refine lv_iload_n S.1 S.2.1 d_Mdl_cut_42 rfl (lv_at hl 0 rfl) ?_
        exact gr_i S hr hlk hI (by rw [oCut_s hix hgD, if_neg (fun z => z.2 c259)]; exact ⟨rfl, ⟨gt, gn, gl, go, gu, gf, gk, gi, upd gz q (nI an), gy1, ga1, gd, L, va_up af q (fCut (af q) an), ⟨k00, m1, m2, m3, m4, m5, m6, m7, m8, k9, k10, k11, m12⟩, ⟨ht1, ht2⟩, ⟨hn0, hn1⟩, hd0, hmF1, hfs⟩, kF.mono (by intro q hq; simp at hq ⊢; omega)⟩) d_Mdl_cut_43
      · skip
        replace c259 : ¬ (((fB st.2.2.2.2.2) - ((af q).2.2.1)) + an) ≤ 32768 := fun z => c259 ((nI_leI (a := ((fB st.2.2.2.2.2) - ((af q).2.2.1)) + an) (b := 32768) (by omega) (by omega)).mpr z)
        refine lv_bipush (v := (-4)) S.1 S.2.1 d_Mdl_cut_33 (by decide) ?_
        exact gr_i S hr hlk hI (by rw [oCut_s hix hgD, if_pos ⟨by omega, by omega⟩]; exact ⟨rfl, h, gFr.rf⟩) d_Mdl_cut_35
    · skip
      replace c255 : ¬ 0 ≤ q := fun z => c255 ((nI_leI (a := 0) (b := q) (by omega) (by omega)).mpr z)
      exact absurd c255 (by omega)
set_option maxHeartbeats 4000000 in
set_option maxRecDepth 100000 in
theorem c_Mdl_read (l : Launch) (P : gPar) (f : gM) {b : Nat} {st : ASt} {an bn : Nat} (h : gMo P f b (aIn st)) (hw : wfS st.2.2.2.2.2) (hAn : an ≤ 8192) (hBn : bn ≤ 2048) : gC l P y_Mdl_read b_Mdl_read 6 (some .int) 2 0 0 [.ref b, .int (nI an), .int (nI bn)] f (gQi P (fun r f1 => r = (oRead st an bn).1 ∧ gMo P f1 b (aAft st (oRead st an bn)) ∧ gFr f f1 [b, b + 1, b + 2, b + 3, b + 4, b + 5, b + 6, b + 7, b + 8, b + 9, b + 10, b + 11, b + 12])) := by
  refine gC_of (by decide) (Nat.le_of_ble_eq_true rfl) (fun p env s m args below meth c S hr hlk hnm H locs hI ls hl => ?_)
  have hl : lv_has ls 6 [(0, .ref b), (1, .int (nI an)), (2, .int (nI bn))] := hl
  obtain ⟨gt, gn, gl, go, gu, gf, gk, gi, gz, gy, ga, gd, L, af, ⟨hb, h1, h2, h3, h4, h5, h6, h7, h8, h9, h10, h11, h12⟩, ⟨ht1, ht2⟩, ⟨hn0, hn1⟩, -, hmF, hFS⟩ := id h
  have hd0 : mTold gd [] := ⟨by simp, fun i hi => absurd hi (by simp)⟩
  obtain ⟨hnd, hlL, hO, hU, hM⟩ := id hmF
  replace hb : f b = some (.inr (7, [.ref (b + 1), .int (nI st.1.length), .ref (b + 2), .ref (b + 3), .ref (b + 4), .ref (b + 5), .ref (b + 6), .ref (b + 7), .ref (b + 8), .ref (b + 9), .ref (b + 10), .ref (b + 11), .int (nI L.length), .int (nI (fB st.2.2.2.2.2)), .int (nI (st.2.2.2.2.1 + 1)), .ref (b + 12), .int (nI 0)])) := hb
  replace ht1 : st.1.length ≤ 2048 := ht1
  replace ht2 : nmL st.1.length gt = st.1 := ht2
  replace hn0 : mNk gn gl 0 st.2.1 := hn0
  replace hn1 : mNk gn gl 1 st.2.2.1 := hn1
  replace hFS : L.map af = st.2.2.2.2.2 := hFS
  have hlF : st.2.2.2.2.2.length = L.length := by rw [← hFS, List.length_map]
  have hnF : nms af L = fN st.2.2.2.2.2 := by rw [← hFS, fN_L]
  have hs : srt (nms af L) := by rw [hnF]; exact hw.1
  have hN : ∀ q ∈ L, q < 48 ∧ mNk gf gk q (af q).1 := fun q hq => ⟨(hM q hq).1, (hM q hq).2.1⟩
  have hWf : ∀ q ∈ L, wfF (af q).2.2.1 (af q).2.2.2.1 (af q).2.2.2.2 := fun q hq => hw.2.2 _ (by rw [← hFS]; exact List.mem_map.mpr ⟨q, hq, rfl⟩)
  have hfB := hw.2.1
  have hle : ∀ q ∈ L, (af q).2.2.1 ≤ fB st.2.2.2.2.2 := fun q hq => fB_le (by rw [← hFS]; exact List.mem_map.mpr ⟨q, hq, rfl⟩)
  refine lv_aload_n S.1 S.2.1 d_Mdl_read_0 rfl (lv_at hl 0 rfl) ?_
  refine lv_iconst (v := nI 0) S.1 S.2.1 d_Mdl_read_1 (by decide) ?_
  refine gc_Vi S hI (c_Mdl_find l P f (k := 0) (nm := st.2.1) (af := af) hb h2 h3 h4 h6 h7 hO hN hlL (by omega) hn0 hs) kv_Mdl_find wi_473 hb rfl rfl rfl hl.1 rfl (Nat.le_of_ble_eq_true rfl) ⟨Nat.le_of_ble_eq_true rfl, Nat.le_of_ble_eq_true rfl⟩ ⟨Nat.le_of_ble_eq_true rfl, Nat.le_of_ble_eq_true rfl⟩ d_Mdl_read_2 (fun r263 f264 H locs hp265 hI => ?_)
  obtain ⟨hp1, hp2⟩ := hp265
  rw [hp2] at hI
  rw [hnF] at hp1
  rcases hp1 with ⟨hix, hr9⟩ | ⟨i, q, hix, hq, hr9⟩
  · subst hr9
    refine lv_istore_n (lv' := [(3, .int (-1)), (0, .ref b), (1, .int (nI an)), (2, .int (nI bn))]) S.1 S.2.1 d_Mdl_read_5 rfl hl (by decide) rfl (fun ls hl => ?_)
    refine lv_iload_n S.1 S.2.1 d_Mdl_read_6 rfl (lv_at hl 0 rfl) ?_
    refine lv_if_ge (tgt := 13) S.1 S.2.1 d_Mdl_read_7 (by decide) (fun c266 => ?_) (fun c266 => ?_)
    · skip
      exact absurd c266 (by decide)
    · skip
      refine lv_bipush (v := (-2)) S.1 S.2.1 d_Mdl_read_10 (by decide) ?_
      exact gr_i S hr hlk hI (by rw [oRead_n hix]; exact ⟨rfl, h, gFr.rf⟩) d_Mdl_read_12
  · subst hr9
    have hqL := List.mem_of_getElem? hq
    obtain ⟨hq48, hqn, p1, p2, p3, p4⟩ := hM q hqL
    have hgD : st.2.2.2.2.2.getD i (fNew [] 0) = af q := by rw [← hFS]; exact getD_map hq
    have hFi : st.2.2.2.2.2[i]? = some (af q) := by rw [← hFS, List.getElem?_map, hq]; rfl
    refine lv_istore_n (lv' := [(3, .int (nI q)), (0, .ref b), (1, .int (nI an)), (2, .int (nI bn))]) S.1 S.2.1 d_Mdl_read_5 rfl hl (by decide) rfl (fun ls hl => ?_)
    refine lv_iload_n S.1 S.2.1 d_Mdl_read_6 rfl (lv_at hl 0 rfl) ?_
    refine lv_if_ge (tgt := 13) S.1 S.2.1 d_Mdl_read_7 (by decide) (fun c267 => ?_) (fun c267 => ?_)
    · skip
      replace c267 : 0 ≤ q := (nI_leI (a := 0) (b := q) (by omega) (by omega)).mp c267
      have hw1 := (hWf q hqL).1
      obtain ⟨n, hn⟩ : ∃ z, z = min (af q).2.2.1 (an + bn) - an := ⟨_, rfl⟩
      have loop : ∀ (u t : Nat) (fj : gM) (g1 : Nat → Int32), t ≤ n → n - t < u → fj (b + 12) = some (.inl (P.2.1 1, 2048, .inl g1)) → gFr f fj [b + 12] → (∀ j, j < t → g1 j = nI ((af q).2.2.2.2 (an + j))) → ∀ (H : Heap) (locs : List Loc), gB P fj s H locs → ∀ ls : Array Slot, lv_has ls 6 [(0, .ref b), (1, .int (nI an)), (3, .int (nI q)), (4, .int (nI n)), (5, .int (nI t))] → W p l env (grm 2 0 0) s m args below meth c H locs 0 0 (MQ below (gQi P (fun r f1 => r = (oRead st an bn).1 ∧ gMo P f1 b (aAft st (oRead st an bn)) ∧ gFr f f1 [b, b + 1, b + 2, b + 3, b + 4, b + 5, b + 6, b + 7, b + 8, b + 9, b + 10, b + 11, b + 12])) args s 0 0 (gA P)) (F0 m 43 ls []) := by
        intro u
        induction u with
        | zero => intro t fj g1 h9 h8; exact absurd h8 (by omega)
        | succ u ih =>
          intro t fj g1 hi1 hu j12 hF hg H locs hI ls hl
          have jb := hF b _ hb (by intro z; simp at z)
          have j10 := hF (b + 10) _ h10 (by intro z; simp at z)
          refine lv_iload S.1 S.2.1 d_Mdl_read_43 (lv_at hl 4 rfl) ?_
          refine lv_iload S.1 S.2.1 d_Mdl_read_45 (lv_at hl 3 rfl) ?_
          refine lv_icmp_ge (tgt := 82) S.1 S.2.1 d_Mdl_read_47 (by decide) (fun c268 => ?_) (fun c268 => ?_)
          · skip
            replace c268 : n ≤ t := (nI_leI (a := n) (b := t) (by omega) (by omega)).mp c268
            have hF : gFr f fj [b, b + 12] := hF.mono (by intro q hq; simp at hq ⊢; omega)
            refine lv_aload_n S.1 S.2.1 d_Mdl_read_82 rfl (lv_at hl 0 rfl) ?_
            refine lv_iload S.1 S.2.1 d_Mdl_read_83 (lv_at hl 3 rfl) ?_
            refine gh_put S hI jb rfl i_Mdl t_Mdl tk_Mdl n_Mdl 16 (by decide) wi_451 rfl rfl rfl (Nat.le_of_ble_eq_true rfl) d_Mdl_read_85 (fun H locs hI => ?_)
            have hI : gB P (va_up fj b (some (.inr (7, [.ref (b + 1), .int (nI st.1.length), .ref (b + 2), .ref (b + 3), .ref (b + 4), .ref (b + 5), .ref (b + 6), .ref (b + 7), .ref (b + 8), .ref (b + 9), .ref (b + 10), .ref (b + 11), .int (nI L.length), .int (nI (fB st.2.2.2.2.2)), .int (nI (st.2.2.2.2.1 + 1)), .ref (b + 12), .int (nI n)])))) s H locs := hI
            obtain ⟨f269, ef269⟩ : ∃ z, z = va_up fj b (some (.inr (7, [.ref (b + 1), .int (nI st.1.length), .ref (b + 2), .ref (b + 3), .ref (b + 4), .ref (b + 5), .ref (b + 6), .ref (b + 7), .ref (b + 8), .ref (b + 9), .ref (b + 10), .ref (b + 11), .int (nI L.length), .int (nI (fB st.2.2.2.2.2)), .int (nI (st.2.2.2.2.1 + 1)), .ref (b + 12), .int (nI n)]))) := ⟨_, rfl⟩
            rw [← ef269] at hI
            have h270 : f269 (b + 10) = some (.inl (P.2.1 0, 393216, .inl gy)) := by rw [ef269, va_up_ne _ _ (by omega)]; exact j10
            have h271 : f269 (b + 12) = some (.inl (P.2.1 1, 2048, .inl g1)) := by rw [ef269, va_up_ne _ _ (by omega)]; exact j12
            have h272 : f269 b = some (.inr (7, [.ref (b + 1), .int (nI st.1.length), .ref (b + 2), .ref (b + 3), .ref (b + 4), .ref (b + 5), .ref (b + 6), .ref (b + 7), .ref (b + 8), .ref (b + 9), .ref (b + 10), .ref (b + 11), .int (nI L.length), .int (nI (fB st.2.2.2.2.2)), .int (nI (st.2.2.2.2.1 + 1)), .ref (b + 12), .int (nI n)])) := by rw [ef269]; exact va_up_self _ _ _
            have hF : gFr f f269 [b, b + 12] := by rw [ef269]; exact gFr.upA (by simp) hF
            refine lv_iload S.1 S.2.1 d_Mdl_read_88 (lv_at hl 3 rfl) ?_
            have m1 := hF (b + 1) _ h1 (by intro z; simp at z)
            have m2 := hF (b + 2) _ h2 (by intro z; simp at z)
            have m3 := hF (b + 3) _ h3 (by intro z; simp at z)
            have m4 := hF (b + 4) _ h4 (by intro z; simp at z)
            have m5 := hF (b + 5) _ h5 (by intro z; simp at z)
            have m6 := hF (b + 6) _ h6 (by intro z; simp at z)
            have m7 := hF (b + 7) _ h7 (by intro z; simp at z)
            have m8 := hF (b + 8) _ h8 (by intro z; simp at z)
            have m9 := hF (b + 9) _ h9 (by intro z; simp at z)
            have m10 := hF (b + 10) _ h10 (by intro z; simp at z)
            have m11 := hF (b + 11) _ h11 (by intro z; simp at z)
            have el : ((List.range n).map (fun i => (af q).2.2.2.2 (an + i))).length = n := by simp
            have hgt : ∀ i, i < n → g1 i = nI (((List.range n).map (fun i => (af q).2.2.2.2 (an + i))).getD i 0) := fun i hi => by rw [hg i (by omega), List.getD_eq_getElem?_getD, List.getElem?_map, List.getElem?_range hi]; rfl
            have k00 : f269 b = some (.inr (7, [.ref (b + 1), .int (nI st.1.length), .ref (b + 2), .ref (b + 3), .ref (b + 4), .ref (b + 5), .ref (b + 6), .ref (b + 7), .ref (b + 8), .ref (b + 9), .ref (b + 10), .ref (b + 11), .int (nI L.length), .int (nI (fB st.2.2.2.2.2)), .int (nI (st.2.2.2.2.1 + 1)), .ref (b + 12), .int (nI (((List.range n).map (fun i => (af q).2.2.2.2 (an + i))).length))])) := by rw [el]; exact h272
            have hd9 : mTold g1 ((List.range n).map (fun i => (af q).2.2.2.2 (an + i))) := ⟨by rw [el]; omega, fun i hi => hgt i (by rw [el] at hi; exact hi)⟩
            exact gr_i S hr hlk hI (by rw [oRead_s hix hgD, ← hn]; exact ⟨rfl, ⟨gt, gn, gl, go, gu, gf, gk, gi, gz, gy, ga, g1, L, af, ⟨k00, m1, m2, m3, m4, m5, m6, m7, m8, m9, m10, m11, h271⟩, ⟨ht1, ht2⟩, ⟨hn0, hn1⟩, hd9, hmF, hFS⟩, hF.mono (by intro q hq; simp at hq ⊢; omega)⟩) d_Mdl_read_90
          · skip
            replace c268 : ¬ n ≤ t := fun z => c268 ((nI_leI (a := n) (b := t) (by omega) (by omega)).mpr z)
            refine lv_aload_n S.1 S.2.1 d_Mdl_read_50 rfl (lv_at hl 0 rfl) ?_
            refine gh_get S hI jb rfl i_Mdl 15 (by decide) wi_450 rfl d_Mdl_read_51 ?_
            refine lv_iload S.1 S.2.1 d_Mdl_read_54 (lv_at hl 4 rfl) ?_
            refine lv_aload_n S.1 S.2.1 d_Mdl_read_56 rfl (lv_at hl 0 rfl) ?_
            refine gh_get S hI jb rfl i_Mdl 10 (by decide) wi_445 rfl d_Mdl_read_57 ?_
            refine lv_sipush (v := nI 8192) S.1 S.2.1 d_Mdl_read_60 (by decide) ?_
            refine lv_iload_n S.1 S.2.1 d_Mdl_read_63 rfl (lv_at hl 2 rfl) ?_
            refine lv_imul S.1 S.2.1 d_Mdl_read_64 ?_
            refine lv_topi (fun v273 ev273 => ?_)
            replace ev273 : v273 = nI (8192 * q) := ev273.trans (pk_mul _ _)
            subst ev273
            refine lv_iload_n S.1 S.2.1 d_Mdl_read_65 rfl (lv_at hl 1 rfl) ?_
            refine lv_iadd S.1 S.2.1 d_Mdl_read_66 ?_
            refine lv_topi (fun v274 ev274 => ?_)
            replace ev274 : v274 = nI ((8192 * q) + an) := ev274.trans (nI_add _ _)
            subst ev274
            refine lv_iload S.1 S.2.1 d_Mdl_read_67 (lv_at hl 4 rfl) ?_
            refine lv_iadd S.1 S.2.1 d_Mdl_read_69 ?_
            refine lv_topi (fun v275 ev275 => ?_)
            replace ev275 : v275 = nI (((8192 * q) + an) + t) := ev275.trans (nI_add _ _)
            subst ev275
            refine gh_bald (j := ((8192 * q) + an) + t) S hI 0 j10 rfl rfl (by omega) (by omega) d_Mdl_read_70 ?_
            refine lv_sipush (v := nI 255) S.1 S.2.1 d_Mdl_read_71 (by decide) ?_
            refine lv_iand S.1 S.2.1 d_Mdl_read_74 ?_
            refine lv_topi (fun v276 ev276 => ?_)
            replace ev276 : v276 = nI (ub (gy (8192 * q + an + t))) := ev276.trans (ub_nI _)
            subst ev276
            refine gh_iast (j := t) S hI 1 j12 rfl rfl (by omega) (by omega) d_Mdl_read_75 (fun H locs hI => ?_)
            have hI : gB P (va_up fj (b + 12) (some (.inl (P.2.1 1, 2048, .inl (upd g1 t (nI (ub (gy (8192 * q + an + t))))))))) s H locs := hI
            obtain ⟨f277, ef277⟩ : ∃ z, z = va_up fj (b + 12) (some (.inl (P.2.1 1, 2048, .inl (upd g1 t (nI (ub (gy (8192 * q + an + t)))))))) := ⟨_, rfl⟩
            rw [← ef277] at hI
            have h278 : f277 b = some (.inr (7, [.ref (b + 1), .int (nI st.1.length), .ref (b + 2), .ref (b + 3), .ref (b + 4), .ref (b + 5), .ref (b + 6), .ref (b + 7), .ref (b + 8), .ref (b + 9), .ref (b + 10), .ref (b + 11), .int (nI L.length), .int (nI (fB st.2.2.2.2.2)), .int (nI (st.2.2.2.2.1 + 1)), .ref (b + 12), .int (nI 0)])) := by rw [ef277, va_up_ne _ _ (by omega)]; exact jb
            have h279 : f277 (b + 10) = some (.inl (P.2.1 0, 393216, .inl gy)) := by rw [ef277, va_up_ne _ _ (by omega)]; exact j10
            have h280 : f277 (b + 12) = some (.inl (P.2.1 1, 2048, .inl (upd g1 t (nI (ub (gy (8192 * q + an + t))))))) := by rw [ef277]; exact va_up_self _ _ _
            have hF : gFr f f277 [b + 12] := by rw [ef277]; exact gFr.upA (by simp) hF
            refine lv_iinc (v := nI (t + 1)) (lv' := [(5, .int (nI (t + 1))), (0, .ref b), (1, .int (nI an)), (3, .int (nI q)), (4, .int (nI n))]) S.1 S.2.1 d_Mdl_read_76 hl (k := 4) rfl (nI_add _ _) (by decide) rfl (fun ls hl => ?_)
            refine lv_goto (tgt := 43) S.1 S.2.1 d_Mdl_read_79 (by decide) ?_
            exact ih (t + 1) _ _ (by omega) (by omega) h280 hF (fun j hj => by
              unfold upd
              by_cases hc : j = t
              · rw [if_pos hc, hc, Nat.add_assoc, p3 (an + t) (by omega)]
              · rw [if_neg hc]; exact hg j (by omega)) _ _ hI _ (lv_sub hl [1, 2, 3, 4, 0] rfl)
      refine lv_aload_n S.1 S.2.1 d_Mdl_read_13 rfl (lv_at hl 1 rfl) ?_
      refine gh_get S hI hb rfl i_Mdl 9 (by decide) wi_444 rfl d_Mdl_read_14 ?_
      refine lv_iload_n S.1 S.2.1 d_Mdl_read_17 rfl (lv_at hl 0 rfl) ?_
      refine gh_iald (j := q) S hI 1 h9 rfl rfl (by omega) (by omega) d_Mdl_read_18 ?_
      refine lv_topi (fun v281 ev281 => ?_)
      replace ev281 : v281 = nI (af q).2.2.1 := ev281.trans (p2)
      subst ev281
      refine lv_iload_n S.1 S.2.1 d_Mdl_read_19 rfl (lv_at hl 2 rfl) ?_
      by_cases hc : an ≤ (af q).2.2.1
      · skip
        refine lv_isub S.1 S.2.1 d_Mdl_read_20 ?_
        refine lv_topi (fun v282 ev282 => ?_)
        replace ev282 : v282 = nI (((af q).2.2.1) - an) := ev282.trans (pk_sub (by omega))
        subst ev282
        refine lv_istore (lv' := [(4, .int (nI (((af q).2.2.1) - an))), (3, .int (nI q)), (0, .ref b), (1, .int (nI an)), (2, .int (nI bn))]) S.1 S.2.1 d_Mdl_read_21 hl (by decide) rfl (fun ls hl => ?_)
        refine lv_iload S.1 S.2.1 d_Mdl_read_23 (lv_at hl 0 rfl) ?_
        refine lv_iload_n S.1 S.2.1 d_Mdl_read_25 rfl (lv_at hl 4 rfl) ?_
        refine lv_icmp_le (tgt := 32) S.1 S.2.1 d_Mdl_read_26 (by decide) (fun c283 => ?_) (fun c283 => ?_)
        · skip
          replace c283 : (((af q).2.2.1) - an) ≤ bn := (nI_leI (a := ((af q).2.2.1) - an) (b := bn) (by omega) (by omega)).mp c283
          refine lv_iload S.1 S.2.1 d_Mdl_read_32 (lv_at hl 0 rfl) ?_
          refine lv_if_ge (tgt := 40) S.1 S.2.1 d_Mdl_read_34 (by decide) (fun c284 => ?_) (fun c284 => ?_)
          · skip
            replace c284 : 0 ≤ (((af q).2.2.1) - an) := (nI_leI (a := 0) (b := ((af q).2.2.1) - an) (by omega) (by omega)).mp c284
            have en : (af q).2.2.1 - an = n := by omega
            rw [en] at hl
            refine lv_iconst (v := nI 0) S.1 S.2.1 d_Mdl_read_40 (by decide) ?_
            refine lv_istore (lv' := [(5, .int (nI 0)), (4, .int (nI n)), (3, .int (nI q)), (0, .ref b), (1, .int (nI an)), (2, .int (nI bn))]) S.1 S.2.1 d_Mdl_read_41 hl (by decide) rfl (fun ls hl => ?_)
            exact loop (n + 1) 0 f gd (by omega) (by omega) h12 gFr.rf (fun j hj => absurd hj (by omega)) _ _ hI _ (lv_sub hl [3, 4, 2, 1, 0] rfl)
          · skip
            replace c284 : ¬ 0 ≤ (((af q).2.2.1) - an) := fun z => c284 ((nI_leI (a := 0) (b := ((af q).2.2.1) - an) (by omega) (by omega)).mpr z)
            exact absurd c284 (by omega)
        · skip
          replace c283 : ¬ (((af q).2.2.1) - an) ≤ bn := fun z => c283 ((nI_leI (a := ((af q).2.2.1) - an) (b := bn) (by omega) (by omega)).mpr z)
          refine lv_iload_n S.1 S.2.1 d_Mdl_read_29 rfl (lv_at hl 4 rfl) ?_
          refine lv_istore (lv' := [(4, .int (nI bn)), (3, .int (nI q)), (0, .ref b), (1, .int (nI an)), (2, .int (nI bn))]) S.1 S.2.1 d_Mdl_read_30 hl (by decide) rfl (fun ls hl => ?_)
          refine lv_iload S.1 S.2.1 d_Mdl_read_32 (lv_at hl 0 rfl) ?_
          refine lv_if_ge (tgt := 40) S.1 S.2.1 d_Mdl_read_34 (by decide) (fun c285 => ?_) (fun c285 => ?_)
          · skip
            replace c285 : 0 ≤ bn := (nI_leI (a := 0) (b := bn) (by omega) (by omega)).mp c285
            have en : bn = n := by omega
            rw [en] at hl
            refine lv_iconst (v := nI 0) S.1 S.2.1 d_Mdl_read_40 (by decide) ?_
            refine lv_istore (lv' := [(5, .int (nI 0)), (4, .int (nI n)), (3, .int (nI q)), (0, .ref b), (1, .int (nI an)), (2, .int (nI n))]) S.1 S.2.1 d_Mdl_read_41 hl (by decide) rfl (fun ls hl => ?_)
            exact loop (n + 1) 0 f gd (by omega) (by omega) h12 gFr.rf (fun j hj => absurd hj (by omega)) _ _ hI _ (lv_sub hl [3, 4, 2, 1, 0] rfl)
          · skip
            replace c285 : ¬ 0 ≤ bn := fun z => c285 ((nI_leI (a := 0) (b := bn) (by omega) (by omega)).mpr z)
            exact absurd c285 (by omega)
      · skip
        refine lv_isub S.1 S.2.1 d_Mdl_read_20 ?_
        refine lv_topi (fun vv evv => ?_)
        have hvn : vv < 0 := by rw [evv]; exact pk_sneg (by omega) (by omega)
        refine lv_istore (lv' := [(4, .int vv), (3, .int (nI q)), (0, .ref b), (1, .int (nI an)), (2, .int (nI bn))]) S.1 S.2.1 d_Mdl_read_21 hl (by decide) rfl (fun ls hl => ?_)
        refine lv_iload S.1 S.2.1 d_Mdl_read_23 (lv_at hl 0 rfl) ?_
        refine lv_iload_n S.1 S.2.1 d_Mdl_read_25 rfl (lv_at hl 4 rfl) ?_
        refine lv_icmp_le (tgt := 32) S.1 S.2.1 d_Mdl_read_26 (by decide) (fun c286 => ?_) (fun c286 => ?_)
        · skip
          refine lv_iload S.1 S.2.1 d_Mdl_read_32 (lv_at hl 0 rfl) ?_
          refine lv_if_ge (tgt := 40) S.1 S.2.1 d_Mdl_read_34 (by decide) (fun c287 => ?_) (fun c287 => ?_)
          · skip
            exact absurd hvn (Int32.not_lt.mpr c287)
          · skip
            refine lv_iconst (v := nI 0) S.1 S.2.1 d_Mdl_read_37 (by decide) ?_
            refine lv_istore (lv' := [(4, .int (nI 0)), (3, .int (nI q)), (0, .ref b), (1, .int (nI an)), (2, .int (nI bn))]) S.1 S.2.1 d_Mdl_read_38 hl (by decide) rfl (fun ls hl => ?_)
            have en : 0 = n := by omega
            refine lv_iconst (v := nI 0) S.1 S.2.1 d_Mdl_read_40 (by decide) ?_
            refine lv_istore (lv' := [(5, .int (nI 0)), (4, .int (nI 0)), (3, .int (nI q)), (0, .ref b), (1, .int (nI an)), (2, .int (nI bn))]) S.1 S.2.1 d_Mdl_read_41 hl (by decide) rfl (fun ls hl => ?_)
            have hl9 : lv_has ls 6 [(0, .ref b), (1, .int (nI an)), (3, .int (nI q)), (4, .int (nI n)), (5, .int (nI 0))] := by have z := lv_sub hl [3, 4, 2, 1, 0] (l' := [(0, .ref b), (1, .int (nI an)), (3, .int (nI q)), (4, .int (nI 0)), (5, .int (nI 0))]) rfl; rw [← en]; exact z
            exact loop (n + 1) 0 f gd (by omega) (by omega) h12 gFr.rf (fun j hj => absurd hj (by omega)) _ _ hI _ hl9
        · skip
          exact absurd (Int32.le_of_lt (Int32.lt_of_lt_of_le hvn (nI_pos' (by omega)))) c286
    · skip
      replace c267 : ¬ 0 ≤ q := fun z => c267 ((nI_leI (a := 0) (b := q) (by omega) (by omega)).mpr z)
      exact absurd c267 (by omega)
set_option maxHeartbeats 4000000 in
set_option maxRecDepth 100000 in
theorem c_Mdl_next (l : Launch) (P : gPar) (f : gM) {b : Nat} {st : ASt} (h : gMo P f b (aIn st)) (hw : wfS st.2.2.2.2.2) : gC l P y_Mdl_next b_Mdl_next 4 (some .int) 1 0 0 [.ref b] f (gQi P (fun r f1 => r = (oNext st).1 ∧ gMo P f1 b (aAft st (oNext st)) ∧ gFr f f1 [b, b + 1, b + 2, b + 3, b + 4, b + 5, b + 6, b + 7, b + 8, b + 9, b + 10, b + 11, b + 12])) := by
  refine gC_of (by decide) (Nat.le_of_ble_eq_true rfl) (fun p env s m args below meth c S hr hlk hnm H locs hI ls hl => ?_)
  have hl : lv_has ls 4 [(0, .ref b)] := hl
  obtain ⟨gt, gn, gl, go, gu, gf, gk, gi, gz, gy, ga, gd, L, af, ⟨hb, h1, h2, h3, h4, h5, h6, h7, h8, h9, h10, h11, h12⟩, ⟨ht1, ht2⟩, ⟨hn0, hn1⟩, -, hmF, hFS⟩ := id h
  have hd0 : mTold gd [] := ⟨by simp, fun i hi => absurd hi (by simp)⟩
  obtain ⟨hnd, hlL, hO, hU, hM⟩ := id hmF
  replace hb : f b = some (.inr (7, [.ref (b + 1), .int (nI st.1.length), .ref (b + 2), .ref (b + 3), .ref (b + 4), .ref (b + 5), .ref (b + 6), .ref (b + 7), .ref (b + 8), .ref (b + 9), .ref (b + 10), .ref (b + 11), .int (nI L.length), .int (nI (fB st.2.2.2.2.2)), .int (nI (st.2.2.2.2.1 + 1)), .ref (b + 12), .int (nI 0)])) := hb
  replace ht1 : st.1.length ≤ 2048 := ht1
  replace ht2 : nmL st.1.length gt = st.1 := ht2
  replace hn0 : mNk gn gl 0 st.2.1 := hn0
  replace hn1 : mNk gn gl 1 st.2.2.1 := hn1
  replace hFS : L.map af = st.2.2.2.2.2 := hFS
  have hlF : st.2.2.2.2.2.length = L.length := by rw [← hFS, List.length_map]
  have hnF : nms af L = fN st.2.2.2.2.2 := by rw [← hFS, fN_L]
  have hs : srt (nms af L) := by rw [hnF]; exact hw.1
  have hN : ∀ q ∈ L, q < 48 ∧ mNk gf gk q (af q).1 := fun q hq => ⟨(hM q hq).1, (hM q hq).2.1⟩
  have hWf : ∀ q ∈ L, wfF (af q).2.2.1 (af q).2.2.2.1 (af q).2.2.2.2 := fun q hq => hw.2.2 _ (by rw [← hFS]; exact List.mem_map.mpr ⟨q, hq, rfl⟩)
  have hfB := hw.2.1
  have hle : ∀ q ∈ L, (af q).2.2.1 ≤ fB st.2.2.2.2.2 := fun q hq => fB_le (by rw [← hFS]; exact List.mem_map.mpr ⟨q, hq, rfl⟩)
  refine lv_iconst (v := nI 0) S.1 S.2.1 d_Mdl_next_0 (by decide) ?_
  refine lv_istore_n (lv' := [(1, .int (nI 0)), (0, .ref b)]) S.1 S.2.1 d_Mdl_next_1 rfl hl (by decide) rfl (fun ls hl => ?_)
  have loop : ∀ (u i : Nat), i ≤ L.length → L.length - i < u → (∀ j x, j < i → (nms af L)[j]? = some x → ¬ nlt st.2.1 x) → ∀ (H : Heap) (locs : List Loc), gB P f s H locs → ∀ ls : Array Slot, lv_has ls 4 [(0, .ref b), (1, .int (nI i))] → W p l env (grm 1 0 0) s m args below meth c H locs 0 0 (MQ below (gQi P (fun r f1 => r = (oNext st).1 ∧ gMo P f1 b (aAft st (oNext st)) ∧ gFr f f1 [b, b + 1, b + 2, b + 3, b + 4, b + 5, b + 6, b + 7, b + 8, b + 9, b + 10, b + 11, b + 12])) args s 0 0 (gA P)) (F0 m 2 ls []) := by
    intro u
    induction u with
    | zero => intro i h9 h8; exact absurd h8 (by omega)
    | succ u ih =>
      intro i hi1 hu hlo H locs hI ls hl
      have hlN : (nms af L).length = L.length := by simp [nms]
      refine lv_iload_n S.1 S.2.1 d_Mdl_next_2 rfl (lv_at hl 1 rfl) ?_
      refine lv_aload_n S.1 S.2.1 d_Mdl_next_3 rfl (lv_at hl 0 rfl) ?_
      refine gh_get S hI hb rfl i_Mdl 12 (by decide) wi_447 rfl d_Mdl_next_4 ?_
      refine lv_icmp_ge (tgt := 88) S.1 S.2.1 d_Mdl_next_7 (by decide) (fun c288 => ?_) (fun c288 => ?_)
      · skip
        replace c288 : L.length ≤ i := (nI_leI (a := L.length) (b := i) (by omega) (by omega)).mp c288
        have hat := next_at (nm := st.2.1) (i := i) hs (by omega) hlo (fun x hx => by rw [List.getElem?_eq_none (by omega)] at hx; cases hx)
        rw [hnF] at hat
        refine lv_bipush (v := (-2)) S.1 S.2.1 d_Mdl_next_88 (by decide) ?_
        exact gr_i S hr hlk hI (by rw [oNext_n (by rw [hat, List.getElem?_eq_none (by omega)])]; exact ⟨rfl, h, gFr.rf⟩) d_Mdl_next_90
      · skip
        replace c288 : ¬ L.length ≤ i := fun z => c288 ((nI_leI (a := L.length) (b := i) (by omega) (by omega)).mpr z)
        obtain ⟨q, hq⟩ : ∃ q, L[i]? = some q := ⟨_, List.getElem?_eq_getElem (by omega)⟩
        have hqL := List.mem_of_getElem? hq
        have hni : (nms af L)[i]? = some (af q).1 := by rw [nms_get, hq]; rfl
        obtain ⟨hq48, hqn, -⟩ := hM q hqL
        obtain ⟨q1, q2, q3⟩ := id hqn
        refine lv_aload_n S.1 S.2.1 d_Mdl_next_10 rfl (lv_at hl 0 rfl) ?_
        refine gh_get S hI hb rfl i_Mdl 4 (by decide) wi_439 rfl d_Mdl_next_11 ?_
        refine lv_iload_n S.1 S.2.1 d_Mdl_next_14 rfl (lv_at hl 1 rfl) ?_
        refine gh_iald (j := i) S hI 1 h4 rfl rfl (by omega) (by omega) d_Mdl_next_15 ?_
        refine lv_topi (fun v289 ev289 => ?_)
        replace ev289 : v289 = nI q := ev289.trans (hO i q hq)
        subst ev289
        refine lv_istore_n (lv' := [(2, .int (nI q)), (0, .ref b), (1, .int (nI i))]) S.1 S.2.1 d_Mdl_next_16 rfl hl (by decide) rfl (fun ls hl => ?_)
        refine lv_aload_n S.1 S.2.1 d_Mdl_next_17 rfl (lv_at hl 1 rfl) ?_
        refine lv_iload_n S.1 S.2.1 d_Mdl_next_18 rfl (lv_at hl 0 rfl) ?_
        refine lv_iconst (v := nI 0) S.1 S.2.1 d_Mdl_next_19 (by decide) ?_
        refine gc_Vi S hI (c_Mdl_compare l P f hb h2 h3 h6 h7 hq48 (by omega) hqn hn0) kv_Mdl_compare wi_476 hb rfl rfl rfl hl.1 rfl (Nat.le_of_ble_eq_true rfl) ⟨Nat.le_of_ble_eq_true rfl, Nat.le_of_ble_eq_true rfl⟩ ⟨Nat.le_of_ble_eq_true rfl, Nat.le_of_ble_eq_true rfl⟩ d_Mdl_next_20 (fun r290 f291 H locs hp292 hI => ?_)
        obtain ⟨hcm, hc2⟩ := hp292
        rw [hc2] at hI
        refine lv_if_gt (tgt := 29) S.1 S.2.1 d_Mdl_next_23 (by decide) (fun c293 => ?_) (fun c293 => ?_)
        · skip
          have hat := next_at (nm := st.2.1) (i := i) hs (by omega) hlo (fun x hx => by rw [hni] at hx; injection hx with hx; rw [← hx]; exact hcm.gt.mp c293)
          rw [hnF] at hat
          have hFi : st.2.2.2.2.2[i]? = some (af q) := by rw [← hFS, List.getElem?_map, hq]; rfl
          have loop2 : ∀ (u t : Nat) (fj : gM) (g1 : Nat → Int32), t ≤ (af q).1.length → (af q).1.length - t < u → fj b = some (.inr (7, [.ref (b + 1), .int (nI st.1.length), .ref (b + 2), .ref (b + 3), .ref (b + 4), .ref (b + 5), .ref (b + 6), .ref (b + 7), .ref (b + 8), .ref (b + 9), .ref (b + 10), .ref (b + 11), .int (nI L.length), .int (nI (fB st.2.2.2.2.2)), .int (nI (st.2.2.2.2.1 + 1)), .ref (b + 12), .int (nI ((af q).1.length))])) → fj (b + 12) = some (.inl (P.2.1 1, 2048, .inl g1)) → gFr f fj [b, b + 12] → (∀ j, j < t → g1 j = nI ((af q).1.getD j 0)) → ∀ (H : Heap) (locs : List Loc), gB P fj s H locs → ∀ ls : Array Slot, lv_has ls 4 [(0, .ref b), (2, .int (nI q)), (3, .int (nI t))] → W p l env (grm 1 0 0) s m args below meth c H locs 0 0 (MQ below (gQi P (fun r f1 => r = (oNext st).1 ∧ gMo P f1 b (aAft st (oNext st)) ∧ gFr f f1 [b, b + 1, b + 2, b + 3, b + 4, b + 5, b + 6, b + 7, b + 8, b + 9, b + 10, b + 11, b + 12])) args s 0 0 (gA P)) (F0 m 41 ls []) := by
            intro u
            induction u with
            | zero => intro t fj g1 h9 h8; exact absurd h8 (by omega)
            | succ u ih2 =>
              intro t fj g1 hi1 hu jb j12 hF hg H locs hI ls hl
              have j6 := hF (b + 6) _ h6 (by intro z; simp at z)
              refine lv_iload_n S.1 S.2.1 d_Mdl_next_41 rfl (lv_at hl 2 rfl) ?_
              refine lv_aload_n S.1 S.2.1 d_Mdl_next_42 rfl (lv_at hl 0 rfl) ?_
              refine gh_get S hI jb rfl i_Mdl 16 (by decide) wi_451 rfl d_Mdl_next_43 ?_
              refine lv_icmp_ge (tgt := 77) S.1 S.2.1 d_Mdl_next_46 (by decide) (fun c294 => ?_) (fun c294 => ?_)
              · skip
                replace c294 : ((af q).1.length) ≤ t := (nI_leI (a := (af q).1.length) (b := t) (by omega) (by omega)).mp c294
                refine lv_aload_n S.1 S.2.1 d_Mdl_next_77 rfl (lv_at hl 0 rfl) ?_
                refine gh_get S hI jb rfl i_Mdl 16 (by decide) wi_451 rfl d_Mdl_next_78 ?_
                have m1 := hF (b + 1) _ h1 (by intro z; simp at z)
                have m2 := hF (b + 2) _ h2 (by intro z; simp at z)
                have m3 := hF (b + 3) _ h3 (by intro z; simp at z)
                have m4 := hF (b + 4) _ h4 (by intro z; simp at z)
                have m5 := hF (b + 5) _ h5 (by intro z; simp at z)
                have m6 := hF (b + 6) _ h6 (by intro z; simp at z)
                have m7 := hF (b + 7) _ h7 (by intro z; simp at z)
                have m8 := hF (b + 8) _ h8 (by intro z; simp at z)
                have m9 := hF (b + 9) _ h9 (by intro z; simp at z)
                have m10 := hF (b + 10) _ h10 (by intro z; simp at z)
                have m11 := hF (b + 11) _ h11 (by intro z; simp at z)
                have hd9 : mTold g1 (af q).1 := ⟨by omega, fun i hi => hg i (by omega)⟩
                exact gr_i S hr hlk hI (by rw [oNext_s (by rw [hat]; exact hFi)]; exact ⟨rfl, ⟨gt, gn, gl, go, gu, gf, gk, gi, gz, gy, ga, g1, L, af, ⟨jb, m1, m2, m3, m4, m5, m6, m7, m8, m9, m10, m11, j12⟩, ⟨ht1, ht2⟩, ⟨hn0, hn1⟩, hd9, hmF, hFS⟩, hF.mono (by intro q hq; simp at hq ⊢; omega)⟩) d_Mdl_next_81
              · skip
                replace c294 : ¬ ((af q).1.length) ≤ t := fun z => c294 ((nI_leI (a := (af q).1.length) (b := t) (by omega) (by omega)).mpr z)
                refine lv_aload_n S.1 S.2.1 d_Mdl_next_49 rfl (lv_at hl 0 rfl) ?_
                refine gh_get S hI jb rfl i_Mdl 15 (by decide) wi_450 rfl d_Mdl_next_50 ?_
                refine lv_iload_n S.1 S.2.1 d_Mdl_next_53 rfl (lv_at hl 2 rfl) ?_
                refine lv_aload_n S.1 S.2.1 d_Mdl_next_54 rfl (lv_at hl 0 rfl) ?_
                refine gh_get S hI jb rfl i_Mdl 6 (by decide) wi_441 rfl d_Mdl_next_55 ?_
                refine lv_sipush (v := nI 200) S.1 S.2.1 d_Mdl_next_58 (by decide) ?_
                refine lv_iload_n S.1 S.2.1 d_Mdl_next_61 rfl (lv_at hl 1 rfl) ?_
                refine lv_imul S.1 S.2.1 d_Mdl_next_62 ?_
                refine lv_topi (fun v295 ev295 => ?_)
                replace ev295 : v295 = nI (200 * q) := ev295.trans (pk_mul _ _)
                subst ev295
                refine lv_iload_n S.1 S.2.1 d_Mdl_next_63 rfl (lv_at hl 2 rfl) ?_
                refine lv_iadd S.1 S.2.1 d_Mdl_next_64 ?_
                refine lv_topi (fun v296 ev296 => ?_)
                replace ev296 : v296 = nI ((200 * q) + t) := ev296.trans (nI_add _ _)
                subst ev296
                refine gh_bald (j := (200 * q) + t) S hI 0 j6 rfl rfl (by omega) (by omega) d_Mdl_next_65 ?_
                refine lv_sipush (v := nI 255) S.1 S.2.1 d_Mdl_next_66 (by decide) ?_
                refine lv_iand S.1 S.2.1 d_Mdl_next_69 ?_
                refine lv_topi (fun v297 ev297 => ?_)
                replace ev297 : v297 = nI (ub (gf (200 * q + t))) := ev297.trans (ub_nI _)
                subst ev297
                refine gh_iast (j := t) S hI 1 j12 rfl rfl (by omega) (by omega) d_Mdl_next_70 (fun H locs hI => ?_)
                have hI : gB P (va_up fj (b + 12) (some (.inl (P.2.1 1, 2048, .inl (upd g1 t (nI (ub (gf (200 * q + t))))))))) s H locs := hI
                obtain ⟨f298, ef298⟩ : ∃ z, z = va_up fj (b + 12) (some (.inl (P.2.1 1, 2048, .inl (upd g1 t (nI (ub (gf (200 * q + t)))))))) := ⟨_, rfl⟩
                rw [← ef298] at hI
                have h299 : f298 b = some (.inr (7, [.ref (b + 1), .int (nI st.1.length), .ref (b + 2), .ref (b + 3), .ref (b + 4), .ref (b + 5), .ref (b + 6), .ref (b + 7), .ref (b + 8), .ref (b + 9), .ref (b + 10), .ref (b + 11), .int (nI L.length), .int (nI (fB st.2.2.2.2.2)), .int (nI (st.2.2.2.2.1 + 1)), .ref (b + 12), .int (nI ((af q).1.length))])) := by rw [ef298, va_up_ne _ _ (by omega)]; exact jb
                have h300 : f298 (b + 6) = some (.inl (P.2.1 0, 9600, .inl gf)) := by rw [ef298, va_up_ne _ _ (by omega)]; exact j6
                have h301 : f298 (b + 12) = some (.inl (P.2.1 1, 2048, .inl (upd g1 t (nI (ub (gf (200 * q + t))))))) := by rw [ef298]; exact va_up_self _ _ _
                have hF : gFr f f298 [b, b + 12] := by rw [ef298]; exact gFr.upA (by simp) hF
                refine lv_iinc (v := nI (t + 1)) (lv' := [(3, .int (nI (t + 1))), (0, .ref b), (2, .int (nI q))]) S.1 S.2.1 d_Mdl_next_71 hl (k := 2) rfl (nI_add _ _) (by decide) rfl (fun ls hl => ?_)
                refine lv_goto (tgt := 41) S.1 S.2.1 d_Mdl_next_74 (by decide) ?_
                exact ih2 (t + 1) _ _ (by omega) (by omega) h299 h301 hF (fun j hj => by
                  unfold upd
                  by_cases hc : j = t
                  · rw [if_pos hc, hc, List.getD_eq_getElem?_getD, mNk_get hqn (by omega)]; rfl
                  · rw [if_neg hc]; exact hg j (by omega)) _ _ hI _ (lv_sub hl [1, 2, 0] rfl)
          have hF : gFr f f [b, b + 12] := gFr.rf
          refine lv_aload_n S.1 S.2.1 d_Mdl_next_29 rfl (lv_at hl 1 rfl) ?_
          refine lv_aload_n S.1 S.2.1 d_Mdl_next_30 rfl (lv_at hl 1 rfl) ?_
          refine gh_get S hI hb rfl i_Mdl 7 (by decide) wi_442 rfl d_Mdl_next_31 ?_
          refine lv_iload_n S.1 S.2.1 d_Mdl_next_34 rfl (lv_at hl 0 rfl) ?_
          refine gh_iald (j := q) S hI 1 h7 rfl rfl (by omega) (by omega) d_Mdl_next_35 ?_
          refine lv_topi (fun v302 ev302 => ?_)
          replace ev302 : v302 = nI (af q).1.length := ev302.trans (q1)
          subst ev302
          refine gh_put S hI hb rfl i_Mdl t_Mdl tk_Mdl n_Mdl 16 (by decide) wi_451 rfl rfl rfl (Nat.le_of_ble_eq_true rfl) d_Mdl_next_36 (fun H locs hI => ?_)
          have hI : gB P (va_up f b (some (.inr (7, [.ref (b + 1), .int (nI st.1.length), .ref (b + 2), .ref (b + 3), .ref (b + 4), .ref (b + 5), .ref (b + 6), .ref (b + 7), .ref (b + 8), .ref (b + 9), .ref (b + 10), .ref (b + 11), .int (nI L.length), .int (nI (fB st.2.2.2.2.2)), .int (nI (st.2.2.2.2.1 + 1)), .ref (b + 12), .int (nI (af q).1.length)])))) s H locs := hI
          obtain ⟨f303, ef303⟩ : ∃ z, z = va_up f b (some (.inr (7, [.ref (b + 1), .int (nI st.1.length), .ref (b + 2), .ref (b + 3), .ref (b + 4), .ref (b + 5), .ref (b + 6), .ref (b + 7), .ref (b + 8), .ref (b + 9), .ref (b + 10), .ref (b + 11), .int (nI L.length), .int (nI (fB st.2.2.2.2.2)), .int (nI (st.2.2.2.2.1 + 1)), .ref (b + 12), .int (nI (af q).1.length)]))) := ⟨_, rfl⟩
          rw [← ef303] at hI
          have h304 : f303 (b + 7) = some (.inl (P.2.1 1, 48, .inl gk)) := by rw [ef303, va_up_ne _ _ (by omega)]; exact h7
          have h305 : f303 (b + 12) = some (.inl (P.2.1 1, 2048, .inl gd)) := by rw [ef303, va_up_ne _ _ (by omega)]; exact h12
          have h306 : f303 b = some (.inr (7, [.ref (b + 1), .int (nI st.1.length), .ref (b + 2), .ref (b + 3), .ref (b + 4), .ref (b + 5), .ref (b + 6), .ref (b + 7), .ref (b + 8), .ref (b + 9), .ref (b + 10), .ref (b + 11), .int (nI L.length), .int (nI (fB st.2.2.2.2.2)), .int (nI (st.2.2.2.2.1 + 1)), .ref (b + 12), .int (nI (af q).1.length)])) := by rw [ef303]; exact va_up_self _ _ _
          have hF : gFr f f303 [b, b + 12] := by rw [ef303]; exact gFr.upA (by simp) hF
          refine lv_iconst (v := nI 0) S.1 S.2.1 d_Mdl_next_39 (by decide) ?_
          refine lv_istore_n (lv' := [(3, .int (nI 0)), (2, .int (nI q)), (0, .ref b), (1, .int (nI i))]) S.1 S.2.1 d_Mdl_next_40 rfl hl (by decide) rfl (fun ls hl => ?_)
          exact loop2 ((af q).1.length + 1) 0 _ gd (by omega) (by omega) h306 h305 hF (fun j hj => absurd hj (by omega)) _ _ hI _ (lv_sub hl [2, 1, 0] rfl)
        · skip
          refine lv_goto (tgt := 82) S.1 S.2.1 d_Mdl_next_26 (by decide) ?_
          refine lv_iinc (v := nI (i + 1)) (lv' := [(1, .int (nI (i + 1))), (2, .int (nI q)), (0, .ref b)]) S.1 S.2.1 d_Mdl_next_82 hl (k := 2) rfl (nI_add _ _) (by decide) rfl (fun ls hl => ?_)
          refine lv_goto (tgt := 2) S.1 S.2.1 d_Mdl_next_85 (by decide) ?_
          exact ih (i + 1) (by omega) (by omega) (fun j x hj hx => (Nat.lt_succ_iff_lt_or_eq.mp hj).elim (fun z => hlo j x z hx) (fun z => by rw [z, hni] at hx; injection hx with hx; rw [← hx]; exact fun q9 => absurd (hcm.gt.mpr q9) c293)) _ _ hI _ (lv_sub hl [2, 0] rfl)
  exact loop (L.length + 1) 0 (by omega) (by omega) (fun j x hj => absurd hj (by omega)) _ _ hI _ (lv_sub hl [1, 0] rfl)
