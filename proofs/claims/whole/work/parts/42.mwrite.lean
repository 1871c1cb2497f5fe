set_option maxHeartbeats 4000000 in
set_option maxRecDepth 100000 in
theorem c_Mdl_write1 (l : Launch) (P : gPar) (f : gM) {b : Nat} {st : ASt} {an : Nat} (h : gMo P f b (aIn st)) (hw : wfS st.2.2.2.2.2) (hAn : an ≤ 8192) : gC l P y_Mdl_write b_Mdl_write 10 (some .int) 3 0 0 [.ref b, .int (nI st.2.2.2.2.1), .int (nI an), .int (nI 0)] f (gQi P (fun r f1 => r = (oWrite st false an).1 ∧ gMo P f1 b (aAft st (oWrite st false an)) ∧ gFr f f1 [b, b + 1, b + 2, b + 3, b + 4, b + 5, b + 6, b + 7, b + 8, b + 9, b + 10, b + 11, b + 12])) := by
  refine gC_of (by decide) (Nat.le_of_ble_eq_true rfl) (fun p env s m args below meth c S hr hlk hnm H locs hI ls hl => ?_)
  have hl : lv_has ls 10 [(0, .ref b), (1, .int (nI st.2.2.2.2.1)), (2, .int (nI an)), (3, .int (nI 0))] := hl
  obtain ⟨gt, gn, gl, go, gu, gf, gk, gi, gz, gy, ga, gd, L, af, ⟨hb, h1, h2, h3, h4, h5, h6, h7, h8, h9, h10, h11, h12⟩, ⟨ht1, ht2⟩, ⟨hn0, hn1⟩, -, hmF, hFS⟩ := id h
  have hd0 : mTold gd [] := ⟨by simp, fun i hi => absurd hi (by simp)⟩
  obtain ⟨hnd, hlL, hO, hU, hM⟩ := id hmF
  replace hb : f b = some (.inr (7, [.ref (b + 1), .int (nI st.1.length), .ref (b + 2), .ref (b + 3), .ref (b + 4), .ref (b + 5), .ref (b + 6), .ref (b + 7), .ref (b + 8), .ref (b + 9), .ref (b + 10), .ref (b + 11), .int (nI L.length), .int (nI (fB st.2.2.2.2.2)), .int (nI (st.2.2.2.2.1 + 1)), .ref (b + 12), .int (nI 0)])) := hb
  replace ht1 : st.1.length ≤ 2048 := ht1
  replace ht2 : nmL st.1.length gt = st.1 := ht2
  replace hn0 : mNk gn gl 0 st.2.1 := hn0
  replace hn1 : mNk gn gl 1 st.2.2.1 := hn1
  replace hFS : L.map af = st.2.2.2.2.2 := hFS
  have hlF : st.2.2.2.2.2.length = L.length := by rw [← hFS, List.length_map]
  have hnF : nms af L = fN st.2.2.2.2.2 := by rw [← hFS, fN_L]
  have hs : srt (nms af L) := by rw [hnF]; exact hw.1
  have hN : ∀ q ∈ L, q < 48 ∧ mNk gf gk q (af q).1 := fun q hq => ⟨(hM q hq).1, (hM q hq).2.1⟩
  have hWf : ∀ q ∈ L, wfF (af q).2.2.1 (af q).2.2.2.1 (af q).2.2.2.2 := fun q hq => hw.2.2 _ (by rw [← hFS]; exact List.mem_map.mpr ⟨q, hq, rfl⟩)
  have hfB := hw.2.1
  have hle : ∀ q ∈ L, (af q).2.2.1 ≤ fB st.2.2.2.2.2 := fun q hq => fB_le (by rw [← hFS]; exact List.mem_map.mpr ⟨q, hq, rfl⟩)
  have hF : gFr f f [b, b + 1, b + 2, b + 3, b + 4, b + 5, b + 6, b + 7, b + 8, b + 9, b + 10, b + 11, b + 12] := gFr.rf
  refine lv_aload_n S.1 S.2.1 d_Mdl_write_0 rfl (lv_at hl 0 rfl) ?_
  refine gh_get S hI hb rfl i_Mdl 1 (by decide) wi_436 rfl d_Mdl_write_1 ?_
  refine lv_istore (lv' := [(4, .int (nI st.1.length)), (0, .ref b), (1, .int (nI st.2.2.2.2.1)), (2, .int (nI an)), (3, .int (nI 0))]) S.1 S.2.1 d_Mdl_write_4 hl (by decide) rfl (fun ls hl => ?_)
  refine lv_aload_n S.1 S.2.1 d_Mdl_write_6 rfl (lv_at hl 1 rfl) ?_
  refine lv_iconst (v := nI 0) S.1 S.2.1 d_Mdl_write_7 (by decide) ?_
  refine gh_put S hI hb rfl i_Mdl t_Mdl tk_Mdl n_Mdl 1 (by decide) wi_436 rfl rfl rfl (Nat.le_of_ble_eq_true rfl) d_Mdl_write_8 (fun H locs hI => ?_)
  have hI : gB P (va_up f b (some (.inr (7, [.ref (b + 1), .int (nI 0), .ref (b + 2), .ref (b + 3), .ref (b + 4), .ref (b + 5), .ref (b + 6), .ref (b + 7), .ref (b + 8), .ref (b + 9), .ref (b + 10), .ref (b + 11), .int (nI L.length), .int (nI (fB st.2.2.2.2.2)), .int (nI (st.2.2.2.2.1 + 1)), .ref (b + 12), .int (nI 0)])))) s H locs := hI
  obtain ⟨f307, ef307⟩ : ∃ z, z = va_up f b (some (.inr (7, [.ref (b + 1), .int (nI 0), .ref (b + 2), .ref (b + 3), .ref (b + 4), .ref (b + 5), .ref (b + 6), .ref (b + 7), .ref (b + 8), .ref (b + 9), .ref (b + 10), .ref (b + 11), .int (nI L.length), .int (nI (fB st.2.2.2.2.2)), .int (nI (st.2.2.2.2.1 + 1)), .ref (b + 12), .int (nI 0)]))) := ⟨_, rfl⟩
  rw [← ef307] at hI
  have h308 : f307 (b + 1) = some (.inl (P.2.1 0, 2048, .inl gt)) := by rw [ef307, va_up_ne _ _ (by omega)]; exact h1
  have h309 : f307 (b + 2) = some (.inl (P.2.1 0, 400, .inl gn)) := by rw [ef307, va_up_ne _ _ (by omega)]; exact h2
  have h310 : f307 (b + 3) = some (.inl (P.2.1 1, 2, .inl gl)) := by rw [ef307, va_up_ne _ _ (by omega)]; exact h3
  have h311 : f307 (b + 4) = some (.inl (P.2.1 1, 48, .inl go)) := by rw [ef307, va_up_ne _ _ (by omega)]; exact h4
  have h312 : f307 (b + 5) = some (.inl (P.2.1 2, 48, .inl gu)) := by rw [ef307, va_up_ne _ _ (by omega)]; exact h5
  have h313 : f307 (b + 6) = some (.inl (P.2.1 0, 9600, .inl gf)) := by rw [ef307, va_up_ne _ _ (by omega)]; exact h6
  have h314 : f307 (b + 7) = some (.inl (P.2.1 1, 48, .inl gk)) := by rw [ef307, va_up_ne _ _ (by omega)]; exact h7
  have h315 : f307 (b + 8) = some (.inl (P.2.1 1, 48, .inl gi)) := by rw [ef307, va_up_ne _ _ (by omega)]; exact h8
  have h316 : f307 (b + 9) = some (.inl (P.2.1 1, 48, .inl gz)) := by rw [ef307, va_up_ne _ _ (by omega)]; exact h9
  have h317 : f307 (b + 10) = some (.inl (P.2.1 0, 393216, .inl gy)) := by rw [ef307, va_up_ne _ _ (by omega)]; exact h10
  have h318 : f307 (b + 11) = some (.inl (P.2.1 2, 912, .inl ga)) := by rw [ef307, va_up_ne _ _ (by omega)]; exact h11
  have h319 : f307 (b + 12) = some (.inl (P.2.1 1, 2048, .inl gd)) := by rw [ef307, va_up_ne _ _ (by omega)]; exact h12
  have h320 : f307 b = some (.inr (7, [.ref (b + 1), .int (nI 0), .ref (b + 2), .ref (b + 3), .ref (b + 4), .ref (b + 5), .ref (b + 6), .ref (b + 7), .ref (b + 8), .ref (b + 9), .ref (b + 10), .ref (b + 11), .int (nI L.length), .int (nI (fB st.2.2.2.2.2)), .int (nI (st.2.2.2.2.1 + 1)), .ref (b + 12), .int (nI 0)])) := by rw [ef307]; exact va_up_self _ _ _
  have hF : gFr f f307 [b, b + 1, b + 2, b + 3, b + 4, b + 5, b + 6, b + 7, b + 8, b + 9, b + 10, b + 11, b + 12] := by rw [ef307]; exact gFr.upA (by simp) hF
  have hb := h320
  have h1 := h308
  have h2 := h309
  have h3 := h310
  have h4 := h311
  have h5 := h312
  have h6 := h313
  have h7 := h314
  have h8 := h315
  have h9 := h316
  have h10 := h317
  have h11 := h318
  have h12 := h319
  have hT0 : mTape gt [] := ⟨by simp, rfl⟩
  have wr : ∀ (fj : gM) (go gu gf gk gi gz ga : Nat → Int32) (L' : List Nat) (af' : Nat → AFile) (FS' : List AFile) (q bf fr at_ : Nat), fj b = some (.inr (7, [.ref (b + 1), .int (nI 0), .ref (b + 2), .ref (b + 3), .ref (b + 4), .ref (b + 5), .ref (b + 6), .ref (b + 7), .ref (b + 8), .ref (b + 9), .ref (b + 10), .ref (b + 11), .int (nI L'.length), .int (nI (fB st.2.2.2.2.2)), .int (nI (st.2.2.2.2.1 + 1)), .ref (b + 12), .int (nI 0)])) → fj (b + 1) = some (.inl (P.2.1 0, 2048, .inl gt)) → fj (b + 2) = some (.inl (P.2.1 0, 400, .inl gn)) → fj (b + 3) = some (.inl (P.2.1 1, 2, .inl gl)) → fj (b + 4) = some (.inl (P.2.1 1, 48, .inl go)) → fj (b + 5) = some (.inl (P.2.1 2, 48, .inl gu)) → fj (b + 6) = some (.inl (P.2.1 0, 9600, .inl gf)) → fj (b + 7) = some (.inl (P.2.1 1, 48, .inl gk)) → fj (b + 8) = some (.inl (P.2.1 1, 48, .inl gi)) → fj (b + 9) = some (.inl (P.2.1 1, 48, .inl gz)) → fj (b + 10) = some (.inl (P.2.1 0, 393216, .inl gy)) → fj (b + 11) = some (.inl (P.2.1 2, 912, .inl ga)) → fj (b + 12) = some (.inl (P.2.1 1, 2048, .inl gd)) → mFs go gu gf gk gi gz gy ga L' af' → q ∈ L' → (∀ x ∈ L', wfF (af' x).2.2.1 (af' x).2.2.2.1 (af' x).2.2.2.2) → (af' q).2.2.1 = bf → bf ≤ fB st.2.2.2.2.2 → fr ≤ 8192 → at_ = (if st.1.length = 0 then bf else max bf (fr + st.1.length)) → at_ ≤ 8192 → oWrite st false an = (nI st.1.length, [], [], FS') → L'.map (va_up af' q (fWr (af' q) fr st.1)) = FS' → fB FS' = fB st.2.2.2.2.2 - bf + at_ → gFr f fj [b, b + 1, b + 2, b + 3, b + 4, b + 5, b + 6, b + 7, b + 8, b + 9, b + 10, b + 11, b + 12] → ∀ (H : Heap) (locs : List Loc), gB P fj s H locs → ∀ ls : Array Slot, lv_has ls 10 [(0, .ref b), (4, .int (nI st.1.length)), (5, .int (nI q)), (7, .int (nI fr)), (8, .int (nI at_))] → W p l env (grm 3 0 0) s m args below meth c H locs 0 0 (MQ below (gQi P (fun r f1 => r = (oWrite st false an).1 ∧ gMo P f1 b (aAft st (oWrite st false an)) ∧ gFr f f1 [b, b + 1, b + 2, b + 3, b + 4, b + 5, b + 6, b + 7, b + 8, b + 9, b + 10, b + 11, b + 12])) args s 0 0 (gA P)) (F0 m 127 ls []) := by
    intro fj go gu gf gk gi gz ga L' af' FS' q bf fr at_ jb j1 j2 j3 j4 j5 j6 j7 j8 j9 j10 j11 j12 jm hqL jw hbf hbt hfr hat hat8 hO9 hmap hB hF H locs hI ls hl
    obtain ⟨hq48, -, -, p2, -, -⟩ := jm.2.2.2.2 q hqL
    have hw1 := (jw q hqL).1
    rw [hbf] at p2 hw1
    have hfn : fr + st.1.length ≤ 8192 := by
      by_cases c : st.1.length = 0
      · omega
      · rw [if_neg c] at hat; omega
    refine lv_aload_n S.1 S.2.1 d_Mdl_write_127 rfl (lv_at hl 0 rfl) ?_
    refine lv_iload S.1 S.2.1 d_Mdl_write_128 (lv_at hl 2 rfl) ?_
    refine lv_iload S.1 S.2.1 d_Mdl_write_130 (lv_at hl 4 rfl) ?_
    refine gc_Vv S hI (c_Mdl_resize l P fj (q := q) (n := at_) (old := bf) jb j9 j10 j11 hq48 hat8 hw1 p2 hbt) kv_Mdl_resize wi_489 jb rfl rfl rfl hl.1 rfl (Nat.le_of_ble_eq_true rfl) ⟨Nat.le_of_ble_eq_true rfl, Nat.le_of_ble_eq_true rfl⟩ ⟨Nat.le_of_ble_eq_true rfl, Nat.le_of_ble_eq_true rfl⟩ d_Mdl_write_132 (fun f322 H locs hp323 hI => ?_)
    obtain ⟨gy1, ga1, k0, k9, k10, k11, ky, ka, kF⟩ := hp323
    have m1 := kF (b + 1) _ j1 (by intro z; simp at z)
    have m2 := kF (b + 2) _ j2 (by intro z; simp at z)
    have m3 := kF (b + 3) _ j3 (by intro z; simp at z)
    have m4 := kF (b + 4) _ j4 (by intro z; simp at z)
    have m5 := kF (b + 5) _ j5 (by intro z; simp at z)
    have m6 := kF (b + 6) _ j6 (by intro z; simp at z)
    have m7 := kF (b + 7) _ j7 (by intro z; simp at z)
    have m8 := kF (b + 8) _ j8 (by intro z; simp at z)
    have m12 := kF (b + 12) _ j12 (by intro z; simp at z)
    have jm1 := mFs_resize jm hqL jw hat8 (by rw [hbf]; exact ky) ka
    have hF2 : gFr f f322 [b, b + 1, b + 2, b + 3, b + 4, b + 5, b + 6, b + 7, b + 8, b + 9, b + 10, b + 11, b + 12] := hF.call kF (by intro q hq; left; simp at hq ⊢; omega)
    have loop : ∀ (u i : Nat) (fk : gM) (gy2 ga2 : Nat → Int32), i ≤ st.1.length → st.1.length - i < u → fk (b + 10) = some (.inl (P.2.1 0, 393216, .inl gy2)) → fk (b + 11) = some (.inl (P.2.1 2, 912, .inl ga2)) → gFr f322 fk [b + 10, b + 11] → (∀ j, j < i → ub (gy2 (8192 * q + fr + j)) = ub (gt j)) → (∀ x, (x < 8192 * q + fr ∨ 8192 * q + fr + st.1.length ≤ x) → gy2 x = gy1 x) → (∀ j, j < i → ga2 (19 * q + (fr + j) / 448) = 1) → (∀ x, (∀ j, j < i → x ≠ 19 * q + (fr + j) / 448) → ga2 x = ga1 x) → ∀ (H : Heap) (locs : List Loc), gB P fk s H locs → ∀ ls : Array Slot, lv_has ls 10 [(0, .ref b), (4, .int (nI st.1.length)), (5, .int (nI q)), (7, .int (nI fr)), (9, .int (nI i))] → W p l env (grm 3 0 0) s m args below meth c H locs 0 0 (MQ below (gQi P (fun r f1 => r = (oWrite st false an).1 ∧ gMo P f1 b (aAft st (oWrite st false an)) ∧ gFr f f1 [b, b + 1, b + 2, b + 3, b + 4, b + 5, b + 6, b + 7, b + 8, b + 9, b + 10, b + 11, b + 12])) args s 0 0 (gA P)) (F0 m 138 ls []) := by
      intro u
      induction u with
      | zero => intro i fk gy2 ga2 h9 h8; exact absurd h8 (by omega)
      | succ u ih =>
        intro i fk gy2 ga2 hi1 hu n10 n11 nF hy1 hy2 ha1 ha2 H locs hI ls hl
        have nb := nF b _ k0 (by intro z; simp at z)
        have n1 := nF (b + 1) _ m1 (by intro z; simp at z)
        have hF := nF
        refine lv_iload S.1 S.2.1 d_Mdl_write_138 (lv_at hl 4 rfl) ?_
        refine lv_iload S.1 S.2.1 d_Mdl_write_140 (lv_at hl 1 rfl) ?_
        refine lv_icmp_ge (tgt := 196) S.1 S.2.1 d_Mdl_write_142 (by decide) (fun c324 => ?_) (fun c324 => ?_)
        · skip
          replace c324 : st.1.length ≤ i := (nI_leI (a := st.1.length) (b := i) (by omega) (by omega)).mp c324
          have jm2 : mFs go gu gf gk gi (upd gz q (nI at_)) gy2 ga2 L' (va_up af' q (fWr (af' q) fr st.1)) := mFs_write (gt := gt) (n := st.1.length) (by rw [hbf, ← hat]; exact jm1) hqL rfl (fun x hx => (jw x hx).1) (jw q hqL) rfl ht2 hfn (fun j hj => hy1 j (by omega)) hy2 (fun j hj => ha1 j (by omega)) (fun x hx => ha2 x (fun j hj => hx j (by omega)))
          have n2 := nF (b + 2) _ m2 (by intro z; simp at z)
          have n3 := nF (b + 3) _ m3 (by intro z; simp at z)
          have n4 := nF (b + 4) _ m4 (by intro z; simp at z)
          have n5 := nF (b + 5) _ m5 (by intro z; simp at z)
          have n6 := nF (b + 6) _ m6 (by intro z; simp at z)
          have n7 := nF (b + 7) _ m7 (by intro z; simp at z)
          have n8 := nF (b + 8) _ m8 (by intro z; simp at z)
          have n12 := nF (b + 12) _ m12 (by intro z; simp at z)
          have n9 := nF (b + 9) _ k9 (by intro z; simp at z)
          rw [← hB] at nb
          refine lv_iload S.1 S.2.1 d_Mdl_write_196 (lv_at hl 1 rfl) ?_
          exact gr_i S hr hlk hI (by rw [hO9]; exact ⟨rfl, ⟨gt, gn, gl, go, gu, gf, gk, gi, upd gz q (nI at_), gy2, ga2, gd, L', va_up af' q (fWr (af' q) fr st.1), ⟨nb, n1, n2, n3, n4, n5, n6, n7, n8, n9, n10, n11, n12⟩, hT0, ⟨hn0, hn1⟩, hd0, jm2, hmap⟩, hF2.call nF (by intro q hq; left; simp at hq ⊢; omega)⟩) d_Mdl_write_198
        · skip
          replace c324 : ¬ st.1.length ≤ i := fun z => c324 ((nI_leI (a := st.1.length) (b := i) (by omega) (by omega)).mpr z)
          refine lv_aload_n S.1 S.2.1 d_Mdl_write_145 rfl (lv_at hl 0 rfl) ?_
          refine gh_get S hI nb rfl i_Mdl 10 (by decide) wi_445 rfl d_Mdl_write_146 ?_
          refine lv_sipush (v := nI 8192) S.1 S.2.1 d_Mdl_write_149 (by decide) ?_
          refine lv_iload S.1 S.2.1 d_Mdl_write_152 (lv_at hl 2 rfl) ?_
          refine lv_imul S.1 S.2.1 d_Mdl_write_154 ?_
          refine lv_topi (fun v325 ev325 => ?_)
          replace ev325 : v325 = nI (8192 * q) := ev325.trans (pk_mul _ _)
          subst ev325
          refine lv_iload S.1 S.2.1 d_Mdl_write_155 (lv_at hl 3 rfl) ?_
          refine lv_iadd S.1 S.2.1 d_Mdl_write_157 ?_
          refine lv_topi (fun v326 ev326 => ?_)
          replace ev326 : v326 = nI ((8192 * q) + fr) := ev326.trans (nI_add _ _)
          subst ev326
          refine lv_iload S.1 S.2.1 d_Mdl_write_158 (lv_at hl 4 rfl) ?_
          refine lv_iadd S.1 S.2.1 d_Mdl_write_160 ?_
          refine lv_topi (fun v327 ev327 => ?_)
          replace ev327 : v327 = nI (((8192 * q) + fr) + i) := ev327.trans (nI_add _ _)
          subst ev327
          refine lv_aload_n S.1 S.2.1 d_Mdl_write_161 rfl (lv_at hl 0 rfl) ?_
          refine gh_get S hI nb rfl i_Mdl 0 (by decide) wi_435 rfl d_Mdl_write_162 ?_
          refine lv_iload S.1 S.2.1 d_Mdl_write_165 (lv_at hl 4 rfl) ?_
          refine gh_bald (j := i) S hI 0 n1 rfl rfl (by omega) (by omega) d_Mdl_write_167 ?_
          refine gh_bast (j := ((8192 * q) + fr) + i) S hI 0 n10 rfl rfl (by omega) (by omega) d_Mdl_write_168 (fun H locs hI => ?_)
          have hI : gB P (va_up fk (b + 10) (some (.inl (P.2.1 0, 393216, .inl (upd gy2 (((8192 * q) + fr) + i) (Int8.toInt32 (Int32.toInt8 (gt i)))))))) s H locs := hI
          obtain ⟨f328, ef328⟩ : ∃ z, z = va_up fk (b + 10) (some (.inl (P.2.1 0, 393216, .inl (upd gy2 (((8192 * q) + fr) + i) (Int8.toInt32 (Int32.toInt8 (gt i))))))) := ⟨_, rfl⟩
          rw [← ef328] at hI
          have h329 : f328 b = some (.inr (7, [.ref (b + 1), .int (nI 0), .ref (b + 2), .ref (b + 3), .ref (b + 4), .ref (b + 5), .ref (b + 6), .ref (b + 7), .ref (b + 8), .ref (b + 9), .ref (b + 10), .ref (b + 11), .int (nI L'.length), .int (nI (fB st.2.2.2.2.2 - bf + at_)), .int (nI (st.2.2.2.2.1 + 1)), .ref (b + 12), .int (nI 0)])) := by rw [ef328, va_up_ne _ _ (by omega)]; exact nb
          have h330 : f328 (b + 1) = some (.inl (P.2.1 0, 2048, .inl gt)) := by rw [ef328, va_up_ne _ _ (by omega)]; exact n1
          have h331 : f328 (b + 11) = some (.inl (P.2.1 2, 912, .inl ga2)) := by rw [ef328, va_up_ne _ _ (by omega)]; exact n11
          have h332 : f328 (b + 10) = some (.inl (P.2.1 0, 393216, .inl (upd gy2 (((8192 * q) + fr) + i) (Int8.toInt32 (Int32.toInt8 (gt i)))))) := by rw [ef328]; exact va_up_self _ _ _
          have hF : gFr f322 f328 [b + 10, b + 11] := by rw [ef328]; exact gFr.upA (by simp) hF
          refine lv_aload_n S.1 S.2.1 d_Mdl_write_169 rfl (lv_at hl 0 rfl) ?_
          refine gh_get S hI h329 rfl i_Mdl 11 (by decide) wi_446 rfl d_Mdl_write_170 ?_
          refine lv_bipush (v := nI 19) S.1 S.2.1 d_Mdl_write_173 (by decide) ?_
          refine lv_iload S.1 S.2.1 d_Mdl_write_175 (lv_at hl 2 rfl) ?_
          refine lv_imul S.1 S.2.1 d_Mdl_write_177 ?_
          refine lv_topi (fun v333 ev333 => ?_)
          replace ev333 : v333 = nI (19 * q) := ev333.trans (pk_mul _ _)
          subst ev333
          refine lv_iload S.1 S.2.1 d_Mdl_write_178 (lv_at hl 3 rfl) ?_
          refine lv_iload S.1 S.2.1 d_Mdl_write_180 (lv_at hl 4 rfl) ?_
          refine lv_iadd S.1 S.2.1 d_Mdl_write_182 ?_
          refine lv_topi (fun v334 ev334 => ?_)
          replace ev334 : v334 = nI (fr + i) := ev334.trans (nI_add _ _)
          subst ev334
          refine lv_sipush (v := nI 448) S.1 S.2.1 d_Mdl_write_183 (by decide) ?_
          refine lv_idiv S.1 S.2.1 d_Mdl_write_186 (by decide) ?_
          refine lv_topi (fun v335 ev335 => ?_)
          replace ev335 : v335 = nI ((fr + i) / 448) := ev335.trans (pk_div (by omega) (by omega) (by omega))
          subst ev335
          refine lv_iadd S.1 S.2.1 d_Mdl_write_187 ?_
          refine lv_topi (fun v336 ev336 => ?_)
          replace ev336 : v336 = nI ((19 * q) + ((fr + i) / 448)) := ev336.trans (nI_add _ _)
          subst ev336
          refine lv_iconst (v := nI 1) S.1 S.2.1 d_Mdl_write_188 (by decide) ?_
          refine gh_zast (j := (19 * q) + ((fr + i) / 448)) S hI 2 h331 rfl (by first | exact Or.inl rfl | exact Or.inr rfl) rfl (by omega) (by omega) d_Mdl_write_189 (fun H locs hI => ?_)
          have hI : gB P (va_up f328 (b + 11) (some (.inl (P.2.1 2, 912, .inl (upd ga2 ((19 * q) + ((fr + i) / 448)) (nI 1)))))) s H locs := hI
          obtain ⟨f337, ef337⟩ : ∃ z, z = va_up f328 (b + 11) (some (.inl (P.2.1 2, 912, .inl (upd ga2 ((19 * q) + ((fr + i) / 448)) (nI 1))))) := ⟨_, rfl⟩
          rw [← ef337] at hI
          have h338 : f337 b = some (.inr (7, [.ref (b + 1), .int (nI 0), .ref (b + 2), .ref (b + 3), .ref (b + 4), .ref (b + 5), .ref (b + 6), .ref (b + 7), .ref (b + 8), .ref (b + 9), .ref (b + 10), .ref (b + 11), .int (nI L'.length), .int (nI (fB st.2.2.2.2.2 - bf + at_)), .int (nI (st.2.2.2.2.1 + 1)), .ref (b + 12), .int (nI 0)])) := by rw [ef337, va_up_ne _ _ (by omega)]; exact h329
          have h339 : f337 (b + 1) = some (.inl (P.2.1 0, 2048, .inl gt)) := by rw [ef337, va_up_ne _ _ (by omega)]; exact h330
          have h340 : f337 (b + 10) = some (.inl (P.2.1 0, 393216, .inl (upd gy2 (((8192 * q) + fr) + i) (Int8.toInt32 (Int32.toInt8 (gt i)))))) := by rw [ef337, va_up_ne _ _ (by omega)]; exact h332
          have h341 : f337 (b + 11) = some (.inl (P.2.1 2, 912, .inl (upd ga2 ((19 * q) + ((fr + i) / 448)) (nI 1)))) := by rw [ef337]; exact va_up_self _ _ _
          have hF : gFr f322 f337 [b + 10, b + 11] := by rw [ef337]; exact gFr.upA (by simp) hF
          refine lv_iinc (v := nI (i + 1)) (lv' := [(9, .int (nI (i + 1))), (0, .ref b), (4, .int (nI st.1.length)), (5, .int (nI q)), (7, .int (nI fr))]) S.1 S.2.1 d_Mdl_write_190 hl (k := 4) rfl (nI_add _ _) (by decide) rfl (fun ls hl => ?_)
          refine lv_goto (tgt := 138) S.1 S.2.1 d_Mdl_write_193 (by decide) ?_
          exact ih (i + 1) _ _ _ (by omega) (by omega) h340 h341 hF (fun j hj => by
            unfold upd
            by_cases hc : j = i
            · rw [if_pos (by omega), hc, ub_nb]
            · rw [if_neg (by omega)]; exact hy1 j (by omega)) (fun x hx => by unfold upd; rw [if_neg (by omega)]; exact hy2 x hx) (fun j hj => by
            unfold upd
            by_cases hc : 19 * q + (fr + j) / 448 = 19 * q + (fr + i) / 448
            · rw [if_pos hc]; rfl
            · rw [if_neg hc]; exact ha1 j (by
                rcases Nat.lt_succ_iff_lt_or_eq.mp hj with z | z
                · exact z
                · rw [z] at hc; exact absurd rfl hc)) (fun x hx => by unfold upd; rw [if_neg (hx i (by omega))]; exact ha2 x (fun j hj => hx j (by omega))) _ _ hI _ (lv_sub hl [1, 2, 3, 4, 0] rfl)
    refine lv_iconst (v := nI 0) S.1 S.2.1 d_Mdl_write_135 (by decide) ?_
    refine lv_istore (lv' := [(9, .int (nI 0)), (0, .ref b), (4, .int (nI st.1.length)), (5, .int (nI q)), (7, .int (nI fr)), (8, .int (nI at_))]) S.1 S.2.1 d_Mdl_write_136 hl (by decide) rfl (fun ls hl => ?_)
    exact loop (st.1.length + 1) 0 f322 gy1 ga1 (by omega) (by omega) k10 k11 gFr.rf (fun j hj => absurd hj (by omega)) (fun _ _ => rfl) (fun j hj => absurd hj (by omega)) (fun _ _ => rfl) _ _ hI _ (lv_sub hl [1, 2, 3, 4, 0] rfl)
  refine lv_aload_n S.1 S.2.1 d_Mdl_write_11 rfl (lv_at hl 1 rfl) ?_
  refine lv_iconst (v := nI 0) S.1 S.2.1 d_Mdl_write_12 (by decide) ?_
  refine gc_Vi S hI (c_Mdl_find l P f307 (k := 0) (nm := st.2.1) (af := af) hb h2 h3 h4 h6 h7 hO hN hlL (by omega) hn0 hs) kv_Mdl_find wi_473 hb rfl rfl rfl hl.1 rfl (Nat.le_of_ble_eq_true rfl) ⟨Nat.le_of_ble_eq_true rfl, Nat.le_of_ble_eq_true rfl⟩ ⟨Nat.le_of_ble_eq_true rfl, Nat.le_of_ble_eq_true rfl⟩ d_Mdl_write_13 (fun r342 f343 H locs hp344 hI => ?_)
  obtain ⟨hp1, hp2⟩ := hp344
  rw [hp2] at hI
  rw [hnF] at hp1
  rcases hp1 with ⟨hix, hr9⟩ | ⟨i, q, hix, hq, hr9⟩
  · subst hr9
    refine lv_istore (lv' := [(5, .int (-1)), (4, .int (nI st.1.length)), (0, .ref b), (1, .int (nI st.2.2.2.2.1)), (2, .int (nI an)), (3, .int (nI 0))]) S.1 S.2.1 d_Mdl_write_16 hl (by decide) rfl (fun ls hl => ?_)
    refine lv_iload S.1 S.2.1 d_Mdl_write_18 (lv_at hl 0 rfl) ?_
    refine lv_if_ge (tgt := 27) S.1 S.2.1 d_Mdl_write_20 (by decide) (fun c345 => ?_) (fun c345 => ?_)
    · skip
      exact absurd c345 (by decide)
    · skip
      refine lv_iconst (v := nI 0) S.1 S.2.1 d_Mdl_write_23 (by decide) ?_
      refine lv_goto (tgt := 34) S.1 S.2.1 d_Mdl_write_24 (by decide) ?_
      refine lv_istore (lv' := [(6, .int (nI 0)), (5, .int (-1)), (4, .int (nI st.1.length)), (0, .ref b), (1, .int (nI st.2.2.2.2.1)), (2, .int (nI an)), (3, .int (nI 0))]) S.1 S.2.1 d_Mdl_write_34 hl (by decide) rfl (fun ls hl => ?_)
      refine lv_iload_n S.1 S.2.1 d_Mdl_write_36 rfl (lv_at hl 6 rfl) ?_
      refine lv_if_eq (tgt := 45) S.1 S.2.1 d_Mdl_write_37 (by decide) (fun c346 => ?_) (fun c346 => ?_)
      · skip
        replace c346 : 0 = 0 := (nI_eq (a := 0) (b := 0) (by omega) (by omega)).mp c346
        refine lv_iload_n S.1 S.2.1 d_Mdl_write_45 rfl (lv_at hl 5 rfl) ?_
        refine lv_istore (lv' := [(7, .int (nI an)), (6, .int (nI 0)), (5, .int (-1)), (4, .int (nI st.1.length)), (0, .ref b), (1, .int (nI st.2.2.2.2.1)), (2, .int (nI an)), (3, .int (nI 0))]) S.1 S.2.1 d_Mdl_write_46 hl (by decide) rfl (fun ls hl => ?_)
        have hfr8 : an ≤ 8192 := hAn
        have hbf8 : 0 ≤ 8192 := by omega
        have hbt : 0 ≤ fB st.2.2.2.2.2 := Nat.zero_le _
        have join : ∀ at_ : Nat, at_ = (if st.1.length = 0 then 0 else max 0 (an + st.1.length)) → ∀ (H : Heap) (locs : List Loc), gB P f307 s H locs → ∀ ls : Array Slot, lv_has ls 10 [(0, .ref b), (1, .int (nI st.2.2.2.2.1)), (2, .int (nI an)), (3, .int (nI 0)), (4, .int (nI st.1.length)), (5, .int (-1)), (6, .int (nI 0)), (7, .int (nI an)), (8, .int (nI at_))] → W p l env (grm 3 0 0) s m args below meth c H locs 0 0 (MQ below (gQi P (fun r f1 => r = (oWrite st false an).1 ∧ gMo P f1 b (aAft st (oWrite st false an)) ∧ gFr f f1 [b, b + 1, b + 2, b + 3, b + 4, b + 5, b + 6, b + 7, b + 8, b + 9, b + 10, b + 11, b + 12])) args s 0 0 (gA P)) (F0 m 75 ls []) := by
          intro at_ hat H locs hI ls hl
          have hat2 : at_ ≤ 10240 := by
            rw [hat]; split <;> omega
          refine lv_iload S.1 S.2.1 d_Mdl_write_75 (lv_at hl 5 rfl) ?_
          refine lv_if_ge (tgt := 89) S.1 S.2.1 d_Mdl_write_77 (by decide) (fun c347 => ?_) (fun c347 => ?_)
          · skip
            exact absurd c347 (by decide)
          · skip
            refine lv_aload_n S.1 S.2.1 d_Mdl_write_80 rfl (lv_at hl 0 rfl) ?_
            refine gh_get S hI hb rfl i_Mdl 12 (by decide) wi_447 rfl d_Mdl_write_81 ?_
            refine lv_bipush (v := nI 48) S.1 S.2.1 d_Mdl_write_84 (by decide) ?_
            refine lv_icmp_eq (tgt := 112) S.1 S.2.1 d_Mdl_write_86 (by decide) (fun c348 => ?_) (fun c348 => ?_)
            · skip
              replace c348 : L.length = 48 := (nI_eq (a := L.length) (b := 48) (by omega) (by omega)).mp c348
              refine lv_bipush (v := (-4)) S.1 S.2.1 d_Mdl_write_112 (by decide) ?_
              exact gr_i S hr hlk hI (by rw [oWrite_n (fr := an) (at_ := at_) hix rfl (by rw [hat]; simp), if_neg (fun z => absurd z.1 (by omega))]; exact ⟨rfl, ⟨gt, gn, gl, go, gu, gf, gk, gi, gz, gy, ga, gd, L, af, ⟨hb, h1, h2, h3, h4, h5, h6, h7, h8, h9, h10, h11, h12⟩, hT0, ⟨hn0, hn1⟩, hd0, hmF, hFS⟩, hF⟩) d_Mdl_write_114
            · skip
              replace c348 : ¬ L.length = 48 := fun z => c348 ((nI_eq (a := L.length) (b := 48) (by omega) (by omega)).mpr z)
              refine lv_iload S.1 S.2.1 d_Mdl_write_89 (lv_at hl 8 rfl) ?_
              refine lv_sipush (v := nI 8192) S.1 S.2.1 d_Mdl_write_91 (by decide) ?_
              refine lv_icmp_gt (tgt := 112) S.1 S.2.1 d_Mdl_write_94 (by decide) (fun c349 => ?_) (fun c349 => ?_)
              · skip
                replace c349 : 8192 < at_ := (nI_ltI (a := 8192) (b := at_) (by omega) (by omega)).mp c349
                refine lv_bipush (v := (-4)) S.1 S.2.1 d_Mdl_write_112 (by decide) ?_
                exact gr_i S hr hlk hI (by rw [oWrite_n (fr := an) (at_ := at_) hix rfl (by rw [hat]; simp), if_neg (fun z => absurd z.2.1 (by omega))]; exact ⟨rfl, ⟨gt, gn, gl, go, gu, gf, gk, gi, gz, gy, ga, gd, L, af, ⟨hb, h1, h2, h3, h4, h5, h6, h7, h8, h9, h10, h11, h12⟩, hT0, ⟨hn0, hn1⟩, hd0, hmF, hFS⟩, hF⟩) d_Mdl_write_114
              · skip
                replace c349 : ¬ 8192 < at_ := fun z => c349 ((nI_ltI (a := 8192) (b := at_) (by omega) (by omega)).mpr z)
                replace c349 : at_ ≤ 8192 := by omega
                refine lv_aload_n S.1 S.2.1 d_Mdl_write_97 rfl (lv_at hl 0 rfl) ?_
                refine gh_get S hI hb rfl i_Mdl 13 (by decide) wi_448 rfl d_Mdl_write_98 ?_
                refine lv_iload S.1 S.2.1 d_Mdl_write_101 (lv_at hl 6 rfl) ?_
                refine lv_isub S.1 S.2.1 d_Mdl_write_103 ?_
                refine lv_topi (fun v350 ev350 => ?_)
                replace ev350 : v350 = nI ((fB st.2.2.2.2.2) - 0) := ev350.trans (pk_sub (by omega))
                subst ev350
                refine lv_iload S.1 S.2.1 d_Mdl_write_104 (lv_at hl 8 rfl) ?_
                refine lv_iadd S.1 S.2.1 d_Mdl_write_106 ?_
                refine lv_topi (fun v351 ev351 => ?_)
                replace ev351 : v351 = nI (((fB st.2.2.2.2.2) - 0) + at_) := ev351.trans (nI_add _ _)
                subst ev351
                refine lv_ldc (v := nI 32768) S.1 S.2.1 S.2.2.2.1 (S.2.2.2.2 _ wi_488) d_Mdl_write_107 ?_
                refine lv_icmp_le (tgt := 115) S.1 S.2.1 d_Mdl_write_109 (by decide) (fun c352 => ?_) (fun c352 => ?_)
                · skip
                  replace c352 : (((fB st.2.2.2.2.2) - 0) + at_) ≤ 32768 := (nI_leI (a := ((fB st.2.2.2.2.2) - 0) + at_) (b := 32768) (by omega) (by omega)).mp c352
                  refine lv_iload S.1 S.2.1 d_Mdl_write_115 (lv_at hl 5 rfl) ?_
                  refine lv_if_ge (tgt := 127) S.1 S.2.1 d_Mdl_write_117 (by decide) (fun c353 => ?_) (fun c353 => ?_)
                  · skip
                    exact absurd c353 (by decide)
                  · skip
                    refine lv_aload_n S.1 S.2.1 d_Mdl_write_120 rfl (lv_at hl 0 rfl) ?_
                    refine lv_iload_n S.1 S.2.1 d_Mdl_write_121 rfl (lv_at hl 1 rfl) ?_
                    have hno : st.2.1 ∉ nms af L := by rw [hnF]; exact idx_nm hw.1 hix
                    have hpl : plc (nms af L) st.2.1 ≤ L.length := by have := plc_le (nms af L) st.2.1; rw [show (nms af L).length = L.length by simp [nms]] at this; exact this
                    refine gc_Vi S hI (c_Mdl_made l P f307 (idv := nI st.2.2.2.2.1) (nm := st.2.1) (af := af) hb h2 h3 h4 h5 h6 h7 h8 h9 h11 hO hU hN (by omega) hn0 hs hno) kv_Mdl_made wi_479 hb rfl rfl rfl hl.1 rfl (Nat.le_of_ble_eq_true rfl) ⟨Nat.le_of_ble_eq_true rfl, Nat.le_of_ble_eq_true rfl⟩ ⟨Nat.le_of_ble_eq_true rfl, Nat.le_of_ble_eq_true rfl⟩ d_Mdl_write_122 (fun r354 f355 H locs hp356 hI => ?_)
                    obtain ⟨q, g4, g6, g7, g11, hq48, hqL, hr7, k0, k4, k5, k6, k7, k8, k9, k11, kO, kN, kK, kA, kF⟩ := hp356
                    subst hr7
                    have k1 := kF (b + 1) _ h1 (by intro z; simp at z)
                    have k2 := kF (b + 2) _ h2 (by intro z; simp at z)
                    have k3 := kF (b + 3) _ h3 (by intro z; simp at z)
                    have k10 := kF (b + 10) _ h10 (by intro z; simp at z)
                    have k12 := kF (b + 12) _ h12 (by intro z; simp at z)
                    have hm1 := mFs_made (idv := nI st.2.2.2.2.1) hmF hq48 hqL (by omega) hpl kO kN kK kA
                    have eL : (L.insertIdx (plc (nms af L) st.2.1) q).length = L.length + 1 := List.length_insertIdx_of_le_length hpl _
                    rw [← eL] at k0
                    have hF9 : gFr f f355 [b, b + 1, b + 2, b + 3, b + 4, b + 5, b + 6, b + 7, b + 8, b + 9, b + 10, b + 11, b + 12] := hF.call kF (by intro q hq; left; simp at hq ⊢; omega)
                    have hpF : plc (fN st.2.2.2.2.2) st.2.1 ≤ st.2.2.2.2.2.length := by rw [hlF, ← hnF]; exact hpl
                    refine lv_istore (lv' := [(5, .int (nI q)), (0, .ref b), (1, .int (nI st.2.2.2.2.1)), (2, .int (nI an)), (3, .int (nI 0)), (4, .int (nI st.1.length)), (6, .int (nI 0)), (7, .int (nI an)), (8, .int (nI at_))]) S.1 S.2.1 d_Mdl_write_125 hl (by decide) rfl (fun ls hl => ?_)
                    have hat9 : at_ = (if st.1.length = 0 then 0 else an + st.1.length) := by rw [hat]; simp
                    refine wr f355 g4 (upd gu q (nI 1)) g6 g7 (upd gi q (nI st.2.2.2.2.1)) (upd gz q (nI 0)) g11 _ _ (fIns st.2.2.2.2.2 (fWr (fNew st.2.1 (nI st.2.2.2.2.1)) an st.1)) q 0 an at_ k0 k1 k2 k3 k4 k5 k6 k7 k8 k9 k10 k11 k12 hm1 ((mem_ins hpl).mpr (Or.inl rfl)) (fun x hx => ?_) (by rw [va_up_self]) hbt hfr8 hat c349 (by rw [oWrite_n (fr := an) (at_ := at_) hix rfl (by rw [hat]; simp), if_pos ⟨by omega, c349, by omega⟩]) ?_ ?_ hF9 _ _ hI _ (lv_sub hl [1, 5, 0, 7, 8] rfl)
                    · rcases (mem_ins hpl).mp hx with z | z
                      · rw [z, va_up_self]; exact wfF_0
                      · rw [va_up_ne _ _ (fun y => hqL (by rw [← y]; exact z))]; exact hWf x z
                    · rw [va_up_self, va_up_up, map_ins_up hqL, hFS, hnF]; rfl
                    · show fB (st.2.2.2.2.2.insertIdx (plc (fN st.2.2.2.2.2) st.2.1) (fWr (fNew st.2.1 (nI st.2.2.2.2.1)) an st.1)) = _
                      rw [fB_ins hpF]
                      show (if st.1.length = 0 then 0 else max 0 (an + st.1.length)) + fB st.2.2.2.2.2 = fB st.2.2.2.2.2 - 0 + at_
                      rw [← hat]; omega
                · skip
                  replace c352 : ¬ (((fB st.2.2.2.2.2) - 0) + at_) ≤ 32768 := fun z => c352 ((nI_leI (a := ((fB st.2.2.2.2.2) - 0) + at_) (b := 32768) (by omega) (by omega)).mpr z)
                  refine lv_bipush (v := (-4)) S.1 S.2.1 d_Mdl_write_112 (by decide) ?_
                  exact gr_i S hr hlk hI (by rw [oWrite_n (fr := an) (at_ := at_) hix rfl (by rw [hat]; simp), if_neg (fun z => absurd z.2.2 (by omega))]; exact ⟨rfl, ⟨gt, gn, gl, go, gu, gf, gk, gi, gz, gy, ga, gd, L, af, ⟨hb, h1, h2, h3, h4, h5, h6, h7, h8, h9, h10, h11, h12⟩, hT0, ⟨hn0, hn1⟩, hd0, hmF, hFS⟩, hF⟩) d_Mdl_write_114
        refine lv_iload S.1 S.2.1 d_Mdl_write_48 (lv_at hl 3 rfl) ?_
        refine lv_if_eq (tgt := 63) S.1 S.2.1 d_Mdl_write_50 (by decide) (fun c357 => ?_) (fun c357 => ?_)
        · skip
          replace c357 : st.1.length = 0 := (nI_eq (a := st.1.length) (b := 0) (by omega) (by omega)).mp c357
          refine lv_iload S.1 S.2.1 d_Mdl_write_63 (lv_at hl 1 rfl) ?_
          refine lv_goto (tgt := 73) S.1 S.2.1 d_Mdl_write_65 (by decide) ?_
          refine lv_istore (lv' := [(8, .int (nI 0)), (7, .int (nI an)), (6, .int (nI 0)), (5, .int (-1)), (4, .int (nI st.1.length)), (0, .ref b), (1, .int (nI st.2.2.2.2.1)), (2, .int (nI an)), (3, .int (nI 0))]) S.1 S.2.1 d_Mdl_write_73 hl (by decide) rfl (fun ls hl => ?_)
          exact join 0 (by rw [if_pos c357]) _ _ hI _ (lv_sub hl [5, 6, 7, 8, 4, 3, 2, 1, 0] rfl)
        · skip
          replace c357 : ¬ st.1.length = 0 := fun z => c357 ((nI_eq (a := st.1.length) (b := 0) (by omega) (by omega)).mpr z)
          refine lv_iload S.1 S.2.1 d_Mdl_write_53 (lv_at hl 0 rfl) ?_
          refine lv_iload S.1 S.2.1 d_Mdl_write_55 (lv_at hl 3 rfl) ?_
          refine lv_iadd S.1 S.2.1 d_Mdl_write_57 ?_
          refine lv_topi (fun v358 ev358 => ?_)
          replace ev358 : v358 = nI (an + st.1.length) := ev358.trans (nI_add _ _)
          subst ev358
          refine lv_iload S.1 S.2.1 d_Mdl_write_58 (lv_at hl 1 rfl) ?_
          refine lv_icmp_ge (tgt := 68) S.1 S.2.1 d_Mdl_write_60 (by decide) (fun c359 => ?_) (fun c359 => ?_)
          · skip
            replace c359 : 0 ≤ (an + st.1.length) := (nI_leI (a := 0) (b := an + st.1.length) (by omega) (by omega)).mp c359
            refine lv_iload S.1 S.2.1 d_Mdl_write_68 (lv_at hl 0 rfl) ?_
            refine lv_iload S.1 S.2.1 d_Mdl_write_70 (lv_at hl 3 rfl) ?_
            refine lv_iadd S.1 S.2.1 d_Mdl_write_72 ?_
            refine lv_topi (fun v360 ev360 => ?_)
            replace ev360 : v360 = nI (an + st.1.length) := ev360.trans (nI_add _ _)
            subst ev360
            refine lv_istore (lv' := [(8, .int (nI (an + st.1.length))), (7, .int (nI an)), (6, .int (nI 0)), (5, .int (-1)), (4, .int (nI st.1.length)), (0, .ref b), (1, .int (nI st.2.2.2.2.1)), (2, .int (nI an)), (3, .int (nI 0))]) S.1 S.2.1 d_Mdl_write_73 hl (by decide) rfl (fun ls hl => ?_)
            exact join (an + st.1.length) (by rw [if_neg c357]; omega) _ _ hI _ (lv_sub hl [5, 6, 7, 8, 4, 3, 2, 1, 0] rfl)
          · skip
            replace c359 : ¬ 0 ≤ (an + st.1.length) := fun z => c359 ((nI_leI (a := 0) (b := an + st.1.length) (by omega) (by omega)).mpr z)
            refine lv_iload S.1 S.2.1 d_Mdl_write_63 (lv_at hl 1 rfl) ?_
            refine lv_goto (tgt := 73) S.1 S.2.1 d_Mdl_write_65 (by decide) ?_
            refine lv_istore (lv' := [(8, .int (nI 0)), (7, .int (nI an)), (6, .int (nI 0)), (5, .int (-1)), (4, .int (nI st.1.length)), (0, .ref b), (1, .int (nI st.2.2.2.2.1)), (2, .int (nI an)), (3, .int (nI 0))]) S.1 S.2.1 d_Mdl_write_73 hl (by decide) rfl (fun ls hl => ?_)
            exact join 0 (by rw [if_neg c357]; omega) _ _ hI _ (lv_sub hl [5, 6, 7, 8, 4, 3, 2, 1, 0] rfl)
      · skip
        replace c346 : ¬ 0 = 0 := fun z => c346 ((nI_eq (a := 0) (b := 0) (by omega) (by omega)).mpr z)
        exact absurd c346 (by omega)
  · subst hr9
    have hqL := List.mem_of_getElem? hq
    obtain ⟨hq48, hqn, p1, p2, p3, p4⟩ := hM q hqL
    have hgD : st.2.2.2.2.2.getD i (fNew [] 0) = af q := by rw [← hFS]; exact getD_map hq
    have hFi : st.2.2.2.2.2[i]? = some (af q) := by rw [← hFS, List.getElem?_map, hq]; rfl
    have hw1 := (hWf q hqL).1
    refine lv_istore (lv' := [(5, .int (nI q)), (4, .int (nI st.1.length)), (0, .ref b), (1, .int (nI st.2.2.2.2.1)), (2, .int (nI an)), (3, .int (nI 0))]) S.1 S.2.1 d_Mdl_write_16 hl (by decide) rfl (fun ls hl => ?_)
    refine lv_iload S.1 S.2.1 d_Mdl_write_18 (lv_at hl 0 rfl) ?_
    refine lv_if_ge (tgt := 27) S.1 S.2.1 d_Mdl_write_20 (by decide) (fun c361 => ?_) (fun c361 => ?_)
    · skip
      replace c361 : 0 ≤ q := (nI_leI (a := 0) (b := q) (by omega) (by omega)).mp c361
      refine lv_aload_n S.1 S.2.1 d_Mdl_write_27 rfl (lv_at hl 2 rfl) ?_
      refine gh_get S hI hb rfl i_Mdl 9 (by decide) wi_444 rfl d_Mdl_write_28 ?_
      refine lv_iload S.1 S.2.1 d_Mdl_write_31 (lv_at hl 0 rfl) ?_
      refine gh_iald (j := q) S hI 1 h9 rfl rfl (by omega) (by omega) d_Mdl_write_33 ?_
      refine lv_topi (fun v362 ev362 => ?_)
      replace ev362 : v362 = nI (af q).2.2.1 := ev362.trans (p2)
      subst ev362
      refine lv_istore (lv' := [(6, .int (nI (af q).2.2.1)), (5, .int (nI q)), (4, .int (nI st.1.length)), (0, .ref b), (1, .int (nI st.2.2.2.2.1)), (2, .int (nI an)), (3, .int (nI 0))]) S.1 S.2.1 d_Mdl_write_34 hl (by decide) rfl (fun ls hl => ?_)
      refine lv_iload_n S.1 S.2.1 d_Mdl_write_36 rfl (lv_at hl 6 rfl) ?_
      refine lv_if_eq (tgt := 45) S.1 S.2.1 d_Mdl_write_37 (by decide) (fun c363 => ?_) (fun c363 => ?_)
      · skip
        replace c363 : 0 = 0 := (nI_eq (a := 0) (b := 0) (by omega) (by omega)).mp c363
        refine lv_iload_n S.1 S.2.1 d_Mdl_write_45 rfl (lv_at hl 5 rfl) ?_
        refine lv_istore (lv' := [(7, .int (nI an)), (6, .int (nI (af q).2.2.1)), (5, .int (nI q)), (4, .int (nI st.1.length)), (0, .ref b), (1, .int (nI st.2.2.2.2.1)), (2, .int (nI an)), (3, .int (nI 0))]) S.1 S.2.1 d_Mdl_write_46 hl (by decide) rfl (fun ls hl => ?_)
        have hfr8 : an ≤ 8192 := hAn
        have hbf8 : (af q).2.2.1 ≤ 8192 := hw1
        have hbt : (af q).2.2.1 ≤ fB st.2.2.2.2.2 := hle q hqL
        have join : ∀ at_ : Nat, at_ = (if st.1.length = 0 then ((af q).2.2.1) else max ((af q).2.2.1) (an + st.1.length)) → ∀ (H : Heap) (locs : List Loc), gB P f307 s H locs → ∀ ls : Array Slot, lv_has ls 10 [(0, .ref b), (1, .int (nI st.2.2.2.2.1)), (2, .int (nI an)), (3, .int (nI 0)), (4, .int (nI st.1.length)), (5, .int (nI q)), (6, .int (nI (af q).2.2.1)), (7, .int (nI an)), (8, .int (nI at_))] → W p l env (grm 3 0 0) s m args below meth c H locs 0 0 (MQ below (gQi P (fun r f1 => r = (oWrite st false an).1 ∧ gMo P f1 b (aAft st (oWrite st false an)) ∧ gFr f f1 [b, b + 1, b + 2, b + 3, b + 4, b + 5, b + 6, b + 7, b + 8, b + 9, b + 10, b + 11, b + 12])) args s 0 0 (gA P)) (F0 m 75 ls []) := by
          intro at_ hat H locs hI ls hl
          have hat2 : at_ ≤ 10240 := by
            rw [hat]; split <;> omega
          refine lv_iload S.1 S.2.1 d_Mdl_write_75 (lv_at hl 5 rfl) ?_
          refine lv_if_ge (tgt := 89) S.1 S.2.1 d_Mdl_write_77 (by decide) (fun c364 => ?_) (fun c364 => ?_)
          · skip
            replace c364 : 0 ≤ q := (nI_leI (a := 0) (b := q) (by omega) (by omega)).mp c364
            refine lv_iload S.1 S.2.1 d_Mdl_write_89 (lv_at hl 8 rfl) ?_
            refine lv_sipush (v := nI 8192) S.1 S.2.1 d_Mdl_write_91 (by decide) ?_
            refine lv_icmp_gt (tgt := 112) S.1 S.2.1 d_Mdl_write_94 (by decide) (fun c365 => ?_) (fun c365 => ?_)
            · skip
              replace c365 : 8192 < at_ := (nI_ltI (a := 8192) (b := at_) (by omega) (by omega)).mp c365
              refine lv_bipush (v := (-4)) S.1 S.2.1 d_Mdl_write_112 (by decide) ?_
              exact gr_i S hr hlk hI (by rw [oWrite_s (fr := an) (at_ := at_) hix hgD rfl hat, if_neg (fun z => absurd z.1 (by omega))]; exact ⟨rfl, ⟨gt, gn, gl, go, gu, gf, gk, gi, gz, gy, ga, gd, L, af, ⟨hb, h1, h2, h3, h4, h5, h6, h7, h8, h9, h10, h11, h12⟩, hT0, ⟨hn0, hn1⟩, hd0, hmF, hFS⟩, hF⟩) d_Mdl_write_114
            · skip
              replace c365 : ¬ 8192 < at_ := fun z => c365 ((nI_ltI (a := 8192) (b := at_) (by omega) (by omega)).mpr z)
              replace c365 : at_ ≤ 8192 := by omega
              refine lv_aload_n S.1 S.2.1 d_Mdl_write_97 rfl (lv_at hl 0 rfl) ?_
              refine gh_get S hI hb rfl i_Mdl 13 (by decide) wi_448 rfl d_Mdl_write_98 ?_
              refine lv_iload S.1 S.2.1 d_Mdl_write_101 (lv_at hl 6 rfl) ?_
              refine lv_isub S.1 S.2.1 d_Mdl_write_103 ?_
              refine lv_topi (fun v366 ev366 => ?_)
              replace ev366 : v366 = nI ((fB st.2.2.2.2.2) - ((af q).2.2.1)) := ev366.trans (pk_sub (by omega))
              subst ev366
              refine lv_iload S.1 S.2.1 d_Mdl_write_104 (lv_at hl 8 rfl) ?_
              refine lv_iadd S.1 S.2.1 d_Mdl_write_106 ?_
              refine lv_topi (fun v367 ev367 => ?_)
              replace ev367 : v367 = nI (((fB st.2.2.2.2.2) - ((af q).2.2.1)) + at_) := ev367.trans (nI_add _ _)
              subst ev367
              refine lv_ldc (v := nI 32768) S.1 S.2.1 S.2.2.2.1 (S.2.2.2.2 _ wi_488) d_Mdl_write_107 ?_
              refine lv_icmp_le (tgt := 115) S.1 S.2.1 d_Mdl_write_109 (by decide) (fun c368 => ?_) (fun c368 => ?_)
              · skip
                replace c368 : (((fB st.2.2.2.2.2) - ((af q).2.2.1)) + at_) ≤ 32768 := (nI_leI (a := ((fB st.2.2.2.2.2) - ((af q).2.2.1)) + at_) (b := 32768) (by omega) (by omega)).mp c368
                refine lv_iload S.1 S.2.1 d_Mdl_write_115 (lv_at hl 5 rfl) ?_
                refine lv_if_ge (tgt := 127) S.1 S.2.1 d_Mdl_write_117 (by decide) (fun c369 => ?_) (fun c369 => ?_)
                · skip
                  replace c369 : 0 ≤ q := (nI_leI (a := 0) (b := q) (by omega) (by omega)).mp c369
                  have hbs := fB_set (v := fWr (af q) an st.1) hFi
                  have hbs2 : (fWr (af q) an st.1).2.2.1 = at_ := hat.symm
                  rw [hbs2] at hbs
                  exact wr f307 go gu gf gk gi gz ga L af (st.2.2.2.2.2.set i (fWr (af q) an st.1)) q ((af q).2.2.1) an at_ hb h1 h2 h3 h4 h5 h6 h7 h8 h9 h10 h11 h12 hmF hqL hWf rfl hbt hfr8 hat c365 (by rw [oWrite_s (fr := an) (at_ := at_) hix hgD rfl hat, if_pos ⟨c365, c368⟩]) (by rw [map_set_up hnd hq, hFS]) (by omega) hF _ _ hI _ (lv_sub hl [0, 4, 5, 7, 8] rfl)
                · skip
                  replace c369 : ¬ 0 ≤ q := fun z => c369 ((nI_leI (a := 0) (b := q) (by omega) (by omega)).mpr z)
                  exact absurd c369 (by omega)
              · skip
                replace c368 : ¬ (((fB st.2.2.2.2.2) - ((af q).2.2.1)) + at_) ≤ 32768 := fun z => c368 ((nI_leI (a := ((fB st.2.2.2.2.2) - ((af q).2.2.1)) + at_) (b := 32768) (by omega) (by omega)).mpr z)
                refine lv_bipush (v := (-4)) S.1 S.2.1 d_Mdl_write_112 (by decide) ?_
                exact gr_i S hr hlk hI (by rw [oWrite_s (fr := an) (at_ := at_) hix hgD rfl hat, if_neg (fun z => absurd z.2 (by omega))]; exact ⟨rfl, ⟨gt, gn, gl, go, gu, gf, gk, gi, gz, gy, ga, gd, L, af, ⟨hb, h1, h2, h3, h4, h5, h6, h7, h8, h9, h10, h11, h12⟩, hT0, ⟨hn0, hn1⟩, hd0, hmF, hFS⟩, hF⟩) d_Mdl_write_114
          · skip
            replace c364 : ¬ 0 ≤ q := fun z => c364 ((nI_leI (a := 0) (b := q) (by omega) (by omega)).mpr z)
            exact absurd c364 (by omega)
        refine lv_iload S.1 S.2.1 d_Mdl_write_48 (lv_at hl 3 rfl) ?_
        refine lv_if_eq (tgt := 63) S.1 S.2.1 d_Mdl_write_50 (by decide) (fun c370 => ?_) (fun c370 => ?_)
        · skip
          replace c370 : st.1.length = 0 := (nI_eq (a := st.1.length) (b := 0) (by omega) (by omega)).mp c370
          refine lv_iload S.1 S.2.1 d_Mdl_write_63 (lv_at hl 1 rfl) ?_
          refine lv_goto (tgt := 73) S.1 S.2.1 d_Mdl_write_65 (by decide) ?_
          refine lv_istore (lv' := [(8, .int (nI (af q).2.2.1)), (7, .int (nI an)), (6, .int (nI (af q).2.2.1)), (5, .int (nI q)), (4, .int (nI st.1.length)), (0, .ref b), (1, .int (nI st.2.2.2.2.1)), (2, .int (nI an)), (3, .int (nI 0))]) S.1 S.2.1 d_Mdl_write_73 hl (by decide) rfl (fun ls hl => ?_)
          exact join ((af q).2.2.1) (by rw [if_pos c370]) _ _ hI _ (lv_sub hl [5, 6, 7, 8, 4, 3, 2, 1, 0] rfl)
        · skip
          replace c370 : ¬ st.1.length = 0 := fun z => c370 ((nI_eq (a := st.1.length) (b := 0) (by omega) (by omega)).mpr z)
          refine lv_iload S.1 S.2.1 d_Mdl_write_53 (lv_at hl 0 rfl) ?_
          refine lv_iload S.1 S.2.1 d_Mdl_write_55 (lv_at hl 3 rfl) ?_
          refine lv_iadd S.1 S.2.1 d_Mdl_write_57 ?_
          refine lv_topi (fun v371 ev371 => ?_)
          replace ev371 : v371 = nI (an + st.1.length) := ev371.trans (nI_add _ _)
          subst ev371
          refine lv_iload S.1 S.2.1 d_Mdl_write_58 (lv_at hl 1 rfl) ?_
          refine lv_icmp_ge (tgt := 68) S.1 S.2.1 d_Mdl_write_60 (by decide) (fun c372 => ?_) (fun c372 => ?_)
          · skip
            replace c372 : ((af q).2.2.1) ≤ (an + st.1.length) := (nI_leI (a := (af q).2.2.1) (b := an + st.1.length) (by omega) (by omega)).mp c372
            refine lv_iload S.1 S.2.1 d_Mdl_write_68 (lv_at hl 0 rfl) ?_
            refine lv_iload S.1 S.2.1 d_Mdl_write_70 (lv_at hl 3 rfl) ?_
            refine lv_iadd S.1 S.2.1 d_Mdl_write_72 ?_
            refine lv_topi (fun v373 ev373 => ?_)
            replace ev373 : v373 = nI (an + st.1.length) := ev373.trans (nI_add _ _)
            subst ev373
            refine lv_istore (lv' := [(8, .int (nI (an + st.1.length))), (7, .int (nI an)), (6, .int (nI (af q).2.2.1)), (5, .int (nI q)), (4, .int (nI st.1.length)), (0, .ref b), (1, .int (nI st.2.2.2.2.1)), (2, .int (nI an)), (3, .int (nI 0))]) S.1 S.2.1 d_Mdl_write_73 hl (by decide) rfl (fun ls hl => ?_)
            exact join (an + st.1.length) (by rw [if_neg c370]; omega) _ _ hI _ (lv_sub hl [5, 6, 7, 8, 4, 3, 2, 1, 0] rfl)
          · skip
            replace c372 : ¬ ((af q).2.2.1) ≤ (an + st.1.length) := fun z => c372 ((nI_leI (a := (af q).2.2.1) (b := an + st.1.length) (by omega) (by omega)).mpr z)
            refine lv_iload S.1 S.2.1 d_Mdl_write_63 (lv_at hl 1 rfl) ?_
            refine lv_goto (tgt := 73) S.1 S.2.1 d_Mdl_write_65 (by decide) ?_
            refine lv_istore (lv' := [(8, .int (nI (af q).2.2.1)), (7, .int (nI an)), (6, .int (nI (af q).2.2.1)), (5, .int (nI q)), (4, .int (nI st.1.length)), (0, .ref b), (1, .int (nI st.2.2.2.2.1)), (2, .int (nI an)), (3, .int (nI 0))]) S.1 S.2.1 d_Mdl_write_73 hl (by decide) rfl (fun ls hl => ?_)
            exact join ((af q).2.2.1) (by rw [if_neg c370]; omega) _ _ hI _ (lv_sub hl [5, 6, 7, 8, 4, 3, 2, 1, 0] rfl)
      · skip
        replace c363 : ¬ 0 = 0 := fun z => c363 ((nI_eq (a := 0) (b := 0) (by omega) (by omega)).mpr z)
        exact absurd c363 (by omega)
    · skip
      replace c361 : ¬ 0 ≤ q := fun z => c361 ((nI_leI (a := 0) (b := q) (by omega) (by omega)).mpr z)
      exact absurd c361 (by omega)
set_option maxHeartbeats 4000000 in
set_option maxRecDepth 100000 in
theorem c_Mdl_write2 (l : Launch) (P : gPar) (f : gM) {b : Nat} {st : ASt} (h : gMo P f b (aIn st)) (hw : wfS st.2.2.2.2.2) : gC l P y_Mdl_write b_Mdl_write 10 (some .int) 3 0 0 [.ref b, .int (nI st.2.2.2.2.1), .int (nI 0), .int (nI 1)] f (gQi P (fun r f1 => r = (oWrite st true 0).1 ∧ gMo P f1 b (aAft st (oWrite st true 0)) ∧ gFr f f1 [b, b + 1, b + 2, b + 3, b + 4, b + 5, b + 6, b + 7, b + 8, b + 9, b + 10, b + 11, b + 12])) := by
  refine gC_of (by decide) (Nat.le_of_ble_eq_true rfl) (fun p env s m args below meth c S hr hlk hnm H locs hI ls hl => ?_)
  have hl : lv_has ls 10 [(0, .ref b), (1, .int (nI st.2.2.2.2.1)), (2, .int (nI 0)), (3, .int (nI 1))] := hl
  obtain ⟨gt, gn, gl, go, gu, gf, gk, gi, gz, gy, ga, gd, L, af, ⟨hb, h1, h2, h3, h4, h5, h6, h7, h8, h9, h10, h11, h12⟩, ⟨ht1, ht2⟩, ⟨hn0, hn1⟩, -, hmF, hFS⟩ := id h
  have hd0 : mTold gd [] := ⟨by simp, fun i hi => absurd hi (by simp)⟩
  obtain ⟨hnd, hlL, hO, hU, hM⟩ := id hmF
  replace hb : f b = some (.inr (7, [.ref (b + 1), .int (nI st.1.length), .ref (b + 2), .ref (b + 3), .ref (b + 4), .ref (b + 5), .ref (b + 6), .ref (b + 7), .ref (b + 8), .ref (b + 9), .ref (b + 10), .ref (b + 11), .int (nI L.length), .int (nI (fB st.2.2.2.2.2)), .int (nI (st.2.2.2.2.1 + 1)), .ref (b + 12), .int (nI 0)])) := hb
  replace ht1 : st.1.length ≤ 2048 := ht1
  replace ht2 : nmL st.1.length gt = st.1 := ht2
  replace hn0 : mNk gn gl 0 st.2.1 := hn0
  replace hn1 : mNk gn gl 1 st.2.2.1 := hn1
  replace hFS : L.map af = st.2.2.2.2.2 := hFS
  have hlF : st.2.2.2.2.2.length = L.length := by rw [← hFS, List.length_map]
  have hnF : nms af L = fN st.2.2.2.2.2 := by rw [← hFS, fN_L]
  have hs : srt (nms af L) := by rw [hnF]; exact hw.1
  have hN : ∀ q ∈ L, q < 48 ∧ mNk gf gk q (af q).1 := fun q hq => ⟨(hM q hq).1, (hM q hq).2.1⟩
  have hWf : ∀ q ∈ L, wfF (af q).2.2.1 (af q).2.2.2.1 (af q).2.2.2.2 := fun q hq => hw.2.2 _ (by rw [← hFS]; exact List.mem_map.mpr ⟨q, hq, rfl⟩)
  have hfB := hw.2.1
  have hle : ∀ q ∈ L, (af q).2.2.1 ≤ fB st.2.2.2.2.2 := fun q hq => fB_le (by rw [← hFS]; exact List.mem_map.mpr ⟨q, hq, rfl⟩)
  have hF : gFr f f [b, b + 1, b + 2, b + 3, b + 4, b + 5, b + 6, b + 7, b + 8, b + 9, b + 10, b + 11, b + 12] := gFr.rf
  refine lv_aload_n S.1 S.2.1 d_Mdl_write_0 rfl (lv_at hl 0 rfl) ?_
  refine gh_get S hI hb rfl i_Mdl 1 (by decide) wi_436 rfl d_Mdl_write_1 ?_
  refine lv_istore (lv' := [(4, .int (nI st.1.length)), (0, .ref b), (1, .int (nI st.2.2.2.2.1)), (2, .int (nI 0)), (3, .int (nI 1))]) S.1 S.2.1 d_Mdl_write_4 hl (by decide) rfl (fun ls hl => ?_)
  refine lv_aload_n S.1 S.2.1 d_Mdl_write_6 rfl (lv_at hl 1 rfl) ?_
  refine lv_iconst (v := nI 0) S.1 S.2.1 d_Mdl_write_7 (by decide) ?_
  refine gh_put S hI hb rfl i_Mdl t_Mdl tk_Mdl n_Mdl 1 (by decide) wi_436 rfl rfl rfl (Nat.le_of_ble_eq_true rfl) d_Mdl_write_8 (fun H locs hI => ?_)
  have hI : gB P (va_up f b (some (.inr (7, [.ref (b + 1), .int (nI 0), .ref (b + 2), .ref (b + 3), .ref (b + 4), .ref (b + 5), .ref (b + 6), .ref (b + 7), .ref (b + 8), .ref (b + 9), .ref (b + 10), .ref (b + 11), .int (nI L.length), .int (nI (fB st.2.2.2.2.2)), .int (nI (st.2.2.2.2.1 + 1)), .ref (b + 12), .int (nI 0)])))) s H locs := hI
  obtain ⟨f374, ef374⟩ : ∃ z, z = va_up f b (some (.inr (7, [.ref (b + 1), .int (nI 0), .ref (b + 2), .ref (b + 3), .ref (b + 4), .ref (b + 5), .ref (b + 6), .ref (b + 7), .ref (b + 8), .ref (b + 9), .ref (b + 10), .ref (b + 11), .int (nI L.length), .int (nI (fB st.2.2.2.2.2)), .int (nI (st.2.2.2.2.1 + 1)), .ref (b + 12), .int (nI 0)]))) := ⟨_, rfl⟩
  rw [← ef374] at hI
  have h375 : f374 (b + 1) = some (.inl (P.2.1 0, 2048, .inl gt)) := by rw [ef374, va_up_ne _ _ (by omega)]; exact h1
  have h376 : f374 (b + 2) = some (.inl (P.2.1 0, 400, .inl gn)) := by rw [ef374, va_up_ne _ _ (by omega)]; exact h2
  have h377 : f374 (b + 3) = some (.inl (P.2.1 1, 2, .inl gl)) := by rw [ef374, va_up_ne _ _ (by omega)]; exact h3
  have h378 : f374 (b + 4) = some (.inl (P.2.1 1, 48, .inl go)) := by rw [ef374, va_up_ne _ _ (by omega)]; exact h4
  have h379 : f374 (b + 5) = some (.inl (P.2.1 2, 48, .inl gu)) := by rw [ef374, va_up_ne _ _ (by omega)]; exact h5
  have h380 : f374 (b + 6) = some (.inl (P.2.1 0, 9600, .inl gf)) := by rw [ef374, va_up_ne _ _ (by omega)]; exact h6
  have h381 : f374 (b + 7) = some (.inl (P.2.1 1, 48, .inl gk)) := by rw [ef374, va_up_ne _ _ (by omega)]; exact h7
  have h382 : f374 (b + 8) = some (.inl (P.2.1 1, 48, .inl gi)) := by rw [ef374, va_up_ne _ _ (by omega)]; exact h8
  have h383 : f374 (b + 9) = some (.inl (P.2.1 1, 48, .inl gz)) := by rw [ef374, va_up_ne _ _ (by omega)]; exact h9
  have h384 : f374 (b + 10) = some (.inl (P.2.1 0, 393216, .inl gy)) := by rw [ef374, va_up_ne _ _ (by omega)]; exact h10
  have h385 : f374 (b + 11) = some (.inl (P.2.1 2, 912, .inl ga)) := by rw [ef374, va_up_ne _ _ (by omega)]; exact h11
  have h386 : f374 (b + 12) = some (.inl (P.2.1 1, 2048, .inl gd)) := by rw [ef374, va_up_ne _ _ (by omega)]; exact h12
  have h387 : f374 b = some (.inr (7, [.ref (b + 1), .int (nI 0), .ref (b + 2), .ref (b + 3), .ref (b + 4), .ref (b + 5), .ref (b + 6), .ref (b + 7), .ref (b + 8), .ref (b + 9), .ref (b + 10), .ref (b + 11), .int (nI L.length), .int (nI (fB st.2.2.2.2.2)), .int (nI (st.2.2.2.2.1 + 1)), .ref (b + 12), .int (nI 0)])) := by rw [ef374]; exact va_up_self _ _ _
  have hF : gFr f f374 [b, b + 1, b + 2, b + 3, b + 4, b + 5, b + 6, b + 7, b + 8, b + 9, b + 10, b + 11, b + 12] := by rw [ef374]; exact gFr.upA (by simp) hF
  have hb := h387
  have h1 := h375
  have h2 := h376
  have h3 := h377
  have h4 := h378
  have h5 := h379
  have h6 := h380
  have h7 := h381
  have h8 := h382
  have h9 := h383
  have h10 := h384
  have h11 := h385
  have h12 := h386
  have hT0 : mTape gt [] := ⟨by simp, rfl⟩
  have wr : ∀ (fj : gM) (go gu gf gk gi gz ga : Nat → Int32) (L' : List Nat) (af' : Nat → AFile) (FS' : List AFile) (q bf fr at_ : Nat), fj b = some (.inr (7, [.ref (b + 1), .int (nI 0), .ref (b + 2), .ref (b + 3), .ref (b + 4), .ref (b + 5), .ref (b + 6), .ref (b + 7), .ref (b + 8), .ref (b + 9), .ref (b + 10), .ref (b + 11), .int (nI L'.length), .int (nI (fB st.2.2.2.2.2)), .int (nI (st.2.2.2.2.1 + 1)), .ref (b + 12), .int (nI 0)])) → fj (b + 1) = some (.inl (P.2.1 0, 2048, .inl gt)) → fj (b + 2) = some (.inl (P.2.1 0, 400, .inl gn)) → fj (b + 3) = some (.inl (P.2.1 1, 2, .inl gl)) → fj (b + 4) = some (.inl (P.2.1 1, 48, .inl go)) → fj (b + 5) = some (.inl (P.2.1 2, 48, .inl gu)) → fj (b + 6) = some (.inl (P.2.1 0, 9600, .inl gf)) → fj (b + 7) = some (.inl (P.2.1 1, 48, .inl gk)) → fj (b + 8) = some (.inl (P.2.1 1, 48, .inl gi)) → fj (b + 9) = some (.inl (P.2.1 1, 48, .inl gz)) → fj (b + 10) = some (.inl (P.2.1 0, 393216, .inl gy)) → fj (b + 11) = some (.inl (P.2.1 2, 912, .inl ga)) → fj (b + 12) = some (.inl (P.2.1 1, 2048, .inl gd)) → mFs go gu gf gk gi gz gy ga L' af' → q ∈ L' → (∀ x ∈ L', wfF (af' x).2.2.1 (af' x).2.2.2.1 (af' x).2.2.2.2) → (af' q).2.2.1 = bf → bf ≤ fB st.2.2.2.2.2 → fr ≤ 8192 → at_ = (if st.1.length = 0 then bf else max bf (fr + st.1.length)) → at_ ≤ 8192 → oWrite st true 0 = (nI st.1.length, [], [], FS') → L'.map (va_up af' q (fWr (af' q) fr st.1)) = FS' → fB FS' = fB st.2.2.2.2.2 - bf + at_ → gFr f fj [b, b + 1, b + 2, b + 3, b + 4, b + 5, b + 6, b + 7, b + 8, b + 9, b + 10, b + 11, b + 12] → ∀ (H : Heap) (locs : List Loc), gB P fj s H locs → ∀ ls : Array Slot, lv_has ls 10 [(0, .ref b), (4, .int (nI st.1.length)), (5, .int (nI q)), (7, .int (nI fr)), (8, .int (nI at_))] → W p l env (grm 3 0 0) s m args below meth c H locs 0 0 (MQ below (gQi P (fun r f1 => r = (oWrite st true 0).1 ∧ gMo P f1 b (aAft st (oWrite st true 0)) ∧ gFr f f1 [b, b + 1, b + 2, b + 3, b + 4, b + 5, b + 6, b + 7, b + 8, b + 9, b + 10, b + 11, b + 12])) args s 0 0 (gA P)) (F0 m 127 ls []) := by
    intro fj go gu gf gk gi gz ga L' af' FS' q bf fr at_ jb j1 j2 j3 j4 j5 j6 j7 j8 j9 j10 j11 j12 jm hqL jw hbf hbt hfr hat hat8 hO9 hmap hB hF H locs hI ls hl
    obtain ⟨hq48, -, -, p2, -, -⟩ := jm.2.2.2.2 q hqL
    have hw1 := (jw q hqL).1
    rw [hbf] at p2 hw1
    have hfn : fr + st.1.length ≤ 8192 := by
      by_cases c : st.1.length = 0
      · omega
      · rw [if_neg c] at hat; omega
    refine lv_aload_n S.1 S.2.1 d_Mdl_write_127 rfl (lv_at hl 0 rfl) ?_
    refine lv_iload S.1 S.2.1 d_Mdl_write_128 (lv_at hl 2 rfl) ?_
    refine lv_iload S.1 S.2.1 d_Mdl_write_130 (lv_at hl 4 rfl) ?_
    refine gc_Vv S hI (c_Mdl_resize l P fj (q := q) (n := at_) (old := bf) jb j9 j10 j11 hq48 hat8 hw1 p2 hbt) kv_Mdl_resize wi_489 jb rfl rfl rfl hl.1 rfl (Nat.le_of_ble_eq_true rfl) ⟨Nat.le_of_ble_eq_true rfl, Nat.le_of_ble_eq_true rfl⟩ ⟨Nat.le_of_ble_eq_true rfl, Nat.le_of_ble_eq_true rfl⟩ d_Mdl_write_132 (fun f389 H locs hp390 hI => ?_)
    obtain ⟨gy1, ga1, k0, k9, k10, k11, ky, ka, kF⟩ := hp390
    have m1 := kF (b + 1) _ j1 (by intro z; simp at z)
    have m2 := kF (b + 2) _ j2 (by intro z; simp at z)
    have m3 := kF (b + 3) _ j3 (by intro z; simp at z)
    have m4 := kF (b + 4) _ j4 (by intro z; simp at z)
    have m5 := kF (b + 5) _ j5 (by intro z; simp at z)
    have m6 := kF (b + 6) _ j6 (by intro z; simp at z)
    have m7 := kF (b + 7) _ j7 (by intro z; simp at z)
    have m8 := kF (b + 8) _ j8 (by intro z; simp at z)
    have m12 := kF (b + 12) _ j12 (by intro z; simp at z)
    have jm1 := mFs_resize jm hqL jw hat8 (by rw [hbf]; exact ky) ka
    have hF2 : gFr f f389 [b, b + 1, b + 2, b + 3, b + 4, b + 5, b + 6, b + 7, b + 8, b + 9, b + 10, b + 11, b + 12] := hF.call kF (by intro q hq; left; simp at hq ⊢; omega)
    have loop : ∀ (u i : Nat) (fk : gM) (gy2 ga2 : Nat → Int32), i ≤ st.1.length → st.1.length - i < u → fk (b + 10) = some (.inl (P.2.1 0, 393216, .inl gy2)) → fk (b + 11) = some (.inl (P.2.1 2, 912, .inl ga2)) → gFr f389 fk [b + 10, b + 11] → (∀ j, j < i → ub (gy2 (8192 * q + fr + j)) = ub (gt j)) → (∀ x, (x < 8192 * q + fr ∨ 8192 * q + fr + st.1.length ≤ x) → gy2 x = gy1 x) → (∀ j, j < i → ga2 (19 * q + (fr + j) / 448) = 1) → (∀ x, (∀ j, j < i → x ≠ 19 * q + (fr + j) / 448) → ga2 x = ga1 x) → ∀ (H : Heap) (locs : List Loc), gB P fk s H locs → ∀ ls : Array Slot, lv_has ls 10 [(0, .ref b), (4, .int (nI st.1.length)), (5, .int (nI q)), (7, .int (nI fr)), (9, .int (nI i))] → W p l env (grm 3 0 0) s m args below meth c H locs 0 0 (MQ below (gQi P (fun r f1 => r = (oWrite st true 0).1 ∧ gMo P f1 b (aAft st (oWrite st true 0)) ∧ gFr f f1 [b, b + 1, b + 2, b + 3, b + 4, b + 5, b + 6, b + 7, b + 8, b + 9, b + 10, b + 11, b + 12])) args s 0 0 (gA P)) (F0 m 138 ls []) := by
      intro u
      induction u with
      | zero => intro i fk gy2 ga2 h9 h8; exact absurd h8 (by omega)
      | succ u ih =>
        intro i fk gy2 ga2 hi1 hu n10 n11 nF hy1 hy2 ha1 ha2 H locs hI ls hl
        have nb := nF b _ k0 (by intro z; simp at z)
        have n1 := nF (b + 1) _ m1 (by intro z; simp at z)
        have hF := nF
        refine lv_iload S.1 S.2.1 d_Mdl_write_138 (lv_at hl 4 rfl) ?_
        refine lv_iload S.1 S.2.1 d_Mdl_write_140 (lv_at hl 1 rfl) ?_
        refine lv_icmp_ge (tgt := 196) S.1 S.2.1 d_Mdl_write_142 (by decide) (fun c391 => ?_) (fun c391 => ?_)
        · skip
          replace c391 : st.1.length ≤ i := (nI_leI (a := st.1.length) (b := i) (by omega) (by omega)).mp c391
          have jm2 : mFs go gu gf gk gi (upd gz q (nI at_)) gy2 ga2 L' (va_up af' q (fWr (af' q) fr st.1)) := mFs_write (gt := gt) (n := st.1.length) (by rw [hbf, ← hat]; exact jm1) hqL rfl (fun x hx => (jw x hx).1) (jw q hqL) rfl ht2 hfn (fun j hj => hy1 j (by omega)) hy2 (fun j hj => ha1 j (by omega)) (fun x hx => ha2 x (fun j hj => hx j (by omega)))
          have n2 := nF (b + 2) _ m2 (by intro z; simp at z)
          have n3 := nF (b + 3) _ m3 (by intro z; simp at z)
          have n4 := nF (b + 4) _ m4 (by intro z; simp at z)
          have n5 := nF (b + 5) _ m5 (by intro z; simp at z)
          have n6 := nF (b + 6) _ m6 (by intro z; simp at z)
          have n7 := nF (b + 7) _ m7 (by intro z; simp at z)
          have n8 := nF (b + 8) _ m8 (by intro z; simp at z)
          have n12 := nF (b + 12) _ m12 (by intro z; simp at z)
          have n9 := nF (b + 9) _ k9 (by intro z; simp at z)
          rw [← hB] at nb
          refine lv_iload S.1 S.2.1 d_Mdl_write_196 (lv_at hl 1 rfl) ?_
          exact gr_i S hr hlk hI (by rw [hO9]; exact ⟨rfl, ⟨gt, gn, gl, go, gu, gf, gk, gi, upd gz q (nI at_), gy2, ga2, gd, L', va_up af' q (fWr (af' q) fr st.1), ⟨nb, n1, n2, n3, n4, n5, n6, n7, n8, n9, n10, n11, n12⟩, hT0, ⟨hn0, hn1⟩, hd0, jm2, hmap⟩, hF2.call nF (by intro q hq; left; simp at hq ⊢; omega)⟩) d_Mdl_write_198
        · skip
          replace c391 : ¬ st.1.length ≤ i := fun z => c391 ((nI_leI (a := st.1.length) (b := i) (by omega) (by omega)).mpr z)
          refine lv_aload_n S.1 S.2.1 d_Mdl_write_145 rfl (lv_at hl 0 rfl) ?_
          refine gh_get S hI nb rfl i_Mdl 10 (by decide) wi_445 rfl d_Mdl_write_146 ?_
          refine lv_sipush (v := nI 8192) S.1 S.2.1 d_Mdl_write_149 (by decide) ?_
          refine lv_iload S.1 S.2.1 d_Mdl_write_152 (lv_at hl 2 rfl) ?_
          refine lv_imul S.1 S.2.1 d_Mdl_write_154 ?_
          refine lv_topi (fun v392 ev392 => ?_)
          replace ev392 : v392 = nI (8192 * q) := ev392.trans (pk_mul _ _)
          subst ev392
          refine lv_iload S.1 S.2.1 d_Mdl_write_155 (lv_at hl 3 rfl) ?_
          refine lv_iadd S.1 S.2.1 d_Mdl_write_157 ?_
          refine lv_topi (fun v393 ev393 => ?_)
          replace ev393 : v393 = nI ((8192 * q) + fr) := ev393.trans (nI_add _ _)
          subst ev393
          refine lv_iload S.1 S.2.1 d_Mdl_write_158 (lv_at hl 4 rfl) ?_
          refine lv_iadd S.1 S.2.1 d_Mdl_write_160 ?_
          refine lv_topi (fun v394 ev394 => ?_)
          replace ev394 : v394 = nI (((8192 * q) + fr) + i) := ev394.trans (nI_add _ _)
          subst ev394
          refine lv_aload_n S.1 S.2.1 d_Mdl_write_161 rfl (lv_at hl 0 rfl) ?_
          refine gh_get S hI nb rfl i_Mdl 0 (by decide) wi_435 rfl d_Mdl_write_162 ?_
          refine lv_iload S.1 S.2.1 d_Mdl_write_165 (lv_at hl 4 rfl) ?_
          refine gh_bald (j := i) S hI 0 n1 rfl rfl (by omega) (by omega) d_Mdl_write_167 ?_
          refine gh_bast (j := ((8192 * q) + fr) + i) S hI 0 n10 rfl rfl (by omega) (by omega) d_Mdl_write_168 (fun H locs hI => ?_)
          have hI : gB P (va_up fk (b + 10) (some (.inl (P.2.1 0, 393216, .inl (upd gy2 (((8192 * q) + fr) + i) (Int8.toInt32 (Int32.toInt8 (gt i)))))))) s H locs := hI
          obtain ⟨f395, ef395⟩ : ∃ z, z = va_up fk (b + 10) (some (.inl (P.2.1 0, 393216, .inl (upd gy2 (((8192 * q) + fr) + i) (Int8.toInt32 (Int32.toInt8 (gt i))))))) := ⟨_, rfl⟩
          rw [← ef395] at hI
          have h396 : f395 b = some (.inr (7, [.ref (b + 1), .int (nI 0), .ref (b + 2), .ref (b + 3), .ref (b + 4), .ref (b + 5), .ref (b + 6), .ref (b + 7), .ref (b + 8), .ref (b + 9), .ref (b + 10), .ref (b + 11), .int (nI L'.length), .int (nI (fB st.2.2.2.2.2 - bf + at_)), .int (nI (st.2.2.2.2.1 + 1)), .ref (b + 12), .int (nI 0)])) := by rw [ef395, va_up_ne _ _ (by omega)]; exact nb
          have h397 : f395 (b + 1) = some (.inl (P.2.1 0, 2048, .inl gt)) := by rw [ef395, va_up_ne _ _ (by omega)]; exact n1
          have h398 : f395 (b + 11) = some (.inl (P.2.1 2, 912, .inl ga2)) := by rw [ef395, va_up_ne _ _ (by omega)]; exact n11
          have h399 : f395 (b + 10) = some (.inl (P.2.1 0, 393216, .inl (upd gy2 (((8192 * q) + fr) + i) (Int8.toInt32 (Int32.toInt8 (gt i)))))) := by rw [ef395]; exact va_up_self _ _ _
          have hF : gFr f389 f395 [b + 10, b + 11] := by rw [ef395]; exact gFr.upA (by simp) hF
          refine lv_aload_n S.1 S.2.1 d_Mdl_write_169 rfl (lv_at hl 0 rfl) ?_
          refine gh_get S hI h396 rfl i_Mdl 11 (by decide) wi_446 rfl d_Mdl_write_170 ?_
          refine lv_bipush (v := nI 19) S.1 S.2.1 d_Mdl_write_173 (by decide) ?_
          refine lv_iload S.1 S.2.1 d_Mdl_write_175 (lv_at hl 2 rfl) ?_
          refine lv_imul S.1 S.2.1 d_Mdl_write_177 ?_
          refine lv_topi (fun v400 ev400 => ?_)
          replace ev400 : v400 = nI (19 * q) := ev400.trans (pk_mul _ _)
          subst ev400
          refine lv_iload S.1 S.2.1 d_Mdl_write_178 (lv_at hl 3 rfl) ?_
          refine lv_iload S.1 S.2.1 d_Mdl_write_180 (lv_at hl 4 rfl) ?_
          refine lv_iadd S.1 S.2.1 d_Mdl_write_182 ?_
          refine lv_topi (fun v401 ev401 => ?_)
          replace ev401 : v401 = nI (fr + i) := ev401.trans (nI_add _ _)
          subst ev401
          refine lv_sipush (v := nI 448) S.1 S.2.1 d_Mdl_write_183 (by decide) ?_
          refine lv_idiv S.1 S.2.1 d_Mdl_write_186 (by decide) ?_
          refine lv_topi (fun v402 ev402 => ?_)
          replace ev402 : v402 = nI ((fr + i) / 448) := ev402.trans (pk_div (by omega) (by omega) (by omega))
          subst ev402
          refine lv_iadd S.1 S.2.1 d_Mdl_write_187 ?_
          refine lv_topi (fun v403 ev403 => ?_)
          replace ev403 : v403 = nI ((19 * q) + ((fr + i) / 448)) := ev403.trans (nI_add _ _)
          subst ev403
          refine lv_iconst (v := nI 1) S.1 S.2.1 d_Mdl_write_188 (by decide) ?_
          refine gh_zast (j := (19 * q) + ((fr + i) / 448)) S hI 2 h398 rfl (by first | exact Or.inl rfl | exact Or.inr rfl) rfl (by omega) (by omega) d_Mdl_write_189 (fun H locs hI => ?_)
          have hI : gB P (va_up f395 (b + 11) (some (.inl (P.2.1 2, 912, .inl (upd ga2 ((19 * q) + ((fr + i) / 448)) (nI 1)))))) s H locs := hI
          obtain ⟨f404, ef404⟩ : ∃ z, z = va_up f395 (b + 11) (some (.inl (P.2.1 2, 912, .inl (upd ga2 ((19 * q) + ((fr + i) / 448)) (nI 1))))) := ⟨_, rfl⟩
          rw [← ef404] at hI
          have h405 : f404 b = some (.inr (7, [.ref (b + 1), .int (nI 0), .ref (b + 2), .ref (b + 3), .ref (b + 4), .ref (b + 5), .ref (b + 6), .ref (b + 7), .ref (b + 8), .ref (b + 9), .ref (b + 10), .ref (b + 11), .int (nI L'.length), .int (nI (fB st.2.2.2.2.2 - bf + at_)), .int (nI (st.2.2.2.2.1 + 1)), .ref (b + 12), .int (nI 0)])) := by rw [ef404, va_up_ne _ _ (by omega)]; exact h396
          have h406 : f404 (b + 1) = some (.inl (P.2.1 0, 2048, .inl gt)) := by rw [ef404, va_up_ne _ _ (by omega)]; exact h397
          have h407 : f404 (b + 10) = some (.inl (P.2.1 0, 393216, .inl (upd gy2 (((8192 * q) + fr) + i) (Int8.toInt32 (Int32.toInt8 (gt i)))))) := by rw [ef404, va_up_ne _ _ (by omega)]; exact h399
          have h408 : f404 (b + 11) = some (.inl (P.2.1 2, 912, .inl (upd ga2 ((19 * q) + ((fr + i) / 448)) (nI 1)))) := by rw [ef404]; exact va_up_self _ _ _
          have hF : gFr f389 f404 [b + 10, b + 11] := by rw [ef404]; exact gFr.upA (by simp) hF
          refine lv_iinc (v := nI (i + 1)) (lv' := [(9, .int (nI (i + 1))), (0, .ref b), (4, .int (nI st.1.length)), (5, .int (nI q)), (7, .int (nI fr))]) S.1 S.2.1 d_Mdl_write_190 hl (k := 4) rfl (nI_add _ _) (by decide) rfl (fun ls hl => ?_)
          refine lv_goto (tgt := 138) S.1 S.2.1 d_Mdl_write_193 (by decide) ?_
          exact ih (i + 1) _ _ _ (by omega) (by omega) h407 h408 hF (fun j hj => by
            unfold upd
            by_cases hc : j = i
            · rw [if_pos (by omega), hc, ub_nb]
            · rw [if_neg (by omega)]; exact hy1 j (by omega)) (fun x hx => by unfold upd; rw [if_neg (by omega)]; exact hy2 x hx) (fun j hj => by
            unfold upd
            by_cases hc : 19 * q + (fr + j) / 448 = 19 * q + (fr + i) / 448
            · rw [if_pos hc]; rfl
            · rw [if_neg hc]; exact ha1 j (by
                rcases Nat.lt_succ_iff_lt_or_eq.mp hj with z | z
                · exact z
                · rw [z] at hc; exact absurd rfl hc)) (fun x hx => by unfold upd; rw [if_neg (hx i (by omega))]; exact ha2 x (fun j hj => hx j (by omega))) _ _ hI _ (lv_sub hl [1, 2, 3, 4, 0] rfl)
    refine lv_iconst (v := nI 0) S.1 S.2.1 d_Mdl_write_135 (by decide) ?_
    refine lv_istore (lv' := [(9, .int (nI 0)), (0, .ref b), (4, .int (nI st.1.length)), (5, .int (nI q)), (7, .int (nI fr)), (8, .int (nI at_))]) S.1 S.2.1 d_Mdl_write_136 hl (by decide) rfl (fun ls hl => ?_)
    exact loop (st.1.length + 1) 0 f389 gy1 ga1 (by omega) (by omega) k10 k11 gFr.rf (fun j hj => absurd hj (by omega)) (fun _ _ => rfl) (fun j hj => absurd hj (by omega)) (fun _ _ => rfl) _ _ hI _ (lv_sub hl [1, 2, 3, 4, 0] rfl)
  refine lv_aload_n S.1 S.2.1 d_Mdl_write_11 rfl (lv_at hl 1 rfl) ?_
  refine lv_iconst (v := nI 0) S.1 S.2.1 d_Mdl_write_12 (by decide) ?_
  refine gc_Vi S hI (c_Mdl_find l P f374 (k := 0) (nm := st.2.1) (af := af) hb h2 h3 h4 h6 h7 hO hN hlL (by omega) hn0 hs) kv_Mdl_find wi_473 hb rfl rfl rfl hl.1 rfl (Nat.le_of_ble_eq_true rfl) ⟨Nat.le_of_ble_eq_true rfl, Nat.le_of_ble_eq_true rfl⟩ ⟨Nat.le_of_ble_eq_true rfl, Nat.le_of_ble_eq_true rfl⟩ d_Mdl_write_13 (fun r409 f410 H locs hp411 hI => ?_)
  obtain ⟨hp1, hp2⟩ := hp411
  rw [hp2] at hI
  rw [hnF] at hp1
  rcases hp1 with ⟨hix, hr9⟩ | ⟨i, q, hix, hq, hr9⟩
  · subst hr9
    refine lv_istore (lv' := [(5, .int (-1)), (4, .int (nI st.1.length)), (0, .ref b), (1, .int (nI st.2.2.2.2.1)), (2, .int (nI 0)), (3, .int (nI 1))]) S.1 S.2.1 d_Mdl_write_16 hl (by decide) rfl (fun ls hl => ?_)
    refine lv_iload S.1 S.2.1 d_Mdl_write_18 (lv_at hl 0 rfl) ?_
    refine lv_if_ge (tgt := 27) S.1 S.2.1 d_Mdl_write_20 (by decide) (fun c412 => ?_) (fun c412 => ?_)
    · skip
      exact absurd c412 (by decide)
    · skip
      refine lv_iconst (v := nI 0) S.1 S.2.1 d_Mdl_write_23 (by decide) ?_
      refine lv_goto (tgt := 34) S.1 S.2.1 d_Mdl_write_24 (by decide) ?_
      refine lv_istore (lv' := [(6, .int (nI 0)), (5, .int (-1)), (4, .int (nI st.1.length)), (0, .ref b), (1, .int (nI st.2.2.2.2.1)), (2, .int (nI 0)), (3, .int (nI 1))]) S.1 S.2.1 d_Mdl_write_34 hl (by decide) rfl (fun ls hl => ?_)
      refine lv_iload_n S.1 S.2.1 d_Mdl_write_36 rfl (lv_at hl 6 rfl) ?_
      refine lv_if_eq (tgt := 45) S.1 S.2.1 d_Mdl_write_37 (by decide) (fun c413 => ?_) (fun c413 => ?_)
      · skip
        replace c413 : 1 = 0 := (nI_eq (a := 1) (b := 0) (by omega) (by omega)).mp c413
        exact absurd c413 (by omega)
      · skip
        replace c413 : ¬ 1 = 0 := fun z => c413 ((nI_eq (a := 1) (b := 0) (by omega) (by omega)).mpr z)
        refine lv_iload S.1 S.2.1 d_Mdl_write_40 (lv_at hl 0 rfl) ?_
        refine lv_goto (tgt := 46) S.1 S.2.1 d_Mdl_write_42 (by decide) ?_
        refine lv_istore (lv' := [(7, .int (nI 0)), (6, .int (nI 0)), (5, .int (-1)), (4, .int (nI st.1.length)), (0, .ref b), (1, .int (nI st.2.2.2.2.1)), (2, .int (nI 0)), (3, .int (nI 1))]) S.1 S.2.1 d_Mdl_write_46 hl (by decide) rfl (fun ls hl => ?_)
        have hfr8 : 0 ≤ 8192 := by omega
        have hbf8 : 0 ≤ 8192 := by omega
        have hbt : 0 ≤ fB st.2.2.2.2.2 := Nat.zero_le _
        have join : ∀ at_ : Nat, at_ = (if st.1.length = 0 then 0 else max 0 (0 + st.1.length)) → ∀ (H : Heap) (locs : List Loc), gB P f374 s H locs → ∀ ls : Array Slot, lv_has ls 10 [(0, .ref b), (1, .int (nI st.2.2.2.2.1)), (2, .int (nI 0)), (3, .int (nI 1)), (4, .int (nI st.1.length)), (5, .int (-1)), (6, .int (nI 0)), (7, .int (nI 0)), (8, .int (nI at_))] → W p l env (grm 3 0 0) s m args below meth c H locs 0 0 (MQ below (gQi P (fun r f1 => r = (oWrite st true 0).1 ∧ gMo P f1 b (aAft st (oWrite st true 0)) ∧ gFr f f1 [b, b + 1, b + 2, b + 3, b + 4, b + 5, b + 6, b + 7, b + 8, b + 9, b + 10, b + 11, b + 12])) args s 0 0 (gA P)) (F0 m 75 ls []) := by
          intro at_ hat H locs hI ls hl
          have hat2 : at_ ≤ 10240 := by
            rw [hat]; split <;> omega
          refine lv_iload S.1 S.2.1 d_Mdl_write_75 (lv_at hl 5 rfl) ?_
          refine lv_if_ge (tgt := 89) S.1 S.2.1 d_Mdl_write_77 (by decide) (fun c414 => ?_) (fun c414 => ?_)
          · skip
            exact absurd c414 (by decide)
          · skip
            refine lv_aload_n S.1 S.2.1 d_Mdl_write_80 rfl (lv_at hl 0 rfl) ?_
            refine gh_get S hI hb rfl i_Mdl 12 (by decide) wi_447 rfl d_Mdl_write_81 ?_
            refine lv_bipush (v := nI 48) S.1 S.2.1 d_Mdl_write_84 (by decide) ?_
            refine lv_icmp_eq (tgt := 112) S.1 S.2.1 d_Mdl_write_86 (by decide) (fun c415 => ?_) (fun c415 => ?_)
            · skip
              replace c415 : L.length = 48 := (nI_eq (a := L.length) (b := 48) (by omega) (by omega)).mp c415
              refine lv_bipush (v := (-4)) S.1 S.2.1 d_Mdl_write_112 (by decide) ?_
              exact gr_i S hr hlk hI (by rw [oWrite_n (fr := 0) (at_ := at_) hix rfl (by rw [hat]; simp), if_neg (fun z => absurd z.1 (by omega))]; exact ⟨rfl, ⟨gt, gn, gl, go, gu, gf, gk, gi, gz, gy, ga, gd, L, af, ⟨hb, h1, h2, h3, h4, h5, h6, h7, h8, h9, h10, h11, h12⟩, hT0, ⟨hn0, hn1⟩, hd0, hmF, hFS⟩, hF⟩) d_Mdl_write_114
            · skip
              replace c415 : ¬ L.length = 48 := fun z => c415 ((nI_eq (a := L.length) (b := 48) (by omega) (by omega)).mpr z)
              refine lv_iload S.1 S.2.1 d_Mdl_write_89 (lv_at hl 8 rfl) ?_
              refine lv_sipush (v := nI 8192) S.1 S.2.1 d_Mdl_write_91 (by decide) ?_
              refine lv_icmp_gt (tgt := 112) S.1 S.2.1 d_Mdl_write_94 (by decide) (fun c416 => ?_) (fun c416 => ?_)
              · skip
                replace c416 : 8192 < at_ := (nI_ltI (a := 8192) (b := at_) (by omega) (by omega)).mp c416
                refine lv_bipush (v := (-4)) S.1 S.2.1 d_Mdl_write_112 (by decide) ?_
                exact gr_i S hr hlk hI (by rw [oWrite_n (fr := 0) (at_ := at_) hix rfl (by rw [hat]; simp), if_neg (fun z => absurd z.2.1 (by omega))]; exact ⟨rfl, ⟨gt, gn, gl, go, gu, gf, gk, gi, gz, gy, ga, gd, L, af, ⟨hb, h1, h2, h3, h4, h5, h6, h7, h8, h9, h10, h11, h12⟩, hT0, ⟨hn0, hn1⟩, hd0, hmF, hFS⟩, hF⟩) d_Mdl_write_114
              · skip
                replace c416 : ¬ 8192 < at_ := fun z => c416 ((nI_ltI (a := 8192) (b := at_) (by omega) (by omega)).mpr z)
                replace c416 : at_ ≤ 8192 := by omega
                refine lv_aload_n S.1 S.2.1 d_Mdl_write_97 rfl (lv_at hl 0 rfl) ?_
                refine gh_get S hI hb rfl i_Mdl 13 (by decide) wi_448 rfl d_Mdl_write_98 ?_
                refine lv_iload S.1 S.2.1 d_Mdl_write_101 (lv_at hl 6 rfl) ?_
                refine lv_isub S.1 S.2.1 d_Mdl_write_103 ?_
                refine lv_topi (fun v417 ev417 => ?_)
                replace ev417 : v417 = nI ((fB st.2.2.2.2.2) - 0) := ev417.trans (pk_sub (by omega))
                subst ev417
                refine lv_iload S.1 S.2.1 d_Mdl_write_104 (lv_at hl 8 rfl) ?_
                refine lv_iadd S.1 S.2.1 d_Mdl_write_106 ?_
                refine lv_topi (fun v418 ev418 => ?_)
                replace ev418 : v418 = nI (((fB st.2.2.2.2.2) - 0) + at_) := ev418.trans (nI_add _ _)
                subst ev418
                refine lv_ldc (v := nI 32768) S.1 S.2.1 S.2.2.2.1 (S.2.2.2.2 _ wi_488) d_Mdl_write_107 ?_
                refine lv_icmp_le (tgt := 115) S.1 S.2.1 d_Mdl_write_109 (by decide) (fun c419 => ?_) (fun c419 => ?_)
                · skip
                  replace c419 : (((fB st.2.2.2.2.2) - 0) + at_) ≤ 32768 := (nI_leI (a := ((fB st.2.2.2.2.2) - 0) + at_) (b := 32768) (by omega) (by omega)).mp c419
                  refine lv_iload S.1 S.2.1 d_Mdl_write_115 (lv_at hl 5 rfl) ?_
                  refine lv_if_ge (tgt := 127) S.1 S.2.1 d_Mdl_write_117 (by decide) (fun c420 => ?_) (fun c420 => ?_)
                  · skip
                    exact absurd c420 (by decide)
                  · skip
                    refine lv_aload_n S.1 S.2.1 d_Mdl_write_120 rfl (lv_at hl 0 rfl) ?_
                    refine lv_iload_n S.1 S.2.1 d_Mdl_write_121 rfl (lv_at hl 1 rfl) ?_
                    have hno : st.2.1 ∉ nms af L := by rw [hnF]; exact idx_nm hw.1 hix
                    have hpl : plc (nms af L) st.2.1 ≤ L.length := by have := plc_le (nms af L) st.2.1; rw [show (nms af L).length = L.length by simp [nms]] at this; exact this
                    refine gc_Vi S hI (c_Mdl_made l P f374 (idv := nI st.2.2.2.2.1) (nm := st.2.1) (af := af) hb h2 h3 h4 h5 h6 h7 h8 h9 h11 hO hU hN (by omega) hn0 hs hno) kv_Mdl_made wi_479 hb rfl rfl rfl hl.1 rfl (Nat.le_of_ble_eq_true rfl) ⟨Nat.le_of_ble_eq_true rfl, Nat.le_of_ble_eq_true rfl⟩ ⟨Nat.le_of_ble_eq_true rfl, Nat.le_of_ble_eq_true rfl⟩ d_Mdl_write_122 (fun r421 f422 H locs hp423 hI => ?_)
                    obtain ⟨q, g4, g6, g7, g11, hq48, hqL, hr7, k0, k4, k5, k6, k7, k8, k9, k11, kO, kN, kK, kA, kF⟩ := hp423
                    subst hr7
                    have k1 := kF (b + 1) _ h1 (by intro z; simp at z)
                    have k2 := kF (b + 2) _ h2 (by intro z; simp at z)
                    have k3 := kF (b + 3) _ h3 (by intro z; simp at z)
                    have k10 := kF (b + 10) _ h10 (by intro z; simp at z)
                    have k12 := kF (b + 12) _ h12 (by intro z; simp at z)
                    have hm1 := mFs_made (idv := nI st.2.2.2.2.1) hmF hq48 hqL (by omega) hpl kO kN kK kA
                    have eL : (L.insertIdx (plc (nms af L) st.2.1) q).length = L.length + 1 := List.length_insertIdx_of_le_length hpl _
                    rw [← eL] at k0
                    have hF9 : gFr f f422 [b, b + 1, b + 2, b + 3, b + 4, b + 5, b + 6, b + 7, b + 8, b + 9, b + 10, b + 11, b + 12] := hF.call kF (by intro q hq; left; simp at hq ⊢; omega)
                    have hpF : plc (fN st.2.2.2.2.2) st.2.1 ≤ st.2.2.2.2.2.length := by rw [hlF, ← hnF]; exact hpl
                    refine lv_istore (lv' := [(5, .int (nI q)), (0, .ref b), (1, .int (nI st.2.2.2.2.1)), (2, .int (nI 0)), (3, .int (nI 1)), (4, .int (nI st.1.length)), (6, .int (nI 0)), (7, .int (nI 0)), (8, .int (nI at_))]) S.1 S.2.1 d_Mdl_write_125 hl (by decide) rfl (fun ls hl => ?_)
                    have hat9 : at_ = (if st.1.length = 0 then 0 else 0 + st.1.length) := by rw [hat]; simp
                    refine wr f422 g4 (upd gu q (nI 1)) g6 g7 (upd gi q (nI st.2.2.2.2.1)) (upd gz q (nI 0)) g11 _ _ (fIns st.2.2.2.2.2 (fWr (fNew st.2.1 (nI st.2.2.2.2.1)) 0 st.1)) q 0 0 at_ k0 k1 k2 k3 k4 k5 k6 k7 k8 k9 k10 k11 k12 hm1 ((mem_ins hpl).mpr (Or.inl rfl)) (fun x hx => ?_) (by rw [va_up_self]) hbt hfr8 hat c416 (by rw [oWrite_n (fr := 0) (at_ := at_) hix rfl (by rw [hat]; simp), if_pos ⟨by omega, c416, by omega⟩]) ?_ ?_ hF9 _ _ hI _ (lv_sub hl [1, 5, 0, 7, 8] rfl)
                    · rcases (mem_ins hpl).mp hx with z | z
                      · rw [z, va_up_self]; exact wfF_0
                      · rw [va_up_ne _ _ (fun y => hqL (by rw [← y]; exact z))]; exact hWf x z
                    · rw [va_up_self, va_up_up, map_ins_up hqL, hFS, hnF]; rfl
                    · show fB (st.2.2.2.2.2.insertIdx (plc (fN st.2.2.2.2.2) st.2.1) (fWr (fNew st.2.1 (nI st.2.2.2.2.1)) 0 st.1)) = _
                      rw [fB_ins hpF]
                      show (if st.1.length = 0 then 0 else max 0 (0 + st.1.length)) + fB st.2.2.2.2.2 = fB st.2.2.2.2.2 - 0 + at_
                      rw [← hat]; omega
                · skip
                  replace c419 : ¬ (((fB st.2.2.2.2.2) - 0) + at_) ≤ 32768 := fun z => c419 ((nI_leI (a := ((fB st.2.2.2.2.2) - 0) + at_) (b := 32768) (by omega) (by omega)).mpr z)
                  refine lv_bipush (v := (-4)) S.1 S.2.1 d_Mdl_write_112 (by decide) ?_
                  exact gr_i S hr hlk hI (by rw [oWrite_n (fr := 0) (at_ := at_) hix rfl (by rw [hat]; simp), if_neg (fun z => absurd z.2.2 (by omega))]; exact ⟨rfl, ⟨gt, gn, gl, go, gu, gf, gk, gi, gz, gy, ga, gd, L, af, ⟨hb, h1, h2, h3, h4, h5, h6, h7, h8, h9, h10, h11, h12⟩, hT0, ⟨hn0, hn1⟩, hd0, hmF, hFS⟩, hF⟩) d_Mdl_write_114
        refine lv_iload S.1 S.2.1 d_Mdl_write_48 (lv_at hl 3 rfl) ?_
        refine lv_if_eq (tgt := 63) S.1 S.2.1 d_Mdl_write_50 (by decide) (fun c424 => ?_) (fun c424 => ?_)
        · skip
          replace c424 : st.1.length = 0 := (nI_eq (a := st.1.length) (b := 0) (by omega) (by omega)).mp c424
          refine lv_iload S.1 S.2.1 d_Mdl_write_63 (lv_at hl 1 rfl) ?_
          refine lv_goto (tgt := 73) S.1 S.2.1 d_Mdl_write_65 (by decide) ?_
          refine lv_istore (lv' := [(8, .int (nI 0)), (7, .int (nI 0)), (6, .int (nI 0)), (5, .int (-1)), (4, .int (nI st.1.length)), (0, .ref b), (1, .int (nI st.2.2.2.2.1)), (2, .int (nI 0)), (3, .int (nI 1))]) S.1 S.2.1 d_Mdl_write_73 hl (by decide) rfl (fun ls hl => ?_)
          exact join 0 (by rw [if_pos c424]) _ _ hI _ (lv_sub hl [5, 6, 7, 8, 4, 3, 2, 1, 0] rfl)
        · skip
          replace c424 : ¬ st.1.length = 0 := fun z => c424 ((nI_eq (a := st.1.length) (b := 0) (by omega) (by omega)).mpr z)
          refine lv_iload S.1 S.2.1 d_Mdl_write_53 (lv_at hl 0 rfl) ?_
          refine lv_iload S.1 S.2.1 d_Mdl_write_55 (lv_at hl 3 rfl) ?_
          refine lv_iadd S.1 S.2.1 d_Mdl_write_57 ?_
          refine lv_topi (fun v425 ev425 => ?_)
          replace ev425 : v425 = nI (0 + st.1.length) := ev425.trans (nI_add _ _)
          subst ev425
          refine lv_iload S.1 S.2.1 d_Mdl_write_58 (lv_at hl 1 rfl) ?_
          refine lv_icmp_ge (tgt := 68) S.1 S.2.1 d_Mdl_write_60 (by decide) (fun c426 => ?_) (fun c426 => ?_)
          · skip
            replace c426 : 0 ≤ (0 + st.1.length) := (nI_leI (a := 0) (b := 0 + st.1.length) (by omega) (by omega)).mp c426
            refine lv_iload S.1 S.2.1 d_Mdl_write_68 (lv_at hl 0 rfl) ?_
            refine lv_iload S.1 S.2.1 d_Mdl_write_70 (lv_at hl 3 rfl) ?_
            refine lv_iadd S.1 S.2.1 d_Mdl_write_72 ?_
            refine lv_topi (fun v427 ev427 => ?_)
            replace ev427 : v427 = nI (0 + st.1.length) := ev427.trans (nI_add _ _)
            subst ev427
            refine lv_istore (lv' := [(8, .int (nI (0 + st.1.length))), (7, .int (nI 0)), (6, .int (nI 0)), (5, .int (-1)), (4, .int (nI st.1.length)), (0, .ref b), (1, .int (nI st.2.2.2.2.1)), (2, .int (nI 0)), (3, .int (nI 1))]) S.1 S.2.1 d_Mdl_write_73 hl (by decide) rfl (fun ls hl => ?_)
            exact join (0 + st.1.length) (by rw [if_neg c424]; omega) _ _ hI _ (lv_sub hl [5, 6, 7, 8, 4, 3, 2, 1, 0] rfl)
          · skip
            replace c426 : ¬ 0 ≤ (0 + st.1.length) := fun z => c426 ((nI_leI (a := 0) (b := 0 + st.1.length) (by omega) (by omega)).mpr z)
            refine lv_iload S.1 S.2.1 d_Mdl_write_63 (lv_at hl 1 rfl) ?_
            refine lv_goto (tgt := 73) S.1 S.2.1 d_Mdl_write_65 (by decide) ?_
            refine lv_istore (lv' := [(8, .int (nI 0)), (7, .int (nI 0)), (6, .int (nI 0)), (5, .int (-1)), (4, .int (nI st.1.length)), (0, .ref b), (1, .int (nI st.2.2.2.2.1)), (2, .int (nI 0)), (3, .int (nI 1))]) S.1 S.2.1 d_Mdl_write_73 hl (by decide) rfl (fun ls hl => ?_)
            exact join 0 (by rw [if_neg c424]; omega) _ _ hI _ (lv_sub hl [5, 6, 7, 8, 4, 3, 2, 1, 0] rfl)
  · subst hr9
    have hqL := List.mem_of_getElem? hq
    obtain ⟨hq48, hqn, p1, p2, p3, p4⟩ := hM q hqL
    have hgD : st.2.2.2.2.2.getD i (fNew [] 0) = af q := by rw [← hFS]; exact getD_map hq
    have hFi : st.2.2.2.2.2[i]? = some (af q) := by rw [← hFS, List.getElem?_map, hq]; rfl
    have hw1 := (hWf q hqL).1
    refine lv_istore (lv' := [(5, .int (nI q)), (4, .int (nI st.1.length)), (0, .ref b), (1, .int (nI st.2.2.2.2.1)), (2, .int (nI 0)), (3, .int (nI 1))]) S.1 S.2.1 d_Mdl_write_16 hl (by decide) rfl (fun ls hl => ?_)
    refine lv_iload S.1 S.2.1 d_Mdl_write_18 (lv_at hl 0 rfl) ?_
    refine lv_if_ge (tgt := 27) S.1 S.2.1 d_Mdl_write_20 (by decide) (fun c428 => ?_) (fun c428 => ?_)
    · skip
      replace c428 : 0 ≤ q := (nI_leI (a := 0) (b := q) (by omega) (by omega)).mp c428
      refine lv_aload_n S.1 S.2.1 d_Mdl_write_27 rfl (lv_at hl 2 rfl) ?_
      refine gh_get S hI hb rfl i_Mdl 9 (by decide) wi_444 rfl d_Mdl_write_28 ?_
      refine lv_iload S.1 S.2.1 d_Mdl_write_31 (lv_at hl 0 rfl) ?_
      refine gh_iald (j := q) S hI 1 h9 rfl rfl (by omega) (by omega) d_Mdl_write_33 ?_
      refine lv_topi (fun v429 ev429 => ?_)
      replace ev429 : v429 = nI (af q).2.2.1 := ev429.trans (p2)
      subst ev429
      refine lv_istore (lv' := [(6, .int (nI (af q).2.2.1)), (5, .int (nI q)), (4, .int (nI st.1.length)), (0, .ref b), (1, .int (nI st.2.2.2.2.1)), (2, .int (nI 0)), (3, .int (nI 1))]) S.1 S.2.1 d_Mdl_write_34 hl (by decide) rfl (fun ls hl => ?_)
      refine lv_iload_n S.1 S.2.1 d_Mdl_write_36 rfl (lv_at hl 6 rfl) ?_
      refine lv_if_eq (tgt := 45) S.1 S.2.1 d_Mdl_write_37 (by decide) (fun c430 => ?_) (fun c430 => ?_)
      · skip
        replace c430 : 1 = 0 := (nI_eq (a := 1) (b := 0) (by omega) (by omega)).mp c430
        exact absurd c430 (by omega)
      · skip
        replace c430 : ¬ 1 = 0 := fun z => c430 ((nI_eq (a := 1) (b := 0) (by omega) (by omega)).mpr z)
        refine lv_iload S.1 S.2.1 d_Mdl_write_40 (lv_at hl 0 rfl) ?_
        refine lv_goto (tgt := 46) S.1 S.2.1 d_Mdl_write_42 (by decide) ?_
        refine lv_istore (lv' := [(7, .int (nI (af q).2.2.1)), (6, .int (nI (af q).2.2.1)), (5, .int (nI q)), (4, .int (nI st.1.length)), (0, .ref b), (1, .int (nI st.2.2.2.2.1)), (2, .int (nI 0)), (3, .int (nI 1))]) S.1 S.2.1 d_Mdl_write_46 hl (by decide) rfl (fun ls hl => ?_)
        have hfr8 : (af q).2.2.1 ≤ 8192 := hw1
        have hbf8 : (af q).2.2.1 ≤ 8192 := hw1
        have hbt : (af q).2.2.1 ≤ fB st.2.2.2.2.2 := hle q hqL
        have join : ∀ at_ : Nat, at_ = (if st.1.length = 0 then ((af q).2.2.1) else max ((af q).2.2.1) (((af q).2.2.1) + st.1.length)) → ∀ (H : Heap) (locs : List Loc), gB P f374 s H locs → ∀ ls : Array Slot, lv_has ls 10 [(0, .ref b), (1, .int (nI st.2.2.2.2.1)), (2, .int (nI 0)), (3, .int (nI 1)), (4, .int (nI st.1.length)), (5, .int (nI q)), (6, .int (nI (af q).2.2.1)), (7, .int (nI (af q).2.2.1)), (8, .int (nI at_))] → W p l env (grm 3 0 0) s m args below meth c H locs 0 0 (MQ below (gQi P (fun r f1 => r = (oWrite st true 0).1 ∧ gMo P f1 b (aAft st (oWrite st true 0)) ∧ gFr f f1 [b, b + 1, b + 2, b + 3, b + 4, b + 5, b + 6, b + 7, b + 8, b + 9, b + 10, b + 11, b + 12])) args s 0 0 (gA P)) (F0 m 75 ls []) := by
          intro at_ hat H locs hI ls hl
          have hat2 : at_ ≤ 10240 := by
            rw [hat]; split <;> omega
          refine lv_iload S.1 S.2.1 d_Mdl_write_75 (lv_at hl 5 rfl) ?_
          refine lv_if_ge (tgt := 89) S.1 S.2.1 d_Mdl_write_77 (by decide) (fun c431 => ?_) (fun c431 => ?_)
          · skip
            replace c431 : 0 ≤ q := (nI_leI (a := 0) (b := q) (by omega) (by omega)).mp c431
            refine lv_iload S.1 S.2.1 d_Mdl_write_89 (lv_at hl 8 rfl) ?_
            refine lv_sipush (v := nI 8192) S.1 S.2.1 d_Mdl_write_91 (by decide) ?_
            refine lv_icmp_gt (tgt := 112) S.1 S.2.1 d_Mdl_write_94 (by decide) (fun c432 => ?_) (fun c432 => ?_)
            · skip
              replace c432 : 8192 < at_ := (nI_ltI (a := 8192) (b := at_) (by omega) (by omega)).mp c432
              refine lv_bipush (v := (-4)) S.1 S.2.1 d_Mdl_write_112 (by decide) ?_
              exact gr_i S hr hlk hI (by rw [oWrite_s (fr := (af q).2.2.1) (at_ := at_) hix hgD rfl hat, if_neg (fun z => absurd z.1 (by omega))]; exact ⟨rfl, ⟨gt, gn, gl, go, gu, gf, gk, gi, gz, gy, ga, gd, L, af, ⟨hb, h1, h2, h3, h4, h5, h6, h7, h8, h9, h10, h11, h12⟩, hT0, ⟨hn0, hn1⟩, hd0, hmF, hFS⟩, hF⟩) d_Mdl_write_114
            · skip
              replace c432 : ¬ 8192 < at_ := fun z => c432 ((nI_ltI (a := 8192) (b := at_) (by omega) (by omega)).mpr z)
              replace c432 : at_ ≤ 8192 := by omega
              refine lv_aload_n S.1 S.2.1 d_Mdl_write_97 rfl (lv_at hl 0 rfl) ?_
              refine gh_get S hI hb rfl i_Mdl 13 (by decide) wi_448 rfl d_Mdl_write_98 ?_
              refine lv_iload S.1 S.2.1 d_Mdl_write_101 (lv_at hl 6 rfl) ?_
              refine lv_isub S.1 S.2.1 d_Mdl_write_103 ?_
              refine lv_topi (fun v433 ev433 => ?_)
              replace ev433 : v433 = nI ((fB st.2.2.2.2.2) - ((af q).2.2.1)) := ev433.trans (pk_sub (by omega))
              subst ev433
              refine lv_iload S.1 S.2.1 d_Mdl_write_104 (lv_at hl 8 rfl) ?_
              refine lv_iadd S.1 S.2.1 d_Mdl_write_106 ?_
              refine lv_topi (fun v434 ev434 => ?_)
              replace ev434 : v434 = nI (((fB st.2.2.2.2.2) - ((af q).2.2.1)) + at_) := ev434.trans (nI_add _ _)
              subst ev434
              refine lv_ldc (v := nI 32768) S.1 S.2.1 S.2.2.2.1 (S.2.2.2.2 _ wi_488) d_Mdl_write_107 ?_
              refine lv_icmp_le (tgt := 115) S.1 S.2.1 d_Mdl_write_109 (by decide) (fun c435 => ?_) (fun c435 => ?_)
              · skip
                replace c435 : (((fB st.2.2.2.2.2) - ((af q).2.2.1)) + at_) ≤ 32768 := (nI_leI (a := ((fB st.2.2.2.2.2) - ((af q).2.2.1)) + at_) (b := 32768) (by omega) (by omega)).mp c435
                refine lv_iload S.1 S.2.1 d_Mdl_write_115 (lv_at hl 5 rfl) ?_
                refine lv_if_ge (tgt := 127) S.1 S.2.1 d_Mdl_write_117 (by decide) (fun c436 => ?_) (fun c436 => ?_)
                · skip
                  replace c436 : 0 ≤ q := (nI_leI (a := 0) (b := q) (by omega) (by omega)).mp c436
                  have hbs := fB_set (v := fWr (af q) ((af q).2.2.1) st.1) hFi
                  have hbs2 : (fWr (af q) ((af q).2.2.1) st.1).2.2.1 = at_ := hat.symm
                  rw [hbs2] at hbs
                  exact wr f374 go gu gf gk gi gz ga L af (st.2.2.2.2.2.set i (fWr (af q) ((af q).2.2.1) st.1)) q ((af q).2.2.1) ((af q).2.2.1) at_ hb h1 h2 h3 h4 h5 h6 h7 h8 h9 h10 h11 h12 hmF hqL hWf rfl hbt hfr8 hat c432 (by rw [oWrite_s (fr := (af q).2.2.1) (at_ := at_) hix hgD rfl hat, if_pos ⟨c432, c435⟩]) (by rw [map_set_up hnd hq, hFS]) (by omega) hF _ _ hI _ (lv_sub hl [0, 4, 5, 7, 8] rfl)
                · skip
                  replace c436 : ¬ 0 ≤ q := fun z => c436 ((nI_leI (a := 0) (b := q) (by omega) (by omega)).mpr z)
                  exact absurd c436 (by omega)
              · skip
                replace c435 : ¬ (((fB st.2.2.2.2.2) - ((af q).2.2.1)) + at_) ≤ 32768 := fun z => c435 ((nI_leI (a := ((fB st.2.2.2.2.2) - ((af q).2.2.1)) + at_) (b := 32768) (by omega) (by omega)).mpr z)
                refine lv_bipush (v := (-4)) S.1 S.2.1 d_Mdl_write_112 (by decide) ?_
                exact gr_i S hr hlk hI (by rw [oWrite_s (fr := (af q).2.2.1) (at_ := at_) hix hgD rfl hat, if_neg (fun z => absurd z.2 (by omega))]; exact ⟨rfl, ⟨gt, gn, gl, go, gu, gf, gk, gi, gz, gy, ga, gd, L, af, ⟨hb, h1, h2, h3, h4, h5, h6, h7, h8, h9, h10, h11, h12⟩, hT0, ⟨hn0, hn1⟩, hd0, hmF, hFS⟩, hF⟩) d_Mdl_write_114
          · skip
            replace c431 : ¬ 0 ≤ q := fun z => c431 ((nI_leI (a := 0) (b := q) (by omega) (by omega)).mpr z)
            exact absurd c431 (by omega)
        refine lv_iload S.1 S.2.1 d_Mdl_write_48 (lv_at hl 3 rfl) ?_
        refine lv_if_eq (tgt := 63) S.1 S.2.1 d_Mdl_write_50 (by decide) (fun c437 => ?_) (fun c437 => ?_)
        · skip
          replace c437 : st.1.length = 0 := (nI_eq (a := st.1.length) (b := 0) (by omega) (by omega)).mp c437
          refine lv_iload S.1 S.2.1 d_Mdl_write_63 (lv_at hl 1 rfl) ?_
          refine lv_goto (tgt := 73) S.1 S.2.1 d_Mdl_write_65 (by decide) ?_
          refine lv_istore (lv' := [(8, .int (nI (af q).2.2.1)), (7, .int (nI (af q).2.2.1)), (6, .int (nI (af q).2.2.1)), (5, .int (nI q)), (4, .int (nI st.1.length)), (0, .ref b), (1, .int (nI st.2.2.2.2.1)), (2, .int (nI 0)), (3, .int (nI 1))]) S.1 S.2.1 d_Mdl_write_73 hl (by decide) rfl (fun ls hl => ?_)
          exact join ((af q).2.2.1) (by rw [if_pos c437]) _ _ hI _ (lv_sub hl [5, 6, 7, 8, 4, 3, 2, 1, 0] rfl)
        · skip
          replace c437 : ¬ st.1.length = 0 := fun z => c437 ((nI_eq (a := st.1.length) (b := 0) (by omega) (by omega)).mpr z)
          refine lv_iload S.1 S.2.1 d_Mdl_write_53 (lv_at hl 0 rfl) ?_
          refine lv_iload S.1 S.2.1 d_Mdl_write_55 (lv_at hl 3 rfl) ?_
          refine lv_iadd S.1 S.2.1 d_Mdl_write_57 ?_
          refine lv_topi (fun v438 ev438 => ?_)
          replace ev438 : v438 = nI (((af q).2.2.1) + st.1.length) := ev438.trans (nI_add _ _)
          subst ev438
          refine lv_iload S.1 S.2.1 d_Mdl_write_58 (lv_at hl 1 rfl) ?_
          refine lv_icmp_ge (tgt := 68) S.1 S.2.1 d_Mdl_write_60 (by decide) (fun c439 => ?_) (fun c439 => ?_)
          · skip
            replace c439 : ((af q).2.2.1) ≤ (((af q).2.2.1) + st.1.length) := (nI_leI (a := (af q).2.2.1) (b := ((af q).2.2.1) + st.1.length) (by omega) (by omega)).mp c439
            refine lv_iload S.1 S.2.1 d_Mdl_write_68 (lv_at hl 0 rfl) ?_
            refine lv_iload S.1 S.2.1 d_Mdl_write_70 (lv_at hl 3 rfl) ?_
            refine lv_iadd S.1 S.2.1 d_Mdl_write_72 ?_
            refine lv_topi (fun v440 ev440 => ?_)
            replace ev440 : v440 = nI (((af q).2.2.1) + st.1.length) := ev440.trans (nI_add _ _)
            subst ev440
            refine lv_istore (lv' := [(8, .int (nI (((af q).2.2.1) + st.1.length))), (7, .int (nI (af q).2.2.1)), (6, .int (nI (af q).2.2.1)), (5, .int (nI q)), (4, .int (nI st.1.length)), (0, .ref b), (1, .int (nI st.2.2.2.2.1)), (2, .int (nI 0)), (3, .int (nI 1))]) S.1 S.2.1 d_Mdl_write_73 hl (by decide) rfl (fun ls hl => ?_)
            exact join (((af q).2.2.1) + st.1.length) (by rw [if_neg c437]; omega) _ _ hI _ (lv_sub hl [5, 6, 7, 8, 4, 3, 2, 1, 0] rfl)
          · skip
            replace c439 : ¬ ((af q).2.2.1) ≤ (((af q).2.2.1) + st.1.length) := fun z => c439 ((nI_leI (a := (af q).2.2.1) (b := ((af q).2.2.1) + st.1.length) (by omega) (by omega)).mpr z)
            refine lv_iload S.1 S.2.1 d_Mdl_write_63 (lv_at hl 1 rfl) ?_
            refine lv_goto (tgt := 73) S.1 S.2.1 d_Mdl_write_65 (by decide) ?_
            refine lv_istore (lv' := [(8, .int (nI (af q).2.2.1)), (7, .int (nI (af q).2.2.1)), (6, .int (nI (af q).2.2.1)), (5, .int (nI q)), (4, .int (nI st.1.length)), (0, .ref b), (1, .int (nI st.2.2.2.2.1)), (2, .int (nI 0)), (3, .int (nI 1))]) S.1 S.2.1 d_Mdl_write_73 hl (by decide) rfl (fun ls hl => ?_)
            exact join ((af q).2.2.1) (by rw [if_neg c437]; omega) _ _ hI _ (lv_sub hl [5, 6, 7, 8, 4, 3, 2, 1, 0] rfl)
    · skip
      replace c428 : ¬ 0 ≤ q := fun z => c428 ((nI_leI (a := 0) (b := q) (by omega) (by omega)).mpr z)
      exact absurd c428 (by omega)
