theorem nms_er {af : Nat → AFile} {L : List Nat} {k : Nat} : nms af (L.eraseIdx k) = (nms af L).eraseIdx k := map_er _ L k
theorem nms_up {af : Nat → AFile} {L : List Nat} {q : Nat} {v : AFile} (h : q ∉ L) : nms (va_up af q v) L = nms af L := by
  unfold nms
  exact List.map_congr_left (fun x hx => by rw [va_up_ne _ _ (fun z => h (by rw [← z]; exact hx))])
theorem nms_ins {af : Nat → AFile} {L : List Nat} {q p : Nat} {v : AFile} (h : q ∉ L) : nms (va_up af q v) (L.insertIdx p q) = (nms af L).insertIdx p v.1 := by
  have e := map_insG (fun x => (va_up af q v x).1) L p q
  have e2 := nms_up (af := af) (v := v) h
  unfold nms at *
  rw [e, e2, va_up_self]
theorem neg1_ne {q : Nat} (h : q < 2 ^ 31) : (-1 : Int32) ≠ nI q := fun z => nI_pos h (by rw [← z]; decide)
theorem er_get {L : List Nat} {i j x : Nat} (h : L[i]? = some x) (hne : j ≠ i) : (L.eraseIdx j)[if j < i then i - 1 else i]? = some x := by
  rw [List.getElem?_eraseIdx]
  by_cases c : j < i
  · rw [if_pos c, if_neg (by omega), show i - 1 + 1 = i by omega]; exact h
  · rw [if_neg c, if_pos (by omega)]; exact h
theorem set_same {FS : List AFile} {i : Nat} {v : AFile} {n0 n1 : List Nat} (h : FS[i]? = some v) (h0 : v.1 = n0) (h1 : n0 = n1) : (FS.set i (n0, v.2)).set i (n1, v.2) = FS := by
  apply List.ext_getElem?
  intro t
  have hi := (List.getElem?_eq_some_iff.mp h).1
  by_cases e : i = t
  · subst e
    rw [List.getElem?_set_self (by simpa using hi), h, ← h1, ← h0]
  · rw [List.getElem?_set_ne e, List.getElem?_set_ne e]
set_option maxHeartbeats 4000000 in
set_option maxRecDepth 100000 in
theorem c_Mdl_rename (l : Launch) (P : gPar) (f : gM) {b : Nat} {st : ASt} (h : gMo P f b (aIn st)) (hw : wfS st.2.2.2.2.2) : gC l P y_Mdl_rename b_Mdl_rename 3 (some .int) 2 0 0 [.ref b] f (gQi P (fun r f1 => r = (oRename st).1 ∧ gMo P f1 b (aAft st (oRename st)) ∧ gFr f f1 [b, b + 1, b + 2, b + 3, b + 4, b + 5, b + 6, b + 7, b + 8, b + 9, b + 10, b + 11, b + 12])) := by
  refine gC_of (by decide) (Nat.le_of_ble_eq_true rfl) (fun p env s m args below meth c S hr hlk hnm H locs hI ls hl => ?_)
  have hl : lv_has ls 3 [(0, .ref b)] := hl
  obtain ⟨gt, gn, gl, go, gu, gf, gk, gi, gz, gy, ga, gd, L, af, ⟨hb, h1, h2, h3, h4, h5, h6, h7, h8, h9, h10, h11, h12⟩, ⟨ht1, ht2⟩, ⟨hn0, hn1⟩, -, hmF, hFS⟩ := id h
  have hd0 : mTold gd [] := ⟨by simp, fun i hi => absurd hi (by simp)⟩
  obtain ⟨hnd, hlL, hO, hU, hM⟩ := id hmF
  replace hb : f b = some (.inr (7, [.ref (b + 1), .int (nI st.1.length), .ref (b + 2), .ref (b + 3), .ref (b + 4), .ref (b + 5), .ref (b + 6), .ref (b + 7), .ref (b + 8), .ref (b + 9), .ref (b + 10), .ref (b + 11), .int (nI L.length), .int (nI (fB st.2.2.2.2.2)), .int (nI (st.2.2.2.2.1 + 1)), .ref (b + 12), .int (nI 0)])) := hb
  replace ht1 : st.1.length ≤ 2048 := ht1
  replace ht2 : nmL st.1.length gt = st.1 := ht2
  replace hn0 : mNk gn gl 0 st.2.1 := hn0
  replace hn1 : mNk gn gl 1 st.2.2.1 := hn1
  replace hFS : L.map af = st.2.2.2.2.2 := hFS
  have hlF : st.2.2.2.2.2.length = L.length := by rw [← hFS, List.length_map]
  have hnF : nms af L = fN st.2.2.2.2.2 := by rw [← hFS, fN_L]
  have hs : srt (nms af L) := by rw [hnF]; exact hw.1
  have hN : ∀ q ∈ L, q < 48 ∧ mNk gf gk q (af q).1 := fun q hq => ⟨(hM q hq).1, (hM q hq).2.1⟩
  have hWf : ∀ q ∈ L, wfF (af q).2.2.1 (af q).2.2.2.1 (af q).2.2.2.2 := fun q hq => hw.2.2 _ (by rw [← hFS]; exact List.mem_map.mpr ⟨q, hq, rfl⟩)
  have hfB := hw.2.1
  have hle : ∀ q ∈ L, (af q).2.2.1 ≤ fB st.2.2.2.2.2 := fun q hq => fB_le (by rw [← hFS]; exact List.mem_map.mpr ⟨q, hq, rfl⟩)
  refine lv_aload_n S.1 S.2.1 d_Mdl_rename_0 rfl (lv_at hl 0 rfl) ?_
  refine lv_iconst (v := nI 0) S.1 S.2.1 d_Mdl_rename_1 (by decide) ?_
  have h48 : ∀ q ∈ L, q < 48 := fun q hq => (hM q hq).1
  refine gc_Vi S hI (c_Mdl_find l P f (k := 0) (nm := st.2.1) (af := af) hb h2 h3 h4 h6 h7 hO hN hlL (by omega) hn0 hs) kv_Mdl_find wi_473 hb rfl rfl rfl hl.1 rfl (Nat.le_of_ble_eq_true rfl) ⟨Nat.le_of_ble_eq_true rfl, Nat.le_of_ble_eq_true rfl⟩ ⟨Nat.le_of_ble_eq_true rfl, Nat.le_of_ble_eq_true rfl⟩ d_Mdl_rename_2 (fun r307 f308 H locs hp309 hI => ?_)
  obtain ⟨hp1, hp2⟩ := hp309
  rw [hp2] at hI
  rw [hnF] at hp1
  rcases hp1 with ⟨hix, hr9⟩ | ⟨i, q, hix, hq, hr9⟩
  · subst hr9
    refine lv_istore_n (lv' := [(1, .int (-1)), (0, .ref b)]) S.1 S.2.1 d_Mdl_rename_5 rfl hl (by decide) rfl (fun ls hl => ?_)
    refine lv_iload_n S.1 S.2.1 d_Mdl_rename_6 rfl (lv_at hl 0 rfl) ?_
    refine lv_if_ge (tgt := 13) S.1 S.2.1 d_Mdl_rename_7 (by decide) (fun c310 => ?_) (fun c310 => ?_)
    · skip
      exact absurd c310 (by decide)
    · skip
      refine lv_bipush (v := (-2)) S.1 S.2.1 d_Mdl_rename_10 (by decide) ?_
      exact gr_i S hr hlk hI (by rw [oRename_n hix]; exact ⟨rfl, h, gFr.rf⟩) d_Mdl_rename_12
  · subst hr9
    have hqL := List.mem_of_getElem? hq
    obtain ⟨hq48, hqn, p1, p2, p3, p4⟩ := hM q hqL
    have hgD : st.2.2.2.2.2.getD i (fNew [] 0) = af q := by rw [← hFS]; exact getD_map hq
    have hFi : st.2.2.2.2.2[i]? = some (af q) := by rw [← hFS, List.getElem?_map, hq]; rfl
    refine lv_istore_n (lv' := [(1, .int (nI q)), (0, .ref b)]) S.1 S.2.1 d_Mdl_rename_5 rfl hl (by decide) rfl (fun ls hl => ?_)
    refine lv_iload_n S.1 S.2.1 d_Mdl_rename_6 rfl (lv_at hl 0 rfl) ?_
    refine lv_if_ge (tgt := 13) S.1 S.2.1 d_Mdl_rename_7 (by decide) (fun c311 => ?_) (fun c311 => ?_)
    · skip
      replace c311 : 0 ≤ q := (nI_leI (a := 0) (b := q) (by omega) (by omega)).mp c311
      refine lv_aload_n S.1 S.2.1 d_Mdl_rename_13 rfl (lv_at hl 1 rfl) ?_
      refine lv_iconst (v := nI 1) S.1 S.2.1 d_Mdl_rename_14 (by decide) ?_
      refine gc_Vi S hI (c_Mdl_find l P f (k := 1) (nm := st.2.2.1) (af := af) hb h2 h3 h4 h6 h7 hO hN hlL (by omega) hn1 hs) kv_Mdl_find wi_473 hb rfl rfl rfl hl.1 rfl (Nat.le_of_ble_eq_true rfl) ⟨Nat.le_of_ble_eq_true rfl, Nat.le_of_ble_eq_true rfl⟩ ⟨Nat.le_of_ble_eq_true rfl, Nat.le_of_ble_eq_true rfl⟩ d_Mdl_rename_15 (fun r312 f313 H locs hp314 hI => ?_)
      obtain ⟨hp1, hp2⟩ := hp314
      rw [hp2] at hI
      rw [hnF] at hp1
      rcases hp1 with ⟨hixB, hr9⟩ | ⟨iB, qB, hixB, hqB, hr9⟩
      · subst hr9
        refine lv_istore_n (lv' := [(2, .int (-1)), (1, .int (nI q)), (0, .ref b)]) S.1 S.2.1 d_Mdl_rename_18 rfl hl (by decide) rfl (fun ls hl => ?_)
        refine lv_iload_n S.1 S.2.1 d_Mdl_rename_19 rfl (lv_at hl 0 rfl) ?_
        refine lv_iload_n S.1 S.2.1 d_Mdl_rename_20 rfl (lv_at hl 1 rfl) ?_
        have hne : st.2.1 ≠ st.2.2.1 := fun e => by rw [← e, hix] at hixB; cases hixB
        refine lv_icmp_ne (tgt := 26) S.1 S.2.1 d_Mdl_rename_21 (by decide) (fun c315 => ?_) (fun c315 => ?_)
        · skip
          refine lv_iload_n S.1 S.2.1 d_Mdl_rename_26 rfl (lv_at hl 0 rfl) ?_
          refine lv_if_lt (tgt := 36) S.1 S.2.1 d_Mdl_rename_27 (by decide) (fun c316 => ?_) (fun c316 => ?_)
          · skip
            refine lv_aload_n S.1 S.2.1 d_Mdl_rename_36 rfl (lv_at hl 2 rfl) ?_
            refine lv_iload_n S.1 S.2.1 d_Mdl_rename_37 rfl (lv_at hl 1 rfl) ?_
            have k0 := hb
            have zF : L.map af = st.2.2.2.2.2 := hFS
            have zS : L.map af = st.2.2.2.2.2 := hFS
            have zN : nms af L = fN st.2.2.2.2.2 := by rw [← zS, fN_L]
            have zlen : L.length ≤ 48 := hmF.2.1
            have zkl := (List.getElem?_eq_some_iff.mp hq).1
            have z48 : ∀ q ∈ L, q < 48 := fun x hx => (hmF.2.2.2.2 x hx).1
            refine gc_Vv S hI (c_Mdl_leave l P f (q := q) (k := i) (L := L) k0 h4 hO hq hnd z48 zlen) kv_Mdl_leave wi_501 hb rfl rfl rfl hl.1 rfl (Nat.le_of_ble_eq_true rfl) ⟨Nat.le_of_ble_eq_true rfl, Nat.le_of_ble_eq_true rfl⟩ ⟨Nat.le_of_ble_eq_true rfl, Nat.le_of_ble_eq_true rfl⟩ d_Mdl_rename_38 (fun f318 H locs hp319 hI => ?_)
            obtain ⟨y4, v0, v4, vO, vF⟩ := hp319
            have eL2 : (L.eraseIdx i).length = L.length - 1 := List.length_eraseIdx_of_lt zkl
            rw [← eL2] at v0
            have v1 := vF (b + 1) _ h1 (by intro z; simp at z)
            have v2 := vF (b + 2) _ h2 (by intro z; simp at z)
            have v3 := vF (b + 3) _ h3 (by intro z; simp at z)
            have v5 := vF (b + 5) _ h5 (by intro z; simp at z)
            have v6 := vF (b + 6) _ h6 (by intro z; simp at z)
            have v7 := vF (b + 7) _ h7 (by intro z; simp at z)
            have v8 := vF (b + 8) _ h8 (by intro z; simp at z)
            have v9 := vF (b + 9) _ h9 (by intro z; simp at z)
            have v10 := vF (b + 10) _ h10 (by intro z; simp at z)
            have v11 := vF (b + 11) _ h11 (by intro z; simp at z)
            have v12 := vF (b + 12) _ h12 (by intro z; simp at z)
            have zs0 : srt (nms af L) := by rw [zN]; exact hw.1
            have zs : srt (nms af (L.eraseIdx i)) := by rw [nms_er]; exact srt_er zs0 _
            have zno0 : st.2.2.1 ∉ fN st.2.2.2.2.2 := idx_nm hw.1 hixB
            have zno : st.2.2.1 ∉ nms af (L.eraseIdx i) := fun z => zno0 (by rw [← zN]; rw [nms_er] at z; exact List.mem_of_mem_eraseIdx z)
            have zN2 : ∀ x ∈ (L.eraseIdx i), x < 48 ∧ mNk gf gk x (af x).1 := fun x hx => ⟨(hmF.2.2.2.2 x (List.mem_of_mem_eraseIdx hx)).1, (hmF.2.2.2.2 x (List.mem_of_mem_eraseIdx hx)).2.1⟩
            refine lv_aload_n S.1 S.2.1 d_Mdl_rename_41 rfl (lv_at hl 2 rfl) ?_
            refine lv_iload_n S.1 S.2.1 d_Mdl_rename_42 rfl (lv_at hl 1 rfl) ?_
            refine lv_iconst (v := nI 1) S.1 S.2.1 d_Mdl_rename_43 (by decide) ?_
            refine gc_Vv S hI (c_Mdl_enter l P f318 (q := q) (k := 1) (L := (L.eraseIdx i)) (af := af) (nm := st.2.2.1) v0 v2 v3 v4 v6 v7 vO zN2 (by omega) hq48 (by omega) hn1 zs zno) kv_Mdl_enter wi_482 v0 rfl rfl rfl hl.1 rfl (Nat.le_of_ble_eq_true rfl) ⟨Nat.le_of_ble_eq_true rfl, Nat.le_of_ble_eq_true rfl⟩ ⟨Nat.le_of_ble_eq_true rfl, Nat.le_of_ble_eq_true rfl⟩ d_Mdl_rename_44 (fun f321 H locs hp322 hI => ?_)
            obtain ⟨w4v, w6v, w7v, u0, u4, u6, u7, uO, uN, uK, uF⟩ := hp322
            have u1 := uF (b + 1) _ v1 (by intro z; simp at z)
            have u2 := uF (b + 2) _ v2 (by intro z; simp at z)
            have u3 := uF (b + 3) _ v3 (by intro z; simp at z)
            have u5 := uF (b + 5) _ v5 (by intro z; simp at z)
            have u8 := uF (b + 8) _ v8 (by intro z; simp at z)
            have u9 := uF (b + 9) _ v9 (by intro z; simp at z)
            have u10 := uF (b + 10) _ v10 (by intro z; simp at z)
            have u11 := uF (b + 11) _ v11 (by intro z; simp at z)
            have u12 := uF (b + 12) _ v12 (by intro z; simp at z)
            have zpl : plc (nms af (L.eraseIdx i)) st.2.2.1 ≤ (L.eraseIdx i).length := by have := plc_le (nms af (L.eraseIdx i)) st.2.2.1; rw [show (nms af (L.eraseIdx i)).length = (L.eraseIdx i).length by simp [nms]] at this; exact this
            have zm := mFs_ren hmF hq zpl uO uN uK
            have zqn := nodup_er hnd hq
            have zFS : ((L.eraseIdx i).insertIdx (plc (nms af (L.eraseIdx i)) st.2.2.1) q).map (va_up af q (st.2.2.1, (af q).2)) = (fIns (st.2.2.2.2.2.eraseIdx i) (st.2.2.1, (af q).2)) := by
              rw [map_ins_up zqn, map_er, zS, show nms af (L.eraseIdx i) = fN (st.2.2.2.2.2.eraseIdx i) by rw [nms_er, zN]; exact fN_er.symm]; rfl
            have zFi : st.2.2.2.2.2[i]? = some (af q) := by rw [← zS, List.getElem?_map, hq]; rfl
            have zgD : st.2.2.2.2.2.getD i (fNew [] 0) = af q := by rw [List.getD_eq_getElem?_getD, zFi]; rfl
            have zB : fB (fIns (st.2.2.2.2.2.eraseIdx i) (st.2.2.1, (af q).2)) = fB st.2.2.2.2.2 := by
              have e1 := fB_er zFi
              have e2 := fB_ins (FS := st.2.2.2.2.2.eraseIdx i) (v := (st.2.2.1, (af q).2)) (i := plc (fN (st.2.2.2.2.2.eraseIdx i)) st.2.2.1) (by have := plc_le (fN (st.2.2.2.2.2.eraseIdx i)) st.2.2.1; rw [show (fN (st.2.2.2.2.2.eraseIdx i)).length = (st.2.2.2.2.2.eraseIdx i).length by simp [fN]] at this; exact this)
              show fB ((st.2.2.2.2.2.eraseIdx i).insertIdx (plc (fN (st.2.2.2.2.2.eraseIdx i)) st.2.2.1) (st.2.2.1, (af q).2)) = _
              rw [e2]; show (af q).2.2.1 + _ = _; omega
            have zl : ((L.eraseIdx i).insertIdx (plc (nms af (L.eraseIdx i)) st.2.2.1) q).length = (L.eraseIdx i).length + 1 := List.length_insertIdx_of_le_length zpl _
            rw [← zl, ← zB] at u0
            have zFr : gFr f f321 [b, b + 1, b + 2, b + 3, b + 4, b + 5, b + 6, b + 7, b + 8, b + 9, b + 10, b + 11, b + 12] := by
              skip
              refine gFr.call ?_ uF (by intro q hq; left; simp at hq ⊢; omega)
              exact gFr.call gFr.rf vF (by intro q hq; left; simp at hq ⊢; omega)
            refine lv_iload_n S.1 S.2.1 d_Mdl_rename_47 rfl (lv_at hl 0 rfl) ?_
            refine lv_if_lt (tgt := 55) S.1 S.2.1 d_Mdl_rename_48 (by decide) (fun c323 => ?_) (fun c323 => ?_)
            · skip
              refine lv_iconst (v := nI 0) S.1 S.2.1 d_Mdl_rename_55 (by decide) ?_
              exact gr_i S hr hlk hI (by rw [oRename_0 hix hne hixB, zgD]; exact ⟨rfl, ⟨gt, gn, gl, w4v, gu, w6v, w7v, gi, gz, gy, ga, gd, _, _, ⟨u0, u1, u2, u3, u4, u5, u6, u7, u8, u9, u10, u11, u12⟩, ⟨ht1, ht2⟩, ⟨hn0, hn1⟩, hd0, zm, zFS⟩, zFr⟩) d_Mdl_rename_56
            · skip
              exact absurd (by decide) c323
          · skip
            exact absurd (by decide) c316
        · skip
          exact absurd c315 (neg1_ne (by omega))
      · subst hr9
        have hqLB := List.mem_of_getElem? hqB
        obtain ⟨hq48B, hqnB, p1B, p2B, p3B, p4B⟩ := hM qB hqLB
        have hgDB : st.2.2.2.2.2.getD iB (fNew [] 0) = af qB := by rw [← hFS]; exact getD_map hqB
        have hFiB : st.2.2.2.2.2[iB]? = some (af qB) := by rw [← hFS, List.getElem?_map, hqB]; rfl
        refine lv_istore_n (lv' := [(2, .int (nI qB)), (1, .int (nI q)), (0, .ref b)]) S.1 S.2.1 d_Mdl_rename_18 rfl hl (by decide) rfl (fun ls hl => ?_)
        refine lv_iload_n S.1 S.2.1 d_Mdl_rename_19 rfl (lv_at hl 0 rfl) ?_
        refine lv_iload_n S.1 S.2.1 d_Mdl_rename_20 rfl (lv_at hl 1 rfl) ?_
        refine lv_icmp_ne (tgt := 26) S.1 S.2.1 d_Mdl_rename_21 (by decide) (fun c324 => ?_) (fun c324 => ?_)
        · skip
          replace c324 : ¬ qB = q := fun z => c324 ((nI_eq (a := qB) (b := q) (by omega) (by omega)).mpr z)
          have hjk : iB ≠ i := fun z => c324 (by rw [z, hq] at hqB; injection hqB with e; exact e.symm)
          have hne : st.2.1 ≠ st.2.2.1 := fun e => hjk (by rw [← e, hix] at hixB; injection hixB with e; exact e.symm)
          refine lv_iload_n S.1 S.2.1 d_Mdl_rename_26 rfl (lv_at hl 0 rfl) ?_
          refine lv_if_lt (tgt := 36) S.1 S.2.1 d_Mdl_rename_27 (by decide) (fun c325 => ?_) (fun c325 => ?_)
          · skip
            replace c325 : qB < 0 := (nI_ltI (a := qB) (b := 0) (by omega) (by omega)).mp c325
            exact absurd c325 (by omega)
          · skip
            replace c325 : ¬ qB < 0 := fun z => c325 ((nI_ltI (a := qB) (b := 0) (by omega) (by omega)).mpr z)
            refine lv_aload_n S.1 S.2.1 d_Mdl_rename_30 rfl (lv_at hl 2 rfl) ?_
            refine lv_iload_n S.1 S.2.1 d_Mdl_rename_31 rfl (lv_at hl 0 rfl) ?_
            refine gc_Vi S hI (c_Mdl_gone l P f (q := qB) (k := iB) (sz := (af qB).2.2.1) hb h4 h5 h9 hO hqB hnd h48 hlL p2B (hle qB hqLB)) kv_Mdl_gone wi_498 hb rfl rfl rfl hl.1 rfl (Nat.le_of_ble_eq_true rfl) ⟨Nat.le_of_ble_eq_true rfl, Nat.le_of_ble_eq_true rfl⟩ ⟨Nat.le_of_ble_eq_true rfl, Nat.le_of_ble_eq_true rfl⟩ d_Mdl_rename_32 (fun r326 f327 H locs hp328 hI => ?_)
            obtain ⟨hr7, g4, k0, k4, k5, kO, kF⟩ := hp328
            subst hr7
            have hmG := mFs_gone hmF hqB kO
            have eL1 : (L.eraseIdx iB).length = L.length - 1 := List.length_eraseIdx_of_lt (List.getElem?_eq_some_iff.mp hqB).1
            rw [← eL1] at k0
            have k1 := kF (b + 1) _ h1 (by intro z; simp at z)
            have k2 := kF (b + 2) _ h2 (by intro z; simp at z)
            have k3 := kF (b + 3) _ h3 (by intro z; simp at z)
            have k6 := kF (b + 6) _ h6 (by intro z; simp at z)
            have k7 := kF (b + 7) _ h7 (by intro z; simp at z)
            have k8 := kF (b + 8) _ h8 (by intro z; simp at z)
            have k9 := kF (b + 9) _ h9 (by intro z; simp at z)
            have k10 := kF (b + 10) _ h10 (by intro z; simp at z)
            have k11 := kF (b + 11) _ h11 (by intro z; simp at z)
            have k12 := kF (b + 12) _ h12 (by intro z; simp at z)
            have hqe := er_get hq hjk
            obtain ⟨k1v, hk1⟩ : ∃ z, z = (if iB < i then i - 1 else i) := ⟨_, rfl⟩
            rw [← hk1] at hqe
            have hbe := fB_er hFiB
            have eT : fB (st.2.2.2.2.2.eraseIdx iB) = fB st.2.2.2.2.2 - (af qB).2.2.1 := by omega
            rw [← eT] at k0
            have hi1 : idx (fN (st.2.2.2.2.2.eraseIdx iB)) st.2.1 = some k1v := by rw [fN_er, hk1]; exact idx_er hix hjk
            refine lv_pop S.1 S.2.1 d_Mdl_rename_35 rfl ?_
            refine lv_aload_n S.1 S.2.1 d_Mdl_rename_36 rfl (lv_at hl 2 rfl) ?_
            refine lv_iload_n S.1 S.2.1 d_Mdl_rename_37 rfl (lv_at hl 1 rfl) ?_
            have zF : L.map af = st.2.2.2.2.2 := hFS
            have zS : (L.eraseIdx iB).map af = (st.2.2.2.2.2.eraseIdx iB) := by rw [map_er, hFS]
            have zN : nms af (L.eraseIdx iB) = fN (st.2.2.2.2.2.eraseIdx iB) := by rw [← zS, fN_L]
            have zlen : (L.eraseIdx iB).length ≤ 48 := hmG.2.1
            have zkl := (List.getElem?_eq_some_iff.mp hqe).1
            have z48 : ∀ q ∈ (L.eraseIdx iB), q < 48 := fun x hx => (hmG.2.2.2.2 x hx).1
            refine gc_Vv S hI (c_Mdl_leave l P f327 (q := q) (k := k1v) (L := (L.eraseIdx iB)) k0 k4 kO hqe hmG.1 z48 zlen) kv_Mdl_leave wi_501 k0 rfl rfl rfl hl.1 rfl (Nat.le_of_ble_eq_true rfl) ⟨Nat.le_of_ble_eq_true rfl, Nat.le_of_ble_eq_true rfl⟩ ⟨Nat.le_of_ble_eq_true rfl, Nat.le_of_ble_eq_true rfl⟩ d_Mdl_rename_38 (fun f330 H locs hp331 hI => ?_)
            obtain ⟨y4, v0, v4, vO, vF⟩ := hp331
            have eL2 : ((L.eraseIdx iB).eraseIdx k1v).length = (L.eraseIdx iB).length - 1 := List.length_eraseIdx_of_lt zkl
            rw [← eL2] at v0
            have v1 := vF (b + 1) _ k1 (by intro z; simp at z)
            have v2 := vF (b + 2) _ k2 (by intro z; simp at z)
            have v3 := vF (b + 3) _ k3 (by intro z; simp at z)
            have v5 := vF (b + 5) _ k5 (by intro z; simp at z)
            have v6 := vF (b + 6) _ k6 (by intro z; simp at z)
            have v7 := vF (b + 7) _ k7 (by intro z; simp at z)
            have v8 := vF (b + 8) _ k8 (by intro z; simp at z)
            have v9 := vF (b + 9) _ k9 (by intro z; simp at z)
            have v10 := vF (b + 10) _ k10 (by intro z; simp at z)
            have v11 := vF (b + 11) _ k11 (by intro z; simp at z)
            have v12 := vF (b + 12) _ k12 (by intro z; simp at z)
            have zs0 : srt (nms af (L.eraseIdx iB)) := by rw [zN]; exact (wfS_er hw).1
            have zs : srt (nms af ((L.eraseIdx iB).eraseIdx k1v)) := by rw [nms_er]; exact srt_er zs0 _
            have zno0 : st.2.2.1 ∉ fN (st.2.2.2.2.2.eraseIdx iB) := fun z => nm_er hw.1 (idx_lt hixB).2.2 (by rw [← fN_er]; exact z)
            have zno : st.2.2.1 ∉ nms af ((L.eraseIdx iB).eraseIdx k1v) := fun z => zno0 (by rw [← zN]; rw [nms_er] at z; exact List.mem_of_mem_eraseIdx z)
            have zN2 : ∀ x ∈ ((L.eraseIdx iB).eraseIdx k1v), x < 48 ∧ mNk gf gk x (af x).1 := fun x hx => ⟨(hmG.2.2.2.2 x (List.mem_of_mem_eraseIdx hx)).1, (hmG.2.2.2.2 x (List.mem_of_mem_eraseIdx hx)).2.1⟩
            refine lv_aload_n S.1 S.2.1 d_Mdl_rename_41 rfl (lv_at hl 2 rfl) ?_
            refine lv_iload_n S.1 S.2.1 d_Mdl_rename_42 rfl (lv_at hl 1 rfl) ?_
            refine lv_iconst (v := nI 1) S.1 S.2.1 d_Mdl_rename_43 (by decide) ?_
            refine gc_Vv S hI (c_Mdl_enter l P f330 (q := q) (k := 1) (L := ((L.eraseIdx iB).eraseIdx k1v)) (af := af) (nm := st.2.2.1) v0 v2 v3 v4 v6 v7 vO zN2 (by omega) hq48 (by omega) hn1 zs zno) kv_Mdl_enter wi_482 v0 rfl rfl rfl hl.1 rfl (Nat.le_of_ble_eq_true rfl) ⟨Nat.le_of_ble_eq_true rfl, Nat.le_of_ble_eq_true rfl⟩ ⟨Nat.le_of_ble_eq_true rfl, Nat.le_of_ble_eq_true rfl⟩ d_Mdl_rename_44 (fun f333 H locs hp334 hI => ?_)
            obtain ⟨w4v, w6v, w7v, u0, u4, u6, u7, uO, uN, uK, uF⟩ := hp334
            have u1 := uF (b + 1) _ v1 (by intro z; simp at z)
            have u2 := uF (b + 2) _ v2 (by intro z; simp at z)
            have u3 := uF (b + 3) _ v3 (by intro z; simp at z)
            have u5 := uF (b + 5) _ v5 (by intro z; simp at z)
            have u8 := uF (b + 8) _ v8 (by intro z; simp at z)
            have u9 := uF (b + 9) _ v9 (by intro z; simp at z)
            have u10 := uF (b + 10) _ v10 (by intro z; simp at z)
            have u11 := uF (b + 11) _ v11 (by intro z; simp at z)
            have u12 := uF (b + 12) _ v12 (by intro z; simp at z)
            have zpl : plc (nms af ((L.eraseIdx iB).eraseIdx k1v)) st.2.2.1 ≤ ((L.eraseIdx iB).eraseIdx k1v).length := by have := plc_le (nms af ((L.eraseIdx iB).eraseIdx k1v)) st.2.2.1; rw [show (nms af ((L.eraseIdx iB).eraseIdx k1v)).length = ((L.eraseIdx iB).eraseIdx k1v).length by simp [nms]] at this; exact this
            have zm := mFs_ren hmG hqe zpl uO uN uK
            have zqn := nodup_er hmG.1 hqe
            have zFS : (((L.eraseIdx iB).eraseIdx k1v).insertIdx (plc (nms af ((L.eraseIdx iB).eraseIdx k1v)) st.2.2.1) q).map (va_up af q (st.2.2.1, (af q).2)) = (fIns ((st.2.2.2.2.2.eraseIdx iB).eraseIdx k1v) (st.2.2.1, (af q).2)) := by
              rw [map_ins_up zqn, map_er, zS, show nms af ((L.eraseIdx iB).eraseIdx k1v) = fN ((st.2.2.2.2.2.eraseIdx iB).eraseIdx k1v) by rw [nms_er, zN]; exact fN_er.symm]; rfl
            have zFi : (st.2.2.2.2.2.eraseIdx iB)[k1v]? = some (af q) := by rw [← zS, List.getElem?_map, hqe]; rfl
            have zgD : (st.2.2.2.2.2.eraseIdx iB).getD k1v (fNew [] 0) = af q := by rw [List.getD_eq_getElem?_getD, zFi]; rfl
            have zB : fB (fIns ((st.2.2.2.2.2.eraseIdx iB).eraseIdx k1v) (st.2.2.1, (af q).2)) = fB (st.2.2.2.2.2.eraseIdx iB) := by
              have e1 := fB_er zFi
              have e2 := fB_ins (FS := (st.2.2.2.2.2.eraseIdx iB).eraseIdx k1v) (v := (st.2.2.1, (af q).2)) (i := plc (fN ((st.2.2.2.2.2.eraseIdx iB).eraseIdx k1v)) st.2.2.1) (by have := plc_le (fN ((st.2.2.2.2.2.eraseIdx iB).eraseIdx k1v)) st.2.2.1; rw [show (fN ((st.2.2.2.2.2.eraseIdx iB).eraseIdx k1v)).length = ((st.2.2.2.2.2.eraseIdx iB).eraseIdx k1v).length by simp [fN]] at this; exact this)
              show fB (((st.2.2.2.2.2.eraseIdx iB).eraseIdx k1v).insertIdx (plc (fN ((st.2.2.2.2.2.eraseIdx iB).eraseIdx k1v)) st.2.2.1) (st.2.2.1, (af q).2)) = _
              rw [e2]; show (af q).2.2.1 + _ = _; omega
            have zl : (((L.eraseIdx iB).eraseIdx k1v).insertIdx (plc (nms af ((L.eraseIdx iB).eraseIdx k1v)) st.2.2.1) q).length = ((L.eraseIdx iB).eraseIdx k1v).length + 1 := List.length_insertIdx_of_le_length zpl _
            rw [← zl, ← zB] at u0
            have zFr : gFr f f333 [b, b + 1, b + 2, b + 3, b + 4, b + 5, b + 6, b + 7, b + 8, b + 9, b + 10, b + 11, b + 12] := by
              skip
              refine gFr.call ?_ uF (by intro q hq; left; simp at hq ⊢; omega)
              exact gFr.call (kF.mono (by intro q hq; simp at hq ⊢; omega)) vF (by intro q hq; left; simp at hq ⊢; omega)
            refine lv_iload_n S.1 S.2.1 d_Mdl_rename_47 rfl (lv_at hl 0 rfl) ?_
            refine lv_if_lt (tgt := 55) S.1 S.2.1 d_Mdl_rename_48 (by decide) (fun c335 => ?_) (fun c335 => ?_)
            · skip
              replace c335 : qB < 0 := (nI_ltI (a := qB) (b := 0) (by omega) (by omega)).mp c335
              exact absurd c335 (by omega)
            · skip
              replace c335 : ¬ qB < 0 := fun z => c335 ((nI_ltI (a := qB) (b := 0) (by omega) (by omega)).mpr z)
              refine lv_iconst (v := nI 1) S.1 S.2.1 d_Mdl_rename_51 (by decide) ?_
              refine lv_goto (tgt := 56) S.1 S.2.1 d_Mdl_rename_52 (by decide) ?_
              exact gr_i S hr hlk hI (by rw [oRename_1 hix hne hixB hi1, zgD]; exact ⟨rfl, ⟨gt, gn, gl, w4v, (upd gu qB (nI 0)), w6v, w7v, gi, gz, gy, ga, gd, _, _, ⟨u0, u1, u2, u3, u4, u5, u6, u7, u8, u9, u10, u11, u12⟩, ⟨ht1, ht2⟩, ⟨hn0, hn1⟩, hd0, zm, zFS⟩, zFr⟩) d_Mdl_rename_56
        · skip
          replace c324 : qB = q := (nI_eq (a := qB) (b := q) (by omega) (by omega)).mp c324
          have hij : iB = i := nodup_inj hnd (by rw [hqB, c324]) hq
          have he : st.2.1 = st.2.2.1 := by
            have e1 := (idx_lt hix).2.2
            have e2 := (idx_lt hixB).2.2
            rw [hij, e1] at e2; exact Option.some.inj e2
          refine lv_iconst (v := nI 0) S.1 S.2.1 d_Mdl_rename_24 (by decide) ?_
          exact gr_i S hr hlk hI (by rw [oRename_e hix he]; exact ⟨rfl, h, gFr.rf⟩) d_Mdl_rename_25
    · skip
      replace c311 : ¬ 0 ≤ q := fun z => c311 ((nI_leI (a := 0) (b := q) (by omega) (by omega)).mpr z)
      exact absurd c311 (by omega)
set_option maxHeartbeats 4000000 in
set_option maxRecDepth 100000 in
theorem c_Mdl_swap (l : Launch) (P : gPar) (f : gM) {b : Nat} {st : ASt} (h : gMo P f b (aIn st)) (hw : wfS st.2.2.2.2.2) : gC l P y_Mdl_swap b_Mdl_swap 3 (some .int) 2 0 0 [.ref b] f (gQi P (fun r f1 => r = (oSwap st).1 ∧ gMo P f1 b (aAft st (oSwap st)) ∧ gFr f f1 [b, b + 1, b + 2, b + 3, b + 4, b + 5, b + 6, b + 7, b + 8, b + 9, b + 10, b + 11, b + 12])) := by
  refine gC_of (by decide) (Nat.le_of_ble_eq_true rfl) (fun p env s m args below meth c S hr hlk hnm H locs hI ls hl => ?_)
  have hl : lv_has ls 3 [(0, .ref b)] := hl
  obtain ⟨gt, gn, gl, go, gu, gf, gk, gi, gz, gy, ga, gd, L, af, ⟨hb, h1, h2, h3, h4, h5, h6, h7, h8, h9, h10, h11, h12⟩, ⟨ht1, ht2⟩, ⟨hn0, hn1⟩, -, hmF, hFS⟩ := id h
  have hd0 : mTold gd [] := ⟨by simp, fun i hi => absurd hi (by simp)⟩
  obtain ⟨hnd, hlL, hO, hU, hM⟩ := id hmF
  replace hb : f b = some (.inr (7, [.ref (b + 1), .int (nI st.1.length), .ref (b + 2), .ref (b + 3), .ref (b + 4), .ref (b + 5), .ref (b + 6), .ref (b + 7), .ref (b + 8), .ref (b + 9), .ref (b + 10), .ref (b + 11), .int (nI L.length), .int (nI (fB st.2.2.2.2.2)), .int (nI (st.2.2.2.2.1 + 1)), .ref (b + 12), .int (nI 0)])) := hb
  replace ht1 : st.1.length ≤ 2048 := ht1
  replace ht2 : nmL st.1.length gt = st.1 := ht2
  replace hn0 : mNk gn gl 0 st.2.1 := hn0
  replace hn1 : mNk gn gl 1 st.2.2.1 := hn1
  replace hFS : L.map af = st.2.2.2.2.2 := hFS
  have hlF : st.2.2.2.2.2.length = L.length := by rw [← hFS, List.length_map]
  have hnF : nms af L = fN st.2.2.2.2.2 := by rw [← hFS, fN_L]
  have hs : srt (nms af L) := by rw [hnF]; exact hw.1
  have hN : ∀ q ∈ L, q < 48 ∧ mNk gf gk q (af q).1 := fun q hq => ⟨(hM q hq).1, (hM q hq).2.1⟩
  have hWf : ∀ q ∈ L, wfF (af q).2.2.1 (af q).2.2.2.1 (af q).2.2.2.2 := fun q hq => hw.2.2 _ (by rw [← hFS]; exact List.mem_map.mpr ⟨q, hq, rfl⟩)
  have hfB := hw.2.1
  have hle : ∀ q ∈ L, (af q).2.2.1 ≤ fB st.2.2.2.2.2 := fun q hq => fB_le (by rw [← hFS]; exact List.mem_map.mpr ⟨q, hq, rfl⟩)
  refine lv_aload_n S.1 S.2.1 d_Mdl_swap_0 rfl (lv_at hl 0 rfl) ?_
  refine lv_iconst (v := nI 0) S.1 S.2.1 d_Mdl_swap_1 (by decide) ?_
  have h48 : ∀ q ∈ L, q < 48 := fun q hq => (hM q hq).1
  refine gc_Vi S hI (c_Mdl_find l P f (k := 0) (nm := st.2.1) (af := af) hb h2 h3 h4 h6 h7 hO hN hlL (by omega) hn0 hs) kv_Mdl_find wi_473 hb rfl rfl rfl hl.1 rfl (Nat.le_of_ble_eq_true rfl) ⟨Nat.le_of_ble_eq_true rfl, Nat.le_of_ble_eq_true rfl⟩ ⟨Nat.le_of_ble_eq_true rfl, Nat.le_of_ble_eq_true rfl⟩ d_Mdl_swap_2 (fun r336 f337 H locs hp338 hI => ?_)
  obtain ⟨hp1, hp2⟩ := hp338
  rw [hp2] at hI
  rw [hnF] at hp1
  rcases hp1 with ⟨hix, hr9⟩ | ⟨i, q, hix, hq, hr9⟩
  · subst hr9
    refine lv_istore_n (lv' := [(1, .int (-1)), (0, .ref b)]) S.1 S.2.1 d_Mdl_swap_5 rfl hl (by decide) rfl (fun ls hl => ?_)
    refine lv_aload_n S.1 S.2.1 d_Mdl_swap_6 rfl (lv_at hl 1 rfl) ?_
    refine lv_iconst (v := nI 1) S.1 S.2.1 d_Mdl_swap_7 (by decide) ?_
    refine gc_Vi S hI (c_Mdl_find l P f (k := 1) (nm := st.2.2.1) (af := af) hb h2 h3 h4 h6 h7 hO hN hlL (by omega) hn1 hs) kv_Mdl_find wi_473 hb rfl rfl rfl hl.1 rfl (Nat.le_of_ble_eq_true rfl) ⟨Nat.le_of_ble_eq_true rfl, Nat.le_of_ble_eq_true rfl⟩ ⟨Nat.le_of_ble_eq_true rfl, Nat.le_of_ble_eq_true rfl⟩ d_Mdl_swap_8 (fun r339 f340 H locs hp341 hI => ?_)
    obtain ⟨hp1, hp2⟩ := hp341
    rw [hp2] at hI
    rw [hnF] at hp1
    rcases hp1 with ⟨hixB, hr9⟩ | ⟨iB, qB, hixB, hqB, hr9⟩
    · subst hr9
      refine lv_istore_n (lv' := [(2, .int (-1)), (1, .int (-1)), (0, .ref b)]) S.1 S.2.1 d_Mdl_swap_11 rfl hl (by decide) rfl (fun ls hl => ?_)
      refine lv_iload_n S.1 S.2.1 d_Mdl_swap_12 rfl (lv_at hl 1 rfl) ?_
      refine lv_if_lt (tgt := 20) S.1 S.2.1 d_Mdl_swap_13 (by decide) (fun c342 => ?_) (fun c342 => ?_)
      · skip
        refine lv_bipush (v := (-2)) S.1 S.2.1 d_Mdl_swap_20 (by decide) ?_
        exact gr_i S hr hlk hI (by rw [oSwap_n (Or.inl hix)]; exact ⟨rfl, h, gFr.rf⟩) d_Mdl_swap_22
      · skip
        exact absurd (by decide) c342
    · subst hr9
      have hqLB := List.mem_of_getElem? hqB
      obtain ⟨hq48B, hqnB, p1B, p2B, p3B, p4B⟩ := hM qB hqLB
      have hgDB : st.2.2.2.2.2.getD iB (fNew [] 0) = af qB := by rw [← hFS]; exact getD_map hqB
      have hFiB : st.2.2.2.2.2[iB]? = some (af qB) := by rw [← hFS, List.getElem?_map, hqB]; rfl
      refine lv_istore_n (lv' := [(2, .int (nI qB)), (1, .int (-1)), (0, .ref b)]) S.1 S.2.1 d_Mdl_swap_11 rfl hl (by decide) rfl (fun ls hl => ?_)
      refine lv_iload_n S.1 S.2.1 d_Mdl_swap_12 rfl (lv_at hl 1 rfl) ?_
      refine lv_if_lt (tgt := 20) S.1 S.2.1 d_Mdl_swap_13 (by decide) (fun c343 => ?_) (fun c343 => ?_)
      · skip
        refine lv_bipush (v := (-2)) S.1 S.2.1 d_Mdl_swap_20 (by decide) ?_
        exact gr_i S hr hlk hI (by rw [oSwap_n (Or.inl hix)]; exact ⟨rfl, h, gFr.rf⟩) d_Mdl_swap_22
      · skip
        exact absurd (by decide) c343
  · subst hr9
    have hqL := List.mem_of_getElem? hq
    obtain ⟨hq48, hqn, p1, p2, p3, p4⟩ := hM q hqL
    have hgD : st.2.2.2.2.2.getD i (fNew [] 0) = af q := by rw [← hFS]; exact getD_map hq
    have hFi : st.2.2.2.2.2[i]? = some (af q) := by rw [← hFS, List.getElem?_map, hq]; rfl
    refine lv_istore_n (lv' := [(1, .int (nI q)), (0, .ref b)]) S.1 S.2.1 d_Mdl_swap_5 rfl hl (by decide) rfl (fun ls hl => ?_)
    refine lv_aload_n S.1 S.2.1 d_Mdl_swap_6 rfl (lv_at hl 1 rfl) ?_
    refine lv_iconst (v := nI 1) S.1 S.2.1 d_Mdl_swap_7 (by decide) ?_
    refine gc_Vi S hI (c_Mdl_find l P f (k := 1) (nm := st.2.2.1) (af := af) hb h2 h3 h4 h6 h7 hO hN hlL (by omega) hn1 hs) kv_Mdl_find wi_473 hb rfl rfl rfl hl.1 rfl (Nat.le_of_ble_eq_true rfl) ⟨Nat.le_of_ble_eq_true rfl, Nat.le_of_ble_eq_true rfl⟩ ⟨Nat.le_of_ble_eq_true rfl, Nat.le_of_ble_eq_true rfl⟩ d_Mdl_swap_8 (fun r344 f345 H locs hp346 hI => ?_)
    obtain ⟨hp1, hp2⟩ := hp346
    rw [hp2] at hI
    rw [hnF] at hp1
    rcases hp1 with ⟨hixB, hr9⟩ | ⟨iB, qB, hixB, hqB, hr9⟩
    · subst hr9
      refine lv_istore_n (lv' := [(2, .int (-1)), (1, .int (nI q)), (0, .ref b)]) S.1 S.2.1 d_Mdl_swap_11 rfl hl (by decide) rfl (fun ls hl => ?_)
      refine lv_iload_n S.1 S.2.1 d_Mdl_swap_12 rfl (lv_at hl 1 rfl) ?_
      refine lv_if_lt (tgt := 20) S.1 S.2.1 d_Mdl_swap_13 (by decide) (fun c347 => ?_) (fun c347 => ?_)
      · skip
        replace c347 : q < 0 := (nI_ltI (a := q) (b := 0) (by omega) (by omega)).mp c347
        exact absurd c347 (by omega)
      · skip
        replace c347 : ¬ q < 0 := fun z => c347 ((nI_ltI (a := q) (b := 0) (by omega) (by omega)).mpr z)
        refine lv_iload_n S.1 S.2.1 d_Mdl_swap_16 rfl (lv_at hl 0 rfl) ?_
        refine lv_if_ge (tgt := 23) S.1 S.2.1 d_Mdl_swap_17 (by decide) (fun c348 => ?_) (fun c348 => ?_)
        · skip
          exact absurd c348 (by decide)
        · skip
          refine lv_bipush (v := (-2)) S.1 S.2.1 d_Mdl_swap_20 (by decide) ?_
          exact gr_i S hr hlk hI (by rw [oSwap_n (Or.inr hixB)]; exact ⟨rfl, h, gFr.rf⟩) d_Mdl_swap_22
    · subst hr9
      have hqLB := List.mem_of_getElem? hqB
      obtain ⟨hq48B, hqnB, p1B, p2B, p3B, p4B⟩ := hM qB hqLB
      have hgDB : st.2.2.2.2.2.getD iB (fNew [] 0) = af qB := by rw [← hFS]; exact getD_map hqB
      have hFiB : st.2.2.2.2.2[iB]? = some (af qB) := by rw [← hFS, List.getElem?_map, hqB]; rfl
      refine lv_istore_n (lv' := [(2, .int (nI qB)), (1, .int (nI q)), (0, .ref b)]) S.1 S.2.1 d_Mdl_swap_11 rfl hl (by decide) rfl (fun ls hl => ?_)
      refine lv_iload_n S.1 S.2.1 d_Mdl_swap_12 rfl (lv_at hl 1 rfl) ?_
      refine lv_if_lt (tgt := 20) S.1 S.2.1 d_Mdl_swap_13 (by decide) (fun c349 => ?_) (fun c349 => ?_)
      · skip
        replace c349 : q < 0 := (nI_ltI (a := q) (b := 0) (by omega) (by omega)).mp c349
        exact absurd c349 (by omega)
      · skip
        replace c349 : ¬ q < 0 := fun z => c349 ((nI_ltI (a := q) (b := 0) (by omega) (by omega)).mpr z)
        refine lv_iload_n S.1 S.2.1 d_Mdl_swap_16 rfl (lv_at hl 0 rfl) ?_
        refine lv_if_ge (tgt := 23) S.1 S.2.1 d_Mdl_swap_17 (by decide) (fun c350 => ?_) (fun c350 => ?_)
        · skip
          replace c350 : 0 ≤ qB := (nI_leI (a := 0) (b := qB) (by omega) (by omega)).mp c350
          refine lv_iload_n S.1 S.2.1 d_Mdl_swap_23 rfl (lv_at hl 1 rfl) ?_
          refine lv_iload_n S.1 S.2.1 d_Mdl_swap_24 rfl (lv_at hl 0 rfl) ?_
          refine lv_icmp_ne (tgt := 30) S.1 S.2.1 d_Mdl_swap_25 (by decide) (fun c351 => ?_) (fun c351 => ?_)
          · skip
            replace c351 : ¬ q = qB := fun z => c351 ((nI_eq (a := q) (b := qB) (by omega) (by omega)).mpr z)
            have hij : iB ≠ i := fun z => c351 (by rw [z, hq] at hqB; injection hqB)
            have hne : st.2.1 ≠ st.2.2.1 := fun e => hij (by rw [← e, hix] at hixB; injection hixB with e; exact e.symm)
            have hv1 : (af q).1 = st.2.1 := by
              obtain ⟨x9, e1, e2, -⟩ := idx_get (af := af) (L := L) (nm := st.2.1) (k := i) (by rw [hnF]; exact hix)
              rw [hq] at e1; injection e1 with e1; rw [e1]; exact e2
            have hv2 : (af qB).1 = st.2.2.1 := by
              obtain ⟨x9, e1, e2, -⟩ := idx_get (af := af) (L := L) (nm := st.2.2.1) (k := iB) (by rw [hnF]; exact hixB)
              rw [hqB] at e1; injection e1 with e1; rw [e1]; exact e2
            refine lv_aload_n S.1 S.2.1 d_Mdl_swap_30 rfl (lv_at hl 2 rfl) ?_
            refine lv_iload_n S.1 S.2.1 d_Mdl_swap_31 rfl (lv_at hl 1 rfl) ?_
            refine gc_Vv S hI (c_Mdl_leave l P f (q := q) (k := i) (L := L) hb h4 hO hq hnd h48 hlL) kv_Mdl_leave wi_501 hb rfl rfl rfl hl.1 rfl (Nat.le_of_ble_eq_true rfl) ⟨Nat.le_of_ble_eq_true rfl, Nat.le_of_ble_eq_true rfl⟩ ⟨Nat.le_of_ble_eq_true rfl, Nat.le_of_ble_eq_true rfl⟩ d_Mdl_swap_32 (fun f353 H locs hp354 hI => ?_)
            obtain ⟨y4, v0, v4, vO, vF⟩ := hp354
            have hil := (List.getElem?_eq_some_iff.mp hq).1
            have eL1 : (L.eraseIdx i).length = L.length - 1 := List.length_eraseIdx_of_lt hil
            rw [← eL1] at v0
            have v1 := vF (b + 1) _ h1 (by intro z; simp at z)
            have v2 := vF (b + 2) _ h2 (by intro z; simp at z)
            have v3 := vF (b + 3) _ h3 (by intro z; simp at z)
            have v5 := vF (b + 5) _ h5 (by intro z; simp at z)
            have v6 := vF (b + 6) _ h6 (by intro z; simp at z)
            have v7 := vF (b + 7) _ h7 (by intro z; simp at z)
            have v8 := vF (b + 8) _ h8 (by intro z; simp at z)
            have v9 := vF (b + 9) _ h9 (by intro z; simp at z)
            have v10 := vF (b + 10) _ h10 (by intro z; simp at z)
            have v11 := vF (b + 11) _ h11 (by intro z; simp at z)
            have v12 := vF (b + 12) _ h12 (by intro z; simp at z)
            have hqB1 := er_get hqB (Ne.symm hij)
            obtain ⟨jv, hjv⟩ : ∃ z, z = (if i < iB then iB - 1 else iB) := ⟨_, rfl⟩
            rw [← hjv] at hqB1
            have hnd1 : (L.eraseIdx i).Nodup := hnd.sublist (List.eraseIdx_sublist L i)
            refine lv_aload_n S.1 S.2.1 d_Mdl_swap_35 rfl (lv_at hl 2 rfl) ?_
            refine lv_iload_n S.1 S.2.1 d_Mdl_swap_36 rfl (lv_at hl 0 rfl) ?_
            refine gc_Vv S hI (c_Mdl_leave l P f353 (q := qB) (k := jv) (L := (L.eraseIdx i)) v0 v4 vO hqB1 hnd1 (fun x hx => h48 x (List.mem_of_mem_eraseIdx hx)) (by omega)) kv_Mdl_leave wi_501 v0 rfl rfl rfl hl.1 rfl (Nat.le_of_ble_eq_true rfl) ⟨Nat.le_of_ble_eq_true rfl, Nat.le_of_ble_eq_true rfl⟩ ⟨Nat.le_of_ble_eq_true rfl, Nat.le_of_ble_eq_true rfl⟩ d_Mdl_swap_37 (fun f356 H locs hp357 hI => ?_)
            obtain ⟨x4, u0, u4, uO, uF⟩ := hp357
            have hjl := (List.getElem?_eq_some_iff.mp hqB1).1
            have eL2 : ((L.eraseIdx i).eraseIdx jv).length = (L.eraseIdx i).length - 1 := List.length_eraseIdx_of_lt hjl
            rw [← eL2] at u0
            have u1 := uF (b + 1) _ v1 (by intro z; simp at z)
            have u2 := uF (b + 2) _ v2 (by intro z; simp at z)
            have u3 := uF (b + 3) _ v3 (by intro z; simp at z)
            have u5 := uF (b + 5) _ v5 (by intro z; simp at z)
            have u6 := uF (b + 6) _ v6 (by intro z; simp at z)
            have u7 := uF (b + 7) _ v7 (by intro z; simp at z)
            have u8 := uF (b + 8) _ v8 (by intro z; simp at z)
            have u9 := uF (b + 9) _ v9 (by intro z; simp at z)
            have u10 := uF (b + 10) _ v10 (by intro z; simp at z)
            have u11 := uF (b + 11) _ v11 (by intro z; simp at z)
            have u12 := uF (b + 12) _ v12 (by intro z; simp at z)
            have hnd2 : ((L.eraseIdx i).eraseIdx jv).Nodup := hnd1.sublist (List.eraseIdx_sublist _ jv)
            have hm2 : ∀ x, x ∈ ((L.eraseIdx i).eraseIdx jv) ↔ x ∈ L ∧ x ≠ q ∧ x ≠ qB := fun x => by rw [mem_er hnd1 hqB1, mem_er hnd hq, and_assoc]
            have hs2 : srt (nms af ((L.eraseIdx i).eraseIdx jv)) := by rw [nms_er, nms_er]; exact srt_er (srt_er hs _) _
            have hno1 : st.2.2.1 ∉ nms af ((L.eraseIdx i).eraseIdx jv) := fun z => by
              obtain ⟨x9, e1, e2⟩ := List.mem_map.mp z
              have e3 := (hm2 x9).mp e1
              obtain ⟨t, ht⟩ := List.getElem?_of_mem e3.1
              have e4 : (nms af L)[t]? = some st.2.2.1 := by rw [nms_get, ht, ← e2]; rfl
              have e5 : (nms af L)[iB]? = some st.2.2.1 := by rw [nms_get, hqB, ← hv2]; rfl
              have e6 := (idx_srt hs e4).symm.trans (idx_srt hs e5)
              injection e6 with e6
              rw [e6, hqB] at ht; injection ht with ht; exact e3.2.2 ht.symm
            have hno0 : st.2.1 ∉ nms af ((L.eraseIdx i).eraseIdx jv) := fun z => by
              obtain ⟨x9, e1, e2⟩ := List.mem_map.mp z
              have e3 := (hm2 x9).mp e1
              obtain ⟨t, ht⟩ := List.getElem?_of_mem e3.1
              have e4 : (nms af L)[t]? = some st.2.1 := by rw [nms_get, ht, ← e2]; rfl
              have e5 : (nms af L)[i]? = some st.2.1 := by rw [nms_get, hq, ← hv1]; rfl
              have e6 := (idx_srt hs e4).symm.trans (idx_srt hs e5)
              injection e6 with e6
              rw [e6, hq] at ht; injection ht with ht; exact e3.2.1 ht.symm
            refine lv_aload_n S.1 S.2.1 d_Mdl_swap_40 rfl (lv_at hl 2 rfl) ?_
            refine lv_iload_n S.1 S.2.1 d_Mdl_swap_41 rfl (lv_at hl 1 rfl) ?_
            refine lv_iconst (v := nI 1) S.1 S.2.1 d_Mdl_swap_42 (by decide) ?_
            refine gc_Vv S hI (c_Mdl_enter l P f356 (q := q) (k := 1) (L := ((L.eraseIdx i).eraseIdx jv)) (af := af) (nm := st.2.2.1) u0 u2 u3 u4 u6 u7 uO (fun x hx => hN x ((hm2 x).mp hx).1) (by omega) hq48 (by omega) hn1 hs2 hno1) kv_Mdl_enter wi_482 u0 rfl rfl rfl hl.1 rfl (Nat.le_of_ble_eq_true rfl) ⟨Nat.le_of_ble_eq_true rfl, Nat.le_of_ble_eq_true rfl⟩ ⟨Nat.le_of_ble_eq_true rfl, Nat.le_of_ble_eq_true rfl⟩ d_Mdl_swap_43 (fun f359 H locs hp360 hI => ?_)
            obtain ⟨a4v, a6v, a7v, w0, w4, w6, w7, wO, wN, wK, wF⟩ := hp360
            have w1 := wF (b + 1) _ u1 (by intro z; simp at z)
            have w2 := wF (b + 2) _ u2 (by intro z; simp at z)
            have w3 := wF (b + 3) _ u3 (by intro z; simp at z)
            have w5 := wF (b + 5) _ u5 (by intro z; simp at z)
            have w8 := wF (b + 8) _ u8 (by intro z; simp at z)
            have w9 := wF (b + 9) _ u9 (by intro z; simp at z)
            have w10 := wF (b + 10) _ u10 (by intro z; simp at z)
            have w11 := wF (b + 11) _ u11 (by intro z; simp at z)
            have w12 := wF (b + 12) _ u12 (by intro z; simp at z)
            have hp1 : (plc (nms af ((L.eraseIdx i).eraseIdx jv)) st.2.2.1) ≤ ((L.eraseIdx i).eraseIdx jv).length := by have := plc_le (nms af ((L.eraseIdx i).eraseIdx jv)) st.2.2.1; rw [show (nms af ((L.eraseIdx i).eraseIdx jv)).length = ((L.eraseIdx i).eraseIdx jv).length by simp [nms]] at this; exact this
            have eL3 : (((L.eraseIdx i).eraseIdx jv).insertIdx (plc (nms af ((L.eraseIdx i).eraseIdx jv)) st.2.2.1) q).length = ((L.eraseIdx i).eraseIdx jv).length + 1 := List.length_insertIdx_of_le_length hp1 _
            rw [← eL3] at w0
            have hq2 : q ∉ ((L.eraseIdx i).eraseIdx jv) := fun z => ((hm2 q).mp z).2.1 rfl
            obtain ⟨af3, haf3⟩ : ∃ z, z = va_up af q (st.2.2.1, (af q).2) := ⟨_, rfl⟩
            have hn3 : nms af3 (((L.eraseIdx i).eraseIdx jv).insertIdx (plc (nms af ((L.eraseIdx i).eraseIdx jv)) st.2.2.1) q) = (nms af ((L.eraseIdx i).eraseIdx jv)).insertIdx (plc (nms af ((L.eraseIdx i).eraseIdx jv)) st.2.2.1) st.2.2.1 := by rw [haf3, nms_ins hq2]
            have hs3 : srt (nms af3 (((L.eraseIdx i).eraseIdx jv).insertIdx (plc (nms af ((L.eraseIdx i).eraseIdx jv)) st.2.2.1) q)) := by rw [hn3]; exact srt_ins hs2 hno1
            have hno3 : st.2.1 ∉ nms af3 (((L.eraseIdx i).eraseIdx jv).insertIdx (plc (nms af ((L.eraseIdx i).eraseIdx jv)) st.2.2.1) q) := by
              rw [hn3]
              intro z
              rcases (List.mem_insertIdx (by rw [show (nms af ((L.eraseIdx i).eraseIdx jv)).length = ((L.eraseIdx i).eraseIdx jv).length by simp [nms]]; exact hp1)).mp z with e | e
              · exact hne e
              · exact hno0 e
            have hm3 : ∀ x, x ∈ (((L.eraseIdx i).eraseIdx jv).insertIdx (plc (nms af ((L.eraseIdx i).eraseIdx jv)) st.2.2.1) q) ↔ x = q ∨ (x ∈ L ∧ x ≠ q ∧ x ≠ qB) := fun x => by rw [mem_ins hp1, hm2]
            have hN3 : ∀ x ∈ (((L.eraseIdx i).eraseIdx jv).insertIdx (plc (nms af ((L.eraseIdx i).eraseIdx jv)) st.2.2.1) q), x < 48 ∧ mNk a6v a7v x (af3 x).1 := fun x hx => by
              rcases (hm3 x).mp hx with e | e
              · rw [e, haf3, va_up_self]; exact ⟨hq48, wN⟩
              · rw [haf3, va_up_ne _ _ e.2.1]; exact ⟨h48 x e.1, wK x _ e.2.1 (hN x e.1).2⟩
            refine lv_aload_n S.1 S.2.1 d_Mdl_swap_46 rfl (lv_at hl 2 rfl) ?_
            refine lv_iload_n S.1 S.2.1 d_Mdl_swap_47 rfl (lv_at hl 0 rfl) ?_
            refine lv_iconst (v := nI 0) S.1 S.2.1 d_Mdl_swap_48 (by decide) ?_
            refine gc_Vv S hI (c_Mdl_enter l P f359 (q := qB) (k := 0) (L := (((L.eraseIdx i).eraseIdx jv).insertIdx (plc (nms af ((L.eraseIdx i).eraseIdx jv)) st.2.2.1) q)) (af := af3) (nm := st.2.1) w0 w2 w3 w4 w6 w7 wO hN3 (by omega) hq48B (by omega) hn0 hs3 hno3) kv_Mdl_enter wi_482 w0 rfl rfl rfl hl.1 rfl (Nat.le_of_ble_eq_true rfl) ⟨Nat.le_of_ble_eq_true rfl, Nat.le_of_ble_eq_true rfl⟩ ⟨Nat.le_of_ble_eq_true rfl, Nat.le_of_ble_eq_true rfl⟩ d_Mdl_swap_49 (fun f362 H locs hp363 hI => ?_)
            obtain ⟨b4v, b6v, b7v, z0, z4, z6, z7, zO, zN, zK, zF⟩ := hp363
            have z1 := zF (b + 1) _ w1 (by intro z; simp at z)
            have z2 := zF (b + 2) _ w2 (by intro z; simp at z)
            have z3 := zF (b + 3) _ w3 (by intro z; simp at z)
            have z5 := zF (b + 5) _ w5 (by intro z; simp at z)
            have z8 := zF (b + 8) _ w8 (by intro z; simp at z)
            have z9 := zF (b + 9) _ w9 (by intro z; simp at z)
            have z10 := zF (b + 10) _ w10 (by intro z; simp at z)
            have z11 := zF (b + 11) _ w11 (by intro z; simp at z)
            have z12 := zF (b + 12) _ w12 (by intro z; simp at z)
            have hp2 : (plc (nms af3 (((L.eraseIdx i).eraseIdx jv).insertIdx (plc (nms af ((L.eraseIdx i).eraseIdx jv)) st.2.2.1) q)) st.2.1) ≤ (((L.eraseIdx i).eraseIdx jv).insertIdx (plc (nms af ((L.eraseIdx i).eraseIdx jv)) st.2.2.1) q).length := by have := plc_le (nms af3 (((L.eraseIdx i).eraseIdx jv).insertIdx (plc (nms af ((L.eraseIdx i).eraseIdx jv)) st.2.2.1) q)) st.2.1; rw [show (nms af3 (((L.eraseIdx i).eraseIdx jv).insertIdx (plc (nms af ((L.eraseIdx i).eraseIdx jv)) st.2.2.1) q)).length = (((L.eraseIdx i).eraseIdx jv).insertIdx (plc (nms af ((L.eraseIdx i).eraseIdx jv)) st.2.2.1) q).length by simp [nms]] at this; exact this
            have eL4 : ((((L.eraseIdx i).eraseIdx jv).insertIdx (plc (nms af ((L.eraseIdx i).eraseIdx jv)) st.2.2.1) q).insertIdx (plc (nms af3 (((L.eraseIdx i).eraseIdx jv).insertIdx (plc (nms af ((L.eraseIdx i).eraseIdx jv)) st.2.2.1) q)) st.2.1) qB).length = (((L.eraseIdx i).eraseIdx jv).insertIdx (plc (nms af ((L.eraseIdx i).eraseIdx jv)) st.2.2.1) q).length + 1 := List.length_insertIdx_of_le_length hp2 _
            rw [← eL4] at z0
            have hqb3 : qB ∉ (((L.eraseIdx i).eraseIdx jv).insertIdx (plc (nms af ((L.eraseIdx i).eraseIdx jv)) st.2.2.1) q) := fun z => ((hm3 qB).mp z).elim (fun e => c351 e.symm) (fun e => e.2.2 rfl)
            have haf3B : af3 qB = af qB := by rw [haf3]; exact va_up_ne _ _ (fun e => c351 e.symm)
            obtain ⟨af4, haf4⟩ : ∃ z, z = va_up af3 qB (st.2.1, (af qB).2) := ⟨_, rfl⟩
            have hm4 : ∀ x, x ∈ ((((L.eraseIdx i).eraseIdx jv).insertIdx (plc (nms af ((L.eraseIdx i).eraseIdx jv)) st.2.2.1) q).insertIdx (plc (nms af3 (((L.eraseIdx i).eraseIdx jv).insertIdx (plc (nms af ((L.eraseIdx i).eraseIdx jv)) st.2.2.1) q)) st.2.1) qB) ↔ x ∈ L := fun x => by
              rw [mem_ins hp2, hm3]
              constructor
              · rintro (e | e | e)
                · rw [e]; exact hqLB
                · rw [e]; exact hqL
                · exact e.1
              · intro e
                by_cases e1 : x = qB
                · exact Or.inl e1
                · by_cases e2 : x = q
                  · exact Or.inr (Or.inl e2)
                  · exact Or.inr (Or.inr ⟨e, e2, e1⟩)
            have hnd4 : ((((L.eraseIdx i).eraseIdx jv).insertIdx (plc (nms af ((L.eraseIdx i).eraseIdx jv)) st.2.2.1) q).insertIdx (plc (nms af3 (((L.eraseIdx i).eraseIdx jv).insertIdx (plc (nms af ((L.eraseIdx i).eraseIdx jv)) st.2.2.1) q)) st.2.1) qB).Nodup := nd_ins (nd_ins hnd2 hq2 hp1) hqb3 hp2
            have zm : mFs b4v gu b6v b7v gi gz gy ga ((((L.eraseIdx i).eraseIdx jv).insertIdx (plc (nms af ((L.eraseIdx i).eraseIdx jv)) st.2.2.1) q).insertIdx (plc (nms af3 (((L.eraseIdx i).eraseIdx jv).insertIdx (plc (nms af ((L.eraseIdx i).eraseIdx jv)) st.2.2.1) q)) st.2.1) qB) af4 := by
              refine ⟨hnd4, by omega, zO, fun x hx => ?_, fun x hx => ?_⟩
              · rw [hU x hx]
                by_cases e : x ∈ L
                · rw [if_pos e, if_pos ((hm4 x).mpr e)]
                · rw [if_neg e, if_neg (fun z => e ((hm4 x).mp z))]
              · obtain ⟨o1, o2, o3⟩ := hM x ((hm4 x).mp hx)
                by_cases e1 : x = qB
                · subst e1
                  rw [haf4, va_up_self]; exact ⟨o1, zN, o3⟩
                · rw [haf4, va_up_ne _ _ e1]
                  by_cases e2 : x = q
                  · subst e2
                    rw [haf3, va_up_self]; exact ⟨o1, zK _ _ e1 wN, o3⟩
                  · rw [haf3, va_up_ne _ _ e2]; exact ⟨o1, zK _ _ e1 (wK _ _ e2 o2), o3⟩
            have hwS : wfS ((st.2.2.2.2.2.set i (st.2.1, (af qB).2)).set iB (st.2.2.1, (af q).2)) := wfS_sw hw hFi hFiB hv1 hv2
            have hn4 : nms af4 ((((L.eraseIdx i).eraseIdx jv).insertIdx (plc (nms af ((L.eraseIdx i).eraseIdx jv)) st.2.2.1) q).insertIdx (plc (nms af3 (((L.eraseIdx i).eraseIdx jv).insertIdx (plc (nms af ((L.eraseIdx i).eraseIdx jv)) st.2.2.1) q)) st.2.1) qB) = (nms af3 (((L.eraseIdx i).eraseIdx jv).insertIdx (plc (nms af ((L.eraseIdx i).eraseIdx jv)) st.2.2.1) q)).insertIdx (plc (nms af3 (((L.eraseIdx i).eraseIdx jv).insertIdx (plc (nms af ((L.eraseIdx i).eraseIdx jv)) st.2.2.1) q)) st.2.1) st.2.1 := by rw [haf4, nms_ins hqb3]
            have hs4 : srt (fN (((((L.eraseIdx i).eraseIdx jv).insertIdx (plc (nms af ((L.eraseIdx i).eraseIdx jv)) st.2.2.1) q).insertIdx (plc (nms af3 (((L.eraseIdx i).eraseIdx jv).insertIdx (plc (nms af ((L.eraseIdx i).eraseIdx jv)) st.2.2.1) q)) st.2.1) qB).map af4)) := by rw [fN_L, hn4]; exact srt_ins hs3 hno3
            have haf4q : af4 q = (st.2.2.1, (af q).2) := by rw [haf4, va_up_ne _ _ c351, haf3, va_up_self]
            have haf4B : af4 qB = (st.2.1, (af qB).2) := by rw [haf4, va_up_self]
            have haf4o : ∀ x, x ≠ q → x ≠ qB → af4 x = af x := fun x e1 e2 => by rw [haf4, va_up_ne _ _ e2, haf3, va_up_ne _ _ e1]
            have zFS : ((((L.eraseIdx i).eraseIdx jv).insertIdx (plc (nms af ((L.eraseIdx i).eraseIdx jv)) st.2.2.1) q).insertIdx (plc (nms af3 (((L.eraseIdx i).eraseIdx jv).insertIdx (plc (nms af ((L.eraseIdx i).eraseIdx jv)) st.2.2.1) q)) st.2.1) qB).map af4 = ((st.2.2.2.2.2.set i (st.2.1, (af qB).2)).set iB (st.2.2.1, (af q).2)) := by
              refine srt_uniq hs4 hwS.1 (fun v => ?_)
              have hilF : i < st.2.2.2.2.2.length := (List.getElem?_eq_some_iff.mp hFi).1
              have hjlF : iB < st.2.2.2.2.2.length := (List.getElem?_eq_some_iff.mp hFiB).1
              have hget : ∀ t, ((st.2.2.2.2.2.set i (st.2.1, (af qB).2)).set iB (st.2.2.1, (af q).2))[t]? = if t = iB then some (st.2.2.1, (af q).2) else if t = i then some (st.2.1, (af qB).2) else st.2.2.2.2.2[t]? := by
                intro t
                by_cases e : t = iB
                · rw [if_pos e, e, List.getElem?_set_self (by simpa using hjlF)]
                · rw [if_neg e, List.getElem?_set_ne (Ne.symm e)]
                  by_cases e2 : t = i
                  · rw [if_pos e2, e2, List.getElem?_set_self hilF]
                  · rw [if_neg e2, List.getElem?_set_ne (Ne.symm e2)]
              constructor
              · intro hv
                obtain ⟨x, e1, e2⟩ := List.mem_map.mp hv
                have e3 := (hm4 x).mp e1
                by_cases c1 : x = q
                · exact List.mem_of_getElem? (i := iB) (by rw [hget, if_pos rfl, ← e2, c1, haf4q])
                · by_cases c2 : x = qB
                  · exact List.mem_of_getElem? (i := i) (by rw [hget, if_neg (Ne.symm hij), if_pos rfl, ← e2, c2, haf4B])
                  · obtain ⟨t, ht⟩ := List.getElem?_of_mem e3
                    refine List.mem_of_getElem? (i := t) ?_
                    rw [hget, if_neg (fun z => c2 (by rw [z, hqB] at ht; injection ht with ht; exact ht.symm)), if_neg (fun z => c1 (by rw [z, hq] at ht; injection ht with ht; exact ht.symm)), ← hFS, List.getElem?_map, ht, ← e2, haf4o x c1 c2]; rfl
              · intro hv
                obtain ⟨t, ht⟩ := List.getElem?_of_mem hv
                rw [hget] at ht
                by_cases e : t = iB
                · rw [if_pos e] at ht; injection ht with ht
                  exact List.mem_map.mpr ⟨q, (hm4 q).mpr hqL, by rw [haf4q, ht]⟩
                · rw [if_neg e] at ht
                  by_cases e2 : t = i
                  · rw [if_pos e2] at ht; injection ht with ht
                    exact List.mem_map.mpr ⟨qB, (hm4 qB).mpr hqLB, by rw [haf4B, ht]⟩
                  · rw [if_neg e2, ← hFS, List.getElem?_map] at ht
                    cases hLt : L[t]? with
                    | none => rw [hLt] at ht; cases ht
                    | some x =>
                      rw [hLt] at ht
                      have ht : af x = v := Option.some.inj ht
                      refine List.mem_map.mpr ⟨x, (hm4 x).mpr (List.mem_of_getElem? hLt), ?_⟩
                      rw [haf4o x (fun z => e2 (nodup_inj hnd (by rw [hLt, z]) hq)) (fun z => e (nodup_inj hnd (by rw [hLt, z]) hqB)), ht]
            have zB : fB ((st.2.2.2.2.2.set i (st.2.1, (af qB).2)).set iB (st.2.2.1, (af q).2)) = fB st.2.2.2.2.2 := by
              unfold fB
              rw [List.map_set, List.map_set]
              exact sum_sw (p := (af q).2.2.1) (q := (af qB).2.2.1) (by simp [hFi]) (by simp [hFiB])
            rw [← zB] at z0
            have zFr : gFr f f362 [b, b + 1, b + 2, b + 3, b + 4, b + 5, b + 6, b + 7, b + 8, b + 9, b + 10, b + 11, b + 12] := by
              refine gFr.call ?_ zF (by intro q hq; left; simp at hq ⊢; omega)
              refine gFr.call ?_ wF (by intro q hq; left; simp at hq ⊢; omega)
              refine gFr.call ?_ uF (by intro q hq; left; simp at hq ⊢; omega)
              exact gFr.call gFr.rf vF (by intro q hq; left; simp at hq ⊢; omega)
            refine lv_iconst (v := nI 0) S.1 S.2.1 d_Mdl_swap_52 (by decide) ?_
            exact gr_i S hr hlk hI (by rw [oSwap_s hix hixB, hgD, hgDB]; exact ⟨rfl, ⟨gt, gn, gl, b4v, gu, b6v, b7v, gi, gz, gy, ga, gd, _, _, ⟨z0, z1, z2, z3, z4, z5, z6, z7, z8, z9, z10, z11, z12⟩, ⟨ht1, ht2⟩, ⟨hn0, hn1⟩, hd0, zm, zFS⟩, zFr⟩) d_Mdl_swap_53
          · skip
            replace c351 : q = qB := (nI_eq (a := q) (b := qB) (by omega) (by omega)).mp c351
            have hij : i = iB := nodup_inj hnd hq (by rw [hqB, c351])
            have he : st.2.1 = st.2.2.1 := by
              have e1 := (idx_lt hix).2.2
              have e2 := (idx_lt hixB).2.2
              rw [← hij, e1] at e2; exact Option.some.inj e2
            have hv1 : (af q).1 = st.2.1 := by
              obtain ⟨x9, e1, e2, -⟩ := idx_get (af := af) (L := L) (nm := st.2.1) (k := i) (by rw [hnF]; exact hix)
              rw [hq] at e1; injection e1 with e1; rw [e1]; exact e2
            have hss := set_same hFi hv1 he
            refine lv_iconst (v := nI 0) S.1 S.2.1 d_Mdl_swap_28 (by decide) ?_
            exact gr_i S hr hlk hI (by rw [oSwap_s hix hixB, hgD, hgDB, ← hij, ← c351, hss]; exact ⟨rfl, h, gFr.rf⟩) d_Mdl_swap_29
        · skip
          replace c350 : ¬ 0 ≤ qB := fun z => c350 ((nI_leI (a := 0) (b := qB) (by omega) (by omega)).mpr z)
          exact absurd c350 (by omega)
