set_option maxHeartbeats 4000000 in
set_option maxRecDepth 100000 in
theorem c_Shelf_size (l : Launch) (P : gPar) (f : gM) {sh e1 c1 e2 c2 e3 c3 : Nat} {L SF SP : List Nat} {ow : gO} {af : Nat → AFile} (h : gSh P f ow sh L SF SP e1 c1 e2 c2 e3 c3 af) : gC l P y_Shelf_size b_Shelf_size 1 (some .int) 1 0 0 [.ref sh] f (gQi P (fun r f1 => r = nI L.length ∧ f1 = f)) := by
  refine gC_of (by decide) (Nat.le_of_ble_eq_true rfl) (fun p env s m args below meth c S hr hlk hnm H locs hI ls hl => ?_)
  have hl : lv_has ls 1 [(0, .ref sh)] := hl
  have hlL : L.length ≤ 48 := by have := h.2.2.2.2.2.2.2.2.1; omega
  have hl1 := h.2.1
  obtain ⟨m1, hal1⟩ := hl1.1
  have hcc : c1 < 2 ^ 20 := by have := h.2.2.2.2.1.1; omega
  refine lv_aload_n S.1 S.2.1 d_Shelf_size_0 rfl (lv_at hl 0 rfl) ?_
  refine gh_get S hI h.1 rfl i_Shelf 0 (by decide) wi_67 rfl d_Shelf_size_1 ?_
  refine gc_Vi S hI (c_AL_size l P f hl1) kv_AL_size wi_138 hal1 rfl rfl rfl hl.1 rfl (Nat.le_of_ble_eq_true rfl) ⟨Nat.le_of_ble_eq_true rfl, Nat.le_of_ble_eq_true rfl⟩ ⟨Nat.le_of_ble_eq_true rfl, Nat.le_of_ble_eq_true rfl⟩ d_Shelf_size_4 (fun r17 f18 H locs hp19 hI => ?_)
  obtain ⟨hp1, hp2⟩ := hp19
  subst hp1
  rw [hp2] at hI
  exact gr_i S hr hlk hI (⟨rfl, rfl⟩) d_Shelf_size_7
set_option maxHeartbeats 4000000 in
set_option maxRecDepth 100000 in
theorem c_Shelf_isFull (l : Launch) (P : gPar) (f : gM) {sh e1 c1 e2 c2 e3 c3 : Nat} {L SF SP : List Nat} {ow : gO} {af : Nat → AFile} (h : gSh P f ow sh L SF SP e1 c1 e2 c2 e3 c3 af) : gC l P y_Shelf_isFull b_Shelf_isFull 1 (some .boolean) 1 0 0 [.ref sh] f (gQi P (fun r f1 => r = (if 48 ≤ L.length then nI 1 else nI 0) ∧ f1 = f)) := by
  refine gC_of (by decide) (Nat.le_of_ble_eq_true rfl) (fun p env s m args below meth c S hr hlk hnm H locs hI ls hl => ?_)
  have hl : lv_has ls 1 [(0, .ref sh)] := hl
  have hlL : L.length ≤ 48 := by have := h.2.2.2.2.2.2.2.2.1; omega
  have hl1 := h.2.1
  obtain ⟨m1, hal1⟩ := hl1.1
  have hcc : c1 < 2 ^ 20 := by have := h.2.2.2.2.1.1; omega
  refine lv_aload_n S.1 S.2.1 d_Shelf_isFull_0 rfl (lv_at hl 0 rfl) ?_
  refine gh_get S hI h.1 rfl i_Shelf 0 (by decide) wi_67 rfl d_Shelf_isFull_1 ?_
  refine gc_Vi S hI (c_AL_size l P f hl1) kv_AL_size wi_138 hal1 rfl rfl rfl hl.1 rfl (Nat.le_of_ble_eq_true rfl) ⟨Nat.le_of_ble_eq_true rfl, Nat.le_of_ble_eq_true rfl⟩ ⟨Nat.le_of_ble_eq_true rfl, Nat.le_of_ble_eq_true rfl⟩ d_Shelf_isFull_4 (fun r20 f21 H locs hp22 hI => ?_)
  obtain ⟨hp1, hp2⟩ := hp22
  subst hp1
  rw [hp2] at hI
  refine lv_bipush (v := nI 48) S.1 S.2.1 d_Shelf_isFull_7 (by decide) ?_
  refine lv_icmp_lt (tgt := 16) S.1 S.2.1 d_Shelf_isFull_9 (by decide) (fun c23 => ?_) (fun c23 => ?_)
  · skip
    replace c23 : L.length < 48 := (nI_ltI (a := L.length) (b := 48) (by omega) (by omega)).mp c23
    refine lv_iconst (v := nI 0) S.1 S.2.1 d_Shelf_isFull_16 (by decide) ?_
    exact gr_z S hr hlk hI (by first | exact Or.inl rfl | exact Or.inr rfl) (⟨(if_neg (by omega)).symm, rfl⟩) d_Shelf_isFull_17
  · skip
    replace c23 : ¬ L.length < 48 := fun z => c23 ((nI_ltI (a := L.length) (b := 48) (by omega) (by omega)).mpr z)
    refine lv_iconst (v := nI 1) S.1 S.2.1 d_Shelf_isFull_12 (by decide) ?_
    refine lv_goto (tgt := 17) S.1 S.2.1 d_Shelf_isFull_13 (by decide) ?_
    exact gr_z S hr hlk hI (by first | exact Or.inl rfl | exact Or.inr rfl) (⟨(if_pos (by omega)).symm, rfl⟩) d_Shelf_isFull_17
set_option maxHeartbeats 4000000 in
set_option maxRecDepth 100000 in
theorem c_Shelf_allBytes (l : Launch) (P : gPar) (f : gM) {sh e1 c1 e2 c2 e3 c3 : Nat} {L SF SP : List Nat} {ow : gO} {af : Nat → AFile} (h : gSh P f ow sh L SF SP e1 c1 e2 c2 e3 c3 af) : gC l P y_Shelf_allBytes b_Shelf_allBytes 3 (some .int) 3 0 0 [.ref sh] f (gQi P (fun r f1 => r = nI (sumB af L) ∧ f1 = f)) := by
  refine gC_of (by decide) (Nat.le_of_ble_eq_true rfl) (fun p env s m args below meth c S hr hlk hnm H locs hI ls hl => ?_)
  have hl : lv_has ls 3 [(0, .ref sh)] := hl
  have hlL : L.length ≤ 48 := by have := h.2.2.2.2.2.2.2.2.1; omega
  have hl1 := h.2.1
  obtain ⟨m1, hal1⟩ := hl1.1
  have hcc : c1 < 2 ^ 20 := by have := h.2.2.2.2.1.1; omega
  refine lv_iconst (v := nI 0) S.1 S.2.1 d_Shelf_allBytes_0 (by decide) ?_
  refine lv_istore_n (lv' := [(1, .int (nI 0)), (0, .ref sh)]) S.1 S.2.1 d_Shelf_allBytes_1 rfl hl (by decide) rfl (fun ls hl => ?_)
  refine lv_iconst (v := nI 0) S.1 S.2.1 d_Shelf_allBytes_2 (by decide) ?_
  refine lv_istore_n (lv' := [(2, .int (nI 0)), (1, .int (nI 0)), (0, .ref sh)]) S.1 S.2.1 d_Shelf_allBytes_3 rfl hl (by decide) rfl (fun ls hl => ?_)
  have loop : ∀ (k i : Nat), i ≤ L.length → L.length - i < k → ∀ (H : Heap) (locs : List Loc), gB P f s H locs → ∀ ls : Array Slot, lv_has ls 3 [(0, .ref sh), (1, .int (nI (((L.take i).map (fun q => (af q).2.2.1)).sum))), (2, .int (nI i))] → W p l env (grm 3 0 0) s m args below meth c H locs 0 0 (MQ below (gQi P (fun r f1 => r = nI (sumB af L) ∧ f1 = f)) args s 0 0 (gA P)) (F0 m 4 ls []) := by
    intro k
    induction k with
    | zero => intro i h4 h5; exact absurd h5 (by omega)
    | succ k ih =>
      intro i h4 h5 H locs hI ls hl
      refine lv_iload_n S.1 S.2.1 d_Shelf_allBytes_4 rfl (lv_at hl 2 rfl) ?_
      refine lv_aload_n S.1 S.2.1 d_Shelf_allBytes_5 rfl (lv_at hl 0 rfl) ?_
      refine gh_get S hI h.1 rfl i_Shelf 0 (by decide) wi_67 rfl d_Shelf_allBytes_6 ?_
      refine gc_Vi S hI (c_AL_size l P f hl1) kv_AL_size wi_138 hal1 rfl rfl rfl hl.1 rfl (Nat.le_of_ble_eq_true rfl) ⟨Nat.le_of_ble_eq_true rfl, Nat.le_of_ble_eq_true rfl⟩ ⟨Nat.le_of_ble_eq_true rfl, Nat.le_of_ble_eq_true rfl⟩ d_Shelf_allBytes_9 (fun r24 f25 H locs hp26 hI => ?_)
      obtain ⟨hp1, hp2⟩ := hp26
      subst hp1
      rw [hp2] at hI
      refine lv_icmp_ge (tgt := 38) S.1 S.2.1 d_Shelf_allBytes_12 (by decide) (fun c27 => ?_) (fun c27 => ?_)
      · skip
        replace c27 : L.length ≤ i := (nI_leI (a := L.length) (b := i) (by omega) (by omega)).mp c27
        refine lv_iload_n S.1 S.2.1 d_Shelf_allBytes_38 rfl (lv_at hl 1 rfl) ?_
        exact gr_i S hr hlk hI (⟨by rw [List.take_of_length_le (by omega)]; rfl, rfl⟩) d_Shelf_allBytes_39
      · skip
        replace c27 : ¬ L.length ≤ i := fun z => c27 ((nI_leI (a := L.length) (b := i) (by omega) (by omega)).mpr z)
        refine lv_iload_n S.1 S.2.1 d_Shelf_allBytes_15 rfl (lv_at hl 1 rfl) ?_
        refine lv_aload_n S.1 S.2.1 d_Shelf_allBytes_16 rfl (lv_at hl 0 rfl) ?_
        refine gh_get S hI h.1 rfl i_Shelf 0 (by decide) wi_67 rfl d_Shelf_allBytes_17 ?_
        refine lv_iload_n S.1 S.2.1 d_Shelf_allBytes_20 rfl (lv_at hl 2 rfl) ?_
        refine gc_Vr S hI (c_AL_get l P f hl1 (i := i) (by omega) hcc) kv_AL_get wi_142 hal1 rfl rfl rfl hl.1 rfl (Nat.le_of_ble_eq_true rfl) ⟨Nat.le_of_ble_eq_true rfl, Nat.le_of_ble_eq_true rfl⟩ ⟨Nat.le_of_ble_eq_true rfl, Nat.le_of_ble_eq_true rfl⟩ d_Shelf_allBytes_21 (fun r28 f29 H locs hg0 hI => ?_)
        obtain ⟨hg1, hg2⟩ := hg0
        rw [hg2] at hI
        have hxL := List.mem_of_getElem? hg1
        obtain ⟨⟨nx, gx, psx, x0, x1, x2, x3, x4, x5, x6, x7⟩, xw⟩ := h.2.2.2.2.2.1 r28 hxL
        refine gh_cast (q := (R_File, F_File, 5)) S hI rfl x0 wi_156 d_Shelf_allBytes_24 ?_
        refine gc_Vi S hI (c_File_length l P f x0) kv_File_length wi_276 x0 rfl rfl rfl hl.1 rfl (Nat.le_of_ble_eq_true rfl) ⟨Nat.le_of_ble_eq_true rfl, Nat.le_of_ble_eq_true rfl⟩ ⟨Nat.le_of_ble_eq_true rfl, Nat.le_of_ble_eq_true rfl⟩ d_Shelf_allBytes_27 (fun r30 f31 H locs hp32 hI => ?_)
        obtain ⟨hp1, hp2⟩ := hp32
        subst hp1
        rw [hp2] at hI
        refine lv_iadd S.1 S.2.1 d_Shelf_allBytes_30 ?_
        refine lv_topi (fun v33 ev33 => ?_)
        replace ev33 : v33 = nI ((((L.take i).map (fun q => (af q).2.2.1)).sum) + ((af r28).2.2.1)) := ev33.trans (nI_add _ _)
        subst ev33
        refine lv_topi (fun v34 ev34 => ?_)
        replace ev34 : v34 = nI ((L.take (i + 1)).map (fun q => (af q).2.2.1)).sum := ev34.trans (by rw [sum_take_s (fun q => (af q).2.2.1) hg1])
        subst ev34
        refine lv_istore_n (lv' := [(1, .int (nI ((L.take (i + 1)).map (fun q => (af q).2.2.1)).sum)), (0, .ref sh), (2, .int (nI i))]) S.1 S.2.1 d_Shelf_allBytes_31 rfl hl (by decide) rfl (fun ls hl => ?_)
        refine lv_iinc (v := nI (i + 1)) (lv' := [(2, .int (nI (i + 1))), (1, .int (nI ((L.take (i + 1)).map (fun q => (af q).2.2.1)).sum)), (0, .ref sh)]) S.1 S.2.1 d_Shelf_allBytes_32 hl (k := 2) rfl (nI_add _ _) (by decide) rfl (fun ls hl => ?_)
        refine lv_goto (tgt := 4) S.1 S.2.1 d_Shelf_allBytes_35 (by decide) ?_
        exact ih (i + 1) (by omega) (by omega) _ _ hI _ (lv_sub hl [2, 1, 0] rfl)
  exact loop (L.length + 1) 0 (by omega) (by omega) _ _ hI _ (lv_sub hl [2, 1, 0] rfl)
set_option maxHeartbeats 4000000 in
set_option maxRecDepth 100000 in
theorem c_Shelf_laidStripes (l : Launch) (P : gPar) (f : gM) {sh e1 c1 e2 c2 e3 c3 : Nat} {L SF SP : List Nat} {ow : gO} {af : Nat → AFile} (h : gSh P f ow sh L SF SP e1 c1 e2 c2 e3 c3 af) : gC l P y_Shelf_laidStripes b_Shelf_laidStripes 3 (some .int) 3 0 0 [.ref sh] f (gQi P (fun r f1 => r = nI (sumC af L) ∧ f1 = f)) := by
  refine gC_of (by decide) (Nat.le_of_ble_eq_true rfl) (fun p env s m args below meth c S hr hlk hnm H locs hI ls hl => ?_)
  have hl : lv_has ls 3 [(0, .ref sh)] := hl
  have hlL : L.length ≤ 48 := by have := h.2.2.2.2.2.2.2.2.1; omega
  have hl1 := h.2.1
  obtain ⟨m1, hal1⟩ := hl1.1
  have hcc : c1 < 2 ^ 20 := by have := h.2.2.2.2.1.1; omega
  refine lv_iconst (v := nI 0) S.1 S.2.1 d_Shelf_laidStripes_0 (by decide) ?_
  refine lv_istore_n (lv' := [(1, .int (nI 0)), (0, .ref sh)]) S.1 S.2.1 d_Shelf_laidStripes_1 rfl hl (by decide) rfl (fun ls hl => ?_)
  refine lv_iconst (v := nI 0) S.1 S.2.1 d_Shelf_laidStripes_2 (by decide) ?_
  refine lv_istore_n (lv' := [(2, .int (nI 0)), (1, .int (nI 0)), (0, .ref sh)]) S.1 S.2.1 d_Shelf_laidStripes_3 rfl hl (by decide) rfl (fun ls hl => ?_)
  have loop : ∀ (k i : Nat), i ≤ L.length → L.length - i < k → ∀ (H : Heap) (locs : List Loc), gB P f s H locs → ∀ ls : Array Slot, lv_has ls 3 [(0, .ref sh), (1, .int (nI (((L.take i).map (fun q => cntL (af q).2.2.2.1 19)).sum))), (2, .int (nI i))] → W p l env (grm 3 0 0) s m args below meth c H locs 0 0 (MQ below (gQi P (fun r f1 => r = nI (sumC af L) ∧ f1 = f)) args s 0 0 (gA P)) (F0 m 4 ls []) := by
    intro k
    induction k with
    | zero => intro i h4 h5; exact absurd h5 (by omega)
    | succ k ih =>
      intro i h4 h5 H locs hI ls hl
      refine lv_iload_n S.1 S.2.1 d_Shelf_laidStripes_4 rfl (lv_at hl 2 rfl) ?_
      refine lv_aload_n S.1 S.2.1 d_Shelf_laidStripes_5 rfl (lv_at hl 0 rfl) ?_
      refine gh_get S hI h.1 rfl i_Shelf 0 (by decide) wi_67 rfl d_Shelf_laidStripes_6 ?_
      refine gc_Vi S hI (c_AL_size l P f hl1) kv_AL_size wi_138 hal1 rfl rfl rfl hl.1 rfl (Nat.le_of_ble_eq_true rfl) ⟨Nat.le_of_ble_eq_true rfl, Nat.le_of_ble_eq_true rfl⟩ ⟨Nat.le_of_ble_eq_true rfl, Nat.le_of_ble_eq_true rfl⟩ d_Shelf_laidStripes_9 (fun r35 f36 H locs hp37 hI => ?_)
      obtain ⟨hp1, hp2⟩ := hp37
      subst hp1
      rw [hp2] at hI
      refine lv_icmp_ge (tgt := 38) S.1 S.2.1 d_Shelf_laidStripes_12 (by decide) (fun c38 => ?_) (fun c38 => ?_)
      · skip
        replace c38 : L.length ≤ i := (nI_leI (a := L.length) (b := i) (by omega) (by omega)).mp c38
        refine lv_iload_n S.1 S.2.1 d_Shelf_laidStripes_38 rfl (lv_at hl 1 rfl) ?_
        exact gr_i S hr hlk hI (⟨by rw [List.take_of_length_le (by omega)]; rfl, rfl⟩) d_Shelf_laidStripes_39
      · skip
        replace c38 : ¬ L.length ≤ i := fun z => c38 ((nI_leI (a := L.length) (b := i) (by omega) (by omega)).mpr z)
        refine lv_iload_n S.1 S.2.1 d_Shelf_laidStripes_15 rfl (lv_at hl 1 rfl) ?_
        refine lv_aload_n S.1 S.2.1 d_Shelf_laidStripes_16 rfl (lv_at hl 0 rfl) ?_
        refine gh_get S hI h.1 rfl i_Shelf 0 (by decide) wi_67 rfl d_Shelf_laidStripes_17 ?_
        refine lv_iload_n S.1 S.2.1 d_Shelf_laidStripes_20 rfl (lv_at hl 2 rfl) ?_
        refine gc_Vr S hI (c_AL_get l P f hl1 (i := i) (by omega) hcc) kv_AL_get wi_142 hal1 rfl rfl rfl hl.1 rfl (Nat.le_of_ble_eq_true rfl) ⟨Nat.le_of_ble_eq_true rfl, Nat.le_of_ble_eq_true rfl⟩ ⟨Nat.le_of_ble_eq_true rfl, Nat.le_of_ble_eq_true rfl⟩ d_Shelf_laidStripes_21 (fun r39 f40 H locs hg0 hI => ?_)
        obtain ⟨hg1, hg2⟩ := hg0
        rw [hg2] at hI
        have hxL := List.mem_of_getElem? hg1
        obtain ⟨⟨nx, gx, psx, x0, x1, x2, x3, x4, x5, x6, x7⟩, xw⟩ := h.2.2.2.2.2.1 r39 hxL
        refine gh_cast (q := (R_File, F_File, 5)) S hI rfl x0 wi_156 d_Shelf_laidStripes_24 ?_
        refine gc_Vi S hI (c_File_laidStripes l P f x0 x3 x7) kv_File_laidStripes wi_427 x0 rfl rfl rfl hl.1 rfl (Nat.le_of_ble_eq_true rfl) ⟨Nat.le_of_ble_eq_true rfl, Nat.le_of_ble_eq_true rfl⟩ ⟨Nat.le_of_ble_eq_true rfl, Nat.le_of_ble_eq_true rfl⟩ d_Shelf_laidStripes_27 (fun r41 f42 H locs hp43 hI => ?_)
        obtain ⟨hp1, hp2⟩ := hp43
        subst hp1
        rw [hp2] at hI
        refine lv_iadd S.1 S.2.1 d_Shelf_laidStripes_30 ?_
        refine lv_topi (fun v44 ev44 => ?_)
        replace ev44 : v44 = nI ((((L.take i).map (fun q => cntL (af q).2.2.2.1 19)).sum) + (cntL (af r39).2.2.2.1 19)) := ev44.trans (nI_add _ _)
        subst ev44
        refine lv_topi (fun v45 ev45 => ?_)
        replace ev45 : v45 = nI ((L.take (i + 1)).map (fun q => cntL (af q).2.2.2.1 19)).sum := ev45.trans (by rw [sum_take_s (fun q => cntL (af q).2.2.2.1 19) hg1])
        subst ev45
        refine lv_istore_n (lv' := [(1, .int (nI ((L.take (i + 1)).map (fun q => cntL (af q).2.2.2.1 19)).sum)), (0, .ref sh), (2, .int (nI i))]) S.1 S.2.1 d_Shelf_laidStripes_31 rfl hl (by decide) rfl (fun ls hl => ?_)
        refine lv_iinc (v := nI (i + 1)) (lv' := [(2, .int (nI (i + 1))), (1, .int (nI ((L.take (i + 1)).map (fun q => cntL (af q).2.2.2.1 19)).sum)), (0, .ref sh)]) S.1 S.2.1 d_Shelf_laidStripes_32 hl (k := 2) rfl (nI_add _ _) (by decide) rfl (fun ls hl => ?_)
        refine lv_goto (tgt := 4) S.1 S.2.1 d_Shelf_laidStripes_35 (by decide) ?_
        exact ih (i + 1) (by omega) (by omega) _ _ hI _ (lv_sub hl [2, 1, 0] rfl)
  exact loop (L.length + 1) 0 (by omega) (by omega) _ _ hI _ (lv_sub hl [2, 1, 0] rfl)
set_option maxHeartbeats 4000000 in
set_option maxRecDepth 100000 in
theorem c_Shelf_hasRoom (l : Launch) (P : gPar) (f : gM) {sh e1 c1 e2 c2 e3 c3 : Nat} {L SF SP : List Nat} {ow : gO} {af : Nat → AFile} {bf at_ : Nat} (h : gSh P f ow sh L SF SP e1 c1 e2 c2 e3 c3 af) (hb : bf ≤ sumB af L) (ha : at_ < 2 ^ 20) : gC l P y_Shelf_hasRoom b_Shelf_hasRoom 3 (some .boolean) 4 0 0 [.ref sh, .int (nI bf), .int (nI at_)] f (gQi P (fun r f1 => r = (if at_ ≤ 8192 ∧ sumB af L - bf + at_ ≤ 32768 then nI 1 else nI 0) ∧ f1 = f)) := by
  refine gC_of (by decide) (Nat.le_of_ble_eq_true rfl) (fun p env s m args below meth c S hr hlk hnm H locs hI ls hl => ?_)
  have hl : lv_has ls 3 [(0, .ref sh), (1, .int (nI bf)), (2, .int (nI at_))] := hl
  have hlL : L.length ≤ 48 := by have := h.2.2.2.2.2.2.2.2.1; omega
  have hl1 := h.2.1
  obtain ⟨m1, hal1⟩ := hl1.1
  have hcc : c1 < 2 ^ 20 := by have := h.2.2.2.2.1.1; omega
  have hsb : sumB af L ≤ 8192 * L.length := sum_le _ 8192 (fun q hq => (h.2.2.2.2.2.1 q hq).2.1)
  refine lv_iload_n S.1 S.2.1 d_Shelf_hasRoom_0 rfl (lv_at hl 2 rfl) ?_
  refine lv_sipush (v := nI 8192) S.1 S.2.1 d_Shelf_hasRoom_1 (by decide) ?_
  refine lv_icmp_gt (tgt := 24) S.1 S.2.1 d_Shelf_hasRoom_4 (by decide) (fun c46 => ?_) (fun c46 => ?_)
  · skip
    replace c46 : 8192 < at_ := (nI_ltI (a := 8192) (b := at_) (by omega) (by omega)).mp c46
    refine lv_iconst (v := nI 0) S.1 S.2.1 d_Shelf_hasRoom_24 (by decide) ?_
    exact gr_z S hr hlk hI (by first | exact Or.inl rfl | exact Or.inr rfl) (⟨(if_neg (by omega)).symm, rfl⟩) d_Shelf_hasRoom_25
  · skip
    replace c46 : ¬ 8192 < at_ := fun z => c46 ((nI_ltI (a := 8192) (b := at_) (by omega) (by omega)).mpr z)
    refine lv_aload_n S.1 S.2.1 d_Shelf_hasRoom_7 rfl (lv_at hl 0 rfl) ?_
    refine gc_Vi S hI (c_Shelf_allBytes l P f h) kv_Shelf_allBytes wi_272 h.1 rfl rfl rfl hl.1 rfl (Nat.le_of_ble_eq_true rfl) ⟨Nat.le_of_ble_eq_true rfl, Nat.le_of_ble_eq_true rfl⟩ ⟨Nat.le_of_ble_eq_true rfl, Nat.le_of_ble_eq_true rfl⟩ d_Shelf_hasRoom_8 (fun r47 f48 H locs hp49 hI => ?_)
    obtain ⟨hp1, hp2⟩ := hp49
    subst hp1
    rw [hp2] at hI
    refine lv_iload_n S.1 S.2.1 d_Shelf_hasRoom_11 rfl (lv_at hl 1 rfl) ?_
    refine lv_isub S.1 S.2.1 d_Shelf_hasRoom_12 ?_
    refine lv_topi (fun v50 ev50 => ?_)
    replace ev50 : v50 = nI ((sumB af L) - bf) := ev50.trans (pk_sub (by omega))
    subst ev50
    refine lv_iload_n S.1 S.2.1 d_Shelf_hasRoom_13 rfl (lv_at hl 2 rfl) ?_
    refine lv_iadd S.1 S.2.1 d_Shelf_hasRoom_14 ?_
    refine lv_topi (fun v51 ev51 => ?_)
    replace ev51 : v51 = nI (((sumB af L) - bf) + at_) := ev51.trans (nI_add _ _)
    subst ev51
    refine lv_ldc (v := nI 32768) S.1 S.2.1 S.2.2.2.1 (S.2.2.2.2 _ wi_277) d_Shelf_hasRoom_15 ?_
    refine lv_icmp_gt (tgt := 24) S.1 S.2.1 d_Shelf_hasRoom_17 (by decide) (fun c52 => ?_) (fun c52 => ?_)
    · skip
      replace c52 : 32768 < (((sumB af L) - bf) + at_) := (nI_ltI (a := 32768) (b := ((sumB af L) - bf) + at_) (by omega) (by omega)).mp c52
      refine lv_iconst (v := nI 0) S.1 S.2.1 d_Shelf_hasRoom_24 (by decide) ?_
      exact gr_z S hr hlk hI (by first | exact Or.inl rfl | exact Or.inr rfl) (⟨(if_neg (by omega)).symm, rfl⟩) d_Shelf_hasRoom_25
    · skip
      replace c52 : ¬ 32768 < (((sumB af L) - bf) + at_) := fun z => c52 ((nI_ltI (a := 32768) (b := ((sumB af L) - bf) + at_) (by omega) (by omega)).mpr z)
      refine lv_iconst (v := nI 1) S.1 S.2.1 d_Shelf_hasRoom_20 (by decide) ?_
      refine lv_goto (tgt := 25) S.1 S.2.1 d_Shelf_hasRoom_21 (by decide) ?_
      exact gr_z S hr hlk hI (by first | exact Or.inl rfl | exact Or.inr rfl) (⟨(if_pos ⟨by omega, by omega⟩).symm, rfl⟩) d_Shelf_hasRoom_25
def fAt (L : List Nat) (k : Int32) : Option Nat := if ¬ k < 0 ∧ k < nI L.length then L[k.toNatClampNeg]? else none
theorem fAt_nI {L : List Nat} {k : Nat} (hk : k < 2 ^ 31) (hL : L.length < 2 ^ 31) : fAt L (nI k) = L[k]? := by
  unfold fAt
  rw [nI_clamp hk]
  by_cases h : k < L.length
  · rw [if_pos ⟨nI_pos hk, nI_lt h hL⟩]
  · rw [if_neg (fun z => h ((nI_ltI hk hL).mp z.2)), List.getElem?_eq_none (by omega)]
set_option maxHeartbeats 4000000 in
set_option maxRecDepth 100000 in
theorem c_Shelf_fileAt (l : Launch) (P : gPar) (f : gM) {sh e1 c1 e2 c2 e3 c3 : Nat} {L SF SP : List Nat} {ow : gO} {af : Nat → AFile} {k : Int32} (h : gSh P f ow sh L SF SP e1 c1 e2 c2 e3 c3 af) : gC l P y_Shelf_fileAt b_Shelf_fileAt 2 (some (.object "StripeFiles$StripedFile")) 3 0 0 [.ref sh, .int k] f (gQq P (fun r f1 => r = fAt L k ∧ f1 = f)) := by
  refine gC_of (by decide) (Nat.le_of_ble_eq_true rfl) (fun p env s m args below meth c S hr hlk hnm H locs hI ls hl => ?_)
  have hl : lv_has ls 2 [(0, .ref sh), (1, .int k)] := hl
  have hlL : L.length ≤ 48 := by have := h.2.2.2.2.2.2.2.2.1; omega
  have hl1 := h.2.1
  obtain ⟨m1, hal1⟩ := hl1.1
  have hcc : c1 < 2 ^ 20 := by have := h.2.2.2.2.1.1; omega
  refine lv_iload_n S.1 S.2.1 d_Shelf_fileAt_0 rfl (lv_at hl 1 rfl) ?_
  refine lv_if_lt (tgt := 29) S.1 S.2.1 d_Shelf_fileAt_1 (by decide) (fun c53 => ?_) (fun c53 => ?_)
  · skip
    refine lv_null S.1 S.2.1 d_Shelf_fileAt_29 ?_
    exact gr_q (r := none) S hr (Or.inl ⟨_, rfl⟩) hlk hI (⟨by unfold fAt; rw [if_neg (fun z => z.1 c53)], rfl⟩) d_Shelf_fileAt_30
  · skip
    obtain ⟨i, hi31, rfl⟩ := nI_of c53
    refine lv_iload_n S.1 S.2.1 d_Shelf_fileAt_4 rfl (lv_at hl 1 rfl) ?_
    refine lv_aload_n S.1 S.2.1 d_Shelf_fileAt_5 rfl (lv_at hl 0 rfl) ?_
    refine gh_get S hI h.1 rfl i_Shelf 0 (by decide) wi_67 rfl d_Shelf_fileAt_6 ?_
    refine gc_Vi S hI (c_AL_size l P f hl1) kv_AL_size wi_138 hal1 rfl rfl rfl hl.1 rfl (Nat.le_of_ble_eq_true rfl) ⟨Nat.le_of_ble_eq_true rfl, Nat.le_of_ble_eq_true rfl⟩ ⟨Nat.le_of_ble_eq_true rfl, Nat.le_of_ble_eq_true rfl⟩ d_Shelf_fileAt_9 (fun r54 f55 H locs hp56 hI => ?_)
    obtain ⟨hp1, hp2⟩ := hp56
    subst hp1
    rw [hp2] at hI
    refine lv_icmp_ge (tgt := 29) S.1 S.2.1 d_Shelf_fileAt_12 (by decide) (fun c57 => ?_) (fun c57 => ?_)
    · skip
      replace c57 : L.length ≤ i := (nI_leI (a := L.length) (b := i) (by omega) (by omega)).mp c57
      refine lv_null S.1 S.2.1 d_Shelf_fileAt_29 ?_
      exact gr_q (r := none) S hr (Or.inl ⟨_, rfl⟩) hlk hI (⟨by rw [fAt_nI hi31 (by omega), List.getElem?_eq_none (by omega)], rfl⟩) d_Shelf_fileAt_30
    · skip
      replace c57 : ¬ L.length ≤ i := fun z => c57 ((nI_leI (a := L.length) (b := i) (by omega) (by omega)).mpr z)
      refine lv_aload_n S.1 S.2.1 d_Shelf_fileAt_15 rfl (lv_at hl 0 rfl) ?_
      refine gh_get S hI h.1 rfl i_Shelf 0 (by decide) wi_67 rfl d_Shelf_fileAt_16 ?_
      refine lv_iload_n S.1 S.2.1 d_Shelf_fileAt_19 rfl (lv_at hl 1 rfl) ?_
      refine gc_Vr S hI (c_AL_get l P f hl1 (i := i) (by omega) hcc) kv_AL_get wi_142 hal1 rfl rfl rfl hl.1 rfl (Nat.le_of_ble_eq_true rfl) ⟨Nat.le_of_ble_eq_true rfl, Nat.le_of_ble_eq_true rfl⟩ ⟨Nat.le_of_ble_eq_true rfl, Nat.le_of_ble_eq_true rfl⟩ d_Shelf_fileAt_20 (fun r58 f59 H locs hg0 hI => ?_)
      obtain ⟨hg1, hg2⟩ := hg0
      rw [hg2] at hI
      have hxL := List.mem_of_getElem? hg1
      obtain ⟨⟨nx, gx, psx, x0, x1, x2, x3, x4, x5, x6, x7⟩, xw⟩ := h.2.2.2.2.2.1 r58 hxL
      refine gh_cast (q := (R_File, F_File, 5)) S hI rfl x0 wi_156 d_Shelf_fileAt_23 ?_
      refine lv_goto (tgt := 30) S.1 S.2.1 d_Shelf_fileAt_26 (by decide) ?_
      exact gr_q (r := some r58) S hr (Or.inl ⟨_, rfl⟩) hlk hI (⟨by rw [fAt_nI hi31 (by omega)]; exact hg1.symm, rfl⟩) d_Shelf_fileAt_30
set_option maxHeartbeats 4000000 in
set_option maxRecDepth 100000 in
theorem c_Shelf_placeOf (l : Launch) (P : gPar) (f : gM) {sh e1 c1 e2 c2 e3 c3 : Nat} {L SF SP : List Nat} {ow : gO} {af : Nat → AFile} {a n cap : Nat} {g : Nat → Int32} (h : gSh P f ow sh L SF SP e1 c1 e2 c2 e3 c3 af) (ha : f a = some (.inr (1, [.ref (a + 1), .int (nI n)]))) (hb : f (a + 1) = some (.inl (P.2.1 0, cap, .inl g))) (hn : n ≤ cap) (hcp : cap < 2 ^ 20) : gC l P y_Shelf_placeOf b_Shelf_placeOf 3 (some .int) 3 0 0 [.ref sh, .ref a] f (gQi P (fun r f1 => r = nI (plc (nms af L) (nmL n g)) ∧ f1 = f)) := by
  refine gC_of (by decide) (Nat.le_of_ble_eq_true rfl) (fun p env s m args below meth c S hr hlk hnm H locs hI ls hl => ?_)
  have hl : lv_has ls 3 [(0, .ref sh), (1, .ref a)] := hl
  have hlL : L.length ≤ 48 := by have := h.2.2.2.2.2.2.2.2.1; omega
  have hl1 := h.2.1
  obtain ⟨m1, hal1⟩ := hl1.1
  have hcc : c1 < 2 ^ 20 := by have := h.2.2.2.2.1.1; omega
  refine lv_iconst (v := nI 0) S.1 S.2.1 d_Shelf_placeOf_0 (by decide) ?_
  refine lv_istore_n (lv' := [(2, .int (nI 0)), (0, .ref sh), (1, .ref a)]) S.1 S.2.1 d_Shelf_placeOf_1 rfl hl (by decide) rfl (fun ls hl => ?_)
  have loop : ∀ (k i : Nat), i ≤ L.length → L.length - i < k → (∀ j x, j < i → (nms af L)[j]? = some x → nlt x (nmL n g)) → ∀ (H : Heap) (locs : List Loc), gB P f s H locs → ∀ ls : Array Slot, lv_has ls 3 [(0, .ref sh), (1, .ref a), (2, .int (nI i))] → W p l env (grm 3 0 0) s m args below meth c H locs 0 0 (MQ below (gQi P (fun r f1 => r = nI (plc (nms af L) (nmL n g)) ∧ f1 = f)) args s 0 0 (gA P)) (F0 m 2 ls []) := by
    intro k
    induction k with
    | zero => intro i h4 h5; exact absurd h5 (by omega)
    | succ k ih =>
      intro i h4 h5 hlo H locs hI ls hl
      refine lv_iload_n S.1 S.2.1 d_Shelf_placeOf_2 rfl (lv_at hl 2 rfl) ?_
      refine lv_aload_n S.1 S.2.1 d_Shelf_placeOf_3 rfl (lv_at hl 0 rfl) ?_
      refine gh_get S hI h.1 rfl i_Shelf 0 (by decide) wi_67 rfl d_Shelf_placeOf_4 ?_
      refine gc_Vi S hI (c_AL_size l P f hl1) kv_AL_size wi_138 hal1 rfl rfl rfl hl.1 rfl (Nat.le_of_ble_eq_true rfl) ⟨Nat.le_of_ble_eq_true rfl, Nat.le_of_ble_eq_true rfl⟩ ⟨Nat.le_of_ble_eq_true rfl, Nat.le_of_ble_eq_true rfl⟩ d_Shelf_placeOf_7 (fun r60 f61 H locs hp62 hI => ?_)
      obtain ⟨hp1, hp2⟩ := hp62
      subst hp1
      rw [hp2] at hI
      refine lv_icmp_ge (tgt := 40) S.1 S.2.1 d_Shelf_placeOf_10 (by decide) (fun c63 => ?_) (fun c63 => ?_)
      · skip
        replace c63 : L.length ≤ i := (nI_leI (a := L.length) (b := i) (by omega) (by omega)).mp c63
        refine lv_iload_n S.1 S.2.1 d_Shelf_placeOf_40 rfl (lv_at hl 2 rfl) ?_
        exact gr_i S hr hlk hI (⟨by rw [plc_eq (k := i) (by simp [nms]; omega) hlo (fun x hx => by rw [List.getElem?_eq_none (by simp [nms]; omega)] at hx; cases hx)], rfl⟩) d_Shelf_placeOf_41
      · skip
        replace c63 : ¬ L.length ≤ i := fun z => c63 ((nI_leI (a := L.length) (b := i) (by omega) (by omega)).mpr z)
        refine lv_aload_n S.1 S.2.1 d_Shelf_placeOf_13 rfl (lv_at hl 0 rfl) ?_
        refine gh_get S hI h.1 rfl i_Shelf 0 (by decide) wi_67 rfl d_Shelf_placeOf_14 ?_
        refine lv_iload_n S.1 S.2.1 d_Shelf_placeOf_17 rfl (lv_at hl 2 rfl) ?_
        refine gc_Vr S hI (c_AL_get l P f hl1 (i := i) (by omega) hcc) kv_AL_get wi_142 hal1 rfl rfl rfl hl.1 rfl (Nat.le_of_ble_eq_true rfl) ⟨Nat.le_of_ble_eq_true rfl, Nat.le_of_ble_eq_true rfl⟩ ⟨Nat.le_of_ble_eq_true rfl, Nat.le_of_ble_eq_true rfl⟩ d_Shelf_placeOf_18 (fun r64 f65 H locs hg0 hI => ?_)
        obtain ⟨hg1, hg2⟩ := hg0
        rw [hg2] at hI
        have hxL := List.mem_of_getElem? hg1
        obtain ⟨⟨nx, gx, psx, x0, x1, x2, x3, x4, x5, x6, x7⟩, xw⟩ := h.2.2.2.2.2.1 r64 hxL
        refine gh_cast (q := (R_File, F_File, 5)) S hI rfl x0 wi_156 d_Shelf_placeOf_21 ?_
        have hnm : (nms af L)[i]? = some (af r64).1 := by rw [nms_get, hg1]; rfl
        refine gc_Vr S hI (c_File_title l P f x0) kv_File_title wi_157 x0 rfl rfl rfl hl.1 rfl (Nat.le_of_ble_eq_true rfl) ⟨Nat.le_of_ble_eq_true rfl, Nat.le_of_ble_eq_true rfl⟩ ⟨Nat.le_of_ble_eq_true rfl, Nat.le_of_ble_eq_true rfl⟩ d_Shelf_placeOf_24 (fun r66 f67 H locs hp68 hI => ?_)
        obtain ⟨ht1, ht2⟩ := hp68
        subst ht1
        rw [ht2] at hI
        refine lv_aload_n S.1 S.2.1 d_Shelf_placeOf_27 rfl (lv_at hl 1 rfl) ?_
        refine gc_Vi S hI (c_Row_compareWith l P f x1 x2 ha hb (by omega) hn (by omega) hcp) kv_Row_compareWith wi_161 x1 rfl rfl rfl hl.1 rfl (Nat.le_of_ble_eq_true rfl) ⟨Nat.le_of_ble_eq_true rfl, Nat.le_of_ble_eq_true rfl⟩ ⟨Nat.le_of_ble_eq_true rfl, Nat.le_of_ble_eq_true rfl⟩ d_Shelf_placeOf_28 (fun r69 f70 H locs hp71 hI => ?_)
        obtain ⟨hcm, hc2⟩ := hp71
        rw [hc2] at hI
        rw [x6] at hcm
        refine lv_if_ge (tgt := 40) S.1 S.2.1 d_Shelf_placeOf_31 (by decide) (fun c72 => ?_) (fun c72 => ?_)
        · skip
          refine lv_iload_n S.1 S.2.1 d_Shelf_placeOf_40 rfl (lv_at hl 2 rfl) ?_
          exact gr_i S hr hlk hI (⟨by rw [plc_eq (k := i) (by simp [nms]; omega) hlo (fun x hx => by rw [hnm] at hx; cases hx; exact fun z => absurd (hcm.lt.mpr z) (Int32.not_lt.mpr c72))], rfl⟩) d_Shelf_placeOf_41
        · skip
          refine lv_iinc (v := nI (i + 1)) (lv' := [(2, .int (nI (i + 1))), (0, .ref sh), (1, .ref a)]) S.1 S.2.1 d_Shelf_placeOf_34 hl (k := 2) rfl (nI_add _ _) (by decide) rfl (fun ls hl => ?_)
          refine lv_goto (tgt := 2) S.1 S.2.1 d_Shelf_placeOf_37 (by decide) ?_
          exact ih (i + 1) (by omega) (by omega) (fun j x hj hx => (Nat.lt_succ_iff_lt_or_eq.mp hj).elim (fun q => hlo j x q hx) (fun q => by rw [q, hnm] at hx; cases hx; exact hcm.lt.mp (Int32.not_le.mp c72))) _ _ hI _ (lv_sub hl [1, 2, 0] rfl)
  exact loop (L.length + 1) 0 (by omega) (by omega) (fun j x hj => absurd hj (by omega)) _ _ hI _ (lv_sub hl [1, 2, 0] rfl)
set_option maxHeartbeats 4000000 in
set_option maxRecDepth 100000 in
theorem c_Shelf_isAt (l : Launch) (P : gPar) (f : gM) {sh e1 c1 e2 c2 e3 c3 : Nat} {L SF SP : List Nat} {ow : gO} {af : Nat → AFile} {a n cap : Nat} {g : Nat → Int32} {i : Nat} (h : gSh P f ow sh L SF SP e1 c1 e2 c2 e3 c3 af) (ha : f a = some (.inr (1, [.ref (a + 1), .int (nI n)]))) (hb : f (a + 1) = some (.inl (P.2.1 0, cap, .inl g))) (hn : n ≤ cap) (hcp : cap < 2 ^ 20) (hi31 : i < 2 ^ 31) : gC l P y_Shelf_isAt b_Shelf_isAt 3 (some .boolean) 3 0 0 [.ref sh, .int (nI i), .ref a] f (gQi P (fun r f1 => r = (if (nms af L)[i]? = some (nmL n g) then nI 1 else nI 0) ∧ f1 = f)) := by
  refine gC_of (by decide) (Nat.le_of_ble_eq_true rfl) (fun p env s m args below meth c S hr hlk hnm H locs hI ls hl => ?_)
  have hl : lv_has ls 3 [(0, .ref sh), (1, .int (nI i)), (2, .ref a)] := hl
  have hlL : L.length ≤ 48 := by have := h.2.2.2.2.2.2.2.2.1; omega
  have hl1 := h.2.1
  obtain ⟨m1, hal1⟩ := hl1.1
  have hcc : c1 < 2 ^ 20 := by have := h.2.2.2.2.1.1; omega
  refine lv_iload_n S.1 S.2.1 d_Shelf_isAt_0 rfl (lv_at hl 1 rfl) ?_
  refine lv_aload_n S.1 S.2.1 d_Shelf_isAt_1 rfl (lv_at hl 0 rfl) ?_
  refine gh_get S hI h.1 rfl i_Shelf 0 (by decide) wi_67 rfl d_Shelf_isAt_2 ?_
  refine gc_Vi S hI (c_AL_size l P f hl1) kv_AL_size wi_138 hal1 rfl rfl rfl hl.1 rfl (Nat.le_of_ble_eq_true rfl) ⟨Nat.le_of_ble_eq_true rfl, Nat.le_of_ble_eq_true rfl⟩ ⟨Nat.le_of_ble_eq_true rfl, Nat.le_of_ble_eq_true rfl⟩ d_Shelf_isAt_5 (fun r73 f74 H locs hp75 hI => ?_)
  obtain ⟨hp1, hp2⟩ := hp75
  subst hp1
  rw [hp2] at hI
  refine lv_icmp_ge (tgt := 36) S.1 S.2.1 d_Shelf_isAt_8 (by decide) (fun c76 => ?_) (fun c76 => ?_)
  · skip
    replace c76 : L.length ≤ i := (nI_leI (a := L.length) (b := i) (by omega) (by omega)).mp c76
    refine lv_iconst (v := nI 0) S.1 S.2.1 d_Shelf_isAt_36 (by decide) ?_
    exact gr_z S hr hlk hI (by first | exact Or.inl rfl | exact Or.inr rfl) (⟨by rw [if_neg (fun z => by rw [List.getElem?_eq_none (by simp [nms]; omega)] at z; cases z)], rfl⟩) d_Shelf_isAt_37
  · skip
    replace c76 : ¬ L.length ≤ i := fun z => c76 ((nI_leI (a := L.length) (b := i) (by omega) (by omega)).mpr z)
    refine lv_aload_n S.1 S.2.1 d_Shelf_isAt_11 rfl (lv_at hl 0 rfl) ?_
    refine gh_get S hI h.1 rfl i_Shelf 0 (by decide) wi_67 rfl d_Shelf_isAt_12 ?_
    refine lv_iload_n S.1 S.2.1 d_Shelf_isAt_15 rfl (lv_at hl 1 rfl) ?_
    refine gc_Vr S hI (c_AL_get l P f hl1 (i := i) (by omega) hcc) kv_AL_get wi_142 hal1 rfl rfl rfl hl.1 rfl (Nat.le_of_ble_eq_true rfl) ⟨Nat.le_of_ble_eq_true rfl, Nat.le_of_ble_eq_true rfl⟩ ⟨Nat.le_of_ble_eq_true rfl, Nat.le_of_ble_eq_true rfl⟩ d_Shelf_isAt_16 (fun r77 f78 H locs hg0 hI => ?_)
    obtain ⟨hg1, hg2⟩ := hg0
    rw [hg2] at hI
    have hxL := List.mem_of_getElem? hg1
    obtain ⟨⟨nx, gx, psx, x0, x1, x2, x3, x4, x5, x6, x7⟩, xw⟩ := h.2.2.2.2.2.1 r77 hxL
    refine gh_cast (q := (R_File, F_File, 5)) S hI rfl x0 wi_156 d_Shelf_isAt_19 ?_
    have hnm : (nms af L)[i]? = some (af r77).1 := by rw [nms_get, hg1]; rfl
    refine gc_Vr S hI (c_File_title l P f x0) kv_File_title wi_157 x0 rfl rfl rfl hl.1 rfl (Nat.le_of_ble_eq_true rfl) ⟨Nat.le_of_ble_eq_true rfl, Nat.le_of_ble_eq_true rfl⟩ ⟨Nat.le_of_ble_eq_true rfl, Nat.le_of_ble_eq_true rfl⟩ d_Shelf_isAt_22 (fun r79 f80 H locs hp81 hI => ?_)
    obtain ⟨ht1, ht2⟩ := hp81
    subst ht1
    rw [ht2] at hI
    refine lv_aload_n S.1 S.2.1 d_Shelf_isAt_25 rfl (lv_at hl 2 rfl) ?_
    refine gc_Vi S hI (c_Row_compareWith l P f x1 x2 ha hb (by omega) hn (by omega) hcp) kv_Row_compareWith wi_161 x1 rfl rfl rfl hl.1 rfl (Nat.le_of_ble_eq_true rfl) ⟨Nat.le_of_ble_eq_true rfl, Nat.le_of_ble_eq_true rfl⟩ ⟨Nat.le_of_ble_eq_true rfl, Nat.le_of_ble_eq_true rfl⟩ d_Shelf_isAt_26 (fun r82 f83 H locs hp84 hI => ?_)
    obtain ⟨hcm, hc2⟩ := hp84
    rw [hc2] at hI
    rw [x6] at hcm
    refine lv_if_ne (tgt := 36) S.1 S.2.1 d_Shelf_isAt_29 (by decide) (fun c85 => ?_) (fun c85 => ?_)
    · skip
      refine lv_iconst (v := nI 0) S.1 S.2.1 d_Shelf_isAt_36 (by decide) ?_
      exact gr_z S hr hlk hI (by first | exact Or.inl rfl | exact Or.inr rfl) (⟨by rw [if_neg (fun z => by rw [hnm] at z; injection z with z; exact c85 (hcm.eq.mpr z))], rfl⟩) d_Shelf_isAt_37
    · skip
      refine lv_iconst (v := nI 1) S.1 S.2.1 d_Shelf_isAt_32 (by decide) ?_
      refine lv_goto (tgt := 37) S.1 S.2.1 d_Shelf_isAt_33 (by decide) ?_
      exact gr_z S hr hlk hI (by first | exact Or.inl rfl | exact Or.inr rfl) (⟨by rw [if_pos (by rw [hnm, hcm.eq.mp c85])], rfl⟩) d_Shelf_isAt_37
def idxI (o : Option Nat) : Int32 := match o with
  | some k => nI k
  | none => (-2)
theorem fAt_idx {L : List Nat} {o : Option Nat} (h : ∀ k, o = some k → k < 2 ^ 31) (hL : L.length < 2 ^ 31) : fAt L (idxI o) = o.bind (fun k => L[k]?) := by
  cases o with
  | none => unfold fAt idxI; rw [if_neg (fun z => z.1 (by decide))]; rfl
  | some k => exact fAt_nI (h k rfl) hL
theorem idx_lt {l : List (List Nat)} {nm : List Nat} {k : Nat} (h : idx l nm = some k) : k < l.length ∧ k = plc l nm ∧ l[k]? = some nm := by
  unfold idx at h
  by_cases c : l[plc l nm]? = some nm
  · rw [if_pos c] at h; cases h
    exact ⟨(List.getElem?_eq_some_iff.mp c).1, rfl, c⟩
  · rw [if_neg c] at h; cases h
set_option maxHeartbeats 4000000 in
set_option maxRecDepth 100000 in
theorem c_Shelf_indexOf (l : Launch) (P : gPar) (f : gM) {sh e1 c1 e2 c2 e3 c3 : Nat} {L SF SP : List Nat} {ow : gO} {af : Nat → AFile} {a n cap : Nat} {g : Nat → Int32} (h : gSh P f ow sh L SF SP e1 c1 e2 c2 e3 c3 af) (ha : f a = some (.inr (1, [.ref (a + 1), .int (nI n)]))) (hb : f (a + 1) = some (.inl (P.2.1 0, cap, .inl g))) (hn : n ≤ cap) (hcp : cap < 2 ^ 20) : gC l P y_Shelf_indexOf b_Shelf_indexOf 3 (some .int) 4 0 0 [.ref sh, .ref a] f (gQi P (fun r f1 => r = idxI (idx (nms af L) (nmL n g)) ∧ f1 = f)) := by
  refine gC_of (by decide) (Nat.le_of_ble_eq_true rfl) (fun p env s m args below meth c S hr hlk hnm H locs hI ls hl => ?_)
  have hl : lv_has ls 3 [(0, .ref sh), (1, .ref a)] := hl
  have hlL : L.length ≤ 48 := by have := h.2.2.2.2.2.2.2.2.1; omega
  have hl1 := h.2.1
  obtain ⟨m1, hal1⟩ := hl1.1
  have hcc : c1 < 2 ^ 20 := by have := h.2.2.2.2.1.1; omega
  refine lv_aload_n S.1 S.2.1 d_Shelf_indexOf_0 rfl (lv_at hl 0 rfl) ?_
  refine lv_aload_n S.1 S.2.1 d_Shelf_indexOf_1 rfl (lv_at hl 1 rfl) ?_
  have hpl9 := plc_le (nms af L) (nmL n g)
  rw [show (nms af L).length = L.length by simp [nms]] at hpl9
  refine gc_Vi S hI (c_Shelf_placeOf l P f h ha hb hn hcp) kv_Shelf_placeOf wi_135 h.1 rfl rfl rfl hl.1 rfl (Nat.le_of_ble_eq_true rfl) ⟨Nat.le_of_ble_eq_true rfl, Nat.le_of_ble_eq_true rfl⟩ ⟨Nat.le_of_ble_eq_true rfl, Nat.le_of_ble_eq_true rfl⟩ d_Shelf_indexOf_2 (fun r86 f87 H locs hp88 hI => ?_)
  obtain ⟨hp1, hp2⟩ := hp88
  subst hp1
  rw [hp2] at hI
  refine lv_istore_n (lv' := [(2, .int (nI (plc (nms af L) (nmL n g)))), (0, .ref sh), (1, .ref a)]) S.1 S.2.1 d_Shelf_indexOf_5 rfl hl (by decide) rfl (fun ls hl => ?_)
  refine lv_aload_n S.1 S.2.1 d_Shelf_indexOf_6 rfl (lv_at hl 1 rfl) ?_
  refine lv_iload_n S.1 S.2.1 d_Shelf_indexOf_7 rfl (lv_at hl 0 rfl) ?_
  refine lv_aload_n S.1 S.2.1 d_Shelf_indexOf_8 rfl (lv_at hl 2 rfl) ?_
  refine gc_Vi S hI (c_Shelf_isAt l P f (i := plc (nms af L) (nmL n g)) h ha hb hn hcp (by omega)) kv_Shelf_isAt wi_168 h.1 rfl rfl rfl hl.1 rfl (Nat.le_of_ble_eq_true rfl) ⟨Nat.le_of_ble_eq_true rfl, Nat.le_of_ble_eq_true rfl⟩ ⟨Nat.le_of_ble_eq_true rfl, Nat.le_of_ble_eq_true rfl⟩ d_Shelf_indexOf_9 (fun r89 f90 H locs hp91 hI => ?_)
  obtain ⟨hp1, hp2⟩ := hp91
  subst hp1
  rw [hp2] at hI
  by_cases hia : (nms af L)[plc (nms af L) (nmL n g)]? = some (nmL n g)
  · rw [show (if (nms af L)[plc (nms af L) (nmL n g)]? = some (nmL n g) then nI 1 else nI 0 : Int32) = nI 1 from if_pos hia]
    refine lv_if_eq (tgt := 19) S.1 S.2.1 d_Shelf_indexOf_12 (by decide) (fun c92 => ?_) (fun c92 => ?_)
    · skip
      replace c92 : 1 = 0 := (nI_eq (a := 1) (b := 0) (by omega) (by omega)).mp c92
      exact absurd c92 (by omega)
    · skip
      replace c92 : ¬ 1 = 0 := fun z => c92 ((nI_eq (a := 1) (b := 0) (by omega) (by omega)).mpr z)
      refine lv_iload_n S.1 S.2.1 d_Shelf_indexOf_15 rfl (lv_at hl 0 rfl) ?_
      refine lv_goto (tgt := 21) S.1 S.2.1 d_Shelf_indexOf_16 (by decide) ?_
      exact gr_i S hr hlk hI (⟨by unfold idx; rw [if_pos hia]; rfl, rfl⟩) d_Shelf_indexOf_21
  · rw [show (if (nms af L)[plc (nms af L) (nmL n g)]? = some (nmL n g) then nI 1 else nI 0 : Int32) = nI 0 from if_neg hia]
    refine lv_if_eq (tgt := 19) S.1 S.2.1 d_Shelf_indexOf_12 (by decide) (fun c93 => ?_) (fun c93 => ?_)
    · skip
      replace c93 : 0 = 0 := (nI_eq (a := 0) (b := 0) (by omega) (by omega)).mp c93
      refine lv_bipush (v := (-2)) S.1 S.2.1 d_Shelf_indexOf_19 (by decide) ?_
      exact gr_i S hr hlk hI (⟨by unfold idx; rw [if_neg hia]; rfl, rfl⟩) d_Shelf_indexOf_21
    · skip
      replace c93 : ¬ 0 = 0 := fun z => c93 ((nI_eq (a := 0) (b := 0) (by omega) (by omega)).mpr z)
      exact absurd c93 (by omega)
set_option maxHeartbeats 4000000 in
set_option maxRecDepth 100000 in
theorem c_Shelf_find (l : Launch) (P : gPar) (f : gM) {sh e1 c1 e2 c2 e3 c3 : Nat} {L SF SP : List Nat} {ow : gO} {af : Nat → AFile} {a n cap : Nat} {g : Nat → Int32} (h : gSh P f ow sh L SF SP e1 c1 e2 c2 e3 c3 af) (ha : f a = some (.inr (1, [.ref (a + 1), .int (nI n)]))) (hb : f (a + 1) = some (.inl (P.2.1 0, cap, .inl g))) (hn : n ≤ cap) (hcp : cap < 2 ^ 20) : gC l P y_Shelf_find b_Shelf_find 2 (some (.object "StripeFiles$StripedFile")) 5 0 0 [.ref sh, .ref a] f (gQq P (fun r f1 => r = (idx (nms af L) (nmL n g)).bind (fun k => L[k]?) ∧ f1 = f)) := by
  refine gC_of (by decide) (Nat.le_of_ble_eq_true rfl) (fun p env s m args below meth c S hr hlk hnm H locs hI ls hl => ?_)
  have hl : lv_has ls 2 [(0, .ref sh), (1, .ref a)] := hl
  have hlL : L.length ≤ 48 := by have := h.2.2.2.2.2.2.2.2.1; omega
  have hl1 := h.2.1
  obtain ⟨m1, hal1⟩ := hl1.1
  have hcc : c1 < 2 ^ 20 := by have := h.2.2.2.2.1.1; omega
  refine lv_aload_n S.1 S.2.1 d_Shelf_find_0 rfl (lv_at hl 0 rfl) ?_
  refine lv_aload_n S.1 S.2.1 d_Shelf_find_1 rfl (lv_at hl 0 rfl) ?_
  refine lv_aload_n S.1 S.2.1 d_Shelf_find_2 rfl (lv_at hl 1 rfl) ?_
  refine gc_Vi S hI (c_Shelf_indexOf l P f h ha hb hn hcp) kv_Shelf_indexOf wi_132 h.1 rfl rfl rfl hl.1 rfl (Nat.le_of_ble_eq_true rfl) ⟨Nat.le_of_ble_eq_true rfl, Nat.le_of_ble_eq_true rfl⟩ ⟨Nat.le_of_ble_eq_true rfl, Nat.le_of_ble_eq_true rfl⟩ d_Shelf_find_3 (fun r94 f95 H locs hp96 hI => ?_)
  obtain ⟨hp1, hp2⟩ := hp96
  subst hp1
  rw [hp2] at hI
  refine gc_Vq S hI (c_Shelf_fileAt l P f (k := idxI (idx (nms af L) (nmL n g))) h) kv_Shelf_fileAt wi_171 h.1 rfl rfl rfl hl.1 rfl (Nat.le_of_ble_eq_true rfl) ⟨Nat.le_of_ble_eq_true rfl, Nat.le_of_ble_eq_true rfl⟩ ⟨Nat.le_of_ble_eq_true rfl, Nat.le_of_ble_eq_true rfl⟩ d_Shelf_find_6 (fun r97 f98 H locs hp99 hI => ?_)
  obtain ⟨hp1, hp2⟩ := hp99
  rw [hp2] at hI
  exact gr_q (r := r97) S hr (Or.inl ⟨_, rfl⟩) hlk hI (⟨by rw [hp1]; exact fAt_idx (fun k hk => by have := (idx_lt hk).1; simp [nms] at this; omega) (by omega), rfl⟩) d_Shelf_find_9
set_option maxHeartbeats 4000000 in
set_option maxRecDepth 100000 in
theorem c_Shelf_findAfter (l : Launch) (P : gPar) (f : gM) {sh e1 c1 e2 c2 e3 c3 : Nat} {L SF SP : List Nat} {ow : gO} {af : Nat → AFile} {a n cap : Nat} {g : Nat → Int32} (h : gSh P f ow sh L SF SP e1 c1 e2 c2 e3 c3 af) (ha : f a = some (.inr (1, [.ref (a + 1), .int (nI n)]))) (hb : f (a + 1) = some (.inl (P.2.1 0, cap, .inl g))) (hn : n ≤ cap) (hcp : cap < 2 ^ 20) : gC l P y_Shelf_findAfter b_Shelf_findAfter 3 (some (.object "StripeFiles$StripedFile")) 4 0 0 [.ref sh, .ref a] f (gQq P (fun r f1 => r = L[if (nms af L)[plc (nms af L) (nmL n g)]? = some (nmL n g) then plc (nms af L) (nmL n g) + 1 else plc (nms af L) (nmL n g)]? ∧ f1 = f)) := by
  refine gC_of (by decide) (Nat.le_of_ble_eq_true rfl) (fun p env s m args below meth c S hr hlk hnm H locs hI ls hl => ?_)
  have hl : lv_has ls 3 [(0, .ref sh), (1, .ref a)] := hl
  have hlL : L.length ≤ 48 := by have := h.2.2.2.2.2.2.2.2.1; omega
  have hl1 := h.2.1
  obtain ⟨m1, hal1⟩ := hl1.1
  have hcc : c1 < 2 ^ 20 := by have := h.2.2.2.2.1.1; omega
  refine lv_aload_n S.1 S.2.1 d_Shelf_findAfter_0 rfl (lv_at hl 0 rfl) ?_
  refine lv_aload_n S.1 S.2.1 d_Shelf_findAfter_1 rfl (lv_at hl 1 rfl) ?_
  have hpl9 := plc_le (nms af L) (nmL n g)
  rw [show (nms af L).length = L.length by simp [nms]] at hpl9
  refine gc_Vi S hI (c_Shelf_placeOf l P f h ha hb hn hcp) kv_Shelf_placeOf wi_135 h.1 rfl rfl rfl hl.1 rfl (Nat.le_of_ble_eq_true rfl) ⟨Nat.le_of_ble_eq_true rfl, Nat.le_of_ble_eq_true rfl⟩ ⟨Nat.le_of_ble_eq_true rfl, Nat.le_of_ble_eq_true rfl⟩ d_Shelf_findAfter_2 (fun r100 f101 H locs hp102 hI => ?_)
  obtain ⟨hp1, hp2⟩ := hp102
  subst hp1
  rw [hp2] at hI
  refine lv_istore_n (lv' := [(2, .int (nI (plc (nms af L) (nmL n g)))), (0, .ref sh), (1, .ref a)]) S.1 S.2.1 d_Shelf_findAfter_5 rfl hl (by decide) rfl (fun ls hl => ?_)
  refine lv_aload_n S.1 S.2.1 d_Shelf_findAfter_6 rfl (lv_at hl 1 rfl) ?_
  refine lv_aload_n S.1 S.2.1 d_Shelf_findAfter_7 rfl (lv_at hl 1 rfl) ?_
  refine lv_iload_n S.1 S.2.1 d_Shelf_findAfter_8 rfl (lv_at hl 0 rfl) ?_
  refine lv_aload_n S.1 S.2.1 d_Shelf_findAfter_9 rfl (lv_at hl 2 rfl) ?_
  refine gc_Vi S hI (c_Shelf_isAt l P f (i := plc (nms af L) (nmL n g)) h ha hb hn hcp (by omega)) kv_Shelf_isAt wi_168 h.1 rfl rfl rfl hl.1 rfl (Nat.le_of_ble_eq_true rfl) ⟨Nat.le_of_ble_eq_true rfl, Nat.le_of_ble_eq_true rfl⟩ ⟨Nat.le_of_ble_eq_true rfl, Nat.le_of_ble_eq_true rfl⟩ d_Shelf_findAfter_10 (fun r103 f104 H locs hp105 hI => ?_)
  obtain ⟨hp1, hp2⟩ := hp105
  subst hp1
  rw [hp2] at hI
  by_cases hia : (nms af L)[plc (nms af L) (nmL n g)]? = some (nmL n g)
  · rw [show (if (nms af L)[plc (nms af L) (nmL n g)]? = some (nmL n g) then nI 1 else nI 0 : Int32) = nI 1 from if_pos hia]
    refine lv_if_eq (tgt := 22) S.1 S.2.1 d_Shelf_findAfter_13 (by decide) (fun c106 => ?_) (fun c106 => ?_)
    · skip
      replace c106 : 1 = 0 := (nI_eq (a := 1) (b := 0) (by omega) (by omega)).mp c106
      exact absurd c106 (by omega)
    · skip
      replace c106 : ¬ 1 = 0 := fun z => c106 ((nI_eq (a := 1) (b := 0) (by omega) (by omega)).mpr z)
      refine lv_iload_n S.1 S.2.1 d_Shelf_findAfter_16 rfl (lv_at hl 0 rfl) ?_
      refine lv_iconst (v := nI 1) S.1 S.2.1 d_Shelf_findAfter_17 (by decide) ?_
      refine lv_iadd S.1 S.2.1 d_Shelf_findAfter_18 ?_
      refine lv_topi (fun v107 ev107 => ?_)
      replace ev107 : v107 = nI ((plc (nms af L) (nmL n g)) + 1) := ev107.trans (nI_add _ _)
      subst ev107
      refine lv_goto (tgt := 23) S.1 S.2.1 d_Shelf_findAfter_19 (by decide) ?_
      refine gc_Vq S hI (c_Shelf_fileAt l P f (k := nI (plc (nms af L) (nmL n g) + 1)) h) kv_Shelf_fileAt wi_171 h.1 rfl rfl rfl hl.1 rfl (Nat.le_of_ble_eq_true rfl) ⟨Nat.le_of_ble_eq_true rfl, Nat.le_of_ble_eq_true rfl⟩ ⟨Nat.le_of_ble_eq_true rfl, Nat.le_of_ble_eq_true rfl⟩ d_Shelf_findAfter_23 (fun r108 f109 H locs hp110 hI => ?_)
      obtain ⟨hp1, hp2⟩ := hp110
      rw [hp2] at hI
      exact gr_q (r := r108) S hr (Or.inl ⟨_, rfl⟩) hlk hI (⟨by rw [hp1, fAt_nI (by omega) (by omega), if_pos hia], rfl⟩) d_Shelf_findAfter_26
  · rw [show (if (nms af L)[plc (nms af L) (nmL n g)]? = some (nmL n g) then nI 1 else nI 0 : Int32) = nI 0 from if_neg hia]
    refine lv_if_eq (tgt := 22) S.1 S.2.1 d_Shelf_findAfter_13 (by decide) (fun c111 => ?_) (fun c111 => ?_)
    · skip
      replace c111 : 0 = 0 := (nI_eq (a := 0) (b := 0) (by omega) (by omega)).mp c111
      refine lv_iload_n S.1 S.2.1 d_Shelf_findAfter_22 rfl (lv_at hl 0 rfl) ?_
      refine gc_Vq S hI (c_Shelf_fileAt l P f (k := nI (plc (nms af L) (nmL n g))) h) kv_Shelf_fileAt wi_171 h.1 rfl rfl rfl hl.1 rfl (Nat.le_of_ble_eq_true rfl) ⟨Nat.le_of_ble_eq_true rfl, Nat.le_of_ble_eq_true rfl⟩ ⟨Nat.le_of_ble_eq_true rfl, Nat.le_of_ble_eq_true rfl⟩ d_Shelf_findAfter_23 (fun r112 f113 H locs hp114 hI => ?_)
      obtain ⟨hp1, hp2⟩ := hp114
      rw [hp2] at hI
      exact gr_q (r := r112) S hr (Or.inl ⟨_, rfl⟩) hlk hI (⟨by rw [hp1, fAt_nI (by omega) (by omega), if_neg hia], rfl⟩) d_Shelf_findAfter_26
    · skip
      replace c111 : ¬ 0 = 0 := fun z => c111 ((nI_eq (a := 0) (b := 0) (by omega) (by omega)).mpr z)
      exact absurd c111 (by omega)
