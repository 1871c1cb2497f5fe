set_option maxHeartbeats 4000000 in
set_option maxRecDepth 100000 in
theorem c_Prec_checkIndex (l : Launch) (P : gPar) (f : gM) {i n : Nat} (h : i < n) (hn : n < 2 ^ 31) : gC l P y_Prec_checkIndex b_Prec_checkIndex 3 (some .int) 0 0 0 [.int (nI i), .int (nI n), .null] f (gQi P (fun r f1 => r = nI i ∧ f1 = f)) := by
  refine gC_of (by decide) (Nat.le_of_ble_eq_true rfl) (fun p env s m args below meth c S hr hlk hnm H locs hI ls hl => ?_)
  have hl : lv_has ls 3 [(0, .int (nI i)), (1, .int (nI n)), (2, .null)] := hl
  refine lv_iload_n S.1 S.2.1 d_Prec_checkIndex_0 rfl (lv_at hl 0 rfl) ?_
  refine lv_if_lt (tgt := 9) S.1 S.2.1 d_Prec_checkIndex_1 (by decide) (fun c1 => ?_) (fun c1 => ?_)
  · skip
    exact absurd c1 (nI_pos (by omega))
  · skip
    refine lv_iload_n S.1 S.2.1 d_Prec_checkIndex_4 rfl (lv_at hl 0 rfl) ?_
    refine lv_iload_n S.1 S.2.1 d_Prec_checkIndex_5 rfl (lv_at hl 1 rfl) ?_
    refine lv_icmp_lt (tgt := 16) S.1 S.2.1 d_Prec_checkIndex_6 (by decide) (fun c2 => ?_) (fun c2 => ?_)
    · skip
      replace c2 : i < n := (nI_ltI (a := i) (b := n) (by omega) (by omega)).mp c2
      refine lv_iload_n S.1 S.2.1 d_Prec_checkIndex_16 rfl (lv_at hl 0 rfl) ?_
      exact gr_i S hr hlk hI (⟨rfl, rfl⟩) d_Prec_checkIndex_17
    · skip
      replace c2 : ¬ i < n := fun z => c2 ((nI_ltI (a := i) (b := n) (by omega) (by omega)).mpr z)
      exact absurd h c2
set_option maxHeartbeats 4000000 in
set_option maxRecDepth 100000 in
theorem c_Objs_checkIndex (l : Launch) (P : gPar) (f : gM) {i n : Nat} (h : i < n) (hn : n < 2 ^ 31) : gC l P y_Objs_checkIndex b_Objs_checkIndex 2 (some .int) 1 0 0 [.int (nI i), .int (nI n)] f (gQi P (fun r f1 => r = nI i ∧ f1 = f)) := by
  refine gC_of (by decide) (Nat.le_of_ble_eq_true rfl) (fun p env s m args below meth c S hr hlk hnm H locs hI ls hl => ?_)
  have hl : lv_has ls 2 [(0, .int (nI i)), (1, .int (nI n))] := hl
  refine lv_iload_n S.1 S.2.1 d_Objs_checkIndex_0 rfl (lv_at hl 0 rfl) ?_
  refine lv_iload_n S.1 S.2.1 d_Objs_checkIndex_1 rfl (lv_at hl 1 rfl) ?_
  refine lv_null S.1 S.2.1 d_Objs_checkIndex_2 ?_
  refine gc_Si S hI (c_Prec_checkIndex l P f h hn) kv_Prec_checkIndex wi_149 rfl hl.1 rfl (Nat.le_of_ble_eq_true rfl) ⟨Nat.le_of_ble_eq_true rfl, Nat.le_of_ble_eq_true rfl⟩ ⟨Nat.le_of_ble_eq_true rfl, Nat.le_of_ble_eq_true rfl⟩ d_Objs_checkIndex_3 (fun r3 f4 H locs hp5 hI => ?_)
  obtain ⟨hp1, hp2⟩ := hp5
  subst hp1
  rw [hp2] at hI
  exact gr_i S hr hlk hI (⟨rfl, rfl⟩) d_Objs_checkIndex_6
set_option maxHeartbeats 4000000 in
set_option maxRecDepth 100000 in
theorem c_AbC_init (l : Launch) (P : gPar) (f : gM) {a : Nat} : gC l P y_AbC_init b_AbC_init 1 none 1 0 0 [.ref a] f (gQv P (fun f1 => f1 = f)) := by
  refine gC_of (by decide) (Nat.le_of_ble_eq_true rfl) (fun p env s m args below meth c S hr hlk hnm H locs hI ls hl => ?_)
  have hl : lv_has ls 1 [(0, .ref a)] := hl
  refine lv_aload_n S.1 S.2.1 d_AbC_init_0 rfl (lv_at hl 0 rfl) ?_
  refine gc_obj S wi_51 hl.1 d_AbC_init_1 (Nat.le_of_ble_eq_true rfl) (Nat.le_of_ble_eq_true rfl) ?_
  exact gr_v S hr hlk hI (rfl) d_AbC_init_4
set_option maxHeartbeats 4000000 in
set_option maxRecDepth 100000 in
theorem c_AbL_init (l : Launch) (P : gPar) (f : gM) {a : Nat} (ha : f a = some (.inr (6, [.int 0, .null, .int 0]))) : gC l P y_AbL_init b_AbL_init 1 none 2 0 0 [.ref a] f (gQv P (fun f1 => f1 a = some (.inr (6, [.int (nI 0), .null, .int 0])) ∧ gFr f f1 [a])) := by
  refine gC_of (by decide) (Nat.le_of_ble_eq_true rfl) (fun p env s m args below meth c S hr hlk hnm H locs hI ls hl => ?_)
  have hl : lv_has ls 1 [(0, .ref a)] := hl
  have hF : gFr f f [a] := gFr.rf
  refine lv_aload_n S.1 S.2.1 d_AbL_init_0 rfl (lv_at hl 0 rfl) ?_
  refine gc_Iv S hI (c_AbC_init l P f) kv_AbC_init wi_48 rfl hl.1 rfl (Nat.le_of_ble_eq_true rfl) ⟨Nat.le_of_ble_eq_true rfl, Nat.le_of_ble_eq_true rfl⟩ ⟨Nat.le_of_ble_eq_true rfl, Nat.le_of_ble_eq_true rfl⟩ d_AbL_init_1 (fun f7 H locs hp8 hI => ?_)
  rw [hp8] at hI
  refine lv_aload_n S.1 S.2.1 d_AbL_init_4 rfl (lv_at hl 0 rfl) ?_
  refine lv_iconst (v := nI 0) S.1 S.2.1 d_AbL_init_5 (by decide) ?_
  refine gh_put S hI ha rfl i_AL t_AL tk_AL n_AL 0 (by decide) wi_55 rfl rfl rfl (Nat.le_of_ble_eq_true rfl) d_AbL_init_6 (fun H locs hI => ?_)
  have hI : gB P (va_up f a (some (.inr (6, [.int (nI 0), .null, .int 0])))) s H locs := hI
  obtain ⟨f9, ef9⟩ : ∃ z, z = va_up f a (some (.inr (6, [.int (nI 0), .null, .int 0]))) := ⟨_, rfl⟩
  rw [← ef9] at hI
  have h10 : f9 a = some (.inr (6, [.int (nI 0), .null, .int 0])) := by rw [ef9]; exact va_up_self _ _ _
  have hF : gFr f f9 [a] := by rw [ef9]; exact gFr.upA (by simp) hF
  exact gr_v S hr hlk hI (⟨h10, hF⟩) d_AbL_init_9
set_option maxHeartbeats 4000000 in
set_option maxRecDepth 100000 in
theorem c_AL_init (l : Launch) (P : gPar) (f : gM) {a : Nat} (ha : f a = some (.inr (6, [.int 0, .null, .int 0]))) : gC l P y_AL_init b_AL_init 1 none 3 0 0 [.ref a] f (gQv P (fun f1 => gLi P f1 a P.2.2.2.1 0 [] ∧ gFr f f1 [a])) := by
  refine gC_of (by decide) (Nat.le_of_ble_eq_true rfl) (fun p env s m args below meth c S hr hlk hnm H locs hI ls hl => ?_)
  have hl : lv_has ls 1 [(0, .ref a)] := hl
  have hF : gFr f f [a] := gFr.rf
  refine lv_aload_n S.1 S.2.1 d_AL_init_0 rfl (lv_at hl 0 rfl) ?_
  refine gc_Iv S hI (c_AbL_init l P f ha) kv_AbL_init wi_45 rfl hl.1 rfl (Nat.le_of_ble_eq_true rfl) ⟨Nat.le_of_ble_eq_true rfl, Nat.le_of_ble_eq_true rfl⟩ ⟨Nat.le_of_ble_eq_true rfl, Nat.le_of_ble_eq_true rfl⟩ d_AL_init_1 (fun f12 H locs hp13 hI => ?_)
  obtain ⟨hp1, hF⟩ := hp13
  refine lv_aload_n S.1 S.2.1 d_AL_init_4 rfl (lv_at hl 0 rfl) ?_
  refine gh_gets0 S hI wi_52 d_AL_init_5 ?_
  refine gh_put S hI hp1 rfl i_AL t_AL tk_AL n_AL 1 (by decide) wi_53 rfl rfl rfl (Nat.le_of_ble_eq_true rfl) d_AL_init_8 (fun H locs hI => ?_)
  have hI : gB P (va_up f12 a (some (.inr (6, [.int (nI 0), .ref P.2.2.2.1, .int 0])))) s H locs := hI
  obtain ⟨f14, ef14⟩ : ∃ z, z = va_up f12 a (some (.inr (6, [.int (nI 0), .ref P.2.2.2.1, .int 0]))) := ⟨_, rfl⟩
  rw [← ef14] at hI
  have h15 : f14 a = some (.inr (6, [.int (nI 0), .ref P.2.2.2.1, .int 0])) := by rw [ef14]; exact va_up_self _ _ _
  have hF : gFr f f14 [a] := by rw [ef14]; exact gFr.upA (by simp) hF
  exact gr_v S hr hlk hI (⟨⟨⟨nI 0, h15⟩, Or.inl ⟨rfl, rfl, rfl⟩⟩, hF⟩) d_AL_init_11
set_option maxHeartbeats 4000000 in
set_option maxRecDepth 100000 in
theorem c_AL_size (l : Launch) (P : gPar) (f : gM) {a e cap : Nat} {L : List Nat} (h : gLi P f a e cap L) : gC l P y_AL_size b_AL_size 1 (some .int) 0 0 0 [.ref a] f (gQi P (fun r f1 => r = nI L.length ∧ f1 = f)) := by
  refine gC_of (by decide) (Nat.le_of_ble_eq_true rfl) (fun p env s m args below meth c S hr hlk hnm H locs hI ls hl => ?_)
  have hl : lv_has ls 1 [(0, .ref a)] := hl
  obtain ⟨⟨m0, ha⟩, h2⟩ := id h
  refine lv_aload_n S.1 S.2.1 d_AL_size_0 rfl (lv_at hl 0 rfl) ?_
  refine gh_get S hI ha rfl i_AL 2 (by decide) wi_54 rfl d_AL_size_1 ?_
  exact gr_i S hr hlk hI (⟨rfl, rfl⟩) d_AL_size_4
set_option maxHeartbeats 4000000 in
set_option maxRecDepth 100000 in
theorem c_AL_isEmpty (l : Launch) (P : gPar) (f : gM) {a e cap : Nat} {L : List Nat} (h : gLi P f a e cap L) (hn : L.length < 2 ^ 31) : gC l P y_AL_isEmpty b_AL_isEmpty 1 (some .boolean) 0 0 0 [.ref a] f (gQi P (fun r f1 => r = (if L.length = 0 then nI 1 else nI 0) ∧ f1 = f)) := by
  refine gC_of (by decide) (Nat.le_of_ble_eq_true rfl) (fun p env s m args below meth c S hr hlk hnm H locs hI ls hl => ?_)
  have hl : lv_has ls 1 [(0, .ref a)] := hl
  obtain ⟨⟨m0, ha⟩, h2⟩ := id h
  refine lv_aload_n S.1 S.2.1 d_AL_isEmpty_0 rfl (lv_at hl 0 rfl) ?_
  refine gh_get S hI ha rfl i_AL 2 (by decide) wi_54 rfl d_AL_isEmpty_1 ?_
  refine lv_if_ne (tgt := 11) S.1 S.2.1 d_AL_isEmpty_4 (by decide) (fun c16 => ?_) (fun c16 => ?_)
  · skip
    replace c16 : ¬ L.length = 0 := fun z => c16 ((nI_eq (a := L.length) (b := 0) (by omega) (by omega)).mpr z)
    refine lv_iconst (v := nI 0) S.1 S.2.1 d_AL_isEmpty_11 (by decide) ?_
    exact gr_z S hr hlk hI (by first | exact Or.inl rfl | exact Or.inr rfl) (⟨(if_neg c16).symm, rfl⟩) d_AL_isEmpty_12
  · skip
    replace c16 : L.length = 0 := (nI_eq (a := L.length) (b := 0) (by omega) (by omega)).mp c16
    refine lv_iconst (v := nI 1) S.1 S.2.1 d_AL_isEmpty_7 (by decide) ?_
    refine lv_goto (tgt := 12) S.1 S.2.1 d_AL_isEmpty_8 (by decide) ?_
    exact gr_z S hr hlk hI (by first | exact Or.inl rfl | exact Or.inr rfl) (⟨(if_pos c16).symm, rfl⟩) d_AL_isEmpty_12
set_option maxHeartbeats 4000000 in
set_option maxRecDepth 100000 in
theorem c_AL_elementData (l : Launch) (P : gPar) (f : gM) {a e cap i : Nat} {L : List Nat} (h : gLi P f a e cap L) (hi : i < L.length) (hc : cap < 2 ^ 20) : gC l P y_AL_elementData b_AL_elementData 2 (some (.object "java/lang/Object")) 0 0 0 [.ref a, .int (nI i)] f (gQq P (fun r f1 => ∃ x, r = some x ∧ L[i]? = some x ∧ f1 = f)) := by
  refine gC_of (by decide) (Nat.le_of_ble_eq_true rfl) (fun p env s m args below meth c S hr hlk hnm H locs hI ls hl => ?_)
  have hl : lv_has ls 2 [(0, .ref a), (1, .int (nI i))] := hl
  obtain ⟨⟨m0, ha⟩, h2⟩ := id h
  obtain ⟨g, he, hle, hg⟩ := h.ar hi
  refine lv_aload_n S.1 S.2.1 d_AL_elementData_0 rfl (lv_at hl 0 rfl) ?_
  refine gh_get S hI ha rfl i_AL 1 (by decide) wi_53 rfl d_AL_elementData_1 ?_
  refine lv_iload_n S.1 S.2.1 d_AL_elementData_4 rfl (lv_at hl 1 rfl) ?_
  refine gh_aald (j := i) S hI 4 he rfl rfl (by omega) (by omega) d_AL_elementData_5 ?_
  obtain ⟨x, hx⟩ : ∃ x, L[i]? = some x := ⟨_, List.getElem?_eq_getElem hi⟩
  exact gr_q (r := g i) S hr (Or.inl ⟨_, rfl⟩) hlk hI ⟨x, by rw [hg i hi]; exact hx, hx, rfl⟩ d_AL_elementData_6
set_option maxHeartbeats 4000000 in
set_option maxRecDepth 100000 in
theorem c_AL_get (l : Launch) (P : gPar) (f : gM) {a e cap i : Nat} {L : List Nat} (h : gLi P f a e cap L) (hi : i < L.length) (hc : cap < 2 ^ 20) : gC l P y_AL_get b_AL_get 2 (some (.object "java/lang/Object")) 2 0 0 [.ref a, .int (nI i)] f (gQq P (fun r f1 => ∃ x, r = some x ∧ L[i]? = some x ∧ f1 = f)) := by
  refine gC_of (by decide) (Nat.le_of_ble_eq_true rfl) (fun p env s m args below meth c S hr hlk hnm H locs hI ls hl => ?_)
  have hl : lv_has ls 2 [(0, .ref a), (1, .int (nI i))] := hl
  obtain ⟨⟨m0, ha⟩, h2⟩ := id h
  obtain ⟨g, he, hle, hg⟩ := h.ar hi
  refine lv_iload_n S.1 S.2.1 d_AL_get_0 rfl (lv_at hl 1 rfl) ?_
  refine lv_aload_n S.1 S.2.1 d_AL_get_1 rfl (lv_at hl 0 rfl) ?_
  refine gh_get S hI ha rfl i_AL 2 (by decide) wi_54 rfl d_AL_get_2 ?_
  refine gc_Si S hI (c_Objs_checkIndex l P f (i := i) (n := L.length) hi (by omega)) kv_Objs_checkIndex wi_146 rfl hl.1 rfl (Nat.le_of_ble_eq_true rfl) ⟨Nat.le_of_ble_eq_true rfl, Nat.le_of_ble_eq_true rfl⟩ ⟨Nat.le_of_ble_eq_true rfl, Nat.le_of_ble_eq_true rfl⟩ d_AL_get_5 (fun r17 f18 H locs hp19 hI => ?_)
  obtain ⟨hp1, hp2⟩ := hp19
  subst hp1
  rw [hp2] at hI
  refine lv_pop S.1 S.2.1 d_AL_get_8 rfl ?_
  refine lv_aload_n S.1 S.2.1 d_AL_get_9 rfl (lv_at hl 0 rfl) ?_
  refine lv_iload_n S.1 S.2.1 d_AL_get_10 rfl (lv_at hl 1 rfl) ?_
  refine gc_Vr S hI (c_AL_elementData l P f h hi hc) kv_AL_elementData wi_152 ha rfl rfl rfl hl.1 rfl (Nat.le_of_ble_eq_true rfl) ⟨Nat.le_of_ble_eq_true rfl, Nat.le_of_ble_eq_true rfl⟩ ⟨Nat.le_of_ble_eq_true rfl, Nat.le_of_ble_eq_true rfl⟩ d_AL_get_11 (fun r20 f21 H locs hp22 hI => ?_)
  obtain ⟨hp1, hp2⟩ := hp22
  rw [hp2] at hI
  exact gr_r S hr (Or.inl ⟨_, rfl⟩) hlk hI (⟨hp1, rfl⟩) d_AL_get_14
set_option maxHeartbeats 4000000 in
set_option maxRecDepth 100000 in
theorem c_AL_set (l : Launch) (P : gPar) (f : gM) {a e cap i x k : Nat} {fs : List Value} {L : List Nat} (h : gLi P f a e cap L) (hi : i < L.length) (hc : cap < 2 ^ 20) (hk : k = 4 ∨ k = 2) (hx : f x = some (.inr (k, fs))) : gC l P y_AL_set b_AL_set 4 (some (.object "java/lang/Object")) 2 0 0 [.ref a, .int (nI i), .ref x] f (gQq P (fun r f1 => ∃ y, r = some y ∧ L[i]? = some y ∧ gLi P f1 a e cap (L.set i x) ∧ gFr f f1 [e])) := by
  refine gC_of (by decide) (Nat.le_of_ble_eq_true rfl) (fun p env s m args below meth c S hr hlk hnm H locs hI ls hl => ?_)
  have hl : lv_has ls 4 [(0, .ref a), (1, .int (nI i)), (2, .ref x)] := hl
  have hF : gFr f f [e] := gFr.rf
  obtain ⟨⟨m0, ha⟩, h2⟩ := id h
  obtain ⟨g, he, hle, hg⟩ := h.ar hi
  refine lv_iload_n S.1 S.2.1 d_AL_set_0 rfl (lv_at hl 1 rfl) ?_
  refine lv_aload_n S.1 S.2.1 d_AL_set_1 rfl (lv_at hl 0 rfl) ?_
  refine gh_get S hI ha rfl i_AL 2 (by decide) wi_54 rfl d_AL_set_2 ?_
  refine gc_Si S hI (c_Objs_checkIndex l P f (i := i) (n := L.length) hi (by omega)) kv_Objs_checkIndex wi_146 rfl hl.1 rfl (Nat.le_of_ble_eq_true rfl) ⟨Nat.le_of_ble_eq_true rfl, Nat.le_of_ble_eq_true rfl⟩ ⟨Nat.le_of_ble_eq_true rfl, Nat.le_of_ble_eq_true rfl⟩ d_AL_set_5 (fun r23 f24 H locs hp25 hI => ?_)
  obtain ⟨hp1, hp2⟩ := hp25
  subst hp1
  rw [hp2] at hI
  refine lv_pop S.1 S.2.1 d_AL_set_8 rfl ?_
  refine lv_aload_n S.1 S.2.1 d_AL_set_9 rfl (lv_at hl 0 rfl) ?_
  refine lv_iload_n S.1 S.2.1 d_AL_set_10 rfl (lv_at hl 1 rfl) ?_
  refine gc_Vr S hI (c_AL_elementData l P f h hi hc) kv_AL_elementData wi_152 ha rfl rfl rfl hl.1 rfl (Nat.le_of_ble_eq_true rfl) ⟨Nat.le_of_ble_eq_true rfl, Nat.le_of_ble_eq_true rfl⟩ ⟨Nat.le_of_ble_eq_true rfl, Nat.le_of_ble_eq_true rfl⟩ d_AL_set_11 (fun r26 f27 H locs hp28 hI => ?_)
  obtain ⟨hp1, hp2⟩ := hp28
  rw [hp2] at hI
  refine lv_astore_n (lv' := [(3, .ref r26), (0, .ref a), (1, .int (nI i)), (2, .ref x)]) S.1 S.2.1 d_AL_set_14 rfl hl (by decide) rfl (fun ls hl => ?_)
  refine lv_aload_n S.1 S.2.1 d_AL_set_15 rfl (lv_at hl 1 rfl) ?_
  refine gh_get S hI ha rfl i_AL 1 (by decide) wi_53 rfl d_AL_set_16 ?_
  refine lv_iload_n S.1 S.2.1 d_AL_set_19 rfl (lv_at hl 2 rfl) ?_
  refine lv_aload_n S.1 S.2.1 d_AL_set_20 rfl (lv_at hl 3 rfl) ?_
  refine gh_aastA (j := i) S hI he hk hx rfl (by omega) (by omega) d_AL_set_21 (fun H locs hI => ?_)
  have hI : gB P (va_up f e (some (.inl (P.2.1 4, cap, .inr (.inr (.inr (.inr (va_up g i (some x))))))))) s H locs := hI
  obtain ⟨f29, ef29⟩ : ∃ z, z = va_up f e (some (.inl (P.2.1 4, cap, .inr (.inr (.inr (.inr (va_up g i (some x)))))))) := ⟨_, rfl⟩
  rw [← ef29] at hI
  have h30 : f29 a = some (.inr (6, [.int m0, .ref e, .int (nI L.length)])) := by rw [ef29, va_up_ne _ _ (gh_ne ha he (by intro h; cases h))]; exact ha
  have h31 : f29 x = some (.inr (k, fs)) := by rw [ef29, va_up_ne _ _ (gh_ne hx he (by intro h; cases h))]; exact hx
  have h32 : f29 e = some (.inl (P.2.1 4, cap, .inr (.inr (.inr (.inr (va_up g i (some x))))))) := by rw [ef29]; exact va_up_self _ _ _
  have hF : gFr f f29 [e] := by rw [ef29]; exact gFr.upA (by simp) hF
  refine lv_aload_n S.1 S.2.1 d_AL_set_22 rfl (lv_at hl 0 rfl) ?_
  have hlen : (L.set i x).length = L.length := List.length_set
  exact gr_r S hr (Or.inl ⟨_, rfl⟩) hlk hI (⟨hp1, ⟨⟨m0, by rw [hlen]; exact h30⟩, Or.inr ⟨by omega, _, h32, by rw [hlen]; exact hle, l_set hg⟩⟩, hF⟩) d_AL_set_23
set_option maxHeartbeats 4000000 in
set_option maxRecDepth 100000 in
theorem c_AL_fastRemove (l : Launch) (P : gPar) (f : gM) {a e cap i k : Nat} {L : List Nat} (h : gLi P f a e cap L) (hi : i < L.length) (hc : cap < 2 ^ 20) (hEl : gEl k f L) (hFL : ∀ y ∈ L, y ∉ [a, e]) : gC l P y_AL_fastRemove b_AL_fastRemove 4 none 1 0 0 [.ref a, .ref e, .int (nI i)] f (gQv P (fun f1 => gLi P f1 a e cap (L.eraseIdx i) ∧ gFr f f1 [a, e])) := by
  refine gC_of (by decide) (Nat.le_of_ble_eq_true rfl) (fun p env s m args below meth c S hr hlk hnm H locs hI ls hl => ?_)
  have hl : lv_has ls 4 [(0, .ref a), (1, .ref e), (2, .int (nI i))] := hl
  have hF : gFr f f [a, e] := gFr.rf
  obtain ⟨⟨m0, ha⟩, h2⟩ := id h
  obtain ⟨g, he, hle, hg⟩ := h.ar hi
  refine lv_aload_n S.1 S.2.1 d_AL_fastRemove_0 rfl (lv_at hl 0 rfl) ?_
  refine lv_dup S.1 S.2.1 d_AL_fastRemove_1 rfl ?_
  refine gh_getS S hI ha rfl i_AL 0 (by decide) wi_57 wi_56 rfl d_AL_fastRemove_2 ?_
  refine lv_iconst (v := nI 1) S.1 S.2.1 d_AL_fastRemove_5 (by decide) ?_
  refine lv_iadd S.1 S.2.1 d_AL_fastRemove_6 ?_
  refine gh_putS S hI ha rfl i_AL t_AL tk_AL n_AL 0 (by decide) wi_57 wi_56 rfl rfl rfl (Nat.le_of_ble_eq_true rfl) d_AL_fastRemove_7 (fun H locs hI => ?_)
  have hI : gB P (va_up f a (some (.inr (6, [.int (m0 + (nI 1)), .ref e, .int (nI L.length)])))) s H locs := hI
  obtain ⟨f33, ef33⟩ : ∃ z, z = va_up f a (some (.inr (6, [.int (m0 + (nI 1)), .ref e, .int (nI L.length)]))) := ⟨_, rfl⟩
  rw [← ef33] at hI
  have h34 : f33 e = some (.inl (P.2.1 4, cap, .inr (.inr (.inr (.inr g))))) := by rw [ef33, va_up_ne _ _ (gh_ne he ha (by intro h; cases h))]; exact he
  have h35 : f33 a = some (.inr (6, [.int (m0 + (nI 1)), .ref e, .int (nI L.length)])) := by rw [ef33]; exact va_up_self _ _ _
  have hF : gFr f f33 [a, e] := by rw [ef33]; exact gFr.upA (by simp) hF
  refine lv_aload_n S.1 S.2.1 d_AL_fastRemove_10 rfl (lv_at hl 0 rfl) ?_
  refine gh_get S hI h35 rfl i_AL 2 (by decide) wi_54 rfl d_AL_fastRemove_11 ?_
  refine lv_iconst (v := nI 1) S.1 S.2.1 d_AL_fastRemove_14 (by decide) ?_
  refine lv_isub S.1 S.2.1 d_AL_fastRemove_15 ?_
  refine lv_topi (fun v36 ev36 => ?_)
  replace ev36 : v36 = nI (L.length - 1) := ev36.trans (pk_sub (by omega))
  subst ev36
  refine lv_dup S.1 S.2.1 d_AL_fastRemove_16 rfl ?_
  refine lv_istore_n (lv' := [(3, .int (nI (L.length - 1))), (0, .ref a), (1, .ref e), (2, .int (nI i))]) S.1 S.2.1 d_AL_fastRemove_17 rfl hl (by decide) rfl (fun ls hl => ?_)
  refine lv_iload_n S.1 S.2.1 d_AL_fastRemove_18 rfl (lv_at hl 3 rfl) ?_
  refine lv_icmp_le (tgt := 34) S.1 S.2.1 d_AL_fastRemove_19 (by decide) (fun c37 => ?_) (fun c37 => ?_)
  · skip
    replace c37 : (L.length - 1) ≤ i := (nI_leI (a := L.length - 1) (b := i) (by omega) (by omega)).mp c37
    refine lv_aload_n S.1 S.2.1 d_AL_fastRemove_34 rfl (lv_at hl 2 rfl) ?_
    refine lv_aload_n S.1 S.2.1 d_AL_fastRemove_35 rfl (lv_at hl 1 rfl) ?_
    refine lv_iload_n S.1 S.2.1 d_AL_fastRemove_36 rfl (lv_at hl 0 rfl) ?_
    refine lv_dup_x1 S.1 S.2.1 d_AL_fastRemove_37 rfl rfl ?_
    refine gh_put S hI h35 rfl i_AL t_AL tk_AL n_AL 2 (by decide) wi_54 rfl rfl rfl (Nat.le_of_ble_eq_true rfl) d_AL_fastRemove_38 (fun H locs hI => ?_)
    have hI : gB P (va_up f33 a (some (.inr (6, [.int (m0 + (nI 1)), .ref e, .int (nI (L.length - 1))])))) s H locs := hI
    obtain ⟨f38, ef38⟩ : ∃ z, z = va_up f33 a (some (.inr (6, [.int (m0 + (nI 1)), .ref e, .int (nI (L.length - 1))]))) := ⟨_, rfl⟩
    rw [← ef38] at hI
    have h39 : f38 e = some (.inl (P.2.1 4, cap, .inr (.inr (.inr (.inr g))))) := by rw [ef38, va_up_ne _ _ (gh_ne h34 h35 (by intro h; cases h))]; exact h34
    have h40 : f38 a = some (.inr (6, [.int (m0 + (nI 1)), .ref e, .int (nI (L.length - 1))])) := by rw [ef38]; exact va_up_self _ _ _
    have hF : gFr f f38 [a, e] := by rw [ef38]; exact gFr.upA (by simp) hF
    refine lv_null S.1 S.2.1 d_AL_fastRemove_41 ?_
    refine gh_aastN (j := L.length - 1) S hI 4 h39 rfl rfl (by omega) (by omega) d_AL_fastRemove_42 (fun H locs hI => ?_)
    have hI : gB P (va_up f38 e (some (.inl (P.2.1 4, cap, .inr (.inr (.inr (.inr (va_up g (L.length - 1) none)))))))) s H locs := hI
    obtain ⟨f41, ef41⟩ : ∃ z, z = va_up f38 e (some (.inl (P.2.1 4, cap, .inr (.inr (.inr (.inr (va_up g (L.length - 1) none))))))) := ⟨_, rfl⟩
    rw [← ef41] at hI
    have h42 : f41 a = some (.inr (6, [.int (m0 + (nI 1)), .ref e, .int (nI (L.length - 1))])) := by rw [ef41, va_up_ne _ _ (gh_ne h40 h39 (by intro h; cases h))]; exact h40
    have h43 : f41 e = some (.inl (P.2.1 4, cap, .inr (.inr (.inr (.inr (va_up g (L.length - 1) none)))))) := by rw [ef41]; exact va_up_self _ _ _
    have hF : gFr f f41 [a, e] := by rw [ef41]; exact gFr.upA (by simp) hF
    have ei : i = L.length - 1 := by omega
    subst ei
    have hlen : (L.eraseIdx (L.length - 1)).length = L.length - 1 := List.length_eraseIdx_of_lt hi
    exact gr_v S hr hlk hI (⟨⟨⟨_, by rw [hlen]; exact h42⟩, Or.inr ⟨by omega, _, h43, by rw [hlen]; omega, l_erase1 (by omega) hg⟩⟩, hF⟩) d_AL_fastRemove_43
  · skip
    replace c37 : ¬ (L.length - 1) ≤ i := fun z => c37 ((nI_leI (a := L.length - 1) (b := i) (by omega) (by omega)).mpr z)
    refine lv_aload_n S.1 S.2.1 d_AL_fastRemove_22 rfl (lv_at hl 2 rfl) ?_
    refine lv_iload_n S.1 S.2.1 d_AL_fastRemove_23 rfl (lv_at hl 3 rfl) ?_
    refine lv_iconst (v := nI 1) S.1 S.2.1 d_AL_fastRemove_24 (by decide) ?_
    refine lv_iadd S.1 S.2.1 d_AL_fastRemove_25 ?_
    refine lv_topi (fun v44 ev44 => ?_)
    replace ev44 : v44 = nI (i + 1) := ev44.trans (nI_add _ _)
    subst ev44
    refine lv_aload_n S.1 S.2.1 d_AL_fastRemove_26 rfl (lv_at hl 2 rfl) ?_
    refine lv_iload_n S.1 S.2.1 d_AL_fastRemove_27 rfl (lv_at hl 3 rfl) ?_
    refine lv_iload_n S.1 S.2.1 d_AL_fastRemove_28 rfl (lv_at hl 0 rfl) ?_
    refine lv_iload_n S.1 S.2.1 d_AL_fastRemove_29 rfl (lv_at hl 3 rfl) ?_
    refine lv_isub S.1 S.2.1 d_AL_fastRemove_30 ?_
    refine lv_topi (fun v45 ev45 => ?_)
    replace ev45 : v45 = nI ((L.length - 1) - i) := ev45.trans (pk_sub (by omega))
    subst ev45
    refine gh_copyq (sp := i + 1) (dp := i) (n := L.length - 1 - i) S hI hl.1 wi_207 wi_113 wi_112 wi_9 4 h34 h34 rfl rfl rfl rfl (by omega) (by omega) (by omega) (by omega) (fun j hj y hy => (hEl.fr hF hFL).any (p := p) hI (List.mem_of_getElem? ((hg _ (by omega)).symm.trans hy))) (Nat.le_of_ble_eq_true rfl) (Nat.le_of_ble_eq_true rfl) d_AL_fastRemove_31 (fun H locs hI => ?_)
    have hI : gB P (va_up f33 e (some (.inl (P.2.1 4, cap, .inr (.inr (.inr (.inr (va_cpy g g (i + 1) i (L.length - 1 - i))))))))) s H locs := hI
    obtain ⟨f46, ef46⟩ : ∃ z, z = va_up f33 e (some (.inl (P.2.1 4, cap, .inr (.inr (.inr (.inr (va_cpy g g (i + 1) i (L.length - 1 - i)))))))) := ⟨_, rfl⟩
    rw [← ef46] at hI
    have h47 : f46 a = some (.inr (6, [.int (m0 + (nI 1)), .ref e, .int (nI L.length)])) := by rw [ef46, va_up_ne _ _ (gh_ne h35 h34 (by intro h; cases h))]; exact h35
    have h48 : f46 e = some (.inl (P.2.1 4, cap, .inr (.inr (.inr (.inr (va_cpy g g (i + 1) i (L.length - 1 - i))))))) := by rw [ef46]; exact va_up_self _ _ _
    have hF : gFr f f46 [a, e] := by rw [ef46]; exact gFr.upA (by simp) hF
    refine lv_aload_n S.1 S.2.1 d_AL_fastRemove_34 rfl (lv_at hl 2 rfl) ?_
    refine lv_aload_n S.1 S.2.1 d_AL_fastRemove_35 rfl (lv_at hl 1 rfl) ?_
    refine lv_iload_n S.1 S.2.1 d_AL_fastRemove_36 rfl (lv_at hl 0 rfl) ?_
    refine lv_dup_x1 S.1 S.2.1 d_AL_fastRemove_37 rfl rfl ?_
    refine gh_put S hI h47 rfl i_AL t_AL tk_AL n_AL 2 (by decide) wi_54 rfl rfl rfl (Nat.le_of_ble_eq_true rfl) d_AL_fastRemove_38 (fun H locs hI => ?_)
    have hI : gB P (va_up f46 a (some (.inr (6, [.int (m0 + (nI 1)), .ref e, .int (nI (L.length - 1))])))) s H locs := hI
    obtain ⟨f49, ef49⟩ : ∃ z, z = va_up f46 a (some (.inr (6, [.int (m0 + (nI 1)), .ref e, .int (nI (L.length - 1))]))) := ⟨_, rfl⟩
    rw [← ef49] at hI
    have h50 : f49 e = some (.inl (P.2.1 4, cap, .inr (.inr (.inr (.inr (va_cpy g g (i + 1) i (L.length - 1 - i))))))) := by rw [ef49, va_up_ne _ _ (gh_ne h48 h47 (by intro h; cases h))]; exact h48
    have h51 : f49 a = some (.inr (6, [.int (m0 + (nI 1)), .ref e, .int (nI (L.length - 1))])) := by rw [ef49]; exact va_up_self _ _ _
    have hF : gFr f f49 [a, e] := by rw [ef49]; exact gFr.upA (by simp) hF
    refine lv_null S.1 S.2.1 d_AL_fastRemove_41 ?_
    refine gh_aastN (j := L.length - 1) S hI 4 h50 rfl rfl (by omega) (by omega) d_AL_fastRemove_42 (fun H locs hI => ?_)
    have hI : gB P (va_up f49 e (some (.inl (P.2.1 4, cap, .inr (.inr (.inr (.inr (va_up (va_cpy g g (i + 1) i (L.length - 1 - i)) (L.length - 1) none)))))))) s H locs := hI
    obtain ⟨f52, ef52⟩ : ∃ z, z = va_up f49 e (some (.inl (P.2.1 4, cap, .inr (.inr (.inr (.inr (va_up (va_cpy g g (i + 1) i (L.length - 1 - i)) (L.length - 1) none))))))) := ⟨_, rfl⟩
    rw [← ef52] at hI
    have h53 : f52 a = some (.inr (6, [.int (m0 + (nI 1)), .ref e, .int (nI (L.length - 1))])) := by rw [ef52, va_up_ne _ _ (gh_ne h51 h50 (by intro h; cases h))]; exact h51
    have h54 : f52 e = some (.inl (P.2.1 4, cap, .inr (.inr (.inr (.inr (va_up (va_cpy g g (i + 1) i (L.length - 1 - i)) (L.length - 1) none)))))) := by rw [ef52]; exact va_up_self _ _ _
    have hF : gFr f f52 [a, e] := by rw [ef52]; exact gFr.upA (by simp) hF
    have hlen : (L.eraseIdx i).length = L.length - 1 := List.length_eraseIdx_of_lt hi
    exact gr_v S hr hlk hI (⟨⟨⟨_, by rw [hlen]; exact h53⟩, Or.inr ⟨by omega, _, h54, by rw [hlen]; omega, l_erase hi rfl hg⟩⟩, hF⟩) d_AL_fastRemove_43
set_option maxHeartbeats 4000000 in
set_option maxRecDepth 100000 in
theorem c_AL_remove (l : Launch) (P : gPar) (f : gM) {a e cap i k : Nat} {L : List Nat} (h : gLi P f a e cap L) (hi : i < L.length) (hc : cap < 2 ^ 20) (hEl : gEl k f L) (hFL : ∀ y ∈ L, y ∉ [a, e]) : gC l P y_AL_remove b_AL_remove 4 (some (.object "java/lang/Object")) 2 0 0 [.ref a, .int (nI i)] f (gQq P (fun r f1 => ∃ y, r = some y ∧ L[i]? = some y ∧ gLi P f1 a e cap (L.eraseIdx i) ∧ gFr f f1 [a, e])) := by
  refine gC_of (by decide) (Nat.le_of_ble_eq_true rfl) (fun p env s m args below meth c S hr hlk hnm H locs hI ls hl => ?_)
  have hl : lv_has ls 4 [(0, .ref a), (1, .int (nI i))] := hl
  obtain ⟨⟨m0, ha⟩, h2⟩ := id h
  obtain ⟨g, he, hle, hg⟩ := h.ar hi
  refine lv_iload_n S.1 S.2.1 d_AL_remove_0 rfl (lv_at hl 1 rfl) ?_
  refine lv_aload_n S.1 S.2.1 d_AL_remove_1 rfl (lv_at hl 0 rfl) ?_
  refine gh_get S hI ha rfl i_AL 2 (by decide) wi_54 rfl d_AL_remove_2 ?_
  refine gc_Si S hI (c_Objs_checkIndex l P f (i := i) (n := L.length) hi (by omega)) kv_Objs_checkIndex wi_146 rfl hl.1 rfl (Nat.le_of_ble_eq_true rfl) ⟨Nat.le_of_ble_eq_true rfl, Nat.le_of_ble_eq_true rfl⟩ ⟨Nat.le_of_ble_eq_true rfl, Nat.le_of_ble_eq_true rfl⟩ d_AL_remove_5 (fun r55 f56 H locs hp57 hI => ?_)
  obtain ⟨hp1, hp2⟩ := hp57
  subst hp1
  rw [hp2] at hI
  refine lv_pop S.1 S.2.1 d_AL_remove_8 rfl ?_
  refine lv_aload_n S.1 S.2.1 d_AL_remove_9 rfl (lv_at hl 0 rfl) ?_
  refine gh_get S hI ha rfl i_AL 1 (by decide) wi_53 rfl d_AL_remove_10 ?_
  refine lv_astore_n (lv' := [(2, .ref e), (0, .ref a), (1, .int (nI i))]) S.1 S.2.1 d_AL_remove_13 rfl hl (by decide) rfl (fun ls hl => ?_)
  refine lv_aload_n S.1 S.2.1 d_AL_remove_14 rfl (lv_at hl 0 rfl) ?_
  refine lv_iload_n S.1 S.2.1 d_AL_remove_15 rfl (lv_at hl 2 rfl) ?_
  obtain ⟨x, hx⟩ : ∃ x, L[i]? = some x := ⟨_, List.getElem?_eq_getElem hi⟩
  refine gh_aald (j := i) S hI 4 he rfl rfl (by omega) (by omega) d_AL_remove_16 ?_
  rw [show va_rf (g i) = .ref x from by rw [(hg i hi).trans hx]; rfl]
  refine lv_astore_n (lv' := [(3, .ref x), (2, .ref e), (0, .ref a), (1, .int (nI i))]) S.1 S.2.1 d_AL_remove_17 rfl hl (by decide) rfl (fun ls hl => ?_)
  refine lv_aload_n S.1 S.2.1 d_AL_remove_18 rfl (lv_at hl 2 rfl) ?_
  refine lv_aload_n S.1 S.2.1 d_AL_remove_19 rfl (lv_at hl 1 rfl) ?_
  refine lv_iload_n S.1 S.2.1 d_AL_remove_20 rfl (lv_at hl 3 rfl) ?_
  refine gc_Vv S hI (c_AL_fastRemove l P f h hi hc hEl hFL) kv_AL_fastRemove wi_204 ha rfl rfl rfl hl.1 rfl (Nat.le_of_ble_eq_true rfl) ⟨Nat.le_of_ble_eq_true rfl, Nat.le_of_ble_eq_true rfl⟩ ⟨Nat.le_of_ble_eq_true rfl, Nat.le_of_ble_eq_true rfl⟩ d_AL_remove_21 (fun f59 H locs hp60 hI => ?_)
  refine lv_aload_n S.1 S.2.1 d_AL_remove_24 rfl (lv_at hl 0 rfl) ?_
  exact gr_r S hr (Or.inl ⟨_, rfl⟩) hlk hI (⟨hx, hp60.1, hp60.2⟩) d_AL_remove_25
set_option maxHeartbeats 4000000 in
set_option maxRecDepth 100000 in
theorem c_ASup_newLength (l : Launch) (P : gPar) (f : gM) {n x y : Nat} (h0 : 0 < n) (hn : n < 2 ^ 20) (hx : x < 2 ^ 20) (hy : y < 2 ^ 20) : gC l P y_ASup_newLength b_ASup_newLength 4 (some .int) 1 0 0 [.int (nI n), .int (nI x), .int (nI y)] f (gQi P (fun r f1 => r = nI (n + max x y) ∧ f1 = f)) := by
  refine gC_of (by decide) (Nat.le_of_ble_eq_true rfl) (fun p env s m args below meth c S hr hlk hnm H locs hI ls hl => ?_)
  have hl : lv_has ls 4 [(0, .int (nI n)), (1, .int (nI x)), (2, .int (nI y))] := hl
  refine lv_iload_n S.1 S.2.1 d_ASup_newLength_0 rfl (lv_at hl 0 rfl) ?_
  refine lv_iload_n S.1 S.2.1 d_ASup_newLength_1 rfl (lv_at hl 1 rfl) ?_
  refine lv_iload_n S.1 S.2.1 d_ASup_newLength_2 rfl (lv_at hl 2 rfl) ?_
  refine gc_max S wi_229 hl.1 d_ASup_newLength_3 (by omega) (by omega) (Nat.le_of_ble_eq_true rfl) (Nat.le_of_ble_eq_true rfl) (Nat.le_of_ble_eq_true rfl) (Nat.le_of_ble_eq_true rfl) ?_
  refine lv_iadd S.1 S.2.1 d_ASup_newLength_6 ?_
  refine lv_topi (fun v61 ev61 => ?_)
  replace ev61 : v61 = nI (n + (max x y)) := ev61.trans (nI_add _ _)
  subst ev61
  refine lv_istore_n (lv' := [(3, .int (nI (n + (max x y)))), (0, .int (nI n)), (1, .int (nI x)), (2, .int (nI y))]) S.1 S.2.1 d_ASup_newLength_7 rfl hl (by decide) rfl (fun ls hl => ?_)
  refine lv_iconst (v := nI 0) S.1 S.2.1 d_ASup_newLength_8 (by decide) ?_
  refine lv_iload_n S.1 S.2.1 d_ASup_newLength_9 rfl (lv_at hl 0 rfl) ?_
  refine lv_icmp_ge (tgt := 21) S.1 S.2.1 d_ASup_newLength_10 (by decide) (fun c62 => ?_) (fun c62 => ?_)
  · skip
    replace c62 : (n + (max x y)) ≤ 0 := (nI_leI (a := n + (max x y)) (b := 0) (by omega) (by omega)).mp c62
    exact absurd c62 (by omega)
  · skip
    replace c62 : ¬ (n + (max x y)) ≤ 0 := fun z => c62 ((nI_leI (a := n + (max x y)) (b := 0) (by omega) (by omega)).mpr z)
    refine lv_iload_n S.1 S.2.1 d_ASup_newLength_13 rfl (lv_at hl 0 rfl) ?_
    refine lv_ldc (v := nI 2147483639) S.1 S.2.1 S.2.2.2.1 (S.2.2.2.2 _ wi_232) d_ASup_newLength_14 ?_
    refine lv_icmp_gt (tgt := 21) S.1 S.2.1 d_ASup_newLength_16 (by decide) (fun c63 => ?_) (fun c63 => ?_)
    · skip
      replace c63 : 2147483639 < (n + (max x y)) := (nI_ltI (a := 2147483639) (b := n + (max x y)) (by omega) (by omega)).mp c63
      exact absurd c63 (by omega)
    · skip
      replace c63 : ¬ 2147483639 < (n + (max x y)) := fun z => c63 ((nI_ltI (a := 2147483639) (b := n + (max x y)) (by omega) (by omega)).mpr z)
      refine lv_iload_n S.1 S.2.1 d_ASup_newLength_19 rfl (lv_at hl 0 rfl) ?_
      exact gr_i S hr hlk hI (⟨rfl, rfl⟩) d_ASup_newLength_20
set_option maxHeartbeats 4000000 in
set_option maxRecDepth 100000 in
theorem c_Arrs_copyOf2 (l : Launch) (P : gPar) (f : gM) {e cap n k : Nat} {L : List Nat} (h : gAr P f e cap L) (hL : L.length = cap) (hn : cap ≤ n) (hm : n ≤ 300) (hEl : gEl k f L) : gC l P y_Arrs_copyOf2 b_Arrs_copyOf2 4 (some (.array (.object "java/lang/Object"))) 1 1 300 [.ref e, .int (nI n), .ref P.2.2.2.2] f (gQq P (fun r f1 => ∃ y, r = some y ∧ gNew f y ∧ gAr P f1 y n L ∧ gFr f f1 [])) := by
  refine gC_of (by decide) (Nat.le_of_ble_eq_true rfl) (fun p env s m args below meth c S hr hlk hnm H locs hI ls hl => ?_)
  have hl : lv_has ls 4 [(0, .ref e), (1, .int (nI n)), (2, .ref P.2.2.2.2)] := hl
  have hF : gFr f f [] := gFr.rf
  obtain ⟨g, he, hle, hg⟩ := id h
  refine lv_aload_n S.1 S.2.1 d_Arrs_copyOf2_0 rfl (lv_at hl 2 rfl) ?_
  refine gh_ldcM S hI wi_254 d_Arrs_copyOf2_1 ?_
  refine gh_acmpne S d_Arrs_copyOf2_3 (tgt := 13) (by decide) ?_
  refine lv_iload_n S.1 S.2.1 d_Arrs_copyOf2_6 rfl (lv_at hl 1 rfl) ?_
  obtain ⟨z0, hz⟩ : ∃ z, H.size = z := ⟨_, rfl⟩
  have hnw := gB_new hI hz
  refine gh_newqOZ (n := n) S hI hz wi_255 rfl (by omega) (Nat.le_of_ble_eq_true rfl) (by show _ ≤ 300; omega) d_Arrs_copyOf2_7 (fun H hn64 hz hI => ?_)
  replace hz : H.size = z0 + 1 := hz
  have hI : gB P (va_up f z0 (some (.inl (P.2.1 4, n, .inr (.inr (.inr (.inr (fun _ => none)))))))) s H locs := hI
  obtain ⟨f65, ef65⟩ : ∃ z, z = va_up f z0 (some (.inl (P.2.1 4, n, .inr (.inr (.inr (.inr (fun _ => none))))))) := ⟨_, rfl⟩
  rw [← ef65] at hI
  have h66 : f65 e = some (.inl (P.2.1 4, cap, .inr (.inr (.inr (.inr g))))) := by rw [ef65, va_up_ne _ _ (gh_ne he hn64 (by intro h; cases h))]; exact he
  have h67 : f65 z0 = some (.inl (P.2.1 4, n, .inr (.inr (.inr (.inr (fun _ => none)))))) := by rw [ef65]; exact va_up_self _ _ _
  have hF : gFr f f65 [] := by rw [ef65]; exact gFr.upN hn64 hF
  refine W.widen (k := 1) (n := 300) (by omega) (by omega) ?_
  have hel := hEl.fr hF (fun y hy => by simp)
  refine lv_goto (tgt := 24) S.1 S.2.1 d_Arrs_copyOf2_10 (by decide) ?_
  refine lv_astore_n (lv' := [(3, .ref z0), (0, .ref e), (1, .int (nI n)), (2, .ref P.2.2.2.2)]) S.1 S.2.1 d_Arrs_copyOf2_24 rfl hl (by decide) rfl (fun ls hl => ?_)
  refine lv_aload_n S.1 S.2.1 d_Arrs_copyOf2_25 rfl (lv_at hl 1 rfl) ?_
  refine lv_iconst (v := nI 0) S.1 S.2.1 d_Arrs_copyOf2_26 (by decide) ?_
  refine lv_aload_n S.1 S.2.1 d_Arrs_copyOf2_27 rfl (lv_at hl 0 rfl) ?_
  refine lv_iconst (v := nI 0) S.1 S.2.1 d_Arrs_copyOf2_28 (by decide) ?_
  refine lv_aload_n S.1 S.2.1 d_Arrs_copyOf2_29 rfl (lv_at hl 1 rfl) ?_
  refine gh_alen S hI 4 h66 rfl d_Arrs_copyOf2_30 ?_
  refine lv_iload_n S.1 S.2.1 d_Arrs_copyOf2_31 rfl (lv_at hl 2 rfl) ?_
  refine gc_min S wi_256 hl.1 d_Arrs_copyOf2_32 (by omega) (by omega) (Nat.le_of_ble_eq_true rfl) (Nat.le_of_ble_eq_true rfl) (Nat.le_of_ble_eq_true rfl) (Nat.le_of_ble_eq_true rfl) ?_
  refine gh_copyq (sp := 0) (dp := 0) (n := min cap n) S hI hl.1 wi_257 wi_113 wi_112 wi_9 4 h66 h67 rfl rfl rfl rfl (by omega) (by omega) (by omega) (by omega) (fun j hj y hy => hel.any (p := p) hI (List.mem_of_getElem? (i := j) ((hg j (by omega)).symm.trans (by rw [← hy, Nat.zero_add])))) (Nat.le_of_ble_eq_true rfl) (Nat.le_of_ble_eq_true rfl) d_Arrs_copyOf2_35 (fun H locs hI => ?_)
  have hI : gB P (va_up f65 z0 (some (.inl (P.2.1 4, n, .inr (.inr (.inr (.inr (va_cpy g (fun _ => none) 0 0 (min cap n))))))))) s H locs := hI
  obtain ⟨f68, ef68⟩ : ∃ z, z = va_up f65 z0 (some (.inl (P.2.1 4, n, .inr (.inr (.inr (.inr (va_cpy g (fun _ => none) 0 0 (min cap n)))))))) := ⟨_, rfl⟩
  rw [← ef68] at hI
  have h69 : f68 e = some (.inl (P.2.1 4, cap, .inr (.inr (.inr (.inr g))))) := by rw [ef68, va_up_ne _ _ (gh_ne he hn64 (by intro h; cases h))]; exact h66
  have h70 : f68 z0 = some (.inl (P.2.1 4, n, .inr (.inr (.inr (.inr (va_cpy g (fun _ => none) 0 0 (min cap n))))))) := by rw [ef68]; exact va_up_self _ _ _
  have hF : gFr f f68 [] := by rw [ef68]; exact gFr.call hF (gFr.upA (l := [z0]) (by simp) gFr.rf) (fun q hq => Or.inr (by rw [List.mem_singleton.mp hq]; exact hn64))
  refine lv_aload_n S.1 S.2.1 d_Arrs_copyOf2_38 rfl (lv_at hl 0 rfl) ?_
  exact gr_r S hr (Or.inr ⟨_, rfl⟩) hlk hI (⟨hnw, ⟨_, h70, by omega, fun i hi => by rw [pk_cpy_in (by omega) (by omega), Nat.zero_add, Nat.sub_zero]; exact hg i hi⟩, fun q v hq hl => by first | exact hF q v hq hl | exact hF q v hq (by simp)⟩) d_Arrs_copyOf2_39
set_option maxHeartbeats 4000000 in
set_option maxRecDepth 100000 in
theorem c_Arrs_copyOf1 (l : Launch) (P : gPar) (f : gM) {e cap n k : Nat} {L : List Nat} (h : gAr P f e cap L) (hL : L.length = cap) (hn : cap ≤ n) (hm : n ≤ 300) (hEl : gEl k f L) : gC l P y_Arrs_copyOf1 b_Arrs_copyOf1 2 (some (.array (.object "java/lang/Object"))) 2 1 300 [.ref e, .int (nI n)] f (gQq P (fun r f1 => ∃ y, r = some y ∧ gNew f y ∧ gAr P f1 y n L ∧ gFr f f1 [])) := by
  refine gC_of (by decide) (Nat.le_of_ble_eq_true rfl) (fun p env s m args below meth c S hr hlk hnm H locs hI ls hl => ?_)
  have hl : lv_has ls 2 [(0, .ref e), (1, .int (nI n))] := hl
  obtain ⟨g, he, hle, hg⟩ := id h
  refine lv_aload_n S.1 S.2.1 d_Arrs_copyOf1_0 rfl (lv_at hl 0 rfl) ?_
  refine lv_iload_n S.1 S.2.1 d_Arrs_copyOf1_1 rfl (lv_at hl 1 rfl) ?_
  refine lv_aload_n S.1 S.2.1 d_Arrs_copyOf1_2 rfl (lv_at hl 0 rfl) ?_
  refine gh_getC S hI hl.1 he wi_239 wi_533 wi_240 wi_250 (Nat.le_of_ble_eq_true rfl) (Nat.le_of_ble_eq_true rfl) d_Arrs_copyOf1_3 ?_
  refine gc_Sr S hI (c_Arrs_copyOf2 l P f h hL hn hm hEl) kv_Arrs_copyOf2 wi_251 rfl hl.1 rfl (Nat.le_of_ble_eq_true rfl) ⟨Nat.le_of_ble_eq_true rfl, Nat.le_of_ble_eq_true rfl⟩ ⟨Nat.le_of_ble_eq_true rfl, Nat.le_of_ble_eq_true rfl⟩ d_Arrs_copyOf1_6 (fun r71 f72 H locs hp73 hI => ?_)
  exact gr_r S hr (Or.inr ⟨_, rfl⟩) hlk hI (hp73) d_Arrs_copyOf1_9
set_option maxHeartbeats 4000000 in
set_option maxRecDepth 100000 in
theorem c_AL_grow2 (l : Launch) (P : gPar) (f : gM) {a e cap k : Nat} {L : List Nat} (h : gLi P f a e cap L) (hf : L.length = cap) (hc : cap ≤ 130) (hEl : gEl k f L) (hFL : ∀ y ∈ L, y ∉ [a]) : gC l P y_AL_grow2 b_AL_grow2 4 (some (.array (.object "java/lang/Object"))) 3 1 300 [.ref a, .int (nI (L.length + 1))] f (gQq P (fun r f1 => ∃ y, r = some y ∧ gNew f y ∧ (∃ m : Int32, f1 a = some (.inr (6, [.int m, .ref y, .int (nI L.length)]))) ∧ (∃ cap1, gAr P f1 y cap1 L ∧ L.length < cap1 ∧ cap1 ≤ 200) ∧ gFr f f1 [a])) := by
  refine gC_of (by decide) (Nat.le_of_ble_eq_true rfl) (fun p env s m args below meth c S hr hlk hnm H locs hI ls hl => ?_)
  have hl : lv_has ls 4 [(0, .ref a), (1, .int (nI (L.length + 1)))] := hl
  have hF : gFr f f [a] := gFr.rf
  obtain ⟨⟨m0, ha⟩, h2⟩ := id h
  rcases h2 with ⟨rfl, rfl, rfl⟩ | ⟨hcp, h2⟩
  · skip
    refine lv_aload_n S.1 S.2.1 d_AL_grow2_0 rfl (lv_at hl 0 rfl) ?_
    refine gh_get S hI ha rfl i_AL 1 (by decide) wi_53 rfl d_AL_grow2_1 ?_
    refine gh_zlen S hI d_AL_grow2_4 ?_
    refine lv_istore_n (lv' := [(2, .int (nI 0)), (0, .ref a), (1, .int (nI (0 + 1)))]) S.1 S.2.1 d_AL_grow2_5 rfl hl (by decide) rfl (fun ls hl => ?_)
    refine lv_iload_n S.1 S.2.1 d_AL_grow2_6 rfl (lv_at hl 0 rfl) ?_
    refine lv_if_gt (tgt := 20) S.1 S.2.1 d_AL_grow2_7 (by decide) (fun c74 => ?_) (fun c74 => ?_)
    · skip
      replace c74 : 0 < 0 := (nI_ltI (a := 0) (b := 0) (by omega) (by omega)).mp c74
      exact absurd c74 (by omega)
    · skip
      replace c74 : ¬ 0 < 0 := fun z => c74 ((nI_ltI (a := 0) (b := 0) (by omega) (by omega)).mpr z)
      refine lv_aload_n S.1 S.2.1 d_AL_grow2_10 rfl (lv_at hl 1 rfl) ?_
      refine gh_get S hI ha rfl i_AL 1 (by decide) wi_53 rfl d_AL_grow2_11 ?_
      refine gh_gets0 S hI wi_52 d_AL_grow2_14 ?_
      refine gh_acmpeq S d_AL_grow2_17 (tgt := 45) (by decide) ?_
      refine lv_aload_n S.1 S.2.1 d_AL_grow2_45 rfl (lv_at hl 1 rfl) ?_
      refine lv_bipush (v := nI 10) S.1 S.2.1 d_AL_grow2_46 (by decide) ?_
      refine lv_iload_n S.1 S.2.1 d_AL_grow2_48 rfl (lv_at hl 2 rfl) ?_
      refine gc_max S wi_258 hl.1 d_AL_grow2_49 (by omega) (by omega) (Nat.le_of_ble_eq_true rfl) (Nat.le_of_ble_eq_true rfl) (Nat.le_of_ble_eq_true rfl) (Nat.le_of_ble_eq_true rfl) ?_
      have e10 : max 10 (0 + 1) = 10 := rfl
      rw [e10]
      obtain ⟨z0, hz⟩ : ∃ z, H.size = z := ⟨_, rfl⟩
      have hnw := gB_new hI hz
      refine gh_newqOZ (n := 10) S hI hz wi_259 rfl (by omega) (Nat.le_of_ble_eq_true rfl) (Nat.le_of_ble_eq_true rfl) d_AL_grow2_52 (fun H hn75 hz hI => ?_)
      replace hz : H.size = z0 + 1 := hz
      have hI : gB P (va_up f z0 (some (.inl (P.2.1 4, 10, .inr (.inr (.inr (.inr (fun _ => none)))))))) s H locs := hI
      obtain ⟨f76, ef76⟩ : ∃ z, z = va_up f z0 (some (.inl (P.2.1 4, 10, .inr (.inr (.inr (.inr (fun _ => none))))))) := ⟨_, rfl⟩
      rw [← ef76] at hI
      have h77 : f76 a = some (.inr (6, [.int m0, .ref P.2.2.2.1, .int (nI 0)])) := by rw [ef76, va_up_ne _ _ (gh_ne ha hn75 (by intro h; cases h))]; exact ha
      have h78 : f76 z0 = some (.inl (P.2.1 4, 10, .inr (.inr (.inr (.inr (fun _ => none)))))) := by rw [ef76]; exact va_up_self _ _ _
      have hF : gFr f f76 [a] := by rw [ef76]; exact gFr.upN hn75 hF
      refine lv_dup_x1 S.1 S.2.1 d_AL_grow2_55 rfl rfl ?_
      refine gh_put S hI h77 rfl i_AL t_AL tk_AL n_AL 1 (by decide) wi_53 rfl rfl rfl (Nat.le_of_ble_eq_true rfl) d_AL_grow2_56 (fun H locs hI => ?_)
      have hI : gB P (va_up f76 a (some (.inr (6, [.int m0, .ref z0, .int (nI 0)])))) s H locs := hI
      obtain ⟨f79, ef79⟩ : ∃ z, z = va_up f76 a (some (.inr (6, [.int m0, .ref z0, .int (nI 0)]))) := ⟨_, rfl⟩
      rw [← ef79] at hI
      have h80 : f79 z0 = some (.inl (P.2.1 4, 10, .inr (.inr (.inr (.inr (fun _ => none)))))) := by rw [ef79, va_up_ne _ _ (Ne.symm (gh_nn ha hn75))]; exact h78
      have h81 : f79 a = some (.inr (6, [.int m0, .ref z0, .int (nI 0)])) := by rw [ef79]; exact va_up_self _ _ _
      have hF : gFr f f79 [a] := by rw [ef79]; exact gFr.upA (by simp) hF
      refine W.widen (k := 1) (n := 300) (by omega) (by omega) ?_
      exact gr_r S hr (Or.inr ⟨_, rfl⟩) hlk hI (⟨hnw, ⟨m0, h81⟩, ⟨10, ⟨_, h80, by simp, fun i hi => absurd hi (by simp)⟩, by simp, by omega⟩, hF⟩) d_AL_grow2_59
  · skip
    obtain ⟨g, he, hle, hg⟩ := id h2
    refine lv_aload_n S.1 S.2.1 d_AL_grow2_0 rfl (lv_at hl 0 rfl) ?_
    refine gh_get S hI ha rfl i_AL 1 (by decide) wi_53 rfl d_AL_grow2_1 ?_
    refine gh_alen S hI 4 he rfl d_AL_grow2_4 ?_
    refine lv_istore_n (lv' := [(2, .int (nI cap)), (0, .ref a), (1, .int (nI (L.length + 1)))]) S.1 S.2.1 d_AL_grow2_5 rfl hl (by decide) rfl (fun ls hl => ?_)
    refine lv_iload_n S.1 S.2.1 d_AL_grow2_6 rfl (lv_at hl 0 rfl) ?_
    refine lv_if_gt (tgt := 20) S.1 S.2.1 d_AL_grow2_7 (by decide) (fun c82 => ?_) (fun c82 => ?_)
    · skip
      replace c82 : 0 < cap := (nI_ltI (a := 0) (b := cap) (by omega) (by omega)).mp c82
      have h0 : 0 < cap := by omega
      refine lv_iload_n S.1 S.2.1 d_AL_grow2_20 rfl (lv_at hl 0 rfl) ?_
      refine lv_iload_n S.1 S.2.1 d_AL_grow2_21 rfl (lv_at hl 2 rfl) ?_
      refine lv_iload_n S.1 S.2.1 d_AL_grow2_22 rfl (lv_at hl 0 rfl) ?_
      refine lv_isub S.1 S.2.1 d_AL_grow2_23 ?_
      refine lv_topi (fun v83 ev83 => ?_)
      replace ev83 : v83 = nI ((L.length + 1) - cap) := ev83.trans (pk_sub (by omega))
      subst ev83
      refine lv_iload_n S.1 S.2.1 d_AL_grow2_24 rfl (lv_at hl 0 rfl) ?_
      refine lv_iconst (v := nI 1) S.1 S.2.1 d_AL_grow2_25 (by decide) ?_
      refine lv_ishr S.1 S.2.1 d_AL_grow2_26 ?_
      refine lv_topi (fun v84 ev84 => ?_)
      replace ev84 : v84 = nI (cap / 2) := ev84.trans (pk_shrN (by omega) (nI 1 &&& 31) 1 (by decide))
      subst ev84
      refine gc_Si S hI (c_ASup_newLength l P f (n := cap) (x := L.length + 1 - cap) (y := cap / 2) h0 (by omega) (by omega) (by omega)) kv_ASup_newLength wi_226 rfl hl.1 rfl (Nat.le_of_ble_eq_true rfl) ⟨Nat.le_of_ble_eq_true rfl, Nat.le_of_ble_eq_true rfl⟩ ⟨Nat.le_of_ble_eq_true rfl, Nat.le_of_ble_eq_true rfl⟩ d_AL_grow2_27 (fun r85 f86 H locs hp87 hI => ?_)
      obtain ⟨hp1, hp2⟩ := hp87
      subst hp1
      rw [hp2] at hI
      obtain ⟨nn, hnn⟩ : ∃ z, z = cap + max (L.length + 1 - cap) (cap / 2) := ⟨_, rfl⟩
      rw [← hnn]
      have hn1 : cap < nn ∧ nn ≤ 200 := by omega
      refine lv_istore_n (lv' := [(3, .int (nI nn)), (2, .int (nI cap)), (0, .ref a), (1, .int (nI (L.length + 1)))]) S.1 S.2.1 d_AL_grow2_30 rfl hl (by decide) rfl (fun ls hl => ?_)
      refine lv_aload_n S.1 S.2.1 d_AL_grow2_31 rfl (lv_at hl 2 rfl) ?_
      refine lv_aload_n S.1 S.2.1 d_AL_grow2_32 rfl (lv_at hl 2 rfl) ?_
      refine gh_get S hI ha rfl i_AL 1 (by decide) wi_53 rfl d_AL_grow2_33 ?_
      refine lv_iload_n S.1 S.2.1 d_AL_grow2_36 rfl (lv_at hl 0 rfl) ?_
      refine gc_Sr S hI (c_Arrs_copyOf1 l P f (n := nn) h2 hf (by omega) (by omega) hEl) kv_Arrs_copyOf1 wi_236 rfl hl.1 rfl (Nat.le_of_ble_eq_true rfl) ⟨Nat.le_of_ble_eq_true rfl, Nat.le_of_ble_eq_true rfl⟩ ⟨Nat.le_of_ble_eq_true rfl, Nat.le_of_ble_eq_true rfl⟩ d_AL_grow2_37 (fun r88 f89 H locs hp90 hI => ?_)
      obtain ⟨hp1, hp2, hp3⟩ := hp90
      have hF := hF.call hp3 (fun q hq => absurd hq (by simp))
      have ha1 := hp3 a _ ha (by simp)
      obtain ⟨g1, he1, hle1, hg1⟩ := hp2
      refine lv_dup_x1 S.1 S.2.1 d_AL_grow2_40 rfl rfl ?_
      refine gh_put S hI ha1 rfl i_AL t_AL tk_AL n_AL 1 (by decide) wi_53 rfl rfl rfl (Nat.le_of_ble_eq_true rfl) d_AL_grow2_41 (fun H locs hI => ?_)
      have hI : gB P (va_up f89 a (some (.inr (6, [.int m0, .ref r88, .int (nI L.length)])))) s H locs := hI
      obtain ⟨f91, ef91⟩ : ∃ z, z = va_up f89 a (some (.inr (6, [.int m0, .ref r88, .int (nI L.length)]))) := ⟨_, rfl⟩
      rw [← ef91] at hI
      have h92 : f91 r88 = some (.inl (P.2.1 4, nn, .inr (.inr (.inr (.inr g1))))) := by rw [ef91, va_up_ne _ _ (gh_ne he1 ha1 (by intro h; cases h))]; exact he1
      have h93 : f91 a = some (.inr (6, [.int m0, .ref r88, .int (nI L.length)])) := by rw [ef91]; exact va_up_self _ _ _
      have hF : gFr f f91 [a] := by rw [ef91]; exact gFr.upA (by simp) hF
      exact gr_r S hr (Or.inr ⟨_, rfl⟩) hlk hI (⟨hp1, ⟨m0, h93⟩, ⟨nn, ⟨g1, h92, hle1, hg1⟩, by omega, hn1.2⟩, hF⟩) d_AL_grow2_44
    · skip
      replace c82 : ¬ 0 < cap := fun z => c82 ((nI_ltI (a := 0) (b := cap) (by omega) (by omega)).mpr z)
      exact absurd hcp (by omega)
set_option maxHeartbeats 4000000 in
set_option maxRecDepth 100000 in
theorem c_AL_grow1 (l : Launch) (P : gPar) (f : gM) {a e cap k : Nat} {L : List Nat} (h : gLi P f a e cap L) (hf : L.length = cap) (hc : cap ≤ 130) (hEl : gEl k f L) (hFL : ∀ y ∈ L, y ∉ [a]) : gC l P y_AL_grow1 b_AL_grow1 1 (some (.array (.object "java/lang/Object"))) 4 1 300 [.ref a] f (gQq P (fun r f1 => ∃ y, r = some y ∧ gNew f y ∧ (∃ m : Int32, f1 a = some (.inr (6, [.int m, .ref y, .int (nI L.length)]))) ∧ (∃ cap1, gAr P f1 y cap1 L ∧ L.length < cap1 ∧ cap1 ≤ 200) ∧ gFr f f1 [a])) := by
  refine gC_of (by decide) (Nat.le_of_ble_eq_true rfl) (fun p env s m args below meth c S hr hlk hnm H locs hI ls hl => ?_)
  have hl : lv_has ls 1 [(0, .ref a)] := hl
  obtain ⟨⟨m0, ha⟩, h2⟩ := id h
  refine lv_aload_n S.1 S.2.1 d_AL_grow1_0 rfl (lv_at hl 0 rfl) ?_
  refine lv_aload_n S.1 S.2.1 d_AL_grow1_1 rfl (lv_at hl 0 rfl) ?_
  refine gh_get S hI ha rfl i_AL 2 (by decide) wi_54 rfl d_AL_grow1_2 ?_
  refine lv_iconst (v := nI 1) S.1 S.2.1 d_AL_grow1_5 (by decide) ?_
  refine lv_iadd S.1 S.2.1 d_AL_grow1_6 ?_
  refine lv_topi (fun v94 ev94 => ?_)
  replace ev94 : v94 = nI (L.length + 1) := ev94.trans (nI_add _ _)
  subst ev94
  refine gc_Vr S hI (c_AL_grow2 l P f h hf hc hEl hFL) kv_AL_grow2 wi_223 ha rfl rfl rfl hl.1 rfl (Nat.le_of_ble_eq_true rfl) ⟨Nat.le_of_ble_eq_true rfl, Nat.le_of_ble_eq_true rfl⟩ ⟨Nat.le_of_ble_eq_true rfl, Nat.le_of_ble_eq_true rfl⟩ d_AL_grow1_7 (fun r95 f96 H locs hp97 hI => ?_)
  exact gr_r S hr (Or.inr ⟨_, rfl⟩) hlk hI (hp97) d_AL_grow1_10
set_option maxHeartbeats 4000000 in
set_option maxRecDepth 100000 in
theorem c_AL_rangeCheckForAdd (l : Launch) (P : gPar) (f : gM) {a e cap i : Nat} {L : List Nat} (h : gLi P f a e cap L) (hi : i ≤ L.length) (hn : L.length < 2 ^ 31) : gC l P y_AL_rangeCheckForAdd b_AL_rangeCheckForAdd 2 none 0 0 0 [.ref a, .int (nI i)] f (gQv P (fun f1 => f1 = f)) := by
  refine gC_of (by decide) (Nat.le_of_ble_eq_true rfl) (fun p env s m args below meth c S hr hlk hnm H locs hI ls hl => ?_)
  have hl : lv_has ls 2 [(0, .ref a), (1, .int (nI i))] := hl
  obtain ⟨⟨m0, ha⟩, h2⟩ := id h
  refine lv_iload_n S.1 S.2.1 d_AL_rangeCheckForAdd_0 rfl (lv_at hl 1 rfl) ?_
  refine lv_aload_n S.1 S.2.1 d_AL_rangeCheckForAdd_1 rfl (lv_at hl 0 rfl) ?_
  refine gh_get S hI ha rfl i_AL 2 (by decide) wi_54 rfl d_AL_rangeCheckForAdd_2 ?_
  refine lv_icmp_gt (tgt := 12) S.1 S.2.1 d_AL_rangeCheckForAdd_5 (by decide) (fun c98 => ?_) (fun c98 => ?_)
  · skip
    replace c98 : L.length < i := (nI_ltI (a := L.length) (b := i) (by omega) (by omega)).mp c98
    exact absurd c98 (by omega)
  · skip
    replace c98 : ¬ L.length < i := fun z => c98 ((nI_ltI (a := L.length) (b := i) (by omega) (by omega)).mpr z)
    refine lv_iload_n S.1 S.2.1 d_AL_rangeCheckForAdd_8 rfl (lv_at hl 1 rfl) ?_
    refine lv_if_ge (tgt := 25) S.1 S.2.1 d_AL_rangeCheckForAdd_9 (by decide) (fun c99 => ?_) (fun c99 => ?_)
    · skip
      exact gr_v S hr hlk hI (rfl) d_AL_rangeCheckForAdd_25
    · skip
      exact absurd (nI_pos' (by omega)) c99
set_option maxHeartbeats 4000000 in
set_option maxRecDepth 100000 in
theorem c_AL_add3 (l : Launch) (P : gPar) (f : gM) {a e cap x k : Nat} {fs : List Value} {L : List Nat} (h : gLi P f a e cap L) (hc : cap ≤ 200) (hn : L.length ≤ 130) (hEl : gEl k f L) (hFL : ∀ y ∈ L, y ∉ [a, e]) (hx : f x = some (.inr (k, fs))) (hxa : x ≠ a) : gC l P y_AL_add3 b_AL_add3 4 none 5 1 300 [.ref a, .ref x, .ref e, .int (nI L.length)] f (gQv P (fun f1 => (∃ e1 cap1, gLi P f1 a e1 cap1 (L ++ [x]) ∧ cap1 ≤ 200 ∧ (e1 = e ∨ gNew f e1)) ∧ gFr f f1 [a, e] ∧ gDm f f1)) := by
  refine gC_of (by decide) (Nat.le_of_ble_eq_true rfl) (fun p env s m args below meth c S hr hlk hnm H locs hI ls hl => ?_)
  have hl : lv_has ls 4 [(0, .ref a), (1, .ref x), (2, .ref e), (3, .int (nI L.length))] := hl
  have hDm : gDm f f := gDm.rf
  have hF : gFr f f [a, e] := gFr.rf
  obtain ⟨⟨m0, ha⟩, h2⟩ := id h
  have hle0 := h.le
  by_cases hfull : L.length = cap
  · skip
    refine lv_iload_n S.1 S.2.1 d_AL_add3_0 rfl (lv_at hl 3 rfl) ?_
    refine lv_aload_n S.1 S.2.1 d_AL_add3_1 rfl (lv_at hl 2 rfl) ?_
    have hlenE : ∀ (st : List Value) (ls : Array Slot), W p l env (grm 5 1 300) s m args below meth c H locs 0 0 (MQ below (gQv P (fun f1 => (∃ e1 cap1, gLi P f1 a e1 cap1 (L ++ [x]) ∧ cap1 ≤ 200 ∧ (e1 = e ∨ gNew f e1)) ∧ gFr f f1 [a, e] ∧ gDm f f1)) args s 1 300 (gA P)) (F0 m 3 ls (.int (nI cap) :: st)) → W p l env (grm 5 1 300) s m args below meth c H locs 0 0 (MQ below (gQv P (fun f1 => (∃ e1 cap1, gLi P f1 a e1 cap1 (L ++ [x]) ∧ cap1 ≤ 200 ∧ (e1 = e ∨ gNew f e1)) ∧ gFr f f1 [a, e] ∧ gDm f f1)) args s 1 300 (gA P)) (F0 m 2 ls (.ref e :: st)) := by
      intro st ls kk
      rcases h2 with ⟨rfl, rfl, rfl⟩ | ⟨h0, g, he, hle, hg⟩
      · exact gh_zlen S hI d_AL_add3_2 kk
      · exact gh_alen S hI 4 he rfl d_AL_add3_2 kk
    refine hlenE _ _ ?_
    refine lv_icmp_ne (tgt := 11) S.1 S.2.1 d_AL_add3_3 (by decide) (fun c100 => ?_) (fun c100 => ?_)
    · skip
      replace c100 : ¬ L.length = cap := fun z => c100 ((nI_eq (a := L.length) (b := cap) (by omega) (by omega)).mpr z)
      exact absurd hfull c100
    · skip
      replace c100 : L.length = cap := (nI_eq (a := L.length) (b := cap) (by omega) (by omega)).mp c100
      refine lv_aload_n S.1 S.2.1 d_AL_add3_6 rfl (lv_at hl 0 rfl) ?_
      refine gc_Vr S hI (c_AL_grow1 l P f h hfull (by omega) hEl (fun y hy z => hFL y hy (by simp at z ⊢; exact Or.inl z))) kv_AL_grow1 wi_220 ha rfl rfl rfl hl.1 rfl (Nat.le_of_ble_eq_true rfl) ⟨Nat.le_of_ble_eq_true rfl, Nat.le_of_ble_eq_true rfl⟩ ⟨Nat.le_of_ble_eq_true rfl, Nat.le_of_ble_eq_true rfl⟩ d_AL_add3_7 (fun r101 f102 H locs hp103 hI => ?_)
      obtain ⟨hp1, ⟨m1, hp2⟩, ⟨cap1, ⟨g1, hp3, hp4, hp5⟩, hp6, hp7⟩, hp8⟩ := hp103
      have hF : gFr f f102 [a, e] := hp8.mono (by simp)
      have hDm : gDm f f102 := gDm.fr hp8 (fun c hc => by rw [List.mem_singleton.mp hc, hp2]; simp)
      have hx1 := hp8 x _ hx (by simp; exact hxa)
      refine lv_astore_n (lv' := [(2, .ref r101), (0, .ref a), (1, .ref x), (3, .int (nI L.length))]) S.1 S.2.1 d_AL_add3_10 rfl hl (by decide) rfl (fun ls hl => ?_)
      refine lv_aload_n S.1 S.2.1 d_AL_add3_11 rfl (lv_at hl 0 rfl) ?_
      refine lv_iload_n S.1 S.2.1 d_AL_add3_12 rfl (lv_at hl 3 rfl) ?_
      refine lv_aload_n S.1 S.2.1 d_AL_add3_13 rfl (lv_at hl 2 rfl) ?_
      refine gh_aastA (j := L.length) S hI hp3 hEl.1 hx1 rfl (by omega) (by omega) d_AL_add3_14 (fun H locs hI => ?_)
      have hI : gB P (va_up f102 r101 (some (.inl (P.2.1 4, cap1, .inr (.inr (.inr (.inr (va_up g1 L.length (some x))))))))) s H locs := hI
      obtain ⟨f104, ef104⟩ : ∃ z, z = va_up f102 r101 (some (.inl (P.2.1 4, cap1, .inr (.inr (.inr (.inr (va_up g1 L.length (some x)))))))) := ⟨_, rfl⟩
      rw [← ef104] at hI
      have h105 : f104 a = some (.inr (6, [.int m1, .ref r101, .int (nI L.length)])) := by rw [ef104, va_up_ne _ _ (gh_nn ha hp1.n)]; exact hp2
      have h106 : f104 x = some (.inr (k, fs)) := by rw [ef104, va_up_ne _ _ (gh_nn hx hp1.n)]; exact hx1
      have h107 : f104 r101 = some (.inl (P.2.1 4, cap1, .inr (.inr (.inr (.inr (va_up g1 L.length (some x))))))) := by rw [ef104]; exact va_up_self _ _ _
      have hDm : gDm f f104 := by rw [ef104]; exact hDm.up
      have hF : gFr f f104 [a, e] := by rw [ef104]; exact gFr.call hF (gFr.upA (l := [r101]) (by simp) gFr.rf) (fun q hq => Or.inr (by rw [List.mem_singleton.mp hq]; exact hp1.n))
      refine lv_aload_n S.1 S.2.1 d_AL_add3_15 rfl (lv_at hl 1 rfl) ?_
      refine lv_iload_n S.1 S.2.1 d_AL_add3_16 rfl (lv_at hl 3 rfl) ?_
      refine lv_iconst (v := nI 1) S.1 S.2.1 d_AL_add3_17 (by decide) ?_
      refine lv_iadd S.1 S.2.1 d_AL_add3_18 ?_
      refine lv_topi (fun v108 ev108 => ?_)
      replace ev108 : v108 = nI (L.length + 1) := ev108.trans (nI_add _ _)
      subst ev108
      refine gh_put S hI h105 rfl i_AL t_AL tk_AL n_AL 2 (by decide) wi_54 rfl rfl rfl (Nat.le_of_ble_eq_true rfl) d_AL_add3_19 (fun H locs hI => ?_)
      have hI : gB P (va_up f104 a (some (.inr (6, [.int m1, .ref r101, .int (nI (L.length + 1))])))) s H locs := hI
      obtain ⟨f109, ef109⟩ : ∃ z, z = va_up f104 a (some (.inr (6, [.int m1, .ref r101, .int (nI (L.length + 1))]))) := ⟨_, rfl⟩
      rw [← ef109] at hI
      have h110 : f109 x = some (.inr (k, fs)) := by rw [ef109, va_up_ne _ _ (hxa)]; exact h106
      have h111 : f109 r101 = some (.inl (P.2.1 4, cap1, .inr (.inr (.inr (.inr (va_up g1 L.length (some x))))))) := by rw [ef109, va_up_ne _ _ (Ne.symm (gh_nn ha hp1.n))]; exact h107
      have h112 : f109 a = some (.inr (6, [.int m1, .ref r101, .int (nI (L.length + 1))])) := by rw [ef109]; exact va_up_self _ _ _
      have hF : gFr f f109 [a, e] := by rw [ef109]; exact gFr.upA (by simp) hF
      have hDm : gDm f f109 := by rw [ef109]; exact hDm.up
      have hlen : (L ++ [x]).length = L.length + 1 := by simp
      exact gr_v S hr hlk hI (⟨⟨r101, cap1, ⟨⟨_, by rw [hlen]; exact h112⟩, Or.inr ⟨by omega, _, h111, by omega, l_push hp5⟩⟩, by omega, Or.inr hp1⟩, hF, hDm⟩) d_AL_add3_22
  · skip
    rcases h2 with ⟨rfl, rfl, rfl⟩ | ⟨h0, g, he, hle, hg⟩
    · exact absurd rfl hfull
    refine lv_iload_n S.1 S.2.1 d_AL_add3_0 rfl (lv_at hl 3 rfl) ?_
    refine lv_aload_n S.1 S.2.1 d_AL_add3_1 rfl (lv_at hl 2 rfl) ?_
    refine gh_alen S hI 4 he rfl d_AL_add3_2 ?_
    refine lv_icmp_ne (tgt := 11) S.1 S.2.1 d_AL_add3_3 (by decide) (fun c113 => ?_) (fun c113 => ?_)
    · skip
      replace c113 : ¬ L.length = cap := fun z => c113 ((nI_eq (a := L.length) (b := cap) (by omega) (by omega)).mpr z)
      refine W.widen (k := 1) (n := 300) (by omega) (by omega) ?_
      refine lv_aload_n S.1 S.2.1 d_AL_add3_11 rfl (lv_at hl 2 rfl) ?_
      refine lv_iload_n S.1 S.2.1 d_AL_add3_12 rfl (lv_at hl 3 rfl) ?_
      refine lv_aload_n S.1 S.2.1 d_AL_add3_13 rfl (lv_at hl 1 rfl) ?_
      refine gh_aastA (j := L.length) S hI he hEl.1 hx rfl (by omega) (by omega) d_AL_add3_14 (fun H locs hI => ?_)
      have hI : gB P (va_up f e (some (.inl (P.2.1 4, cap, .inr (.inr (.inr (.inr (va_up g L.length (some x))))))))) s H locs := hI
      obtain ⟨f114, ef114⟩ : ∃ z, z = va_up f e (some (.inl (P.2.1 4, cap, .inr (.inr (.inr (.inr (va_up g L.length (some x)))))))) := ⟨_, rfl⟩
      rw [← ef114] at hI
      have h115 : f114 a = some (.inr (6, [.int m0, .ref e, .int (nI L.length)])) := by rw [ef114, va_up_ne _ _ (gh_ne ha he (by intro h; cases h))]; exact ha
      have h116 : f114 x = some (.inr (k, fs)) := by rw [ef114, va_up_ne _ _ (gh_ne hx he (by intro h; cases h))]; exact hx
      have h117 : f114 e = some (.inl (P.2.1 4, cap, .inr (.inr (.inr (.inr (va_up g L.length (some x))))))) := by rw [ef114]; exact va_up_self _ _ _
      have hF : gFr f f114 [a, e] := by rw [ef114]; exact gFr.upA (by simp) hF
      have hDm : gDm f f114 := by rw [ef114]; exact hDm.up
      refine lv_aload_n S.1 S.2.1 d_AL_add3_15 rfl (lv_at hl 0 rfl) ?_
      refine lv_iload_n S.1 S.2.1 d_AL_add3_16 rfl (lv_at hl 3 rfl) ?_
      refine lv_iconst (v := nI 1) S.1 S.2.1 d_AL_add3_17 (by decide) ?_
      refine lv_iadd S.1 S.2.1 d_AL_add3_18 ?_
      refine lv_topi (fun v118 ev118 => ?_)
      replace ev118 : v118 = nI (L.length + 1) := ev118.trans (nI_add _ _)
      subst ev118
      refine gh_put S hI h115 rfl i_AL t_AL tk_AL n_AL 2 (by decide) wi_54 rfl rfl rfl (Nat.le_of_ble_eq_true rfl) d_AL_add3_19 (fun H locs hI => ?_)
      have hI : gB P (va_up f114 a (some (.inr (6, [.int m0, .ref e, .int (nI (L.length + 1))])))) s H locs := hI
      obtain ⟨f119, ef119⟩ : ∃ z, z = va_up f114 a (some (.inr (6, [.int m0, .ref e, .int (nI (L.length + 1))]))) := ⟨_, rfl⟩
      rw [← ef119] at hI
      have h120 : f119 x = some (.inr (k, fs)) := by rw [ef119, va_up_ne _ _ (hxa)]; exact h116
      have h121 : f119 e = some (.inl (P.2.1 4, cap, .inr (.inr (.inr (.inr (va_up g L.length (some x))))))) := by rw [ef119, va_up_ne _ _ (gh_ne h117 h115 (by intro h; cases h))]; exact h117
      have h122 : f119 a = some (.inr (6, [.int m0, .ref e, .int (nI (L.length + 1))])) := by rw [ef119]; exact va_up_self _ _ _
      have hF : gFr f f119 [a, e] := by rw [ef119]; exact gFr.upA (by simp) hF
      have hDm : gDm f f119 := by rw [ef119]; exact hDm.up
      have hlen : (L ++ [x]).length = L.length + 1 := by simp
      exact gr_v S hr hlk hI (⟨⟨e, cap, ⟨⟨_, by rw [hlen]; exact h122⟩, Or.inr ⟨by omega, _, h121, by omega, l_push hg⟩⟩, by omega, Or.inl rfl⟩, hF, hDm⟩) d_AL_add3_22
    · skip
      replace c113 : L.length = cap := (nI_eq (a := L.length) (b := cap) (by omega) (by omega)).mp c113
      exact absurd c113 hfull
theorem gFr_none {f f1 : gM} {l : List Nat} (h : gFr f f1 l) {q : Nat} (hl : ∀ v : Nat, q ∈ l → f1 q ≠ none) (z : f1 q = none) : f q = none := by
  cases hf : f q with
  | none => rfl
  | some v =>
    by_cases hq : q ∈ l
    · exact absurd z (hl 0 hq)
    · rw [h q v hf hq] at z; cases z
set_option maxHeartbeats 4000000 in
set_option maxRecDepth 100000 in
theorem c_AL_add2 (l : Launch) (P : gPar) (f : gM) {a e cap x k : Nat} {fs : List Value} {L : List Nat} (h : gLi P f a e cap L) (hc : cap ≤ 200) (hn : L.length ≤ 130) (hEl : gEl k f L) (hFL : ∀ y ∈ L, y ∉ [a, e]) (hx : f x = some (.inr (k, fs))) (hxa : x ≠ a) : gC l P y_AL_add2 b_AL_add2 2 (some .boolean) 6 1 300 [.ref a, .ref x] f (gQi P (fun r f1 => r = nI 1 ∧ (∃ e1 cap1, gLi P f1 a e1 cap1 (L ++ [x]) ∧ cap1 ≤ 200 ∧ (e1 = e ∨ gNew f e1)) ∧ gFr f f1 [a, e] ∧ gDm f f1)) := by
  refine gC_of (by decide) (Nat.le_of_ble_eq_true rfl) (fun p env s m args below meth c S hr hlk hnm H locs hI ls hl => ?_)
  have hl : lv_has ls 2 [(0, .ref a), (1, .ref x)] := hl
  have hDm : gDm f f := gDm.rf
  have hF : gFr f f [a, e] := gFr.rf
  obtain ⟨⟨m0, ha⟩, h2⟩ := id h
  refine lv_aload_n S.1 S.2.1 d_AL_add2_0 rfl (lv_at hl 0 rfl) ?_
  refine lv_dup S.1 S.2.1 d_AL_add2_1 rfl ?_
  refine gh_getS S hI ha rfl i_AL 0 (by decide) wi_57 wi_56 rfl d_AL_add2_2 ?_
  refine lv_iconst (v := nI 1) S.1 S.2.1 d_AL_add2_5 (by decide) ?_
  refine lv_iadd S.1 S.2.1 d_AL_add2_6 ?_
  refine gh_putS S hI ha rfl i_AL t_AL tk_AL n_AL 0 (by decide) wi_57 wi_56 rfl rfl rfl (Nat.le_of_ble_eq_true rfl) d_AL_add2_7 (fun H locs hI => ?_)
  have hI : gB P (va_up f a (some (.inr (6, [.int (m0 + (nI 1)), .ref e, .int (nI L.length)])))) s H locs := hI
  obtain ⟨f123, ef123⟩ : ∃ z, z = va_up f a (some (.inr (6, [.int (m0 + (nI 1)), .ref e, .int (nI L.length)]))) := ⟨_, rfl⟩
  rw [← ef123] at hI
  have h124 : f123 a = some (.inr (6, [.int (m0 + (nI 1)), .ref e, .int (nI L.length)])) := by rw [ef123]; exact va_up_self _ _ _
  have hF : gFr f f123 [a, e] := by rw [ef123]; exact gFr.upA (by simp) hF
  have hDm : gDm f f123 := by rw [ef123]; exact hDm.up
  refine lv_aload_n S.1 S.2.1 d_AL_add2_10 rfl (lv_at hl 0 rfl) ?_
  refine lv_aload_n S.1 S.2.1 d_AL_add2_11 rfl (lv_at hl 1 rfl) ?_
  refine lv_aload_n S.1 S.2.1 d_AL_add2_12 rfl (lv_at hl 0 rfl) ?_
  refine gh_get S hI h124 rfl i_AL 1 (by decide) wi_53 rfl d_AL_add2_13 ?_
  refine lv_aload_n S.1 S.2.1 d_AL_add2_16 rfl (lv_at hl 0 rfl) ?_
  refine gh_get S hI h124 rfl i_AL 2 (by decide) wi_54 rfl d_AL_add2_17 ?_
  have hF1 : gFr f f123 [a] := by rw [ef123]; exact gFr.upA (by simp) gFr.rf
  have h1 : gLi P f123 a e cap L := ⟨⟨_, h124⟩, h2.imp id (fun z => ⟨z.1, by
    obtain ⟨g, he, z2⟩ := z.2
    exact ⟨g, hF1 e _ he (by simp; exact gh_ne he ha (by intro h; cases h)), z2⟩⟩)⟩
  have hEl1 := hEl.fr hF1 (fun y hy z => hFL y hy (by simp at z ⊢; exact Or.inl z))
  have hx1 := hF1 x _ hx (by simp; exact hxa)
  have hDm1 := hDm
  refine gc_Vv S hI (c_AL_add3 l P f123 h1 hc hn hEl1 hFL hx1 hxa) kv_AL_add3 wi_337 h124 rfl rfl rfl hl.1 rfl (Nat.le_of_ble_eq_true rfl) ⟨Nat.le_of_ble_eq_true rfl, Nat.le_of_ble_eq_true rfl⟩ ⟨Nat.le_of_ble_eq_true rfl, Nat.le_of_ble_eq_true rfl⟩ d_AL_add2_20 (fun f126 H locs hp127 hI => ?_)
  obtain ⟨⟨e1, cap1, hp1, hp2, hp3⟩, hp4, hp5⟩ := hp127
  have hF := hF.call hp4 (fun q hq => Or.inl hq)
  have hDm := hDm.trans hp5
  refine lv_iconst (v := nI 1) S.1 S.2.1 d_AL_add2_23 (by decide) ?_
  exact gr_z S hr hlk hI (by first | exact Or.inl rfl | exact Or.inr rfl) (⟨rfl, ⟨e1, cap1, hp1, hp2, hp3.imp id (fun z => z.back hDm1)⟩, hF, hDm⟩) d_AL_add2_24
set_option maxHeartbeats 4000000 in
set_option maxRecDepth 100000 in
theorem c_AL_add1 (l : Launch) (P : gPar) (f : gM) {a e cap x k i : Nat} {fs : List Value} {L : List Nat} (h : gLi P f a e cap L) (hi : i ≤ L.length) (hc : cap ≤ 200) (hn : L.length ≤ 130) (hEl : gEl k f L) (hFL : ∀ y ∈ L, y ∉ [a, e]) (hx : f x = some (.inr (k, fs))) (hxa : x ≠ a) : gC l P y_AL_add1 b_AL_add1 5 none 5 1 300 [.ref a, .int (nI i), .ref x] f (gQv P (fun f1 => (∃ e1 cap1, gLi P f1 a e1 cap1 (L.insertIdx i x) ∧ cap1 ≤ 200 ∧ (e1 = e ∨ gNew f e1)) ∧ gFr f f1 [a, e] ∧ gDm f f1)) := by
  refine gC_of (by decide) (Nat.le_of_ble_eq_true rfl) (fun p env s m args below meth c S hr hlk hnm H locs hI ls hl => ?_)
  have hl : lv_has ls 5 [(0, .ref a), (1, .int (nI i)), (2, .ref x)] := hl
  have hDm : gDm f f := gDm.rf
  have hF : gFr f f [a, e] := gFr.rf
  obtain ⟨⟨m0, ha⟩, h2⟩ := id h
  have hle0 := h.le
  refine lv_aload_n S.1 S.2.1 d_AL_add1_0 rfl (lv_at hl 0 rfl) ?_
  refine lv_iload_n S.1 S.2.1 d_AL_add1_1 rfl (lv_at hl 1 rfl) ?_
  refine gc_Vv S hI (c_AL_rangeCheckForAdd l P f h hi (by omega)) kv_AL_rangeCheckForAdd wi_217 ha rfl rfl rfl hl.1 rfl (Nat.le_of_ble_eq_true rfl) ⟨Nat.le_of_ble_eq_true rfl, Nat.le_of_ble_eq_true rfl⟩ ⟨Nat.le_of_ble_eq_true rfl, Nat.le_of_ble_eq_true rfl⟩ d_AL_add1_2 (fun f129 H locs hp130 hI => ?_)
  rw [hp130] at hI
  refine lv_aload_n S.1 S.2.1 d_AL_add1_5 rfl (lv_at hl 0 rfl) ?_
  refine lv_dup S.1 S.2.1 d_AL_add1_6 rfl ?_
  refine gh_getS S hI ha rfl i_AL 0 (by decide) wi_57 wi_56 rfl d_AL_add1_7 ?_
  refine lv_iconst (v := nI 1) S.1 S.2.1 d_AL_add1_10 (by decide) ?_
  refine lv_iadd S.1 S.2.1 d_AL_add1_11 ?_
  refine gh_putS S hI ha rfl i_AL t_AL tk_AL n_AL 0 (by decide) wi_57 wi_56 rfl rfl rfl (Nat.le_of_ble_eq_true rfl) d_AL_add1_12 (fun H locs hI => ?_)
  have hI : gB P (va_up f a (some (.inr (6, [.int (m0 + (nI 1)), .ref e, .int (nI L.length)])))) s H locs := hI
  obtain ⟨f131, ef131⟩ : ∃ z, z = va_up f a (some (.inr (6, [.int (m0 + (nI 1)), .ref e, .int (nI L.length)]))) := ⟨_, rfl⟩
  rw [← ef131] at hI
  have h132 : f131 x = some (.inr (k, fs)) := by rw [ef131, va_up_ne _ _ (hxa)]; exact hx
  have h133 : f131 a = some (.inr (6, [.int (m0 + (nI 1)), .ref e, .int (nI L.length)])) := by rw [ef131]; exact va_up_self _ _ _
  have hF : gFr f f131 [a, e] := by rw [ef131]; exact gFr.upA (by simp) hF
  have hDm : gDm f f131 := by rw [ef131]; exact hDm.up
  refine lv_aload_n S.1 S.2.1 d_AL_add1_15 rfl (lv_at hl 0 rfl) ?_
  refine gh_get S hI h133 rfl i_AL 2 (by decide) wi_54 rfl d_AL_add1_16 ?_
  refine lv_dup S.1 S.2.1 d_AL_add1_19 rfl ?_
  refine lv_istore_n (lv' := [(3, .int (nI L.length)), (0, .ref a), (1, .int (nI i)), (2, .ref x)]) S.1 S.2.1 d_AL_add1_20 rfl hl (by decide) rfl (fun ls hl => ?_)
  refine lv_aload_n S.1 S.2.1 d_AL_add1_21 rfl (lv_at hl 1 rfl) ?_
  refine gh_get S hI h133 rfl i_AL 1 (by decide) wi_53 rfl d_AL_add1_22 ?_
  refine lv_dup S.1 S.2.1 d_AL_add1_25 rfl ?_
  refine lv_astore (lv' := [(4, .ref e), (3, .int (nI L.length)), (0, .ref a), (1, .int (nI i)), (2, .ref x)]) S.1 S.2.1 d_AL_add1_26 hl (by decide) rfl (fun ls hl => ?_)
  have hF1 : gFr f f131 [a] := by rw [ef131]; exact gFr.upA (by simp) gFr.rf
  have h1 : gLi P f131 a e cap L := ⟨⟨_, h133⟩, h2.imp id (fun z => ⟨z.1, by
    obtain ⟨g, he, z2⟩ := z.2
    exact ⟨g, hF1 e _ he (by simp; exact gh_ne he ha (by intro h; cases h)), z2⟩⟩)⟩
  have hEl1 := hEl.fr hF1 (fun y hy z => hFL y hy (by simp at z ⊢; exact Or.inl z))
  have hDm1 := hDm
  obtain ⟨m1, hm1⟩ := h1.1
  have h2 := h1.2
  by_cases hfull : L.length = cap
  · skip
    have hlenE : ∀ (st : List Value) (ls : Array Slot), W p l env (grm 5 1 300) s m args below meth c H locs 0 0 (MQ below (gQv P (fun f1 => (∃ e1 cap1, gLi P f1 a e1 cap1 (L.insertIdx i x) ∧ cap1 ≤ 200 ∧ (e1 = e ∨ gNew f e1)) ∧ gFr f f1 [a, e] ∧ gDm f f1)) args s 1 300 (gA P)) (F0 m 29 ls (.int (nI cap) :: st)) → W p l env (grm 5 1 300) s m args below meth c H locs 0 0 (MQ below (gQv P (fun f1 => (∃ e1 cap1, gLi P f1 a e1 cap1 (L.insertIdx i x) ∧ cap1 ≤ 200 ∧ (e1 = e ∨ gNew f e1)) ∧ gFr f f1 [a, e] ∧ gDm f f1)) args s 1 300 (gA P)) (F0 m 28 ls (.ref e :: st)) := by
      intro st ls kk
      rcases h2 with ⟨rfl, rfl, rfl⟩ | ⟨h0, g, he, hle, hg⟩
      · exact gh_zlen S hI d_AL_add1_28 kk
      · exact gh_alen S hI 4 he rfl d_AL_add1_28 kk
    refine hlenE _ _ ?_
    refine lv_icmp_ne (tgt := 38) S.1 S.2.1 d_AL_add1_29 (by decide) (fun c134 => ?_) (fun c134 => ?_)
    · skip
      replace c134 : ¬ L.length = cap := fun z => c134 ((nI_eq (a := L.length) (b := cap) (by omega) (by omega)).mpr z)
      exact absurd hfull c134
    · skip
      replace c134 : L.length = cap := (nI_eq (a := L.length) (b := cap) (by omega) (by omega)).mp c134
      refine lv_aload_n S.1 S.2.1 d_AL_add1_32 rfl (lv_at hl 2 rfl) ?_
      refine gc_Vr S hI (c_AL_grow1 l P f131 h1 hfull (by omega) hEl1 (fun y hy z => hFL y hy (by simp at z ⊢; exact Or.inl z))) kv_AL_grow1 wi_220 h133 rfl rfl rfl hl.1 rfl (Nat.le_of_ble_eq_true rfl) ⟨Nat.le_of_ble_eq_true rfl, Nat.le_of_ble_eq_true rfl⟩ ⟨Nat.le_of_ble_eq_true rfl, Nat.le_of_ble_eq_true rfl⟩ d_AL_add1_33 (fun r135 f136 H locs hp137 hI => ?_)
      obtain ⟨hp1, ⟨m2, hp2⟩, ⟨cap1, ⟨g1, hp3, hp4, hp5⟩, hp6, hp7⟩, hp8⟩ := hp137
      have hF : gFr f f136 [a, e] := hF.call hp8 (fun q hq => Or.inl (by rw [List.mem_singleton.mp hq]; simp))
      have hDm : gDm f f136 := hDm.trans (gDm.fr hp8 (fun c hc => by rw [List.mem_singleton.mp hc, hp2]; simp))
      have hx2 := hp8 x _ h132 (by simp; exact hxa)
      have hn0 : gNew f r135 := hp1.back hDm1
      have hel2 := hEl1.fr hp8 (fun y hy z => hFL y hy (by simp at z ⊢; exact Or.inl z))
      refine lv_astore (lv' := [(4, .ref r135), (3, .int (nI L.length)), (0, .ref a), (1, .int (nI i)), (2, .ref x)]) S.1 S.2.1 d_AL_add1_36 hl (by decide) rfl (fun ls hl => ?_)
      refine lv_aload S.1 S.2.1 d_AL_add1_38 (lv_at hl 0 rfl) ?_
      refine lv_iload_n S.1 S.2.1 d_AL_add1_40 rfl (lv_at hl 3 rfl) ?_
      refine lv_aload S.1 S.2.1 d_AL_add1_41 (lv_at hl 0 rfl) ?_
      refine lv_iload_n S.1 S.2.1 d_AL_add1_43 rfl (lv_at hl 3 rfl) ?_
      refine lv_iconst (v := nI 1) S.1 S.2.1 d_AL_add1_44 (by decide) ?_
      refine lv_iadd S.1 S.2.1 d_AL_add1_45 ?_
      refine lv_topi (fun v138 ev138 => ?_)
      replace ev138 : v138 = nI (i + 1) := ev138.trans (nI_add _ _)
      subst ev138
      refine lv_iload_n S.1 S.2.1 d_AL_add1_46 rfl (lv_at hl 1 rfl) ?_
      refine lv_iload_n S.1 S.2.1 d_AL_add1_47 rfl (lv_at hl 3 rfl) ?_
      refine lv_isub S.1 S.2.1 d_AL_add1_48 ?_
      refine lv_topi (fun v139 ev139 => ?_)
      replace ev139 : v139 = nI (L.length - i) := ev139.trans (pk_sub (by omega))
      subst ev139
      refine gh_copyq (sp := i) (dp := i + 1) (n := L.length - i) S hI hl.1 wi_207 wi_113 wi_112 wi_9 4 hp3 hp3 rfl rfl rfl rfl (by omega) (by omega) (by omega) (by omega) (fun j hj y hy => hel2.any (p := p) hI (List.mem_of_getElem? ((hp5 _ (by omega)).symm.trans hy))) (Nat.le_of_ble_eq_true rfl) (Nat.le_of_ble_eq_true rfl) d_AL_add1_49 (fun H locs hI => ?_)
      have hI : gB P (va_up f136 r135 (some (.inl (P.2.1 4, cap1, .inr (.inr (.inr (.inr (va_cpy g1 g1 i (i + 1) (L.length - i))))))))) s H locs := hI
      obtain ⟨f140, ef140⟩ : ∃ z, z = va_up f136 r135 (some (.inl (P.2.1 4, cap1, .inr (.inr (.inr (.inr (va_cpy g1 g1 i (i + 1) (L.length - i)))))))) := ⟨_, rfl⟩
      rw [← ef140] at hI
      have h141 : f140 a = some (.inr (6, [.int m2, .ref r135, .int (nI L.length)])) := by rw [ef140, va_up_ne _ _ (gh_nn h133 hp1.n)]; exact hp2
      have h142 : f140 x = some (.inr (k, fs)) := by rw [ef140, va_up_ne _ _ (gh_nn h132 hp1.n)]; exact hx2
      have h143 : f140 r135 = some (.inl (P.2.1 4, cap1, .inr (.inr (.inr (.inr (va_cpy g1 g1 i (i + 1) (L.length - i))))))) := by rw [ef140]; exact va_up_self _ _ _
      have hDm : gDm f f140 := by rw [ef140]; exact hDm.up
      have hF : gFr f f140 [a, e] := by rw [ef140]; exact gFr.call hF (gFr.upA (l := [r135]) (by simp) gFr.rf) (fun q hq => Or.inr (by rw [List.mem_singleton.mp hq]; exact hn0.n))
      refine lv_aload S.1 S.2.1 d_AL_add1_52 (lv_at hl 0 rfl) ?_
      refine lv_iload_n S.1 S.2.1 d_AL_add1_54 rfl (lv_at hl 3 rfl) ?_
      refine lv_aload_n S.1 S.2.1 d_AL_add1_55 rfl (lv_at hl 4 rfl) ?_
      refine gh_aastA (j := i) S hI h143 hEl.1 h142 rfl (by omega) (by omega) d_AL_add1_56 (fun H locs hI => ?_)
      have hI : gB P (va_up f140 r135 (some (.inl (P.2.1 4, cap1, .inr (.inr (.inr (.inr (va_up (va_cpy g1 g1 i (i + 1) (L.length - i)) i (some x))))))))) s H locs := hI
      obtain ⟨f144, ef144⟩ : ∃ z, z = va_up f140 r135 (some (.inl (P.2.1 4, cap1, .inr (.inr (.inr (.inr (va_up (va_cpy g1 g1 i (i + 1) (L.length - i)) i (some x)))))))) := ⟨_, rfl⟩
      rw [← ef144] at hI
      have h145 : f144 a = some (.inr (6, [.int m2, .ref r135, .int (nI L.length)])) := by rw [ef144, va_up_ne _ _ (gh_nn h133 hp1.n)]; exact h141
      have h146 : f144 x = some (.inr (k, fs)) := by rw [ef144, va_up_ne _ _ (gh_nn h132 hp1.n)]; exact h142
      have h147 : f144 r135 = some (.inl (P.2.1 4, cap1, .inr (.inr (.inr (.inr (va_up (va_cpy g1 g1 i (i + 1) (L.length - i)) i (some x))))))) := by rw [ef144]; exact va_up_self _ _ _
      have hDm : gDm f f144 := by rw [ef144]; exact hDm.up
      have hF : gFr f f144 [a, e] := by rw [ef144]; exact gFr.call hF (gFr.upA (l := [r135]) (by simp) gFr.rf) (fun q hq => Or.inr (by rw [List.mem_singleton.mp hq]; exact hn0.n))
      refine lv_aload_n S.1 S.2.1 d_AL_add1_57 rfl (lv_at hl 2 rfl) ?_
      refine lv_iload_n S.1 S.2.1 d_AL_add1_58 rfl (lv_at hl 1 rfl) ?_
      refine lv_iconst (v := nI 1) S.1 S.2.1 d_AL_add1_59 (by decide) ?_
      refine lv_iadd S.1 S.2.1 d_AL_add1_60 ?_
      refine lv_topi (fun v148 ev148 => ?_)
      replace ev148 : v148 = nI (L.length + 1) := ev148.trans (nI_add _ _)
      subst ev148
      refine gh_put S hI h145 rfl i_AL t_AL tk_AL n_AL 2 (by decide) wi_54 rfl rfl rfl (Nat.le_of_ble_eq_true rfl) d_AL_add1_61 (fun H locs hI => ?_)
      have hI : gB P (va_up f144 a (some (.inr (6, [.int m2, .ref r135, .int (nI (L.length + 1))])))) s H locs := hI
      obtain ⟨f149, ef149⟩ : ∃ z, z = va_up f144 a (some (.inr (6, [.int m2, .ref r135, .int (nI (L.length + 1))]))) := ⟨_, rfl⟩
      rw [← ef149] at hI
      have h150 : f149 x = some (.inr (k, fs)) := by rw [ef149, va_up_ne _ _ (hxa)]; exact h146
      have h151 : f149 r135 = some (.inl (P.2.1 4, cap1, .inr (.inr (.inr (.inr (va_up (va_cpy g1 g1 i (i + 1) (L.length - i)) i (some x))))))) := by rw [ef149, va_up_ne _ _ (Ne.symm (gh_nn h133 hp1.n))]; exact h147
      have h152 : f149 a = some (.inr (6, [.int m2, .ref r135, .int (nI (L.length + 1))])) := by rw [ef149]; exact va_up_self _ _ _
      have hF : gFr f f149 [a, e] := by rw [ef149]; exact gFr.upA (by simp) hF
      have hDm : gDm f f149 := by rw [ef149]; exact hDm.up
      have hlen : (L.insertIdx i x).length = L.length + 1 := List.length_insertIdx_of_le_length hi x
      exact gr_v S hr hlk hI (⟨⟨r135, cap1, ⟨⟨_, by rw [hlen]; exact h152⟩, Or.inr ⟨by omega, _, h151, by omega, l_ins hi rfl hp5⟩⟩, by omega, Or.inr hn0⟩, hF, hDm⟩) d_AL_add1_64
  · skip
    rcases h2 with ⟨rfl, rfl, rfl⟩ | ⟨h0, g, he, hle, hg⟩
    · exact absurd rfl hfull
    refine gh_alen S hI 4 he rfl d_AL_add1_28 ?_
    refine lv_icmp_ne (tgt := 38) S.1 S.2.1 d_AL_add1_29 (by decide) (fun c153 => ?_) (fun c153 => ?_)
    · skip
      replace c153 : ¬ L.length = cap := fun z => c153 ((nI_eq (a := L.length) (b := cap) (by omega) (by omega)).mpr z)
      refine W.widen (k := 1) (n := 300) (by omega) (by omega) ?_
      have hel2 := hEl1
      refine lv_aload S.1 S.2.1 d_AL_add1_38 (lv_at hl 0 rfl) ?_
      refine lv_iload_n S.1 S.2.1 d_AL_add1_40 rfl (lv_at hl 3 rfl) ?_
      refine lv_aload S.1 S.2.1 d_AL_add1_41 (lv_at hl 0 rfl) ?_
      refine lv_iload_n S.1 S.2.1 d_AL_add1_43 rfl (lv_at hl 3 rfl) ?_
      refine lv_iconst (v := nI 1) S.1 S.2.1 d_AL_add1_44 (by decide) ?_
      refine lv_iadd S.1 S.2.1 d_AL_add1_45 ?_
      refine lv_topi (fun v154 ev154 => ?_)
      replace ev154 : v154 = nI (i + 1) := ev154.trans (nI_add _ _)
      subst ev154
      refine lv_iload_n S.1 S.2.1 d_AL_add1_46 rfl (lv_at hl 1 rfl) ?_
      refine lv_iload_n S.1 S.2.1 d_AL_add1_47 rfl (lv_at hl 3 rfl) ?_
      refine lv_isub S.1 S.2.1 d_AL_add1_48 ?_
      refine lv_topi (fun v155 ev155 => ?_)
      replace ev155 : v155 = nI (L.length - i) := ev155.trans (pk_sub (by omega))
      subst ev155
      refine gh_copyq (sp := i) (dp := i + 1) (n := L.length - i) S hI hl.1 wi_207 wi_113 wi_112 wi_9 4 he he rfl rfl rfl rfl (by omega) (by omega) (by omega) (by omega) (fun j hj y hy => hel2.any (p := p) hI (List.mem_of_getElem? ((hg _ (by omega)).symm.trans hy))) (Nat.le_of_ble_eq_true rfl) (Nat.le_of_ble_eq_true rfl) d_AL_add1_49 (fun H locs hI => ?_)
      have hI : gB P (va_up f131 e (some (.inl (P.2.1 4, cap, .inr (.inr (.inr (.inr (va_cpy g g i (i + 1) (L.length - i))))))))) s H locs := hI
      obtain ⟨f156, ef156⟩ : ∃ z, z = va_up f131 e (some (.inl (P.2.1 4, cap, .inr (.inr (.inr (.inr (va_cpy g g i (i + 1) (L.length - i)))))))) := ⟨_, rfl⟩
      rw [← ef156] at hI
      have h157 : f156 x = some (.inr (k, fs)) := by rw [ef156, va_up_ne _ _ (gh_ne h132 he (by intro h; cases h))]; exact h132
      have h158 : f156 a = some (.inr (6, [.int (m0 + (nI 1)), .ref e, .int (nI L.length)])) := by rw [ef156, va_up_ne _ _ (gh_ne h133 he (by intro h; cases h))]; exact h133
      have h159 : f156 e = some (.inl (P.2.1 4, cap, .inr (.inr (.inr (.inr (va_cpy g g i (i + 1) (L.length - i))))))) := by rw [ef156]; exact va_up_self _ _ _
      have hF : gFr f f156 [a, e] := by rw [ef156]; exact gFr.upA (by simp) hF
      have hDm : gDm f f156 := by rw [ef156]; exact hDm.up
      refine lv_aload S.1 S.2.1 d_AL_add1_52 (lv_at hl 0 rfl) ?_
      refine lv_iload_n S.1 S.2.1 d_AL_add1_54 rfl (lv_at hl 3 rfl) ?_
      refine lv_aload_n S.1 S.2.1 d_AL_add1_55 rfl (lv_at hl 4 rfl) ?_
      refine gh_aastA (j := i) S hI h159 hEl.1 h157 rfl (by omega) (by omega) d_AL_add1_56 (fun H locs hI => ?_)
      have hI : gB P (va_up f156 e (some (.inl (P.2.1 4, cap, .inr (.inr (.inr (.inr (va_up (va_cpy g g i (i + 1) (L.length - i)) i (some x))))))))) s H locs := hI
      obtain ⟨f160, ef160⟩ : ∃ z, z = va_up f156 e (some (.inl (P.2.1 4, cap, .inr (.inr (.inr (.inr (va_up (va_cpy g g i (i + 1) (L.length - i)) i (some x)))))))) := ⟨_, rfl⟩
      rw [← ef160] at hI
      have h161 : f160 x = some (.inr (k, fs)) := by rw [ef160, va_up_ne _ _ (gh_ne h132 he (by intro h; cases h))]; exact h157
      have h162 : f160 a = some (.inr (6, [.int (m0 + (nI 1)), .ref e, .int (nI L.length)])) := by rw [ef160, va_up_ne _ _ (gh_ne h158 h159 (by intro h; cases h))]; exact h158
      have h163 : f160 e = some (.inl (P.2.1 4, cap, .inr (.inr (.inr (.inr (va_up (va_cpy g g i (i + 1) (L.length - i)) i (some x))))))) := by rw [ef160]; exact va_up_self _ _ _
      have hF : gFr f f160 [a, e] := by rw [ef160]; exact gFr.upA (by simp) hF
      have hDm : gDm f f160 := by rw [ef160]; exact hDm.up
      refine lv_aload_n S.1 S.2.1 d_AL_add1_57 rfl (lv_at hl 2 rfl) ?_
      refine lv_iload_n S.1 S.2.1 d_AL_add1_58 rfl (lv_at hl 1 rfl) ?_
      refine lv_iconst (v := nI 1) S.1 S.2.1 d_AL_add1_59 (by decide) ?_
      refine lv_iadd S.1 S.2.1 d_AL_add1_60 ?_
      refine lv_topi (fun v164 ev164 => ?_)
      replace ev164 : v164 = nI (L.length + 1) := ev164.trans (nI_add _ _)
      subst ev164
      refine gh_put S hI h162 rfl i_AL t_AL tk_AL n_AL 2 (by decide) wi_54 rfl rfl rfl (Nat.le_of_ble_eq_true rfl) d_AL_add1_61 (fun H locs hI => ?_)
      have hI : gB P (va_up f160 a (some (.inr (6, [.int (m0 + (nI 1)), .ref e, .int (nI (L.length + 1))])))) s H locs := hI
      obtain ⟨f165, ef165⟩ : ∃ z, z = va_up f160 a (some (.inr (6, [.int (m0 + (nI 1)), .ref e, .int (nI (L.length + 1))]))) := ⟨_, rfl⟩
      rw [← ef165] at hI
      have h166 : f165 x = some (.inr (k, fs)) := by rw [ef165, va_up_ne _ _ (hxa)]; exact h161
      have h167 : f165 e = some (.inl (P.2.1 4, cap, .inr (.inr (.inr (.inr (va_up (va_cpy g g i (i + 1) (L.length - i)) i (some x))))))) := by rw [ef165, va_up_ne _ _ (gh_ne h163 h162 (by intro h; cases h))]; exact h163
      have h168 : f165 a = some (.inr (6, [.int (m0 + (nI 1)), .ref e, .int (nI (L.length + 1))])) := by rw [ef165]; exact va_up_self _ _ _
      have hF : gFr f f165 [a, e] := by rw [ef165]; exact gFr.upA (by simp) hF
      have hDm : gDm f f165 := by rw [ef165]; exact hDm.up
      have hlen : (L.insertIdx i x).length = L.length + 1 := List.length_insertIdx_of_le_length hi x
      exact gr_v S hr hlk hI (⟨⟨e, cap, ⟨⟨_, by rw [hlen]; exact h168⟩, Or.inr ⟨by omega, _, h167, by omega, l_ins hi rfl hg⟩⟩, by omega, Or.inl rfl⟩, hF, hDm⟩) d_AL_add1_64
    · skip
      replace c153 : L.length = cap := (nI_eq (a := L.length) (b := cap) (by omega) (by omega)).mp c153
      exact absurd c153 hfull
