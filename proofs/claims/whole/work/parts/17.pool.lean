theorem gSp.fr {P : gPar} {f f1 : gM} {ow : gO} {pl e cap : Nat} {SP : List Nat} {l : List Nat} (h : gSp P f ow pl e cap SP) (hF : gFr f f1 l) (h1 : pl ∉ l) (h2 : pl + 1 ∉ l) (h3 : e ∉ l) (h4 : ∀ x ∈ SP, x ∉ l ∧ x + 1 ∉ l) : gSp P f1 ow pl e cap SP := by
  obtain ⟨a1, a2, a3, a4, a5⟩ := h
  refine ⟨hF _ _ a1 h1, a2.fr hF h2 h3, a3, a4, fun x hx => ?_⟩
  obtain ⟨b1, hh, b2, b3⟩ := a5 x hx
  exact ⟨b1, hh, b2.fr hF (h4 x hx).1 (h4 x hx).2, b3⟩
set_option maxHeartbeats 4000000 in
set_option maxRecDepth 100000 in
theorem c_Pool_takeBlank (l : Launch) (P : gPar) (f : gM) {pl e cap : Nat} {SP : List Nat} {ow : gO} (h : gSp P f ow pl e cap SP) (hn : SP.length ≤ 130) : gC l P y_Pool_takeBlank b_Pool_takeBlank 1 (some (.object "StripeFiles$Piece")) 3 2 449 [.ref pl] f (gQq P (fun r f1 => ∃ x, r = some x ∧ ∃ SP1 : List Nat, (SP = SP1 ++ [x] ∨ (SP = [] ∧ SP1 = [] ∧ gNew f x)) ∧ (∃ h, gPc P f1 x h ∧ ∀ j, j < 448 → h j = 0) ∧ gSp P f1 ow pl e cap SP1 ∧ gFr f f1 [pl + 1, e])) := by
  refine gC_of (by decide) (Nat.le_of_ble_eq_true rfl) (fun p env s m args below meth c S hr hlk hnm H locs hI ls hl => ?_)
  have hl : lv_has ls 1 [(0, .ref pl)] := hl
  have hF : gFr f f [pl + 1, e] := gFr.rf
  obtain ⟨hpl, hli, hcap, hnd, hsp⟩ := id h
  obtain ⟨⟨m0, hal⟩, hli2⟩ := id hli
  have hz0 := gB_z hI
  refine lv_aload_n S.1 S.2.1 d_Pool_takeBlank_0 rfl (lv_at hl 0 rfl) ?_
  refine gh_get S hI hpl rfl i_Pool 0 (by decide) wi_66 rfl d_Pool_takeBlank_1 ?_
  refine gc_Vi S hI (c_AL_isEmpty l P f hli (by omega)) kv_AL_isEmpty wi_292 hal rfl rfl rfl hl.1 rfl (Nat.le_of_ble_eq_true rfl) ⟨Nat.le_of_ble_eq_true rfl, Nat.le_of_ble_eq_true rfl⟩ ⟨Nat.le_of_ble_eq_true rfl, Nat.le_of_ble_eq_true rfl⟩ d_Pool_takeBlank_4 (fun r1 f2 H locs hp3 hI => ?_)
  obtain ⟨hp1, hp2⟩ := hp3
  subst hp1
  rw [hp2] at hI
  by_cases hS : SP.length = 0
  · rw [if_pos hS]
    refine lv_if_eq (tgt := 18) S.1 S.2.1 d_Pool_takeBlank_7 (by decide) (fun c4 => ?_) (fun c4 => ?_)
    · skip
      replace c4 : 1 = 0 := (nI_eq (a := 1) (b := 0) (by omega) (by omega)).mp c4
      exact absurd c4 (by omega)
    · skip
      replace c4 : ¬ 1 = 0 := fun z => c4 ((nI_eq (a := 1) (b := 0) (by omega) (by omega)).mpr z)
      obtain ⟨z0, hz⟩ : ∃ z, H.size = z := ⟨_, rfl⟩
      have hnw := gB_new hI hz
      refine gh_newZ (ci := 2) (fs := [.null]) S hI hz rfl i_Piece t_Piece tk_Piece wi_293 wi_294 wi_16 (fun j hj => by rcases (show j = 0 by omega) with rfl <;> rfl) (Nat.le_of_ble_eq_true rfl) (Nat.le_of_ble_eq_true rfl) d_Pool_takeBlank_10 (fun H hn5 hz hI => ?_)
      replace hz : H.size = z0 + 1 := hz
      have hI : gB P (va_up f z0 (some (.inr (2, [.null])))) s H locs := hI
      obtain ⟨f6, ef6⟩ : ∃ z, z = va_up f z0 (some (.inr (2, [.null]))) := ⟨_, rfl⟩
      rw [← ef6] at hI
      have h7 : f6 pl = some (.inr (3, [.ref (pl + 1)])) := by rw [ef6, va_up_ne _ _ (gh_ne hpl hn5 (by intro h; cases h))]; exact hpl
      have h8 : f6 (pl + 1) = some (.inr (6, [.int m0, .ref e, .int (nI SP.length)])) := by rw [ef6, va_up_ne _ _ (gh_ne hal hn5 (by intro h; cases h))]; exact hal
      have h9 : f6 z0 = some (.inr (2, [.null])) := by rw [ef6]; exact va_up_self _ _ _
      have hF : gFr f f6 [pl + 1, e] := by rw [ef6]; exact gFr.upN hn5 hF
      refine lv_dup S.1 S.2.1 d_Pool_takeBlank_13 rfl ?_
      refine gc_Iz S hI hz (c_Piece_initZ l P f6 h9) kv_Piece_init wi_295 rfl hl.1 rfl (Nat.le_of_ble_eq_true rfl) ⟨Nat.le_of_ble_eq_true rfl, Nat.le_of_ble_eq_true rfl⟩ ⟨Nat.le_of_ble_eq_true rfl, Nat.le_of_ble_eq_true rfl⟩ d_Pool_takeBlank_14 (fun f10 z11 H locs hp12 hI hz => ?_)
      obtain ⟨hp0, hp1, hp2, hp3⟩ := hp12
      dsimp only at hp0 hp1 hp2 hp3
      have hF : gFr f f10 [pl + 1, e] := hF.call hp3 (fun q hq => Or.inr (by rw [List.mem_singleton.mp hq]; exact hn5))
      have hF0 : gFr f f10 [] := (gFr.upN hn5 gFr.rf : gFr f (va_up f z0 _) []).call (by rw [← ef6]; exact hp3) (fun q hq => Or.inr (by rw [List.mem_singleton.mp hq]; exact hn5))
      have hSn : SP = [] := List.length_eq_zero_iff.mp hS
      refine W.widen (k := 2) (n := 449) (by omega) (by omega) ?_
      exact gr_r S hr (Or.inl ⟨_, rfl⟩) hlk hI (⟨[], Or.inr ⟨hSn, rfl, hnw⟩, ⟨_, ⟨hp1, hp2, sb_fit0⟩, fun j _ => rfl⟩, by rw [hSn] at h; exact h.fr hF0 (by simp) (by simp) (by simp) (fun x hx => by simp), hF⟩) d_Pool_takeBlank_17
  · rw [if_neg hS]
    refine lv_if_eq (tgt := 18) S.1 S.2.1 d_Pool_takeBlank_7 (by decide) (fun c13 => ?_) (fun c13 => ?_)
    · skip
      replace c13 : 0 = 0 := (nI_eq (a := 0) (b := 0) (by omega) (by omega)).mp c13
      refine lv_aload_n S.1 S.2.1 d_Pool_takeBlank_18 rfl (lv_at hl 0 rfl) ?_
      refine gh_get S hI hpl rfl i_Pool 0 (by decide) wi_66 rfl d_Pool_takeBlank_19 ?_
      refine lv_aload_n S.1 S.2.1 d_Pool_takeBlank_22 rfl (lv_at hl 0 rfl) ?_
      refine gh_get S hI hpl rfl i_Pool 0 (by decide) wi_66 rfl d_Pool_takeBlank_23 ?_
      refine gc_Vi S hI (c_AL_size l P f hli) kv_AL_size wi_300 hal rfl rfl rfl hl.1 rfl (Nat.le_of_ble_eq_true rfl) ⟨Nat.le_of_ble_eq_true rfl, Nat.le_of_ble_eq_true rfl⟩ ⟨Nat.le_of_ble_eq_true rfl, Nat.le_of_ble_eq_true rfl⟩ d_Pool_takeBlank_26 (fun r14 f15 H locs hp16 hI => ?_)
      obtain ⟨hp1, hp2⟩ := hp16
      subst hp1
      rw [hp2] at hI
      refine lv_iconst (v := nI 1) S.1 S.2.1 d_Pool_takeBlank_29 (by decide) ?_
      refine lv_isub S.1 S.2.1 d_Pool_takeBlank_30 ?_
      refine lv_topi (fun v17 ev17 => ?_)
      replace ev17 : v17 = nI (SP.length - 1) := ev17.trans (pk_sub (by omega))
      subst ev17
      refine gc_Vr S hI (c_AL_remove l P f hli (i := SP.length - 1) (by omega) (by omega) h.el (fun y hy => by obtain ⟨_, _, q, _⟩ := hsp y hy; exact hli.npc (by decide) q.1 hz0)) kv_AL_remove wi_301 hal rfl rfl rfl hl.1 rfl (Nat.le_of_ble_eq_true rfl) ⟨Nat.le_of_ble_eq_true rfl, Nat.le_of_ble_eq_true rfl⟩ ⟨Nat.le_of_ble_eq_true rfl, Nat.le_of_ble_eq_true rfl⟩ d_Pool_takeBlank_31 (fun r18 f19 H locs hp20 hI => ?_)
      obtain ⟨hp1, hp2, hp3⟩ := hp20
      have hlast := l_last hp1
      obtain ⟨hox, hx, hpx, hzx⟩ := hsp r18 (List.mem_of_getElem? hp1)
      have hpx1 := hpx.fr hp3 (hli.npc (by decide) hpx.1 hz0) (hli.nba hpx.2.1 hz0)
      refine gh_cast (q := (R_Piece, F_Piece, 1)) S hI rfl hpx1.1 wi_293 d_Pool_takeBlank_34 ?_
      refine W.widen (k := 2) (n := 449) (by omega) (by omega) ?_
      have hspl : (SP.eraseIdx (SP.length - 1)) ⊆ SP := List.eraseIdx_subset
      exact gr_r S hr (Or.inl ⟨_, rfl⟩) hlk hI (⟨_, Or.inl hlast, ⟨_, hpx1, hzx⟩, ⟨hp3 _ _ hpl (hli.npc (by decide) hpl hz0), hp2, hcap, hnd.sublist (List.eraseIdx_sublist _ _), fun y hy => by
        obtain ⟨b1, hh, b2, b3⟩ := hsp y (hspl hy)
        exact ⟨b1, hh, b2.fr hp3 (hli.npc (by decide) b2.1 hz0) (hli.nba b2.2.1 hz0), b3⟩⟩, hp3⟩) d_Pool_takeBlank_37
    · skip
      replace c13 : ¬ 0 = 0 := fun z => c13 ((nI_eq (a := 0) (b := 0) (by omega) (by omega)).mpr z)
      exact absurd c13 (by omega)
set_option maxHeartbeats 4000000 in
set_option maxRecDepth 100000 in
theorem c_Pool_giveBack (l : Launch) (P : gPar) (f : gM) {pl e cap x : Nat} {SP : List Nat} {ow : gO} {g : Nat → Int32} (h : gSp P f ow pl e cap SP) (hn : SP.length ≤ 130) (hx : gPc P f x g) (hni : x ∉ SP) : gC l P y_Pool_giveBack b_Pool_giveBack 2 none 7 1 300 [.ref pl, .ref x] f (gQv P (fun f1 => ∃ e1 cap1, gSp P f1 (va_up ow x none) pl e1 cap1 (SP ++ [x]) ∧ (e1 = e ∨ gNew f e1) ∧ gFr f f1 [x + 1, pl + 1, e] ∧ gDm f f1)) := by
  refine gC_of (by decide) (Nat.le_of_ble_eq_true rfl) (fun p env s m args below meth c S hr hlk hnm H locs hI ls hl => ?_)
  have hl : lv_has ls 2 [(0, .ref pl), (1, .ref x)] := hl
  have hDm : gDm f f := gDm.rf
  obtain ⟨hpl, hli, hcap, hnd, hsp⟩ := id h
  obtain ⟨⟨m0, hal⟩, hli2⟩ := id hli
  have hz0 := gB_z hI
  obtain ⟨hx1, hx2, hx3⟩ := id hx
  refine lv_aload_n S.1 S.2.1 d_Pool_giveBack_0 rfl (lv_at hl 1 rfl) ?_
  refine gh_getN S hI hx1 rfl i_Piece 0 (by decide) hI.1.2.2.1.1 rfl d_Pool_giveBack_1 ?_
  refine lv_iconst (v := nI 0) S.1 S.2.1 d_Pool_giveBack_4 (by decide) ?_
  refine lv_sipush (v := nI 448) S.1 S.2.1 d_Pool_giveBack_5 (by decide) ?_
  refine lv_iconst (v := nI 0) S.1 S.2.1 d_Pool_giveBack_8 (by decide) ?_
  refine gc_Sv S hI (c_Arrs_fill l P f (lo := 0) (hi := 448) (x := nI 0) hx2 (by omega) (by omega) (by omega) (by decide)) kv_Arrs_fill wi_332 rfl hl.1 rfl (Nat.le_of_ble_eq_true rfl) ⟨Nat.le_of_ble_eq_true rfl, Nat.le_of_ble_eq_true rfl⟩ ⟨Nat.le_of_ble_eq_true rfl, Nat.le_of_ble_eq_true rfl⟩ d_Pool_giveBack_9 (fun f22 H locs hp23 hI => ?_)
  rw [hp23] at hI
  have hI : gB P (va_up f (x + 1) (some (.inl (P.2.1 0, 448, .inl (g_fil g 0 448 (nI 0)))))) s H locs := hI
  obtain ⟨f24, ef24⟩ : ∃ z, z = va_up f (x + 1) (some (.inl (P.2.1 0, 448, .inl (g_fil g 0 448 (nI 0))))) := ⟨_, rfl⟩
  rw [← ef24] at hI
  have h25 : f24 pl = some (.inr (3, [.ref (pl + 1)])) := by rw [ef24, va_up_ne _ _ (gh_ne hpl hx2 (by intro h; cases h))]; exact hpl
  have h26 : f24 (pl + 1) = some (.inr (6, [.int m0, .ref e, .int (nI SP.length)])) := by rw [ef24, va_up_ne _ _ (gh_ne hal hx2 (by intro h; cases h))]; exact hal
  have h27 : f24 x = some (.inr (2, [.ref (x + 1)])) := by rw [ef24, va_up_ne _ _ (by omega)]; exact hx1
  have h28 : f24 (x + 1) = some (.inl (P.2.1 0, 448, .inl (g_fil g 0 448 (nI 0)))) := by rw [ef24]; exact va_up_self _ _ _
  have hDm : gDm f f24 := by rw [ef24]; exact hDm.up
  refine lv_aload_n S.1 S.2.1 d_Pool_giveBack_12 rfl (lv_at hl 0 rfl) ?_
  refine gh_get S hI h25 rfl i_Pool 0 (by decide) wi_66 rfl d_Pool_giveBack_13 ?_
  refine lv_aload_n S.1 S.2.1 d_Pool_giveBack_16 rfl (lv_at hl 1 rfl) ?_
  have hF1 : gFr f f24 [x + 1] := by rw [ef24]; exact gFr.upA (by simp) gFr.rf
  have hDm0 := hDm
  have hne : ∀ y ∈ SP, y ≠ x := fun y hy e => hni (e ▸ hy)
  have hxl : x + 1 ∉ [pl + 1, e] := hli.nba hx2 hz0
  have h1 : gSp P f24 ow pl e cap SP := h.fr hF1 (by simp; exact gh_ne hpl hx2 (by intro h; cases h)) (fun z => hxl (by rw [← List.mem_singleton.mp z]; simp)) (fun z => hxl (by rw [← List.mem_singleton.mp z]; simp)) (fun y hy => by
    obtain ⟨_, hh, q, _⟩ := hsp y hy
    exact ⟨by simp; exact gh_ne q.1 hx2 (by intro h; cases h), by simp; exact hne y hy⟩)
  refine gc_Vi S hI (c_AL_add2 l P f24 h1.2.1 hcap (by omega) h1.el (fun y hy => by obtain ⟨_, _, q, _⟩ := h1.2.2.2.2 y hy; exact h1.2.1.npc (by decide) q.1 (gB_z hI)) h27 (fun e => absurd (hli.npc (by decide) hx1 hz0) (by simp [e]))) kv_AL_add2 wi_333 h26 rfl rfl rfl hl.1 rfl (Nat.le_of_ble_eq_true rfl) ⟨Nat.le_of_ble_eq_true rfl, Nat.le_of_ble_eq_true rfl⟩ ⟨Nat.le_of_ble_eq_true rfl, Nat.le_of_ble_eq_true rfl⟩ d_Pool_giveBack_17 (fun r29 f30 H locs hp31 hI => ?_)
  obtain ⟨hp1, ⟨e1, cap1, hp2, hp3, hp4⟩, hp5, hp6⟩ := hp31
  have hDm := hDm.trans hp6
  have hF : gFr f f30 [x + 1, pl + 1, e] := (hF1.mono (by simp)).call hp5 (fun q hq => Or.inl (by simp at hq ⊢; omega))
  refine lv_pop S.1 S.2.1 d_Pool_giveBack_20 rfl ?_
  have hzz := gB_z hI
  have hpl3 := hp5 _ _ h1.1 (h1.2.1.npc (by decide) h1.1 (show f24 P.2.2.2.1 = none from by rw [ef24, va_up_ne _ _ (fun e => by rw [← e, hz0] at hx2; cases hx2)]; exact hz0))
  have hz2 : f24 P.2.2.2.1 = none := by rw [ef24, va_up_ne _ _ (fun e => by rw [← e, hz0] at hx2; cases hx2)]; exact hz0
  have hx3 : gPc P f30 x (g_fil g 0 448 (nI 0)) := ⟨hp5 _ _ h27 (h1.2.1.npc (by decide) h27 hz2), hp5 _ _ h28 (h1.2.1.nba h28 hz2), g_fil_fit hx3 (by decide)⟩
  have hfe : e1 = e ∨ gNew f e1 := hp4.imp id (fun z => z.back hDm0)
  refine gr_v S hr hlk hI ⟨e1, cap1, ⟨hpl3, hp2, hp3, ?_, fun y hy => ?_⟩, hfe, hF, hDm⟩ d_Pool_giveBack_21
  · exact List.nodup_append.mpr ⟨hnd, by simp, fun a ha b hb => by rw [List.mem_singleton.mp hb]; exact hne a ha⟩
  · rcases List.mem_append.mp hy with hy | hy
    · obtain ⟨b1, hh, b2, b3⟩ := h1.2.2.2.2 y hy
      exact ⟨by rw [va_up_ne _ _ (hne y hy)]; exact b1, hh, b2.fr hp5 (h1.2.1.npc (by decide) b2.1 hz2) (h1.2.1.nba b2.2.1 hz2), b3⟩
    · rw [List.mem_singleton.mp hy]
      exact ⟨va_up_self _ _ _, _, hx3, fun j hj => by unfold g_fil; rw [if_pos (by omega)]; rfl⟩
