set_option maxHeartbeats 4000000 in
set_option maxRecDepth 100000 in
theorem c_File_title (l : Launch) (P : gPar) (f : gM) {q pl len : Nat} {idv : Int32} (hq : f q = some (.inr (4, [.ref pl, .ref (q + 1), .ref (q + 3), .int idv, .int (nI len)]))) : gC l P y_File_title b_File_title 1 (some (.object "StripeFiles$Row")) 0 0 0 [.ref q] f (gQq P (fun r f1 => ∃ x, r = some x ∧ x = q + 1 ∧ f1 = f)) := by
  refine gC_of (by decide) (Nat.le_of_ble_eq_true rfl) (fun p env s m args below meth c S hr hlk hnm H locs hI ls hl => ?_)
  have hl : lv_has ls 1 [(0, .ref q)] := hl
  refine lv_aload_n S.1 S.2.1 d_File_title_0 rfl (lv_at hl 0 rfl) ?_
  refine gh_get S hI hq rfl i_File 1 (by decide) wi_196 rfl d_File_title_1 ?_
  exact gr_r S hr (Or.inl ⟨_, rfl⟩) hlk hI (⟨rfl, rfl⟩) d_File_title_4
set_option maxHeartbeats 4000000 in
set_option maxRecDepth 100000 in
theorem c_File_id (l : Launch) (P : gPar) (f : gM) {q pl len : Nat} {idv : Int32} (hq : f q = some (.inr (4, [.ref pl, .ref (q + 1), .ref (q + 3), .int idv, .int (nI len)]))) : gC l P y_File_id b_File_id 1 (some .int) 0 0 0 [.ref q] f (gQi P (fun r f1 => r = idv ∧ f1 = f)) := by
  refine gC_of (by decide) (Nat.le_of_ble_eq_true rfl) (fun p env s m args below meth c S hr hlk hnm H locs hI ls hl => ?_)
  have hl : lv_has ls 1 [(0, .ref q)] := hl
  refine lv_aload_n S.1 S.2.1 d_File_id_0 rfl (lv_at hl 0 rfl) ?_
  refine gh_get S hI hq rfl i_File 3 (by decide) wi_198 rfl d_File_id_1 ?_
  exact gr_i S hr hlk hI (⟨rfl, rfl⟩) d_File_id_4
set_option maxHeartbeats 4000000 in
set_option maxRecDepth 100000 in
theorem c_File_length (l : Launch) (P : gPar) (f : gM) {q pl len : Nat} {idv : Int32} (hq : f q = some (.inr (4, [.ref pl, .ref (q + 1), .ref (q + 3), .int idv, .int (nI len)]))) : gC l P y_File_length b_File_length 1 (some .int) 0 0 0 [.ref q] f (gQi P (fun r f1 => r = nI len ∧ f1 = f)) := by
  refine gC_of (by decide) (Nat.le_of_ble_eq_true rfl) (fun p env s m args below meth c S hr hlk hnm H locs hI ls hl => ?_)
  have hl : lv_has ls 1 [(0, .ref q)] := hl
  refine lv_aload_n S.1 S.2.1 d_File_length_0 rfl (lv_at hl 0 rfl) ?_
  refine gh_get S hI hq rfl i_File 4 (by decide) wi_199 rfl d_File_length_1 ?_
  exact gr_i S hr hlk hI (⟨rfl, rfl⟩) d_File_length_4
set_option maxHeartbeats 4000000 in
set_option maxRecDepth 100000 in
theorem c_File_begin (l : Launch) (P : gPar) (f : gM) {q pl len n a2 b2 n2 cap2 : Nat} {idv nid : Int32} {g g2 : Nat → Int32} (hq : f q = some (.inr (4, [.ref pl, .ref (q + 1), .ref (q + 3), .int idv, .int (nI len)]))) (hq1 : f (q + 1) = some (.inr (1, [.ref (q + 2), .int (nI n)]))) (hq2 : f (q + 2) = some (.inl (P.2.1 0, 200, .inl g))) (ha2 : f a2 = some (.inr (1, [.ref b2, .int (nI n2)]))) (hb2 : f b2 = some (.inl (P.2.1 0, cap2, .inl g2))) (hna : q + 1 ≠ a2) (hnb : q + 2 ≠ b2) (h1 : n2 ≤ cap2) (h2 : n2 ≤ 200) (hc2 : cap2 < 2 ^ 20) (hg2 : sb_Fit g2) : gC l P y_File_begin b_File_begin 3 none 3 0 0 [.ref q, .ref a2, .int nid] f (gQv P (fun f1 => f1 q = some (.inr (4, [.ref pl, .ref (q + 1), .ref (q + 3), .int nid, .int (nI len)])) ∧ f1 (q + 1) = some (.inr (1, [.ref (q + 2), .int (nI n2)])) ∧ f1 (q + 2) = some (.inl (P.2.1 0, 200, .inl (va_cpy g2 g 0 0 n2))) ∧ gFr f f1 [q, q + 1, q + 2])) := by
  refine gC_of (by decide) (Nat.le_of_ble_eq_true rfl) (fun p env s m args below meth c S hr hlk hnm H locs hI ls hl => ?_)
  have hl : lv_has ls 3 [(0, .ref q), (1, .ref a2), (2, .int nid)] := hl
  have hF : gFr f f [q, q + 1, q + 2] := gFr.rf
  refine lv_aload_n S.1 S.2.1 d_File_begin_0 rfl (lv_at hl 0 rfl) ?_
  refine gh_get S hI hq rfl i_File 1 (by decide) wi_196 rfl d_File_begin_1 ?_
  refine lv_aload_n S.1 S.2.1 d_File_begin_4 rfl (lv_at hl 1 rfl) ?_
  refine gc_Vv S hI (c_Row_become l P f hq1 hq2 ha2 hb2 hna hnb h1 h2 (by omega) hc2 hg2) kv_Row_become wi_212 hq1 rfl rfl rfl hl.1 rfl (Nat.le_of_ble_eq_true rfl) ⟨Nat.le_of_ble_eq_true rfl, Nat.le_of_ble_eq_true rfl⟩ ⟨Nat.le_of_ble_eq_true rfl, Nat.le_of_ble_eq_true rfl⟩ d_File_begin_5 (fun f2 H locs hp3 hI => ?_)
  obtain ⟨hp1, hp2, hp3⟩ := hp3
  have hqn := hp3 q _ hq (by simp)
  have hF : gFr f f2 [q, q + 1, q + 2] := hp3.mono (by simp)
  refine lv_aload_n S.1 S.2.1 d_File_begin_8 rfl (lv_at hl 0 rfl) ?_
  refine lv_iload_n S.1 S.2.1 d_File_begin_9 rfl (lv_at hl 2 rfl) ?_
  refine gh_put S hI hqn rfl i_File t_File tk_File n_File 3 (by decide) wi_198 rfl rfl rfl (Nat.le_of_ble_eq_true rfl) d_File_begin_10 (fun H locs hI => ?_)
  have hI : gB P (va_up f2 q (some (.inr (4, [.ref pl, .ref (q + 1), .ref (q + 3), .int nid, .int (nI len)])))) s H locs := hI
  obtain ⟨f4, ef4⟩ : ∃ z, z = va_up f2 q (some (.inr (4, [.ref pl, .ref (q + 1), .ref (q + 3), .int nid, .int (nI len)]))) := ⟨_, rfl⟩
  rw [← ef4] at hI
  have h5 : f4 (q + 1) = some (.inr (1, [.ref (q + 2), .int (nI n2)])) := by rw [ef4, va_up_ne _ _ (by omega)]; exact hp1
  have h6 : f4 (q + 2) = some (.inl (P.2.1 0, 200, .inl (va_cpy g2 g 0 0 n2))) := by rw [ef4, va_up_ne _ _ (by omega)]; exact hp2
  have h7 : f4 q = some (.inr (4, [.ref pl, .ref (q + 1), .ref (q + 3), .int nid, .int (nI len)])) := by rw [ef4]; exact va_up_self _ _ _
  have hF : gFr f f4 [q, q + 1, q + 2] := by rw [ef4]; exact gFr.upA (by simp) hF
  exact gr_v S hr hlk hI (⟨h7, h5, h6, hF⟩) d_File_begin_13
set_option maxHeartbeats 4000000 in
set_option maxRecDepth 100000 in
theorem c_File_laidStripes (l : Launch) (P : gPar) (f : gM) {q pl len : Nat} {idv : Int32} {ps : Nat → Option Nat} {ow : gO} {ld : Nat → Bool} {C : Nat → Nat} (hq : f q = some (.inr (4, [.ref pl, .ref (q + 1), .ref (q + 3), .int idv, .int (nI len)]))) (hq3 : f (q + 3) = some (.inl (P.2.1 3, 19, .inr (.inr (.inr (.inr ps)))))) (hps : gPs P f ow q ps ld C) : gC l P y_File_laidStripes b_File_laidStripes 3 (some .int) 0 0 0 [.ref q] f (gQi P (fun r f1 => r = nI (cntL ld 19) ∧ f1 = f)) := by
  refine gC_of (by decide) (Nat.le_of_ble_eq_true rfl) (fun p env s m args below meth c S hr hlk hnm H locs hI ls hl => ?_)
  have hl : lv_has ls 3 [(0, .ref q)] := hl
  refine lv_iconst (v := nI 0) S.1 S.2.1 d_File_laidStripes_0 (by decide) ?_
  refine lv_istore_n (lv' := [(1, .int (nI 0)), (0, .ref q)]) S.1 S.2.1 d_File_laidStripes_1 rfl hl (by decide) rfl (fun ls hl => ?_)
  refine lv_iconst (v := nI 0) S.1 S.2.1 d_File_laidStripes_2 (by decide) ?_
  refine lv_istore_n (lv' := [(2, .int (nI 0)), (1, .int (nI 0)), (0, .ref q)]) S.1 S.2.1 d_File_laidStripes_3 rfl hl (by decide) rfl (fun ls hl => ?_)
  have loop : ∀ (k i : Nat), i ≤ 19 → 19 - i < k → ∀ (H : Heap) (locs : List Loc), gB P f s H locs → ∀ ls : Array Slot, lv_has ls 3 [(0, .ref q), (1, .int (nI (cntL ld i))), (2, .int (nI i))] → W p l env (grm 0 0 0) s m args below meth c H locs 0 0 (MQ below (gQi P (fun r f1 => r = nI (cntL ld 19) ∧ f1 = f)) args s 0 0 (gA P)) (F0 m 4 ls []) := by
    intro k
    induction k with
    | zero => intro i h4 h5; exact absurd h5 (by omega)
    | succ k ih =>
      intro i h4 h5 H locs hI ls hl
      have hcl := cntL_le ld i
      refine lv_iload_n S.1 S.2.1 d_File_laidStripes_4 rfl (lv_at hl 2 rfl) ?_
      refine lv_bipush (v := nI 19) S.1 S.2.1 d_File_laidStripes_5 (by decide) ?_
      refine lv_icmp_ge (tgt := 28) S.1 S.2.1 d_File_laidStripes_7 (by decide) (fun c8 => ?_) (fun c8 => ?_)
      · skip
        replace c8 : 19 ≤ i := (nI_leI (a := 19) (b := i) (by omega) (by omega)).mp c8
        refine lv_iload_n S.1 S.2.1 d_File_laidStripes_28 rfl (lv_at hl 1 rfl) ?_
        exact gr_i S hr hlk hI (⟨by rw [show i = 19 by omega], rfl⟩) d_File_laidStripes_29
      · skip
        replace c8 : ¬ 19 ≤ i := fun z => c8 ((nI_leI (a := 19) (b := i) (by omega) (by omega)).mpr z)
        refine lv_aload_n S.1 S.2.1 d_File_laidStripes_10 rfl (lv_at hl 0 rfl) ?_
        refine gh_get S hI hq rfl i_File 2 (by decide) wi_197 rfl d_File_laidStripes_11 ?_
        refine lv_iload_n S.1 S.2.1 d_File_laidStripes_14 rfl (lv_at hl 2 rfl) ?_
        refine gh_aald (j := i) S hI 3 hq3 rfl rfl (by omega) (by omega) d_File_laidStripes_15 ?_
        obtain ⟨e1, -⟩ := hps i (by omega)
        rcases hs : ps i with _ | x
        · skip
          rw [show va_rf none = .null from rfl]
          refine lv_ifnullN (tgt := 22) S.1 S.2.1 d_File_laidStripes_16 (by decide) ?_
          have ec : cntL ld (i + 1) = cntL ld i := by show cntL ld i + _ = _; rw [hs] at e1; rw [← e1]; rfl
          refine lv_iinc (v := nI (i + 1)) (lv' := [(2, .int (nI (i + 1))), (0, .ref q), (1, .int (nI (cntL ld i)))]) S.1 S.2.1 d_File_laidStripes_22 hl (k := 2) rfl (nI_add _ _) (by decide) rfl (fun ls hl => ?_)
          refine lv_goto (tgt := 4) S.1 S.2.1 d_File_laidStripes_25 (by decide) ?_
          exact ih (i + 1) (by omega) (by omega) _ _ hI _ (by rw [ec]; exact lv_sub hl [1, 2, 0] rfl)
        · skip
          rw [show va_rf (some x) = .ref x from rfl]
          refine lv_ifnull S.1 S.2.1 d_File_laidStripes_16 ?_
          have ec : cntL ld (i + 1) = cntL ld i + 1 := by show cntL ld i + _ = _; rw [hs] at e1; rw [← e1]; rfl
          refine lv_iinc (v := nI (cntL ld i + 1)) (lv' := [(1, .int (nI (cntL ld i + 1))), (0, .ref q), (2, .int (nI i))]) S.1 S.2.1 d_File_laidStripes_19 hl (k := 1) rfl (nI_add _ _) (by decide) rfl (fun ls hl => ?_)
          refine lv_iinc (v := nI (i + 1)) (lv' := [(2, .int (nI (i + 1))), (1, .int (nI (cntL ld i + 1))), (0, .ref q)]) S.1 S.2.1 d_File_laidStripes_22 hl (k := 2) rfl (nI_add _ _) (by decide) rfl (fun ls hl => ?_)
          refine lv_goto (tgt := 4) S.1 S.2.1 d_File_laidStripes_25 (by decide) ?_
          exact ih (i + 1) (by omega) (by omega) _ _ hI _ (by rw [ec]; exact lv_sub hl [2, 1, 0] rfl)
  exact loop 20 0 (by omega) (by omega) _ _ hI _ (lv_sub hl [2, 1, 0] rfl)
set_option maxHeartbeats 4000000 in
set_option maxRecDepth 100000 in
theorem c_File_keptByte (l : Launch) (P : gPar) (f : gM) {q pl len : Nat} {idv : Int32} {ps : Nat → Option Nat} {ow : gO} {ld : Nat → Bool} {C : Nat → Nat} {si ii : Int32} (hq : f q = some (.inr (4, [.ref pl, .ref (q + 1), .ref (q + 3), .int idv, .int (nI len)]))) (hq3 : f (q + 3) = some (.inl (P.2.1 3, 19, .inr (.inr (.inr (.inr ps)))))) (hps : gPs P f ow q ps ld C) (hlen : len ≤ 8192) : gC l P y_File_keptByte b_File_keptByte 4 (some .int) 0 0 0 [.ref q, .int si, .int ii] f (gQi P (fun r f1 => r = pcV len ld C si ii ∧ f1 = f)) := by
  refine gC_of (by decide) (Nat.le_of_ble_eq_true rfl) (fun p env s m args below meth c S hr hlk hnm H locs hI ls hl => ?_)
  have hl : lv_has ls 4 [(0, .ref q), (1, .int si), (2, .int ii)] := hl
  refine lv_iload_n S.1 S.2.1 d_File_keptByte_0 rfl (lv_at hl 1 rfl) ?_
  refine lv_if_lt (tgt := 21) S.1 S.2.1 d_File_keptByte_1 (by decide) (fun c9 => ?_) (fun c9 => ?_)
  · skip
    refine lv_bipush (v := (-2)) S.1 S.2.1 d_File_keptByte_21 (by decide) ?_
    exact gr_i S hr hlk hI (⟨by unfold pcV; rw [if_neg (fun z => absurd c9 z.1)], rfl⟩) d_File_keptByte_23
  · skip
    obtain ⟨u, hu, rfl⟩ := nI_of c9
    refine lv_iload_n S.1 S.2.1 d_File_keptByte_4 rfl (lv_at hl 1 rfl) ?_
    refine lv_bipush (v := nI 19) S.1 S.2.1 d_File_keptByte_5 (by decide) ?_
    refine lv_icmp_ge (tgt := 21) S.1 S.2.1 d_File_keptByte_7 (by decide) (fun c10 => ?_) (fun c10 => ?_)
    · skip
      replace c10 : 19 ≤ u := (nI_leI (a := 19) (b := u) (by omega) (by omega)).mp c10
      refine lv_bipush (v := (-2)) S.1 S.2.1 d_File_keptByte_21 (by decide) ?_
      exact gr_i S hr hlk hI (⟨by unfold pcV; rw [if_neg (fun z => absurd ((nI_ltI (by omega) (by omega)).mp z.2.1) (by omega))], rfl⟩) d_File_keptByte_23
    · skip
      replace c10 : ¬ 19 ≤ u := fun z => c10 ((nI_leI (a := 19) (b := u) (by omega) (by omega)).mpr z)
      refine lv_iload_n S.1 S.2.1 d_File_keptByte_10 rfl (lv_at hl 2 rfl) ?_
      refine lv_if_lt (tgt := 21) S.1 S.2.1 d_File_keptByte_11 (by decide) (fun c11 => ?_) (fun c11 => ?_)
      · skip
        refine lv_bipush (v := (-2)) S.1 S.2.1 d_File_keptByte_21 (by decide) ?_
        exact gr_i S hr hlk hI (⟨by unfold pcV; rw [if_neg (fun z => absurd c11 z.2.2.1)], rfl⟩) d_File_keptByte_23
      · skip
        obtain ⟨v, hv, rfl⟩ := nI_of c11
        refine lv_iload_n S.1 S.2.1 d_File_keptByte_14 rfl (lv_at hl 2 rfl) ?_
        refine lv_sipush (v := nI 448) S.1 S.2.1 d_File_keptByte_15 (by decide) ?_
        refine lv_icmp_lt (tgt := 24) S.1 S.2.1 d_File_keptByte_18 (by decide) (fun c12 => ?_) (fun c12 => ?_)
        · skip
          replace c12 : v < 448 := (nI_ltI (a := v) (b := 448) (by omega) (by omega)).mp c12
          refine lv_aload_n S.1 S.2.1 d_File_keptByte_24 rfl (lv_at hl 0 rfl) ?_
          refine gh_get S hI hq rfl i_File 2 (by decide) wi_197 rfl d_File_keptByte_25 ?_
          refine lv_iload_n S.1 S.2.1 d_File_keptByte_28 rfl (lv_at hl 1 rfl) ?_
          refine gh_aald (j := u) S hI 3 hq3 rfl rfl (by omega) (by omega) d_File_keptByte_29 ?_
          obtain ⟨e1, e2⟩ := hps u (by omega)
          have eu : (nI u).toNatClampNeg = u := nI_clamp hu
          have ev : (nI v).toNatClampNeg = v := nI_clamp hv
          rcases hs : ps u with _ | x
          · skip
            rw [show va_rf none = .null from rfl]
            refine lv_astore_nN (lv' := [(3, .null), (0, .ref q), (1, .int (nI u)), (2, .int (nI v))]) S.1 S.2.1 d_File_keptByte_30 rfl hl (by decide) rfl (fun ls hl => ?_)
            refine lv_aload_nN S.1 S.2.1 d_File_keptByte_31 rfl (lv_at hl 0 rfl) ?_
            refine lv_ifnullN (tgt := 49) S.1 S.2.1 d_File_keptByte_32 (by decide) ?_
            rw [hs] at e1
            refine lv_bipush (v := (-2)) S.1 S.2.1 d_File_keptByte_49 (by decide) ?_
            exact gr_i S hr hlk hI (⟨by unfold pcV; rw [if_neg (fun z => by have z5 := z.2.2.2.2.1; rw [eu, ← e1] at z5; cases z5)], rfl⟩) d_File_keptByte_51
          · skip
            rw [show va_rf (some x) = .ref x from rfl]
            refine lv_astore_n (lv' := [(3, .ref x), (0, .ref q), (1, .int (nI u)), (2, .int (nI v))]) S.1 S.2.1 d_File_keptByte_30 rfl hl (by decide) rfl (fun ls hl => ?_)
            refine lv_aload_n S.1 S.2.1 d_File_keptByte_31 rfl (lv_at hl 0 rfl) ?_
            refine lv_ifnull S.1 S.2.1 d_File_keptByte_32 ?_
            obtain ⟨-, h, ⟨hx1, hx2, hx3⟩, hx4⟩ := e2 x hs
            rw [hs] at e1
            refine lv_iload_n S.1 S.2.1 d_File_keptByte_35 rfl (lv_at hl 2 rfl) ?_
            refine lv_sipush (v := nI 448) S.1 S.2.1 d_File_keptByte_36 (by decide) ?_
            refine lv_imul S.1 S.2.1 d_File_keptByte_39 ?_
            refine lv_topi (fun v13 ev13 => ?_)
            replace ev13 : v13 = nI (u * 448) := ev13.trans (pk_mul _ _)
            subst ev13
            refine lv_iload_n S.1 S.2.1 d_File_keptByte_40 rfl (lv_at hl 3 rfl) ?_
            refine lv_iadd S.1 S.2.1 d_File_keptByte_41 ?_
            refine lv_topi (fun v14 ev14 => ?_)
            replace ev14 : v14 = nI ((u * 448) + v) := ev14.trans (nI_add _ _)
            subst ev14
            refine lv_aload_n S.1 S.2.1 d_File_keptByte_42 rfl (lv_at hl 1 rfl) ?_
            refine gh_get S hI hq rfl i_File 4 (by decide) wi_199 rfl d_File_keptByte_43 ?_
            refine lv_icmp_lt (tgt := 52) S.1 S.2.1 d_File_keptByte_46 (by decide) (fun c15 => ?_) (fun c15 => ?_)
            · skip
              replace c15 : ((u * 448) + v) < len := (nI_ltI (a := (u * 448) + v) (b := len) (by omega) (by omega)).mp c15
              refine lv_aload_n S.1 S.2.1 d_File_keptByte_52 rfl (lv_at hl 0 rfl) ?_
              refine gh_getN S hI hx1 rfl i_Piece 0 (by decide) hI.1.2.2.1.2.1 rfl d_File_keptByte_53 ?_
              refine lv_iload_n S.1 S.2.1 d_File_keptByte_56 rfl (lv_at hl 3 rfl) ?_
              refine gh_bald (j := v) S hI 0 hx2 rfl rfl (by omega) (by omega) d_File_keptByte_57 ?_
              refine lv_sipush (v := nI 255) S.1 S.2.1 d_File_keptByte_58 (by decide) ?_
              refine lv_iand S.1 S.2.1 d_File_keptByte_61 ?_
              refine lv_topi (fun v16 ev16 => ?_)
              replace ev16 : v16 = nI (ub (h v)) := ev16.trans (ub_nI _)
              subst ev16
              exact gr_i S hr hlk hI (⟨by unfold pcV; rw [if_pos ⟨c9, nI_lt (by omega) (by omega), c11, nI_lt (by omega) (by omega), by rw [eu, ← e1]; rfl, by rw [eu, ev]; omega⟩, eu, ev, hx4 v (by omega)], rfl⟩) d_File_keptByte_62
            · skip
              replace c15 : ¬ ((u * 448) + v) < len := fun z => c15 ((nI_ltI (a := (u * 448) + v) (b := len) (by omega) (by omega)).mpr z)
              refine lv_bipush (v := (-2)) S.1 S.2.1 d_File_keptByte_49 (by decide) ?_
              exact gr_i S hr hlk hI (⟨by unfold pcV; rw [if_neg (fun z => absurd z.2.2.2.2.2 (by rw [eu, ev]; omega))], rfl⟩) d_File_keptByte_51
        · skip
          replace c12 : ¬ v < 448 := fun z => c12 ((nI_ltI (a := v) (b := 448) (by omega) (by omega)).mpr z)
          refine lv_bipush (v := (-2)) S.1 S.2.1 d_File_keptByte_21 (by decide) ?_
          exact gr_i S hr hlk hI (⟨by unfold pcV; rw [if_neg (fun z => absurd ((nI_ltI (by omega) (by omega)).mp z.2.2.2.1) (by omega))], rfl⟩) d_File_keptByte_23
