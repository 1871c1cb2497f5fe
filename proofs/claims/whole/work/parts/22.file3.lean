set_option maxHeartbeats 4000000 in
set_option maxRecDepth 100000 in
theorem c_File_tell (l : Launch) (P : gPar) (f : gM) {q pl len : Nat} {idv : Int32} {ps : Nat → Option Nat} {ow : gO} {ld : Nat → Bool} {C : Nat → Nat} {a n capR s0 fr k : Nat} {g : Nat → Int32} (hq : f q = some (.inr (4, [.ref pl, .ref (q + 1), .ref (q + 3), .int idv, .int (nI len)]))) (hq3 : f (q + 3) = some (.inl (P.2.1 3, 19, .inr (.inr (.inr (.inr ps)))))) (hps : gPs P f ow q ps ld C) (ha : f a = some (.inr (1, [.ref (a + 1), .int (nI n)]))) (hb : f (a + 1) = some (.inl (P.2.1 0, capR, .inl g))) (hs0 : s0 < 19) (hC0 : ld s0 = false → ∀ j, j < 448 → C (448 * s0 + j) = 0) (hfk : fr + k ≤ 448) (hnk : n + k ≤ capR) (hcR : capR < 2 ^ 20) (hg : sb_Fit g) : gC l P y_File_tell b_File_tell 6 none 4 0 0 [.ref q, .int (nI s0), .int (nI fr), .int (nI k), .ref a] f (gQv P (fun f1 => f1 a = some (.inr (1, [.ref (a + 1), .int (nI (n + k))])) ∧ (∃ g1, f1 (a + 1) = some (.inl (P.2.1 0, capR, .inl g1)) ∧ sb_Fit g1 ∧ (∀ i, i < n → g1 i = g i) ∧ ∀ i, i < k → ub (g1 (n + i)) = C (448 * s0 + fr + i)) ∧ gFr f f1 [a, a + 1])) := by
  refine gC_of (by decide) (Nat.le_of_ble_eq_true rfl) (fun p env s m args below meth c S hr hlk hnm H locs hI ls hl => ?_)
  have hl : lv_has ls 6 [(0, .ref q), (1, .int (nI s0)), (2, .int (nI fr)), (3, .int (nI k)), (4, .ref a)] := hl
  obtain ⟨e1, e2⟩ := hps s0 hs0
  refine lv_aload_n S.1 S.2.1 d_File_tell_0 rfl (lv_at hl 0 rfl) ?_
  refine gh_get S hI hq rfl i_File 2 (by decide) wi_197 rfl d_File_tell_1 ?_
  refine lv_iload_n S.1 S.2.1 d_File_tell_4 rfl (lv_at hl 1 rfl) ?_
  refine gh_aald (j := s0) S hI 3 hq3 rfl rfl (by omega) (by omega) d_File_tell_5 ?_
  rcases hs : ps s0 with _ | x
  · skip
    rw [show va_rf none = .null from rfl]
    refine lv_astoreN (lv' := [(5, .null), (0, .ref q), (1, .int (nI s0)), (2, .int (nI fr)), (3, .int (nI k)), (4, .ref a)]) S.1 S.2.1 d_File_tell_6 hl (by decide) rfl (fun ls hl => ?_)
    refine lv_aloadN S.1 S.2.1 d_File_tell_8 (lv_at hl 0 rfl) ?_
    refine lv_ifnonnullN S.1 S.2.1 d_File_tell_10 ?_
    refine lv_aload S.1 S.2.1 d_File_tell_13 (lv_at hl 5 rfl) ?_
    refine lv_iload_n S.1 S.2.1 d_File_tell_15 rfl (lv_at hl 4 rfl) ?_
    refine gc_Vv S hI (c_Row_addZeros l P f (k := k) ha hb (by omega) hcR) kv_Row_addZeros wi_379 ha rfl rfl rfl hl.1 rfl (Nat.le_of_ble_eq_true rfl) ⟨Nat.le_of_ble_eq_true rfl, Nat.le_of_ble_eq_true rfl⟩ ⟨Nat.le_of_ble_eq_true rfl, Nat.le_of_ble_eq_true rfl⟩ d_File_tell_16 (fun f53 H locs hp54 hI => ?_)
    obtain ⟨hp1, hp2, hp3⟩ := hp54
    rw [hs] at e1
    refine lv_goto (tgt := 34) S.1 S.2.1 d_File_tell_19 (by decide) ?_
    exact gr_v S hr hlk hI (⟨hp1, ⟨_, hp2, g_fil_fit hg (by decide), fun i hi => by unfold g_fil; rw [if_neg (by omega)], fun i hi => by unfold g_fil; rw [if_pos (by omega), Nat.add_assoc, hC0 e1.symm (fr + i) (by omega)]; decide⟩, hp3⟩) d_File_tell_34
  · skip
    rw [show va_rf (some x) = .ref x from rfl]
    refine lv_astore (lv' := [(5, .ref x), (0, .ref q), (1, .int (nI s0)), (2, .int (nI fr)), (3, .int (nI k)), (4, .ref a)]) S.1 S.2.1 d_File_tell_6 hl (by decide) rfl (fun ls hl => ?_)
    refine lv_aload S.1 S.2.1 d_File_tell_8 (lv_at hl 0 rfl) ?_
    refine lv_ifnonnull (tgt := 22) S.1 S.2.1 d_File_tell_10 (by decide) ?_
    obtain ⟨-, hh, ⟨hx1, hx2, hx3⟩, hx4⟩ := e2 x hs
    refine lv_aload S.1 S.2.1 d_File_tell_22 (lv_at hl 5 rfl) ?_
    refine lv_aload S.1 S.2.1 d_File_tell_24 (lv_at hl 0 rfl) ?_
    refine gh_getN S hI hx1 rfl i_Piece 0 (by decide) hI.1.2.2.1.2.1 rfl d_File_tell_26 ?_
    refine lv_iload_n S.1 S.2.1 d_File_tell_29 rfl (lv_at hl 3 rfl) ?_
    refine lv_iload_n S.1 S.2.1 d_File_tell_30 rfl (lv_at hl 4 rfl) ?_
    have hne : x + 1 ≠ a + 1 := by
      intro z
      have e3 : x = a := by omega
      rw [e3, ha] at hx1; simp at hx1
    refine gc_Vv S hI (c_Row_addBytes l P f (k := k) (fr := fr) ha hb hx2 hne (by omega) (by omega) hcR (by omega) hx3) kv_Row_addBytes wi_384 ha rfl rfl rfl hl.1 rfl (Nat.le_of_ble_eq_true rfl) ⟨Nat.le_of_ble_eq_true rfl, Nat.le_of_ble_eq_true rfl⟩ ⟨Nat.le_of_ble_eq_true rfl, Nat.le_of_ble_eq_true rfl⟩ d_File_tell_31 (fun f56 H locs hp57 hI => ?_)
    obtain ⟨hp1, hp2, hp3⟩ := hp57
    exact gr_v S hr hlk hI (⟨hp1, ⟨_, hp2, sb_fitC hx3 hg, fun i hi => pk_cpy_out (by omega), fun i hi => by rw [pk_cpy_in (by omega) (by omega), Nat.add_sub_cancel_left, hx4 _ (by omega), Nat.add_assoc]⟩, hp3⟩) d_File_tell_34
set_option maxHeartbeats 4000000 in
set_option maxRecDepth 100000 in
theorem c_File_read (l : Launch) (P : gPar) (f : gM) {q pl len : Nat} {idv : Int32} {ps : Nat → Option Nat} {ow : gO} {ld : Nat → Bool} {C : Nat → Nat} {a capR fr most : Nat} {g : Nat → Int32} (hq : f q = some (.inr (4, [.ref pl, .ref (q + 1), .ref (q + 3), .int idv, .int (nI len)]))) (hq3 : f (q + 3) = some (.inl (P.2.1 3, 19, .inr (.inr (.inr (.inr ps)))))) (hps : gPs P f ow q ps ld C) (ha : f a = some (.inr (1, [.ref (a + 1), .int (nI 0)]))) (hb : f (a + 1) = some (.inl (P.2.1 0, capR, .inl g))) (hlen : len ≤ 8192) (hfr : fr ≤ 8192) (hm : most ≤ capR) (hC0 : ∀ p, ld (p / 448) = false → C p = 0) (hcR : capR < 2 ^ 20) (hg : sb_Fit g) : gC l P y_File_read b_File_read 9 none 5 0 0 [.ref q, .int (nI fr), .int (nI most), .ref a] f (gQv P (fun f1 => f1 a = some (.inr (1, [.ref (a + 1), .int (nI (min len (fr + most) - fr))])) ∧ (∃ g1, f1 (a + 1) = some (.inl (P.2.1 0, capR, .inl g1)) ∧ sb_Fit g1 ∧ ∀ i, i < min len (fr + most) - fr → ub (g1 i) = C (fr + i)) ∧ gFr f f1 [a, a + 1])) := by
  refine gC_of (by decide) (Nat.le_of_ble_eq_true rfl) (fun p env s m args below meth c S hr hlk hnm H locs hI ls hl => ?_)
  have hl : lv_has ls 9 [(0, .ref q), (1, .int (nI fr)), (2, .int (nI most)), (3, .ref a)] := hl
  refine lv_aload_n S.1 S.2.1 d_File_read_0 rfl (lv_at hl 0 rfl) ?_
  refine gh_get S hI hq rfl i_File 4 (by decide) wi_199 rfl d_File_read_1 ?_
  refine lv_iload_n S.1 S.2.1 d_File_read_4 rfl (lv_at hl 1 rfl) ?_
  refine lv_iload_n S.1 S.2.1 d_File_read_5 rfl (lv_at hl 2 rfl) ?_
  refine lv_iadd S.1 S.2.1 d_File_read_6 ?_
  refine lv_topi (fun v58 ev58 => ?_)
  replace ev58 : v58 = nI (fr + most) := ev58.trans (nI_add _ _)
  subst ev58
  refine gc_min S wi_284 hl.1 d_File_read_7 (by omega) (by omega) (Nat.le_of_ble_eq_true rfl) (Nat.le_of_ble_eq_true rfl) (Nat.le_of_ble_eq_true rfl) (Nat.le_of_ble_eq_true rfl) ?_
  obtain ⟨past, hpast⟩ : ∃ z, z = min len (fr + most) := ⟨_, rfl⟩
  rw [← hpast]
  refine lv_istore (lv' := [(4, .int (nI past)), (0, .ref q), (1, .int (nI fr)), (2, .int (nI most)), (3, .ref a)]) S.1 S.2.1 d_File_read_10 hl (by decide) rfl (fun ls hl => ?_)
  refine lv_iconst (v := nI 0) S.1 S.2.1 d_File_read_12 (by decide) ?_
  refine lv_istore (lv' := [(5, .int (nI 0)), (4, .int (nI past)), (0, .ref q), (1, .int (nI fr)), (2, .int (nI most)), (3, .ref a)]) S.1 S.2.1 d_File_read_13 hl (by decide) rfl (fun ls hl => ?_)
  have loop : ∀ (k i : Nat), i ≤ 19 → 19 - i < k → ∀ (fk : gM) (gk : Nat → Int32), fk q = some (.inr (4, [.ref pl, .ref (q + 1), .ref (q + 3), .int idv, .int (nI len)])) → fk (q + 3) = some (.inl (P.2.1 3, 19, .inr (.inr (.inr (.inr ps))))) → gPs P fk ow q ps ld C → fk a = some (.inr (1, [.ref (a + 1), .int (nI (min past (448 * i) - fr))])) → fk (a + 1) = some (.inl (P.2.1 0, capR, .inl gk)) → sb_Fit gk → (∀ t, t < min past (448 * i) - fr → ub (gk t) = C (fr + t)) → gFr f fk [a, a + 1] → ∀ (H : Heap) (locs : List Loc), gB P fk s H locs → ∀ ls : Array Slot, lv_has ls 9 [(0, .ref q), (1, .int (nI fr)), (2, .int (nI most)), (3, .ref a), (4, .int (nI past)), (5, .int (nI i))] → W p l env (grm 5 0 0) s m args below meth c H locs 0 0 (MQ below (gQv P (fun f1 => f1 a = some (.inr (1, [.ref (a + 1), .int (nI (min len (fr + most) - fr))])) ∧ (∃ g1, f1 (a + 1) = some (.inl (P.2.1 0, capR, .inl g1)) ∧ sb_Fit g1 ∧ ∀ i, i < min len (fr + most) - fr → ub (g1 i) = C (fr + i)) ∧ gFr f f1 [a, a + 1])) args s 0 0 (gA P)) (F0 m 15 ls []) := by
    intro k
    induction k with
    | zero => intro i h4 h5; exact absurd h5 (by omega)
    | succ k ih =>
      intro i h4 h5 fk gk gq gq3 gps ga gb gf gc gF H locs hI ls hl
      refine lv_iload S.1 S.2.1 d_File_read_15 (lv_at hl 5 rfl) ?_
      refine lv_bipush (v := nI 19) S.1 S.2.1 d_File_read_17 (by decide) ?_
      refine lv_icmp_ge (tgt := 81) S.1 S.2.1 d_File_read_19 (by decide) (fun c59 => ?_) (fun c59 => ?_)
      · skip
        replace c59 : 19 ≤ i := (nI_leI (a := 19) (b := i) (by omega) (by omega)).mp c59
        have e19 : min past (448 * i) = past := by omega
        rw [e19] at ga gc
        subst hpast
        exact gr_v S hr hlk hI (⟨ga, ⟨gk, gb, gf, gc⟩, gF⟩) d_File_read_81
      · skip
        replace c59 : ¬ 19 ≤ i := fun z => c59 ((nI_leI (a := 19) (b := i) (by omega) (by omega)).mpr z)
        refine lv_iload S.1 S.2.1 d_File_read_22 (lv_at hl 5 rfl) ?_
        refine lv_sipush (v := nI 448) S.1 S.2.1 d_File_read_24 (by decide) ?_
        refine lv_imul S.1 S.2.1 d_File_read_27 ?_
        refine lv_topi (fun v60 ev60 => ?_)
        replace ev60 : v60 = nI (i * 448) := ev60.trans (pk_mul _ _)
        subst ev60
        refine lv_topi (fun v61 ev61 => ?_)
        replace ev61 : v61 = nI (448 * i) := ev61.trans (by rw [Nat.mul_comm])
        subst ev61
        refine lv_istore (lv' := [(6, .int (nI (448 * i))), (0, .ref q), (1, .int (nI fr)), (2, .int (nI most)), (3, .ref a), (4, .int (nI past)), (5, .int (nI i))]) S.1 S.2.1 d_File_read_28 hl (by decide) rfl (fun ls hl => ?_)
        refine lv_iload_n S.1 S.2.1 d_File_read_30 rfl (lv_at hl 2 rfl) ?_
        refine lv_iload S.1 S.2.1 d_File_read_31 (lv_at hl 0 rfl) ?_
        refine gc_max S wi_283 hl.1 d_File_read_33 (by omega) (by omega) (Nat.le_of_ble_eq_true rfl) (Nat.le_of_ble_eq_true rfl) (Nat.le_of_ble_eq_true rfl) (Nat.le_of_ble_eq_true rfl) ?_
        obtain ⟨lo, hlo⟩ : ∃ z, z = max fr (448 * i) := ⟨_, rfl⟩
        rw [← hlo]
        refine lv_istore (lv' := [(7, .int (nI lo)), (6, .int (nI (448 * i))), (0, .ref q), (1, .int (nI fr)), (2, .int (nI most)), (3, .ref a), (4, .int (nI past)), (5, .int (nI i))]) S.1 S.2.1 d_File_read_36 hl (by decide) rfl (fun ls hl => ?_)
        refine lv_iload S.1 S.2.1 d_File_read_38 (lv_at hl 6 rfl) ?_
        refine lv_iload S.1 S.2.1 d_File_read_40 (lv_at hl 1 rfl) ?_
        refine lv_sipush (v := nI 448) S.1 S.2.1 d_File_read_42 (by decide) ?_
        refine lv_iadd S.1 S.2.1 d_File_read_45 ?_
        refine lv_topi (fun v62 ev62 => ?_)
        replace ev62 : v62 = nI ((448 * i) + 448) := ev62.trans (nI_add _ _)
        subst ev62
        refine gc_min S wi_284 hl.1 d_File_read_46 (by omega) (by omega) (Nat.le_of_ble_eq_true rfl) (Nat.le_of_ble_eq_true rfl) (Nat.le_of_ble_eq_true rfl) (Nat.le_of_ble_eq_true rfl) ?_
        obtain ⟨hi, hhi⟩ : ∃ z, z = min past (448 * i + 448) := ⟨_, rfl⟩
        rw [← hhi]
        refine lv_istore (lv' := [(8, .int (nI hi)), (7, .int (nI lo)), (6, .int (nI (448 * i))), (0, .ref q), (1, .int (nI fr)), (2, .int (nI most)), (3, .ref a), (4, .int (nI past)), (5, .int (nI i))]) S.1 S.2.1 d_File_read_49 hl (by decide) rfl (fun ls hl => ?_)
        refine lv_iload S.1 S.2.1 d_File_read_51 (lv_at hl 1 rfl) ?_
        refine lv_iload S.1 S.2.1 d_File_read_53 (lv_at hl 0 rfl) ?_
        refine lv_icmp_ge (tgt := 75) S.1 S.2.1 d_File_read_55 (by decide) (fun c63 => ?_) (fun c63 => ?_)
        · skip
          replace c63 : hi ≤ lo := (nI_leI (a := hi) (b := lo) (by omega) (by omega)).mp c63
          have en : min past (448 * (i + 1)) - fr = min past (448 * i) - fr := by omega
          refine lv_iinc (v := nI (i + 1)) (lv' := [(5, .int (nI (i + 1))), (8, .int (nI hi)), (7, .int (nI lo)), (6, .int (nI (448 * i))), (0, .ref q), (1, .int (nI fr)), (2, .int (nI most)), (3, .ref a), (4, .int (nI past))]) S.1 S.2.1 d_File_read_75 hl (k := 8) rfl (nI_add _ _) (by decide) rfl (fun ls hl => ?_)
          refine lv_goto (tgt := 15) S.1 S.2.1 d_File_read_78 (by decide) ?_
          exact ih (i + 1) (by omega) (by omega) fk gk gq gq3 gps (by rw [en]; exact ga) gb gf (by rw [en]; exact gc) gF _ _ hI _ (lv_sub hl [4, 5, 6, 7, 8, 0] rfl)
        · skip
          replace c63 : ¬ hi ≤ lo := fun z => c63 ((nI_leI (a := hi) (b := lo) (by omega) (by omega)).mpr z)
          have en : min past (448 * i) - fr + (hi - lo) = min past (448 * (i + 1)) - fr := by omega
          refine lv_aload_n S.1 S.2.1 d_File_read_58 rfl (lv_at hl 3 rfl) ?_
          refine lv_iload S.1 S.2.1 d_File_read_59 (lv_at hl 8 rfl) ?_
          refine lv_iload S.1 S.2.1 d_File_read_61 (lv_at hl 1 rfl) ?_
          refine lv_iload S.1 S.2.1 d_File_read_63 (lv_at hl 2 rfl) ?_
          refine lv_isub S.1 S.2.1 d_File_read_65 ?_
          refine lv_topi (fun v64 ev64 => ?_)
          replace ev64 : v64 = nI (lo - (448 * i)) := ev64.trans (pk_sub (by omega))
          subst ev64
          refine lv_iload S.1 S.2.1 d_File_read_66 (lv_at hl 0 rfl) ?_
          refine lv_iload S.1 S.2.1 d_File_read_68 (lv_at hl 1 rfl) ?_
          refine lv_isub S.1 S.2.1 d_File_read_70 ?_
          refine lv_topi (fun v65 ev65 => ?_)
          replace ev65 : v65 = nI (hi - lo) := ev65.trans (pk_sub (by omega))
          subst ev65
          refine lv_aload_n S.1 S.2.1 d_File_read_71 rfl (lv_at hl 6 rfl) ?_
          refine gc_Vv S hI (c_File_tell l P fk gq gq3 gps ga gb (s0 := i) (fr := lo - 448 * i) (k := hi - lo) (by omega) (fun hz j hj => hC0 _ (by rw [show (448 * i + j) / 448 = i by omega]; exact hz)) (by omega) (by omega) hcR gf) kv_File_tell wi_376 gq rfl rfl rfl hl.1 rfl (Nat.le_of_ble_eq_true rfl) ⟨Nat.le_of_ble_eq_true rfl, Nat.le_of_ble_eq_true rfl⟩ ⟨Nat.le_of_ble_eq_true rfl, Nat.le_of_ble_eq_true rfl⟩ d_File_read_72 (fun f67 H locs hp68 hI => ?_)
          obtain ⟨p1, ⟨g1, p2, p3, p4, p5⟩, p6⟩ := hp68
          rw [en] at p1
          have gq2 := p6 q _ gq (by simp; exact ⟨gh_ne gq ga (by intro h; simp at h), gh_ne gq gb (by intro h; cases h)⟩)
          have gq32 := p6 (q + 3) _ gq3 (by simp; exact ⟨gh_ne gq3 ga (by intro h; cases h), fun z => by rw [show a + 1 = q + 3 by omega, gq3] at gb; injection gb with gb; injection gb with gb; injection gb with _ gb; injection gb with _ gb; cases gb⟩)
          have gc2 : ∀ t, t < min past (448 * (i + 1)) - fr → ub (g1 t) = C (fr + t) := by
            intro t ht
            by_cases h1 : t < min past (448 * i) - fr
            · rw [p4 t h1]; exact gc t h1
            · have h2 := p5 (t - (min past (448 * i) - fr)) (by omega)
              rw [show min past (448 * i) - fr + (t - (min past (448 * i) - fr)) = t by omega] at h2
              rw [h2]; congr 1; omega
          refine lv_iinc (v := nI (i + 1)) (lv' := [(5, .int (nI (i + 1))), (8, .int (nI hi)), (7, .int (nI lo)), (6, .int (nI (448 * i))), (0, .ref q), (1, .int (nI fr)), (2, .int (nI most)), (3, .ref a), (4, .int (nI past))]) S.1 S.2.1 d_File_read_75 hl (k := 8) rfl (nI_add _ _) (by decide) rfl (fun ls hl => ?_)
          refine lv_goto (tgt := 15) S.1 S.2.1 d_File_read_78 (by decide) ?_
          exact ih (i + 1) (by omega) (by omega) f67 g1 gq2 gq32 (gps.frrow ga gb p6) p1 p2 p3 gc2 (gF.call p6 (fun q hq => Or.inl hq)) _ _ hI _ (lv_sub hl [4, 5, 6, 7, 8, 0] rfl)
  subst hpast
  exact loop 20 0 (by omega) (by omega) f g hq hq3 hps (by rw [show min (min len (fr + most)) (448 * 0) - fr = 0 by omega]; exact ha) hb hg (fun t ht => absurd ht (by omega)) gFr.rf _ _ hI _ (lv_sub hl [2, 3, 4, 5, 1, 0] rfl)
set_option maxHeartbeats 4000000 in
set_option maxRecDepth 100000 in
theorem c_File_cutStripe (l : Launch) (P : gPar) (f : gM) {q pl len e cap : Nat} {idv : Int32} {ps : Nat → Option Nat} {ow : gO} {ld : Nat → Bool} {C : Nat → Nat} {SP : List Nat} {s0 k : Nat} {lf : Int32} (hq : f q = some (.inr (4, [.ref pl, .ref (q + 1), .ref (q + 3), .int idv, .int (nI len)]))) (hq3 : f (q + 3) = some (.inl (P.2.1 3, 19, .inr (.inr (.inr (.inr ps)))))) (hps : gPs P f ow q ps ld C) (h : gSp P f ow pl e cap SP) (hn : SP.length ≤ 130) (hs0 : s0 < 19) (hk : (lf = nI k ∧ k < 2 ^ 31) ∨ (lf < 0 ∧ k = 0)) : gC l P y_File_cutStripe b_File_cutStripe 4 none 8 1 300 [.ref q, .int (nI s0), .int lf] f (gQv P (fun f1 => ∃ (ow1 : gO) (ps1 : Nat → Option Nat) (SP1 : List Nat) (e1 cap1 : Nat), f1 q = some (.inr (4, [.ref pl, .ref (q + 1), .ref (q + 3), .int idv, .int (nI len)])) ∧ f1 (q + 3) = some (.inl (P.2.1 3, 19, .inr (.inr (.inr (.inr ps1))))) ∧ gSp P f1 ow1 pl e1 cap1 SP1 ∧ gPs P f1 ow1 q ps1 (va_up ld s0 (ld s0 && decide (0 < k))) (ctS C s0 k) ∧ gRel q pl f ow e SP ps f1 ow1 e1 SP1 ps1 ∧ SP1.length + cntL (va_up ld s0 (ld s0 && decide (0 < k))) 19 = SP.length + cntL ld 19)) := by
  refine gC_of (by decide) (Nat.le_of_ble_eq_true rfl) (fun p env s m args below meth c S hr hlk hnm H locs hI ls hl => ?_)
  have hl : lv_has ls 4 [(0, .ref q), (1, .int (nI s0)), (2, .int lf)] := hl
  have hz0 := gB_z hI
  have h34 := gX_34 hI.1
  obtain ⟨e1, e2⟩ := hps s0 hs0
  refine lv_aload_n S.1 S.2.1 d_File_cutStripe_0 rfl (lv_at hl 0 rfl) ?_
  refine gh_get S hI hq rfl i_File 2 (by decide) wi_197 rfl d_File_cutStripe_1 ?_
  refine lv_iload_n S.1 S.2.1 d_File_cutStripe_4 rfl (lv_at hl 1 rfl) ?_
  refine gh_aald (j := s0) S hI 3 hq3 rfl rfl (by omega) (by omega) d_File_cutStripe_5 ?_
  rcases hs : ps s0 with _ | x
  · skip
    rw [show va_rf none = .null from rfl]
    refine lv_astore_nN (lv' := [(3, .null), (0, .ref q), (1, .int (nI s0)), (2, .int lf)]) S.1 S.2.1 d_File_cutStripe_6 rfl hl (by decide) rfl (fun ls hl => ?_)
    refine lv_aload_nN S.1 S.2.1 d_File_cutStripe_7 rfl (lv_at hl 0 rfl) ?_
    refine lv_ifnullN (tgt := 18) S.1 S.2.1 d_File_cutStripe_8 (by decide) ?_
    rw [hs] at e1
    have el : va_up ld s0 (ld s0 && decide (0 < k)) = ld := va_up_same (by rw [← e1]; rfl)
    refine W.widen (k := 1) (n := 300) (by omega) (by omega) ?_
    exact gr_v S hr hlk hI (⟨ow, ps, SP, e, cap, hq, hq3, h, by rw [el]; exact hps.congr (fun t _ => rfl) (fun t j ht hl hj => ctS_ne (fun z => by rw [z, ← e1] at hl; cases hl) hj), gRel.rf, by rw [el]⟩) d_File_cutStripe_18
  · skip
    rw [show va_rf (some x) = .ref x from rfl]
    refine lv_astore_n (lv' := [(3, .ref x), (0, .ref q), (1, .int (nI s0)), (2, .int lf)]) S.1 S.2.1 d_File_cutStripe_6 rfl hl (by decide) rfl (fun ls hl => ?_)
    refine lv_aload_n S.1 S.2.1 d_File_cutStripe_7 rfl (lv_at hl 0 rfl) ?_
    refine lv_ifnull S.1 S.2.1 d_File_cutStripe_8 ?_
    obtain ⟨hox, hh, hxp, hx4⟩ := e2 x hs
    rw [hs] at e1
    have hlt : ld s0 = true := e1.symm
    refine lv_iload_n S.1 S.2.1 d_File_cutStripe_11 rfl (lv_at hl 3 rfl) ?_
    refine lv_sipush (v := nI 448) S.1 S.2.1 d_File_cutStripe_12 (by decide) ?_
    refine lv_icmp_lt (tgt := 19) S.1 S.2.1 d_File_cutStripe_15 (by decide) (fun c69 => ?_) (fun c69 => ?_)
    · skip
      refine lv_iload_n S.1 S.2.1 d_File_cutStripe_19 rfl (lv_at hl 3 rfl) ?_
      refine lv_if_le (tgt := 38) S.1 S.2.1 d_File_cutStripe_20 (by decide) (fun c70 => ?_) (fun c70 => ?_)
      · skip
        have hk0 : k = 0 := by
          rcases hk with ⟨e9, h9⟩ | ⟨-, h9⟩
          · rw [e9] at c70
            have := (nI_leI (a := k) (b := 0) (by omega) (by omega)).mp c70
            omega
          · exact h9
        subst hk0
        have ed : (ld s0 && decide (0 < 0)) = false := by simp
        rw [ed]
        refine lv_aload_n S.1 S.2.1 d_File_cutStripe_38 rfl (lv_at hl 1 rfl) ?_
        refine gh_get S hI hq rfl i_File 2 (by decide) wi_197 rfl d_File_cutStripe_39 ?_
        refine lv_iload_n S.1 S.2.1 d_File_cutStripe_42 rfl (lv_at hl 2 rfl) ?_
        refine lv_null S.1 S.2.1 d_File_cutStripe_43 ?_
        refine gh_aastN (j := s0) S hI 3 hq3 rfl rfl (by omega) (by omega) d_File_cutStripe_44 (fun H locs hI => ?_)
        have hxq := hps.apart hq3 hs0 hs
        have hI : gB P (va_up f (q + 3) (some (.inl (P.2.1 3, 19, .inr (.inr (.inr (.inr (va_up ps s0 none)))))))) s H locs := hI
        obtain ⟨f71, ef71⟩ : ∃ z, z = va_up f (q + 3) (some (.inl (P.2.1 3, 19, .inr (.inr (.inr (.inr (va_up ps s0 none))))))) := ⟨_, rfl⟩
        rw [← ef71] at hI
        have h72 : f71 q = some (.inr (4, [.ref pl, .ref (q + 1), .ref (q + 3), .int idv, .int (nI len)])) := by rw [ef71, va_up_ne _ _ (by omega)]; exact hq
        have h73 : f71 pl = some (.inr (3, [.ref (pl + 1)])) := by rw [ef71, va_up_ne _ _ (gh_ne h.1 hq3 (by intro h; cases h))]; exact h.1
        have h74 : f71 x = some (.inr (2, [.ref (x + 1)])) := by rw [ef71, va_up_ne _ _ (gh_ne hxp.1 hq3 (by intro h; cases h))]; exact hxp.1
        have h75 : f71 (x + 1) = some (.inl (P.2.1 0, 448, .inl hh)) := by rw [ef71, va_up_ne _ _ ((by have h9 := hxq.2; simp at h9; omega))]; exact hxp.2.1
        have h76 : f71 (q + 3) = some (.inl (P.2.1 3, 19, .inr (.inr (.inr (.inr (va_up ps s0 none)))))) := by rw [ef71]; exact va_up_self _ _ _
        have hF1 : gFr f f71 [q + 3] := by rw [ef71]; exact gFr.upA (by simp) gFr.rf
        have h1 : gSp P f71 ow pl e cap SP := h.fr hF1 (by simp; exact gh_ne h.1 hq3 (by intro h; cases h)) (by
          obtain ⟨⟨m, h9⟩, -⟩ := h.2.1
          intro z; rw [List.mem_singleton.mp z, hq3] at h9; cases h9) (fun z => (h.2.1.npa h34 hq3 hz0) (by rw [← List.mem_singleton.mp z]; simp)) (fun y hy => h.apart hq3 hy)
        have hx1 : gPc P f71 x hh := hxp.fr hF1 hxq.1 hxq.2
        refine lv_aload_n S.1 S.2.1 d_File_cutStripe_45 rfl (lv_at hl 1 rfl) ?_
        refine gh_get S hI h72 rfl i_File 0 (by decide) wi_195 rfl d_File_cutStripe_46 ?_
        refine lv_aload_n S.1 S.2.1 d_File_cutStripe_49 rfl (lv_at hl 0 rfl) ?_
        refine gc_Vv S hI (c_Pool_giveBack l P f71 h1 hn hx1 (hps.nsp h hs0 hs)) kv_Pool_giveBack wi_328 h73 rfl rfl rfl hl.1 rfl (Nat.le_of_ble_eq_true rfl) ⟨Nat.le_of_ble_eq_true rfl, Nat.le_of_ble_eq_true rfl⟩ ⟨Nat.le_of_ble_eq_true rfl, Nat.le_of_ble_eq_true rfl⟩ d_File_cutStripe_50 (fun f78 H locs hp79 hI => ?_)
        obtain ⟨e1, cap1, p1, p2, p3, p4⟩ := hp79
        have hd := drop_step h34 hz0 hq hq3 hps h hs0 hs ef71 p1 p2 p3 p4
        exact gr_v S hr hlk hI (⟨_, _, _, e1, cap1, hd.1, hd.2.1, p1, hd.2.2⟩) d_File_cutStripe_53
      · skip
        obtain ⟨e9, h9⟩ : lf = nI k ∧ k < 2 ^ 31 := hk.resolve_right (fun h9 => c70 (Int32.le_of_lt h9.1))
        subst e9
        have k0 : ¬ k ≤ 0 := fun z => c70 ((nI_leI (a := k) (b := 0) (by omega) (by omega)).mpr z)
        have k1 : k < 448 := (nI_ltI (a := k) (b := 448) (by omega) (by omega)).mp c69
        refine lv_aload_n S.1 S.2.1 d_File_cutStripe_23 rfl (lv_at hl 0 rfl) ?_
        refine gh_getN S hI hxp.1 rfl i_Piece 0 (by decide) hI.1.2.2.1.2.1 rfl d_File_cutStripe_24 ?_
        refine lv_iload_n S.1 S.2.1 d_File_cutStripe_27 rfl (lv_at hl 3 rfl) ?_
        refine lv_sipush (v := nI 448) S.1 S.2.1 d_File_cutStripe_28 (by decide) ?_
        refine lv_iconst (v := nI 0) S.1 S.2.1 d_File_cutStripe_31 (by decide) ?_
        refine gc_Sv S hI (c_Arrs_fill l P f (lo := k) (hi := 448) (x := nI 0) hxp.2.1 (by omega) (by omega) (by omega) (by decide)) kv_Arrs_fill wi_322 rfl hl.1 rfl (Nat.le_of_ble_eq_true rfl) ⟨Nat.le_of_ble_eq_true rfl, Nat.le_of_ble_eq_true rfl⟩ ⟨Nat.le_of_ble_eq_true rfl, Nat.le_of_ble_eq_true rfl⟩ d_File_cutStripe_32 (fun f81 H locs hp82 hI => ?_)
        refine lv_goto (tgt := 53) S.1 S.2.1 d_File_cutStripe_35 (by decide) ?_
        have el : va_up ld s0 (ld s0 && decide (0 < k)) = ld := va_up_same (by rw [hlt]; simp; omega)
        have hF1 : gFr f f81 [x + 1] := by rw [hp82]; exact gFr.upA (by simp) gFr.rf
        have gps1 := hps.upd (C' := ctS C s0 k) hs0 hs (g_fil_fit hxp.2.2 (by decide)) hp82 (fun t j ht hne hj => ctS_ne hne hj) (fun j hj => ctS_fil hj (hx4 j hj))
        have gsp1 := h.upd hz0 hxp (hps.nsp h hs0 hs) hp82
        have gq1 := hF1 q _ hq (by simp; exact gh_ne hq hxp.2.1 (by intro h; cases h))
        have gq31 := hF1 (q + 3) _ hq3 (fun z => by have h8 := (hps.apart hq3 hs0 hs).2; simp at h8 z; omega)
        refine W.widen (k := 1) (n := 300) (by omega) (by omega) ?_
        exact gr_v S hr hlk hI (⟨ow, ps, SP, e, cap, gq1, gq31, gsp1, by rw [el]; exact gps1, gRel.fr hF1 (fun c hc => by rw [List.mem_singleton.mp hc]; exact ⟨Or.inr (Or.inr (Or.inr (Or.inr ⟨x, Or.inr rfl, Or.inr ⟨s0, hs0, hs⟩⟩))), by rw [hp82, va_up_self]; simp⟩), by rw [el]⟩) d_File_cutStripe_53
    · skip
      obtain ⟨e9, h9⟩ : lf = nI k ∧ k < 2 ^ 31 := hk.resolve_right (fun h9 => c69 (Int32.lt_trans h9.1 (by decide)))
      subst e9
      have k1 : 448 ≤ k := by
        rcases Nat.lt_or_ge k 448 with h8 | h8
        · exact absurd (nI_lt h8 (by omega)) c69
        · exact h8
      have el : va_up ld s0 (ld s0 && decide (0 < k)) = ld := va_up_same (by rw [hlt]; simp; omega)
      refine W.widen (k := 1) (n := 300) (by omega) (by omega) ?_
      exact gr_v S hr hlk hI (⟨ow, ps, SP, e, cap, hq, hq3, h, by rw [el]; exact hps.congr (fun t _ => rfl) (fun t j ht hl hj => ctS_hi k1), gRel.rf, by rw [el]⟩) d_File_cutStripe_18
set_option maxHeartbeats 4000000 in
set_option maxRecDepth 100000 in
theorem c_File_cut (l : Launch) (P : gPar) (f : gM) {nl q pl len e cap : Nat} {idv : Int32} {ps : Nat → Option Nat} {ow : gO} {ld : Nat → Bool} {C : Nat → Nat} {SP : List Nat} (hq : f q = some (.inr (4, [.ref pl, .ref (q + 1), .ref (q + 3), .int idv, .int (nI len)]))) (hq3 : f (q + 3) = some (.inl (P.2.1 3, 19, .inr (.inr (.inr (.inr ps)))))) (hps : gPs P f ow q ps ld C) (h : gSp P f ow pl e cap SP) (hn : SP.length + cntL ld 19 ≤ 130) (hnl : nl ≤ 8192) (hl8 : ∀ s, ld s = true → 448 * s < 8192) (hC8 : ∀ p, 8192 ≤ p → C p = 0) : gC l P y_File_cut b_File_cut 3 none 9 19 5700 [.ref q, .int (nI nl)] f (gQv P (fun f1 => ∃ (ow1 : gO) (ps1 : Nat → Option Nat) (SP1 : List Nat) (e1 cap1 : Nat), f1 q = some (.inr (4, [.ref pl, .ref (q + 1), .ref (q + 3), .int idv, .int (nI nl)])) ∧ f1 (q + 3) = some (.inl (P.2.1 3, 19, .inr (.inr (.inr (.inr ps1))))) ∧ gSp P f1 ow1 pl e1 cap1 SP1 ∧ gPs P f1 ow1 q ps1 (ctl ld nl) (ctc C nl) ∧ gRel q pl f ow e SP ps f1 ow1 e1 SP1 ps1 ∧ SP1.length + cntL (ctl ld nl) 19 = SP.length + cntL ld 19)) := by
  refine gC_of (by decide) (Nat.le_of_ble_eq_true rfl) (fun p env s m args below meth c S hr hlk hnm H locs hI ls hl => ?_)
  have hl : lv_has ls 3 [(0, .ref q), (1, .int (nI nl))] := hl
  refine lv_iconst (v := nI 0) S.1 S.2.1 d_File_cut_0 (by decide) ?_
  refine lv_istore_n (lv' := [(2, .int (nI 0)), (0, .ref q), (1, .int (nI nl))]) S.1 S.2.1 d_File_cut_1 rfl hl (by decide) rfl (fun ls hl => ?_)
  have loop : ∀ (k i : Nat), i ≤ 19 → 19 - i < k → ∀ (fk : gM) (owk : gO) (psk : Nat → Option Nat) (SPk : List Nat) (ek capk : Nat), fk q = some (.inr (4, [.ref pl, .ref (q + 1), .ref (q + 3), .int idv, .int (nI len)])) → fk (q + 3) = some (.inl (P.2.1 3, 19, .inr (.inr (.inr (.inr psk))))) → gSp P fk owk pl ek capk SPk → gPs P fk owk q psk (ctlK ld nl i) (ctcK C nl i) → gRel q pl f ow e SP ps fk owk ek SPk psk → SPk.length + cntL (ctlK ld nl i) 19 = SP.length + cntL ld 19 → ∀ (H : Heap) (locs : List Loc), gB P fk s H locs → ∀ ls : Array Slot, lv_has ls 3 [(0, .ref q), (1, .int (nI nl)), (2, .int (nI i))] → W p l env (grm 9 19 5700) s m args below meth c H locs i (300 * i) (MQ below (gQv P (fun f1 => ∃ (ow1 : gO) (ps1 : Nat → Option Nat) (SP1 : List Nat) (e1 cap1 : Nat), f1 q = some (.inr (4, [.ref pl, .ref (q + 1), .ref (q + 3), .int idv, .int (nI nl)])) ∧ f1 (q + 3) = some (.inl (P.2.1 3, 19, .inr (.inr (.inr (.inr ps1))))) ∧ gSp P f1 ow1 pl e1 cap1 SP1 ∧ gPs P f1 ow1 q ps1 (ctl ld nl) (ctc C nl) ∧ gRel q pl f ow e SP ps f1 ow1 e1 SP1 ps1 ∧ SP1.length + cntL (ctl ld nl) 19 = SP.length + cntL ld 19)) args s 19 5700 (gA P)) (F0 m 2 ls []) := by
    intro k
    induction k with
    | zero => intro i h4 h5; exact absurd h5 (by omega)
    | succ k ih =>
      intro i h4 h5 fk owk psk SPk ek capk gq gq3 gsp gps grel gct H locs hI ls hl
      refine lv_iload_n S.1 S.2.1 d_File_cut_2 rfl (lv_at hl 2 rfl) ?_
      refine lv_bipush (v := nI 19) S.1 S.2.1 d_File_cut_3 (by decide) ?_
      refine lv_icmp_ge (tgt := 26) S.1 S.2.1 d_File_cut_5 (by decide) (fun c83 => ?_) (fun c83 => ?_)
      · skip
        replace c83 : 19 ≤ i := (nI_leI (a := 19) (b := i) (by omega) (by omega)).mp c83
        have e19 : i = 19 := by omega
        subst e19
        rw [ctlK_e hl8] at gps gct
        rw [ctcK_e hC8] at gps
        refine lv_aload_n S.1 S.2.1 d_File_cut_26 rfl (lv_at hl 0 rfl) ?_
        refine lv_iload_n S.1 S.2.1 d_File_cut_27 rfl (lv_at hl 1 rfl) ?_
        refine gh_put S hI gq rfl i_File t_File tk_File n_File 4 (by decide) wi_199 rfl rfl rfl (Nat.le_of_ble_eq_true rfl) d_File_cut_28 (fun H locs hI => ?_)
        have hI : gB P (va_up fk q (some (.inr (4, [.ref pl, .ref (q + 1), .ref (q + 3), .int idv, .int (nI nl)])))) s H locs := hI
        obtain ⟨f84, ef84⟩ : ∃ z, z = va_up fk q (some (.inr (4, [.ref pl, .ref (q + 1), .ref (q + 3), .int idv, .int (nI nl)]))) := ⟨_, rfl⟩
        rw [← ef84] at hI
        have h85 : f84 (q + 3) = some (.inl (P.2.1 3, 19, .inr (.inr (.inr (.inr psk))))) := by rw [ef84, va_up_ne _ _ (by omega)]; exact gq3
        have h86 : f84 q = some (.inr (4, [.ref pl, .ref (q + 1), .ref (q + 3), .int idv, .int (nI nl)])) := by rw [ef84]; exact va_up_self _ _ _
        have hF1 : gFr fk f84 [q] := by rw [ef84]; exact gFr.upA (by simp) gFr.rf
        have hzk0 : fk P.2.2.2.1 = none := gFr_none hF1 (fun _ z => by rw [List.mem_singleton.mp z, h86]; simp) (gB_z hI)
        refine W.widen (k := 19) (n := 5700) (by omega) (by omega) ?_
        exact gr_v S hr hlk hI (⟨owk, psk, SPk, ek, capk, h86, h85, gsp.frq gq hF1 hzk0, gps.frq gq hF1, grel.trans (gRel.fr hF1 (fun c hc => by rw [List.mem_singleton.mp hc]; exact ⟨Or.inl rfl, by rw [h86]; simp⟩)), gct⟩) d_File_cut_31
      · skip
        replace c83 : ¬ 19 ≤ i := fun z => c83 ((nI_leI (a := 19) (b := i) (by omega) (by omega)).mpr z)
        refine lv_aload_n S.1 S.2.1 d_File_cut_8 rfl (lv_at hl 0 rfl) ?_
        refine lv_iload_n S.1 S.2.1 d_File_cut_9 rfl (lv_at hl 2 rfl) ?_
        refine lv_iload_n S.1 S.2.1 d_File_cut_10 rfl (lv_at hl 1 rfl) ?_
        refine lv_iload_n S.1 S.2.1 d_File_cut_11 rfl (lv_at hl 2 rfl) ?_
        refine lv_sipush (v := nI 448) S.1 S.2.1 d_File_cut_12 (by decide) ?_
        refine lv_imul S.1 S.2.1 d_File_cut_15 ?_
        refine lv_topi (fun v87 ev87 => ?_)
        replace ev87 : v87 = nI (i * 448) := ev87.trans (pk_mul _ _)
        subst ev87
        refine lv_topi (fun v88 ev88 => ?_)
        replace ev88 : v88 = nI (448 * i) := ev88.trans (by rw [Nat.mul_comm])
        subst ev88
        refine lv_isub S.1 S.2.1 d_File_cut_16 ?_
        refine lv_topi (fun lf elf => ?_)
        have hk : (lf = nI (nl - 448 * i) ∧ nl - 448 * i < 2 ^ 31) ∨ (lf < 0 ∧ nl - 448 * i = 0) := by
          rcases Nat.lt_or_ge nl (448 * i) with h8 | h8
          · exact Or.inr ⟨by rw [elf]; exact pk_sneg (by omega) h8, by omega⟩
          · exact Or.inl ⟨by rw [elf]; exact pk_sub h8, by omega⟩
        have hcl := cntL_le ld 19
        refine gc_Vv S hI (c_File_cutStripe l P fk gq gq3 gps gsp (by omega) (s0 := i) (by omega) hk) kv_File_cutStripe wi_319 gq rfl rfl rfl hl.1 rfl (Nat.le_of_ble_eq_true rfl) ⟨Nat.le_of_ble_eq_true rfl, Nat.le_of_ble_eq_true rfl⟩ ⟨by show _ ≤ 19; omega, by show _ ≤ 5700; omega⟩ d_File_cut_17 (fun f90 H locs hp91 hI => ?_)
        obtain ⟨ow1, ps1, SP1, e1, cap1, p1, p2, p3, p4, p5, p6⟩ := hp91
        rw [ctlK_s] at p4 p6
        rw [ctcK_s] at p4
        refine lv_iinc (v := nI (i + 1)) (lv' := [(2, .int (nI (i + 1))), (0, .ref q), (1, .int (nI nl))]) S.1 S.2.1 d_File_cut_20 hl (k := 2) rfl (nI_add _ _) (by decide) rfl (fun ls hl => ?_)
        refine lv_goto (tgt := 2) S.1 S.2.1 d_File_cut_23 (by decide) ?_
        refine W.widen (k := i + 1) (n := 300 * (i + 1)) (by omega) (by omega) ?_
        exact ih (i + 1) (by omega) (by omega) f90 ow1 ps1 SP1 e1 cap1 p1 p2 p3 p4 (grel.trans p5) (by omega) _ _ hI _ (lv_sub hl [1, 2, 0] rfl)
  exact loop 20 0 (by omega) (by omega) f ow ps SP e cap hq hq3 h (by rw [ctlK_0, ctcK_0]; exact hps) gRel.rf (by rw [ctlK_0]) _ _ hI _ (lv_sub hl [1, 2, 0] rfl)
