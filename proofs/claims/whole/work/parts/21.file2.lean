set_option maxHeartbeats 4000000 in
set_option maxRecDepth 100000 in
theorem c_File_lay (l : Launch) (P : gPar) (f : gM) {q pl len e cap : Nat} {idv : Int32} {ps : Nat → Option Nat} {ow : gO} {ld : Nat → Bool} {C : Nat → Nat} {SP : List Nat} {s0 : Nat} (hq : f q = some (.inr (4, [.ref pl, .ref (q + 1), .ref (q + 3), .int idv, .int (nI len)]))) (hq3 : f (q + 3) = some (.inl (P.2.1 3, 19, .inr (.inr (.inr (.inr ps)))))) (hps : gPs P f ow q ps ld C) (h : gSp P f ow pl e cap SP) (hn : SP.length ≤ 130) (hs0 : s0 < 19) (hC0 : ld s0 = false → ∀ j, j < 448 → C (448 * s0 + j) = 0) : gC l P y_File_lay b_File_lay 2 (some (.object "StripeFiles$Piece")) 4 2 449 [.ref q, .int (nI s0)] f (gQq P (fun r f1 => ∃ x, r = some x ∧ ∃ (ow1 : gO) (ps1 : Nat → Option Nat) (SP1 : List Nat) (hh : Nat → Int32), gPc P f1 x hh ∧ ps1 s0 = some x ∧ f1 q = some (.inr (4, [.ref pl, .ref (q + 1), .ref (q + 3), .int idv, .int (nI len)])) ∧ f1 (q + 3) = some (.inl (P.2.1 3, 19, .inr (.inr (.inr (.inr ps1))))) ∧ gSp P f1 ow1 pl e cap SP1 ∧ gPs P f1 ow1 q ps1 (va_up ld s0 true) C ∧ gRel q pl f ow e SP ps f1 ow1 e SP1 ps1 ∧ (SP1.length + cntL (va_up ld s0 true) 19 = SP.length + cntL ld 19 ∨ SP1 = []) ∧ SP1.length ≤ SP.length)) := by
  refine gC_of (by decide) (Nat.le_of_ble_eq_true rfl) (fun p env s m args below meth c S hr hlk hnm H locs hI ls hl => ?_)
  have hl : lv_has ls 2 [(0, .ref q), (1, .int (nI s0))] := hl
  obtain ⟨hpl, hli, hcap, hnd, hsp⟩ := id h
  have hz0 := gB_z hI
  have h34 := gX_34 hI.1
  obtain ⟨e1, e2⟩ := hps s0 hs0
  refine lv_aload_n S.1 S.2.1 d_File_lay_0 rfl (lv_at hl 0 rfl) ?_
  refine gh_get S hI hq rfl i_File 2 (by decide) wi_197 rfl d_File_lay_1 ?_
  refine lv_iload_n S.1 S.2.1 d_File_lay_4 rfl (lv_at hl 1 rfl) ?_
  refine gh_aald (j := s0) S hI 3 hq3 rfl rfl (by omega) (by omega) d_File_lay_5 ?_
  rcases hs : ps s0 with _ | x
  · skip
    rw [show va_rf none = .null from rfl]
    refine lv_ifnonnullN S.1 S.2.1 d_File_lay_6 ?_
    refine lv_aload_n S.1 S.2.1 d_File_lay_9 rfl (lv_at hl 0 rfl) ?_
    refine gh_get S hI hq rfl i_File 2 (by decide) wi_197 rfl d_File_lay_10 ?_
    refine lv_iload_n S.1 S.2.1 d_File_lay_13 rfl (lv_at hl 1 rfl) ?_
    refine lv_aload_n S.1 S.2.1 d_File_lay_14 rfl (lv_at hl 0 rfl) ?_
    refine gh_get S hI hq rfl i_File 0 (by decide) wi_195 rfl d_File_lay_15 ?_
    refine gc_Vr S hI (c_Pool_takeBlank l P f h hn) kv_Pool_takeBlank wi_288 hpl rfl rfl rfl hl.1 rfl (Nat.le_of_ble_eq_true rfl) ⟨Nat.le_of_ble_eq_true rfl, Nat.le_of_ble_eq_true rfl⟩ ⟨Nat.le_of_ble_eq_true rfl, Nat.le_of_ble_eq_true rfl⟩ d_File_lay_18 (fun r17 f18 H locs hp19 hI => ?_)
    obtain ⟨SP1, hp1, ⟨hh, hp2, hp3⟩, hp4, hp5⟩ := hp19
    rw [hs] at e1
    have hq1 := hp5 q _ hq (hli.npc (by decide) hq hz0)
    have hq31 := hp5 (q + 3) _ hq3 (hli.npa h34 hq3 hz0)
    refine gh_aast (r := (R_Piece, F_Piece, 1)) (j := s0) S hI 3 hq31 rfl hp2.1 rfl rfl (by omega) (by omega) d_File_lay_21 (fun H locs hI => ?_)
    have hI : gB P (va_up f18 (q + 3) (some (.inl (P.2.1 3, 19, .inr (.inr (.inr (.inr (va_up ps s0 (some r17))))))))) s H locs := hI
    obtain ⟨f20, ef20⟩ : ∃ z, z = va_up f18 (q + 3) (some (.inl (P.2.1 3, 19, .inr (.inr (.inr (.inr (va_up ps s0 (some r17)))))))) := ⟨_, rfl⟩
    rw [← ef20] at hI
    have h21 : f20 q = some (.inr (4, [.ref pl, .ref (q + 1), .ref (q + 3), .int idv, .int (nI len)])) := by rw [ef20, va_up_ne _ _ (by omega)]; exact hq1
    have h22 : f20 r17 = some (.inr (2, [.ref (r17 + 1)])) := by rw [ef20, va_up_ne _ _ (gh_ne hp2.1 hq31 (by intro h; cases h))]; exact hp2.1
    have h23 : f20 (q + 3) = some (.inl (P.2.1 3, 19, .inr (.inr (.inr (.inr (va_up ps s0 (some r17))))))) := by rw [ef20]; exact va_up_self _ _ _
    have hst := lay_step h34 hz0 hq hq3 hps h hs0 hs (fun j hj => hC0 e1.symm j hj) hp1 hp2 hp3 hp4 hp5 f20 ef20
    refine lv_aload_n S.1 S.2.1 d_File_lay_22 rfl (lv_at hl 0 rfl) ?_
    refine gh_get S hI h21 rfl i_File 2 (by decide) wi_197 rfl d_File_lay_23 ?_
    refine lv_iload_n S.1 S.2.1 d_File_lay_26 rfl (lv_at hl 1 rfl) ?_
    refine gh_aald (j := s0) S hI 3 h23 rfl rfl (by omega) (by omega) d_File_lay_27 ?_
    rw [show va_rf ((va_up ps s0 (some r17)) s0) = .ref r17 from by rw [va_up_self _ _ _]; rfl]
    exact gr_r S hr (Or.inl ⟨_, rfl⟩) hlk hI (⟨_, _, SP1, hh, hst.1, va_up_self _ _ _, hst.2.1, h23, hst.2.2⟩) d_File_lay_28
  · skip
    rw [show va_rf (some x) = .ref x from rfl]
    refine lv_ifnonnull (tgt := 22) S.1 S.2.1 d_File_lay_6 (by decide) ?_
    refine lv_aload_n S.1 S.2.1 d_File_lay_22 rfl (lv_at hl 0 rfl) ?_
    refine gh_get S hI hq rfl i_File 2 (by decide) wi_197 rfl d_File_lay_23 ?_
    refine lv_iload_n S.1 S.2.1 d_File_lay_26 rfl (lv_at hl 1 rfl) ?_
    refine gh_aald (j := s0) S hI 3 hq3 rfl rfl (by omega) (by omega) d_File_lay_27 ?_
    rw [show va_rf (ps s0) = .ref x from by rw [hs]; rfl]
    rw [hs] at e1
    have el : va_up ld s0 true = ld := va_up_same e1.symm
    obtain ⟨-, hh, hx1, hx2⟩ := e2 x hs
    refine W.widen (k := 2) (n := 449) (by omega) (by omega) ?_
    exact gr_r S hr (Or.inl ⟨_, rfl⟩) hlk hI (⟨ow, ps, SP, hh, hx1, hs, hq, hq3, h, by rw [el]; exact hps, gRel.rf, Or.inl (by rw [el]), Nat.le_refl _⟩) d_File_lay_28
theorem gSp.frq {P : gPar} {f f1 : gM} {ow : gO} {pl q e cap : Nat} {SP : List Nat} {fs : List Value} (h : gSp P f ow pl e cap SP) (hq : f q = some (.inr (4, fs))) (hF : gFr f f1 [q]) (hz : f P.2.2.2.1 = none) : gSp P f1 ow pl e cap SP := by
  have hl := h.2.1.npc (by decide) hq hz
  refine h.fr hF ?_ ?_ ?_ (fun y hy => ?_)
  · simp; exact gh_ne h.1 hq (by intro h; simp at h)
  · intro z; exact hl (by rw [← List.mem_singleton.mp z]; simp)
  · intro z; exact hl (by rw [← List.mem_singleton.mp z]; simp)
  · obtain ⟨-, _, b1, -⟩ := h.2.2.2.2 y hy
    exact ⟨by simp; exact gh_ne b1.1 hq (by intro h; simp at h), by simp; exact gh_ne b1.2.1 hq (by intro h; cases h)⟩
theorem gPs.frq {P : gPar} {f f1 : gM} {ow : gO} {q : Nat} {ps : Nat → Option Nat} {ld : Nat → Bool} {C : Nat → Nat} {fs : List Value} (h : gPs P f ow q ps ld C) (hq : f q = some (.inr (4, fs))) (hF : gFr f f1 [q]) : gPs P f1 ow q ps ld C := h.fr hF (fun t y ht hy => by
  obtain ⟨-, _, b1, -⟩ := (h t ht).2 y hy
  exact ⟨by simp; exact gh_ne b1.1 hq (by intro h; simp at h), by simp; exact gh_ne b1.2.1 hq (by intro h; cases h)⟩)
set_option maxHeartbeats 4000000 in
set_option maxRecDepth 100000 in
theorem c_File_write (l : Launch) (P : gPar) (f : gM) {q pl len e cap : Nat} {idv : Int32} {ps : Nat → Option Nat} {ow : gO} {ld : Nat → Bool} {C : Nat → Nat} {SP : List Nat} {a n capR fr : Nat} {g : Nat → Int32} (hq : f q = some (.inr (4, [.ref pl, .ref (q + 1), .ref (q + 3), .int idv, .int (nI len)]))) (hq3 : f (q + 3) = some (.inl (P.2.1 3, 19, .inr (.inr (.inr (.inr ps)))))) (hps : gPs P f ow q ps ld C) (h : gSp P f ow pl e cap SP) (hn : SP.length ≤ 130) (ha : f a = some (.inr (1, [.ref (a + 1), .int (nI n)]))) (hb : f (a + 1) = some (.inl (P.2.1 0, capR, .inl g))) (hnR : n ≤ capR) (hcR : capR < 2 ^ 20) (hg : sb_Fit g) (hfn : fr + n ≤ 8192) (hlen : len ≤ 8192) (hC0 : ∀ p, ld (p / 448) = false → C p = 0) : gC l P y_File_write b_File_write 8 none 5 38 8531 [.ref q, .int (nI fr), .ref a] f (gQv P (fun f1 => ∃ (ow1 : gO) (ps1 : Nat → Option Nat) (SP1 : List Nat), f1 q = some (.inr (4, [.ref pl, .ref (q + 1), .ref (q + 3), .int idv, .int (nI (if n = 0 then len else max len (fr + n)))])) ∧ f1 (q + 3) = some (.inl (P.2.1 3, 19, .inr (.inr (.inr (.inr ps1))))) ∧ gSp P f1 ow1 pl e cap SP1 ∧ gPs P f1 ow1 q ps1 (wl ld fr n) (wC C (fun i => ub (g i)) fr n) ∧ gRel q pl f ow e SP ps f1 ow1 e SP1 ps1 ∧ (SP1.length + cntL (wl ld fr n) 19 = SP.length + cntL ld 19 ∨ SP1 = []) ∧ SP1.length ≤ SP.length)) := by
  refine gC_of (by decide) (Nat.le_of_ble_eq_true rfl) (fun p env s m args below meth c S hr hlk hnm H locs hI ls hl => ?_)
  have hl : lv_has ls 8 [(0, .ref q), (1, .int (nI fr)), (2, .ref a)] := hl
  have hz0 := gB_z hI
  refine lv_iload_n S.1 S.2.1 d_File_write_0 rfl (lv_at hl 1 rfl) ?_
  refine lv_aload_n S.1 S.2.1 d_File_write_1 rfl (lv_at hl 2 rfl) ?_
  refine gc_Vi S hI (c_Row_length l P f ha) kv_Row_length wi_282 ha rfl rfl rfl hl.1 rfl (Nat.le_of_ble_eq_true rfl) ⟨Nat.le_of_ble_eq_true rfl, Nat.le_of_ble_eq_true rfl⟩ ⟨Nat.le_of_ble_eq_true rfl, Nat.le_of_ble_eq_true rfl⟩ d_File_write_2 (fun r24 f25 H locs hp26 hI => ?_)
  obtain ⟨hp1, hp2⟩ := hp26
  subst hp1
  rw [hp2] at hI
  refine lv_iadd S.1 S.2.1 d_File_write_5 ?_
  refine lv_topi (fun v27 ev27 => ?_)
  replace ev27 : v27 = nI (fr + n) := ev27.trans (nI_add _ _)
  subst ev27
  refine lv_istore_n (lv' := [(3, .int (nI (fr + n))), (0, .ref q), (1, .int (nI fr)), (2, .ref a)]) S.1 S.2.1 d_File_write_6 rfl hl (by decide) rfl (fun ls hl => ?_)
  refine lv_iconst (v := nI 0) S.1 S.2.1 d_File_write_7 (by decide) ?_
  refine lv_istore (lv' := [(4, .int (nI 0)), (3, .int (nI (fr + n))), (0, .ref q), (1, .int (nI fr)), (2, .ref a)]) S.1 S.2.1 d_File_write_8 hl (by decide) rfl (fun ls hl => ?_)
  have loop : ∀ (k i : Nat), i ≤ 19 → 19 - i < k → ∀ (fk : gM) (owk : gO) (psk : Nat → Option Nat) (SPk : List Nat), fk q = some (.inr (4, [.ref pl, .ref (q + 1), .ref (q + 3), .int idv, .int (nI len)])) → fk (q + 3) = some (.inl (P.2.1 3, 19, .inr (.inr (.inr (.inr psk))))) → gSp P fk owk pl e cap SPk → gPs P fk owk q psk (wlK ld fr n i) (wcK C (fun i => ub (g i)) fr n i) → gRel q pl f ow e SP ps fk owk e SPk psk → (SPk.length + cntL (wlK ld fr n i) 19 = SP.length + cntL ld 19 ∨ SPk = []) → SPk.length ≤ SP.length → fk a = some (.inr (1, [.ref (a + 1), .int (nI n)])) → fk (a + 1) = some (.inl (P.2.1 0, capR, .inl g)) → ∀ (H : Heap) (locs : List Loc), gB P fk s H locs → ∀ ls : Array Slot, lv_has ls 8 [(0, .ref q), (1, .int (nI fr)), (2, .ref a), (3, .int (nI (fr + n))), (4, .int (nI i))] → W p l env (grm 5 38 8531) s m args below meth c H locs (2 * i) (449 * i) (MQ below (gQv P (fun f1 => ∃ (ow1 : gO) (ps1 : Nat → Option Nat) (SP1 : List Nat), f1 q = some (.inr (4, [.ref pl, .ref (q + 1), .ref (q + 3), .int idv, .int (nI (if n = 0 then len else max len (fr + n)))])) ∧ f1 (q + 3) = some (.inl (P.2.1 3, 19, .inr (.inr (.inr (.inr ps1))))) ∧ gSp P f1 ow1 pl e cap SP1 ∧ gPs P f1 ow1 q ps1 (wl ld fr n) (wC C (fun i => ub (g i)) fr n) ∧ gRel q pl f ow e SP ps f1 ow1 e SP1 ps1 ∧ (SP1.length + cntL (wl ld fr n) 19 = SP.length + cntL ld 19 ∨ SP1 = []) ∧ SP1.length ≤ SP.length)) args s 38 8531 (gA P)) (F0 m 10 ls []) := by
    intro k
    induction k with
    | zero => intro i h4 h5; exact absurd h5 (by omega)
    | succ k ih =>
      intro i h4 h5 fk owk psk SPk gq gq3 gsp gps grel gct gle ga gb H locs hI ls hl
      refine lv_iload S.1 S.2.1 d_File_write_10 (lv_at hl 4 rfl) ?_
      refine lv_bipush (v := nI 19) S.1 S.2.1 d_File_write_12 (by decide) ?_
      refine lv_icmp_ge (tgt := 85) S.1 S.2.1 d_File_write_14 (by decide) (fun c28 => ?_) (fun c28 => ?_)
      · skip
        replace c28 : 19 ≤ i := (nI_leI (a := 19) (b := i) (by omega) (by omega)).mp c28
        have e19 : i = 19 := by omega
        subst e19
        rw [wlK_e hfn] at gps gct
        rw [wcK_e hfn] at gps
        refine lv_aload_n S.1 S.2.1 d_File_write_85 rfl (lv_at hl 2 rfl) ?_
        refine gc_Vi S hI (c_Row_isEmpty l P fk ga (by omega)) kv_Row_isEmpty wi_306 ga rfl rfl rfl hl.1 rfl (Nat.le_of_ble_eq_true rfl) ⟨Nat.le_of_ble_eq_true rfl, Nat.le_of_ble_eq_true rfl⟩ ⟨by show _ ≤ 38; omega, by show _ ≤ 8531; omega⟩ d_File_write_86 (fun r29 f30 H locs hp31 hI => ?_)
        obtain ⟨hp1, hp2⟩ := hp31
        subst hp1
        rw [hp2] at hI
        by_cases hn0 : n = 0
        · rw [show (if n = 0 then nI 1 else nI 0 : Int32) = nI 1 from if_pos hn0]
          refine lv_if_ne (tgt := 104) S.1 S.2.1 d_File_write_89 (by decide) (fun c32 => ?_) (fun c32 => ?_)
          · skip
            replace c32 : ¬ 1 = 0 := fun z => c32 ((nI_eq (a := 1) (b := 0) (by omega) (by omega)).mpr z)
            refine W.widen (k := 38) (n := 8531) (by omega) (by omega) ?_
            exact gr_v S hr hlk hI (⟨owk, psk, SPk, by rw [if_pos hn0]; exact gq, gq3, gsp, gps, grel, gct, gle⟩) d_File_write_104
          · skip
            replace c32 : 1 = 0 := (nI_eq (a := 1) (b := 0) (by omega) (by omega)).mp c32
            exact absurd c32 (by omega)
        · rw [show (if n = 0 then nI 1 else nI 0 : Int32) = nI 0 from if_neg hn0]
          refine lv_if_ne (tgt := 104) S.1 S.2.1 d_File_write_89 (by decide) (fun c33 => ?_) (fun c33 => ?_)
          · skip
            replace c33 : ¬ 0 = 0 := fun z => c33 ((nI_eq (a := 0) (b := 0) (by omega) (by omega)).mpr z)
            exact absurd c33 (by omega)
          · skip
            replace c33 : 0 = 0 := (nI_eq (a := 0) (b := 0) (by omega) (by omega)).mp c33
            refine lv_aload_n S.1 S.2.1 d_File_write_92 rfl (lv_at hl 0 rfl) ?_
            refine lv_aload_n S.1 S.2.1 d_File_write_93 rfl (lv_at hl 0 rfl) ?_
            refine gh_get S hI gq rfl i_File 4 (by decide) wi_199 rfl d_File_write_94 ?_
            refine lv_iload_n S.1 S.2.1 d_File_write_97 rfl (lv_at hl 3 rfl) ?_
            refine gc_max S wi_283 hl.1 d_File_write_98 (by omega) (by omega) (Nat.le_of_ble_eq_true rfl) (Nat.le_of_ble_eq_true rfl) (by show _ ≤ 38; omega) (by show _ ≤ 8531; omega) ?_
            refine gh_put S hI gq rfl i_File t_File tk_File n_File 4 (by decide) wi_199 rfl rfl rfl (Nat.le_of_ble_eq_true rfl) d_File_write_101 (fun H locs hI => ?_)
            have hI : gB P (va_up fk q (some (.inr (4, [.ref pl, .ref (q + 1), .ref (q + 3), .int idv, .int (nI (max len (fr + n)))])))) s H locs := hI
            obtain ⟨f34, ef34⟩ : ∃ z, z = va_up fk q (some (.inr (4, [.ref pl, .ref (q + 1), .ref (q + 3), .int idv, .int (nI (max len (fr + n)))]))) := ⟨_, rfl⟩
            rw [← ef34] at hI
            have h35 : f34 (q + 3) = some (.inl (P.2.1 3, 19, .inr (.inr (.inr (.inr psk))))) := by rw [ef34, va_up_ne _ _ (by omega)]; exact gq3
            have h36 : f34 a = some (.inr (1, [.ref (a + 1), .int (nI n)])) := by rw [ef34, va_up_ne _ _ (gh_ne ga gq (by intro h; simp at h))]; exact ga
            have h37 : f34 (a + 1) = some (.inl (P.2.1 0, capR, .inl g)) := by rw [ef34, va_up_ne _ _ (gh_ne gb gq (by intro h; cases h))]; exact gb
            have h38 : f34 q = some (.inr (4, [.ref pl, .ref (q + 1), .ref (q + 3), .int idv, .int (nI (max len (fr + n)))])) := by rw [ef34]; exact va_up_self _ _ _
            have hF1 : gFr fk f34 [q] := by rw [ef34]; exact gFr.upA (by simp) gFr.rf
            have hzk := gB_z hI
            have hzk0 : fk P.2.2.2.1 = none := gFr_none hF1 (fun _ z => by rw [List.mem_singleton.mp z, h38]; simp) hzk
            refine W.widen (k := 38) (n := 8531) (by omega) (by omega) ?_
            exact gr_v S hr hlk hI (⟨owk, psk, SPk, by rw [if_neg hn0]; exact h38, h35, gsp.frq gq hF1 hzk0, gps.frq gq hF1, grel.trans (gRel.fr hF1 (fun c hc => by rw [List.mem_singleton.mp hc]; exact ⟨Or.inl rfl, by rw [h38]; simp⟩)), gct, gle⟩) d_File_write_104
      · skip
        replace c28 : ¬ 19 ≤ i := fun z => c28 ((nI_leI (a := 19) (b := i) (by omega) (by omega)).mpr z)
        refine lv_iload S.1 S.2.1 d_File_write_17 (lv_at hl 4 rfl) ?_
        refine lv_sipush (v := nI 448) S.1 S.2.1 d_File_write_19 (by decide) ?_
        refine lv_imul S.1 S.2.1 d_File_write_22 ?_
        refine lv_topi (fun v39 ev39 => ?_)
        replace ev39 : v39 = nI (i * 448) := ev39.trans (pk_mul _ _)
        subst ev39
        refine lv_topi (fun v40 ev40 => ?_)
        replace ev40 : v40 = nI (448 * i) := ev40.trans (by rw [Nat.mul_comm])
        subst ev40
        refine lv_istore (lv' := [(5, .int (nI (448 * i))), (0, .ref q), (1, .int (nI fr)), (2, .ref a), (3, .int (nI (fr + n))), (4, .int (nI i))]) S.1 S.2.1 d_File_write_23 hl (by decide) rfl (fun ls hl => ?_)
        refine lv_iload_n S.1 S.2.1 d_File_write_25 rfl (lv_at hl 2 rfl) ?_
        refine lv_iload S.1 S.2.1 d_File_write_26 (lv_at hl 0 rfl) ?_
        refine gc_max S wi_283 hl.1 d_File_write_28 (by omega) (by omega) (Nat.le_of_ble_eq_true rfl) (Nat.le_of_ble_eq_true rfl) (by show _ ≤ 38; omega) (by show _ ≤ 8531; omega) ?_
        obtain ⟨lo, hlo⟩ : ∃ z, z = max fr (448 * i) := ⟨_, rfl⟩
        rw [← hlo]
        refine lv_istore (lv' := [(6, .int (nI lo)), (5, .int (nI (448 * i))), (0, .ref q), (1, .int (nI fr)), (2, .ref a), (3, .int (nI (fr + n))), (4, .int (nI i))]) S.1 S.2.1 d_File_write_31 hl (by decide) rfl (fun ls hl => ?_)
        refine lv_iload_n S.1 S.2.1 d_File_write_33 rfl (lv_at hl 5 rfl) ?_
        refine lv_iload S.1 S.2.1 d_File_write_34 (lv_at hl 1 rfl) ?_
        refine lv_sipush (v := nI 448) S.1 S.2.1 d_File_write_36 (by decide) ?_
        refine lv_iadd S.1 S.2.1 d_File_write_39 ?_
        refine lv_topi (fun v41 ev41 => ?_)
        replace ev41 : v41 = nI ((448 * i) + 448) := ev41.trans (nI_add _ _)
        subst ev41
        refine gc_min S wi_284 hl.1 d_File_write_40 (by omega) (by omega) (Nat.le_of_ble_eq_true rfl) (Nat.le_of_ble_eq_true rfl) (by show _ ≤ 38; omega) (by show _ ≤ 8531; omega) ?_
        obtain ⟨hi, hhi⟩ : ∃ z, z = min (fr + n) (448 * i + 448) := ⟨_, rfl⟩
        rw [← hhi]
        refine lv_istore (lv' := [(7, .int (nI hi)), (6, .int (nI lo)), (5, .int (nI (448 * i))), (0, .ref q), (1, .int (nI fr)), (2, .ref a), (3, .int (nI (fr + n))), (4, .int (nI i))]) S.1 S.2.1 d_File_write_43 hl (by decide) rfl (fun ls hl => ?_)
        refine lv_iload S.1 S.2.1 d_File_write_45 (lv_at hl 1 rfl) ?_
        refine lv_iload S.1 S.2.1 d_File_write_47 (lv_at hl 0 rfl) ?_
        refine lv_icmp_ge (tgt := 79) S.1 S.2.1 d_File_write_49 (by decide) (fun c42 => ?_) (fun c42 => ?_)
        · skip
          replace c42 : hi ≤ lo := (nI_leI (a := hi) (b := lo) (by omega) (by omega)).mp c42
          have hno : ¬ max fr (448 * i) < min (fr + n) (448 * i + 448) := by omega
          refine lv_iinc (v := nI (i + 1)) (lv' := [(4, .int (nI (i + 1))), (7, .int (nI hi)), (6, .int (nI lo)), (5, .int (nI (448 * i))), (0, .ref q), (1, .int (nI fr)), (2, .ref a), (3, .int (nI (fr + n)))]) S.1 S.2.1 d_File_write_79 hl (k := 7) rfl (nI_add _ _) (by decide) rfl (fun ls hl => ?_)
          refine lv_goto (tgt := 10) S.1 S.2.1 d_File_write_82 (by decide) ?_
          refine W.widen (k := 2 * (i + 1)) (n := 449 * (i + 1)) (by omega) (by omega) ?_
          exact ih (i + 1) (by omega) (by omega) fk owk psk SPk gq gq3 gsp (by rw [wlK_no hno, wcK_no hno]; exact gps) grel (by rw [wlK_no hno]; exact gct) gle ga gb _ _ hI _ (lv_sub hl [4, 5, 6, 7, 0] rfl)
        · skip
          replace c42 : ¬ hi ≤ lo := fun z => c42 ((nI_leI (a := hi) (b := lo) (by omega) (by omega)).mpr z)
          have hyes : max fr (448 * i) < min (fr + n) (448 * i + 448) := by omega
          have hC1 : wlK ld fr n i i = false → ∀ j, j < 448 → wcK C (fun i => ub (g i)) fr n i (448 * i + j) = 0 := fun hz j hj => by rw [wcK_old (by omega)]; exact hC0 _ (by rw [show (448 * i + j) / 448 = i by omega]; unfold wlK at hz; rwa [if_neg (by omega)] at hz)
          refine lv_aload_n S.1 S.2.1 d_File_write_52 rfl (lv_at hl 5 rfl) ?_
          refine lv_aload_n S.1 S.2.1 d_File_write_53 rfl (lv_at hl 3 rfl) ?_
          refine lv_iload S.1 S.2.1 d_File_write_54 (lv_at hl 7 rfl) ?_
          refine gc_Vr S hI (c_File_lay l P fk gq gq3 gps gsp (by omega) (s0 := i) (by omega) hC1) kv_File_lay wi_285 gq rfl rfl rfl hl.1 rfl (Nat.le_of_ble_eq_true rfl) ⟨Nat.le_of_ble_eq_true rfl, Nat.le_of_ble_eq_true rfl⟩ ⟨by show _ ≤ 38; omega, by show _ ≤ 8531; omega⟩ d_File_write_56 (fun r43 f44 H locs hp45 hI => ?_)
          obtain ⟨ow1, ps1, SP1, hh, p1, p2, p3, p4, p5, p6, p7, p8, p9⟩ := hp45
          have hzk := gB_z hI
          have hzk0 := p7.2.2.2 _ hzk
          have hro := gXs_row hzk0 gq gq3 gps gsp ga gb
          have ga1 := p7.1 a _ ga hro.1
          have gb1 := p7.1 (a + 1) _ gb hro.2
          refine gh_getN S hI p1.1 rfl i_Piece 0 (by decide) hI.1.2.2.1.2.1 rfl d_File_write_59 ?_
          refine lv_iload S.1 S.2.1 d_File_write_62 (lv_at hl 1 rfl) ?_
          refine lv_iload S.1 S.2.1 d_File_write_64 (lv_at hl 2 rfl) ?_
          refine lv_isub S.1 S.2.1 d_File_write_66 ?_
          refine lv_topi (fun v46 ev46 => ?_)
          replace ev46 : v46 = nI (lo - (448 * i)) := ev46.trans (pk_sub (by omega))
          subst ev46
          refine lv_iload S.1 S.2.1 d_File_write_67 (lv_at hl 1 rfl) ?_
          refine lv_iload_n S.1 S.2.1 d_File_write_69 rfl (lv_at hl 4 rfl) ?_
          refine lv_isub S.1 S.2.1 d_File_write_70 ?_
          refine lv_topi (fun v47 ev47 => ?_)
          replace ev47 : v47 = nI (lo - fr) := ev47.trans (pk_sub (by omega))
          subst ev47
          refine lv_iload S.1 S.2.1 d_File_write_71 (lv_at hl 0 rfl) ?_
          refine lv_iload S.1 S.2.1 d_File_write_73 (lv_at hl 1 rfl) ?_
          refine lv_isub S.1 S.2.1 d_File_write_75 ?_
          refine lv_topi (fun v48 ev48 => ?_)
          replace ev48 : v48 = nI (hi - lo) := ev48.trans (pk_sub (by omega))
          subst ev48
          have hnb : a + 1 ≠ r43 + 1 := by
            intro z
            have e1 : a = r43 := by omega
            rw [e1, p1.1] at ga1; simp at ga1
          refine gc_Vv S hI (c_Row_copyTo l P f44 (at_ := lo - 448 * i) (fr := lo - fr) (k := hi - lo) ga1 gb1 p1.2.1 hnb (by omega) (by omega) hcR (by omega) hg) kv_Row_copyTo wi_302 ga1 rfl rfl rfl hl.1 rfl (Nat.le_of_ble_eq_true rfl) ⟨Nat.le_of_ble_eq_true rfl, Nat.le_of_ble_eq_true rfl⟩ ⟨by show _ ≤ 38; omega, by show _ ≤ 8531; omega⟩ d_File_write_76 (fun f50 H locs hp51 hI => ?_)
          have hF1 : gFr f44 f50 [r43 + 1] := by rw [hp51]; exact gFr.upA (by simp) gFr.rf
          have gq2 := hF1 q _ p3 (by simp; exact gh_ne p3 p1.2.1 (by intro h; cases h))
          have gq32 : f50 (q + 3) = some (.inl (P.2.1 3, 19, .inr (.inr (.inr (.inr ps1))))) := hF1 _ _ p4 (fun z => by have := p1.2.1; rw [← List.mem_singleton.mp z, p4] at this; injection this with this; injection this with this; injection this with _ this; injection this with _ this; cases this)
          have ga2 := hF1 a _ ga1 (by simp; exact gh_ne ga1 p1.2.1 (by intro h; cases h))
          have gb2 := hF1 (a + 1) _ gb1 (by simp; omega)
          have hmem := p6.nsp p5 (t := i) (by omega) p2
          have hold : ∀ j, j < 448 → ub (hh j) = C (448 * i + j) := by
            intro j hj
            obtain ⟨-, h9, q1, q2⟩ := (p6 i (by omega)).2 r43 p2
            have e9 : h9 = hh := by
              have e8 := q1.2.1
              rw [p1.2.1] at e8
              injection e8 with e8; injection e8 with e8; injection e8 with _ e8; injection e8 with _ e8; injection e8 with e8
              exact e8.symm
            rw [← e9, q2 j hj, wcK_old (by omega)]
          have hnew : ∀ j, j < 448 → ub (va_cpy g hh (lo - fr) (lo - 448 * i) (hi - lo) j) = wcK C (fun i => ub (g i)) fr n (i + 1) (448 * i + j) := fun j hj => wcK_at hlo hhi (by omega) hj (hold j hj)
          have gsp2 : gSp P f50 ow1 pl e cap SP1 := p5.upd (gFr_none hF1 (fun _ z => by rw [List.mem_singleton.mp z, hp51, va_up_self]; simp) (gB_z hI)) p1 hmem hp51
          have gps2 := p6.upd (C' := wcK C (fun i => ub (g i)) fr n (i + 1)) (by omega) p2 (sb_fitC hg p1.2.2) hp51 (fun t j ht hne hj => wcK_ne hne hj) hnew
          have grel2 := grel.trans (p7.trans (gRel.fr hF1 (fun c hc => by rw [List.mem_singleton.mp hc]; exact ⟨Or.inr (Or.inr (Or.inr (Or.inr ⟨r43, Or.inr rfl, Or.inr ⟨i, by omega, p2⟩⟩))), by rw [hp51, va_up_self]; simp⟩)))
          have gct2 : SP1.length + cntL (wlK ld fr n (i + 1)) 19 = SP.length + cntL ld 19 ∨ SP1 = [] := by
            rw [wlK_yes hyes]
            rcases gct with g1 | g1
            · rcases p8 with g2 | g2
              · exact Or.inl (by omega)
              · exact Or.inr g2
            · refine Or.inr (List.length_eq_zero_iff.mp ?_)
              rw [g1] at p9; simpa using p9
          refine lv_iinc (v := nI (i + 1)) (lv' := [(4, .int (nI (i + 1))), (7, .int (nI hi)), (6, .int (nI lo)), (5, .int (nI (448 * i))), (0, .ref q), (1, .int (nI fr)), (2, .ref a), (3, .int (nI (fr + n)))]) S.1 S.2.1 d_File_write_79 hl (k := 7) rfl (nI_add _ _) (by decide) rfl (fun ls hl => ?_)
          refine lv_goto (tgt := 10) S.1 S.2.1 d_File_write_82 (by decide) ?_
          refine W.widen (k := 2 * (i + 1)) (n := 449 * (i + 1)) (by omega) (by omega) ?_
          exact ih (i + 1) (by omega) (by omega) f50 ow1 ps1 SP1 gq2 gq32 gsp2 (by rw [wlK_yes hyes]; exact gps2) grel2 gct2 (by omega) ga2 gb2 _ _ hI _ (lv_sub hl [4, 5, 6, 7, 0] rfl)
  exact loop 20 0 (by omega) (by omega) f ow ps SP hq hq3 h (by rw [wlK_0, wcK_0]; exact hps) gRel.rf (Or.inl (by rw [wlK_0])) (Nat.le_refl _) ha hb _ _ hI _ (lv_sub hl [2, 3, 4, 1, 0] rfl)
