set_option maxHeartbeats 4000000 in
set_option maxRecDepth 100000 in
theorem c_Mdl_made (l : Launch) (P : gPar) (f : gM) {b tl tot op td : Nat} {gn gl go gu gf gk gi gz ga : Nat → Int32} {L : List Nat} {af : Nat → AFile} {nm : List Nat} {idv : Int32} (hb : f b = some (.inr (7, [.ref (b + 1), .int (nI tl), .ref (b + 2), .ref (b + 3), .ref (b + 4), .ref (b + 5), .ref (b + 6), .ref (b + 7), .ref (b + 8), .ref (b + 9), .ref (b + 10), .ref (b + 11), .int (nI L.length), .int (nI tot), .int (nI op), .ref (b + 12), .int (nI td)]))) (h2 : f (b + 2) = some (.inl (P.2.1 0, 400, .inl gn))) (h3 : f (b + 3) = some (.inl (P.2.1 1, 2, .inl gl))) (h4 : f (b + 4) = some (.inl (P.2.1 1, 48, .inl go))) (h5 : f (b + 5) = some (.inl (P.2.1 2, 48, .inl gu))) (h6 : f (b + 6) = some (.inl (P.2.1 0, 9600, .inl gf))) (h7 : f (b + 7) = some (.inl (P.2.1 1, 48, .inl gk))) (h8 : f (b + 8) = some (.inl (P.2.1 1, 48, .inl gi))) (h9 : f (b + 9) = some (.inl (P.2.1 1, 48, .inl gz))) (h11 : f (b + 11) = some (.inl (P.2.1 2, 912, .inl ga))) (hO : mOr go L) (hU : mUs gu L) (hN : ∀ q ∈ L, q < 48 ∧ mNk gf gk q (af q).1) (h48 : L.length < 48) (hnk : mNk gn gl 0 nm) (hs : srt (nms af L)) (hno : nm ∉ nms af L) : gC l P y_Mdl_made b_Mdl_made 4 (some .int) 2 0 0 [.ref b, .int idv] f (gQi P (fun r f1 => ∃ (q : Nat) (g4 g6 g7 g11 : Nat → Int32), q < 48 ∧ q ∉ L ∧ r = nI q ∧ f1 b = some (.inr (7, [.ref (b + 1), .int (nI tl), .ref (b + 2), .ref (b + 3), .ref (b + 4), .ref (b + 5), .ref (b + 6), .ref (b + 7), .ref (b + 8), .ref (b + 9), .ref (b + 10), .ref (b + 11), .int (nI (L.length + 1)), .int (nI tot), .int (nI op), .ref (b + 12), .int (nI td)])) ∧ f1 (b + 4) = some (.inl (P.2.1 1, 48, .inl g4)) ∧ f1 (b + 5) = some (.inl (P.2.1 2, 48, .inl (upd gu q (nI 1)))) ∧ f1 (b + 6) = some (.inl (P.2.1 0, 9600, .inl g6)) ∧ f1 (b + 7) = some (.inl (P.2.1 1, 48, .inl g7)) ∧ f1 (b + 8) = some (.inl (P.2.1 1, 48, .inl (upd gi q idv))) ∧ f1 (b + 9) = some (.inl (P.2.1 1, 48, .inl (upd gz q (nI 0)))) ∧ f1 (b + 11) = some (.inl (P.2.1 2, 912, .inl g11)) ∧ mOr g4 (L.insertIdx (plc (nms af L) nm) q) ∧ mNk g6 g7 q nm ∧ (∀ k2 nm2, k2 ≠ q → mNk gf gk k2 nm2 → mNk g6 g7 k2 nm2) ∧ (∀ x, g11 x = if 19 * q ≤ x ∧ x < 19 * q + 19 then 0 else ga x) ∧ gFr f f1 [b, b + 4, b + 5, b + 6, b + 7, b + 8, b + 9, b + 11])) := by
  refine gC_of (by decide) (Nat.le_of_ble_eq_true rfl) (fun p env s m args below meth c S hr hlk hnm H locs hI ls hl => ?_)
  have hl : lv_has ls 4 [(0, .ref b), (1, .int idv)] := hl
  have loop2 : ∀ (q : Nat), q < 48 → q ∉ L → ∀ (u i : Nat) (fj : gM) (g11 : Nat → Int32), i ≤ 19 → 19 - i < u → fj (b + 5) = some (.inl (P.2.1 2, 48, .inl (upd gu q (nI 1)))) → fj (b + 8) = some (.inl (P.2.1 1, 48, .inl (upd gi q idv))) → fj (b + 9) = some (.inl (P.2.1 1, 48, .inl (upd gz q (nI 0)))) → fj (b + 11) = some (.inl (P.2.1 2, 912, .inl g11)) → gFr f fj [b + 5, b + 8, b + 9, b + 11] → (∀ x, g11 x = if 19 * q ≤ x ∧ x < 19 * q + i then 0 else ga x) → ∀ (H : Heap) (locs : List Loc), gB P fj s H locs → ∀ ls : Array Slot, lv_has ls 4 [(0, .ref b), (2, .int (nI q)), (3, .int (nI i))] → W p l env (grm 2 0 0) s m args below meth c H locs 0 0 (MQ below (gQi P (fun r f1 => ∃ (q : Nat) (g4 g6 g7 g11 : Nat → Int32), q < 48 ∧ q ∉ L ∧ r = nI q ∧ f1 b = some (.inr (7, [.ref (b + 1), .int (nI tl), .ref (b + 2), .ref (b + 3), .ref (b + 4), .ref (b + 5), .ref (b + 6), .ref (b + 7), .ref (b + 8), .ref (b + 9), .ref (b + 10), .ref (b + 11), .int (nI (L.length + 1)), .int (nI tot), .int (nI op), .ref (b + 12), .int (nI td)])) ∧ f1 (b + 4) = some (.inl (P.2.1 1, 48, .inl g4)) ∧ f1 (b + 5) = some (.inl (P.2.1 2, 48, .inl (upd gu q (nI 1)))) ∧ f1 (b + 6) = some (.inl (P.2.1 0, 9600, .inl g6)) ∧ f1 (b + 7) = some (.inl (P.2.1 1, 48, .inl g7)) ∧ f1 (b + 8) = some (.inl (P.2.1 1, 48, .inl (upd gi q idv))) ∧ f1 (b + 9) = some (.inl (P.2.1 1, 48, .inl (upd gz q (nI 0)))) ∧ f1 (b + 11) = some (.inl (P.2.1 2, 912, .inl g11)) ∧ mOr g4 (L.insertIdx (plc (nms af L) nm) q) ∧ mNk g6 g7 q nm ∧ (∀ k2 nm2, k2 ≠ q → mNk gf gk k2 nm2 → mNk g6 g7 k2 nm2) ∧ (∀ x, g11 x = if 19 * q ≤ x ∧ x < 19 * q + 19 then 0 else ga x) ∧ gFr f f1 [b, b + 4, b + 5, b + 6, b + 7, b + 8, b + 9, b + 11])) args s 0 0 (gA P)) (F0 m 40 ls []) := by
    intro q hq hqL u
    induction u with
    | zero => intro i fj g11 h9 h8; exact absurd h8 (by omega)
    | succ u ih =>
      intro i fj g11 hi1 hu j5 j8 j9 j11 hF hg H locs hI ls hl
      have jb := hF b _ hb (by intro z; simp at z)
      have j2 := hF (b + 2) _ h2 (by intro z; simp at z)
      have j3 := hF (b + 3) _ h3 (by intro z; simp at z)
      have j4 := hF (b + 4) _ h4 (by intro z; simp at z)
      have j6 := hF (b + 6) _ h6 (by intro z; simp at z)
      have j7 := hF (b + 7) _ h7 (by intro z; simp at z)
      refine lv_iload_n S.1 S.2.1 d_Mdl_made_40 rfl (lv_at hl 2 rfl) ?_
      refine lv_bipush (v := nI 19) S.1 S.2.1 d_Mdl_made_41 (by decide) ?_
      refine lv_icmp_ge (tgt := 64) S.1 S.2.1 d_Mdl_made_43 (by decide) (fun c77 => ?_) (fun c77 => ?_)
      · skip
        replace c77 : 19 ≤ i := (nI_leI (a := 19) (b := i) (by omega) (by omega)).mp c77
        refine lv_aload_n S.1 S.2.1 d_Mdl_made_64 rfl (lv_at hl 0 rfl) ?_
        refine lv_iload_n S.1 S.2.1 d_Mdl_made_65 rfl (lv_at hl 1 rfl) ?_
        refine lv_iconst (v := nI 0) S.1 S.2.1 d_Mdl_made_66 (by decide) ?_
        refine gc_Vv S hI (c_Mdl_enter l P fj (q := q) (k := 0) (af := af) jb j2 j3 j4 j6 j7 hO hN h48 hq (by omega) hnk hs hno) kv_Mdl_enter wi_482 jb rfl rfl rfl hl.1 rfl (Nat.le_of_ble_eq_true rfl) ⟨Nat.le_of_ble_eq_true rfl, Nat.le_of_ble_eq_true rfl⟩ ⟨Nat.le_of_ble_eq_true rfl, Nat.le_of_ble_eq_true rfl⟩ d_Mdl_made_67 (fun f79 H locs hp80 hI => ?_)
        obtain ⟨g4, g6, g7, k0, k4, k6, k7, kO, kN, kK, kF⟩ := hp80
        have hF9 : gFr f f79 [b, b + 4, b + 5, b + 6, b + 7, b + 8, b + 9, b + 11] := (hF.mono (by intro q hq; simp at hq ⊢; omega)).call kF (by intro q hq; left; simp at hq ⊢; omega)
        have m5 := kF (b + 5) _ j5 (by intro z; simp at z)
        have m8 := kF (b + 8) _ j8 (by intro z; simp at z)
        have m9 := kF (b + 9) _ j9 (by intro z; simp at z)
        have m11 := kF (b + 11) _ j11 (by intro z; simp at z)
        refine lv_iload_n S.1 S.2.1 d_Mdl_made_70 rfl (lv_at hl 1 rfl) ?_
        exact gr_i S hr hlk hI (⟨q, g4, g6, g7, g11, hq, hqL, rfl, k0, k4, m5, k6, k7, m8, m9, m11, kO, kN, kK, (fun x => by rw [hg x, show i = 19 by omega]), hF9⟩) d_Mdl_made_71
      · skip
        replace c77 : ¬ 19 ≤ i := fun z => c77 ((nI_leI (a := 19) (b := i) (by omega) (by omega)).mpr z)
        refine lv_aload_n S.1 S.2.1 d_Mdl_made_46 rfl (lv_at hl 0 rfl) ?_
        refine gh_get S hI jb rfl i_Mdl 11 (by decide) wi_446 rfl d_Mdl_made_47 ?_
        refine lv_bipush (v := nI 19) S.1 S.2.1 d_Mdl_made_50 (by decide) ?_
        refine lv_iload_n S.1 S.2.1 d_Mdl_made_52 rfl (lv_at hl 1 rfl) ?_
        refine lv_imul S.1 S.2.1 d_Mdl_made_53 ?_
        refine lv_topi (fun v81 ev81 => ?_)
        replace ev81 : v81 = nI (19 * q) := ev81.trans (pk_mul _ _)
        subst ev81
        refine lv_iload_n S.1 S.2.1 d_Mdl_made_54 rfl (lv_at hl 2 rfl) ?_
        refine lv_iadd S.1 S.2.1 d_Mdl_made_55 ?_
        refine lv_topi (fun v82 ev82 => ?_)
        replace ev82 : v82 = nI ((19 * q) + i) := ev82.trans (nI_add _ _)
        subst ev82
        refine lv_iconst (v := nI 0) S.1 S.2.1 d_Mdl_made_56 (by decide) ?_
        refine gh_zast (j := (19 * q) + i) S hI 2 j11 rfl (by first | exact Or.inl rfl | exact Or.inr rfl) rfl (by omega) (by omega) d_Mdl_made_57 (fun H locs hI => ?_)
        have hI : gB P (va_up fj (b + 11) (some (.inl (P.2.1 2, 912, .inl (upd g11 ((19 * q) + i) (nI 0)))))) s H locs := hI
        obtain ⟨f83, ef83⟩ : ∃ z, z = va_up fj (b + 11) (some (.inl (P.2.1 2, 912, .inl (upd g11 ((19 * q) + i) (nI 0))))) := ⟨_, rfl⟩
        rw [← ef83] at hI
        have h84 : f83 b = some (.inr (7, [.ref (b + 1), .int (nI tl), .ref (b + 2), .ref (b + 3), .ref (b + 4), .ref (b + 5), .ref (b + 6), .ref (b + 7), .ref (b + 8), .ref (b + 9), .ref (b + 10), .ref (b + 11), .int (nI L.length), .int (nI tot), .int (nI op), .ref (b + 12), .int (nI td)])) := by rw [ef83, va_up_ne _ _ (by omega)]; exact jb
        have h85 : f83 (b + 5) = some (.inl (P.2.1 2, 48, .inl (upd gu q (nI 1)))) := by rw [ef83, va_up_ne _ _ (by omega)]; exact j5
        have h86 : f83 (b + 8) = some (.inl (P.2.1 1, 48, .inl (upd gi q idv))) := by rw [ef83, va_up_ne _ _ (by omega)]; exact j8
        have h87 : f83 (b + 9) = some (.inl (P.2.1 1, 48, .inl (upd gz q (nI 0)))) := by rw [ef83, va_up_ne _ _ (by omega)]; exact j9
        have h88 : f83 (b + 11) = some (.inl (P.2.1 2, 912, .inl (upd g11 ((19 * q) + i) (nI 0)))) := by rw [ef83]; exact va_up_self _ _ _
        have hF : gFr f f83 [b + 5, b + 8, b + 9, b + 11] := by rw [ef83]; exact gFr.upA (by simp) hF
        refine lv_iinc (v := nI (i + 1)) (lv' := [(3, .int (nI (i + 1))), (0, .ref b), (2, .int (nI q))]) S.1 S.2.1 d_Mdl_made_58 hl (k := 2) rfl (nI_add _ _) (by decide) rfl (fun ls hl => ?_)
        refine lv_goto (tgt := 40) S.1 S.2.1 d_Mdl_made_61 (by decide) ?_
        exact ih (i + 1) _ _ (by omega) (by omega) h85 h86 h87 h88 hF (fun x => by
          unfold upd
          by_cases hx : x = 19 * q + i
          · rw [if_pos hx, if_pos (by omega)]; rfl
          · rw [if_neg hx, hg x]
            by_cases hc : 19 * q ≤ x ∧ x < 19 * q + i
            · rw [if_pos hc, if_pos (by omega)]
            · rw [if_neg hc, if_neg (by omega)]) _ _ hI _ (lv_sub hl [1, 2, 0] rfl)
  refine lv_iconst (v := nI 0) S.1 S.2.1 d_Mdl_made_0 (by decide) ?_
  refine lv_istore_n (lv' := [(2, .int (nI 0)), (0, .ref b), (1, .int idv)]) S.1 S.2.1 d_Mdl_made_1 rfl hl (by decide) rfl (fun ls hl => ?_)
  have loop : ∀ (u i : Nat), i ≤ 48 → 48 - i < u → (∀ j, j < i → j ∈ L) → ∀ (H : Heap) (locs : List Loc), gB P f s H locs → ∀ ls : Array Slot, lv_has ls 4 [(0, .ref b), (1, .int idv), (2, .int (nI i))] → W p l env (grm 2 0 0) s m args below meth c H locs 0 0 (MQ below (gQi P (fun r f1 => ∃ (q : Nat) (g4 g6 g7 g11 : Nat → Int32), q < 48 ∧ q ∉ L ∧ r = nI q ∧ f1 b = some (.inr (7, [.ref (b + 1), .int (nI tl), .ref (b + 2), .ref (b + 3), .ref (b + 4), .ref (b + 5), .ref (b + 6), .ref (b + 7), .ref (b + 8), .ref (b + 9), .ref (b + 10), .ref (b + 11), .int (nI (L.length + 1)), .int (nI tot), .int (nI op), .ref (b + 12), .int (nI td)])) ∧ f1 (b + 4) = some (.inl (P.2.1 1, 48, .inl g4)) ∧ f1 (b + 5) = some (.inl (P.2.1 2, 48, .inl (upd gu q (nI 1)))) ∧ f1 (b + 6) = some (.inl (P.2.1 0, 9600, .inl g6)) ∧ f1 (b + 7) = some (.inl (P.2.1 1, 48, .inl g7)) ∧ f1 (b + 8) = some (.inl (P.2.1 1, 48, .inl (upd gi q idv))) ∧ f1 (b + 9) = some (.inl (P.2.1 1, 48, .inl (upd gz q (nI 0)))) ∧ f1 (b + 11) = some (.inl (P.2.1 2, 912, .inl g11)) ∧ mOr g4 (L.insertIdx (plc (nms af L) nm) q) ∧ mNk g6 g7 q nm ∧ (∀ k2 nm2, k2 ≠ q → mNk gf gk k2 nm2 → mNk g6 g7 k2 nm2) ∧ (∀ x, g11 x = if 19 * q ≤ x ∧ x < 19 * q + 19 then 0 else ga x) ∧ gFr f f1 [b, b + 4, b + 5, b + 6, b + 7, b + 8, b + 9, b + 11])) args s 0 0 (gA P)) (F0 m 2 ls []) := by
    intro u
    induction u with
    | zero => intro i h9 h8; exact absurd h8 (by omega)
    | succ u ih =>
      intro i hi1 hu hall H locs hI ls hl
      have hi48 : i < 48 := by
        rcases Nat.lt_or_ge i 48 with z | z
        · exact z
        · have := pigeon 48 L (fun j hj => hall j (by omega)); omega
      refine lv_aload_n S.1 S.2.1 d_Mdl_made_2 rfl (lv_at hl 0 rfl) ?_
      refine gh_get S hI hb rfl i_Mdl 5 (by decide) wi_440 rfl d_Mdl_made_3 ?_
      refine lv_iload_n S.1 S.2.1 d_Mdl_made_6 rfl (lv_at hl 2 rfl) ?_
      refine gh_zald (j := i) S hI 2 h5 rfl rfl (by omega) (by omega) d_Mdl_made_7 ?_
      by_cases hm : i ∈ L
      · skip
        refine lv_topi (fun v89 ev89 => ?_)
        replace ev89 : v89 = nI 1 := ev89.trans (by rw [hU i hi48, if_pos hm]; rfl)
        subst ev89
        refine lv_if_eq (tgt := 17) S.1 S.2.1 d_Mdl_made_8 (by decide) (fun c90 => ?_) (fun c90 => ?_)
        · skip
          replace c90 : 1 = 0 := (nI_eq (a := 1) (b := 0) (by omega) (by omega)).mp c90
          exact absurd c90 (by omega)
        · skip
          replace c90 : ¬ 1 = 0 := fun z => c90 ((nI_eq (a := 1) (b := 0) (by omega) (by omega)).mpr z)
          refine lv_iinc (v := nI (i + 1)) (lv' := [(2, .int (nI (i + 1))), (0, .ref b), (1, .int idv)]) S.1 S.2.1 d_Mdl_made_11 hl (k := 2) rfl (nI_add _ _) (by decide) rfl (fun ls hl => ?_)
          refine lv_goto (tgt := 2) S.1 S.2.1 d_Mdl_made_14 (by decide) ?_
          exact ih (i + 1) (by omega) (by omega) (fun j hj => (Nat.lt_succ_iff_lt_or_eq.mp hj).elim (hall j) (fun q9 => by rw [q9]; exact hm)) _ _ hI _ (lv_sub hl [1, 2, 0] rfl)
      · skip
        refine lv_topi (fun v91 ev91 => ?_)
        replace ev91 : v91 = nI 0 := ev91.trans (by rw [hU i hi48, if_neg hm]; rfl)
        subst ev91
        refine lv_if_eq (tgt := 17) S.1 S.2.1 d_Mdl_made_8 (by decide) (fun c92 => ?_) (fun c92 => ?_)
        · skip
          replace c92 : 0 = 0 := (nI_eq (a := 0) (b := 0) (by omega) (by omega)).mp c92
          have hF : gFr f f [b + 5, b + 8, b + 9, b + 11] := gFr.rf
          refine lv_aload_n S.1 S.2.1 d_Mdl_made_17 rfl (lv_at hl 0 rfl) ?_
          refine gh_get S hI hb rfl i_Mdl 5 (by decide) wi_440 rfl d_Mdl_made_18 ?_
          refine lv_iload_n S.1 S.2.1 d_Mdl_made_21 rfl (lv_at hl 2 rfl) ?_
          refine lv_iconst (v := nI 1) S.1 S.2.1 d_Mdl_made_22 (by decide) ?_
          refine gh_zast (j := i) S hI 2 h5 rfl (by first | exact Or.inl rfl | exact Or.inr rfl) rfl (by omega) (by omega) d_Mdl_made_23 (fun H locs hI => ?_)
          have hI : gB P (va_up f (b + 5) (some (.inl (P.2.1 2, 48, .inl (upd gu i (nI 1)))))) s H locs := hI
          obtain ⟨f93, ef93⟩ : ∃ z, z = va_up f (b + 5) (some (.inl (P.2.1 2, 48, .inl (upd gu i (nI 1))))) := ⟨_, rfl⟩
          rw [← ef93] at hI
          have h94 : f93 b = some (.inr (7, [.ref (b + 1), .int (nI tl), .ref (b + 2), .ref (b + 3), .ref (b + 4), .ref (b + 5), .ref (b + 6), .ref (b + 7), .ref (b + 8), .ref (b + 9), .ref (b + 10), .ref (b + 11), .int (nI L.length), .int (nI tot), .int (nI op), .ref (b + 12), .int (nI td)])) := by rw [ef93, va_up_ne _ _ (by omega)]; exact hb
          have h95 : f93 (b + 8) = some (.inl (P.2.1 1, 48, .inl gi)) := by rw [ef93, va_up_ne _ _ (by omega)]; exact h8
          have h96 : f93 (b + 9) = some (.inl (P.2.1 1, 48, .inl gz)) := by rw [ef93, va_up_ne _ _ (by omega)]; exact h9
          have h97 : f93 (b + 11) = some (.inl (P.2.1 2, 912, .inl ga)) := by rw [ef93, va_up_ne _ _ (by omega)]; exact h11
          have h98 : f93 (b + 5) = some (.inl (P.2.1 2, 48, .inl (upd gu i (nI 1)))) := by rw [ef93]; exact va_up_self _ _ _
          have hF : gFr f f93 [b + 5, b + 8, b + 9, b + 11] := by rw [ef93]; exact gFr.upA (by simp) hF
          refine lv_aload_n S.1 S.2.1 d_Mdl_made_24 rfl (lv_at hl 0 rfl) ?_
          refine gh_get S hI h94 rfl i_Mdl 8 (by decide) wi_443 rfl d_Mdl_made_25 ?_
          refine lv_iload_n S.1 S.2.1 d_Mdl_made_28 rfl (lv_at hl 2 rfl) ?_
          refine lv_iload_n S.1 S.2.1 d_Mdl_made_29 rfl (lv_at hl 1 rfl) ?_
          refine gh_iast (j := i) S hI 1 h95 rfl rfl (by omega) (by omega) d_Mdl_made_30 (fun H locs hI => ?_)
          have hI : gB P (va_up f93 (b + 8) (some (.inl (P.2.1 1, 48, .inl (upd gi i idv))))) s H locs := hI
          obtain ⟨f99, ef99⟩ : ∃ z, z = va_up f93 (b + 8) (some (.inl (P.2.1 1, 48, .inl (upd gi i idv)))) := ⟨_, rfl⟩
          rw [← ef99] at hI
          have h100 : f99 b = some (.inr (7, [.ref (b + 1), .int (nI tl), .ref (b + 2), .ref (b + 3), .ref (b + 4), .ref (b + 5), .ref (b + 6), .ref (b + 7), .ref (b + 8), .ref (b + 9), .ref (b + 10), .ref (b + 11), .int (nI L.length), .int (nI tot), .int (nI op), .ref (b + 12), .int (nI td)])) := by rw [ef99, va_up_ne _ _ (by omega)]; exact h94
          have h101 : f99 (b + 9) = some (.inl (P.2.1 1, 48, .inl gz)) := by rw [ef99, va_up_ne _ _ (by omega)]; exact h96
          have h102 : f99 (b + 11) = some (.inl (P.2.1 2, 912, .inl ga)) := by rw [ef99, va_up_ne _ _ (by omega)]; exact h97
          have h103 : f99 (b + 5) = some (.inl (P.2.1 2, 48, .inl (upd gu i (nI 1)))) := by rw [ef99, va_up_ne _ _ (by omega)]; exact h98
          have h104 : f99 (b + 8) = some (.inl (P.2.1 1, 48, .inl (upd gi i idv))) := by rw [ef99]; exact va_up_self _ _ _
          have hF : gFr f f99 [b + 5, b + 8, b + 9, b + 11] := by rw [ef99]; exact gFr.upA (by simp) hF
          refine lv_aload_n S.1 S.2.1 d_Mdl_made_31 rfl (lv_at hl 0 rfl) ?_
          refine gh_get S hI h100 rfl i_Mdl 9 (by decide) wi_444 rfl d_Mdl_made_32 ?_
          refine lv_iload_n S.1 S.2.1 d_Mdl_made_35 rfl (lv_at hl 2 rfl) ?_
          refine lv_iconst (v := nI 0) S.1 S.2.1 d_Mdl_made_36 (by decide) ?_
          refine gh_iast (j := i) S hI 1 h101 rfl rfl (by omega) (by omega) d_Mdl_made_37 (fun H locs hI => ?_)
          have hI : gB P (va_up f99 (b + 9) (some (.inl (P.2.1 1, 48, .inl (upd gz i (nI 0)))))) s H locs := hI
          obtain ⟨f105, ef105⟩ : ∃ z, z = va_up f99 (b + 9) (some (.inl (P.2.1 1, 48, .inl (upd gz i (nI 0))))) := ⟨_, rfl⟩
          rw [← ef105] at hI
          have h106 : f105 b = some (.inr (7, [.ref (b + 1), .int (nI tl), .ref (b + 2), .ref (b + 3), .ref (b + 4), .ref (b + 5), .ref (b + 6), .ref (b + 7), .ref (b + 8), .ref (b + 9), .ref (b + 10), .ref (b + 11), .int (nI L.length), .int (nI tot), .int (nI op), .ref (b + 12), .int (nI td)])) := by rw [ef105, va_up_ne _ _ (by omega)]; exact h100
          have h107 : f105 (b + 11) = some (.inl (P.2.1 2, 912, .inl ga)) := by rw [ef105, va_up_ne _ _ (by omega)]; exact h102
          have h108 : f105 (b + 5) = some (.inl (P.2.1 2, 48, .inl (upd gu i (nI 1)))) := by rw [ef105, va_up_ne _ _ (by omega)]; exact h103
          have h109 : f105 (b + 8) = some (.inl (P.2.1 1, 48, .inl (upd gi i idv))) := by rw [ef105, va_up_ne _ _ (by omega)]; exact h104
          have h110 : f105 (b + 9) = some (.inl (P.2.1 1, 48, .inl (upd gz i (nI 0)))) := by rw [ef105]; exact va_up_self _ _ _
          have hF : gFr f f105 [b + 5, b + 8, b + 9, b + 11] := by rw [ef105]; exact gFr.upA (by simp) hF
          refine lv_iconst (v := nI 0) S.1 S.2.1 d_Mdl_made_38 (by decide) ?_
          refine lv_istore_n (lv' := [(3, .int (nI 0)), (0, .ref b), (1, .int idv), (2, .int (nI i))]) S.1 S.2.1 d_Mdl_made_39 rfl hl (by decide) rfl (fun ls hl => ?_)
          exact loop2 i hi48 hm 20 0 _ ga (by omega) (by omega) h108 h109 h110 h107 hF (fun x => by rw [if_neg (by omega)]) _ _ hI _ (lv_sub hl [1, 3, 0] rfl)
        · skip
          replace c92 : ¬ 0 = 0 := fun z => c92 ((nI_eq (a := 0) (b := 0) (by omega) (by omega)).mpr z)
          exact absurd c92 (by omega)
  exact loop 49 0 (by omega) (by omega) (fun j hj => absurd hj (by omega)) _ _ hI _ (lv_sub hl [1, 2, 0] rfl)
set_option maxHeartbeats 4000000 in
set_option maxRecDepth 100000 in
theorem c_Mdl_gone (l : Launch) (P : gPar) (f : gM) {b tl tot op td : Nat} {go gu gz : Nat → Int32} {q k sz : Nat} {L : List Nat} (hb : f b = some (.inr (7, [.ref (b + 1), .int (nI tl), .ref (b + 2), .ref (b + 3), .ref (b + 4), .ref (b + 5), .ref (b + 6), .ref (b + 7), .ref (b + 8), .ref (b + 9), .ref (b + 10), .ref (b + 11), .int (nI L.length), .int (nI tot), .int (nI op), .ref (b + 12), .int (nI td)]))) (h4 : f (b + 4) = some (.inl (P.2.1 1, 48, .inl go))) (h5 : f (b + 5) = some (.inl (P.2.1 2, 48, .inl gu))) (h9 : f (b + 9) = some (.inl (P.2.1 1, 48, .inl gz))) (hO : mOr go L) (hk : L[k]? = some q) (hnd : L.Nodup) (h48 : ∀ q ∈ L, q < 48) (hlL : L.length ≤ 48) (hz : gz q = nI sz) (hsz : sz ≤ tot) : gC l P y_Mdl_gone b_Mdl_gone 2 (some .int) 1 0 0 [.ref b, .int (nI q)] f (gQi P (fun r f1 => r = nI sz ∧ ∃ g4, f1 b = some (.inr (7, [.ref (b + 1), .int (nI tl), .ref (b + 2), .ref (b + 3), .ref (b + 4), .ref (b + 5), .ref (b + 6), .ref (b + 7), .ref (b + 8), .ref (b + 9), .ref (b + 10), .ref (b + 11), .int (nI (L.length - 1)), .int (nI (tot - sz)), .int (nI op), .ref (b + 12), .int (nI td)])) ∧ f1 (b + 4) = some (.inl (P.2.1 1, 48, .inl g4)) ∧ f1 (b + 5) = some (.inl (P.2.1 2, 48, .inl (upd gu q (nI 0)))) ∧ mOr g4 (L.eraseIdx k) ∧ gFr f f1 [b, b + 4, b + 5])) := by
  refine gC_of (by decide) (Nat.le_of_ble_eq_true rfl) (fun p env s m args below meth c S hr hlk hnm H locs hI ls hl => ?_)
  have hl : lv_has ls 2 [(0, .ref b), (1, .int (nI q))] := hl
  have hq8 := h48 q (List.mem_of_getElem? hk)
  refine lv_aload_n S.1 S.2.1 d_Mdl_gone_0 rfl (lv_at hl 0 rfl) ?_
  refine lv_iload_n S.1 S.2.1 d_Mdl_gone_1 rfl (lv_at hl 1 rfl) ?_
  refine gc_Vv S hI (c_Mdl_leave l P f (q := q) (k := k) hb h4 hO hk hnd h48 hlL) kv_Mdl_leave wi_501 hb rfl rfl rfl hl.1 rfl (Nat.le_of_ble_eq_true rfl) ⟨Nat.le_of_ble_eq_true rfl, Nat.le_of_ble_eq_true rfl⟩ ⟨Nat.le_of_ble_eq_true rfl, Nat.le_of_ble_eq_true rfl⟩ d_Mdl_gone_2 (fun f112 H locs hp113 hI => ?_)
  obtain ⟨g4, k0, k4, kO, hF⟩ := hp113
  have m5 := hF (b + 5) _ h5 (nm2 (by omega) (by omega))
  have m9 := hF (b + 9) _ h9 (nm2 (by omega) (by omega))
  have hF : gFr f f112 [b, b + 4, b + 5] := hF.mono (by intro q hq; simp at hq ⊢; omega)
  refine lv_aload_n S.1 S.2.1 d_Mdl_gone_5 rfl (lv_at hl 0 rfl) ?_
  refine gh_get S hI k0 rfl i_Mdl 5 (by decide) wi_440 rfl d_Mdl_gone_6 ?_
  refine lv_iload_n S.1 S.2.1 d_Mdl_gone_9 rfl (lv_at hl 1 rfl) ?_
  refine lv_iconst (v := nI 0) S.1 S.2.1 d_Mdl_gone_10 (by decide) ?_
  refine gh_zast (j := q) S hI 2 m5 rfl (by first | exact Or.inl rfl | exact Or.inr rfl) rfl (by omega) (by omega) d_Mdl_gone_11 (fun H locs hI => ?_)
  have hI : gB P (va_up f112 (b + 5) (some (.inl (P.2.1 2, 48, .inl (upd gu q (nI 0)))))) s H locs := hI
  obtain ⟨f114, ef114⟩ : ∃ z, z = va_up f112 (b + 5) (some (.inl (P.2.1 2, 48, .inl (upd gu q (nI 0))))) := ⟨_, rfl⟩
  rw [← ef114] at hI
  have h115 : f114 b = some (.inr (7, [.ref (b + 1), .int (nI tl), .ref (b + 2), .ref (b + 3), .ref (b + 4), .ref (b + 5), .ref (b + 6), .ref (b + 7), .ref (b + 8), .ref (b + 9), .ref (b + 10), .ref (b + 11), .int (nI (L.length - 1)), .int (nI tot), .int (nI op), .ref (b + 12), .int (nI td)])) := by rw [ef114, va_up_ne _ _ (by omega)]; exact k0
  have h116 : f114 (b + 4) = some (.inl (P.2.1 1, 48, .inl g4)) := by rw [ef114, va_up_ne _ _ (by omega)]; exact k4
  have h117 : f114 (b + 9) = some (.inl (P.2.1 1, 48, .inl gz)) := by rw [ef114, va_up_ne _ _ (by omega)]; exact m9
  have h118 : f114 (b + 5) = some (.inl (P.2.1 2, 48, .inl (upd gu q (nI 0)))) := by rw [ef114]; exact va_up_self _ _ _
  have hF : gFr f f114 [b, b + 4, b + 5] := by rw [ef114]; exact gFr.upA (by simp) hF
  refine lv_aload_n S.1 S.2.1 d_Mdl_gone_12 rfl (lv_at hl 0 rfl) ?_
  refine lv_dup S.1 S.2.1 d_Mdl_gone_13 rfl ?_
  refine gh_get S hI h115 rfl i_Mdl 13 (by decide) wi_448 rfl d_Mdl_gone_14 ?_
  refine lv_aload_n S.1 S.2.1 d_Mdl_gone_17 rfl (lv_at hl 0 rfl) ?_
  refine gh_get S hI h115 rfl i_Mdl 9 (by decide) wi_444 rfl d_Mdl_gone_18 ?_
  refine lv_iload_n S.1 S.2.1 d_Mdl_gone_21 rfl (lv_at hl 1 rfl) ?_
  refine gh_iald (j := q) S hI 1 h117 rfl rfl (by omega) (by omega) d_Mdl_gone_22 ?_
  refine lv_topi (fun v119 ev119 => ?_)
  replace ev119 : v119 = nI sz := ev119.trans (hz)
  subst ev119
  refine lv_isub S.1 S.2.1 d_Mdl_gone_23 ?_
  refine lv_topi (fun v120 ev120 => ?_)
  replace ev120 : v120 = nI (tot - sz) := ev120.trans (pk_sub (by omega))
  subst ev120
  refine gh_put S hI h115 rfl i_Mdl t_Mdl tk_Mdl n_Mdl 13 (by decide) wi_448 rfl rfl rfl (Nat.le_of_ble_eq_true rfl) d_Mdl_gone_24 (fun H locs hI => ?_)
  have hI : gB P (va_up f114 b (some (.inr (7, [.ref (b + 1), .int (nI tl), .ref (b + 2), .ref (b + 3), .ref (b + 4), .ref (b + 5), .ref (b + 6), .ref (b + 7), .ref (b + 8), .ref (b + 9), .ref (b + 10), .ref (b + 11), .int (nI (L.length - 1)), .int (nI (tot - sz)), .int (nI op), .ref (b + 12), .int (nI td)])))) s H locs := hI
  obtain ⟨f121, ef121⟩ : ∃ z, z = va_up f114 b (some (.inr (7, [.ref (b + 1), .int (nI tl), .ref (b + 2), .ref (b + 3), .ref (b + 4), .ref (b + 5), .ref (b + 6), .ref (b + 7), .ref (b + 8), .ref (b + 9), .ref (b + 10), .ref (b + 11), .int (nI (L.length - 1)), .int (nI (tot - sz)), .int (nI op), .ref (b + 12), .int (nI td)]))) := ⟨_, rfl⟩
  rw [← ef121] at hI
  have h122 : f121 (b + 4) = some (.inl (P.2.1 1, 48, .inl g4)) := by rw [ef121, va_up_ne _ _ (by omega)]; exact h116
  have h123 : f121 (b + 9) = some (.inl (P.2.1 1, 48, .inl gz)) := by rw [ef121, va_up_ne _ _ (by omega)]; exact h117
  have h124 : f121 (b + 5) = some (.inl (P.2.1 2, 48, .inl (upd gu q (nI 0)))) := by rw [ef121, va_up_ne _ _ (by omega)]; exact h118
  have h125 : f121 b = some (.inr (7, [.ref (b + 1), .int (nI tl), .ref (b + 2), .ref (b + 3), .ref (b + 4), .ref (b + 5), .ref (b + 6), .ref (b + 7), .ref (b + 8), .ref (b + 9), .ref (b + 10), .ref (b + 11), .int (nI (L.length - 1)), .int (nI (tot - sz)), .int (nI op), .ref (b + 12), .int (nI td)])) := by rw [ef121]; exact va_up_self _ _ _
  have hF : gFr f f121 [b, b + 4, b + 5] := by rw [ef121]; exact gFr.upA (by simp) hF
  refine lv_aload_n S.1 S.2.1 d_Mdl_gone_27 rfl (lv_at hl 0 rfl) ?_
  refine gh_get S hI h125 rfl i_Mdl 9 (by decide) wi_444 rfl d_Mdl_gone_28 ?_
  refine lv_iload_n S.1 S.2.1 d_Mdl_gone_31 rfl (lv_at hl 1 rfl) ?_
  refine gh_iald (j := q) S hI 1 h123 rfl rfl (by omega) (by omega) d_Mdl_gone_32 ?_
  refine lv_topi (fun v126 ev126 => ?_)
  replace ev126 : v126 = nI sz := ev126.trans (hz)
  subst ev126
  exact gr_i S hr hlk hI (⟨rfl, g4, h125, h122, h124, kO, hF⟩) d_Mdl_gone_33
