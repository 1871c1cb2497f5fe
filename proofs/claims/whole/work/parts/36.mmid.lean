theorem mOr_er {go g1 : Nat → Int32} {L : List Nat} {k : Nat} (hO : mOr go L) (h : ∀ j, g1 j = if k ≤ j ∧ j + 1 < L.length then go (j + 1) else go j) : mOr g1 (L.eraseIdx k) := by
  intro i q hq
  rw [List.getElem?_eraseIdx] at hq
  rw [h i]
  by_cases c : i < k
  · rw [if_pos c] at hq
    rw [if_neg (by omega)]; exact hO i q hq
  · rw [if_neg c] at hq
    rw [if_pos ⟨by omega, (List.getElem?_eq_some_iff.mp hq).1⟩]; exact hO _ q hq
theorem nodup_inj {L : List Nat} (h : L.Nodup) {i j x : Nat} (h1 : L[i]? = some x) (h2 : L[j]? = some x) : i = j := by
  obtain ⟨a1, a2⟩ := List.getElem?_eq_some_iff.mp h1
  obtain ⟨b1, b2⟩ := List.getElem?_eq_some_iff.mp h2
  exact (List.getElem_inj h).mp (a2.trans b2.symm)
set_option maxHeartbeats 4000000 in
set_option maxRecDepth 100000 in
theorem c_Mdl_leave (l : Launch) (P : gPar) (f : gM) {b tl tot op td : Nat} {go : Nat → Int32} {q k : Nat} {L : List Nat} (hb : f b = some (.inr (7, [.ref (b + 1), .int (nI tl), .ref (b + 2), .ref (b + 3), .ref (b + 4), .ref (b + 5), .ref (b + 6), .ref (b + 7), .ref (b + 8), .ref (b + 9), .ref (b + 10), .ref (b + 11), .int (nI L.length), .int (nI tot), .int (nI op), .ref (b + 12), .int (nI td)]))) (h4 : f (b + 4) = some (.inl (P.2.1 1, 48, .inl go))) (hO : mOr go L) (hk : L[k]? = some q) (hnd : L.Nodup) (h48 : ∀ q ∈ L, q < 48) (hlL : L.length ≤ 48) : gC l P y_Mdl_leave b_Mdl_leave 4 none 0 0 0 [.ref b, .int (nI q)] f (gQv P (fun f1 => ∃ g1, f1 b = some (.inr (7, [.ref (b + 1), .int (nI tl), .ref (b + 2), .ref (b + 3), .ref (b + 4), .ref (b + 5), .ref (b + 6), .ref (b + 7), .ref (b + 8), .ref (b + 9), .ref (b + 10), .ref (b + 11), .int (nI (L.length - 1)), .int (nI tot), .int (nI op), .ref (b + 12), .int (nI td)])) ∧ f1 (b + 4) = some (.inl (P.2.1 1, 48, .inl g1)) ∧ mOr g1 (L.eraseIdx k) ∧ gFr f f1 [b, b + 4])) := by
  refine gC_of (by decide) (Nat.le_of_ble_eq_true rfl) (fun p env s m args below meth c S hr hlk hnm H locs hI ls hl => ?_)
  have hl : lv_has ls 4 [(0, .ref b), (1, .int (nI q))] := hl
  have hkL := (List.getElem?_eq_some_iff.mp hk).1
  refine lv_iconst (v := nI 0) S.1 S.2.1 d_Mdl_leave_0 (by decide) ?_
  refine lv_istore_n (lv' := [(2, .int (nI 0)), (0, .ref b), (1, .int (nI q))]) S.1 S.2.1 d_Mdl_leave_1 rfl hl (by decide) rfl (fun ls hl => ?_)
  refine lv_iconst (v := nI 0) S.1 S.2.1 d_Mdl_leave_2 (by decide) ?_
  refine lv_istore_n (lv' := [(3, .int (nI 0)), (2, .int (nI 0)), (0, .ref b), (1, .int (nI q))]) S.1 S.2.1 d_Mdl_leave_3 rfl hl (by decide) rfl (fun ls hl => ?_)
  have loop : ∀ (u i at_ : Nat) (fj : gM) (g : Nat → Int32), i ≤ L.length → L.length - i < u → at_ = (if i ≤ k then i else i - 1) → fj (b + 4) = some (.inl (P.2.1 1, 48, .inl g)) → gFr f fj [b + 4] → (∀ j, g j = if k ≤ j ∧ j + 1 < i then go (j + 1) else go j) → ∀ (H : Heap) (locs : List Loc), gB P fj s H locs → ∀ ls : Array Slot, lv_has ls 4 [(0, .ref b), (1, .int (nI q)), (2, .int (nI at_)), (3, .int (nI i))] → W p l env (grm 0 0 0) s m args below meth c H locs 0 0 (MQ below (gQv P (fun f1 => ∃ g1, f1 b = some (.inr (7, [.ref (b + 1), .int (nI tl), .ref (b + 2), .ref (b + 3), .ref (b + 4), .ref (b + 5), .ref (b + 6), .ref (b + 7), .ref (b + 8), .ref (b + 9), .ref (b + 10), .ref (b + 11), .int (nI (L.length - 1)), .int (nI tot), .int (nI op), .ref (b + 12), .int (nI td)])) ∧ f1 (b + 4) = some (.inl (P.2.1 1, 48, .inl g1)) ∧ mOr g1 (L.eraseIdx k) ∧ gFr f f1 [b, b + 4])) args s 0 0 (gA P)) (F0 m 4 ls []) := by
    intro u
    induction u with
    | zero => intro i at_ fj g h9 h8; exact absurd h8 (by omega)
    | succ u ih =>
      intro i at_ fj g hi1 h8 hat hj4 hF hg H locs hI ls hl
      have hat2 : at_ ≤ i := by rw [hat]; split <;> omega
      have hjb := hF b _ hb (nm1 (by omega))
      refine lv_iload_n S.1 S.2.1 d_Mdl_leave_4 rfl (lv_at hl 3 rfl) ?_
      refine lv_aload_n S.1 S.2.1 d_Mdl_leave_5 rfl (lv_at hl 0 rfl) ?_
      refine gh_get S hI hjb rfl i_Mdl 12 (by decide) wi_447 rfl d_Mdl_leave_6 ?_
      refine lv_icmp_ge (tgt := 46) S.1 S.2.1 d_Mdl_leave_9 (by decide) (fun c77 => ?_) (fun c77 => ?_)
      · skip
        replace c77 : L.length ≤ i := (nI_leI (a := L.length) (b := i) (by omega) (by omega)).mp c77
        have hF : gFr f fj [b, b + 4] := hF.mono (fun q hq => List.mem_cons_of_mem _ hq)
        have e9 : at_ = L.length - 1 := by rw [hat, if_neg (by omega)]; omega
        rw [e9] at hl
        refine lv_aload_n S.1 S.2.1 d_Mdl_leave_46 rfl (lv_at hl 0 rfl) ?_
        refine lv_iload_n S.1 S.2.1 d_Mdl_leave_47 rfl (lv_at hl 2 rfl) ?_
        refine gh_put S hI hjb rfl i_Mdl t_Mdl tk_Mdl n_Mdl 12 (by decide) wi_447 rfl rfl rfl (Nat.le_of_ble_eq_true rfl) d_Mdl_leave_48 (fun H locs hI => ?_)
        have hI : gB P (va_up fj b (some (.inr (7, [.ref (b + 1), .int (nI tl), .ref (b + 2), .ref (b + 3), .ref (b + 4), .ref (b + 5), .ref (b + 6), .ref (b + 7), .ref (b + 8), .ref (b + 9), .ref (b + 10), .ref (b + 11), .int (nI (L.length - 1)), .int (nI tot), .int (nI op), .ref (b + 12), .int (nI td)])))) s H locs := hI
        obtain ⟨f78, ef78⟩ : ∃ z, z = va_up fj b (some (.inr (7, [.ref (b + 1), .int (nI tl), .ref (b + 2), .ref (b + 3), .ref (b + 4), .ref (b + 5), .ref (b + 6), .ref (b + 7), .ref (b + 8), .ref (b + 9), .ref (b + 10), .ref (b + 11), .int (nI (L.length - 1)), .int (nI tot), .int (nI op), .ref (b + 12), .int (nI td)]))) := ⟨_, rfl⟩
        rw [← ef78] at hI
        have h79 : f78 (b + 4) = some (.inl (P.2.1 1, 48, .inl g)) := by rw [ef78, va_up_ne _ _ (by omega)]; exact hj4
        have h80 : f78 b = some (.inr (7, [.ref (b + 1), .int (nI tl), .ref (b + 2), .ref (b + 3), .ref (b + 4), .ref (b + 5), .ref (b + 6), .ref (b + 7), .ref (b + 8), .ref (b + 9), .ref (b + 10), .ref (b + 11), .int (nI (L.length - 1)), .int (nI tot), .int (nI op), .ref (b + 12), .int (nI td)])) := by rw [ef78]; exact va_up_self _ _ _
        have hF : gFr f f78 [b, b + 4] := by rw [ef78]; exact gFr.upA (by simp) hF
        exact gr_v S hr hlk hI (⟨g, h80, h79, mOr_er hO (fun j => by rw [hg j, show i = L.length by omega]), hF⟩) d_Mdl_leave_51
      · skip
        replace c77 : ¬ L.length ≤ i := fun z => c77 ((nI_leI (a := L.length) (b := i) (by omega) (by omega)).mpr z)
        obtain ⟨qi, hqi⟩ : ∃ q, L[i]? = some q := ⟨_, List.getElem?_eq_getElem (by omega)⟩
        have hq4 := h48 qi (List.mem_of_getElem? hqi)
        have hgi : g i = nI qi := by rw [hg i, if_neg (by omega)]; exact hO i qi hqi
        refine lv_aload_n S.1 S.2.1 d_Mdl_leave_12 rfl (lv_at hl 0 rfl) ?_
        refine gh_get S hI hjb rfl i_Mdl 4 (by decide) wi_439 rfl d_Mdl_leave_13 ?_
        refine lv_iload_n S.1 S.2.1 d_Mdl_leave_16 rfl (lv_at hl 3 rfl) ?_
        refine gh_iald (j := i) S hI 1 hj4 rfl rfl (by omega) (by omega) d_Mdl_leave_17 ?_
        refine lv_topi (fun v81 ev81 => ?_)
        replace ev81 : v81 = nI qi := ev81.trans (hgi)
        subst ev81
        refine lv_iload_n S.1 S.2.1 d_Mdl_leave_18 rfl (lv_at hl 1 rfl) ?_
        have hq8 := h48 q (List.mem_of_getElem? hk)
        refine lv_icmp_ne (tgt := 25) S.1 S.2.1 d_Mdl_leave_19 (by decide) (fun c82 => ?_) (fun c82 => ?_)
        · skip
          replace c82 : ¬ qi = q := fun z => c82 ((nI_eq (a := qi) (b := q) (by omega) (by omega)).mpr z)
          have hik : i ≠ k := fun z => c82 (by rw [z] at hqi; rw [hk] at hqi; injection hqi with hqi; exact hqi.symm)
          refine lv_aload_n S.1 S.2.1 d_Mdl_leave_25 rfl (lv_at hl 0 rfl) ?_
          refine gh_get S hI hjb rfl i_Mdl 4 (by decide) wi_439 rfl d_Mdl_leave_26 ?_
          refine lv_iload_n S.1 S.2.1 d_Mdl_leave_29 rfl (lv_at hl 2 rfl) ?_
          refine lv_aload_n S.1 S.2.1 d_Mdl_leave_30 rfl (lv_at hl 0 rfl) ?_
          refine gh_get S hI hjb rfl i_Mdl 4 (by decide) wi_439 rfl d_Mdl_leave_31 ?_
          refine lv_iload_n S.1 S.2.1 d_Mdl_leave_34 rfl (lv_at hl 3 rfl) ?_
          refine gh_iald (j := i) S hI 1 hj4 rfl rfl (by omega) (by omega) d_Mdl_leave_35 ?_
          refine gh_iast (j := at_) S hI 1 hj4 rfl rfl (by omega) (by omega) d_Mdl_leave_36 (fun H locs hI => ?_)
          have hI : gB P (va_up fj (b + 4) (some (.inl (P.2.1 1, 48, .inl (upd g at_ (g i)))))) s H locs := hI
          obtain ⟨f83, ef83⟩ : ∃ z, z = va_up fj (b + 4) (some (.inl (P.2.1 1, 48, .inl (upd g at_ (g i))))) := ⟨_, rfl⟩
          rw [← ef83] at hI
          have h84 : f83 b = some (.inr (7, [.ref (b + 1), .int (nI tl), .ref (b + 2), .ref (b + 3), .ref (b + 4), .ref (b + 5), .ref (b + 6), .ref (b + 7), .ref (b + 8), .ref (b + 9), .ref (b + 10), .ref (b + 11), .int (nI L.length), .int (nI tot), .int (nI op), .ref (b + 12), .int (nI td)])) := by rw [ef83, va_up_ne _ _ (by omega)]; exact hjb
          have h85 : f83 (b + 4) = some (.inl (P.2.1 1, 48, .inl (upd g at_ (g i)))) := by rw [ef83]; exact va_up_self _ _ _
          have hF : gFr f f83 [b + 4] := by rw [ef83]; exact gFr.upA (by simp) hF
          refine lv_iinc (v := nI (at_ + 1)) (lv' := [(2, .int (nI (at_ + 1))), (0, .ref b), (1, .int (nI q)), (3, .int (nI i))]) S.1 S.2.1 d_Mdl_leave_37 hl (k := 2) rfl (nI_add _ _) (by decide) rfl (fun ls hl => ?_)
          refine lv_iinc (v := nI (i + 1)) (lv' := [(3, .int (nI (i + 1))), (2, .int (nI (at_ + 1))), (0, .ref b), (1, .int (nI q))]) S.1 S.2.1 d_Mdl_leave_40 hl (k := 3) rfl (nI_add _ _) (by decide) rfl (fun ls hl => ?_)
          refine lv_goto (tgt := 4) S.1 S.2.1 d_Mdl_leave_43 (by decide) ?_
          exact ih (i + 1) (at_ + 1) _ _ (by omega) (by omega) (by rw [hat]; split <;> split <;> omega) h85 hF (fun j => by
            unfold upd
            by_cases hj : j = at_
            · rw [if_pos hj, hg i, if_neg (by omega), hj]
              by_cases hc : i ≤ k
              · rw [if_pos hc] at hat; rw [if_neg (by omega), hat]
              · rw [if_neg hc] at hat; rw [if_pos (by omega), hat, show i - 1 + 1 = i by omega]
            · rw [if_neg hj, hg j]
              by_cases hc : i ≤ k
              · rw [if_pos hc] at hat; rw [if_neg (by omega), if_neg (by omega)]
              · rw [if_neg hc] at hat
                by_cases hd : k ≤ j ∧ j + 1 < i
                · rw [if_pos hd, if_pos (by omega)]
                · rw [if_neg hd, if_neg (by omega)]) _ _ hI _ (lv_sub hl [2, 3, 1, 0] rfl)
        · skip
          replace c82 : qi = q := (nI_eq (a := qi) (b := q) (by omega) (by omega)).mp c82
          have hik : i = k := nodup_inj hnd (by rw [hqi, c82]) hk
          refine lv_goto (tgt := 40) S.1 S.2.1 d_Mdl_leave_22 (by decide) ?_
          refine lv_iinc (v := nI (i + 1)) (lv' := [(3, .int (nI (i + 1))), (0, .ref b), (1, .int (nI q)), (2, .int (nI at_))]) S.1 S.2.1 d_Mdl_leave_40 hl (k := 3) rfl (nI_add _ _) (by decide) rfl (fun ls hl => ?_)
          refine lv_goto (tgt := 4) S.1 S.2.1 d_Mdl_leave_43 (by decide) ?_
          exact ih (i + 1) at_ fj g (by omega) (by omega) (by rw [hat]; split <;> split <;> omega) hj4 hF (fun j => by
            rw [hg j, if_neg (by omega), if_neg (by omega)]) _ _ hI _ (lv_sub hl [1, 2, 3, 0] rfl)
  exact loop (L.length + 1) 0 0 f go (by omega) (by omega) (by simp) h4 gFr.rf (fun j => by rw [if_neg (by omega)]) _ _ hI _ (lv_sub hl [2, 3, 1, 0] rfl)
theorem mOr_ins {go g1 : Nat → Int32} {L : List Nat} {k q : Nat} (hO : mOr go L) (hk : k ≤ L.length) (h0 : ∀ j, j < k → g1 j = go j) (h1 : g1 k = nI q) (h2 : ∀ j, k < j → j ≤ L.length → g1 j = go (j - 1)) : mOr g1 (L.insertIdx k q) := by
  intro i x hx
  rw [List.getElem?_insertIdx] at hx
  by_cases c : i < k
  · rw [if_pos c] at hx; rw [h0 i c]; exact hO i x hx
  · rw [if_neg c] at hx
    by_cases c2 : i = k
    · rw [if_pos c2, if_pos (by omega)] at hx; injection hx with hx; rw [c2, h1, hx]
    · rw [if_neg c2] at hx
      have := (List.getElem?_eq_some_iff.mp hx).1
      rw [h2 i (by omega) (by omega)]; exact hO _ x hx
theorem mNk_new {g gl g1 gl1 : Nat → Int32} {k q : Nat} {nm : List Nat} (h : mNk g gl k nm) (hg : ∀ j, j < nm.length → ub (g1 (200 * q + j)) = ub (g (200 * k + j))) : mNk g1 (upd gl1 q (nI nm.length)) q nm := by
  obtain ⟨a1, a2, a3⟩ := h
  refine ⟨pk_us, a2, ?_⟩
  have : nmL nm.length (fun j => g1 (200 * q + j)) = nmL nm.length (fun j => g (200 * k + j)) := List.map_congr_left (fun j hj => hg j (List.mem_range.mp hj))
  rw [this]; exact a3
theorem mNk_set {g gl g1 : Nat → Int32} {k q : Nat} {n : Int32} {nm : List Nat} (h : mNk g gl k nm) (hne : k ≠ q) (hg : ∀ x, (x < 200 * q ∨ 200 * q + 200 ≤ x) → g1 x = g x) : mNk g1 (upd gl q n) k nm := by
  obtain ⟨a1, a2, a3⟩ := h
  refine ⟨by rw [pk_un hne]; exact a1, a2, ?_⟩
  have : nmL nm.length (fun j => g1 (200 * k + j)) = nmL nm.length (fun j => g (200 * k + j)) := nmL_congr (fun i hi => hg _ (by omega))
  rw [this]; exact a3
set_option maxHeartbeats 4000000 in
set_option maxRecDepth 100000 in
theorem c_Mdl_enter (l : Launch) (P : gPar) (f : gM) {b tl tot op td : Nat} {gn gl go gf gk : Nat → Int32} {q k : Nat} {L : List Nat} {af : Nat → AFile} {nm : List Nat} (hb : f b = some (.inr (7, [.ref (b + 1), .int (nI tl), .ref (b + 2), .ref (b + 3), .ref (b + 4), .ref (b + 5), .ref (b + 6), .ref (b + 7), .ref (b + 8), .ref (b + 9), .ref (b + 10), .ref (b + 11), .int (nI L.length), .int (nI tot), .int (nI op), .ref (b + 12), .int (nI td)]))) (h2 : f (b + 2) = some (.inl (P.2.1 0, 400, .inl gn))) (h3 : f (b + 3) = some (.inl (P.2.1 1, 2, .inl gl))) (h4 : f (b + 4) = some (.inl (P.2.1 1, 48, .inl go))) (h6 : f (b + 6) = some (.inl (P.2.1 0, 9600, .inl gf))) (h7 : f (b + 7) = some (.inl (P.2.1 1, 48, .inl gk))) (hO : mOr go L) (hN : ∀ q ∈ L, q < 48 ∧ mNk gf gk q (af q).1) (h48 : L.length < 48) (hq : q < 48) (hk : k < 2) (hnk : mNk gn gl k nm) (hs : srt (nms af L)) (hno : nm ∉ nms af L) : gC l P y_Mdl_enter b_Mdl_enter 5 none 1 0 0 [.ref b, .int (nI q), .int (nI k)] f (gQv P (fun f1 => ∃ g4 g6 g7, f1 b = some (.inr (7, [.ref (b + 1), .int (nI tl), .ref (b + 2), .ref (b + 3), .ref (b + 4), .ref (b + 5), .ref (b + 6), .ref (b + 7), .ref (b + 8), .ref (b + 9), .ref (b + 10), .ref (b + 11), .int (nI (L.length + 1)), .int (nI tot), .int (nI op), .ref (b + 12), .int (nI td)])) ∧ f1 (b + 4) = some (.inl (P.2.1 1, 48, .inl g4)) ∧ f1 (b + 6) = some (.inl (P.2.1 0, 9600, .inl g6)) ∧ f1 (b + 7) = some (.inl (P.2.1 1, 48, .inl g7)) ∧ mOr g4 (L.insertIdx (plc (nms af L) nm) q) ∧ mNk g6 g7 q nm ∧ (∀ k2 nm2, k2 ≠ q → mNk gf gk k2 nm2 → mNk g6 g7 k2 nm2) ∧ gFr f f1 [b, b + 4, b + 6, b + 7])) := by
  refine gC_of (by decide) (Nat.le_of_ble_eq_true rfl) (fun p env s m args below meth c S hr hlk hnm H locs hI ls hl => ?_)
  have hl : lv_has ls 5 [(0, .ref b), (1, .int (nI q)), (2, .int (nI k))] := hl
  obtain ⟨k1, k2, k3⟩ := id hnk
  have hlN : (nms af L).length = L.length := by simp [nms]
  have loop2 : ∀ (u i : Nat) (fj : gM) (g4 g6 : Nat → Int32), i ≤ nm.length → nm.length - i < u → fj b = some (.inr (7, [.ref (b + 1), .int (nI tl), .ref (b + 2), .ref (b + 3), .ref (b + 4), .ref (b + 5), .ref (b + 6), .ref (b + 7), .ref (b + 8), .ref (b + 9), .ref (b + 10), .ref (b + 11), .int (nI (L.length + 1)), .int (nI tot), .int (nI op), .ref (b + 12), .int (nI td)])) → fj (b + 4) = some (.inl (P.2.1 1, 48, .inl g4)) → fj (b + 6) = some (.inl (P.2.1 0, 9600, .inl g6)) → gFr f fj [b, b + 4, b + 6] → mOr g4 (L.insertIdx (plc (nms af L) nm) q) → (∀ j, j < i → ub (g6 (200 * q + j)) = ub (gn (200 * k + j))) → (∀ x, (x < 200 * q ∨ 200 * q + 200 ≤ x) → g6 x = gf x) → ∀ (H : Heap) (locs : List Loc), gB P fj s H locs → ∀ ls : Array Slot, lv_has ls 5 [(0, .ref b), (1, .int (nI q)), (2, .int (nI k)), (4, .int (nI i))] → W p l env (grm 1 0 0) s m args below meth c H locs 0 0 (MQ below (gQv P (fun f1 => ∃ g4 g6 g7, f1 b = some (.inr (7, [.ref (b + 1), .int (nI tl), .ref (b + 2), .ref (b + 3), .ref (b + 4), .ref (b + 5), .ref (b + 6), .ref (b + 7), .ref (b + 8), .ref (b + 9), .ref (b + 10), .ref (b + 11), .int (nI (L.length + 1)), .int (nI tot), .int (nI op), .ref (b + 12), .int (nI td)])) ∧ f1 (b + 4) = some (.inl (P.2.1 1, 48, .inl g4)) ∧ f1 (b + 6) = some (.inl (P.2.1 0, 9600, .inl g6)) ∧ f1 (b + 7) = some (.inl (P.2.1 1, 48, .inl g7)) ∧ mOr g4 (L.insertIdx (plc (nms af L) nm) q) ∧ mNk g6 g7 q nm ∧ (∀ k2 nm2, k2 ≠ q → mNk gf gk k2 nm2 → mNk g6 g7 k2 nm2) ∧ gFr f f1 [b, b + 4, b + 6, b + 7])) args s 0 0 (gA P)) (F0 m 65 ls []) := by
    intro u
    induction u with
    | zero => intro i fj g4 g6 h9 h8; exact absurd h8 (by omega)
    | succ u ih =>
      intro i fj g4 g6 hi1 h8 jb j4 j6 hF hO4 hlo hout H locs hI ls hl
      have j2 := hF (b + 2) _ h2 (nm3 (by omega) (by omega) (by omega))
      have j3 := hF (b + 3) _ h3 (nm3 (by omega) (by omega) (by omega))
      have j7 := hF (b + 7) _ h7 (nm3 (by omega) (by omega) (by omega))
      refine lv_iload S.1 S.2.1 d_Mdl_enter_65 (lv_at hl 3 rfl) ?_
      refine lv_aload_n S.1 S.2.1 d_Mdl_enter_67 rfl (lv_at hl 0 rfl) ?_
      refine gh_get S hI jb rfl i_Mdl 3 (by decide) wi_438 rfl d_Mdl_enter_68 ?_
      refine lv_iload_n S.1 S.2.1 d_Mdl_enter_71 rfl (lv_at hl 2 rfl) ?_
      refine gh_iald (j := k) S hI 1 j3 rfl rfl (by omega) (by omega) d_Mdl_enter_72 ?_
      refine lv_topi (fun v86 ev86 => ?_)
      replace ev86 : v86 = nI nm.length := ev86.trans (k1)
      subst ev86
      refine lv_icmp_ge (tgt := 108) S.1 S.2.1 d_Mdl_enter_73 (by decide) (fun c87 => ?_) (fun c87 => ?_)
      · skip
        replace c87 : nm.length ≤ i := (nI_leI (a := nm.length) (b := i) (by omega) (by omega)).mp c87
        have hF : gFr f fj [b, b + 4, b + 6, b + 7] := hF.mono (by intro q hq; simp at hq ⊢; omega)
        refine lv_aload_n S.1 S.2.1 d_Mdl_enter_108 rfl (lv_at hl 0 rfl) ?_
        refine gh_get S hI jb rfl i_Mdl 7 (by decide) wi_442 rfl d_Mdl_enter_109 ?_
        refine lv_iload_n S.1 S.2.1 d_Mdl_enter_112 rfl (lv_at hl 1 rfl) ?_
        refine lv_aload_n S.1 S.2.1 d_Mdl_enter_113 rfl (lv_at hl 0 rfl) ?_
        refine gh_get S hI jb rfl i_Mdl 3 (by decide) wi_438 rfl d_Mdl_enter_114 ?_
        refine lv_iload_n S.1 S.2.1 d_Mdl_enter_117 rfl (lv_at hl 2 rfl) ?_
        refine gh_iald (j := k) S hI 1 j3 rfl rfl (by omega) (by omega) d_Mdl_enter_118 ?_
        refine lv_topi (fun v88 ev88 => ?_)
        replace ev88 : v88 = nI nm.length := ev88.trans (k1)
        subst ev88
        refine gh_iast (j := q) S hI 1 j7 rfl rfl (by omega) (by omega) d_Mdl_enter_119 (fun H locs hI => ?_)
        have hI : gB P (va_up fj (b + 7) (some (.inl (P.2.1 1, 48, .inl (upd gk q (nI nm.length)))))) s H locs := hI
        obtain ⟨f89, ef89⟩ : ∃ z, z = va_up fj (b + 7) (some (.inl (P.2.1 1, 48, .inl (upd gk q (nI nm.length))))) := ⟨_, rfl⟩
        rw [← ef89] at hI
        have h90 : f89 b = some (.inr (7, [.ref (b + 1), .int (nI tl), .ref (b + 2), .ref (b + 3), .ref (b + 4), .ref (b + 5), .ref (b + 6), .ref (b + 7), .ref (b + 8), .ref (b + 9), .ref (b + 10), .ref (b + 11), .int (nI (L.length + 1)), .int (nI tot), .int (nI op), .ref (b + 12), .int (nI td)])) := by rw [ef89, va_up_ne _ _ (by omega)]; exact jb
        have h91 : f89 (b + 4) = some (.inl (P.2.1 1, 48, .inl g4)) := by rw [ef89, va_up_ne _ _ (by omega)]; exact j4
        have h92 : f89 (b + 6) = some (.inl (P.2.1 0, 9600, .inl g6)) := by rw [ef89, va_up_ne _ _ (by omega)]; exact j6
        have h93 : f89 (b + 2) = some (.inl (P.2.1 0, 400, .inl gn)) := by rw [ef89, va_up_ne _ _ (by omega)]; exact j2
        have h94 : f89 (b + 3) = some (.inl (P.2.1 1, 2, .inl gl)) := by rw [ef89, va_up_ne _ _ (by omega)]; exact j3
        have h95 : f89 (b + 7) = some (.inl (P.2.1 1, 48, .inl (upd gk q (nI nm.length)))) := by rw [ef89]; exact va_up_self _ _ _
        have hF : gFr f f89 [b, b + 4, b + 6, b + 7] := by rw [ef89]; exact gFr.upA (by simp) hF
        exact gr_v S hr hlk hI (⟨g4, g6, upd gk q (nI nm.length), h90, h91, h92, h95, hO4, mNk_new hnk (fun j hj => hlo j (by omega)), fun k2 nm2 hne hm => mNk_set hm hne hout, hF⟩) d_Mdl_enter_120
      · skip
        replace c87 : ¬ nm.length ≤ i := fun z => c87 ((nI_leI (a := nm.length) (b := i) (by omega) (by omega)).mpr z)
        refine lv_aload_n S.1 S.2.1 d_Mdl_enter_76 rfl (lv_at hl 0 rfl) ?_
        refine gh_get S hI jb rfl i_Mdl 6 (by decide) wi_441 rfl d_Mdl_enter_77 ?_
        refine lv_sipush (v := nI 200) S.1 S.2.1 d_Mdl_enter_80 (by decide) ?_
        refine lv_iload_n S.1 S.2.1 d_Mdl_enter_83 rfl (lv_at hl 1 rfl) ?_
        refine lv_imul S.1 S.2.1 d_Mdl_enter_84 ?_
        refine lv_topi (fun v96 ev96 => ?_)
        replace ev96 : v96 = nI (200 * q) := ev96.trans (pk_mul _ _)
        subst ev96
        refine lv_iload S.1 S.2.1 d_Mdl_enter_85 (lv_at hl 3 rfl) ?_
        refine lv_iadd S.1 S.2.1 d_Mdl_enter_87 ?_
        refine lv_topi (fun v97 ev97 => ?_)
        replace ev97 : v97 = nI ((200 * q) + i) := ev97.trans (nI_add _ _)
        subst ev97
        refine lv_aload_n S.1 S.2.1 d_Mdl_enter_88 rfl (lv_at hl 0 rfl) ?_
        refine gh_get S hI jb rfl i_Mdl 2 (by decide) wi_437 rfl d_Mdl_enter_89 ?_
        refine lv_sipush (v := nI 200) S.1 S.2.1 d_Mdl_enter_92 (by decide) ?_
        refine lv_iload_n S.1 S.2.1 d_Mdl_enter_95 rfl (lv_at hl 2 rfl) ?_
        refine lv_imul S.1 S.2.1 d_Mdl_enter_96 ?_
        refine lv_topi (fun v98 ev98 => ?_)
        replace ev98 : v98 = nI (200 * k) := ev98.trans (pk_mul _ _)
        subst ev98
        refine lv_iload S.1 S.2.1 d_Mdl_enter_97 (lv_at hl 3 rfl) ?_
        refine lv_iadd S.1 S.2.1 d_Mdl_enter_99 ?_
        refine lv_topi (fun v99 ev99 => ?_)
        replace ev99 : v99 = nI ((200 * k) + i) := ev99.trans (nI_add _ _)
        subst ev99
        refine gh_bald (j := (200 * k) + i) S hI 0 j2 rfl rfl (by omega) (by omega) d_Mdl_enter_100 ?_
        refine gh_bast (j := (200 * q) + i) S hI 0 j6 rfl rfl (by omega) (by omega) d_Mdl_enter_101 (fun H locs hI => ?_)
        have hI : gB P (va_up fj (b + 6) (some (.inl (P.2.1 0, 9600, .inl (upd g6 ((200 * q) + i) (Int8.toInt32 (Int32.toInt8 (gn ((200 * k) + i))))))))) s H locs := hI
        obtain ⟨f100, ef100⟩ : ∃ z, z = va_up fj (b + 6) (some (.inl (P.2.1 0, 9600, .inl (upd g6 ((200 * q) + i) (Int8.toInt32 (Int32.toInt8 (gn ((200 * k) + i)))))))) := ⟨_, rfl⟩
        rw [← ef100] at hI
        have h101 : f100 b = some (.inr (7, [.ref (b + 1), .int (nI tl), .ref (b + 2), .ref (b + 3), .ref (b + 4), .ref (b + 5), .ref (b + 6), .ref (b + 7), .ref (b + 8), .ref (b + 9), .ref (b + 10), .ref (b + 11), .int (nI (L.length + 1)), .int (nI tot), .int (nI op), .ref (b + 12), .int (nI td)])) := by rw [ef100, va_up_ne _ _ (by omega)]; exact jb
        have h102 : f100 (b + 4) = some (.inl (P.2.1 1, 48, .inl g4)) := by rw [ef100, va_up_ne _ _ (by omega)]; exact j4
        have h103 : f100 (b + 2) = some (.inl (P.2.1 0, 400, .inl gn)) := by rw [ef100, va_up_ne _ _ (by omega)]; exact j2
        have h104 : f100 (b + 3) = some (.inl (P.2.1 1, 2, .inl gl)) := by rw [ef100, va_up_ne _ _ (by omega)]; exact j3
        have h105 : f100 (b + 7) = some (.inl (P.2.1 1, 48, .inl gk)) := by rw [ef100, va_up_ne _ _ (by omega)]; exact j7
        have h106 : f100 (b + 6) = some (.inl (P.2.1 0, 9600, .inl (upd g6 ((200 * q) + i) (Int8.toInt32 (Int32.toInt8 (gn ((200 * k) + i))))))) := by rw [ef100]; exact va_up_self _ _ _
        have hF : gFr f f100 [b, b + 4, b + 6] := by rw [ef100]; exact gFr.upA (by simp) hF
        refine lv_iinc (v := nI (i + 1)) (lv' := [(4, .int (nI (i + 1))), (0, .ref b), (1, .int (nI q)), (2, .int (nI k))]) S.1 S.2.1 d_Mdl_enter_102 hl (k := 3) rfl (nI_add _ _) (by decide) rfl (fun ls hl => ?_)
        refine lv_goto (tgt := 65) S.1 S.2.1 d_Mdl_enter_105 (by decide) ?_
        exact ih (i + 1) _ g4 _ (by omega) (by omega) h101 h102 h106 hF hO4 (fun j hj => by
          unfold upd
          by_cases hc : j = i
          · rw [if_pos (by omega), hc, ub_nb]
          · rw [if_neg (by omega)]; exact hlo j (by omega)) (fun x hx => by unfold upd; rw [if_neg (by omega)]; exact hout x hx) _ _ hI _ (lv_sub hl [1, 2, 3, 0] rfl)
  refine lv_aload_n S.1 S.2.1 d_Mdl_enter_0 rfl (lv_at hl 0 rfl) ?_
  refine gh_get S hI hb rfl i_Mdl 12 (by decide) wi_447 rfl d_Mdl_enter_1 ?_
  refine lv_istore_n (lv' := [(3, .int (nI L.length)), (0, .ref b), (1, .int (nI q)), (2, .int (nI k))]) S.1 S.2.1 d_Mdl_enter_4 rfl hl (by decide) rfl (fun ls hl => ?_)
  have loop : ∀ (u at_ : Nat) (fj : gM) (g : Nat → Int32), at_ ≤ L.length → at_ < u → fj (b + 4) = some (.inl (P.2.1 1, 48, .inl g)) → gFr f fj [b + 4] → (∀ j, j < at_ → g j = go j) → (∀ j, at_ < j → j ≤ L.length → g j = go (j - 1)) → (∀ j x, at_ ≤ j → (nms af L)[j]? = some x → nlt nm x) → ∀ (H : Heap) (locs : List Loc), gB P fj s H locs → ∀ ls : Array Slot, lv_has ls 5 [(0, .ref b), (1, .int (nI q)), (2, .int (nI k)), (3, .int (nI at_))] → W p l env (grm 1 0 0) s m args below meth c H locs 0 0 (MQ below (gQv P (fun f1 => ∃ g4 g6 g7, f1 b = some (.inr (7, [.ref (b + 1), .int (nI tl), .ref (b + 2), .ref (b + 3), .ref (b + 4), .ref (b + 5), .ref (b + 6), .ref (b + 7), .ref (b + 8), .ref (b + 9), .ref (b + 10), .ref (b + 11), .int (nI (L.length + 1)), .int (nI tot), .int (nI op), .ref (b + 12), .int (nI td)])) ∧ f1 (b + 4) = some (.inl (P.2.1 1, 48, .inl g4)) ∧ f1 (b + 6) = some (.inl (P.2.1 0, 9600, .inl g6)) ∧ f1 (b + 7) = some (.inl (P.2.1 1, 48, .inl g7)) ∧ mOr g4 (L.insertIdx (plc (nms af L) nm) q) ∧ mNk g6 g7 q nm ∧ (∀ k2 nm2, k2 ≠ q → mNk gf gk k2 nm2 → mNk g6 g7 k2 nm2) ∧ gFr f f1 [b, b + 4, b + 6, b + 7])) args s 0 0 (gA P)) (F0 m 5 ls []) := by
    intro u
    induction u with
    | zero => intro at_ fj g h9 h8; exact absurd h8 (by omega)
    | succ u ih =>
      intro at_ fj g hi1 h8 j4 hF hlo hhi hnm2 H locs hI ls hl
      have jb := hF (b) _ hb (nm1 (by omega))
      have j2 := hF (b + 2) _ h2 (nm1 (by omega))
      have j3 := hF (b + 3) _ h3 (nm1 (by omega))
      have j6 := hF (b + 6) _ h6 (nm1 (by omega))
      have j7 := hF (b + 7) _ h7 (nm1 (by omega))
      refine lv_iload_n S.1 S.2.1 d_Mdl_enter_5 rfl (lv_at hl 3 rfl) ?_
      refine lv_if_le (tgt := 45) S.1 S.2.1 d_Mdl_enter_6 (by decide) (fun c107 => ?_) (fun c107 => ?_)
      · skip
        replace c107 : at_ ≤ 0 := (nI_leI (a := at_) (b := 0) (by omega) (by omega)).mp c107
        have hpl : plc (nms af L) nm = at_ := plc_at hs hno (by omega) hnm2 (fun x hx _ => absurd hx (by omega))
        have hF : gFr f fj [b, b + 4, b + 6] := hF.mono (by intro q hq; simp at hq ⊢; omega)
        refine lv_aload_n S.1 S.2.1 d_Mdl_enter_45 rfl (lv_at hl 0 rfl) ?_
        refine gh_get S hI jb rfl i_Mdl 4 (by decide) wi_439 rfl d_Mdl_enter_46 ?_
        refine lv_iload_n S.1 S.2.1 d_Mdl_enter_49 rfl (lv_at hl 3 rfl) ?_
        refine lv_iload_n S.1 S.2.1 d_Mdl_enter_50 rfl (lv_at hl 1 rfl) ?_
        refine gh_iast (j := at_) S hI 1 j4 rfl rfl (by omega) (by omega) d_Mdl_enter_51 (fun H locs hI => ?_)
        have hI : gB P (va_up fj (b + 4) (some (.inl (P.2.1 1, 48, .inl (upd g at_ (nI q)))))) s H locs := hI
        obtain ⟨f108, ef108⟩ : ∃ z, z = va_up fj (b + 4) (some (.inl (P.2.1 1, 48, .inl (upd g at_ (nI q))))) := ⟨_, rfl⟩
        rw [← ef108] at hI
        have h109 : f108 b = some (.inr (7, [.ref (b + 1), .int (nI tl), .ref (b + 2), .ref (b + 3), .ref (b + 4), .ref (b + 5), .ref (b + 6), .ref (b + 7), .ref (b + 8), .ref (b + 9), .ref (b + 10), .ref (b + 11), .int (nI L.length), .int (nI tot), .int (nI op), .ref (b + 12), .int (nI td)])) := by rw [ef108, va_up_ne _ _ (by omega)]; exact jb
        have h110 : f108 (b + 6) = some (.inl (P.2.1 0, 9600, .inl gf)) := by rw [ef108, va_up_ne _ _ (by omega)]; exact j6
        have h111 : f108 (b + 2) = some (.inl (P.2.1 0, 400, .inl gn)) := by rw [ef108, va_up_ne _ _ (by omega)]; exact j2
        have h112 : f108 (b + 3) = some (.inl (P.2.1 1, 2, .inl gl)) := by rw [ef108, va_up_ne _ _ (by omega)]; exact j3
        have h113 : f108 (b + 7) = some (.inl (P.2.1 1, 48, .inl gk)) := by rw [ef108, va_up_ne _ _ (by omega)]; exact j7
        have h114 : f108 (b + 4) = some (.inl (P.2.1 1, 48, .inl (upd g at_ (nI q)))) := by rw [ef108]; exact va_up_self _ _ _
        have hF : gFr f f108 [b, b + 4, b + 6] := by rw [ef108]; exact gFr.upA (by simp) hF
        refine lv_aload_n S.1 S.2.1 d_Mdl_enter_52 rfl (lv_at hl 0 rfl) ?_
        refine lv_dup S.1 S.2.1 d_Mdl_enter_53 rfl ?_
        refine gh_get S hI h109 rfl i_Mdl 12 (by decide) wi_447 rfl d_Mdl_enter_54 ?_
        refine lv_iconst (v := nI 1) S.1 S.2.1 d_Mdl_enter_57 (by decide) ?_
        refine lv_iadd S.1 S.2.1 d_Mdl_enter_58 ?_
        refine lv_topi (fun v115 ev115 => ?_)
        replace ev115 : v115 = nI (L.length + 1) := ev115.trans (nI_add _ _)
        subst ev115
        refine gh_put S hI h109 rfl i_Mdl t_Mdl tk_Mdl n_Mdl 12 (by decide) wi_447 rfl rfl rfl (Nat.le_of_ble_eq_true rfl) d_Mdl_enter_59 (fun H locs hI => ?_)
        have hI : gB P (va_up f108 b (some (.inr (7, [.ref (b + 1), .int (nI tl), .ref (b + 2), .ref (b + 3), .ref (b + 4), .ref (b + 5), .ref (b + 6), .ref (b + 7), .ref (b + 8), .ref (b + 9), .ref (b + 10), .ref (b + 11), .int (nI (L.length + 1)), .int (nI tot), .int (nI op), .ref (b + 12), .int (nI td)])))) s H locs := hI
        obtain ⟨f116, ef116⟩ : ∃ z, z = va_up f108 b (some (.inr (7, [.ref (b + 1), .int (nI tl), .ref (b + 2), .ref (b + 3), .ref (b + 4), .ref (b + 5), .ref (b + 6), .ref (b + 7), .ref (b + 8), .ref (b + 9), .ref (b + 10), .ref (b + 11), .int (nI (L.length + 1)), .int (nI tot), .int (nI op), .ref (b + 12), .int (nI td)]))) := ⟨_, rfl⟩
        rw [← ef116] at hI
        have h117 : f116 (b + 6) = some (.inl (P.2.1 0, 9600, .inl gf)) := by rw [ef116, va_up_ne _ _ (by omega)]; exact h110
        have h118 : f116 (b + 2) = some (.inl (P.2.1 0, 400, .inl gn)) := by rw [ef116, va_up_ne _ _ (by omega)]; exact h111
        have h119 : f116 (b + 3) = some (.inl (P.2.1 1, 2, .inl gl)) := by rw [ef116, va_up_ne _ _ (by omega)]; exact h112
        have h120 : f116 (b + 7) = some (.inl (P.2.1 1, 48, .inl gk)) := by rw [ef116, va_up_ne _ _ (by omega)]; exact h113
        have h121 : f116 (b + 4) = some (.inl (P.2.1 1, 48, .inl (upd g at_ (nI q)))) := by rw [ef116, va_up_ne _ _ (by omega)]; exact h114
        have h122 : f116 b = some (.inr (7, [.ref (b + 1), .int (nI tl), .ref (b + 2), .ref (b + 3), .ref (b + 4), .ref (b + 5), .ref (b + 6), .ref (b + 7), .ref (b + 8), .ref (b + 9), .ref (b + 10), .ref (b + 11), .int (nI (L.length + 1)), .int (nI tot), .int (nI op), .ref (b + 12), .int (nI td)])) := by rw [ef116]; exact va_up_self _ _ _
        have hF : gFr f f116 [b, b + 4, b + 6] := by rw [ef116]; exact gFr.upA (by simp) hF
        refine lv_iconst (v := nI 0) S.1 S.2.1 d_Mdl_enter_62 (by decide) ?_
        refine lv_istore (lv' := [(4, .int (nI 0)), (0, .ref b), (1, .int (nI q)), (2, .int (nI k)), (3, .int (nI at_))]) S.1 S.2.1 d_Mdl_enter_63 hl (by decide) rfl (fun ls hl => ?_)
        exact loop2 (nm.length + 1) 0 _ _ gf (by omega) (by omega) h122 h121 h117 hF (by rw [hpl]; exact mOr_ins hO hi1 (fun j hj => by rw [pk_un (by omega)]; exact hlo j hj) pk_us (fun j hj hj2 => by rw [pk_un (by omega)]; exact hhi j hj hj2)) (fun j hj => absurd hj (by omega)) (fun _ _ => rfl) _ _ hI _ (lv_sub hl [1, 2, 3, 0] rfl)
      · skip
        replace c107 : ¬ at_ ≤ 0 := fun z => c107 ((nI_leI (a := at_) (b := 0) (by omega) (by omega)).mpr z)
        obtain ⟨x, hx⟩ : ∃ x, L[at_ - 1]? = some x := ⟨_, List.getElem?_eq_getElem (by omega)⟩
        have hxL := List.mem_of_getElem? hx
        have hni : (nms af L)[at_ - 1]? = some (af x).1 := by rw [nms_get, hx]; rfl
        have hgx : g (at_ - 1) = nI x := by rw [hlo _ (by omega)]; exact hO _ x hx
        refine lv_aload_n S.1 S.2.1 d_Mdl_enter_9 rfl (lv_at hl 0 rfl) ?_
        refine lv_aload_n S.1 S.2.1 d_Mdl_enter_10 rfl (lv_at hl 0 rfl) ?_
        refine gh_get S hI jb rfl i_Mdl 4 (by decide) wi_439 rfl d_Mdl_enter_11 ?_
        refine lv_iload_n S.1 S.2.1 d_Mdl_enter_14 rfl (lv_at hl 3 rfl) ?_
        refine lv_iconst (v := nI 1) S.1 S.2.1 d_Mdl_enter_15 (by decide) ?_
        refine lv_isub S.1 S.2.1 d_Mdl_enter_16 ?_
        refine lv_topi (fun v123 ev123 => ?_)
        replace ev123 : v123 = nI (at_ - 1) := ev123.trans (pk_sub (by omega))
        subst ev123
        refine gh_iald (j := at_ - 1) S hI 1 j4 rfl rfl (by omega) (by omega) d_Mdl_enter_17 ?_
        refine lv_topi (fun v124 ev124 => ?_)
        replace ev124 : v124 = nI x := ev124.trans (hgx)
        subst ev124
        refine lv_iload_n S.1 S.2.1 d_Mdl_enter_18 rfl (lv_at hl 2 rfl) ?_
        refine gc_Vi S hI (c_Mdl_compare l P fj jb j2 j3 j6 j7 (hN x hxL).1 hk (hN x hxL).2 hnk) kv_Mdl_compare wi_476 jb rfl rfl rfl hl.1 rfl (Nat.le_of_ble_eq_true rfl) ⟨Nat.le_of_ble_eq_true rfl, Nat.le_of_ble_eq_true rfl⟩ ⟨Nat.le_of_ble_eq_true rfl, Nat.le_of_ble_eq_true rfl⟩ d_Mdl_enter_19 (fun r125 f126 H locs hp127 hI => ?_)
        obtain ⟨hcm, hc2⟩ := hp127
        rw [hc2] at hI
        refine lv_if_le (tgt := 45) S.1 S.2.1 d_Mdl_enter_22 (by decide) (fun c128 => ?_) (fun c128 => ?_)
        · skip
          have hpl : plc (nms af L) nm = at_ := plc_at hs hno (by omega) hnm2 (fun y9 _ hy => by rw [hni] at hy; injection hy with hy; rw [← hy]; exact fun q9 => absurd (hcm.gt.mpr q9) (Int32.not_lt.mpr c128))
          have hF : gFr f fj [b, b + 4, b + 6] := hF.mono (by intro q hq; simp at hq ⊢; omega)
          refine lv_aload_n S.1 S.2.1 d_Mdl_enter_45 rfl (lv_at hl 0 rfl) ?_
          refine gh_get S hI jb rfl i_Mdl 4 (by decide) wi_439 rfl d_Mdl_enter_46 ?_
          refine lv_iload_n S.1 S.2.1 d_Mdl_enter_49 rfl (lv_at hl 3 rfl) ?_
          refine lv_iload_n S.1 S.2.1 d_Mdl_enter_50 rfl (lv_at hl 1 rfl) ?_
          refine gh_iast (j := at_) S hI 1 j4 rfl rfl (by omega) (by omega) d_Mdl_enter_51 (fun H locs hI => ?_)
          have hI : gB P (va_up fj (b + 4) (some (.inl (P.2.1 1, 48, .inl (upd g at_ (nI q)))))) s H locs := hI
          obtain ⟨f129, ef129⟩ : ∃ z, z = va_up fj (b + 4) (some (.inl (P.2.1 1, 48, .inl (upd g at_ (nI q))))) := ⟨_, rfl⟩
          rw [← ef129] at hI
          have h130 : f129 b = some (.inr (7, [.ref (b + 1), .int (nI tl), .ref (b + 2), .ref (b + 3), .ref (b + 4), .ref (b + 5), .ref (b + 6), .ref (b + 7), .ref (b + 8), .ref (b + 9), .ref (b + 10), .ref (b + 11), .int (nI L.length), .int (nI tot), .int (nI op), .ref (b + 12), .int (nI td)])) := by rw [ef129, va_up_ne _ _ (by omega)]; exact jb
          have h131 : f129 (b + 6) = some (.inl (P.2.1 0, 9600, .inl gf)) := by rw [ef129, va_up_ne _ _ (by omega)]; exact j6
          have h132 : f129 (b + 2) = some (.inl (P.2.1 0, 400, .inl gn)) := by rw [ef129, va_up_ne _ _ (by omega)]; exact j2
          have h133 : f129 (b + 3) = some (.inl (P.2.1 1, 2, .inl gl)) := by rw [ef129, va_up_ne _ _ (by omega)]; exact j3
          have h134 : f129 (b + 7) = some (.inl (P.2.1 1, 48, .inl gk)) := by rw [ef129, va_up_ne _ _ (by omega)]; exact j7
          have h135 : f129 (b + 4) = some (.inl (P.2.1 1, 48, .inl (upd g at_ (nI q)))) := by rw [ef129]; exact va_up_self _ _ _
          have hF : gFr f f129 [b, b + 4, b + 6] := by rw [ef129]; exact gFr.upA (by simp) hF
          refine lv_aload_n S.1 S.2.1 d_Mdl_enter_52 rfl (lv_at hl 0 rfl) ?_
          refine lv_dup S.1 S.2.1 d_Mdl_enter_53 rfl ?_
          refine gh_get S hI h130 rfl i_Mdl 12 (by decide) wi_447 rfl d_Mdl_enter_54 ?_
          refine lv_iconst (v := nI 1) S.1 S.2.1 d_Mdl_enter_57 (by decide) ?_
          refine lv_iadd S.1 S.2.1 d_Mdl_enter_58 ?_
          refine lv_topi (fun v136 ev136 => ?_)
          replace ev136 : v136 = nI (L.length + 1) := ev136.trans (nI_add _ _)
          subst ev136
          refine gh_put S hI h130 rfl i_Mdl t_Mdl tk_Mdl n_Mdl 12 (by decide) wi_447 rfl rfl rfl (Nat.le_of_ble_eq_true rfl) d_Mdl_enter_59 (fun H locs hI => ?_)
          have hI : gB P (va_up f129 b (some (.inr (7, [.ref (b + 1), .int (nI tl), .ref (b + 2), .ref (b + 3), .ref (b + 4), .ref (b + 5), .ref (b + 6), .ref (b + 7), .ref (b + 8), .ref (b + 9), .ref (b + 10), .ref (b + 11), .int (nI (L.length + 1)), .int (nI tot), .int (nI op), .ref (b + 12), .int (nI td)])))) s H locs := hI
          obtain ⟨f137, ef137⟩ : ∃ z, z = va_up f129 b (some (.inr (7, [.ref (b + 1), .int (nI tl), .ref (b + 2), .ref (b + 3), .ref (b + 4), .ref (b + 5), .ref (b + 6), .ref (b + 7), .ref (b + 8), .ref (b + 9), .ref (b + 10), .ref (b + 11), .int (nI (L.length + 1)), .int (nI tot), .int (nI op), .ref (b + 12), .int (nI td)]))) := ⟨_, rfl⟩
          rw [← ef137] at hI
          have h138 : f137 (b + 6) = some (.inl (P.2.1 0, 9600, .inl gf)) := by rw [ef137, va_up_ne _ _ (by omega)]; exact h131
          have h139 : f137 (b + 2) = some (.inl (P.2.1 0, 400, .inl gn)) := by rw [ef137, va_up_ne _ _ (by omega)]; exact h132
          have h140 : f137 (b + 3) = some (.inl (P.2.1 1, 2, .inl gl)) := by rw [ef137, va_up_ne _ _ (by omega)]; exact h133
          have h141 : f137 (b + 7) = some (.inl (P.2.1 1, 48, .inl gk)) := by rw [ef137, va_up_ne _ _ (by omega)]; exact h134
          have h142 : f137 (b + 4) = some (.inl (P.2.1 1, 48, .inl (upd g at_ (nI q)))) := by rw [ef137, va_up_ne _ _ (by omega)]; exact h135
          have h143 : f137 b = some (.inr (7, [.ref (b + 1), .int (nI tl), .ref (b + 2), .ref (b + 3), .ref (b + 4), .ref (b + 5), .ref (b + 6), .ref (b + 7), .ref (b + 8), .ref (b + 9), .ref (b + 10), .ref (b + 11), .int (nI (L.length + 1)), .int (nI tot), .int (nI op), .ref (b + 12), .int (nI td)])) := by rw [ef137]; exact va_up_self _ _ _
          have hF : gFr f f137 [b, b + 4, b + 6] := by rw [ef137]; exact gFr.upA (by simp) hF
          refine lv_iconst (v := nI 0) S.1 S.2.1 d_Mdl_enter_62 (by decide) ?_
          refine lv_istore (lv' := [(4, .int (nI 0)), (0, .ref b), (1, .int (nI q)), (2, .int (nI k)), (3, .int (nI at_))]) S.1 S.2.1 d_Mdl_enter_63 hl (by decide) rfl (fun ls hl => ?_)
          exact loop2 (nm.length + 1) 0 _ _ gf (by omega) (by omega) h143 h142 h138 hF (by rw [hpl]; exact mOr_ins hO hi1 (fun j hj => by rw [pk_un (by omega)]; exact hlo j hj) pk_us (fun j hj hj2 => by rw [pk_un (by omega)]; exact hhi j hj hj2)) (fun j hj => absurd hj (by omega)) (fun _ _ => rfl) _ _ hI _ (lv_sub hl [1, 2, 3, 0] rfl)
        · skip
          have hgt := hcm.gt.mp (Int32.not_le.mp c128)
          refine lv_aload_n S.1 S.2.1 d_Mdl_enter_25 rfl (lv_at hl 0 rfl) ?_
          refine gh_get S hI jb rfl i_Mdl 4 (by decide) wi_439 rfl d_Mdl_enter_26 ?_
          refine lv_iload_n S.1 S.2.1 d_Mdl_enter_29 rfl (lv_at hl 3 rfl) ?_
          refine lv_aload_n S.1 S.2.1 d_Mdl_enter_30 rfl (lv_at hl 0 rfl) ?_
          refine gh_get S hI jb rfl i_Mdl 4 (by decide) wi_439 rfl d_Mdl_enter_31 ?_
          refine lv_iload_n S.1 S.2.1 d_Mdl_enter_34 rfl (lv_at hl 3 rfl) ?_
          refine lv_iconst (v := nI 1) S.1 S.2.1 d_Mdl_enter_35 (by decide) ?_
          refine lv_isub S.1 S.2.1 d_Mdl_enter_36 ?_
          refine lv_topi (fun v144 ev144 => ?_)
          replace ev144 : v144 = nI (at_ - 1) := ev144.trans (pk_sub (by omega))
          subst ev144
          refine gh_iald (j := at_ - 1) S hI 1 j4 rfl rfl (by omega) (by omega) d_Mdl_enter_37 ?_
          refine gh_iast (j := at_) S hI 1 j4 rfl rfl (by omega) (by omega) d_Mdl_enter_38 (fun H locs hI => ?_)
          have hI : gB P (va_up fj (b + 4) (some (.inl (P.2.1 1, 48, .inl (upd g at_ (g (at_ - 1))))))) s H locs := hI
          obtain ⟨f145, ef145⟩ : ∃ z, z = va_up fj (b + 4) (some (.inl (P.2.1 1, 48, .inl (upd g at_ (g (at_ - 1)))))) := ⟨_, rfl⟩
          rw [← ef145] at hI
          have h146 : f145 b = some (.inr (7, [.ref (b + 1), .int (nI tl), .ref (b + 2), .ref (b + 3), .ref (b + 4), .ref (b + 5), .ref (b + 6), .ref (b + 7), .ref (b + 8), .ref (b + 9), .ref (b + 10), .ref (b + 11), .int (nI L.length), .int (nI tot), .int (nI op), .ref (b + 12), .int (nI td)])) := by rw [ef145, va_up_ne _ _ (by omega)]; exact jb
          have h147 : f145 (b + 6) = some (.inl (P.2.1 0, 9600, .inl gf)) := by rw [ef145, va_up_ne _ _ (by omega)]; exact j6
          have h148 : f145 (b + 2) = some (.inl (P.2.1 0, 400, .inl gn)) := by rw [ef145, va_up_ne _ _ (by omega)]; exact j2
          have h149 : f145 (b + 3) = some (.inl (P.2.1 1, 2, .inl gl)) := by rw [ef145, va_up_ne _ _ (by omega)]; exact j3
          have h150 : f145 (b + 7) = some (.inl (P.2.1 1, 48, .inl gk)) := by rw [ef145, va_up_ne _ _ (by omega)]; exact j7
          have h151 : f145 (b + 4) = some (.inl (P.2.1 1, 48, .inl (upd g at_ (g (at_ - 1))))) := by rw [ef145]; exact va_up_self _ _ _
          have hF : gFr f f145 [b + 4] := by rw [ef145]; exact gFr.upA (by simp) hF
          refine lv_iinc (v := nI (at_ - 1)) (lv' := [(3, .int (nI (at_ - 1))), (0, .ref b), (1, .int (nI q)), (2, .int (nI k))]) S.1 S.2.1 d_Mdl_enter_39 hl (k := 3) rfl (nI_dec (by omega)) (by decide) rfl (fun ls hl => ?_)
          refine lv_goto (tgt := 5) S.1 S.2.1 d_Mdl_enter_42 (by decide) ?_
          exact ih (at_ - 1) _ _ (by omega) (by omega) h151 hF (fun j hj => by rw [pk_un (by omega)]; exact hlo j (by omega)) (fun j hj hj2 => by
            unfold upd
            by_cases hc : j = at_
            · rw [if_pos hc, hc]; exact hlo _ (by omega)
            · rw [if_neg hc]; exact hhi j (by omega) hj2) (fun j x9 hj hx9 => by
            by_cases hc : j = at_ - 1
            · rw [hc, hni] at hx9; injection hx9 with hx9; rw [← hx9]; exact hgt
            · exact hnm2 j x9 (by omega) hx9) _ _ hI _ (lv_sub hl [1, 2, 3, 0] rfl)
  exact loop (L.length + 1) L.length f go (by omega) (by omega) h4 gFr.rf (fun _ _ => rfl) (fun j hj hj2 => absurd hj2 (by omega)) (fun j x9 hj hx9 => by rw [List.getElem?_eq_none (by omega)] at hx9; cases hx9) _ _ hI _ (lv_sub hl [1, 2, 3, 0] rfl)
set_option maxHeartbeats 4000000 in
set_option maxRecDepth 100000 in
theorem c_Mdl_resize (l : Launch) (P : gPar) (f : gM) {b tl fl tot op td : Nat} {gz gy ga : Nat → Int32} {q n old : Nat} (hb : f b = some (.inr (7, [.ref (b + 1), .int (nI tl), .ref (b + 2), .ref (b + 3), .ref (b + 4), .ref (b + 5), .ref (b + 6), .ref (b + 7), .ref (b + 8), .ref (b + 9), .ref (b + 10), .ref (b + 11), .int (nI fl), .int (nI tot), .int (nI op), .ref (b + 12), .int (nI td)]))) (h9 : f (b + 9) = some (.inl (P.2.1 1, 48, .inl gz))) (h10 : f (b + 10) = some (.inl (P.2.1 0, 393216, .inl gy))) (h11 : f (b + 11) = some (.inl (P.2.1 2, 912, .inl ga))) (hq : q < 48) (hn : n ≤ 8192) (ho : old ≤ 8192) (hz : gz q = nI old) (hot : old ≤ tot) : gC l P y_Mdl_resize b_Mdl_resize 4 none 0 0 0 [.ref b, .int (nI q), .int (nI n)] f (gQv P (fun f1 => ∃ gy1 ga1 : Nat → Int32, f1 b = some (.inr (7, [.ref (b + 1), .int (nI tl), .ref (b + 2), .ref (b + 3), .ref (b + 4), .ref (b + 5), .ref (b + 6), .ref (b + 7), .ref (b + 8), .ref (b + 9), .ref (b + 10), .ref (b + 11), .int (nI fl), .int (nI (tot - old + n)), .int (nI op), .ref (b + 12), .int (nI td)])) ∧ f1 (b + 9) = some (.inl (P.2.1 1, 48, .inl (upd gz q (nI n)))) ∧ f1 (b + 10) = some (.inl (P.2.1 0, 393216, .inl gy1)) ∧ f1 (b + 11) = some (.inl (P.2.1 2, 912, .inl ga1)) ∧ (∀ x, gy1 x = if 8192 * q + old ≤ x ∧ x < 8192 * q + n then 0 else gy x) ∧ (∀ x, ga1 x = if 19 * q ≤ x ∧ x < 19 * q + 19 ∧ n ≤ 448 * (x - 19 * q) then 0 else ga x) ∧ gFr f f1 [b, b + 9, b + 10, b + 11])) := by
  refine gC_of (by decide) (Nat.le_of_ble_eq_true rfl) (fun p env s m args below meth c S hr hlk hnm H locs hI ls hl => ?_)
  have hl : lv_has ls 4 [(0, .ref b), (1, .int (nI q)), (2, .int (nI n))] := hl
  have loop2 : ∀ (u i : Nat) (fj : gM) (g1 g2 : Nat → Int32), i ≤ 19 → 19 - i < u → fj (b + 10) = some (.inl (P.2.1 0, 393216, .inl g1)) → fj (b + 11) = some (.inl (P.2.1 2, 912, .inl g2)) → gFr f fj [b + 10, b + 11] → (∀ x, g1 x = if 8192 * q + old ≤ x ∧ x < 8192 * q + n then 0 else gy x) → (∀ x, g2 x = if 19 * q ≤ x ∧ x < 19 * q + i ∧ n ≤ 448 * (x - 19 * q) then 0 else ga x) → ∀ (H : Heap) (locs : List Loc), gB P fj s H locs → ∀ ls : Array Slot, lv_has ls 4 [(0, .ref b), (1, .int (nI q)), (2, .int (nI n)), (3, .int (nI i))] → W p l env (grm 0 0 0) s m args below meth c H locs 0 0 (MQ below (gQv P (fun f1 => ∃ gy1 ga1 : Nat → Int32, f1 b = some (.inr (7, [.ref (b + 1), .int (nI tl), .ref (b + 2), .ref (b + 3), .ref (b + 4), .ref (b + 5), .ref (b + 6), .ref (b + 7), .ref (b + 8), .ref (b + 9), .ref (b + 10), .ref (b + 11), .int (nI fl), .int (nI (tot - old + n)), .int (nI op), .ref (b + 12), .int (nI td)])) ∧ f1 (b + 9) = some (.inl (P.2.1 1, 48, .inl (upd gz q (nI n)))) ∧ f1 (b + 10) = some (.inl (P.2.1 0, 393216, .inl gy1)) ∧ f1 (b + 11) = some (.inl (P.2.1 2, 912, .inl ga1)) ∧ (∀ x, gy1 x = if 8192 * q + old ≤ x ∧ x < 8192 * q + n then 0 else gy x) ∧ (∀ x, ga1 x = if 19 * q ≤ x ∧ x < 19 * q + 19 ∧ n ≤ 448 * (x - 19 * q) then 0 else ga x) ∧ gFr f f1 [b, b + 9, b + 10, b + 11])) args s 0 0 (gA P)) (F0 m 33 ls []) := by
    intro u
    induction u with
    | zero => intro i fj g1 g2 h9 h8; exact absurd h8 (by omega)
    | succ u ih =>
      intro i fj g1 g2 hi1 h8 j10 j11 hF hg1 hg2 H locs hI ls hl
      have jb := hF b _ hb (nm2 (by omega) (by omega))
      have j9 := hF (b + 9) _ h9 (nm2 (by omega) (by omega))
      refine lv_iload_n S.1 S.2.1 d_Mdl_resize_33 rfl (lv_at hl 3 rfl) ?_
      refine lv_bipush (v := nI 19) S.1 S.2.1 d_Mdl_resize_34 (by decide) ?_
      refine lv_icmp_ge (tgt := 66) S.1 S.2.1 d_Mdl_resize_36 (by decide) (fun c152 => ?_) (fun c152 => ?_)
      · skip
        replace c152 : 19 ≤ i := (nI_leI (a := 19) (b := i) (by omega) (by omega)).mp c152
        have hF : gFr f fj [b, b + 9, b + 10, b + 11] := hF.mono (by intro q hq; simp at hq ⊢; omega)
        refine lv_aload_n S.1 S.2.1 d_Mdl_resize_66 rfl (lv_at hl 0 rfl) ?_
        refine lv_dup S.1 S.2.1 d_Mdl_resize_67 rfl ?_
        refine gh_get S hI jb rfl i_Mdl 13 (by decide) wi_448 rfl d_Mdl_resize_68 ?_
        refine lv_iload_n S.1 S.2.1 d_Mdl_resize_71 rfl (lv_at hl 2 rfl) ?_
        refine lv_aload_n S.1 S.2.1 d_Mdl_resize_72 rfl (lv_at hl 0 rfl) ?_
        refine gh_get S hI jb rfl i_Mdl 9 (by decide) wi_444 rfl d_Mdl_resize_73 ?_
        refine lv_iload_n S.1 S.2.1 d_Mdl_resize_76 rfl (lv_at hl 1 rfl) ?_
        refine gh_iald (j := q) S hI 1 j9 rfl rfl (by omega) (by omega) d_Mdl_resize_77 ?_
        refine lv_topi (fun v153 ev153 => ?_)
        replace ev153 : v153 = nI old := ev153.trans (hz)
        subst ev153
        refine lv_isub S.1 S.2.1 d_Mdl_resize_78 ?_
        refine lv_iadd S.1 S.2.1 d_Mdl_resize_79 ?_
        refine lv_topi (fun v154 ev154 => ?_)
        replace ev154 : v154 = nI (tot - old + n) := ev154.trans (nI_tot hot)
        subst ev154
        refine gh_put S hI jb rfl i_Mdl t_Mdl tk_Mdl n_Mdl 13 (by decide) wi_448 rfl rfl rfl (Nat.le_of_ble_eq_true rfl) d_Mdl_resize_80 (fun H locs hI => ?_)
        have hI : gB P (va_up fj b (some (.inr (7, [.ref (b + 1), .int (nI tl), .ref (b + 2), .ref (b + 3), .ref (b + 4), .ref (b + 5), .ref (b + 6), .ref (b + 7), .ref (b + 8), .ref (b + 9), .ref (b + 10), .ref (b + 11), .int (nI fl), .int (nI (tot - old + n)), .int (nI op), .ref (b + 12), .int (nI td)])))) s H locs := hI
        obtain ⟨f155, ef155⟩ : ∃ z, z = va_up fj b (some (.inr (7, [.ref (b + 1), .int (nI tl), .ref (b + 2), .ref (b + 3), .ref (b + 4), .ref (b + 5), .ref (b + 6), .ref (b + 7), .ref (b + 8), .ref (b + 9), .ref (b + 10), .ref (b + 11), .int (nI fl), .int (nI (tot - old + n)), .int (nI op), .ref (b + 12), .int (nI td)]))) := ⟨_, rfl⟩
        rw [← ef155] at hI
        have h156 : f155 (b + 9) = some (.inl (P.2.1 1, 48, .inl gz)) := by rw [ef155, va_up_ne _ _ (by omega)]; exact j9
        have h157 : f155 (b + 10) = some (.inl (P.2.1 0, 393216, .inl g1)) := by rw [ef155, va_up_ne _ _ (by omega)]; exact j10
        have h158 : f155 (b + 11) = some (.inl (P.2.1 2, 912, .inl g2)) := by rw [ef155, va_up_ne _ _ (by omega)]; exact j11
        have h159 : f155 b = some (.inr (7, [.ref (b + 1), .int (nI tl), .ref (b + 2), .ref (b + 3), .ref (b + 4), .ref (b + 5), .ref (b + 6), .ref (b + 7), .ref (b + 8), .ref (b + 9), .ref (b + 10), .ref (b + 11), .int (nI fl), .int (nI (tot - old + n)), .int (nI op), .ref (b + 12), .int (nI td)])) := by rw [ef155]; exact va_up_self _ _ _
        have hF : gFr f f155 [b, b + 9, b + 10, b + 11] := by rw [ef155]; exact gFr.upA (by simp) hF
        refine lv_aload_n S.1 S.2.1 d_Mdl_resize_83 rfl (lv_at hl 0 rfl) ?_
        refine gh_get S hI h159 rfl i_Mdl 9 (by decide) wi_444 rfl d_Mdl_resize_84 ?_
        refine lv_iload_n S.1 S.2.1 d_Mdl_resize_87 rfl (lv_at hl 1 rfl) ?_
        refine lv_iload_n S.1 S.2.1 d_Mdl_resize_88 rfl (lv_at hl 2 rfl) ?_
        refine gh_iast (j := q) S hI 1 h156 rfl rfl (by omega) (by omega) d_Mdl_resize_89 (fun H locs hI => ?_)
        have hI : gB P (va_up f155 (b + 9) (some (.inl (P.2.1 1, 48, .inl (upd gz q (nI n)))))) s H locs := hI
        obtain ⟨f160, ef160⟩ : ∃ z, z = va_up f155 (b + 9) (some (.inl (P.2.1 1, 48, .inl (upd gz q (nI n))))) := ⟨_, rfl⟩
        rw [← ef160] at hI
        have h161 : f160 (b + 10) = some (.inl (P.2.1 0, 393216, .inl g1)) := by rw [ef160, va_up_ne _ _ (by omega)]; exact h157
        have h162 : f160 (b + 11) = some (.inl (P.2.1 2, 912, .inl g2)) := by rw [ef160, va_up_ne _ _ (by omega)]; exact h158
        have h163 : f160 b = some (.inr (7, [.ref (b + 1), .int (nI tl), .ref (b + 2), .ref (b + 3), .ref (b + 4), .ref (b + 5), .ref (b + 6), .ref (b + 7), .ref (b + 8), .ref (b + 9), .ref (b + 10), .ref (b + 11), .int (nI fl), .int (nI (tot - old + n)), .int (nI op), .ref (b + 12), .int (nI td)])) := by rw [ef160, va_up_ne _ _ (by omega)]; exact h159
        have h164 : f160 (b + 9) = some (.inl (P.2.1 1, 48, .inl (upd gz q (nI n)))) := by rw [ef160]; exact va_up_self _ _ _
        have hF : gFr f f160 [b, b + 9, b + 10, b + 11] := by rw [ef160]; exact gFr.upA (by simp) hF
        exact gr_v S hr hlk hI (⟨g1, g2, h163, h164, h161, h162, hg1, (fun x => by rw [hg2 x, show i = 19 by omega]), hF⟩) d_Mdl_resize_90
      · skip
        replace c152 : ¬ 19 ≤ i := fun z => c152 ((nI_leI (a := 19) (b := i) (by omega) (by omega)).mpr z)
        refine lv_sipush (v := nI 448) S.1 S.2.1 d_Mdl_resize_39 (by decide) ?_
        refine lv_iload_n S.1 S.2.1 d_Mdl_resize_42 rfl (lv_at hl 3 rfl) ?_
        refine lv_imul S.1 S.2.1 d_Mdl_resize_43 ?_
        refine lv_topi (fun v165 ev165 => ?_)
        replace ev165 : v165 = nI (448 * i) := ev165.trans (pk_mul _ _)
        subst ev165
        refine lv_iload_n S.1 S.2.1 d_Mdl_resize_44 rfl (lv_at hl 2 rfl) ?_
        refine lv_icmp_lt (tgt := 60) S.1 S.2.1 d_Mdl_resize_45 (by decide) (fun c166 => ?_) (fun c166 => ?_)
        · skip
          replace c166 : (448 * i) < n := (nI_ltI (a := 448 * i) (b := n) (by omega) (by omega)).mp c166
          refine lv_iinc (v := nI (i + 1)) (lv' := [(3, .int (nI (i + 1))), (0, .ref b), (1, .int (nI q)), (2, .int (nI n))]) S.1 S.2.1 d_Mdl_resize_60 hl (k := 3) rfl (nI_add _ _) (by decide) rfl (fun ls hl => ?_)
          refine lv_goto (tgt := 33) S.1 S.2.1 d_Mdl_resize_63 (by decide) ?_
          exact ih (i + 1) fj g1 g2 (by omega) (by omega) j10 j11 hF hg1 (fun x => by
            rw [hg2 x]
            by_cases hc : 19 * q ≤ x ∧ x < 19 * q + i ∧ n ≤ 448 * (x - 19 * q)
            · rw [if_pos hc, if_pos (by omega)]
            · rw [if_neg hc, if_neg (by omega)]) _ _ hI _ (lv_sub hl [1, 2, 3, 0] rfl)
        · skip
          replace c166 : ¬ (448 * i) < n := fun z => c166 ((nI_ltI (a := 448 * i) (b := n) (by omega) (by omega)).mpr z)
          refine lv_aload_n S.1 S.2.1 d_Mdl_resize_48 rfl (lv_at hl 0 rfl) ?_
          refine gh_get S hI jb rfl i_Mdl 11 (by decide) wi_446 rfl d_Mdl_resize_49 ?_
          refine lv_bipush (v := nI 19) S.1 S.2.1 d_Mdl_resize_52 (by decide) ?_
          refine lv_iload_n S.1 S.2.1 d_Mdl_resize_54 rfl (lv_at hl 1 rfl) ?_
          refine lv_imul S.1 S.2.1 d_Mdl_resize_55 ?_
          refine lv_topi (fun v167 ev167 => ?_)
          replace ev167 : v167 = nI (19 * q) := ev167.trans (pk_mul _ _)
          subst ev167
          refine lv_iload_n S.1 S.2.1 d_Mdl_resize_56 rfl (lv_at hl 3 rfl) ?_
          refine lv_iadd S.1 S.2.1 d_Mdl_resize_57 ?_
          refine lv_topi (fun v168 ev168 => ?_)
          replace ev168 : v168 = nI ((19 * q) + i) := ev168.trans (nI_add _ _)
          subst ev168
          refine lv_iconst (v := nI 0) S.1 S.2.1 d_Mdl_resize_58 (by decide) ?_
          refine gh_zast (j := (19 * q) + i) S hI 2 j11 rfl (by first | exact Or.inl rfl | exact Or.inr rfl) rfl (by omega) (by omega) d_Mdl_resize_59 (fun H locs hI => ?_)
          have hI : gB P (va_up fj (b + 11) (some (.inl (P.2.1 2, 912, .inl (upd g2 ((19 * q) + i) (nI 0)))))) s H locs := hI
          obtain ⟨f169, ef169⟩ : ∃ z, z = va_up fj (b + 11) (some (.inl (P.2.1 2, 912, .inl (upd g2 ((19 * q) + i) (nI 0))))) := ⟨_, rfl⟩
          rw [← ef169] at hI
          have h170 : f169 b = some (.inr (7, [.ref (b + 1), .int (nI tl), .ref (b + 2), .ref (b + 3), .ref (b + 4), .ref (b + 5), .ref (b + 6), .ref (b + 7), .ref (b + 8), .ref (b + 9), .ref (b + 10), .ref (b + 11), .int (nI fl), .int (nI tot), .int (nI op), .ref (b + 12), .int (nI td)])) := by rw [ef169, va_up_ne _ _ (by omega)]; exact jb
          have h171 : f169 (b + 9) = some (.inl (P.2.1 1, 48, .inl gz)) := by rw [ef169, va_up_ne _ _ (by omega)]; exact j9
          have h172 : f169 (b + 10) = some (.inl (P.2.1 0, 393216, .inl g1)) := by rw [ef169, va_up_ne _ _ (by omega)]; exact j10
          have h173 : f169 (b + 11) = some (.inl (P.2.1 2, 912, .inl (upd g2 ((19 * q) + i) (nI 0)))) := by rw [ef169]; exact va_up_self _ _ _
          have hF : gFr f f169 [b + 10, b + 11] := by rw [ef169]; exact gFr.upA (by simp) hF
          refine lv_iinc (v := nI (i + 1)) (lv' := [(3, .int (nI (i + 1))), (0, .ref b), (1, .int (nI q)), (2, .int (nI n))]) S.1 S.2.1 d_Mdl_resize_60 hl (k := 3) rfl (nI_add _ _) (by decide) rfl (fun ls hl => ?_)
          refine lv_goto (tgt := 33) S.1 S.2.1 d_Mdl_resize_63 (by decide) ?_
          exact ih (i + 1) _ g1 _ (by omega) (by omega) h172 h173 hF hg1 (fun x => by
            unfold upd
            by_cases hx : x = 19 * q + i
            · rw [if_pos hx, if_pos (by omega)]; rfl
            · rw [if_neg hx, hg2 x]
              by_cases hc : 19 * q ≤ x ∧ x < 19 * q + i ∧ n ≤ 448 * (x - 19 * q)
              · rw [if_pos hc, if_pos (by omega)]
              · rw [if_neg hc, if_neg (by omega)]) _ _ hI _ (lv_sub hl [1, 2, 3, 0] rfl)
  refine lv_aload_n S.1 S.2.1 d_Mdl_resize_0 rfl (lv_at hl 0 rfl) ?_
  refine gh_get S hI hb rfl i_Mdl 9 (by decide) wi_444 rfl d_Mdl_resize_1 ?_
  refine lv_iload_n S.1 S.2.1 d_Mdl_resize_4 rfl (lv_at hl 1 rfl) ?_
  refine gh_iald (j := q) S hI 1 h9 rfl rfl (by omega) (by omega) d_Mdl_resize_5 ?_
  refine lv_topi (fun v174 ev174 => ?_)
  replace ev174 : v174 = nI old := ev174.trans (hz)
  subst ev174
  refine lv_istore_n (lv' := [(3, .int (nI old)), (0, .ref b), (1, .int (nI q)), (2, .int (nI n))]) S.1 S.2.1 d_Mdl_resize_6 rfl hl (by decide) rfl (fun ls hl => ?_)
  have loop : ∀ (u i : Nat) (fj : gM) (g1 : Nat → Int32), old ≤ i → i ≤ max old n → max old n - i < u → fj (b + 10) = some (.inl (P.2.1 0, 393216, .inl g1)) → gFr f fj [b + 10, b + 11] → fj (b + 11) = some (.inl (P.2.1 2, 912, .inl ga)) → (∀ x, g1 x = if 8192 * q + old ≤ x ∧ x < 8192 * q + i then 0 else gy x) → ∀ (H : Heap) (locs : List Loc), gB P fj s H locs → ∀ ls : Array Slot, lv_has ls 4 [(0, .ref b), (1, .int (nI q)), (2, .int (nI n)), (3, .int (nI i))] → W p l env (grm 0 0 0) s m args below meth c H locs 0 0 (MQ below (gQv P (fun f1 => ∃ gy1 ga1 : Nat → Int32, f1 b = some (.inr (7, [.ref (b + 1), .int (nI tl), .ref (b + 2), .ref (b + 3), .ref (b + 4), .ref (b + 5), .ref (b + 6), .ref (b + 7), .ref (b + 8), .ref (b + 9), .ref (b + 10), .ref (b + 11), .int (nI fl), .int (nI (tot - old + n)), .int (nI op), .ref (b + 12), .int (nI td)])) ∧ f1 (b + 9) = some (.inl (P.2.1 1, 48, .inl (upd gz q (nI n)))) ∧ f1 (b + 10) = some (.inl (P.2.1 0, 393216, .inl gy1)) ∧ f1 (b + 11) = some (.inl (P.2.1 2, 912, .inl ga1)) ∧ (∀ x, gy1 x = if 8192 * q + old ≤ x ∧ x < 8192 * q + n then 0 else gy x) ∧ (∀ x, ga1 x = if 19 * q ≤ x ∧ x < 19 * q + 19 ∧ n ≤ 448 * (x - 19 * q) then 0 else ga x) ∧ gFr f f1 [b, b + 9, b + 10, b + 11])) args s 0 0 (gA P)) (F0 m 7 ls []) := by
    intro u
    induction u with
    | zero => intro i fj g1 h9 h7 h8; exact absurd h8 (by omega)
    | succ u ih =>
      intro i fj g1 hi0 hi1 h8 j10 hF j11 hg1 H locs hI ls hl
      have jb := hF b _ hb (nm2 (by omega) (by omega))
      refine lv_iload_n S.1 S.2.1 d_Mdl_resize_7 rfl (lv_at hl 3 rfl) ?_
      refine lv_iload_n S.1 S.2.1 d_Mdl_resize_8 rfl (lv_at hl 2 rfl) ?_
      refine lv_icmp_ge (tgt := 31) S.1 S.2.1 d_Mdl_resize_9 (by decide) (fun c175 => ?_) (fun c175 => ?_)
      · skip
        replace c175 : n ≤ i := (nI_leI (a := n) (b := i) (by omega) (by omega)).mp c175
        refine lv_iconst (v := nI 0) S.1 S.2.1 d_Mdl_resize_31 (by decide) ?_
        refine lv_istore_n (lv' := [(3, .int (nI 0)), (0, .ref b), (1, .int (nI q)), (2, .int (nI n))]) S.1 S.2.1 d_Mdl_resize_32 rfl hl (by decide) rfl (fun ls hl => ?_)
        exact loop2 20 0 fj g1 ga (by omega) (by omega) j10 j11 hF (fun x => by
          rw [hg1 x]
          by_cases hc : 8192 * q + old ≤ x ∧ x < 8192 * q + i
          · rw [if_pos hc, if_pos (by omega)]
          · rw [if_neg hc, if_neg (by omega)]) (fun x => by rw [if_neg (by omega)]) _ _ hI _ (lv_sub hl [1, 2, 3, 0] rfl)
      · skip
        replace c175 : ¬ n ≤ i := fun z => c175 ((nI_leI (a := n) (b := i) (by omega) (by omega)).mpr z)
        refine lv_aload_n S.1 S.2.1 d_Mdl_resize_12 rfl (lv_at hl 0 rfl) ?_
        refine gh_get S hI jb rfl i_Mdl 10 (by decide) wi_445 rfl d_Mdl_resize_13 ?_
        refine lv_sipush (v := nI 8192) S.1 S.2.1 d_Mdl_resize_16 (by decide) ?_
        refine lv_iload_n S.1 S.2.1 d_Mdl_resize_19 rfl (lv_at hl 1 rfl) ?_
        refine lv_imul S.1 S.2.1 d_Mdl_resize_20 ?_
        refine lv_topi (fun v176 ev176 => ?_)
        replace ev176 : v176 = nI (8192 * q) := ev176.trans (pk_mul _ _)
        subst ev176
        refine lv_iload_n S.1 S.2.1 d_Mdl_resize_21 rfl (lv_at hl 3 rfl) ?_
        refine lv_iadd S.1 S.2.1 d_Mdl_resize_22 ?_
        refine lv_topi (fun v177 ev177 => ?_)
        replace ev177 : v177 = nI ((8192 * q) + i) := ev177.trans (nI_add _ _)
        subst ev177
        refine lv_iconst (v := nI 0) S.1 S.2.1 d_Mdl_resize_23 (by decide) ?_
        refine gh_bast (j := (8192 * q) + i) S hI 0 j10 rfl rfl (by omega) (by omega) d_Mdl_resize_24 (fun H locs hI => ?_)
        have hI : gB P (va_up fj (b + 10) (some (.inl (P.2.1 0, 393216, .inl (upd g1 ((8192 * q) + i) (Int8.toInt32 (Int32.toInt8 (nI 0)))))))) s H locs := hI
        obtain ⟨f178, ef178⟩ : ∃ z, z = va_up fj (b + 10) (some (.inl (P.2.1 0, 393216, .inl (upd g1 ((8192 * q) + i) (Int8.toInt32 (Int32.toInt8 (nI 0))))))) := ⟨_, rfl⟩
        rw [← ef178] at hI
        have h179 : f178 b = some (.inr (7, [.ref (b + 1), .int (nI tl), .ref (b + 2), .ref (b + 3), .ref (b + 4), .ref (b + 5), .ref (b + 6), .ref (b + 7), .ref (b + 8), .ref (b + 9), .ref (b + 10), .ref (b + 11), .int (nI fl), .int (nI tot), .int (nI op), .ref (b + 12), .int (nI td)])) := by rw [ef178, va_up_ne _ _ (by omega)]; exact jb
        have h180 : f178 (b + 11) = some (.inl (P.2.1 2, 912, .inl ga)) := by rw [ef178, va_up_ne _ _ (by omega)]; exact j11
        have h181 : f178 (b + 10) = some (.inl (P.2.1 0, 393216, .inl (upd g1 ((8192 * q) + i) (Int8.toInt32 (Int32.toInt8 (nI 0)))))) := by rw [ef178]; exact va_up_self _ _ _
        have hF : gFr f f178 [b + 10, b + 11] := by rw [ef178]; exact gFr.upA (by simp) hF
        refine lv_iinc (v := nI (i + 1)) (lv' := [(3, .int (nI (i + 1))), (0, .ref b), (1, .int (nI q)), (2, .int (nI n))]) S.1 S.2.1 d_Mdl_resize_25 hl (k := 3) rfl (nI_add _ _) (by decide) rfl (fun ls hl => ?_)
        refine lv_goto (tgt := 7) S.1 S.2.1 d_Mdl_resize_28 (by decide) ?_
        exact ih (i + 1) _ _ (by omega) (by omega) (by omega) h181 hF h180 (fun x => by
          unfold upd
          by_cases hx : x = 8192 * q + i
          · rw [if_pos hx, if_pos (by omega)]; rfl
          · rw [if_neg hx, hg1 x]
            by_cases hc : 8192 * q + old ≤ x ∧ x < 8192 * q + i
            · rw [if_pos hc, if_pos (by omega)]
            · rw [if_neg hc, if_neg (by omega)]) _ _ hI _ (lv_sub hl [1, 2, 3, 0] rfl)
  exact loop (max old n - old + 1) old f gy (by omega) (by omega) (by omega) h10 gFr.rf h11 (fun x => by rw [if_neg (by omega)]) _ _ hI _ (lv_sub hl [1, 2, 3, 0] rfl)
