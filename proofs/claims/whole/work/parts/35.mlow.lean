theorem nI_tot {t o n : Nat} (h : o ≤ t) : nI t + (nI n - nI o) = nI (t - o + n) := by
  have e : nI t = nI (t - o) + nI o := by rw [nI_add]; congr 1; omega
  rw [e, ← nI_add (t - o) n, Int32.add_assoc]
  congr 1
  rw [Int32.add_comm, Int32.sub_add_cancel]
theorem nmL_s {n : Nat} {g : Nat → Int32} {x : Int32} : nmL (n + 1) (upd g n x) = nmL n g ++ [ub x] := by
  unfold nmL
  rw [List.range_succ, List.map_append, List.map_cons, List.map_nil, pk_us]
  congr 1
  exact List.map_congr_left (fun i hi => by rw [pk_un (by have := List.mem_range.mp hi; omega)])
theorem mNk_get {g gl : Nat → Int32} {k : Nat} {nm : List Nat} (h : mNk g gl k nm) {j : Nat} (hj : j < nm.length) : nm[j]? = some (ub (g (200 * k + j))) := by
  have e := nmL_get (g := fun j => g (200 * k + j)) hj
  rw [h.2.2] at e; exact e
set_option maxHeartbeats 4000000 in
set_option maxRecDepth 100000 in
theorem c_Mdl_compare (l : Launch) (P : gPar) (f : gM) {b tl fl tot op td : Nat} {gn gl gf gk : Nat → Int32} {q k : Nat} {nm1 nm2 : List Nat} (hb : f b = some (.inr (7, [.ref (b + 1), .int (nI tl), .ref (b + 2), .ref (b + 3), .ref (b + 4), .ref (b + 5), .ref (b + 6), .ref (b + 7), .ref (b + 8), .ref (b + 9), .ref (b + 10), .ref (b + 11), .int (nI fl), .int (nI tot), .int (nI op), .ref (b + 12), .int (nI td)]))) (h2 : f (b + 2) = some (.inl (P.2.1 0, 400, .inl gn))) (h3 : f (b + 3) = some (.inl (P.2.1 1, 2, .inl gl))) (h6 : f (b + 6) = some (.inl (P.2.1 0, 9600, .inl gf))) (h7 : f (b + 7) = some (.inl (P.2.1 1, 48, .inl gk))) (hq : q < 48) (hk : k < 2) (hn1 : mNk gf gk q nm1) (hn2 : mNk gn gl k nm2) : gC l P y_Mdl_compare b_Mdl_compare 8 (some .int) 0 0 0 [.ref b, .int (nI q), .int (nI k)] f (gQi P (fun r f1 => cmpOK r nm1 nm2 ∧ f1 = f)) := by
  refine gC_of (by decide) (Nat.le_of_ble_eq_true rfl) (fun p env s m args below meth c S hr hlk hnm H locs hI ls hl => ?_)
  have hl : lv_has ls 8 [(0, .ref b), (1, .int (nI q)), (2, .int (nI k))] := hl
  obtain ⟨e1, e2, e3⟩ := hn1
  obtain ⟨e4, e5, e6⟩ := hn2
  refine lv_aload_n S.1 S.2.1 d_Mdl_compare_0 rfl (lv_at hl 0 rfl) ?_
  refine gh_get S hI hb rfl i_Mdl 3 (by decide) wi_438 rfl d_Mdl_compare_1 ?_
  refine lv_iload_n S.1 S.2.1 d_Mdl_compare_4 rfl (lv_at hl 2 rfl) ?_
  refine gh_iald (j := k) S hI 1 h3 rfl rfl (by omega) (by omega) d_Mdl_compare_5 ?_
  refine lv_topi (fun v17 ev17 => ?_)
  replace ev17 : v17 = nI nm2.length := ev17.trans (e4)
  subst ev17
  refine lv_istore_n (lv' := [(3, .int (nI nm2.length)), (0, .ref b), (1, .int (nI q)), (2, .int (nI k))]) S.1 S.2.1 d_Mdl_compare_6 rfl hl (by decide) rfl (fun ls hl => ?_)
  refine lv_aload_n S.1 S.2.1 d_Mdl_compare_7 rfl (lv_at hl 1 rfl) ?_
  refine gh_get S hI hb rfl i_Mdl 7 (by decide) wi_442 rfl d_Mdl_compare_8 ?_
  refine lv_iload_n S.1 S.2.1 d_Mdl_compare_11 rfl (lv_at hl 2 rfl) ?_
  refine gh_iald (j := q) S hI 1 h7 rfl rfl (by omega) (by omega) d_Mdl_compare_12 ?_
  refine lv_topi (fun v18 ev18 => ?_)
  replace ev18 : v18 = nI nm1.length := ev18.trans (e1)
  subst ev18
  refine lv_istore (lv' := [(4, .int (nI nm1.length)), (3, .int (nI nm2.length)), (0, .ref b), (1, .int (nI q)), (2, .int (nI k))]) S.1 S.2.1 d_Mdl_compare_13 hl (by decide) rfl (fun ls hl => ?_)
  refine lv_iconst (v := nI 0) S.1 S.2.1 d_Mdl_compare_15 (by decide) ?_
  refine lv_istore (lv' := [(5, .int (nI 0)), (4, .int (nI nm1.length)), (3, .int (nI nm2.length)), (0, .ref b), (1, .int (nI q)), (2, .int (nI k))]) S.1 S.2.1 d_Mdl_compare_16 hl (by decide) rfl (fun ls hl => ?_)
  have loop : ∀ (u i : Nat), i ≤ nm1.length → i ≤ nm2.length → nm1.length - i < u → (∀ j, j < i → ub (gf (200 * q + j)) = ub (gn (200 * k + j))) → ∀ (H : Heap) (locs : List Loc), gB P f s H locs → ∀ ls : Array Slot, lv_has ls 8 [(0, .ref b), (1, .int (nI q)), (2, .int (nI k)), (3, .int (nI nm2.length)), (4, .int (nI nm1.length)), (5, .int (nI i))] → W p l env (grm 0 0 0) s m args below meth c H locs 0 0 (MQ below (gQi P (fun r f1 => cmpOK r nm1 nm2 ∧ f1 = f)) args s 0 0 (gA P)) (F0 m 18 ls []) := by
    intro u
    induction u with
    | zero => intro i h4 h5 h8; exact absurd h8 (by omega)
    | succ u ih =>
      intro i hi1 hi2 h8 he H locs hI ls hl
      refine lv_iload S.1 S.2.1 d_Mdl_compare_18 (lv_at hl 5 rfl) ?_
      refine lv_iload_n S.1 S.2.1 d_Mdl_compare_20 rfl (lv_at hl 3 rfl) ?_
      refine lv_icmp_ge (tgt := 88) S.1 S.2.1 d_Mdl_compare_21 (by decide) (fun c19 => ?_) (fun c19 => ?_)
      · skip
        replace c19 : nm2.length ≤ i := (nI_leI (a := nm2.length) (b := i) (by omega) (by omega)).mp c19
        refine lv_iload S.1 S.2.1 d_Mdl_compare_88 (lv_at hl 4 rfl) ?_
        refine lv_iload_n S.1 S.2.1 d_Mdl_compare_90 rfl (lv_at hl 3 rfl) ?_
        refine lv_isub S.1 S.2.1 d_Mdl_compare_91 ?_
        exact gr_i S hr hlk hI (⟨by have z := cmp_end (n := nm1.length) (m := nm2.length) (g := fun j => gf (200 * q + j)) (h := fun j => gn (200 * k + j)) (by omega) (by omega) (fun j h1 h2 => he j (by omega)); rw [e3, e6] at z; exact z, rfl⟩) d_Mdl_compare_92
      · skip
        replace c19 : ¬ nm2.length ≤ i := fun z => c19 ((nI_leI (a := nm2.length) (b := i) (by omega) (by omega)).mpr z)
        refine lv_iload S.1 S.2.1 d_Mdl_compare_24 (lv_at hl 5 rfl) ?_
        refine lv_iload S.1 S.2.1 d_Mdl_compare_26 (lv_at hl 4 rfl) ?_
        refine lv_icmp_ge (tgt := 88) S.1 S.2.1 d_Mdl_compare_28 (by decide) (fun c20 => ?_) (fun c20 => ?_)
        · skip
          replace c20 : nm1.length ≤ i := (nI_leI (a := nm1.length) (b := i) (by omega) (by omega)).mp c20
          refine lv_iload S.1 S.2.1 d_Mdl_compare_88 (lv_at hl 4 rfl) ?_
          refine lv_iload_n S.1 S.2.1 d_Mdl_compare_90 rfl (lv_at hl 3 rfl) ?_
          refine lv_isub S.1 S.2.1 d_Mdl_compare_91 ?_
          exact gr_i S hr hlk hI (⟨by have z := cmp_end (n := nm1.length) (m := nm2.length) (g := fun j => gf (200 * q + j)) (h := fun j => gn (200 * k + j)) (by omega) (by omega) (fun j h1 h2 => he j (by omega)); rw [e3, e6] at z; exact z, rfl⟩) d_Mdl_compare_92
        · skip
          replace c20 : ¬ nm1.length ≤ i := fun z => c20 ((nI_leI (a := nm1.length) (b := i) (by omega) (by omega)).mpr z)
          refine lv_aload_n S.1 S.2.1 d_Mdl_compare_31 rfl (lv_at hl 0 rfl) ?_
          refine gh_get S hI hb rfl i_Mdl 6 (by decide) wi_441 rfl d_Mdl_compare_32 ?_
          refine lv_sipush (v := nI 200) S.1 S.2.1 d_Mdl_compare_35 (by decide) ?_
          refine lv_iload_n S.1 S.2.1 d_Mdl_compare_38 rfl (lv_at hl 1 rfl) ?_
          refine lv_imul S.1 S.2.1 d_Mdl_compare_39 ?_
          refine lv_topi (fun v21 ev21 => ?_)
          replace ev21 : v21 = nI (200 * q) := ev21.trans (pk_mul _ _)
          subst ev21
          refine lv_iload S.1 S.2.1 d_Mdl_compare_40 (lv_at hl 5 rfl) ?_
          refine lv_iadd S.1 S.2.1 d_Mdl_compare_42 ?_
          refine lv_topi (fun v22 ev22 => ?_)
          replace ev22 : v22 = nI ((200 * q) + i) := ev22.trans (nI_add _ _)
          subst ev22
          refine gh_bald (j := (200 * q) + i) S hI 0 h6 rfl rfl (by omega) (by omega) d_Mdl_compare_43 ?_
          refine lv_sipush (v := nI 255) S.1 S.2.1 d_Mdl_compare_44 (by decide) ?_
          refine lv_iand S.1 S.2.1 d_Mdl_compare_47 ?_
          refine lv_topi (fun v23 ev23 => ?_)
          replace ev23 : v23 = nI (ub (gf (200 * q + i))) := ev23.trans (ub_nI _)
          subst ev23
          refine lv_istore (lv' := [(6, .int (nI (ub (gf (200 * q + i))))), (0, .ref b), (1, .int (nI q)), (2, .int (nI k)), (3, .int (nI nm2.length)), (4, .int (nI nm1.length)), (5, .int (nI i))]) S.1 S.2.1 d_Mdl_compare_48 hl (by decide) rfl (fun ls hl => ?_)
          refine lv_aload_n S.1 S.2.1 d_Mdl_compare_50 rfl (lv_at hl 1 rfl) ?_
          refine gh_get S hI hb rfl i_Mdl 2 (by decide) wi_437 rfl d_Mdl_compare_51 ?_
          refine lv_sipush (v := nI 200) S.1 S.2.1 d_Mdl_compare_54 (by decide) ?_
          refine lv_iload_n S.1 S.2.1 d_Mdl_compare_57 rfl (lv_at hl 3 rfl) ?_
          refine lv_imul S.1 S.2.1 d_Mdl_compare_58 ?_
          refine lv_topi (fun v24 ev24 => ?_)
          replace ev24 : v24 = nI (200 * k) := ev24.trans (pk_mul _ _)
          subst ev24
          refine lv_iload S.1 S.2.1 d_Mdl_compare_59 (lv_at hl 6 rfl) ?_
          refine lv_iadd S.1 S.2.1 d_Mdl_compare_61 ?_
          refine lv_topi (fun v25 ev25 => ?_)
          replace ev25 : v25 = nI ((200 * k) + i) := ev25.trans (nI_add _ _)
          subst ev25
          refine gh_bald (j := (200 * k) + i) S hI 0 h2 rfl rfl (by omega) (by omega) d_Mdl_compare_62 ?_
          refine lv_sipush (v := nI 255) S.1 S.2.1 d_Mdl_compare_63 (by decide) ?_
          refine lv_iand S.1 S.2.1 d_Mdl_compare_66 ?_
          refine lv_topi (fun v26 ev26 => ?_)
          replace ev26 : v26 = nI (ub (gn (200 * k + i))) := ev26.trans (ub_nI _)
          subst ev26
          refine lv_istore (lv' := [(7, .int (nI (ub (gn (200 * k + i))))), (6, .int (nI (ub (gf (200 * q + i))))), (0, .ref b), (1, .int (nI q)), (2, .int (nI k)), (3, .int (nI nm2.length)), (4, .int (nI nm1.length)), (5, .int (nI i))]) S.1 S.2.1 d_Mdl_compare_67 hl (by decide) rfl (fun ls hl => ?_)
          refine lv_iload S.1 S.2.1 d_Mdl_compare_69 (lv_at hl 1 rfl) ?_
          refine lv_iload S.1 S.2.1 d_Mdl_compare_71 (lv_at hl 0 rfl) ?_
          have hu1 := ub_lt (gf (200 * q + i))
          have hu2 := ub_lt (gn (200 * k + i))
          refine lv_icmp_eq (tgt := 82) S.1 S.2.1 d_Mdl_compare_73 (by decide) (fun c27 => ?_) (fun c27 => ?_)
          · skip
            replace c27 : (ub (gf (200 * q + i))) = (ub (gn (200 * k + i))) := (nI_eq (a := ub (gf (200 * q + i))) (b := ub (gn (200 * k + i))) (by omega) (by omega)).mp c27
            refine lv_iinc (v := nI (i + 1)) (lv' := [(5, .int (nI (i + 1))), (7, .int (nI (ub (gn (200 * k + i))))), (6, .int (nI (ub (gf (200 * q + i))))), (0, .ref b), (1, .int (nI q)), (2, .int (nI k)), (3, .int (nI nm2.length)), (4, .int (nI nm1.length))]) S.1 S.2.1 d_Mdl_compare_82 hl (k := 7) rfl (nI_add _ _) (by decide) rfl (fun ls hl => ?_)
            refine lv_goto (tgt := 18) S.1 S.2.1 d_Mdl_compare_85 (by decide) ?_
            exact ih (i + 1) (by omega) (by omega) (by omega) (fun j hj => (Nat.lt_succ_iff_lt_or_eq.mp hj).elim (he j) (fun q9 => by rw [q9]; exact c27)) _ _ hI _ (lv_sub hl [3, 4, 5, 6, 7, 0] rfl)
          · skip
            replace c27 : ¬ (ub (gf (200 * q + i))) = (ub (gn (200 * k + i))) := fun z => c27 ((nI_eq (a := ub (gf (200 * q + i))) (b := ub (gn (200 * k + i))) (by omega) (by omega)).mpr z)
            refine lv_iload S.1 S.2.1 d_Mdl_compare_76 (lv_at hl 1 rfl) ?_
            refine lv_iload S.1 S.2.1 d_Mdl_compare_78 (lv_at hl 0 rfl) ?_
            refine lv_isub S.1 S.2.1 d_Mdl_compare_80 ?_
            exact gr_i S hr hlk hI (⟨by have z := cmp_diff (n := nm1.length) (m := nm2.length) (g := fun j => gf (200 * q + j)) (h := fun j => gn (200 * k + j)) (i := i) (by omega) (by omega) he c27; rw [e3, e6] at z; exact z, rfl⟩) d_Mdl_compare_81
  exact loop (nm1.length + 1) 0 (by omega) (by omega) (by omega) (fun j hj => absurd hj (by omega)) _ _ hI _ (lv_sub hl [3, 4, 5, 2, 1, 0] rfl)
set_option maxHeartbeats 4000000 in
set_option maxRecDepth 100000 in
theorem c_Mdl_find (l : Launch) (P : gPar) (f : gM) {b tl tot op td : Nat} {gn gl go gf gk : Nat → Int32} {k : Nat} {L : List Nat} {af : Nat → AFile} {nm : List Nat} (hb : f b = some (.inr (7, [.ref (b + 1), .int (nI tl), .ref (b + 2), .ref (b + 3), .ref (b + 4), .ref (b + 5), .ref (b + 6), .ref (b + 7), .ref (b + 8), .ref (b + 9), .ref (b + 10), .ref (b + 11), .int (nI L.length), .int (nI tot), .int (nI op), .ref (b + 12), .int (nI td)]))) (h2 : f (b + 2) = some (.inl (P.2.1 0, 400, .inl gn))) (h3 : f (b + 3) = some (.inl (P.2.1 1, 2, .inl gl))) (h4 : f (b + 4) = some (.inl (P.2.1 1, 48, .inl go))) (h6 : f (b + 6) = some (.inl (P.2.1 0, 9600, .inl gf))) (h7 : f (b + 7) = some (.inl (P.2.1 1, 48, .inl gk))) (hO : mOr go L) (hN : ∀ q ∈ L, q < 48 ∧ mNk gf gk q (af q).1) (h48 : L.length ≤ 48) (hk : k < 2) (hnk : mNk gn gl k nm) (hs : srt (nms af L)) : gC l P y_Mdl_find b_Mdl_find 3 (some .int) 1 0 0 [.ref b, .int (nI k)] f (gQi P (fun r f1 => ((idx (nms af L) nm = none ∧ r = (-1)) ∨ ∃ i q, idx (nms af L) nm = some i ∧ L[i]? = some q ∧ r = nI q) ∧ f1 = f)) := by
  refine gC_of (by decide) (Nat.le_of_ble_eq_true rfl) (fun p env s m args below meth c S hr hlk hnm H locs hI ls hl => ?_)
  have hl : lv_has ls 3 [(0, .ref b), (1, .int (nI k))] := hl
  refine lv_iconst (v := nI 0) S.1 S.2.1 d_Mdl_find_0 (by decide) ?_
  refine lv_istore_n (lv' := [(2, .int (nI 0)), (0, .ref b), (1, .int (nI k))]) S.1 S.2.1 d_Mdl_find_1 rfl hl (by decide) rfl (fun ls hl => ?_)
  have loop : ∀ (u i : Nat), i ≤ L.length → L.length - i < u → (∀ j, j < i → (nms af L)[j]? ≠ some nm) → ∀ (H : Heap) (locs : List Loc), gB P f s H locs → ∀ ls : Array Slot, lv_has ls 3 [(0, .ref b), (1, .int (nI k)), (2, .int (nI i))] → W p l env (grm 1 0 0) s m args below meth c H locs 0 0 (MQ below (gQi P (fun r f1 => ((idx (nms af L) nm = none ∧ r = (-1)) ∨ ∃ i q, idx (nms af L) nm = some i ∧ L[i]? = some q ∧ r = nI q) ∧ f1 = f)) args s 0 0 (gA P)) (F0 m 2 ls []) := by
    intro u
    induction u with
    | zero => intro i h9 h8; exact absurd h8 (by omega)
    | succ u ih =>
      intro i hi1 h8 he H locs hI ls hl
      refine lv_iload_n S.1 S.2.1 d_Mdl_find_2 rfl (lv_at hl 2 rfl) ?_
      refine lv_aload_n S.1 S.2.1 d_Mdl_find_3 rfl (lv_at hl 0 rfl) ?_
      refine gh_get S hI hb rfl i_Mdl 12 (by decide) wi_447 rfl d_Mdl_find_4 ?_
      refine lv_icmp_ge (tgt := 37) S.1 S.2.1 d_Mdl_find_7 (by decide) (fun c28 => ?_) (fun c28 => ?_)
      · skip
        replace c28 : L.length ≤ i := (nI_leI (a := L.length) (b := i) (by omega) (by omega)).mp c28
        refine lv_iconst (v := (-1)) S.1 S.2.1 d_Mdl_find_37 (by decide) ?_
        exact gr_i S hr hlk hI (⟨Or.inl ⟨idx_no (fun j z => by
            by_cases hj : j < i
            · exact he j hj z
            · rw [List.getElem?_eq_none (by simp [nms]; omega)] at z; cases z), rfl⟩, rfl⟩) d_Mdl_find_38
      · skip
        replace c28 : ¬ L.length ≤ i := fun z => c28 ((nI_leI (a := L.length) (b := i) (by omega) (by omega)).mpr z)
        obtain ⟨q, hq⟩ : ∃ q, L[i]? = some q := ⟨_, List.getElem?_eq_getElem (by omega)⟩
        have hqL := List.mem_of_getElem? hq
        have hni : (nms af L)[i]? = some (af q).1 := by rw [nms_get, hq]; rfl
        refine lv_aload_n S.1 S.2.1 d_Mdl_find_10 rfl (lv_at hl 0 rfl) ?_
        refine lv_aload_n S.1 S.2.1 d_Mdl_find_11 rfl (lv_at hl 0 rfl) ?_
        refine gh_get S hI hb rfl i_Mdl 4 (by decide) wi_439 rfl d_Mdl_find_12 ?_
        refine lv_iload_n S.1 S.2.1 d_Mdl_find_15 rfl (lv_at hl 2 rfl) ?_
        refine gh_iald (j := i) S hI 1 h4 rfl rfl (by omega) (by omega) d_Mdl_find_16 ?_
        refine lv_topi (fun v29 ev29 => ?_)
        replace ev29 : v29 = nI q := ev29.trans (hO i q hq)
        subst ev29
        refine lv_iload_n S.1 S.2.1 d_Mdl_find_17 rfl (lv_at hl 1 rfl) ?_
        refine gc_Vi S hI (c_Mdl_compare l P f hb h2 h3 h6 h7 (hN q hqL).1 hk (hN q hqL).2 hnk) kv_Mdl_compare wi_476 hb rfl rfl rfl hl.1 rfl (Nat.le_of_ble_eq_true rfl) ⟨Nat.le_of_ble_eq_true rfl, Nat.le_of_ble_eq_true rfl⟩ ⟨Nat.le_of_ble_eq_true rfl, Nat.le_of_ble_eq_true rfl⟩ d_Mdl_find_18 (fun r30 f31 H locs hp32 hI => ?_)
        obtain ⟨hcm, hc2⟩ := hp32
        rw [hc2] at hI
        refine lv_if_ne (tgt := 31) S.1 S.2.1 d_Mdl_find_21 (by decide) (fun c33 => ?_) (fun c33 => ?_)
        · skip
          refine lv_iinc (v := nI (i + 1)) (lv' := [(2, .int (nI (i + 1))), (0, .ref b), (1, .int (nI k))]) S.1 S.2.1 d_Mdl_find_31 hl (k := 2) rfl (nI_add _ _) (by decide) rfl (fun ls hl => ?_)
          refine lv_goto (tgt := 2) S.1 S.2.1 d_Mdl_find_34 (by decide) ?_
          exact ih (i + 1) (by omega) (by omega) (fun j hj => (Nat.lt_succ_iff_lt_or_eq.mp hj).elim (he j) (fun q9 => by rw [q9, hni]; exact fun z => c33 (hcm.eq.mpr (Option.some.inj z)))) _ _ hI _ (lv_sub hl [1, 2, 0] rfl)
        · skip
          refine lv_aload_n S.1 S.2.1 d_Mdl_find_24 rfl (lv_at hl 0 rfl) ?_
          refine gh_get S hI hb rfl i_Mdl 4 (by decide) wi_439 rfl d_Mdl_find_25 ?_
          refine lv_iload_n S.1 S.2.1 d_Mdl_find_28 rfl (lv_at hl 2 rfl) ?_
          refine gh_iald (j := i) S hI 1 h4 rfl rfl (by omega) (by omega) d_Mdl_find_29 ?_
          refine lv_topi (fun v34 ev34 => ?_)
          replace ev34 : v34 = nI q := ev34.trans (hO i q hq)
          subst ev34
          exact gr_i S hr hlk hI (⟨Or.inr ⟨i, q, idx_srt hs (by rw [hni, hcm.eq.mp c33]), hq, rfl⟩, rfl⟩) d_Mdl_find_30
  exact loop (L.length + 1) 0 (by omega) (by omega) (fun j hj => absurd hj (by omega)) _ _ hI _ (lv_sub hl [1, 2, 0] rfl)
set_option maxHeartbeats 4000000 in
set_option maxRecDepth 100000 in
theorem c_Mdl_stripes (l : Launch) (P : gPar) (f : gM) {b tl fl tot op td : Nat} {ga : Nat → Int32} {q : Nat} {ld : Nat → Bool} (hb : f b = some (.inr (7, [.ref (b + 1), .int (nI tl), .ref (b + 2), .ref (b + 3), .ref (b + 4), .ref (b + 5), .ref (b + 6), .ref (b + 7), .ref (b + 8), .ref (b + 9), .ref (b + 10), .ref (b + 11), .int (nI fl), .int (nI tot), .int (nI op), .ref (b + 12), .int (nI td)]))) (h11 : f (b + 11) = some (.inl (P.2.1 2, 912, .inl ga))) (hq : q < 48) (hL : ∀ s, s < 19 → ga (19 * q + s) = if ld s = true then 1 else 0) : gC l P y_Mdl_stripes b_Mdl_stripes 4 (some .int) 0 0 0 [.ref b, .int (nI q)] f (gQi P (fun r f1 => r = nI (cntL ld 19) ∧ f1 = f)) := by
  refine gC_of (by decide) (Nat.le_of_ble_eq_true rfl) (fun p env s m args below meth c S hr hlk hnm H locs hI ls hl => ?_)
  have hl : lv_has ls 4 [(0, .ref b), (1, .int (nI q))] := hl
  refine lv_iconst (v := nI 0) S.1 S.2.1 d_Mdl_stripes_0 (by decide) ?_
  refine lv_istore_n (lv' := [(2, .int (nI 0)), (0, .ref b), (1, .int (nI q))]) S.1 S.2.1 d_Mdl_stripes_1 rfl hl (by decide) rfl (fun ls hl => ?_)
  refine lv_iconst (v := nI 0) S.1 S.2.1 d_Mdl_stripes_2 (by decide) ?_
  refine lv_istore_n (lv' := [(3, .int (nI 0)), (2, .int (nI 0)), (0, .ref b), (1, .int (nI q))]) S.1 S.2.1 d_Mdl_stripes_3 rfl hl (by decide) rfl (fun ls hl => ?_)
  have loop : ∀ (u i : Nat), i ≤ 19 → 19 - i < u → ∀ (H : Heap) (locs : List Loc), gB P f s H locs → ∀ ls : Array Slot, lv_has ls 4 [(0, .ref b), (1, .int (nI q)), (2, .int (nI (cntL ld i))), (3, .int (nI i))] → W p l env (grm 0 0 0) s m args below meth c H locs 0 0 (MQ below (gQi P (fun r f1 => r = nI (cntL ld 19) ∧ f1 = f)) args s 0 0 (gA P)) (F0 m 4 ls []) := by
    intro u
    induction u with
    | zero => intro i h9 h8; exact absurd h8 (by omega)
    | succ u ih =>
      intro i hi1 h8 H locs hI ls hl
      refine lv_iload_n S.1 S.2.1 d_Mdl_stripes_4 rfl (lv_at hl 3 rfl) ?_
      refine lv_bipush (v := nI 19) S.1 S.2.1 d_Mdl_stripes_5 (by decide) ?_
      refine lv_icmp_ge (tgt := 38) S.1 S.2.1 d_Mdl_stripes_7 (by decide) (fun c35 => ?_) (fun c35 => ?_)
      · skip
        replace c35 : 19 ≤ i := (nI_leI (a := 19) (b := i) (by omega) (by omega)).mp c35
        refine lv_iload_n S.1 S.2.1 d_Mdl_stripes_38 rfl (lv_at hl 2 rfl) ?_
        exact gr_i S hr hlk hI (⟨by rw [show i = 19 by omega], rfl⟩) d_Mdl_stripes_39
      · skip
        replace c35 : ¬ 19 ≤ i := fun z => c35 ((nI_leI (a := 19) (b := i) (by omega) (by omega)).mpr z)
        refine lv_iload_n S.1 S.2.1 d_Mdl_stripes_10 rfl (lv_at hl 2 rfl) ?_
        refine lv_aload_n S.1 S.2.1 d_Mdl_stripes_11 rfl (lv_at hl 0 rfl) ?_
        refine gh_get S hI hb rfl i_Mdl 11 (by decide) wi_446 rfl d_Mdl_stripes_12 ?_
        refine lv_bipush (v := nI 19) S.1 S.2.1 d_Mdl_stripes_15 (by decide) ?_
        refine lv_iload_n S.1 S.2.1 d_Mdl_stripes_17 rfl (lv_at hl 1 rfl) ?_
        refine lv_imul S.1 S.2.1 d_Mdl_stripes_18 ?_
        refine lv_topi (fun v36 ev36 => ?_)
        replace ev36 : v36 = nI (19 * q) := ev36.trans (pk_mul _ _)
        subst ev36
        refine lv_iload_n S.1 S.2.1 d_Mdl_stripes_19 rfl (lv_at hl 3 rfl) ?_
        refine lv_iadd S.1 S.2.1 d_Mdl_stripes_20 ?_
        refine lv_topi (fun v37 ev37 => ?_)
        replace ev37 : v37 = nI ((19 * q) + i) := ev37.trans (nI_add _ _)
        subst ev37
        refine gh_zald (j := (19 * q) + i) S hI 2 h11 rfl rfl (by omega) (by omega) d_Mdl_stripes_21 ?_
        rcases hld : ld i with _ | _
        · skip
          refine lv_topi (fun v38 ev38 => ?_)
          replace ev38 : v38 = nI 0 := ev38.trans (by rw [hL i (by omega), hld]; rfl)
          subst ev38
          have ec : cntL ld (i + 1) = cntL ld i + 0 := by show cntL ld i + _ = _; rw [hld]; rfl
          refine lv_if_eq (tgt := 29) S.1 S.2.1 d_Mdl_stripes_22 (by decide) (fun c39 => ?_) (fun c39 => ?_)
          · skip
            replace c39 : 0 = 0 := (nI_eq (a := 0) (b := 0) (by omega) (by omega)).mp c39
            refine lv_iconst (v := nI 0) S.1 S.2.1 d_Mdl_stripes_29 (by decide) ?_
            refine lv_iadd S.1 S.2.1 d_Mdl_stripes_30 ?_
            refine lv_topi (fun v40 ev40 => ?_)
            replace ev40 : v40 = nI ((cntL ld i) + 0) := ev40.trans (nI_add _ _)
            subst ev40
            refine lv_istore_n (lv' := [(2, .int (nI ((cntL ld i) + 0))), (0, .ref b), (1, .int (nI q)), (3, .int (nI i))]) S.1 S.2.1 d_Mdl_stripes_31 rfl hl (by decide) rfl (fun ls hl => ?_)
            refine lv_iinc (v := nI (i + 1)) (lv' := [(3, .int (nI (i + 1))), (2, .int (nI ((cntL ld i) + 0))), (0, .ref b), (1, .int (nI q))]) S.1 S.2.1 d_Mdl_stripes_32 hl (k := 3) rfl (nI_add _ _) (by decide) rfl (fun ls hl => ?_)
            refine lv_goto (tgt := 4) S.1 S.2.1 d_Mdl_stripes_35 (by decide) ?_
            exact ih (i + 1) (by omega) (by omega) _ _ hI _ (by rw [ec]; exact lv_sub hl [2, 3, 1, 0] rfl)
          · skip
            replace c39 : ¬ 0 = 0 := fun z => c39 ((nI_eq (a := 0) (b := 0) (by omega) (by omega)).mpr z)
            exact absurd c39 (by omega)
        · skip
          refine lv_topi (fun v41 ev41 => ?_)
          replace ev41 : v41 = nI 1 := ev41.trans (by rw [hL i (by omega), hld]; rfl)
          subst ev41
          have ec : cntL ld (i + 1) = cntL ld i + 1 := by show cntL ld i + _ = _; rw [hld]; rfl
          refine lv_if_eq (tgt := 29) S.1 S.2.1 d_Mdl_stripes_22 (by decide) (fun c42 => ?_) (fun c42 => ?_)
          · skip
            replace c42 : 1 = 0 := (nI_eq (a := 1) (b := 0) (by omega) (by omega)).mp c42
            exact absurd c42 (by omega)
          · skip
            replace c42 : ¬ 1 = 0 := fun z => c42 ((nI_eq (a := 1) (b := 0) (by omega) (by omega)).mpr z)
            refine lv_iconst (v := nI 1) S.1 S.2.1 d_Mdl_stripes_25 (by decide) ?_
            refine lv_goto (tgt := 30) S.1 S.2.1 d_Mdl_stripes_26 (by decide) ?_
            refine lv_iadd S.1 S.2.1 d_Mdl_stripes_30 ?_
            refine lv_topi (fun v43 ev43 => ?_)
            replace ev43 : v43 = nI ((cntL ld i) + 1) := ev43.trans (nI_add _ _)
            subst ev43
            refine lv_istore_n (lv' := [(2, .int (nI ((cntL ld i) + 1))), (0, .ref b), (1, .int (nI q)), (3, .int (nI i))]) S.1 S.2.1 d_Mdl_stripes_31 rfl hl (by decide) rfl (fun ls hl => ?_)
            refine lv_iinc (v := nI (i + 1)) (lv' := [(3, .int (nI (i + 1))), (2, .int (nI ((cntL ld i) + 1))), (0, .ref b), (1, .int (nI q))]) S.1 S.2.1 d_Mdl_stripes_32 hl (k := 3) rfl (nI_add _ _) (by decide) rfl (fun ls hl => ?_)
            refine lv_goto (tgt := 4) S.1 S.2.1 d_Mdl_stripes_35 (by decide) ?_
            exact ih (i + 1) (by omega) (by omega) _ _ hI _ (by rw [ec]; exact lv_sub hl [2, 3, 1, 0] rfl)
  exact loop 20 0 (by omega) (by omega) _ _ hI _ (lv_sub hl [2, 3, 1, 0] rfl)
set_option maxHeartbeats 4000000 in
set_option maxRecDepth 100000 in
theorem c_Mdl_put (l : Launch) (P : gPar) (f : gM) {b tl fl tot op td : Nat} {gt : Nat → Int32} {x : Int32} (hb : f b = some (.inr (7, [.ref (b + 1), .int (nI tl), .ref (b + 2), .ref (b + 3), .ref (b + 4), .ref (b + 5), .ref (b + 6), .ref (b + 7), .ref (b + 8), .ref (b + 9), .ref (b + 10), .ref (b + 11), .int (nI fl), .int (nI tot), .int (nI op), .ref (b + 12), .int (nI td)]))) (h1 : f (b + 1) = some (.inl (P.2.1 0, 2048, .inl gt))) (ht : tl + 4 ≤ 2048) : gC l P y_Mdl_put b_Mdl_put 3 none 0 0 0 [.ref b, .int x] f (gQv P (fun f1 => ∃ g1, f1 b = some (.inr (7, [.ref (b + 1), .int (nI (tl + 1 + 1 + 1 + 1)), .ref (b + 2), .ref (b + 3), .ref (b + 4), .ref (b + 5), .ref (b + 6), .ref (b + 7), .ref (b + 8), .ref (b + 9), .ref (b + 10), .ref (b + 11), .int (nI fl), .int (nI tot), .int (nI op), .ref (b + 12), .int (nI td)])) ∧ f1 (b + 1) = some (.inl (P.2.1 0, 2048, .inl g1)) ∧ nmL (tl + 4) g1 = nmL tl gt ++ w4 x ∧ gFr f f1 [b, b + 1])) := by
  refine gC_of (by decide) (Nat.le_of_ble_eq_true rfl) (fun p env s m args below meth c S hr hlk hnm H locs hI ls hl => ?_)
  have hl : lv_has ls 3 [(0, .ref b), (1, .int x)] := hl
  have hF : gFr f f [b, b + 1] := gFr.rf
  refine lv_bipush (v := nI 24) S.1 S.2.1 d_Mdl_put_0 (by decide) ?_
  refine lv_istore_n (lv' := [(2, .int (nI 24)), (0, .ref b), (1, .int x)]) S.1 S.2.1 d_Mdl_put_2 rfl hl (by decide) rfl (fun ls hl => ?_)
  refine lv_iload_n S.1 S.2.1 d_Mdl_put_3 rfl (lv_at hl 0 rfl) ?_
  refine lv_if_lt (tgt := 36) S.1 S.2.1 d_Mdl_put_4 (by decide) (fun c44 => ?_) (fun c44 => ?_)
  · skip
    replace c44 : 24 < 0 := (nI_ltI (a := 24) (b := 0) (by omega) (by omega)).mp c44
    exact absurd c44 (by omega)
  · skip
    replace c44 : ¬ 24 < 0 := fun z => c44 ((nI_ltI (a := 24) (b := 0) (by omega) (by omega)).mpr z)
    refine lv_aload_n S.1 S.2.1 d_Mdl_put_7 rfl (lv_at hl 1 rfl) ?_
    refine gh_get S hI hb rfl i_Mdl 0 (by decide) wi_435 rfl d_Mdl_put_8 ?_
    refine lv_aload_n S.1 S.2.1 d_Mdl_put_11 rfl (lv_at hl 1 rfl) ?_
    refine gh_get S hI hb rfl i_Mdl 1 (by decide) wi_436 rfl d_Mdl_put_12 ?_
    refine lv_iload_n S.1 S.2.1 d_Mdl_put_15 rfl (lv_at hl 2 rfl) ?_
    refine lv_iload_n S.1 S.2.1 d_Mdl_put_16 rfl (lv_at hl 0 rfl) ?_
    refine lv_ishr S.1 S.2.1 d_Mdl_put_17 ?_
    refine lv_i2b (v := Int8.toInt32 (Int32.toInt8 (x >>> ((nI 24) &&& 31)))) S.1 S.2.1 d_Mdl_put_18 rfl ?_
    refine gh_bast (j := tl) S hI 0 h1 rfl rfl (by omega) (by omega) d_Mdl_put_19 (fun H locs hI => ?_)
    have hI : gB P (va_up f (b + 1) (some (.inl (P.2.1 0, 2048, .inl (upd gt tl (Int8.toInt32 (Int32.toInt8 (Int8.toInt32 (Int32.toInt8 (x >>> ((nI 24) &&& 31))))))))))) s H locs := hI
    obtain ⟨f45, ef45⟩ : ∃ z, z = va_up f (b + 1) (some (.inl (P.2.1 0, 2048, .inl (upd gt tl (Int8.toInt32 (Int32.toInt8 (Int8.toInt32 (Int32.toInt8 (x >>> ((nI 24) &&& 31)))))))))) := ⟨_, rfl⟩
    rw [← ef45] at hI
    have h46 : f45 b = some (.inr (7, [.ref (b + 1), .int (nI tl), .ref (b + 2), .ref (b + 3), .ref (b + 4), .ref (b + 5), .ref (b + 6), .ref (b + 7), .ref (b + 8), .ref (b + 9), .ref (b + 10), .ref (b + 11), .int (nI fl), .int (nI tot), .int (nI op), .ref (b + 12), .int (nI td)])) := by rw [ef45, va_up_ne _ _ (by omega)]; exact hb
    have h47 : f45 (b + 1) = some (.inl (P.2.1 0, 2048, .inl (upd gt tl (Int8.toInt32 (Int32.toInt8 (Int8.toInt32 (Int32.toInt8 (x >>> ((nI 24) &&& 31))))))))) := by rw [ef45]; exact va_up_self _ _ _
    have hF : gFr f f45 [b, b + 1] := by rw [ef45]; exact gFr.upA (by simp) hF
    refine lv_aload_n S.1 S.2.1 d_Mdl_put_20 rfl (lv_at hl 1 rfl) ?_
    refine lv_dup S.1 S.2.1 d_Mdl_put_21 rfl ?_
    refine gh_get S hI h46 rfl i_Mdl 1 (by decide) wi_436 rfl d_Mdl_put_22 ?_
    refine lv_iconst (v := nI 1) S.1 S.2.1 d_Mdl_put_25 (by decide) ?_
    refine lv_iadd S.1 S.2.1 d_Mdl_put_26 ?_
    refine lv_topi (fun v48 ev48 => ?_)
    replace ev48 : v48 = nI (tl + 1) := ev48.trans (nI_add _ _)
    subst ev48
    refine gh_put S hI h46 rfl i_Mdl t_Mdl tk_Mdl n_Mdl 1 (by decide) wi_436 rfl rfl rfl (Nat.le_of_ble_eq_true rfl) d_Mdl_put_27 (fun H locs hI => ?_)
    have hI : gB P (va_up f45 b (some (.inr (7, [.ref (b + 1), .int (nI (tl + 1)), .ref (b + 2), .ref (b + 3), .ref (b + 4), .ref (b + 5), .ref (b + 6), .ref (b + 7), .ref (b + 8), .ref (b + 9), .ref (b + 10), .ref (b + 11), .int (nI fl), .int (nI tot), .int (nI op), .ref (b + 12), .int (nI td)])))) s H locs := hI
    obtain ⟨f49, ef49⟩ : ∃ z, z = va_up f45 b (some (.inr (7, [.ref (b + 1), .int (nI (tl + 1)), .ref (b + 2), .ref (b + 3), .ref (b + 4), .ref (b + 5), .ref (b + 6), .ref (b + 7), .ref (b + 8), .ref (b + 9), .ref (b + 10), .ref (b + 11), .int (nI fl), .int (nI tot), .int (nI op), .ref (b + 12), .int (nI td)]))) := ⟨_, rfl⟩
    rw [← ef49] at hI
    have h50 : f49 (b + 1) = some (.inl (P.2.1 0, 2048, .inl (upd gt tl (Int8.toInt32 (Int32.toInt8 (Int8.toInt32 (Int32.toInt8 (x >>> ((nI 24) &&& 31))))))))) := by rw [ef49, va_up_ne _ _ (by omega)]; exact h47
    have h51 : f49 b = some (.inr (7, [.ref (b + 1), .int (nI (tl + 1)), .ref (b + 2), .ref (b + 3), .ref (b + 4), .ref (b + 5), .ref (b + 6), .ref (b + 7), .ref (b + 8), .ref (b + 9), .ref (b + 10), .ref (b + 11), .int (nI fl), .int (nI tot), .int (nI op), .ref (b + 12), .int (nI td)])) := by rw [ef49]; exact va_up_self _ _ _
    have hF : gFr f f49 [b, b + 1] := by rw [ef49]; exact gFr.upA (by simp) hF
    refine lv_iinc (v := nI 16) (lv' := [(2, .int (nI 16)), (0, .ref b), (1, .int x)]) S.1 S.2.1 d_Mdl_put_30 hl (k := 0) rfl (by decide) (by decide) rfl (fun ls hl => ?_)
    refine lv_goto (tgt := 3) S.1 S.2.1 d_Mdl_put_33 (by decide) ?_
    refine lv_iload_n S.1 S.2.1 d_Mdl_put_3 rfl (lv_at hl 0 rfl) ?_
    refine lv_if_lt (tgt := 36) S.1 S.2.1 d_Mdl_put_4 (by decide) (fun c52 => ?_) (fun c52 => ?_)
    · skip
      replace c52 : 16 < 0 := (nI_ltI (a := 16) (b := 0) (by omega) (by omega)).mp c52
      exact absurd c52 (by omega)
    · skip
      replace c52 : ¬ 16 < 0 := fun z => c52 ((nI_ltI (a := 16) (b := 0) (by omega) (by omega)).mpr z)
      refine lv_aload_n S.1 S.2.1 d_Mdl_put_7 rfl (lv_at hl 1 rfl) ?_
      refine gh_get S hI h51 rfl i_Mdl 0 (by decide) wi_435 rfl d_Mdl_put_8 ?_
      refine lv_aload_n S.1 S.2.1 d_Mdl_put_11 rfl (lv_at hl 1 rfl) ?_
      refine gh_get S hI h51 rfl i_Mdl 1 (by decide) wi_436 rfl d_Mdl_put_12 ?_
      refine lv_iload_n S.1 S.2.1 d_Mdl_put_15 rfl (lv_at hl 2 rfl) ?_
      refine lv_iload_n S.1 S.2.1 d_Mdl_put_16 rfl (lv_at hl 0 rfl) ?_
      refine lv_ishr S.1 S.2.1 d_Mdl_put_17 ?_
      refine lv_i2b (v := Int8.toInt32 (Int32.toInt8 (x >>> ((nI 16) &&& 31)))) S.1 S.2.1 d_Mdl_put_18 rfl ?_
      refine gh_bast (j := tl + 1) S hI 0 h50 rfl rfl (by omega) (by omega) d_Mdl_put_19 (fun H locs hI => ?_)
      have hI : gB P (va_up f49 (b + 1) (some (.inl (P.2.1 0, 2048, .inl (upd (upd gt tl (Int8.toInt32 (Int32.toInt8 (Int8.toInt32 (Int32.toInt8 (x >>> ((nI 24) &&& 31))))))) (tl + 1) (Int8.toInt32 (Int32.toInt8 (Int8.toInt32 (Int32.toInt8 (x >>> ((nI 16) &&& 31))))))))))) s H locs := hI
      obtain ⟨f53, ef53⟩ : ∃ z, z = va_up f49 (b + 1) (some (.inl (P.2.1 0, 2048, .inl (upd (upd gt tl (Int8.toInt32 (Int32.toInt8 (Int8.toInt32 (Int32.toInt8 (x >>> ((nI 24) &&& 31))))))) (tl + 1) (Int8.toInt32 (Int32.toInt8 (Int8.toInt32 (Int32.toInt8 (x >>> ((nI 16) &&& 31)))))))))) := ⟨_, rfl⟩
      rw [← ef53] at hI
      have h54 : f53 b = some (.inr (7, [.ref (b + 1), .int (nI (tl + 1)), .ref (b + 2), .ref (b + 3), .ref (b + 4), .ref (b + 5), .ref (b + 6), .ref (b + 7), .ref (b + 8), .ref (b + 9), .ref (b + 10), .ref (b + 11), .int (nI fl), .int (nI tot), .int (nI op), .ref (b + 12), .int (nI td)])) := by rw [ef53, va_up_ne _ _ (by omega)]; exact h51
      have h55 : f53 (b + 1) = some (.inl (P.2.1 0, 2048, .inl (upd (upd gt tl (Int8.toInt32 (Int32.toInt8 (Int8.toInt32 (Int32.toInt8 (x >>> ((nI 24) &&& 31))))))) (tl + 1) (Int8.toInt32 (Int32.toInt8 (Int8.toInt32 (Int32.toInt8 (x >>> ((nI 16) &&& 31))))))))) := by rw [ef53]; exact va_up_self _ _ _
      have hF : gFr f f53 [b, b + 1] := by rw [ef53]; exact gFr.upA (by simp) hF
      refine lv_aload_n S.1 S.2.1 d_Mdl_put_20 rfl (lv_at hl 1 rfl) ?_
      refine lv_dup S.1 S.2.1 d_Mdl_put_21 rfl ?_
      refine gh_get S hI h54 rfl i_Mdl 1 (by decide) wi_436 rfl d_Mdl_put_22 ?_
      refine lv_iconst (v := nI 1) S.1 S.2.1 d_Mdl_put_25 (by decide) ?_
      refine lv_iadd S.1 S.2.1 d_Mdl_put_26 ?_
      refine lv_topi (fun v56 ev56 => ?_)
      replace ev56 : v56 = nI ((tl + 1) + 1) := ev56.trans (nI_add _ _)
      subst ev56
      refine gh_put S hI h54 rfl i_Mdl t_Mdl tk_Mdl n_Mdl 1 (by decide) wi_436 rfl rfl rfl (Nat.le_of_ble_eq_true rfl) d_Mdl_put_27 (fun H locs hI => ?_)
      have hI : gB P (va_up f53 b (some (.inr (7, [.ref (b + 1), .int (nI ((tl + 1) + 1)), .ref (b + 2), .ref (b + 3), .ref (b + 4), .ref (b + 5), .ref (b + 6), .ref (b + 7), .ref (b + 8), .ref (b + 9), .ref (b + 10), .ref (b + 11), .int (nI fl), .int (nI tot), .int (nI op), .ref (b + 12), .int (nI td)])))) s H locs := hI
      obtain ⟨f57, ef57⟩ : ∃ z, z = va_up f53 b (some (.inr (7, [.ref (b + 1), .int (nI ((tl + 1) + 1)), .ref (b + 2), .ref (b + 3), .ref (b + 4), .ref (b + 5), .ref (b + 6), .ref (b + 7), .ref (b + 8), .ref (b + 9), .ref (b + 10), .ref (b + 11), .int (nI fl), .int (nI tot), .int (nI op), .ref (b + 12), .int (nI td)]))) := ⟨_, rfl⟩
      rw [← ef57] at hI
      have h58 : f57 (b + 1) = some (.inl (P.2.1 0, 2048, .inl (upd (upd gt tl (Int8.toInt32 (Int32.toInt8 (Int8.toInt32 (Int32.toInt8 (x >>> ((nI 24) &&& 31))))))) (tl + 1) (Int8.toInt32 (Int32.toInt8 (Int8.toInt32 (Int32.toInt8 (x >>> ((nI 16) &&& 31))))))))) := by rw [ef57, va_up_ne _ _ (by omega)]; exact h55
      have h59 : f57 b = some (.inr (7, [.ref (b + 1), .int (nI ((tl + 1) + 1)), .ref (b + 2), .ref (b + 3), .ref (b + 4), .ref (b + 5), .ref (b + 6), .ref (b + 7), .ref (b + 8), .ref (b + 9), .ref (b + 10), .ref (b + 11), .int (nI fl), .int (nI tot), .int (nI op), .ref (b + 12), .int (nI td)])) := by rw [ef57]; exact va_up_self _ _ _
      have hF : gFr f f57 [b, b + 1] := by rw [ef57]; exact gFr.upA (by simp) hF
      refine lv_iinc (v := nI 8) (lv' := [(2, .int (nI 8)), (0, .ref b), (1, .int x)]) S.1 S.2.1 d_Mdl_put_30 hl (k := 0) rfl (by decide) (by decide) rfl (fun ls hl => ?_)
      refine lv_goto (tgt := 3) S.1 S.2.1 d_Mdl_put_33 (by decide) ?_
      refine lv_iload_n S.1 S.2.1 d_Mdl_put_3 rfl (lv_at hl 0 rfl) ?_
      refine lv_if_lt (tgt := 36) S.1 S.2.1 d_Mdl_put_4 (by decide) (fun c60 => ?_) (fun c60 => ?_)
      · skip
        replace c60 : 8 < 0 := (nI_ltI (a := 8) (b := 0) (by omega) (by omega)).mp c60
        exact absurd c60 (by omega)
      · skip
        replace c60 : ¬ 8 < 0 := fun z => c60 ((nI_ltI (a := 8) (b := 0) (by omega) (by omega)).mpr z)
        refine lv_aload_n S.1 S.2.1 d_Mdl_put_7 rfl (lv_at hl 1 rfl) ?_
        refine gh_get S hI h59 rfl i_Mdl 0 (by decide) wi_435 rfl d_Mdl_put_8 ?_
        refine lv_aload_n S.1 S.2.1 d_Mdl_put_11 rfl (lv_at hl 1 rfl) ?_
        refine gh_get S hI h59 rfl i_Mdl 1 (by decide) wi_436 rfl d_Mdl_put_12 ?_
        refine lv_iload_n S.1 S.2.1 d_Mdl_put_15 rfl (lv_at hl 2 rfl) ?_
        refine lv_iload_n S.1 S.2.1 d_Mdl_put_16 rfl (lv_at hl 0 rfl) ?_
        refine lv_ishr S.1 S.2.1 d_Mdl_put_17 ?_
        refine lv_i2b (v := Int8.toInt32 (Int32.toInt8 (x >>> ((nI 8) &&& 31)))) S.1 S.2.1 d_Mdl_put_18 rfl ?_
        refine gh_bast (j := (tl + 1) + 1) S hI 0 h58 rfl rfl (by omega) (by omega) d_Mdl_put_19 (fun H locs hI => ?_)
        have hI : gB P (va_up f57 (b + 1) (some (.inl (P.2.1 0, 2048, .inl (upd (upd (upd gt tl (Int8.toInt32 (Int32.toInt8 (Int8.toInt32 (Int32.toInt8 (x >>> ((nI 24) &&& 31))))))) (tl + 1) (Int8.toInt32 (Int32.toInt8 (Int8.toInt32 (Int32.toInt8 (x >>> ((nI 16) &&& 31))))))) ((tl + 1) + 1) (Int8.toInt32 (Int32.toInt8 (Int8.toInt32 (Int32.toInt8 (x >>> ((nI 8) &&& 31))))))))))) s H locs := hI
        obtain ⟨f61, ef61⟩ : ∃ z, z = va_up f57 (b + 1) (some (.inl (P.2.1 0, 2048, .inl (upd (upd (upd gt tl (Int8.toInt32 (Int32.toInt8 (Int8.toInt32 (Int32.toInt8 (x >>> ((nI 24) &&& 31))))))) (tl + 1) (Int8.toInt32 (Int32.toInt8 (Int8.toInt32 (Int32.toInt8 (x >>> ((nI 16) &&& 31))))))) ((tl + 1) + 1) (Int8.toInt32 (Int32.toInt8 (Int8.toInt32 (Int32.toInt8 (x >>> ((nI 8) &&& 31)))))))))) := ⟨_, rfl⟩
        rw [← ef61] at hI
        have h62 : f61 b = some (.inr (7, [.ref (b + 1), .int (nI ((tl + 1) + 1)), .ref (b + 2), .ref (b + 3), .ref (b + 4), .ref (b + 5), .ref (b + 6), .ref (b + 7), .ref (b + 8), .ref (b + 9), .ref (b + 10), .ref (b + 11), .int (nI fl), .int (nI tot), .int (nI op), .ref (b + 12), .int (nI td)])) := by rw [ef61, va_up_ne _ _ (by omega)]; exact h59
        have h63 : f61 (b + 1) = some (.inl (P.2.1 0, 2048, .inl (upd (upd (upd gt tl (Int8.toInt32 (Int32.toInt8 (Int8.toInt32 (Int32.toInt8 (x >>> ((nI 24) &&& 31))))))) (tl + 1) (Int8.toInt32 (Int32.toInt8 (Int8.toInt32 (Int32.toInt8 (x >>> ((nI 16) &&& 31))))))) ((tl + 1) + 1) (Int8.toInt32 (Int32.toInt8 (Int8.toInt32 (Int32.toInt8 (x >>> ((nI 8) &&& 31))))))))) := by rw [ef61]; exact va_up_self _ _ _
        have hF : gFr f f61 [b, b + 1] := by rw [ef61]; exact gFr.upA (by simp) hF
        refine lv_aload_n S.1 S.2.1 d_Mdl_put_20 rfl (lv_at hl 1 rfl) ?_
        refine lv_dup S.1 S.2.1 d_Mdl_put_21 rfl ?_
        refine gh_get S hI h62 rfl i_Mdl 1 (by decide) wi_436 rfl d_Mdl_put_22 ?_
        refine lv_iconst (v := nI 1) S.1 S.2.1 d_Mdl_put_25 (by decide) ?_
        refine lv_iadd S.1 S.2.1 d_Mdl_put_26 ?_
        refine lv_topi (fun v64 ev64 => ?_)
        replace ev64 : v64 = nI (((tl + 1) + 1) + 1) := ev64.trans (nI_add _ _)
        subst ev64
        refine gh_put S hI h62 rfl i_Mdl t_Mdl tk_Mdl n_Mdl 1 (by decide) wi_436 rfl rfl rfl (Nat.le_of_ble_eq_true rfl) d_Mdl_put_27 (fun H locs hI => ?_)
        have hI : gB P (va_up f61 b (some (.inr (7, [.ref (b + 1), .int (nI (((tl + 1) + 1) + 1)), .ref (b + 2), .ref (b + 3), .ref (b + 4), .ref (b + 5), .ref (b + 6), .ref (b + 7), .ref (b + 8), .ref (b + 9), .ref (b + 10), .ref (b + 11), .int (nI fl), .int (nI tot), .int (nI op), .ref (b + 12), .int (nI td)])))) s H locs := hI
        obtain ⟨f65, ef65⟩ : ∃ z, z = va_up f61 b (some (.inr (7, [.ref (b + 1), .int (nI (((tl + 1) + 1) + 1)), .ref (b + 2), .ref (b + 3), .ref (b + 4), .ref (b + 5), .ref (b + 6), .ref (b + 7), .ref (b + 8), .ref (b + 9), .ref (b + 10), .ref (b + 11), .int (nI fl), .int (nI tot), .int (nI op), .ref (b + 12), .int (nI td)]))) := ⟨_, rfl⟩
        rw [← ef65] at hI
        have h66 : f65 (b + 1) = some (.inl (P.2.1 0, 2048, .inl (upd (upd (upd gt tl (Int8.toInt32 (Int32.toInt8 (Int8.toInt32 (Int32.toInt8 (x >>> ((nI 24) &&& 31))))))) (tl + 1) (Int8.toInt32 (Int32.toInt8 (Int8.toInt32 (Int32.toInt8 (x >>> ((nI 16) &&& 31))))))) ((tl + 1) + 1) (Int8.toInt32 (Int32.toInt8 (Int8.toInt32 (Int32.toInt8 (x >>> ((nI 8) &&& 31))))))))) := by rw [ef65, va_up_ne _ _ (by omega)]; exact h63
        have h67 : f65 b = some (.inr (7, [.ref (b + 1), .int (nI (((tl + 1) + 1) + 1)), .ref (b + 2), .ref (b + 3), .ref (b + 4), .ref (b + 5), .ref (b + 6), .ref (b + 7), .ref (b + 8), .ref (b + 9), .ref (b + 10), .ref (b + 11), .int (nI fl), .int (nI tot), .int (nI op), .ref (b + 12), .int (nI td)])) := by rw [ef65]; exact va_up_self _ _ _
        have hF : gFr f f65 [b, b + 1] := by rw [ef65]; exact gFr.upA (by simp) hF
        refine lv_iinc (v := nI 0) (lv' := [(2, .int (nI 0)), (0, .ref b), (1, .int x)]) S.1 S.2.1 d_Mdl_put_30 hl (k := 0) rfl (by decide) (by decide) rfl (fun ls hl => ?_)
        refine lv_goto (tgt := 3) S.1 S.2.1 d_Mdl_put_33 (by decide) ?_
        refine lv_iload_n S.1 S.2.1 d_Mdl_put_3 rfl (lv_at hl 0 rfl) ?_
        refine lv_if_lt (tgt := 36) S.1 S.2.1 d_Mdl_put_4 (by decide) (fun c68 => ?_) (fun c68 => ?_)
        · skip
          replace c68 : 0 < 0 := (nI_ltI (a := 0) (b := 0) (by omega) (by omega)).mp c68
          exact absurd c68 (by omega)
        · skip
          replace c68 : ¬ 0 < 0 := fun z => c68 ((nI_ltI (a := 0) (b := 0) (by omega) (by omega)).mpr z)
          refine lv_aload_n S.1 S.2.1 d_Mdl_put_7 rfl (lv_at hl 1 rfl) ?_
          refine gh_get S hI h67 rfl i_Mdl 0 (by decide) wi_435 rfl d_Mdl_put_8 ?_
          refine lv_aload_n S.1 S.2.1 d_Mdl_put_11 rfl (lv_at hl 1 rfl) ?_
          refine gh_get S hI h67 rfl i_Mdl 1 (by decide) wi_436 rfl d_Mdl_put_12 ?_
          refine lv_iload_n S.1 S.2.1 d_Mdl_put_15 rfl (lv_at hl 2 rfl) ?_
          refine lv_iload_n S.1 S.2.1 d_Mdl_put_16 rfl (lv_at hl 0 rfl) ?_
          refine lv_ishr S.1 S.2.1 d_Mdl_put_17 ?_
          refine lv_i2b (v := Int8.toInt32 (Int32.toInt8 (x >>> ((nI 0) &&& 31)))) S.1 S.2.1 d_Mdl_put_18 rfl ?_
          refine gh_bast (j := ((tl + 1) + 1) + 1) S hI 0 h66 rfl rfl (by omega) (by omega) d_Mdl_put_19 (fun H locs hI => ?_)
          have hI : gB P (va_up f65 (b + 1) (some (.inl (P.2.1 0, 2048, .inl (upd (upd (upd (upd gt tl (Int8.toInt32 (Int32.toInt8 (Int8.toInt32 (Int32.toInt8 (x >>> ((nI 24) &&& 31))))))) (tl + 1) (Int8.toInt32 (Int32.toInt8 (Int8.toInt32 (Int32.toInt8 (x >>> ((nI 16) &&& 31))))))) ((tl + 1) + 1) (Int8.toInt32 (Int32.toInt8 (Int8.toInt32 (Int32.toInt8 (x >>> ((nI 8) &&& 31))))))) (((tl + 1) + 1) + 1) (Int8.toInt32 (Int32.toInt8 (Int8.toInt32 (Int32.toInt8 (x >>> ((nI 0) &&& 31))))))))))) s H locs := hI
          obtain ⟨f69, ef69⟩ : ∃ z, z = va_up f65 (b + 1) (some (.inl (P.2.1 0, 2048, .inl (upd (upd (upd (upd gt tl (Int8.toInt32 (Int32.toInt8 (Int8.toInt32 (Int32.toInt8 (x >>> ((nI 24) &&& 31))))))) (tl + 1) (Int8.toInt32 (Int32.toInt8 (Int8.toInt32 (Int32.toInt8 (x >>> ((nI 16) &&& 31))))))) ((tl + 1) + 1) (Int8.toInt32 (Int32.toInt8 (Int8.toInt32 (Int32.toInt8 (x >>> ((nI 8) &&& 31))))))) (((tl + 1) + 1) + 1) (Int8.toInt32 (Int32.toInt8 (Int8.toInt32 (Int32.toInt8 (x >>> ((nI 0) &&& 31)))))))))) := ⟨_, rfl⟩
          rw [← ef69] at hI
          have h70 : f69 b = some (.inr (7, [.ref (b + 1), .int (nI (((tl + 1) + 1) + 1)), .ref (b + 2), .ref (b + 3), .ref (b + 4), .ref (b + 5), .ref (b + 6), .ref (b + 7), .ref (b + 8), .ref (b + 9), .ref (b + 10), .ref (b + 11), .int (nI fl), .int (nI tot), .int (nI op), .ref (b + 12), .int (nI td)])) := by rw [ef69, va_up_ne _ _ (by omega)]; exact h67
          have h71 : f69 (b + 1) = some (.inl (P.2.1 0, 2048, .inl (upd (upd (upd (upd gt tl (Int8.toInt32 (Int32.toInt8 (Int8.toInt32 (Int32.toInt8 (x >>> ((nI 24) &&& 31))))))) (tl + 1) (Int8.toInt32 (Int32.toInt8 (Int8.toInt32 (Int32.toInt8 (x >>> ((nI 16) &&& 31))))))) ((tl + 1) + 1) (Int8.toInt32 (Int32.toInt8 (Int8.toInt32 (Int32.toInt8 (x >>> ((nI 8) &&& 31))))))) (((tl + 1) + 1) + 1) (Int8.toInt32 (Int32.toInt8 (Int8.toInt32 (Int32.toInt8 (x >>> ((nI 0) &&& 31))))))))) := by rw [ef69]; exact va_up_self _ _ _
          have hF : gFr f f69 [b, b + 1] := by rw [ef69]; exact gFr.upA (by simp) hF
          refine lv_aload_n S.1 S.2.1 d_Mdl_put_20 rfl (lv_at hl 1 rfl) ?_
          refine lv_dup S.1 S.2.1 d_Mdl_put_21 rfl ?_
          refine gh_get S hI h70 rfl i_Mdl 1 (by decide) wi_436 rfl d_Mdl_put_22 ?_
          refine lv_iconst (v := nI 1) S.1 S.2.1 d_Mdl_put_25 (by decide) ?_
          refine lv_iadd S.1 S.2.1 d_Mdl_put_26 ?_
          refine lv_topi (fun v72 ev72 => ?_)
          replace ev72 : v72 = nI ((((tl + 1) + 1) + 1) + 1) := ev72.trans (nI_add _ _)
          subst ev72
          refine gh_put S hI h70 rfl i_Mdl t_Mdl tk_Mdl n_Mdl 1 (by decide) wi_436 rfl rfl rfl (Nat.le_of_ble_eq_true rfl) d_Mdl_put_27 (fun H locs hI => ?_)
          have hI : gB P (va_up f69 b (some (.inr (7, [.ref (b + 1), .int (nI ((((tl + 1) + 1) + 1) + 1)), .ref (b + 2), .ref (b + 3), .ref (b + 4), .ref (b + 5), .ref (b + 6), .ref (b + 7), .ref (b + 8), .ref (b + 9), .ref (b + 10), .ref (b + 11), .int (nI fl), .int (nI tot), .int (nI op), .ref (b + 12), .int (nI td)])))) s H locs := hI
          obtain ⟨f73, ef73⟩ : ∃ z, z = va_up f69 b (some (.inr (7, [.ref (b + 1), .int (nI ((((tl + 1) + 1) + 1) + 1)), .ref (b + 2), .ref (b + 3), .ref (b + 4), .ref (b + 5), .ref (b + 6), .ref (b + 7), .ref (b + 8), .ref (b + 9), .ref (b + 10), .ref (b + 11), .int (nI fl), .int (nI tot), .int (nI op), .ref (b + 12), .int (nI td)]))) := ⟨_, rfl⟩
          rw [← ef73] at hI
          have h74 : f73 (b + 1) = some (.inl (P.2.1 0, 2048, .inl (upd (upd (upd (upd gt tl (Int8.toInt32 (Int32.toInt8 (Int8.toInt32 (Int32.toInt8 (x >>> ((nI 24) &&& 31))))))) (tl + 1) (Int8.toInt32 (Int32.toInt8 (Int8.toInt32 (Int32.toInt8 (x >>> ((nI 16) &&& 31))))))) ((tl + 1) + 1) (Int8.toInt32 (Int32.toInt8 (Int8.toInt32 (Int32.toInt8 (x >>> ((nI 8) &&& 31))))))) (((tl + 1) + 1) + 1) (Int8.toInt32 (Int32.toInt8 (Int8.toInt32 (Int32.toInt8 (x >>> ((nI 0) &&& 31))))))))) := by rw [ef73, va_up_ne _ _ (by omega)]; exact h71
          have h75 : f73 b = some (.inr (7, [.ref (b + 1), .int (nI ((((tl + 1) + 1) + 1) + 1)), .ref (b + 2), .ref (b + 3), .ref (b + 4), .ref (b + 5), .ref (b + 6), .ref (b + 7), .ref (b + 8), .ref (b + 9), .ref (b + 10), .ref (b + 11), .int (nI fl), .int (nI tot), .int (nI op), .ref (b + 12), .int (nI td)])) := by rw [ef73]; exact va_up_self _ _ _
          have hF : gFr f f73 [b, b + 1] := by rw [ef73]; exact gFr.upA (by simp) hF
          refine lv_iinc (v := (-8)) (lv' := [(2, .int (-8)), (0, .ref b), (1, .int x)]) S.1 S.2.1 d_Mdl_put_30 hl (k := 0) rfl (by decide) (by decide) rfl (fun ls hl => ?_)
          refine lv_goto (tgt := 3) S.1 S.2.1 d_Mdl_put_33 (by decide) ?_
          refine lv_iload_n S.1 S.2.1 d_Mdl_put_3 rfl (lv_at hl 0 rfl) ?_
          refine lv_if_lt (tgt := 36) S.1 S.2.1 d_Mdl_put_4 (by decide) (fun c76 => ?_) (fun c76 => ?_)
          · skip
            have e9 : nmL (tl + 1 + 1 + 1 + 1) (upd (upd (upd (upd gt tl (Int8.toInt32 (Int32.toInt8 (x >>> (nI 24 &&& 31))))) (tl + 1) (Int8.toInt32 (Int32.toInt8 (x >>> (nI 16 &&& 31))))) (tl + 1 + 1) (Int8.toInt32 (Int32.toInt8 (x >>> (nI 8 &&& 31))))) (tl + 1 + 1 + 1) (Int8.toInt32 (Int32.toInt8 (x >>> (nI 0 &&& 31))))) = nmL tl gt ++ [ub (wb x (nI 24))] ++ [ub (wb x (nI 16))] ++ [ub (wb x (nI 8))] ++ [ub (wb x (nI 0))] := by rw [nmL_s, nmL_s, nmL_s, nmL_s, ub_shr x 24 (by omega), ub_shr x 16 (by omega), ub_shr x 8 (by omega), ub_shr x 0 (by omega)]
            exact gr_v S hr hlk hI (⟨_, h75, h74, by rw [show tl + 4 = tl + 1 + 1 + 1 + 1 from rfl]; simp only [i8_idem]; rw [e9]; simp only [List.append_assoc]; rfl, hF⟩) d_Mdl_put_36
          · skip
            exact absurd (by decide) c76
