theorem wfF_0 : wfF 0 (fun _ => false) (fun _ => 0) := ⟨by omega, fun _ _ => rfl, (by intro s h; simp at h), fun _ _ => rfl⟩
set_option maxHeartbeats 4000000 in
set_option maxRecDepth 100000 in
theorem c_Shelf_make (l : Launch) (P : gPar) (f : gM) {sh e1 c1 e2 c2 e3 c3 : Nat} {L SF SP : List Nat} {ow : gO} {af : Nat → AFile} {a n cap : Nat} {g : Nat → Int32} {U : Nat → Prop} {idv : Int32} (h : gSh P f ow sh L SF SP e1 c1 e2 c2 e3 c3 af) (ha : f a = some (.inr (1, [.ref (a + 1), .int (nI n)]))) (hb : f (a + 1) = some (.inl (P.2.1 0, cap, .inl g))) (hn : n ≤ cap) (hcp : cap < 2 ^ 20) (hU : gUo f U) (hUa : U a) (hUb : U (a + 1)) (hg : sb_Fit g) (h200 : n ≤ 200) (h48 : L.length < 48) : gC l P y_Shelf_make b_Shelf_make 4 (some (.object "StripeFiles$StripedFile")) 6 5 526 [.ref sh, .ref a, .int idv] f (gQq P (fun r f1 => ∃ x, r = some x ∧ ∃ (SF1 : List Nat) (e1v c1v : Nat), gSh P f1 ow sh (L.insertIdx (plc (nms af L) (nmL n g)) x) SF1 SP e1v c1v e2 c2 e3 c3 (va_up af x (nmL n g, idv, 0, fun _ => false, fun _ => 0)) ∧ x ∉ L ∧ gFU f f1 U)) := by
  refine gC_of (by decide) (Nat.le_of_ble_eq_true rfl) (fun p env s m args below meth c S hr hlk hnm H locs hI ls hl => ?_)
  have hl : lv_has ls 4 [(0, .ref sh), (1, .ref a), (2, .int idv)] := hl
  have hz0 := gB_z hI
  have h34 := gX_34 hI.1
  have hlL : L.length ≤ 48 := by have := h.2.2.2.2.2.2.2.2.1; omega
  have hl2 := h.2.2.1
  obtain ⟨m2, hal2⟩ := hl2.1
  have hcc2 : c2 < 2 ^ 20 := by have := h.2.2.2.2.1.2; omega
  have join : ∀ (fj : gM) (x : Nat) (SF1 : List Nat) (v : AFile), gSh P fj ow sh L SF1 SP e1 c1 e2 c2 e3 c3 af → gFi P fj ow (sh + 3) x v → v.2.2.1 = 0 → (∀ s, v.2.2.2.1 s = false) → (∀ p, v.2.2.2.2 p = 0) → x ∉ L ++ SF1 → L.length + SF1.length ≤ 47 → gFU f fj U → ∀ (H : Heap) (locs : List Loc), gB P fj s H locs → ∀ ls : Array Slot, lv_has ls 4 [(0, .ref sh), (1, .ref a), (2, .int idv)] → W p l env (grm 6 5 526) s m args below meth c H locs 4 226 (MQ below (gQq P (fun r f1 => ∃ x, r = some x ∧ ∃ (SF1 : List Nat) (e1v c1v : Nat), gSh P f1 ow sh (L.insertIdx (plc (nms af L) (nmL n g)) x) SF1 SP e1v c1v e2 c2 e3 c3 (va_up af x (nmL n g, idv, 0, fun _ => false, fun _ => 0)) ∧ x ∉ L ∧ gFU f f1 U)) args s 5 526 (gA P)) (F0 m 43 ls [.ref x]) := by
    intro fj x SF1 v hj hx hv0 hv1 hv2 hxn hlj hFj H locs hI ls hl
    have hzj := gB_z hI
    have hUj := hU.to hFj
    have haj := hFj a _ hUa ha
    have hbj := hFj (a + 1) _ hUb hb
    obtain ⟨nx, gx, psx, x0, x1, x2, x3, x4, x5, x6, x7⟩ := id hx
    rw [hv0] at x0
    refine lv_astore_n (lv' := [(3, .ref x), (0, .ref sh), (1, .ref a), (2, .int idv)]) S.1 S.2.1 d_Shelf_make_43 rfl hl (by decide) rfl (fun ls hl => ?_)
    refine lv_aload_n S.1 S.2.1 d_Shelf_make_44 rfl (lv_at hl 0 rfl) ?_
    refine lv_aload_n S.1 S.2.1 d_Shelf_make_45 rfl (lv_at hl 2 rfl) ?_
    refine lv_iload_n S.1 S.2.1 d_Shelf_make_46 rfl (lv_at hl 3 rfl) ?_
    have hnt := hUj.nt x0 x1
    have hna : x + 1 ≠ a := fun z => hnt (by rw [z]; exact hUa)
    have hnb : x + 2 ≠ a + 1 := by omega
    refine gc_Vv S hI (c_File_begin l P fj (nid := idv) x0 x1 x2 haj hbj hna hnb hn (by omega) hcp hg) kv_File_begin wi_208 x0 rfl rfl rfl hl.1 rfl (Nat.le_of_ble_eq_true rfl) ⟨Nat.le_of_ble_eq_true rfl, Nat.le_of_ble_eq_true rfl⟩ ⟨Nat.le_of_ble_eq_true rfl, Nat.le_of_ble_eq_true rfl⟩ d_Shelf_make_47 (fun f116 H locs hp117 hI => ?_)
    obtain ⟨p0, p1, p2, pF⟩ := hp117
    have hsh1 : gSh P f116 ow sh L SF1 SP e1 c1 e2 c2 e3 c3 af := hj.tt hzj x0 x1 x2 pF (fun q _ _ => rfl) (fun z => absurd (List.mem_append_left _ z) hxn) (fun z => hxn (List.mem_append_right _ z))
    have hFU1 : gFU f f116 U := hFj.trans (hUj.tt x0 x1 x2 pF)
    have ha1 := hFU1 a _ hUa ha
    have hb1 := hFU1 (a + 1) _ hUb hb
    have px3 := pF (x + 3) _ x3 (nm3 (by omega) (by omega) (by omega))
    have hfi1 : gFi P f116 ow (sh + 3) x (nmL n g, idv, 0, (fun _ => false), (fun _ => 0)) := by
      refine ⟨n, _, psx, p0, p1, p2, px3, by omega, sb_fitC hg x5, nmL_cpy, ?_⟩
      have hps1 : gPs P f116 ow x psx v.2.2.2.1 v.2.2.2.2 := x7.fr pF (fun t y ht hy => by
        obtain ⟨-, hh, d2, -⟩ := (x7 t ht).2 y hy
        exact ⟨nm3 (gh_ne d2.1 x0 (by intro h; simp at h)) (gh_ne d2.1 x1 (by intro h; simp at h)) (gh_ne d2.1 x2 (by intro h; cases h)), nm3 (gh_ne d2.2.1 x0 (by intro h; cases h)) (gh_ne d2.2.1 x1 (by intro h; cases h)) (fun z => by have d1 := d2.1; rw [show y = x + 1 by omega, x1] at d1; simp at d1)⟩)
      exact hps1.congr (fun t _ => (hv1 t).symm) (fun t jj _ _ _ => (hv2 _).symm)
    refine lv_aload_n S.1 S.2.1 d_Shelf_make_50 rfl (lv_at hl 1 rfl) ?_
    refine gh_get S hI hsh1.1 rfl i_Shelf 0 (by decide) wi_67 rfl d_Shelf_make_51 ?_
    refine lv_aload_n S.1 S.2.1 d_Shelf_make_54 rfl (lv_at hl 1 rfl) ?_
    refine lv_aload_n S.1 S.2.1 d_Shelf_make_55 rfl (lv_at hl 2 rfl) ?_
    have hpl9 := plc_le (nms af L) (nmL n g)
    rw [show (nms af L).length = L.length by simp [nms]] at hpl9
    refine gc_Vi S hI (c_Shelf_placeOf l P f116 hsh1 ha1 hb1 hn hcp) kv_Shelf_placeOf wi_135 hsh1.1 rfl rfl rfl hl.1 rfl (Nat.le_of_ble_eq_true rfl) ⟨Nat.le_of_ble_eq_true rfl, Nat.le_of_ble_eq_true rfl⟩ ⟨by show _ ≤ 5; omega, by show _ ≤ 526; omega⟩ d_Shelf_make_56 (fun r118 f119 H locs hp120 hI => ?_)
    obtain ⟨hp1, hp2⟩ := hp120
    subst hp1
    rw [hp2] at hI
    obtain ⟨m1, hal1⟩ := hsh1.2.1.1
    refine lv_aload_n S.1 S.2.1 d_Shelf_make_59 rfl (lv_at hl 0 rfl) ?_
    have hz1 := gB_z hI
    refine gc_Vv S hI (c_AL_add1 l P f116 hsh1.2.1 (i := plc (nms af L) (nmL n g)) hpl9 hsh1.2.2.2.2.1.1 (by omega) hsh1.el (fun y hy => by obtain ⟨fs, z⟩ := hsh1.el.2 y hy; exact hsh1.2.1.npc (by decide) z hz1) p0 (fun z => by rw [z, hal1] at p0; simp at p0)) kv_AL_add1 wi_213 hal1 rfl rfl rfl hl.1 rfl (Nat.le_of_ble_eq_true rfl) ⟨Nat.le_of_ble_eq_true rfl, Nat.le_of_ble_eq_true rfl⟩ ⟨by show _ ≤ 5; omega, by show _ ≤ 526; omega⟩ d_Shelf_make_60 (fun f122 H locs hp123 hI => ?_)
    obtain ⟨⟨e1v, c1v, q1, q2, q3⟩, q4, -⟩ := hp123
    have hxL : x ∉ L := fun z => hxn (List.mem_append_left _ z)
    have hfin := hsh1.setL h34 hz1 q4 (af' := va_up af x (nmL n g, idv, 0, (fun _ => false), (fun _ => 0))) q1 q2 q3 (fun q hq => by
      rcases (mem_ins hpl9).mp hq with e | e
      · rw [e, va_up_self]; exact ⟨hfi1, wfF_0⟩
      · rw [va_up_ne _ _ (fun z => hxL (by rw [← z]; exact e))]; exact hsh1.2.2.2.2.2.1 q e) (nodup_ins hsh1.2.2.2.2.2.2.2.1 hxn hpl9) (by rw [List.length_insertIdx_of_le_length hpl9]; omega)
    refine lv_aload_n S.1 S.2.1 d_Shelf_make_63 rfl (lv_at hl 0 rfl) ?_
    exact gr_r S hr (Or.inl ⟨_, rfl⟩) hlk hI (⟨SF1, e1v, c1v, hfin, hxL, hFU1.trans ((hU.to hFU1).frl hsh1.2.1 hz1 q4)⟩) d_Shelf_make_64
  refine lv_aload_n S.1 S.2.1 d_Shelf_make_0 rfl (lv_at hl 0 rfl) ?_
  refine gh_get S hI h.1 rfl i_Shelf 1 (by decide) wi_68 rfl d_Shelf_make_1 ?_
  refine gc_Vi S hI (c_AL_isEmpty l P f hl2 (by have := h.2.2.2.2.2.2.2.2.1; omega)) kv_AL_isEmpty wi_183 hal2 rfl rfl rfl hl.1 rfl (Nat.le_of_ble_eq_true rfl) ⟨Nat.le_of_ble_eq_true rfl, Nat.le_of_ble_eq_true rfl⟩ ⟨Nat.le_of_ble_eq_true rfl, Nat.le_of_ble_eq_true rfl⟩ d_Shelf_make_4 (fun r124 f125 H locs hp126 hI => ?_)
  obtain ⟨hp1, hp2⟩ := hp126
  subst hp1
  rw [hp2] at hI
  have hSl := h.2.2.2.2.2.2.2.2.1
  by_cases hS : SF.length = 0
  · rw [show (if SF.length = 0 then nI 1 else nI 0 : Int32) = nI 1 from if_pos hS]
    refine lv_if_eq (tgt := 24) S.1 S.2.1 d_Shelf_make_7 (by decide) (fun c127 => ?_) (fun c127 => ?_)
    · skip
      replace c127 : 1 = 0 := (nI_eq (a := 1) (b := 0) (by omega) (by omega)).mp c127
      exact absurd c127 (by omega)
    · skip
      replace c127 : ¬ 1 = 0 := fun z => c127 ((nI_eq (a := 1) (b := 0) (by omega) (by omega)).mpr z)
      obtain ⟨z0, hz⟩ : ∃ z, H.size = z := ⟨_, rfl⟩
      have hnw := gB_new hI hz
      refine gh_newZ (ci := 4) (fs := [.null, .null, .null, .int 0, .int 0]) S hI hz rfl i_File t_File tk_File wi_156 wi_187 wi_13 (fun j hj => by rcases (show j = 0 ∨ j = 1 ∨ j = 2 ∨ j = 3 ∨ j = 4 by omega) with rfl | rfl | rfl | rfl | rfl <;> rfl) (Nat.le_of_ble_eq_true rfl) (Nat.le_of_ble_eq_true rfl) d_Shelf_make_10 (fun H hn128 hz hI => ?_)
      replace hz : H.size = z0 + 1 := hz
      have hI : gB P (va_up f z0 (some (.inr (4, [.null, .null, .null, .int 0, .int 0])))) s H locs := hI
      obtain ⟨f129, ef129⟩ : ∃ z, z = va_up f z0 (some (.inr (4, [.null, .null, .null, .int 0, .int 0]))) := ⟨_, rfl⟩
      rw [← ef129] at hI
      have h130 : f129 a = some (.inr (1, [.ref (a + 1), .int (nI n)])) := by rw [ef129, va_up_ne _ _ (gh_ne ha hn128 (by intro h; cases h))]; exact ha
      have h131 : f129 (a + 1) = some (.inl (P.2.1 0, cap, .inl g)) := by rw [ef129, va_up_ne _ _ (gh_ne hb hn128 (by intro h; cases h))]; exact hb
      have h132 : f129 sh = some (.inr (5, [.ref (sh + 1), .ref (sh + 2), .ref (sh + 3)])) := by rw [ef129, va_up_ne _ _ (gh_ne h.1 hn128 (by intro h; cases h))]; exact h.1
      have h133 : f129 (sh + 2) = some (.inr (6, [.int m2, .ref e2, .int (nI SF.length)])) := by rw [ef129, va_up_ne _ _ (gh_ne hal2 hn128 (by intro h; cases h))]; exact hal2
      have h134 : f129 z0 = some (.inr (4, [.null, .null, .null, .int 0, .int 0])) := by rw [ef129]; exact va_up_self _ _ _
      refine lv_dup S.1 S.2.1 d_Shelf_make_13 rfl ?_
      refine lv_aload_n S.1 S.2.1 d_Shelf_make_14 rfl (lv_at hl 0 rfl) ?_
      refine gh_get S hI h132 rfl i_Shelf 2 (by decide) wi_69 rfl d_Shelf_make_15 ?_
      have hF0 : gFr f f129 [] := by rw [ef129]; exact gFr.upN hn128 gFr.rf
      refine gc_Iz S hI hz (c_File_initZ l P f129 (pl := sh + 3) h134) kv_File_init wi_188 rfl hl.1 rfl (Nat.le_of_ble_eq_true rfl) ⟨Nat.le_of_ble_eq_true rfl, Nat.le_of_ble_eq_true rfl⟩ ⟨Nat.le_of_ble_eq_true rfl, Nat.le_of_ble_eq_true rfl⟩ d_Shelf_make_18 (fun f135 z136 H locs hp137 hI hz => ?_)
      obtain ⟨q0, q1, q2, q3, q4, q5⟩ := hp137
      dsimp only at q0 q1 q2 q3 q4 q5
      have hF1 : gFr f f135 [] := hF0.call q5 (fun q hq => Or.inr (by rw [List.mem_singleton.mp hq]; exact hn128))
      refine lv_goto (tgt := 43) S.1 S.2.1 d_Shelf_make_21 (by decide) ?_
      have hSn : SF = [] := List.length_eq_zero_iff.mp hS
      refine join f135 z0 SF ([], nI 0, 0, (fun _ => false), (fun _ => 0)) (h.fr0 hF1) ⟨0, _, _, q1, q2, q3, q4, by omega, sb_fit0, rfl, fun t ht => ⟨rfl, fun y hy => by cases hy⟩⟩ rfl (fun _ => rfl) (fun _ => rfl) ?_ (by omega) (gFU.fr0 hF1) _ _ hI _ (lv_sub hl [0, 1, 2] rfl)
      intro z
      rcases List.mem_append.mp z with z | z
      · obtain ⟨fs, z⟩ := h.el.2 _ z
        rw [hnw.n] at z; cases z
      · rw [hSn] at z; cases z
  · rw [show (if SF.length = 0 then nI 1 else nI 0 : Int32) = nI 0 from if_neg hS]
    refine lv_if_eq (tgt := 24) S.1 S.2.1 d_Shelf_make_7 (by decide) (fun c138 => ?_) (fun c138 => ?_)
    · skip
      replace c138 : 0 = 0 := (nI_eq (a := 0) (b := 0) (by omega) (by omega)).mp c138
      refine lv_aload_n S.1 S.2.1 d_Shelf_make_24 rfl (lv_at hl 0 rfl) ?_
      refine gh_get S hI h.1 rfl i_Shelf 1 (by decide) wi_68 rfl d_Shelf_make_25 ?_
      refine lv_aload_n S.1 S.2.1 d_Shelf_make_28 rfl (lv_at hl 0 rfl) ?_
      refine gh_get S hI h.1 rfl i_Shelf 1 (by decide) wi_68 rfl d_Shelf_make_29 ?_
      refine gc_Vi S hI (c_AL_size l P f hl2) kv_AL_size wi_138 hal2 rfl rfl rfl hl.1 rfl (Nat.le_of_ble_eq_true rfl) ⟨Nat.le_of_ble_eq_true rfl, Nat.le_of_ble_eq_true rfl⟩ ⟨Nat.le_of_ble_eq_true rfl, Nat.le_of_ble_eq_true rfl⟩ d_Shelf_make_32 (fun r139 f140 H locs hp141 hI => ?_)
      obtain ⟨hp1, hp2⟩ := hp141
      subst hp1
      rw [hp2] at hI
      refine lv_iconst (v := nI 1) S.1 S.2.1 d_Shelf_make_35 (by decide) ?_
      refine lv_isub S.1 S.2.1 d_Shelf_make_36 ?_
      refine lv_topi (fun v142 ev142 => ?_)
      replace ev142 : v142 = nI (SF.length - 1) := ev142.trans (pk_sub (by omega))
      subst ev142
      refine gc_Vr S hI (c_AL_remove l P f hl2 (i := SF.length - 1) (by omega) hcc2 h.elS (fun y hy => by obtain ⟨fs, z⟩ := h.elS.2 y hy; exact hl2.npc (by decide) z hz0)) kv_AL_remove wi_200 hal2 rfl rfl rfl hl.1 rfl (Nat.le_of_ble_eq_true rfl) ⟨Nat.le_of_ble_eq_true rfl, Nat.le_of_ble_eq_true rfl⟩ ⟨Nat.le_of_ble_eq_true rfl, Nat.le_of_ble_eq_true rfl⟩ d_Shelf_make_37 (fun r143 f144 H locs hp145 hI => ?_)
      obtain ⟨p1, p2, p3⟩ := hp145
      have hlast := l_last p1
      have hxS := List.mem_of_getElem? p1
      obtain ⟨SF1, hSF1⟩ : ∃ z, z = SF.eraseIdx (SF.length - 1) := ⟨_, rfl⟩
      rw [← hSF1] at p2 hlast
      obtain ⟨v, v1, v2, v3, v4⟩ := h.2.2.2.2.2.2.1 r143 hxS
      have hfx := v1.li hl2 h34 hz0 p3
      obtain ⟨nx, gx, psx, x0, -⟩ := id hfx
      refine gh_cast (q := (R_File, F_File, 5)) S hI rfl x0 wi_156 d_Shelf_make_40 ?_
      have hnd := h.2.2.2.2.2.2.2.1
      rw [hlast, ← List.append_assoc] at hnd
      have hnd2 := List.nodup_append.mp hnd
      have hln : SF.length = SF1.length + 1 := by rw [hlast]; simp
      have hj := h.setS h34 hz0 p3 p2 h.2.2.2.2.1.2 (Or.inl rfl) (fun q hq => h.2.2.2.2.2.2.1 q (by rw [hlast]; exact List.mem_append_left _ hq)) hnd2.1 (by omega)
      refine W.widen (k := 4) (n := 226) (by omega) (by omega) ?_
      exact join f144 r143 SF1 v hj hfx v2 v3 v4 (fun z => hnd2.2.2 _ z _ (by simp) rfl) (by omega) (hU.frl hl2 hz0 p3) _ _ hI _ (lv_sub hl [0, 1, 2] rfl)
    · skip
      replace c138 : ¬ 0 = 0 := fun z => c138 ((nI_eq (a := 0) (b := 0) (by omega) (by omega)).mpr z)
      exact absurd c138 (by omega)
theorem nodup_er {L : List Nat} {x k : Nat} (h : L.Nodup) (hx : L[k]? = some x) : x ∉ L.eraseIdx k := by
  intro z
  obtain ⟨j, hj⟩ := List.getElem?_of_mem z
  rw [List.getElem?_eraseIdx] at hj
  have inj : ∀ {i i2 : Nat}, L[i]? = some x → L[i2]? = some x → i = i2 := by
    intro i i2 h1 h2
    obtain ⟨a1, a2⟩ := List.getElem?_eq_some_iff.mp h1
    obtain ⟨b1, b2⟩ := List.getElem?_eq_some_iff.mp h2
    exact (List.getElem_inj h).mp (a2.trans b2.symm)
  by_cases c : j < k
  · rw [if_pos c] at hj; have := inj hj hx; omega
  · rw [if_neg c] at hj; have := inj hj hx; omega
set_option maxHeartbeats 4000000 in
set_option maxRecDepth 100000 in
theorem c_Shelf_remove (l : Launch) (P : gPar) (f : gM) {sh e1 c1 e2 c2 e3 c3 : Nat} {L SF SP : List Nat} {ow : gO} {af : Nat → AFile} {a n cap : Nat} {g : Nat → Int32} {U : Nat → Prop} (h : gSh P f ow sh L SF SP e1 c1 e2 c2 e3 c3 af) (ha : f a = some (.inr (1, [.ref (a + 1), .int (nI n)]))) (hb : f (a + 1) = some (.inl (P.2.1 0, cap, .inl g))) (hn : n ≤ cap) (hcp : cap < 2 ^ 20) (hU : gUo f U) (hcnt : SP.length + sumC af L ≤ 121) : gC l P y_Shelf_remove b_Shelf_remove 4 (some .boolean) 10 20 6000 [.ref sh, .ref a] f (gQi P (fun r f1 => (idx (nms af L) (nmL n g) = none ∧ r = nI 0 ∧ f1 = f) ∨ ∃ k x, idx (nms af L) (nmL n g) = some k ∧ L[k]? = some x ∧ r = nI 1 ∧ ∃ (ow1 : gO) (SP1 : List Nat) (e2v c2v e3v c3v : Nat), gSh P f1 ow1 sh (L.eraseIdx k) (SF ++ [x]) SP1 e1 c1 e2v c2v e3v c3v af ∧ SP1.length = SP.length + cntL (af x).2.2.2.1 19 ∧ gFU f f1 U)) := by
  refine gC_of (by decide) (Nat.le_of_ble_eq_true rfl) (fun p env s m args below meth c S hr hlk hnm H locs hI ls hl => ?_)
  have hl : lv_has ls 4 [(0, .ref sh), (1, .ref a)] := hl
  have hz0 := gB_z hI
  have h34 := gX_34 hI.1
  have hlL : L.length ≤ 48 := by have := h.2.2.2.2.2.2.2.2.1; omega
  have hl1 := h.2.1
  obtain ⟨m1, hal1⟩ := hl1.1
  have hcc : c1 < 2 ^ 20 := by have := h.2.2.2.2.1.1; omega
  refine lv_aload_n S.1 S.2.1 d_Shelf_remove_0 rfl (lv_at hl 0 rfl) ?_
  refine lv_aload_n S.1 S.2.1 d_Shelf_remove_1 rfl (lv_at hl 1 rfl) ?_
  refine gc_Vi S hI (c_Shelf_indexOf l P f h ha hb hn hcp) kv_Shelf_indexOf wi_132 h.1 rfl rfl rfl hl.1 rfl (Nat.le_of_ble_eq_true rfl) ⟨Nat.le_of_ble_eq_true rfl, Nat.le_of_ble_eq_true rfl⟩ ⟨Nat.le_of_ble_eq_true rfl, Nat.le_of_ble_eq_true rfl⟩ d_Shelf_remove_2 (fun r146 f147 H locs hp148 hI => ?_)
  obtain ⟨hp1, hp2⟩ := hp148
  subst hp1
  rw [hp2] at hI
  rcases hix : idx (nms af L) (nmL n g) with _ | k
  · skip
    rw [show idxI none = (-2) from rfl]
    refine lv_istore_n (lv' := [(2, .int (-2)), (0, .ref sh), (1, .ref a)]) S.1 S.2.1 d_Shelf_remove_5 rfl hl (by decide) rfl (fun ls hl => ?_)
    refine lv_iload_n S.1 S.2.1 d_Shelf_remove_6 rfl (lv_at hl 0 rfl) ?_
    refine lv_if_ge (tgt := 12) S.1 S.2.1 d_Shelf_remove_7 (by decide) (fun c149 => ?_) (fun c149 => ?_)
    · skip
      exact absurd c149 (by decide)
    · skip
      refine lv_iconst (v := nI 0) S.1 S.2.1 d_Shelf_remove_10 (by decide) ?_
      refine W.widen (k := 20) (n := 6000) (by omega) (by omega) ?_
      exact gr_z S hr hlk hI (by first | exact Or.inl rfl | exact Or.inr rfl) (Or.inl ⟨rfl, rfl, rfl⟩) d_Shelf_remove_11
  · skip
    rw [show idxI (some k) = nI k from rfl]
    obtain ⟨hk1, hk2, hk3⟩ := idx_lt hix
    have hkL : k < L.length := by simpa [nms] using hk1
    refine lv_istore_n (lv' := [(2, .int (nI k)), (0, .ref sh), (1, .ref a)]) S.1 S.2.1 d_Shelf_remove_5 rfl hl (by decide) rfl (fun ls hl => ?_)
    refine lv_iload_n S.1 S.2.1 d_Shelf_remove_6 rfl (lv_at hl 0 rfl) ?_
    refine lv_if_ge (tgt := 12) S.1 S.2.1 d_Shelf_remove_7 (by decide) (fun c150 => ?_) (fun c150 => ?_)
    · skip
      refine lv_aload_n S.1 S.2.1 d_Shelf_remove_12 rfl (lv_at hl 1 rfl) ?_
      refine gh_get S hI h.1 rfl i_Shelf 0 (by decide) wi_67 rfl d_Shelf_remove_13 ?_
      refine lv_iload_n S.1 S.2.1 d_Shelf_remove_16 rfl (lv_at hl 0 rfl) ?_
      refine gc_Vr S hI (c_AL_remove l P f hl1 (i := k) hkL hcc h.el (fun y hy => by obtain ⟨fs, z⟩ := h.el.2 y hy; exact hl1.npc (by decide) z hz0)) kv_AL_remove wi_200 hal1 rfl rfl rfl hl.1 rfl (Nat.le_of_ble_eq_true rfl) ⟨Nat.le_of_ble_eq_true rfl, Nat.le_of_ble_eq_true rfl⟩ ⟨by show _ ≤ 20; omega, by show _ ≤ 6000; omega⟩ d_Shelf_remove_17 (fun r151 f152 H locs hp153 hI => ?_)
      obtain ⟨p1, p2, p3⟩ := hp153
      have hxL := List.mem_of_getElem? p1
      obtain ⟨vf, vw⟩ := h.2.2.2.2.2.1 r151 hxL
      have hfx := vf.li hl1 h34 hz0 p3
      obtain ⟨nx, gx, psx, x0, x1, x2, x3, x4, x5, x6, x7⟩ := id hfx
      have hsub : ∀ q, q ∈ L.eraseIdx k → q ∈ L := fun q hq => List.mem_of_mem_eraseIdx hq
      have hnd := h.2.2.2.2.2.2.2.1
      have hndL := (List.nodup_append.mp hnd).1
      have hxE : r151 ∉ L.eraseIdx k := nodup_er hndL p1
      have hxS : r151 ∉ SF := fun z => (List.nodup_append.mp hnd).2.2 _ hxL _ z rfl
      have hlE : (L.eraseIdx k).length + 1 = L.length := by rw [List.length_eraseIdx_of_lt hkL]; omega
      have h48 := h.2.2.2.2.2.2.2.2.1
      have hsh1 : gSh P f152 ow sh (L.eraseIdx k) SF SP e1 c1 e2 c2 e3 c3 af := h.setL h34 hz0 p3 p2 h.2.2.2.2.1.1 (Or.inl rfl) (fun q hq => h.2.2.2.2.2.1 q (hsub q hq)) (hnd.sublist ((List.eraseIdx_sublist L k).append (List.Sublist.refl SF))) (by omega)
      have hFU1 : gFU f f152 U := hU.frl hl1 hz0 p3
      refine gh_cast (q := (R_File, F_File, 5)) S hI rfl x0 wi_156 d_Shelf_remove_20 ?_
      refine lv_astore_n (lv' := [(3, .ref r151), (2, .int (nI k)), (0, .ref sh), (1, .ref a)]) S.1 S.2.1 d_Shelf_remove_23 rfl hl (by decide) rfl (fun ls hl => ?_)
      refine lv_aload_n S.1 S.2.1 d_Shelf_remove_24 rfl (lv_at hl 0 rfl) ?_
      refine lv_iconst (v := nI 0) S.1 S.2.1 d_Shelf_remove_25 (by decide) ?_
      have hcx : cntL (af r151).2.2.2.1 19 ≤ sumC af L := sum_mem (fun q => cntL (af q).2.2.2.1 19) hxL
      refine gc_Vv S hI (c_File_cut l P f152 (nl := 0) x0 x3 x7 hsh1.2.2.2.1 (by omega) (by omega) (fun s hs => by have := vw.2.2.1 s hs; have := vw.1; omega) (fun p hp => vw.2.1 p (by have := vw.1; omega))) kv_File_cut wi_315 x0 rfl rfl rfl hl.1 rfl (Nat.le_of_ble_eq_true rfl) ⟨Nat.le_of_ble_eq_true rfl, Nat.le_of_ble_eq_true rfl⟩ ⟨by show _ ≤ 20; omega, by show _ ≤ 6000; omega⟩ d_Shelf_remove_26 (fun f155 H locs hp156 hI => ?_)
      obtain ⟨ow1, ps1, SP1, e3v, c3v, d0, d3, d4, d5, d6, d7⟩ := hp156
      have hz1 : f152 P.2.2.2.1 = none := d6.2.2.2 _ (gB_z hI)
      have hsh2 : gSh P f155 ow1 sh (L.eraseIdx k) SF SP1 e1 c1 e2 c2 e3v c3v af := hsh1.rel h34 hz1 ⟨_, x0⟩ x3 x7 d6 d4 (fun q _ _ => rfl) (fun z => absurd z hxE) hxS
      have hUo1 := hU.to hFU1
      have hFU2 : gFU f f155 U := hFU1.trans (hUo1.rel hfx x7 hsh1.2.2.2.1 hz1 d6)
      have hnt1 := hUo1
      have hout : ¬ gXs r151 (sh + 3) e3 SP psx (r151 + 1) ∧ ¬ gXs r151 (sh + 3) e3 SP psx (r151 + 1 + 1) := gXs_row hz1 x0 x3 x7 hsh1.2.2.2.1 x1 x2
      have d1 := d6.1 _ _ x1 hout.1
      have d2 := d6.1 _ _ x2 hout.2
      have hc0 : cntL (ctl (af r151).2.2.2.1 0) 19 = 0 := by
        rw [cntL_congr (ld' := fun _ => false) 19 (fun s _ => by unfold ctl; simp)]; rfl
      have hblank : gFi P f155 ow1 (sh + 3) r151 ((af r151).1, (af r151).2.1, 0, ctl (af r151).2.2.2.1 0, ctc (af r151).2.2.2.2 0) := ⟨nx, gx, ps1, d0, d1, d2, d3, x4, x5, x6, d5⟩
      obtain ⟨m2, hal2⟩ := hsh2.2.2.1.1
      have hz2 := gB_z hI
      refine lv_aload_n S.1 S.2.1 d_Shelf_remove_29 rfl (lv_at hl 2 rfl) ?_
      refine gh_get S hI hsh2.1 rfl i_Shelf 1 (by decide) wi_68 rfl d_Shelf_remove_30 ?_
      refine lv_aload_n S.1 S.2.1 d_Shelf_remove_33 rfl (lv_at hl 0 rfl) ?_
      refine gc_Vi S hI (c_AL_add2 l P f155 hsh2.2.2.1 hsh2.2.2.2.2.1.2 (by omega) hsh2.elS (fun y hy => by obtain ⟨fs, z⟩ := hsh2.elS.2 y hy; exact hsh2.2.2.1.npc (by decide) z hz2) d0 (fun z => by rw [z, hal2] at d0; simp at d0)) kv_AL_add2 wi_340 hal2 rfl rfl rfl hl.1 rfl (Nat.le_of_ble_eq_true rfl) ⟨Nat.le_of_ble_eq_true rfl, Nat.le_of_ble_eq_true rfl⟩ ⟨by show _ ≤ 20; omega, by show _ ≤ 6000; omega⟩ d_Shelf_remove_34 (fun r157 f158 H locs hp159 hI => ?_)
      obtain ⟨q0, ⟨e2v, c2v, q1, q2, q3⟩, q4, -⟩ := hp159
      have hnd3 : (L.eraseIdx k ++ (SF ++ [r151])).Nodup := by
        rw [← List.append_assoc]
        exact List.nodup_append.mpr ⟨hsh2.2.2.2.2.2.2.2.1, by simp, fun a ha b hb => by
          rw [List.mem_singleton.mp hb]
          intro z
          rw [z] at ha
          exact (List.mem_append.mp ha).elim hxE hxS⟩
      have hsh3 := hsh2.setS h34 hz2 q4 q1 q2 q3 (fun q hq => by
        rcases List.mem_append.mp hq with e | e
        · exact hsh2.2.2.2.2.2.2.1 q e
        · rw [List.mem_singleton.mp e]; exact ⟨_, hblank, rfl, fun s => by unfold ctl; simp, fun p => by unfold ctc; simp⟩) hnd3 (by simp; omega)
      refine lv_pop S.1 S.2.1 d_Shelf_remove_37 rfl ?_
      refine lv_iconst (v := nI 1) S.1 S.2.1 d_Shelf_remove_38 (by decide) ?_
      refine W.widen (k := 20) (n := 6000) (by omega) (by omega) ?_
      exact gr_z S hr hlk hI (by first | exact Or.inl rfl | exact Or.inr rfl) (Or.inr ⟨k, r151, rfl, p1, rfl, ow1, SP1, e2v, c2v, e3v, c3v, hsh3, by rw [hc0] at d7; omega, hFU2.trans ((hU.to hFU2).frl hsh2.2.2.1 hz2 q4)⟩) d_Shelf_remove_39
    · skip
      exact absurd (nI_pos' (by omega)) c150
set_option maxHeartbeats 4000000 in
set_option maxRecDepth 100000 in
theorem c_Shelf_rename (l : Launch) (P : gPar) (f : gM) {sh e1 c1 e2 c2 e3 c3 : Nat} {L SF SP : List Nat} {ow : gO} {af : Nat → AFile} {a n cap : Nat} {g : Nat → Int32} {b n2 cap2 k : Nat} {g2 : Nat → Int32} {U : Nat → Prop} (h : gSh P f ow sh L SF SP e1 c1 e2 c2 e3 c3 af) (ha : f a = some (.inr (1, [.ref (a + 1), .int (nI n)]))) (hb : f (a + 1) = some (.inl (P.2.1 0, cap, .inl g))) (hn : n ≤ cap) (hcp : cap < 2 ^ 20) (ha2 : f b = some (.inr (1, [.ref (b + 1), .int (nI n2)]))) (hb2 : f (b + 1) = some (.inl (P.2.1 0, cap2, .inl g2))) (hn2 : n2 ≤ cap2) (hcp2 : cap2 < 2 ^ 20) (hgB : sb_Fit g2) (h200b : n2 ≤ 200) (hUb : U b) (hUb1 : U (b + 1)) (hU : gUo f U) (hix : idx (nms af L) (nmL n g) = some k) : gC l P y_Shelf_rename b_Shelf_rename 5 none 6 1 300 [.ref sh, .ref a, .ref b] f (gQv P (fun f1 => ∃ x, L[k]? = some x ∧ ∃ (e1v c1v : Nat), gSh P f1 ow sh ((L.eraseIdx k).insertIdx (plc (nms af (L.eraseIdx k)) (nmL n2 g2)) x) SF SP e1v c1v e2 c2 e3 c3 (va_up af x (nmL n2 g2, (af x).2)) ∧ gFU f f1 U)) := by
  refine gC_of (by decide) (Nat.le_of_ble_eq_true rfl) (fun p env s m args below meth c S hr hlk hnm H locs hI ls hl => ?_)
  have hl : lv_has ls 5 [(0, .ref sh), (1, .ref a), (2, .ref b)] := hl
  have hz0 := gB_z hI
  have h34 := gX_34 hI.1
  have hlL : L.length ≤ 48 := by have := h.2.2.2.2.2.2.2.2.1; omega
  have hl1 := h.2.1
  obtain ⟨m1, hal1⟩ := hl1.1
  have hcc : c1 < 2 ^ 20 := by have := h.2.2.2.2.1.1; omega
  refine lv_aload_n S.1 S.2.1 d_Shelf_rename_0 rfl (lv_at hl 0 rfl) ?_
  refine lv_aload_n S.1 S.2.1 d_Shelf_rename_1 rfl (lv_at hl 1 rfl) ?_
  refine gc_Vi S hI (c_Shelf_indexOf l P f h ha hb hn hcp) kv_Shelf_indexOf wi_132 h.1 rfl rfl rfl hl.1 rfl (Nat.le_of_ble_eq_true rfl) ⟨Nat.le_of_ble_eq_true rfl, Nat.le_of_ble_eq_true rfl⟩ ⟨Nat.le_of_ble_eq_true rfl, Nat.le_of_ble_eq_true rfl⟩ d_Shelf_rename_2 (fun r160 f161 H locs hp162 hI => ?_)
  obtain ⟨hp1, hp2⟩ := hp162
  subst hp1
  rw [hp2] at hI
  rw [hix, show idxI (some k) = nI k from rfl]
  obtain ⟨hk1, hk2, hk3⟩ := idx_lt hix
  have hkL : k < L.length := by simpa [nms] using hk1
  refine lv_istore_n (lv' := [(3, .int (nI k)), (0, .ref sh), (1, .ref a), (2, .ref b)]) S.1 S.2.1 d_Shelf_rename_5 rfl hl (by decide) rfl (fun ls hl => ?_)
  refine lv_iload_n S.1 S.2.1 d_Shelf_rename_6 rfl (lv_at hl 0 rfl) ?_
  refine lv_if_ge (tgt := 11) S.1 S.2.1 d_Shelf_rename_7 (by decide) (fun c163 => ?_) (fun c163 => ?_)
  · skip
    refine lv_aload_n S.1 S.2.1 d_Shelf_rename_11 rfl (lv_at hl 1 rfl) ?_
    refine gh_get S hI h.1 rfl i_Shelf 0 (by decide) wi_67 rfl d_Shelf_rename_12 ?_
    refine lv_iload_n S.1 S.2.1 d_Shelf_rename_15 rfl (lv_at hl 0 rfl) ?_
    refine gc_Vr S hI (c_AL_remove l P f hl1 (i := k) hkL hcc h.el (fun y hy => by obtain ⟨fs, z⟩ := h.el.2 y hy; exact hl1.npc (by decide) z hz0)) kv_AL_remove wi_200 hal1 rfl rfl rfl hl.1 rfl (Nat.le_of_ble_eq_true rfl) ⟨Nat.le_of_ble_eq_true rfl, Nat.le_of_ble_eq_true rfl⟩ ⟨by show _ ≤ 1; omega, by show _ ≤ 300; omega⟩ d_Shelf_rename_16 (fun r164 f165 H locs hp166 hI => ?_)
    obtain ⟨p1, p2, p3⟩ := hp166
    have hxL := List.mem_of_getElem? p1
    obtain ⟨vf, vw⟩ := h.2.2.2.2.2.1 r164 hxL
    have hfx := vf.li hl1 h34 hz0 p3
    obtain ⟨nx, gx, psx, x0, x1, x2, x3, x4, x5, x6, x7⟩ := id hfx
    have hsub : ∀ q, q ∈ L.eraseIdx k → q ∈ L := fun q hq => List.mem_of_mem_eraseIdx hq
    have hnd := h.2.2.2.2.2.2.2.1
    have hndL := (List.nodup_append.mp hnd).1
    have hxE : r164 ∉ L.eraseIdx k := nodup_er hndL p1
    have hxS : r164 ∉ SF := fun z => (List.nodup_append.mp hnd).2.2 _ hxL _ z rfl
    have hlE : (L.eraseIdx k).length + 1 = L.length := by rw [List.length_eraseIdx_of_lt hkL]; omega
    have h48 := h.2.2.2.2.2.2.2.2.1
    have hsh1 : gSh P f165 ow sh (L.eraseIdx k) SF SP e1 c1 e2 c2 e3 c3 af := h.setL h34 hz0 p3 p2 h.2.2.2.2.1.1 (Or.inl rfl) (fun q hq => h.2.2.2.2.2.1 q (hsub q hq)) (hnd.sublist ((List.eraseIdx_sublist L k).append (List.Sublist.refl SF))) (by omega)
    have hFU1 : gFU f f165 U := hU.frl hl1 hz0 p3
    refine gh_cast (q := (R_File, F_File, 5)) S hI rfl x0 wi_156 d_Shelf_rename_19 ?_
    have hUo1 := hU.to hFU1
    have hb1 := hFU1 b _ hUb ha2
    have hb11 := hFU1 (b + 1) _ hUb1 hb2
    have hz1 := gB_z hI
    refine lv_astore (lv' := [(4, .ref r164), (3, .int (nI k)), (0, .ref sh), (1, .ref a), (2, .ref b)]) S.1 S.2.1 d_Shelf_rename_22 hl (by decide) rfl (fun ls hl => ?_)
    refine lv_aload S.1 S.2.1 d_Shelf_rename_24 (lv_at hl 0 rfl) ?_
    refine gc_Vr S hI (c_File_title l P f165 x0) kv_File_title wi_157 x0 rfl rfl rfl hl.1 rfl (Nat.le_of_ble_eq_true rfl) ⟨Nat.le_of_ble_eq_true rfl, Nat.le_of_ble_eq_true rfl⟩ ⟨by show _ ≤ 1; omega, by show _ ≤ 300; omega⟩ d_Shelf_rename_26 (fun r167 f168 H locs hp169 hI => ?_)
    obtain ⟨ht1, ht2⟩ := hp169
    subst ht1
    rw [ht2] at hI
    refine lv_aload_n S.1 S.2.1 d_Shelf_rename_29 rfl (lv_at hl 4 rfl) ?_
    have hnt := (hUo1).nt x0 x1
    refine gc_Vv S hI (c_Row_become l P f165 x1 x2 hb1 hb11 (fun z => hnt (by rw [z]; exact hUb)) (fun z => hnt (by rw [show r164 + 1 = b by omega]; exact hUb)) hn2 (by omega) (by omega) hcp2 hgB) kv_Row_become wi_345 x1 rfl rfl rfl hl.1 rfl (Nat.le_of_ble_eq_true rfl) ⟨Nat.le_of_ble_eq_true rfl, Nat.le_of_ble_eq_true rfl⟩ ⟨by show _ ≤ 1; omega, by show _ ≤ 300; omega⟩ d_Shelf_rename_30 (fun f171 H locs hp172 hI => ?_)
    obtain ⟨t1, t2, t3⟩ := hp172
    have tF : gFr f165 f171 [r164, r164 + 1, r164 + 2] := t3.mono (fun q hq => List.mem_cons_of_mem _ hq)
    have t0 := t3 r164 _ x0 (nm2 (by omega) (by omega))
    have t4 := t3 (r164 + 3) _ x3 (nm2 (by omega) (by omega))
    have tps : gPs P f171 ow r164 psx (af r164).2.2.2.1 (af r164).2.2.2.2 := x7.fr t3 (fun t y ht hy => by
      obtain ⟨-, hh, d2, -⟩ := (x7 t ht).2 y hy
      exact ⟨nm2 (gh_ne d2.1 x1 (by intro h; simp at h)) (gh_ne d2.1 x2 (by intro h; cases h)), nm2 (gh_ne d2.2.1 x1 (by intro h; cases h)) (fun z => by have d1 := d2.1; rw [show y = r164 + 1 by omega, x1] at d1; simp at d1)⟩)
    have hsh2 : gSh P f171 ow sh (L.eraseIdx k) SF SP e1 c1 e2 c2 e3 c3 af := hsh1.tt hz1 x0 x1 x2 tF (fun q _ _ => rfl) (fun z => absurd z hxE) hxS
    have hFU2 : gFU f f171 U := hFU1.trans (hUo1.tt x0 x1 x2 tF)
    have hb2v := hFU2 b _ hUb ha2
    have hb21 := hFU2 (b + 1) _ hUb1 hb2
    have hfi2 : gFi P f171 ow (sh + 3) r164 (nmL n2 g2, (af r164).2) := ⟨n2, _, psx, t0, t1, t2, t4, by omega, sb_fitC hgB x5, nmL_cpy, tps⟩
    refine lv_aload_n S.1 S.2.1 d_Shelf_rename_33 rfl (lv_at hl 2 rfl) ?_
    refine gh_get S hI hsh2.1 rfl i_Shelf 0 (by decide) wi_67 rfl d_Shelf_rename_34 ?_
    refine lv_aload_n S.1 S.2.1 d_Shelf_rename_37 rfl (lv_at hl 2 rfl) ?_
    refine lv_aload_n S.1 S.2.1 d_Shelf_rename_38 rfl (lv_at hl 4 rfl) ?_
    have hpl9 := plc_le (nms af (L.eraseIdx k)) (nmL n2 g2)
    rw [show (nms af (L.eraseIdx k)).length = (L.eraseIdx k).length by simp [nms]] at hpl9
    refine gc_Vi S hI (c_Shelf_placeOf l P f171 hsh2 hb2v hb21 hn2 hcp2) kv_Shelf_placeOf wi_135 hsh2.1 rfl rfl rfl hl.1 rfl (Nat.le_of_ble_eq_true rfl) ⟨Nat.le_of_ble_eq_true rfl, Nat.le_of_ble_eq_true rfl⟩ ⟨by show _ ≤ 1; omega, by show _ ≤ 300; omega⟩ d_Shelf_rename_39 (fun r173 f174 H locs hp175 hI => ?_)
    obtain ⟨hp1, hp2⟩ := hp175
    subst hp1
    rw [hp2] at hI
    obtain ⟨m9, hal9⟩ := hsh2.2.1.1
    have hz2 := gB_z hI
    refine lv_aload S.1 S.2.1 d_Shelf_rename_42 (lv_at hl 0 rfl) ?_
    refine gc_Vv S hI (c_AL_add1 l P f171 hsh2.2.1 (i := plc (nms af (L.eraseIdx k)) (nmL n2 g2)) hpl9 hsh2.2.2.2.2.1.1 (by omega) hsh2.el (fun y hy => by obtain ⟨fs, z⟩ := hsh2.el.2 y hy; exact hsh2.2.1.npc (by decide) z hz2) t0 (fun z => by rw [z, hal9] at t0; simp at t0)) kv_AL_add1 wi_213 hal9 rfl rfl rfl hl.1 rfl (Nat.le_of_ble_eq_true rfl) ⟨Nat.le_of_ble_eq_true rfl, Nat.le_of_ble_eq_true rfl⟩ ⟨by show _ ≤ 1; omega, by show _ ≤ 300; omega⟩ d_Shelf_rename_44 (fun f177 H locs hp178 hI => ?_)
    obtain ⟨⟨e1v, c1v, q1, q2, q3⟩, q4, -⟩ := hp178
    have hfin := hsh2.setL h34 hz2 q4 (af' := va_up af r164 (nmL n2 g2, (af r164).2)) q1 q2 q3 (fun q hq => by
      rcases (mem_ins hpl9).mp hq with e | e
      · rw [e, va_up_self]; exact ⟨hfi2, vw⟩
      · rw [va_up_ne _ _ (fun z => hxE (by rw [← z]; exact e))]; exact hsh2.2.2.2.2.2.1 q e) (nodup_ins hsh2.2.2.2.2.2.2.2.1 (fun z => (List.mem_append.mp z).elim hxE hxS) hpl9) (by rw [List.length_insertIdx_of_le_length hpl9]; omega)
    exact gr_v S hr hlk hI (⟨r164, p1, e1v, c1v, hfin, hFU2.trans ((hU.to hFU2).frl hsh2.2.1 hz2 q4)⟩) d_Shelf_rename_47
  · skip
    exact absurd (nI_pos' (by omega)) c163
theorem nodup_sw {L S : List Nat} {x y i j : Nat} (h : (L ++ S).Nodup) (hi : L[i]? = some x) (hj : L[j]? = some y) : (((L.set i y).set j x) ++ S).Nodup ∧ ∀ q, q ∈ (L.set i y).set j x → q ∈ L := by
  have hmem : ∀ q, q ∈ (L.set i y).set j x → q ∈ L := by
    intro q hq
    rcases List.mem_or_eq_of_mem_set hq with z | z
    · rcases List.mem_or_eq_of_mem_set z with z | z
      · exact z
      · rw [z]; exact List.mem_of_getElem? hj
    · rw [z]; exact List.mem_of_getElem? hi
  obtain ⟨h1, h2, h3⟩ := List.nodup_append.mp h
  refine ⟨List.nodup_append.mpr ⟨?_, h2, fun a ha b hb => h3 a (hmem a ha) b hb⟩, hmem⟩
  have inj : ∀ {a b z : Nat}, L[a]? = some z → L[b]? = some z → a = b := by
    intro a b z h4 h5
    obtain ⟨a1, a2⟩ := List.getElem?_eq_some_iff.mp h4
    obtain ⟨b1, b2⟩ := List.getElem?_eq_some_iff.mp h5
    exact (List.getElem_inj h1).mp (a2.trans b2.symm)
  have hil := (List.getElem?_eq_some_iff.mp hi).1
  have hjl := (List.getElem?_eq_some_iff.mp hj).1
  -- place k of the new list is place sw k of the old one
  have hget : ∀ k, ((L.set i y).set j x)[k]? = L[if k = j then i else if k = i then j else k]? := by
    intro k
    by_cases e : k = j
    · rw [if_pos e, e, List.getElem?_set_self (by simpa using hjl), hi]
    · rw [if_neg e, List.getElem?_set_ne (Ne.symm e)]
      by_cases e2 : k = i
      · rw [if_pos e2, e2, List.getElem?_set_self hil, hj]
      · rw [if_neg e2, List.getElem?_set_ne (Ne.symm e2)]
  rw [List.nodup_iff_pairwise_ne, List.pairwise_iff_getElem]
  intro a b ha hb hab e
  have ea := List.getElem?_eq_getElem ha
  have eb := List.getElem?_eq_getElem hb
  rw [hget a] at ea
  rw [hget b, ← e] at eb
  have := inj ea eb
  (repeat' split at this) <;> omega
set_option maxHeartbeats 4000000 in
set_option maxRecDepth 100000 in
theorem c_Shelf_swap (l : Launch) (P : gPar) (f : gM) {sh e1 c1 e2 c2 e3 c3 : Nat} {L SF SP : List Nat} {ow : gO} {af : Nat → AFile} {a n cap : Nat} {g : Nat → Int32} {b n2 cap2 : Nat} {g2 : Nat → Int32} {U : Nat → Prop} (h : gSh P f ow sh L SF SP e1 c1 e2 c2 e3 c3 af) (ha : f a = some (.inr (1, [.ref (a + 1), .int (nI n)]))) (hb : f (a + 1) = some (.inl (P.2.1 0, cap, .inl g))) (hn : n ≤ cap) (hcp : cap < 2 ^ 20) (hg : sb_Fit g) (h200 : n ≤ 200) (hUa : U a) (hUa1 : U (a + 1)) (ha2 : f b = some (.inr (1, [.ref (b + 1), .int (nI n2)]))) (hb2 : f (b + 1) = some (.inl (P.2.1 0, cap2, .inl g2))) (hn2 : n2 ≤ cap2) (hcp2 : cap2 < 2 ^ 20) (hgB : sb_Fit g2) (h200b : n2 ≤ 200) (hUb : U b) (hUb1 : U (b + 1)) (hU : gUo f U) : gC l P y_Shelf_swap b_Shelf_swap 7 (some .boolean) 5 0 0 [.ref sh, .ref a, .ref b] f (gQi P (fun r f1 => ((idx (nms af L) (nmL n g) = none ∨ idx (nms af L) (nmL n2 g2) = none) ∧ r = nI 0 ∧ f1 = f) ∨ ∃ i j x y, idx (nms af L) (nmL n g) = some i ∧ idx (nms af L) (nmL n2 g2) = some j ∧ L[i]? = some x ∧ L[j]? = some y ∧ r = nI 1 ∧ gSh P f1 ow sh ((L.set i y).set j x) SF SP e1 c1 e2 c2 e3 c3 (va_up (va_up af x (nmL n2 g2, (af x).2)) y (nmL n g, (va_up af x (nmL n2 g2, (af x).2) y).2)) ∧ gFU f f1 U)) := by
  refine gC_of (by decide) (Nat.le_of_ble_eq_true rfl) (fun p env s m args below meth c S hr hlk hnm H locs hI ls hl => ?_)
  have hl : lv_has ls 7 [(0, .ref sh), (1, .ref a), (2, .ref b)] := hl
  have hz0 := gB_z hI
  have h34 := gX_34 hI.1
  have hlL : L.length ≤ 48 := by have := h.2.2.2.2.2.2.2.2.1; omega
  have hl1 := h.2.1
  obtain ⟨m1, hal1⟩ := hl1.1
  have hcc : c1 < 2 ^ 20 := by have := h.2.2.2.2.1.1; omega
  refine lv_aload_n S.1 S.2.1 d_Shelf_swap_0 rfl (lv_at hl 0 rfl) ?_
  refine lv_aload_n S.1 S.2.1 d_Shelf_swap_1 rfl (lv_at hl 1 rfl) ?_
  refine gc_Vi S hI (c_Shelf_indexOf l P f h ha hb hn hcp) kv_Shelf_indexOf wi_132 h.1 rfl rfl rfl hl.1 rfl (Nat.le_of_ble_eq_true rfl) ⟨Nat.le_of_ble_eq_true rfl, Nat.le_of_ble_eq_true rfl⟩ ⟨Nat.le_of_ble_eq_true rfl, Nat.le_of_ble_eq_true rfl⟩ d_Shelf_swap_2 (fun r179 f180 H locs hp181 hI => ?_)
  obtain ⟨hp1, hp2⟩ := hp181
  subst hp1
  rw [hp2] at hI
  refine lv_istore_n (lv' := [(3, .int (idxI (idx (nms af L) (nmL n g)))), (0, .ref sh), (1, .ref a), (2, .ref b)]) S.1 S.2.1 d_Shelf_swap_5 rfl hl (by decide) rfl (fun ls hl => ?_)
  refine lv_aload_n S.1 S.2.1 d_Shelf_swap_6 rfl (lv_at hl 1 rfl) ?_
  refine lv_aload_n S.1 S.2.1 d_Shelf_swap_7 rfl (lv_at hl 3 rfl) ?_
  refine gc_Vi S hI (c_Shelf_indexOf l P f h ha2 hb2 hn2 hcp2) kv_Shelf_indexOf wi_132 h.1 rfl rfl rfl hl.1 rfl (Nat.le_of_ble_eq_true rfl) ⟨Nat.le_of_ble_eq_true rfl, Nat.le_of_ble_eq_true rfl⟩ ⟨Nat.le_of_ble_eq_true rfl, Nat.le_of_ble_eq_true rfl⟩ d_Shelf_swap_8 (fun r182 f183 H locs hp184 hI => ?_)
  obtain ⟨hp1, hp2⟩ := hp184
  subst hp1
  rw [hp2] at hI
  refine lv_istore (lv' := [(4, .int (idxI (idx (nms af L) (nmL n2 g2)))), (3, .int (idxI (idx (nms af L) (nmL n g)))), (0, .ref sh), (1, .ref a), (2, .ref b)]) S.1 S.2.1 d_Shelf_swap_11 hl (by decide) rfl (fun ls hl => ?_)
  refine lv_iload_n S.1 S.2.1 d_Shelf_swap_13 rfl (lv_at hl 1 rfl) ?_
  rcases hix : idx (nms af L) (nmL n g) with _ | i
  · rw [hix] at hl
    rw [show idxI none = (-2) from rfl] at hl ⊢
    refine lv_if_lt (tgt := 22) S.1 S.2.1 d_Shelf_swap_14 (by decide) (fun c185 => ?_) (fun c185 => ?_)
    · skip
      refine lv_iconst (v := nI 0) S.1 S.2.1 d_Shelf_swap_22 (by decide) ?_
      exact gr_z S hr hlk hI (by first | exact Or.inl rfl | exact Or.inr rfl) (Or.inl ⟨Or.inl rfl, rfl, rfl⟩) d_Shelf_swap_23
    · skip
      exact absurd (by decide) c185
  · rw [hix] at hl
    rw [show idxI (some i) = nI i from rfl] at hl ⊢
    obtain ⟨hi1, hi2, hi3⟩ := idx_lt hix
    have hiL : i < L.length := by simpa [nms] using hi1
    refine lv_if_lt (tgt := 22) S.1 S.2.1 d_Shelf_swap_14 (by decide) (fun c186 => ?_) (fun c186 => ?_)
    · skip
      exact absurd c186 (nI_pos (by omega))
    · skip
      refine lv_iload S.1 S.2.1 d_Shelf_swap_17 (lv_at hl 0 rfl) ?_
      rcases hjx : idx (nms af L) (nmL n2 g2) with _ | j
      · rw [hjx] at hl
        rw [show idxI none = (-2) from rfl] at hl ⊢
        refine lv_if_ge (tgt := 24) S.1 S.2.1 d_Shelf_swap_19 (by decide) (fun c187 => ?_) (fun c187 => ?_)
        · skip
          exact absurd c187 (by decide)
        · skip
          refine lv_iconst (v := nI 0) S.1 S.2.1 d_Shelf_swap_22 (by decide) ?_
          exact gr_z S hr hlk hI (by first | exact Or.inl rfl | exact Or.inr rfl) (Or.inl ⟨Or.inr rfl, rfl, rfl⟩) d_Shelf_swap_23
      · rw [hjx] at hl
        rw [show idxI (some j) = nI j from rfl] at hl ⊢
        obtain ⟨hj1, hj2, hj3⟩ := idx_lt hjx
        have hjL : j < L.length := by simpa [nms] using hj1
        refine lv_if_ge (tgt := 24) S.1 S.2.1 d_Shelf_swap_19 (by decide) (fun c188 => ?_) (fun c188 => ?_)
        · skip
          refine lv_aload_n S.1 S.2.1 d_Shelf_swap_24 rfl (lv_at hl 2 rfl) ?_
          refine gh_get S hI h.1 rfl i_Shelf 0 (by decide) wi_67 rfl d_Shelf_swap_25 ?_
          refine lv_iload_n S.1 S.2.1 d_Shelf_swap_28 rfl (lv_at hl 1 rfl) ?_
          refine gc_Vr S hI (c_AL_get l P f hl1 (i := i) hiL hcc) kv_AL_get wi_142 hal1 rfl rfl rfl hl.1 rfl (Nat.le_of_ble_eq_true rfl) ⟨Nat.le_of_ble_eq_true rfl, Nat.le_of_ble_eq_true rfl⟩ ⟨Nat.le_of_ble_eq_true rfl, Nat.le_of_ble_eq_true rfl⟩ d_Shelf_swap_29 (fun r189 f190 H locs hg0 hI => ?_)
          obtain ⟨hg1, hg2⟩ := hg0
          rw [hg2] at hI
          have hxL := List.mem_of_getElem? hg1
          obtain ⟨⟨nx, gx, psx, x0, x1, x2, x3, x4, x5, x6, x7⟩, xw⟩ := h.2.2.2.2.2.1 r189 hxL
          refine gh_cast (q := (R_File, F_File, 5)) S hI rfl x0 wi_156 d_Shelf_swap_32 ?_
          have hone := hg1
          have hoL := hxL
          obtain ⟨u0, u1, u2, u3, u4, u5, u6, u7, uw⟩ : f r189 = _ ∧ f (r189 + 1) = _ ∧ f (r189 + 2) = _ ∧ f (r189 + 3) = _ ∧ nx ≤ 200 ∧ sb_Fit gx ∧ nmL nx gx = _ ∧ gPs P f ow r189 psx _ _ ∧ wfF _ _ _ := ⟨x0, x1, x2, x3, x4, x5, x6, x7, xw⟩
          refine lv_astore (lv' := [(5, .ref r189), (4, .int (nI j)), (3, .int (nI i)), (0, .ref sh), (1, .ref a), (2, .ref b)]) S.1 S.2.1 d_Shelf_swap_35 hl (by decide) rfl (fun ls hl => ?_)
          refine lv_aload_n S.1 S.2.1 d_Shelf_swap_37 rfl (lv_at hl 3 rfl) ?_
          refine gh_get S hI h.1 rfl i_Shelf 0 (by decide) wi_67 rfl d_Shelf_swap_38 ?_
          refine lv_iload S.1 S.2.1 d_Shelf_swap_41 (lv_at hl 1 rfl) ?_
          refine gc_Vr S hI (c_AL_get l P f hl1 (i := j) hjL hcc) kv_AL_get wi_142 hal1 rfl rfl rfl hl.1 rfl (Nat.le_of_ble_eq_true rfl) ⟨Nat.le_of_ble_eq_true rfl, Nat.le_of_ble_eq_true rfl⟩ ⟨Nat.le_of_ble_eq_true rfl, Nat.le_of_ble_eq_true rfl⟩ d_Shelf_swap_43 (fun r191 f192 H locs hg0 hI => ?_)
          obtain ⟨hg1, hg2⟩ := hg0
          rw [hg2] at hI
          have hxL := List.mem_of_getElem? hg1
          obtain ⟨⟨nx, gx, psx, x0, x1, x2, x3, x4, x5, x6, x7⟩, xw⟩ := h.2.2.2.2.2.1 r191 hxL
          refine gh_cast (q := (R_File, F_File, 5)) S hI rfl x0 wi_156 d_Shelf_swap_46 ?_
          have hoth := hg1
          have hyL := hxL
          have hofi := (h.2.2.2.2.2.1 r189 hoL).1
          obtain ⟨nx, gx, psx, x0, x1, x2, x3, x4, x5, x6, x7⟩ := id hofi
          refine lv_astore (lv' := [(6, .ref r191), (5, .ref r189), (4, .int (nI j)), (3, .int (nI i)), (0, .ref sh), (1, .ref a), (2, .ref b)]) S.1 S.2.1 d_Shelf_swap_49 hl (by decide) rfl (fun ls hl => ?_)
          refine lv_aload S.1 S.2.1 d_Shelf_swap_51 (lv_at hl 1 rfl) ?_
          refine gc_Vr S hI (c_File_title l P f x0) kv_File_title wi_157 x0 rfl rfl rfl hl.1 rfl (Nat.le_of_ble_eq_true rfl) ⟨Nat.le_of_ble_eq_true rfl, Nat.le_of_ble_eq_true rfl⟩ ⟨Nat.le_of_ble_eq_true rfl, Nat.le_of_ble_eq_true rfl⟩ d_Shelf_swap_53 (fun r193 f194 H locs hp195 hI => ?_)
          obtain ⟨ht1, ht2⟩ := hp195
          subst ht1
          rw [ht2] at hI
          refine lv_aload_n S.1 S.2.1 d_Shelf_swap_56 rfl (lv_at hl 6 rfl) ?_
          have hnt := (hU).nt x0 x1
          refine gc_Vv S hI (c_Row_become l P f x1 x2 ha2 hb2 (fun z => hnt (by rw [z]; exact hUb)) (fun z => hnt (by rw [show r189 + 1 = b by omega]; exact hUb)) hn2 (by omega) (by omega) hcp2 hgB) kv_Row_become wi_345 x1 rfl rfl rfl hl.1 rfl (Nat.le_of_ble_eq_true rfl) ⟨Nat.le_of_ble_eq_true rfl, Nat.le_of_ble_eq_true rfl⟩ ⟨Nat.le_of_ble_eq_true rfl, Nat.le_of_ble_eq_true rfl⟩ d_Shelf_swap_57 (fun f197 H locs hp198 hI => ?_)
          obtain ⟨t1, t2, t3⟩ := hp198
          have tF : gFr f f197 [r189, r189 + 1, r189 + 2] := t3.mono (fun q hq => List.mem_cons_of_mem _ hq)
          have t0 := t3 r189 _ x0 (nm2 (by omega) (by omega))
          have t4 := t3 (r189 + 3) _ x3 (nm2 (by omega) (by omega))
          have tps : gPs P f197 ow r189 psx (af r189).2.2.2.1 (af r189).2.2.2.2 := x7.fr t3 (fun t y ht hy => by
            obtain ⟨-, hh, d2, -⟩ := (x7 t ht).2 y hy
            exact ⟨nm2 (gh_ne d2.1 x1 (by intro h; simp at h)) (gh_ne d2.1 x2 (by intro h; cases h)), nm2 (gh_ne d2.2.1 x1 (by intro h; cases h)) (fun z => by have d1 := d2.1; rw [show y = r189 + 1 by omega, x1] at d1; simp at d1)⟩)
          have hFU1 : gFU f f197 U := hU.tt x0 x1 x2 tF
          have hnoS : ∀ q, q ∈ L → q ∉ SF := fun q hq z => (List.nodup_append.mp h.2.2.2.2.2.2.2.1).2.2 _ hq _ z rfl
          obtain ⟨af1, haf1⟩ : ∃ z, z = va_up af r189 (nmL n2 g2, (af r189).2) := ⟨_, rfl⟩
          have hsh1 : gSh P f197 ow sh L SF SP e1 c1 e2 c2 e3 c3 af1 := h.tt hz0 x0 x1 x2 tF (fun q _ hne => by rw [haf1]; exact va_up_ne _ _ hne) (fun _ => by rw [haf1, va_up_self]; exact ⟨⟨n2, _, psx, t0, t1, t2, t4, by omega, sb_fitC hgB x5, nmL_cpy, tps⟩, (h.2.2.2.2.2.1 r189 hoL).2⟩) (hnoS _ hoL)
          have hUo1 := hU.to hFU1
          have ha1 := hFU1 a _ hUa ha
          have hb1 := hFU1 (a + 1) _ hUa1 hb
          have hz1 := gB_z hI
          obtain ⟨⟨nx, gx, psx, x0, x1, x2, x3, x4, x5, x6, x7⟩, yw⟩ := hsh1.2.2.2.2.2.1 r191 hyL
          skip
          refine lv_aload S.1 S.2.1 d_Shelf_swap_60 (lv_at hl 0 rfl) ?_
          refine gc_Vr S hI (c_File_title l P f197 x0) kv_File_title wi_157 x0 rfl rfl rfl hl.1 rfl (Nat.le_of_ble_eq_true rfl) ⟨Nat.le_of_ble_eq_true rfl, Nat.le_of_ble_eq_true rfl⟩ ⟨Nat.le_of_ble_eq_true rfl, Nat.le_of_ble_eq_true rfl⟩ d_Shelf_swap_62 (fun r199 f200 H locs hp201 hI => ?_)
          obtain ⟨ht1, ht2⟩ := hp201
          subst ht1
          rw [ht2] at hI
          refine lv_aload_n S.1 S.2.1 d_Shelf_swap_65 rfl (lv_at hl 5 rfl) ?_
          have hnt := (hUo1).nt x0 x1
          refine gc_Vv S hI (c_Row_become l P f197 x1 x2 ha1 hb1 (fun z => hnt (by rw [z]; exact hUa)) (fun z => hnt (by rw [show r191 + 1 = a by omega]; exact hUa)) hn (by omega) (by omega) hcp hg) kv_Row_become wi_345 x1 rfl rfl rfl hl.1 rfl (Nat.le_of_ble_eq_true rfl) ⟨Nat.le_of_ble_eq_true rfl, Nat.le_of_ble_eq_true rfl⟩ ⟨Nat.le_of_ble_eq_true rfl, Nat.le_of_ble_eq_true rfl⟩ d_Shelf_swap_66 (fun f203 H locs hp204 hI => ?_)
          obtain ⟨t1, t2, t3⟩ := hp204
          have tF : gFr f197 f203 [r191, r191 + 1, r191 + 2] := t3.mono (fun q hq => List.mem_cons_of_mem _ hq)
          have t0 := t3 r191 _ x0 (nm2 (by omega) (by omega))
          have t4 := t3 (r191 + 3) _ x3 (nm2 (by omega) (by omega))
          have tps : gPs P f203 ow r191 psx (af1 r191).2.2.2.1 (af1 r191).2.2.2.2 := x7.fr t3 (fun t y ht hy => by
            obtain ⟨-, hh, d2, -⟩ := (x7 t ht).2 y hy
            exact ⟨nm2 (gh_ne d2.1 x1 (by intro h; simp at h)) (gh_ne d2.1 x2 (by intro h; cases h)), nm2 (gh_ne d2.2.1 x1 (by intro h; cases h)) (fun z => by have d1 := d2.1; rw [show y = r191 + 1 by omega, x1] at d1; simp at d1)⟩)
          have hFU2 : gFU f f203 U := hFU1.trans (hUo1.tt x0 x1 x2 tF)
          obtain ⟨af2, haf2⟩ : ∃ z, z = va_up af1 r191 (nmL n g, (af1 r191).2) := ⟨_, rfl⟩
          have hsh2 : gSh P f203 ow sh L SF SP e1 c1 e2 c2 e3 c3 af2 := hsh1.tt hz1 x0 x1 x2 tF (fun q _ hne => by rw [haf2]; exact va_up_ne _ _ hne) (fun _ => by rw [haf2, va_up_self]; exact ⟨⟨n, _, psx, t0, t1, t2, t4, by omega, sb_fitC hg x5, nmL_cpy, tps⟩, yw⟩) (hnoS _ hyL)
          have hz2 := gB_z hI
          obtain ⟨m9, hal9⟩ := hsh2.2.1.1
          obtain ⟨⟨_, _, _, k0, -⟩, -⟩ := hsh2.2.2.2.2.2.1 r191 hyL
          obtain ⟨⟨_, _, _, k1, -⟩, -⟩ := hsh2.2.2.2.2.2.1 r189 hoL
          refine lv_aload_n S.1 S.2.1 d_Shelf_swap_69 rfl (lv_at hl 4 rfl) ?_
          refine gh_get S hI hsh2.1 rfl i_Shelf 0 (by decide) wi_67 rfl d_Shelf_swap_70 ?_
          refine lv_iload_n S.1 S.2.1 d_Shelf_swap_73 rfl (lv_at hl 3 rfl) ?_
          refine lv_aload S.1 S.2.1 d_Shelf_swap_74 (lv_at hl 0 rfl) ?_
          refine gc_Vr S hI (c_AL_set l P f203 (i := i) hsh2.2.1 hiL hcc (Or.inl rfl) k0) kv_AL_set wi_353 hal9 rfl rfl rfl hl.1 rfl (Nat.le_of_ble_eq_true rfl) ⟨Nat.le_of_ble_eq_true rfl, Nat.le_of_ble_eq_true rfl⟩ ⟨Nat.le_of_ble_eq_true rfl, Nat.le_of_ble_eq_true rfl⟩ d_Shelf_swap_76 (fun r205 f206 H locs hp207 hI => ?_)
          obtain ⟨-, s1, s2⟩ := hp207
          have hE2 : ∀ c fs, f203 c = some (.inr (4, fs)) → c ∉ [e1] := fun c fs hc z => (hsh2.2.1.npc (by decide) hc hz2) (by rw [List.mem_singleton.mp z]; simp)
          have k13 := s2 _ _ k1 (hE2 _ _ k1)
          have hsh3v := s2 sh _ hsh2.1 (fun z => (hsh2.2.1.npc (by decide) hsh2.1 hz2) (by rw [List.mem_singleton.mp z]; simp))
          obtain ⟨m8, hal8⟩ := s1.1
          refine lv_pop S.1 S.2.1 d_Shelf_swap_79 rfl ?_
          refine lv_aload_n S.1 S.2.1 d_Shelf_swap_80 rfl (lv_at hl 4 rfl) ?_
          refine gh_get S hI hsh3v rfl i_Shelf 0 (by decide) wi_67 rfl d_Shelf_swap_81 ?_
          refine lv_iload S.1 S.2.1 d_Shelf_swap_84 (lv_at hl 2 rfl) ?_
          refine lv_aload S.1 S.2.1 d_Shelf_swap_86 (lv_at hl 1 rfl) ?_
          refine gc_Vr S hI (c_AL_set l P f206 (i := j) s1 (by rw [List.length_set]; exact hjL) hcc (Or.inl rfl) k13) kv_AL_set wi_353 hal8 rfl rfl rfl hl.1 rfl (Nat.le_of_ble_eq_true rfl) ⟨Nat.le_of_ble_eq_true rfl, Nat.le_of_ble_eq_true rfl⟩ ⟨Nat.le_of_ble_eq_true rfl, Nat.le_of_ble_eq_true rfl⟩ d_Shelf_swap_88 (fun r208 f209 H locs hp210 hI => ?_)
          obtain ⟨-, s3, s4⟩ := hp210
          have sF : gFr f203 f209 [sh + 1, e1] := (s2.mono (fun q hq => List.mem_cons_of_mem _ hq)).call s4 (fun q hq => Or.inl (List.mem_cons_of_mem _ hq))
          have hns := nodup_sw h.2.2.2.2.2.2.2.1 hone hoth
          have hfin := hsh2.setL h34 hz2 sF s3 h.2.2.2.2.1.1 (Or.inl rfl) (fun q hq => hsh2.2.2.2.2.2.1 q (hns.2 q hq)) hns.1 (by simp; have := h.2.2.2.2.2.2.2.2.1; omega)
          refine lv_pop S.1 S.2.1 d_Shelf_swap_91 rfl ?_
          refine lv_iconst (v := nI 1) S.1 S.2.1 d_Shelf_swap_92 (by decide) ?_
          exact gr_z S hr hlk hI (by first | exact Or.inl rfl | exact Or.inr rfl) (Or.inr ⟨i, j, r189, r191, rfl, rfl, hone, hoth, rfl, by rw [haf2, haf1] at hfin; exact hfin, hFU2.trans ((hU.to hFU2).frl hsh2.2.1 hz2 sF)⟩) d_Shelf_swap_93
        · skip
          exact absurd (nI_pos' (by omega)) c188
