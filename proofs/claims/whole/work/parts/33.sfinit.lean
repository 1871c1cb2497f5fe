set_option maxHeartbeats 4000000 in
set_option maxRecDepth 100000 in
theorem c_Shelf_initZ (l : Launch) (P : gPar) (f : gM) {a : Nat} (ha : f a = some (.inr (5, [.null, .null, .null]))) : gCz l P y_Shelf_init b_Shelf_init 1 none 5 4 10 [.ref a] (f, a + 1) (gQz P (fun u => u.2 = a + 5 ∧ u.1 a = some (.inr (5, [.ref (a + 1), .ref (a + 2), .ref (a + 3)])) ∧ gLi P u.1 (a + 1) P.2.2.2.1 0 [] ∧ gLi P u.1 (a + 2) P.2.2.2.1 0 [] ∧ u.1 (a + 3) = some (.inr (3, [.ref (a + 4)])) ∧ gLi P u.1 (a + 4) P.2.2.2.1 0 [] ∧ gFr f u.1 [a])) := by
  refine gCz_of (by decide) (Nat.le_of_ble_eq_true rfl) (fun p env s m args below meth c S hr hlk hnm H locs hI hz ls hl => ?_)
  have hl : lv_has ls 1 [(0, .ref a)] := hl
  have hF : gFr f f [a] := gFr.rf
  have hn0 : ∀ q, a + 1 ≤ q → f q = none := fun q hq => gB_none hI (by omega)
  refine lv_aload_n S.1 S.2.1 d_Shelf_init_0 rfl (lv_at hl 0 rfl) ?_
  refine gc_obj S wi_39 hl.1 d_Shelf_init_1 (Nat.le_of_ble_eq_true rfl) (Nat.le_of_ble_eq_true rfl) ?_
  refine lv_aload_n S.1 S.2.1 d_Shelf_init_4 rfl (lv_at hl 0 rfl) ?_
  refine gh_newZ (ci := 6) (fs := [.int 0, .null, .int 0]) S hI hz rfl i_AL t_AL tk_AL wi_40 wi_41 wi_6 (fun j hj => by rcases (show j = 0 ∨ j = 1 ∨ j = 2 by omega) with rfl | rfl | rfl <;> rfl) (Nat.le_of_ble_eq_true rfl) (Nat.le_of_ble_eq_true rfl) d_Shelf_init_5 (fun H hn1 hz hI => ?_)
  replace hz : H.size = a + 2 := hz
  have hI : gB P (va_up f (a + 1) (some (.inr (6, [.int 0, .null, .int 0])))) s H locs := hI
  obtain ⟨f2, ef2⟩ : ∃ z, z = va_up f (a + 1) (some (.inr (6, [.int 0, .null, .int 0]))) := ⟨_, rfl⟩
  rw [← ef2] at hI
  have h3 : f2 a = some (.inr (5, [.null, .null, .null])) := by rw [ef2, va_up_ne _ _ (gh_ne ha hn1 (by intro h; cases h))]; exact ha
  have h4 : f2 (a + 1) = some (.inr (6, [.int 0, .null, .int 0])) := by rw [ef2]; exact va_up_self _ _ _
  have hF : gFr f f2 [a] := by rw [ef2]; exact gFr.upN hn1 hF
  refine lv_dup S.1 S.2.1 d_Shelf_init_8 rfl ?_
  refine gc_Iz S hI hz (c_AL_initZ l P f2 h4) kv_AL_init wi_42 rfl hl.1 rfl (Nat.le_of_ble_eq_true rfl) ⟨Nat.le_of_ble_eq_true rfl, Nat.le_of_ble_eq_true rfl⟩ ⟨Nat.le_of_ble_eq_true rfl, Nat.le_of_ble_eq_true rfl⟩ d_Shelf_init_9 (fun f5 z6 H locs hp7 hI hz => ?_)
  obtain ⟨hp0, ⟨⟨m1, l1⟩, -⟩, hp2⟩ := hp7
  dsimp only at hp0 l1 hp2
  rw [hp0] at hz
  replace l1 : f5 (a + 1) = some (.inr (6, [.int m1, .ref P.2.2.2.1, .int (nI 0)])) := l1
  have hF : gFr f f5 [a] := hF.call hp2 (fun q hq => Or.inr (by rw [List.mem_singleton.mp hq]; exact hn0 _ (by omega)))
  have h8 := hp2 _ _ h3 (by simp)
  refine gh_putFZ S hI hz h8 rfl i_Shelf t_Shelf tk_Shelf n_Shelf 0 (by decide) wi_67 rfl hnm rfl rfl rfl (Nat.le_of_ble_eq_true rfl) d_Shelf_init_12 (fun H locs hz hI => ?_)
  have hI : gB P (va_up f5 a (some (.inr (5, [.ref (a + 1), .null, .null])))) s H locs := hI
  obtain ⟨f9, ef9⟩ : ∃ z, z = va_up f5 a (some (.inr (5, [.ref (a + 1), .null, .null]))) := ⟨_, rfl⟩
  rw [← ef9] at hI
  have h10 : f9 (a + 1) = some (.inr (6, [.int m1, .ref P.2.2.2.1, .int (nI 0)])) := by rw [ef9, va_up_ne _ _ (by omega)]; exact l1
  have h11 : f9 a = some (.inr (5, [.ref (a + 1), .null, .null])) := by rw [ef9]; exact va_up_self _ _ _
  have hF : gFr f f9 [a] := by rw [ef9]; exact gFr.upA (by simp) hF
  refine lv_aload_n S.1 S.2.1 d_Shelf_init_15 rfl (lv_at hl 0 rfl) ?_
  refine gh_newZ (ci := 6) (fs := [.int 0, .null, .int 0]) S hI hz rfl i_AL t_AL tk_AL wi_40 wi_41 wi_6 (fun j hj => by rcases (show j = 0 ∨ j = 1 ∨ j = 2 by omega) with rfl | rfl | rfl <;> rfl) (Nat.le_of_ble_eq_true rfl) (Nat.le_of_ble_eq_true rfl) d_Shelf_init_16 (fun H hn12 hz hI => ?_)
  replace hz : H.size = a + 3 := hz
  have hI : gB P (va_up f9 (a + 2) (some (.inr (6, [.int 0, .null, .int 0])))) s H locs := hI
  obtain ⟨f13, ef13⟩ : ∃ z, z = va_up f9 (a + 2) (some (.inr (6, [.int 0, .null, .int 0]))) := ⟨_, rfl⟩
  rw [← ef13] at hI
  have h14 : f13 (a + 1) = some (.inr (6, [.int m1, .ref P.2.2.2.1, .int (nI 0)])) := by rw [ef13, va_up_ne _ _ (gh_ne h10 hn12 (by intro h; cases h))]; exact h10
  have h15 : f13 a = some (.inr (5, [.ref (a + 1), .null, .null])) := by rw [ef13, va_up_ne _ _ (gh_ne h11 hn12 (by intro h; cases h))]; exact h11
  have h16 : f13 (a + 2) = some (.inr (6, [.int 0, .null, .int 0])) := by rw [ef13]; exact va_up_self _ _ _
  have hF : gFr f f13 [a] := by rw [ef13]; exact gFr.upN hn12 hF
  refine lv_dup S.1 S.2.1 d_Shelf_init_19 rfl ?_
  refine gc_Iz S hI hz (c_AL_initZ l P f13 h16) kv_AL_init wi_42 rfl hl.1 rfl (Nat.le_of_ble_eq_true rfl) ⟨Nat.le_of_ble_eq_true rfl, Nat.le_of_ble_eq_true rfl⟩ ⟨Nat.le_of_ble_eq_true rfl, Nat.le_of_ble_eq_true rfl⟩ d_Shelf_init_20 (fun f17 z18 H locs hp19 hI hz => ?_)
  obtain ⟨hp0, ⟨⟨m2, l2⟩, -⟩, hp2⟩ := hp19
  dsimp only at hp0 l2 hp2
  rw [hp0] at hz
  replace l2 : f17 (a + 2) = some (.inr (6, [.int m2, .ref P.2.2.2.1, .int (nI 0)])) := l2
  have hF : gFr f f17 [a] := hF.call hp2 (fun q hq => Or.inr (by rw [List.mem_singleton.mp hq]; exact hn0 _ (by omega)))
  have h20 := hp2 _ _ h14 (by simp)
  have h21 := hp2 _ _ h15 (by simp)
  refine gh_putFZ S hI hz h21 rfl i_Shelf t_Shelf tk_Shelf n_Shelf 1 (by decide) wi_68 rfl hnm rfl rfl rfl (Nat.le_of_ble_eq_true rfl) d_Shelf_init_23 (fun H locs hz hI => ?_)
  have hI : gB P (va_up f17 a (some (.inr (5, [.ref (a + 1), .ref (a + 2), .null])))) s H locs := hI
  obtain ⟨f22, ef22⟩ : ∃ z, z = va_up f17 a (some (.inr (5, [.ref (a + 1), .ref (a + 2), .null]))) := ⟨_, rfl⟩
  rw [← ef22] at hI
  have h23 : f22 (a + 2) = some (.inr (6, [.int m2, .ref P.2.2.2.1, .int (nI 0)])) := by rw [ef22, va_up_ne _ _ (by omega)]; exact l2
  have h24 : f22 (a + 1) = some (.inr (6, [.int m1, .ref P.2.2.2.1, .int (nI 0)])) := by rw [ef22, va_up_ne _ _ (by omega)]; exact h20
  have h25 : f22 a = some (.inr (5, [.ref (a + 1), .ref (a + 2), .null])) := by rw [ef22]; exact va_up_self _ _ _
  have hF : gFr f f22 [a] := by rw [ef22]; exact gFr.upA (by simp) hF
  refine lv_aload_n S.1 S.2.1 d_Shelf_init_26 rfl (lv_at hl 0 rfl) ?_
  refine gh_newZ (ci := 3) (fs := [.null]) S hI hz rfl i_Pool t_Pool tk_Pool wi_58 wi_59 wi_7 (fun j hj => by rcases (show j = 0 by omega) with rfl <;> rfl) (Nat.le_of_ble_eq_true rfl) (Nat.le_of_ble_eq_true rfl) d_Shelf_init_27 (fun H hn26 hz hI => ?_)
  replace hz : H.size = a + 4 := hz
  have hI : gB P (va_up f22 (a + 3) (some (.inr (3, [.null])))) s H locs := hI
  obtain ⟨f27, ef27⟩ : ∃ z, z = va_up f22 (a + 3) (some (.inr (3, [.null]))) := ⟨_, rfl⟩
  rw [← ef27] at hI
  have h28 : f27 (a + 2) = some (.inr (6, [.int m2, .ref P.2.2.2.1, .int (nI 0)])) := by rw [ef27, va_up_ne _ _ (gh_ne h23 hn26 (by intro h; cases h))]; exact h23
  have h29 : f27 (a + 1) = some (.inr (6, [.int m1, .ref P.2.2.2.1, .int (nI 0)])) := by rw [ef27, va_up_ne _ _ (gh_ne h24 hn26 (by intro h; cases h))]; exact h24
  have h30 : f27 a = some (.inr (5, [.ref (a + 1), .ref (a + 2), .null])) := by rw [ef27, va_up_ne _ _ (gh_ne h25 hn26 (by intro h; cases h))]; exact h25
  have h31 : f27 (a + 3) = some (.inr (3, [.null])) := by rw [ef27]; exact va_up_self _ _ _
  have hF : gFr f f27 [a] := by rw [ef27]; exact gFr.upN hn26 hF
  refine lv_dup S.1 S.2.1 d_Shelf_init_30 rfl ?_
  refine gc_Iz S hI hz (c_Pool_initZ l P f27 (a := a + 3) h31) kv_Pool_init wi_60 rfl hl.1 rfl (Nat.le_of_ble_eq_true rfl) ⟨Nat.le_of_ble_eq_true rfl, Nat.le_of_ble_eq_true rfl⟩ ⟨Nat.le_of_ble_eq_true rfl, Nat.le_of_ble_eq_true rfl⟩ d_Shelf_init_31 (fun f32 z33 H locs hp34 hI hz => ?_)
  obtain ⟨hp0, hp1, ⟨⟨m4, l4⟩, -⟩, hp2⟩ := hp34
  dsimp only at hp0 hp1 l4 hp2
  rw [hp0] at hz
  replace hz : H.size = a + 5 := hz
  replace l4 : f32 (a + 4) = some (.inr (6, [.int m4, .ref P.2.2.2.1, .int (nI 0)])) := l4
  have hF : gFr f f32 [a] := hF.call hp2 (fun q hq => Or.inr (by rw [List.mem_singleton.mp hq]; exact hn0 _ (by omega)))
  have h35 := hp2 _ _ h28 (by simp)
  have h36 := hp2 _ _ h29 (by simp)
  have h37 := hp2 _ _ h30 (by simp)
  refine gh_putFZ S hI hz h37 rfl i_Shelf t_Shelf tk_Shelf n_Shelf 2 (by decide) wi_69 rfl hnm rfl rfl rfl (Nat.le_of_ble_eq_true rfl) d_Shelf_init_34 (fun H locs hz hI => ?_)
  have hI : gB P (va_up f32 a (some (.inr (5, [.ref (a + 1), .ref (a + 2), .ref (a + 3)])))) s H locs := hI
  obtain ⟨f38, ef38⟩ : ∃ z, z = va_up f32 a (some (.inr (5, [.ref (a + 1), .ref (a + 2), .ref (a + 3)]))) := ⟨_, rfl⟩
  rw [← ef38] at hI
  have h39 : f38 (a + 3) = some (.inr (3, [.ref (a + 4)])) := by rw [ef38, va_up_ne _ _ (by omega)]; exact hp1
  have h40 : f38 (a + 4) = some (.inr (6, [.int m4, .ref P.2.2.2.1, .int (nI 0)])) := by rw [ef38, va_up_ne _ _ (by omega)]; exact l4
  have h41 : f38 (a + 2) = some (.inr (6, [.int m2, .ref P.2.2.2.1, .int (nI 0)])) := by rw [ef38, va_up_ne _ _ (by omega)]; exact h35
  have h42 : f38 (a + 1) = some (.inr (6, [.int m1, .ref P.2.2.2.1, .int (nI 0)])) := by rw [ef38, va_up_ne _ _ (by omega)]; exact h36
  have h43 : f38 a = some (.inr (5, [.ref (a + 1), .ref (a + 2), .ref (a + 3)])) := by rw [ef38]; exact va_up_self _ _ _
  have hF : gFr f f38 [a] := by rw [ef38]; exact gFr.upA (by simp) hF
  refine W.widen (k := 4) (n := 10) (by omega) (by omega) ?_
  exact gr_vz S hr hlk hI hz (⟨rfl, h43, ⟨⟨m1, h42⟩, Or.inl ⟨rfl, rfl, rfl⟩⟩, ⟨⟨m2, h41⟩, Or.inl ⟨rfl, rfl, rfl⟩⟩, h39, ⟨⟨m4, h40⟩, Or.inl ⟨rfl, rfl, rfl⟩⟩, hF⟩) d_Shelf_init_37
theorem nm1 {a b : Nat} (h : a ≠ b) : a ∉ [b] := by simpa using h
theorem gFS_new {P : gPar} {f : gM} {sh : Nat} (h0 : f sh = some (.inr (5, [.ref (sh + 1), .ref (sh + 2), .ref (sh + 3)]))) (h1 : gLi P f (sh + 1) P.2.2.2.1 0 []) (h2 : gLi P f (sh + 2) P.2.2.2.1 0 []) (h3 : f (sh + 3) = some (.inr (3, [.ref (sh + 4)]))) (h4 : gLi P f (sh + 4) P.2.2.2.1 0 []) : gFS P f sh [] :=
  ⟨fun _ => none, [], [], [], P.2.2.2.1, 0, P.2.2.2.1, 0, P.2.2.2.1, 0, fun _ => fNew [] 0, ⟨h0, h1, h2, ⟨h3, h4, by omega, List.nodup_nil, fun x hx => by cases hx⟩, ⟨by omega, by omega⟩, (fun q hq => by cases hq), (fun q hq => by cases hq), List.nodup_nil, by simp, ⟨fun _ => rfl, fun _ => rfl, fun _ => rfl⟩⟩, rfl, by simp [sumC]⟩
def aNew : ASt := ([], [], [], [], 0, [])
set_option maxHeartbeats 4000000 in
set_option maxRecDepth 100000 in
theorem c_SF_initZ (l : Launch) (P : gPar) (f : gM) {a : Nat} (ha : f a = some (.inr (0, [.null, .null, .null, .null, .null, .int 0]))) : gCz l P y_SF_init b_SF_init 1 none 6 13 4527 [.ref a] (f, a + 1) (gQz P (fun u => u.2 = a + 14 ∧ gSF P u.1 a aNew ∧ gFr f u.1 [a])) := by
  refine gCz_of (by decide) (Nat.le_of_ble_eq_true rfl) (fun p env s m args below meth c S hr hlk hnm H locs hI hz ls hl => ?_)
  have hl : lv_has ls 1 [(0, .ref a)] := hl
  have hF : gFr f f [a] := gFr.rf
  have hn0 : ∀ q, a + 1 ≤ q → f q = none := fun q hq => gB_none hI (by omega)
  refine lv_aload_n S.1 S.2.1 d_SF_init_0 rfl (lv_at hl 0 rfl) ?_
  refine gc_obj S wi_22 hl.1 d_SF_init_1 (Nat.le_of_ble_eq_true rfl) (Nat.le_of_ble_eq_true rfl) ?_
  refine lv_aload_n S.1 S.2.1 d_SF_init_4 rfl (lv_at hl 0 rfl) ?_
  refine gh_newZ (ci := 1) (fs := [.null, .int 0]) S hI hz rfl i_Row t_Row tk_Row wi_25 wi_26 wi_2 (fun j hj => by rcases (show j = 0 ∨ j = 1 by omega) with rfl | rfl <;> rfl) (Nat.le_of_ble_eq_true rfl) (Nat.le_of_ble_eq_true rfl) d_SF_init_5 (fun H hn44 hz hI => ?_)
  replace hz : H.size = a + 2 := hz
  have hI : gB P (va_up f (a + 1) (some (.inr (1, [.null, .int 0])))) s H locs := hI
  obtain ⟨f45, ef45⟩ : ∃ z, z = va_up f (a + 1) (some (.inr (1, [.null, .int 0]))) := ⟨_, rfl⟩
  rw [← ef45] at hI
  have h46 : f45 a = some (.inr (0, [.null, .null, .null, .null, .null, .int 0])) := by rw [ef45, va_up_ne _ _ (gh_ne ha hn44 (by intro h; cases h))]; exact ha
  have h47 : f45 (a + 1) = some (.inr (1, [.null, .int 0])) := by rw [ef45]; exact va_up_self _ _ _
  have hF : gFr f f45 [a] := by rw [ef45]; exact gFr.upN hn44 hF
  refine lv_dup S.1 S.2.1 d_SF_init_8 rfl ?_
  refine lv_sipush (v := nI 2048) S.1 S.2.1 d_SF_init_9 (by decide) ?_
  refine gc_Iz S hI hz (c_Row_initZ l P f45 (a := a + 1) (cap := 2048) h47 (by omega)) kv_Row_init wi_27 rfl hl.1 rfl (Nat.le_of_ble_eq_true rfl) ⟨Nat.le_of_ble_eq_true rfl, Nat.le_of_ble_eq_true rfl⟩ ⟨Nat.le_of_ble_eq_true rfl, Nat.le_of_ble_eq_true rfl⟩ d_SF_init_12 (fun f48 z49 H locs hp50 hI hz => ?_)
  obtain ⟨hp0, hp1, hp2, hp3⟩ := hp50
  dsimp only at hp0 hp1 hp2 hp3
  rw [hp0] at hz
  replace hz : H.size = a + 3 := hz
  replace hp1 : f48 (a + 1) = some (.inr (1, [.ref (a + 2), .int (nI 0)])) := hp1
  replace hp2 : f48 (a + 2) = some (.inl (P.2.1 0, 2048, .inl (fun _ => 0))) := hp2
  have hF : gFr f f48 [a] := hF.call hp3 (fun q hq => Or.inr (by rw [List.mem_singleton.mp hq]; exact hn0 _ (by omega)))
  have h51 := hp3 _ _ h46 (by simp)
  have h52 := hp1
  have h53 := hp2
  refine gh_putFZ S hI hz h51 rfl i_SF t_SF tk_SF n_SF 0 (by decide) wi_70 rfl hnm rfl rfl rfl (Nat.le_of_ble_eq_true rfl) d_SF_init_15 (fun H locs hz hI => ?_)
  have hI : gB P (va_up f48 a (some (.inr (0, [.ref (a + 1), .null, .null, .null, .null, .int 0])))) s H locs := hI
  obtain ⟨f54, ef54⟩ : ∃ z, z = va_up f48 a (some (.inr (0, [.ref (a + 1), .null, .null, .null, .null, .int 0]))) := ⟨_, rfl⟩
  rw [← ef54] at hI
  have h55 : f54 (a + 1) = some (.inr (1, [.ref (a + 2), .int (nI 0)])) := by rw [ef54, va_up_ne _ _ (by omega)]; exact h52
  have h56 : f54 (a + 2) = some (.inl (P.2.1 0, 2048, .inl (fun _ => 0))) := by rw [ef54, va_up_ne _ _ (by omega)]; exact h53
  have h57 : f54 a = some (.inr (0, [.ref (a + 1), .null, .null, .null, .null, .int 0])) := by rw [ef54]; exact va_up_self _ _ _
  have hF : gFr f f54 [a] := by rw [ef54]; exact gFr.upA (by simp) hF
  refine lv_aload_n S.1 S.2.1 d_SF_init_18 rfl (lv_at hl 0 rfl) ?_
  refine gh_newZ (ci := 1) (fs := [.null, .int 0]) S hI hz rfl i_Row t_Row tk_Row wi_25 wi_26 wi_2 (fun j hj => by rcases (show j = 0 ∨ j = 1 by omega) with rfl | rfl <;> rfl) (Nat.le_of_ble_eq_true rfl) (Nat.le_of_ble_eq_true rfl) d_SF_init_19 (fun H hn58 hz hI => ?_)
  replace hz : H.size = a + 4 := hz
  have hI : gB P (va_up f54 (a + 3) (some (.inr (1, [.null, .int 0])))) s H locs := hI
  obtain ⟨f59, ef59⟩ : ∃ z, z = va_up f54 (a + 3) (some (.inr (1, [.null, .int 0]))) := ⟨_, rfl⟩
  rw [← ef59] at hI
  have h60 : f59 (a + 1) = some (.inr (1, [.ref (a + 2), .int (nI 0)])) := by rw [ef59, va_up_ne _ _ (gh_ne h55 hn58 (by intro h; cases h))]; exact h55
  have h61 : f59 (a + 2) = some (.inl (P.2.1 0, 2048, .inl (fun _ => 0))) := by rw [ef59, va_up_ne _ _ (gh_ne h56 hn58 (by intro h; cases h))]; exact h56
  have h62 : f59 a = some (.inr (0, [.ref (a + 1), .null, .null, .null, .null, .int 0])) := by rw [ef59, va_up_ne _ _ (gh_ne h57 hn58 (by intro h; cases h))]; exact h57
  have h63 : f59 (a + 3) = some (.inr (1, [.null, .int 0])) := by rw [ef59]; exact va_up_self _ _ _
  have hF : gFr f f59 [a] := by rw [ef59]; exact gFr.upN hn58 hF
  refine lv_dup S.1 S.2.1 d_SF_init_22 rfl ?_
  refine lv_sipush (v := nI 200) S.1 S.2.1 d_SF_init_23 (by decide) ?_
  refine gc_Iz S hI hz (c_Row_initZ l P f59 (a := a + 3) (cap := 200) h63 (by omega)) kv_Row_init wi_27 rfl hl.1 rfl (Nat.le_of_ble_eq_true rfl) ⟨Nat.le_of_ble_eq_true rfl, Nat.le_of_ble_eq_true rfl⟩ ⟨Nat.le_of_ble_eq_true rfl, Nat.le_of_ble_eq_true rfl⟩ d_SF_init_26 (fun f64 z65 H locs hp66 hI hz => ?_)
  obtain ⟨hp0, hp1, hp2, hp3⟩ := hp66
  dsimp only at hp0 hp1 hp2 hp3
  rw [hp0] at hz
  replace hz : H.size = a + 5 := hz
  replace hp1 : f64 (a + 3) = some (.inr (1, [.ref (a + 4), .int (nI 0)])) := hp1
  replace hp2 : f64 (a + 4) = some (.inl (P.2.1 0, 200, .inl (fun _ => 0))) := hp2
  have hF : gFr f f64 [a] := hF.call hp3 (fun q hq => Or.inr (by rw [List.mem_singleton.mp hq]; exact hn0 _ (by omega)))
  have h67 := hp3 _ _ h60 (by simp)
  have h68 := hp3 _ _ h61 (by simp)
  have h69 := hp3 _ _ h62 (by simp)
  have h70 := hp1
  have h71 := hp2
  refine gh_putFZ S hI hz h69 rfl i_SF t_SF tk_SF n_SF 1 (by decide) wi_71 rfl hnm rfl rfl rfl (Nat.le_of_ble_eq_true rfl) d_SF_init_29 (fun H locs hz hI => ?_)
  have hI : gB P (va_up f64 a (some (.inr (0, [.ref (a + 1), .ref (a + 3), .null, .null, .null, .int 0])))) s H locs := hI
  obtain ⟨f72, ef72⟩ : ∃ z, z = va_up f64 a (some (.inr (0, [.ref (a + 1), .ref (a + 3), .null, .null, .null, .int 0]))) := ⟨_, rfl⟩
  rw [← ef72] at hI
  have h73 : f72 (a + 1) = some (.inr (1, [.ref (a + 2), .int (nI 0)])) := by rw [ef72, va_up_ne _ _ (by omega)]; exact h67
  have h74 : f72 (a + 2) = some (.inl (P.2.1 0, 2048, .inl (fun _ => 0))) := by rw [ef72, va_up_ne _ _ (by omega)]; exact h68
  have h75 : f72 (a + 3) = some (.inr (1, [.ref (a + 4), .int (nI 0)])) := by rw [ef72, va_up_ne _ _ (by omega)]; exact h70
  have h76 : f72 (a + 4) = some (.inl (P.2.1 0, 200, .inl (fun _ => 0))) := by rw [ef72, va_up_ne _ _ (by omega)]; exact h71
  have h77 : f72 a = some (.inr (0, [.ref (a + 1), .ref (a + 3), .null, .null, .null, .int 0])) := by rw [ef72]; exact va_up_self _ _ _
  have hF : gFr f f72 [a] := by rw [ef72]; exact gFr.upA (by simp) hF
  refine lv_aload_n S.1 S.2.1 d_SF_init_32 rfl (lv_at hl 0 rfl) ?_
  refine gh_newZ (ci := 1) (fs := [.null, .int 0]) S hI hz rfl i_Row t_Row tk_Row wi_25 wi_26 wi_2 (fun j hj => by rcases (show j = 0 ∨ j = 1 by omega) with rfl | rfl <;> rfl) (Nat.le_of_ble_eq_true rfl) (Nat.le_of_ble_eq_true rfl) d_SF_init_33 (fun H hn78 hz hI => ?_)
  replace hz : H.size = a + 6 := hz
  have hI : gB P (va_up f72 (a + 5) (some (.inr (1, [.null, .int 0])))) s H locs := hI
  obtain ⟨f79, ef79⟩ : ∃ z, z = va_up f72 (a + 5) (some (.inr (1, [.null, .int 0]))) := ⟨_, rfl⟩
  rw [← ef79] at hI
  have h80 : f79 (a + 1) = some (.inr (1, [.ref (a + 2), .int (nI 0)])) := by rw [ef79, va_up_ne _ _ (gh_ne h73 hn78 (by intro h; cases h))]; exact h73
  have h81 : f79 (a + 2) = some (.inl (P.2.1 0, 2048, .inl (fun _ => 0))) := by rw [ef79, va_up_ne _ _ (gh_ne h74 hn78 (by intro h; cases h))]; exact h74
  have h82 : f79 (a + 3) = some (.inr (1, [.ref (a + 4), .int (nI 0)])) := by rw [ef79, va_up_ne _ _ (gh_ne h75 hn78 (by intro h; cases h))]; exact h75
  have h83 : f79 (a + 4) = some (.inl (P.2.1 0, 200, .inl (fun _ => 0))) := by rw [ef79, va_up_ne _ _ (gh_ne h76 hn78 (by intro h; cases h))]; exact h76
  have h84 : f79 a = some (.inr (0, [.ref (a + 1), .ref (a + 3), .null, .null, .null, .int 0])) := by rw [ef79, va_up_ne _ _ (gh_ne h77 hn78 (by intro h; cases h))]; exact h77
  have h85 : f79 (a + 5) = some (.inr (1, [.null, .int 0])) := by rw [ef79]; exact va_up_self _ _ _
  have hF : gFr f f79 [a] := by rw [ef79]; exact gFr.upN hn78 hF
  refine lv_dup S.1 S.2.1 d_SF_init_36 rfl ?_
  refine lv_sipush (v := nI 200) S.1 S.2.1 d_SF_init_37 (by decide) ?_
  refine gc_Iz S hI hz (c_Row_initZ l P f79 (a := a + 5) (cap := 200) h85 (by omega)) kv_Row_init wi_27 rfl hl.1 rfl (Nat.le_of_ble_eq_true rfl) ⟨Nat.le_of_ble_eq_true rfl, Nat.le_of_ble_eq_true rfl⟩ ⟨Nat.le_of_ble_eq_true rfl, Nat.le_of_ble_eq_true rfl⟩ d_SF_init_40 (fun f86 z87 H locs hp88 hI hz => ?_)
  obtain ⟨hp0, hp1, hp2, hp3⟩ := hp88
  dsimp only at hp0 hp1 hp2 hp3
  rw [hp0] at hz
  replace hz : H.size = a + 7 := hz
  replace hp1 : f86 (a + 5) = some (.inr (1, [.ref (a + 6), .int (nI 0)])) := hp1
  replace hp2 : f86 (a + 6) = some (.inl (P.2.1 0, 200, .inl (fun _ => 0))) := hp2
  have hF : gFr f f86 [a] := hF.call hp3 (fun q hq => Or.inr (by rw [List.mem_singleton.mp hq]; exact hn0 _ (by omega)))
  have h89 := hp3 _ _ h80 (by simp)
  have h90 := hp3 _ _ h81 (by simp)
  have h91 := hp3 _ _ h82 (by simp)
  have h92 := hp3 _ _ h83 (by simp)
  have h93 := hp3 _ _ h84 (by simp)
  have h94 := hp1
  have h95 := hp2
  refine gh_putFZ S hI hz h93 rfl i_SF t_SF tk_SF n_SF 2 (by decide) wi_72 rfl hnm rfl rfl rfl (Nat.le_of_ble_eq_true rfl) d_SF_init_43 (fun H locs hz hI => ?_)
  have hI : gB P (va_up f86 a (some (.inr (0, [.ref (a + 1), .ref (a + 3), .ref (a + 5), .null, .null, .int 0])))) s H locs := hI
  obtain ⟨f96, ef96⟩ : ∃ z, z = va_up f86 a (some (.inr (0, [.ref (a + 1), .ref (a + 3), .ref (a + 5), .null, .null, .int 0]))) := ⟨_, rfl⟩
  rw [← ef96] at hI
  have h97 : f96 (a + 1) = some (.inr (1, [.ref (a + 2), .int (nI 0)])) := by rw [ef96, va_up_ne _ _ (by omega)]; exact h89
  have h98 : f96 (a + 2) = some (.inl (P.2.1 0, 2048, .inl (fun _ => 0))) := by rw [ef96, va_up_ne _ _ (by omega)]; exact h90
  have h99 : f96 (a + 3) = some (.inr (1, [.ref (a + 4), .int (nI 0)])) := by rw [ef96, va_up_ne _ _ (by omega)]; exact h91
  have h100 : f96 (a + 4) = some (.inl (P.2.1 0, 200, .inl (fun _ => 0))) := by rw [ef96, va_up_ne _ _ (by omega)]; exact h92
  have h101 : f96 (a + 5) = some (.inr (1, [.ref (a + 6), .int (nI 0)])) := by rw [ef96, va_up_ne _ _ (by omega)]; exact h94
  have h102 : f96 (a + 6) = some (.inl (P.2.1 0, 200, .inl (fun _ => 0))) := by rw [ef96, va_up_ne _ _ (by omega)]; exact h95
  have h103 : f96 a = some (.inr (0, [.ref (a + 1), .ref (a + 3), .ref (a + 5), .null, .null, .int 0])) := by rw [ef96]; exact va_up_self _ _ _
  have hF : gFr f f96 [a] := by rw [ef96]; exact gFr.upA (by simp) hF
  refine lv_aload_n S.1 S.2.1 d_SF_init_46 rfl (lv_at hl 0 rfl) ?_
  refine gh_newZ (ci := 1) (fs := [.null, .int 0]) S hI hz rfl i_Row t_Row tk_Row wi_25 wi_26 wi_2 (fun j hj => by rcases (show j = 0 ∨ j = 1 by omega) with rfl | rfl <;> rfl) (Nat.le_of_ble_eq_true rfl) (Nat.le_of_ble_eq_true rfl) d_SF_init_47 (fun H hn104 hz hI => ?_)
  replace hz : H.size = a + 8 := hz
  have hI : gB P (va_up f96 (a + 7) (some (.inr (1, [.null, .int 0])))) s H locs := hI
  obtain ⟨f105, ef105⟩ : ∃ z, z = va_up f96 (a + 7) (some (.inr (1, [.null, .int 0]))) := ⟨_, rfl⟩
  rw [← ef105] at hI
  have h106 : f105 (a + 1) = some (.inr (1, [.ref (a + 2), .int (nI 0)])) := by rw [ef105, va_up_ne _ _ (gh_ne h97 hn104 (by intro h; cases h))]; exact h97
  have h107 : f105 (a + 2) = some (.inl (P.2.1 0, 2048, .inl (fun _ => 0))) := by rw [ef105, va_up_ne _ _ (gh_ne h98 hn104 (by intro h; cases h))]; exact h98
  have h108 : f105 (a + 3) = some (.inr (1, [.ref (a + 4), .int (nI 0)])) := by rw [ef105, va_up_ne _ _ (gh_ne h99 hn104 (by intro h; cases h))]; exact h99
  have h109 : f105 (a + 4) = some (.inl (P.2.1 0, 200, .inl (fun _ => 0))) := by rw [ef105, va_up_ne _ _ (gh_ne h100 hn104 (by intro h; cases h))]; exact h100
  have h110 : f105 (a + 5) = some (.inr (1, [.ref (a + 6), .int (nI 0)])) := by rw [ef105, va_up_ne _ _ (gh_ne h101 hn104 (by intro h; cases h))]; exact h101
  have h111 : f105 (a + 6) = some (.inl (P.2.1 0, 200, .inl (fun _ => 0))) := by rw [ef105, va_up_ne _ _ (gh_ne h102 hn104 (by intro h; cases h))]; exact h102
  have h112 : f105 a = some (.inr (0, [.ref (a + 1), .ref (a + 3), .ref (a + 5), .null, .null, .int 0])) := by rw [ef105, va_up_ne _ _ (gh_ne h103 hn104 (by intro h; cases h))]; exact h103
  have h113 : f105 (a + 7) = some (.inr (1, [.null, .int 0])) := by rw [ef105]; exact va_up_self _ _ _
  have hF : gFr f f105 [a] := by rw [ef105]; exact gFr.upN hn104 hF
  refine lv_dup S.1 S.2.1 d_SF_init_50 rfl ?_
  refine lv_sipush (v := nI 2048) S.1 S.2.1 d_SF_init_51 (by decide) ?_
  refine gc_Iz S hI hz (c_Row_initZ l P f105 (a := a + 7) (cap := 2048) h113 (by omega)) kv_Row_init wi_27 rfl hl.1 rfl (Nat.le_of_ble_eq_true rfl) ⟨Nat.le_of_ble_eq_true rfl, Nat.le_of_ble_eq_true rfl⟩ ⟨Nat.le_of_ble_eq_true rfl, Nat.le_of_ble_eq_true rfl⟩ d_SF_init_54 (fun f114 z115 H locs hp116 hI hz => ?_)
  obtain ⟨hp0, hp1, hp2, hp3⟩ := hp116
  dsimp only at hp0 hp1 hp2 hp3
  rw [hp0] at hz
  replace hz : H.size = a + 9 := hz
  replace hp1 : f114 (a + 7) = some (.inr (1, [.ref (a + 8), .int (nI 0)])) := hp1
  replace hp2 : f114 (a + 8) = some (.inl (P.2.1 0, 2048, .inl (fun _ => 0))) := hp2
  have hF : gFr f f114 [a] := hF.call hp3 (fun q hq => Or.inr (by rw [List.mem_singleton.mp hq]; exact hn0 _ (by omega)))
  have h117 := hp3 _ _ h106 (by simp)
  have h118 := hp3 _ _ h107 (by simp)
  have h119 := hp3 _ _ h108 (by simp)
  have h120 := hp3 _ _ h109 (by simp)
  have h121 := hp3 _ _ h110 (by simp)
  have h122 := hp3 _ _ h111 (by simp)
  have h123 := hp3 _ _ h112 (by simp)
  have h124 := hp1
  have h125 := hp2
  refine gh_putFZ S hI hz h123 rfl i_SF t_SF tk_SF n_SF 3 (by decide) wi_73 rfl hnm rfl rfl rfl (Nat.le_of_ble_eq_true rfl) d_SF_init_57 (fun H locs hz hI => ?_)
  have hI : gB P (va_up f114 a (some (.inr (0, [.ref (a + 1), .ref (a + 3), .ref (a + 5), .ref (a + 7), .null, .int 0])))) s H locs := hI
  obtain ⟨f126, ef126⟩ : ∃ z, z = va_up f114 a (some (.inr (0, [.ref (a + 1), .ref (a + 3), .ref (a + 5), .ref (a + 7), .null, .int 0]))) := ⟨_, rfl⟩
  rw [← ef126] at hI
  have h127 : f126 (a + 1) = some (.inr (1, [.ref (a + 2), .int (nI 0)])) := by rw [ef126, va_up_ne _ _ (by omega)]; exact h117
  have h128 : f126 (a + 2) = some (.inl (P.2.1 0, 2048, .inl (fun _ => 0))) := by rw [ef126, va_up_ne _ _ (by omega)]; exact h118
  have h129 : f126 (a + 3) = some (.inr (1, [.ref (a + 4), .int (nI 0)])) := by rw [ef126, va_up_ne _ _ (by omega)]; exact h119
  have h130 : f126 (a + 4) = some (.inl (P.2.1 0, 200, .inl (fun _ => 0))) := by rw [ef126, va_up_ne _ _ (by omega)]; exact h120
  have h131 : f126 (a + 5) = some (.inr (1, [.ref (a + 6), .int (nI 0)])) := by rw [ef126, va_up_ne _ _ (by omega)]; exact h121
  have h132 : f126 (a + 6) = some (.inl (P.2.1 0, 200, .inl (fun _ => 0))) := by rw [ef126, va_up_ne _ _ (by omega)]; exact h122
  have h133 : f126 (a + 7) = some (.inr (1, [.ref (a + 8), .int (nI 0)])) := by rw [ef126, va_up_ne _ _ (by omega)]; exact h124
  have h134 : f126 (a + 8) = some (.inl (P.2.1 0, 2048, .inl (fun _ => 0))) := by rw [ef126, va_up_ne _ _ (by omega)]; exact h125
  have h135 : f126 a = some (.inr (0, [.ref (a + 1), .ref (a + 3), .ref (a + 5), .ref (a + 7), .null, .int 0])) := by rw [ef126]; exact va_up_self _ _ _
  have hF : gFr f f126 [a] := by rw [ef126]; exact gFr.upA (by simp) hF
  refine lv_aload_n S.1 S.2.1 d_SF_init_60 rfl (lv_at hl 0 rfl) ?_
  refine gh_newZ (ci := 5) (fs := [.null, .null, .null]) S hI hz rfl i_Shelf t_Shelf tk_Shelf wi_34 wi_35 wi_3 (fun j hj => by rcases (show j = 0 ∨ j = 1 ∨ j = 2 by omega) with rfl | rfl | rfl <;> rfl) (Nat.le_of_ble_eq_true rfl) (Nat.le_of_ble_eq_true rfl) d_SF_init_61 (fun H hn136 hz hI => ?_)
  replace hz : H.size = a + 10 := hz
  have hI : gB P (va_up f126 (a + 9) (some (.inr (5, [.null, .null, .null])))) s H locs := hI
  obtain ⟨f137, ef137⟩ : ∃ z, z = va_up f126 (a + 9) (some (.inr (5, [.null, .null, .null]))) := ⟨_, rfl⟩
  rw [← ef137] at hI
  have h138 : f137 (a + 1) = some (.inr (1, [.ref (a + 2), .int (nI 0)])) := by rw [ef137, va_up_ne _ _ (gh_ne h127 hn136 (by intro h; cases h))]; exact h127
  have h139 : f137 (a + 2) = some (.inl (P.2.1 0, 2048, .inl (fun _ => 0))) := by rw [ef137, va_up_ne _ _ (gh_ne h128 hn136 (by intro h; cases h))]; exact h128
  have h140 : f137 (a + 3) = some (.inr (1, [.ref (a + 4), .int (nI 0)])) := by rw [ef137, va_up_ne _ _ (gh_ne h129 hn136 (by intro h; cases h))]; exact h129
  have h141 : f137 (a + 4) = some (.inl (P.2.1 0, 200, .inl (fun _ => 0))) := by rw [ef137, va_up_ne _ _ (gh_ne h130 hn136 (by intro h; cases h))]; exact h130
  have h142 : f137 (a + 5) = some (.inr (1, [.ref (a + 6), .int (nI 0)])) := by rw [ef137, va_up_ne _ _ (gh_ne h131 hn136 (by intro h; cases h))]; exact h131
  have h143 : f137 (a + 6) = some (.inl (P.2.1 0, 200, .inl (fun _ => 0))) := by rw [ef137, va_up_ne _ _ (gh_ne h132 hn136 (by intro h; cases h))]; exact h132
  have h144 : f137 (a + 7) = some (.inr (1, [.ref (a + 8), .int (nI 0)])) := by rw [ef137, va_up_ne _ _ (gh_ne h133 hn136 (by intro h; cases h))]; exact h133
  have h145 : f137 (a + 8) = some (.inl (P.2.1 0, 2048, .inl (fun _ => 0))) := by rw [ef137, va_up_ne _ _ (gh_ne h134 hn136 (by intro h; cases h))]; exact h134
  have h146 : f137 a = some (.inr (0, [.ref (a + 1), .ref (a + 3), .ref (a + 5), .ref (a + 7), .null, .int 0])) := by rw [ef137, va_up_ne _ _ (gh_ne h135 hn136 (by intro h; cases h))]; exact h135
  have h147 : f137 (a + 9) = some (.inr (5, [.null, .null, .null])) := by rw [ef137]; exact va_up_self _ _ _
  have hF : gFr f f137 [a] := by rw [ef137]; exact gFr.upN hn136 hF
  refine lv_dup S.1 S.2.1 d_SF_init_64 rfl ?_
  refine gc_Iz S hI hz (c_Shelf_initZ l P f137 (a := a + 9) h147) kv_Shelf_init wi_36 rfl hl.1 rfl (Nat.le_of_ble_eq_true rfl) ⟨Nat.le_of_ble_eq_true rfl, Nat.le_of_ble_eq_true rfl⟩ ⟨Nat.le_of_ble_eq_true rfl, Nat.le_of_ble_eq_true rfl⟩ d_SF_init_65 (fun f148 z149 H locs hp150 hI hz => ?_)
  obtain ⟨hp0, k0, k1, k2, k3, k4, hp3⟩ := hp150
  dsimp only at hp0 k0 k1 k2 k3 k4 hp3
  rw [hp0] at hz
  replace hz : H.size = a + 14 := hz
  have hF : gFr f f148 [a] := hF.call hp3 (fun q hq => Or.inr (by rw [List.mem_singleton.mp hq]; exact hn0 _ (by omega)))
  have h151 := hp3 _ _ h138 (by simp)
  have h152 := hp3 _ _ h139 (by simp)
  have h153 := hp3 _ _ h140 (by simp)
  have h154 := hp3 _ _ h141 (by simp)
  have h155 := hp3 _ _ h142 (by simp)
  have h156 := hp3 _ _ h143 (by simp)
  have h157 := hp3 _ _ h144 (by simp)
  have h158 := hp3 _ _ h145 (by simp)
  have h159 := hp3 _ _ h146 (by simp)
  refine gh_putFZ S hI hz h159 rfl i_SF t_SF tk_SF n_SF 4 (by decide) wi_74 rfl hnm rfl rfl rfl (Nat.le_of_ble_eq_true rfl) d_SF_init_68 (fun H locs hz hI => ?_)
  have hI : gB P (va_up f148 a (some (.inr (0, [.ref (a + 1), .ref (a + 3), .ref (a + 5), .ref (a + 7), .ref (a + 9), .int 0])))) s H locs := hI
  obtain ⟨f160, ef160⟩ : ∃ z, z = va_up f148 a (some (.inr (0, [.ref (a + 1), .ref (a + 3), .ref (a + 5), .ref (a + 7), .ref (a + 9), .int 0]))) := ⟨_, rfl⟩
  rw [← ef160] at hI
  have h161 : f160 (a + 1) = some (.inr (1, [.ref (a + 2), .int (nI 0)])) := by rw [ef160, va_up_ne _ _ (by omega)]; exact h151
  have h162 : f160 (a + 2) = some (.inl (P.2.1 0, 2048, .inl (fun _ => 0))) := by rw [ef160, va_up_ne _ _ (by omega)]; exact h152
  have h163 : f160 (a + 3) = some (.inr (1, [.ref (a + 4), .int (nI 0)])) := by rw [ef160, va_up_ne _ _ (by omega)]; exact h153
  have h164 : f160 (a + 4) = some (.inl (P.2.1 0, 200, .inl (fun _ => 0))) := by rw [ef160, va_up_ne _ _ (by omega)]; exact h154
  have h165 : f160 (a + 5) = some (.inr (1, [.ref (a + 6), .int (nI 0)])) := by rw [ef160, va_up_ne _ _ (by omega)]; exact h155
  have h166 : f160 (a + 6) = some (.inl (P.2.1 0, 200, .inl (fun _ => 0))) := by rw [ef160, va_up_ne _ _ (by omega)]; exact h156
  have h167 : f160 (a + 7) = some (.inr (1, [.ref (a + 8), .int (nI 0)])) := by rw [ef160, va_up_ne _ _ (by omega)]; exact h157
  have h168 : f160 (a + 8) = some (.inl (P.2.1 0, 2048, .inl (fun _ => 0))) := by rw [ef160, va_up_ne _ _ (by omega)]; exact h158
  have h169 : f160 a = some (.inr (0, [.ref (a + 1), .ref (a + 3), .ref (a + 5), .ref (a + 7), .ref (a + 9), .int 0])) := by rw [ef160]; exact va_up_self _ _ _
  have hF : gFr f f160 [a] := by rw [ef160]; exact gFr.upA (by simp) hF
  refine lv_aload_n S.1 S.2.1 d_SF_init_71 rfl (lv_at hl 0 rfl) ?_
  refine lv_iconst (v := nI 0) S.1 S.2.1 d_SF_init_72 (by decide) ?_
  refine gh_putZ S hI hz h169 rfl i_SF t_SF tk_SF n_SF 5 (by decide) wi_75 rfl rfl rfl (Nat.le_of_ble_eq_true rfl) d_SF_init_73 (fun H locs hz hI => ?_)
  have hI : gB P (va_up f160 a (some (.inr (0, [.ref (a + 1), .ref (a + 3), .ref (a + 5), .ref (a + 7), .ref (a + 9), .int (nI 0)])))) s H locs := hI
  obtain ⟨f170, ef170⟩ : ∃ z, z = va_up f160 a (some (.inr (0, [.ref (a + 1), .ref (a + 3), .ref (a + 5), .ref (a + 7), .ref (a + 9), .int (nI 0)]))) := ⟨_, rfl⟩
  rw [← ef170] at hI
  have h171 : f170 (a + 1) = some (.inr (1, [.ref (a + 2), .int (nI 0)])) := by rw [ef170, va_up_ne _ _ (by omega)]; exact h161
  have h172 : f170 (a + 2) = some (.inl (P.2.1 0, 2048, .inl (fun _ => 0))) := by rw [ef170, va_up_ne _ _ (by omega)]; exact h162
  have h173 : f170 (a + 3) = some (.inr (1, [.ref (a + 4), .int (nI 0)])) := by rw [ef170, va_up_ne _ _ (by omega)]; exact h163
  have h174 : f170 (a + 4) = some (.inl (P.2.1 0, 200, .inl (fun _ => 0))) := by rw [ef170, va_up_ne _ _ (by omega)]; exact h164
  have h175 : f170 (a + 5) = some (.inr (1, [.ref (a + 6), .int (nI 0)])) := by rw [ef170, va_up_ne _ _ (by omega)]; exact h165
  have h176 : f170 (a + 6) = some (.inl (P.2.1 0, 200, .inl (fun _ => 0))) := by rw [ef170, va_up_ne _ _ (by omega)]; exact h166
  have h177 : f170 (a + 7) = some (.inr (1, [.ref (a + 8), .int (nI 0)])) := by rw [ef170, va_up_ne _ _ (by omega)]; exact h167
  have h178 : f170 (a + 8) = some (.inl (P.2.1 0, 2048, .inl (fun _ => 0))) := by rw [ef170, va_up_ne _ _ (by omega)]; exact h168
  have h179 : f170 a = some (.inr (0, [.ref (a + 1), .ref (a + 3), .ref (a + 5), .ref (a + 7), .ref (a + 9), .int (nI 0)])) := by rw [ef170]; exact va_up_self _ _ _
  have hF : gFr f f170 [a] := by rw [ef170]; exact gFr.upA (by simp) hF
  refine W.widen (k := 13) (n := 4527) (by omega) (by omega) ?_
  skip
  skip
  have hFa : gFr f148 f170 [a] := by rw [ef170]; refine gFr.upA (by simp) ?_; rw [ef160]; refine gFr.upA (by simp) ?_; exact gFr.rf
  have gfs : gFS P f170 (a + 9) [] := gFS_new (hFa _ _ k0 (nm1 (by omega))) (gLi0.fr k1 hFa (nm1 (by omega))) (gLi0.fr k2 hFa (nm1 (by omega))) (hFa _ _ k3 (nm1 (by omega))) (gLi0.fr k4 hFa (nm1 (by omega)))
  exact gr_vz S hr hlk hI hz (⟨rfl, ⟨h179, ⟨fun _ => 0, h171, h172, by simp [aNew], sb_fit0, rfl⟩, ⟨fun _ => 0, h173, h174, by simp [aNew], sb_fit0, rfl⟩, ⟨fun _ => 0, h175, h176, by simp [aNew], sb_fit0, rfl⟩, ⟨fun _ => 0, h177, h178, by simp [aNew], sb_fit0, rfl⟩, gfs⟩, hF⟩) d_SF_init_76
