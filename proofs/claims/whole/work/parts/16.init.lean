set_option maxHeartbeats 4000000 in
set_option maxRecDepth 100000 in
theorem c_AbC_initZ (l : Launch) (P : gPar) (f : gM) {a z : Nat} : gCz l P y_AbC_init b_AbC_init 1 none 1 0 0 [.ref a] (f, z) (gQz P (fun u => u.2 = z ∧ u.1 = f)) := by
  refine gCz_of (by decide) (Nat.le_of_ble_eq_true rfl) (fun p env s m args below meth c S hr hlk hnm H locs hI hz ls hl => ?_)
  have hl : lv_has ls 1 [(0, .ref a)] := hl
  refine lv_aload_n S.1 S.2.1 d_AbC_init_0 rfl (lv_at hl 0 rfl) ?_
  refine gc_obj S wi_51 hl.1 d_AbC_init_1 (Nat.le_of_ble_eq_true rfl) (Nat.le_of_ble_eq_true rfl) ?_
  exact gr_vz S hr hlk hI hz (⟨rfl, rfl⟩) d_AbC_init_4
set_option maxHeartbeats 4000000 in
set_option maxRecDepth 100000 in
theorem c_AbL_initZ (l : Launch) (P : gPar) (f : gM) {a z : Nat} (ha : f a = some (.inr (6, [.int 0, .null, .int 0]))) : gCz l P y_AbL_init b_AbL_init 1 none 2 0 0 [.ref a] (f, z) (gQz P (fun u => u.2 = z ∧ u.1 a = some (.inr (6, [.int (nI 0), .null, .int 0])) ∧ gFr f u.1 [a])) := by
  refine gCz_of (by decide) (Nat.le_of_ble_eq_true rfl) (fun p env s m args below meth c S hr hlk hnm H locs hI hz ls hl => ?_)
  have hl : lv_has ls 1 [(0, .ref a)] := hl
  have hF : gFr f f [a] := gFr.rf
  refine lv_aload_n S.1 S.2.1 d_AbL_init_0 rfl (lv_at hl 0 rfl) ?_
  refine gc_Iz S hI hz (c_AbC_initZ l P f) kv_AbC_init wi_48 rfl hl.1 rfl (Nat.le_of_ble_eq_true rfl) ⟨Nat.le_of_ble_eq_true rfl, Nat.le_of_ble_eq_true rfl⟩ ⟨Nat.le_of_ble_eq_true rfl, Nat.le_of_ble_eq_true rfl⟩ d_AbL_init_1 (fun f1 z2 H locs hp3 hI hz => ?_)
  obtain ⟨hp1, hp2⟩ := hp3
  dsimp only at hp1 hp2
  rw [hp2] at hI
  rw [hp1] at hz
  refine lv_aload_n S.1 S.2.1 d_AbL_init_4 rfl (lv_at hl 0 rfl) ?_
  refine lv_iconst (v := nI 0) S.1 S.2.1 d_AbL_init_5 (by decide) ?_
  refine gh_putZ S hI hz ha rfl i_AL t_AL tk_AL n_AL 0 (by decide) wi_55 rfl rfl rfl (Nat.le_of_ble_eq_true rfl) d_AbL_init_6 (fun H locs hz hI => ?_)
  have hI : gB P (va_up f a (some (.inr (6, [.int (nI 0), .null, .int 0])))) s H locs := hI
  obtain ⟨f4, ef4⟩ : ∃ z, z = va_up f a (some (.inr (6, [.int (nI 0), .null, .int 0]))) := ⟨_, rfl⟩
  rw [← ef4] at hI
  have h5 : f4 a = some (.inr (6, [.int (nI 0), .null, .int 0])) := by rw [ef4]; exact va_up_self _ _ _
  have hF : gFr f f4 [a] := by rw [ef4]; exact gFr.upA (by simp) hF
  exact gr_vz S hr hlk hI hz (⟨rfl, h5, hF⟩) d_AbL_init_9
set_option maxHeartbeats 4000000 in
set_option maxRecDepth 100000 in
theorem c_AL_initZ (l : Launch) (P : gPar) (f : gM) {a z : Nat} (ha : f a = some (.inr (6, [.int 0, .null, .int 0]))) : gCz l P y_AL_init b_AL_init 1 none 3 0 0 [.ref a] (f, z) (gQz P (fun u => u.2 = z ∧ gLi P u.1 a P.2.2.2.1 0 [] ∧ gFr f u.1 [a])) := by
  refine gCz_of (by decide) (Nat.le_of_ble_eq_true rfl) (fun p env s m args below meth c S hr hlk hnm H locs hI hz ls hl => ?_)
  have hl : lv_has ls 1 [(0, .ref a)] := hl
  have hF : gFr f f [a] := gFr.rf
  refine lv_aload_n S.1 S.2.1 d_AL_init_0 rfl (lv_at hl 0 rfl) ?_
  refine gc_Iz S hI hz (c_AbL_initZ l P f ha) kv_AbL_init wi_45 rfl hl.1 rfl (Nat.le_of_ble_eq_true rfl) ⟨Nat.le_of_ble_eq_true rfl, Nat.le_of_ble_eq_true rfl⟩ ⟨Nat.le_of_ble_eq_true rfl, Nat.le_of_ble_eq_true rfl⟩ d_AL_init_1 (fun f6 z7 H locs hp8 hI hz => ?_)
  obtain ⟨hp0, hp1, hF⟩ := hp8
  dsimp only at hp0 hp1 hF
  rw [hp0] at hz
  refine lv_aload_n S.1 S.2.1 d_AL_init_4 rfl (lv_at hl 0 rfl) ?_
  refine gh_gets0 S hI wi_52 d_AL_init_5 ?_
  refine gh_putZ S hI hz hp1 rfl i_AL t_AL tk_AL n_AL 1 (by decide) wi_53 rfl rfl rfl (Nat.le_of_ble_eq_true rfl) d_AL_init_8 (fun H locs hz hI => ?_)
  have hI : gB P (va_up f6 a (some (.inr (6, [.int (nI 0), .ref P.2.2.2.1, .int 0])))) s H locs := hI
  obtain ⟨f9, ef9⟩ : ∃ z, z = va_up f6 a (some (.inr (6, [.int (nI 0), .ref P.2.2.2.1, .int 0]))) := ⟨_, rfl⟩
  rw [← ef9] at hI
  have h10 : f9 a = some (.inr (6, [.int (nI 0), .ref P.2.2.2.1, .int 0])) := by rw [ef9]; exact va_up_self _ _ _
  have hF : gFr f f9 [a] := by rw [ef9]; exact gFr.upA (by simp) hF
  exact gr_vz S hr hlk hI hz (⟨rfl, ⟨⟨nI 0, h10⟩, Or.inl ⟨rfl, rfl, rfl⟩⟩, hF⟩) d_AL_init_11
set_option maxHeartbeats 4000000 in
set_option maxRecDepth 100000 in
theorem c_Row_initZ (l : Launch) (P : gPar) (f : gM) {a cap : Nat} (ha : f a = some (.inr (1, [.null, .int 0]))) (hc : cap < 2 ^ 20) : gCz l P y_Row_init b_Row_init 2 none 1 1 cap [.ref a, .int (nI cap)] (f, a + 1) (gQz P (fun u => u.2 = a + 2 ∧ u.1 a = some (.inr (1, [.ref (a + 1), .int (nI 0)])) ∧ u.1 (a + 1) = some (.inl (P.2.1 0, cap, .inl (fun _ => 0))) ∧ gFr f u.1 [a])) := by
  refine gCz_of (by decide) (Nat.le_of_ble_eq_true rfl) (fun p env s m args below meth c S hr hlk hnm H locs hI hz ls hl => ?_)
  have hl : lv_has ls 2 [(0, .ref a), (1, .int (nI cap))] := hl
  have hF : gFr f f [a] := gFr.rf
  refine lv_aload_n S.1 S.2.1 d_Row_init_0 rfl (lv_at hl 0 rfl) ?_
  refine gc_obj S wi_30 hl.1 d_Row_init_1 (Nat.le_of_ble_eq_true rfl) (Nat.le_of_ble_eq_true rfl) ?_
  refine lv_aload_n S.1 S.2.1 d_Row_init_4 rfl (lv_at hl 0 rfl) ?_
  refine lv_iload_n S.1 S.2.1 d_Row_init_5 rfl (lv_at hl 1 rfl) ?_
  refine gh_newbZ (n := cap) S hI hz wi_33 rfl (by omega) (Nat.le_of_ble_eq_true rfl) (by show _ ≤ cap; omega) d_Row_init_6 (fun H hn11 hz hI => ?_)
  replace hz : H.size = a + 2 := hz
  have hI : gB P (va_up f (a + 1) (some (.inl (P.2.1 0, cap, .inl (fun _ => 0))))) s H locs := hI
  obtain ⟨f12, ef12⟩ : ∃ z, z = va_up f (a + 1) (some (.inl (P.2.1 0, cap, .inl (fun _ => 0)))) := ⟨_, rfl⟩
  rw [← ef12] at hI
  have h13 : f12 a = some (.inr (1, [.null, .int 0])) := by rw [ef12, va_up_ne _ _ (gh_ne ha hn11 (by intro h; cases h))]; exact ha
  have h14 : f12 (a + 1) = some (.inl (P.2.1 0, cap, .inl (fun _ => 0))) := by rw [ef12]; exact va_up_self _ _ _
  have hF : gFr f f12 [a] := by rw [ef12]; exact gFr.upN hn11 hF
  refine gh_putFZ S hI hz h13 rfl i_Row t_Row tk_Row n_Row 0 (by decide) wi_31 rfl hnm rfl rfl rfl (Nat.le_of_ble_eq_true rfl) d_Row_init_8 (fun H locs hz hI => ?_)
  have hI : gB P (va_up f12 a (some (.inr (1, [.ref (a + 1), .int 0])))) s H locs := hI
  obtain ⟨f15, ef15⟩ : ∃ z, z = va_up f12 a (some (.inr (1, [.ref (a + 1), .int 0]))) := ⟨_, rfl⟩
  rw [← ef15] at hI
  have h16 : f15 (a + 1) = some (.inl (P.2.1 0, cap, .inl (fun _ => 0))) := by rw [ef15, va_up_ne _ _ (by omega)]; exact h14
  have h17 : f15 a = some (.inr (1, [.ref (a + 1), .int 0])) := by rw [ef15]; exact va_up_self _ _ _
  have hF : gFr f f15 [a] := by rw [ef15]; exact gFr.upA (by simp) hF
  refine lv_aload_n S.1 S.2.1 d_Row_init_11 rfl (lv_at hl 0 rfl) ?_
  refine lv_iconst (v := nI 0) S.1 S.2.1 d_Row_init_12 (by decide) ?_
  refine gh_putZ S hI hz h17 rfl i_Row t_Row tk_Row n_Row 1 (by decide) wi_32 rfl rfl rfl (Nat.le_of_ble_eq_true rfl) d_Row_init_13 (fun H locs hz hI => ?_)
  have hI : gB P (va_up f15 a (some (.inr (1, [.ref (a + 1), .int (nI 0)])))) s H locs := hI
  obtain ⟨f18, ef18⟩ : ∃ z, z = va_up f15 a (some (.inr (1, [.ref (a + 1), .int (nI 0)]))) := ⟨_, rfl⟩
  rw [← ef18] at hI
  have h19 : f18 (a + 1) = some (.inl (P.2.1 0, cap, .inl (fun _ => 0))) := by rw [ef18, va_up_ne _ _ (by omega)]; exact h16
  have h20 : f18 a = some (.inr (1, [.ref (a + 1), .int (nI 0)])) := by rw [ef18]; exact va_up_self _ _ _
  have hF : gFr f f18 [a] := by rw [ef18]; exact gFr.upA (by simp) hF
  refine W.widen (k := 1) (n := cap) (by omega) (by omega) ?_
  exact gr_vz S hr hlk hI hz (⟨rfl, h20, h19, hF⟩) d_Row_init_16
set_option maxHeartbeats 4000000 in
set_option maxRecDepth 100000 in
theorem c_Piece_initZ (l : Launch) (P : gPar) (f : gM) {a : Nat} (ha : f a = some (.inr (2, [.null]))) : gCz l P y_Piece_init b_Piece_init 1 none 1 1 448 [.ref a] (f, a + 1) (gQz P (fun u => u.2 = a + 2 ∧ u.1 a = some (.inr (2, [.ref (a + 1)])) ∧ u.1 (a + 1) = some (.inl (P.2.1 0, 448, .inl (fun _ => 0))) ∧ gFr f u.1 [a])) := by
  refine gCz_of (by decide) (Nat.le_of_ble_eq_true rfl) (fun p env s m args below meth c S hr hlk hnm H locs hI hz ls hl => ?_)
  have hl : lv_has ls 1 [(0, .ref a)] := hl
  have hF : gFr f f [a] := gFr.rf
  refine lv_aload_n S.1 S.2.1 d_Piece_init_0 rfl (lv_at hl 0 rfl) ?_
  refine gc_obj S wi_298 hl.1 d_Piece_init_1 (Nat.le_of_ble_eq_true rfl) (Nat.le_of_ble_eq_true rfl) ?_
  refine lv_aload_n S.1 S.2.1 d_Piece_init_4 rfl (lv_at hl 0 rfl) ?_
  refine lv_sipush (v := nI 448) S.1 S.2.1 d_Piece_init_5 (by decide) ?_
  refine gh_newbZ (n := 448) S hI hz wi_33 rfl (by omega) (Nat.le_of_ble_eq_true rfl) (Nat.le_of_ble_eq_true rfl) d_Piece_init_8 (fun H hn21 hz hI => ?_)
  replace hz : H.size = a + 2 := hz
  have hI : gB P (va_up f (a + 1) (some (.inl (P.2.1 0, 448, .inl (fun _ => 0))))) s H locs := hI
  obtain ⟨f22, ef22⟩ : ∃ z, z = va_up f (a + 1) (some (.inl (P.2.1 0, 448, .inl (fun _ => 0)))) := ⟨_, rfl⟩
  rw [← ef22] at hI
  have h23 : f22 a = some (.inr (2, [.null])) := by rw [ef22, va_up_ne _ _ (gh_ne ha hn21 (by intro h; cases h))]; exact ha
  have h24 : f22 (a + 1) = some (.inl (P.2.1 0, 448, .inl (fun _ => 0))) := by rw [ef22]; exact va_up_self _ _ _
  have hF : gFr f f22 [a] := by rw [ef22]; exact gFr.upN hn21 hF
  refine gh_putFZ S hI hz h23 rfl i_Piece t_Piece tk_Piece n_Piece 0 (by decide) wi_299 rfl hnm rfl rfl rfl (Nat.le_of_ble_eq_true rfl) d_Piece_init_10 (fun H locs hz hI => ?_)
  have hI : gB P (va_up f22 a (some (.inr (2, [.ref (a + 1)])))) s H locs := hI
  obtain ⟨f25, ef25⟩ : ∃ z, z = va_up f22 a (some (.inr (2, [.ref (a + 1)]))) := ⟨_, rfl⟩
  rw [← ef25] at hI
  have h26 : f25 (a + 1) = some (.inl (P.2.1 0, 448, .inl (fun _ => 0))) := by rw [ef25, va_up_ne _ _ (by omega)]; exact h24
  have h27 : f25 a = some (.inr (2, [.ref (a + 1)])) := by rw [ef25]; exact va_up_self _ _ _
  have hF : gFr f f25 [a] := by rw [ef25]; exact gFr.upA (by simp) hF
  refine W.widen (k := 1) (n := 448) (by omega) (by omega) ?_
  exact gr_vz S hr hlk hI hz (⟨rfl, h27, h26, hF⟩) d_Piece_init_13
/-- an empty list that has no array of its own -/
theorem gLi0.fr {P : gPar} {f f1 : gM} {a : Nat} {l : List Nat} (h : gLi P f a P.2.2.2.1 0 []) (hF : gFr f f1 l) (ha : a ∉ l) : gLi P f1 a P.2.2.2.1 0 [] := by
  obtain ⟨⟨m, h1⟩, -⟩ := h
  exact ⟨⟨m, hF a _ h1 ha⟩, Or.inl ⟨rfl, rfl, rfl⟩⟩
set_option maxHeartbeats 4000000 in
set_option maxRecDepth 100000 in
theorem c_Pool_initZ (l : Launch) (P : gPar) (f : gM) {a : Nat} (ha : f a = some (.inr (3, [.null]))) : gCz l P y_Pool_init b_Pool_init 1 none 4 1 3 [.ref a] (f, a + 1) (gQz P (fun u => u.2 = a + 2 ∧ u.1 a = some (.inr (3, [.ref (a + 1)])) ∧ gLi P u.1 (a + 1) P.2.2.2.1 0 [] ∧ gFr f u.1 [a])) := by
  refine gCz_of (by decide) (Nat.le_of_ble_eq_true rfl) (fun p env s m args below meth c S hr hlk hnm H locs hI hz ls hl => ?_)
  have hl : lv_has ls 1 [(0, .ref a)] := hl
  have hF : gFr f f [a] := gFr.rf
  refine lv_aload_n S.1 S.2.1 d_Pool_init_0 rfl (lv_at hl 0 rfl) ?_
  refine gc_obj S wi_63 hl.1 d_Pool_init_1 (Nat.le_of_ble_eq_true rfl) (Nat.le_of_ble_eq_true rfl) ?_
  refine lv_aload_n S.1 S.2.1 d_Pool_init_4 rfl (lv_at hl 0 rfl) ?_
  refine gh_newZ (ci := 6) (fs := [.int 0, .null, .int 0]) S hI hz rfl i_AL t_AL tk_AL wi_64 wi_41 wi_6 (fun j hj => by rcases (show j = 0 ∨ j = 1 ∨ j = 2 by omega) with rfl | rfl | rfl <;> rfl) (Nat.le_of_ble_eq_true rfl) (Nat.le_of_ble_eq_true rfl) d_Pool_init_5 (fun H hn28 hz hI => ?_)
  replace hz : H.size = a + 2 := hz
  have hI : gB P (va_up f (a + 1) (some (.inr (6, [.int 0, .null, .int 0])))) s H locs := hI
  obtain ⟨f29, ef29⟩ : ∃ z, z = va_up f (a + 1) (some (.inr (6, [.int 0, .null, .int 0]))) := ⟨_, rfl⟩
  rw [← ef29] at hI
  have h30 : f29 a = some (.inr (3, [.null])) := by rw [ef29, va_up_ne _ _ (gh_ne ha hn28 (by intro h; cases h))]; exact ha
  have h31 : f29 (a + 1) = some (.inr (6, [.int 0, .null, .int 0])) := by rw [ef29]; exact va_up_self _ _ _
  have hF : gFr f f29 [a] := by rw [ef29]; exact gFr.upN hn28 hF
  refine lv_dup S.1 S.2.1 d_Pool_init_8 rfl ?_
  refine gc_Iz S hI hz (c_AL_initZ l P f29 h31) kv_AL_init wi_65 rfl hl.1 rfl (Nat.le_of_ble_eq_true rfl) ⟨Nat.le_of_ble_eq_true rfl, Nat.le_of_ble_eq_true rfl⟩ ⟨Nat.le_of_ble_eq_true rfl, Nat.le_of_ble_eq_true rfl⟩ d_Pool_init_9 (fun f32 z33 H locs hp34 hI hz => ?_)
  obtain ⟨hp0, hp1, hp2⟩ := hp34
  dsimp only at hp0 hp1 hp2
  rw [hp0] at hz
  have hF : gFr f f32 [a] := hF.call hp2 (fun q hq => Or.inr (by rw [List.mem_singleton.mp hq]; exact hn28))
  have ha1 := hp2 a _ h30 (by simp)
  refine gh_putFZ S hI hz ha1 rfl i_Pool t_Pool tk_Pool n_Pool 0 (by decide) wi_66 rfl hnm rfl rfl rfl (Nat.le_of_ble_eq_true rfl) d_Pool_init_12 (fun H locs hz hI => ?_)
  have hI : gB P (va_up f32 a (some (.inr (3, [.ref (a + 1)])))) s H locs := hI
  obtain ⟨f35, ef35⟩ : ∃ z, z = va_up f32 a (some (.inr (3, [.ref (a + 1)]))) := ⟨_, rfl⟩
  rw [← ef35] at hI
  have h36 : f35 a = some (.inr (3, [.ref (a + 1)])) := by rw [ef35]; exact va_up_self _ _ _
  have hF : gFr f f35 [a] := by rw [ef35]; exact gFr.upA (by simp) hF
  refine W.widen (k := 1) (n := 3) (by omega) (by omega) ?_
  have hFa : gFr f32 f35 [a] := by rw [ef35]; exact gFr.upA (by simp) gFr.rf
  exact gr_vz S hr hlk hI hz (⟨rfl, h36, gLi0.fr hp1 hFa (by simp), hF⟩) d_Pool_init_15
set_option maxHeartbeats 4000000 in
set_option maxRecDepth 100000 in
theorem c_File_initZ (l : Launch) (P : gPar) (f : gM) {a pl : Nat} (ha : f a = some (.inr (4, [.null, .null, .null, .int 0, .int 0]))) : gCz l P y_File_init b_File_init 2 none 2 3 221 [.ref a, .ref pl] (f, a + 1) (gQz P (fun u => u.2 = a + 4 ∧ u.1 a = some (.inr (4, [.ref pl, .ref (a + 1), .ref (a + 3), .int (nI 0), .int (nI 0)])) ∧ u.1 (a + 1) = some (.inr (1, [.ref (a + 2), .int (nI 0)])) ∧ u.1 (a + 2) = some (.inl (P.2.1 0, 200, .inl (fun _ => 0))) ∧ u.1 (a + 3) = some (.inl (P.2.1 3, 19, .inr (.inr (.inr (.inr (fun _ => none)))))) ∧ gFr f u.1 [a])) := by
  refine gCz_of (by decide) (Nat.le_of_ble_eq_true rfl) (fun p env s m args below meth c S hr hlk hnm H locs hI hz ls hl => ?_)
  have hl : lv_has ls 2 [(0, .ref a), (1, .ref pl)] := hl
  have hF : gFr f f [a] := gFr.rf
  have hn1 : f (a + 1) = none := gB_none hI (by omega)
  refine lv_aload_n S.1 S.2.1 d_File_init_0 rfl (lv_at hl 0 rfl) ?_
  refine gc_obj S wi_191 hl.1 d_File_init_1 (Nat.le_of_ble_eq_true rfl) (Nat.le_of_ble_eq_true rfl) ?_
  refine lv_aload_n S.1 S.2.1 d_File_init_4 rfl (lv_at hl 0 rfl) ?_
  refine lv_aload_n S.1 S.2.1 d_File_init_5 rfl (lv_at hl 1 rfl) ?_
  refine gh_putFZ S hI hz ha rfl i_File t_File tk_File n_File 0 (by decide) wi_195 rfl hnm rfl rfl rfl (Nat.le_of_ble_eq_true rfl) d_File_init_6 (fun H locs hz hI => ?_)
  have hI : gB P (va_up f a (some (.inr (4, [.ref pl, .null, .null, .int 0, .int 0])))) s H locs := hI
  obtain ⟨f37, ef37⟩ : ∃ z, z = va_up f a (some (.inr (4, [.ref pl, .null, .null, .int 0, .int 0]))) := ⟨_, rfl⟩
  rw [← ef37] at hI
  have h38 : f37 a = some (.inr (4, [.ref pl, .null, .null, .int 0, .int 0])) := by rw [ef37]; exact va_up_self _ _ _
  have hF : gFr f f37 [a] := by rw [ef37]; exact gFr.upA (by simp) hF
  refine lv_aload_n S.1 S.2.1 d_File_init_9 rfl (lv_at hl 0 rfl) ?_
  refine gh_newZ (ci := 1) (fs := [.null, .int 0]) S hI hz rfl i_Row t_Row tk_Row wi_192 wi_26 wi_2 (fun j hj => by rcases (show j = 0 ∨ j = 1 by omega) with rfl | rfl <;> rfl) (Nat.le_of_ble_eq_true rfl) (Nat.le_of_ble_eq_true rfl) d_File_init_10 (fun H hn39 hz hI => ?_)
  replace hz : H.size = a + 2 := hz
  have hI : gB P (va_up f37 (a + 1) (some (.inr (1, [.null, .int 0])))) s H locs := hI
  obtain ⟨f40, ef40⟩ : ∃ z, z = va_up f37 (a + 1) (some (.inr (1, [.null, .int 0]))) := ⟨_, rfl⟩
  rw [← ef40] at hI
  have h41 : f40 a = some (.inr (4, [.ref pl, .null, .null, .int 0, .int 0])) := by rw [ef40, va_up_ne _ _ (gh_ne h38 hn39 (by intro h; cases h))]; exact h38
  have h42 : f40 (a + 1) = some (.inr (1, [.null, .int 0])) := by rw [ef40]; exact va_up_self _ _ _
  have hF : gFr f f40 [a] := by rw [ef40]; exact gFr.upN hn39 hF
  refine lv_dup S.1 S.2.1 d_File_init_13 rfl ?_
  refine lv_sipush (v := nI 200) S.1 S.2.1 d_File_init_14 (by decide) ?_
  refine gc_Iz S hI hz (c_Row_initZ l P f40 h42 (by omega)) kv_Row_init wi_193 rfl hl.1 rfl (Nat.le_of_ble_eq_true rfl) ⟨Nat.le_of_ble_eq_true rfl, Nat.le_of_ble_eq_true rfl⟩ ⟨Nat.le_of_ble_eq_true rfl, Nat.le_of_ble_eq_true rfl⟩ d_File_init_17 (fun f43 z44 H locs hp45 hI hz => ?_)
  obtain ⟨hp0, hp1, hp2, hp3⟩ := hp45
  dsimp only at hp0 hp1 hp2 hp3
  rw [hp0] at hz
  replace hz : H.size = a + 3 := hz
  have hF : gFr f f43 [a] := hF.call hp3 (fun q hq => Or.inr (by rw [List.mem_singleton.mp hq]; exact hn1))
  have ha1 := hp3 a _ h41 (by simp)
  refine gh_putFZ S hI hz ha1 rfl i_File t_File tk_File n_File 1 (by decide) wi_196 rfl hnm rfl rfl rfl (Nat.le_of_ble_eq_true rfl) d_File_init_20 (fun H locs hz hI => ?_)
  have hI : gB P (va_up f43 a (some (.inr (4, [.ref pl, .ref (a + 1), .null, .int 0, .int 0])))) s H locs := hI
  obtain ⟨f46, ef46⟩ : ∃ z, z = va_up f43 a (some (.inr (4, [.ref pl, .ref (a + 1), .null, .int 0, .int 0]))) := ⟨_, rfl⟩
  rw [← ef46] at hI
  have h47 : f46 (a + 1) = some (.inr (1, [.ref (a + 2), .int (nI 0)])) := by rw [ef46, va_up_ne _ _ (by omega)]; exact hp1
  have h48 : f46 (a + 2) = some (.inl (P.2.1 0, 200, .inl (fun _ => 0))) := by rw [ef46, va_up_ne _ _ (by omega)]; exact hp2
  have h49 : f46 a = some (.inr (4, [.ref pl, .ref (a + 1), .null, .int 0, .int 0])) := by rw [ef46]; exact va_up_self _ _ _
  have hF : gFr f f46 [a] := by rw [ef46]; exact gFr.upA (by simp) hF
  refine lv_aload_n S.1 S.2.1 d_File_init_23 rfl (lv_at hl 0 rfl) ?_
  refine lv_bipush (v := nI 19) S.1 S.2.1 d_File_init_24 (by decide) ?_
  refine gh_newqZ (n := 19) S hI hz wi_194 rfl (by omega) (Nat.le_of_ble_eq_true rfl) (Nat.le_of_ble_eq_true rfl) d_File_init_26 (fun H hn50 hz hI => ?_)
  replace hz : H.size = a + 4 := hz
  have hI : gB P (va_up f46 (a + 3) (some (.inl (P.2.1 3, 19, .inr (.inr (.inr (.inr (fun _ => none)))))))) s H locs := hI
  obtain ⟨f51, ef51⟩ : ∃ z, z = va_up f46 (a + 3) (some (.inl (P.2.1 3, 19, .inr (.inr (.inr (.inr (fun _ => none))))))) := ⟨_, rfl⟩
  rw [← ef51] at hI
  have h52 : f51 (a + 1) = some (.inr (1, [.ref (a + 2), .int (nI 0)])) := by rw [ef51, va_up_ne _ _ (gh_ne h47 hn50 (by intro h; cases h))]; exact h47
  have h53 : f51 (a + 2) = some (.inl (P.2.1 0, 200, .inl (fun _ => 0))) := by rw [ef51, va_up_ne _ _ (gh_ne h48 hn50 (by intro h; cases h))]; exact h48
  have h54 : f51 a = some (.inr (4, [.ref pl, .ref (a + 1), .null, .int 0, .int 0])) := by rw [ef51, va_up_ne _ _ (gh_ne h49 hn50 (by intro h; cases h))]; exact h49
  have h55 : f51 (a + 3) = some (.inl (P.2.1 3, 19, .inr (.inr (.inr (.inr (fun _ => none)))))) := by rw [ef51]; exact va_up_self _ _ _
  have hF : gFr f f51 [a] := by rw [ef51]; exact gFr.upN hn50 hF
  refine gh_putFZ S hI hz h54 rfl i_File t_File tk_File n_File 2 (by decide) wi_197 rfl hnm rfl rfl rfl (Nat.le_of_ble_eq_true rfl) d_File_init_29 (fun H locs hz hI => ?_)
  have hI : gB P (va_up f51 a (some (.inr (4, [.ref pl, .ref (a + 1), .ref (a + 3), .int 0, .int 0])))) s H locs := hI
  obtain ⟨f56, ef56⟩ : ∃ z, z = va_up f51 a (some (.inr (4, [.ref pl, .ref (a + 1), .ref (a + 3), .int 0, .int 0]))) := ⟨_, rfl⟩
  rw [← ef56] at hI
  have h57 : f56 (a + 1) = some (.inr (1, [.ref (a + 2), .int (nI 0)])) := by rw [ef56, va_up_ne _ _ (by omega)]; exact h52
  have h58 : f56 (a + 2) = some (.inl (P.2.1 0, 200, .inl (fun _ => 0))) := by rw [ef56, va_up_ne _ _ (by omega)]; exact h53
  have h59 : f56 (a + 3) = some (.inl (P.2.1 3, 19, .inr (.inr (.inr (.inr (fun _ => none)))))) := by rw [ef56, va_up_ne _ _ (by omega)]; exact h55
  have h60 : f56 a = some (.inr (4, [.ref pl, .ref (a + 1), .ref (a + 3), .int 0, .int 0])) := by rw [ef56]; exact va_up_self _ _ _
  have hF : gFr f f56 [a] := by rw [ef56]; exact gFr.upA (by simp) hF
  refine lv_aload_n S.1 S.2.1 d_File_init_32 rfl (lv_at hl 0 rfl) ?_
  refine lv_iconst (v := nI 0) S.1 S.2.1 d_File_init_33 (by decide) ?_
  refine gh_putZ S hI hz h60 rfl i_File t_File tk_File n_File 3 (by decide) wi_198 rfl rfl rfl (Nat.le_of_ble_eq_true rfl) d_File_init_34 (fun H locs hz hI => ?_)
  have hI : gB P (va_up f56 a (some (.inr (4, [.ref pl, .ref (a + 1), .ref (a + 3), .int (nI 0), .int 0])))) s H locs := hI
  obtain ⟨f61, ef61⟩ : ∃ z, z = va_up f56 a (some (.inr (4, [.ref pl, .ref (a + 1), .ref (a + 3), .int (nI 0), .int 0]))) := ⟨_, rfl⟩
  rw [← ef61] at hI
  have h62 : f61 (a + 1) = some (.inr (1, [.ref (a + 2), .int (nI 0)])) := by rw [ef61, va_up_ne _ _ (by omega)]; exact h57
  have h63 : f61 (a + 2) = some (.inl (P.2.1 0, 200, .inl (fun _ => 0))) := by rw [ef61, va_up_ne _ _ (by omega)]; exact h58
  have h64 : f61 (a + 3) = some (.inl (P.2.1 3, 19, .inr (.inr (.inr (.inr (fun _ => none)))))) := by rw [ef61, va_up_ne _ _ (by omega)]; exact h59
  have h65 : f61 a = some (.inr (4, [.ref pl, .ref (a + 1), .ref (a + 3), .int (nI 0), .int 0])) := by rw [ef61]; exact va_up_self _ _ _
  have hF : gFr f f61 [a] := by rw [ef61]; exact gFr.upA (by simp) hF
  refine lv_aload_n S.1 S.2.1 d_File_init_37 rfl (lv_at hl 0 rfl) ?_
  refine lv_iconst (v := nI 0) S.1 S.2.1 d_File_init_38 (by decide) ?_
  refine gh_putZ S hI hz h65 rfl i_File t_File tk_File n_File 4 (by decide) wi_199 rfl rfl rfl (Nat.le_of_ble_eq_true rfl) d_File_init_39 (fun H locs hz hI => ?_)
  have hI : gB P (va_up f61 a (some (.inr (4, [.ref pl, .ref (a + 1), .ref (a + 3), .int (nI 0), .int (nI 0)])))) s H locs := hI
  obtain ⟨f66, ef66⟩ : ∃ z, z = va_up f61 a (some (.inr (4, [.ref pl, .ref (a + 1), .ref (a + 3), .int (nI 0), .int (nI 0)]))) := ⟨_, rfl⟩
  rw [← ef66] at hI
  have h67 : f66 (a + 1) = some (.inr (1, [.ref (a + 2), .int (nI 0)])) := by rw [ef66, va_up_ne _ _ (by omega)]; exact h62
  have h68 : f66 (a + 2) = some (.inl (P.2.1 0, 200, .inl (fun _ => 0))) := by rw [ef66, va_up_ne _ _ (by omega)]; exact h63
  have h69 : f66 (a + 3) = some (.inl (P.2.1 3, 19, .inr (.inr (.inr (.inr (fun _ => none)))))) := by rw [ef66, va_up_ne _ _ (by omega)]; exact h64
  have h70 : f66 a = some (.inr (4, [.ref pl, .ref (a + 1), .ref (a + 3), .int (nI 0), .int (nI 0)])) := by rw [ef66]; exact va_up_self _ _ _
  have hF : gFr f f66 [a] := by rw [ef66]; exact gFr.upA (by simp) hF
  refine W.widen (k := 3) (n := 221) (by omega) (by omega) ?_
  exact gr_vz S hr hlk hI hz (⟨rfl, h70, h67, h68, h69, hF⟩) d_File_init_42
