section GHZ2
variable {p : Program} {l : Launch} {e : Env} {R : Room} {s : State} {m : MethodId} {args : Array Value} {below : List Frame} {meth : Method} {c : Code} {H : Heap} {locs : List Loc} {cells slots : Nat} {Q : State → Prop}
variable {cc : ByteArray} {pc : Nat} {ls : Array Slot} {rest st0 : List Value} {P : gPar} {a : Nat} {f : gM} {own ref C : String} {T : u_T} {N ci index nL z : Nat}
theorem gh_newiZ (S : CallFix p m c cc nL s args gw own) (hI : gB P f s H locs) (hz : H.size = z) (hw : Cond.arrayClass .int ∈ gw) {i : Int32} {n : Nat} (hi : i = nI n) (hn : n < 2 ^ 20) (hcells : cells + 1 ≤ R.cells) (hslots : slots + n ≤ R.slots) (hdg : decode cc pc = .ok (.newarray .int, 2))
    (kk : ∀ H1 : Heap, f z = none → H1.size = z + 1 → gB P (va_up f z (some (.inl (P.2.1 1, n, .inl (fun _ => 0))))) s H1 locs → W p l e R s m args below meth c H1 locs (cells + 1) (slots + n) Q (F0 m (pc + 2) ls (.ref z :: rest))) : W p l e R s m args below meth c H locs cells slots Q (F0 m pc ls (.int i :: rest)) := by
  subst hz hi
  refine va_newaK (atype := .int) S.1 S.2.1 (S.2.2.2.2 _ hw) rfl hdg rfl (nI_pos (by omega)) (nI_clamp (by omega)) (by show n * 4 ≤ _; omega) hcells hslots rfl fun H1 cA e1 z1 o1 hAr hNm => ?_
  have hcA : cA = P.2.1 1 := gh_cA (ty := .int) (s := s) hNm (hI.1.1.2 1 _ rfl).2
  subst hcA
  obtain ⟨g1, g2⟩ := gh_mk hI z1 o1 (e := .inl (P.2.1 1, n, .inl (fun _ => 0))) e1
  exact kk H1 g2 z1 g1
theorem gh_newzZ (S : CallFix p m c cc nL s args gw own) (hI : gB P f s H locs) (hz : H.size = z) (hw : Cond.arrayClass .boolean ∈ gw) {i : Int32} {n : Nat} (hi : i = nI n) (hn : n < 2 ^ 20) (hcells : cells + 1 ≤ R.cells) (hslots : slots + n ≤ R.slots) (hdg : decode cc pc = .ok (.newarray .boolean, 2))
    (kk : ∀ H1 : Heap, f z = none → H1.size = z + 1 → gB P (va_up f z (some (.inl (P.2.1 2, n, .inl (fun _ => 0))))) s H1 locs → W p l e R s m args below meth c H1 locs (cells + 1) (slots + n) Q (F0 m (pc + 2) ls (.ref z :: rest))) : W p l e R s m args below meth c H locs cells slots Q (F0 m pc ls (.int i :: rest)) := by
  subst hz hi
  refine va_newaK (atype := .boolean) S.1 S.2.1 (S.2.2.2.2 _ hw) rfl hdg rfl (nI_pos (by omega)) (nI_clamp (by omega)) (by show n * 1 ≤ _; omega) hcells hslots rfl fun H1 cA e1 z1 o1 hAr hNm => ?_
  have hcA : cA = P.2.1 2 := gh_cA (ty := .boolean) (s := s) hNm (hI.1.1.2 2 _ rfl).2
  subst hcA
  obtain ⟨g1, g2⟩ := gh_mk hI z1 o1 (e := .inl (P.2.1 2, n, .inl (fun _ => 0))) e1
  exact kk H1 g2 z1 g1
end GHZ2
set_option maxHeartbeats 4000000 in
set_option maxRecDepth 100000 in
theorem c_Mdl_initZ (l : Launch) (P : gPar) (f : gM) {b : Nat} (hb : f b = some (.inr (7, [.null, .int 0, .null, .null, .null, .null, .null, .null, .null, .null, .null, .null, .int 0, .int 0, .int 0, .null, .int 0]))) : gCz l P y_Mdl_init b_Mdl_init 1 none 1 12 408466 [.ref b] (f, b + 1) (gQz P (fun u => u.2 = b + 13 ∧ gMo P u.1 b aNew ∧ gFr f u.1 [b])) := by
  refine gCz_of (by decide) (Nat.le_of_ble_eq_true rfl) (fun p env s m args below meth c S hr hlk hnm H locs hI hz ls hl => ?_)
  have hl : lv_has ls 1 [(0, .ref b)] := hl
  have hF : gFr f f [b] := gFr.rf
  refine lv_aload_n S.1 S.2.1 d_Mdl_init_0 rfl (lv_at hl 0 rfl) ?_
  refine gc_obj S wi_433 hl.1 d_Mdl_init_1 (Nat.le_of_ble_eq_true rfl) (Nat.le_of_ble_eq_true rfl) ?_
  refine lv_aload_n S.1 S.2.1 d_Mdl_init_4 rfl (lv_at hl 0 rfl) ?_
  refine lv_sipush (v := nI 2048) S.1 S.2.1 d_Mdl_init_5 (by decide) ?_
  refine gh_newbZ (n := 2048) S hI hz wi_33 rfl (by omega) (Nat.le_of_ble_eq_true rfl) (Nat.le_of_ble_eq_true rfl) d_Mdl_init_8 (fun H hn307 hz hI => ?_)
  replace hz : H.size = b + 2 := hz
  have hI : gB P (va_up f (b + 1) (some (.inl (P.2.1 0, 2048, .inl (fun _ => 0))))) s H locs := hI
  obtain ⟨f308, ef308⟩ : ∃ z, z = va_up f (b + 1) (some (.inl (P.2.1 0, 2048, .inl (fun _ => 0)))) := ⟨_, rfl⟩
  rw [← ef308] at hI
  have h309 : f308 b = some (.inr (7, [.null, .int 0, .null, .null, .null, .null, .null, .null, .null, .null, .null, .null, .int 0, .int 0, .int 0, .null, .int 0])) := by rw [ef308, va_up_ne _ _ (gh_ne hb hn307 (by intro h; cases h))]; exact hb
  have h310 : f308 (b + 1) = some (.inl (P.2.1 0, 2048, .inl (fun _ => 0))) := by rw [ef308]; exact va_up_self _ _ _
  have hF : gFr f f308 [b] := by rw [ef308]; exact gFr.upN hn307 hF
  refine gh_putFZ S hI hz h309 rfl i_Mdl t_Mdl tk_Mdl n_Mdl 0 (by decide) wi_435 rfl hnm rfl rfl rfl (Nat.le_of_ble_eq_true rfl) d_Mdl_init_10 (fun H locs hz hI => ?_)
  have hI : gB P (va_up f308 b (some (.inr (7, [.ref (b + 1), .int 0, .null, .null, .null, .null, .null, .null, .null, .null, .null, .null, .int 0, .int 0, .int 0, .null, .int 0])))) s H locs := hI
  obtain ⟨f311, ef311⟩ : ∃ z, z = va_up f308 b (some (.inr (7, [.ref (b + 1), .int 0, .null, .null, .null, .null, .null, .null, .null, .null, .null, .null, .int 0, .int 0, .int 0, .null, .int 0]))) := ⟨_, rfl⟩
  rw [← ef311] at hI
  have h312 : f311 (b + 1) = some (.inl (P.2.1 0, 2048, .inl (fun _ => 0))) := by rw [ef311, va_up_ne _ _ (by omega)]; exact h310
  have h313 : f311 b = some (.inr (7, [.ref (b + 1), .int 0, .null, .null, .null, .null, .null, .null, .null, .null, .null, .null, .int 0, .int 0, .int 0, .null, .int 0])) := by rw [ef311]; exact va_up_self _ _ _
  have hF : gFr f f311 [b] := by rw [ef311]; exact gFr.upA (by simp) hF
  refine lv_aload_n S.1 S.2.1 d_Mdl_init_13 rfl (lv_at hl 0 rfl) ?_
  refine lv_sipush (v := nI 400) S.1 S.2.1 d_Mdl_init_14 (by decide) ?_
  refine gh_newbZ (n := 400) S hI hz wi_33 rfl (by omega) (Nat.le_of_ble_eq_true rfl) (Nat.le_of_ble_eq_true rfl) d_Mdl_init_17 (fun H hn314 hz hI => ?_)
  replace hz : H.size = b + 3 := hz
  have hI : gB P (va_up f311 (b + 2) (some (.inl (P.2.1 0, 400, .inl (fun _ => 0))))) s H locs := hI
  obtain ⟨f315, ef315⟩ : ∃ z, z = va_up f311 (b + 2) (some (.inl (P.2.1 0, 400, .inl (fun _ => 0)))) := ⟨_, rfl⟩
  rw [← ef315] at hI
  have h316 : f315 (b + 1) = some (.inl (P.2.1 0, 2048, .inl (fun _ => 0))) := by rw [ef315, va_up_ne _ _ (gh_ne h312 hn314 (by intro h; cases h))]; exact h312
  have h317 : f315 b = some (.inr (7, [.ref (b + 1), .int 0, .null, .null, .null, .null, .null, .null, .null, .null, .null, .null, .int 0, .int 0, .int 0, .null, .int 0])) := by rw [ef315, va_up_ne _ _ (gh_ne h313 hn314 (by intro h; cases h))]; exact h313
  have h318 : f315 (b + 2) = some (.inl (P.2.1 0, 400, .inl (fun _ => 0))) := by rw [ef315]; exact va_up_self _ _ _
  have hF : gFr f f315 [b] := by rw [ef315]; exact gFr.upN hn314 hF
  refine gh_putFZ S hI hz h317 rfl i_Mdl t_Mdl tk_Mdl n_Mdl 2 (by decide) wi_437 rfl hnm rfl rfl rfl (Nat.le_of_ble_eq_true rfl) d_Mdl_init_19 (fun H locs hz hI => ?_)
  have hI : gB P (va_up f315 b (some (.inr (7, [.ref (b + 1), .int 0, .ref (b + 2), .null, .null, .null, .null, .null, .null, .null, .null, .null, .int 0, .int 0, .int 0, .null, .int 0])))) s H locs := hI
  obtain ⟨f319, ef319⟩ : ∃ z, z = va_up f315 b (some (.inr (7, [.ref (b + 1), .int 0, .ref (b + 2), .null, .null, .null, .null, .null, .null, .null, .null, .null, .int 0, .int 0, .int 0, .null, .int 0]))) := ⟨_, rfl⟩
  rw [← ef319] at hI
  have h320 : f319 (b + 1) = some (.inl (P.2.1 0, 2048, .inl (fun _ => 0))) := by rw [ef319, va_up_ne _ _ (by omega)]; exact h316
  have h321 : f319 (b + 2) = some (.inl (P.2.1 0, 400, .inl (fun _ => 0))) := by rw [ef319, va_up_ne _ _ (by omega)]; exact h318
  have h322 : f319 b = some (.inr (7, [.ref (b + 1), .int 0, .ref (b + 2), .null, .null, .null, .null, .null, .null, .null, .null, .null, .int 0, .int 0, .int 0, .null, .int 0])) := by rw [ef319]; exact va_up_self _ _ _
  have hF : gFr f f319 [b] := by rw [ef319]; exact gFr.upA (by simp) hF
  refine lv_aload_n S.1 S.2.1 d_Mdl_init_22 rfl (lv_at hl 0 rfl) ?_
  refine lv_iconst (v := nI 2) S.1 S.2.1 d_Mdl_init_23 (by decide) ?_
  refine gh_newiZ (n := 2) S hI hz wi_452 rfl (by omega) (Nat.le_of_ble_eq_true rfl) (Nat.le_of_ble_eq_true rfl) d_Mdl_init_24 (fun H hn323 hz hI => ?_)
  replace hz : H.size = b + 4 := hz
  have hI : gB P (va_up f319 (b + 3) (some (.inl (P.2.1 1, 2, .inl (fun _ => 0))))) s H locs := hI
  obtain ⟨f324, ef324⟩ : ∃ z, z = va_up f319 (b + 3) (some (.inl (P.2.1 1, 2, .inl (fun _ => 0)))) := ⟨_, rfl⟩
  rw [← ef324] at hI
  have h325 : f324 (b + 1) = some (.inl (P.2.1 0, 2048, .inl (fun _ => 0))) := by rw [ef324, va_up_ne _ _ (gh_ne h320 hn323 (by intro h; cases h))]; exact h320
  have h326 : f324 (b + 2) = some (.inl (P.2.1 0, 400, .inl (fun _ => 0))) := by rw [ef324, va_up_ne _ _ (gh_ne h321 hn323 (by intro h; cases h))]; exact h321
  have h327 : f324 b = some (.inr (7, [.ref (b + 1), .int 0, .ref (b + 2), .null, .null, .null, .null, .null, .null, .null, .null, .null, .int 0, .int 0, .int 0, .null, .int 0])) := by rw [ef324, va_up_ne _ _ (gh_ne h322 hn323 (by intro h; cases h))]; exact h322
  have h328 : f324 (b + 3) = some (.inl (P.2.1 1, 2, .inl (fun _ => 0))) := by rw [ef324]; exact va_up_self _ _ _
  have hF : gFr f f324 [b] := by rw [ef324]; exact gFr.upN hn323 hF
  refine gh_putFZ S hI hz h327 rfl i_Mdl t_Mdl tk_Mdl n_Mdl 3 (by decide) wi_438 rfl hnm rfl rfl rfl (Nat.le_of_ble_eq_true rfl) d_Mdl_init_26 (fun H locs hz hI => ?_)
  have hI : gB P (va_up f324 b (some (.inr (7, [.ref (b + 1), .int 0, .ref (b + 2), .ref (b + 3), .null, .null, .null, .null, .null, .null, .null, .null, .int 0, .int 0, .int 0, .null, .int 0])))) s H locs := hI
  obtain ⟨f329, ef329⟩ : ∃ z, z = va_up f324 b (some (.inr (7, [.ref (b + 1), .int 0, .ref (b + 2), .ref (b + 3), .null, .null, .null, .null, .null, .null, .null, .null, .int 0, .int 0, .int 0, .null, .int 0]))) := ⟨_, rfl⟩
  rw [← ef329] at hI
  have h330 : f329 (b + 1) = some (.inl (P.2.1 0, 2048, .inl (fun _ => 0))) := by rw [ef329, va_up_ne _ _ (by omega)]; exact h325
  have h331 : f329 (b + 2) = some (.inl (P.2.1 0, 400, .inl (fun _ => 0))) := by rw [ef329, va_up_ne _ _ (by omega)]; exact h326
  have h332 : f329 (b + 3) = some (.inl (P.2.1 1, 2, .inl (fun _ => 0))) := by rw [ef329, va_up_ne _ _ (by omega)]; exact h328
  have h333 : f329 b = some (.inr (7, [.ref (b + 1), .int 0, .ref (b + 2), .ref (b + 3), .null, .null, .null, .null, .null, .null, .null, .null, .int 0, .int 0, .int 0, .null, .int 0])) := by rw [ef329]; exact va_up_self _ _ _
  have hF : gFr f f329 [b] := by rw [ef329]; exact gFr.upA (by simp) hF
  refine lv_aload_n S.1 S.2.1 d_Mdl_init_29 rfl (lv_at hl 0 rfl) ?_
  refine lv_bipush (v := nI 48) S.1 S.2.1 d_Mdl_init_30 (by decide) ?_
  refine gh_newiZ (n := 48) S hI hz wi_452 rfl (by omega) (Nat.le_of_ble_eq_true rfl) (Nat.le_of_ble_eq_true rfl) d_Mdl_init_32 (fun H hn334 hz hI => ?_)
  replace hz : H.size = b + 5 := hz
  have hI : gB P (va_up f329 (b + 4) (some (.inl (P.2.1 1, 48, .inl (fun _ => 0))))) s H locs := hI
  obtain ⟨f335, ef335⟩ : ∃ z, z = va_up f329 (b + 4) (some (.inl (P.2.1 1, 48, .inl (fun _ => 0)))) := ⟨_, rfl⟩
  rw [← ef335] at hI
  have h336 : f335 (b + 1) = some (.inl (P.2.1 0, 2048, .inl (fun _ => 0))) := by rw [ef335, va_up_ne _ _ (gh_ne h330 hn334 (by intro h; cases h))]; exact h330
  have h337 : f335 (b + 2) = some (.inl (P.2.1 0, 400, .inl (fun _ => 0))) := by rw [ef335, va_up_ne _ _ (gh_ne h331 hn334 (by intro h; cases h))]; exact h331
  have h338 : f335 (b + 3) = some (.inl (P.2.1 1, 2, .inl (fun _ => 0))) := by rw [ef335, va_up_ne _ _ (gh_ne h332 hn334 (by intro h; cases h))]; exact h332
  have h339 : f335 b = some (.inr (7, [.ref (b + 1), .int 0, .ref (b + 2), .ref (b + 3), .null, .null, .null, .null, .null, .null, .null, .null, .int 0, .int 0, .int 0, .null, .int 0])) := by rw [ef335, va_up_ne _ _ (gh_ne h333 hn334 (by intro h; cases h))]; exact h333
  have h340 : f335 (b + 4) = some (.inl (P.2.1 1, 48, .inl (fun _ => 0))) := by rw [ef335]; exact va_up_self _ _ _
  have hF : gFr f f335 [b] := by rw [ef335]; exact gFr.upN hn334 hF
  refine gh_putFZ S hI hz h339 rfl i_Mdl t_Mdl tk_Mdl n_Mdl 4 (by decide) wi_439 rfl hnm rfl rfl rfl (Nat.le_of_ble_eq_true rfl) d_Mdl_init_34 (fun H locs hz hI => ?_)
  have hI : gB P (va_up f335 b (some (.inr (7, [.ref (b + 1), .int 0, .ref (b + 2), .ref (b + 3), .ref (b + 4), .null, .null, .null, .null, .null, .null, .null, .int 0, .int 0, .int 0, .null, .int 0])))) s H locs := hI
  obtain ⟨f341, ef341⟩ : ∃ z, z = va_up f335 b (some (.inr (7, [.ref (b + 1), .int 0, .ref (b + 2), .ref (b + 3), .ref (b + 4), .null, .null, .null, .null, .null, .null, .null, .int 0, .int 0, .int 0, .null, .int 0]))) := ⟨_, rfl⟩
  rw [← ef341] at hI
  have h342 : f341 (b + 1) = some (.inl (P.2.1 0, 2048, .inl (fun _ => 0))) := by rw [ef341, va_up_ne _ _ (by omega)]; exact h336
  have h343 : f341 (b + 2) = some (.inl (P.2.1 0, 400, .inl (fun _ => 0))) := by rw [ef341, va_up_ne _ _ (by omega)]; exact h337
  have h344 : f341 (b + 3) = some (.inl (P.2.1 1, 2, .inl (fun _ => 0))) := by rw [ef341, va_up_ne _ _ (by omega)]; exact h338
  have h345 : f341 (b + 4) = some (.inl (P.2.1 1, 48, .inl (fun _ => 0))) := by rw [ef341, va_up_ne _ _ (by omega)]; exact h340
  have h346 : f341 b = some (.inr (7, [.ref (b + 1), .int 0, .ref (b + 2), .ref (b + 3), .ref (b + 4), .null, .null, .null, .null, .null, .null, .null, .int 0, .int 0, .int 0, .null, .int 0])) := by rw [ef341]; exact va_up_self _ _ _
  have hF : gFr f f341 [b] := by rw [ef341]; exact gFr.upA (by simp) hF
  refine lv_aload_n S.1 S.2.1 d_Mdl_init_37 rfl (lv_at hl 0 rfl) ?_
  refine lv_bipush (v := nI 48) S.1 S.2.1 d_Mdl_init_38 (by decide) ?_
  refine gh_newzZ (n := 48) S hI hz wi_453 rfl (by omega) (Nat.le_of_ble_eq_true rfl) (Nat.le_of_ble_eq_true rfl) d_Mdl_init_40 (fun H hn347 hz hI => ?_)
  replace hz : H.size = b + 6 := hz
  have hI : gB P (va_up f341 (b + 5) (some (.inl (P.2.1 2, 48, .inl (fun _ => 0))))) s H locs := hI
  obtain ⟨f348, ef348⟩ : ∃ z, z = va_up f341 (b + 5) (some (.inl (P.2.1 2, 48, .inl (fun _ => 0)))) := ⟨_, rfl⟩
  rw [← ef348] at hI
  have h349 : f348 (b + 1) = some (.inl (P.2.1 0, 2048, .inl (fun _ => 0))) := by rw [ef348, va_up_ne _ _ (gh_ne h342 hn347 (by intro h; cases h))]; exact h342
  have h350 : f348 (b + 2) = some (.inl (P.2.1 0, 400, .inl (fun _ => 0))) := by rw [ef348, va_up_ne _ _ (gh_ne h343 hn347 (by intro h; cases h))]; exact h343
  have h351 : f348 (b + 3) = some (.inl (P.2.1 1, 2, .inl (fun _ => 0))) := by rw [ef348, va_up_ne _ _ (gh_ne h344 hn347 (by intro h; cases h))]; exact h344
  have h352 : f348 (b + 4) = some (.inl (P.2.1 1, 48, .inl (fun _ => 0))) := by rw [ef348, va_up_ne _ _ (gh_ne h345 hn347 (by intro h; cases h))]; exact h345
  have h353 : f348 b = some (.inr (7, [.ref (b + 1), .int 0, .ref (b + 2), .ref (b + 3), .ref (b + 4), .null, .null, .null, .null, .null, .null, .null, .int 0, .int 0, .int 0, .null, .int 0])) := by rw [ef348, va_up_ne _ _ (gh_ne h346 hn347 (by intro h; cases h))]; exact h346
  have h354 : f348 (b + 5) = some (.inl (P.2.1 2, 48, .inl (fun _ => 0))) := by rw [ef348]; exact va_up_self _ _ _
  have hF : gFr f f348 [b] := by rw [ef348]; exact gFr.upN hn347 hF
  refine gh_putFZ S hI hz h353 rfl i_Mdl t_Mdl tk_Mdl n_Mdl 5 (by decide) wi_440 rfl hnm rfl rfl rfl (Nat.le_of_ble_eq_true rfl) d_Mdl_init_42 (fun H locs hz hI => ?_)
  have hI : gB P (va_up f348 b (some (.inr (7, [.ref (b + 1), .int 0, .ref (b + 2), .ref (b + 3), .ref (b + 4), .ref (b + 5), .null, .null, .null, .null, .null, .null, .int 0, .int 0, .int 0, .null, .int 0])))) s H locs := hI
  obtain ⟨f355, ef355⟩ : ∃ z, z = va_up f348 b (some (.inr (7, [.ref (b + 1), .int 0, .ref (b + 2), .ref (b + 3), .ref (b + 4), .ref (b + 5), .null, .null, .null, .null, .null, .null, .int 0, .int 0, .int 0, .null, .int 0]))) := ⟨_, rfl⟩
  rw [← ef355] at hI
  have h356 : f355 (b + 1) = some (.inl (P.2.1 0, 2048, .inl (fun _ => 0))) := by rw [ef355, va_up_ne _ _ (by omega)]; exact h349
  have h357 : f355 (b + 2) = some (.inl (P.2.1 0, 400, .inl (fun _ => 0))) := by rw [ef355, va_up_ne _ _ (by omega)]; exact h350
  have h358 : f355 (b + 3) = some (.inl (P.2.1 1, 2, .inl (fun _ => 0))) := by rw [ef355, va_up_ne _ _ (by omega)]; exact h351
  have h359 : f355 (b + 4) = some (.inl (P.2.1 1, 48, .inl (fun _ => 0))) := by rw [ef355, va_up_ne _ _ (by omega)]; exact h352
  have h360 : f355 (b + 5) = some (.inl (P.2.1 2, 48, .inl (fun _ => 0))) := by rw [ef355, va_up_ne _ _ (by omega)]; exact h354
  have h361 : f355 b = some (.inr (7, [.ref (b + 1), .int 0, .ref (b + 2), .ref (b + 3), .ref (b + 4), .ref (b + 5), .null, .null, .null, .null, .null, .null, .int 0, .int 0, .int 0, .null, .int 0])) := by rw [ef355]; exact va_up_self _ _ _
  have hF : gFr f f355 [b] := by rw [ef355]; exact gFr.upA (by simp) hF
  refine lv_aload_n S.1 S.2.1 d_Mdl_init_45 rfl (lv_at hl 0 rfl) ?_
  refine lv_sipush (v := nI 9600) S.1 S.2.1 d_Mdl_init_46 (by decide) ?_
  refine gh_newbZ (n := 9600) S hI hz wi_33 rfl (by omega) (Nat.le_of_ble_eq_true rfl) (Nat.le_of_ble_eq_true rfl) d_Mdl_init_49 (fun H hn362 hz hI => ?_)
  replace hz : H.size = b + 7 := hz
  have hI : gB P (va_up f355 (b + 6) (some (.inl (P.2.1 0, 9600, .inl (fun _ => 0))))) s H locs := hI
  obtain ⟨f363, ef363⟩ : ∃ z, z = va_up f355 (b + 6) (some (.inl (P.2.1 0, 9600, .inl (fun _ => 0)))) := ⟨_, rfl⟩
  rw [← ef363] at hI
  have h364 : f363 (b + 1) = some (.inl (P.2.1 0, 2048, .inl (fun _ => 0))) := by rw [ef363, va_up_ne _ _ (gh_ne h356 hn362 (by intro h; cases h))]; exact h356
  have h365 : f363 (b + 2) = some (.inl (P.2.1 0, 400, .inl (fun _ => 0))) := by rw [ef363, va_up_ne _ _ (gh_ne h357 hn362 (by intro h; cases h))]; exact h357
  have h366 : f363 (b + 3) = some (.inl (P.2.1 1, 2, .inl (fun _ => 0))) := by rw [ef363, va_up_ne _ _ (gh_ne h358 hn362 (by intro h; cases h))]; exact h358
  have h367 : f363 (b + 4) = some (.inl (P.2.1 1, 48, .inl (fun _ => 0))) := by rw [ef363, va_up_ne _ _ (gh_ne h359 hn362 (by intro h; cases h))]; exact h359
  have h368 : f363 (b + 5) = some (.inl (P.2.1 2, 48, .inl (fun _ => 0))) := by rw [ef363, va_up_ne _ _ (gh_ne h360 hn362 (by intro h; cases h))]; exact h360
  have h369 : f363 b = some (.inr (7, [.ref (b + 1), .int 0, .ref (b + 2), .ref (b + 3), .ref (b + 4), .ref (b + 5), .null, .null, .null, .null, .null, .null, .int 0, .int 0, .int 0, .null, .int 0])) := by rw [ef363, va_up_ne _ _ (gh_ne h361 hn362 (by intro h; cases h))]; exact h361
  have h370 : f363 (b + 6) = some (.inl (P.2.1 0, 9600, .inl (fun _ => 0))) := by rw [ef363]; exact va_up_self _ _ _
  have hF : gFr f f363 [b] := by rw [ef363]; exact gFr.upN hn362 hF
  refine gh_putFZ S hI hz h369 rfl i_Mdl t_Mdl tk_Mdl n_Mdl 6 (by decide) wi_441 rfl hnm rfl rfl rfl (Nat.le_of_ble_eq_true rfl) d_Mdl_init_51 (fun H locs hz hI => ?_)
  have hI : gB P (va_up f363 b (some (.inr (7, [.ref (b + 1), .int 0, .ref (b + 2), .ref (b + 3), .ref (b + 4), .ref (b + 5), .ref (b + 6), .null, .null, .null, .null, .null, .int 0, .int 0, .int 0, .null, .int 0])))) s H locs := hI
  obtain ⟨f371, ef371⟩ : ∃ z, z = va_up f363 b (some (.inr (7, [.ref (b + 1), .int 0, .ref (b + 2), .ref (b + 3), .ref (b + 4), .ref (b + 5), .ref (b + 6), .null, .null, .null, .null, .null, .int 0, .int 0, .int 0, .null, .int 0]))) := ⟨_, rfl⟩
  rw [← ef371] at hI
  have h372 : f371 (b + 1) = some (.inl (P.2.1 0, 2048, .inl (fun _ => 0))) := by rw [ef371, va_up_ne _ _ (by omega)]; exact h364
  have h373 : f371 (b + 2) = some (.inl (P.2.1 0, 400, .inl (fun _ => 0))) := by rw [ef371, va_up_ne _ _ (by omega)]; exact h365
  have h374 : f371 (b + 3) = some (.inl (P.2.1 1, 2, .inl (fun _ => 0))) := by rw [ef371, va_up_ne _ _ (by omega)]; exact h366
  have h375 : f371 (b + 4) = some (.inl (P.2.1 1, 48, .inl (fun _ => 0))) := by rw [ef371, va_up_ne _ _ (by omega)]; exact h367
  have h376 : f371 (b + 5) = some (.inl (P.2.1 2, 48, .inl (fun _ => 0))) := by rw [ef371, va_up_ne _ _ (by omega)]; exact h368
  have h377 : f371 (b + 6) = some (.inl (P.2.1 0, 9600, .inl (fun _ => 0))) := by rw [ef371, va_up_ne _ _ (by omega)]; exact h370
  have h378 : f371 b = some (.inr (7, [.ref (b + 1), .int 0, .ref (b + 2), .ref (b + 3), .ref (b + 4), .ref (b + 5), .ref (b + 6), .null, .null, .null, .null, .null, .int 0, .int 0, .int 0, .null, .int 0])) := by rw [ef371]; exact va_up_self _ _ _
  have hF : gFr f f371 [b] := by rw [ef371]; exact gFr.upA (by simp) hF
  refine lv_aload_n S.1 S.2.1 d_Mdl_init_54 rfl (lv_at hl 0 rfl) ?_
  refine lv_bipush (v := nI 48) S.1 S.2.1 d_Mdl_init_55 (by decide) ?_
  refine gh_newiZ (n := 48) S hI hz wi_452 rfl (by omega) (Nat.le_of_ble_eq_true rfl) (Nat.le_of_ble_eq_true rfl) d_Mdl_init_57 (fun H hn379 hz hI => ?_)
  replace hz : H.size = b + 8 := hz
  have hI : gB P (va_up f371 (b + 7) (some (.inl (P.2.1 1, 48, .inl (fun _ => 0))))) s H locs := hI
  obtain ⟨f380, ef380⟩ : ∃ z, z = va_up f371 (b + 7) (some (.inl (P.2.1 1, 48, .inl (fun _ => 0)))) := ⟨_, rfl⟩
  rw [← ef380] at hI
  have h381 : f380 (b + 1) = some (.inl (P.2.1 0, 2048, .inl (fun _ => 0))) := by rw [ef380, va_up_ne _ _ (gh_ne h372 hn379 (by intro h; cases h))]; exact h372
  have h382 : f380 (b + 2) = some (.inl (P.2.1 0, 400, .inl (fun _ => 0))) := by rw [ef380, va_up_ne _ _ (gh_ne h373 hn379 (by intro h; cases h))]; exact h373
  have h383 : f380 (b + 3) = some (.inl (P.2.1 1, 2, .inl (fun _ => 0))) := by rw [ef380, va_up_ne _ _ (gh_ne h374 hn379 (by intro h; cases h))]; exact h374
  have h384 : f380 (b + 4) = some (.inl (P.2.1 1, 48, .inl (fun _ => 0))) := by rw [ef380, va_up_ne _ _ (gh_ne h375 hn379 (by intro h; cases h))]; exact h375
  have h385 : f380 (b + 5) = some (.inl (P.2.1 2, 48, .inl (fun _ => 0))) := by rw [ef380, va_up_ne _ _ (gh_ne h376 hn379 (by intro h; cases h))]; exact h376
  have h386 : f380 (b + 6) = some (.inl (P.2.1 0, 9600, .inl (fun _ => 0))) := by rw [ef380, va_up_ne _ _ (gh_ne h377 hn379 (by intro h; cases h))]; exact h377
  have h387 : f380 b = some (.inr (7, [.ref (b + 1), .int 0, .ref (b + 2), .ref (b + 3), .ref (b + 4), .ref (b + 5), .ref (b + 6), .null, .null, .null, .null, .null, .int 0, .int 0, .int 0, .null, .int 0])) := by rw [ef380, va_up_ne _ _ (gh_ne h378 hn379 (by intro h; cases h))]; exact h378
  have h388 : f380 (b + 7) = some (.inl (P.2.1 1, 48, .inl (fun _ => 0))) := by rw [ef380]; exact va_up_self _ _ _
  have hF : gFr f f380 [b] := by rw [ef380]; exact gFr.upN hn379 hF
  refine gh_putFZ S hI hz h387 rfl i_Mdl t_Mdl tk_Mdl n_Mdl 7 (by decide) wi_442 rfl hnm rfl rfl rfl (Nat.le_of_ble_eq_true rfl) d_Mdl_init_59 (fun H locs hz hI => ?_)
  have hI : gB P (va_up f380 b (some (.inr (7, [.ref (b + 1), .int 0, .ref (b + 2), .ref (b + 3), .ref (b + 4), .ref (b + 5), .ref (b + 6), .ref (b + 7), .null, .null, .null, .null, .int 0, .int 0, .int 0, .null, .int 0])))) s H locs := hI
  obtain ⟨f389, ef389⟩ : ∃ z, z = va_up f380 b (some (.inr (7, [.ref (b + 1), .int 0, .ref (b + 2), .ref (b + 3), .ref (b + 4), .ref (b + 5), .ref (b + 6), .ref (b + 7), .null, .null, .null, .null, .int 0, .int 0, .int 0, .null, .int 0]))) := ⟨_, rfl⟩
  rw [← ef389] at hI
  have h390 : f389 (b + 1) = some (.inl (P.2.1 0, 2048, .inl (fun _ => 0))) := by rw [ef389, va_up_ne _ _ (by omega)]; exact h381
  have h391 : f389 (b + 2) = some (.inl (P.2.1 0, 400, .inl (fun _ => 0))) := by rw [ef389, va_up_ne _ _ (by omega)]; exact h382
  have h392 : f389 (b + 3) = some (.inl (P.2.1 1, 2, .inl (fun _ => 0))) := by rw [ef389, va_up_ne _ _ (by omega)]; exact h383
  have h393 : f389 (b + 4) = some (.inl (P.2.1 1, 48, .inl (fun _ => 0))) := by rw [ef389, va_up_ne _ _ (by omega)]; exact h384
  have h394 : f389 (b + 5) = some (.inl (P.2.1 2, 48, .inl (fun _ => 0))) := by rw [ef389, va_up_ne _ _ (by omega)]; exact h385
  have h395 : f389 (b + 6) = some (.inl (P.2.1 0, 9600, .inl (fun _ => 0))) := by rw [ef389, va_up_ne _ _ (by omega)]; exact h386
  have h396 : f389 (b + 7) = some (.inl (P.2.1 1, 48, .inl (fun _ => 0))) := by rw [ef389, va_up_ne _ _ (by omega)]; exact h388
  have h397 : f389 b = some (.inr (7, [.ref (b + 1), .int 0, .ref (b + 2), .ref (b + 3), .ref (b + 4), .ref (b + 5), .ref (b + 6), .ref (b + 7), .null, .null, .null, .null, .int 0, .int 0, .int 0, .null, .int 0])) := by rw [ef389]; exact va_up_self _ _ _
  have hF : gFr f f389 [b] := by rw [ef389]; exact gFr.upA (by simp) hF
  refine lv_aload_n S.1 S.2.1 d_Mdl_init_62 rfl (lv_at hl 0 rfl) ?_
  refine lv_bipush (v := nI 48) S.1 S.2.1 d_Mdl_init_63 (by decide) ?_
  refine gh_newiZ (n := 48) S hI hz wi_452 rfl (by omega) (Nat.le_of_ble_eq_true rfl) (Nat.le_of_ble_eq_true rfl) d_Mdl_init_65 (fun H hn398 hz hI => ?_)
  replace hz : H.size = b + 9 := hz
  have hI : gB P (va_up f389 (b + 8) (some (.inl (P.2.1 1, 48, .inl (fun _ => 0))))) s H locs := hI
  obtain ⟨f399, ef399⟩ : ∃ z, z = va_up f389 (b + 8) (some (.inl (P.2.1 1, 48, .inl (fun _ => 0)))) := ⟨_, rfl⟩
  rw [← ef399] at hI
  have h400 : f399 (b + 1) = some (.inl (P.2.1 0, 2048, .inl (fun _ => 0))) := by rw [ef399, va_up_ne _ _ (gh_ne h390 hn398 (by intro h; cases h))]; exact h390
  have h401 : f399 (b + 2) = some (.inl (P.2.1 0, 400, .inl (fun _ => 0))) := by rw [ef399, va_up_ne _ _ (gh_ne h391 hn398 (by intro h; cases h))]; exact h391
  have h402 : f399 (b + 3) = some (.inl (P.2.1 1, 2, .inl (fun _ => 0))) := by rw [ef399, va_up_ne _ _ (gh_ne h392 hn398 (by intro h; cases h))]; exact h392
  have h403 : f399 (b + 4) = some (.inl (P.2.1 1, 48, .inl (fun _ => 0))) := by rw [ef399, va_up_ne _ _ (gh_ne h393 hn398 (by intro h; cases h))]; exact h393
  have h404 : f399 (b + 5) = some (.inl (P.2.1 2, 48, .inl (fun _ => 0))) := by rw [ef399, va_up_ne _ _ (gh_ne h394 hn398 (by intro h; cases h))]; exact h394
  have h405 : f399 (b + 6) = some (.inl (P.2.1 0, 9600, .inl (fun _ => 0))) := by rw [ef399, va_up_ne _ _ (gh_ne h395 hn398 (by intro h; cases h))]; exact h395
  have h406 : f399 (b + 7) = some (.inl (P.2.1 1, 48, .inl (fun _ => 0))) := by rw [ef399, va_up_ne _ _ (gh_ne h396 hn398 (by intro h; cases h))]; exact h396
  have h407 : f399 b = some (.inr (7, [.ref (b + 1), .int 0, .ref (b + 2), .ref (b + 3), .ref (b + 4), .ref (b + 5), .ref (b + 6), .ref (b + 7), .null, .null, .null, .null, .int 0, .int 0, .int 0, .null, .int 0])) := by rw [ef399, va_up_ne _ _ (gh_ne h397 hn398 (by intro h; cases h))]; exact h397
  have h408 : f399 (b + 8) = some (.inl (P.2.1 1, 48, .inl (fun _ => 0))) := by rw [ef399]; exact va_up_self _ _ _
  have hF : gFr f f399 [b] := by rw [ef399]; exact gFr.upN hn398 hF
  refine gh_putFZ S hI hz h407 rfl i_Mdl t_Mdl tk_Mdl n_Mdl 8 (by decide) wi_443 rfl hnm rfl rfl rfl (Nat.le_of_ble_eq_true rfl) d_Mdl_init_67 (fun H locs hz hI => ?_)
  have hI : gB P (va_up f399 b (some (.inr (7, [.ref (b + 1), .int 0, .ref (b + 2), .ref (b + 3), .ref (b + 4), .ref (b + 5), .ref (b + 6), .ref (b + 7), .ref (b + 8), .null, .null, .null, .int 0, .int 0, .int 0, .null, .int 0])))) s H locs := hI
  obtain ⟨f409, ef409⟩ : ∃ z, z = va_up f399 b (some (.inr (7, [.ref (b + 1), .int 0, .ref (b + 2), .ref (b + 3), .ref (b + 4), .ref (b + 5), .ref (b + 6), .ref (b + 7), .ref (b + 8), .null, .null, .null, .int 0, .int 0, .int 0, .null, .int 0]))) := ⟨_, rfl⟩
  rw [← ef409] at hI
  have h410 : f409 (b + 1) = some (.inl (P.2.1 0, 2048, .inl (fun _ => 0))) := by rw [ef409, va_up_ne _ _ (by omega)]; exact h400
  have h411 : f409 (b + 2) = some (.inl (P.2.1 0, 400, .inl (fun _ => 0))) := by rw [ef409, va_up_ne _ _ (by omega)]; exact h401
  have h412 : f409 (b + 3) = some (.inl (P.2.1 1, 2, .inl (fun _ => 0))) := by rw [ef409, va_up_ne _ _ (by omega)]; exact h402
  have h413 : f409 (b + 4) = some (.inl (P.2.1 1, 48, .inl (fun _ => 0))) := by rw [ef409, va_up_ne _ _ (by omega)]; exact h403
  have h414 : f409 (b + 5) = some (.inl (P.2.1 2, 48, .inl (fun _ => 0))) := by rw [ef409, va_up_ne _ _ (by omega)]; exact h404
  have h415 : f409 (b + 6) = some (.inl (P.2.1 0, 9600, .inl (fun _ => 0))) := by rw [ef409, va_up_ne _ _ (by omega)]; exact h405
  have h416 : f409 (b + 7) = some (.inl (P.2.1 1, 48, .inl (fun _ => 0))) := by rw [ef409, va_up_ne _ _ (by omega)]; exact h406
  have h417 : f409 (b + 8) = some (.inl (P.2.1 1, 48, .inl (fun _ => 0))) := by rw [ef409, va_up_ne _ _ (by omega)]; exact h408
  have h418 : f409 b = some (.inr (7, [.ref (b + 1), .int 0, .ref (b + 2), .ref (b + 3), .ref (b + 4), .ref (b + 5), .ref (b + 6), .ref (b + 7), .ref (b + 8), .null, .null, .null, .int 0, .int 0, .int 0, .null, .int 0])) := by rw [ef409]; exact va_up_self _ _ _
  have hF : gFr f f409 [b] := by rw [ef409]; exact gFr.upA (by simp) hF
  refine lv_aload_n S.1 S.2.1 d_Mdl_init_70 rfl (lv_at hl 0 rfl) ?_
  refine lv_bipush (v := nI 48) S.1 S.2.1 d_Mdl_init_71 (by decide) ?_
  refine gh_newiZ (n := 48) S hI hz wi_452 rfl (by omega) (Nat.le_of_ble_eq_true rfl) (Nat.le_of_ble_eq_true rfl) d_Mdl_init_73 (fun H hn419 hz hI => ?_)
  replace hz : H.size = b + 10 := hz
  have hI : gB P (va_up f409 (b + 9) (some (.inl (P.2.1 1, 48, .inl (fun _ => 0))))) s H locs := hI
  obtain ⟨f420, ef420⟩ : ∃ z, z = va_up f409 (b + 9) (some (.inl (P.2.1 1, 48, .inl (fun _ => 0)))) := ⟨_, rfl⟩
  rw [← ef420] at hI
  have h421 : f420 (b + 1) = some (.inl (P.2.1 0, 2048, .inl (fun _ => 0))) := by rw [ef420, va_up_ne _ _ (gh_ne h410 hn419 (by intro h; cases h))]; exact h410
  have h422 : f420 (b + 2) = some (.inl (P.2.1 0, 400, .inl (fun _ => 0))) := by rw [ef420, va_up_ne _ _ (gh_ne h411 hn419 (by intro h; cases h))]; exact h411
  have h423 : f420 (b + 3) = some (.inl (P.2.1 1, 2, .inl (fun _ => 0))) := by rw [ef420, va_up_ne _ _ (gh_ne h412 hn419 (by intro h; cases h))]; exact h412
  have h424 : f420 (b + 4) = some (.inl (P.2.1 1, 48, .inl (fun _ => 0))) := by rw [ef420, va_up_ne _ _ (gh_ne h413 hn419 (by intro h; cases h))]; exact h413
  have h425 : f420 (b + 5) = some (.inl (P.2.1 2, 48, .inl (fun _ => 0))) := by rw [ef420, va_up_ne _ _ (gh_ne h414 hn419 (by intro h; cases h))]; exact h414
  have h426 : f420 (b + 6) = some (.inl (P.2.1 0, 9600, .inl (fun _ => 0))) := by rw [ef420, va_up_ne _ _ (gh_ne h415 hn419 (by intro h; cases h))]; exact h415
  have h427 : f420 (b + 7) = some (.inl (P.2.1 1, 48, .inl (fun _ => 0))) := by rw [ef420, va_up_ne _ _ (gh_ne h416 hn419 (by intro h; cases h))]; exact h416
  have h428 : f420 (b + 8) = some (.inl (P.2.1 1, 48, .inl (fun _ => 0))) := by rw [ef420, va_up_ne _ _ (gh_ne h417 hn419 (by intro h; cases h))]; exact h417
  have h429 : f420 b = some (.inr (7, [.ref (b + 1), .int 0, .ref (b + 2), .ref (b + 3), .ref (b + 4), .ref (b + 5), .ref (b + 6), .ref (b + 7), .ref (b + 8), .null, .null, .null, .int 0, .int 0, .int 0, .null, .int 0])) := by rw [ef420, va_up_ne _ _ (gh_ne h418 hn419 (by intro h; cases h))]; exact h418
  have h430 : f420 (b + 9) = some (.inl (P.2.1 1, 48, .inl (fun _ => 0))) := by rw [ef420]; exact va_up_self _ _ _
  have hF : gFr f f420 [b] := by rw [ef420]; exact gFr.upN hn419 hF
  refine gh_putFZ S hI hz h429 rfl i_Mdl t_Mdl tk_Mdl n_Mdl 9 (by decide) wi_444 rfl hnm rfl rfl rfl (Nat.le_of_ble_eq_true rfl) d_Mdl_init_75 (fun H locs hz hI => ?_)
  have hI : gB P (va_up f420 b (some (.inr (7, [.ref (b + 1), .int 0, .ref (b + 2), .ref (b + 3), .ref (b + 4), .ref (b + 5), .ref (b + 6), .ref (b + 7), .ref (b + 8), .ref (b + 9), .null, .null, .int 0, .int 0, .int 0, .null, .int 0])))) s H locs := hI
  obtain ⟨f431, ef431⟩ : ∃ z, z = va_up f420 b (some (.inr (7, [.ref (b + 1), .int 0, .ref (b + 2), .ref (b + 3), .ref (b + 4), .ref (b + 5), .ref (b + 6), .ref (b + 7), .ref (b + 8), .ref (b + 9), .null, .null, .int 0, .int 0, .int 0, .null, .int 0]))) := ⟨_, rfl⟩
  rw [← ef431] at hI
  have h432 : f431 (b + 1) = some (.inl (P.2.1 0, 2048, .inl (fun _ => 0))) := by rw [ef431, va_up_ne _ _ (by omega)]; exact h421
  have h433 : f431 (b + 2) = some (.inl (P.2.1 0, 400, .inl (fun _ => 0))) := by rw [ef431, va_up_ne _ _ (by omega)]; exact h422
  have h434 : f431 (b + 3) = some (.inl (P.2.1 1, 2, .inl (fun _ => 0))) := by rw [ef431, va_up_ne _ _ (by omega)]; exact h423
  have h435 : f431 (b + 4) = some (.inl (P.2.1 1, 48, .inl (fun _ => 0))) := by rw [ef431, va_up_ne _ _ (by omega)]; exact h424
  have h436 : f431 (b + 5) = some (.inl (P.2.1 2, 48, .inl (fun _ => 0))) := by rw [ef431, va_up_ne _ _ (by omega)]; exact h425
  have h437 : f431 (b + 6) = some (.inl (P.2.1 0, 9600, .inl (fun _ => 0))) := by rw [ef431, va_up_ne _ _ (by omega)]; exact h426
  have h438 : f431 (b + 7) = some (.inl (P.2.1 1, 48, .inl (fun _ => 0))) := by rw [ef431, va_up_ne _ _ (by omega)]; exact h427
  have h439 : f431 (b + 8) = some (.inl (P.2.1 1, 48, .inl (fun _ => 0))) := by rw [ef431, va_up_ne _ _ (by omega)]; exact h428
  have h440 : f431 (b + 9) = some (.inl (P.2.1 1, 48, .inl (fun _ => 0))) := by rw [ef431, va_up_ne _ _ (by omega)]; exact h430
  have h441 : f431 b = some (.inr (7, [.ref (b + 1), .int 0, .ref (b + 2), .ref (b + 3), .ref (b + 4), .ref (b + 5), .ref (b + 6), .ref (b + 7), .ref (b + 8), .ref (b + 9), .null, .null, .int 0, .int 0, .int 0, .null, .int 0])) := by rw [ef431]; exact va_up_self _ _ _
  have hF : gFr f f431 [b] := by rw [ef431]; exact gFr.upA (by simp) hF
  refine lv_aload_n S.1 S.2.1 d_Mdl_init_78 rfl (lv_at hl 0 rfl) ?_
  refine lv_ldc (v := nI 393216) S.1 S.2.1 S.2.2.2.1 (S.2.2.2.2 _ wi_434) d_Mdl_init_79 ?_
  refine gh_newbZ (n := 393216) S hI hz wi_33 rfl (by omega) (Nat.le_of_ble_eq_true rfl) (Nat.le_of_ble_eq_true rfl) d_Mdl_init_81 (fun H hn442 hz hI => ?_)
  replace hz : H.size = b + 11 := hz
  have hI : gB P (va_up f431 (b + 10) (some (.inl (P.2.1 0, 393216, .inl (fun _ => 0))))) s H locs := hI
  obtain ⟨f443, ef443⟩ : ∃ z, z = va_up f431 (b + 10) (some (.inl (P.2.1 0, 393216, .inl (fun _ => 0)))) := ⟨_, rfl⟩
  rw [← ef443] at hI
  have h444 : f443 (b + 1) = some (.inl (P.2.1 0, 2048, .inl (fun _ => 0))) := by rw [ef443, va_up_ne _ _ (gh_ne h432 hn442 (by intro h; cases h))]; exact h432
  have h445 : f443 (b + 2) = some (.inl (P.2.1 0, 400, .inl (fun _ => 0))) := by rw [ef443, va_up_ne _ _ (gh_ne h433 hn442 (by intro h; cases h))]; exact h433
  have h446 : f443 (b + 3) = some (.inl (P.2.1 1, 2, .inl (fun _ => 0))) := by rw [ef443, va_up_ne _ _ (gh_ne h434 hn442 (by intro h; cases h))]; exact h434
  have h447 : f443 (b + 4) = some (.inl (P.2.1 1, 48, .inl (fun _ => 0))) := by rw [ef443, va_up_ne _ _ (gh_ne h435 hn442 (by intro h; cases h))]; exact h435
  have h448 : f443 (b + 5) = some (.inl (P.2.1 2, 48, .inl (fun _ => 0))) := by rw [ef443, va_up_ne _ _ (gh_ne h436 hn442 (by intro h; cases h))]; exact h436
  have h449 : f443 (b + 6) = some (.inl (P.2.1 0, 9600, .inl (fun _ => 0))) := by rw [ef443, va_up_ne _ _ (gh_ne h437 hn442 (by intro h; cases h))]; exact h437
  have h450 : f443 (b + 7) = some (.inl (P.2.1 1, 48, .inl (fun _ => 0))) := by rw [ef443, va_up_ne _ _ (gh_ne h438 hn442 (by intro h; cases h))]; exact h438
  have h451 : f443 (b + 8) = some (.inl (P.2.1 1, 48, .inl (fun _ => 0))) := by rw [ef443, va_up_ne _ _ (gh_ne h439 hn442 (by intro h; cases h))]; exact h439
  have h452 : f443 (b + 9) = some (.inl (P.2.1 1, 48, .inl (fun _ => 0))) := by rw [ef443, va_up_ne _ _ (gh_ne h440 hn442 (by intro h; cases h))]; exact h440
  have h453 : f443 b = some (.inr (7, [.ref (b + 1), .int 0, .ref (b + 2), .ref (b + 3), .ref (b + 4), .ref (b + 5), .ref (b + 6), .ref (b + 7), .ref (b + 8), .ref (b + 9), .null, .null, .int 0, .int 0, .int 0, .null, .int 0])) := by rw [ef443, va_up_ne _ _ (gh_ne h441 hn442 (by intro h; cases h))]; exact h441
  have h454 : f443 (b + 10) = some (.inl (P.2.1 0, 393216, .inl (fun _ => 0))) := by rw [ef443]; exact va_up_self _ _ _
  have hF : gFr f f443 [b] := by rw [ef443]; exact gFr.upN hn442 hF
  refine gh_putFZ S hI hz h453 rfl i_Mdl t_Mdl tk_Mdl n_Mdl 10 (by decide) wi_445 rfl hnm rfl rfl rfl (Nat.le_of_ble_eq_true rfl) d_Mdl_init_83 (fun H locs hz hI => ?_)
  have hI : gB P (va_up f443 b (some (.inr (7, [.ref (b + 1), .int 0, .ref (b + 2), .ref (b + 3), .ref (b + 4), .ref (b + 5), .ref (b + 6), .ref (b + 7), .ref (b + 8), .ref (b + 9), .ref (b + 10), .null, .int 0, .int 0, .int 0, .null, .int 0])))) s H locs := hI
  obtain ⟨f455, ef455⟩ : ∃ z, z = va_up f443 b (some (.inr (7, [.ref (b + 1), .int 0, .ref (b + 2), .ref (b + 3), .ref (b + 4), .ref (b + 5), .ref (b + 6), .ref (b + 7), .ref (b + 8), .ref (b + 9), .ref (b + 10), .null, .int 0, .int 0, .int 0, .null, .int 0]))) := ⟨_, rfl⟩
  rw [← ef455] at hI
  have h456 : f455 (b + 1) = some (.inl (P.2.1 0, 2048, .inl (fun _ => 0))) := by rw [ef455, va_up_ne _ _ (by omega)]; exact h444
  have h457 : f455 (b + 2) = some (.inl (P.2.1 0, 400, .inl (fun _ => 0))) := by rw [ef455, va_up_ne _ _ (by omega)]; exact h445
  have h458 : f455 (b + 3) = some (.inl (P.2.1 1, 2, .inl (fun _ => 0))) := by rw [ef455, va_up_ne _ _ (by omega)]; exact h446
  have h459 : f455 (b + 4) = some (.inl (P.2.1 1, 48, .inl (fun _ => 0))) := by rw [ef455, va_up_ne _ _ (by omega)]; exact h447
  have h460 : f455 (b + 5) = some (.inl (P.2.1 2, 48, .inl (fun _ => 0))) := by rw [ef455, va_up_ne _ _ (by omega)]; exact h448
  have h461 : f455 (b + 6) = some (.inl (P.2.1 0, 9600, .inl (fun _ => 0))) := by rw [ef455, va_up_ne _ _ (by omega)]; exact h449
  have h462 : f455 (b + 7) = some (.inl (P.2.1 1, 48, .inl (fun _ => 0))) := by rw [ef455, va_up_ne _ _ (by omega)]; exact h450
  have h463 : f455 (b + 8) = some (.inl (P.2.1 1, 48, .inl (fun _ => 0))) := by rw [ef455, va_up_ne _ _ (by omega)]; exact h451
  have h464 : f455 (b + 9) = some (.inl (P.2.1 1, 48, .inl (fun _ => 0))) := by rw [ef455, va_up_ne _ _ (by omega)]; exact h452
  have h465 : f455 (b + 10) = some (.inl (P.2.1 0, 393216, .inl (fun _ => 0))) := by rw [ef455, va_up_ne _ _ (by omega)]; exact h454
  have h466 : f455 b = some (.inr (7, [.ref (b + 1), .int 0, .ref (b + 2), .ref (b + 3), .ref (b + 4), .ref (b + 5), .ref (b + 6), .ref (b + 7), .ref (b + 8), .ref (b + 9), .ref (b + 10), .null, .int 0, .int 0, .int 0, .null, .int 0])) := by rw [ef455]; exact va_up_self _ _ _
  have hF : gFr f f455 [b] := by rw [ef455]; exact gFr.upA (by simp) hF
  refine lv_aload_n S.1 S.2.1 d_Mdl_init_86 rfl (lv_at hl 0 rfl) ?_
  refine lv_sipush (v := nI 912) S.1 S.2.1 d_Mdl_init_87 (by decide) ?_
  refine gh_newzZ (n := 912) S hI hz wi_453 rfl (by omega) (Nat.le_of_ble_eq_true rfl) (Nat.le_of_ble_eq_true rfl) d_Mdl_init_90 (fun H hn467 hz hI => ?_)
  replace hz : H.size = b + 12 := hz
  have hI : gB P (va_up f455 (b + 11) (some (.inl (P.2.1 2, 912, .inl (fun _ => 0))))) s H locs := hI
  obtain ⟨f468, ef468⟩ : ∃ z, z = va_up f455 (b + 11) (some (.inl (P.2.1 2, 912, .inl (fun _ => 0)))) := ⟨_, rfl⟩
  rw [← ef468] at hI
  have h469 : f468 (b + 1) = some (.inl (P.2.1 0, 2048, .inl (fun _ => 0))) := by rw [ef468, va_up_ne _ _ (gh_ne h456 hn467 (by intro h; cases h))]; exact h456
  have h470 : f468 (b + 2) = some (.inl (P.2.1 0, 400, .inl (fun _ => 0))) := by rw [ef468, va_up_ne _ _ (gh_ne h457 hn467 (by intro h; cases h))]; exact h457
  have h471 : f468 (b + 3) = some (.inl (P.2.1 1, 2, .inl (fun _ => 0))) := by rw [ef468, va_up_ne _ _ (gh_ne h458 hn467 (by intro h; cases h))]; exact h458
  have h472 : f468 (b + 4) = some (.inl (P.2.1 1, 48, .inl (fun _ => 0))) := by rw [ef468, va_up_ne _ _ (gh_ne h459 hn467 (by intro h; cases h))]; exact h459
  have h473 : f468 (b + 5) = some (.inl (P.2.1 2, 48, .inl (fun _ => 0))) := by rw [ef468, va_up_ne _ _ (gh_ne h460 hn467 (by intro h; cases h))]; exact h460
  have h474 : f468 (b + 6) = some (.inl (P.2.1 0, 9600, .inl (fun _ => 0))) := by rw [ef468, va_up_ne _ _ (gh_ne h461 hn467 (by intro h; cases h))]; exact h461
  have h475 : f468 (b + 7) = some (.inl (P.2.1 1, 48, .inl (fun _ => 0))) := by rw [ef468, va_up_ne _ _ (gh_ne h462 hn467 (by intro h; cases h))]; exact h462
  have h476 : f468 (b + 8) = some (.inl (P.2.1 1, 48, .inl (fun _ => 0))) := by rw [ef468, va_up_ne _ _ (gh_ne h463 hn467 (by intro h; cases h))]; exact h463
  have h477 : f468 (b + 9) = some (.inl (P.2.1 1, 48, .inl (fun _ => 0))) := by rw [ef468, va_up_ne _ _ (gh_ne h464 hn467 (by intro h; cases h))]; exact h464
  have h478 : f468 (b + 10) = some (.inl (P.2.1 0, 393216, .inl (fun _ => 0))) := by rw [ef468, va_up_ne _ _ (gh_ne h465 hn467 (by intro h; cases h))]; exact h465
  have h479 : f468 b = some (.inr (7, [.ref (b + 1), .int 0, .ref (b + 2), .ref (b + 3), .ref (b + 4), .ref (b + 5), .ref (b + 6), .ref (b + 7), .ref (b + 8), .ref (b + 9), .ref (b + 10), .null, .int 0, .int 0, .int 0, .null, .int 0])) := by rw [ef468, va_up_ne _ _ (gh_ne h466 hn467 (by intro h; cases h))]; exact h466
  have h480 : f468 (b + 11) = some (.inl (P.2.1 2, 912, .inl (fun _ => 0))) := by rw [ef468]; exact va_up_self _ _ _
  have hF : gFr f f468 [b] := by rw [ef468]; exact gFr.upN hn467 hF
  refine gh_putFZ S hI hz h479 rfl i_Mdl t_Mdl tk_Mdl n_Mdl 11 (by decide) wi_446 rfl hnm rfl rfl rfl (Nat.le_of_ble_eq_true rfl) d_Mdl_init_92 (fun H locs hz hI => ?_)
  have hI : gB P (va_up f468 b (some (.inr (7, [.ref (b + 1), .int 0, .ref (b + 2), .ref (b + 3), .ref (b + 4), .ref (b + 5), .ref (b + 6), .ref (b + 7), .ref (b + 8), .ref (b + 9), .ref (b + 10), .ref (b + 11), .int 0, .int 0, .int 0, .null, .int 0])))) s H locs := hI
  obtain ⟨f481, ef481⟩ : ∃ z, z = va_up f468 b (some (.inr (7, [.ref (b + 1), .int 0, .ref (b + 2), .ref (b + 3), .ref (b + 4), .ref (b + 5), .ref (b + 6), .ref (b + 7), .ref (b + 8), .ref (b + 9), .ref (b + 10), .ref (b + 11), .int 0, .int 0, .int 0, .null, .int 0]))) := ⟨_, rfl⟩
  rw [← ef481] at hI
  have h482 : f481 (b + 1) = some (.inl (P.2.1 0, 2048, .inl (fun _ => 0))) := by rw [ef481, va_up_ne _ _ (by omega)]; exact h469
  have h483 : f481 (b + 2) = some (.inl (P.2.1 0, 400, .inl (fun _ => 0))) := by rw [ef481, va_up_ne _ _ (by omega)]; exact h470
  have h484 : f481 (b + 3) = some (.inl (P.2.1 1, 2, .inl (fun _ => 0))) := by rw [ef481, va_up_ne _ _ (by omega)]; exact h471
  have h485 : f481 (b + 4) = some (.inl (P.2.1 1, 48, .inl (fun _ => 0))) := by rw [ef481, va_up_ne _ _ (by omega)]; exact h472
  have h486 : f481 (b + 5) = some (.inl (P.2.1 2, 48, .inl (fun _ => 0))) := by rw [ef481, va_up_ne _ _ (by omega)]; exact h473
  have h487 : f481 (b + 6) = some (.inl (P.2.1 0, 9600, .inl (fun _ => 0))) := by rw [ef481, va_up_ne _ _ (by omega)]; exact h474
  have h488 : f481 (b + 7) = some (.inl (P.2.1 1, 48, .inl (fun _ => 0))) := by rw [ef481, va_up_ne _ _ (by omega)]; exact h475
  have h489 : f481 (b + 8) = some (.inl (P.2.1 1, 48, .inl (fun _ => 0))) := by rw [ef481, va_up_ne _ _ (by omega)]; exact h476
  have h490 : f481 (b + 9) = some (.inl (P.2.1 1, 48, .inl (fun _ => 0))) := by rw [ef481, va_up_ne _ _ (by omega)]; exact h477
  have h491 : f481 (b + 10) = some (.inl (P.2.1 0, 393216, .inl (fun _ => 0))) := by rw [ef481, va_up_ne _ _ (by omega)]; exact h478
  have h492 : f481 (b + 11) = some (.inl (P.2.1 2, 912, .inl (fun _ => 0))) := by rw [ef481, va_up_ne _ _ (by omega)]; exact h480
  have h493 : f481 b = some (.inr (7, [.ref (b + 1), .int 0, .ref (b + 2), .ref (b + 3), .ref (b + 4), .ref (b + 5), .ref (b + 6), .ref (b + 7), .ref (b + 8), .ref (b + 9), .ref (b + 10), .ref (b + 11), .int 0, .int 0, .int 0, .null, .int 0])) := by rw [ef481]; exact va_up_self _ _ _
  have hF : gFr f f481 [b] := by rw [ef481]; exact gFr.upA (by simp) hF
  refine lv_aload_n S.1 S.2.1 d_Mdl_init_95 rfl (lv_at hl 0 rfl) ?_
  refine lv_sipush (v := nI 2048) S.1 S.2.1 d_Mdl_init_96 (by decide) ?_
  refine gh_newiZ (n := 2048) S hI hz wi_452 rfl (by omega) (Nat.le_of_ble_eq_true rfl) (Nat.le_of_ble_eq_true rfl) d_Mdl_init_99 (fun H hn494 hz hI => ?_)
  replace hz : H.size = b + 13 := hz
  have hI : gB P (va_up f481 (b + 12) (some (.inl (P.2.1 1, 2048, .inl (fun _ => 0))))) s H locs := hI
  obtain ⟨f495, ef495⟩ : ∃ z, z = va_up f481 (b + 12) (some (.inl (P.2.1 1, 2048, .inl (fun _ => 0)))) := ⟨_, rfl⟩
  rw [← ef495] at hI
  have h496 : f495 (b + 1) = some (.inl (P.2.1 0, 2048, .inl (fun _ => 0))) := by rw [ef495, va_up_ne _ _ (gh_ne h482 hn494 (by intro h; cases h))]; exact h482
  have h497 : f495 (b + 2) = some (.inl (P.2.1 0, 400, .inl (fun _ => 0))) := by rw [ef495, va_up_ne _ _ (gh_ne h483 hn494 (by intro h; cases h))]; exact h483
  have h498 : f495 (b + 3) = some (.inl (P.2.1 1, 2, .inl (fun _ => 0))) := by rw [ef495, va_up_ne _ _ (gh_ne h484 hn494 (by intro h; cases h))]; exact h484
  have h499 : f495 (b + 4) = some (.inl (P.2.1 1, 48, .inl (fun _ => 0))) := by rw [ef495, va_up_ne _ _ (gh_ne h485 hn494 (by intro h; cases h))]; exact h485
  have h500 : f495 (b + 5) = some (.inl (P.2.1 2, 48, .inl (fun _ => 0))) := by rw [ef495, va_up_ne _ _ (gh_ne h486 hn494 (by intro h; cases h))]; exact h486
  have h501 : f495 (b + 6) = some (.inl (P.2.1 0, 9600, .inl (fun _ => 0))) := by rw [ef495, va_up_ne _ _ (gh_ne h487 hn494 (by intro h; cases h))]; exact h487
  have h502 : f495 (b + 7) = some (.inl (P.2.1 1, 48, .inl (fun _ => 0))) := by rw [ef495, va_up_ne _ _ (gh_ne h488 hn494 (by intro h; cases h))]; exact h488
  have h503 : f495 (b + 8) = some (.inl (P.2.1 1, 48, .inl (fun _ => 0))) := by rw [ef495, va_up_ne _ _ (gh_ne h489 hn494 (by intro h; cases h))]; exact h489
  have h504 : f495 (b + 9) = some (.inl (P.2.1 1, 48, .inl (fun _ => 0))) := by rw [ef495, va_up_ne _ _ (gh_ne h490 hn494 (by intro h; cases h))]; exact h490
  have h505 : f495 (b + 10) = some (.inl (P.2.1 0, 393216, .inl (fun _ => 0))) := by rw [ef495, va_up_ne _ _ (gh_ne h491 hn494 (by intro h; cases h))]; exact h491
  have h506 : f495 (b + 11) = some (.inl (P.2.1 2, 912, .inl (fun _ => 0))) := by rw [ef495, va_up_ne _ _ (gh_ne h492 hn494 (by intro h; cases h))]; exact h492
  have h507 : f495 b = some (.inr (7, [.ref (b + 1), .int 0, .ref (b + 2), .ref (b + 3), .ref (b + 4), .ref (b + 5), .ref (b + 6), .ref (b + 7), .ref (b + 8), .ref (b + 9), .ref (b + 10), .ref (b + 11), .int 0, .int 0, .int 0, .null, .int 0])) := by rw [ef495, va_up_ne _ _ (gh_ne h493 hn494 (by intro h; cases h))]; exact h493
  have h508 : f495 (b + 12) = some (.inl (P.2.1 1, 2048, .inl (fun _ => 0))) := by rw [ef495]; exact va_up_self _ _ _
  have hF : gFr f f495 [b] := by rw [ef495]; exact gFr.upN hn494 hF
  refine gh_putFZ S hI hz h507 rfl i_Mdl t_Mdl tk_Mdl n_Mdl 15 (by decide) wi_450 rfl hnm rfl rfl rfl (Nat.le_of_ble_eq_true rfl) d_Mdl_init_101 (fun H locs hz hI => ?_)
  have hI : gB P (va_up f495 b (some (.inr (7, [.ref (b + 1), .int 0, .ref (b + 2), .ref (b + 3), .ref (b + 4), .ref (b + 5), .ref (b + 6), .ref (b + 7), .ref (b + 8), .ref (b + 9), .ref (b + 10), .ref (b + 11), .int 0, .int 0, .int 0, .ref (b + 12), .int 0])))) s H locs := hI
  obtain ⟨f509, ef509⟩ : ∃ z, z = va_up f495 b (some (.inr (7, [.ref (b + 1), .int 0, .ref (b + 2), .ref (b + 3), .ref (b + 4), .ref (b + 5), .ref (b + 6), .ref (b + 7), .ref (b + 8), .ref (b + 9), .ref (b + 10), .ref (b + 11), .int 0, .int 0, .int 0, .ref (b + 12), .int 0]))) := ⟨_, rfl⟩
  rw [← ef509] at hI
  have h510 : f509 (b + 1) = some (.inl (P.2.1 0, 2048, .inl (fun _ => 0))) := by rw [ef509, va_up_ne _ _ (by omega)]; exact h496
  have h511 : f509 (b + 2) = some (.inl (P.2.1 0, 400, .inl (fun _ => 0))) := by rw [ef509, va_up_ne _ _ (by omega)]; exact h497
  have h512 : f509 (b + 3) = some (.inl (P.2.1 1, 2, .inl (fun _ => 0))) := by rw [ef509, va_up_ne _ _ (by omega)]; exact h498
  have h513 : f509 (b + 4) = some (.inl (P.2.1 1, 48, .inl (fun _ => 0))) := by rw [ef509, va_up_ne _ _ (by omega)]; exact h499
  have h514 : f509 (b + 5) = some (.inl (P.2.1 2, 48, .inl (fun _ => 0))) := by rw [ef509, va_up_ne _ _ (by omega)]; exact h500
  have h515 : f509 (b + 6) = some (.inl (P.2.1 0, 9600, .inl (fun _ => 0))) := by rw [ef509, va_up_ne _ _ (by omega)]; exact h501
  have h516 : f509 (b + 7) = some (.inl (P.2.1 1, 48, .inl (fun _ => 0))) := by rw [ef509, va_up_ne _ _ (by omega)]; exact h502
  have h517 : f509 (b + 8) = some (.inl (P.2.1 1, 48, .inl (fun _ => 0))) := by rw [ef509, va_up_ne _ _ (by omega)]; exact h503
  have h518 : f509 (b + 9) = some (.inl (P.2.1 1, 48, .inl (fun _ => 0))) := by rw [ef509, va_up_ne _ _ (by omega)]; exact h504
  have h519 : f509 (b + 10) = some (.inl (P.2.1 0, 393216, .inl (fun _ => 0))) := by rw [ef509, va_up_ne _ _ (by omega)]; exact h505
  have h520 : f509 (b + 11) = some (.inl (P.2.1 2, 912, .inl (fun _ => 0))) := by rw [ef509, va_up_ne _ _ (by omega)]; exact h506
  have h521 : f509 (b + 12) = some (.inl (P.2.1 1, 2048, .inl (fun _ => 0))) := by rw [ef509, va_up_ne _ _ (by omega)]; exact h508
  have h522 : f509 b = some (.inr (7, [.ref (b + 1), .int 0, .ref (b + 2), .ref (b + 3), .ref (b + 4), .ref (b + 5), .ref (b + 6), .ref (b + 7), .ref (b + 8), .ref (b + 9), .ref (b + 10), .ref (b + 11), .int 0, .int 0, .int 0, .ref (b + 12), .int 0])) := by rw [ef509]; exact va_up_self _ _ _
  have hF : gFr f f509 [b] := by rw [ef509]; exact gFr.upA (by simp) hF
  refine W.widen (k := 12) (n := 408466) (by omega) (by omega) ?_
  have k0 : f509 b = some (.inr (7, [.ref (b + 1), .int (nI 0), .ref (b + 2), .ref (b + 3), .ref (b + 4), .ref (b + 5), .ref (b + 6), .ref (b + 7), .ref (b + 8), .ref (b + 9), .ref (b + 10), .ref (b + 11), .int (nI 0), .int (nI 0), .int (nI 0), .ref (b + 12), .int (nI 0)])) := h522
  have hfin : gMo P f509 b aNew := ⟨(fun _ => 0), (fun _ => 0), (fun _ => 0), (fun _ => 0), (fun _ => 0), (fun _ => 0), (fun _ => 0), (fun _ => 0), (fun _ => 0), (fun _ => 0), (fun _ => 0), (fun _ => 0), [], fun _ => fNew [] 0, ⟨k0, h510, h511, h512, h513, h514, h515, h516, h517, h518, h519, h520, h521⟩, ⟨by simp [aNew], rfl⟩, ⟨⟨rfl, by simp [aNew], rfl⟩, ⟨rfl, by simp [aNew], rfl⟩⟩, ⟨by simp [aNew], fun i hi => absurd hi (by simp [aNew])⟩, ⟨List.nodup_nil, by simp, fun i q hq => by simp at hq, fun q hq => rfl, fun q hq => by simp at hq⟩, rfl⟩
  exact gr_vz S hr hlk hI hz (⟨rfl, hfin, hF⟩) d_Mdl_init_104
set_option maxHeartbeats 4000000 in
set_option maxRecDepth 100000 in
theorem c_Mdl_run (l : Launch) (P : gPar) (f : gM) {b : Nat} {st : ASt} {kd aa bb : Int32} (h : gMo P f b st) (hw : wfS st.2.2.2.2.2) : gC l P y_Mdl_run b_Mdl_run 6 (some .int) 4 0 0 [.ref b, .int kd, .int aa, .int bb] f (gQi P (fun r f1 => r = (aRun st kd aa bb).1 ∧ gMo P f1 b (aRun st kd aa bb).2 ∧ gFr f f1 [b, b + 1, b + 2, b + 3, b + 4, b + 5, b + 6, b + 7, b + 8, b + 9, b + 10, b + 11, b + 12])) := by
  refine gC_of (by decide) (Nat.le_of_ble_eq_true rfl) (fun p env s m args below meth c S hr hlk hnm H locs hI ls hl => ?_)
  have hl : lv_has ls 6 [(0, .ref b), (1, .int kd), (2, .int aa), (3, .int bb)] := hl
  obtain ⟨gt, gn, gl, go, gu, gf, gk, gi, gz, gy, ga, gd, L, af, ⟨hb, h1, h2, h3, h4, h5, h6, h7, h8, h9, h10, h11, h12⟩, ⟨ht1, ht2⟩, ⟨hn0, hn1⟩, ⟨hd1, hd2⟩, ⟨hnd, hlL, hO, hU, hM⟩, hFS⟩ := (id h)
  have hlF : st.2.2.2.2.2.length = L.length := by rw [← hFS, List.length_map]
  have hnF : nms af L = fN st.2.2.2.2.2 := by rw [← hFS, fN_L]
  have hd0 : mTold gd [] := ⟨by simp, fun i hi => absurd hi (by simp)⟩
  have hmF : mFs go gu gf gk gi gz gy ga L af := ⟨hnd, hlL, hO, hU, hM⟩
  have hs : srt (nms af L) := by rw [hnF]; exact hw.1
  have hN : ∀ q ∈ L, q < 48 ∧ mNk gf gk q (af q).1 := fun q hq => ⟨(hM q hq).1, (hM q hq).2.1⟩
  have hfB := hw.2.1
  have hle : ∀ q ∈ L, (af q).2.2.1 ≤ fB st.2.2.2.2.2 := fun q hq => fB_le (by rw [← hFS]; exact List.mem_map.mpr ⟨q, hq, rfl⟩)
  have hlN0 := hn0.2.1
  have hlN1 := hn1.2.1
  refine lv_iload_n S.1 S.2.1 d_Mdl_run_0 rfl (lv_at hl 1 rfl) ?_
  refine lv_if_lt (tgt := 46) S.1 S.2.1 d_Mdl_run_1 (by decide) (fun c523 => ?_) (fun c523 => ?_)
  · skip
    refine lv_iconst (v := (-1)) S.1 S.2.1 d_Mdl_run_46 (by decide) ?_
    exact gr_i S hr hlk hI (by rw [aRun_ref (Or.inl (Or.inl c523))]; exact ⟨rfl, h, gFr.rf⟩) d_Mdl_run_47
  · skip
    obtain ⟨u, hu, hu2⟩ := nI_of c523
    subst hu2
    refine lv_iload_n S.1 S.2.1 d_Mdl_run_4 rfl (lv_at hl 1 rfl) ?_
    refine lv_bipush (v := nI 9) S.1 S.2.1 d_Mdl_run_5 (by decide) ?_
    refine lv_icmp_gt (tgt := 46) S.1 S.2.1 d_Mdl_run_7 (by decide) (fun c524 => ?_) (fun c524 => ?_)
    · skip
      replace c524 : 9 < u := (nI_ltI (a := 9) (b := u) (by omega) (by omega)).mp c524
      refine lv_iconst (v := (-1)) S.1 S.2.1 d_Mdl_run_46 (by decide) ?_
      exact gr_i S hr hlk hI (by rw [aRun_ref (Or.inl (Or.inr (nI_lt (a := 9) (by omega) hu)))]; exact ⟨rfl, h, gFr.rf⟩) d_Mdl_run_47
    · skip
      replace c524 : ¬ 9 < u := fun z => c524 ((nI_ltI (a := 9) (b := u) (by omega) (by omega)).mpr z)
      rcases (show u = 0 ∨ u = 1 ∨ u = 2 ∨ u = 3 ∨ u = 4 ∨ u = 5 ∨ u = 6 ∨ u = 7 ∨ u = 8 ∨ u = 9 by omega) with e | e | e | e | e | e | e | e | e | e <;> subst e
      · skip
        refine lv_iload_n S.1 S.2.1 d_Mdl_run_10 rfl (lv_at hl 1 rfl) ?_
        refine lv_bipush (v := nI 9) S.1 S.2.1 d_Mdl_run_11 (by decide) ?_
        refine lv_icmp_eq (tgt := 25) S.1 S.2.1 d_Mdl_run_13 (by decide) (fun c525 => ?_) (fun c525 => ?_)
        · skip
          replace c525 : 0 = 9 := (nI_eq (a := 0) (b := 9) (by omega) (by omega)).mp c525
          exact absurd c525 (by omega)
        · skip
          replace c525 : ¬ 0 = 9 := fun z => c525 ((nI_eq (a := 0) (b := 9) (by omega) (by omega)).mpr z)
          refine lv_aload_n S.1 S.2.1 d_Mdl_run_16 rfl (lv_at hl 0 rfl) ?_
          refine gh_get S hI hb rfl i_Mdl 3 (by decide) wi_438 rfl d_Mdl_run_17 ?_
          refine lv_iconst (v := nI 0) S.1 S.2.1 d_Mdl_run_20 (by decide) ?_
          refine gh_iald (j := 0) S hI 1 h3 rfl rfl (by omega) (by omega) d_Mdl_run_21 ?_
          refine lv_topi (fun v526 ev526 => ?_)
          replace ev526 : v526 = nI st.2.1.length := ev526.trans (hn0.1)
          subst ev526
          refine lv_if_eq (tgt := 46) S.1 S.2.1 d_Mdl_run_22 (by decide) (fun c527 => ?_) (fun c527 => ?_)
          · skip
            replace c527 : st.2.1.length = 0 := (nI_eq (a := st.2.1.length) (b := 0) (by omega) (by omega)).mp c527
            refine lv_iconst (v := (-1)) S.1 S.2.1 d_Mdl_run_46 (by decide) ?_
            exact gr_i S hr hlk hI (by rw [aRun_ref (Or.inr (Or.inl ⟨by decide, List.length_eq_zero_iff.mp c527⟩))]; exact ⟨rfl, h, gFr.rf⟩) d_Mdl_run_47
          · skip
            replace c527 : ¬ st.2.1.length = 0 := fun z => c527 ((nI_eq (a := st.2.1.length) (b := 0) (by omega) (by omega)).mpr z)
            refine lv_iload_n S.1 S.2.1 d_Mdl_run_25 rfl (lv_at hl 1 rfl) ?_
            refine lv_bipush (v := nI 6) S.1 S.2.1 d_Mdl_run_26 (by decide) ?_
            refine lv_icmp_eq (tgt := 37) S.1 S.2.1 d_Mdl_run_28 (by decide) (fun c528 => ?_) (fun c528 => ?_)
            · skip
              replace c528 : 0 = 6 := (nI_eq (a := 0) (b := 6) (by omega) (by omega)).mp c528
              exact absurd c528 (by omega)
            · skip
              replace c528 : ¬ 0 = 6 := fun z => c528 ((nI_eq (a := 0) (b := 6) (by omega) (by omega)).mpr z)
              refine lv_iload_n S.1 S.2.1 d_Mdl_run_31 rfl (lv_at hl 1 rfl) ?_
              refine lv_bipush (v := nI 7) S.1 S.2.1 d_Mdl_run_32 (by decide) ?_
              refine lv_icmp_ne (tgt := 48) S.1 S.2.1 d_Mdl_run_34 (by decide) (fun c529 => ?_) (fun c529 => ?_)
              · skip
                replace c529 : ¬ 0 = 7 := fun z => c529 ((nI_eq (a := 0) (b := 7) (by omega) (by omega)).mpr z)
                refine lv_iload_n S.1 S.2.1 d_Mdl_run_48 rfl (lv_at hl 1 rfl) ?_
                refine lv_iconst (v := nI 1) S.1 S.2.1 d_Mdl_run_49 (by decide) ?_
                refine lv_icmp_eq (tgt := 63) S.1 S.2.1 d_Mdl_run_50 (by decide) (fun c530 => ?_) (fun c530 => ?_)
                · skip
                  replace c530 : 0 = 1 := (nI_eq (a := 0) (b := 1) (by omega) (by omega)).mp c530
                  exact absurd c530 (by omega)
                · skip
                  replace c530 : ¬ 0 = 1 := fun z => c530 ((nI_eq (a := 0) (b := 1) (by omega) (by omega)).mpr z)
                  refine lv_iload_n S.1 S.2.1 d_Mdl_run_53 rfl (lv_at hl 1 rfl) ?_
                  refine lv_iconst (v := nI 3) S.1 S.2.1 d_Mdl_run_54 (by decide) ?_
                  refine lv_icmp_eq (tgt := 63) S.1 S.2.1 d_Mdl_run_55 (by decide) (fun c531 => ?_) (fun c531 => ?_)
                  · skip
                    replace c531 : 0 = 3 := (nI_eq (a := 0) (b := 3) (by omega) (by omega)).mp c531
                    exact absurd c531 (by omega)
                  · skip
                    replace c531 : ¬ 0 = 3 := fun z => c531 ((nI_eq (a := 0) (b := 3) (by omega) (by omega)).mpr z)
                    refine lv_iload_n S.1 S.2.1 d_Mdl_run_58 rfl (lv_at hl 1 rfl) ?_
                    refine lv_iconst (v := nI 4) S.1 S.2.1 d_Mdl_run_59 (by decide) ?_
                    refine lv_icmp_ne (tgt := 74) S.1 S.2.1 d_Mdl_run_60 (by decide) (fun c532 => ?_) (fun c532 => ?_)
                    · skip
                      replace c532 : ¬ 0 = 4 := fun z => c532 ((nI_eq (a := 0) (b := 4) (by omega) (by omega)).mpr z)
                      refine lv_iload_n S.1 S.2.1 d_Mdl_run_74 rfl (lv_at hl 1 rfl) ?_
                      refine lv_iconst (v := nI 4) S.1 S.2.1 d_Mdl_run_75 (by decide) ?_
                      refine lv_icmp_ne (tgt := 92) S.1 S.2.1 d_Mdl_run_76 (by decide) (fun c533 => ?_) (fun c533 => ?_)
                      · skip
                        replace c533 : ¬ 0 = 4 := fun z => c533 ((nI_eq (a := 0) (b := 4) (by omega) (by omega)).mpr z)
                        have hrf : ¬ aRef st (nI 0) aa bb := aRef_no (by decide) (fun _ z => c527 (by rw [z]; rfl)) (fun z => absurd z (by decide)) (fun z => absurd z (by decide)) (fun z => absurd z (by decide))
                        have eo : aOp st (nI 0) aa bb = oMake st := by unfold aOp; rw [if_pos (show (nI 0 : Int32) = 0 by decide)]
                        have hF : gFr f f [b, b + 1, b + 2, b + 3, b + 4, b + 5, b + 6, b + 7, b + 8, b + 9, b + 10, b + 11, b + 12] := gFr.rf
                        refine lv_aload_n S.1 S.2.1 d_Mdl_run_92 rfl (lv_at hl 0 rfl) ?_
                        refine lv_iconst (v := nI 0) S.1 S.2.1 d_Mdl_run_93 (by decide) ?_
                        refine gh_put S hI hb rfl i_Mdl t_Mdl tk_Mdl n_Mdl 16 (by decide) wi_451 rfl rfl rfl (Nat.le_of_ble_eq_true rfl) d_Mdl_run_94 (fun H locs hI => ?_)
                        have hI : gB P (va_up f b (some (.inr (7, [.ref (b + 1), .int (nI st.1.length), .ref (b + 2), .ref (b + 3), .ref (b + 4), .ref (b + 5), .ref (b + 6), .ref (b + 7), .ref (b + 8), .ref (b + 9), .ref (b + 10), .ref (b + 11), .int (nI L.length), .int (nI (fB st.2.2.2.2.2)), .int (nI st.2.2.2.2.1), .ref (b + 12), .int (nI 0)])))) s H locs := hI
                        obtain ⟨f534, ef534⟩ : ∃ z, z = va_up f b (some (.inr (7, [.ref (b + 1), .int (nI st.1.length), .ref (b + 2), .ref (b + 3), .ref (b + 4), .ref (b + 5), .ref (b + 6), .ref (b + 7), .ref (b + 8), .ref (b + 9), .ref (b + 10), .ref (b + 11), .int (nI L.length), .int (nI (fB st.2.2.2.2.2)), .int (nI st.2.2.2.2.1), .ref (b + 12), .int (nI 0)]))) := ⟨_, rfl⟩
                        rw [← ef534] at hI
                        have h535 : f534 (b + 1) = some (.inl (P.2.1 0, 2048, .inl gt)) := by rw [ef534, va_up_ne _ _ (by omega)]; exact h1
                        have h536 : f534 (b + 2) = some (.inl (P.2.1 0, 400, .inl gn)) := by rw [ef534, va_up_ne _ _ (by omega)]; exact h2
                        have h537 : f534 (b + 3) = some (.inl (P.2.1 1, 2, .inl gl)) := by rw [ef534, va_up_ne _ _ (by omega)]; exact h3
                        have h538 : f534 (b + 4) = some (.inl (P.2.1 1, 48, .inl go)) := by rw [ef534, va_up_ne _ _ (by omega)]; exact h4
                        have h539 : f534 (b + 5) = some (.inl (P.2.1 2, 48, .inl gu)) := by rw [ef534, va_up_ne _ _ (by omega)]; exact h5
                        have h540 : f534 (b + 6) = some (.inl (P.2.1 0, 9600, .inl gf)) := by rw [ef534, va_up_ne _ _ (by omega)]; exact h6
                        have h541 : f534 (b + 7) = some (.inl (P.2.1 1, 48, .inl gk)) := by rw [ef534, va_up_ne _ _ (by omega)]; exact h7
                        have h542 : f534 (b + 8) = some (.inl (P.2.1 1, 48, .inl gi)) := by rw [ef534, va_up_ne _ _ (by omega)]; exact h8
                        have h543 : f534 (b + 9) = some (.inl (P.2.1 1, 48, .inl gz)) := by rw [ef534, va_up_ne _ _ (by omega)]; exact h9
                        have h544 : f534 (b + 10) = some (.inl (P.2.1 0, 393216, .inl gy)) := by rw [ef534, va_up_ne _ _ (by omega)]; exact h10
                        have h545 : f534 (b + 11) = some (.inl (P.2.1 2, 912, .inl ga)) := by rw [ef534, va_up_ne _ _ (by omega)]; exact h11
                        have h546 : f534 (b + 12) = some (.inl (P.2.1 1, 2048, .inl gd)) := by rw [ef534, va_up_ne _ _ (by omega)]; exact h12
                        have h547 : f534 b = some (.inr (7, [.ref (b + 1), .int (nI st.1.length), .ref (b + 2), .ref (b + 3), .ref (b + 4), .ref (b + 5), .ref (b + 6), .ref (b + 7), .ref (b + 8), .ref (b + 9), .ref (b + 10), .ref (b + 11), .int (nI L.length), .int (nI (fB st.2.2.2.2.2)), .int (nI st.2.2.2.2.1), .ref (b + 12), .int (nI 0)])) := by rw [ef534]; exact va_up_self _ _ _
                        have hF : gFr f f534 [b, b + 1, b + 2, b + 3, b + 4, b + 5, b + 6, b + 7, b + 8, b + 9, b + 10, b + 11, b + 12] := by rw [ef534]; exact gFr.upA (by simp) hF
                        refine lv_aload_n S.1 S.2.1 d_Mdl_run_97 rfl (lv_at hl 0 rfl) ?_
                        refine gh_get S hI h547 rfl i_Mdl 14 (by decide) wi_449 rfl d_Mdl_run_98 ?_
                        refine lv_istore (lv' := [(4, .int (nI st.2.2.2.2.1)), (0, .ref b), (1, .int (nI 0)), (2, .int aa), (3, .int bb)]) S.1 S.2.1 d_Mdl_run_101 hl (by decide) rfl (fun ls hl => ?_)
                        refine lv_aload_n S.1 S.2.1 d_Mdl_run_103 rfl (lv_at hl 1 rfl) ?_
                        refine lv_dup S.1 S.2.1 d_Mdl_run_104 rfl ?_
                        refine gh_get S hI h547 rfl i_Mdl 14 (by decide) wi_449 rfl d_Mdl_run_105 ?_
                        refine lv_iconst (v := nI 1) S.1 S.2.1 d_Mdl_run_108 (by decide) ?_
                        refine lv_iadd S.1 S.2.1 d_Mdl_run_109 ?_
                        refine lv_topi (fun v548 ev548 => ?_)
                        replace ev548 : v548 = nI (st.2.2.2.2.1 + 1) := ev548.trans (nI_add _ _)
                        subst ev548
                        refine gh_put S hI h547 rfl i_Mdl t_Mdl tk_Mdl n_Mdl 14 (by decide) wi_449 rfl rfl rfl (Nat.le_of_ble_eq_true rfl) d_Mdl_run_110 (fun H locs hI => ?_)
                        have hI : gB P (va_up f534 b (some (.inr (7, [.ref (b + 1), .int (nI st.1.length), .ref (b + 2), .ref (b + 3), .ref (b + 4), .ref (b + 5), .ref (b + 6), .ref (b + 7), .ref (b + 8), .ref (b + 9), .ref (b + 10), .ref (b + 11), .int (nI L.length), .int (nI (fB st.2.2.2.2.2)), .int (nI (st.2.2.2.2.1 + 1)), .ref (b + 12), .int (nI 0)])))) s H locs := hI
                        obtain ⟨f549, ef549⟩ : ∃ z, z = va_up f534 b (some (.inr (7, [.ref (b + 1), .int (nI st.1.length), .ref (b + 2), .ref (b + 3), .ref (b + 4), .ref (b + 5), .ref (b + 6), .ref (b + 7), .ref (b + 8), .ref (b + 9), .ref (b + 10), .ref (b + 11), .int (nI L.length), .int (nI (fB st.2.2.2.2.2)), .int (nI (st.2.2.2.2.1 + 1)), .ref (b + 12), .int (nI 0)]))) := ⟨_, rfl⟩
                        rw [← ef549] at hI
                        have h550 : f549 (b + 1) = some (.inl (P.2.1 0, 2048, .inl gt)) := by rw [ef549, va_up_ne _ _ (by omega)]; exact h535
                        have h551 : f549 (b + 2) = some (.inl (P.2.1 0, 400, .inl gn)) := by rw [ef549, va_up_ne _ _ (by omega)]; exact h536
                        have h552 : f549 (b + 3) = some (.inl (P.2.1 1, 2, .inl gl)) := by rw [ef549, va_up_ne _ _ (by omega)]; exact h537
                        have h553 : f549 (b + 4) = some (.inl (P.2.1 1, 48, .inl go)) := by rw [ef549, va_up_ne _ _ (by omega)]; exact h538
                        have h554 : f549 (b + 5) = some (.inl (P.2.1 2, 48, .inl gu)) := by rw [ef549, va_up_ne _ _ (by omega)]; exact h539
                        have h555 : f549 (b + 6) = some (.inl (P.2.1 0, 9600, .inl gf)) := by rw [ef549, va_up_ne _ _ (by omega)]; exact h540
                        have h556 : f549 (b + 7) = some (.inl (P.2.1 1, 48, .inl gk)) := by rw [ef549, va_up_ne _ _ (by omega)]; exact h541
                        have h557 : f549 (b + 8) = some (.inl (P.2.1 1, 48, .inl gi)) := by rw [ef549, va_up_ne _ _ (by omega)]; exact h542
                        have h558 : f549 (b + 9) = some (.inl (P.2.1 1, 48, .inl gz)) := by rw [ef549, va_up_ne _ _ (by omega)]; exact h543
                        have h559 : f549 (b + 10) = some (.inl (P.2.1 0, 393216, .inl gy)) := by rw [ef549, va_up_ne _ _ (by omega)]; exact h544
                        have h560 : f549 (b + 11) = some (.inl (P.2.1 2, 912, .inl ga)) := by rw [ef549, va_up_ne _ _ (by omega)]; exact h545
                        have h561 : f549 (b + 12) = some (.inl (P.2.1 1, 2048, .inl gd)) := by rw [ef549, va_up_ne _ _ (by omega)]; exact h546
                        have h562 : f549 b = some (.inr (7, [.ref (b + 1), .int (nI st.1.length), .ref (b + 2), .ref (b + 3), .ref (b + 4), .ref (b + 5), .ref (b + 6), .ref (b + 7), .ref (b + 8), .ref (b + 9), .ref (b + 10), .ref (b + 11), .int (nI L.length), .int (nI (fB st.2.2.2.2.2)), .int (nI (st.2.2.2.2.1 + 1)), .ref (b + 12), .int (nI 0)])) := by rw [ef549]; exact va_up_self _ _ _
                        have hF : gFr f f549 [b, b + 1, b + 2, b + 3, b + 4, b + 5, b + 6, b + 7, b + 8, b + 9, b + 10, b + 11, b + 12] := by rw [ef549]; exact gFr.upA (by simp) hF
                        have hb := h562
                        have h1 := h550
                        have h2 := h551
                        have h3 := h552
                        have h4 := h553
                        have h5 := h554
                        have h6 := h555
                        have h7 := h556
                        have h8 := h557
                        have h9 := h558
                        have h10 := h559
                        have h11 := h560
                        have h12 := h561
                        have hA : gMo P f549 b (aIn st) := ⟨gt, gn, gl, go, gu, gf, gk, gi, gz, gy, ga, gd, L, af, ⟨hb, h1, h2, h3, h4, h5, h6, h7, h8, h9, h10, h11, h12⟩, ⟨ht1, ht2⟩, ⟨hn0, hn1⟩, hd0, hmF, hFS⟩
                        refine lv_aload_n S.1 S.2.1 d_Mdl_run_113 rfl (lv_at hl 1 rfl) ?_
                        refine lv_iconst (v := nI 0) S.1 S.2.1 d_Mdl_run_114 (by decide) ?_
                        refine gc_Vi S hI (c_Mdl_find l P f549 (k := 0) (nm := st.2.1) (af := af) hb h2 h3 h4 h6 h7 hO hN hlL (by omega) hn0 hs) kv_Mdl_find wi_473 hb rfl rfl rfl hl.1 rfl (Nat.le_of_ble_eq_true rfl) ⟨Nat.le_of_ble_eq_true rfl, Nat.le_of_ble_eq_true rfl⟩ ⟨Nat.le_of_ble_eq_true rfl, Nat.le_of_ble_eq_true rfl⟩ d_Mdl_run_115 (fun r563 f564 H locs hp565 hI => ?_)
                        obtain ⟨hp1, hp2⟩ := hp565
                        rw [hp2] at hI
                        rw [hnF] at hp1
                        refine lv_istore (lv' := [(5, .int r563), (4, .int (nI st.2.2.2.2.1)), (0, .ref b), (1, .int (nI 0)), (2, .int aa), (3, .int bb)]) S.1 S.2.1 d_Mdl_run_118 hl (by decide) rfl (fun ls hl => ?_)
                        refine lv_iload_n S.1 S.2.1 d_Mdl_run_120 rfl (lv_at hl 3 rfl) ?_
                        rcases hp1 with ⟨hix, hr9⟩ | ⟨i, q, hix, hq, hr9⟩
                        · subst hr9
                          refine lv_tableIn (tgt := 172) S.1 S.2.1 d_Mdl_run_121 (by decide) (by decide) rfl (by decide) ?_
                          refine lv_iload S.1 S.2.1 d_Mdl_run_172 (lv_at hl 0 rfl) ?_
                          refine lv_if_lt (tgt := 180) S.1 S.2.1 d_Mdl_run_174 (by decide) (fun c566 => ?_) (fun c566 => ?_)
                          · skip
                            refine lv_aload_n S.1 S.2.1 d_Mdl_run_180 rfl (lv_at hl 2 rfl) ?_
                            refine gh_get S hI hb rfl i_Mdl 12 (by decide) wi_447 rfl d_Mdl_run_181 ?_
                            refine lv_bipush (v := nI 48) S.1 S.2.1 d_Mdl_run_184 (by decide) ?_
                            refine lv_icmp_ne (tgt := 192) S.1 S.2.1 d_Mdl_run_186 (by decide) (fun c567 => ?_) (fun c567 => ?_)
                            · skip
                              replace c567 : ¬ L.length = 48 := fun z => c567 ((nI_eq (a := L.length) (b := 48) (by omega) (by omega)).mpr z)
                              have hno : st.2.1 ∉ nms af L := by rw [hnF]; exact idx_nm hw.1 hix
                              have hpl : plc (nms af L) st.2.1 ≤ L.length := by have := plc_le (nms af L) st.2.1; rw [show (nms af L).length = L.length by simp [nms]] at this; exact this
                              refine lv_aload_n S.1 S.2.1 d_Mdl_run_192 rfl (lv_at hl 2 rfl) ?_
                              refine lv_iload S.1 S.2.1 d_Mdl_run_193 (lv_at hl 1 rfl) ?_
                              refine gc_Vi S hI (c_Mdl_made l P f549 (idv := nI st.2.2.2.2.1) (nm := st.2.1) (af := af) hb h2 h3 h4 h5 h6 h7 h8 h9 h11 hO hU hN (by omega) hn0 hs hno) kv_Mdl_made wi_479 hb rfl rfl rfl hl.1 rfl (Nat.le_of_ble_eq_true rfl) ⟨Nat.le_of_ble_eq_true rfl, Nat.le_of_ble_eq_true rfl⟩ ⟨Nat.le_of_ble_eq_true rfl, Nat.le_of_ble_eq_true rfl⟩ d_Mdl_run_195 (fun r568 f569 H locs hp570 hI => ?_)
                              obtain ⟨q, g4, g6, g7, g11, hq48, hqL, hr7, k0, k4, k5, k6, k7, k8, k9, k11, kO, kN, kK, kA, kF⟩ := hp570
                              subst hr7
                              have k1 := kF (b + 1) _ h1 (by intro z; simp at z)
                              have k2 := kF (b + 2) _ h2 (by intro z; simp at z)
                              have k3 := kF (b + 3) _ h3 (by intro z; simp at z)
                              have k10 := kF (b + 10) _ h10 (by intro z; simp at z)
                              have k12 := kF (b + 12) _ h12 (by intro z; simp at z)
                              have hm1 := mFs_made (idv := nI st.2.2.2.2.1) hmF hq48 hqL (by omega) hpl kO kN kK kA
                              have hpF : plc (fN st.2.2.2.2.2) st.2.1 ≤ st.2.2.2.2.2.length := by rw [hlF, ← hnF]; exact hpl
                              have eB : fB (fIns st.2.2.2.2.2 (fNew st.2.1 (nI st.2.2.2.2.1))) = fB st.2.2.2.2.2 := by
                                show fB (st.2.2.2.2.2.insertIdx (plc (fN st.2.2.2.2.2) st.2.1) (fNew st.2.1 (nI st.2.2.2.2.1))) = _
                                rw [fB_ins hpF]; show 0 + _ = _; omega
                              have eL : (L.insertIdx (plc (nms af L) st.2.1) q).length = L.length + 1 := List.length_insertIdx_of_le_length hpl _
                              rw [← eL, ← eB] at k0
                              have hfs : (L.insertIdx (plc (nms af L) st.2.1) q).map (va_up af q (fNew st.2.1 (nI st.2.2.2.2.1))) = (fIns st.2.2.2.2.2 (fNew st.2.1 (nI st.2.2.2.2.1))) := by rw [map_ins_up hqL, hFS, hnF]; rfl
                              have hfin : gMo P f569 b (aAft st (0, [], st.1, (fIns st.2.2.2.2.2 (fNew st.2.1 (nI st.2.2.2.2.1))))) := ⟨gt, gn, gl, g4, upd gu q (nI 1), g6, g7, upd gi q (nI st.2.2.2.2.1), upd gz q (nI 0), gy, g11, gd, _, _, ⟨k0, k1, k2, k3, k4, k5, k6, k7, k8, k9, k10, k11, k12⟩, ⟨ht1, ht2⟩, ⟨hn0, hn1⟩, hd0, hm1, hfs⟩
                              refine lv_pop S.1 S.2.1 d_Mdl_run_198 rfl ?_
                              refine lv_iconst (v := nI 0) S.1 S.2.1 d_Mdl_run_199 (by decide) ?_
                              exact gr_i S hr hlk hI (by rw [aRun_op hrf, eo, oMake_n hix, if_neg (by omega)]; exact ⟨rfl, hfin, hF.call kF (by intro q hq; left; simp at hq ⊢; omega)⟩) d_Mdl_run_200
                            · skip
                              replace c567 : L.length = 48 := (nI_eq (a := L.length) (b := 48) (by omega) (by omega)).mp c567
                              refine lv_bipush (v := (-4)) S.1 S.2.1 d_Mdl_run_189 (by decide) ?_
                              exact gr_i S hr hlk hI (by rw [aRun_op hrf, eo, oMake_n hix, if_pos (by omega)]; exact ⟨rfl, hA, hF⟩) d_Mdl_run_191
                          · skip
                            exact absurd (by decide) c566
                        · subst hr9
                          have hqL := List.mem_of_getElem? hq
                          obtain ⟨hq48, hqn, p1, p2, p3, p4⟩ := hM q hqL
                          have hgD : st.2.2.2.2.2.getD i (fNew [] 0) = af q := by rw [← hFS]; exact getD_map hq
                          have hFi : st.2.2.2.2.2[i]? = some (af q) := by rw [← hFS, List.getElem?_map, hq]; rfl
                          refine lv_tableIn (tgt := 172) S.1 S.2.1 d_Mdl_run_121 (by decide) (by decide) rfl (by decide) ?_
                          refine lv_iload S.1 S.2.1 d_Mdl_run_172 (lv_at hl 0 rfl) ?_
                          refine lv_if_lt (tgt := 180) S.1 S.2.1 d_Mdl_run_174 (by decide) (fun c571 => ?_) (fun c571 => ?_)
                          · skip
                            replace c571 : q < 0 := (nI_ltI (a := q) (b := 0) (by omega) (by omega)).mp c571
                            exact absurd c571 (by omega)
                          · skip
                            replace c571 : ¬ q < 0 := fun z => c571 ((nI_ltI (a := q) (b := 0) (by omega) (by omega)).mpr z)
                            refine lv_bipush (v := (-3)) S.1 S.2.1 d_Mdl_run_177 (by decide) ?_
                            exact gr_i S hr hlk hI (by rw [aRun_op hrf, eo, oMake_s hix]; exact ⟨rfl, hA, hF⟩) d_Mdl_run_179
                      · skip
                        replace c533 : 0 = 4 := (nI_eq (a := 0) (b := 4) (by omega) (by omega)).mp c533
                        exact absurd c533 (by omega)
                    · skip
                      replace c532 : 0 = 4 := (nI_eq (a := 0) (b := 4) (by omega) (by omega)).mp c532
                      exact absurd c532 (by omega)
              · skip
                replace c529 : 0 = 7 := (nI_eq (a := 0) (b := 7) (by omega) (by omega)).mp c529
                exact absurd c529 (by omega)
      · skip
        refine lv_iload_n S.1 S.2.1 d_Mdl_run_10 rfl (lv_at hl 1 rfl) ?_
        refine lv_bipush (v := nI 9) S.1 S.2.1 d_Mdl_run_11 (by decide) ?_
        refine lv_icmp_eq (tgt := 25) S.1 S.2.1 d_Mdl_run_13 (by decide) (fun c572 => ?_) (fun c572 => ?_)
        · skip
          replace c572 : 1 = 9 := (nI_eq (a := 1) (b := 9) (by omega) (by omega)).mp c572
          exact absurd c572 (by omega)
        · skip
          replace c572 : ¬ 1 = 9 := fun z => c572 ((nI_eq (a := 1) (b := 9) (by omega) (by omega)).mpr z)
          refine lv_aload_n S.1 S.2.1 d_Mdl_run_16 rfl (lv_at hl 0 rfl) ?_
          refine gh_get S hI hb rfl i_Mdl 3 (by decide) wi_438 rfl d_Mdl_run_17 ?_
          refine lv_iconst (v := nI 0) S.1 S.2.1 d_Mdl_run_20 (by decide) ?_
          refine gh_iald (j := 0) S hI 1 h3 rfl rfl (by omega) (by omega) d_Mdl_run_21 ?_
          refine lv_topi (fun v573 ev573 => ?_)
          replace ev573 : v573 = nI st.2.1.length := ev573.trans (hn0.1)
          subst ev573
          refine lv_if_eq (tgt := 46) S.1 S.2.1 d_Mdl_run_22 (by decide) (fun c574 => ?_) (fun c574 => ?_)
          · skip
            replace c574 : st.2.1.length = 0 := (nI_eq (a := st.2.1.length) (b := 0) (by omega) (by omega)).mp c574
            refine lv_iconst (v := (-1)) S.1 S.2.1 d_Mdl_run_46 (by decide) ?_
            exact gr_i S hr hlk hI (by rw [aRun_ref (Or.inr (Or.inl ⟨by decide, List.length_eq_zero_iff.mp c574⟩))]; exact ⟨rfl, h, gFr.rf⟩) d_Mdl_run_47
          · skip
            replace c574 : ¬ st.2.1.length = 0 := fun z => c574 ((nI_eq (a := st.2.1.length) (b := 0) (by omega) (by omega)).mpr z)
            refine lv_iload_n S.1 S.2.1 d_Mdl_run_25 rfl (lv_at hl 1 rfl) ?_
            refine lv_bipush (v := nI 6) S.1 S.2.1 d_Mdl_run_26 (by decide) ?_
            refine lv_icmp_eq (tgt := 37) S.1 S.2.1 d_Mdl_run_28 (by decide) (fun c575 => ?_) (fun c575 => ?_)
            · skip
              replace c575 : 1 = 6 := (nI_eq (a := 1) (b := 6) (by omega) (by omega)).mp c575
              exact absurd c575 (by omega)
            · skip
              replace c575 : ¬ 1 = 6 := fun z => c575 ((nI_eq (a := 1) (b := 6) (by omega) (by omega)).mpr z)
              refine lv_iload_n S.1 S.2.1 d_Mdl_run_31 rfl (lv_at hl 1 rfl) ?_
              refine lv_bipush (v := nI 7) S.1 S.2.1 d_Mdl_run_32 (by decide) ?_
              refine lv_icmp_ne (tgt := 48) S.1 S.2.1 d_Mdl_run_34 (by decide) (fun c576 => ?_) (fun c576 => ?_)
              · skip
                replace c576 : ¬ 1 = 7 := fun z => c576 ((nI_eq (a := 1) (b := 7) (by omega) (by omega)).mpr z)
                refine lv_iload_n S.1 S.2.1 d_Mdl_run_48 rfl (lv_at hl 1 rfl) ?_
                refine lv_iconst (v := nI 1) S.1 S.2.1 d_Mdl_run_49 (by decide) ?_
                refine lv_icmp_eq (tgt := 63) S.1 S.2.1 d_Mdl_run_50 (by decide) (fun c577 => ?_) (fun c577 => ?_)
                · skip
                  replace c577 : 1 = 1 := (nI_eq (a := 1) (b := 1) (by omega) (by omega)).mp c577
                  refine lv_iload_n S.1 S.2.1 d_Mdl_run_63 rfl (lv_at hl 2 rfl) ?_
                  refine lv_if_lt (tgt := 90) S.1 S.2.1 d_Mdl_run_64 (by decide) (fun c578 => ?_) (fun c578 => ?_)
                  · skip
                    refine lv_iconst (v := (-1)) S.1 S.2.1 d_Mdl_run_90 (by decide) ?_
                    exact gr_i S hr hlk hI (by rw [aRun_ref (Or.inr (Or.inr (Or.inr (Or.inl ⟨by decide, Or.inl c578⟩))))]; exact ⟨rfl, h, gFr.rf⟩) d_Mdl_run_91
                  · skip
                    obtain ⟨an, hA31, hA2⟩ := nI_of c578
                    subst hA2
                    refine lv_iload_n S.1 S.2.1 d_Mdl_run_67 rfl (lv_at hl 2 rfl) ?_
                    refine lv_sipush (v := nI 8192) S.1 S.2.1 d_Mdl_run_68 (by decide) ?_
                    refine lv_icmp_gt (tgt := 90) S.1 S.2.1 d_Mdl_run_71 (by decide) (fun c579 => ?_) (fun c579 => ?_)
                    · skip
                      replace c579 : 8192 < an := (nI_ltI (a := 8192) (b := an) (by omega) (by omega)).mp c579
                      refine lv_iconst (v := (-1)) S.1 S.2.1 d_Mdl_run_90 (by decide) ?_
                      exact gr_i S hr hlk hI (by rw [aRun_ref (Or.inr (Or.inr (Or.inr (Or.inl ⟨by decide, Or.inr (nI_lt (a := 8192) (by omega) hA31)⟩))))]; exact ⟨rfl, h, gFr.rf⟩) d_Mdl_run_91
                    · skip
                      replace c579 : ¬ 8192 < an := fun z => c579 ((nI_ltI (a := 8192) (b := an) (by omega) (by omega)).mpr z)
                      have hAn : an ≤ 8192 := by omega
                      refine lv_iload_n S.1 S.2.1 d_Mdl_run_74 rfl (lv_at hl 1 rfl) ?_
                      refine lv_iconst (v := nI 4) S.1 S.2.1 d_Mdl_run_75 (by decide) ?_
                      refine lv_icmp_ne (tgt := 92) S.1 S.2.1 d_Mdl_run_76 (by decide) (fun c580 => ?_) (fun c580 => ?_)
                      · skip
                        replace c580 : ¬ 1 = 4 := fun z => c580 ((nI_eq (a := 1) (b := 4) (by omega) (by omega)).mpr z)
                        have hrf : ¬ aRef st (nI 1) (nI an) bb := aRef_no (by decide) (fun _ z => c574 (by rw [z]; rfl)) (fun z => absurd z (by decide)) (fun _ z => z.elim c578 (fun q => absurd ((nI_ltI (a := 8192) (by omega) hA31).mp q) (by omega))) (fun z => absurd z (by decide))
                        have ea2 : (nI an).toNatClampNeg = an := nI_clamp hA31
                        have eo : aOp st (nI 1) (nI an) bb = oWrite st false an := by unfold aOp; rw [if_neg (show ¬ (nI 1 : Int32) = 0 by decide), if_pos (show (nI 1 : Int32) = 1 by decide), ea2]
                        have hF : gFr f f [b, b + 1, b + 2, b + 3, b + 4, b + 5, b + 6, b + 7, b + 8, b + 9, b + 10, b + 11, b + 12] := gFr.rf
                        refine lv_aload_n S.1 S.2.1 d_Mdl_run_92 rfl (lv_at hl 0 rfl) ?_
                        refine lv_iconst (v := nI 0) S.1 S.2.1 d_Mdl_run_93 (by decide) ?_
                        refine gh_put S hI hb rfl i_Mdl t_Mdl tk_Mdl n_Mdl 16 (by decide) wi_451 rfl rfl rfl (Nat.le_of_ble_eq_true rfl) d_Mdl_run_94 (fun H locs hI => ?_)
                        have hI : gB P (va_up f b (some (.inr (7, [.ref (b + 1), .int (nI st.1.length), .ref (b + 2), .ref (b + 3), .ref (b + 4), .ref (b + 5), .ref (b + 6), .ref (b + 7), .ref (b + 8), .ref (b + 9), .ref (b + 10), .ref (b + 11), .int (nI L.length), .int (nI (fB st.2.2.2.2.2)), .int (nI st.2.2.2.2.1), .ref (b + 12), .int (nI 0)])))) s H locs := hI
                        obtain ⟨f581, ef581⟩ : ∃ z, z = va_up f b (some (.inr (7, [.ref (b + 1), .int (nI st.1.length), .ref (b + 2), .ref (b + 3), .ref (b + 4), .ref (b + 5), .ref (b + 6), .ref (b + 7), .ref (b + 8), .ref (b + 9), .ref (b + 10), .ref (b + 11), .int (nI L.length), .int (nI (fB st.2.2.2.2.2)), .int (nI st.2.2.2.2.1), .ref (b + 12), .int (nI 0)]))) := ⟨_, rfl⟩
                        rw [← ef581] at hI
                        have h582 : f581 (b + 1) = some (.inl (P.2.1 0, 2048, .inl gt)) := by rw [ef581, va_up_ne _ _ (by omega)]; exact h1
                        have h583 : f581 (b + 2) = some (.inl (P.2.1 0, 400, .inl gn)) := by rw [ef581, va_up_ne _ _ (by omega)]; exact h2
                        have h584 : f581 (b + 3) = some (.inl (P.2.1 1, 2, .inl gl)) := by rw [ef581, va_up_ne _ _ (by omega)]; exact h3
                        have h585 : f581 (b + 4) = some (.inl (P.2.1 1, 48, .inl go)) := by rw [ef581, va_up_ne _ _ (by omega)]; exact h4
                        have h586 : f581 (b + 5) = some (.inl (P.2.1 2, 48, .inl gu)) := by rw [ef581, va_up_ne _ _ (by omega)]; exact h5
                        have h587 : f581 (b + 6) = some (.inl (P.2.1 0, 9600, .inl gf)) := by rw [ef581, va_up_ne _ _ (by omega)]; exact h6
                        have h588 : f581 (b + 7) = some (.inl (P.2.1 1, 48, .inl gk)) := by rw [ef581, va_up_ne _ _ (by omega)]; exact h7
                        have h589 : f581 (b + 8) = some (.inl (P.2.1 1, 48, .inl gi)) := by rw [ef581, va_up_ne _ _ (by omega)]; exact h8
                        have h590 : f581 (b + 9) = some (.inl (P.2.1 1, 48, .inl gz)) := by rw [ef581, va_up_ne _ _ (by omega)]; exact h9
                        have h591 : f581 (b + 10) = some (.inl (P.2.1 0, 393216, .inl gy)) := by rw [ef581, va_up_ne _ _ (by omega)]; exact h10
                        have h592 : f581 (b + 11) = some (.inl (P.2.1 2, 912, .inl ga)) := by rw [ef581, va_up_ne _ _ (by omega)]; exact h11
                        have h593 : f581 (b + 12) = some (.inl (P.2.1 1, 2048, .inl gd)) := by rw [ef581, va_up_ne _ _ (by omega)]; exact h12
                        have h594 : f581 b = some (.inr (7, [.ref (b + 1), .int (nI st.1.length), .ref (b + 2), .ref (b + 3), .ref (b + 4), .ref (b + 5), .ref (b + 6), .ref (b + 7), .ref (b + 8), .ref (b + 9), .ref (b + 10), .ref (b + 11), .int (nI L.length), .int (nI (fB st.2.2.2.2.2)), .int (nI st.2.2.2.2.1), .ref (b + 12), .int (nI 0)])) := by rw [ef581]; exact va_up_self _ _ _
                        have hF : gFr f f581 [b, b + 1, b + 2, b + 3, b + 4, b + 5, b + 6, b + 7, b + 8, b + 9, b + 10, b + 11, b + 12] := by rw [ef581]; exact gFr.upA (by simp) hF
                        refine lv_aload_n S.1 S.2.1 d_Mdl_run_97 rfl (lv_at hl 0 rfl) ?_
                        refine gh_get S hI h594 rfl i_Mdl 14 (by decide) wi_449 rfl d_Mdl_run_98 ?_
                        refine lv_istore (lv' := [(4, .int (nI st.2.2.2.2.1)), (0, .ref b), (1, .int (nI 1)), (2, .int (nI an)), (3, .int bb)]) S.1 S.2.1 d_Mdl_run_101 hl (by decide) rfl (fun ls hl => ?_)
                        refine lv_aload_n S.1 S.2.1 d_Mdl_run_103 rfl (lv_at hl 1 rfl) ?_
                        refine lv_dup S.1 S.2.1 d_Mdl_run_104 rfl ?_
                        refine gh_get S hI h594 rfl i_Mdl 14 (by decide) wi_449 rfl d_Mdl_run_105 ?_
                        refine lv_iconst (v := nI 1) S.1 S.2.1 d_Mdl_run_108 (by decide) ?_
                        refine lv_iadd S.1 S.2.1 d_Mdl_run_109 ?_
                        refine lv_topi (fun v595 ev595 => ?_)
                        replace ev595 : v595 = nI (st.2.2.2.2.1 + 1) := ev595.trans (nI_add _ _)
                        subst ev595
                        refine gh_put S hI h594 rfl i_Mdl t_Mdl tk_Mdl n_Mdl 14 (by decide) wi_449 rfl rfl rfl (Nat.le_of_ble_eq_true rfl) d_Mdl_run_110 (fun H locs hI => ?_)
                        have hI : gB P (va_up f581 b (some (.inr (7, [.ref (b + 1), .int (nI st.1.length), .ref (b + 2), .ref (b + 3), .ref (b + 4), .ref (b + 5), .ref (b + 6), .ref (b + 7), .ref (b + 8), .ref (b + 9), .ref (b + 10), .ref (b + 11), .int (nI L.length), .int (nI (fB st.2.2.2.2.2)), .int (nI (st.2.2.2.2.1 + 1)), .ref (b + 12), .int (nI 0)])))) s H locs := hI
                        obtain ⟨f596, ef596⟩ : ∃ z, z = va_up f581 b (some (.inr (7, [.ref (b + 1), .int (nI st.1.length), .ref (b + 2), .ref (b + 3), .ref (b + 4), .ref (b + 5), .ref (b + 6), .ref (b + 7), .ref (b + 8), .ref (b + 9), .ref (b + 10), .ref (b + 11), .int (nI L.length), .int (nI (fB st.2.2.2.2.2)), .int (nI (st.2.2.2.2.1 + 1)), .ref (b + 12), .int (nI 0)]))) := ⟨_, rfl⟩
                        rw [← ef596] at hI
                        have h597 : f596 (b + 1) = some (.inl (P.2.1 0, 2048, .inl gt)) := by rw [ef596, va_up_ne _ _ (by omega)]; exact h582
                        have h598 : f596 (b + 2) = some (.inl (P.2.1 0, 400, .inl gn)) := by rw [ef596, va_up_ne _ _ (by omega)]; exact h583
                        have h599 : f596 (b + 3) = some (.inl (P.2.1 1, 2, .inl gl)) := by rw [ef596, va_up_ne _ _ (by omega)]; exact h584
                        have h600 : f596 (b + 4) = some (.inl (P.2.1 1, 48, .inl go)) := by rw [ef596, va_up_ne _ _ (by omega)]; exact h585
                        have h601 : f596 (b + 5) = some (.inl (P.2.1 2, 48, .inl gu)) := by rw [ef596, va_up_ne _ _ (by omega)]; exact h586
                        have h602 : f596 (b + 6) = some (.inl (P.2.1 0, 9600, .inl gf)) := by rw [ef596, va_up_ne _ _ (by omega)]; exact h587
                        have h603 : f596 (b + 7) = some (.inl (P.2.1 1, 48, .inl gk)) := by rw [ef596, va_up_ne _ _ (by omega)]; exact h588
                        have h604 : f596 (b + 8) = some (.inl (P.2.1 1, 48, .inl gi)) := by rw [ef596, va_up_ne _ _ (by omega)]; exact h589
                        have h605 : f596 (b + 9) = some (.inl (P.2.1 1, 48, .inl gz)) := by rw [ef596, va_up_ne _ _ (by omega)]; exact h590
                        have h606 : f596 (b + 10) = some (.inl (P.2.1 0, 393216, .inl gy)) := by rw [ef596, va_up_ne _ _ (by omega)]; exact h591
                        have h607 : f596 (b + 11) = some (.inl (P.2.1 2, 912, .inl ga)) := by rw [ef596, va_up_ne _ _ (by omega)]; exact h592
                        have h608 : f596 (b + 12) = some (.inl (P.2.1 1, 2048, .inl gd)) := by rw [ef596, va_up_ne _ _ (by omega)]; exact h593
                        have h609 : f596 b = some (.inr (7, [.ref (b + 1), .int (nI st.1.length), .ref (b + 2), .ref (b + 3), .ref (b + 4), .ref (b + 5), .ref (b + 6), .ref (b + 7), .ref (b + 8), .ref (b + 9), .ref (b + 10), .ref (b + 11), .int (nI L.length), .int (nI (fB st.2.2.2.2.2)), .int (nI (st.2.2.2.2.1 + 1)), .ref (b + 12), .int (nI 0)])) := by rw [ef596]; exact va_up_self _ _ _
                        have hF : gFr f f596 [b, b + 1, b + 2, b + 3, b + 4, b + 5, b + 6, b + 7, b + 8, b + 9, b + 10, b + 11, b + 12] := by rw [ef596]; exact gFr.upA (by simp) hF
                        have hb := h609
                        have h1 := h597
                        have h2 := h598
                        have h3 := h599
                        have h4 := h600
                        have h5 := h601
                        have h6 := h602
                        have h7 := h603
                        have h8 := h604
                        have h9 := h605
                        have h10 := h606
                        have h11 := h607
                        have h12 := h608
                        have hA : gMo P f596 b (aIn st) := ⟨gt, gn, gl, go, gu, gf, gk, gi, gz, gy, ga, gd, L, af, ⟨hb, h1, h2, h3, h4, h5, h6, h7, h8, h9, h10, h11, h12⟩, ⟨ht1, ht2⟩, ⟨hn0, hn1⟩, hd0, hmF, hFS⟩
                        refine lv_aload_n S.1 S.2.1 d_Mdl_run_113 rfl (lv_at hl 1 rfl) ?_
                        refine lv_iconst (v := nI 0) S.1 S.2.1 d_Mdl_run_114 (by decide) ?_
                        refine gc_Vi S hI (c_Mdl_find l P f596 (k := 0) (nm := st.2.1) (af := af) hb h2 h3 h4 h6 h7 hO hN hlL (by omega) hn0 hs) kv_Mdl_find wi_473 hb rfl rfl rfl hl.1 rfl (Nat.le_of_ble_eq_true rfl) ⟨Nat.le_of_ble_eq_true rfl, Nat.le_of_ble_eq_true rfl⟩ ⟨Nat.le_of_ble_eq_true rfl, Nat.le_of_ble_eq_true rfl⟩ d_Mdl_run_115 (fun r610 f611 H locs hp612 hI => ?_)
                        obtain ⟨hp1, hp2⟩ := hp612
                        rw [hp2] at hI
                        rw [hnF] at hp1
                        refine lv_istore (lv' := [(5, .int r610), (4, .int (nI st.2.2.2.2.1)), (0, .ref b), (1, .int (nI 1)), (2, .int (nI an)), (3, .int bb)]) S.1 S.2.1 d_Mdl_run_118 hl (by decide) rfl (fun ls hl => ?_)
                        refine lv_iload_n S.1 S.2.1 d_Mdl_run_120 rfl (lv_at hl 3 rfl) ?_
                        refine lv_tableIn (tgt := 201) S.1 S.2.1 d_Mdl_run_121 (by decide) (by decide) rfl (by decide) ?_
                        refine lv_aload_n S.1 S.2.1 d_Mdl_run_201 rfl (lv_at hl 2 rfl) ?_
                        refine lv_iload S.1 S.2.1 d_Mdl_run_202 (lv_at hl 1 rfl) ?_
                        refine lv_iload_n S.1 S.2.1 d_Mdl_run_204 rfl (lv_at hl 4 rfl) ?_
                        refine lv_iconst (v := nI 0) S.1 S.2.1 d_Mdl_run_205 (by decide) ?_
                        refine gc_Vi S hI (c_Mdl_write1 l P f596 hA hw hAn) kv_Mdl_write wi_485 hb rfl rfl rfl hl.1 rfl (Nat.le_of_ble_eq_true rfl) ⟨Nat.le_of_ble_eq_true rfl, Nat.le_of_ble_eq_true rfl⟩ ⟨Nat.le_of_ble_eq_true rfl, Nat.le_of_ble_eq_true rfl⟩ d_Mdl_run_206 (fun r613 f614 H locs hp615 hI => ?_)
                        obtain ⟨k1, k2, k3⟩ := hp615
                        rw [← eo] at k1 k2
                        exact gr_i S hr hlk hI (by rw [aRun_op hrf]; exact ⟨k1, k2, hF.call k3 (fun q hq => Or.inl hq)⟩) d_Mdl_run_209
                      · skip
                        replace c580 : 1 = 4 := (nI_eq (a := 1) (b := 4) (by omega) (by omega)).mp c580
                        exact absurd c580 (by omega)
                · skip
                  replace c577 : ¬ 1 = 1 := fun z => c577 ((nI_eq (a := 1) (b := 1) (by omega) (by omega)).mpr z)
                  exact absurd c577 (by omega)
              · skip
                replace c576 : 1 = 7 := (nI_eq (a := 1) (b := 7) (by omega) (by omega)).mp c576
                exact absurd c576 (by omega)
      · skip
        refine lv_iload_n S.1 S.2.1 d_Mdl_run_10 rfl (lv_at hl 1 rfl) ?_
        refine lv_bipush (v := nI 9) S.1 S.2.1 d_Mdl_run_11 (by decide) ?_
        refine lv_icmp_eq (tgt := 25) S.1 S.2.1 d_Mdl_run_13 (by decide) (fun c616 => ?_) (fun c616 => ?_)
        · skip
          replace c616 : 2 = 9 := (nI_eq (a := 2) (b := 9) (by omega) (by omega)).mp c616
          exact absurd c616 (by omega)
        · skip
          replace c616 : ¬ 2 = 9 := fun z => c616 ((nI_eq (a := 2) (b := 9) (by omega) (by omega)).mpr z)
          refine lv_aload_n S.1 S.2.1 d_Mdl_run_16 rfl (lv_at hl 0 rfl) ?_
          refine gh_get S hI hb rfl i_Mdl 3 (by decide) wi_438 rfl d_Mdl_run_17 ?_
          refine lv_iconst (v := nI 0) S.1 S.2.1 d_Mdl_run_20 (by decide) ?_
          refine gh_iald (j := 0) S hI 1 h3 rfl rfl (by omega) (by omega) d_Mdl_run_21 ?_
          refine lv_topi (fun v617 ev617 => ?_)
          replace ev617 : v617 = nI st.2.1.length := ev617.trans (hn0.1)
          subst ev617
          refine lv_if_eq (tgt := 46) S.1 S.2.1 d_Mdl_run_22 (by decide) (fun c618 => ?_) (fun c618 => ?_)
          · skip
            replace c618 : st.2.1.length = 0 := (nI_eq (a := st.2.1.length) (b := 0) (by omega) (by omega)).mp c618
            refine lv_iconst (v := (-1)) S.1 S.2.1 d_Mdl_run_46 (by decide) ?_
            exact gr_i S hr hlk hI (by rw [aRun_ref (Or.inr (Or.inl ⟨by decide, List.length_eq_zero_iff.mp c618⟩))]; exact ⟨rfl, h, gFr.rf⟩) d_Mdl_run_47
          · skip
            replace c618 : ¬ st.2.1.length = 0 := fun z => c618 ((nI_eq (a := st.2.1.length) (b := 0) (by omega) (by omega)).mpr z)
            refine lv_iload_n S.1 S.2.1 d_Mdl_run_25 rfl (lv_at hl 1 rfl) ?_
            refine lv_bipush (v := nI 6) S.1 S.2.1 d_Mdl_run_26 (by decide) ?_
            refine lv_icmp_eq (tgt := 37) S.1 S.2.1 d_Mdl_run_28 (by decide) (fun c619 => ?_) (fun c619 => ?_)
            · skip
              replace c619 : 2 = 6 := (nI_eq (a := 2) (b := 6) (by omega) (by omega)).mp c619
              exact absurd c619 (by omega)
            · skip
              replace c619 : ¬ 2 = 6 := fun z => c619 ((nI_eq (a := 2) (b := 6) (by omega) (by omega)).mpr z)
              refine lv_iload_n S.1 S.2.1 d_Mdl_run_31 rfl (lv_at hl 1 rfl) ?_
              refine lv_bipush (v := nI 7) S.1 S.2.1 d_Mdl_run_32 (by decide) ?_
              refine lv_icmp_ne (tgt := 48) S.1 S.2.1 d_Mdl_run_34 (by decide) (fun c620 => ?_) (fun c620 => ?_)
              · skip
                replace c620 : ¬ 2 = 7 := fun z => c620 ((nI_eq (a := 2) (b := 7) (by omega) (by omega)).mpr z)
                refine lv_iload_n S.1 S.2.1 d_Mdl_run_48 rfl (lv_at hl 1 rfl) ?_
                refine lv_iconst (v := nI 1) S.1 S.2.1 d_Mdl_run_49 (by decide) ?_
                refine lv_icmp_eq (tgt := 63) S.1 S.2.1 d_Mdl_run_50 (by decide) (fun c621 => ?_) (fun c621 => ?_)
                · skip
                  replace c621 : 2 = 1 := (nI_eq (a := 2) (b := 1) (by omega) (by omega)).mp c621
                  exact absurd c621 (by omega)
                · skip
                  replace c621 : ¬ 2 = 1 := fun z => c621 ((nI_eq (a := 2) (b := 1) (by omega) (by omega)).mpr z)
                  refine lv_iload_n S.1 S.2.1 d_Mdl_run_53 rfl (lv_at hl 1 rfl) ?_
                  refine lv_iconst (v := nI 3) S.1 S.2.1 d_Mdl_run_54 (by decide) ?_
                  refine lv_icmp_eq (tgt := 63) S.1 S.2.1 d_Mdl_run_55 (by decide) (fun c622 => ?_) (fun c622 => ?_)
                  · skip
                    replace c622 : 2 = 3 := (nI_eq (a := 2) (b := 3) (by omega) (by omega)).mp c622
                    exact absurd c622 (by omega)
                  · skip
                    replace c622 : ¬ 2 = 3 := fun z => c622 ((nI_eq (a := 2) (b := 3) (by omega) (by omega)).mpr z)
                    refine lv_iload_n S.1 S.2.1 d_Mdl_run_58 rfl (lv_at hl 1 rfl) ?_
                    refine lv_iconst (v := nI 4) S.1 S.2.1 d_Mdl_run_59 (by decide) ?_
                    refine lv_icmp_ne (tgt := 74) S.1 S.2.1 d_Mdl_run_60 (by decide) (fun c623 => ?_) (fun c623 => ?_)
                    · skip
                      replace c623 : ¬ 2 = 4 := fun z => c623 ((nI_eq (a := 2) (b := 4) (by omega) (by omega)).mpr z)
                      refine lv_iload_n S.1 S.2.1 d_Mdl_run_74 rfl (lv_at hl 1 rfl) ?_
                      refine lv_iconst (v := nI 4) S.1 S.2.1 d_Mdl_run_75 (by decide) ?_
                      refine lv_icmp_ne (tgt := 92) S.1 S.2.1 d_Mdl_run_76 (by decide) (fun c624 => ?_) (fun c624 => ?_)
                      · skip
                        replace c624 : ¬ 2 = 4 := fun z => c624 ((nI_eq (a := 2) (b := 4) (by omega) (by omega)).mpr z)
                        have hrf : ¬ aRef st (nI 2) aa bb := aRef_no (by decide) (fun _ z => c618 (by rw [z]; rfl)) (fun z => absurd z (by decide)) (fun z => absurd z (by decide)) (fun z => absurd z (by decide))
                        have eo : aOp st (nI 2) aa bb = oWrite st true 0 := by unfold aOp; rw [if_neg (show ¬ (nI 2 : Int32) = 0 by decide), if_neg (show ¬ (nI 2 : Int32) = 1 by decide), if_pos (show (nI 2 : Int32) = 2 by decide)]
                        have hF : gFr f f [b, b + 1, b + 2, b + 3, b + 4, b + 5, b + 6, b + 7, b + 8, b + 9, b + 10, b + 11, b + 12] := gFr.rf
                        refine lv_aload_n S.1 S.2.1 d_Mdl_run_92 rfl (lv_at hl 0 rfl) ?_
                        refine lv_iconst (v := nI 0) S.1 S.2.1 d_Mdl_run_93 (by decide) ?_
                        refine gh_put S hI hb rfl i_Mdl t_Mdl tk_Mdl n_Mdl 16 (by decide) wi_451 rfl rfl rfl (Nat.le_of_ble_eq_true rfl) d_Mdl_run_94 (fun H locs hI => ?_)
                        have hI : gB P (va_up f b (some (.inr (7, [.ref (b + 1), .int (nI st.1.length), .ref (b + 2), .ref (b + 3), .ref (b + 4), .ref (b + 5), .ref (b + 6), .ref (b + 7), .ref (b + 8), .ref (b + 9), .ref (b + 10), .ref (b + 11), .int (nI L.length), .int (nI (fB st.2.2.2.2.2)), .int (nI st.2.2.2.2.1), .ref (b + 12), .int (nI 0)])))) s H locs := hI
                        obtain ⟨f625, ef625⟩ : ∃ z, z = va_up f b (some (.inr (7, [.ref (b + 1), .int (nI st.1.length), .ref (b + 2), .ref (b + 3), .ref (b + 4), .ref (b + 5), .ref (b + 6), .ref (b + 7), .ref (b + 8), .ref (b + 9), .ref (b + 10), .ref (b + 11), .int (nI L.length), .int (nI (fB st.2.2.2.2.2)), .int (nI st.2.2.2.2.1), .ref (b + 12), .int (nI 0)]))) := ⟨_, rfl⟩
                        rw [← ef625] at hI
                        have h626 : f625 (b + 1) = some (.inl (P.2.1 0, 2048, .inl gt)) := by rw [ef625, va_up_ne _ _ (by omega)]; exact h1
                        have h627 : f625 (b + 2) = some (.inl (P.2.1 0, 400, .inl gn)) := by rw [ef625, va_up_ne _ _ (by omega)]; exact h2
                        have h628 : f625 (b + 3) = some (.inl (P.2.1 1, 2, .inl gl)) := by rw [ef625, va_up_ne _ _ (by omega)]; exact h3
                        have h629 : f625 (b + 4) = some (.inl (P.2.1 1, 48, .inl go)) := by rw [ef625, va_up_ne _ _ (by omega)]; exact h4
                        have h630 : f625 (b + 5) = some (.inl (P.2.1 2, 48, .inl gu)) := by rw [ef625, va_up_ne _ _ (by omega)]; exact h5
                        have h631 : f625 (b + 6) = some (.inl (P.2.1 0, 9600, .inl gf)) := by rw [ef625, va_up_ne _ _ (by omega)]; exact h6
                        have h632 : f625 (b + 7) = some (.inl (P.2.1 1, 48, .inl gk)) := by rw [ef625, va_up_ne _ _ (by omega)]; exact h7
                        have h633 : f625 (b + 8) = some (.inl (P.2.1 1, 48, .inl gi)) := by rw [ef625, va_up_ne _ _ (by omega)]; exact h8
                        have h634 : f625 (b + 9) = some (.inl (P.2.1 1, 48, .inl gz)) := by rw [ef625, va_up_ne _ _ (by omega)]; exact h9
                        have h635 : f625 (b + 10) = some (.inl (P.2.1 0, 393216, .inl gy)) := by rw [ef625, va_up_ne _ _ (by omega)]; exact h10
                        have h636 : f625 (b + 11) = some (.inl (P.2.1 2, 912, .inl ga)) := by rw [ef625, va_up_ne _ _ (by omega)]; exact h11
                        have h637 : f625 (b + 12) = some (.inl (P.2.1 1, 2048, .inl gd)) := by rw [ef625, va_up_ne _ _ (by omega)]; exact h12
                        have h638 : f625 b = some (.inr (7, [.ref (b + 1), .int (nI st.1.length), .ref (b + 2), .ref (b + 3), .ref (b + 4), .ref (b + 5), .ref (b + 6), .ref (b + 7), .ref (b + 8), .ref (b + 9), .ref (b + 10), .ref (b + 11), .int (nI L.length), .int (nI (fB st.2.2.2.2.2)), .int (nI st.2.2.2.2.1), .ref (b + 12), .int (nI 0)])) := by rw [ef625]; exact va_up_self _ _ _
                        have hF : gFr f f625 [b, b + 1, b + 2, b + 3, b + 4, b + 5, b + 6, b + 7, b + 8, b + 9, b + 10, b + 11, b + 12] := by rw [ef625]; exact gFr.upA (by simp) hF
                        refine lv_aload_n S.1 S.2.1 d_Mdl_run_97 rfl (lv_at hl 0 rfl) ?_
                        refine gh_get S hI h638 rfl i_Mdl 14 (by decide) wi_449 rfl d_Mdl_run_98 ?_
                        refine lv_istore (lv' := [(4, .int (nI st.2.2.2.2.1)), (0, .ref b), (1, .int (nI 2)), (2, .int aa), (3, .int bb)]) S.1 S.2.1 d_Mdl_run_101 hl (by decide) rfl (fun ls hl => ?_)
                        refine lv_aload_n S.1 S.2.1 d_Mdl_run_103 rfl (lv_at hl 1 rfl) ?_
                        refine lv_dup S.1 S.2.1 d_Mdl_run_104 rfl ?_
                        refine gh_get S hI h638 rfl i_Mdl 14 (by decide) wi_449 rfl d_Mdl_run_105 ?_
                        refine lv_iconst (v := nI 1) S.1 S.2.1 d_Mdl_run_108 (by decide) ?_
                        refine lv_iadd S.1 S.2.1 d_Mdl_run_109 ?_
                        refine lv_topi (fun v639 ev639 => ?_)
                        replace ev639 : v639 = nI (st.2.2.2.2.1 + 1) := ev639.trans (nI_add _ _)
                        subst ev639
                        refine gh_put S hI h638 rfl i_Mdl t_Mdl tk_Mdl n_Mdl 14 (by decide) wi_449 rfl rfl rfl (Nat.le_of_ble_eq_true rfl) d_Mdl_run_110 (fun H locs hI => ?_)
                        have hI : gB P (va_up f625 b (some (.inr (7, [.ref (b + 1), .int (nI st.1.length), .ref (b + 2), .ref (b + 3), .ref (b + 4), .ref (b + 5), .ref (b + 6), .ref (b + 7), .ref (b + 8), .ref (b + 9), .ref (b + 10), .ref (b + 11), .int (nI L.length), .int (nI (fB st.2.2.2.2.2)), .int (nI (st.2.2.2.2.1 + 1)), .ref (b + 12), .int (nI 0)])))) s H locs := hI
                        obtain ⟨f640, ef640⟩ : ∃ z, z = va_up f625 b (some (.inr (7, [.ref (b + 1), .int (nI st.1.length), .ref (b + 2), .ref (b + 3), .ref (b + 4), .ref (b + 5), .ref (b + 6), .ref (b + 7), .ref (b + 8), .ref (b + 9), .ref (b + 10), .ref (b + 11), .int (nI L.length), .int (nI (fB st.2.2.2.2.2)), .int (nI (st.2.2.2.2.1 + 1)), .ref (b + 12), .int (nI 0)]))) := ⟨_, rfl⟩
                        rw [← ef640] at hI
                        have h641 : f640 (b + 1) = some (.inl (P.2.1 0, 2048, .inl gt)) := by rw [ef640, va_up_ne _ _ (by omega)]; exact h626
                        have h642 : f640 (b + 2) = some (.inl (P.2.1 0, 400, .inl gn)) := by rw [ef640, va_up_ne _ _ (by omega)]; exact h627
                        have h643 : f640 (b + 3) = some (.inl (P.2.1 1, 2, .inl gl)) := by rw [ef640, va_up_ne _ _ (by omega)]; exact h628
                        have h644 : f640 (b + 4) = some (.inl (P.2.1 1, 48, .inl go)) := by rw [ef640, va_up_ne _ _ (by omega)]; exact h629
                        have h645 : f640 (b + 5) = some (.inl (P.2.1 2, 48, .inl gu)) := by rw [ef640, va_up_ne _ _ (by omega)]; exact h630
                        have h646 : f640 (b + 6) = some (.inl (P.2.1 0, 9600, .inl gf)) := by rw [ef640, va_up_ne _ _ (by omega)]; exact h631
                        have h647 : f640 (b + 7) = some (.inl (P.2.1 1, 48, .inl gk)) := by rw [ef640, va_up_ne _ _ (by omega)]; exact h632
                        have h648 : f640 (b + 8) = some (.inl (P.2.1 1, 48, .inl gi)) := by rw [ef640, va_up_ne _ _ (by omega)]; exact h633
                        have h649 : f640 (b + 9) = some (.inl (P.2.1 1, 48, .inl gz)) := by rw [ef640, va_up_ne _ _ (by omega)]; exact h634
                        have h650 : f640 (b + 10) = some (.inl (P.2.1 0, 393216, .inl gy)) := by rw [ef640, va_up_ne _ _ (by omega)]; exact h635
                        have h651 : f640 (b + 11) = some (.inl (P.2.1 2, 912, .inl ga)) := by rw [ef640, va_up_ne _ _ (by omega)]; exact h636
                        have h652 : f640 (b + 12) = some (.inl (P.2.1 1, 2048, .inl gd)) := by rw [ef640, va_up_ne _ _ (by omega)]; exact h637
                        have h653 : f640 b = some (.inr (7, [.ref (b + 1), .int (nI st.1.length), .ref (b + 2), .ref (b + 3), .ref (b + 4), .ref (b + 5), .ref (b + 6), .ref (b + 7), .ref (b + 8), .ref (b + 9), .ref (b + 10), .ref (b + 11), .int (nI L.length), .int (nI (fB st.2.2.2.2.2)), .int (nI (st.2.2.2.2.1 + 1)), .ref (b + 12), .int (nI 0)])) := by rw [ef640]; exact va_up_self _ _ _
                        have hF : gFr f f640 [b, b + 1, b + 2, b + 3, b + 4, b + 5, b + 6, b + 7, b + 8, b + 9, b + 10, b + 11, b + 12] := by rw [ef640]; exact gFr.upA (by simp) hF
                        have hb := h653
                        have h1 := h641
                        have h2 := h642
                        have h3 := h643
                        have h4 := h644
                        have h5 := h645
                        have h6 := h646
                        have h7 := h647
                        have h8 := h648
                        have h9 := h649
                        have h10 := h650
                        have h11 := h651
                        have h12 := h652
                        have hA : gMo P f640 b (aIn st) := ⟨gt, gn, gl, go, gu, gf, gk, gi, gz, gy, ga, gd, L, af, ⟨hb, h1, h2, h3, h4, h5, h6, h7, h8, h9, h10, h11, h12⟩, ⟨ht1, ht2⟩, ⟨hn0, hn1⟩, hd0, hmF, hFS⟩
                        refine lv_aload_n S.1 S.2.1 d_Mdl_run_113 rfl (lv_at hl 1 rfl) ?_
                        refine lv_iconst (v := nI 0) S.1 S.2.1 d_Mdl_run_114 (by decide) ?_
                        refine gc_Vi S hI (c_Mdl_find l P f640 (k := 0) (nm := st.2.1) (af := af) hb h2 h3 h4 h6 h7 hO hN hlL (by omega) hn0 hs) kv_Mdl_find wi_473 hb rfl rfl rfl hl.1 rfl (Nat.le_of_ble_eq_true rfl) ⟨Nat.le_of_ble_eq_true rfl, Nat.le_of_ble_eq_true rfl⟩ ⟨Nat.le_of_ble_eq_true rfl, Nat.le_of_ble_eq_true rfl⟩ d_Mdl_run_115 (fun r654 f655 H locs hp656 hI => ?_)
                        obtain ⟨hp1, hp2⟩ := hp656
                        rw [hp2] at hI
                        rw [hnF] at hp1
                        refine lv_istore (lv' := [(5, .int r654), (4, .int (nI st.2.2.2.2.1)), (0, .ref b), (1, .int (nI 2)), (2, .int aa), (3, .int bb)]) S.1 S.2.1 d_Mdl_run_118 hl (by decide) rfl (fun ls hl => ?_)
                        refine lv_iload_n S.1 S.2.1 d_Mdl_run_120 rfl (lv_at hl 3 rfl) ?_
                        refine lv_tableIn (tgt := 210) S.1 S.2.1 d_Mdl_run_121 (by decide) (by decide) rfl (by decide) ?_
                        refine lv_aload_n S.1 S.2.1 d_Mdl_run_210 rfl (lv_at hl 2 rfl) ?_
                        refine lv_iload S.1 S.2.1 d_Mdl_run_211 (lv_at hl 1 rfl) ?_
                        refine lv_iconst (v := nI 0) S.1 S.2.1 d_Mdl_run_213 (by decide) ?_
                        refine lv_iconst (v := nI 1) S.1 S.2.1 d_Mdl_run_214 (by decide) ?_
                        refine gc_Vi S hI (c_Mdl_write2 l P f640 hA hw) kv_Mdl_write wi_485 hb rfl rfl rfl hl.1 rfl (Nat.le_of_ble_eq_true rfl) ⟨Nat.le_of_ble_eq_true rfl, Nat.le_of_ble_eq_true rfl⟩ ⟨Nat.le_of_ble_eq_true rfl, Nat.le_of_ble_eq_true rfl⟩ d_Mdl_run_215 (fun r657 f658 H locs hp659 hI => ?_)
                        obtain ⟨k1, k2, k3⟩ := hp659
                        rw [← eo] at k1 k2
                        exact gr_i S hr hlk hI (by rw [aRun_op hrf]; exact ⟨k1, k2, hF.call k3 (fun q hq => Or.inl hq)⟩) d_Mdl_run_218
                      · skip
                        replace c624 : 2 = 4 := (nI_eq (a := 2) (b := 4) (by omega) (by omega)).mp c624
                        exact absurd c624 (by omega)
                    · skip
                      replace c623 : 2 = 4 := (nI_eq (a := 2) (b := 4) (by omega) (by omega)).mp c623
                      exact absurd c623 (by omega)
              · skip
                replace c620 : 2 = 7 := (nI_eq (a := 2) (b := 7) (by omega) (by omega)).mp c620
                exact absurd c620 (by omega)
      · skip
        refine lv_iload_n S.1 S.2.1 d_Mdl_run_10 rfl (lv_at hl 1 rfl) ?_
        refine lv_bipush (v := nI 9) S.1 S.2.1 d_Mdl_run_11 (by decide) ?_
        refine lv_icmp_eq (tgt := 25) S.1 S.2.1 d_Mdl_run_13 (by decide) (fun c660 => ?_) (fun c660 => ?_)
        · skip
          replace c660 : 3 = 9 := (nI_eq (a := 3) (b := 9) (by omega) (by omega)).mp c660
          exact absurd c660 (by omega)
        · skip
          replace c660 : ¬ 3 = 9 := fun z => c660 ((nI_eq (a := 3) (b := 9) (by omega) (by omega)).mpr z)
          refine lv_aload_n S.1 S.2.1 d_Mdl_run_16 rfl (lv_at hl 0 rfl) ?_
          refine gh_get S hI hb rfl i_Mdl 3 (by decide) wi_438 rfl d_Mdl_run_17 ?_
          refine lv_iconst (v := nI 0) S.1 S.2.1 d_Mdl_run_20 (by decide) ?_
          refine gh_iald (j := 0) S hI 1 h3 rfl rfl (by omega) (by omega) d_Mdl_run_21 ?_
          refine lv_topi (fun v661 ev661 => ?_)
          replace ev661 : v661 = nI st.2.1.length := ev661.trans (hn0.1)
          subst ev661
          refine lv_if_eq (tgt := 46) S.1 S.2.1 d_Mdl_run_22 (by decide) (fun c662 => ?_) (fun c662 => ?_)
          · skip
            replace c662 : st.2.1.length = 0 := (nI_eq (a := st.2.1.length) (b := 0) (by omega) (by omega)).mp c662
            refine lv_iconst (v := (-1)) S.1 S.2.1 d_Mdl_run_46 (by decide) ?_
            exact gr_i S hr hlk hI (by rw [aRun_ref (Or.inr (Or.inl ⟨by decide, List.length_eq_zero_iff.mp c662⟩))]; exact ⟨rfl, h, gFr.rf⟩) d_Mdl_run_47
          · skip
            replace c662 : ¬ st.2.1.length = 0 := fun z => c662 ((nI_eq (a := st.2.1.length) (b := 0) (by omega) (by omega)).mpr z)
            refine lv_iload_n S.1 S.2.1 d_Mdl_run_25 rfl (lv_at hl 1 rfl) ?_
            refine lv_bipush (v := nI 6) S.1 S.2.1 d_Mdl_run_26 (by decide) ?_
            refine lv_icmp_eq (tgt := 37) S.1 S.2.1 d_Mdl_run_28 (by decide) (fun c663 => ?_) (fun c663 => ?_)
            · skip
              replace c663 : 3 = 6 := (nI_eq (a := 3) (b := 6) (by omega) (by omega)).mp c663
              exact absurd c663 (by omega)
            · skip
              replace c663 : ¬ 3 = 6 := fun z => c663 ((nI_eq (a := 3) (b := 6) (by omega) (by omega)).mpr z)
              refine lv_iload_n S.1 S.2.1 d_Mdl_run_31 rfl (lv_at hl 1 rfl) ?_
              refine lv_bipush (v := nI 7) S.1 S.2.1 d_Mdl_run_32 (by decide) ?_
              refine lv_icmp_ne (tgt := 48) S.1 S.2.1 d_Mdl_run_34 (by decide) (fun c664 => ?_) (fun c664 => ?_)
              · skip
                replace c664 : ¬ 3 = 7 := fun z => c664 ((nI_eq (a := 3) (b := 7) (by omega) (by omega)).mpr z)
                refine lv_iload_n S.1 S.2.1 d_Mdl_run_48 rfl (lv_at hl 1 rfl) ?_
                refine lv_iconst (v := nI 1) S.1 S.2.1 d_Mdl_run_49 (by decide) ?_
                refine lv_icmp_eq (tgt := 63) S.1 S.2.1 d_Mdl_run_50 (by decide) (fun c665 => ?_) (fun c665 => ?_)
                · skip
                  replace c665 : 3 = 1 := (nI_eq (a := 3) (b := 1) (by omega) (by omega)).mp c665
                  exact absurd c665 (by omega)
                · skip
                  replace c665 : ¬ 3 = 1 := fun z => c665 ((nI_eq (a := 3) (b := 1) (by omega) (by omega)).mpr z)
                  refine lv_iload_n S.1 S.2.1 d_Mdl_run_53 rfl (lv_at hl 1 rfl) ?_
                  refine lv_iconst (v := nI 3) S.1 S.2.1 d_Mdl_run_54 (by decide) ?_
                  refine lv_icmp_eq (tgt := 63) S.1 S.2.1 d_Mdl_run_55 (by decide) (fun c666 => ?_) (fun c666 => ?_)
                  · skip
                    replace c666 : 3 = 3 := (nI_eq (a := 3) (b := 3) (by omega) (by omega)).mp c666
                    refine lv_iload_n S.1 S.2.1 d_Mdl_run_63 rfl (lv_at hl 2 rfl) ?_
                    refine lv_if_lt (tgt := 90) S.1 S.2.1 d_Mdl_run_64 (by decide) (fun c667 => ?_) (fun c667 => ?_)
                    · skip
                      refine lv_iconst (v := (-1)) S.1 S.2.1 d_Mdl_run_90 (by decide) ?_
                      exact gr_i S hr hlk hI (by rw [aRun_ref (Or.inr (Or.inr (Or.inr (Or.inl ⟨by decide, Or.inl c667⟩))))]; exact ⟨rfl, h, gFr.rf⟩) d_Mdl_run_91
                    · skip
                      obtain ⟨an, hA31, hA2⟩ := nI_of c667
                      subst hA2
                      refine lv_iload_n S.1 S.2.1 d_Mdl_run_67 rfl (lv_at hl 2 rfl) ?_
                      refine lv_sipush (v := nI 8192) S.1 S.2.1 d_Mdl_run_68 (by decide) ?_
                      refine lv_icmp_gt (tgt := 90) S.1 S.2.1 d_Mdl_run_71 (by decide) (fun c668 => ?_) (fun c668 => ?_)
                      · skip
                        replace c668 : 8192 < an := (nI_ltI (a := 8192) (b := an) (by omega) (by omega)).mp c668
                        refine lv_iconst (v := (-1)) S.1 S.2.1 d_Mdl_run_90 (by decide) ?_
                        exact gr_i S hr hlk hI (by rw [aRun_ref (Or.inr (Or.inr (Or.inr (Or.inl ⟨by decide, Or.inr (nI_lt (a := 8192) (by omega) hA31)⟩))))]; exact ⟨rfl, h, gFr.rf⟩) d_Mdl_run_91
                      · skip
                        replace c668 : ¬ 8192 < an := fun z => c668 ((nI_ltI (a := 8192) (b := an) (by omega) (by omega)).mpr z)
                        have hAn : an ≤ 8192 := by omega
                        refine lv_iload_n S.1 S.2.1 d_Mdl_run_74 rfl (lv_at hl 1 rfl) ?_
                        refine lv_iconst (v := nI 4) S.1 S.2.1 d_Mdl_run_75 (by decide) ?_
                        refine lv_icmp_ne (tgt := 92) S.1 S.2.1 d_Mdl_run_76 (by decide) (fun c669 => ?_) (fun c669 => ?_)
                        · skip
                          replace c669 : ¬ 3 = 4 := fun z => c669 ((nI_eq (a := 3) (b := 4) (by omega) (by omega)).mpr z)
                          have hrf : ¬ aRef st (nI 3) (nI an) bb := aRef_no (by decide) (fun _ z => c662 (by rw [z]; rfl)) (fun z => absurd z (by decide)) (fun _ z => z.elim c667 (fun q => absurd ((nI_ltI (a := 8192) (by omega) hA31).mp q) (by omega))) (fun z => absurd z (by decide))
                          have ea2 : (nI an).toNatClampNeg = an := nI_clamp hA31
                          have eo : aOp st (nI 3) (nI an) bb = oCut st an := by unfold aOp; rw [if_neg (show ¬ (nI 3 : Int32) = 0 by decide), if_neg (show ¬ (nI 3 : Int32) = 1 by decide), if_neg (show ¬ (nI 3 : Int32) = 2 by decide), if_pos (show (nI 3 : Int32) = 3 by decide), ea2]
                          have hF : gFr f f [b, b + 1, b + 2, b + 3, b + 4, b + 5, b + 6, b + 7, b + 8, b + 9, b + 10, b + 11, b + 12] := gFr.rf
                          refine lv_aload_n S.1 S.2.1 d_Mdl_run_92 rfl (lv_at hl 0 rfl) ?_
                          refine lv_iconst (v := nI 0) S.1 S.2.1 d_Mdl_run_93 (by decide) ?_
                          refine gh_put S hI hb rfl i_Mdl t_Mdl tk_Mdl n_Mdl 16 (by decide) wi_451 rfl rfl rfl (Nat.le_of_ble_eq_true rfl) d_Mdl_run_94 (fun H locs hI => ?_)
                          have hI : gB P (va_up f b (some (.inr (7, [.ref (b + 1), .int (nI st.1.length), .ref (b + 2), .ref (b + 3), .ref (b + 4), .ref (b + 5), .ref (b + 6), .ref (b + 7), .ref (b + 8), .ref (b + 9), .ref (b + 10), .ref (b + 11), .int (nI L.length), .int (nI (fB st.2.2.2.2.2)), .int (nI st.2.2.2.2.1), .ref (b + 12), .int (nI 0)])))) s H locs := hI
                          obtain ⟨f670, ef670⟩ : ∃ z, z = va_up f b (some (.inr (7, [.ref (b + 1), .int (nI st.1.length), .ref (b + 2), .ref (b + 3), .ref (b + 4), .ref (b + 5), .ref (b + 6), .ref (b + 7), .ref (b + 8), .ref (b + 9), .ref (b + 10), .ref (b + 11), .int (nI L.length), .int (nI (fB st.2.2.2.2.2)), .int (nI st.2.2.2.2.1), .ref (b + 12), .int (nI 0)]))) := ⟨_, rfl⟩
                          rw [← ef670] at hI
                          have h671 : f670 (b + 1) = some (.inl (P.2.1 0, 2048, .inl gt)) := by rw [ef670, va_up_ne _ _ (by omega)]; exact h1
                          have h672 : f670 (b + 2) = some (.inl (P.2.1 0, 400, .inl gn)) := by rw [ef670, va_up_ne _ _ (by omega)]; exact h2
                          have h673 : f670 (b + 3) = some (.inl (P.2.1 1, 2, .inl gl)) := by rw [ef670, va_up_ne _ _ (by omega)]; exact h3
                          have h674 : f670 (b + 4) = some (.inl (P.2.1 1, 48, .inl go)) := by rw [ef670, va_up_ne _ _ (by omega)]; exact h4
                          have h675 : f670 (b + 5) = some (.inl (P.2.1 2, 48, .inl gu)) := by rw [ef670, va_up_ne _ _ (by omega)]; exact h5
                          have h676 : f670 (b + 6) = some (.inl (P.2.1 0, 9600, .inl gf)) := by rw [ef670, va_up_ne _ _ (by omega)]; exact h6
                          have h677 : f670 (b + 7) = some (.inl (P.2.1 1, 48, .inl gk)) := by rw [ef670, va_up_ne _ _ (by omega)]; exact h7
                          have h678 : f670 (b + 8) = some (.inl (P.2.1 1, 48, .inl gi)) := by rw [ef670, va_up_ne _ _ (by omega)]; exact h8
                          have h679 : f670 (b + 9) = some (.inl (P.2.1 1, 48, .inl gz)) := by rw [ef670, va_up_ne _ _ (by omega)]; exact h9
                          have h680 : f670 (b + 10) = some (.inl (P.2.1 0, 393216, .inl gy)) := by rw [ef670, va_up_ne _ _ (by omega)]; exact h10
                          have h681 : f670 (b + 11) = some (.inl (P.2.1 2, 912, .inl ga)) := by rw [ef670, va_up_ne _ _ (by omega)]; exact h11
                          have h682 : f670 (b + 12) = some (.inl (P.2.1 1, 2048, .inl gd)) := by rw [ef670, va_up_ne _ _ (by omega)]; exact h12
                          have h683 : f670 b = some (.inr (7, [.ref (b + 1), .int (nI st.1.length), .ref (b + 2), .ref (b + 3), .ref (b + 4), .ref (b + 5), .ref (b + 6), .ref (b + 7), .ref (b + 8), .ref (b + 9), .ref (b + 10), .ref (b + 11), .int (nI L.length), .int (nI (fB st.2.2.2.2.2)), .int (nI st.2.2.2.2.1), .ref (b + 12), .int (nI 0)])) := by rw [ef670]; exact va_up_self _ _ _
                          have hF : gFr f f670 [b, b + 1, b + 2, b + 3, b + 4, b + 5, b + 6, b + 7, b + 8, b + 9, b + 10, b + 11, b + 12] := by rw [ef670]; exact gFr.upA (by simp) hF
                          refine lv_aload_n S.1 S.2.1 d_Mdl_run_97 rfl (lv_at hl 0 rfl) ?_
                          refine gh_get S hI h683 rfl i_Mdl 14 (by decide) wi_449 rfl d_Mdl_run_98 ?_
                          refine lv_istore (lv' := [(4, .int (nI st.2.2.2.2.1)), (0, .ref b), (1, .int (nI 3)), (2, .int (nI an)), (3, .int bb)]) S.1 S.2.1 d_Mdl_run_101 hl (by decide) rfl (fun ls hl => ?_)
                          refine lv_aload_n S.1 S.2.1 d_Mdl_run_103 rfl (lv_at hl 1 rfl) ?_
                          refine lv_dup S.1 S.2.1 d_Mdl_run_104 rfl ?_
                          refine gh_get S hI h683 rfl i_Mdl 14 (by decide) wi_449 rfl d_Mdl_run_105 ?_
                          refine lv_iconst (v := nI 1) S.1 S.2.1 d_Mdl_run_108 (by decide) ?_
                          refine lv_iadd S.1 S.2.1 d_Mdl_run_109 ?_
                          refine lv_topi (fun v684 ev684 => ?_)
                          replace ev684 : v684 = nI (st.2.2.2.2.1 + 1) := ev684.trans (nI_add _ _)
                          subst ev684
                          refine gh_put S hI h683 rfl i_Mdl t_Mdl tk_Mdl n_Mdl 14 (by decide) wi_449 rfl rfl rfl (Nat.le_of_ble_eq_true rfl) d_Mdl_run_110 (fun H locs hI => ?_)
                          have hI : gB P (va_up f670 b (some (.inr (7, [.ref (b + 1), .int (nI st.1.length), .ref (b + 2), .ref (b + 3), .ref (b + 4), .ref (b + 5), .ref (b + 6), .ref (b + 7), .ref (b + 8), .ref (b + 9), .ref (b + 10), .ref (b + 11), .int (nI L.length), .int (nI (fB st.2.2.2.2.2)), .int (nI (st.2.2.2.2.1 + 1)), .ref (b + 12), .int (nI 0)])))) s H locs := hI
                          obtain ⟨f685, ef685⟩ : ∃ z, z = va_up f670 b (some (.inr (7, [.ref (b + 1), .int (nI st.1.length), .ref (b + 2), .ref (b + 3), .ref (b + 4), .ref (b + 5), .ref (b + 6), .ref (b + 7), .ref (b + 8), .ref (b + 9), .ref (b + 10), .ref (b + 11), .int (nI L.length), .int (nI (fB st.2.2.2.2.2)), .int (nI (st.2.2.2.2.1 + 1)), .ref (b + 12), .int (nI 0)]))) := ⟨_, rfl⟩
                          rw [← ef685] at hI
                          have h686 : f685 (b + 1) = some (.inl (P.2.1 0, 2048, .inl gt)) := by rw [ef685, va_up_ne _ _ (by omega)]; exact h671
                          have h687 : f685 (b + 2) = some (.inl (P.2.1 0, 400, .inl gn)) := by rw [ef685, va_up_ne _ _ (by omega)]; exact h672
                          have h688 : f685 (b + 3) = some (.inl (P.2.1 1, 2, .inl gl)) := by rw [ef685, va_up_ne _ _ (by omega)]; exact h673
                          have h689 : f685 (b + 4) = some (.inl (P.2.1 1, 48, .inl go)) := by rw [ef685, va_up_ne _ _ (by omega)]; exact h674
                          have h690 : f685 (b + 5) = some (.inl (P.2.1 2, 48, .inl gu)) := by rw [ef685, va_up_ne _ _ (by omega)]; exact h675
                          have h691 : f685 (b + 6) = some (.inl (P.2.1 0, 9600, .inl gf)) := by rw [ef685, va_up_ne _ _ (by omega)]; exact h676
                          have h692 : f685 (b + 7) = some (.inl (P.2.1 1, 48, .inl gk)) := by rw [ef685, va_up_ne _ _ (by omega)]; exact h677
                          have h693 : f685 (b + 8) = some (.inl (P.2.1 1, 48, .inl gi)) := by rw [ef685, va_up_ne _ _ (by omega)]; exact h678
                          have h694 : f685 (b + 9) = some (.inl (P.2.1 1, 48, .inl gz)) := by rw [ef685, va_up_ne _ _ (by omega)]; exact h679
                          have h695 : f685 (b + 10) = some (.inl (P.2.1 0, 393216, .inl gy)) := by rw [ef685, va_up_ne _ _ (by omega)]; exact h680
                          have h696 : f685 (b + 11) = some (.inl (P.2.1 2, 912, .inl ga)) := by rw [ef685, va_up_ne _ _ (by omega)]; exact h681
                          have h697 : f685 (b + 12) = some (.inl (P.2.1 1, 2048, .inl gd)) := by rw [ef685, va_up_ne _ _ (by omega)]; exact h682
                          have h698 : f685 b = some (.inr (7, [.ref (b + 1), .int (nI st.1.length), .ref (b + 2), .ref (b + 3), .ref (b + 4), .ref (b + 5), .ref (b + 6), .ref (b + 7), .ref (b + 8), .ref (b + 9), .ref (b + 10), .ref (b + 11), .int (nI L.length), .int (nI (fB st.2.2.2.2.2)), .int (nI (st.2.2.2.2.1 + 1)), .ref (b + 12), .int (nI 0)])) := by rw [ef685]; exact va_up_self _ _ _
                          have hF : gFr f f685 [b, b + 1, b + 2, b + 3, b + 4, b + 5, b + 6, b + 7, b + 8, b + 9, b + 10, b + 11, b + 12] := by rw [ef685]; exact gFr.upA (by simp) hF
                          have hb := h698
                          have h1 := h686
                          have h2 := h687
                          have h3 := h688
                          have h4 := h689
                          have h5 := h690
                          have h6 := h691
                          have h7 := h692
                          have h8 := h693
                          have h9 := h694
                          have h10 := h695
                          have h11 := h696
                          have h12 := h697
                          have hA : gMo P f685 b (aIn st) := ⟨gt, gn, gl, go, gu, gf, gk, gi, gz, gy, ga, gd, L, af, ⟨hb, h1, h2, h3, h4, h5, h6, h7, h8, h9, h10, h11, h12⟩, ⟨ht1, ht2⟩, ⟨hn0, hn1⟩, hd0, hmF, hFS⟩
                          refine lv_aload_n S.1 S.2.1 d_Mdl_run_113 rfl (lv_at hl 1 rfl) ?_
                          refine lv_iconst (v := nI 0) S.1 S.2.1 d_Mdl_run_114 (by decide) ?_
                          refine gc_Vi S hI (c_Mdl_find l P f685 (k := 0) (nm := st.2.1) (af := af) hb h2 h3 h4 h6 h7 hO hN hlL (by omega) hn0 hs) kv_Mdl_find wi_473 hb rfl rfl rfl hl.1 rfl (Nat.le_of_ble_eq_true rfl) ⟨Nat.le_of_ble_eq_true rfl, Nat.le_of_ble_eq_true rfl⟩ ⟨Nat.le_of_ble_eq_true rfl, Nat.le_of_ble_eq_true rfl⟩ d_Mdl_run_115 (fun r699 f700 H locs hp701 hI => ?_)
                          obtain ⟨hp1, hp2⟩ := hp701
                          rw [hp2] at hI
                          rw [hnF] at hp1
                          refine lv_istore (lv' := [(5, .int r699), (4, .int (nI st.2.2.2.2.1)), (0, .ref b), (1, .int (nI 3)), (2, .int (nI an)), (3, .int bb)]) S.1 S.2.1 d_Mdl_run_118 hl (by decide) rfl (fun ls hl => ?_)
                          refine lv_iload_n S.1 S.2.1 d_Mdl_run_120 rfl (lv_at hl 3 rfl) ?_
                          refine lv_tableIn (tgt := 219) S.1 S.2.1 d_Mdl_run_121 (by decide) (by decide) rfl (by decide) ?_
                          refine lv_aload_n S.1 S.2.1 d_Mdl_run_219 rfl (lv_at hl 2 rfl) ?_
                          refine lv_iload_n S.1 S.2.1 d_Mdl_run_220 rfl (lv_at hl 4 rfl) ?_
                          refine gc_Vi S hI (c_Mdl_cut l P f685 hA hw hAn) kv_Mdl_cut wi_492 hb rfl rfl rfl hl.1 rfl (Nat.le_of_ble_eq_true rfl) ⟨Nat.le_of_ble_eq_true rfl, Nat.le_of_ble_eq_true rfl⟩ ⟨Nat.le_of_ble_eq_true rfl, Nat.le_of_ble_eq_true rfl⟩ d_Mdl_run_221 (fun r702 f703 H locs hp704 hI => ?_)
                          obtain ⟨k1, k2, k3⟩ := hp704
                          rw [← eo] at k1 k2
                          exact gr_i S hr hlk hI (by rw [aRun_op hrf]; exact ⟨k1, k2, hF.call k3 (fun q hq => Or.inl hq)⟩) d_Mdl_run_224
                        · skip
                          replace c669 : 3 = 4 := (nI_eq (a := 3) (b := 4) (by omega) (by omega)).mp c669
                          exact absurd c669 (by omega)
                  · skip
                    replace c666 : ¬ 3 = 3 := fun z => c666 ((nI_eq (a := 3) (b := 3) (by omega) (by omega)).mpr z)
                    exact absurd c666 (by omega)
              · skip
                replace c664 : 3 = 7 := (nI_eq (a := 3) (b := 7) (by omega) (by omega)).mp c664
                exact absurd c664 (by omega)
      · skip
        refine lv_iload_n S.1 S.2.1 d_Mdl_run_10 rfl (lv_at hl 1 rfl) ?_
        refine lv_bipush (v := nI 9) S.1 S.2.1 d_Mdl_run_11 (by decide) ?_
        refine lv_icmp_eq (tgt := 25) S.1 S.2.1 d_Mdl_run_13 (by decide) (fun c705 => ?_) (fun c705 => ?_)
        · skip
          replace c705 : 4 = 9 := (nI_eq (a := 4) (b := 9) (by omega) (by omega)).mp c705
          exact absurd c705 (by omega)
        · skip
          replace c705 : ¬ 4 = 9 := fun z => c705 ((nI_eq (a := 4) (b := 9) (by omega) (by omega)).mpr z)
          refine lv_aload_n S.1 S.2.1 d_Mdl_run_16 rfl (lv_at hl 0 rfl) ?_
          refine gh_get S hI hb rfl i_Mdl 3 (by decide) wi_438 rfl d_Mdl_run_17 ?_
          refine lv_iconst (v := nI 0) S.1 S.2.1 d_Mdl_run_20 (by decide) ?_
          refine gh_iald (j := 0) S hI 1 h3 rfl rfl (by omega) (by omega) d_Mdl_run_21 ?_
          refine lv_topi (fun v706 ev706 => ?_)
          replace ev706 : v706 = nI st.2.1.length := ev706.trans (hn0.1)
          subst ev706
          refine lv_if_eq (tgt := 46) S.1 S.2.1 d_Mdl_run_22 (by decide) (fun c707 => ?_) (fun c707 => ?_)
          · skip
            replace c707 : st.2.1.length = 0 := (nI_eq (a := st.2.1.length) (b := 0) (by omega) (by omega)).mp c707
            refine lv_iconst (v := (-1)) S.1 S.2.1 d_Mdl_run_46 (by decide) ?_
            exact gr_i S hr hlk hI (by rw [aRun_ref (Or.inr (Or.inl ⟨by decide, List.length_eq_zero_iff.mp c707⟩))]; exact ⟨rfl, h, gFr.rf⟩) d_Mdl_run_47
          · skip
            replace c707 : ¬ st.2.1.length = 0 := fun z => c707 ((nI_eq (a := st.2.1.length) (b := 0) (by omega) (by omega)).mpr z)
            refine lv_iload_n S.1 S.2.1 d_Mdl_run_25 rfl (lv_at hl 1 rfl) ?_
            refine lv_bipush (v := nI 6) S.1 S.2.1 d_Mdl_run_26 (by decide) ?_
            refine lv_icmp_eq (tgt := 37) S.1 S.2.1 d_Mdl_run_28 (by decide) (fun c708 => ?_) (fun c708 => ?_)
            · skip
              replace c708 : 4 = 6 := (nI_eq (a := 4) (b := 6) (by omega) (by omega)).mp c708
              exact absurd c708 (by omega)
            · skip
              replace c708 : ¬ 4 = 6 := fun z => c708 ((nI_eq (a := 4) (b := 6) (by omega) (by omega)).mpr z)
              refine lv_iload_n S.1 S.2.1 d_Mdl_run_31 rfl (lv_at hl 1 rfl) ?_
              refine lv_bipush (v := nI 7) S.1 S.2.1 d_Mdl_run_32 (by decide) ?_
              refine lv_icmp_ne (tgt := 48) S.1 S.2.1 d_Mdl_run_34 (by decide) (fun c709 => ?_) (fun c709 => ?_)
              · skip
                replace c709 : ¬ 4 = 7 := fun z => c709 ((nI_eq (a := 4) (b := 7) (by omega) (by omega)).mpr z)
                refine lv_iload_n S.1 S.2.1 d_Mdl_run_48 rfl (lv_at hl 1 rfl) ?_
                refine lv_iconst (v := nI 1) S.1 S.2.1 d_Mdl_run_49 (by decide) ?_
                refine lv_icmp_eq (tgt := 63) S.1 S.2.1 d_Mdl_run_50 (by decide) (fun c710 => ?_) (fun c710 => ?_)
                · skip
                  replace c710 : 4 = 1 := (nI_eq (a := 4) (b := 1) (by omega) (by omega)).mp c710
                  exact absurd c710 (by omega)
                · skip
                  replace c710 : ¬ 4 = 1 := fun z => c710 ((nI_eq (a := 4) (b := 1) (by omega) (by omega)).mpr z)
                  refine lv_iload_n S.1 S.2.1 d_Mdl_run_53 rfl (lv_at hl 1 rfl) ?_
                  refine lv_iconst (v := nI 3) S.1 S.2.1 d_Mdl_run_54 (by decide) ?_
                  refine lv_icmp_eq (tgt := 63) S.1 S.2.1 d_Mdl_run_55 (by decide) (fun c711 => ?_) (fun c711 => ?_)
                  · skip
                    replace c711 : 4 = 3 := (nI_eq (a := 4) (b := 3) (by omega) (by omega)).mp c711
                    exact absurd c711 (by omega)
                  · skip
                    replace c711 : ¬ 4 = 3 := fun z => c711 ((nI_eq (a := 4) (b := 3) (by omega) (by omega)).mpr z)
                    refine lv_iload_n S.1 S.2.1 d_Mdl_run_58 rfl (lv_at hl 1 rfl) ?_
                    refine lv_iconst (v := nI 4) S.1 S.2.1 d_Mdl_run_59 (by decide) ?_
                    refine lv_icmp_ne (tgt := 74) S.1 S.2.1 d_Mdl_run_60 (by decide) (fun c712 => ?_) (fun c712 => ?_)
                    · skip
                      replace c712 : ¬ 4 = 4 := fun z => c712 ((nI_eq (a := 4) (b := 4) (by omega) (by omega)).mpr z)
                      exact absurd c712 (by omega)
                    · skip
                      replace c712 : 4 = 4 := (nI_eq (a := 4) (b := 4) (by omega) (by omega)).mp c712
                      refine lv_iload_n S.1 S.2.1 d_Mdl_run_63 rfl (lv_at hl 2 rfl) ?_
                      refine lv_if_lt (tgt := 90) S.1 S.2.1 d_Mdl_run_64 (by decide) (fun c713 => ?_) (fun c713 => ?_)
                      · skip
                        refine lv_iconst (v := (-1)) S.1 S.2.1 d_Mdl_run_90 (by decide) ?_
                        exact gr_i S hr hlk hI (by rw [aRun_ref (Or.inr (Or.inr (Or.inr (Or.inl ⟨by decide, Or.inl c713⟩))))]; exact ⟨rfl, h, gFr.rf⟩) d_Mdl_run_91
                      · skip
                        obtain ⟨an, hA31, hA2⟩ := nI_of c713
                        subst hA2
                        refine lv_iload_n S.1 S.2.1 d_Mdl_run_67 rfl (lv_at hl 2 rfl) ?_
                        refine lv_sipush (v := nI 8192) S.1 S.2.1 d_Mdl_run_68 (by decide) ?_
                        refine lv_icmp_gt (tgt := 90) S.1 S.2.1 d_Mdl_run_71 (by decide) (fun c714 => ?_) (fun c714 => ?_)
                        · skip
                          replace c714 : 8192 < an := (nI_ltI (a := 8192) (b := an) (by omega) (by omega)).mp c714
                          refine lv_iconst (v := (-1)) S.1 S.2.1 d_Mdl_run_90 (by decide) ?_
                          exact gr_i S hr hlk hI (by rw [aRun_ref (Or.inr (Or.inr (Or.inr (Or.inl ⟨by decide, Or.inr (nI_lt (a := 8192) (by omega) hA31)⟩))))]; exact ⟨rfl, h, gFr.rf⟩) d_Mdl_run_91
                        · skip
                          replace c714 : ¬ 8192 < an := fun z => c714 ((nI_ltI (a := 8192) (b := an) (by omega) (by omega)).mpr z)
                          have hAn : an ≤ 8192 := by omega
                          refine lv_iload_n S.1 S.2.1 d_Mdl_run_74 rfl (lv_at hl 1 rfl) ?_
                          refine lv_iconst (v := nI 4) S.1 S.2.1 d_Mdl_run_75 (by decide) ?_
                          refine lv_icmp_ne (tgt := 92) S.1 S.2.1 d_Mdl_run_76 (by decide) (fun c715 => ?_) (fun c715 => ?_)
                          · skip
                            replace c715 : ¬ 4 = 4 := fun z => c715 ((nI_eq (a := 4) (b := 4) (by omega) (by omega)).mpr z)
                            exact absurd c715 (by omega)
                          · skip
                            replace c715 : 4 = 4 := (nI_eq (a := 4) (b := 4) (by omega) (by omega)).mp c715
                            refine lv_iload_n S.1 S.2.1 d_Mdl_run_79 rfl (lv_at hl 3 rfl) ?_
                            refine lv_if_lt (tgt := 90) S.1 S.2.1 d_Mdl_run_80 (by decide) (fun c716 => ?_) (fun c716 => ?_)
                            · skip
                              refine lv_iconst (v := (-1)) S.1 S.2.1 d_Mdl_run_90 (by decide) ?_
                              exact gr_i S hr hlk hI (by rw [aRun_ref (Or.inr (Or.inr (Or.inr (Or.inr ⟨(rfl : nI 4 = 4), Or.inl c716⟩))))]; exact ⟨rfl, h, gFr.rf⟩) d_Mdl_run_91
                            · skip
                              obtain ⟨bn, hB31, hB2⟩ := nI_of c716
                              subst hB2
                              refine lv_iload_n S.1 S.2.1 d_Mdl_run_83 rfl (lv_at hl 3 rfl) ?_
                              refine lv_sipush (v := nI 2048) S.1 S.2.1 d_Mdl_run_84 (by decide) ?_
                              refine lv_icmp_le (tgt := 92) S.1 S.2.1 d_Mdl_run_87 (by decide) (fun c717 => ?_) (fun c717 => ?_)
                              · skip
                                replace c717 : bn ≤ 2048 := (nI_leI (a := bn) (b := 2048) (by omega) (by omega)).mp c717
                                have hBn : bn ≤ 2048 := by omega
                                have hrf : ¬ aRef st (nI 4) (nI an) (nI bn) := aRef_no (by decide) (fun _ z => c707 (by rw [z]; rfl)) (fun z => absurd z (by decide)) (fun _ z => z.elim c713 (fun q => absurd ((nI_ltI (a := 8192) (by omega) hA31).mp q) (by omega))) (fun _ z => z.elim c716 (fun q => absurd ((nI_ltI (a := 2048) (by omega) hB31).mp q) (by omega)))
                                have ea2 : (nI an).toNatClampNeg = an := nI_clamp hA31
                                have eb2 : (nI bn).toNatClampNeg = bn := nI_clamp hB31
                                have eo : aOp st (nI 4) (nI an) (nI bn) = oRead st an bn := by unfold aOp; rw [if_neg (show ¬ (nI 4 : Int32) = 0 by decide), if_neg (show ¬ (nI 4 : Int32) = 1 by decide), if_neg (show ¬ (nI 4 : Int32) = 2 by decide), if_neg (show ¬ (nI 4 : Int32) = 3 by decide), if_pos (show (nI 4 : Int32) = 4 by decide), ea2, eb2]
                                have hF : gFr f f [b, b + 1, b + 2, b + 3, b + 4, b + 5, b + 6, b + 7, b + 8, b + 9, b + 10, b + 11, b + 12] := gFr.rf
                                refine lv_aload_n S.1 S.2.1 d_Mdl_run_92 rfl (lv_at hl 0 rfl) ?_
                                refine lv_iconst (v := nI 0) S.1 S.2.1 d_Mdl_run_93 (by decide) ?_
                                refine gh_put S hI hb rfl i_Mdl t_Mdl tk_Mdl n_Mdl 16 (by decide) wi_451 rfl rfl rfl (Nat.le_of_ble_eq_true rfl) d_Mdl_run_94 (fun H locs hI => ?_)
                                have hI : gB P (va_up f b (some (.inr (7, [.ref (b + 1), .int (nI st.1.length), .ref (b + 2), .ref (b + 3), .ref (b + 4), .ref (b + 5), .ref (b + 6), .ref (b + 7), .ref (b + 8), .ref (b + 9), .ref (b + 10), .ref (b + 11), .int (nI L.length), .int (nI (fB st.2.2.2.2.2)), .int (nI st.2.2.2.2.1), .ref (b + 12), .int (nI 0)])))) s H locs := hI
                                obtain ⟨f718, ef718⟩ : ∃ z, z = va_up f b (some (.inr (7, [.ref (b + 1), .int (nI st.1.length), .ref (b + 2), .ref (b + 3), .ref (b + 4), .ref (b + 5), .ref (b + 6), .ref (b + 7), .ref (b + 8), .ref (b + 9), .ref (b + 10), .ref (b + 11), .int (nI L.length), .int (nI (fB st.2.2.2.2.2)), .int (nI st.2.2.2.2.1), .ref (b + 12), .int (nI 0)]))) := ⟨_, rfl⟩
                                rw [← ef718] at hI
                                have h719 : f718 (b + 1) = some (.inl (P.2.1 0, 2048, .inl gt)) := by rw [ef718, va_up_ne _ _ (by omega)]; exact h1
                                have h720 : f718 (b + 2) = some (.inl (P.2.1 0, 400, .inl gn)) := by rw [ef718, va_up_ne _ _ (by omega)]; exact h2
                                have h721 : f718 (b + 3) = some (.inl (P.2.1 1, 2, .inl gl)) := by rw [ef718, va_up_ne _ _ (by omega)]; exact h3
                                have h722 : f718 (b + 4) = some (.inl (P.2.1 1, 48, .inl go)) := by rw [ef718, va_up_ne _ _ (by omega)]; exact h4
                                have h723 : f718 (b + 5) = some (.inl (P.2.1 2, 48, .inl gu)) := by rw [ef718, va_up_ne _ _ (by omega)]; exact h5
                                have h724 : f718 (b + 6) = some (.inl (P.2.1 0, 9600, .inl gf)) := by rw [ef718, va_up_ne _ _ (by omega)]; exact h6
                                have h725 : f718 (b + 7) = some (.inl (P.2.1 1, 48, .inl gk)) := by rw [ef718, va_up_ne _ _ (by omega)]; exact h7
                                have h726 : f718 (b + 8) = some (.inl (P.2.1 1, 48, .inl gi)) := by rw [ef718, va_up_ne _ _ (by omega)]; exact h8
                                have h727 : f718 (b + 9) = some (.inl (P.2.1 1, 48, .inl gz)) := by rw [ef718, va_up_ne _ _ (by omega)]; exact h9
                                have h728 : f718 (b + 10) = some (.inl (P.2.1 0, 393216, .inl gy)) := by rw [ef718, va_up_ne _ _ (by omega)]; exact h10
                                have h729 : f718 (b + 11) = some (.inl (P.2.1 2, 912, .inl ga)) := by rw [ef718, va_up_ne _ _ (by omega)]; exact h11
                                have h730 : f718 (b + 12) = some (.inl (P.2.1 1, 2048, .inl gd)) := by rw [ef718, va_up_ne _ _ (by omega)]; exact h12
                                have h731 : f718 b = some (.inr (7, [.ref (b + 1), .int (nI st.1.length), .ref (b + 2), .ref (b + 3), .ref (b + 4), .ref (b + 5), .ref (b + 6), .ref (b + 7), .ref (b + 8), .ref (b + 9), .ref (b + 10), .ref (b + 11), .int (nI L.length), .int (nI (fB st.2.2.2.2.2)), .int (nI st.2.2.2.2.1), .ref (b + 12), .int (nI 0)])) := by rw [ef718]; exact va_up_self _ _ _
                                have hF : gFr f f718 [b, b + 1, b + 2, b + 3, b + 4, b + 5, b + 6, b + 7, b + 8, b + 9, b + 10, b + 11, b + 12] := by rw [ef718]; exact gFr.upA (by simp) hF
                                refine lv_aload_n S.1 S.2.1 d_Mdl_run_97 rfl (lv_at hl 0 rfl) ?_
                                refine gh_get S hI h731 rfl i_Mdl 14 (by decide) wi_449 rfl d_Mdl_run_98 ?_
                                refine lv_istore (lv' := [(4, .int (nI st.2.2.2.2.1)), (0, .ref b), (1, .int (nI 4)), (2, .int (nI an)), (3, .int (nI bn))]) S.1 S.2.1 d_Mdl_run_101 hl (by decide) rfl (fun ls hl => ?_)
                                refine lv_aload_n S.1 S.2.1 d_Mdl_run_103 rfl (lv_at hl 1 rfl) ?_
                                refine lv_dup S.1 S.2.1 d_Mdl_run_104 rfl ?_
                                refine gh_get S hI h731 rfl i_Mdl 14 (by decide) wi_449 rfl d_Mdl_run_105 ?_
                                refine lv_iconst (v := nI 1) S.1 S.2.1 d_Mdl_run_108 (by decide) ?_
                                refine lv_iadd S.1 S.2.1 d_Mdl_run_109 ?_
                                refine lv_topi (fun v732 ev732 => ?_)
                                replace ev732 : v732 = nI (st.2.2.2.2.1 + 1) := ev732.trans (nI_add _ _)
                                subst ev732
                                refine gh_put S hI h731 rfl i_Mdl t_Mdl tk_Mdl n_Mdl 14 (by decide) wi_449 rfl rfl rfl (Nat.le_of_ble_eq_true rfl) d_Mdl_run_110 (fun H locs hI => ?_)
                                have hI : gB P (va_up f718 b (some (.inr (7, [.ref (b + 1), .int (nI st.1.length), .ref (b + 2), .ref (b + 3), .ref (b + 4), .ref (b + 5), .ref (b + 6), .ref (b + 7), .ref (b + 8), .ref (b + 9), .ref (b + 10), .ref (b + 11), .int (nI L.length), .int (nI (fB st.2.2.2.2.2)), .int (nI (st.2.2.2.2.1 + 1)), .ref (b + 12), .int (nI 0)])))) s H locs := hI
                                obtain ⟨f733, ef733⟩ : ∃ z, z = va_up f718 b (some (.inr (7, [.ref (b + 1), .int (nI st.1.length), .ref (b + 2), .ref (b + 3), .ref (b + 4), .ref (b + 5), .ref (b + 6), .ref (b + 7), .ref (b + 8), .ref (b + 9), .ref (b + 10), .ref (b + 11), .int (nI L.length), .int (nI (fB st.2.2.2.2.2)), .int (nI (st.2.2.2.2.1 + 1)), .ref (b + 12), .int (nI 0)]))) := ⟨_, rfl⟩
                                rw [← ef733] at hI
                                have h734 : f733 (b + 1) = some (.inl (P.2.1 0, 2048, .inl gt)) := by rw [ef733, va_up_ne _ _ (by omega)]; exact h719
                                have h735 : f733 (b + 2) = some (.inl (P.2.1 0, 400, .inl gn)) := by rw [ef733, va_up_ne _ _ (by omega)]; exact h720
                                have h736 : f733 (b + 3) = some (.inl (P.2.1 1, 2, .inl gl)) := by rw [ef733, va_up_ne _ _ (by omega)]; exact h721
                                have h737 : f733 (b + 4) = some (.inl (P.2.1 1, 48, .inl go)) := by rw [ef733, va_up_ne _ _ (by omega)]; exact h722
                                have h738 : f733 (b + 5) = some (.inl (P.2.1 2, 48, .inl gu)) := by rw [ef733, va_up_ne _ _ (by omega)]; exact h723
                                have h739 : f733 (b + 6) = some (.inl (P.2.1 0, 9600, .inl gf)) := by rw [ef733, va_up_ne _ _ (by omega)]; exact h724
                                have h740 : f733 (b + 7) = some (.inl (P.2.1 1, 48, .inl gk)) := by rw [ef733, va_up_ne _ _ (by omega)]; exact h725
                                have h741 : f733 (b + 8) = some (.inl (P.2.1 1, 48, .inl gi)) := by rw [ef733, va_up_ne _ _ (by omega)]; exact h726
                                have h742 : f733 (b + 9) = some (.inl (P.2.1 1, 48, .inl gz)) := by rw [ef733, va_up_ne _ _ (by omega)]; exact h727
                                have h743 : f733 (b + 10) = some (.inl (P.2.1 0, 393216, .inl gy)) := by rw [ef733, va_up_ne _ _ (by omega)]; exact h728
                                have h744 : f733 (b + 11) = some (.inl (P.2.1 2, 912, .inl ga)) := by rw [ef733, va_up_ne _ _ (by omega)]; exact h729
                                have h745 : f733 (b + 12) = some (.inl (P.2.1 1, 2048, .inl gd)) := by rw [ef733, va_up_ne _ _ (by omega)]; exact h730
                                have h746 : f733 b = some (.inr (7, [.ref (b + 1), .int (nI st.1.length), .ref (b + 2), .ref (b + 3), .ref (b + 4), .ref (b + 5), .ref (b + 6), .ref (b + 7), .ref (b + 8), .ref (b + 9), .ref (b + 10), .ref (b + 11), .int (nI L.length), .int (nI (fB st.2.2.2.2.2)), .int (nI (st.2.2.2.2.1 + 1)), .ref (b + 12), .int (nI 0)])) := by rw [ef733]; exact va_up_self _ _ _
                                have hF : gFr f f733 [b, b + 1, b + 2, b + 3, b + 4, b + 5, b + 6, b + 7, b + 8, b + 9, b + 10, b + 11, b + 12] := by rw [ef733]; exact gFr.upA (by simp) hF
                                have hb := h746
                                have h1 := h734
                                have h2 := h735
                                have h3 := h736
                                have h4 := h737
                                have h5 := h738
                                have h6 := h739
                                have h7 := h740
                                have h8 := h741
                                have h9 := h742
                                have h10 := h743
                                have h11 := h744
                                have h12 := h745
                                have hA : gMo P f733 b (aIn st) := ⟨gt, gn, gl, go, gu, gf, gk, gi, gz, gy, ga, gd, L, af, ⟨hb, h1, h2, h3, h4, h5, h6, h7, h8, h9, h10, h11, h12⟩, ⟨ht1, ht2⟩, ⟨hn0, hn1⟩, hd0, hmF, hFS⟩
                                refine lv_aload_n S.1 S.2.1 d_Mdl_run_113 rfl (lv_at hl 1 rfl) ?_
                                refine lv_iconst (v := nI 0) S.1 S.2.1 d_Mdl_run_114 (by decide) ?_
                                refine gc_Vi S hI (c_Mdl_find l P f733 (k := 0) (nm := st.2.1) (af := af) hb h2 h3 h4 h6 h7 hO hN hlL (by omega) hn0 hs) kv_Mdl_find wi_473 hb rfl rfl rfl hl.1 rfl (Nat.le_of_ble_eq_true rfl) ⟨Nat.le_of_ble_eq_true rfl, Nat.le_of_ble_eq_true rfl⟩ ⟨Nat.le_of_ble_eq_true rfl, Nat.le_of_ble_eq_true rfl⟩ d_Mdl_run_115 (fun r747 f748 H locs hp749 hI => ?_)
                                obtain ⟨hp1, hp2⟩ := hp749
                                rw [hp2] at hI
                                rw [hnF] at hp1
                                refine lv_istore (lv' := [(5, .int r747), (4, .int (nI st.2.2.2.2.1)), (0, .ref b), (1, .int (nI 4)), (2, .int (nI an)), (3, .int (nI bn))]) S.1 S.2.1 d_Mdl_run_118 hl (by decide) rfl (fun ls hl => ?_)
                                refine lv_iload_n S.1 S.2.1 d_Mdl_run_120 rfl (lv_at hl 3 rfl) ?_
                                refine lv_tableIn (tgt := 225) S.1 S.2.1 d_Mdl_run_121 (by decide) (by decide) rfl (by decide) ?_
                                refine lv_aload_n S.1 S.2.1 d_Mdl_run_225 rfl (lv_at hl 2 rfl) ?_
                                refine lv_iload_n S.1 S.2.1 d_Mdl_run_226 rfl (lv_at hl 4 rfl) ?_
                                refine lv_iload_n S.1 S.2.1 d_Mdl_run_227 rfl (lv_at hl 5 rfl) ?_
                                refine gc_Vi S hI (c_Mdl_read l P f733 hA hw hAn hBn) kv_Mdl_read wi_495 hb rfl rfl rfl hl.1 rfl (Nat.le_of_ble_eq_true rfl) ⟨Nat.le_of_ble_eq_true rfl, Nat.le_of_ble_eq_true rfl⟩ ⟨Nat.le_of_ble_eq_true rfl, Nat.le_of_ble_eq_true rfl⟩ d_Mdl_run_228 (fun r750 f751 H locs hp752 hI => ?_)
                                obtain ⟨k1, k2, k3⟩ := hp752
                                rw [← eo] at k1 k2
                                exact gr_i S hr hlk hI (by rw [aRun_op hrf]; exact ⟨k1, k2, hF.call k3 (fun q hq => Or.inl hq)⟩) d_Mdl_run_231
                              · skip
                                replace c717 : ¬ bn ≤ 2048 := fun z => c717 ((nI_leI (a := bn) (b := 2048) (by omega) (by omega)).mpr z)
                                refine lv_iconst (v := (-1)) S.1 S.2.1 d_Mdl_run_90 (by decide) ?_
                                exact gr_i S hr hlk hI (by rw [aRun_ref (Or.inr (Or.inr (Or.inr (Or.inr ⟨(rfl : nI 4 = 4), Or.inr (nI_lt (a := 2048) (by omega) hB31)⟩))))]; exact ⟨rfl, h, gFr.rf⟩) d_Mdl_run_91
              · skip
                replace c709 : 4 = 7 := (nI_eq (a := 4) (b := 7) (by omega) (by omega)).mp c709
                exact absurd c709 (by omega)
      · skip
        refine lv_iload_n S.1 S.2.1 d_Mdl_run_10 rfl (lv_at hl 1 rfl) ?_
        refine lv_bipush (v := nI 9) S.1 S.2.1 d_Mdl_run_11 (by decide) ?_
        refine lv_icmp_eq (tgt := 25) S.1 S.2.1 d_Mdl_run_13 (by decide) (fun c753 => ?_) (fun c753 => ?_)
        · skip
          replace c753 : 5 = 9 := (nI_eq (a := 5) (b := 9) (by omega) (by omega)).mp c753
          exact absurd c753 (by omega)
        · skip
          replace c753 : ¬ 5 = 9 := fun z => c753 ((nI_eq (a := 5) (b := 9) (by omega) (by omega)).mpr z)
          refine lv_aload_n S.1 S.2.1 d_Mdl_run_16 rfl (lv_at hl 0 rfl) ?_
          refine gh_get S hI hb rfl i_Mdl 3 (by decide) wi_438 rfl d_Mdl_run_17 ?_
          refine lv_iconst (v := nI 0) S.1 S.2.1 d_Mdl_run_20 (by decide) ?_
          refine gh_iald (j := 0) S hI 1 h3 rfl rfl (by omega) (by omega) d_Mdl_run_21 ?_
          refine lv_topi (fun v754 ev754 => ?_)
          replace ev754 : v754 = nI st.2.1.length := ev754.trans (hn0.1)
          subst ev754
          refine lv_if_eq (tgt := 46) S.1 S.2.1 d_Mdl_run_22 (by decide) (fun c755 => ?_) (fun c755 => ?_)
          · skip
            replace c755 : st.2.1.length = 0 := (nI_eq (a := st.2.1.length) (b := 0) (by omega) (by omega)).mp c755
            refine lv_iconst (v := (-1)) S.1 S.2.1 d_Mdl_run_46 (by decide) ?_
            exact gr_i S hr hlk hI (by rw [aRun_ref (Or.inr (Or.inl ⟨by decide, List.length_eq_zero_iff.mp c755⟩))]; exact ⟨rfl, h, gFr.rf⟩) d_Mdl_run_47
          · skip
            replace c755 : ¬ st.2.1.length = 0 := fun z => c755 ((nI_eq (a := st.2.1.length) (b := 0) (by omega) (by omega)).mpr z)
            refine lv_iload_n S.1 S.2.1 d_Mdl_run_25 rfl (lv_at hl 1 rfl) ?_
            refine lv_bipush (v := nI 6) S.1 S.2.1 d_Mdl_run_26 (by decide) ?_
            refine lv_icmp_eq (tgt := 37) S.1 S.2.1 d_Mdl_run_28 (by decide) (fun c756 => ?_) (fun c756 => ?_)
            · skip
              replace c756 : 5 = 6 := (nI_eq (a := 5) (b := 6) (by omega) (by omega)).mp c756
              exact absurd c756 (by omega)
            · skip
              replace c756 : ¬ 5 = 6 := fun z => c756 ((nI_eq (a := 5) (b := 6) (by omega) (by omega)).mpr z)
              refine lv_iload_n S.1 S.2.1 d_Mdl_run_31 rfl (lv_at hl 1 rfl) ?_
              refine lv_bipush (v := nI 7) S.1 S.2.1 d_Mdl_run_32 (by decide) ?_
              refine lv_icmp_ne (tgt := 48) S.1 S.2.1 d_Mdl_run_34 (by decide) (fun c757 => ?_) (fun c757 => ?_)
              · skip
                replace c757 : ¬ 5 = 7 := fun z => c757 ((nI_eq (a := 5) (b := 7) (by omega) (by omega)).mpr z)
                refine lv_iload_n S.1 S.2.1 d_Mdl_run_48 rfl (lv_at hl 1 rfl) ?_
                refine lv_iconst (v := nI 1) S.1 S.2.1 d_Mdl_run_49 (by decide) ?_
                refine lv_icmp_eq (tgt := 63) S.1 S.2.1 d_Mdl_run_50 (by decide) (fun c758 => ?_) (fun c758 => ?_)
                · skip
                  replace c758 : 5 = 1 := (nI_eq (a := 5) (b := 1) (by omega) (by omega)).mp c758
                  exact absurd c758 (by omega)
                · skip
                  replace c758 : ¬ 5 = 1 := fun z => c758 ((nI_eq (a := 5) (b := 1) (by omega) (by omega)).mpr z)
                  refine lv_iload_n S.1 S.2.1 d_Mdl_run_53 rfl (lv_at hl 1 rfl) ?_
                  refine lv_iconst (v := nI 3) S.1 S.2.1 d_Mdl_run_54 (by decide) ?_
                  refine lv_icmp_eq (tgt := 63) S.1 S.2.1 d_Mdl_run_55 (by decide) (fun c759 => ?_) (fun c759 => ?_)
                  · skip
                    replace c759 : 5 = 3 := (nI_eq (a := 5) (b := 3) (by omega) (by omega)).mp c759
                    exact absurd c759 (by omega)
                  · skip
                    replace c759 : ¬ 5 = 3 := fun z => c759 ((nI_eq (a := 5) (b := 3) (by omega) (by omega)).mpr z)
                    refine lv_iload_n S.1 S.2.1 d_Mdl_run_58 rfl (lv_at hl 1 rfl) ?_
                    refine lv_iconst (v := nI 4) S.1 S.2.1 d_Mdl_run_59 (by decide) ?_
                    refine lv_icmp_ne (tgt := 74) S.1 S.2.1 d_Mdl_run_60 (by decide) (fun c760 => ?_) (fun c760 => ?_)
                    · skip
                      replace c760 : ¬ 5 = 4 := fun z => c760 ((nI_eq (a := 5) (b := 4) (by omega) (by omega)).mpr z)
                      refine lv_iload_n S.1 S.2.1 d_Mdl_run_74 rfl (lv_at hl 1 rfl) ?_
                      refine lv_iconst (v := nI 4) S.1 S.2.1 d_Mdl_run_75 (by decide) ?_
                      refine lv_icmp_ne (tgt := 92) S.1 S.2.1 d_Mdl_run_76 (by decide) (fun c761 => ?_) (fun c761 => ?_)
                      · skip
                        replace c761 : ¬ 5 = 4 := fun z => c761 ((nI_eq (a := 5) (b := 4) (by omega) (by omega)).mpr z)
                        have hrf : ¬ aRef st (nI 5) aa bb := aRef_no (by decide) (fun _ z => c755 (by rw [z]; rfl)) (fun z => absurd z (by decide)) (fun z => absurd z (by decide)) (fun z => absurd z (by decide))
                        have eo : aOp st (nI 5) aa bb = oRemove st := by unfold aOp; rw [if_neg (show ¬ (nI 5 : Int32) = 0 by decide), if_neg (show ¬ (nI 5 : Int32) = 1 by decide), if_neg (show ¬ (nI 5 : Int32) = 2 by decide), if_neg (show ¬ (nI 5 : Int32) = 3 by decide), if_neg (show ¬ (nI 5 : Int32) = 4 by decide), if_pos (show (nI 5 : Int32) = 5 by decide)]
                        have hF : gFr f f [b, b + 1, b + 2, b + 3, b + 4, b + 5, b + 6, b + 7, b + 8, b + 9, b + 10, b + 11, b + 12] := gFr.rf
                        refine lv_aload_n S.1 S.2.1 d_Mdl_run_92 rfl (lv_at hl 0 rfl) ?_
                        refine lv_iconst (v := nI 0) S.1 S.2.1 d_Mdl_run_93 (by decide) ?_
                        refine gh_put S hI hb rfl i_Mdl t_Mdl tk_Mdl n_Mdl 16 (by decide) wi_451 rfl rfl rfl (Nat.le_of_ble_eq_true rfl) d_Mdl_run_94 (fun H locs hI => ?_)
                        have hI : gB P (va_up f b (some (.inr (7, [.ref (b + 1), .int (nI st.1.length), .ref (b + 2), .ref (b + 3), .ref (b + 4), .ref (b + 5), .ref (b + 6), .ref (b + 7), .ref (b + 8), .ref (b + 9), .ref (b + 10), .ref (b + 11), .int (nI L.length), .int (nI (fB st.2.2.2.2.2)), .int (nI st.2.2.2.2.1), .ref (b + 12), .int (nI 0)])))) s H locs := hI
                        obtain ⟨f762, ef762⟩ : ∃ z, z = va_up f b (some (.inr (7, [.ref (b + 1), .int (nI st.1.length), .ref (b + 2), .ref (b + 3), .ref (b + 4), .ref (b + 5), .ref (b + 6), .ref (b + 7), .ref (b + 8), .ref (b + 9), .ref (b + 10), .ref (b + 11), .int (nI L.length), .int (nI (fB st.2.2.2.2.2)), .int (nI st.2.2.2.2.1), .ref (b + 12), .int (nI 0)]))) := ⟨_, rfl⟩
                        rw [← ef762] at hI
                        have h763 : f762 (b + 1) = some (.inl (P.2.1 0, 2048, .inl gt)) := by rw [ef762, va_up_ne _ _ (by omega)]; exact h1
                        have h764 : f762 (b + 2) = some (.inl (P.2.1 0, 400, .inl gn)) := by rw [ef762, va_up_ne _ _ (by omega)]; exact h2
                        have h765 : f762 (b + 3) = some (.inl (P.2.1 1, 2, .inl gl)) := by rw [ef762, va_up_ne _ _ (by omega)]; exact h3
                        have h766 : f762 (b + 4) = some (.inl (P.2.1 1, 48, .inl go)) := by rw [ef762, va_up_ne _ _ (by omega)]; exact h4
                        have h767 : f762 (b + 5) = some (.inl (P.2.1 2, 48, .inl gu)) := by rw [ef762, va_up_ne _ _ (by omega)]; exact h5
                        have h768 : f762 (b + 6) = some (.inl (P.2.1 0, 9600, .inl gf)) := by rw [ef762, va_up_ne _ _ (by omega)]; exact h6
                        have h769 : f762 (b + 7) = some (.inl (P.2.1 1, 48, .inl gk)) := by rw [ef762, va_up_ne _ _ (by omega)]; exact h7
                        have h770 : f762 (b + 8) = some (.inl (P.2.1 1, 48, .inl gi)) := by rw [ef762, va_up_ne _ _ (by omega)]; exact h8
                        have h771 : f762 (b + 9) = some (.inl (P.2.1 1, 48, .inl gz)) := by rw [ef762, va_up_ne _ _ (by omega)]; exact h9
                        have h772 : f762 (b + 10) = some (.inl (P.2.1 0, 393216, .inl gy)) := by rw [ef762, va_up_ne _ _ (by omega)]; exact h10
                        have h773 : f762 (b + 11) = some (.inl (P.2.1 2, 912, .inl ga)) := by rw [ef762, va_up_ne _ _ (by omega)]; exact h11
                        have h774 : f762 (b + 12) = some (.inl (P.2.1 1, 2048, .inl gd)) := by rw [ef762, va_up_ne _ _ (by omega)]; exact h12
                        have h775 : f762 b = some (.inr (7, [.ref (b + 1), .int (nI st.1.length), .ref (b + 2), .ref (b + 3), .ref (b + 4), .ref (b + 5), .ref (b + 6), .ref (b + 7), .ref (b + 8), .ref (b + 9), .ref (b + 10), .ref (b + 11), .int (nI L.length), .int (nI (fB st.2.2.2.2.2)), .int (nI st.2.2.2.2.1), .ref (b + 12), .int (nI 0)])) := by rw [ef762]; exact va_up_self _ _ _
                        have hF : gFr f f762 [b, b + 1, b + 2, b + 3, b + 4, b + 5, b + 6, b + 7, b + 8, b + 9, b + 10, b + 11, b + 12] := by rw [ef762]; exact gFr.upA (by simp) hF
                        refine lv_aload_n S.1 S.2.1 d_Mdl_run_97 rfl (lv_at hl 0 rfl) ?_
                        refine gh_get S hI h775 rfl i_Mdl 14 (by decide) wi_449 rfl d_Mdl_run_98 ?_
                        refine lv_istore (lv' := [(4, .int (nI st.2.2.2.2.1)), (0, .ref b), (1, .int (nI 5)), (2, .int aa), (3, .int bb)]) S.1 S.2.1 d_Mdl_run_101 hl (by decide) rfl (fun ls hl => ?_)
                        refine lv_aload_n S.1 S.2.1 d_Mdl_run_103 rfl (lv_at hl 1 rfl) ?_
                        refine lv_dup S.1 S.2.1 d_Mdl_run_104 rfl ?_
                        refine gh_get S hI h775 rfl i_Mdl 14 (by decide) wi_449 rfl d_Mdl_run_105 ?_
                        refine lv_iconst (v := nI 1) S.1 S.2.1 d_Mdl_run_108 (by decide) ?_
                        refine lv_iadd S.1 S.2.1 d_Mdl_run_109 ?_
                        refine lv_topi (fun v776 ev776 => ?_)
                        replace ev776 : v776 = nI (st.2.2.2.2.1 + 1) := ev776.trans (nI_add _ _)
                        subst ev776
                        refine gh_put S hI h775 rfl i_Mdl t_Mdl tk_Mdl n_Mdl 14 (by decide) wi_449 rfl rfl rfl (Nat.le_of_ble_eq_true rfl) d_Mdl_run_110 (fun H locs hI => ?_)
                        have hI : gB P (va_up f762 b (some (.inr (7, [.ref (b + 1), .int (nI st.1.length), .ref (b + 2), .ref (b + 3), .ref (b + 4), .ref (b + 5), .ref (b + 6), .ref (b + 7), .ref (b + 8), .ref (b + 9), .ref (b + 10), .ref (b + 11), .int (nI L.length), .int (nI (fB st.2.2.2.2.2)), .int (nI (st.2.2.2.2.1 + 1)), .ref (b + 12), .int (nI 0)])))) s H locs := hI
                        obtain ⟨f777, ef777⟩ : ∃ z, z = va_up f762 b (some (.inr (7, [.ref (b + 1), .int (nI st.1.length), .ref (b + 2), .ref (b + 3), .ref (b + 4), .ref (b + 5), .ref (b + 6), .ref (b + 7), .ref (b + 8), .ref (b + 9), .ref (b + 10), .ref (b + 11), .int (nI L.length), .int (nI (fB st.2.2.2.2.2)), .int (nI (st.2.2.2.2.1 + 1)), .ref (b + 12), .int (nI 0)]))) := ⟨_, rfl⟩
                        rw [← ef777] at hI
                        have h778 : f777 (b + 1) = some (.inl (P.2.1 0, 2048, .inl gt)) := by rw [ef777, va_up_ne _ _ (by omega)]; exact h763
                        have h779 : f777 (b + 2) = some (.inl (P.2.1 0, 400, .inl gn)) := by rw [ef777, va_up_ne _ _ (by omega)]; exact h764
                        have h780 : f777 (b + 3) = some (.inl (P.2.1 1, 2, .inl gl)) := by rw [ef777, va_up_ne _ _ (by omega)]; exact h765
                        have h781 : f777 (b + 4) = some (.inl (P.2.1 1, 48, .inl go)) := by rw [ef777, va_up_ne _ _ (by omega)]; exact h766
                        have h782 : f777 (b + 5) = some (.inl (P.2.1 2, 48, .inl gu)) := by rw [ef777, va_up_ne _ _ (by omega)]; exact h767
                        have h783 : f777 (b + 6) = some (.inl (P.2.1 0, 9600, .inl gf)) := by rw [ef777, va_up_ne _ _ (by omega)]; exact h768
                        have h784 : f777 (b + 7) = some (.inl (P.2.1 1, 48, .inl gk)) := by rw [ef777, va_up_ne _ _ (by omega)]; exact h769
                        have h785 : f777 (b + 8) = some (.inl (P.2.1 1, 48, .inl gi)) := by rw [ef777, va_up_ne _ _ (by omega)]; exact h770
                        have h786 : f777 (b + 9) = some (.inl (P.2.1 1, 48, .inl gz)) := by rw [ef777, va_up_ne _ _ (by omega)]; exact h771
                        have h787 : f777 (b + 10) = some (.inl (P.2.1 0, 393216, .inl gy)) := by rw [ef777, va_up_ne _ _ (by omega)]; exact h772
                        have h788 : f777 (b + 11) = some (.inl (P.2.1 2, 912, .inl ga)) := by rw [ef777, va_up_ne _ _ (by omega)]; exact h773
                        have h789 : f777 (b + 12) = some (.inl (P.2.1 1, 2048, .inl gd)) := by rw [ef777, va_up_ne _ _ (by omega)]; exact h774
                        have h790 : f777 b = some (.inr (7, [.ref (b + 1), .int (nI st.1.length), .ref (b + 2), .ref (b + 3), .ref (b + 4), .ref (b + 5), .ref (b + 6), .ref (b + 7), .ref (b + 8), .ref (b + 9), .ref (b + 10), .ref (b + 11), .int (nI L.length), .int (nI (fB st.2.2.2.2.2)), .int (nI (st.2.2.2.2.1 + 1)), .ref (b + 12), .int (nI 0)])) := by rw [ef777]; exact va_up_self _ _ _
                        have hF : gFr f f777 [b, b + 1, b + 2, b + 3, b + 4, b + 5, b + 6, b + 7, b + 8, b + 9, b + 10, b + 11, b + 12] := by rw [ef777]; exact gFr.upA (by simp) hF
                        have hb := h790
                        have h1 := h778
                        have h2 := h779
                        have h3 := h780
                        have h4 := h781
                        have h5 := h782
                        have h6 := h783
                        have h7 := h784
                        have h8 := h785
                        have h9 := h786
                        have h10 := h787
                        have h11 := h788
                        have h12 := h789
                        have hA : gMo P f777 b (aIn st) := ⟨gt, gn, gl, go, gu, gf, gk, gi, gz, gy, ga, gd, L, af, ⟨hb, h1, h2, h3, h4, h5, h6, h7, h8, h9, h10, h11, h12⟩, ⟨ht1, ht2⟩, ⟨hn0, hn1⟩, hd0, hmF, hFS⟩
                        refine lv_aload_n S.1 S.2.1 d_Mdl_run_113 rfl (lv_at hl 1 rfl) ?_
                        refine lv_iconst (v := nI 0) S.1 S.2.1 d_Mdl_run_114 (by decide) ?_
                        refine gc_Vi S hI (c_Mdl_find l P f777 (k := 0) (nm := st.2.1) (af := af) hb h2 h3 h4 h6 h7 hO hN hlL (by omega) hn0 hs) kv_Mdl_find wi_473 hb rfl rfl rfl hl.1 rfl (Nat.le_of_ble_eq_true rfl) ⟨Nat.le_of_ble_eq_true rfl, Nat.le_of_ble_eq_true rfl⟩ ⟨Nat.le_of_ble_eq_true rfl, Nat.le_of_ble_eq_true rfl⟩ d_Mdl_run_115 (fun r791 f792 H locs hp793 hI => ?_)
                        obtain ⟨hp1, hp2⟩ := hp793
                        rw [hp2] at hI
                        rw [hnF] at hp1
                        refine lv_istore (lv' := [(5, .int r791), (4, .int (nI st.2.2.2.2.1)), (0, .ref b), (1, .int (nI 5)), (2, .int aa), (3, .int bb)]) S.1 S.2.1 d_Mdl_run_118 hl (by decide) rfl (fun ls hl => ?_)
                        refine lv_iload_n S.1 S.2.1 d_Mdl_run_120 rfl (lv_at hl 3 rfl) ?_
                        rcases hp1 with ⟨hix, hr9⟩ | ⟨i, q, hix, hq, hr9⟩
                        · subst hr9
                          refine lv_tableIn (tgt := 232) S.1 S.2.1 d_Mdl_run_121 (by decide) (by decide) rfl (by decide) ?_
                          refine lv_iload S.1 S.2.1 d_Mdl_run_232 (lv_at hl 0 rfl) ?_
                          refine lv_if_ge (tgt := 242) S.1 S.2.1 d_Mdl_run_234 (by decide) (fun c794 => ?_) (fun c794 => ?_)
                          · skip
                            exact absurd c794 (by decide)
                          · skip
                            refine lv_bipush (v := (-2)) S.1 S.2.1 d_Mdl_run_237 (by decide) ?_
                            refine lv_goto (tgt := 248) S.1 S.2.1 d_Mdl_run_239 (by decide) ?_
                            exact gr_i S hr hlk hI (by rw [aRun_op hrf, eo, oRemove_n hix]; exact ⟨rfl, hA, hF⟩) d_Mdl_run_248
                        · subst hr9
                          have hqL := List.mem_of_getElem? hq
                          obtain ⟨hq48, hqn, p1, p2, p3, p4⟩ := hM q hqL
                          have hgD : st.2.2.2.2.2.getD i (fNew [] 0) = af q := by rw [← hFS]; exact getD_map hq
                          have hFi : st.2.2.2.2.2[i]? = some (af q) := by rw [← hFS, List.getElem?_map, hq]; rfl
                          refine lv_tableIn (tgt := 232) S.1 S.2.1 d_Mdl_run_121 (by decide) (by decide) rfl (by decide) ?_
                          refine lv_iload S.1 S.2.1 d_Mdl_run_232 (lv_at hl 0 rfl) ?_
                          refine lv_if_ge (tgt := 242) S.1 S.2.1 d_Mdl_run_234 (by decide) (fun c795 => ?_) (fun c795 => ?_)
                          · skip
                            replace c795 : 0 ≤ q := (nI_leI (a := 0) (b := q) (by omega) (by omega)).mp c795
                            refine lv_aload_n S.1 S.2.1 d_Mdl_run_242 rfl (lv_at hl 2 rfl) ?_
                            refine lv_iload S.1 S.2.1 d_Mdl_run_243 (lv_at hl 0 rfl) ?_
                            refine gc_Vi S hI (c_Mdl_gone l P f777 (q := q) (k := i) (sz := (af q).2.2.1) hb h4 h5 h9 hO hq hnd (fun x hx => (hM x hx).1) hlL p2 (hle q hqL)) kv_Mdl_gone wi_498 hb rfl rfl rfl hl.1 rfl (Nat.le_of_ble_eq_true rfl) ⟨Nat.le_of_ble_eq_true rfl, Nat.le_of_ble_eq_true rfl⟩ ⟨Nat.le_of_ble_eq_true rfl, Nat.le_of_ble_eq_true rfl⟩ d_Mdl_run_245 (fun r796 f797 H locs hp798 hI => ?_)
                            obtain ⟨hr7, g4, k0, k4, k5, kO, kF⟩ := hp798
                            subst hr7
                            have k1 := kF (b + 1) _ h1 (by intro z; simp at z)
                            have k2 := kF (b + 2) _ h2 (by intro z; simp at z)
                            have k3 := kF (b + 3) _ h3 (by intro z; simp at z)
                            have k6 := kF (b + 6) _ h6 (by intro z; simp at z)
                            have k7 := kF (b + 7) _ h7 (by intro z; simp at z)
                            have k8 := kF (b + 8) _ h8 (by intro z; simp at z)
                            have k9 := kF (b + 9) _ h9 (by intro z; simp at z)
                            have k10 := kF (b + 10) _ h10 (by intro z; simp at z)
                            have k11 := kF (b + 11) _ h11 (by intro z; simp at z)
                            have k12 := kF (b + 12) _ h12 (by intro z; simp at z)
                            have hm1 := mFs_gone hmF hq kO
                            have hbe := fB_er hFi
                            have eT : fB (st.2.2.2.2.2.eraseIdx i) = fB st.2.2.2.2.2 - (af q).2.2.1 := by omega
                            have eL : (L.eraseIdx i).length = L.length - 1 := List.length_eraseIdx_of_lt (List.getElem?_eq_some_iff.mp hq).1
                            rw [← eL, ← eT] at k0
                            have hfs : (L.eraseIdx i).map af = st.2.2.2.2.2.eraseIdx i := by rw [map_er, hFS]
                            have hfin : gMo P f797 b (aAft st (nI (af q).2.2.1, [], st.1, st.2.2.2.2.2.eraseIdx i)) := ⟨gt, gn, gl, g4, upd gu q (nI 0), gf, gk, gi, gz, gy, ga, gd, _, _, ⟨k0, k1, k2, k3, k4, k5, k6, k7, k8, k9, k10, k11, k12⟩, ⟨ht1, ht2⟩, ⟨hn0, hn1⟩, hd0, hm1, hfs⟩
                            exact gr_i S hr hlk hI (by rw [aRun_op hrf, eo, oRemove_s hix hgD]; exact ⟨rfl, hfin, hF.call kF (by intro q hq; left; simp at hq ⊢; omega)⟩) d_Mdl_run_248
                          · skip
                            replace c795 : ¬ 0 ≤ q := fun z => c795 ((nI_leI (a := 0) (b := q) (by omega) (by omega)).mpr z)
                            exact absurd c795 (by omega)
                      · skip
                        replace c761 : 5 = 4 := (nI_eq (a := 5) (b := 4) (by omega) (by omega)).mp c761
                        exact absurd c761 (by omega)
                    · skip
                      replace c760 : 5 = 4 := (nI_eq (a := 5) (b := 4) (by omega) (by omega)).mp c760
                      exact absurd c760 (by omega)
              · skip
                replace c757 : 5 = 7 := (nI_eq (a := 5) (b := 7) (by omega) (by omega)).mp c757
                exact absurd c757 (by omega)
      · skip
        refine lv_iload_n S.1 S.2.1 d_Mdl_run_10 rfl (lv_at hl 1 rfl) ?_
        refine lv_bipush (v := nI 9) S.1 S.2.1 d_Mdl_run_11 (by decide) ?_
        refine lv_icmp_eq (tgt := 25) S.1 S.2.1 d_Mdl_run_13 (by decide) (fun c799 => ?_) (fun c799 => ?_)
        · skip
          replace c799 : 6 = 9 := (nI_eq (a := 6) (b := 9) (by omega) (by omega)).mp c799
          exact absurd c799 (by omega)
        · skip
          replace c799 : ¬ 6 = 9 := fun z => c799 ((nI_eq (a := 6) (b := 9) (by omega) (by omega)).mpr z)
          refine lv_aload_n S.1 S.2.1 d_Mdl_run_16 rfl (lv_at hl 0 rfl) ?_
          refine gh_get S hI hb rfl i_Mdl 3 (by decide) wi_438 rfl d_Mdl_run_17 ?_
          refine lv_iconst (v := nI 0) S.1 S.2.1 d_Mdl_run_20 (by decide) ?_
          refine gh_iald (j := 0) S hI 1 h3 rfl rfl (by omega) (by omega) d_Mdl_run_21 ?_
          refine lv_topi (fun v800 ev800 => ?_)
          replace ev800 : v800 = nI st.2.1.length := ev800.trans (hn0.1)
          subst ev800
          refine lv_if_eq (tgt := 46) S.1 S.2.1 d_Mdl_run_22 (by decide) (fun c801 => ?_) (fun c801 => ?_)
          · skip
            replace c801 : st.2.1.length = 0 := (nI_eq (a := st.2.1.length) (b := 0) (by omega) (by omega)).mp c801
            refine lv_iconst (v := (-1)) S.1 S.2.1 d_Mdl_run_46 (by decide) ?_
            exact gr_i S hr hlk hI (by rw [aRun_ref (Or.inr (Or.inl ⟨by decide, List.length_eq_zero_iff.mp c801⟩))]; exact ⟨rfl, h, gFr.rf⟩) d_Mdl_run_47
          · skip
            replace c801 : ¬ st.2.1.length = 0 := fun z => c801 ((nI_eq (a := st.2.1.length) (b := 0) (by omega) (by omega)).mpr z)
            refine lv_iload_n S.1 S.2.1 d_Mdl_run_25 rfl (lv_at hl 1 rfl) ?_
            refine lv_bipush (v := nI 6) S.1 S.2.1 d_Mdl_run_26 (by decide) ?_
            refine lv_icmp_eq (tgt := 37) S.1 S.2.1 d_Mdl_run_28 (by decide) (fun c802 => ?_) (fun c802 => ?_)
            · skip
              replace c802 : 6 = 6 := (nI_eq (a := 6) (b := 6) (by omega) (by omega)).mp c802
              refine lv_aload_n S.1 S.2.1 d_Mdl_run_37 rfl (lv_at hl 0 rfl) ?_
              refine gh_get S hI hb rfl i_Mdl 3 (by decide) wi_438 rfl d_Mdl_run_38 ?_
              refine lv_iconst (v := nI 1) S.1 S.2.1 d_Mdl_run_41 (by decide) ?_
              refine gh_iald (j := 1) S hI 1 h3 rfl rfl (by omega) (by omega) d_Mdl_run_42 ?_
              refine lv_topi (fun v803 ev803 => ?_)
              replace ev803 : v803 = nI st.2.2.1.length := ev803.trans (hn1.1)
              subst ev803
              refine lv_if_ne (tgt := 48) S.1 S.2.1 d_Mdl_run_43 (by decide) (fun c804 => ?_) (fun c804 => ?_)
              · skip
                replace c804 : ¬ st.2.2.1.length = 0 := fun z => c804 ((nI_eq (a := st.2.2.1.length) (b := 0) (by omega) (by omega)).mpr z)
                refine lv_iload_n S.1 S.2.1 d_Mdl_run_48 rfl (lv_at hl 1 rfl) ?_
                refine lv_iconst (v := nI 1) S.1 S.2.1 d_Mdl_run_49 (by decide) ?_
                refine lv_icmp_eq (tgt := 63) S.1 S.2.1 d_Mdl_run_50 (by decide) (fun c805 => ?_) (fun c805 => ?_)
                · skip
                  replace c805 : 6 = 1 := (nI_eq (a := 6) (b := 1) (by omega) (by omega)).mp c805
                  exact absurd c805 (by omega)
                · skip
                  replace c805 : ¬ 6 = 1 := fun z => c805 ((nI_eq (a := 6) (b := 1) (by omega) (by omega)).mpr z)
                  refine lv_iload_n S.1 S.2.1 d_Mdl_run_53 rfl (lv_at hl 1 rfl) ?_
                  refine lv_iconst (v := nI 3) S.1 S.2.1 d_Mdl_run_54 (by decide) ?_
                  refine lv_icmp_eq (tgt := 63) S.1 S.2.1 d_Mdl_run_55 (by decide) (fun c806 => ?_) (fun c806 => ?_)
                  · skip
                    replace c806 : 6 = 3 := (nI_eq (a := 6) (b := 3) (by omega) (by omega)).mp c806
                    exact absurd c806 (by omega)
                  · skip
                    replace c806 : ¬ 6 = 3 := fun z => c806 ((nI_eq (a := 6) (b := 3) (by omega) (by omega)).mpr z)
                    refine lv_iload_n S.1 S.2.1 d_Mdl_run_58 rfl (lv_at hl 1 rfl) ?_
                    refine lv_iconst (v := nI 4) S.1 S.2.1 d_Mdl_run_59 (by decide) ?_
                    refine lv_icmp_ne (tgt := 74) S.1 S.2.1 d_Mdl_run_60 (by decide) (fun c807 => ?_) (fun c807 => ?_)
                    · skip
                      replace c807 : ¬ 6 = 4 := fun z => c807 ((nI_eq (a := 6) (b := 4) (by omega) (by omega)).mpr z)
                      refine lv_iload_n S.1 S.2.1 d_Mdl_run_74 rfl (lv_at hl 1 rfl) ?_
                      refine lv_iconst (v := nI 4) S.1 S.2.1 d_Mdl_run_75 (by decide) ?_
                      refine lv_icmp_ne (tgt := 92) S.1 S.2.1 d_Mdl_run_76 (by decide) (fun c808 => ?_) (fun c808 => ?_)
                      · skip
                        replace c808 : ¬ 6 = 4 := fun z => c808 ((nI_eq (a := 6) (b := 4) (by omega) (by omega)).mpr z)
                        have hrf : ¬ aRef st (nI 6) aa bb := aRef_no (by decide) (fun _ z => c801 (by rw [z]; rfl)) (fun _ z => c804 (by rw [z]; rfl)) (fun z => absurd z (by decide)) (fun z => absurd z (by decide))
                        have eo : aOp st (nI 6) aa bb = oRename st := by unfold aOp; rw [if_neg (show ¬ (nI 6 : Int32) = 0 by decide), if_neg (show ¬ (nI 6 : Int32) = 1 by decide), if_neg (show ¬ (nI 6 : Int32) = 2 by decide), if_neg (show ¬ (nI 6 : Int32) = 3 by decide), if_neg (show ¬ (nI 6 : Int32) = 4 by decide), if_neg (show ¬ (nI 6 : Int32) = 5 by decide), if_pos (show (nI 6 : Int32) = 6 by decide)]
                        have hF : gFr f f [b, b + 1, b + 2, b + 3, b + 4, b + 5, b + 6, b + 7, b + 8, b + 9, b + 10, b + 11, b + 12] := gFr.rf
                        refine lv_aload_n S.1 S.2.1 d_Mdl_run_92 rfl (lv_at hl 0 rfl) ?_
                        refine lv_iconst (v := nI 0) S.1 S.2.1 d_Mdl_run_93 (by decide) ?_
                        refine gh_put S hI hb rfl i_Mdl t_Mdl tk_Mdl n_Mdl 16 (by decide) wi_451 rfl rfl rfl (Nat.le_of_ble_eq_true rfl) d_Mdl_run_94 (fun H locs hI => ?_)
                        have hI : gB P (va_up f b (some (.inr (7, [.ref (b + 1), .int (nI st.1.length), .ref (b + 2), .ref (b + 3), .ref (b + 4), .ref (b + 5), .ref (b + 6), .ref (b + 7), .ref (b + 8), .ref (b + 9), .ref (b + 10), .ref (b + 11), .int (nI L.length), .int (nI (fB st.2.2.2.2.2)), .int (nI st.2.2.2.2.1), .ref (b + 12), .int (nI 0)])))) s H locs := hI
                        obtain ⟨f809, ef809⟩ : ∃ z, z = va_up f b (some (.inr (7, [.ref (b + 1), .int (nI st.1.length), .ref (b + 2), .ref (b + 3), .ref (b + 4), .ref (b + 5), .ref (b + 6), .ref (b + 7), .ref (b + 8), .ref (b + 9), .ref (b + 10), .ref (b + 11), .int (nI L.length), .int (nI (fB st.2.2.2.2.2)), .int (nI st.2.2.2.2.1), .ref (b + 12), .int (nI 0)]))) := ⟨_, rfl⟩
                        rw [← ef809] at hI
                        have h810 : f809 (b + 1) = some (.inl (P.2.1 0, 2048, .inl gt)) := by rw [ef809, va_up_ne _ _ (by omega)]; exact h1
                        have h811 : f809 (b + 2) = some (.inl (P.2.1 0, 400, .inl gn)) := by rw [ef809, va_up_ne _ _ (by omega)]; exact h2
                        have h812 : f809 (b + 3) = some (.inl (P.2.1 1, 2, .inl gl)) := by rw [ef809, va_up_ne _ _ (by omega)]; exact h3
                        have h813 : f809 (b + 4) = some (.inl (P.2.1 1, 48, .inl go)) := by rw [ef809, va_up_ne _ _ (by omega)]; exact h4
                        have h814 : f809 (b + 5) = some (.inl (P.2.1 2, 48, .inl gu)) := by rw [ef809, va_up_ne _ _ (by omega)]; exact h5
                        have h815 : f809 (b + 6) = some (.inl (P.2.1 0, 9600, .inl gf)) := by rw [ef809, va_up_ne _ _ (by omega)]; exact h6
                        have h816 : f809 (b + 7) = some (.inl (P.2.1 1, 48, .inl gk)) := by rw [ef809, va_up_ne _ _ (by omega)]; exact h7
                        have h817 : f809 (b + 8) = some (.inl (P.2.1 1, 48, .inl gi)) := by rw [ef809, va_up_ne _ _ (by omega)]; exact h8
                        have h818 : f809 (b + 9) = some (.inl (P.2.1 1, 48, .inl gz)) := by rw [ef809, va_up_ne _ _ (by omega)]; exact h9
                        have h819 : f809 (b + 10) = some (.inl (P.2.1 0, 393216, .inl gy)) := by rw [ef809, va_up_ne _ _ (by omega)]; exact h10
                        have h820 : f809 (b + 11) = some (.inl (P.2.1 2, 912, .inl ga)) := by rw [ef809, va_up_ne _ _ (by omega)]; exact h11
                        have h821 : f809 (b + 12) = some (.inl (P.2.1 1, 2048, .inl gd)) := by rw [ef809, va_up_ne _ _ (by omega)]; exact h12
                        have h822 : f809 b = some (.inr (7, [.ref (b + 1), .int (nI st.1.length), .ref (b + 2), .ref (b + 3), .ref (b + 4), .ref (b + 5), .ref (b + 6), .ref (b + 7), .ref (b + 8), .ref (b + 9), .ref (b + 10), .ref (b + 11), .int (nI L.length), .int (nI (fB st.2.2.2.2.2)), .int (nI st.2.2.2.2.1), .ref (b + 12), .int (nI 0)])) := by rw [ef809]; exact va_up_self _ _ _
                        have hF : gFr f f809 [b, b + 1, b + 2, b + 3, b + 4, b + 5, b + 6, b + 7, b + 8, b + 9, b + 10, b + 11, b + 12] := by rw [ef809]; exact gFr.upA (by simp) hF
                        refine lv_aload_n S.1 S.2.1 d_Mdl_run_97 rfl (lv_at hl 0 rfl) ?_
                        refine gh_get S hI h822 rfl i_Mdl 14 (by decide) wi_449 rfl d_Mdl_run_98 ?_
                        refine lv_istore (lv' := [(4, .int (nI st.2.2.2.2.1)), (0, .ref b), (1, .int (nI 6)), (2, .int aa), (3, .int bb)]) S.1 S.2.1 d_Mdl_run_101 hl (by decide) rfl (fun ls hl => ?_)
                        refine lv_aload_n S.1 S.2.1 d_Mdl_run_103 rfl (lv_at hl 1 rfl) ?_
                        refine lv_dup S.1 S.2.1 d_Mdl_run_104 rfl ?_
                        refine gh_get S hI h822 rfl i_Mdl 14 (by decide) wi_449 rfl d_Mdl_run_105 ?_
                        refine lv_iconst (v := nI 1) S.1 S.2.1 d_Mdl_run_108 (by decide) ?_
                        refine lv_iadd S.1 S.2.1 d_Mdl_run_109 ?_
                        refine lv_topi (fun v823 ev823 => ?_)
                        replace ev823 : v823 = nI (st.2.2.2.2.1 + 1) := ev823.trans (nI_add _ _)
                        subst ev823
                        refine gh_put S hI h822 rfl i_Mdl t_Mdl tk_Mdl n_Mdl 14 (by decide) wi_449 rfl rfl rfl (Nat.le_of_ble_eq_true rfl) d_Mdl_run_110 (fun H locs hI => ?_)
                        have hI : gB P (va_up f809 b (some (.inr (7, [.ref (b + 1), .int (nI st.1.length), .ref (b + 2), .ref (b + 3), .ref (b + 4), .ref (b + 5), .ref (b + 6), .ref (b + 7), .ref (b + 8), .ref (b + 9), .ref (b + 10), .ref (b + 11), .int (nI L.length), .int (nI (fB st.2.2.2.2.2)), .int (nI (st.2.2.2.2.1 + 1)), .ref (b + 12), .int (nI 0)])))) s H locs := hI
                        obtain ⟨f824, ef824⟩ : ∃ z, z = va_up f809 b (some (.inr (7, [.ref (b + 1), .int (nI st.1.length), .ref (b + 2), .ref (b + 3), .ref (b + 4), .ref (b + 5), .ref (b + 6), .ref (b + 7), .ref (b + 8), .ref (b + 9), .ref (b + 10), .ref (b + 11), .int (nI L.length), .int (nI (fB st.2.2.2.2.2)), .int (nI (st.2.2.2.2.1 + 1)), .ref (b + 12), .int (nI 0)]))) := ⟨_, rfl⟩
                        rw [← ef824] at hI
                        have h825 : f824 (b + 1) = some (.inl (P.2.1 0, 2048, .inl gt)) := by rw [ef824, va_up_ne _ _ (by omega)]; exact h810
                        have h826 : f824 (b + 2) = some (.inl (P.2.1 0, 400, .inl gn)) := by rw [ef824, va_up_ne _ _ (by omega)]; exact h811
                        have h827 : f824 (b + 3) = some (.inl (P.2.1 1, 2, .inl gl)) := by rw [ef824, va_up_ne _ _ (by omega)]; exact h812
                        have h828 : f824 (b + 4) = some (.inl (P.2.1 1, 48, .inl go)) := by rw [ef824, va_up_ne _ _ (by omega)]; exact h813
                        have h829 : f824 (b + 5) = some (.inl (P.2.1 2, 48, .inl gu)) := by rw [ef824, va_up_ne _ _ (by omega)]; exact h814
                        have h830 : f824 (b + 6) = some (.inl (P.2.1 0, 9600, .inl gf)) := by rw [ef824, va_up_ne _ _ (by omega)]; exact h815
                        have h831 : f824 (b + 7) = some (.inl (P.2.1 1, 48, .inl gk)) := by rw [ef824, va_up_ne _ _ (by omega)]; exact h816
                        have h832 : f824 (b + 8) = some (.inl (P.2.1 1, 48, .inl gi)) := by rw [ef824, va_up_ne _ _ (by omega)]; exact h817
                        have h833 : f824 (b + 9) = some (.inl (P.2.1 1, 48, .inl gz)) := by rw [ef824, va_up_ne _ _ (by omega)]; exact h818
                        have h834 : f824 (b + 10) = some (.inl (P.2.1 0, 393216, .inl gy)) := by rw [ef824, va_up_ne _ _ (by omega)]; exact h819
                        have h835 : f824 (b + 11) = some (.inl (P.2.1 2, 912, .inl ga)) := by rw [ef824, va_up_ne _ _ (by omega)]; exact h820
                        have h836 : f824 (b + 12) = some (.inl (P.2.1 1, 2048, .inl gd)) := by rw [ef824, va_up_ne _ _ (by omega)]; exact h821
                        have h837 : f824 b = some (.inr (7, [.ref (b + 1), .int (nI st.1.length), .ref (b + 2), .ref (b + 3), .ref (b + 4), .ref (b + 5), .ref (b + 6), .ref (b + 7), .ref (b + 8), .ref (b + 9), .ref (b + 10), .ref (b + 11), .int (nI L.length), .int (nI (fB st.2.2.2.2.2)), .int (nI (st.2.2.2.2.1 + 1)), .ref (b + 12), .int (nI 0)])) := by rw [ef824]; exact va_up_self _ _ _
                        have hF : gFr f f824 [b, b + 1, b + 2, b + 3, b + 4, b + 5, b + 6, b + 7, b + 8, b + 9, b + 10, b + 11, b + 12] := by rw [ef824]; exact gFr.upA (by simp) hF
                        have hb := h837
                        have h1 := h825
                        have h2 := h826
                        have h3 := h827
                        have h4 := h828
                        have h5 := h829
                        have h6 := h830
                        have h7 := h831
                        have h8 := h832
                        have h9 := h833
                        have h10 := h834
                        have h11 := h835
                        have h12 := h836
                        have hA : gMo P f824 b (aIn st) := ⟨gt, gn, gl, go, gu, gf, gk, gi, gz, gy, ga, gd, L, af, ⟨hb, h1, h2, h3, h4, h5, h6, h7, h8, h9, h10, h11, h12⟩, ⟨ht1, ht2⟩, ⟨hn0, hn1⟩, hd0, hmF, hFS⟩
                        refine lv_aload_n S.1 S.2.1 d_Mdl_run_113 rfl (lv_at hl 1 rfl) ?_
                        refine lv_iconst (v := nI 0) S.1 S.2.1 d_Mdl_run_114 (by decide) ?_
                        refine gc_Vi S hI (c_Mdl_find l P f824 (k := 0) (nm := st.2.1) (af := af) hb h2 h3 h4 h6 h7 hO hN hlL (by omega) hn0 hs) kv_Mdl_find wi_473 hb rfl rfl rfl hl.1 rfl (Nat.le_of_ble_eq_true rfl) ⟨Nat.le_of_ble_eq_true rfl, Nat.le_of_ble_eq_true rfl⟩ ⟨Nat.le_of_ble_eq_true rfl, Nat.le_of_ble_eq_true rfl⟩ d_Mdl_run_115 (fun r838 f839 H locs hp840 hI => ?_)
                        obtain ⟨hp1, hp2⟩ := hp840
                        rw [hp2] at hI
                        rw [hnF] at hp1
                        refine lv_istore (lv' := [(5, .int r838), (4, .int (nI st.2.2.2.2.1)), (0, .ref b), (1, .int (nI 6)), (2, .int aa), (3, .int bb)]) S.1 S.2.1 d_Mdl_run_118 hl (by decide) rfl (fun ls hl => ?_)
                        refine lv_iload_n S.1 S.2.1 d_Mdl_run_120 rfl (lv_at hl 3 rfl) ?_
                        refine lv_tableIn (tgt := 249) S.1 S.2.1 d_Mdl_run_121 (by decide) (by decide) rfl (by decide) ?_
                        refine lv_aload_n S.1 S.2.1 d_Mdl_run_249 rfl (lv_at hl 2 rfl) ?_
                        refine gc_Vi S hI (c_Mdl_rename l P f824 hA hw) kv_Mdl_rename wi_504 hb rfl rfl rfl hl.1 rfl (Nat.le_of_ble_eq_true rfl) ⟨Nat.le_of_ble_eq_true rfl, Nat.le_of_ble_eq_true rfl⟩ ⟨Nat.le_of_ble_eq_true rfl, Nat.le_of_ble_eq_true rfl⟩ d_Mdl_run_250 (fun r841 f842 H locs hp843 hI => ?_)
                        obtain ⟨k1, k2, k3⟩ := hp843
                        rw [← eo] at k1 k2
                        exact gr_i S hr hlk hI (by rw [aRun_op hrf]; exact ⟨k1, k2, hF.call k3 (fun q hq => Or.inl hq)⟩) d_Mdl_run_253
                      · skip
                        replace c808 : 6 = 4 := (nI_eq (a := 6) (b := 4) (by omega) (by omega)).mp c808
                        exact absurd c808 (by omega)
                    · skip
                      replace c807 : 6 = 4 := (nI_eq (a := 6) (b := 4) (by omega) (by omega)).mp c807
                      exact absurd c807 (by omega)
              · skip
                replace c804 : st.2.2.1.length = 0 := (nI_eq (a := st.2.2.1.length) (b := 0) (by omega) (by omega)).mp c804
                refine lv_iconst (v := (-1)) S.1 S.2.1 d_Mdl_run_46 (by decide) ?_
                exact gr_i S hr hlk hI (by rw [aRun_ref (Or.inr (Or.inr (Or.inl ⟨by decide, List.length_eq_zero_iff.mp c804⟩)))]; exact ⟨rfl, h, gFr.rf⟩) d_Mdl_run_47
            · skip
              replace c802 : ¬ 6 = 6 := fun z => c802 ((nI_eq (a := 6) (b := 6) (by omega) (by omega)).mpr z)
              exact absurd c802 (by omega)
      · skip
        refine lv_iload_n S.1 S.2.1 d_Mdl_run_10 rfl (lv_at hl 1 rfl) ?_
        refine lv_bipush (v := nI 9) S.1 S.2.1 d_Mdl_run_11 (by decide) ?_
        refine lv_icmp_eq (tgt := 25) S.1 S.2.1 d_Mdl_run_13 (by decide) (fun c844 => ?_) (fun c844 => ?_)
        · skip
          replace c844 : 7 = 9 := (nI_eq (a := 7) (b := 9) (by omega) (by omega)).mp c844
          exact absurd c844 (by omega)
        · skip
          replace c844 : ¬ 7 = 9 := fun z => c844 ((nI_eq (a := 7) (b := 9) (by omega) (by omega)).mpr z)
          refine lv_aload_n S.1 S.2.1 d_Mdl_run_16 rfl (lv_at hl 0 rfl) ?_
          refine gh_get S hI hb rfl i_Mdl 3 (by decide) wi_438 rfl d_Mdl_run_17 ?_
          refine lv_iconst (v := nI 0) S.1 S.2.1 d_Mdl_run_20 (by decide) ?_
          refine gh_iald (j := 0) S hI 1 h3 rfl rfl (by omega) (by omega) d_Mdl_run_21 ?_
          refine lv_topi (fun v845 ev845 => ?_)
          replace ev845 : v845 = nI st.2.1.length := ev845.trans (hn0.1)
          subst ev845
          refine lv_if_eq (tgt := 46) S.1 S.2.1 d_Mdl_run_22 (by decide) (fun c846 => ?_) (fun c846 => ?_)
          · skip
            replace c846 : st.2.1.length = 0 := (nI_eq (a := st.2.1.length) (b := 0) (by omega) (by omega)).mp c846
            refine lv_iconst (v := (-1)) S.1 S.2.1 d_Mdl_run_46 (by decide) ?_
            exact gr_i S hr hlk hI (by rw [aRun_ref (Or.inr (Or.inl ⟨by decide, List.length_eq_zero_iff.mp c846⟩))]; exact ⟨rfl, h, gFr.rf⟩) d_Mdl_run_47
          · skip
            replace c846 : ¬ st.2.1.length = 0 := fun z => c846 ((nI_eq (a := st.2.1.length) (b := 0) (by omega) (by omega)).mpr z)
            refine lv_iload_n S.1 S.2.1 d_Mdl_run_25 rfl (lv_at hl 1 rfl) ?_
            refine lv_bipush (v := nI 6) S.1 S.2.1 d_Mdl_run_26 (by decide) ?_
            refine lv_icmp_eq (tgt := 37) S.1 S.2.1 d_Mdl_run_28 (by decide) (fun c847 => ?_) (fun c847 => ?_)
            · skip
              replace c847 : 7 = 6 := (nI_eq (a := 7) (b := 6) (by omega) (by omega)).mp c847
              exact absurd c847 (by omega)
            · skip
              replace c847 : ¬ 7 = 6 := fun z => c847 ((nI_eq (a := 7) (b := 6) (by omega) (by omega)).mpr z)
              refine lv_iload_n S.1 S.2.1 d_Mdl_run_31 rfl (lv_at hl 1 rfl) ?_
              refine lv_bipush (v := nI 7) S.1 S.2.1 d_Mdl_run_32 (by decide) ?_
              refine lv_icmp_ne (tgt := 48) S.1 S.2.1 d_Mdl_run_34 (by decide) (fun c848 => ?_) (fun c848 => ?_)
              · skip
                replace c848 : ¬ 7 = 7 := fun z => c848 ((nI_eq (a := 7) (b := 7) (by omega) (by omega)).mpr z)
                exact absurd c848 (by omega)
              · skip
                replace c848 : 7 = 7 := (nI_eq (a := 7) (b := 7) (by omega) (by omega)).mp c848
                refine lv_aload_n S.1 S.2.1 d_Mdl_run_37 rfl (lv_at hl 0 rfl) ?_
                refine gh_get S hI hb rfl i_Mdl 3 (by decide) wi_438 rfl d_Mdl_run_38 ?_
                refine lv_iconst (v := nI 1) S.1 S.2.1 d_Mdl_run_41 (by decide) ?_
                refine gh_iald (j := 1) S hI 1 h3 rfl rfl (by omega) (by omega) d_Mdl_run_42 ?_
                refine lv_topi (fun v849 ev849 => ?_)
                replace ev849 : v849 = nI st.2.2.1.length := ev849.trans (hn1.1)
                subst ev849
                refine lv_if_ne (tgt := 48) S.1 S.2.1 d_Mdl_run_43 (by decide) (fun c850 => ?_) (fun c850 => ?_)
                · skip
                  replace c850 : ¬ st.2.2.1.length = 0 := fun z => c850 ((nI_eq (a := st.2.2.1.length) (b := 0) (by omega) (by omega)).mpr z)
                  refine lv_iload_n S.1 S.2.1 d_Mdl_run_48 rfl (lv_at hl 1 rfl) ?_
                  refine lv_iconst (v := nI 1) S.1 S.2.1 d_Mdl_run_49 (by decide) ?_
                  refine lv_icmp_eq (tgt := 63) S.1 S.2.1 d_Mdl_run_50 (by decide) (fun c851 => ?_) (fun c851 => ?_)
                  · skip
                    replace c851 : 7 = 1 := (nI_eq (a := 7) (b := 1) (by omega) (by omega)).mp c851
                    exact absurd c851 (by omega)
                  · skip
                    replace c851 : ¬ 7 = 1 := fun z => c851 ((nI_eq (a := 7) (b := 1) (by omega) (by omega)).mpr z)
                    refine lv_iload_n S.1 S.2.1 d_Mdl_run_53 rfl (lv_at hl 1 rfl) ?_
                    refine lv_iconst (v := nI 3) S.1 S.2.1 d_Mdl_run_54 (by decide) ?_
                    refine lv_icmp_eq (tgt := 63) S.1 S.2.1 d_Mdl_run_55 (by decide) (fun c852 => ?_) (fun c852 => ?_)
                    · skip
                      replace c852 : 7 = 3 := (nI_eq (a := 7) (b := 3) (by omega) (by omega)).mp c852
                      exact absurd c852 (by omega)
                    · skip
                      replace c852 : ¬ 7 = 3 := fun z => c852 ((nI_eq (a := 7) (b := 3) (by omega) (by omega)).mpr z)
                      refine lv_iload_n S.1 S.2.1 d_Mdl_run_58 rfl (lv_at hl 1 rfl) ?_
                      refine lv_iconst (v := nI 4) S.1 S.2.1 d_Mdl_run_59 (by decide) ?_
                      refine lv_icmp_ne (tgt := 74) S.1 S.2.1 d_Mdl_run_60 (by decide) (fun c853 => ?_) (fun c853 => ?_)
                      · skip
                        replace c853 : ¬ 7 = 4 := fun z => c853 ((nI_eq (a := 7) (b := 4) (by omega) (by omega)).mpr z)
                        refine lv_iload_n S.1 S.2.1 d_Mdl_run_74 rfl (lv_at hl 1 rfl) ?_
                        refine lv_iconst (v := nI 4) S.1 S.2.1 d_Mdl_run_75 (by decide) ?_
                        refine lv_icmp_ne (tgt := 92) S.1 S.2.1 d_Mdl_run_76 (by decide) (fun c854 => ?_) (fun c854 => ?_)
                        · skip
                          replace c854 : ¬ 7 = 4 := fun z => c854 ((nI_eq (a := 7) (b := 4) (by omega) (by omega)).mpr z)
                          have hrf : ¬ aRef st (nI 7) aa bb := aRef_no (by decide) (fun _ z => c846 (by rw [z]; rfl)) (fun _ z => c850 (by rw [z]; rfl)) (fun z => absurd z (by decide)) (fun z => absurd z (by decide))
                          have eo : aOp st (nI 7) aa bb = oSwap st := by unfold aOp; rw [if_neg (show ¬ (nI 7 : Int32) = 0 by decide), if_neg (show ¬ (nI 7 : Int32) = 1 by decide), if_neg (show ¬ (nI 7 : Int32) = 2 by decide), if_neg (show ¬ (nI 7 : Int32) = 3 by decide), if_neg (show ¬ (nI 7 : Int32) = 4 by decide), if_neg (show ¬ (nI 7 : Int32) = 5 by decide), if_neg (show ¬ (nI 7 : Int32) = 6 by decide), if_pos (show (nI 7 : Int32) = 7 by decide)]
                          have hF : gFr f f [b, b + 1, b + 2, b + 3, b + 4, b + 5, b + 6, b + 7, b + 8, b + 9, b + 10, b + 11, b + 12] := gFr.rf
                          refine lv_aload_n S.1 S.2.1 d_Mdl_run_92 rfl (lv_at hl 0 rfl) ?_
                          refine lv_iconst (v := nI 0) S.1 S.2.1 d_Mdl_run_93 (by decide) ?_
                          refine gh_put S hI hb rfl i_Mdl t_Mdl tk_Mdl n_Mdl 16 (by decide) wi_451 rfl rfl rfl (Nat.le_of_ble_eq_true rfl) d_Mdl_run_94 (fun H locs hI => ?_)
                          have hI : gB P (va_up f b (some (.inr (7, [.ref (b + 1), .int (nI st.1.length), .ref (b + 2), .ref (b + 3), .ref (b + 4), .ref (b + 5), .ref (b + 6), .ref (b + 7), .ref (b + 8), .ref (b + 9), .ref (b + 10), .ref (b + 11), .int (nI L.length), .int (nI (fB st.2.2.2.2.2)), .int (nI st.2.2.2.2.1), .ref (b + 12), .int (nI 0)])))) s H locs := hI
                          obtain ⟨f855, ef855⟩ : ∃ z, z = va_up f b (some (.inr (7, [.ref (b + 1), .int (nI st.1.length), .ref (b + 2), .ref (b + 3), .ref (b + 4), .ref (b + 5), .ref (b + 6), .ref (b + 7), .ref (b + 8), .ref (b + 9), .ref (b + 10), .ref (b + 11), .int (nI L.length), .int (nI (fB st.2.2.2.2.2)), .int (nI st.2.2.2.2.1), .ref (b + 12), .int (nI 0)]))) := ⟨_, rfl⟩
                          rw [← ef855] at hI
                          have h856 : f855 (b + 1) = some (.inl (P.2.1 0, 2048, .inl gt)) := by rw [ef855, va_up_ne _ _ (by omega)]; exact h1
                          have h857 : f855 (b + 2) = some (.inl (P.2.1 0, 400, .inl gn)) := by rw [ef855, va_up_ne _ _ (by omega)]; exact h2
                          have h858 : f855 (b + 3) = some (.inl (P.2.1 1, 2, .inl gl)) := by rw [ef855, va_up_ne _ _ (by omega)]; exact h3
                          have h859 : f855 (b + 4) = some (.inl (P.2.1 1, 48, .inl go)) := by rw [ef855, va_up_ne _ _ (by omega)]; exact h4
                          have h860 : f855 (b + 5) = some (.inl (P.2.1 2, 48, .inl gu)) := by rw [ef855, va_up_ne _ _ (by omega)]; exact h5
                          have h861 : f855 (b + 6) = some (.inl (P.2.1 0, 9600, .inl gf)) := by rw [ef855, va_up_ne _ _ (by omega)]; exact h6
                          have h862 : f855 (b + 7) = some (.inl (P.2.1 1, 48, .inl gk)) := by rw [ef855, va_up_ne _ _ (by omega)]; exact h7
                          have h863 : f855 (b + 8) = some (.inl (P.2.1 1, 48, .inl gi)) := by rw [ef855, va_up_ne _ _ (by omega)]; exact h8
                          have h864 : f855 (b + 9) = some (.inl (P.2.1 1, 48, .inl gz)) := by rw [ef855, va_up_ne _ _ (by omega)]; exact h9
                          have h865 : f855 (b + 10) = some (.inl (P.2.1 0, 393216, .inl gy)) := by rw [ef855, va_up_ne _ _ (by omega)]; exact h10
                          have h866 : f855 (b + 11) = some (.inl (P.2.1 2, 912, .inl ga)) := by rw [ef855, va_up_ne _ _ (by omega)]; exact h11
                          have h867 : f855 (b + 12) = some (.inl (P.2.1 1, 2048, .inl gd)) := by rw [ef855, va_up_ne _ _ (by omega)]; exact h12
                          have h868 : f855 b = some (.inr (7, [.ref (b + 1), .int (nI st.1.length), .ref (b + 2), .ref (b + 3), .ref (b + 4), .ref (b + 5), .ref (b + 6), .ref (b + 7), .ref (b + 8), .ref (b + 9), .ref (b + 10), .ref (b + 11), .int (nI L.length), .int (nI (fB st.2.2.2.2.2)), .int (nI st.2.2.2.2.1), .ref (b + 12), .int (nI 0)])) := by rw [ef855]; exact va_up_self _ _ _
                          have hF : gFr f f855 [b, b + 1, b + 2, b + 3, b + 4, b + 5, b + 6, b + 7, b + 8, b + 9, b + 10, b + 11, b + 12] := by rw [ef855]; exact gFr.upA (by simp) hF
                          refine lv_aload_n S.1 S.2.1 d_Mdl_run_97 rfl (lv_at hl 0 rfl) ?_
                          refine gh_get S hI h868 rfl i_Mdl 14 (by decide) wi_449 rfl d_Mdl_run_98 ?_
                          refine lv_istore (lv' := [(4, .int (nI st.2.2.2.2.1)), (0, .ref b), (1, .int (nI 7)), (2, .int aa), (3, .int bb)]) S.1 S.2.1 d_Mdl_run_101 hl (by decide) rfl (fun ls hl => ?_)
                          refine lv_aload_n S.1 S.2.1 d_Mdl_run_103 rfl (lv_at hl 1 rfl) ?_
                          refine lv_dup S.1 S.2.1 d_Mdl_run_104 rfl ?_
                          refine gh_get S hI h868 rfl i_Mdl 14 (by decide) wi_449 rfl d_Mdl_run_105 ?_
                          refine lv_iconst (v := nI 1) S.1 S.2.1 d_Mdl_run_108 (by decide) ?_
                          refine lv_iadd S.1 S.2.1 d_Mdl_run_109 ?_
                          refine lv_topi (fun v869 ev869 => ?_)
                          replace ev869 : v869 = nI (st.2.2.2.2.1 + 1) := ev869.trans (nI_add _ _)
                          subst ev869
                          refine gh_put S hI h868 rfl i_Mdl t_Mdl tk_Mdl n_Mdl 14 (by decide) wi_449 rfl rfl rfl (Nat.le_of_ble_eq_true rfl) d_Mdl_run_110 (fun H locs hI => ?_)
                          have hI : gB P (va_up f855 b (some (.inr (7, [.ref (b + 1), .int (nI st.1.length), .ref (b + 2), .ref (b + 3), .ref (b + 4), .ref (b + 5), .ref (b + 6), .ref (b + 7), .ref (b + 8), .ref (b + 9), .ref (b + 10), .ref (b + 11), .int (nI L.length), .int (nI (fB st.2.2.2.2.2)), .int (nI (st.2.2.2.2.1 + 1)), .ref (b + 12), .int (nI 0)])))) s H locs := hI
                          obtain ⟨f870, ef870⟩ : ∃ z, z = va_up f855 b (some (.inr (7, [.ref (b + 1), .int (nI st.1.length), .ref (b + 2), .ref (b + 3), .ref (b + 4), .ref (b + 5), .ref (b + 6), .ref (b + 7), .ref (b + 8), .ref (b + 9), .ref (b + 10), .ref (b + 11), .int (nI L.length), .int (nI (fB st.2.2.2.2.2)), .int (nI (st.2.2.2.2.1 + 1)), .ref (b + 12), .int (nI 0)]))) := ⟨_, rfl⟩
                          rw [← ef870] at hI
                          have h871 : f870 (b + 1) = some (.inl (P.2.1 0, 2048, .inl gt)) := by rw [ef870, va_up_ne _ _ (by omega)]; exact h856
                          have h872 : f870 (b + 2) = some (.inl (P.2.1 0, 400, .inl gn)) := by rw [ef870, va_up_ne _ _ (by omega)]; exact h857
                          have h873 : f870 (b + 3) = some (.inl (P.2.1 1, 2, .inl gl)) := by rw [ef870, va_up_ne _ _ (by omega)]; exact h858
                          have h874 : f870 (b + 4) = some (.inl (P.2.1 1, 48, .inl go)) := by rw [ef870, va_up_ne _ _ (by omega)]; exact h859
                          have h875 : f870 (b + 5) = some (.inl (P.2.1 2, 48, .inl gu)) := by rw [ef870, va_up_ne _ _ (by omega)]; exact h860
                          have h876 : f870 (b + 6) = some (.inl (P.2.1 0, 9600, .inl gf)) := by rw [ef870, va_up_ne _ _ (by omega)]; exact h861
                          have h877 : f870 (b + 7) = some (.inl (P.2.1 1, 48, .inl gk)) := by rw [ef870, va_up_ne _ _ (by omega)]; exact h862
                          have h878 : f870 (b + 8) = some (.inl (P.2.1 1, 48, .inl gi)) := by rw [ef870, va_up_ne _ _ (by omega)]; exact h863
                          have h879 : f870 (b + 9) = some (.inl (P.2.1 1, 48, .inl gz)) := by rw [ef870, va_up_ne _ _ (by omega)]; exact h864
                          have h880 : f870 (b + 10) = some (.inl (P.2.1 0, 393216, .inl gy)) := by rw [ef870, va_up_ne _ _ (by omega)]; exact h865
                          have h881 : f870 (b + 11) = some (.inl (P.2.1 2, 912, .inl ga)) := by rw [ef870, va_up_ne _ _ (by omega)]; exact h866
                          have h882 : f870 (b + 12) = some (.inl (P.2.1 1, 2048, .inl gd)) := by rw [ef870, va_up_ne _ _ (by omega)]; exact h867
                          have h883 : f870 b = some (.inr (7, [.ref (b + 1), .int (nI st.1.length), .ref (b + 2), .ref (b + 3), .ref (b + 4), .ref (b + 5), .ref (b + 6), .ref (b + 7), .ref (b + 8), .ref (b + 9), .ref (b + 10), .ref (b + 11), .int (nI L.length), .int (nI (fB st.2.2.2.2.2)), .int (nI (st.2.2.2.2.1 + 1)), .ref (b + 12), .int (nI 0)])) := by rw [ef870]; exact va_up_self _ _ _
                          have hF : gFr f f870 [b, b + 1, b + 2, b + 3, b + 4, b + 5, b + 6, b + 7, b + 8, b + 9, b + 10, b + 11, b + 12] := by rw [ef870]; exact gFr.upA (by simp) hF
                          have hb := h883
                          have h1 := h871
                          have h2 := h872
                          have h3 := h873
                          have h4 := h874
                          have h5 := h875
                          have h6 := h876
                          have h7 := h877
                          have h8 := h878
                          have h9 := h879
                          have h10 := h880
                          have h11 := h881
                          have h12 := h882
                          have hA : gMo P f870 b (aIn st) := ⟨gt, gn, gl, go, gu, gf, gk, gi, gz, gy, ga, gd, L, af, ⟨hb, h1, h2, h3, h4, h5, h6, h7, h8, h9, h10, h11, h12⟩, ⟨ht1, ht2⟩, ⟨hn0, hn1⟩, hd0, hmF, hFS⟩
                          refine lv_aload_n S.1 S.2.1 d_Mdl_run_113 rfl (lv_at hl 1 rfl) ?_
                          refine lv_iconst (v := nI 0) S.1 S.2.1 d_Mdl_run_114 (by decide) ?_
                          refine gc_Vi S hI (c_Mdl_find l P f870 (k := 0) (nm := st.2.1) (af := af) hb h2 h3 h4 h6 h7 hO hN hlL (by omega) hn0 hs) kv_Mdl_find wi_473 hb rfl rfl rfl hl.1 rfl (Nat.le_of_ble_eq_true rfl) ⟨Nat.le_of_ble_eq_true rfl, Nat.le_of_ble_eq_true rfl⟩ ⟨Nat.le_of_ble_eq_true rfl, Nat.le_of_ble_eq_true rfl⟩ d_Mdl_run_115 (fun r884 f885 H locs hp886 hI => ?_)
                          obtain ⟨hp1, hp2⟩ := hp886
                          rw [hp2] at hI
                          rw [hnF] at hp1
                          refine lv_istore (lv' := [(5, .int r884), (4, .int (nI st.2.2.2.2.1)), (0, .ref b), (1, .int (nI 7)), (2, .int aa), (3, .int bb)]) S.1 S.2.1 d_Mdl_run_118 hl (by decide) rfl (fun ls hl => ?_)
                          refine lv_iload_n S.1 S.2.1 d_Mdl_run_120 rfl (lv_at hl 3 rfl) ?_
                          refine lv_tableIn (tgt := 254) S.1 S.2.1 d_Mdl_run_121 (by decide) (by decide) rfl (by decide) ?_
                          refine lv_aload_n S.1 S.2.1 d_Mdl_run_254 rfl (lv_at hl 2 rfl) ?_
                          refine gc_Vi S hI (c_Mdl_swap l P f870 hA hw) kv_Mdl_swap wi_507 hb rfl rfl rfl hl.1 rfl (Nat.le_of_ble_eq_true rfl) ⟨Nat.le_of_ble_eq_true rfl, Nat.le_of_ble_eq_true rfl⟩ ⟨Nat.le_of_ble_eq_true rfl, Nat.le_of_ble_eq_true rfl⟩ d_Mdl_run_255 (fun r887 f888 H locs hp889 hI => ?_)
                          obtain ⟨k1, k2, k3⟩ := hp889
                          rw [← eo] at k1 k2
                          exact gr_i S hr hlk hI (by rw [aRun_op hrf]; exact ⟨k1, k2, hF.call k3 (fun q hq => Or.inl hq)⟩) d_Mdl_run_258
                        · skip
                          replace c854 : 7 = 4 := (nI_eq (a := 7) (b := 4) (by omega) (by omega)).mp c854
                          exact absurd c854 (by omega)
                      · skip
                        replace c853 : 7 = 4 := (nI_eq (a := 7) (b := 4) (by omega) (by omega)).mp c853
                        exact absurd c853 (by omega)
                · skip
                  replace c850 : st.2.2.1.length = 0 := (nI_eq (a := st.2.2.1.length) (b := 0) (by omega) (by omega)).mp c850
                  refine lv_iconst (v := (-1)) S.1 S.2.1 d_Mdl_run_46 (by decide) ?_
                  exact gr_i S hr hlk hI (by rw [aRun_ref (Or.inr (Or.inr (Or.inl ⟨by decide, List.length_eq_zero_iff.mp c850⟩)))]; exact ⟨rfl, h, gFr.rf⟩) d_Mdl_run_47
      · skip
        refine lv_iload_n S.1 S.2.1 d_Mdl_run_10 rfl (lv_at hl 1 rfl) ?_
        refine lv_bipush (v := nI 9) S.1 S.2.1 d_Mdl_run_11 (by decide) ?_
        refine lv_icmp_eq (tgt := 25) S.1 S.2.1 d_Mdl_run_13 (by decide) (fun c890 => ?_) (fun c890 => ?_)
        · skip
          replace c890 : 8 = 9 := (nI_eq (a := 8) (b := 9) (by omega) (by omega)).mp c890
          exact absurd c890 (by omega)
        · skip
          replace c890 : ¬ 8 = 9 := fun z => c890 ((nI_eq (a := 8) (b := 9) (by omega) (by omega)).mpr z)
          refine lv_aload_n S.1 S.2.1 d_Mdl_run_16 rfl (lv_at hl 0 rfl) ?_
          refine gh_get S hI hb rfl i_Mdl 3 (by decide) wi_438 rfl d_Mdl_run_17 ?_
          refine lv_iconst (v := nI 0) S.1 S.2.1 d_Mdl_run_20 (by decide) ?_
          refine gh_iald (j := 0) S hI 1 h3 rfl rfl (by omega) (by omega) d_Mdl_run_21 ?_
          refine lv_topi (fun v891 ev891 => ?_)
          replace ev891 : v891 = nI st.2.1.length := ev891.trans (hn0.1)
          subst ev891
          refine lv_if_eq (tgt := 46) S.1 S.2.1 d_Mdl_run_22 (by decide) (fun c892 => ?_) (fun c892 => ?_)
          · skip
            replace c892 : st.2.1.length = 0 := (nI_eq (a := st.2.1.length) (b := 0) (by omega) (by omega)).mp c892
            refine lv_iconst (v := (-1)) S.1 S.2.1 d_Mdl_run_46 (by decide) ?_
            exact gr_i S hr hlk hI (by rw [aRun_ref (Or.inr (Or.inl ⟨by decide, List.length_eq_zero_iff.mp c892⟩))]; exact ⟨rfl, h, gFr.rf⟩) d_Mdl_run_47
          · skip
            replace c892 : ¬ st.2.1.length = 0 := fun z => c892 ((nI_eq (a := st.2.1.length) (b := 0) (by omega) (by omega)).mpr z)
            refine lv_iload_n S.1 S.2.1 d_Mdl_run_25 rfl (lv_at hl 1 rfl) ?_
            refine lv_bipush (v := nI 6) S.1 S.2.1 d_Mdl_run_26 (by decide) ?_
            refine lv_icmp_eq (tgt := 37) S.1 S.2.1 d_Mdl_run_28 (by decide) (fun c893 => ?_) (fun c893 => ?_)
            · skip
              replace c893 : 8 = 6 := (nI_eq (a := 8) (b := 6) (by omega) (by omega)).mp c893
              exact absurd c893 (by omega)
            · skip
              replace c893 : ¬ 8 = 6 := fun z => c893 ((nI_eq (a := 8) (b := 6) (by omega) (by omega)).mpr z)
              refine lv_iload_n S.1 S.2.1 d_Mdl_run_31 rfl (lv_at hl 1 rfl) ?_
              refine lv_bipush (v := nI 7) S.1 S.2.1 d_Mdl_run_32 (by decide) ?_
              refine lv_icmp_ne (tgt := 48) S.1 S.2.1 d_Mdl_run_34 (by decide) (fun c894 => ?_) (fun c894 => ?_)
              · skip
                replace c894 : ¬ 8 = 7 := fun z => c894 ((nI_eq (a := 8) (b := 7) (by omega) (by omega)).mpr z)
                refine lv_iload_n S.1 S.2.1 d_Mdl_run_48 rfl (lv_at hl 1 rfl) ?_
                refine lv_iconst (v := nI 1) S.1 S.2.1 d_Mdl_run_49 (by decide) ?_
                refine lv_icmp_eq (tgt := 63) S.1 S.2.1 d_Mdl_run_50 (by decide) (fun c895 => ?_) (fun c895 => ?_)
                · skip
                  replace c895 : 8 = 1 := (nI_eq (a := 8) (b := 1) (by omega) (by omega)).mp c895
                  exact absurd c895 (by omega)
                · skip
                  replace c895 : ¬ 8 = 1 := fun z => c895 ((nI_eq (a := 8) (b := 1) (by omega) (by omega)).mpr z)
                  refine lv_iload_n S.1 S.2.1 d_Mdl_run_53 rfl (lv_at hl 1 rfl) ?_
                  refine lv_iconst (v := nI 3) S.1 S.2.1 d_Mdl_run_54 (by decide) ?_
                  refine lv_icmp_eq (tgt := 63) S.1 S.2.1 d_Mdl_run_55 (by decide) (fun c896 => ?_) (fun c896 => ?_)
                  · skip
                    replace c896 : 8 = 3 := (nI_eq (a := 8) (b := 3) (by omega) (by omega)).mp c896
                    exact absurd c896 (by omega)
                  · skip
                    replace c896 : ¬ 8 = 3 := fun z => c896 ((nI_eq (a := 8) (b := 3) (by omega) (by omega)).mpr z)
                    refine lv_iload_n S.1 S.2.1 d_Mdl_run_58 rfl (lv_at hl 1 rfl) ?_
                    refine lv_iconst (v := nI 4) S.1 S.2.1 d_Mdl_run_59 (by decide) ?_
                    refine lv_icmp_ne (tgt := 74) S.1 S.2.1 d_Mdl_run_60 (by decide) (fun c897 => ?_) (fun c897 => ?_)
                    · skip
                      replace c897 : ¬ 8 = 4 := fun z => c897 ((nI_eq (a := 8) (b := 4) (by omega) (by omega)).mpr z)
                      refine lv_iload_n S.1 S.2.1 d_Mdl_run_74 rfl (lv_at hl 1 rfl) ?_
                      refine lv_iconst (v := nI 4) S.1 S.2.1 d_Mdl_run_75 (by decide) ?_
                      refine lv_icmp_ne (tgt := 92) S.1 S.2.1 d_Mdl_run_76 (by decide) (fun c898 => ?_) (fun c898 => ?_)
                      · skip
                        replace c898 : ¬ 8 = 4 := fun z => c898 ((nI_eq (a := 8) (b := 4) (by omega) (by omega)).mpr z)
                        have hrf : ¬ aRef st (nI 8) aa bb := aRef_no (by decide) (fun _ z => c892 (by rw [z]; rfl)) (fun z => absurd z (by decide)) (fun z => absurd z (by decide)) (fun z => absurd z (by decide))
                        have eo : aOp st (nI 8) aa bb = oSize st := by unfold aOp; rw [if_neg (show ¬ (nI 8 : Int32) = 0 by decide), if_neg (show ¬ (nI 8 : Int32) = 1 by decide), if_neg (show ¬ (nI 8 : Int32) = 2 by decide), if_neg (show ¬ (nI 8 : Int32) = 3 by decide), if_neg (show ¬ (nI 8 : Int32) = 4 by decide), if_neg (show ¬ (nI 8 : Int32) = 5 by decide), if_neg (show ¬ (nI 8 : Int32) = 6 by decide), if_neg (show ¬ (nI 8 : Int32) = 7 by decide), if_pos (show (nI 8 : Int32) = 8 by decide)]
                        have hF : gFr f f [b, b + 1, b + 2, b + 3, b + 4, b + 5, b + 6, b + 7, b + 8, b + 9, b + 10, b + 11, b + 12] := gFr.rf
                        refine lv_aload_n S.1 S.2.1 d_Mdl_run_92 rfl (lv_at hl 0 rfl) ?_
                        refine lv_iconst (v := nI 0) S.1 S.2.1 d_Mdl_run_93 (by decide) ?_
                        refine gh_put S hI hb rfl i_Mdl t_Mdl tk_Mdl n_Mdl 16 (by decide) wi_451 rfl rfl rfl (Nat.le_of_ble_eq_true rfl) d_Mdl_run_94 (fun H locs hI => ?_)
                        have hI : gB P (va_up f b (some (.inr (7, [.ref (b + 1), .int (nI st.1.length), .ref (b + 2), .ref (b + 3), .ref (b + 4), .ref (b + 5), .ref (b + 6), .ref (b + 7), .ref (b + 8), .ref (b + 9), .ref (b + 10), .ref (b + 11), .int (nI L.length), .int (nI (fB st.2.2.2.2.2)), .int (nI st.2.2.2.2.1), .ref (b + 12), .int (nI 0)])))) s H locs := hI
                        obtain ⟨f899, ef899⟩ : ∃ z, z = va_up f b (some (.inr (7, [.ref (b + 1), .int (nI st.1.length), .ref (b + 2), .ref (b + 3), .ref (b + 4), .ref (b + 5), .ref (b + 6), .ref (b + 7), .ref (b + 8), .ref (b + 9), .ref (b + 10), .ref (b + 11), .int (nI L.length), .int (nI (fB st.2.2.2.2.2)), .int (nI st.2.2.2.2.1), .ref (b + 12), .int (nI 0)]))) := ⟨_, rfl⟩
                        rw [← ef899] at hI
                        have h900 : f899 (b + 1) = some (.inl (P.2.1 0, 2048, .inl gt)) := by rw [ef899, va_up_ne _ _ (by omega)]; exact h1
                        have h901 : f899 (b + 2) = some (.inl (P.2.1 0, 400, .inl gn)) := by rw [ef899, va_up_ne _ _ (by omega)]; exact h2
                        have h902 : f899 (b + 3) = some (.inl (P.2.1 1, 2, .inl gl)) := by rw [ef899, va_up_ne _ _ (by omega)]; exact h3
                        have h903 : f899 (b + 4) = some (.inl (P.2.1 1, 48, .inl go)) := by rw [ef899, va_up_ne _ _ (by omega)]; exact h4
                        have h904 : f899 (b + 5) = some (.inl (P.2.1 2, 48, .inl gu)) := by rw [ef899, va_up_ne _ _ (by omega)]; exact h5
                        have h905 : f899 (b + 6) = some (.inl (P.2.1 0, 9600, .inl gf)) := by rw [ef899, va_up_ne _ _ (by omega)]; exact h6
                        have h906 : f899 (b + 7) = some (.inl (P.2.1 1, 48, .inl gk)) := by rw [ef899, va_up_ne _ _ (by omega)]; exact h7
                        have h907 : f899 (b + 8) = some (.inl (P.2.1 1, 48, .inl gi)) := by rw [ef899, va_up_ne _ _ (by omega)]; exact h8
                        have h908 : f899 (b + 9) = some (.inl (P.2.1 1, 48, .inl gz)) := by rw [ef899, va_up_ne _ _ (by omega)]; exact h9
                        have h909 : f899 (b + 10) = some (.inl (P.2.1 0, 393216, .inl gy)) := by rw [ef899, va_up_ne _ _ (by omega)]; exact h10
                        have h910 : f899 (b + 11) = some (.inl (P.2.1 2, 912, .inl ga)) := by rw [ef899, va_up_ne _ _ (by omega)]; exact h11
                        have h911 : f899 (b + 12) = some (.inl (P.2.1 1, 2048, .inl gd)) := by rw [ef899, va_up_ne _ _ (by omega)]; exact h12
                        have h912 : f899 b = some (.inr (7, [.ref (b + 1), .int (nI st.1.length), .ref (b + 2), .ref (b + 3), .ref (b + 4), .ref (b + 5), .ref (b + 6), .ref (b + 7), .ref (b + 8), .ref (b + 9), .ref (b + 10), .ref (b + 11), .int (nI L.length), .int (nI (fB st.2.2.2.2.2)), .int (nI st.2.2.2.2.1), .ref (b + 12), .int (nI 0)])) := by rw [ef899]; exact va_up_self _ _ _
                        have hF : gFr f f899 [b, b + 1, b + 2, b + 3, b + 4, b + 5, b + 6, b + 7, b + 8, b + 9, b + 10, b + 11, b + 12] := by rw [ef899]; exact gFr.upA (by simp) hF
                        refine lv_aload_n S.1 S.2.1 d_Mdl_run_97 rfl (lv_at hl 0 rfl) ?_
                        refine gh_get S hI h912 rfl i_Mdl 14 (by decide) wi_449 rfl d_Mdl_run_98 ?_
                        refine lv_istore (lv' := [(4, .int (nI st.2.2.2.2.1)), (0, .ref b), (1, .int (nI 8)), (2, .int aa), (3, .int bb)]) S.1 S.2.1 d_Mdl_run_101 hl (by decide) rfl (fun ls hl => ?_)
                        refine lv_aload_n S.1 S.2.1 d_Mdl_run_103 rfl (lv_at hl 1 rfl) ?_
                        refine lv_dup S.1 S.2.1 d_Mdl_run_104 rfl ?_
                        refine gh_get S hI h912 rfl i_Mdl 14 (by decide) wi_449 rfl d_Mdl_run_105 ?_
                        refine lv_iconst (v := nI 1) S.1 S.2.1 d_Mdl_run_108 (by decide) ?_
                        refine lv_iadd S.1 S.2.1 d_Mdl_run_109 ?_
                        refine lv_topi (fun v913 ev913 => ?_)
                        replace ev913 : v913 = nI (st.2.2.2.2.1 + 1) := ev913.trans (nI_add _ _)
                        subst ev913
                        refine gh_put S hI h912 rfl i_Mdl t_Mdl tk_Mdl n_Mdl 14 (by decide) wi_449 rfl rfl rfl (Nat.le_of_ble_eq_true rfl) d_Mdl_run_110 (fun H locs hI => ?_)
                        have hI : gB P (va_up f899 b (some (.inr (7, [.ref (b + 1), .int (nI st.1.length), .ref (b + 2), .ref (b + 3), .ref (b + 4), .ref (b + 5), .ref (b + 6), .ref (b + 7), .ref (b + 8), .ref (b + 9), .ref (b + 10), .ref (b + 11), .int (nI L.length), .int (nI (fB st.2.2.2.2.2)), .int (nI (st.2.2.2.2.1 + 1)), .ref (b + 12), .int (nI 0)])))) s H locs := hI
                        obtain ⟨f914, ef914⟩ : ∃ z, z = va_up f899 b (some (.inr (7, [.ref (b + 1), .int (nI st.1.length), .ref (b + 2), .ref (b + 3), .ref (b + 4), .ref (b + 5), .ref (b + 6), .ref (b + 7), .ref (b + 8), .ref (b + 9), .ref (b + 10), .ref (b + 11), .int (nI L.length), .int (nI (fB st.2.2.2.2.2)), .int (nI (st.2.2.2.2.1 + 1)), .ref (b + 12), .int (nI 0)]))) := ⟨_, rfl⟩
                        rw [← ef914] at hI
                        have h915 : f914 (b + 1) = some (.inl (P.2.1 0, 2048, .inl gt)) := by rw [ef914, va_up_ne _ _ (by omega)]; exact h900
                        have h916 : f914 (b + 2) = some (.inl (P.2.1 0, 400, .inl gn)) := by rw [ef914, va_up_ne _ _ (by omega)]; exact h901
                        have h917 : f914 (b + 3) = some (.inl (P.2.1 1, 2, .inl gl)) := by rw [ef914, va_up_ne _ _ (by omega)]; exact h902
                        have h918 : f914 (b + 4) = some (.inl (P.2.1 1, 48, .inl go)) := by rw [ef914, va_up_ne _ _ (by omega)]; exact h903
                        have h919 : f914 (b + 5) = some (.inl (P.2.1 2, 48, .inl gu)) := by rw [ef914, va_up_ne _ _ (by omega)]; exact h904
                        have h920 : f914 (b + 6) = some (.inl (P.2.1 0, 9600, .inl gf)) := by rw [ef914, va_up_ne _ _ (by omega)]; exact h905
                        have h921 : f914 (b + 7) = some (.inl (P.2.1 1, 48, .inl gk)) := by rw [ef914, va_up_ne _ _ (by omega)]; exact h906
                        have h922 : f914 (b + 8) = some (.inl (P.2.1 1, 48, .inl gi)) := by rw [ef914, va_up_ne _ _ (by omega)]; exact h907
                        have h923 : f914 (b + 9) = some (.inl (P.2.1 1, 48, .inl gz)) := by rw [ef914, va_up_ne _ _ (by omega)]; exact h908
                        have h924 : f914 (b + 10) = some (.inl (P.2.1 0, 393216, .inl gy)) := by rw [ef914, va_up_ne _ _ (by omega)]; exact h909
                        have h925 : f914 (b + 11) = some (.inl (P.2.1 2, 912, .inl ga)) := by rw [ef914, va_up_ne _ _ (by omega)]; exact h910
                        have h926 : f914 (b + 12) = some (.inl (P.2.1 1, 2048, .inl gd)) := by rw [ef914, va_up_ne _ _ (by omega)]; exact h911
                        have h927 : f914 b = some (.inr (7, [.ref (b + 1), .int (nI st.1.length), .ref (b + 2), .ref (b + 3), .ref (b + 4), .ref (b + 5), .ref (b + 6), .ref (b + 7), .ref (b + 8), .ref (b + 9), .ref (b + 10), .ref (b + 11), .int (nI L.length), .int (nI (fB st.2.2.2.2.2)), .int (nI (st.2.2.2.2.1 + 1)), .ref (b + 12), .int (nI 0)])) := by rw [ef914]; exact va_up_self _ _ _
                        have hF : gFr f f914 [b, b + 1, b + 2, b + 3, b + 4, b + 5, b + 6, b + 7, b + 8, b + 9, b + 10, b + 11, b + 12] := by rw [ef914]; exact gFr.upA (by simp) hF
                        have hb := h927
                        have h1 := h915
                        have h2 := h916
                        have h3 := h917
                        have h4 := h918
                        have h5 := h919
                        have h6 := h920
                        have h7 := h921
                        have h8 := h922
                        have h9 := h923
                        have h10 := h924
                        have h11 := h925
                        have h12 := h926
                        have hA : gMo P f914 b (aIn st) := ⟨gt, gn, gl, go, gu, gf, gk, gi, gz, gy, ga, gd, L, af, ⟨hb, h1, h2, h3, h4, h5, h6, h7, h8, h9, h10, h11, h12⟩, ⟨ht1, ht2⟩, ⟨hn0, hn1⟩, hd0, hmF, hFS⟩
                        refine lv_aload_n S.1 S.2.1 d_Mdl_run_113 rfl (lv_at hl 1 rfl) ?_
                        refine lv_iconst (v := nI 0) S.1 S.2.1 d_Mdl_run_114 (by decide) ?_
                        refine gc_Vi S hI (c_Mdl_find l P f914 (k := 0) (nm := st.2.1) (af := af) hb h2 h3 h4 h6 h7 hO hN hlL (by omega) hn0 hs) kv_Mdl_find wi_473 hb rfl rfl rfl hl.1 rfl (Nat.le_of_ble_eq_true rfl) ⟨Nat.le_of_ble_eq_true rfl, Nat.le_of_ble_eq_true rfl⟩ ⟨Nat.le_of_ble_eq_true rfl, Nat.le_of_ble_eq_true rfl⟩ d_Mdl_run_115 (fun r928 f929 H locs hp930 hI => ?_)
                        obtain ⟨hp1, hp2⟩ := hp930
                        rw [hp2] at hI
                        rw [hnF] at hp1
                        refine lv_istore (lv' := [(5, .int r928), (4, .int (nI st.2.2.2.2.1)), (0, .ref b), (1, .int (nI 8)), (2, .int aa), (3, .int bb)]) S.1 S.2.1 d_Mdl_run_118 hl (by decide) rfl (fun ls hl => ?_)
                        refine lv_iload_n S.1 S.2.1 d_Mdl_run_120 rfl (lv_at hl 3 rfl) ?_
                        rcases hp1 with ⟨hix, hr9⟩ | ⟨i, q, hix, hq, hr9⟩
                        · subst hr9
                          refine lv_tableIn (tgt := 259) S.1 S.2.1 d_Mdl_run_121 (by decide) (by decide) rfl (by decide) ?_
                          refine lv_iload S.1 S.2.1 d_Mdl_run_259 (lv_at hl 0 rfl) ?_
                          refine lv_if_ge (tgt := 269) S.1 S.2.1 d_Mdl_run_261 (by decide) (fun c931 => ?_) (fun c931 => ?_)
                          · skip
                            exact absurd c931 (by decide)
                          · skip
                            refine lv_bipush (v := (-2)) S.1 S.2.1 d_Mdl_run_264 (by decide) ?_
                            refine lv_goto (tgt := 276) S.1 S.2.1 d_Mdl_run_266 (by decide) ?_
                            exact gr_i S hr hlk hI (by rw [aRun_op hrf, eo, oSize_n hix]; exact ⟨rfl, hA, hF⟩) d_Mdl_run_276
                        · subst hr9
                          have hqL := List.mem_of_getElem? hq
                          obtain ⟨hq48, hqn, p1, p2, p3, p4⟩ := hM q hqL
                          have hgD : st.2.2.2.2.2.getD i (fNew [] 0) = af q := by rw [← hFS]; exact getD_map hq
                          have hFi : st.2.2.2.2.2[i]? = some (af q) := by rw [← hFS, List.getElem?_map, hq]; rfl
                          refine lv_tableIn (tgt := 259) S.1 S.2.1 d_Mdl_run_121 (by decide) (by decide) rfl (by decide) ?_
                          refine lv_iload S.1 S.2.1 d_Mdl_run_259 (lv_at hl 0 rfl) ?_
                          refine lv_if_ge (tgt := 269) S.1 S.2.1 d_Mdl_run_261 (by decide) (fun c932 => ?_) (fun c932 => ?_)
                          · skip
                            replace c932 : 0 ≤ q := (nI_leI (a := 0) (b := q) (by omega) (by omega)).mp c932
                            refine lv_aload_n S.1 S.2.1 d_Mdl_run_269 rfl (lv_at hl 2 rfl) ?_
                            refine gh_get S hI hb rfl i_Mdl 9 (by decide) wi_444 rfl d_Mdl_run_270 ?_
                            refine lv_iload S.1 S.2.1 d_Mdl_run_273 (lv_at hl 0 rfl) ?_
                            refine gh_iald (j := q) S hI 1 h9 rfl rfl (by omega) (by omega) d_Mdl_run_275 ?_
                            refine lv_topi (fun v933 ev933 => ?_)
                            replace ev933 : v933 = nI (af q).2.2.1 := ev933.trans (p2)
                            subst ev933
                            exact gr_i S hr hlk hI (by rw [aRun_op hrf, eo, oSize_s hix hgD]; exact ⟨rfl, hA, hF⟩) d_Mdl_run_276
                          · skip
                            replace c932 : ¬ 0 ≤ q := fun z => c932 ((nI_leI (a := 0) (b := q) (by omega) (by omega)).mpr z)
                            exact absurd c932 (by omega)
                      · skip
                        replace c898 : 8 = 4 := (nI_eq (a := 8) (b := 4) (by omega) (by omega)).mp c898
                        exact absurd c898 (by omega)
                    · skip
                      replace c897 : 8 = 4 := (nI_eq (a := 8) (b := 4) (by omega) (by omega)).mp c897
                      exact absurd c897 (by omega)
              · skip
                replace c894 : 8 = 7 := (nI_eq (a := 8) (b := 7) (by omega) (by omega)).mp c894
                exact absurd c894 (by omega)
      · skip
        refine lv_iload_n S.1 S.2.1 d_Mdl_run_10 rfl (lv_at hl 1 rfl) ?_
        refine lv_bipush (v := nI 9) S.1 S.2.1 d_Mdl_run_11 (by decide) ?_
        refine lv_icmp_eq (tgt := 25) S.1 S.2.1 d_Mdl_run_13 (by decide) (fun c934 => ?_) (fun c934 => ?_)
        · skip
          replace c934 : 9 = 9 := (nI_eq (a := 9) (b := 9) (by omega) (by omega)).mp c934
          refine lv_iload_n S.1 S.2.1 d_Mdl_run_25 rfl (lv_at hl 1 rfl) ?_
          refine lv_bipush (v := nI 6) S.1 S.2.1 d_Mdl_run_26 (by decide) ?_
          refine lv_icmp_eq (tgt := 37) S.1 S.2.1 d_Mdl_run_28 (by decide) (fun c935 => ?_) (fun c935 => ?_)
          · skip
            replace c935 : 9 = 6 := (nI_eq (a := 9) (b := 6) (by omega) (by omega)).mp c935
            exact absurd c935 (by omega)
          · skip
            replace c935 : ¬ 9 = 6 := fun z => c935 ((nI_eq (a := 9) (b := 6) (by omega) (by omega)).mpr z)
            refine lv_iload_n S.1 S.2.1 d_Mdl_run_31 rfl (lv_at hl 1 rfl) ?_
            refine lv_bipush (v := nI 7) S.1 S.2.1 d_Mdl_run_32 (by decide) ?_
            refine lv_icmp_ne (tgt := 48) S.1 S.2.1 d_Mdl_run_34 (by decide) (fun c936 => ?_) (fun c936 => ?_)
            · skip
              replace c936 : ¬ 9 = 7 := fun z => c936 ((nI_eq (a := 9) (b := 7) (by omega) (by omega)).mpr z)
              refine lv_iload_n S.1 S.2.1 d_Mdl_run_48 rfl (lv_at hl 1 rfl) ?_
              refine lv_iconst (v := nI 1) S.1 S.2.1 d_Mdl_run_49 (by decide) ?_
              refine lv_icmp_eq (tgt := 63) S.1 S.2.1 d_Mdl_run_50 (by decide) (fun c937 => ?_) (fun c937 => ?_)
              · skip
                replace c937 : 9 = 1 := (nI_eq (a := 9) (b := 1) (by omega) (by omega)).mp c937
                exact absurd c937 (by omega)
              · skip
                replace c937 : ¬ 9 = 1 := fun z => c937 ((nI_eq (a := 9) (b := 1) (by omega) (by omega)).mpr z)
                refine lv_iload_n S.1 S.2.1 d_Mdl_run_53 rfl (lv_at hl 1 rfl) ?_
                refine lv_iconst (v := nI 3) S.1 S.2.1 d_Mdl_run_54 (by decide) ?_
                refine lv_icmp_eq (tgt := 63) S.1 S.2.1 d_Mdl_run_55 (by decide) (fun c938 => ?_) (fun c938 => ?_)
                · skip
                  replace c938 : 9 = 3 := (nI_eq (a := 9) (b := 3) (by omega) (by omega)).mp c938
                  exact absurd c938 (by omega)
                · skip
                  replace c938 : ¬ 9 = 3 := fun z => c938 ((nI_eq (a := 9) (b := 3) (by omega) (by omega)).mpr z)
                  refine lv_iload_n S.1 S.2.1 d_Mdl_run_58 rfl (lv_at hl 1 rfl) ?_
                  refine lv_iconst (v := nI 4) S.1 S.2.1 d_Mdl_run_59 (by decide) ?_
                  refine lv_icmp_ne (tgt := 74) S.1 S.2.1 d_Mdl_run_60 (by decide) (fun c939 => ?_) (fun c939 => ?_)
                  · skip
                    replace c939 : ¬ 9 = 4 := fun z => c939 ((nI_eq (a := 9) (b := 4) (by omega) (by omega)).mpr z)
                    refine lv_iload_n S.1 S.2.1 d_Mdl_run_74 rfl (lv_at hl 1 rfl) ?_
                    refine lv_iconst (v := nI 4) S.1 S.2.1 d_Mdl_run_75 (by decide) ?_
                    refine lv_icmp_ne (tgt := 92) S.1 S.2.1 d_Mdl_run_76 (by decide) (fun c940 => ?_) (fun c940 => ?_)
                    · skip
                      replace c940 : ¬ 9 = 4 := fun z => c940 ((nI_eq (a := 9) (b := 4) (by omega) (by omega)).mpr z)
                      have hrf : ¬ aRef st (nI 9) aa bb := aRef_no (by decide) (fun z => absurd rfl z) (fun z => absurd z (by decide)) (fun z => absurd z (by decide)) (fun z => absurd z (by decide))
                      have eo : aOp st (nI 9) aa bb = oNext st := by unfold aOp; rw [if_neg (show ¬ (nI 9 : Int32) = 0 by decide), if_neg (show ¬ (nI 9 : Int32) = 1 by decide), if_neg (show ¬ (nI 9 : Int32) = 2 by decide), if_neg (show ¬ (nI 9 : Int32) = 3 by decide), if_neg (show ¬ (nI 9 : Int32) = 4 by decide), if_neg (show ¬ (nI 9 : Int32) = 5 by decide), if_neg (show ¬ (nI 9 : Int32) = 6 by decide), if_neg (show ¬ (nI 9 : Int32) = 7 by decide), if_neg (show ¬ (nI 9 : Int32) = 8 by decide)]
                      have hF : gFr f f [b, b + 1, b + 2, b + 3, b + 4, b + 5, b + 6, b + 7, b + 8, b + 9, b + 10, b + 11, b + 12] := gFr.rf
                      refine lv_aload_n S.1 S.2.1 d_Mdl_run_92 rfl (lv_at hl 0 rfl) ?_
                      refine lv_iconst (v := nI 0) S.1 S.2.1 d_Mdl_run_93 (by decide) ?_
                      refine gh_put S hI hb rfl i_Mdl t_Mdl tk_Mdl n_Mdl 16 (by decide) wi_451 rfl rfl rfl (Nat.le_of_ble_eq_true rfl) d_Mdl_run_94 (fun H locs hI => ?_)
                      have hI : gB P (va_up f b (some (.inr (7, [.ref (b + 1), .int (nI st.1.length), .ref (b + 2), .ref (b + 3), .ref (b + 4), .ref (b + 5), .ref (b + 6), .ref (b + 7), .ref (b + 8), .ref (b + 9), .ref (b + 10), .ref (b + 11), .int (nI L.length), .int (nI (fB st.2.2.2.2.2)), .int (nI st.2.2.2.2.1), .ref (b + 12), .int (nI 0)])))) s H locs := hI
                      obtain ⟨f941, ef941⟩ : ∃ z, z = va_up f b (some (.inr (7, [.ref (b + 1), .int (nI st.1.length), .ref (b + 2), .ref (b + 3), .ref (b + 4), .ref (b + 5), .ref (b + 6), .ref (b + 7), .ref (b + 8), .ref (b + 9), .ref (b + 10), .ref (b + 11), .int (nI L.length), .int (nI (fB st.2.2.2.2.2)), .int (nI st.2.2.2.2.1), .ref (b + 12), .int (nI 0)]))) := ⟨_, rfl⟩
                      rw [← ef941] at hI
                      have h942 : f941 (b + 1) = some (.inl (P.2.1 0, 2048, .inl gt)) := by rw [ef941, va_up_ne _ _ (by omega)]; exact h1
                      have h943 : f941 (b + 2) = some (.inl (P.2.1 0, 400, .inl gn)) := by rw [ef941, va_up_ne _ _ (by omega)]; exact h2
                      have h944 : f941 (b + 3) = some (.inl (P.2.1 1, 2, .inl gl)) := by rw [ef941, va_up_ne _ _ (by omega)]; exact h3
                      have h945 : f941 (b + 4) = some (.inl (P.2.1 1, 48, .inl go)) := by rw [ef941, va_up_ne _ _ (by omega)]; exact h4
                      have h946 : f941 (b + 5) = some (.inl (P.2.1 2, 48, .inl gu)) := by rw [ef941, va_up_ne _ _ (by omega)]; exact h5
                      have h947 : f941 (b + 6) = some (.inl (P.2.1 0, 9600, .inl gf)) := by rw [ef941, va_up_ne _ _ (by omega)]; exact h6
                      have h948 : f941 (b + 7) = some (.inl (P.2.1 1, 48, .inl gk)) := by rw [ef941, va_up_ne _ _ (by omega)]; exact h7
                      have h949 : f941 (b + 8) = some (.inl (P.2.1 1, 48, .inl gi)) := by rw [ef941, va_up_ne _ _ (by omega)]; exact h8
                      have h950 : f941 (b + 9) = some (.inl (P.2.1 1, 48, .inl gz)) := by rw [ef941, va_up_ne _ _ (by omega)]; exact h9
                      have h951 : f941 (b + 10) = some (.inl (P.2.1 0, 393216, .inl gy)) := by rw [ef941, va_up_ne _ _ (by omega)]; exact h10
                      have h952 : f941 (b + 11) = some (.inl (P.2.1 2, 912, .inl ga)) := by rw [ef941, va_up_ne _ _ (by omega)]; exact h11
                      have h953 : f941 (b + 12) = some (.inl (P.2.1 1, 2048, .inl gd)) := by rw [ef941, va_up_ne _ _ (by omega)]; exact h12
                      have h954 : f941 b = some (.inr (7, [.ref (b + 1), .int (nI st.1.length), .ref (b + 2), .ref (b + 3), .ref (b + 4), .ref (b + 5), .ref (b + 6), .ref (b + 7), .ref (b + 8), .ref (b + 9), .ref (b + 10), .ref (b + 11), .int (nI L.length), .int (nI (fB st.2.2.2.2.2)), .int (nI st.2.2.2.2.1), .ref (b + 12), .int (nI 0)])) := by rw [ef941]; exact va_up_self _ _ _
                      have hF : gFr f f941 [b, b + 1, b + 2, b + 3, b + 4, b + 5, b + 6, b + 7, b + 8, b + 9, b + 10, b + 11, b + 12] := by rw [ef941]; exact gFr.upA (by simp) hF
                      refine lv_aload_n S.1 S.2.1 d_Mdl_run_97 rfl (lv_at hl 0 rfl) ?_
                      refine gh_get S hI h954 rfl i_Mdl 14 (by decide) wi_449 rfl d_Mdl_run_98 ?_
                      refine lv_istore (lv' := [(4, .int (nI st.2.2.2.2.1)), (0, .ref b), (1, .int (nI 9)), (2, .int aa), (3, .int bb)]) S.1 S.2.1 d_Mdl_run_101 hl (by decide) rfl (fun ls hl => ?_)
                      refine lv_aload_n S.1 S.2.1 d_Mdl_run_103 rfl (lv_at hl 1 rfl) ?_
                      refine lv_dup S.1 S.2.1 d_Mdl_run_104 rfl ?_
                      refine gh_get S hI h954 rfl i_Mdl 14 (by decide) wi_449 rfl d_Mdl_run_105 ?_
                      refine lv_iconst (v := nI 1) S.1 S.2.1 d_Mdl_run_108 (by decide) ?_
                      refine lv_iadd S.1 S.2.1 d_Mdl_run_109 ?_
                      refine lv_topi (fun v955 ev955 => ?_)
                      replace ev955 : v955 = nI (st.2.2.2.2.1 + 1) := ev955.trans (nI_add _ _)
                      subst ev955
                      refine gh_put S hI h954 rfl i_Mdl t_Mdl tk_Mdl n_Mdl 14 (by decide) wi_449 rfl rfl rfl (Nat.le_of_ble_eq_true rfl) d_Mdl_run_110 (fun H locs hI => ?_)
                      have hI : gB P (va_up f941 b (some (.inr (7, [.ref (b + 1), .int (nI st.1.length), .ref (b + 2), .ref (b + 3), .ref (b + 4), .ref (b + 5), .ref (b + 6), .ref (b + 7), .ref (b + 8), .ref (b + 9), .ref (b + 10), .ref (b + 11), .int (nI L.length), .int (nI (fB st.2.2.2.2.2)), .int (nI (st.2.2.2.2.1 + 1)), .ref (b + 12), .int (nI 0)])))) s H locs := hI
                      obtain ⟨f956, ef956⟩ : ∃ z, z = va_up f941 b (some (.inr (7, [.ref (b + 1), .int (nI st.1.length), .ref (b + 2), .ref (b + 3), .ref (b + 4), .ref (b + 5), .ref (b + 6), .ref (b + 7), .ref (b + 8), .ref (b + 9), .ref (b + 10), .ref (b + 11), .int (nI L.length), .int (nI (fB st.2.2.2.2.2)), .int (nI (st.2.2.2.2.1 + 1)), .ref (b + 12), .int (nI 0)]))) := ⟨_, rfl⟩
                      rw [← ef956] at hI
                      have h957 : f956 (b + 1) = some (.inl (P.2.1 0, 2048, .inl gt)) := by rw [ef956, va_up_ne _ _ (by omega)]; exact h942
                      have h958 : f956 (b + 2) = some (.inl (P.2.1 0, 400, .inl gn)) := by rw [ef956, va_up_ne _ _ (by omega)]; exact h943
                      have h959 : f956 (b + 3) = some (.inl (P.2.1 1, 2, .inl gl)) := by rw [ef956, va_up_ne _ _ (by omega)]; exact h944
                      have h960 : f956 (b + 4) = some (.inl (P.2.1 1, 48, .inl go)) := by rw [ef956, va_up_ne _ _ (by omega)]; exact h945
                      have h961 : f956 (b + 5) = some (.inl (P.2.1 2, 48, .inl gu)) := by rw [ef956, va_up_ne _ _ (by omega)]; exact h946
                      have h962 : f956 (b + 6) = some (.inl (P.2.1 0, 9600, .inl gf)) := by rw [ef956, va_up_ne _ _ (by omega)]; exact h947
                      have h963 : f956 (b + 7) = some (.inl (P.2.1 1, 48, .inl gk)) := by rw [ef956, va_up_ne _ _ (by omega)]; exact h948
                      have h964 : f956 (b + 8) = some (.inl (P.2.1 1, 48, .inl gi)) := by rw [ef956, va_up_ne _ _ (by omega)]; exact h949
                      have h965 : f956 (b + 9) = some (.inl (P.2.1 1, 48, .inl gz)) := by rw [ef956, va_up_ne _ _ (by omega)]; exact h950
                      have h966 : f956 (b + 10) = some (.inl (P.2.1 0, 393216, .inl gy)) := by rw [ef956, va_up_ne _ _ (by omega)]; exact h951
                      have h967 : f956 (b + 11) = some (.inl (P.2.1 2, 912, .inl ga)) := by rw [ef956, va_up_ne _ _ (by omega)]; exact h952
                      have h968 : f956 (b + 12) = some (.inl (P.2.1 1, 2048, .inl gd)) := by rw [ef956, va_up_ne _ _ (by omega)]; exact h953
                      have h969 : f956 b = some (.inr (7, [.ref (b + 1), .int (nI st.1.length), .ref (b + 2), .ref (b + 3), .ref (b + 4), .ref (b + 5), .ref (b + 6), .ref (b + 7), .ref (b + 8), .ref (b + 9), .ref (b + 10), .ref (b + 11), .int (nI L.length), .int (nI (fB st.2.2.2.2.2)), .int (nI (st.2.2.2.2.1 + 1)), .ref (b + 12), .int (nI 0)])) := by rw [ef956]; exact va_up_self _ _ _
                      have hF : gFr f f956 [b, b + 1, b + 2, b + 3, b + 4, b + 5, b + 6, b + 7, b + 8, b + 9, b + 10, b + 11, b + 12] := by rw [ef956]; exact gFr.upA (by simp) hF
                      have hb := h969
                      have h1 := h957
                      have h2 := h958
                      have h3 := h959
                      have h4 := h960
                      have h5 := h961
                      have h6 := h962
                      have h7 := h963
                      have h8 := h964
                      have h9 := h965
                      have h10 := h966
                      have h11 := h967
                      have h12 := h968
                      have hA : gMo P f956 b (aIn st) := ⟨gt, gn, gl, go, gu, gf, gk, gi, gz, gy, ga, gd, L, af, ⟨hb, h1, h2, h3, h4, h5, h6, h7, h8, h9, h10, h11, h12⟩, ⟨ht1, ht2⟩, ⟨hn0, hn1⟩, hd0, hmF, hFS⟩
                      refine lv_aload_n S.1 S.2.1 d_Mdl_run_113 rfl (lv_at hl 1 rfl) ?_
                      refine lv_iconst (v := nI 0) S.1 S.2.1 d_Mdl_run_114 (by decide) ?_
                      refine gc_Vi S hI (c_Mdl_find l P f956 (k := 0) (nm := st.2.1) (af := af) hb h2 h3 h4 h6 h7 hO hN hlL (by omega) hn0 hs) kv_Mdl_find wi_473 hb rfl rfl rfl hl.1 rfl (Nat.le_of_ble_eq_true rfl) ⟨Nat.le_of_ble_eq_true rfl, Nat.le_of_ble_eq_true rfl⟩ ⟨Nat.le_of_ble_eq_true rfl, Nat.le_of_ble_eq_true rfl⟩ d_Mdl_run_115 (fun r970 f971 H locs hp972 hI => ?_)
                      obtain ⟨hp1, hp2⟩ := hp972
                      rw [hp2] at hI
                      rw [hnF] at hp1
                      refine lv_istore (lv' := [(5, .int r970), (4, .int (nI st.2.2.2.2.1)), (0, .ref b), (1, .int (nI 9)), (2, .int aa), (3, .int bb)]) S.1 S.2.1 d_Mdl_run_118 hl (by decide) rfl (fun ls hl => ?_)
                      refine lv_iload_n S.1 S.2.1 d_Mdl_run_120 rfl (lv_at hl 3 rfl) ?_
                      refine lv_tableOut (tgt := 277) S.1 S.2.1 d_Mdl_run_121 (Or.inr (by decide)) (by decide) ?_
                      refine lv_aload_n S.1 S.2.1 d_Mdl_run_277 rfl (lv_at hl 2 rfl) ?_
                      refine gc_Vi S hI (c_Mdl_next l P f956 hA hw) kv_Mdl_next wi_510 hb rfl rfl rfl hl.1 rfl (Nat.le_of_ble_eq_true rfl) ⟨Nat.le_of_ble_eq_true rfl, Nat.le_of_ble_eq_true rfl⟩ ⟨Nat.le_of_ble_eq_true rfl, Nat.le_of_ble_eq_true rfl⟩ d_Mdl_run_278 (fun r973 f974 H locs hp975 hI => ?_)
                      obtain ⟨k1, k2, k3⟩ := hp975
                      rw [← eo] at k1 k2
                      exact gr_i S hr hlk hI (by rw [aRun_op hrf]; exact ⟨k1, k2, hF.call k3 (fun q hq => Or.inl hq)⟩) d_Mdl_run_281
                    · skip
                      replace c940 : 9 = 4 := (nI_eq (a := 9) (b := 4) (by omega) (by omega)).mp c940
                      exact absurd c940 (by omega)
                  · skip
                    replace c939 : 9 = 4 := (nI_eq (a := 9) (b := 4) (by omega) (by omega)).mp c939
                    exact absurd c939 (by omega)
            · skip
              replace c936 : 9 = 7 := (nI_eq (a := 9) (b := 7) (by omega) (by omega)).mp c936
              exact absurd c936 (by omega)
        · skip
          replace c934 : ¬ 9 = 9 := fun z => c934 ((nI_eq (a := 9) (b := 9) (by omega) (by omega)).mpr z)
          exact absurd c934 (by omega)
