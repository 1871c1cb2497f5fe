/-! both systems side by side; the start -/
theorem gMd_uo {P : gPar} {f : gM} {b : Nat} {st : ASt} (h : gMo P f b st) : gUo f (fun c => b ≤ c ∧ c ≤ b + 12) := by
  obtain ⟨gt, gn, gl, go, gu, gf, gk, gi, gz, gy, ga, gd, L, af, ⟨hb, h1, h2, h3, h4, h5, h6, h7, h8, h9, h10, h11, h12⟩, -⟩ := h
  intro c hc
  rcases (show c = b ∨ c = b + 1 ∨ c = b + 2 ∨ c = b + 3 ∨ c = b + 4 ∨ c = b + 5 ∨ c = b + 6 ∨ c = b + 7 ∨ c = b + 8 ∨ c = b + 9 ∨ c = b + 10 ∨ c = b + 11 ∨ c = b + 12 by omega) with e | e | e | e | e | e | e | e | e | e | e | e | e <;> subst e
  · exact ⟨_, hb, Or.inl ⟨_, _, rfl, by decide, by decide, by decide⟩, fun z => by rcases z with ⟨x, z⟩ | ⟨fs, z⟩ <;> simp at z⟩
  · exact ⟨_, h1, Or.inr ⟨_, _, _, rfl⟩, fun _ => ⟨b, rfl, by omega⟩⟩
  · exact ⟨_, h2, Or.inr ⟨_, _, _, rfl⟩, fun _ => ⟨b + 1, rfl, by omega⟩⟩
  · exact ⟨_, h3, Or.inr ⟨_, _, _, rfl⟩, fun _ => ⟨b + 2, rfl, by omega⟩⟩
  · exact ⟨_, h4, Or.inr ⟨_, _, _, rfl⟩, fun _ => ⟨b + 3, rfl, by omega⟩⟩
  · exact ⟨_, h5, Or.inr ⟨_, _, _, rfl⟩, fun _ => ⟨b + 4, rfl, by omega⟩⟩
  · exact ⟨_, h6, Or.inr ⟨_, _, _, rfl⟩, fun _ => ⟨b + 5, rfl, by omega⟩⟩
  · exact ⟨_, h7, Or.inr ⟨_, _, _, rfl⟩, fun _ => ⟨b + 6, rfl, by omega⟩⟩
  · exact ⟨_, h8, Or.inr ⟨_, _, _, rfl⟩, fun _ => ⟨b + 7, rfl, by omega⟩⟩
  · exact ⟨_, h9, Or.inr ⟨_, _, _, rfl⟩, fun _ => ⟨b + 8, rfl, by omega⟩⟩
  · exact ⟨_, h10, Or.inr ⟨_, _, _, rfl⟩, fun _ => ⟨b + 9, rfl, by omega⟩⟩
  · exact ⟨_, h11, Or.inr ⟨_, _, _, rfl⟩, fun _ => ⟨b + 10, rfl, by omega⟩⟩
  · exact ⟨_, h12, Or.inr ⟨_, _, _, rfl⟩, fun _ => ⟨b + 11, rfl, by omega⟩⟩
theorem gMo.fu {P : gPar} {f f1 : gM} {b : Nat} {st : ASt} (h : gMo P f b st) (hF : gFU f f1 (fun c => b ≤ c ∧ c ≤ b + 12)) : gMo P f1 b st := by
  obtain ⟨gt, gn, gl, go, gu, gf, gk, gi, gz, gy, ga, gd, L, af, ⟨hb, h1, h2, h3, h4, h5, h6, h7, h8, h9, h10, h11, h12⟩, hrest⟩ := h
  exact ⟨gt, gn, gl, go, gu, gf, gk, gi, gz, gy, ga, gd, L, af, ⟨hF _ _ (by omega) hb, hF _ _ (by omega) h1, hF _ _ (by omega) h2, hF _ _ (by omega) h3, hF _ _ (by omega) h4, hF _ _ (by omega) h5, hF _ _ (by omega) h6, hF _ _ (by omega) h7, hF _ _ (by omega) h8, hF _ _ (by omega) h9, hF _ _ (by omega) h10, hF _ _ (by omega) h11, hF _ _ (by omega) h12⟩, hrest⟩
theorem gSF.outM {P : gPar} {f f1 : gM} {a b : Nat} {st stm : ASt} (h : gSF P f a st) (hm : gMo P f b stm) (hz : f P.2.2.2.1 = none) (hab : b = a + 14) (hF : gFr f f1 [b, b + 1, b + 2, b + 3, b + 4, b + 5, b + 6, b + 7, b + 8, b + 9, b + 10, b + 11, b + 12]) : gSF P f1 a st := by
  obtain ⟨h0, h1, h2, h3, h4, ow, L, SF, SP, e1, c1, e2, c2, e3, c3, af, s1, s2, s3⟩ := h
  have hin : ∀ c ∈ [b, b + 1, b + 2, b + 3, b + 4, b + 5, b + 6, b + 7, b + 8, b + 9, b + 10, b + 11, b + 12], b ≤ c ∧ c ≤ b + 12 := by intro c hc; simp at hc; omega
  have nm : ∀ c, c < b → c ∉ [b, b + 1, b + 2, b + 3, b + 4, b + 5, b + 6, b + 7, b + 8, b + 9, b + 10, b + 11, b + 12] := fun c hc z => by have := hin c z; omega
  exact ⟨hF _ _ h0 (nm _ (by omega)), h1.fr hF (nm _ (by omega)) (nm _ (by omega)), h2.fr hF (nm _ (by omega)) (nm _ (by omega)), h3.fr hF (nm _ (by omega)) (nm _ (by omega)), h4.fr hF (nm _ (by omega)) (nm _ (by omega)), ow, L, SF, SP, e1, c1, e2, c2, e3, c3, af, s1.out hz (gMd_uo hm) hF (fun c hc => ⟨hin c hc, by have := hin c hc; omega, by have := hin c hc; omega⟩), s2, s3⟩
theorem arr_known {s : State} {args : Array Value} {ty : FieldType} (hty : ∀ C, ty ≠ .object C) (h : (Cond.arrayClass ty).before args s = true) : ∃ cA : ClassId, ArrOfT s cA ty ∧ va_RA s cA ty := by
  obtain ⟨cA, kA, comp, h1, h2, h3⟩ := Cond.arrayClass_spec h
  refine ⟨cA, fun n z => ⟨fun k h => (by cases h), kA, h2, comp, h3⟩, ?_⟩
  cases ty with
  | object C => exact absurd rfl (hty C)
  | _ => exact h1
theorem arrO_known {s : State} {args : Array Value} {C : String} (h : (Cond.arrayOver (.object C)).before args s = true) : ∃ cA : ClassId, ArrOfT s cA (.object C) ∧ va_RA s cA (.object C) := by
  obtain ⟨comp, cA, kA, h1, -, h2, h3, h4⟩ := Cond.arrayOver_spec h
  exact ⟨cA, fun n z => ⟨fun k h => (by cases h), kA, h2, comp, h3⟩, kA, comp, h2, h3, h1, h4⟩
theorem gX_start {s : State} {b : Nat} (hts : ∀ w ∈ lw_tbl, w.before #[Value.ref b] s = true) (hgv : (Jvm.Cond.and given_1 narrow_1).before #[Value.ref b] s = true) : ∃ P : gPar, gA P = (fun q : Nat => s.heap.size ≤ q) ∧ gX P s := by
  have hgw : ∀ w ∈ gw, w.before #[Value.ref b] s = true := fun w hw => hts w (gw_in hw)
  have hs := flat_of_before _ hgv
  have hA : ∀ a : Nat, a < s.heap.size → ¬ (fun q : Nat => s.heap.size ≤ q) a := fun a h => Nat.not_le.mpr h
  obtain ⟨c0, iS0, hKn0⟩ := u_known (C := R_SF) (T := F_SF) (N := 6) (n := 6) hgw i_SF (hgw _ wi_18)
  obtain ⟨c1, iS1, hKn1⟩ := u_known (C := R_Row) (T := F_Row) (N := 2) (n := 2) hgw i_Row (hgw _ wi_26)
  obtain ⟨c2, iS2, hKn2⟩ := u_known (C := R_Piece) (T := F_Piece) (N := 1) (n := 1) hgw i_Piece (hgw _ wi_294)
  obtain ⟨c3, iS3, hKn3⟩ := u_known (C := R_Pool) (T := F_Pool) (N := 1) (n := 1) hgw i_Pool (hgw _ wi_59)
  obtain ⟨c4, iS4, hKn4⟩ := u_known (C := R_File) (T := F_File) (N := 5) (n := 5) hgw i_File (hgw _ wi_187)
  obtain ⟨c5, iS5, hKn5⟩ := u_known (C := R_Shelf) (T := F_Shelf) (N := 3) (n := 3) hgw i_Shelf (hgw _ wi_35)
  obtain ⟨c6, iS6, hKn6⟩ := u_known (C := R_AL) (T := F_AL) (N := 3) (n := 3) hgw i_AL (hgw _ wi_41)
  obtain ⟨c7, iS7, hKn7⟩ := u_known (C := R_Mdl) (T := F_Mdl) (N := 17) (n := 17) hgw i_Mdl (hgw _ wi_429)
  obtain ⟨a0, hr0⟩ := arr_known (ty := .byte) (fun C h => by cases h) (hgw _ wi_33)
  obtain ⟨a1, hr1⟩ := arr_known (ty := .int) (fun C h => by cases h) (hgw _ wi_452)
  obtain ⟨a2, hr2⟩ := arr_known (ty := .boolean) (fun C h => by cases h) (hgw _ wi_453)
  have hoP : (Cond.arrayOver (.object "StripeFiles$Piece")).before #[Value.ref b] s = true := hts _ (by decide +kernel)
  have hoO : (Cond.arrayOver (.object "java/lang/Object")).before #[Value.ref b] s = true := hts _ (by decide +kernel)
  obtain ⟨a3, hr3⟩ := arrO_known hoP
  obtain ⟨a4, hr4⟩ := arrO_known hoO
  obtain ⟨mi, hmi⟩ := va_Mi.of (args := #[Value.ref b]) (s := s) (C := "[Ljava/lang/Object;") (hs _ (by decide +kernel))
  have harr : (Cond.arrayOf (.static "java/util/ArrayList" "DEFAULTCAPACITY_EMPTY_ELEMENTDATA" "[Ljava/lang/Object;") (.object "java/lang/Object")).before #[Value.ref b] s = true := hs _ (by decide +kernel)
  have hlen0 : (Cond.eq (.length (.static "java/util/ArrayList" "DEFAULTCAPACITY_EMPTY_ELEMENTDATA" "[Ljava/lang/Object;")) (.int 0)).before #[Value.ref b] s = true := hs _ (by decide +kernel)
  have hex : (Cond.exactly (.static "java/util/ArrayList" "DEFAULTCAPACITY_EMPTY_ELEMENTDATA" "[Ljava/lang/Object;") "[Ljava/lang/Object;").before #[Value.ref b] s = true := hs _ (by decide +kernel)
  obtain ⟨t, ht1, ht2⟩ := va_Tof (N := 0) (f := fun _ => .null) (by omega) harr (va_eqt hlen0) (fun j hj => absurd hj (by omega)) hA
  refine ⟨((fun k => if k = 0 then c0 else if k = 1 then c1 else if k = 2 then c2 else if k = 3 then c3 else if k = 4 then c4 else if k = 5 then c5 else if k = 6 then c6 else c7, fun k => if k = 0 then iS0 else if k = 1 then iS1 else if k = 2 then iS2 else if k = 3 then iS3 else if k = 4 then iS4 else if k = 5 then iS5 else if k = 6 then iS6 else iS7), (fun k => if k = 0 then a0 else if k = 1 then a1 else if k = 2 then a2 else if k = 3 then a3 else a4), (fun q : Nat => s.heap.size ≤ q), t, mi), rfl, ⟨?_, ?_⟩, fun _ h => h, ⟨va_Nw.of rfl (hts _ (by decide +kernel)), va_Nw.of rfl (hts _ (by decide +kernel)), va_Nw.of rfl (hts _ (by decide +kernel)), va_Nw.of rfl (hts _ (by decide +kernel)), va_Nw.of rfl (hts _ (by decide +kernel)), va_Nw.of rfl (hts _ (by decide +kernel))⟩, va_AO.of hoP, va_AO.of hoO, va_Dc.of (A := #[Value.ref b]) (hts _ (by decide +kernel)), hmi, va_Zref (hts _ (by decide +kernel)) (hts _ (by decide +kernel)) ht1 hA, ht2, va_Oof hex ht1 hA⟩
  · intro k q hq
    match k, hq with
    | 0, hq => cases hq; exact hKn0
    | 1, hq => cases hq; exact hKn1
    | 2, hq => cases hq; exact hKn2
    | 3, hq => cases hq; exact hKn3
    | 4, hq => cases hq; exact hKn4
    | 5, hq => cases hq; exact hKn5
    | 6, hq => cases hq; exact hKn6
    | 7, hq => cases hq; exact hKn7
    | k + 8, hq => simp at hq
  · intro k q hq
    match k, hq with
    | 0, hq => cases hq; exact hr0
    | 1, hq => cases hq; exact hr1
    | 2, hq => cases hq; exact hr2
    | 3, hq => cases hq; exact hr3
    | 4, hq => cases hq; exact hr4
    | k + 5, hq => simp at hq
theorem gB_start {P : gPar} {s : State} (h : gX P s) : gB P (fun _ => none) s s.heap [] :=
  ⟨h, ⟨[], fun a => by simp, fun k q hq => by simp [va_pl] at hq, ⟨fun i j p q hp => by simp [va_pl] at hp, fun k q hq => by simp [va_pl] at hq⟩⟩, va_S.rf⟩
