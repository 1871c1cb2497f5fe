/-! THE CLAIM OUT OF ONE WALK OF THE LAW'S BODY. Your part is whole_start (and what it stands on); all else here is the same for every law, but numbers. -/
def R_law : String := "StripeFilesLaw"
def lw_P (b : Addr) (xs : List Int32) (args : Array Value) (s : State) : Prop := args = #[.ref b] ∧ s.IntsAt b xs ∧ xs.length ≤ 3072 ∧ (Jvm.Cond.and given_1 narrow_1).before args s = true
def lw_Q (_ : Array Value) (s : State) (o : Outcome) (t : State) : Prop := o = .returned (some (.int 1)) ∧ Framed s o t [] 600000 7302250
def lw_Z (below : List Frame) (a : Array Value) (s : State) : State → Prop := fun t => ∃ o, t.status = .running ∧ Ended t below o ∧ lw_Q a s o t
/-- the law's own end, with 1 on the stack, nothing written that was there before, its room as the claim has it -/
theorem lw_ret {p : Program} {l : Launch} {e : Env} {s : State} {m : MethodId} {below : List Frame} {meth : Method} {c : Code} {b : Nat} (hx : p.tables.exec = Jvm.exec) (hb : c.code = code) (hr : meth.sig.returnType = ret) (hlocks : meth.locks = false) {pc : Nat} {H : Heap} {ls : Array Slot} (hdg : decode code pc = .ok (.ireturn, 1)) : W p l e room_1 s m #[Value.ref b] below meth c H [] 600000 7302250 (lw_Z below #[Value.ref b] s) (F0 m pc ls [.int 1]) := by
  intro T hT X
  obtain ⟨fs, hret, hrun, hended, hW, hframe⟩ := X.leave (v := some (.int 1)) (hlocks := hlocks) (fun h => by rw [hr] at h; cases h)
  have hmeth' : T.vm.method? m = some meth := X.method'
  refine ⟨T.setFrames fs, ?_, .returned (some (.int 1)), hrun, hended, rfl, ⟨_, rfl⟩, hW, hframe⟩
  jvm_step X.here [X.here.top, hx, hb, hdg, hmeth', hr, ret, narrow_b1]
  (try refine ⟨rfl, ?_⟩); (try refine ⟨rfl, ?_⟩)
  first | (intro acts; rw [hret _ acts rfl rfl rfl]) | rw [hret _ _ rfl rfl rfl]
  exact Steps.refl _
/-- what holds at the law's entry: the machine, the code, the tables' words (any of lw_tbl by 'hts w (by decide +kernel)'), the script of L ints xs at the cell b, what the Statement gives of the start (any of its parts by flat_of_before) -/
def lw_At (p : Program) (s : State) (m : MethodId) (meth : Method) (c : Code) (b L : Nat) (xs : Nat → Int32) : Prop :=
  p.tables.exec = Jvm.exec ∧ c.code = code ∧ meth.sig.returnType = ret ∧ c.maxLocals = 4 ∧ s.vm.findClass R_law = some m.cls ∧ (∀ w ∈ lw_tbl, w.before #[Value.ref b] s = true) ∧ va_X b L xs s s.heap ∧ b < s.heap.size ∧ meth.locks = false ∧ (Jvm.Cond.and given_1 narrow_1).before #[Value.ref b] s = true
theorem gSF.fr0 {P : gPar} {f f1 : gM} {a : Nat} {st : ASt} (h : gSF P f a st) (hF : gFr f f1 []) : gSF P f1 a st := by
  obtain ⟨h0, h1, h2, h3, h4, ow, L, SF, SP, e1, c1, e2, c2, e3, c3, af, s1, s2, s3⟩ := h
  exact ⟨hF _ _ h0 (by simp), h1.fr hF (by simp) (by simp), h2.fr hF (by simp) (by simp), h3.fr hF (by simp) (by simp), h4.fr hF (by simp) (by simp), ow, L, SF, SP, e1, c1, e2, c2, e3, c3, af, s1.fr0 hF, s2, s3⟩
theorem wfS_new : wfS [] := ⟨List.Pairwise.nil, by simp [fB], fun v hv => by cases hv⟩
set_option maxHeartbeats 8000000 in
set_option maxRecDepth 100000 in
theorem law_loop {p : Program} {env : Env} {s : State} {m : MethodId} {below : List Frame} {meth : Method} {c : Code} (l : Launch) {b L a : Nat} {xs : Nat → Int32} {P : gPar} (hL : L ≤ 3072) (C0 : lw_At p s m meth c b L xs) (hPA : gA P = fun q : Nat => s.heap.size ≤ q) : ∀ (u t : Nat), 6 * t ≤ L → L - 6 * t < u → ∀ (st : ASt) (f : gM) (H : Heap) (locs : List Loc), gSF P f a st → gMo P f (a + 14) st → wfS st.2.2.2.2.2 → gB P f s H locs → ∀ ls : Array Slot, lv_has ls 4 [(0, .ref b), (1, .ref a), (2, .ref (a + 14)), (3, .int (nI (6 * t)))] → W p l env room_1 s m #[Value.ref b] below meth c H locs (27 + 43 * t) (413016 + 9057 * t) (lw_Z below #[Value.ref b] s) (F0 m 18 ls []) := by
  obtain ⟨hx, hb, hr, hml, hown, hts, hX, hbl, hlocks, hgv⟩ := id C0
  have S : CallFix p m c code 4 s #[Value.ref b] gw R_Law := ⟨hx, hb, hml, hown, fun w hw => hts w (gw_in hw)⟩
  have hbA : ¬ gA P b := by rw [hPA]; exact Nat.not_le.mpr hbl
  intro u
  induction u with
  | zero => intro t h4 h5; exact absurd h5 (by omega)
  | succ u ih =>
    intro t ht hu st f H locs hsf hmo hw hI ls hl
    refine lv_iload_n S.1 S.2.1 d_law_18 rfl (lv_at hl 3 rfl) ?_
    refine lv_aload_n S.1 S.2.1 d_law_19 rfl (lv_at hl 0 rfl) ?_
    refine va_slen S.1 S.2.1 hX hbl hbA hI.2.2 d_law_20 ?_
    refine lv_bipush (v := nI 6) S.1 S.2.1 d_law_21 (by decide) ?_
    refine lv_isub S.1 S.2.1 d_law_23 ?_
    have hcv : nI L - nI 6 < nI (6 * t) ↔ L < 6 * t + 6 := by
      rw [Int32.lt_iff_toInt_lt, pk_sub_toInt (by omega) (by omega), nI_toInt (by omega)]; omega
    refine lv_icmp_gt (tgt := 360) S.1 S.2.1 d_law_24 (by decide) (fun c251 => ?_) (fun c251 => ?_)
    · skip
      refine lv_iconst (v := 1) S.1 S.2.1 d_law_360 (by decide) ?_
      refine va_forget (fun q hq => by have := hI.2.2.2.2 q hq; rw [hPA] at this; exact this) ?_
      refine W.widen (k := 600000) (n := 7302250) (by omega) (by omega) ?_
      exact lw_ret hx hb hr hlocks d_law_361
    · skip
      have h6 : 6 * t + 6 ≤ L := Nat.le_of_not_lt (fun z => c251 (hcv.mpr z))
      refine lv_aload_n S.1 S.2.1 d_law_27 rfl (lv_at hl 0 rfl) ?_
      refine lv_iload_n S.1 S.2.1 d_law_28 rfl (lv_at hl 3 rfl) ?_
      refine va_sld S.1 S.2.1 hX hbl hbA hI.2.2 (i := nI (6 * t)) (nI_in (by omega) (by omega)) d_law_29 ?_
      refine lv_topi (fun v252 ev252 => ?_)
      replace ev252 : v252 = xs (6 * t) := ev252.trans (by rw [nI_clamp (by omega)])
      subst ev252
      refine lv_bipush (v := nI 7) S.1 S.2.1 d_law_30 (by decide) ?_
      refine lv_iand S.1 S.2.1 d_law_32 ?_
      obtain ⟨j, hj, hj2⟩ := pk_andE (xs (6 * t)) (m := nI 7) 3 (by decide)
      refine lv_topi (fun v253 ev253 => ?_)
      replace ev253 : v253 = nI j := ev253.trans (hj2)
      subst ev253
      have hmu := gMd_uo hmo
      have hVa : ∀ c, (a + 14 ≤ c ∧ c ≤ a + 14 + 12) → a + 14 ≤ c := fun c hc => hc.1
      have e6 : 6 * (t + 1) = 6 * t + 6 := by omega
      have hj8 : j < 8 := hj
      rcases (show j = 0 ∨ j = 1 ∨ j = 2 ∨ j = 3 ∨ j = 4 ∨ j = 5 ∨ j = 6 ∨ j = 7 by omega) with e | e | e | e | e | e | e | e <;> subst e
      · skip
        refine lv_tableIn (tgt := 80) S.1 S.2.1 d_law_33 (by decide) (by decide) rfl (by decide) ?_
        refine lv_aload_n S.1 S.2.1 d_law_80 rfl (lv_at hl 1 rfl) ?_
        refine lv_aload_n S.1 S.2.1 d_law_81 rfl (lv_at hl 0 rfl) ?_
        refine lv_iload_n S.1 S.2.1 d_law_82 rfl (lv_at hl 3 rfl) ?_
        refine lv_iconst (v := nI 1) S.1 S.2.1 d_law_83 (by decide) ?_
        refine lv_iadd S.1 S.2.1 d_law_84 ?_
        refine lv_topi (fun v254 ev254 => ?_)
        replace ev254 : v254 = nI ((6 * t) + 1) := ev254.trans (nI_add _ _)
        subst ev254
        refine va_sld S.1 S.2.1 hX hbl hbA hI.2.2 (i := nI ((6 * t) + 1)) (nI_in (by omega) (by omega)) d_law_85 ?_
        refine lv_topi (fun v255 ev255 => ?_)
        replace ev255 : v255 = xs ((6 * t) + 1) := ev255.trans (by rw [nI_clamp (by omega)])
        subst ev255
        refine lv_aload_n S.1 S.2.1 d_law_86 rfl (lv_at hl 0 rfl) ?_
        refine lv_iload_n S.1 S.2.1 d_law_87 rfl (lv_at hl 3 rfl) ?_
        refine lv_iconst (v := nI 2) S.1 S.2.1 d_law_88 (by decide) ?_
        refine lv_iadd S.1 S.2.1 d_law_89 ?_
        refine lv_topi (fun v256 ev256 => ?_)
        replace ev256 : v256 = nI ((6 * t) + 2) := ev256.trans (nI_add _ _)
        subst ev256
        refine va_sld S.1 S.2.1 hX hbl hbA hI.2.2 (i := nI ((6 * t) + 2)) (nI_in (by omega) (by omega)) d_law_90 ?_
        refine lv_topi (fun v257 ev257 => ?_)
        replace ev257 : v257 = xs ((6 * t) + 2) := ev257.trans (by rw [nI_clamp (by omega)])
        subst ev257
        refine lv_aload_n S.1 S.2.1 d_law_91 rfl (lv_at hl 0 rfl) ?_
        refine lv_iload_n S.1 S.2.1 d_law_92 rfl (lv_at hl 3 rfl) ?_
        refine lv_iconst (v := nI 3) S.1 S.2.1 d_law_93 (by decide) ?_
        refine lv_iadd S.1 S.2.1 d_law_94 ?_
        refine lv_topi (fun v258 ev258 => ?_)
        replace ev258 : v258 = nI ((6 * t) + 3) := ev258.trans (nI_add _ _)
        subst ev258
        refine va_sld S.1 S.2.1 hX hbl hbA hI.2.2 (i := nI ((6 * t) + 3)) (nI_in (by omega) (by omega)) d_law_95 ?_
        refine lv_topi (fun v259 ev259 => ?_)
        replace ev259 : v259 = xs ((6 * t) + 3) := ev259.trans (by rw [nI_clamp (by omega)])
        subst ev259
        refine lv_aload_n S.1 S.2.1 d_law_96 rfl (lv_at hl 0 rfl) ?_
        refine lv_iload_n S.1 S.2.1 d_law_97 rfl (lv_at hl 3 rfl) ?_
        refine lv_iconst (v := nI 4) S.1 S.2.1 d_law_98 (by decide) ?_
        refine lv_iadd S.1 S.2.1 d_law_99 ?_
        refine lv_topi (fun v260 ev260 => ?_)
        replace ev260 : v260 = nI ((6 * t) + 4) := ev260.trans (nI_add _ _)
        subst ev260
        refine va_sld S.1 S.2.1 hX hbl hbA hI.2.2 (i := nI ((6 * t) + 4)) (nI_in (by omega) (by omega)) d_law_100 ?_
        refine lv_topi (fun v261 ev261 => ?_)
        replace ev261 : v261 = xs ((6 * t) + 4) := ev261.trans (by rw [nI_clamp (by omega)])
        subst ev261
        refine lv_aload_n S.1 S.2.1 d_law_101 rfl (lv_at hl 0 rfl) ?_
        refine lv_iload_n S.1 S.2.1 d_law_102 rfl (lv_at hl 3 rfl) ?_
        refine lv_iconst (v := nI 5) S.1 S.2.1 d_law_103 (by decide) ?_
        refine lv_iadd S.1 S.2.1 d_law_104 ?_
        refine lv_topi (fun v262 ev262 => ?_)
        replace ev262 : v262 = nI ((6 * t) + 5) := ev262.trans (nI_add _ _)
        subst ev262
        refine va_sld S.1 S.2.1 hX hbl hbA hI.2.2 (i := nI ((6 * t) + 5)) (nI_in (by omega) (by omega)) d_law_105 ?_
        refine lv_topi (fun v263 ev263 => ?_)
        replace ev263 : v263 = xs ((6 * t) + 5) := ev263.trans (by rw [nI_clamp (by omega)])
        subst ev263
        obtain ⟨fsm, hm0⟩ : ∃ fs, f (a + 14) = some (.inr (7, fs)) := by obtain ⟨_, _, _, _, _, _, _, _, _, _, _, _, _, _, ⟨hb9, -⟩, -⟩ := id hmo; exact ⟨_, hb9⟩
        refine gc_Vi S hI (c_SF_feed l P f (x1 := xs (6 * t + 1)) (x2 := xs (6 * t + 2)) (x3 := xs (6 * t + 3)) (x4 := xs (6 * t + 4)) (x5 := xs (6 * t + 5)) hsf hmu hVa) kv_SF_feed wi_76 hsf.1 rfl rfl rfl hl.1 rfl (Nat.le_of_ble_eq_true rfl) ⟨Nat.le_of_ble_eq_true rfl, Nat.le_of_ble_eq_true rfl⟩ ⟨by show _ ≤ 600000; omega, by show _ ≤ 7302250; omega⟩ d_law_106 (fun r264 f265 H locs hp266 hI => ?_)
        obtain ⟨k1, k2, k3⟩ := hp266
        have hz1 := gB_z hI
        have hmo1 := hmo.fu k3
        obtain ⟨fsn, hm1⟩ : ∃ fs, f265 (a + 14) = some (.inr (7, fs)) := ⟨_, k3 _ _ (by omega) hm0⟩
        refine lv_aload_n S.1 S.2.1 d_law_109 rfl (lv_at hl 2 rfl) ?_
        refine lv_aload_n S.1 S.2.1 d_law_110 rfl (lv_at hl 0 rfl) ?_
        refine lv_iload_n S.1 S.2.1 d_law_111 rfl (lv_at hl 3 rfl) ?_
        refine lv_iconst (v := nI 1) S.1 S.2.1 d_law_112 (by decide) ?_
        refine lv_iadd S.1 S.2.1 d_law_113 ?_
        refine lv_topi (fun v267 ev267 => ?_)
        replace ev267 : v267 = nI ((6 * t) + 1) := ev267.trans (nI_add _ _)
        subst ev267
        refine va_sld S.1 S.2.1 hX hbl hbA hI.2.2 (i := nI ((6 * t) + 1)) (nI_in (by omega) (by omega)) d_law_114 ?_
        refine lv_topi (fun v268 ev268 => ?_)
        replace ev268 : v268 = xs ((6 * t) + 1) := ev268.trans (by rw [nI_clamp (by omega)])
        subst ev268
        refine lv_aload_n S.1 S.2.1 d_law_115 rfl (lv_at hl 0 rfl) ?_
        refine lv_iload_n S.1 S.2.1 d_law_116 rfl (lv_at hl 3 rfl) ?_
        refine lv_iconst (v := nI 2) S.1 S.2.1 d_law_117 (by decide) ?_
        refine lv_iadd S.1 S.2.1 d_law_118 ?_
        refine lv_topi (fun v269 ev269 => ?_)
        replace ev269 : v269 = nI ((6 * t) + 2) := ev269.trans (nI_add _ _)
        subst ev269
        refine va_sld S.1 S.2.1 hX hbl hbA hI.2.2 (i := nI ((6 * t) + 2)) (nI_in (by omega) (by omega)) d_law_119 ?_
        refine lv_topi (fun v270 ev270 => ?_)
        replace ev270 : v270 = xs ((6 * t) + 2) := ev270.trans (by rw [nI_clamp (by omega)])
        subst ev270
        refine lv_aload_n S.1 S.2.1 d_law_120 rfl (lv_at hl 0 rfl) ?_
        refine lv_iload_n S.1 S.2.1 d_law_121 rfl (lv_at hl 3 rfl) ?_
        refine lv_iconst (v := nI 3) S.1 S.2.1 d_law_122 (by decide) ?_
        refine lv_iadd S.1 S.2.1 d_law_123 ?_
        refine lv_topi (fun v271 ev271 => ?_)
        replace ev271 : v271 = nI ((6 * t) + 3) := ev271.trans (nI_add _ _)
        subst ev271
        refine va_sld S.1 S.2.1 hX hbl hbA hI.2.2 (i := nI ((6 * t) + 3)) (nI_in (by omega) (by omega)) d_law_124 ?_
        refine lv_topi (fun v272 ev272 => ?_)
        replace ev272 : v272 = xs ((6 * t) + 3) := ev272.trans (by rw [nI_clamp (by omega)])
        subst ev272
        refine lv_aload_n S.1 S.2.1 d_law_125 rfl (lv_at hl 0 rfl) ?_
        refine lv_iload_n S.1 S.2.1 d_law_126 rfl (lv_at hl 3 rfl) ?_
        refine lv_iconst (v := nI 4) S.1 S.2.1 d_law_127 (by decide) ?_
        refine lv_iadd S.1 S.2.1 d_law_128 ?_
        refine lv_topi (fun v273 ev273 => ?_)
        replace ev273 : v273 = nI ((6 * t) + 4) := ev273.trans (nI_add _ _)
        subst ev273
        refine va_sld S.1 S.2.1 hX hbl hbA hI.2.2 (i := nI ((6 * t) + 4)) (nI_in (by omega) (by omega)) d_law_129 ?_
        refine lv_topi (fun v274 ev274 => ?_)
        replace ev274 : v274 = xs ((6 * t) + 4) := ev274.trans (by rw [nI_clamp (by omega)])
        subst ev274
        refine lv_aload_n S.1 S.2.1 d_law_130 rfl (lv_at hl 0 rfl) ?_
        refine lv_iload_n S.1 S.2.1 d_law_131 rfl (lv_at hl 3 rfl) ?_
        refine lv_iconst (v := nI 5) S.1 S.2.1 d_law_132 (by decide) ?_
        refine lv_iadd S.1 S.2.1 d_law_133 ?_
        refine lv_topi (fun v275 ev275 => ?_)
        replace ev275 : v275 = nI ((6 * t) + 5) := ev275.trans (nI_add _ _)
        subst ev275
        refine va_sld S.1 S.2.1 hX hbl hbA hI.2.2 (i := nI ((6 * t) + 5)) (nI_in (by omega) (by omega)) d_law_134 ?_
        refine lv_topi (fun v276 ev276 => ?_)
        replace ev276 : v276 = xs ((6 * t) + 5) := ev276.trans (by rw [nI_clamp (by omega)])
        subst ev276
        refine gc_Vi S hI (c_Mdl_feed l P f265 (b := a + 14) (x1 := xs (6 * t + 1)) (x2 := xs (6 * t + 2)) (x3 := xs (6 * t + 3)) (x4 := xs (6 * t + 4)) (x5 := xs (6 * t + 5)) hmo1) kv_Mdl_feed wi_454 hm1 rfl rfl rfl hl.1 rfl (Nat.le_of_ble_eq_true rfl) ⟨Nat.le_of_ble_eq_true rfl, Nat.le_of_ble_eq_true rfl⟩ ⟨by show _ ≤ 600000; omega, by show _ ≤ 7302250; omega⟩ d_law_135 (fun r277 f278 H locs hp279 hI => ?_)
        obtain ⟨j1, j2, j3⟩ := hp279
        have hsf2 := gSF.outM k2 hmo1 hz1 rfl j3
        refine lv_icmp_eq (tgt := 354) S.1 S.2.1 d_law_138 (by decide) (fun c280 => ?_) (fun c280 => ?_)
        · skip
          refine lv_iinc (v := nI (6 * t + 6)) (lv' := [(3, .int (nI (6 * t + 6))), (0, .ref b), (1, .ref a), (2, .ref (a + 14))]) S.1 S.2.1 d_law_354 hl (k := 3) rfl (nI_add _ _) (by decide) rfl (fun ls hl => ?_)
          refine lv_goto (tgt := 18) S.1 S.2.1 d_law_357 (by decide) ?_
          refine W.widen (k := 27 + 43 * (t + 1)) (n := 413016 + 9057 * (t + 1)) (by omega) (by omega) ?_
          exact ih (t + 1) (by omega) (by omega) _ _ _ _ hsf2 j2 (wfS_feed hw) hI ls (by rw [e6]; exact lv_sub hl [1, 2, 3, 0] rfl)
        · skip
          exact absurd (k1.trans j1.symm) c280
      · skip
        refine lv_tableIn (tgt := 143) S.1 S.2.1 d_law_33 (by decide) (by decide) rfl (by decide) ?_
        refine lv_aload_n S.1 S.2.1 d_law_143 rfl (lv_at hl 1 rfl) ?_
        refine lv_aload_n S.1 S.2.1 d_law_144 rfl (lv_at hl 0 rfl) ?_
        refine lv_iload_n S.1 S.2.1 d_law_145 rfl (lv_at hl 3 rfl) ?_
        refine lv_iconst (v := nI 1) S.1 S.2.1 d_law_146 (by decide) ?_
        refine lv_iadd S.1 S.2.1 d_law_147 ?_
        refine lv_topi (fun v281 ev281 => ?_)
        replace ev281 : v281 = nI ((6 * t) + 1) := ev281.trans (nI_add _ _)
        subst ev281
        refine va_sld S.1 S.2.1 hX hbl hbA hI.2.2 (i := nI ((6 * t) + 1)) (nI_in (by omega) (by omega)) d_law_148 ?_
        refine lv_topi (fun v282 ev282 => ?_)
        replace ev282 : v282 = xs ((6 * t) + 1) := ev282.trans (by rw [nI_clamp (by omega)])
        subst ev282
        obtain ⟨fsm, hm0⟩ : ∃ fs, f (a + 14) = some (.inr (7, fs)) := by obtain ⟨_, _, _, _, _, _, _, _, _, _, _, _, _, _, ⟨hb9, -⟩, -⟩ := id hmo; exact ⟨_, hb9⟩
        refine gc_Vi S hI (c_SF_end l P f (n := xs (6 * t + 1)) hsf hmu hVa) kv_SF_end wi_88 hsf.1 rfl rfl rfl hl.1 rfl (Nat.le_of_ble_eq_true rfl) ⟨Nat.le_of_ble_eq_true rfl, Nat.le_of_ble_eq_true rfl⟩ ⟨by show _ ≤ 600000; omega, by show _ ≤ 7302250; omega⟩ d_law_149 (fun r283 f284 H locs hp285 hI => ?_)
        obtain ⟨k1, k2, k3⟩ := hp285
        have hz1 := gB_z hI
        have hmo1 := hmo.fu k3
        obtain ⟨fsn, hm1⟩ : ∃ fs, f284 (a + 14) = some (.inr (7, fs)) := ⟨_, k3 _ _ (by omega) hm0⟩
        refine lv_aload_n S.1 S.2.1 d_law_152 rfl (lv_at hl 2 rfl) ?_
        refine lv_aload_n S.1 S.2.1 d_law_153 rfl (lv_at hl 0 rfl) ?_
        refine lv_iload_n S.1 S.2.1 d_law_154 rfl (lv_at hl 3 rfl) ?_
        refine lv_iconst (v := nI 1) S.1 S.2.1 d_law_155 (by decide) ?_
        refine lv_iadd S.1 S.2.1 d_law_156 ?_
        refine lv_topi (fun v286 ev286 => ?_)
        replace ev286 : v286 = nI ((6 * t) + 1) := ev286.trans (nI_add _ _)
        subst ev286
        refine va_sld S.1 S.2.1 hX hbl hbA hI.2.2 (i := nI ((6 * t) + 1)) (nI_in (by omega) (by omega)) d_law_157 ?_
        refine lv_topi (fun v287 ev287 => ?_)
        replace ev287 : v287 = xs ((6 * t) + 1) := ev287.trans (by rw [nI_clamp (by omega)])
        subst ev287
        refine gc_Vi S hI (c_Mdl_end l P f284 (b := a + 14) (n := xs (6 * t + 1)) hmo1) kv_Mdl_end wi_461 hm1 rfl rfl rfl hl.1 rfl (Nat.le_of_ble_eq_true rfl) ⟨Nat.le_of_ble_eq_true rfl, Nat.le_of_ble_eq_true rfl⟩ ⟨by show _ ≤ 600000; omega, by show _ ≤ 7302250; omega⟩ d_law_158 (fun r288 f289 H locs hp290 hI => ?_)
        obtain ⟨j1, j2, j3⟩ := hp290
        have hsf2 := gSF.outM k2 hmo1 hz1 rfl j3
        refine lv_icmp_eq (tgt := 354) S.1 S.2.1 d_law_161 (by decide) (fun c291 => ?_) (fun c291 => ?_)
        · skip
          refine lv_iinc (v := nI (6 * t + 6)) (lv' := [(3, .int (nI (6 * t + 6))), (0, .ref b), (1, .ref a), (2, .ref (a + 14))]) S.1 S.2.1 d_law_354 hl (k := 3) rfl (nI_add _ _) (by decide) rfl (fun ls hl => ?_)
          refine lv_goto (tgt := 18) S.1 S.2.1 d_law_357 (by decide) ?_
          refine W.widen (k := 27 + 43 * (t + 1)) (n := 413016 + 9057 * (t + 1)) (by omega) (by omega) ?_
          exact ih (t + 1) (by omega) (by omega) _ _ _ _ hsf2 j2 (wfS_end hw) hI ls (by rw [e6]; exact lv_sub hl [1, 2, 3, 0] rfl)
        · skip
          exact absurd (k1.trans j1.symm) c291
      · skip
        refine lv_tableIn (tgt := 166) S.1 S.2.1 d_law_33 (by decide) (by decide) rfl (by decide) ?_
        refine lv_aload_n S.1 S.2.1 d_law_166 rfl (lv_at hl 1 rfl) ?_
        refine lv_aload_n S.1 S.2.1 d_law_167 rfl (lv_at hl 0 rfl) ?_
        refine lv_iload_n S.1 S.2.1 d_law_168 rfl (lv_at hl 3 rfl) ?_
        refine lv_iconst (v := nI 1) S.1 S.2.1 d_law_169 (by decide) ?_
        refine lv_iadd S.1 S.2.1 d_law_170 ?_
        refine lv_topi (fun v292 ev292 => ?_)
        replace ev292 : v292 = nI ((6 * t) + 1) := ev292.trans (nI_add _ _)
        subst ev292
        refine va_sld S.1 S.2.1 hX hbl hbA hI.2.2 (i := nI ((6 * t) + 1)) (nI_in (by omega) (by omega)) d_law_171 ?_
        refine lv_topi (fun v293 ev293 => ?_)
        replace ev293 : v293 = xs ((6 * t) + 1) := ev293.trans (by rw [nI_clamp (by omega)])
        subst ev293
        obtain ⟨fsm, hm0⟩ : ∃ fs, f (a + 14) = some (.inr (7, fs)) := by obtain ⟨_, _, _, _, _, _, _, _, _, _, _, _, _, _, ⟨hb9, -⟩, -⟩ := id hmo; exact ⟨_, hb9⟩
        refine gc_Vi S hI (c_SF_name l P f (k0 := xs (6 * t + 1)) hsf hmu hVa) kv_SF_name wi_99 hsf.1 rfl rfl rfl hl.1 rfl (Nat.le_of_ble_eq_true rfl) ⟨Nat.le_of_ble_eq_true rfl, Nat.le_of_ble_eq_true rfl⟩ ⟨by show _ ≤ 600000; omega, by show _ ≤ 7302250; omega⟩ d_law_172 (fun r294 f295 H locs hp296 hI => ?_)
        obtain ⟨k1, k2, k3⟩ := hp296
        have hz1 := gB_z hI
        have hmo1 := hmo.fu k3
        obtain ⟨fsn, hm1⟩ : ∃ fs, f295 (a + 14) = some (.inr (7, fs)) := ⟨_, k3 _ _ (by omega) hm0⟩
        refine lv_aload_n S.1 S.2.1 d_law_175 rfl (lv_at hl 2 rfl) ?_
        refine lv_aload_n S.1 S.2.1 d_law_176 rfl (lv_at hl 0 rfl) ?_
        refine lv_iload_n S.1 S.2.1 d_law_177 rfl (lv_at hl 3 rfl) ?_
        refine lv_iconst (v := nI 1) S.1 S.2.1 d_law_178 (by decide) ?_
        refine lv_iadd S.1 S.2.1 d_law_179 ?_
        refine lv_topi (fun v297 ev297 => ?_)
        replace ev297 : v297 = nI ((6 * t) + 1) := ev297.trans (nI_add _ _)
        subst ev297
        refine va_sld S.1 S.2.1 hX hbl hbA hI.2.2 (i := nI ((6 * t) + 1)) (nI_in (by omega) (by omega)) d_law_180 ?_
        refine lv_topi (fun v298 ev298 => ?_)
        replace ev298 : v298 = xs ((6 * t) + 1) := ev298.trans (by rw [nI_clamp (by omega)])
        subst ev298
        refine gc_Vi S hI (c_Mdl_name l P f295 (b := a + 14) (k0 := xs (6 * t + 1)) hmo1) kv_Mdl_name wi_465 hm1 rfl rfl rfl hl.1 rfl (Nat.le_of_ble_eq_true rfl) ⟨Nat.le_of_ble_eq_true rfl, Nat.le_of_ble_eq_true rfl⟩ ⟨by show _ ≤ 600000; omega, by show _ ≤ 7302250; omega⟩ d_law_181 (fun r299 f300 H locs hp301 hI => ?_)
        obtain ⟨j1, j2, j3⟩ := hp301
        have hsf2 := gSF.outM k2 hmo1 hz1 rfl j3
        refine lv_icmp_eq (tgt := 354) S.1 S.2.1 d_law_184 (by decide) (fun c302 => ?_) (fun c302 => ?_)
        · skip
          refine lv_iinc (v := nI (6 * t + 6)) (lv' := [(3, .int (nI (6 * t + 6))), (0, .ref b), (1, .ref a), (2, .ref (a + 14))]) S.1 S.2.1 d_law_354 hl (k := 3) rfl (nI_add _ _) (by decide) rfl (fun ls hl => ?_)
          refine lv_goto (tgt := 18) S.1 S.2.1 d_law_357 (by decide) ?_
          refine W.widen (k := 27 + 43 * (t + 1)) (n := 413016 + 9057 * (t + 1)) (by omega) (by omega) ?_
          exact ih (t + 1) (by omega) (by omega) _ _ _ _ hsf2 j2 (wfS_name hw) hI ls (by rw [e6]; exact lv_sub hl [1, 2, 3, 0] rfl)
        · skip
          exact absurd (k1.trans j1.symm) c302
      · skip
        refine lv_tableIn (tgt := 189) S.1 S.2.1 d_law_33 (by decide) (by decide) rfl (by decide) ?_
        refine lv_aload_n S.1 S.2.1 d_law_189 rfl (lv_at hl 1 rfl) ?_
        refine lv_aload_n S.1 S.2.1 d_law_190 rfl (lv_at hl 0 rfl) ?_
        refine lv_iload_n S.1 S.2.1 d_law_191 rfl (lv_at hl 3 rfl) ?_
        refine lv_iconst (v := nI 1) S.1 S.2.1 d_law_192 (by decide) ?_
        refine lv_iadd S.1 S.2.1 d_law_193 ?_
        refine lv_topi (fun v303 ev303 => ?_)
        replace ev303 : v303 = nI ((6 * t) + 1) := ev303.trans (nI_add _ _)
        subst ev303
        refine va_sld S.1 S.2.1 hX hbl hbA hI.2.2 (i := nI ((6 * t) + 1)) (nI_in (by omega) (by omega)) d_law_194 ?_
        refine lv_topi (fun v304 ev304 => ?_)
        replace ev304 : v304 = xs ((6 * t) + 1) := ev304.trans (by rw [nI_clamp (by omega)])
        subst ev304
        refine lv_aload_n S.1 S.2.1 d_law_195 rfl (lv_at hl 0 rfl) ?_
        refine lv_iload_n S.1 S.2.1 d_law_196 rfl (lv_at hl 3 rfl) ?_
        refine lv_iconst (v := nI 2) S.1 S.2.1 d_law_197 (by decide) ?_
        refine lv_iadd S.1 S.2.1 d_law_198 ?_
        refine lv_topi (fun v305 ev305 => ?_)
        replace ev305 : v305 = nI ((6 * t) + 2) := ev305.trans (nI_add _ _)
        subst ev305
        refine va_sld S.1 S.2.1 hX hbl hbA hI.2.2 (i := nI ((6 * t) + 2)) (nI_in (by omega) (by omega)) d_law_199 ?_
        refine lv_topi (fun v306 ev306 => ?_)
        replace ev306 : v306 = xs ((6 * t) + 2) := ev306.trans (by rw [nI_clamp (by omega)])
        subst ev306
        refine lv_aload_n S.1 S.2.1 d_law_200 rfl (lv_at hl 0 rfl) ?_
        refine lv_iload_n S.1 S.2.1 d_law_201 rfl (lv_at hl 3 rfl) ?_
        refine lv_iconst (v := nI 3) S.1 S.2.1 d_law_202 (by decide) ?_
        refine lv_iadd S.1 S.2.1 d_law_203 ?_
        refine lv_topi (fun v307 ev307 => ?_)
        replace ev307 : v307 = nI ((6 * t) + 3) := ev307.trans (nI_add _ _)
        subst ev307
        refine va_sld S.1 S.2.1 hX hbl hbA hI.2.2 (i := nI ((6 * t) + 3)) (nI_in (by omega) (by omega)) d_law_204 ?_
        refine lv_topi (fun v308 ev308 => ?_)
        replace ev308 : v308 = xs ((6 * t) + 3) := ev308.trans (by rw [nI_clamp (by omega)])
        subst ev308
        obtain ⟨fsm, hm0⟩ : ∃ fs, f (a + 14) = some (.inr (7, fs)) := by obtain ⟨_, _, _, _, _, _, _, _, _, _, _, _, _, _, ⟨hb9, -⟩, -⟩ := id hmo; exact ⟨_, hb9⟩
        refine gc_Vi S hI (c_SF_run l P f (kd := xs (6 * t + 1)) (aa := xs (6 * t + 2)) (bb := xs (6 * t + 3)) hsf hmu hVa) kv_SF_run wi_114 hsf.1 rfl rfl rfl hl.1 rfl (Nat.le_of_ble_eq_true rfl) ⟨Nat.le_of_ble_eq_true rfl, Nat.le_of_ble_eq_true rfl⟩ ⟨by show _ ≤ 600000; omega, by show _ ≤ 7302250; omega⟩ d_law_205 (fun r309 f310 H locs hp311 hI => ?_)
        obtain ⟨k1, k2, k3⟩ := hp311
        have hz1 := gB_z hI
        have hmo1 := hmo.fu k3
        obtain ⟨fsn, hm1⟩ : ∃ fs, f310 (a + 14) = some (.inr (7, fs)) := ⟨_, k3 _ _ (by omega) hm0⟩
        refine lv_aload_n S.1 S.2.1 d_law_208 rfl (lv_at hl 2 rfl) ?_
        refine lv_aload_n S.1 S.2.1 d_law_209 rfl (lv_at hl 0 rfl) ?_
        refine lv_iload_n S.1 S.2.1 d_law_210 rfl (lv_at hl 3 rfl) ?_
        refine lv_iconst (v := nI 1) S.1 S.2.1 d_law_211 (by decide) ?_
        refine lv_iadd S.1 S.2.1 d_law_212 ?_
        refine lv_topi (fun v312 ev312 => ?_)
        replace ev312 : v312 = nI ((6 * t) + 1) := ev312.trans (nI_add _ _)
        subst ev312
        refine va_sld S.1 S.2.1 hX hbl hbA hI.2.2 (i := nI ((6 * t) + 1)) (nI_in (by omega) (by omega)) d_law_213 ?_
        refine lv_topi (fun v313 ev313 => ?_)
        replace ev313 : v313 = xs ((6 * t) + 1) := ev313.trans (by rw [nI_clamp (by omega)])
        subst ev313
        refine lv_aload_n S.1 S.2.1 d_law_214 rfl (lv_at hl 0 rfl) ?_
        refine lv_iload_n S.1 S.2.1 d_law_215 rfl (lv_at hl 3 rfl) ?_
        refine lv_iconst (v := nI 2) S.1 S.2.1 d_law_216 (by decide) ?_
        refine lv_iadd S.1 S.2.1 d_law_217 ?_
        refine lv_topi (fun v314 ev314 => ?_)
        replace ev314 : v314 = nI ((6 * t) + 2) := ev314.trans (nI_add _ _)
        subst ev314
        refine va_sld S.1 S.2.1 hX hbl hbA hI.2.2 (i := nI ((6 * t) + 2)) (nI_in (by omega) (by omega)) d_law_218 ?_
        refine lv_topi (fun v315 ev315 => ?_)
        replace ev315 : v315 = xs ((6 * t) + 2) := ev315.trans (by rw [nI_clamp (by omega)])
        subst ev315
        refine lv_aload_n S.1 S.2.1 d_law_219 rfl (lv_at hl 0 rfl) ?_
        refine lv_iload_n S.1 S.2.1 d_law_220 rfl (lv_at hl 3 rfl) ?_
        refine lv_iconst (v := nI 3) S.1 S.2.1 d_law_221 (by decide) ?_
        refine lv_iadd S.1 S.2.1 d_law_222 ?_
        refine lv_topi (fun v316 ev316 => ?_)
        replace ev316 : v316 = nI ((6 * t) + 3) := ev316.trans (nI_add _ _)
        subst ev316
        refine va_sld S.1 S.2.1 hX hbl hbA hI.2.2 (i := nI ((6 * t) + 3)) (nI_in (by omega) (by omega)) d_law_223 ?_
        refine lv_topi (fun v317 ev317 => ?_)
        replace ev317 : v317 = xs ((6 * t) + 3) := ev317.trans (by rw [nI_clamp (by omega)])
        subst ev317
        refine gc_Vi S hI (c_Mdl_run l P f310 (b := a + 14) (kd := xs (6 * t + 1)) (aa := xs (6 * t + 2)) (bb := xs (6 * t + 3)) hmo1 hw) kv_Mdl_run wi_469 hm1 rfl rfl rfl hl.1 rfl (Nat.le_of_ble_eq_true rfl) ⟨Nat.le_of_ble_eq_true rfl, Nat.le_of_ble_eq_true rfl⟩ ⟨by show _ ≤ 600000; omega, by show _ ≤ 7302250; omega⟩ d_law_224 (fun r318 f319 H locs hp320 hI => ?_)
        obtain ⟨j1, j2, j3⟩ := hp320
        have hsf2 := gSF.outM k2 hmo1 hz1 rfl j3
        refine lv_icmp_eq (tgt := 354) S.1 S.2.1 d_law_227 (by decide) (fun c321 => ?_) (fun c321 => ?_)
        · skip
          refine lv_iinc (v := nI (6 * t + 6)) (lv' := [(3, .int (nI (6 * t + 6))), (0, .ref b), (1, .ref a), (2, .ref (a + 14))]) S.1 S.2.1 d_law_354 hl (k := 3) rfl (nI_add _ _) (by decide) rfl (fun ls hl => ?_)
          refine lv_goto (tgt := 18) S.1 S.2.1 d_law_357 (by decide) ?_
          refine W.widen (k := 27 + 43 * (t + 1)) (n := 413016 + 9057 * (t + 1)) (by omega) (by omega) ?_
          exact ih (t + 1) (by omega) (by omega) _ _ _ _ hsf2 j2 (wfS_run hw) hI ls (by rw [e6]; exact lv_sub hl [1, 2, 3, 0] rfl)
        · skip
          exact absurd (k1.trans j1.symm) c321
      · skip
        refine lv_tableIn (tgt := 232) S.1 S.2.1 d_law_33 (by decide) (by decide) rfl (by decide) ?_
        refine lv_aload_n S.1 S.2.1 d_law_232 rfl (lv_at hl 1 rfl) ?_
        refine lv_aload_n S.1 S.2.1 d_law_233 rfl (lv_at hl 0 rfl) ?_
        refine lv_iload_n S.1 S.2.1 d_law_234 rfl (lv_at hl 3 rfl) ?_
        refine lv_iconst (v := nI 1) S.1 S.2.1 d_law_235 (by decide) ?_
        refine lv_iadd S.1 S.2.1 d_law_236 ?_
        refine lv_topi (fun v322 ev322 => ?_)
        replace ev322 : v322 = nI ((6 * t) + 1) := ev322.trans (nI_add _ _)
        subst ev322
        refine va_sld S.1 S.2.1 hX hbl hbA hI.2.2 (i := nI ((6 * t) + 1)) (nI_in (by omega) (by omega)) d_law_237 ?_
        refine lv_topi (fun v323 ev323 => ?_)
        replace ev323 : v323 = xs ((6 * t) + 1) := ev323.trans (by rw [nI_clamp (by omega)])
        subst ev323
        obtain ⟨fsm, hm0⟩ : ∃ fs, f (a + 14) = some (.inr (7, fs)) := by obtain ⟨_, _, _, _, _, _, _, _, _, _, _, _, _, _, ⟨hb9, -⟩, -⟩ := id hmo; exact ⟨_, hb9⟩
        refine gc_Vi S hI (c_SF_told l P f (i := xs (6 * t + 1)) hsf) kv_SF_told wi_385 hsf.1 rfl rfl rfl hl.1 rfl (Nat.le_of_ble_eq_true rfl) ⟨Nat.le_of_ble_eq_true rfl, Nat.le_of_ble_eq_true rfl⟩ ⟨by show _ ≤ 600000; omega, by show _ ≤ 7302250; omega⟩ d_law_238 (fun r324 f325 H locs hp326 hI => ?_)
        obtain ⟨k1, k2⟩ := hp326
        rw [k2] at hI
        have hmo1 := hmo
        have hm1 := hm0
        refine lv_aload_n S.1 S.2.1 d_law_241 rfl (lv_at hl 2 rfl) ?_
        refine lv_aload_n S.1 S.2.1 d_law_242 rfl (lv_at hl 0 rfl) ?_
        refine lv_iload_n S.1 S.2.1 d_law_243 rfl (lv_at hl 3 rfl) ?_
        refine lv_iconst (v := nI 1) S.1 S.2.1 d_law_244 (by decide) ?_
        refine lv_iadd S.1 S.2.1 d_law_245 ?_
        refine lv_topi (fun v327 ev327 => ?_)
        replace ev327 : v327 = nI ((6 * t) + 1) := ev327.trans (nI_add _ _)
        subst ev327
        refine va_sld S.1 S.2.1 hX hbl hbA hI.2.2 (i := nI ((6 * t) + 1)) (nI_in (by omega) (by omega)) d_law_246 ?_
        refine lv_topi (fun v328 ev328 => ?_)
        replace ev328 : v328 = xs ((6 * t) + 1) := ev328.trans (by rw [nI_clamp (by omega)])
        subst ev328
        refine gc_Vi S hI (c_Mdl_told l P f (b := a + 14) (i := xs (6 * t + 1)) hmo1) kv_Mdl_told wi_513 hm1 rfl rfl rfl hl.1 rfl (Nat.le_of_ble_eq_true rfl) ⟨Nat.le_of_ble_eq_true rfl, Nat.le_of_ble_eq_true rfl⟩ ⟨by show _ ≤ 600000; omega, by show _ ≤ 7302250; omega⟩ d_law_247 (fun r329 f330 H locs hp331 hI => ?_)
        obtain ⟨j1, j2⟩ := hp331
        rw [j2] at hI
        refine lv_icmp_eq (tgt := 354) S.1 S.2.1 d_law_250 (by decide) (fun c332 => ?_) (fun c332 => ?_)
        · skip
          refine lv_iinc (v := nI (6 * t + 6)) (lv' := [(3, .int (nI (6 * t + 6))), (0, .ref b), (1, .ref a), (2, .ref (a + 14))]) S.1 S.2.1 d_law_354 hl (k := 3) rfl (nI_add _ _) (by decide) rfl (fun ls hl => ?_)
          refine lv_goto (tgt := 18) S.1 S.2.1 d_law_357 (by decide) ?_
          refine W.widen (k := 27 + 43 * (t + 1)) (n := 413016 + 9057 * (t + 1)) (by omega) (by omega) ?_
          exact ih (t + 1) (by omega) (by omega) _ _ _ _ hsf hmo hw hI ls (by rw [e6]; exact lv_sub hl [1, 2, 3, 0] rfl)
        · skip
          exact absurd (k1.trans j1.symm) c332
      · skip
        refine lv_tableIn (tgt := 255) S.1 S.2.1 d_law_33 (by decide) (by decide) rfl (by decide) ?_
        refine lv_aload_n S.1 S.2.1 d_law_255 rfl (lv_at hl 1 rfl) ?_
        refine lv_aload_n S.1 S.2.1 d_law_256 rfl (lv_at hl 0 rfl) ?_
        refine lv_iload_n S.1 S.2.1 d_law_257 rfl (lv_at hl 3 rfl) ?_
        refine lv_iconst (v := nI 1) S.1 S.2.1 d_law_258 (by decide) ?_
        refine lv_iadd S.1 S.2.1 d_law_259 ?_
        refine lv_topi (fun v333 ev333 => ?_)
        replace ev333 : v333 = nI ((6 * t) + 1) := ev333.trans (nI_add _ _)
        subst ev333
        refine va_sld S.1 S.2.1 hX hbl hbA hI.2.2 (i := nI ((6 * t) + 1)) (nI_in (by omega) (by omega)) d_law_260 ?_
        refine lv_topi (fun v334 ev334 => ?_)
        replace ev334 : v334 = xs ((6 * t) + 1) := ev334.trans (by rw [nI_clamp (by omega)])
        subst ev334
        refine lv_aload_n S.1 S.2.1 d_law_261 rfl (lv_at hl 0 rfl) ?_
        refine lv_iload_n S.1 S.2.1 d_law_262 rfl (lv_at hl 3 rfl) ?_
        refine lv_iconst (v := nI 2) S.1 S.2.1 d_law_263 (by decide) ?_
        refine lv_iadd S.1 S.2.1 d_law_264 ?_
        refine lv_topi (fun v335 ev335 => ?_)
        replace ev335 : v335 = nI ((6 * t) + 2) := ev335.trans (nI_add _ _)
        subst ev335
        refine va_sld S.1 S.2.1 hX hbl hbA hI.2.2 (i := nI ((6 * t) + 2)) (nI_in (by omega) (by omega)) d_law_265 ?_
        refine lv_topi (fun v336 ev336 => ?_)
        replace ev336 : v336 = xs ((6 * t) + 2) := ev336.trans (by rw [nI_clamp (by omega)])
        subst ev336
        obtain ⟨fsm, hm0⟩ : ∃ fs, f (a + 14) = some (.inr (7, fs)) := by obtain ⟨_, _, _, _, _, _, _, _, _, _, _, _, _, _, ⟨hb9, -⟩, -⟩ := id hmo; exact ⟨_, hb9⟩
        refine gc_Vi S hI (c_SF_file l P f (k := xs (6 * t + 1)) (wh := xs (6 * t + 2)) hsf) kv_SF_file wi_393 hsf.1 rfl rfl rfl hl.1 rfl (Nat.le_of_ble_eq_true rfl) ⟨Nat.le_of_ble_eq_true rfl, Nat.le_of_ble_eq_true rfl⟩ ⟨by show _ ≤ 600000; omega, by show _ ≤ 7302250; omega⟩ d_law_266 (fun r337 f338 H locs hp339 hI => ?_)
        obtain ⟨k1, k2⟩ := hp339
        rw [k2] at hI
        have hmo1 := hmo
        have hm1 := hm0
        refine lv_aload_n S.1 S.2.1 d_law_269 rfl (lv_at hl 2 rfl) ?_
        refine lv_aload_n S.1 S.2.1 d_law_270 rfl (lv_at hl 0 rfl) ?_
        refine lv_iload_n S.1 S.2.1 d_law_271 rfl (lv_at hl 3 rfl) ?_
        refine lv_iconst (v := nI 1) S.1 S.2.1 d_law_272 (by decide) ?_
        refine lv_iadd S.1 S.2.1 d_law_273 ?_
        refine lv_topi (fun v340 ev340 => ?_)
        replace ev340 : v340 = nI ((6 * t) + 1) := ev340.trans (nI_add _ _)
        subst ev340
        refine va_sld S.1 S.2.1 hX hbl hbA hI.2.2 (i := nI ((6 * t) + 1)) (nI_in (by omega) (by omega)) d_law_274 ?_
        refine lv_topi (fun v341 ev341 => ?_)
        replace ev341 : v341 = xs ((6 * t) + 1) := ev341.trans (by rw [nI_clamp (by omega)])
        subst ev341
        refine lv_aload_n S.1 S.2.1 d_law_275 rfl (lv_at hl 0 rfl) ?_
        refine lv_iload_n S.1 S.2.1 d_law_276 rfl (lv_at hl 3 rfl) ?_
        refine lv_iconst (v := nI 2) S.1 S.2.1 d_law_277 (by decide) ?_
        refine lv_iadd S.1 S.2.1 d_law_278 ?_
        refine lv_topi (fun v342 ev342 => ?_)
        replace ev342 : v342 = nI ((6 * t) + 2) := ev342.trans (nI_add _ _)
        subst ev342
        refine va_sld S.1 S.2.1 hX hbl hbA hI.2.2 (i := nI ((6 * t) + 2)) (nI_in (by omega) (by omega)) d_law_279 ?_
        refine lv_topi (fun v343 ev343 => ?_)
        replace ev343 : v343 = xs ((6 * t) + 2) := ev343.trans (by rw [nI_clamp (by omega)])
        subst ev343
        refine gc_Vi S hI (c_Mdl_file l P f (b := a + 14) (k0 := xs (6 * t + 1)) (wh := xs (6 * t + 2)) hmo1) kv_Mdl_file wi_517 hm1 rfl rfl rfl hl.1 rfl (Nat.le_of_ble_eq_true rfl) ⟨Nat.le_of_ble_eq_true rfl, Nat.le_of_ble_eq_true rfl⟩ ⟨by show _ ≤ 600000; omega, by show _ ≤ 7302250; omega⟩ d_law_280 (fun r344 f345 H locs hp346 hI => ?_)
        obtain ⟨j1, j2⟩ := hp346
        rw [j2] at hI
        refine lv_icmp_eq (tgt := 354) S.1 S.2.1 d_law_283 (by decide) (fun c347 => ?_) (fun c347 => ?_)
        · skip
          refine lv_iinc (v := nI (6 * t + 6)) (lv' := [(3, .int (nI (6 * t + 6))), (0, .ref b), (1, .ref a), (2, .ref (a + 14))]) S.1 S.2.1 d_law_354 hl (k := 3) rfl (nI_add _ _) (by decide) rfl (fun ls hl => ?_)
          refine lv_goto (tgt := 18) S.1 S.2.1 d_law_357 (by decide) ?_
          refine W.widen (k := 27 + 43 * (t + 1)) (n := 413016 + 9057 * (t + 1)) (by omega) (by omega) ?_
          exact ih (t + 1) (by omega) (by omega) _ _ _ _ hsf hmo hw hI ls (by rw [e6]; exact lv_sub hl [1, 2, 3, 0] rfl)
        · skip
          exact absurd (k1.trans j1.symm) c347
      · skip
        refine lv_tableIn (tgt := 288) S.1 S.2.1 d_law_33 (by decide) (by decide) rfl (by decide) ?_
        refine lv_aload_n S.1 S.2.1 d_law_288 rfl (lv_at hl 1 rfl) ?_
        refine lv_aload_n S.1 S.2.1 d_law_289 rfl (lv_at hl 0 rfl) ?_
        refine lv_iload_n S.1 S.2.1 d_law_290 rfl (lv_at hl 3 rfl) ?_
        refine lv_iconst (v := nI 1) S.1 S.2.1 d_law_291 (by decide) ?_
        refine lv_iadd S.1 S.2.1 d_law_292 ?_
        refine lv_topi (fun v348 ev348 => ?_)
        replace ev348 : v348 = nI ((6 * t) + 1) := ev348.trans (nI_add _ _)
        subst ev348
        refine va_sld S.1 S.2.1 hX hbl hbA hI.2.2 (i := nI ((6 * t) + 1)) (nI_in (by omega) (by omega)) d_law_293 ?_
        refine lv_topi (fun v349 ev349 => ?_)
        replace ev349 : v349 = xs ((6 * t) + 1) := ev349.trans (by rw [nI_clamp (by omega)])
        subst ev349
        refine lv_aload_n S.1 S.2.1 d_law_294 rfl (lv_at hl 0 rfl) ?_
        refine lv_iload_n S.1 S.2.1 d_law_295 rfl (lv_at hl 3 rfl) ?_
        refine lv_iconst (v := nI 2) S.1 S.2.1 d_law_296 (by decide) ?_
        refine lv_iadd S.1 S.2.1 d_law_297 ?_
        refine lv_topi (fun v350 ev350 => ?_)
        replace ev350 : v350 = nI ((6 * t) + 2) := ev350.trans (nI_add _ _)
        subst ev350
        refine va_sld S.1 S.2.1 hX hbl hbA hI.2.2 (i := nI ((6 * t) + 2)) (nI_in (by omega) (by omega)) d_law_298 ?_
        refine lv_topi (fun v351 ev351 => ?_)
        replace ev351 : v351 = xs ((6 * t) + 2) := ev351.trans (by rw [nI_clamp (by omega)])
        subst ev351
        refine lv_aload_n S.1 S.2.1 d_law_299 rfl (lv_at hl 0 rfl) ?_
        refine lv_iload_n S.1 S.2.1 d_law_300 rfl (lv_at hl 3 rfl) ?_
        refine lv_iconst (v := nI 3) S.1 S.2.1 d_law_301 (by decide) ?_
        refine lv_iadd S.1 S.2.1 d_law_302 ?_
        refine lv_topi (fun v352 ev352 => ?_)
        replace ev352 : v352 = nI ((6 * t) + 3) := ev352.trans (nI_add _ _)
        subst ev352
        refine va_sld S.1 S.2.1 hX hbl hbA hI.2.2 (i := nI ((6 * t) + 3)) (nI_in (by omega) (by omega)) d_law_303 ?_
        refine lv_topi (fun v353 ev353 => ?_)
        replace ev353 : v353 = xs ((6 * t) + 3) := ev353.trans (by rw [nI_clamp (by omega)])
        subst ev353
        obtain ⟨fsm, hm0⟩ : ∃ fs, f (a + 14) = some (.inr (7, fs)) := by obtain ⟨_, _, _, _, _, _, _, _, _, _, _, _, _, _, ⟨hb9, -⟩, -⟩ := id hmo; exact ⟨_, hb9⟩
        refine gc_Vi S hI (c_SF_piece l P f (k := xs (6 * t + 1)) (si := xs (6 * t + 2)) (ii := xs (6 * t + 3)) hsf) kv_SF_piece wi_406 hsf.1 rfl rfl rfl hl.1 rfl (Nat.le_of_ble_eq_true rfl) ⟨Nat.le_of_ble_eq_true rfl, Nat.le_of_ble_eq_true rfl⟩ ⟨by show _ ≤ 600000; omega, by show _ ≤ 7302250; omega⟩ d_law_304 (fun r354 f355 H locs hp356 hI => ?_)
        obtain ⟨k1, k2⟩ := hp356
        rw [k2] at hI
        have hmo1 := hmo
        have hm1 := hm0
        refine lv_aload_n S.1 S.2.1 d_law_307 rfl (lv_at hl 2 rfl) ?_
        refine lv_aload_n S.1 S.2.1 d_law_308 rfl (lv_at hl 0 rfl) ?_
        refine lv_iload_n S.1 S.2.1 d_law_309 rfl (lv_at hl 3 rfl) ?_
        refine lv_iconst (v := nI 1) S.1 S.2.1 d_law_310 (by decide) ?_
        refine lv_iadd S.1 S.2.1 d_law_311 ?_
        refine lv_topi (fun v357 ev357 => ?_)
        replace ev357 : v357 = nI ((6 * t) + 1) := ev357.trans (nI_add _ _)
        subst ev357
        refine va_sld S.1 S.2.1 hX hbl hbA hI.2.2 (i := nI ((6 * t) + 1)) (nI_in (by omega) (by omega)) d_law_312 ?_
        refine lv_topi (fun v358 ev358 => ?_)
        replace ev358 : v358 = xs ((6 * t) + 1) := ev358.trans (by rw [nI_clamp (by omega)])
        subst ev358
        refine lv_aload_n S.1 S.2.1 d_law_313 rfl (lv_at hl 0 rfl) ?_
        refine lv_iload_n S.1 S.2.1 d_law_314 rfl (lv_at hl 3 rfl) ?_
        refine lv_iconst (v := nI 2) S.1 S.2.1 d_law_315 (by decide) ?_
        refine lv_iadd S.1 S.2.1 d_law_316 ?_
        refine lv_topi (fun v359 ev359 => ?_)
        replace ev359 : v359 = nI ((6 * t) + 2) := ev359.trans (nI_add _ _)
        subst ev359
        refine va_sld S.1 S.2.1 hX hbl hbA hI.2.2 (i := nI ((6 * t) + 2)) (nI_in (by omega) (by omega)) d_law_317 ?_
        refine lv_topi (fun v360 ev360 => ?_)
        replace ev360 : v360 = xs ((6 * t) + 2) := ev360.trans (by rw [nI_clamp (by omega)])
        subst ev360
        refine lv_aload_n S.1 S.2.1 d_law_318 rfl (lv_at hl 0 rfl) ?_
        refine lv_iload_n S.1 S.2.1 d_law_319 rfl (lv_at hl 3 rfl) ?_
        refine lv_iconst (v := nI 3) S.1 S.2.1 d_law_320 (by decide) ?_
        refine lv_iadd S.1 S.2.1 d_law_321 ?_
        refine lv_topi (fun v361 ev361 => ?_)
        replace ev361 : v361 = nI ((6 * t) + 3) := ev361.trans (nI_add _ _)
        subst ev361
        refine va_sld S.1 S.2.1 hX hbl hbA hI.2.2 (i := nI ((6 * t) + 3)) (nI_in (by omega) (by omega)) d_law_322 ?_
        refine lv_topi (fun v362 ev362 => ?_)
        replace ev362 : v362 = xs ((6 * t) + 3) := ev362.trans (by rw [nI_clamp (by omega)])
        subst ev362
        refine gc_Vi S hI (c_Mdl_piece l P f (b := a + 14) (k0 := xs (6 * t + 1)) (si := xs (6 * t + 2)) (ii := xs (6 * t + 3)) hmo1 hw) kv_Mdl_piece wi_524 hm1 rfl rfl rfl hl.1 rfl (Nat.le_of_ble_eq_true rfl) ⟨Nat.le_of_ble_eq_true rfl, Nat.le_of_ble_eq_true rfl⟩ ⟨by show _ ≤ 600000; omega, by show _ ≤ 7302250; omega⟩ d_law_323 (fun r363 f364 H locs hp365 hI => ?_)
        obtain ⟨j1, j2⟩ := hp365
        rw [j2] at hI
        refine lv_icmp_eq (tgt := 354) S.1 S.2.1 d_law_326 (by decide) (fun c366 => ?_) (fun c366 => ?_)
        · skip
          refine lv_iinc (v := nI (6 * t + 6)) (lv' := [(3, .int (nI (6 * t + 6))), (0, .ref b), (1, .ref a), (2, .ref (a + 14))]) S.1 S.2.1 d_law_354 hl (k := 3) rfl (nI_add _ _) (by decide) rfl (fun ls hl => ?_)
          refine lv_goto (tgt := 18) S.1 S.2.1 d_law_357 (by decide) ?_
          refine W.widen (k := 27 + 43 * (t + 1)) (n := 413016 + 9057 * (t + 1)) (by omega) (by omega) ?_
          exact ih (t + 1) (by omega) (by omega) _ _ _ _ hsf hmo hw hI ls (by rw [e6]; exact lv_sub hl [1, 2, 3, 0] rfl)
        · skip
          exact absurd (k1.trans j1.symm) c366
      · skip
        refine lv_tableIn (tgt := 331) S.1 S.2.1 d_law_33 (by decide) (by decide) rfl (by decide) ?_
        refine lv_aload_n S.1 S.2.1 d_law_331 rfl (lv_at hl 1 rfl) ?_
        refine lv_aload_n S.1 S.2.1 d_law_332 rfl (lv_at hl 0 rfl) ?_
        refine lv_iload_n S.1 S.2.1 d_law_333 rfl (lv_at hl 3 rfl) ?_
        refine lv_iconst (v := nI 1) S.1 S.2.1 d_law_334 (by decide) ?_
        refine lv_iadd S.1 S.2.1 d_law_335 ?_
        refine lv_topi (fun v367 ev367 => ?_)
        replace ev367 : v367 = nI ((6 * t) + 1) := ev367.trans (nI_add _ _)
        subst ev367
        refine va_sld S.1 S.2.1 hX hbl hbA hI.2.2 (i := nI ((6 * t) + 1)) (nI_in (by omega) (by omega)) d_law_336 ?_
        refine lv_topi (fun v368 ev368 => ?_)
        replace ev368 : v368 = xs ((6 * t) + 1) := ev368.trans (by rw [nI_clamp (by omega)])
        subst ev368
        obtain ⟨fsm, hm0⟩ : ∃ fs, f (a + 14) = some (.inr (7, fs)) := by obtain ⟨_, _, _, _, _, _, _, _, _, _, _, _, _, _, ⟨hb9, -⟩, -⟩ := id hmo; exact ⟨_, hb9⟩
        refine gc_Vi S hI (c_SF_count l P f (wh := xs (6 * t + 1)) hsf) kv_SF_count wi_414 hsf.1 rfl rfl rfl hl.1 rfl (Nat.le_of_ble_eq_true rfl) ⟨Nat.le_of_ble_eq_true rfl, Nat.le_of_ble_eq_true rfl⟩ ⟨by show _ ≤ 600000; omega, by show _ ≤ 7302250; omega⟩ d_law_337 (fun r369 f370 H locs hp371 hI => ?_)
        obtain ⟨k1, k2⟩ := hp371
        rw [k2] at hI
        have hmo1 := hmo
        have hm1 := hm0
        refine lv_aload_n S.1 S.2.1 d_law_340 rfl (lv_at hl 2 rfl) ?_
        refine lv_aload_n S.1 S.2.1 d_law_341 rfl (lv_at hl 0 rfl) ?_
        refine lv_iload_n S.1 S.2.1 d_law_342 rfl (lv_at hl 3 rfl) ?_
        refine lv_iconst (v := nI 1) S.1 S.2.1 d_law_343 (by decide) ?_
        refine lv_iadd S.1 S.2.1 d_law_344 ?_
        refine lv_topi (fun v372 ev372 => ?_)
        replace ev372 : v372 = nI ((6 * t) + 1) := ev372.trans (nI_add _ _)
        subst ev372
        refine va_sld S.1 S.2.1 hX hbl hbA hI.2.2 (i := nI ((6 * t) + 1)) (nI_in (by omega) (by omega)) d_law_345 ?_
        refine lv_topi (fun v373 ev373 => ?_)
        replace ev373 : v373 = xs ((6 * t) + 1) := ev373.trans (by rw [nI_clamp (by omega)])
        subst ev373
        refine gc_Vi S hI (c_Mdl_count l P f (b := a + 14) (wh := xs (6 * t + 1)) hmo1) kv_Mdl_count wi_528 hm1 rfl rfl rfl hl.1 rfl (Nat.le_of_ble_eq_true rfl) ⟨Nat.le_of_ble_eq_true rfl, Nat.le_of_ble_eq_true rfl⟩ ⟨by show _ ≤ 600000; omega, by show _ ≤ 7302250; omega⟩ d_law_346 (fun r374 f375 H locs hp376 hI => ?_)
        obtain ⟨j1, j2⟩ := hp376
        rw [j2] at hI
        refine lv_icmp_eq (tgt := 354) S.1 S.2.1 d_law_349 (by decide) (fun c377 => ?_) (fun c377 => ?_)
        · skip
          refine lv_iinc (v := nI (6 * t + 6)) (lv' := [(3, .int (nI (6 * t + 6))), (0, .ref b), (1, .ref a), (2, .ref (a + 14))]) S.1 S.2.1 d_law_354 hl (k := 3) rfl (nI_add _ _) (by decide) rfl (fun ls hl => ?_)
          refine lv_goto (tgt := 18) S.1 S.2.1 d_law_357 (by decide) ?_
          refine W.widen (k := 27 + 43 * (t + 1)) (n := 413016 + 9057 * (t + 1)) (by omega) (by omega) ?_
          exact ih (t + 1) (by omega) (by omega) _ _ _ _ hsf hmo hw hI ls (by rw [e6]; exact lv_sub hl [1, 2, 3, 0] rfl)
        · skip
          exact absurd (k1.trans j1.symm) c377
set_option maxHeartbeats 4000000 in
set_option maxRecDepth 100000 in
theorem law_entry {p : Program} {env : Env} {s : State} {m : MethodId} {below : List Frame} {meth : Method} {c : Code} (l : Launch) {b L a : Nat} {xs : Nat → Int32} {P : gPar} (hL : L ≤ 3072) (C0 : lw_At p s m meth c b L xs) (hPA : gA P = fun q : Nat => s.heap.size ≤ q) (f : gM) (H : Heap) (locs : List Loc) (hI : gB P f s H locs) (hz : H.size = a) (ls : Array Slot) (hl : lv_has ls 4 [(0, .ref b)]) : W p l env room_1 s m #[Value.ref b] below meth c H locs (0) (0) (lw_Z below #[Value.ref b] s) (F0 m 0 ls []) := by
  obtain ⟨hx, hb, hr, hml, hown, hts, hX, hbl, hlocks, hgv⟩ := id C0
  have S : CallFix p m c code 4 s #[Value.ref b] gw R_Law := ⟨hx, hb, hml, hown, fun w hw => hts w (gw_in hw)⟩
  refine gh_newZ (ci := 0) (fs := [.null, .null, .null, .null, .null, .int 0]) S hI hz rfl i_SF t_SF tk_SF wi_17 wi_18 wi_1 (fun j hj => by rcases (show j = 0 ∨ j = 1 ∨ j = 2 ∨ j = 3 ∨ j = 4 ∨ j = 5 by omega) with rfl | rfl | rfl | rfl | rfl | rfl <;> rfl) (by show _ ≤ 600000; omega) (by show _ ≤ 7302250; omega) d_law_0 (fun H hn378 hz hI => ?_)
  replace hz : H.size = a + 1 := hz
  have hI : gB P (va_up f a (some (.inr (0, [.null, .null, .null, .null, .null, .int 0])))) s H locs := hI
  obtain ⟨f379, ef379⟩ : ∃ z, z = va_up f a (some (.inr (0, [.null, .null, .null, .null, .null, .int 0]))) := ⟨_, rfl⟩
  rw [← ef379] at hI
  have h380 : f379 a = some (.inr (0, [.null, .null, .null, .null, .null, .int 0])) := by rw [ef379]; exact va_up_self _ _ _
  refine lv_dup S.1 S.2.1 d_law_3 rfl ?_
  refine gc_Iz S hI hz (c_SF_initZ l P f379 (a := a) h380) kv_SF_init wi_19 rfl hl.1 rfl (Nat.le_of_ble_eq_true rfl) ⟨Nat.le_of_ble_eq_true rfl, Nat.le_of_ble_eq_true rfl⟩ ⟨(by show _ ≤ 600000; omega), (by show _ ≤ 7302250; omega)⟩ d_law_4 (fun f381 z382 H locs hp383 hI hz => ?_)
  obtain ⟨hp0, hp1, hp2⟩ := hp383
  dsimp only at hp0 hp1 hp2
  rw [hp0] at hz
  replace hz : H.size = a + 14 := hz
  have hnew : ∀ q, a + 14 ≤ q → f381 q = none := fun q hq => gB_none hI (by omega)
  refine lv_astore_n (lv' := [(1, .ref a), (0, .ref b)]) S.1 S.2.1 d_law_7 rfl hl (by decide) rfl (fun ls hl => ?_)
  refine gh_newZ (ci := 7) (fs := [.null, .int 0, .null, .null, .null, .null, .null, .null, .null, .null, .null, .null, .int 0, .int 0, .int 0, .null, .int 0]) S hI hz rfl i_Mdl t_Mdl tk_Mdl wi_428 wi_429 wi_8 (fun j hj => by rcases (show j = 0 ∨ j = 1 ∨ j = 2 ∨ j = 3 ∨ j = 4 ∨ j = 5 ∨ j = 6 ∨ j = 7 ∨ j = 8 ∨ j = 9 ∨ j = 10 ∨ j = 11 ∨ j = 12 ∨ j = 13 ∨ j = 14 ∨ j = 15 ∨ j = 16 by omega) with rfl | rfl | rfl | rfl | rfl | rfl | rfl | rfl | rfl | rfl | rfl | rfl | rfl | rfl | rfl | rfl | rfl <;> rfl) (by show _ ≤ 600000; omega) (by show _ ≤ 7302250; omega) d_law_8 (fun H hn384 hz hI => ?_)
  replace hz : H.size = a + 15 := hz
  have hI : gB P (va_up f381 (a + 14) (some (.inr (7, [.null, .int 0, .null, .null, .null, .null, .null, .null, .null, .null, .null, .null, .int 0, .int 0, .int 0, .null, .int 0])))) s H locs := hI
  obtain ⟨f385, ef385⟩ : ∃ z, z = va_up f381 (a + 14) (some (.inr (7, [.null, .int 0, .null, .null, .null, .null, .null, .null, .null, .null, .null, .null, .int 0, .int 0, .int 0, .null, .int 0]))) := ⟨_, rfl⟩
  rw [← ef385] at hI
  have h386 : f385 (a + 14) = some (.inr (7, [.null, .int 0, .null, .null, .null, .null, .null, .null, .null, .null, .null, .null, .int 0, .int 0, .int 0, .null, .int 0])) := by rw [ef385]; exact va_up_self _ _ _
  refine lv_dup S.1 S.2.1 d_law_11 rfl ?_
  refine gc_Iz S hI hz (c_Mdl_initZ l P f385 (b := a + 14) h386) kv_Mdl_init wi_430 rfl hl.1 rfl (Nat.le_of_ble_eq_true rfl) ⟨Nat.le_of_ble_eq_true rfl, Nat.le_of_ble_eq_true rfl⟩ ⟨(by show _ ≤ 600000; omega), (by show _ ≤ 7302250; omega)⟩ d_law_12 (fun f387 z388 H locs hp389 hI hz => ?_)
  obtain ⟨hm0, hm1, hm2⟩ := hp389
  dsimp only at hm0 hm1 hm2
  have hF : gFr f381 f387 [] := (show gFr f381 f385 [] by rw [ef385]; exact gFr.upN hn384 gFr.rf).call hm2 (fun q hq => Or.inr (by rw [List.mem_singleton.mp hq]; exact hnew _ (by omega)))
  have hsf := hp1.fr0 hF
  refine lv_astore_n (lv' := [(2, .ref (a + 14)), (1, .ref a), (0, .ref b)]) S.1 S.2.1 d_law_15 rfl hl (by decide) rfl (fun ls hl => ?_)
  refine lv_iconst (v := nI 0) S.1 S.2.1 d_law_16 (by decide) ?_
  refine lv_istore_n (lv' := [(3, .int (nI 0)), (2, .ref (a + 14)), (1, .ref a), (0, .ref b)]) S.1 S.2.1 d_law_17 rfl hl (by decide) rfl (fun ls hl => ?_)
  refine W.widen (k := 27 + 43 * 0) (n := 413016 + 9057 * 0) (by omega) (by omega) ?_
  exact law_loop l hL C0 hPA (L + 1) 0 (by omega) (by omega) aNew _ _ _ hsf hm1 wfS_new hI ls (lv_sub hl [3, 2, 1, 0] rfl)
/-- from the entry, for every script of at most 3072 ints, the law comes to its end with true -/
theorem whole_start {p : Program} {e : Env} {s : State} {m : MethodId} {below : List Frame} {meth : Method} {c : Code} (l : Launch) {b L : Nat} {xs : Nat → Int32} (hL : L ≤ 3072) (C0 : lw_At p s m meth c b L xs) : W p l e room_1 s m #[Value.ref b] below meth c s.heap [] 0 0 (lw_Z below #[Value.ref b] s) (entryFrame m ([Value.ref b] : List Value).toArray 4) := by
  obtain ⟨hx, hb, hr, hml, hown, hts, hX, hbl, hlocks, hgv⟩ := id C0
  obtain ⟨P, hPA, hX0⟩ := gX_start hts hgv
  have hl := lv_entry ([.ref b]) (n := 4) (Nat.le_of_ble_eq_true rfl)
  rw [lg_entry_eq]
  generalize (lg_sl ([.ref b]) ++ List.replicate (4 - (lg_sl ([.ref b])).length) Slot.unset).toArray = ls at hl ⊢
  exact law_entry l hL C0 hPA (fun _ => none) s.heap [] (gB_start hX0) rfl ls hl
