set_option maxHeartbeats 4000000 in
set_option maxRecDepth 100000 in
theorem c_SF_isRefused (l : Launch) (P : gPar) (f : gM) {a : Nat} {st : ASt} {kd aa bb : Int32} (h : gSF P f a st) : gC l P y_SF_isRefused b_SF_isRefused 4 (some .boolean) 1 0 0 [.ref a, .int kd, .int aa, .int bb] f (gQi P (fun r f1 => ((aRef st kd aa bb ∧ r = nI 1) ∨ (¬ aRef st kd aa bb ∧ r = nI 0)) ∧ f1 = f)) := by
  refine gC_of (by decide) (Nat.le_of_ble_eq_true rfl) (fun p env s m args below meth c S hr hlk hnm H locs hI ls hl => ?_)
  have hl : lv_has ls 4 [(0, .ref a), (1, .int kd), (2, .int aa), (3, .int bb)] := hl
  have h0 : f a = some (.inr (0, [.ref (a + 1), .ref (a + 3), .ref (a + 5), .ref (a + 7), .ref (a + 9), .int (nI st.2.2.2.2.1)])) := h.1
  obtain ⟨gn, n1, n2, n3, n4, n5⟩ := h.2.2.1
  replace n1 : f (a + 3) = some (.inr (1, [.ref (a + 4), .int (nI st.2.1.length)])) := n1
  replace n2 : f (a + 4) = some (.inl (P.2.1 0, 200, .inl gn)) := n2
  replace n3 : st.2.1.length ≤ 200 := n3
  replace n5 : nmL st.2.1.length gn = st.2.1 := n5
  obtain ⟨gm, m1, m2, m3, m4, m5⟩ := h.2.2.2.1
  replace m1 : f (a + 5) = some (.inr (1, [.ref (a + 6), .int (nI st.2.2.1.length)])) := m1
  replace m2 : f (a + 6) = some (.inl (P.2.1 0, 200, .inl gm)) := m2
  replace m3 : st.2.2.1.length ≤ 200 := m3
  replace m5 : nmL st.2.2.1.length gm = st.2.2.1 := m5
  refine lv_iload_n S.1 S.2.1 d_SF_isRefused_0 rfl (lv_at hl 1 rfl) ?_
  refine lv_bipush (v := nI 9) S.1 S.2.1 d_SF_isRefused_1 (by decide) ?_
  refine gc_Si S hI (c_SF_isWithin l P f (x := kd) (m0 := nI 9)) kv_SF_isWithin wi_92 rfl hl.1 rfl (Nat.le_of_ble_eq_true rfl) ⟨Nat.le_of_ble_eq_true rfl, Nat.le_of_ble_eq_true rfl⟩ ⟨Nat.le_of_ble_eq_true rfl, Nat.le_of_ble_eq_true rfl⟩ d_SF_isRefused_3 (fun r17 f18 H locs hp19 hI => ?_)
  obtain ⟨hp1, hp2⟩ := hp19
  subst hp1
  rw [hp2] at hI
  by_cases hc20 : ¬ kd < 0 ∧ kd ≤ nI 9
  · rw [show (if ¬ kd < 0 ∧ kd ≤ nI 9 then nI 1 else nI 0 : Int32) = nI 1 from if_pos hc20]
    refine lv_if_ne (tgt := 11) S.1 S.2.1 d_SF_isRefused_6 (by decide) (fun c21 => ?_) (fun c21 => ?_)
    · skip
      replace c21 : ¬ 1 = 0 := fun z => c21 ((nI_eq (a := 1) (b := 0) (by omega) (by omega)).mpr z)
      obtain ⟨u, hu, hu2⟩ := nI_of hc20.1
      have hu3 : u ≤ 9 := (nI_leI (b := 9) (by omega) (by omega)).mp (by rw [← hu2]; exact hc20.2)
      subst hu2
      rcases (show u = 0 ∨ u = 1 ∨ u = 2 ∨ u = 3 ∨ u = 4 ∨ u = 5 ∨ u = 6 ∨ u = 7 ∨ u = 8 ∨ u = 9 by omega) with e | e | e | e | e | e | e | e | e | e <;> subst e
      · skip
        refine lv_iload_n S.1 S.2.1 d_SF_isRefused_11 rfl (lv_at hl 1 rfl) ?_
        refine lv_bipush (v := nI 9) S.1 S.2.1 d_SF_isRefused_12 (by decide) ?_
        refine lv_icmp_eq (tgt := 29) S.1 S.2.1 d_SF_isRefused_14 (by decide) (fun c22 => ?_) (fun c22 => ?_)
        · skip
          replace c22 : 0 = 9 := (nI_eq (a := 0) (b := 9) (by omega) (by omega)).mp c22
          exact absurd c22 (by omega)
        · skip
          replace c22 : ¬ 0 = 9 := fun z => c22 ((nI_eq (a := 0) (b := 9) (by omega) (by omega)).mpr z)
          refine lv_aload_n S.1 S.2.1 d_SF_isRefused_17 rfl (lv_at hl 0 rfl) ?_
          refine gh_get S hI h0 rfl i_SF 1 (by decide) wi_71 rfl d_SF_isRefused_18 ?_
          refine gc_Vi S hI (c_Row_isEmpty l P f n1 (by omega)) kv_Row_isEmpty wi_121 n1 rfl rfl rfl hl.1 rfl (Nat.le_of_ble_eq_true rfl) ⟨Nat.le_of_ble_eq_true rfl, Nat.le_of_ble_eq_true rfl⟩ ⟨Nat.le_of_ble_eq_true rfl, Nat.le_of_ble_eq_true rfl⟩ d_SF_isRefused_21 (fun r23 f24 H locs hp25 hI => ?_)
          obtain ⟨hp1, hp2⟩ := hp25
          subst hp1
          rw [hp2] at hI
          by_cases hc26 : st.2.1.length = 0
          · rw [show (if st.2.1.length = 0 then nI 1 else nI 0 : Int32) = nI 1 from if_pos hc26]
            refine lv_if_eq (tgt := 29) S.1 S.2.1 d_SF_isRefused_24 (by decide) (fun c27 => ?_) (fun c27 => ?_)
            · skip
              replace c27 : 1 = 0 := (nI_eq (a := 1) (b := 0) (by omega) (by omega)).mp c27
              exact absurd c27 (by omega)
            · skip
              replace c27 : ¬ 1 = 0 := fun z => c27 ((nI_eq (a := 1) (b := 0) (by omega) (by omega)).mpr z)
              refine lv_iconst (v := nI 1) S.1 S.2.1 d_SF_isRefused_27 (by decide) ?_
              exact gr_z S hr hlk hI (by first | exact Or.inl rfl | exact Or.inr rfl) (⟨Or.inl ⟨Or.inr (Or.inl ⟨by decide, List.length_eq_zero_iff.mp hc26⟩), rfl⟩, rfl⟩) d_SF_isRefused_28
          · rw [show (if st.2.1.length = 0 then nI 1 else nI 0 : Int32) = nI 0 from if_neg hc26]
            refine lv_if_eq (tgt := 29) S.1 S.2.1 d_SF_isRefused_24 (by decide) (fun c28 => ?_) (fun c28 => ?_)
            · skip
              replace c28 : 0 = 0 := (nI_eq (a := 0) (b := 0) (by omega) (by omega)).mp c28
              refine lv_iload_n S.1 S.2.1 d_SF_isRefused_29 rfl (lv_at hl 1 rfl) ?_
              refine lv_bipush (v := nI 6) S.1 S.2.1 d_SF_isRefused_30 (by decide) ?_
              refine lv_icmp_eq (tgt := 41) S.1 S.2.1 d_SF_isRefused_32 (by decide) (fun c29 => ?_) (fun c29 => ?_)
              · skip
                replace c29 : 0 = 6 := (nI_eq (a := 0) (b := 6) (by omega) (by omega)).mp c29
                exact absurd c29 (by omega)
              · skip
                replace c29 : ¬ 0 = 6 := fun z => c29 ((nI_eq (a := 0) (b := 6) (by omega) (by omega)).mpr z)
                refine lv_iload_n S.1 S.2.1 d_SF_isRefused_35 rfl (lv_at hl 1 rfl) ?_
                refine lv_bipush (v := nI 7) S.1 S.2.1 d_SF_isRefused_36 (by decide) ?_
                refine lv_icmp_ne (tgt := 53) S.1 S.2.1 d_SF_isRefused_38 (by decide) (fun c30 => ?_) (fun c30 => ?_)
                · skip
                  replace c30 : ¬ 0 = 7 := fun z => c30 ((nI_eq (a := 0) (b := 7) (by omega) (by omega)).mpr z)
                  refine lv_iload_n S.1 S.2.1 d_SF_isRefused_53 rfl (lv_at hl 1 rfl) ?_
                  refine lv_iconst (v := nI 1) S.1 S.2.1 d_SF_isRefused_54 (by decide) ?_
                  refine lv_icmp_eq (tgt := 68) S.1 S.2.1 d_SF_isRefused_55 (by decide) (fun c31 => ?_) (fun c31 => ?_)
                  · skip
                    replace c31 : 0 = 1 := (nI_eq (a := 0) (b := 1) (by omega) (by omega)).mp c31
                    exact absurd c31 (by omega)
                  · skip
                    replace c31 : ¬ 0 = 1 := fun z => c31 ((nI_eq (a := 0) (b := 1) (by omega) (by omega)).mpr z)
                    refine lv_iload_n S.1 S.2.1 d_SF_isRefused_58 rfl (lv_at hl 1 rfl) ?_
                    refine lv_iconst (v := nI 3) S.1 S.2.1 d_SF_isRefused_59 (by decide) ?_
                    refine lv_icmp_eq (tgt := 68) S.1 S.2.1 d_SF_isRefused_60 (by decide) (fun c32 => ?_) (fun c32 => ?_)
                    · skip
                      replace c32 : 0 = 3 := (nI_eq (a := 0) (b := 3) (by omega) (by omega)).mp c32
                      exact absurd c32 (by omega)
                    · skip
                      replace c32 : ¬ 0 = 3 := fun z => c32 ((nI_eq (a := 0) (b := 3) (by omega) (by omega)).mpr z)
                      refine lv_iload_n S.1 S.2.1 d_SF_isRefused_63 rfl (lv_at hl 1 rfl) ?_
                      refine lv_iconst (v := nI 4) S.1 S.2.1 d_SF_isRefused_64 (by decide) ?_
                      refine lv_icmp_ne (tgt := 80) S.1 S.2.1 d_SF_isRefused_65 (by decide) (fun c33 => ?_) (fun c33 => ?_)
                      · skip
                        replace c33 : ¬ 0 = 4 := fun z => c33 ((nI_eq (a := 0) (b := 4) (by omega) (by omega)).mpr z)
                        refine lv_iload_n S.1 S.2.1 d_SF_isRefused_80 rfl (lv_at hl 1 rfl) ?_
                        refine lv_iconst (v := nI 4) S.1 S.2.1 d_SF_isRefused_81 (by decide) ?_
                        refine lv_icmp_ne (tgt := 99) S.1 S.2.1 d_SF_isRefused_82 (by decide) (fun c34 => ?_) (fun c34 => ?_)
                        · skip
                          replace c34 : ¬ 0 = 4 := fun z => c34 ((nI_eq (a := 0) (b := 4) (by omega) (by omega)).mpr z)
                          refine lv_iconst (v := nI 0) S.1 S.2.1 d_SF_isRefused_99 (by decide) ?_
                          exact gr_z S hr hlk hI (by first | exact Or.inl rfl | exact Or.inr rfl) (⟨Or.inr ⟨aRef_no (by decide) (fun _ z => hc26 (by rw [z]; rfl)) (fun z => absurd z (by decide)) (fun z => absurd z (by decide)) (fun z => absurd z (by decide)), rfl⟩, rfl⟩) d_SF_isRefused_100
                        · skip
                          replace c34 : 0 = 4 := (nI_eq (a := 0) (b := 4) (by omega) (by omega)).mp c34
                          exact absurd c34 (by omega)
                      · skip
                        replace c33 : 0 = 4 := (nI_eq (a := 0) (b := 4) (by omega) (by omega)).mp c33
                        exact absurd c33 (by omega)
                · skip
                  replace c30 : 0 = 7 := (nI_eq (a := 0) (b := 7) (by omega) (by omega)).mp c30
                  exact absurd c30 (by omega)
            · skip
              replace c28 : ¬ 0 = 0 := fun z => c28 ((nI_eq (a := 0) (b := 0) (by omega) (by omega)).mpr z)
              exact absurd c28 (by omega)
      · skip
        refine lv_iload_n S.1 S.2.1 d_SF_isRefused_11 rfl (lv_at hl 1 rfl) ?_
        refine lv_bipush (v := nI 9) S.1 S.2.1 d_SF_isRefused_12 (by decide) ?_
        refine lv_icmp_eq (tgt := 29) S.1 S.2.1 d_SF_isRefused_14 (by decide) (fun c35 => ?_) (fun c35 => ?_)
        · skip
          replace c35 : 1 = 9 := (nI_eq (a := 1) (b := 9) (by omega) (by omega)).mp c35
          exact absurd c35 (by omega)
        · skip
          replace c35 : ¬ 1 = 9 := fun z => c35 ((nI_eq (a := 1) (b := 9) (by omega) (by omega)).mpr z)
          refine lv_aload_n S.1 S.2.1 d_SF_isRefused_17 rfl (lv_at hl 0 rfl) ?_
          refine gh_get S hI h0 rfl i_SF 1 (by decide) wi_71 rfl d_SF_isRefused_18 ?_
          refine gc_Vi S hI (c_Row_isEmpty l P f n1 (by omega)) kv_Row_isEmpty wi_121 n1 rfl rfl rfl hl.1 rfl (Nat.le_of_ble_eq_true rfl) ⟨Nat.le_of_ble_eq_true rfl, Nat.le_of_ble_eq_true rfl⟩ ⟨Nat.le_of_ble_eq_true rfl, Nat.le_of_ble_eq_true rfl⟩ d_SF_isRefused_21 (fun r36 f37 H locs hp38 hI => ?_)
          obtain ⟨hp1, hp2⟩ := hp38
          subst hp1
          rw [hp2] at hI
          by_cases hc39 : st.2.1.length = 0
          · rw [show (if st.2.1.length = 0 then nI 1 else nI 0 : Int32) = nI 1 from if_pos hc39]
            refine lv_if_eq (tgt := 29) S.1 S.2.1 d_SF_isRefused_24 (by decide) (fun c40 => ?_) (fun c40 => ?_)
            · skip
              replace c40 : 1 = 0 := (nI_eq (a := 1) (b := 0) (by omega) (by omega)).mp c40
              exact absurd c40 (by omega)
            · skip
              replace c40 : ¬ 1 = 0 := fun z => c40 ((nI_eq (a := 1) (b := 0) (by omega) (by omega)).mpr z)
              refine lv_iconst (v := nI 1) S.1 S.2.1 d_SF_isRefused_27 (by decide) ?_
              exact gr_z S hr hlk hI (by first | exact Or.inl rfl | exact Or.inr rfl) (⟨Or.inl ⟨Or.inr (Or.inl ⟨by decide, List.length_eq_zero_iff.mp hc39⟩), rfl⟩, rfl⟩) d_SF_isRefused_28
          · rw [show (if st.2.1.length = 0 then nI 1 else nI 0 : Int32) = nI 0 from if_neg hc39]
            refine lv_if_eq (tgt := 29) S.1 S.2.1 d_SF_isRefused_24 (by decide) (fun c41 => ?_) (fun c41 => ?_)
            · skip
              replace c41 : 0 = 0 := (nI_eq (a := 0) (b := 0) (by omega) (by omega)).mp c41
              refine lv_iload_n S.1 S.2.1 d_SF_isRefused_29 rfl (lv_at hl 1 rfl) ?_
              refine lv_bipush (v := nI 6) S.1 S.2.1 d_SF_isRefused_30 (by decide) ?_
              refine lv_icmp_eq (tgt := 41) S.1 S.2.1 d_SF_isRefused_32 (by decide) (fun c42 => ?_) (fun c42 => ?_)
              · skip
                replace c42 : 1 = 6 := (nI_eq (a := 1) (b := 6) (by omega) (by omega)).mp c42
                exact absurd c42 (by omega)
              · skip
                replace c42 : ¬ 1 = 6 := fun z => c42 ((nI_eq (a := 1) (b := 6) (by omega) (by omega)).mpr z)
                refine lv_iload_n S.1 S.2.1 d_SF_isRefused_35 rfl (lv_at hl 1 rfl) ?_
                refine lv_bipush (v := nI 7) S.1 S.2.1 d_SF_isRefused_36 (by decide) ?_
                refine lv_icmp_ne (tgt := 53) S.1 S.2.1 d_SF_isRefused_38 (by decide) (fun c43 => ?_) (fun c43 => ?_)
                · skip
                  replace c43 : ¬ 1 = 7 := fun z => c43 ((nI_eq (a := 1) (b := 7) (by omega) (by omega)).mpr z)
                  refine lv_iload_n S.1 S.2.1 d_SF_isRefused_53 rfl (lv_at hl 1 rfl) ?_
                  refine lv_iconst (v := nI 1) S.1 S.2.1 d_SF_isRefused_54 (by decide) ?_
                  refine lv_icmp_eq (tgt := 68) S.1 S.2.1 d_SF_isRefused_55 (by decide) (fun c44 => ?_) (fun c44 => ?_)
                  · skip
                    replace c44 : 1 = 1 := (nI_eq (a := 1) (b := 1) (by omega) (by omega)).mp c44
                    refine lv_iload_n S.1 S.2.1 d_SF_isRefused_68 rfl (lv_at hl 2 rfl) ?_
                    refine lv_sipush (v := nI 8192) S.1 S.2.1 d_SF_isRefused_69 (by decide) ?_
                    refine gc_Si S hI (c_SF_isWithin l P f (x := aa) (m0 := nI 8192)) kv_SF_isWithin wi_92 rfl hl.1 rfl (Nat.le_of_ble_eq_true rfl) ⟨Nat.le_of_ble_eq_true rfl, Nat.le_of_ble_eq_true rfl⟩ ⟨Nat.le_of_ble_eq_true rfl, Nat.le_of_ble_eq_true rfl⟩ d_SF_isRefused_72 (fun r45 f46 H locs hp47 hI => ?_)
                    obtain ⟨hp1, hp2⟩ := hp47
                    subst hp1
                    rw [hp2] at hI
                    by_cases hc48 : ¬ aa < 0 ∧ aa ≤ nI 8192
                    · rw [show (if ¬ aa < 0 ∧ aa ≤ nI 8192 then nI 1 else nI 0 : Int32) = nI 1 from if_pos hc48]
                      refine lv_if_ne (tgt := 80) S.1 S.2.1 d_SF_isRefused_75 (by decide) (fun c49 => ?_) (fun c49 => ?_)
                      · skip
                        replace c49 : ¬ 1 = 0 := fun z => c49 ((nI_eq (a := 1) (b := 0) (by omega) (by omega)).mpr z)
                        refine lv_iload_n S.1 S.2.1 d_SF_isRefused_80 rfl (lv_at hl 1 rfl) ?_
                        refine lv_iconst (v := nI 4) S.1 S.2.1 d_SF_isRefused_81 (by decide) ?_
                        refine lv_icmp_ne (tgt := 99) S.1 S.2.1 d_SF_isRefused_82 (by decide) (fun c50 => ?_) (fun c50 => ?_)
                        · skip
                          replace c50 : ¬ 1 = 4 := fun z => c50 ((nI_eq (a := 1) (b := 4) (by omega) (by omega)).mpr z)
                          refine lv_iconst (v := nI 0) S.1 S.2.1 d_SF_isRefused_99 (by decide) ?_
                          exact gr_z S hr hlk hI (by first | exact Or.inl rfl | exact Or.inr rfl) (⟨Or.inr ⟨aRef_no (by decide) (fun _ z => hc39 (by rw [z]; rfl)) (fun z => absurd z (by decide)) (fun _ z => z.elim hc48.1 (fun q => absurd hc48.2 (Int32.not_le.mpr q))) (fun z => absurd z (by decide)), rfl⟩, rfl⟩) d_SF_isRefused_100
                        · skip
                          replace c50 : 1 = 4 := (nI_eq (a := 1) (b := 4) (by omega) (by omega)).mp c50
                          exact absurd c50 (by omega)
                      · skip
                        replace c49 : 1 = 0 := (nI_eq (a := 1) (b := 0) (by omega) (by omega)).mp c49
                        exact absurd c49 (by omega)
                    · rw [show (if ¬ aa < 0 ∧ aa ≤ nI 8192 then nI 1 else nI 0 : Int32) = nI 0 from if_neg hc48]
                      refine lv_if_ne (tgt := 80) S.1 S.2.1 d_SF_isRefused_75 (by decide) (fun c51 => ?_) (fun c51 => ?_)
                      · skip
                        replace c51 : ¬ 0 = 0 := fun z => c51 ((nI_eq (a := 0) (b := 0) (by omega) (by omega)).mpr z)
                        exact absurd c51 (by omega)
                      · skip
                        replace c51 : 0 = 0 := (nI_eq (a := 0) (b := 0) (by omega) (by omega)).mp c51
                        refine lv_iconst (v := nI 1) S.1 S.2.1 d_SF_isRefused_78 (by decide) ?_
                        exact gr_z S hr hlk hI (by first | exact Or.inl rfl | exact Or.inr rfl) (⟨Or.inl ⟨Or.inr (Or.inr (Or.inr (Or.inl ⟨by decide, Classical.byContradiction fun z => hc48 ⟨fun q => z (Or.inl q), Int32.not_lt.mp (fun q => z (Or.inr q))⟩⟩))), rfl⟩, rfl⟩) d_SF_isRefused_79
                  · skip
                    replace c44 : ¬ 1 = 1 := fun z => c44 ((nI_eq (a := 1) (b := 1) (by omega) (by omega)).mpr z)
                    exact absurd c44 (by omega)
                · skip
                  replace c43 : 1 = 7 := (nI_eq (a := 1) (b := 7) (by omega) (by omega)).mp c43
                  exact absurd c43 (by omega)
            · skip
              replace c41 : ¬ 0 = 0 := fun z => c41 ((nI_eq (a := 0) (b := 0) (by omega) (by omega)).mpr z)
              exact absurd c41 (by omega)
      · skip
        refine lv_iload_n S.1 S.2.1 d_SF_isRefused_11 rfl (lv_at hl 1 rfl) ?_
        refine lv_bipush (v := nI 9) S.1 S.2.1 d_SF_isRefused_12 (by decide) ?_
        refine lv_icmp_eq (tgt := 29) S.1 S.2.1 d_SF_isRefused_14 (by decide) (fun c52 => ?_) (fun c52 => ?_)
        · skip
          replace c52 : 2 = 9 := (nI_eq (a := 2) (b := 9) (by omega) (by omega)).mp c52
          exact absurd c52 (by omega)
        · skip
          replace c52 : ¬ 2 = 9 := fun z => c52 ((nI_eq (a := 2) (b := 9) (by omega) (by omega)).mpr z)
          refine lv_aload_n S.1 S.2.1 d_SF_isRefused_17 rfl (lv_at hl 0 rfl) ?_
          refine gh_get S hI h0 rfl i_SF 1 (by decide) wi_71 rfl d_SF_isRefused_18 ?_
          refine gc_Vi S hI (c_Row_isEmpty l P f n1 (by omega)) kv_Row_isEmpty wi_121 n1 rfl rfl rfl hl.1 rfl (Nat.le_of_ble_eq_true rfl) ⟨Nat.le_of_ble_eq_true rfl, Nat.le_of_ble_eq_true rfl⟩ ⟨Nat.le_of_ble_eq_true rfl, Nat.le_of_ble_eq_true rfl⟩ d_SF_isRefused_21 (fun r53 f54 H locs hp55 hI => ?_)
          obtain ⟨hp1, hp2⟩ := hp55
          subst hp1
          rw [hp2] at hI
          by_cases hc56 : st.2.1.length = 0
          · rw [show (if st.2.1.length = 0 then nI 1 else nI 0 : Int32) = nI 1 from if_pos hc56]
            refine lv_if_eq (tgt := 29) S.1 S.2.1 d_SF_isRefused_24 (by decide) (fun c57 => ?_) (fun c57 => ?_)
            · skip
              replace c57 : 1 = 0 := (nI_eq (a := 1) (b := 0) (by omega) (by omega)).mp c57
              exact absurd c57 (by omega)
            · skip
              replace c57 : ¬ 1 = 0 := fun z => c57 ((nI_eq (a := 1) (b := 0) (by omega) (by omega)).mpr z)
              refine lv_iconst (v := nI 1) S.1 S.2.1 d_SF_isRefused_27 (by decide) ?_
              exact gr_z S hr hlk hI (by first | exact Or.inl rfl | exact Or.inr rfl) (⟨Or.inl ⟨Or.inr (Or.inl ⟨by decide, List.length_eq_zero_iff.mp hc56⟩), rfl⟩, rfl⟩) d_SF_isRefused_28
          · rw [show (if st.2.1.length = 0 then nI 1 else nI 0 : Int32) = nI 0 from if_neg hc56]
            refine lv_if_eq (tgt := 29) S.1 S.2.1 d_SF_isRefused_24 (by decide) (fun c58 => ?_) (fun c58 => ?_)
            · skip
              replace c58 : 0 = 0 := (nI_eq (a := 0) (b := 0) (by omega) (by omega)).mp c58
              refine lv_iload_n S.1 S.2.1 d_SF_isRefused_29 rfl (lv_at hl 1 rfl) ?_
              refine lv_bipush (v := nI 6) S.1 S.2.1 d_SF_isRefused_30 (by decide) ?_
              refine lv_icmp_eq (tgt := 41) S.1 S.2.1 d_SF_isRefused_32 (by decide) (fun c59 => ?_) (fun c59 => ?_)
              · skip
                replace c59 : 2 = 6 := (nI_eq (a := 2) (b := 6) (by omega) (by omega)).mp c59
                exact absurd c59 (by omega)
              · skip
                replace c59 : ¬ 2 = 6 := fun z => c59 ((nI_eq (a := 2) (b := 6) (by omega) (by omega)).mpr z)
                refine lv_iload_n S.1 S.2.1 d_SF_isRefused_35 rfl (lv_at hl 1 rfl) ?_
                refine lv_bipush (v := nI 7) S.1 S.2.1 d_SF_isRefused_36 (by decide) ?_
                refine lv_icmp_ne (tgt := 53) S.1 S.2.1 d_SF_isRefused_38 (by decide) (fun c60 => ?_) (fun c60 => ?_)
                · skip
                  replace c60 : ¬ 2 = 7 := fun z => c60 ((nI_eq (a := 2) (b := 7) (by omega) (by omega)).mpr z)
                  refine lv_iload_n S.1 S.2.1 d_SF_isRefused_53 rfl (lv_at hl 1 rfl) ?_
                  refine lv_iconst (v := nI 1) S.1 S.2.1 d_SF_isRefused_54 (by decide) ?_
                  refine lv_icmp_eq (tgt := 68) S.1 S.2.1 d_SF_isRefused_55 (by decide) (fun c61 => ?_) (fun c61 => ?_)
                  · skip
                    replace c61 : 2 = 1 := (nI_eq (a := 2) (b := 1) (by omega) (by omega)).mp c61
                    exact absurd c61 (by omega)
                  · skip
                    replace c61 : ¬ 2 = 1 := fun z => c61 ((nI_eq (a := 2) (b := 1) (by omega) (by omega)).mpr z)
                    refine lv_iload_n S.1 S.2.1 d_SF_isRefused_58 rfl (lv_at hl 1 rfl) ?_
                    refine lv_iconst (v := nI 3) S.1 S.2.1 d_SF_isRefused_59 (by decide) ?_
                    refine lv_icmp_eq (tgt := 68) S.1 S.2.1 d_SF_isRefused_60 (by decide) (fun c62 => ?_) (fun c62 => ?_)
                    · skip
                      replace c62 : 2 = 3 := (nI_eq (a := 2) (b := 3) (by omega) (by omega)).mp c62
                      exact absurd c62 (by omega)
                    · skip
                      replace c62 : ¬ 2 = 3 := fun z => c62 ((nI_eq (a := 2) (b := 3) (by omega) (by omega)).mpr z)
                      refine lv_iload_n S.1 S.2.1 d_SF_isRefused_63 rfl (lv_at hl 1 rfl) ?_
                      refine lv_iconst (v := nI 4) S.1 S.2.1 d_SF_isRefused_64 (by decide) ?_
                      refine lv_icmp_ne (tgt := 80) S.1 S.2.1 d_SF_isRefused_65 (by decide) (fun c63 => ?_) (fun c63 => ?_)
                      · skip
                        replace c63 : ¬ 2 = 4 := fun z => c63 ((nI_eq (a := 2) (b := 4) (by omega) (by omega)).mpr z)
                        refine lv_iload_n S.1 S.2.1 d_SF_isRefused_80 rfl (lv_at hl 1 rfl) ?_
                        refine lv_iconst (v := nI 4) S.1 S.2.1 d_SF_isRefused_81 (by decide) ?_
                        refine lv_icmp_ne (tgt := 99) S.1 S.2.1 d_SF_isRefused_82 (by decide) (fun c64 => ?_) (fun c64 => ?_)
                        · skip
                          replace c64 : ¬ 2 = 4 := fun z => c64 ((nI_eq (a := 2) (b := 4) (by omega) (by omega)).mpr z)
                          refine lv_iconst (v := nI 0) S.1 S.2.1 d_SF_isRefused_99 (by decide) ?_
                          exact gr_z S hr hlk hI (by first | exact Or.inl rfl | exact Or.inr rfl) (⟨Or.inr ⟨aRef_no (by decide) (fun _ z => hc56 (by rw [z]; rfl)) (fun z => absurd z (by decide)) (fun z => absurd z (by decide)) (fun z => absurd z (by decide)), rfl⟩, rfl⟩) d_SF_isRefused_100
                        · skip
                          replace c64 : 2 = 4 := (nI_eq (a := 2) (b := 4) (by omega) (by omega)).mp c64
                          exact absurd c64 (by omega)
                      · skip
                        replace c63 : 2 = 4 := (nI_eq (a := 2) (b := 4) (by omega) (by omega)).mp c63
                        exact absurd c63 (by omega)
                · skip
                  replace c60 : 2 = 7 := (nI_eq (a := 2) (b := 7) (by omega) (by omega)).mp c60
                  exact absurd c60 (by omega)
            · skip
              replace c58 : ¬ 0 = 0 := fun z => c58 ((nI_eq (a := 0) (b := 0) (by omega) (by omega)).mpr z)
              exact absurd c58 (by omega)
      · skip
        refine lv_iload_n S.1 S.2.1 d_SF_isRefused_11 rfl (lv_at hl 1 rfl) ?_
        refine lv_bipush (v := nI 9) S.1 S.2.1 d_SF_isRefused_12 (by decide) ?_
        refine lv_icmp_eq (tgt := 29) S.1 S.2.1 d_SF_isRefused_14 (by decide) (fun c65 => ?_) (fun c65 => ?_)
        · skip
          replace c65 : 3 = 9 := (nI_eq (a := 3) (b := 9) (by omega) (by omega)).mp c65
          exact absurd c65 (by omega)
        · skip
          replace c65 : ¬ 3 = 9 := fun z => c65 ((nI_eq (a := 3) (b := 9) (by omega) (by omega)).mpr z)
          refine lv_aload_n S.1 S.2.1 d_SF_isRefused_17 rfl (lv_at hl 0 rfl) ?_
          refine gh_get S hI h0 rfl i_SF 1 (by decide) wi_71 rfl d_SF_isRefused_18 ?_
          refine gc_Vi S hI (c_Row_isEmpty l P f n1 (by omega)) kv_Row_isEmpty wi_121 n1 rfl rfl rfl hl.1 rfl (Nat.le_of_ble_eq_true rfl) ⟨Nat.le_of_ble_eq_true rfl, Nat.le_of_ble_eq_true rfl⟩ ⟨Nat.le_of_ble_eq_true rfl, Nat.le_of_ble_eq_true rfl⟩ d_SF_isRefused_21 (fun r66 f67 H locs hp68 hI => ?_)
          obtain ⟨hp1, hp2⟩ := hp68
          subst hp1
          rw [hp2] at hI
          by_cases hc69 : st.2.1.length = 0
          · rw [show (if st.2.1.length = 0 then nI 1 else nI 0 : Int32) = nI 1 from if_pos hc69]
            refine lv_if_eq (tgt := 29) S.1 S.2.1 d_SF_isRefused_24 (by decide) (fun c70 => ?_) (fun c70 => ?_)
            · skip
              replace c70 : 1 = 0 := (nI_eq (a := 1) (b := 0) (by omega) (by omega)).mp c70
              exact absurd c70 (by omega)
            · skip
              replace c70 : ¬ 1 = 0 := fun z => c70 ((nI_eq (a := 1) (b := 0) (by omega) (by omega)).mpr z)
              refine lv_iconst (v := nI 1) S.1 S.2.1 d_SF_isRefused_27 (by decide) ?_
              exact gr_z S hr hlk hI (by first | exact Or.inl rfl | exact Or.inr rfl) (⟨Or.inl ⟨Or.inr (Or.inl ⟨by decide, List.length_eq_zero_iff.mp hc69⟩), rfl⟩, rfl⟩) d_SF_isRefused_28
          · rw [show (if st.2.1.length = 0 then nI 1 else nI 0 : Int32) = nI 0 from if_neg hc69]
            refine lv_if_eq (tgt := 29) S.1 S.2.1 d_SF_isRefused_24 (by decide) (fun c71 => ?_) (fun c71 => ?_)
            · skip
              replace c71 : 0 = 0 := (nI_eq (a := 0) (b := 0) (by omega) (by omega)).mp c71
              refine lv_iload_n S.1 S.2.1 d_SF_isRefused_29 rfl (lv_at hl 1 rfl) ?_
              refine lv_bipush (v := nI 6) S.1 S.2.1 d_SF_isRefused_30 (by decide) ?_
              refine lv_icmp_eq (tgt := 41) S.1 S.2.1 d_SF_isRefused_32 (by decide) (fun c72 => ?_) (fun c72 => ?_)
              · skip
                replace c72 : 3 = 6 := (nI_eq (a := 3) (b := 6) (by omega) (by omega)).mp c72
                exact absurd c72 (by omega)
              · skip
                replace c72 : ¬ 3 = 6 := fun z => c72 ((nI_eq (a := 3) (b := 6) (by omega) (by omega)).mpr z)
                refine lv_iload_n S.1 S.2.1 d_SF_isRefused_35 rfl (lv_at hl 1 rfl) ?_
                refine lv_bipush (v := nI 7) S.1 S.2.1 d_SF_isRefused_36 (by decide) ?_
                refine lv_icmp_ne (tgt := 53) S.1 S.2.1 d_SF_isRefused_38 (by decide) (fun c73 => ?_) (fun c73 => ?_)
                · skip
                  replace c73 : ¬ 3 = 7 := fun z => c73 ((nI_eq (a := 3) (b := 7) (by omega) (by omega)).mpr z)
                  refine lv_iload_n S.1 S.2.1 d_SF_isRefused_53 rfl (lv_at hl 1 rfl) ?_
                  refine lv_iconst (v := nI 1) S.1 S.2.1 d_SF_isRefused_54 (by decide) ?_
                  refine lv_icmp_eq (tgt := 68) S.1 S.2.1 d_SF_isRefused_55 (by decide) (fun c74 => ?_) (fun c74 => ?_)
                  · skip
                    replace c74 : 3 = 1 := (nI_eq (a := 3) (b := 1) (by omega) (by omega)).mp c74
                    exact absurd c74 (by omega)
                  · skip
                    replace c74 : ¬ 3 = 1 := fun z => c74 ((nI_eq (a := 3) (b := 1) (by omega) (by omega)).mpr z)
                    refine lv_iload_n S.1 S.2.1 d_SF_isRefused_58 rfl (lv_at hl 1 rfl) ?_
                    refine lv_iconst (v := nI 3) S.1 S.2.1 d_SF_isRefused_59 (by decide) ?_
                    refine lv_icmp_eq (tgt := 68) S.1 S.2.1 d_SF_isRefused_60 (by decide) (fun c75 => ?_) (fun c75 => ?_)
                    · skip
                      replace c75 : 3 = 3 := (nI_eq (a := 3) (b := 3) (by omega) (by omega)).mp c75
                      refine lv_iload_n S.1 S.2.1 d_SF_isRefused_68 rfl (lv_at hl 2 rfl) ?_
                      refine lv_sipush (v := nI 8192) S.1 S.2.1 d_SF_isRefused_69 (by decide) ?_
                      refine gc_Si S hI (c_SF_isWithin l P f (x := aa) (m0 := nI 8192)) kv_SF_isWithin wi_92 rfl hl.1 rfl (Nat.le_of_ble_eq_true rfl) ⟨Nat.le_of_ble_eq_true rfl, Nat.le_of_ble_eq_true rfl⟩ ⟨Nat.le_of_ble_eq_true rfl, Nat.le_of_ble_eq_true rfl⟩ d_SF_isRefused_72 (fun r76 f77 H locs hp78 hI => ?_)
                      obtain ⟨hp1, hp2⟩ := hp78
                      subst hp1
                      rw [hp2] at hI
                      by_cases hc79 : ¬ aa < 0 ∧ aa ≤ nI 8192
                      · rw [show (if ¬ aa < 0 ∧ aa ≤ nI 8192 then nI 1 else nI 0 : Int32) = nI 1 from if_pos hc79]
                        refine lv_if_ne (tgt := 80) S.1 S.2.1 d_SF_isRefused_75 (by decide) (fun c80 => ?_) (fun c80 => ?_)
                        · skip
                          replace c80 : ¬ 1 = 0 := fun z => c80 ((nI_eq (a := 1) (b := 0) (by omega) (by omega)).mpr z)
                          refine lv_iload_n S.1 S.2.1 d_SF_isRefused_80 rfl (lv_at hl 1 rfl) ?_
                          refine lv_iconst (v := nI 4) S.1 S.2.1 d_SF_isRefused_81 (by decide) ?_
                          refine lv_icmp_ne (tgt := 99) S.1 S.2.1 d_SF_isRefused_82 (by decide) (fun c81 => ?_) (fun c81 => ?_)
                          · skip
                            replace c81 : ¬ 3 = 4 := fun z => c81 ((nI_eq (a := 3) (b := 4) (by omega) (by omega)).mpr z)
                            refine lv_iconst (v := nI 0) S.1 S.2.1 d_SF_isRefused_99 (by decide) ?_
                            exact gr_z S hr hlk hI (by first | exact Or.inl rfl | exact Or.inr rfl) (⟨Or.inr ⟨aRef_no (by decide) (fun _ z => hc69 (by rw [z]; rfl)) (fun z => absurd z (by decide)) (fun _ z => z.elim hc79.1 (fun q => absurd hc79.2 (Int32.not_le.mpr q))) (fun z => absurd z (by decide)), rfl⟩, rfl⟩) d_SF_isRefused_100
                          · skip
                            replace c81 : 3 = 4 := (nI_eq (a := 3) (b := 4) (by omega) (by omega)).mp c81
                            exact absurd c81 (by omega)
                        · skip
                          replace c80 : 1 = 0 := (nI_eq (a := 1) (b := 0) (by omega) (by omega)).mp c80
                          exact absurd c80 (by omega)
                      · rw [show (if ¬ aa < 0 ∧ aa ≤ nI 8192 then nI 1 else nI 0 : Int32) = nI 0 from if_neg hc79]
                        refine lv_if_ne (tgt := 80) S.1 S.2.1 d_SF_isRefused_75 (by decide) (fun c82 => ?_) (fun c82 => ?_)
                        · skip
                          replace c82 : ¬ 0 = 0 := fun z => c82 ((nI_eq (a := 0) (b := 0) (by omega) (by omega)).mpr z)
                          exact absurd c82 (by omega)
                        · skip
                          replace c82 : 0 = 0 := (nI_eq (a := 0) (b := 0) (by omega) (by omega)).mp c82
                          refine lv_iconst (v := nI 1) S.1 S.2.1 d_SF_isRefused_78 (by decide) ?_
                          exact gr_z S hr hlk hI (by first | exact Or.inl rfl | exact Or.inr rfl) (⟨Or.inl ⟨Or.inr (Or.inr (Or.inr (Or.inl ⟨by decide, Classical.byContradiction fun z => hc79 ⟨fun q => z (Or.inl q), Int32.not_lt.mp (fun q => z (Or.inr q))⟩⟩))), rfl⟩, rfl⟩) d_SF_isRefused_79
                    · skip
                      replace c75 : ¬ 3 = 3 := fun z => c75 ((nI_eq (a := 3) (b := 3) (by omega) (by omega)).mpr z)
                      exact absurd c75 (by omega)
                · skip
                  replace c73 : 3 = 7 := (nI_eq (a := 3) (b := 7) (by omega) (by omega)).mp c73
                  exact absurd c73 (by omega)
            · skip
              replace c71 : ¬ 0 = 0 := fun z => c71 ((nI_eq (a := 0) (b := 0) (by omega) (by omega)).mpr z)
              exact absurd c71 (by omega)
      · skip
        refine lv_iload_n S.1 S.2.1 d_SF_isRefused_11 rfl (lv_at hl 1 rfl) ?_
        refine lv_bipush (v := nI 9) S.1 S.2.1 d_SF_isRefused_12 (by decide) ?_
        refine lv_icmp_eq (tgt := 29) S.1 S.2.1 d_SF_isRefused_14 (by decide) (fun c83 => ?_) (fun c83 => ?_)
        · skip
          replace c83 : 4 = 9 := (nI_eq (a := 4) (b := 9) (by omega) (by omega)).mp c83
          exact absurd c83 (by omega)
        · skip
          replace c83 : ¬ 4 = 9 := fun z => c83 ((nI_eq (a := 4) (b := 9) (by omega) (by omega)).mpr z)
          refine lv_aload_n S.1 S.2.1 d_SF_isRefused_17 rfl (lv_at hl 0 rfl) ?_
          refine gh_get S hI h0 rfl i_SF 1 (by decide) wi_71 rfl d_SF_isRefused_18 ?_
          refine gc_Vi S hI (c_Row_isEmpty l P f n1 (by omega)) kv_Row_isEmpty wi_121 n1 rfl rfl rfl hl.1 rfl (Nat.le_of_ble_eq_true rfl) ⟨Nat.le_of_ble_eq_true rfl, Nat.le_of_ble_eq_true rfl⟩ ⟨Nat.le_of_ble_eq_true rfl, Nat.le_of_ble_eq_true rfl⟩ d_SF_isRefused_21 (fun r84 f85 H locs hp86 hI => ?_)
          obtain ⟨hp1, hp2⟩ := hp86
          subst hp1
          rw [hp2] at hI
          by_cases hc87 : st.2.1.length = 0
          · rw [show (if st.2.1.length = 0 then nI 1 else nI 0 : Int32) = nI 1 from if_pos hc87]
            refine lv_if_eq (tgt := 29) S.1 S.2.1 d_SF_isRefused_24 (by decide) (fun c88 => ?_) (fun c88 => ?_)
            · skip
              replace c88 : 1 = 0 := (nI_eq (a := 1) (b := 0) (by omega) (by omega)).mp c88
              exact absurd c88 (by omega)
            · skip
              replace c88 : ¬ 1 = 0 := fun z => c88 ((nI_eq (a := 1) (b := 0) (by omega) (by omega)).mpr z)
              refine lv_iconst (v := nI 1) S.1 S.2.1 d_SF_isRefused_27 (by decide) ?_
              exact gr_z S hr hlk hI (by first | exact Or.inl rfl | exact Or.inr rfl) (⟨Or.inl ⟨Or.inr (Or.inl ⟨by decide, List.length_eq_zero_iff.mp hc87⟩), rfl⟩, rfl⟩) d_SF_isRefused_28
          · rw [show (if st.2.1.length = 0 then nI 1 else nI 0 : Int32) = nI 0 from if_neg hc87]
            refine lv_if_eq (tgt := 29) S.1 S.2.1 d_SF_isRefused_24 (by decide) (fun c89 => ?_) (fun c89 => ?_)
            · skip
              replace c89 : 0 = 0 := (nI_eq (a := 0) (b := 0) (by omega) (by omega)).mp c89
              refine lv_iload_n S.1 S.2.1 d_SF_isRefused_29 rfl (lv_at hl 1 rfl) ?_
              refine lv_bipush (v := nI 6) S.1 S.2.1 d_SF_isRefused_30 (by decide) ?_
              refine lv_icmp_eq (tgt := 41) S.1 S.2.1 d_SF_isRefused_32 (by decide) (fun c90 => ?_) (fun c90 => ?_)
              · skip
                replace c90 : 4 = 6 := (nI_eq (a := 4) (b := 6) (by omega) (by omega)).mp c90
                exact absurd c90 (by omega)
              · skip
                replace c90 : ¬ 4 = 6 := fun z => c90 ((nI_eq (a := 4) (b := 6) (by omega) (by omega)).mpr z)
                refine lv_iload_n S.1 S.2.1 d_SF_isRefused_35 rfl (lv_at hl 1 rfl) ?_
                refine lv_bipush (v := nI 7) S.1 S.2.1 d_SF_isRefused_36 (by decide) ?_
                refine lv_icmp_ne (tgt := 53) S.1 S.2.1 d_SF_isRefused_38 (by decide) (fun c91 => ?_) (fun c91 => ?_)
                · skip
                  replace c91 : ¬ 4 = 7 := fun z => c91 ((nI_eq (a := 4) (b := 7) (by omega) (by omega)).mpr z)
                  refine lv_iload_n S.1 S.2.1 d_SF_isRefused_53 rfl (lv_at hl 1 rfl) ?_
                  refine lv_iconst (v := nI 1) S.1 S.2.1 d_SF_isRefused_54 (by decide) ?_
                  refine lv_icmp_eq (tgt := 68) S.1 S.2.1 d_SF_isRefused_55 (by decide) (fun c92 => ?_) (fun c92 => ?_)
                  · skip
                    replace c92 : 4 = 1 := (nI_eq (a := 4) (b := 1) (by omega) (by omega)).mp c92
                    exact absurd c92 (by omega)
                  · skip
                    replace c92 : ¬ 4 = 1 := fun z => c92 ((nI_eq (a := 4) (b := 1) (by omega) (by omega)).mpr z)
                    refine lv_iload_n S.1 S.2.1 d_SF_isRefused_58 rfl (lv_at hl 1 rfl) ?_
                    refine lv_iconst (v := nI 3) S.1 S.2.1 d_SF_isRefused_59 (by decide) ?_
                    refine lv_icmp_eq (tgt := 68) S.1 S.2.1 d_SF_isRefused_60 (by decide) (fun c93 => ?_) (fun c93 => ?_)
                    · skip
                      replace c93 : 4 = 3 := (nI_eq (a := 4) (b := 3) (by omega) (by omega)).mp c93
                      exact absurd c93 (by omega)
                    · skip
                      replace c93 : ¬ 4 = 3 := fun z => c93 ((nI_eq (a := 4) (b := 3) (by omega) (by omega)).mpr z)
                      refine lv_iload_n S.1 S.2.1 d_SF_isRefused_63 rfl (lv_at hl 1 rfl) ?_
                      refine lv_iconst (v := nI 4) S.1 S.2.1 d_SF_isRefused_64 (by decide) ?_
                      refine lv_icmp_ne (tgt := 80) S.1 S.2.1 d_SF_isRefused_65 (by decide) (fun c94 => ?_) (fun c94 => ?_)
                      · skip
                        replace c94 : ¬ 4 = 4 := fun z => c94 ((nI_eq (a := 4) (b := 4) (by omega) (by omega)).mpr z)
                        exact absurd c94 (by omega)
                      · skip
                        replace c94 : 4 = 4 := (nI_eq (a := 4) (b := 4) (by omega) (by omega)).mp c94
                        refine lv_iload_n S.1 S.2.1 d_SF_isRefused_68 rfl (lv_at hl 2 rfl) ?_
                        refine lv_sipush (v := nI 8192) S.1 S.2.1 d_SF_isRefused_69 (by decide) ?_
                        refine gc_Si S hI (c_SF_isWithin l P f (x := aa) (m0 := nI 8192)) kv_SF_isWithin wi_92 rfl hl.1 rfl (Nat.le_of_ble_eq_true rfl) ⟨Nat.le_of_ble_eq_true rfl, Nat.le_of_ble_eq_true rfl⟩ ⟨Nat.le_of_ble_eq_true rfl, Nat.le_of_ble_eq_true rfl⟩ d_SF_isRefused_72 (fun r95 f96 H locs hp97 hI => ?_)
                        obtain ⟨hp1, hp2⟩ := hp97
                        subst hp1
                        rw [hp2] at hI
                        by_cases hc98 : ¬ aa < 0 ∧ aa ≤ nI 8192
                        · rw [show (if ¬ aa < 0 ∧ aa ≤ nI 8192 then nI 1 else nI 0 : Int32) = nI 1 from if_pos hc98]
                          refine lv_if_ne (tgt := 80) S.1 S.2.1 d_SF_isRefused_75 (by decide) (fun c99 => ?_) (fun c99 => ?_)
                          · skip
                            replace c99 : ¬ 1 = 0 := fun z => c99 ((nI_eq (a := 1) (b := 0) (by omega) (by omega)).mpr z)
                            refine lv_iload_n S.1 S.2.1 d_SF_isRefused_80 rfl (lv_at hl 1 rfl) ?_
                            refine lv_iconst (v := nI 4) S.1 S.2.1 d_SF_isRefused_81 (by decide) ?_
                            refine lv_icmp_ne (tgt := 99) S.1 S.2.1 d_SF_isRefused_82 (by decide) (fun c100 => ?_) (fun c100 => ?_)
                            · skip
                              replace c100 : ¬ 4 = 4 := fun z => c100 ((nI_eq (a := 4) (b := 4) (by omega) (by omega)).mpr z)
                              exact absurd c100 (by omega)
                            · skip
                              replace c100 : 4 = 4 := (nI_eq (a := 4) (b := 4) (by omega) (by omega)).mp c100
                              refine lv_iload_n S.1 S.2.1 d_SF_isRefused_85 rfl (lv_at hl 3 rfl) ?_
                              refine lv_sipush (v := nI 2048) S.1 S.2.1 d_SF_isRefused_86 (by decide) ?_
                              refine gc_Si S hI (c_SF_isWithin l P f (x := bb) (m0 := nI 2048)) kv_SF_isWithin wi_92 rfl hl.1 rfl (Nat.le_of_ble_eq_true rfl) ⟨Nat.le_of_ble_eq_true rfl, Nat.le_of_ble_eq_true rfl⟩ ⟨Nat.le_of_ble_eq_true rfl, Nat.le_of_ble_eq_true rfl⟩ d_SF_isRefused_89 (fun r101 f102 H locs hp103 hI => ?_)
                              obtain ⟨hp1, hp2⟩ := hp103
                              subst hp1
                              rw [hp2] at hI
                              by_cases hc104 : ¬ bb < 0 ∧ bb ≤ nI 2048
                              · rw [show (if ¬ bb < 0 ∧ bb ≤ nI 2048 then nI 1 else nI 0 : Int32) = nI 1 from if_pos hc104]
                                refine lv_if_ne (tgt := 99) S.1 S.2.1 d_SF_isRefused_92 (by decide) (fun c105 => ?_) (fun c105 => ?_)
                                · skip
                                  replace c105 : ¬ 1 = 0 := fun z => c105 ((nI_eq (a := 1) (b := 0) (by omega) (by omega)).mpr z)
                                  refine lv_iconst (v := nI 0) S.1 S.2.1 d_SF_isRefused_99 (by decide) ?_
                                  exact gr_z S hr hlk hI (by first | exact Or.inl rfl | exact Or.inr rfl) (⟨Or.inr ⟨aRef_no (by decide) (fun _ z => hc87 (by rw [z]; rfl)) (fun z => absurd z (by decide)) (fun _ z => z.elim hc98.1 (fun q => absurd hc98.2 (Int32.not_le.mpr q))) (fun _ z => z.elim hc104.1 (fun q => absurd hc104.2 (Int32.not_le.mpr q))), rfl⟩, rfl⟩) d_SF_isRefused_100
                                · skip
                                  replace c105 : 1 = 0 := (nI_eq (a := 1) (b := 0) (by omega) (by omega)).mp c105
                                  exact absurd c105 (by omega)
                              · rw [show (if ¬ bb < 0 ∧ bb ≤ nI 2048 then nI 1 else nI 0 : Int32) = nI 0 from if_neg hc104]
                                refine lv_if_ne (tgt := 99) S.1 S.2.1 d_SF_isRefused_92 (by decide) (fun c106 => ?_) (fun c106 => ?_)
                                · skip
                                  replace c106 : ¬ 0 = 0 := fun z => c106 ((nI_eq (a := 0) (b := 0) (by omega) (by omega)).mpr z)
                                  exact absurd c106 (by omega)
                                · skip
                                  replace c106 : 0 = 0 := (nI_eq (a := 0) (b := 0) (by omega) (by omega)).mp c106
                                  refine lv_iconst (v := nI 1) S.1 S.2.1 d_SF_isRefused_95 (by decide) ?_
                                  refine lv_goto (tgt := 100) S.1 S.2.1 d_SF_isRefused_96 (by decide) ?_
                                  exact gr_z S hr hlk hI (by first | exact Or.inl rfl | exact Or.inr rfl) (⟨Or.inl ⟨Or.inr (Or.inr (Or.inr (Or.inr ⟨rfl, Classical.byContradiction fun z => hc104 ⟨fun q => z (Or.inl q), Int32.not_lt.mp (fun q => z (Or.inr q))⟩⟩))), rfl⟩, rfl⟩) d_SF_isRefused_100
                          · skip
                            replace c99 : 1 = 0 := (nI_eq (a := 1) (b := 0) (by omega) (by omega)).mp c99
                            exact absurd c99 (by omega)
                        · rw [show (if ¬ aa < 0 ∧ aa ≤ nI 8192 then nI 1 else nI 0 : Int32) = nI 0 from if_neg hc98]
                          refine lv_if_ne (tgt := 80) S.1 S.2.1 d_SF_isRefused_75 (by decide) (fun c107 => ?_) (fun c107 => ?_)
                          · skip
                            replace c107 : ¬ 0 = 0 := fun z => c107 ((nI_eq (a := 0) (b := 0) (by omega) (by omega)).mpr z)
                            exact absurd c107 (by omega)
                          · skip
                            replace c107 : 0 = 0 := (nI_eq (a := 0) (b := 0) (by omega) (by omega)).mp c107
                            refine lv_iconst (v := nI 1) S.1 S.2.1 d_SF_isRefused_78 (by decide) ?_
                            exact gr_z S hr hlk hI (by first | exact Or.inl rfl | exact Or.inr rfl) (⟨Or.inl ⟨Or.inr (Or.inr (Or.inr (Or.inl ⟨by decide, Classical.byContradiction fun z => hc98 ⟨fun q => z (Or.inl q), Int32.not_lt.mp (fun q => z (Or.inr q))⟩⟩))), rfl⟩, rfl⟩) d_SF_isRefused_79
                · skip
                  replace c91 : 4 = 7 := (nI_eq (a := 4) (b := 7) (by omega) (by omega)).mp c91
                  exact absurd c91 (by omega)
            · skip
              replace c89 : ¬ 0 = 0 := fun z => c89 ((nI_eq (a := 0) (b := 0) (by omega) (by omega)).mpr z)
              exact absurd c89 (by omega)
      · skip
        refine lv_iload_n S.1 S.2.1 d_SF_isRefused_11 rfl (lv_at hl 1 rfl) ?_
        refine lv_bipush (v := nI 9) S.1 S.2.1 d_SF_isRefused_12 (by decide) ?_
        refine lv_icmp_eq (tgt := 29) S.1 S.2.1 d_SF_isRefused_14 (by decide) (fun c108 => ?_) (fun c108 => ?_)
        · skip
          replace c108 : 5 = 9 := (nI_eq (a := 5) (b := 9) (by omega) (by omega)).mp c108
          exact absurd c108 (by omega)
        · skip
          replace c108 : ¬ 5 = 9 := fun z => c108 ((nI_eq (a := 5) (b := 9) (by omega) (by omega)).mpr z)
          refine lv_aload_n S.1 S.2.1 d_SF_isRefused_17 rfl (lv_at hl 0 rfl) ?_
          refine gh_get S hI h0 rfl i_SF 1 (by decide) wi_71 rfl d_SF_isRefused_18 ?_
          refine gc_Vi S hI (c_Row_isEmpty l P f n1 (by omega)) kv_Row_isEmpty wi_121 n1 rfl rfl rfl hl.1 rfl (Nat.le_of_ble_eq_true rfl) ⟨Nat.le_of_ble_eq_true rfl, Nat.le_of_ble_eq_true rfl⟩ ⟨Nat.le_of_ble_eq_true rfl, Nat.le_of_ble_eq_true rfl⟩ d_SF_isRefused_21 (fun r109 f110 H locs hp111 hI => ?_)
          obtain ⟨hp1, hp2⟩ := hp111
          subst hp1
          rw [hp2] at hI
          by_cases hc112 : st.2.1.length = 0
          · rw [show (if st.2.1.length = 0 then nI 1 else nI 0 : Int32) = nI 1 from if_pos hc112]
            refine lv_if_eq (tgt := 29) S.1 S.2.1 d_SF_isRefused_24 (by decide) (fun c113 => ?_) (fun c113 => ?_)
            · skip
              replace c113 : 1 = 0 := (nI_eq (a := 1) (b := 0) (by omega) (by omega)).mp c113
              exact absurd c113 (by omega)
            · skip
              replace c113 : ¬ 1 = 0 := fun z => c113 ((nI_eq (a := 1) (b := 0) (by omega) (by omega)).mpr z)
              refine lv_iconst (v := nI 1) S.1 S.2.1 d_SF_isRefused_27 (by decide) ?_
              exact gr_z S hr hlk hI (by first | exact Or.inl rfl | exact Or.inr rfl) (⟨Or.inl ⟨Or.inr (Or.inl ⟨by decide, List.length_eq_zero_iff.mp hc112⟩), rfl⟩, rfl⟩) d_SF_isRefused_28
          · rw [show (if st.2.1.length = 0 then nI 1 else nI 0 : Int32) = nI 0 from if_neg hc112]
            refine lv_if_eq (tgt := 29) S.1 S.2.1 d_SF_isRefused_24 (by decide) (fun c114 => ?_) (fun c114 => ?_)
            · skip
              replace c114 : 0 = 0 := (nI_eq (a := 0) (b := 0) (by omega) (by omega)).mp c114
              refine lv_iload_n S.1 S.2.1 d_SF_isRefused_29 rfl (lv_at hl 1 rfl) ?_
              refine lv_bipush (v := nI 6) S.1 S.2.1 d_SF_isRefused_30 (by decide) ?_
              refine lv_icmp_eq (tgt := 41) S.1 S.2.1 d_SF_isRefused_32 (by decide) (fun c115 => ?_) (fun c115 => ?_)
              · skip
                replace c115 : 5 = 6 := (nI_eq (a := 5) (b := 6) (by omega) (by omega)).mp c115
                exact absurd c115 (by omega)
              · skip
                replace c115 : ¬ 5 = 6 := fun z => c115 ((nI_eq (a := 5) (b := 6) (by omega) (by omega)).mpr z)
                refine lv_iload_n S.1 S.2.1 d_SF_isRefused_35 rfl (lv_at hl 1 rfl) ?_
                refine lv_bipush (v := nI 7) S.1 S.2.1 d_SF_isRefused_36 (by decide) ?_
                refine lv_icmp_ne (tgt := 53) S.1 S.2.1 d_SF_isRefused_38 (by decide) (fun c116 => ?_) (fun c116 => ?_)
                · skip
                  replace c116 : ¬ 5 = 7 := fun z => c116 ((nI_eq (a := 5) (b := 7) (by omega) (by omega)).mpr z)
                  refine lv_iload_n S.1 S.2.1 d_SF_isRefused_53 rfl (lv_at hl 1 rfl) ?_
                  refine lv_iconst (v := nI 1) S.1 S.2.1 d_SF_isRefused_54 (by decide) ?_
                  refine lv_icmp_eq (tgt := 68) S.1 S.2.1 d_SF_isRefused_55 (by decide) (fun c117 => ?_) (fun c117 => ?_)
                  · skip
                    replace c117 : 5 = 1 := (nI_eq (a := 5) (b := 1) (by omega) (by omega)).mp c117
                    exact absurd c117 (by omega)
                  · skip
                    replace c117 : ¬ 5 = 1 := fun z => c117 ((nI_eq (a := 5) (b := 1) (by omega) (by omega)).mpr z)
                    refine lv_iload_n S.1 S.2.1 d_SF_isRefused_58 rfl (lv_at hl 1 rfl) ?_
                    refine lv_iconst (v := nI 3) S.1 S.2.1 d_SF_isRefused_59 (by decide) ?_
                    refine lv_icmp_eq (tgt := 68) S.1 S.2.1 d_SF_isRefused_60 (by decide) (fun c118 => ?_) (fun c118 => ?_)
                    · skip
                      replace c118 : 5 = 3 := (nI_eq (a := 5) (b := 3) (by omega) (by omega)).mp c118
                      exact absurd c118 (by omega)
                    · skip
                      replace c118 : ¬ 5 = 3 := fun z => c118 ((nI_eq (a := 5) (b := 3) (by omega) (by omega)).mpr z)
                      refine lv_iload_n S.1 S.2.1 d_SF_isRefused_63 rfl (lv_at hl 1 rfl) ?_
                      refine lv_iconst (v := nI 4) S.1 S.2.1 d_SF_isRefused_64 (by decide) ?_
                      refine lv_icmp_ne (tgt := 80) S.1 S.2.1 d_SF_isRefused_65 (by decide) (fun c119 => ?_) (fun c119 => ?_)
                      · skip
                        replace c119 : ¬ 5 = 4 := fun z => c119 ((nI_eq (a := 5) (b := 4) (by omega) (by omega)).mpr z)
                        refine lv_iload_n S.1 S.2.1 d_SF_isRefused_80 rfl (lv_at hl 1 rfl) ?_
                        refine lv_iconst (v := nI 4) S.1 S.2.1 d_SF_isRefused_81 (by decide) ?_
                        refine lv_icmp_ne (tgt := 99) S.1 S.2.1 d_SF_isRefused_82 (by decide) (fun c120 => ?_) (fun c120 => ?_)
                        · skip
                          replace c120 : ¬ 5 = 4 := fun z => c120 ((nI_eq (a := 5) (b := 4) (by omega) (by omega)).mpr z)
                          refine lv_iconst (v := nI 0) S.1 S.2.1 d_SF_isRefused_99 (by decide) ?_
                          exact gr_z S hr hlk hI (by first | exact Or.inl rfl | exact Or.inr rfl) (⟨Or.inr ⟨aRef_no (by decide) (fun _ z => hc112 (by rw [z]; rfl)) (fun z => absurd z (by decide)) (fun z => absurd z (by decide)) (fun z => absurd z (by decide)), rfl⟩, rfl⟩) d_SF_isRefused_100
                        · skip
                          replace c120 : 5 = 4 := (nI_eq (a := 5) (b := 4) (by omega) (by omega)).mp c120
                          exact absurd c120 (by omega)
                      · skip
                        replace c119 : 5 = 4 := (nI_eq (a := 5) (b := 4) (by omega) (by omega)).mp c119
                        exact absurd c119 (by omega)
                · skip
                  replace c116 : 5 = 7 := (nI_eq (a := 5) (b := 7) (by omega) (by omega)).mp c116
                  exact absurd c116 (by omega)
            · skip
              replace c114 : ¬ 0 = 0 := fun z => c114 ((nI_eq (a := 0) (b := 0) (by omega) (by omega)).mpr z)
              exact absurd c114 (by omega)
      · skip
        refine lv_iload_n S.1 S.2.1 d_SF_isRefused_11 rfl (lv_at hl 1 rfl) ?_
        refine lv_bipush (v := nI 9) S.1 S.2.1 d_SF_isRefused_12 (by decide) ?_
        refine lv_icmp_eq (tgt := 29) S.1 S.2.1 d_SF_isRefused_14 (by decide) (fun c121 => ?_) (fun c121 => ?_)
        · skip
          replace c121 : 6 = 9 := (nI_eq (a := 6) (b := 9) (by omega) (by omega)).mp c121
          exact absurd c121 (by omega)
        · skip
          replace c121 : ¬ 6 = 9 := fun z => c121 ((nI_eq (a := 6) (b := 9) (by omega) (by omega)).mpr z)
          refine lv_aload_n S.1 S.2.1 d_SF_isRefused_17 rfl (lv_at hl 0 rfl) ?_
          refine gh_get S hI h0 rfl i_SF 1 (by decide) wi_71 rfl d_SF_isRefused_18 ?_
          refine gc_Vi S hI (c_Row_isEmpty l P f n1 (by omega)) kv_Row_isEmpty wi_121 n1 rfl rfl rfl hl.1 rfl (Nat.le_of_ble_eq_true rfl) ⟨Nat.le_of_ble_eq_true rfl, Nat.le_of_ble_eq_true rfl⟩ ⟨Nat.le_of_ble_eq_true rfl, Nat.le_of_ble_eq_true rfl⟩ d_SF_isRefused_21 (fun r122 f123 H locs hp124 hI => ?_)
          obtain ⟨hp1, hp2⟩ := hp124
          subst hp1
          rw [hp2] at hI
          by_cases hc125 : st.2.1.length = 0
          · rw [show (if st.2.1.length = 0 then nI 1 else nI 0 : Int32) = nI 1 from if_pos hc125]
            refine lv_if_eq (tgt := 29) S.1 S.2.1 d_SF_isRefused_24 (by decide) (fun c126 => ?_) (fun c126 => ?_)
            · skip
              replace c126 : 1 = 0 := (nI_eq (a := 1) (b := 0) (by omega) (by omega)).mp c126
              exact absurd c126 (by omega)
            · skip
              replace c126 : ¬ 1 = 0 := fun z => c126 ((nI_eq (a := 1) (b := 0) (by omega) (by omega)).mpr z)
              refine lv_iconst (v := nI 1) S.1 S.2.1 d_SF_isRefused_27 (by decide) ?_
              exact gr_z S hr hlk hI (by first | exact Or.inl rfl | exact Or.inr rfl) (⟨Or.inl ⟨Or.inr (Or.inl ⟨by decide, List.length_eq_zero_iff.mp hc125⟩), rfl⟩, rfl⟩) d_SF_isRefused_28
          · rw [show (if st.2.1.length = 0 then nI 1 else nI 0 : Int32) = nI 0 from if_neg hc125]
            refine lv_if_eq (tgt := 29) S.1 S.2.1 d_SF_isRefused_24 (by decide) (fun c127 => ?_) (fun c127 => ?_)
            · skip
              replace c127 : 0 = 0 := (nI_eq (a := 0) (b := 0) (by omega) (by omega)).mp c127
              refine lv_iload_n S.1 S.2.1 d_SF_isRefused_29 rfl (lv_at hl 1 rfl) ?_
              refine lv_bipush (v := nI 6) S.1 S.2.1 d_SF_isRefused_30 (by decide) ?_
              refine lv_icmp_eq (tgt := 41) S.1 S.2.1 d_SF_isRefused_32 (by decide) (fun c128 => ?_) (fun c128 => ?_)
              · skip
                replace c128 : 6 = 6 := (nI_eq (a := 6) (b := 6) (by omega) (by omega)).mp c128
                refine lv_aload_n S.1 S.2.1 d_SF_isRefused_41 rfl (lv_at hl 0 rfl) ?_
                refine gh_get S hI h0 rfl i_SF 2 (by decide) wi_72 rfl d_SF_isRefused_42 ?_
                refine gc_Vi S hI (c_Row_isEmpty l P f m1 (by omega)) kv_Row_isEmpty wi_121 m1 rfl rfl rfl hl.1 rfl (Nat.le_of_ble_eq_true rfl) ⟨Nat.le_of_ble_eq_true rfl, Nat.le_of_ble_eq_true rfl⟩ ⟨Nat.le_of_ble_eq_true rfl, Nat.le_of_ble_eq_true rfl⟩ d_SF_isRefused_45 (fun r129 f130 H locs hp131 hI => ?_)
                obtain ⟨hp1, hp2⟩ := hp131
                subst hp1
                rw [hp2] at hI
                by_cases hc132 : st.2.2.1.length = 0
                · rw [show (if st.2.2.1.length = 0 then nI 1 else nI 0 : Int32) = nI 1 from if_pos hc132]
                  refine lv_if_eq (tgt := 53) S.1 S.2.1 d_SF_isRefused_48 (by decide) (fun c133 => ?_) (fun c133 => ?_)
                  · skip
                    replace c133 : 1 = 0 := (nI_eq (a := 1) (b := 0) (by omega) (by omega)).mp c133
                    exact absurd c133 (by omega)
                  · skip
                    replace c133 : ¬ 1 = 0 := fun z => c133 ((nI_eq (a := 1) (b := 0) (by omega) (by omega)).mpr z)
                    refine lv_iconst (v := nI 1) S.1 S.2.1 d_SF_isRefused_51 (by decide) ?_
                    exact gr_z S hr hlk hI (by first | exact Or.inl rfl | exact Or.inr rfl) (⟨Or.inl ⟨Or.inr (Or.inr (Or.inl ⟨by decide, List.length_eq_zero_iff.mp hc132⟩)), rfl⟩, rfl⟩) d_SF_isRefused_52
                · rw [show (if st.2.2.1.length = 0 then nI 1 else nI 0 : Int32) = nI 0 from if_neg hc132]
                  refine lv_if_eq (tgt := 53) S.1 S.2.1 d_SF_isRefused_48 (by decide) (fun c134 => ?_) (fun c134 => ?_)
                  · skip
                    replace c134 : 0 = 0 := (nI_eq (a := 0) (b := 0) (by omega) (by omega)).mp c134
                    refine lv_iload_n S.1 S.2.1 d_SF_isRefused_53 rfl (lv_at hl 1 rfl) ?_
                    refine lv_iconst (v := nI 1) S.1 S.2.1 d_SF_isRefused_54 (by decide) ?_
                    refine lv_icmp_eq (tgt := 68) S.1 S.2.1 d_SF_isRefused_55 (by decide) (fun c135 => ?_) (fun c135 => ?_)
                    · skip
                      replace c135 : 6 = 1 := (nI_eq (a := 6) (b := 1) (by omega) (by omega)).mp c135
                      exact absurd c135 (by omega)
                    · skip
                      replace c135 : ¬ 6 = 1 := fun z => c135 ((nI_eq (a := 6) (b := 1) (by omega) (by omega)).mpr z)
                      refine lv_iload_n S.1 S.2.1 d_SF_isRefused_58 rfl (lv_at hl 1 rfl) ?_
                      refine lv_iconst (v := nI 3) S.1 S.2.1 d_SF_isRefused_59 (by decide) ?_
                      refine lv_icmp_eq (tgt := 68) S.1 S.2.1 d_SF_isRefused_60 (by decide) (fun c136 => ?_) (fun c136 => ?_)
                      · skip
                        replace c136 : 6 = 3 := (nI_eq (a := 6) (b := 3) (by omega) (by omega)).mp c136
                        exact absurd c136 (by omega)
                      · skip
                        replace c136 : ¬ 6 = 3 := fun z => c136 ((nI_eq (a := 6) (b := 3) (by omega) (by omega)).mpr z)
                        refine lv_iload_n S.1 S.2.1 d_SF_isRefused_63 rfl (lv_at hl 1 rfl) ?_
                        refine lv_iconst (v := nI 4) S.1 S.2.1 d_SF_isRefused_64 (by decide) ?_
                        refine lv_icmp_ne (tgt := 80) S.1 S.2.1 d_SF_isRefused_65 (by decide) (fun c137 => ?_) (fun c137 => ?_)
                        · skip
                          replace c137 : ¬ 6 = 4 := fun z => c137 ((nI_eq (a := 6) (b := 4) (by omega) (by omega)).mpr z)
                          refine lv_iload_n S.1 S.2.1 d_SF_isRefused_80 rfl (lv_at hl 1 rfl) ?_
                          refine lv_iconst (v := nI 4) S.1 S.2.1 d_SF_isRefused_81 (by decide) ?_
                          refine lv_icmp_ne (tgt := 99) S.1 S.2.1 d_SF_isRefused_82 (by decide) (fun c138 => ?_) (fun c138 => ?_)
                          · skip
                            replace c138 : ¬ 6 = 4 := fun z => c138 ((nI_eq (a := 6) (b := 4) (by omega) (by omega)).mpr z)
                            refine lv_iconst (v := nI 0) S.1 S.2.1 d_SF_isRefused_99 (by decide) ?_
                            exact gr_z S hr hlk hI (by first | exact Or.inl rfl | exact Or.inr rfl) (⟨Or.inr ⟨aRef_no (by decide) (fun _ z => hc125 (by rw [z]; rfl)) (fun _ z => hc132 (by rw [z]; rfl)) (fun z => absurd z (by decide)) (fun z => absurd z (by decide)), rfl⟩, rfl⟩) d_SF_isRefused_100
                          · skip
                            replace c138 : 6 = 4 := (nI_eq (a := 6) (b := 4) (by omega) (by omega)).mp c138
                            exact absurd c138 (by omega)
                        · skip
                          replace c137 : 6 = 4 := (nI_eq (a := 6) (b := 4) (by omega) (by omega)).mp c137
                          exact absurd c137 (by omega)
                  · skip
                    replace c134 : ¬ 0 = 0 := fun z => c134 ((nI_eq (a := 0) (b := 0) (by omega) (by omega)).mpr z)
                    exact absurd c134 (by omega)
              · skip
                replace c128 : ¬ 6 = 6 := fun z => c128 ((nI_eq (a := 6) (b := 6) (by omega) (by omega)).mpr z)
                exact absurd c128 (by omega)
            · skip
              replace c127 : ¬ 0 = 0 := fun z => c127 ((nI_eq (a := 0) (b := 0) (by omega) (by omega)).mpr z)
              exact absurd c127 (by omega)
      · skip
        refine lv_iload_n S.1 S.2.1 d_SF_isRefused_11 rfl (lv_at hl 1 rfl) ?_
        refine lv_bipush (v := nI 9) S.1 S.2.1 d_SF_isRefused_12 (by decide) ?_
        refine lv_icmp_eq (tgt := 29) S.1 S.2.1 d_SF_isRefused_14 (by decide) (fun c139 => ?_) (fun c139 => ?_)
        · skip
          replace c139 : 7 = 9 := (nI_eq (a := 7) (b := 9) (by omega) (by omega)).mp c139
          exact absurd c139 (by omega)
        · skip
          replace c139 : ¬ 7 = 9 := fun z => c139 ((nI_eq (a := 7) (b := 9) (by omega) (by omega)).mpr z)
          refine lv_aload_n S.1 S.2.1 d_SF_isRefused_17 rfl (lv_at hl 0 rfl) ?_
          refine gh_get S hI h0 rfl i_SF 1 (by decide) wi_71 rfl d_SF_isRefused_18 ?_
          refine gc_Vi S hI (c_Row_isEmpty l P f n1 (by omega)) kv_Row_isEmpty wi_121 n1 rfl rfl rfl hl.1 rfl (Nat.le_of_ble_eq_true rfl) ⟨Nat.le_of_ble_eq_true rfl, Nat.le_of_ble_eq_true rfl⟩ ⟨Nat.le_of_ble_eq_true rfl, Nat.le_of_ble_eq_true rfl⟩ d_SF_isRefused_21 (fun r140 f141 H locs hp142 hI => ?_)
          obtain ⟨hp1, hp2⟩ := hp142
          subst hp1
          rw [hp2] at hI
          by_cases hc143 : st.2.1.length = 0
          · rw [show (if st.2.1.length = 0 then nI 1 else nI 0 : Int32) = nI 1 from if_pos hc143]
            refine lv_if_eq (tgt := 29) S.1 S.2.1 d_SF_isRefused_24 (by decide) (fun c144 => ?_) (fun c144 => ?_)
            · skip
              replace c144 : 1 = 0 := (nI_eq (a := 1) (b := 0) (by omega) (by omega)).mp c144
              exact absurd c144 (by omega)
            · skip
              replace c144 : ¬ 1 = 0 := fun z => c144 ((nI_eq (a := 1) (b := 0) (by omega) (by omega)).mpr z)
              refine lv_iconst (v := nI 1) S.1 S.2.1 d_SF_isRefused_27 (by decide) ?_
              exact gr_z S hr hlk hI (by first | exact Or.inl rfl | exact Or.inr rfl) (⟨Or.inl ⟨Or.inr (Or.inl ⟨by decide, List.length_eq_zero_iff.mp hc143⟩), rfl⟩, rfl⟩) d_SF_isRefused_28
          · rw [show (if st.2.1.length = 0 then nI 1 else nI 0 : Int32) = nI 0 from if_neg hc143]
            refine lv_if_eq (tgt := 29) S.1 S.2.1 d_SF_isRefused_24 (by decide) (fun c145 => ?_) (fun c145 => ?_)
            · skip
              replace c145 : 0 = 0 := (nI_eq (a := 0) (b := 0) (by omega) (by omega)).mp c145
              refine lv_iload_n S.1 S.2.1 d_SF_isRefused_29 rfl (lv_at hl 1 rfl) ?_
              refine lv_bipush (v := nI 6) S.1 S.2.1 d_SF_isRefused_30 (by decide) ?_
              refine lv_icmp_eq (tgt := 41) S.1 S.2.1 d_SF_isRefused_32 (by decide) (fun c146 => ?_) (fun c146 => ?_)
              · skip
                replace c146 : 7 = 6 := (nI_eq (a := 7) (b := 6) (by omega) (by omega)).mp c146
                exact absurd c146 (by omega)
              · skip
                replace c146 : ¬ 7 = 6 := fun z => c146 ((nI_eq (a := 7) (b := 6) (by omega) (by omega)).mpr z)
                refine lv_iload_n S.1 S.2.1 d_SF_isRefused_35 rfl (lv_at hl 1 rfl) ?_
                refine lv_bipush (v := nI 7) S.1 S.2.1 d_SF_isRefused_36 (by decide) ?_
                refine lv_icmp_ne (tgt := 53) S.1 S.2.1 d_SF_isRefused_38 (by decide) (fun c147 => ?_) (fun c147 => ?_)
                · skip
                  replace c147 : ¬ 7 = 7 := fun z => c147 ((nI_eq (a := 7) (b := 7) (by omega) (by omega)).mpr z)
                  exact absurd c147 (by omega)
                · skip
                  replace c147 : 7 = 7 := (nI_eq (a := 7) (b := 7) (by omega) (by omega)).mp c147
                  refine lv_aload_n S.1 S.2.1 d_SF_isRefused_41 rfl (lv_at hl 0 rfl) ?_
                  refine gh_get S hI h0 rfl i_SF 2 (by decide) wi_72 rfl d_SF_isRefused_42 ?_
                  refine gc_Vi S hI (c_Row_isEmpty l P f m1 (by omega)) kv_Row_isEmpty wi_121 m1 rfl rfl rfl hl.1 rfl (Nat.le_of_ble_eq_true rfl) ⟨Nat.le_of_ble_eq_true rfl, Nat.le_of_ble_eq_true rfl⟩ ⟨Nat.le_of_ble_eq_true rfl, Nat.le_of_ble_eq_true rfl⟩ d_SF_isRefused_45 (fun r148 f149 H locs hp150 hI => ?_)
                  obtain ⟨hp1, hp2⟩ := hp150
                  subst hp1
                  rw [hp2] at hI
                  by_cases hc151 : st.2.2.1.length = 0
                  · rw [show (if st.2.2.1.length = 0 then nI 1 else nI 0 : Int32) = nI 1 from if_pos hc151]
                    refine lv_if_eq (tgt := 53) S.1 S.2.1 d_SF_isRefused_48 (by decide) (fun c152 => ?_) (fun c152 => ?_)
                    · skip
                      replace c152 : 1 = 0 := (nI_eq (a := 1) (b := 0) (by omega) (by omega)).mp c152
                      exact absurd c152 (by omega)
                    · skip
                      replace c152 : ¬ 1 = 0 := fun z => c152 ((nI_eq (a := 1) (b := 0) (by omega) (by omega)).mpr z)
                      refine lv_iconst (v := nI 1) S.1 S.2.1 d_SF_isRefused_51 (by decide) ?_
                      exact gr_z S hr hlk hI (by first | exact Or.inl rfl | exact Or.inr rfl) (⟨Or.inl ⟨Or.inr (Or.inr (Or.inl ⟨by decide, List.length_eq_zero_iff.mp hc151⟩)), rfl⟩, rfl⟩) d_SF_isRefused_52
                  · rw [show (if st.2.2.1.length = 0 then nI 1 else nI 0 : Int32) = nI 0 from if_neg hc151]
                    refine lv_if_eq (tgt := 53) S.1 S.2.1 d_SF_isRefused_48 (by decide) (fun c153 => ?_) (fun c153 => ?_)
                    · skip
                      replace c153 : 0 = 0 := (nI_eq (a := 0) (b := 0) (by omega) (by omega)).mp c153
                      refine lv_iload_n S.1 S.2.1 d_SF_isRefused_53 rfl (lv_at hl 1 rfl) ?_
                      refine lv_iconst (v := nI 1) S.1 S.2.1 d_SF_isRefused_54 (by decide) ?_
                      refine lv_icmp_eq (tgt := 68) S.1 S.2.1 d_SF_isRefused_55 (by decide) (fun c154 => ?_) (fun c154 => ?_)
                      · skip
                        replace c154 : 7 = 1 := (nI_eq (a := 7) (b := 1) (by omega) (by omega)).mp c154
                        exact absurd c154 (by omega)
                      · skip
                        replace c154 : ¬ 7 = 1 := fun z => c154 ((nI_eq (a := 7) (b := 1) (by omega) (by omega)).mpr z)
                        refine lv_iload_n S.1 S.2.1 d_SF_isRefused_58 rfl (lv_at hl 1 rfl) ?_
                        refine lv_iconst (v := nI 3) S.1 S.2.1 d_SF_isRefused_59 (by decide) ?_
                        refine lv_icmp_eq (tgt := 68) S.1 S.2.1 d_SF_isRefused_60 (by decide) (fun c155 => ?_) (fun c155 => ?_)
                        · skip
                          replace c155 : 7 = 3 := (nI_eq (a := 7) (b := 3) (by omega) (by omega)).mp c155
                          exact absurd c155 (by omega)
                        · skip
                          replace c155 : ¬ 7 = 3 := fun z => c155 ((nI_eq (a := 7) (b := 3) (by omega) (by omega)).mpr z)
                          refine lv_iload_n S.1 S.2.1 d_SF_isRefused_63 rfl (lv_at hl 1 rfl) ?_
                          refine lv_iconst (v := nI 4) S.1 S.2.1 d_SF_isRefused_64 (by decide) ?_
                          refine lv_icmp_ne (tgt := 80) S.1 S.2.1 d_SF_isRefused_65 (by decide) (fun c156 => ?_) (fun c156 => ?_)
                          · skip
                            replace c156 : ¬ 7 = 4 := fun z => c156 ((nI_eq (a := 7) (b := 4) (by omega) (by omega)).mpr z)
                            refine lv_iload_n S.1 S.2.1 d_SF_isRefused_80 rfl (lv_at hl 1 rfl) ?_
                            refine lv_iconst (v := nI 4) S.1 S.2.1 d_SF_isRefused_81 (by decide) ?_
                            refine lv_icmp_ne (tgt := 99) S.1 S.2.1 d_SF_isRefused_82 (by decide) (fun c157 => ?_) (fun c157 => ?_)
                            · skip
                              replace c157 : ¬ 7 = 4 := fun z => c157 ((nI_eq (a := 7) (b := 4) (by omega) (by omega)).mpr z)
                              refine lv_iconst (v := nI 0) S.1 S.2.1 d_SF_isRefused_99 (by decide) ?_
                              exact gr_z S hr hlk hI (by first | exact Or.inl rfl | exact Or.inr rfl) (⟨Or.inr ⟨aRef_no (by decide) (fun _ z => hc143 (by rw [z]; rfl)) (fun _ z => hc151 (by rw [z]; rfl)) (fun z => absurd z (by decide)) (fun z => absurd z (by decide)), rfl⟩, rfl⟩) d_SF_isRefused_100
                            · skip
                              replace c157 : 7 = 4 := (nI_eq (a := 7) (b := 4) (by omega) (by omega)).mp c157
                              exact absurd c157 (by omega)
                          · skip
                            replace c156 : 7 = 4 := (nI_eq (a := 7) (b := 4) (by omega) (by omega)).mp c156
                            exact absurd c156 (by omega)
                    · skip
                      replace c153 : ¬ 0 = 0 := fun z => c153 ((nI_eq (a := 0) (b := 0) (by omega) (by omega)).mpr z)
                      exact absurd c153 (by omega)
            · skip
              replace c145 : ¬ 0 = 0 := fun z => c145 ((nI_eq (a := 0) (b := 0) (by omega) (by omega)).mpr z)
              exact absurd c145 (by omega)
      · skip
        refine lv_iload_n S.1 S.2.1 d_SF_isRefused_11 rfl (lv_at hl 1 rfl) ?_
        refine lv_bipush (v := nI 9) S.1 S.2.1 d_SF_isRefused_12 (by decide) ?_
        refine lv_icmp_eq (tgt := 29) S.1 S.2.1 d_SF_isRefused_14 (by decide) (fun c158 => ?_) (fun c158 => ?_)
        · skip
          replace c158 : 8 = 9 := (nI_eq (a := 8) (b := 9) (by omega) (by omega)).mp c158
          exact absurd c158 (by omega)
        · skip
          replace c158 : ¬ 8 = 9 := fun z => c158 ((nI_eq (a := 8) (b := 9) (by omega) (by omega)).mpr z)
          refine lv_aload_n S.1 S.2.1 d_SF_isRefused_17 rfl (lv_at hl 0 rfl) ?_
          refine gh_get S hI h0 rfl i_SF 1 (by decide) wi_71 rfl d_SF_isRefused_18 ?_
          refine gc_Vi S hI (c_Row_isEmpty l P f n1 (by omega)) kv_Row_isEmpty wi_121 n1 rfl rfl rfl hl.1 rfl (Nat.le_of_ble_eq_true rfl) ⟨Nat.le_of_ble_eq_true rfl, Nat.le_of_ble_eq_true rfl⟩ ⟨Nat.le_of_ble_eq_true rfl, Nat.le_of_ble_eq_true rfl⟩ d_SF_isRefused_21 (fun r159 f160 H locs hp161 hI => ?_)
          obtain ⟨hp1, hp2⟩ := hp161
          subst hp1
          rw [hp2] at hI
          by_cases hc162 : st.2.1.length = 0
          · rw [show (if st.2.1.length = 0 then nI 1 else nI 0 : Int32) = nI 1 from if_pos hc162]
            refine lv_if_eq (tgt := 29) S.1 S.2.1 d_SF_isRefused_24 (by decide) (fun c163 => ?_) (fun c163 => ?_)
            · skip
              replace c163 : 1 = 0 := (nI_eq (a := 1) (b := 0) (by omega) (by omega)).mp c163
              exact absurd c163 (by omega)
            · skip
              replace c163 : ¬ 1 = 0 := fun z => c163 ((nI_eq (a := 1) (b := 0) (by omega) (by omega)).mpr z)
              refine lv_iconst (v := nI 1) S.1 S.2.1 d_SF_isRefused_27 (by decide) ?_
              exact gr_z S hr hlk hI (by first | exact Or.inl rfl | exact Or.inr rfl) (⟨Or.inl ⟨Or.inr (Or.inl ⟨by decide, List.length_eq_zero_iff.mp hc162⟩), rfl⟩, rfl⟩) d_SF_isRefused_28
          · rw [show (if st.2.1.length = 0 then nI 1 else nI 0 : Int32) = nI 0 from if_neg hc162]
            refine lv_if_eq (tgt := 29) S.1 S.2.1 d_SF_isRefused_24 (by decide) (fun c164 => ?_) (fun c164 => ?_)
            · skip
              replace c164 : 0 = 0 := (nI_eq (a := 0) (b := 0) (by omega) (by omega)).mp c164
              refine lv_iload_n S.1 S.2.1 d_SF_isRefused_29 rfl (lv_at hl 1 rfl) ?_
              refine lv_bipush (v := nI 6) S.1 S.2.1 d_SF_isRefused_30 (by decide) ?_
              refine lv_icmp_eq (tgt := 41) S.1 S.2.1 d_SF_isRefused_32 (by decide) (fun c165 => ?_) (fun c165 => ?_)
              · skip
                replace c165 : 8 = 6 := (nI_eq (a := 8) (b := 6) (by omega) (by omega)).mp c165
                exact absurd c165 (by omega)
              · skip
                replace c165 : ¬ 8 = 6 := fun z => c165 ((nI_eq (a := 8) (b := 6) (by omega) (by omega)).mpr z)
                refine lv_iload_n S.1 S.2.1 d_SF_isRefused_35 rfl (lv_at hl 1 rfl) ?_
                refine lv_bipush (v := nI 7) S.1 S.2.1 d_SF_isRefused_36 (by decide) ?_
                refine lv_icmp_ne (tgt := 53) S.1 S.2.1 d_SF_isRefused_38 (by decide) (fun c166 => ?_) (fun c166 => ?_)
                · skip
                  replace c166 : ¬ 8 = 7 := fun z => c166 ((nI_eq (a := 8) (b := 7) (by omega) (by omega)).mpr z)
                  refine lv_iload_n S.1 S.2.1 d_SF_isRefused_53 rfl (lv_at hl 1 rfl) ?_
                  refine lv_iconst (v := nI 1) S.1 S.2.1 d_SF_isRefused_54 (by decide) ?_
                  refine lv_icmp_eq (tgt := 68) S.1 S.2.1 d_SF_isRefused_55 (by decide) (fun c167 => ?_) (fun c167 => ?_)
                  · skip
                    replace c167 : 8 = 1 := (nI_eq (a := 8) (b := 1) (by omega) (by omega)).mp c167
                    exact absurd c167 (by omega)
                  · skip
                    replace c167 : ¬ 8 = 1 := fun z => c167 ((nI_eq (a := 8) (b := 1) (by omega) (by omega)).mpr z)
                    refine lv_iload_n S.1 S.2.1 d_SF_isRefused_58 rfl (lv_at hl 1 rfl) ?_
                    refine lv_iconst (v := nI 3) S.1 S.2.1 d_SF_isRefused_59 (by decide) ?_
                    refine lv_icmp_eq (tgt := 68) S.1 S.2.1 d_SF_isRefused_60 (by decide) (fun c168 => ?_) (fun c168 => ?_)
                    · skip
                      replace c168 : 8 = 3 := (nI_eq (a := 8) (b := 3) (by omega) (by omega)).mp c168
                      exact absurd c168 (by omega)
                    · skip
                      replace c168 : ¬ 8 = 3 := fun z => c168 ((nI_eq (a := 8) (b := 3) (by omega) (by omega)).mpr z)
                      refine lv_iload_n S.1 S.2.1 d_SF_isRefused_63 rfl (lv_at hl 1 rfl) ?_
                      refine lv_iconst (v := nI 4) S.1 S.2.1 d_SF_isRefused_64 (by decide) ?_
                      refine lv_icmp_ne (tgt := 80) S.1 S.2.1 d_SF_isRefused_65 (by decide) (fun c169 => ?_) (fun c169 => ?_)
                      · skip
                        replace c169 : ¬ 8 = 4 := fun z => c169 ((nI_eq (a := 8) (b := 4) (by omega) (by omega)).mpr z)
                        refine lv_iload_n S.1 S.2.1 d_SF_isRefused_80 rfl (lv_at hl 1 rfl) ?_
                        refine lv_iconst (v := nI 4) S.1 S.2.1 d_SF_isRefused_81 (by decide) ?_
                        refine lv_icmp_ne (tgt := 99) S.1 S.2.1 d_SF_isRefused_82 (by decide) (fun c170 => ?_) (fun c170 => ?_)
                        · skip
                          replace c170 : ¬ 8 = 4 := fun z => c170 ((nI_eq (a := 8) (b := 4) (by omega) (by omega)).mpr z)
                          refine lv_iconst (v := nI 0) S.1 S.2.1 d_SF_isRefused_99 (by decide) ?_
                          exact gr_z S hr hlk hI (by first | exact Or.inl rfl | exact Or.inr rfl) (⟨Or.inr ⟨aRef_no (by decide) (fun _ z => hc162 (by rw [z]; rfl)) (fun z => absurd z (by decide)) (fun z => absurd z (by decide)) (fun z => absurd z (by decide)), rfl⟩, rfl⟩) d_SF_isRefused_100
                        · skip
                          replace c170 : 8 = 4 := (nI_eq (a := 8) (b := 4) (by omega) (by omega)).mp c170
                          exact absurd c170 (by omega)
                      · skip
                        replace c169 : 8 = 4 := (nI_eq (a := 8) (b := 4) (by omega) (by omega)).mp c169
                        exact absurd c169 (by omega)
                · skip
                  replace c166 : 8 = 7 := (nI_eq (a := 8) (b := 7) (by omega) (by omega)).mp c166
                  exact absurd c166 (by omega)
            · skip
              replace c164 : ¬ 0 = 0 := fun z => c164 ((nI_eq (a := 0) (b := 0) (by omega) (by omega)).mpr z)
              exact absurd c164 (by omega)
      · skip
        refine lv_iload_n S.1 S.2.1 d_SF_isRefused_11 rfl (lv_at hl 1 rfl) ?_
        refine lv_bipush (v := nI 9) S.1 S.2.1 d_SF_isRefused_12 (by decide) ?_
        refine lv_icmp_eq (tgt := 29) S.1 S.2.1 d_SF_isRefused_14 (by decide) (fun c171 => ?_) (fun c171 => ?_)
        · skip
          replace c171 : 9 = 9 := (nI_eq (a := 9) (b := 9) (by omega) (by omega)).mp c171
          refine lv_iload_n S.1 S.2.1 d_SF_isRefused_29 rfl (lv_at hl 1 rfl) ?_
          refine lv_bipush (v := nI 6) S.1 S.2.1 d_SF_isRefused_30 (by decide) ?_
          refine lv_icmp_eq (tgt := 41) S.1 S.2.1 d_SF_isRefused_32 (by decide) (fun c172 => ?_) (fun c172 => ?_)
          · skip
            replace c172 : 9 = 6 := (nI_eq (a := 9) (b := 6) (by omega) (by omega)).mp c172
            exact absurd c172 (by omega)
          · skip
            replace c172 : ¬ 9 = 6 := fun z => c172 ((nI_eq (a := 9) (b := 6) (by omega) (by omega)).mpr z)
            refine lv_iload_n S.1 S.2.1 d_SF_isRefused_35 rfl (lv_at hl 1 rfl) ?_
            refine lv_bipush (v := nI 7) S.1 S.2.1 d_SF_isRefused_36 (by decide) ?_
            refine lv_icmp_ne (tgt := 53) S.1 S.2.1 d_SF_isRefused_38 (by decide) (fun c173 => ?_) (fun c173 => ?_)
            · skip
              replace c173 : ¬ 9 = 7 := fun z => c173 ((nI_eq (a := 9) (b := 7) (by omega) (by omega)).mpr z)
              refine lv_iload_n S.1 S.2.1 d_SF_isRefused_53 rfl (lv_at hl 1 rfl) ?_
              refine lv_iconst (v := nI 1) S.1 S.2.1 d_SF_isRefused_54 (by decide) ?_
              refine lv_icmp_eq (tgt := 68) S.1 S.2.1 d_SF_isRefused_55 (by decide) (fun c174 => ?_) (fun c174 => ?_)
              · skip
                replace c174 : 9 = 1 := (nI_eq (a := 9) (b := 1) (by omega) (by omega)).mp c174
                exact absurd c174 (by omega)
              · skip
                replace c174 : ¬ 9 = 1 := fun z => c174 ((nI_eq (a := 9) (b := 1) (by omega) (by omega)).mpr z)
                refine lv_iload_n S.1 S.2.1 d_SF_isRefused_58 rfl (lv_at hl 1 rfl) ?_
                refine lv_iconst (v := nI 3) S.1 S.2.1 d_SF_isRefused_59 (by decide) ?_
                refine lv_icmp_eq (tgt := 68) S.1 S.2.1 d_SF_isRefused_60 (by decide) (fun c175 => ?_) (fun c175 => ?_)
                · skip
                  replace c175 : 9 = 3 := (nI_eq (a := 9) (b := 3) (by omega) (by omega)).mp c175
                  exact absurd c175 (by omega)
                · skip
                  replace c175 : ¬ 9 = 3 := fun z => c175 ((nI_eq (a := 9) (b := 3) (by omega) (by omega)).mpr z)
                  refine lv_iload_n S.1 S.2.1 d_SF_isRefused_63 rfl (lv_at hl 1 rfl) ?_
                  refine lv_iconst (v := nI 4) S.1 S.2.1 d_SF_isRefused_64 (by decide) ?_
                  refine lv_icmp_ne (tgt := 80) S.1 S.2.1 d_SF_isRefused_65 (by decide) (fun c176 => ?_) (fun c176 => ?_)
                  · skip
                    replace c176 : ¬ 9 = 4 := fun z => c176 ((nI_eq (a := 9) (b := 4) (by omega) (by omega)).mpr z)
                    refine lv_iload_n S.1 S.2.1 d_SF_isRefused_80 rfl (lv_at hl 1 rfl) ?_
                    refine lv_iconst (v := nI 4) S.1 S.2.1 d_SF_isRefused_81 (by decide) ?_
                    refine lv_icmp_ne (tgt := 99) S.1 S.2.1 d_SF_isRefused_82 (by decide) (fun c177 => ?_) (fun c177 => ?_)
                    · skip
                      replace c177 : ¬ 9 = 4 := fun z => c177 ((nI_eq (a := 9) (b := 4) (by omega) (by omega)).mpr z)
                      refine lv_iconst (v := nI 0) S.1 S.2.1 d_SF_isRefused_99 (by decide) ?_
                      exact gr_z S hr hlk hI (by first | exact Or.inl rfl | exact Or.inr rfl) (⟨Or.inr ⟨aRef_no (by decide) (fun z => absurd rfl z) (fun z => absurd z (by decide)) (fun z => absurd z (by decide)) (fun z => absurd z (by decide)), rfl⟩, rfl⟩) d_SF_isRefused_100
                    · skip
                      replace c177 : 9 = 4 := (nI_eq (a := 9) (b := 4) (by omega) (by omega)).mp c177
                      exact absurd c177 (by omega)
                  · skip
                    replace c176 : 9 = 4 := (nI_eq (a := 9) (b := 4) (by omega) (by omega)).mp c176
                    exact absurd c176 (by omega)
            · skip
              replace c173 : 9 = 7 := (nI_eq (a := 9) (b := 7) (by omega) (by omega)).mp c173
              exact absurd c173 (by omega)
        · skip
          replace c171 : ¬ 9 = 9 := fun z => c171 ((nI_eq (a := 9) (b := 9) (by omega) (by omega)).mpr z)
          exact absurd c171 (by omega)
    · skip
      replace c21 : 1 = 0 := (nI_eq (a := 1) (b := 0) (by omega) (by omega)).mp c21
      exact absurd c21 (by omega)
  · rw [show (if ¬ kd < 0 ∧ kd ≤ nI 9 then nI 1 else nI 0 : Int32) = nI 0 from if_neg hc20]
    refine lv_if_ne (tgt := 11) S.1 S.2.1 d_SF_isRefused_6 (by decide) (fun c178 => ?_) (fun c178 => ?_)
    · skip
      replace c178 : ¬ 0 = 0 := fun z => c178 ((nI_eq (a := 0) (b := 0) (by omega) (by omega)).mpr z)
      exact absurd c178 (by omega)
    · skip
      replace c178 : 0 = 0 := (nI_eq (a := 0) (b := 0) (by omega) (by omega)).mp c178
      refine lv_iconst (v := nI 1) S.1 S.2.1 d_SF_isRefused_9 (by decide) ?_
      exact gr_z S hr hlk hI (by first | exact Or.inl rfl | exact Or.inr rfl) (⟨Or.inl ⟨Or.inl (Classical.byContradiction fun z => hc20 ⟨fun q => z (Or.inl q), Int32.not_lt.mp (fun q => z (Or.inr q))⟩), rfl⟩, rfl⟩) d_SF_isRefused_10
set_option maxHeartbeats 4000000 in
set_option maxRecDepth 100000 in
theorem c_SF_makeFile (l : Launch) (P : gPar) (f : gM) {a : Nat} {st : ASt} {V : Nat → Prop} (h : gSF P f a (aIn st)) (hV : gUo f V) (hVa : ∀ c, V c → a + 14 ≤ c) : gC l P y_SF_makeFile b_SF_makeFile 2 (some .int) 7 5 526 [.ref a, .int (nI st.2.2.2.2.1)] f (gQi P (fun r f1 => r = (oMake st).1 ∧ gSF P f1 a (aAft st (oMake st)) ∧ gFU f f1 V)) := by
  refine gC_of (by decide) (Nat.le_of_ble_eq_true rfl) (fun p env s m args below meth c S hr hlk hnm H locs hI ls hl => ?_)
  have hl : lv_has ls 2 [(0, .ref a), (1, .int (nI st.2.2.2.2.1))] := hl
  have hz0 := gB_z hI
  have h34 := gX_34 hI.1
  have h0 : f a = some (.inr (0, [.ref (a + 1), .ref (a + 3), .ref (a + 5), .ref (a + 7), .ref (a + 9), .int (nI (st.2.2.2.2.1 + 1))])) := h.1
  obtain ⟨gt, t1, t2, t3, t4, t5⟩ := h.2.1
  replace t1 : f (a + 1) = some (.inr (1, [.ref (a + 2), .int (nI st.1.length)])) := t1
  replace t2 : f (a + 2) = some (.inl (P.2.1 0, 2048, .inl gt)) := t2
  replace t3 : st.1.length ≤ 2048 := t3
  replace t5 : nmL st.1.length gt = st.1 := t5
  obtain ⟨gn, n1, n2, n3, n4, n5⟩ := h.2.2.1
  replace n1 : f (a + 3) = some (.inr (1, [.ref (a + 4), .int (nI st.2.1.length)])) := n1
  replace n2 : f (a + 4) = some (.inl (P.2.1 0, 200, .inl gn)) := n2
  replace n3 : st.2.1.length ≤ 200 := n3
  replace n5 : nmL st.2.1.length gn = st.2.1 := n5
  obtain ⟨gm, m1, m2, m3, m4, m5⟩ := h.2.2.2.1
  replace m1 : f (a + 5) = some (.inr (1, [.ref (a + 6), .int (nI st.2.2.1.length)])) := m1
  replace m2 : f (a + 6) = some (.inl (P.2.1 0, 200, .inl gm)) := m2
  replace m3 : st.2.2.1.length ≤ 200 := m3
  replace m5 : nmL st.2.2.1.length gm = st.2.2.1 := m5
  obtain ⟨gd, d1, d2, d3, d4, d5⟩ := h.2.2.2.2.1
  replace d1 : f (a + 7) = some (.inr (1, [.ref (a + 8), .int (nI 0)])) := d1
  replace d2 : f (a + 8) = some (.inl (P.2.1 0, 2048, .inl gd)) := d2
  obtain ⟨ow, L, SF, SP, e1, c1, e2, c2, e3, c3, af, s1, s2, s3⟩ := h.2.2.2.2.2
  replace s2 : L.map af = st.2.2.2.2.2 := s2
  have hlL : L.length ≤ 48 := by have := s1.2.2.2.2.2.2.2.2.1; omega
  have hfx : nms af L = fN st.2.2.2.2.2 := by rw [← s2, fN_L]
  have hlF : st.2.2.2.2.2.length = L.length := by rw [← s2, List.length_map]
  have hndL := (List.nodup_append.mp s1.2.2.2.2.2.2.2.1).1
  have hUo := h.uo hV
  have hfB : fB st.2.2.2.2.2 = sumB af L := by rw [← s2, fB_L]
  refine lv_aload_n S.1 S.2.1 d_SF_makeFile_0 rfl (lv_at hl 0 rfl) ?_
  refine gh_get S hI h0 rfl i_SF 4 (by decide) wi_74 rfl d_SF_makeFile_1 ?_
  refine lv_aload_n S.1 S.2.1 d_SF_makeFile_4 rfl (lv_at hl 0 rfl) ?_
  refine gh_get S hI h0 rfl i_SF 1 (by decide) wi_71 rfl d_SF_makeFile_5 ?_
  refine gc_Vq S hI (c_Shelf_find l P f s1 n1 n2 n3 (by omega)) kv_Shelf_find wi_128 s1.1 rfl rfl rfl hl.1 rfl (Nat.le_of_ble_eq_true rfl) ⟨Nat.le_of_ble_eq_true rfl, Nat.le_of_ble_eq_true rfl⟩ ⟨Nat.le_of_ble_eq_true rfl, Nat.le_of_ble_eq_true rfl⟩ d_SF_makeFile_8 (fun r179 f180 H locs hp181 hI => ?_)
  obtain ⟨hp1, hp2⟩ := hp181
  rw [hp2] at hI
  rw [hfx, n5] at hp1
  rcases hix : idx (fN st.2.2.2.2.2) st.2.1 with _ | k
  · skip
    replace hp1 : r179 = none := by rw [hp1, hix]; rfl
    rw [show va_rf r179 = .null from by rw [hp1]; rfl]
    refine lv_ifnullN (tgt := 17) S.1 S.2.1 d_SF_makeFile_11 (by decide) ?_
    refine lv_aload_n S.1 S.2.1 d_SF_makeFile_17 rfl (lv_at hl 0 rfl) ?_
    refine gh_get S hI h0 rfl i_SF 4 (by decide) wi_74 rfl d_SF_makeFile_18 ?_
    refine gc_Vi S hI (c_Shelf_isFull l P f s1) kv_Shelf_isFull wi_175 s1.1 rfl rfl rfl hl.1 rfl (Nat.le_of_ble_eq_true rfl) ⟨Nat.le_of_ble_eq_true rfl, Nat.le_of_ble_eq_true rfl⟩ ⟨Nat.le_of_ble_eq_true rfl, Nat.le_of_ble_eq_true rfl⟩ d_SF_makeFile_21 (fun r182 f183 H locs hp184 hI => ?_)
    obtain ⟨hp1, hp2⟩ := hp184
    subst hp1
    rw [hp2] at hI
    by_cases hc185 : 48 ≤ L.length
    · rw [show (if 48 ≤ L.length then nI 1 else nI 0 : Int32) = nI 1 from if_pos hc185]
      refine lv_if_eq (tgt := 30) S.1 S.2.1 d_SF_makeFile_24 (by decide) (fun c186 => ?_) (fun c186 => ?_)
      · skip
        replace c186 : 1 = 0 := (nI_eq (a := 1) (b := 0) (by omega) (by omega)).mp c186
        exact absurd c186 (by omega)
      · skip
        replace c186 : ¬ 1 = 0 := fun z => c186 ((nI_eq (a := 1) (b := 0) (by omega) (by omega)).mpr z)
        refine lv_bipush (v := (-4)) S.1 S.2.1 d_SF_makeFile_27 (by decide) ?_
        refine W.widen (k := 5) (n := 526) (by omega) (by omega) ?_
        exact gr_i S hr hlk hI (by rw [oMake_n hix, if_pos (by omega)]; exact ⟨rfl, h, gFU.rf⟩) d_SF_makeFile_29
    · rw [show (if 48 ≤ L.length then nI 1 else nI 0 : Int32) = nI 0 from if_neg hc185]
      refine lv_if_eq (tgt := 30) S.1 S.2.1 d_SF_makeFile_24 (by decide) (fun c187 => ?_) (fun c187 => ?_)
      · skip
        replace c187 : 0 = 0 := (nI_eq (a := 0) (b := 0) (by omega) (by omega)).mp c187
        refine lv_aload_n S.1 S.2.1 d_SF_makeFile_30 rfl (lv_at hl 0 rfl) ?_
        refine gh_get S hI h0 rfl i_SF 4 (by decide) wi_74 rfl d_SF_makeFile_31 ?_
        refine lv_aload_n S.1 S.2.1 d_SF_makeFile_34 rfl (lv_at hl 0 rfl) ?_
        refine gh_get S hI h0 rfl i_SF 1 (by decide) wi_71 rfl d_SF_makeFile_35 ?_
        refine lv_iload_n S.1 S.2.1 d_SF_makeFile_38 rfl (lv_at hl 1 rfl) ?_
        refine gc_Vr S hI (c_Shelf_make l P f (U := gUS a V) (idv := nI st.2.2.2.2.1) s1 n1 n2 n3 (by omega) hUo (Or.inl ⟨by omega, by omega⟩) (Or.inl ⟨by omega, by omega⟩) n4 n3 (by omega)) kv_Shelf_make wi_179 s1.1 rfl rfl rfl hl.1 rfl (Nat.le_of_ble_eq_true rfl) ⟨Nat.le_of_ble_eq_true rfl, Nat.le_of_ble_eq_true rfl⟩ ⟨Nat.le_of_ble_eq_true rfl, Nat.le_of_ble_eq_true rfl⟩ d_SF_makeFile_39 (fun r188 f189 H locs hp190 hI => ?_)
        obtain ⟨SF1, e1v, c1v, k1, k2, k3⟩ := hp190
        rw [hfx, n5] at k1
        have hpl : plc (fN st.2.2.2.2.2) st.2.1 ≤ L.length := by rw [← hlF]; have := plc_le (fN st.2.2.2.2.2) st.2.1; rw [show (fN st.2.2.2.2.2).length = st.2.2.2.2.2.length by simp [fN]] at this; exact this
        have hs : gFS P f189 (a + 9) (fIns st.2.2.2.2.2 (fNew st.2.1 (nI st.2.2.2.2.1))) := ⟨ow, _, SF1, SP, e1v, c1v, e2, c2, e3, c3, _, k1, by rw [map_ins_up k2, s2]; rfl, by unfold sumC; rw [sumG_ins (G := fun w => cntL w.2.2.2.1 19) k2 hpl]; rw [show cntL (fun _ => false) 19 = 0 from rfl]; unfold sumC at s3; omega⟩
        refine lv_pop S.1 S.2.1 d_SF_makeFile_42 rfl ?_
        refine lv_iconst (v := nI 0) S.1 S.2.1 d_SF_makeFile_43 (by decide) ?_
        exact gr_i S hr hlk hI (by rw [oMake_n hix, if_neg (by omega)]; exact ⟨rfl, gSF.sh h k3 hs⟩) d_SF_makeFile_44
      · skip
        replace c187 : ¬ 0 = 0 := fun z => c187 ((nI_eq (a := 0) (b := 0) (by omega) (by omega)).mpr z)
        exact absurd c187 (by omega)
  · skip
    obtain ⟨x, hx1, hx2, hx3⟩ := idx_get (af := af) (L := L) (nm := st.2.1) (k := k) (by rw [hfx]; exact hix)
    replace hp1 : r179 = some x := by rw [hp1, hix]; exact hx1
    have hgD : st.2.2.2.2.2.getD k (fNew [] 0) = af x := by rw [← s2]; exact getD_map hx1
    have xfi := (s1.2.2.2.2.2.1 x hx3).1
    have xw := (s1.2.2.2.2.2.1 x hx3).2
    obtain ⟨nx, gx, psx, x0, x1, x2, x3, x4, x5, x6, x7⟩ := id xfi
    rw [show va_rf r179 = .ref x from by rw [hp1]; rfl]
    refine lv_ifnull S.1 S.2.1 d_SF_makeFile_11 ?_
    refine lv_bipush (v := (-3)) S.1 S.2.1 d_SF_makeFile_14 (by decide) ?_
    refine W.widen (k := 5) (n := 526) (by omega) (by omega) ?_
    exact gr_i S hr hlk hI (by rw [oMake_s hix]; exact ⟨rfl, h, gFU.rf⟩) d_SF_makeFile_16
set_option maxHeartbeats 4000000 in
set_option maxRecDepth 100000 in
theorem c_SF_writeTape1 (l : Launch) (P : gPar) (f : gM) {a : Nat} {st : ASt} {V : Nat → Prop} {an : Nat} (h : gSF P f a (aIn st)) (hV : gUo f V) (hVa : ∀ c, V c → a + 14 ≤ c) (hAn : an ≤ 8192) : gC l P y_SF_writeTape b_SF_writeTape 11 (some .int) 7 43 9057 [.ref a, .int (nI 1), .int (nI an), .int (nI st.2.2.2.2.1)] f (gQi P (fun r f1 => r = (oWrite st false an).1 ∧ gSF P f1 a (aAft st (oWrite st false an)) ∧ gFU f f1 V)) := by
  refine gC_of (by decide) (Nat.le_of_ble_eq_true rfl) (fun p env s m args below meth c S hr hlk hnm H locs hI ls hl => ?_)
  have hl : lv_has ls 11 [(0, .ref a), (1, .int (nI 1)), (2, .int (nI an)), (3, .int (nI st.2.2.2.2.1))] := hl
  have hz0 := gB_z hI
  have h34 := gX_34 hI.1
  have h0 : f a = some (.inr (0, [.ref (a + 1), .ref (a + 3), .ref (a + 5), .ref (a + 7), .ref (a + 9), .int (nI (st.2.2.2.2.1 + 1))])) := h.1
  obtain ⟨gt, t1, t2, t3, t4, t5⟩ := h.2.1
  replace t1 : f (a + 1) = some (.inr (1, [.ref (a + 2), .int (nI st.1.length)])) := t1
  replace t2 : f (a + 2) = some (.inl (P.2.1 0, 2048, .inl gt)) := t2
  replace t3 : st.1.length ≤ 2048 := t3
  replace t5 : nmL st.1.length gt = st.1 := t5
  obtain ⟨gn, n1, n2, n3, n4, n5⟩ := h.2.2.1
  replace n1 : f (a + 3) = some (.inr (1, [.ref (a + 4), .int (nI st.2.1.length)])) := n1
  replace n2 : f (a + 4) = some (.inl (P.2.1 0, 200, .inl gn)) := n2
  replace n3 : st.2.1.length ≤ 200 := n3
  replace n5 : nmL st.2.1.length gn = st.2.1 := n5
  obtain ⟨gm, m1, m2, m3, m4, m5⟩ := h.2.2.2.1
  replace m1 : f (a + 5) = some (.inr (1, [.ref (a + 6), .int (nI st.2.2.1.length)])) := m1
  replace m2 : f (a + 6) = some (.inl (P.2.1 0, 200, .inl gm)) := m2
  replace m3 : st.2.2.1.length ≤ 200 := m3
  replace m5 : nmL st.2.2.1.length gm = st.2.2.1 := m5
  obtain ⟨gd, d1, d2, d3, d4, d5⟩ := h.2.2.2.2.1
  replace d1 : f (a + 7) = some (.inr (1, [.ref (a + 8), .int (nI 0)])) := d1
  replace d2 : f (a + 8) = some (.inl (P.2.1 0, 2048, .inl gd)) := d2
  obtain ⟨ow, L, SF, SP, e1, c1, e2, c2, e3, c3, af, s1, s2, s3⟩ := h.2.2.2.2.2
  replace s2 : L.map af = st.2.2.2.2.2 := s2
  have hlL : L.length ≤ 48 := by have := s1.2.2.2.2.2.2.2.2.1; omega
  have hfx : nms af L = fN st.2.2.2.2.2 := by rw [← s2, fN_L]
  have hlF : st.2.2.2.2.2.length = L.length := by rw [← s2, List.length_map]
  have hndL := (List.nodup_append.mp s1.2.2.2.2.2.2.2.1).1
  have hUo := h.uo hV
  have hfB : fB st.2.2.2.2.2 = sumB af L := by rw [← s2, fB_L]
  have tl : ∀ (fj : gM) (FS' : List AFile) (ans : Int32), gSF P fj a (st.1, st.2.1, st.2.2.1, [], st.2.2.2.2.1 + 1, FS') → gFU f fj V → oWrite st false an = (ans, [], [], FS') → ∀ (H : Heap) (locs : List Loc), gB P fj s H locs → ∀ ls : Array Slot, lv_has ls 11 [(0, .ref a), (9, .int ans)] → W p l env (grm 7 43 9057) s m args below meth c H locs 43 9057 (MQ below (gQi P (fun r f1 => r = (oWrite st false an).1 ∧ gSF P f1 a (aAft st (oWrite st false an)) ∧ gFU f f1 V)) args s 43 9057 (gA P)) (F0 m 163 ls []) := by
    intro fj FS' ans hj hFj hO H locs hI ls hl
    have hzj := gB_z hI
    have jh0 : fj a = some (.inr (0, [.ref (a + 1), .ref (a + 3), .ref (a + 5), .ref (a + 7), .ref (a + 9), .int (nI (st.2.2.2.2.1 + 1))])) := hj.1
    obtain ⟨gjt, jt1, jt2, jt3, jt4, jt5⟩ := hj.2.1
    replace jt1 : fj (a + 1) = some (.inr (1, [.ref (a + 2), .int (nI st.1.length)])) := jt1
    replace jt2 : fj (a + 2) = some (.inl (P.2.1 0, 2048, .inl gjt)) := jt2
    replace jt3 : st.1.length ≤ 2048 := jt3
    replace jt5 : nmL st.1.length gjt = st.1 := jt5
    refine lv_aload_n S.1 S.2.1 d_SF_writeTape_163 rfl (lv_at hl 0 rfl) ?_
    refine gh_get S hI jh0 rfl i_SF 0 (by decide) wi_70 rfl d_SF_writeTape_164 ?_
    refine lv_iconst (v := nI 0) S.1 S.2.1 d_SF_writeTape_167 (by decide) ?_
    refine gc_Vv S hI (c_Row_shorten l P fj (k := 0) jt1) kv_Row_shorten wi_95 jt1 rfl rfl rfl hl.1 rfl (Nat.le_of_ble_eq_true rfl) ⟨Nat.le_of_ble_eq_true rfl, Nat.le_of_ble_eq_true rfl⟩ ⟨by show _ ≤ 43; omega, by show _ ≤ 9057; omega⟩ d_SF_writeTape_168 (fun f192 H locs hp193 hI => ?_)
    have hfin := hj.sht (hV.to hFj) hVa hzj hp193
    refine lv_iload S.1 S.2.1 d_SF_writeTape_171 (lv_at hl 1 rfl) ?_
    exact gr_i S hr hlk hI (by rw [hO]; exact ⟨rfl, hfin.1, hFj.trans hfin.2⟩) d_SF_writeTape_173
  have wr : ∀ (fj : gM) (L' SF' : List Nat) (e1v c1v : Nat) (af' : Nat → AFile) (x bf fr at_ : Nat), gSh P fj ow (a + 9) L' SF' SP e1v c1v e2 c2 e3 c3 af' → x ∈ L' → gFU f fj (gUS a V) → SP.length + sumC af' L' ≤ 121 → (af' x).2.2.1 = bf → fr ≤ 8192 → at_ = (if st.1.length = 0 then bf else max bf (fr + st.1.length)) → at_ ≤ 8192 → sumB af' L' - bf + at_ ≤ 32768 → oWrite st false an = (nI st.1.length, [], [], L'.map (va_up af' x (fWr (af' x) fr st.1))) → ∀ (H : Heap) (locs : List Loc), gB P fj s H locs → ∀ ls : Array Slot, lv_has ls 11 [(0, .ref a), (6, .int (nI fr)), (10, .ref x)] → W p l env (grm 7 43 9057) s m args below meth c H locs 5 526 (MQ below (gQi P (fun r f1 => r = (oWrite st false an).1 ∧ gSF P f1 a (aAft st (oWrite st false an)) ∧ gFU f f1 V)) args s 43 9057 (gA P)) (F0 m 143 ls []) := by
    intro fj L' SF' e1v c1v af' x bf fr at_ j1 hxL hFj hj3 hbf hfr hat hat8 hat3 hO H locs hI ls hl
    have hzj := gB_z hI
    have hndj := (List.nodup_append.mp j1.2.2.2.2.2.2.2.1).1
    have hUj := hUo.to hFj
    have xfi := (j1.2.2.2.2.2.1 x hxL).1
    have xw := (j1.2.2.2.2.2.1 x hxL).2
    obtain ⟨nx, gx, psx, x0, x1, x2, x3, x4, x5, x6, x7⟩ := id xfi
    have jh0 := hFj a _ (Or.inl ⟨by omega, by omega⟩) h0
    have jt1 := hFj (a + 1) _ (Or.inl ⟨by omega, by omega⟩) t1
    have jt2 := hFj (a + 2) _ (Or.inl ⟨by omega, by omega⟩) t2
    refine lv_aload S.1 S.2.1 d_SF_writeTape_143 (lv_at hl 2 rfl) ?_
    refine lv_iload S.1 S.2.1 d_SF_writeTape_145 (lv_at hl 1 rfl) ?_
    refine lv_aload_n S.1 S.2.1 d_SF_writeTape_147 rfl (lv_at hl 0 rfl) ?_
    refine gh_get S hI jh0 rfl i_SF 0 (by decide) wi_70 rfl d_SF_writeTape_148 ?_
    have hfn : fr + st.1.length ≤ 8192 := by
      by_cases c : st.1.length = 0
      · omega
      · rw [if_neg c] at hat; omega
    refine gc_Vv S hI (c_File_write l P fj x0 x3 x7 j1.2.2.2.1 (by omega) jt1 jt2 t3 (by omega) t4 hfn xw.1 xw.2.2.2) kv_File_write wi_278 x0 rfl rfl rfl hl.1 rfl (Nat.le_of_ble_eq_true rfl) ⟨Nat.le_of_ble_eq_true rfl, Nat.le_of_ble_eq_true rfl⟩ ⟨by show _ ≤ 43; omega, by show _ ≤ 9057; omega⟩ d_SF_writeTape_151 (fun f195 H locs hp196 hI => ?_)
    obtain ⟨ow1, ps1, SP1, q0, q3, q4, q5, q6, q7, q8⟩ := hp196
    rw [wC_lF, t5] at q5
    have hwf : wfF (if st.1.length = 0 then (af' x).2.2.1 else max (af' x).2.2.1 (fr + st.1.length)) (wl (af' x).2.2.2.1 fr st.1.length) (wC (af' x).2.2.2.2 (lF st.1) fr st.1.length) := wfF_wr xw (by rw [hbf, ← hat]; exact hat8)
    have hS1 : gSh P f195 ow1 (a + 9) L' SF' SP1 e1v c1v e2 c2 e3 c3 (va_up af' x (fWr (af' x) fr st.1)) := j1.file h34 hzj hxL x0 x1 x2 x3 x4 x5 x6 x7 q0 q3 q4 q5 q6 hwf
    have hFU1 : gFU f f195 (gUS a V) := hFj.trans (hUj.rel xfi x7 j1.2.2.2.1 hzj q6)
    have hcnt : SP1.length + sumC (va_up af' x (fWr (af' x) fr st.1)) L' ≤ 121 := by
      rcases q7 with z | z
      · exact cnt_file hndj hxL hj3 z
      · rw [z, List.length_nil, Nat.zero_add]
        refine sumC_121 (fun q hq => (hS1.2.2.2.2.2.1 q hq).2) ?_ (by have := hS1.2.2.2.2.2.2.2.2.1; omega)
        have hb1 := bytes_file (af := af') (v := fWr (af' x) fr st.1) hndj hxL
        have hb2 : (fWr (af' x) fr st.1).2.2.1 = at_ := by rw [hat, ← hbf]; rfl
        have hb3 : (af' x).2.2.1 ≤ sumB af' L' := sum_mem (fun q => (af' q).2.2.1) hxL
        omega
    have hfin := gSF.sh h hFU1 ⟨ow1, L', SF', SP1, e1v, c1v, e2, c2, e3, c3, _, hS1, rfl, hcnt⟩
    have kh0 := hFU1 a _ (Or.inl ⟨by omega, by omega⟩) h0
    have kt1 := hFU1 (a + 1) _ (Or.inl ⟨by omega, by omega⟩) t1
    refine lv_aload_n S.1 S.2.1 d_SF_writeTape_154 rfl (lv_at hl 0 rfl) ?_
    refine gh_get S hI kh0 rfl i_SF 0 (by decide) wi_70 rfl d_SF_writeTape_155 ?_
    refine gc_Vi S hI (c_Row_length l P f195 kt1) kv_Row_length wi_80 kt1 rfl rfl rfl hl.1 rfl (Nat.le_of_ble_eq_true rfl) ⟨Nat.le_of_ble_eq_true rfl, Nat.le_of_ble_eq_true rfl⟩ ⟨by show _ ≤ 43; omega, by show _ ≤ 9057; omega⟩ d_SF_writeTape_158 (fun r197 f198 H locs hp199 hI => ?_)
    obtain ⟨hp1, hp2⟩ := hp199
    subst hp1
    rw [hp2] at hI
    refine lv_istore (lv' := [(9, .int (nI st.1.length)), (0, .ref a), (6, .int (nI fr)), (10, .ref x)]) S.1 S.2.1 d_SF_writeTape_161 hl (by decide) rfl (fun ls hl => ?_)
    exact tl f195 _ (nI st.1.length) hfin.1 hfin.2 hO _ _ hI _ (lv_sub hl [1, 0] rfl)
  refine lv_aload_n S.1 S.2.1 d_SF_writeTape_0 rfl (lv_at hl 0 rfl) ?_
  refine gh_get S hI h0 rfl i_SF 4 (by decide) wi_74 rfl d_SF_writeTape_1 ?_
  refine lv_aload_n S.1 S.2.1 d_SF_writeTape_4 rfl (lv_at hl 0 rfl) ?_
  refine gh_get S hI h0 rfl i_SF 1 (by decide) wi_71 rfl d_SF_writeTape_5 ?_
  refine gc_Vq S hI (c_Shelf_find l P f s1 n1 n2 n3 (by omega)) kv_Shelf_find wi_128 s1.1 rfl rfl rfl hl.1 rfl (Nat.le_of_ble_eq_true rfl) ⟨Nat.le_of_ble_eq_true rfl, Nat.le_of_ble_eq_true rfl⟩ ⟨Nat.le_of_ble_eq_true rfl, Nat.le_of_ble_eq_true rfl⟩ d_SF_writeTape_8 (fun r200 f201 H locs hp202 hI => ?_)
  obtain ⟨hp1, hp2⟩ := hp202
  rw [hp2] at hI
  rw [hfx, n5] at hp1
  rcases hix : idx (fN st.2.2.2.2.2) st.2.1 with _ | k
  · skip
    replace hp1 : r200 = none := by rw [hp1, hix]; rfl
    rw [show va_rf r200 = .null from by rw [hp1]; rfl]
    refine lv_astoreN (lv' := [(4, .null), (0, .ref a), (1, .int (nI 1)), (2, .int (nI an)), (3, .int (nI st.2.2.2.2.1))]) S.1 S.2.1 d_SF_writeTape_11 hl (by decide) rfl (fun ls hl => ?_)
    refine lv_aloadN S.1 S.2.1 d_SF_writeTape_13 (lv_at hl 0 rfl) ?_
    refine lv_ifnonnullN S.1 S.2.1 d_SF_writeTape_15 ?_
    refine lv_iconst (v := nI 0) S.1 S.2.1 d_SF_writeTape_18 (by decide) ?_
    refine lv_goto (tgt := 27) S.1 S.2.1 d_SF_writeTape_19 (by decide) ?_
    refine lv_istore (lv' := [(5, .int (nI 0)), (4, .null), (0, .ref a), (1, .int (nI 1)), (2, .int (nI an)), (3, .int (nI st.2.2.2.2.1))]) S.1 S.2.1 d_SF_writeTape_27 hl (by decide) rfl (fun ls hl => ?_)
    refine lv_iload_n S.1 S.2.1 d_SF_writeTape_29 rfl (lv_at hl 3 rfl) ?_
    refine lv_iconst (v := nI 2) S.1 S.2.1 d_SF_writeTape_30 (by decide) ?_
    refine lv_icmp_ne (tgt := 39) S.1 S.2.1 d_SF_writeTape_31 (by decide) (fun c203 => ?_) (fun c203 => ?_)
    · skip
      replace c203 : ¬ 1 = 2 := fun z => c203 ((nI_eq (a := 1) (b := 2) (by omega) (by omega)).mpr z)
      refine lv_iload_n S.1 S.2.1 d_SF_writeTape_39 rfl (lv_at hl 4 rfl) ?_
      refine lv_istore (lv' := [(6, .int (nI an)), (5, .int (nI 0)), (4, .null), (0, .ref a), (1, .int (nI 1)), (2, .int (nI an)), (3, .int (nI st.2.2.2.2.1))]) S.1 S.2.1 d_SF_writeTape_40 hl (by decide) rfl (fun ls hl => ?_)
      have hfr8 : an ≤ 8192 := hAn
      have join : ∀ at_ : Nat, at_ = (if st.1.length = 0 then 0 else max 0 (an + st.1.length)) → ∀ (H : Heap) (locs : List Loc), gB P f s H locs → ∀ ls : Array Slot, lv_has ls 11 [(0, .ref a), (1, .int (nI 1)), (2, .int (nI an)), (3, .int (nI st.2.2.2.2.1)), (4, .null), (5, .int (nI 0)), (6, .int (nI an)), (7, .int (nI at_))] → W p l env (grm 7 43 9057) s m args below meth c H locs 0 0 (MQ below (gQi P (fun r f1 => r = (oWrite st false an).1 ∧ gSF P f1 a (aAft st (oWrite st false an)) ∧ gFU f f1 V)) args s 43 9057 (gA P)) (F0 m 74 ls []) := by
        intro at_ hat H locs hI ls hl
        have hat2 : at_ ≤ 10240 := by
          rw [hat]; have := t3; split <;> omega
        refine lv_aloadN S.1 S.2.1 d_SF_writeTape_74 (lv_at hl 4 rfl) ?_
        refine lv_ifnonnullN S.1 S.2.1 d_SF_writeTape_76 ?_
        refine lv_aload_n S.1 S.2.1 d_SF_writeTape_79 rfl (lv_at hl 0 rfl) ?_
        refine gh_get S hI h0 rfl i_SF 4 (by decide) wi_74 rfl d_SF_writeTape_80 ?_
        refine gc_Vi S hI (c_Shelf_isFull l P f s1) kv_Shelf_isFull wi_175 s1.1 rfl rfl rfl hl.1 rfl (Nat.le_of_ble_eq_true rfl) ⟨Nat.le_of_ble_eq_true rfl, Nat.le_of_ble_eq_true rfl⟩ ⟨Nat.le_of_ble_eq_true rfl, Nat.le_of_ble_eq_true rfl⟩ d_SF_writeTape_83 (fun r204 f205 H locs hp206 hI => ?_)
        obtain ⟨hp1, hp2⟩ := hp206
        subst hp1
        rw [hp2] at hI
        by_cases hc207 : 48 ≤ L.length
        · rw [show (if 48 ≤ L.length then nI 1 else nI 0 : Int32) = nI 1 from if_pos hc207]
          refine lv_if_ne (tgt := 93) S.1 S.2.1 d_SF_writeTape_86 (by decide) (fun c208 => ?_) (fun c208 => ?_)
          · skip
            replace c208 : ¬ 1 = 0 := fun z => c208 ((nI_eq (a := 1) (b := 0) (by omega) (by omega)).mpr z)
            refine lv_iconst (v := nI 0) S.1 S.2.1 d_SF_writeTape_93 (by decide) ?_
            refine lv_istore (lv' := [(8, .int (nI 0)), (0, .ref a), (1, .int (nI 1)), (2, .int (nI an)), (3, .int (nI st.2.2.2.2.1)), (4, .null), (5, .int (nI 0)), (6, .int (nI an)), (7, .int (nI at_))]) S.1 S.2.1 d_SF_writeTape_94 hl (by decide) rfl (fun ls hl => ?_)
            refine lv_bipush (v := (-4)) S.1 S.2.1 d_SF_writeTape_96 (by decide) ?_
            refine lv_istore (lv' := [(9, .int (-4)), (8, .int (nI 0)), (0, .ref a), (1, .int (nI 1)), (2, .int (nI an)), (3, .int (nI st.2.2.2.2.1)), (4, .null), (5, .int (nI 0)), (6, .int (nI an)), (7, .int (nI at_))]) S.1 S.2.1 d_SF_writeTape_98 hl (by decide) rfl (fun ls hl => ?_)
            refine lv_iload S.1 S.2.1 d_SF_writeTape_100 (lv_at hl 1 rfl) ?_
            refine lv_if_eq (tgt := 163) S.1 S.2.1 d_SF_writeTape_102 (by decide) (fun c209 => ?_) (fun c209 => ?_)
            · skip
              replace c209 : 0 = 0 := (nI_eq (a := 0) (b := 0) (by omega) (by omega)).mp c209
              refine W.widen (k := 43) (n := 9057) (by omega) (by omega) ?_
              exact tl f st.2.2.2.2.2 (-4) h gFU.rf (by rw [oWrite_n (fr := an) (at_ := at_) hix rfl (by rw [hat]; simp), if_neg (fun z => absurd z.1 (by omega))]) _ _ hI _ (lv_sub hl [2, 0] rfl)
            · skip
              replace c209 : ¬ 0 = 0 := fun z => c209 ((nI_eq (a := 0) (b := 0) (by omega) (by omega)).mpr z)
              exact absurd c209 (by omega)
          · skip
            replace c208 : 1 = 0 := (nI_eq (a := 1) (b := 0) (by omega) (by omega)).mp c208
            exact absurd c208 (by omega)
        · rw [show (if 48 ≤ L.length then nI 1 else nI 0 : Int32) = nI 0 from if_neg hc207]
          refine lv_if_ne (tgt := 93) S.1 S.2.1 d_SF_writeTape_86 (by decide) (fun c210 => ?_) (fun c210 => ?_)
          · skip
            replace c210 : ¬ 0 = 0 := fun z => c210 ((nI_eq (a := 0) (b := 0) (by omega) (by omega)).mpr z)
            exact absurd c210 (by omega)
          · skip
            replace c210 : 0 = 0 := (nI_eq (a := 0) (b := 0) (by omega) (by omega)).mp c210
            refine lv_iconst (v := nI 1) S.1 S.2.1 d_SF_writeTape_89 (by decide) ?_
            refine lv_goto (tgt := 94) S.1 S.2.1 d_SF_writeTape_90 (by decide) ?_
            refine lv_istore (lv' := [(8, .int (nI 1)), (0, .ref a), (1, .int (nI 1)), (2, .int (nI an)), (3, .int (nI st.2.2.2.2.1)), (4, .null), (5, .int (nI 0)), (6, .int (nI an)), (7, .int (nI at_))]) S.1 S.2.1 d_SF_writeTape_94 hl (by decide) rfl (fun ls hl => ?_)
            refine lv_bipush (v := (-4)) S.1 S.2.1 d_SF_writeTape_96 (by decide) ?_
            refine lv_istore (lv' := [(9, .int (-4)), (8, .int (nI 1)), (0, .ref a), (1, .int (nI 1)), (2, .int (nI an)), (3, .int (nI st.2.2.2.2.1)), (4, .null), (5, .int (nI 0)), (6, .int (nI an)), (7, .int (nI at_))]) S.1 S.2.1 d_SF_writeTape_98 hl (by decide) rfl (fun ls hl => ?_)
            refine lv_iload S.1 S.2.1 d_SF_writeTape_100 (lv_at hl 1 rfl) ?_
            refine lv_if_eq (tgt := 163) S.1 S.2.1 d_SF_writeTape_102 (by decide) (fun c211 => ?_) (fun c211 => ?_)
            · skip
              replace c211 : 1 = 0 := (nI_eq (a := 1) (b := 0) (by omega) (by omega)).mp c211
              exact absurd c211 (by omega)
            · skip
              replace c211 : ¬ 1 = 0 := fun z => c211 ((nI_eq (a := 1) (b := 0) (by omega) (by omega)).mpr z)
              refine lv_aload_n S.1 S.2.1 d_SF_writeTape_105 rfl (lv_at hl 2 rfl) ?_
              refine gh_get S hI h0 rfl i_SF 4 (by decide) wi_74 rfl d_SF_writeTape_106 ?_
              refine lv_iload S.1 S.2.1 d_SF_writeTape_109 (lv_at hl 7 rfl) ?_
              refine lv_iload S.1 S.2.1 d_SF_writeTape_111 (lv_at hl 9 rfl) ?_
              refine gc_Vi S hI (c_Shelf_hasRoom l P f (bf := 0) (at_ := at_) s1 (Nat.zero_le _) (by omega)) kv_Shelf_hasRoom wi_268 s1.1 rfl rfl rfl hl.1 rfl (Nat.le_of_ble_eq_true rfl) ⟨Nat.le_of_ble_eq_true rfl, Nat.le_of_ble_eq_true rfl⟩ ⟨Nat.le_of_ble_eq_true rfl, Nat.le_of_ble_eq_true rfl⟩ d_SF_writeTape_113 (fun r212 f213 H locs hp214 hI => ?_)
              obtain ⟨hp1, hp2⟩ := hp214
              subst hp1
              rw [hp2] at hI
              by_cases hc215 : at_ ≤ 8192 ∧ sumB af L - 0 + at_ ≤ 32768
              · rw [show (if at_ ≤ 8192 ∧ sumB af L - 0 + at_ ≤ 32768 then nI 1 else nI 0 : Int32) = nI 1 from if_pos hc215]
                refine lv_if_eq (tgt := 163) S.1 S.2.1 d_SF_writeTape_116 (by decide) (fun c216 => ?_) (fun c216 => ?_)
                · skip
                  replace c216 : 1 = 0 := (nI_eq (a := 1) (b := 0) (by omega) (by omega)).mp c216
                  exact absurd c216 (by omega)
                · skip
                  replace c216 : ¬ 1 = 0 := fun z => c216 ((nI_eq (a := 1) (b := 0) (by omega) (by omega)).mpr z)
                  refine lv_aloadN S.1 S.2.1 d_SF_writeTape_119 (lv_at hl 6 rfl) ?_
                  refine lv_ifnonnullN S.1 S.2.1 d_SF_writeTape_121 ?_
                  refine lv_aload_n S.1 S.2.1 d_SF_writeTape_124 rfl (lv_at hl 2 rfl) ?_
                  refine gh_get S hI h0 rfl i_SF 4 (by decide) wi_74 rfl d_SF_writeTape_125 ?_
                  refine lv_aload_n S.1 S.2.1 d_SF_writeTape_128 rfl (lv_at hl 2 rfl) ?_
                  refine gh_get S hI h0 rfl i_SF 1 (by decide) wi_71 rfl d_SF_writeTape_129 ?_
                  refine lv_iload_n S.1 S.2.1 d_SF_writeTape_132 rfl (lv_at hl 5 rfl) ?_
                  refine gc_Vr S hI (c_Shelf_make l P f (U := gUS a V) (idv := nI st.2.2.2.2.1) s1 n1 n2 n3 (by omega) hUo (Or.inl ⟨by omega, by omega⟩) (Or.inl ⟨by omega, by omega⟩) n4 n3 (by omega)) kv_Shelf_make wi_179 s1.1 rfl rfl rfl hl.1 rfl (Nat.le_of_ble_eq_true rfl) ⟨Nat.le_of_ble_eq_true rfl, Nat.le_of_ble_eq_true rfl⟩ ⟨by show _ ≤ 43; omega, by show _ ≤ 9057; omega⟩ d_SF_writeTape_133 (fun r217 f218 H locs hp219 hI => ?_)
                  obtain ⟨SF1, e1v, c1v, k1, k2, k3⟩ := hp219
                  rw [hfx, n5] at k1
                  have hpl : plc (fN st.2.2.2.2.2) st.2.1 ≤ L.length := by rw [← hlF]; have := plc_le (fN st.2.2.2.2.2) st.2.1; rw [show (fN st.2.2.2.2.2).length = st.2.2.2.2.2.length by simp [fN]] at this; exact this
                  refine lv_goto (tgt := 141) S.1 S.2.1 d_SF_writeTape_136 (by decide) ?_
                  refine lv_astore (lv' := [(10, .ref r217), (9, .int (-4)), (8, .int (nI 1)), (0, .ref a), (1, .int (nI 1)), (2, .int (nI an)), (3, .int (nI st.2.2.2.2.1)), (4, .null), (5, .int (nI 0)), (6, .int (nI an)), (7, .int (nI at_))]) S.1 S.2.1 d_SF_writeTape_141 hl (by decide) rfl (fun ls hl => ?_)
                  have hcn : SP.length + sumC (va_up af r217 (st.2.1, nI st.2.2.2.2.1, 0, (fun _ => false), (fun _ => 0))) (L.insertIdx (plc (fN st.2.2.2.2.2) st.2.1) r217) ≤ 121 := by unfold sumC; rw [sumG_ins (G := fun w => cntL w.2.2.2.1 19) k2 hpl]; rw [show cntL (fun _ => false) 19 = 0 from rfl]; unfold sumC at s3; omega
                  have hbn : sumB (va_up af r217 (st.2.1, nI st.2.2.2.2.1, 0, (fun _ => false), (fun _ => 0))) (L.insertIdx (plc (fN st.2.2.2.2.2) st.2.1) r217) = 0 + sumB af L := by unfold sumB; rw [sumG_ins (G := fun w => w.2.2.1) k2 hpl]
                  have hc9 := hc215.2
                  refine wr f218 _ SF1 e1v c1v _ r217 0 an at_ k1 ((mem_ins hpl).mpr (Or.inl rfl)) k3 hcn (by rw [va_up_self]) hfr8 hat hc215.1 (by rw [hbn]; omega) ?_ _ _ hI _ (lv_sub hl [3, 9, 0] rfl)
                  rw [oWrite_n (fr := an) (at_ := at_) hix rfl (by rw [hat]; simp), if_pos ⟨by omega, hc215.1, by rw [hfB]; omega⟩, va_up_self, va_up_up, map_ins_up k2, s2]
                  rfl
              · rw [show (if at_ ≤ 8192 ∧ sumB af L - 0 + at_ ≤ 32768 then nI 1 else nI 0 : Int32) = nI 0 from if_neg hc215]
                refine lv_if_eq (tgt := 163) S.1 S.2.1 d_SF_writeTape_116 (by decide) (fun c220 => ?_) (fun c220 => ?_)
                · skip
                  replace c220 : 0 = 0 := (nI_eq (a := 0) (b := 0) (by omega) (by omega)).mp c220
                  refine W.widen (k := 43) (n := 9057) (by omega) (by omega) ?_
                  exact tl f st.2.2.2.2.2 (-4) h gFU.rf (by rw [oWrite_n (fr := an) (at_ := at_) hix rfl (by rw [hat]; simp), if_neg (fun z => hc215 ⟨z.2.1, by rw [hfB] at z; omega⟩)]) _ _ hI _ (lv_sub hl [2, 0] rfl)
                · skip
                  replace c220 : ¬ 0 = 0 := fun z => c220 ((nI_eq (a := 0) (b := 0) (by omega) (by omega)).mpr z)
                  exact absurd c220 (by omega)
      refine lv_aload_n S.1 S.2.1 d_SF_writeTape_42 rfl (lv_at hl 3 rfl) ?_
      refine gh_get S hI h0 rfl i_SF 0 (by decide) wi_70 rfl d_SF_writeTape_43 ?_
      refine gc_Vi S hI (c_Row_isEmpty l P f t1 (by omega)) kv_Row_isEmpty wi_121 t1 rfl rfl rfl hl.1 rfl (Nat.le_of_ble_eq_true rfl) ⟨Nat.le_of_ble_eq_true rfl, Nat.le_of_ble_eq_true rfl⟩ ⟨Nat.le_of_ble_eq_true rfl, Nat.le_of_ble_eq_true rfl⟩ d_SF_writeTape_46 (fun r221 f222 H locs hp223 hI => ?_)
      obtain ⟨hp1, hp2⟩ := hp223
      subst hp1
      rw [hp2] at hI
      by_cases hc224 : st.1.length = 0
      · rw [show (if st.1.length = 0 then nI 1 else nI 0 : Int32) = nI 1 from if_pos hc224]
        refine lv_if_eq (tgt := 57) S.1 S.2.1 d_SF_writeTape_49 (by decide) (fun c225 => ?_) (fun c225 => ?_)
        · skip
          replace c225 : 1 = 0 := (nI_eq (a := 1) (b := 0) (by omega) (by omega)).mp c225
          exact absurd c225 (by omega)
        · skip
          replace c225 : ¬ 1 = 0 := fun z => c225 ((nI_eq (a := 1) (b := 0) (by omega) (by omega)).mpr z)
          refine lv_iload S.1 S.2.1 d_SF_writeTape_52 (lv_at hl 1 rfl) ?_
          refine lv_goto (tgt := 72) S.1 S.2.1 d_SF_writeTape_54 (by decide) ?_
          refine lv_istore (lv' := [(7, .int (nI 0)), (6, .int (nI an)), (5, .int (nI 0)), (4, .null), (0, .ref a), (1, .int (nI 1)), (2, .int (nI an)), (3, .int (nI st.2.2.2.2.1))]) S.1 S.2.1 d_SF_writeTape_72 hl (by decide) rfl (fun ls hl => ?_)
          exact join 0 (by rw [if_pos hc224]) _ _ hI _ (lv_sub hl [4, 5, 6, 7, 3, 2, 1, 0] rfl)
      · rw [show (if st.1.length = 0 then nI 1 else nI 0 : Int32) = nI 0 from if_neg hc224]
        refine lv_if_eq (tgt := 57) S.1 S.2.1 d_SF_writeTape_49 (by decide) (fun c226 => ?_) (fun c226 => ?_)
        · skip
          replace c226 : 0 = 0 := (nI_eq (a := 0) (b := 0) (by omega) (by omega)).mp c226
          refine lv_iload S.1 S.2.1 d_SF_writeTape_57 (lv_at hl 1 rfl) ?_
          refine lv_iload S.1 S.2.1 d_SF_writeTape_59 (lv_at hl 0 rfl) ?_
          refine lv_aload_n S.1 S.2.1 d_SF_writeTape_61 rfl (lv_at hl 3 rfl) ?_
          refine gh_get S hI h0 rfl i_SF 0 (by decide) wi_70 rfl d_SF_writeTape_62 ?_
          refine gc_Vi S hI (c_Row_length l P f t1) kv_Row_length wi_80 t1 rfl rfl rfl hl.1 rfl (Nat.le_of_ble_eq_true rfl) ⟨Nat.le_of_ble_eq_true rfl, Nat.le_of_ble_eq_true rfl⟩ ⟨Nat.le_of_ble_eq_true rfl, Nat.le_of_ble_eq_true rfl⟩ d_SF_writeTape_65 (fun r227 f228 H locs hp229 hI => ?_)
          obtain ⟨hp1, hp2⟩ := hp229
          subst hp1
          rw [hp2] at hI
          have xw9 : 0 ≤ 8192 := by omega
          refine lv_iadd S.1 S.2.1 d_SF_writeTape_68 ?_
          refine lv_topi (fun v230 ev230 => ?_)
          replace ev230 : v230 = nI (an + st.1.length) := ev230.trans (nI_add _ _)
          subst ev230
          refine gc_max S wi_267 hl.1 d_SF_writeTape_69 (by omega) (by omega) (Nat.le_of_ble_eq_true rfl) (Nat.le_of_ble_eq_true rfl) (Nat.le_of_ble_eq_true rfl) (Nat.le_of_ble_eq_true rfl) ?_
          refine lv_istore (lv' := [(7, .int (nI (max 0 (an + st.1.length)))), (6, .int (nI an)), (5, .int (nI 0)), (4, .null), (0, .ref a), (1, .int (nI 1)), (2, .int (nI an)), (3, .int (nI st.2.2.2.2.1))]) S.1 S.2.1 d_SF_writeTape_72 hl (by decide) rfl (fun ls hl => ?_)
          exact join (max 0 (an + st.1.length)) (by rw [if_neg hc224]) _ _ hI _ (lv_sub hl [4, 5, 6, 7, 3, 2, 1, 0] rfl)
        · skip
          replace c226 : ¬ 0 = 0 := fun z => c226 ((nI_eq (a := 0) (b := 0) (by omega) (by omega)).mpr z)
          exact absurd c226 (by omega)
    · skip
      replace c203 : 1 = 2 := (nI_eq (a := 1) (b := 2) (by omega) (by omega)).mp c203
      exact absurd c203 (by omega)
  · skip
    obtain ⟨x, hx1, hx2, hx3⟩ := idx_get (af := af) (L := L) (nm := st.2.1) (k := k) (by rw [hfx]; exact hix)
    replace hp1 : r200 = some x := by rw [hp1, hix]; exact hx1
    have hgD : st.2.2.2.2.2.getD k (fNew [] 0) = af x := by rw [← s2]; exact getD_map hx1
    have xfi := (s1.2.2.2.2.2.1 x hx3).1
    have xw := (s1.2.2.2.2.2.1 x hx3).2
    obtain ⟨nx, gx, psx, x0, x1, x2, x3, x4, x5, x6, x7⟩ := id xfi
    rw [show va_rf r200 = .ref x from by rw [hp1]; rfl]
    refine lv_astore (lv' := [(4, .ref x), (0, .ref a), (1, .int (nI 1)), (2, .int (nI an)), (3, .int (nI st.2.2.2.2.1))]) S.1 S.2.1 d_SF_writeTape_11 hl (by decide) rfl (fun ls hl => ?_)
    refine lv_aload S.1 S.2.1 d_SF_writeTape_13 (lv_at hl 0 rfl) ?_
    refine lv_ifnonnull (tgt := 22) S.1 S.2.1 d_SF_writeTape_15 (by decide) ?_
    refine lv_aload S.1 S.2.1 d_SF_writeTape_22 (lv_at hl 0 rfl) ?_
    refine gc_Vi S hI (c_File_length l P f x0) kv_File_length wi_263 x0 rfl rfl rfl hl.1 rfl (Nat.le_of_ble_eq_true rfl) ⟨Nat.le_of_ble_eq_true rfl, Nat.le_of_ble_eq_true rfl⟩ ⟨Nat.le_of_ble_eq_true rfl, Nat.le_of_ble_eq_true rfl⟩ d_SF_writeTape_24 (fun r231 f232 H locs hp233 hI => ?_)
    obtain ⟨hp1, hp2⟩ := hp233
    subst hp1
    rw [hp2] at hI
    refine lv_istore (lv' := [(5, .int (nI ((af x).2.2.1))), (4, .ref x), (0, .ref a), (1, .int (nI 1)), (2, .int (nI an)), (3, .int (nI st.2.2.2.2.1))]) S.1 S.2.1 d_SF_writeTape_27 hl (by decide) rfl (fun ls hl => ?_)
    refine lv_iload_n S.1 S.2.1 d_SF_writeTape_29 rfl (lv_at hl 3 rfl) ?_
    refine lv_iconst (v := nI 2) S.1 S.2.1 d_SF_writeTape_30 (by decide) ?_
    refine lv_icmp_ne (tgt := 39) S.1 S.2.1 d_SF_writeTape_31 (by decide) (fun c234 => ?_) (fun c234 => ?_)
    · skip
      replace c234 : ¬ 1 = 2 := fun z => c234 ((nI_eq (a := 1) (b := 2) (by omega) (by omega)).mpr z)
      refine lv_iload_n S.1 S.2.1 d_SF_writeTape_39 rfl (lv_at hl 4 rfl) ?_
      refine lv_istore (lv' := [(6, .int (nI an)), (5, .int (nI ((af x).2.2.1))), (4, .ref x), (0, .ref a), (1, .int (nI 1)), (2, .int (nI an)), (3, .int (nI st.2.2.2.2.1))]) S.1 S.2.1 d_SF_writeTape_40 hl (by decide) rfl (fun ls hl => ?_)
      have hfr8 : an ≤ 8192 := hAn
      have join : ∀ at_ : Nat, at_ = (if st.1.length = 0 then ((af x).2.2.1) else max ((af x).2.2.1) (an + st.1.length)) → ∀ (H : Heap) (locs : List Loc), gB P f s H locs → ∀ ls : Array Slot, lv_has ls 11 [(0, .ref a), (1, .int (nI 1)), (2, .int (nI an)), (3, .int (nI st.2.2.2.2.1)), (4, .ref x), (5, .int (nI ((af x).2.2.1))), (6, .int (nI an)), (7, .int (nI at_))] → W p l env (grm 7 43 9057) s m args below meth c H locs 0 0 (MQ below (gQi P (fun r f1 => r = (oWrite st false an).1 ∧ gSF P f1 a (aAft st (oWrite st false an)) ∧ gFU f f1 V)) args s 43 9057 (gA P)) (F0 m 74 ls []) := by
        intro at_ hat H locs hI ls hl
        have xw1 := xw.1
        have hat2 : at_ ≤ 10240 := by
          rw [hat]; have := t3; split <;> omega
        refine lv_aload S.1 S.2.1 d_SF_writeTape_74 (lv_at hl 4 rfl) ?_
        refine lv_ifnonnull (tgt := 89) S.1 S.2.1 d_SF_writeTape_76 (by decide) ?_
        refine lv_iconst (v := nI 1) S.1 S.2.1 d_SF_writeTape_89 (by decide) ?_
        refine lv_goto (tgt := 94) S.1 S.2.1 d_SF_writeTape_90 (by decide) ?_
        refine lv_istore (lv' := [(8, .int (nI 1)), (0, .ref a), (1, .int (nI 1)), (2, .int (nI an)), (3, .int (nI st.2.2.2.2.1)), (4, .ref x), (5, .int (nI ((af x).2.2.1))), (6, .int (nI an)), (7, .int (nI at_))]) S.1 S.2.1 d_SF_writeTape_94 hl (by decide) rfl (fun ls hl => ?_)
        refine lv_bipush (v := (-4)) S.1 S.2.1 d_SF_writeTape_96 (by decide) ?_
        refine lv_istore (lv' := [(9, .int (-4)), (8, .int (nI 1)), (0, .ref a), (1, .int (nI 1)), (2, .int (nI an)), (3, .int (nI st.2.2.2.2.1)), (4, .ref x), (5, .int (nI ((af x).2.2.1))), (6, .int (nI an)), (7, .int (nI at_))]) S.1 S.2.1 d_SF_writeTape_98 hl (by decide) rfl (fun ls hl => ?_)
        refine lv_iload S.1 S.2.1 d_SF_writeTape_100 (lv_at hl 1 rfl) ?_
        refine lv_if_eq (tgt := 163) S.1 S.2.1 d_SF_writeTape_102 (by decide) (fun c235 => ?_) (fun c235 => ?_)
        · skip
          replace c235 : 1 = 0 := (nI_eq (a := 1) (b := 0) (by omega) (by omega)).mp c235
          exact absurd c235 (by omega)
        · skip
          replace c235 : ¬ 1 = 0 := fun z => c235 ((nI_eq (a := 1) (b := 0) (by omega) (by omega)).mpr z)
          refine lv_aload_n S.1 S.2.1 d_SF_writeTape_105 rfl (lv_at hl 2 rfl) ?_
          refine gh_get S hI h0 rfl i_SF 4 (by decide) wi_74 rfl d_SF_writeTape_106 ?_
          refine lv_iload S.1 S.2.1 d_SF_writeTape_109 (lv_at hl 7 rfl) ?_
          refine lv_iload S.1 S.2.1 d_SF_writeTape_111 (lv_at hl 9 rfl) ?_
          refine gc_Vi S hI (c_Shelf_hasRoom l P f (bf := (af x).2.2.1) (at_ := at_) s1 (sum_mem (fun q => (af q).2.2.1) hx3) (by omega)) kv_Shelf_hasRoom wi_268 s1.1 rfl rfl rfl hl.1 rfl (Nat.le_of_ble_eq_true rfl) ⟨Nat.le_of_ble_eq_true rfl, Nat.le_of_ble_eq_true rfl⟩ ⟨Nat.le_of_ble_eq_true rfl, Nat.le_of_ble_eq_true rfl⟩ d_SF_writeTape_113 (fun r236 f237 H locs hp238 hI => ?_)
          obtain ⟨hp1, hp2⟩ := hp238
          subst hp1
          rw [hp2] at hI
          by_cases hc239 : at_ ≤ 8192 ∧ sumB af L - ((af x).2.2.1) + at_ ≤ 32768
          · rw [show (if at_ ≤ 8192 ∧ sumB af L - ((af x).2.2.1) + at_ ≤ 32768 then nI 1 else nI 0 : Int32) = nI 1 from if_pos hc239]
            refine lv_if_eq (tgt := 163) S.1 S.2.1 d_SF_writeTape_116 (by decide) (fun c240 => ?_) (fun c240 => ?_)
            · skip
              replace c240 : 1 = 0 := (nI_eq (a := 1) (b := 0) (by omega) (by omega)).mp c240
              exact absurd c240 (by omega)
            · skip
              replace c240 : ¬ 1 = 0 := fun z => c240 ((nI_eq (a := 1) (b := 0) (by omega) (by omega)).mpr z)
              refine lv_aload S.1 S.2.1 d_SF_writeTape_119 (lv_at hl 6 rfl) ?_
              refine lv_ifnonnull (tgt := 139) S.1 S.2.1 d_SF_writeTape_121 (by decide) ?_
              refine lv_aload S.1 S.2.1 d_SF_writeTape_139 (lv_at hl 6 rfl) ?_
              refine lv_astore (lv' := [(10, .ref x), (9, .int (-4)), (8, .int (nI 1)), (0, .ref a), (1, .int (nI 1)), (2, .int (nI an)), (3, .int (nI st.2.2.2.2.1)), (4, .ref x), (5, .int (nI ((af x).2.2.1))), (6, .int (nI an)), (7, .int (nI at_))]) S.1 S.2.1 d_SF_writeTape_141 hl (by decide) rfl (fun ls hl => ?_)
              refine W.widen (k := 5) (n := 526) (by omega) (by omega) ?_
              exact wr f L SF e1 c1 af x ((af x).2.2.1) an at_ s1 hx3 gFU.rf s3 rfl hfr8 hat hc239.1 hc239.2 (by rw [oWrite_s (fr := an) (at_ := at_) hix hgD rfl hat, if_pos (by rw [hfB]; exact hc239), map_set_up hndL hx1, s2]) _ _ hI _ (lv_sub hl [3, 9, 0] rfl)
          · rw [show (if at_ ≤ 8192 ∧ sumB af L - ((af x).2.2.1) + at_ ≤ 32768 then nI 1 else nI 0 : Int32) = nI 0 from if_neg hc239]
            refine lv_if_eq (tgt := 163) S.1 S.2.1 d_SF_writeTape_116 (by decide) (fun c241 => ?_) (fun c241 => ?_)
            · skip
              replace c241 : 0 = 0 := (nI_eq (a := 0) (b := 0) (by omega) (by omega)).mp c241
              refine W.widen (k := 43) (n := 9057) (by omega) (by omega) ?_
              exact tl f st.2.2.2.2.2 (-4) h gFU.rf (by rw [oWrite_s (fr := an) (at_ := at_) hix hgD rfl hat, if_neg (fun z => hc239 (by rw [hfB] at z; exact z))]) _ _ hI _ (lv_sub hl [2, 0] rfl)
            · skip
              replace c241 : ¬ 0 = 0 := fun z => c241 ((nI_eq (a := 0) (b := 0) (by omega) (by omega)).mpr z)
              exact absurd c241 (by omega)
      refine lv_aload_n S.1 S.2.1 d_SF_writeTape_42 rfl (lv_at hl 3 rfl) ?_
      refine gh_get S hI h0 rfl i_SF 0 (by decide) wi_70 rfl d_SF_writeTape_43 ?_
      refine gc_Vi S hI (c_Row_isEmpty l P f t1 (by omega)) kv_Row_isEmpty wi_121 t1 rfl rfl rfl hl.1 rfl (Nat.le_of_ble_eq_true rfl) ⟨Nat.le_of_ble_eq_true rfl, Nat.le_of_ble_eq_true rfl⟩ ⟨Nat.le_of_ble_eq_true rfl, Nat.le_of_ble_eq_true rfl⟩ d_SF_writeTape_46 (fun r242 f243 H locs hp244 hI => ?_)
      obtain ⟨hp1, hp2⟩ := hp244
      subst hp1
      rw [hp2] at hI
      by_cases hc245 : st.1.length = 0
      · rw [show (if st.1.length = 0 then nI 1 else nI 0 : Int32) = nI 1 from if_pos hc245]
        refine lv_if_eq (tgt := 57) S.1 S.2.1 d_SF_writeTape_49 (by decide) (fun c246 => ?_) (fun c246 => ?_)
        · skip
          replace c246 : 1 = 0 := (nI_eq (a := 1) (b := 0) (by omega) (by omega)).mp c246
          exact absurd c246 (by omega)
        · skip
          replace c246 : ¬ 1 = 0 := fun z => c246 ((nI_eq (a := 1) (b := 0) (by omega) (by omega)).mpr z)
          refine lv_iload S.1 S.2.1 d_SF_writeTape_52 (lv_at hl 1 rfl) ?_
          refine lv_goto (tgt := 72) S.1 S.2.1 d_SF_writeTape_54 (by decide) ?_
          refine lv_istore (lv' := [(7, .int (nI ((af x).2.2.1))), (6, .int (nI an)), (5, .int (nI ((af x).2.2.1))), (4, .ref x), (0, .ref a), (1, .int (nI 1)), (2, .int (nI an)), (3, .int (nI st.2.2.2.2.1))]) S.1 S.2.1 d_SF_writeTape_72 hl (by decide) rfl (fun ls hl => ?_)
          exact join ((af x).2.2.1) (by rw [if_pos hc245]) _ _ hI _ (lv_sub hl [4, 5, 6, 7, 3, 2, 1, 0] rfl)
      · rw [show (if st.1.length = 0 then nI 1 else nI 0 : Int32) = nI 0 from if_neg hc245]
        refine lv_if_eq (tgt := 57) S.1 S.2.1 d_SF_writeTape_49 (by decide) (fun c247 => ?_) (fun c247 => ?_)
        · skip
          replace c247 : 0 = 0 := (nI_eq (a := 0) (b := 0) (by omega) (by omega)).mp c247
          refine lv_iload S.1 S.2.1 d_SF_writeTape_57 (lv_at hl 1 rfl) ?_
          refine lv_iload S.1 S.2.1 d_SF_writeTape_59 (lv_at hl 0 rfl) ?_
          refine lv_aload_n S.1 S.2.1 d_SF_writeTape_61 rfl (lv_at hl 3 rfl) ?_
          refine gh_get S hI h0 rfl i_SF 0 (by decide) wi_70 rfl d_SF_writeTape_62 ?_
          refine gc_Vi S hI (c_Row_length l P f t1) kv_Row_length wi_80 t1 rfl rfl rfl hl.1 rfl (Nat.le_of_ble_eq_true rfl) ⟨Nat.le_of_ble_eq_true rfl, Nat.le_of_ble_eq_true rfl⟩ ⟨Nat.le_of_ble_eq_true rfl, Nat.le_of_ble_eq_true rfl⟩ d_SF_writeTape_65 (fun r248 f249 H locs hp250 hI => ?_)
          obtain ⟨hp1, hp2⟩ := hp250
          subst hp1
          rw [hp2] at hI
          have xw9 : (af x).2.2.1 ≤ 8192 := xw.1
          refine lv_iadd S.1 S.2.1 d_SF_writeTape_68 ?_
          refine lv_topi (fun v251 ev251 => ?_)
          replace ev251 : v251 = nI (an + st.1.length) := ev251.trans (nI_add _ _)
          subst ev251
          refine gc_max S wi_267 hl.1 d_SF_writeTape_69 (by omega) (by omega) (Nat.le_of_ble_eq_true rfl) (Nat.le_of_ble_eq_true rfl) (Nat.le_of_ble_eq_true rfl) (Nat.le_of_ble_eq_true rfl) ?_
          refine lv_istore (lv' := [(7, .int (nI (max ((af x).2.2.1) (an + st.1.length)))), (6, .int (nI an)), (5, .int (nI ((af x).2.2.1))), (4, .ref x), (0, .ref a), (1, .int (nI 1)), (2, .int (nI an)), (3, .int (nI st.2.2.2.2.1))]) S.1 S.2.1 d_SF_writeTape_72 hl (by decide) rfl (fun ls hl => ?_)
          exact join (max ((af x).2.2.1) (an + st.1.length)) (by rw [if_neg hc245]) _ _ hI _ (lv_sub hl [4, 5, 6, 7, 3, 2, 1, 0] rfl)
        · skip
          replace c247 : ¬ 0 = 0 := fun z => c247 ((nI_eq (a := 0) (b := 0) (by omega) (by omega)).mpr z)
          exact absurd c247 (by omega)
    · skip
      replace c234 : 1 = 2 := (nI_eq (a := 1) (b := 2) (by omega) (by omega)).mp c234
      exact absurd c234 (by omega)
set_option maxHeartbeats 4000000 in
set_option maxRecDepth 100000 in
theorem c_SF_writeTape2 (l : Launch) (P : gPar) (f : gM) {a : Nat} {st : ASt} {V : Nat → Prop} {an : Nat} {aa : Int32} (h : gSF P f a (aIn st)) (hV : gUo f V) (hVa : ∀ c, V c → a + 14 ≤ c) : gC l P y_SF_writeTape b_SF_writeTape 11 (some .int) 7 43 9057 [.ref a, .int (nI 2), .int aa, .int (nI st.2.2.2.2.1)] f (gQi P (fun r f1 => r = (oWrite st true an).1 ∧ gSF P f1 a (aAft st (oWrite st true an)) ∧ gFU f f1 V)) := by
  refine gC_of (by decide) (Nat.le_of_ble_eq_true rfl) (fun p env s m args below meth c S hr hlk hnm H locs hI ls hl => ?_)
  have hl : lv_has ls 11 [(0, .ref a), (1, .int (nI 2)), (2, .int aa), (3, .int (nI st.2.2.2.2.1))] := hl
  have hz0 := gB_z hI
  have h34 := gX_34 hI.1
  have h0 : f a = some (.inr (0, [.ref (a + 1), .ref (a + 3), .ref (a + 5), .ref (a + 7), .ref (a + 9), .int (nI (st.2.2.2.2.1 + 1))])) := h.1
  obtain ⟨gt, t1, t2, t3, t4, t5⟩ := h.2.1
  replace t1 : f (a + 1) = some (.inr (1, [.ref (a + 2), .int (nI st.1.length)])) := t1
  replace t2 : f (a + 2) = some (.inl (P.2.1 0, 2048, .inl gt)) := t2
  replace t3 : st.1.length ≤ 2048 := t3
  replace t5 : nmL st.1.length gt = st.1 := t5
  obtain ⟨gn, n1, n2, n3, n4, n5⟩ := h.2.2.1
  replace n1 : f (a + 3) = some (.inr (1, [.ref (a + 4), .int (nI st.2.1.length)])) := n1
  replace n2 : f (a + 4) = some (.inl (P.2.1 0, 200, .inl gn)) := n2
  replace n3 : st.2.1.length ≤ 200 := n3
  replace n5 : nmL st.2.1.length gn = st.2.1 := n5
  obtain ⟨gm, m1, m2, m3, m4, m5⟩ := h.2.2.2.1
  replace m1 : f (a + 5) = some (.inr (1, [.ref (a + 6), .int (nI st.2.2.1.length)])) := m1
  replace m2 : f (a + 6) = some (.inl (P.2.1 0, 200, .inl gm)) := m2
  replace m3 : st.2.2.1.length ≤ 200 := m3
  replace m5 : nmL st.2.2.1.length gm = st.2.2.1 := m5
  obtain ⟨gd, d1, d2, d3, d4, d5⟩ := h.2.2.2.2.1
  replace d1 : f (a + 7) = some (.inr (1, [.ref (a + 8), .int (nI 0)])) := d1
  replace d2 : f (a + 8) = some (.inl (P.2.1 0, 2048, .inl gd)) := d2
  obtain ⟨ow, L, SF, SP, e1, c1, e2, c2, e3, c3, af, s1, s2, s3⟩ := h.2.2.2.2.2
  replace s2 : L.map af = st.2.2.2.2.2 := s2
  have hlL : L.length ≤ 48 := by have := s1.2.2.2.2.2.2.2.2.1; omega
  have hfx : nms af L = fN st.2.2.2.2.2 := by rw [← s2, fN_L]
  have hlF : st.2.2.2.2.2.length = L.length := by rw [← s2, List.length_map]
  have hndL := (List.nodup_append.mp s1.2.2.2.2.2.2.2.1).1
  have hUo := h.uo hV
  have hfB : fB st.2.2.2.2.2 = sumB af L := by rw [← s2, fB_L]
  have tl : ∀ (fj : gM) (FS' : List AFile) (ans : Int32), gSF P fj a (st.1, st.2.1, st.2.2.1, [], st.2.2.2.2.1 + 1, FS') → gFU f fj V → oWrite st true an = (ans, [], [], FS') → ∀ (H : Heap) (locs : List Loc), gB P fj s H locs → ∀ ls : Array Slot, lv_has ls 11 [(0, .ref a), (9, .int ans)] → W p l env (grm 7 43 9057) s m args below meth c H locs 43 9057 (MQ below (gQi P (fun r f1 => r = (oWrite st true an).1 ∧ gSF P f1 a (aAft st (oWrite st true an)) ∧ gFU f f1 V)) args s 43 9057 (gA P)) (F0 m 163 ls []) := by
    intro fj FS' ans hj hFj hO H locs hI ls hl
    have hzj := gB_z hI
    have jh0 : fj a = some (.inr (0, [.ref (a + 1), .ref (a + 3), .ref (a + 5), .ref (a + 7), .ref (a + 9), .int (nI (st.2.2.2.2.1 + 1))])) := hj.1
    obtain ⟨gjt, jt1, jt2, jt3, jt4, jt5⟩ := hj.2.1
    replace jt1 : fj (a + 1) = some (.inr (1, [.ref (a + 2), .int (nI st.1.length)])) := jt1
    replace jt2 : fj (a + 2) = some (.inl (P.2.1 0, 2048, .inl gjt)) := jt2
    replace jt3 : st.1.length ≤ 2048 := jt3
    replace jt5 : nmL st.1.length gjt = st.1 := jt5
    refine lv_aload_n S.1 S.2.1 d_SF_writeTape_163 rfl (lv_at hl 0 rfl) ?_
    refine gh_get S hI jh0 rfl i_SF 0 (by decide) wi_70 rfl d_SF_writeTape_164 ?_
    refine lv_iconst (v := nI 0) S.1 S.2.1 d_SF_writeTape_167 (by decide) ?_
    refine gc_Vv S hI (c_Row_shorten l P fj (k := 0) jt1) kv_Row_shorten wi_95 jt1 rfl rfl rfl hl.1 rfl (Nat.le_of_ble_eq_true rfl) ⟨Nat.le_of_ble_eq_true rfl, Nat.le_of_ble_eq_true rfl⟩ ⟨by show _ ≤ 43; omega, by show _ ≤ 9057; omega⟩ d_SF_writeTape_168 (fun f253 H locs hp254 hI => ?_)
    have hfin := hj.sht (hV.to hFj) hVa hzj hp254
    refine lv_iload S.1 S.2.1 d_SF_writeTape_171 (lv_at hl 1 rfl) ?_
    exact gr_i S hr hlk hI (by rw [hO]; exact ⟨rfl, hfin.1, hFj.trans hfin.2⟩) d_SF_writeTape_173
  have wr : ∀ (fj : gM) (L' SF' : List Nat) (e1v c1v : Nat) (af' : Nat → AFile) (x bf fr at_ : Nat), gSh P fj ow (a + 9) L' SF' SP e1v c1v e2 c2 e3 c3 af' → x ∈ L' → gFU f fj (gUS a V) → SP.length + sumC af' L' ≤ 121 → (af' x).2.2.1 = bf → fr ≤ 8192 → at_ = (if st.1.length = 0 then bf else max bf (fr + st.1.length)) → at_ ≤ 8192 → sumB af' L' - bf + at_ ≤ 32768 → oWrite st true an = (nI st.1.length, [], [], L'.map (va_up af' x (fWr (af' x) fr st.1))) → ∀ (H : Heap) (locs : List Loc), gB P fj s H locs → ∀ ls : Array Slot, lv_has ls 11 [(0, .ref a), (6, .int (nI fr)), (10, .ref x)] → W p l env (grm 7 43 9057) s m args below meth c H locs 5 526 (MQ below (gQi P (fun r f1 => r = (oWrite st true an).1 ∧ gSF P f1 a (aAft st (oWrite st true an)) ∧ gFU f f1 V)) args s 43 9057 (gA P)) (F0 m 143 ls []) := by
    intro fj L' SF' e1v c1v af' x bf fr at_ j1 hxL hFj hj3 hbf hfr hat hat8 hat3 hO H locs hI ls hl
    have hzj := gB_z hI
    have hndj := (List.nodup_append.mp j1.2.2.2.2.2.2.2.1).1
    have hUj := hUo.to hFj
    have xfi := (j1.2.2.2.2.2.1 x hxL).1
    have xw := (j1.2.2.2.2.2.1 x hxL).2
    obtain ⟨nx, gx, psx, x0, x1, x2, x3, x4, x5, x6, x7⟩ := id xfi
    have jh0 := hFj a _ (Or.inl ⟨by omega, by omega⟩) h0
    have jt1 := hFj (a + 1) _ (Or.inl ⟨by omega, by omega⟩) t1
    have jt2 := hFj (a + 2) _ (Or.inl ⟨by omega, by omega⟩) t2
    refine lv_aload S.1 S.2.1 d_SF_writeTape_143 (lv_at hl 2 rfl) ?_
    refine lv_iload S.1 S.2.1 d_SF_writeTape_145 (lv_at hl 1 rfl) ?_
    refine lv_aload_n S.1 S.2.1 d_SF_writeTape_147 rfl (lv_at hl 0 rfl) ?_
    refine gh_get S hI jh0 rfl i_SF 0 (by decide) wi_70 rfl d_SF_writeTape_148 ?_
    have hfn : fr + st.1.length ≤ 8192 := by
      by_cases c : st.1.length = 0
      · omega
      · rw [if_neg c] at hat; omega
    refine gc_Vv S hI (c_File_write l P fj x0 x3 x7 j1.2.2.2.1 (by omega) jt1 jt2 t3 (by omega) t4 hfn xw.1 xw.2.2.2) kv_File_write wi_278 x0 rfl rfl rfl hl.1 rfl (Nat.le_of_ble_eq_true rfl) ⟨Nat.le_of_ble_eq_true rfl, Nat.le_of_ble_eq_true rfl⟩ ⟨by show _ ≤ 43; omega, by show _ ≤ 9057; omega⟩ d_SF_writeTape_151 (fun f256 H locs hp257 hI => ?_)
    obtain ⟨ow1, ps1, SP1, q0, q3, q4, q5, q6, q7, q8⟩ := hp257
    rw [wC_lF, t5] at q5
    have hwf : wfF (if st.1.length = 0 then (af' x).2.2.1 else max (af' x).2.2.1 (fr + st.1.length)) (wl (af' x).2.2.2.1 fr st.1.length) (wC (af' x).2.2.2.2 (lF st.1) fr st.1.length) := wfF_wr xw (by rw [hbf, ← hat]; exact hat8)
    have hS1 : gSh P f256 ow1 (a + 9) L' SF' SP1 e1v c1v e2 c2 e3 c3 (va_up af' x (fWr (af' x) fr st.1)) := j1.file h34 hzj hxL x0 x1 x2 x3 x4 x5 x6 x7 q0 q3 q4 q5 q6 hwf
    have hFU1 : gFU f f256 (gUS a V) := hFj.trans (hUj.rel xfi x7 j1.2.2.2.1 hzj q6)
    have hcnt : SP1.length + sumC (va_up af' x (fWr (af' x) fr st.1)) L' ≤ 121 := by
      rcases q7 with z | z
      · exact cnt_file hndj hxL hj3 z
      · rw [z, List.length_nil, Nat.zero_add]
        refine sumC_121 (fun q hq => (hS1.2.2.2.2.2.1 q hq).2) ?_ (by have := hS1.2.2.2.2.2.2.2.2.1; omega)
        have hb1 := bytes_file (af := af') (v := fWr (af' x) fr st.1) hndj hxL
        have hb2 : (fWr (af' x) fr st.1).2.2.1 = at_ := by rw [hat, ← hbf]; rfl
        have hb3 : (af' x).2.2.1 ≤ sumB af' L' := sum_mem (fun q => (af' q).2.2.1) hxL
        omega
    have hfin := gSF.sh h hFU1 ⟨ow1, L', SF', SP1, e1v, c1v, e2, c2, e3, c3, _, hS1, rfl, hcnt⟩
    have kh0 := hFU1 a _ (Or.inl ⟨by omega, by omega⟩) h0
    have kt1 := hFU1 (a + 1) _ (Or.inl ⟨by omega, by omega⟩) t1
    refine lv_aload_n S.1 S.2.1 d_SF_writeTape_154 rfl (lv_at hl 0 rfl) ?_
    refine gh_get S hI kh0 rfl i_SF 0 (by decide) wi_70 rfl d_SF_writeTape_155 ?_
    refine gc_Vi S hI (c_Row_length l P f256 kt1) kv_Row_length wi_80 kt1 rfl rfl rfl hl.1 rfl (Nat.le_of_ble_eq_true rfl) ⟨Nat.le_of_ble_eq_true rfl, Nat.le_of_ble_eq_true rfl⟩ ⟨by show _ ≤ 43; omega, by show _ ≤ 9057; omega⟩ d_SF_writeTape_158 (fun r258 f259 H locs hp260 hI => ?_)
    obtain ⟨hp1, hp2⟩ := hp260
    subst hp1
    rw [hp2] at hI
    refine lv_istore (lv' := [(9, .int (nI st.1.length)), (0, .ref a), (6, .int (nI fr)), (10, .ref x)]) S.1 S.2.1 d_SF_writeTape_161 hl (by decide) rfl (fun ls hl => ?_)
    exact tl f256 _ (nI st.1.length) hfin.1 hfin.2 hO _ _ hI _ (lv_sub hl [1, 0] rfl)
  refine lv_aload_n S.1 S.2.1 d_SF_writeTape_0 rfl (lv_at hl 0 rfl) ?_
  refine gh_get S hI h0 rfl i_SF 4 (by decide) wi_74 rfl d_SF_writeTape_1 ?_
  refine lv_aload_n S.1 S.2.1 d_SF_writeTape_4 rfl (lv_at hl 0 rfl) ?_
  refine gh_get S hI h0 rfl i_SF 1 (by decide) wi_71 rfl d_SF_writeTape_5 ?_
  refine gc_Vq S hI (c_Shelf_find l P f s1 n1 n2 n3 (by omega)) kv_Shelf_find wi_128 s1.1 rfl rfl rfl hl.1 rfl (Nat.le_of_ble_eq_true rfl) ⟨Nat.le_of_ble_eq_true rfl, Nat.le_of_ble_eq_true rfl⟩ ⟨Nat.le_of_ble_eq_true rfl, Nat.le_of_ble_eq_true rfl⟩ d_SF_writeTape_8 (fun r261 f262 H locs hp263 hI => ?_)
  obtain ⟨hp1, hp2⟩ := hp263
  rw [hp2] at hI
  rw [hfx, n5] at hp1
  rcases hix : idx (fN st.2.2.2.2.2) st.2.1 with _ | k
  · skip
    replace hp1 : r261 = none := by rw [hp1, hix]; rfl
    rw [show va_rf r261 = .null from by rw [hp1]; rfl]
    refine lv_astoreN (lv' := [(4, .null), (0, .ref a), (1, .int (nI 2)), (2, .int aa), (3, .int (nI st.2.2.2.2.1))]) S.1 S.2.1 d_SF_writeTape_11 hl (by decide) rfl (fun ls hl => ?_)
    refine lv_aloadN S.1 S.2.1 d_SF_writeTape_13 (lv_at hl 0 rfl) ?_
    refine lv_ifnonnullN S.1 S.2.1 d_SF_writeTape_15 ?_
    refine lv_iconst (v := nI 0) S.1 S.2.1 d_SF_writeTape_18 (by decide) ?_
    refine lv_goto (tgt := 27) S.1 S.2.1 d_SF_writeTape_19 (by decide) ?_
    refine lv_istore (lv' := [(5, .int (nI 0)), (4, .null), (0, .ref a), (1, .int (nI 2)), (2, .int aa), (3, .int (nI st.2.2.2.2.1))]) S.1 S.2.1 d_SF_writeTape_27 hl (by decide) rfl (fun ls hl => ?_)
    refine lv_iload_n S.1 S.2.1 d_SF_writeTape_29 rfl (lv_at hl 3 rfl) ?_
    refine lv_iconst (v := nI 2) S.1 S.2.1 d_SF_writeTape_30 (by decide) ?_
    refine lv_icmp_ne (tgt := 39) S.1 S.2.1 d_SF_writeTape_31 (by decide) (fun c264 => ?_) (fun c264 => ?_)
    · skip
      replace c264 : ¬ 2 = 2 := fun z => c264 ((nI_eq (a := 2) (b := 2) (by omega) (by omega)).mpr z)
      exact absurd c264 (by omega)
    · skip
      replace c264 : 2 = 2 := (nI_eq (a := 2) (b := 2) (by omega) (by omega)).mp c264
      refine lv_iload S.1 S.2.1 d_SF_writeTape_34 (lv_at hl 0 rfl) ?_
      refine lv_goto (tgt := 40) S.1 S.2.1 d_SF_writeTape_36 (by decide) ?_
      refine lv_istore (lv' := [(6, .int (nI 0)), (5, .int (nI 0)), (4, .null), (0, .ref a), (1, .int (nI 2)), (2, .int aa), (3, .int (nI st.2.2.2.2.1))]) S.1 S.2.1 d_SF_writeTape_40 hl (by decide) rfl (fun ls hl => ?_)
      have hfr8 : 0 ≤ 8192 := by omega
      have join : ∀ at_ : Nat, at_ = (if st.1.length = 0 then 0 else max 0 (0 + st.1.length)) → ∀ (H : Heap) (locs : List Loc), gB P f s H locs → ∀ ls : Array Slot, lv_has ls 11 [(0, .ref a), (1, .int (nI 2)), (2, .int aa), (3, .int (nI st.2.2.2.2.1)), (4, .null), (5, .int (nI 0)), (6, .int (nI 0)), (7, .int (nI at_))] → W p l env (grm 7 43 9057) s m args below meth c H locs 0 0 (MQ below (gQi P (fun r f1 => r = (oWrite st true an).1 ∧ gSF P f1 a (aAft st (oWrite st true an)) ∧ gFU f f1 V)) args s 43 9057 (gA P)) (F0 m 74 ls []) := by
        intro at_ hat H locs hI ls hl
        have hat2 : at_ ≤ 10240 := by
          rw [hat]; have := t3; split <;> omega
        refine lv_aloadN S.1 S.2.1 d_SF_writeTape_74 (lv_at hl 4 rfl) ?_
        refine lv_ifnonnullN S.1 S.2.1 d_SF_writeTape_76 ?_
        refine lv_aload_n S.1 S.2.1 d_SF_writeTape_79 rfl (lv_at hl 0 rfl) ?_
        refine gh_get S hI h0 rfl i_SF 4 (by decide) wi_74 rfl d_SF_writeTape_80 ?_
        refine gc_Vi S hI (c_Shelf_isFull l P f s1) kv_Shelf_isFull wi_175 s1.1 rfl rfl rfl hl.1 rfl (Nat.le_of_ble_eq_true rfl) ⟨Nat.le_of_ble_eq_true rfl, Nat.le_of_ble_eq_true rfl⟩ ⟨Nat.le_of_ble_eq_true rfl, Nat.le_of_ble_eq_true rfl⟩ d_SF_writeTape_83 (fun r265 f266 H locs hp267 hI => ?_)
        obtain ⟨hp1, hp2⟩ := hp267
        subst hp1
        rw [hp2] at hI
        by_cases hc268 : 48 ≤ L.length
        · rw [show (if 48 ≤ L.length then nI 1 else nI 0 : Int32) = nI 1 from if_pos hc268]
          refine lv_if_ne (tgt := 93) S.1 S.2.1 d_SF_writeTape_86 (by decide) (fun c269 => ?_) (fun c269 => ?_)
          · skip
            replace c269 : ¬ 1 = 0 := fun z => c269 ((nI_eq (a := 1) (b := 0) (by omega) (by omega)).mpr z)
            refine lv_iconst (v := nI 0) S.1 S.2.1 d_SF_writeTape_93 (by decide) ?_
            refine lv_istore (lv' := [(8, .int (nI 0)), (0, .ref a), (1, .int (nI 2)), (2, .int aa), (3, .int (nI st.2.2.2.2.1)), (4, .null), (5, .int (nI 0)), (6, .int (nI 0)), (7, .int (nI at_))]) S.1 S.2.1 d_SF_writeTape_94 hl (by decide) rfl (fun ls hl => ?_)
            refine lv_bipush (v := (-4)) S.1 S.2.1 d_SF_writeTape_96 (by decide) ?_
            refine lv_istore (lv' := [(9, .int (-4)), (8, .int (nI 0)), (0, .ref a), (1, .int (nI 2)), (2, .int aa), (3, .int (nI st.2.2.2.2.1)), (4, .null), (5, .int (nI 0)), (6, .int (nI 0)), (7, .int (nI at_))]) S.1 S.2.1 d_SF_writeTape_98 hl (by decide) rfl (fun ls hl => ?_)
            refine lv_iload S.1 S.2.1 d_SF_writeTape_100 (lv_at hl 1 rfl) ?_
            refine lv_if_eq (tgt := 163) S.1 S.2.1 d_SF_writeTape_102 (by decide) (fun c270 => ?_) (fun c270 => ?_)
            · skip
              replace c270 : 0 = 0 := (nI_eq (a := 0) (b := 0) (by omega) (by omega)).mp c270
              refine W.widen (k := 43) (n := 9057) (by omega) (by omega) ?_
              exact tl f st.2.2.2.2.2 (-4) h gFU.rf (by rw [oWrite_n (fr := 0) (at_ := at_) hix rfl (by rw [hat]; simp), if_neg (fun z => absurd z.1 (by omega))]) _ _ hI _ (lv_sub hl [2, 0] rfl)
            · skip
              replace c270 : ¬ 0 = 0 := fun z => c270 ((nI_eq (a := 0) (b := 0) (by omega) (by omega)).mpr z)
              exact absurd c270 (by omega)
          · skip
            replace c269 : 1 = 0 := (nI_eq (a := 1) (b := 0) (by omega) (by omega)).mp c269
            exact absurd c269 (by omega)
        · rw [show (if 48 ≤ L.length then nI 1 else nI 0 : Int32) = nI 0 from if_neg hc268]
          refine lv_if_ne (tgt := 93) S.1 S.2.1 d_SF_writeTape_86 (by decide) (fun c271 => ?_) (fun c271 => ?_)
          · skip
            replace c271 : ¬ 0 = 0 := fun z => c271 ((nI_eq (a := 0) (b := 0) (by omega) (by omega)).mpr z)
            exact absurd c271 (by omega)
          · skip
            replace c271 : 0 = 0 := (nI_eq (a := 0) (b := 0) (by omega) (by omega)).mp c271
            refine lv_iconst (v := nI 1) S.1 S.2.1 d_SF_writeTape_89 (by decide) ?_
            refine lv_goto (tgt := 94) S.1 S.2.1 d_SF_writeTape_90 (by decide) ?_
            refine lv_istore (lv' := [(8, .int (nI 1)), (0, .ref a), (1, .int (nI 2)), (2, .int aa), (3, .int (nI st.2.2.2.2.1)), (4, .null), (5, .int (nI 0)), (6, .int (nI 0)), (7, .int (nI at_))]) S.1 S.2.1 d_SF_writeTape_94 hl (by decide) rfl (fun ls hl => ?_)
            refine lv_bipush (v := (-4)) S.1 S.2.1 d_SF_writeTape_96 (by decide) ?_
            refine lv_istore (lv' := [(9, .int (-4)), (8, .int (nI 1)), (0, .ref a), (1, .int (nI 2)), (2, .int aa), (3, .int (nI st.2.2.2.2.1)), (4, .null), (5, .int (nI 0)), (6, .int (nI 0)), (7, .int (nI at_))]) S.1 S.2.1 d_SF_writeTape_98 hl (by decide) rfl (fun ls hl => ?_)
            refine lv_iload S.1 S.2.1 d_SF_writeTape_100 (lv_at hl 1 rfl) ?_
            refine lv_if_eq (tgt := 163) S.1 S.2.1 d_SF_writeTape_102 (by decide) (fun c272 => ?_) (fun c272 => ?_)
            · skip
              replace c272 : 1 = 0 := (nI_eq (a := 1) (b := 0) (by omega) (by omega)).mp c272
              exact absurd c272 (by omega)
            · skip
              replace c272 : ¬ 1 = 0 := fun z => c272 ((nI_eq (a := 1) (b := 0) (by omega) (by omega)).mpr z)
              refine lv_aload_n S.1 S.2.1 d_SF_writeTape_105 rfl (lv_at hl 2 rfl) ?_
              refine gh_get S hI h0 rfl i_SF 4 (by decide) wi_74 rfl d_SF_writeTape_106 ?_
              refine lv_iload S.1 S.2.1 d_SF_writeTape_109 (lv_at hl 7 rfl) ?_
              refine lv_iload S.1 S.2.1 d_SF_writeTape_111 (lv_at hl 9 rfl) ?_
              refine gc_Vi S hI (c_Shelf_hasRoom l P f (bf := 0) (at_ := at_) s1 (Nat.zero_le _) (by omega)) kv_Shelf_hasRoom wi_268 s1.1 rfl rfl rfl hl.1 rfl (Nat.le_of_ble_eq_true rfl) ⟨Nat.le_of_ble_eq_true rfl, Nat.le_of_ble_eq_true rfl⟩ ⟨Nat.le_of_ble_eq_true rfl, Nat.le_of_ble_eq_true rfl⟩ d_SF_writeTape_113 (fun r273 f274 H locs hp275 hI => ?_)
              obtain ⟨hp1, hp2⟩ := hp275
              subst hp1
              rw [hp2] at hI
              by_cases hc276 : at_ ≤ 8192 ∧ sumB af L - 0 + at_ ≤ 32768
              · rw [show (if at_ ≤ 8192 ∧ sumB af L - 0 + at_ ≤ 32768 then nI 1 else nI 0 : Int32) = nI 1 from if_pos hc276]
                refine lv_if_eq (tgt := 163) S.1 S.2.1 d_SF_writeTape_116 (by decide) (fun c277 => ?_) (fun c277 => ?_)
                · skip
                  replace c277 : 1 = 0 := (nI_eq (a := 1) (b := 0) (by omega) (by omega)).mp c277
                  exact absurd c277 (by omega)
                · skip
                  replace c277 : ¬ 1 = 0 := fun z => c277 ((nI_eq (a := 1) (b := 0) (by omega) (by omega)).mpr z)
                  refine lv_aloadN S.1 S.2.1 d_SF_writeTape_119 (lv_at hl 6 rfl) ?_
                  refine lv_ifnonnullN S.1 S.2.1 d_SF_writeTape_121 ?_
                  refine lv_aload_n S.1 S.2.1 d_SF_writeTape_124 rfl (lv_at hl 2 rfl) ?_
                  refine gh_get S hI h0 rfl i_SF 4 (by decide) wi_74 rfl d_SF_writeTape_125 ?_
                  refine lv_aload_n S.1 S.2.1 d_SF_writeTape_128 rfl (lv_at hl 2 rfl) ?_
                  refine gh_get S hI h0 rfl i_SF 1 (by decide) wi_71 rfl d_SF_writeTape_129 ?_
                  refine lv_iload_n S.1 S.2.1 d_SF_writeTape_132 rfl (lv_at hl 5 rfl) ?_
                  refine gc_Vr S hI (c_Shelf_make l P f (U := gUS a V) (idv := nI st.2.2.2.2.1) s1 n1 n2 n3 (by omega) hUo (Or.inl ⟨by omega, by omega⟩) (Or.inl ⟨by omega, by omega⟩) n4 n3 (by omega)) kv_Shelf_make wi_179 s1.1 rfl rfl rfl hl.1 rfl (Nat.le_of_ble_eq_true rfl) ⟨Nat.le_of_ble_eq_true rfl, Nat.le_of_ble_eq_true rfl⟩ ⟨by show _ ≤ 43; omega, by show _ ≤ 9057; omega⟩ d_SF_writeTape_133 (fun r278 f279 H locs hp280 hI => ?_)
                  obtain ⟨SF1, e1v, c1v, k1, k2, k3⟩ := hp280
                  rw [hfx, n5] at k1
                  have hpl : plc (fN st.2.2.2.2.2) st.2.1 ≤ L.length := by rw [← hlF]; have := plc_le (fN st.2.2.2.2.2) st.2.1; rw [show (fN st.2.2.2.2.2).length = st.2.2.2.2.2.length by simp [fN]] at this; exact this
                  refine lv_goto (tgt := 141) S.1 S.2.1 d_SF_writeTape_136 (by decide) ?_
                  refine lv_astore (lv' := [(10, .ref r278), (9, .int (-4)), (8, .int (nI 1)), (0, .ref a), (1, .int (nI 2)), (2, .int aa), (3, .int (nI st.2.2.2.2.1)), (4, .null), (5, .int (nI 0)), (6, .int (nI 0)), (7, .int (nI at_))]) S.1 S.2.1 d_SF_writeTape_141 hl (by decide) rfl (fun ls hl => ?_)
                  have hcn : SP.length + sumC (va_up af r278 (st.2.1, nI st.2.2.2.2.1, 0, (fun _ => false), (fun _ => 0))) (L.insertIdx (plc (fN st.2.2.2.2.2) st.2.1) r278) ≤ 121 := by unfold sumC; rw [sumG_ins (G := fun w => cntL w.2.2.2.1 19) k2 hpl]; rw [show cntL (fun _ => false) 19 = 0 from rfl]; unfold sumC at s3; omega
                  have hbn : sumB (va_up af r278 (st.2.1, nI st.2.2.2.2.1, 0, (fun _ => false), (fun _ => 0))) (L.insertIdx (plc (fN st.2.2.2.2.2) st.2.1) r278) = 0 + sumB af L := by unfold sumB; rw [sumG_ins (G := fun w => w.2.2.1) k2 hpl]
                  have hc9 := hc276.2
                  refine wr f279 _ SF1 e1v c1v _ r278 0 0 at_ k1 ((mem_ins hpl).mpr (Or.inl rfl)) k3 hcn (by rw [va_up_self]) hfr8 hat hc276.1 (by rw [hbn]; omega) ?_ _ _ hI _ (lv_sub hl [3, 9, 0] rfl)
                  rw [oWrite_n (fr := 0) (at_ := at_) hix rfl (by rw [hat]; simp), if_pos ⟨by omega, hc276.1, by rw [hfB]; omega⟩, va_up_self, va_up_up, map_ins_up k2, s2]
                  rfl
              · rw [show (if at_ ≤ 8192 ∧ sumB af L - 0 + at_ ≤ 32768 then nI 1 else nI 0 : Int32) = nI 0 from if_neg hc276]
                refine lv_if_eq (tgt := 163) S.1 S.2.1 d_SF_writeTape_116 (by decide) (fun c281 => ?_) (fun c281 => ?_)
                · skip
                  replace c281 : 0 = 0 := (nI_eq (a := 0) (b := 0) (by omega) (by omega)).mp c281
                  refine W.widen (k := 43) (n := 9057) (by omega) (by omega) ?_
                  exact tl f st.2.2.2.2.2 (-4) h gFU.rf (by rw [oWrite_n (fr := 0) (at_ := at_) hix rfl (by rw [hat]; simp), if_neg (fun z => hc276 ⟨z.2.1, by rw [hfB] at z; omega⟩)]) _ _ hI _ (lv_sub hl [2, 0] rfl)
                · skip
                  replace c281 : ¬ 0 = 0 := fun z => c281 ((nI_eq (a := 0) (b := 0) (by omega) (by omega)).mpr z)
                  exact absurd c281 (by omega)
      refine lv_aload_n S.1 S.2.1 d_SF_writeTape_42 rfl (lv_at hl 3 rfl) ?_
      refine gh_get S hI h0 rfl i_SF 0 (by decide) wi_70 rfl d_SF_writeTape_43 ?_
      refine gc_Vi S hI (c_Row_isEmpty l P f t1 (by omega)) kv_Row_isEmpty wi_121 t1 rfl rfl rfl hl.1 rfl (Nat.le_of_ble_eq_true rfl) ⟨Nat.le_of_ble_eq_true rfl, Nat.le_of_ble_eq_true rfl⟩ ⟨Nat.le_of_ble_eq_true rfl, Nat.le_of_ble_eq_true rfl⟩ d_SF_writeTape_46 (fun r282 f283 H locs hp284 hI => ?_)
      obtain ⟨hp1, hp2⟩ := hp284
      subst hp1
      rw [hp2] at hI
      by_cases hc285 : st.1.length = 0
      · rw [show (if st.1.length = 0 then nI 1 else nI 0 : Int32) = nI 1 from if_pos hc285]
        refine lv_if_eq (tgt := 57) S.1 S.2.1 d_SF_writeTape_49 (by decide) (fun c286 => ?_) (fun c286 => ?_)
        · skip
          replace c286 : 1 = 0 := (nI_eq (a := 1) (b := 0) (by omega) (by omega)).mp c286
          exact absurd c286 (by omega)
        · skip
          replace c286 : ¬ 1 = 0 := fun z => c286 ((nI_eq (a := 1) (b := 0) (by omega) (by omega)).mpr z)
          refine lv_iload S.1 S.2.1 d_SF_writeTape_52 (lv_at hl 1 rfl) ?_
          refine lv_goto (tgt := 72) S.1 S.2.1 d_SF_writeTape_54 (by decide) ?_
          refine lv_istore (lv' := [(7, .int (nI 0)), (6, .int (nI 0)), (5, .int (nI 0)), (4, .null), (0, .ref a), (1, .int (nI 2)), (2, .int aa), (3, .int (nI st.2.2.2.2.1))]) S.1 S.2.1 d_SF_writeTape_72 hl (by decide) rfl (fun ls hl => ?_)
          exact join 0 (by rw [if_pos hc285]) _ _ hI _ (lv_sub hl [4, 5, 6, 7, 3, 2, 1, 0] rfl)
      · rw [show (if st.1.length = 0 then nI 1 else nI 0 : Int32) = nI 0 from if_neg hc285]
        refine lv_if_eq (tgt := 57) S.1 S.2.1 d_SF_writeTape_49 (by decide) (fun c287 => ?_) (fun c287 => ?_)
        · skip
          replace c287 : 0 = 0 := (nI_eq (a := 0) (b := 0) (by omega) (by omega)).mp c287
          refine lv_iload S.1 S.2.1 d_SF_writeTape_57 (lv_at hl 1 rfl) ?_
          refine lv_iload S.1 S.2.1 d_SF_writeTape_59 (lv_at hl 0 rfl) ?_
          refine lv_aload_n S.1 S.2.1 d_SF_writeTape_61 rfl (lv_at hl 3 rfl) ?_
          refine gh_get S hI h0 rfl i_SF 0 (by decide) wi_70 rfl d_SF_writeTape_62 ?_
          refine gc_Vi S hI (c_Row_length l P f t1) kv_Row_length wi_80 t1 rfl rfl rfl hl.1 rfl (Nat.le_of_ble_eq_true rfl) ⟨Nat.le_of_ble_eq_true rfl, Nat.le_of_ble_eq_true rfl⟩ ⟨Nat.le_of_ble_eq_true rfl, Nat.le_of_ble_eq_true rfl⟩ d_SF_writeTape_65 (fun r288 f289 H locs hp290 hI => ?_)
          obtain ⟨hp1, hp2⟩ := hp290
          subst hp1
          rw [hp2] at hI
          have xw9 : 0 ≤ 8192 := by omega
          refine lv_iadd S.1 S.2.1 d_SF_writeTape_68 ?_
          refine lv_topi (fun v291 ev291 => ?_)
          replace ev291 : v291 = nI (0 + st.1.length) := ev291.trans (nI_add _ _)
          subst ev291
          refine gc_max S wi_267 hl.1 d_SF_writeTape_69 (by omega) (by omega) (Nat.le_of_ble_eq_true rfl) (Nat.le_of_ble_eq_true rfl) (Nat.le_of_ble_eq_true rfl) (Nat.le_of_ble_eq_true rfl) ?_
          refine lv_istore (lv' := [(7, .int (nI (max 0 (0 + st.1.length)))), (6, .int (nI 0)), (5, .int (nI 0)), (4, .null), (0, .ref a), (1, .int (nI 2)), (2, .int aa), (3, .int (nI st.2.2.2.2.1))]) S.1 S.2.1 d_SF_writeTape_72 hl (by decide) rfl (fun ls hl => ?_)
          exact join (max 0 (0 + st.1.length)) (by rw [if_neg hc285]) _ _ hI _ (lv_sub hl [4, 5, 6, 7, 3, 2, 1, 0] rfl)
        · skip
          replace c287 : ¬ 0 = 0 := fun z => c287 ((nI_eq (a := 0) (b := 0) (by omega) (by omega)).mpr z)
          exact absurd c287 (by omega)
  · skip
    obtain ⟨x, hx1, hx2, hx3⟩ := idx_get (af := af) (L := L) (nm := st.2.1) (k := k) (by rw [hfx]; exact hix)
    replace hp1 : r261 = some x := by rw [hp1, hix]; exact hx1
    have hgD : st.2.2.2.2.2.getD k (fNew [] 0) = af x := by rw [← s2]; exact getD_map hx1
    have xfi := (s1.2.2.2.2.2.1 x hx3).1
    have xw := (s1.2.2.2.2.2.1 x hx3).2
    obtain ⟨nx, gx, psx, x0, x1, x2, x3, x4, x5, x6, x7⟩ := id xfi
    rw [show va_rf r261 = .ref x from by rw [hp1]; rfl]
    refine lv_astore (lv' := [(4, .ref x), (0, .ref a), (1, .int (nI 2)), (2, .int aa), (3, .int (nI st.2.2.2.2.1))]) S.1 S.2.1 d_SF_writeTape_11 hl (by decide) rfl (fun ls hl => ?_)
    refine lv_aload S.1 S.2.1 d_SF_writeTape_13 (lv_at hl 0 rfl) ?_
    refine lv_ifnonnull (tgt := 22) S.1 S.2.1 d_SF_writeTape_15 (by decide) ?_
    refine lv_aload S.1 S.2.1 d_SF_writeTape_22 (lv_at hl 0 rfl) ?_
    refine gc_Vi S hI (c_File_length l P f x0) kv_File_length wi_263 x0 rfl rfl rfl hl.1 rfl (Nat.le_of_ble_eq_true rfl) ⟨Nat.le_of_ble_eq_true rfl, Nat.le_of_ble_eq_true rfl⟩ ⟨Nat.le_of_ble_eq_true rfl, Nat.le_of_ble_eq_true rfl⟩ d_SF_writeTape_24 (fun r292 f293 H locs hp294 hI => ?_)
    obtain ⟨hp1, hp2⟩ := hp294
    subst hp1
    rw [hp2] at hI
    refine lv_istore (lv' := [(5, .int (nI ((af x).2.2.1))), (4, .ref x), (0, .ref a), (1, .int (nI 2)), (2, .int aa), (3, .int (nI st.2.2.2.2.1))]) S.1 S.2.1 d_SF_writeTape_27 hl (by decide) rfl (fun ls hl => ?_)
    refine lv_iload_n S.1 S.2.1 d_SF_writeTape_29 rfl (lv_at hl 3 rfl) ?_
    refine lv_iconst (v := nI 2) S.1 S.2.1 d_SF_writeTape_30 (by decide) ?_
    refine lv_icmp_ne (tgt := 39) S.1 S.2.1 d_SF_writeTape_31 (by decide) (fun c295 => ?_) (fun c295 => ?_)
    · skip
      replace c295 : ¬ 2 = 2 := fun z => c295 ((nI_eq (a := 2) (b := 2) (by omega) (by omega)).mpr z)
      exact absurd c295 (by omega)
    · skip
      replace c295 : 2 = 2 := (nI_eq (a := 2) (b := 2) (by omega) (by omega)).mp c295
      refine lv_iload S.1 S.2.1 d_SF_writeTape_34 (lv_at hl 0 rfl) ?_
      refine lv_goto (tgt := 40) S.1 S.2.1 d_SF_writeTape_36 (by decide) ?_
      refine lv_istore (lv' := [(6, .int (nI ((af x).2.2.1))), (5, .int (nI ((af x).2.2.1))), (4, .ref x), (0, .ref a), (1, .int (nI 2)), (2, .int aa), (3, .int (nI st.2.2.2.2.1))]) S.1 S.2.1 d_SF_writeTape_40 hl (by decide) rfl (fun ls hl => ?_)
      have hfr8 : (af x).2.2.1 ≤ 8192 := xw.1
      have join : ∀ at_ : Nat, at_ = (if st.1.length = 0 then ((af x).2.2.1) else max ((af x).2.2.1) (((af x).2.2.1) + st.1.length)) → ∀ (H : Heap) (locs : List Loc), gB P f s H locs → ∀ ls : Array Slot, lv_has ls 11 [(0, .ref a), (1, .int (nI 2)), (2, .int aa), (3, .int (nI st.2.2.2.2.1)), (4, .ref x), (5, .int (nI ((af x).2.2.1))), (6, .int (nI ((af x).2.2.1))), (7, .int (nI at_))] → W p l env (grm 7 43 9057) s m args below meth c H locs 0 0 (MQ below (gQi P (fun r f1 => r = (oWrite st true an).1 ∧ gSF P f1 a (aAft st (oWrite st true an)) ∧ gFU f f1 V)) args s 43 9057 (gA P)) (F0 m 74 ls []) := by
        intro at_ hat H locs hI ls hl
        have xw1 := xw.1
        have hat2 : at_ ≤ 10240 := by
          rw [hat]; have := t3; split <;> omega
        refine lv_aload S.1 S.2.1 d_SF_writeTape_74 (lv_at hl 4 rfl) ?_
        refine lv_ifnonnull (tgt := 89) S.1 S.2.1 d_SF_writeTape_76 (by decide) ?_
        refine lv_iconst (v := nI 1) S.1 S.2.1 d_SF_writeTape_89 (by decide) ?_
        refine lv_goto (tgt := 94) S.1 S.2.1 d_SF_writeTape_90 (by decide) ?_
        refine lv_istore (lv' := [(8, .int (nI 1)), (0, .ref a), (1, .int (nI 2)), (2, .int aa), (3, .int (nI st.2.2.2.2.1)), (4, .ref x), (5, .int (nI ((af x).2.2.1))), (6, .int (nI ((af x).2.2.1))), (7, .int (nI at_))]) S.1 S.2.1 d_SF_writeTape_94 hl (by decide) rfl (fun ls hl => ?_)
        refine lv_bipush (v := (-4)) S.1 S.2.1 d_SF_writeTape_96 (by decide) ?_
        refine lv_istore (lv' := [(9, .int (-4)), (8, .int (nI 1)), (0, .ref a), (1, .int (nI 2)), (2, .int aa), (3, .int (nI st.2.2.2.2.1)), (4, .ref x), (5, .int (nI ((af x).2.2.1))), (6, .int (nI ((af x).2.2.1))), (7, .int (nI at_))]) S.1 S.2.1 d_SF_writeTape_98 hl (by decide) rfl (fun ls hl => ?_)
        refine lv_iload S.1 S.2.1 d_SF_writeTape_100 (lv_at hl 1 rfl) ?_
        refine lv_if_eq (tgt := 163) S.1 S.2.1 d_SF_writeTape_102 (by decide) (fun c296 => ?_) (fun c296 => ?_)
        · skip
          replace c296 : 1 = 0 := (nI_eq (a := 1) (b := 0) (by omega) (by omega)).mp c296
          exact absurd c296 (by omega)
        · skip
          replace c296 : ¬ 1 = 0 := fun z => c296 ((nI_eq (a := 1) (b := 0) (by omega) (by omega)).mpr z)
          refine lv_aload_n S.1 S.2.1 d_SF_writeTape_105 rfl (lv_at hl 2 rfl) ?_
          refine gh_get S hI h0 rfl i_SF 4 (by decide) wi_74 rfl d_SF_writeTape_106 ?_
          refine lv_iload S.1 S.2.1 d_SF_writeTape_109 (lv_at hl 7 rfl) ?_
          refine lv_iload S.1 S.2.1 d_SF_writeTape_111 (lv_at hl 9 rfl) ?_
          refine gc_Vi S hI (c_Shelf_hasRoom l P f (bf := (af x).2.2.1) (at_ := at_) s1 (sum_mem (fun q => (af q).2.2.1) hx3) (by omega)) kv_Shelf_hasRoom wi_268 s1.1 rfl rfl rfl hl.1 rfl (Nat.le_of_ble_eq_true rfl) ⟨Nat.le_of_ble_eq_true rfl, Nat.le_of_ble_eq_true rfl⟩ ⟨Nat.le_of_ble_eq_true rfl, Nat.le_of_ble_eq_true rfl⟩ d_SF_writeTape_113 (fun r297 f298 H locs hp299 hI => ?_)
          obtain ⟨hp1, hp2⟩ := hp299
          subst hp1
          rw [hp2] at hI
          by_cases hc300 : at_ ≤ 8192 ∧ sumB af L - ((af x).2.2.1) + at_ ≤ 32768
          · rw [show (if at_ ≤ 8192 ∧ sumB af L - ((af x).2.2.1) + at_ ≤ 32768 then nI 1 else nI 0 : Int32) = nI 1 from if_pos hc300]
            refine lv_if_eq (tgt := 163) S.1 S.2.1 d_SF_writeTape_116 (by decide) (fun c301 => ?_) (fun c301 => ?_)
            · skip
              replace c301 : 1 = 0 := (nI_eq (a := 1) (b := 0) (by omega) (by omega)).mp c301
              exact absurd c301 (by omega)
            · skip
              replace c301 : ¬ 1 = 0 := fun z => c301 ((nI_eq (a := 1) (b := 0) (by omega) (by omega)).mpr z)
              refine lv_aload S.1 S.2.1 d_SF_writeTape_119 (lv_at hl 6 rfl) ?_
              refine lv_ifnonnull (tgt := 139) S.1 S.2.1 d_SF_writeTape_121 (by decide) ?_
              refine lv_aload S.1 S.2.1 d_SF_writeTape_139 (lv_at hl 6 rfl) ?_
              refine lv_astore (lv' := [(10, .ref x), (9, .int (-4)), (8, .int (nI 1)), (0, .ref a), (1, .int (nI 2)), (2, .int aa), (3, .int (nI st.2.2.2.2.1)), (4, .ref x), (5, .int (nI ((af x).2.2.1))), (6, .int (nI ((af x).2.2.1))), (7, .int (nI at_))]) S.1 S.2.1 d_SF_writeTape_141 hl (by decide) rfl (fun ls hl => ?_)
              refine W.widen (k := 5) (n := 526) (by omega) (by omega) ?_
              exact wr f L SF e1 c1 af x ((af x).2.2.1) ((af x).2.2.1) at_ s1 hx3 gFU.rf s3 rfl hfr8 hat hc300.1 hc300.2 (by rw [oWrite_s (fr := (af x).2.2.1) (at_ := at_) hix hgD rfl hat, if_pos (by rw [hfB]; exact hc300), map_set_up hndL hx1, s2]) _ _ hI _ (lv_sub hl [3, 9, 0] rfl)
          · rw [show (if at_ ≤ 8192 ∧ sumB af L - ((af x).2.2.1) + at_ ≤ 32768 then nI 1 else nI 0 : Int32) = nI 0 from if_neg hc300]
            refine lv_if_eq (tgt := 163) S.1 S.2.1 d_SF_writeTape_116 (by decide) (fun c302 => ?_) (fun c302 => ?_)
            · skip
              replace c302 : 0 = 0 := (nI_eq (a := 0) (b := 0) (by omega) (by omega)).mp c302
              refine W.widen (k := 43) (n := 9057) (by omega) (by omega) ?_
              exact tl f st.2.2.2.2.2 (-4) h gFU.rf (by rw [oWrite_s (fr := (af x).2.2.1) (at_ := at_) hix hgD rfl hat, if_neg (fun z => hc300 (by rw [hfB] at z; exact z))]) _ _ hI _ (lv_sub hl [2, 0] rfl)
            · skip
              replace c302 : ¬ 0 = 0 := fun z => c302 ((nI_eq (a := 0) (b := 0) (by omega) (by omega)).mpr z)
              exact absurd c302 (by omega)
      refine lv_aload_n S.1 S.2.1 d_SF_writeTape_42 rfl (lv_at hl 3 rfl) ?_
      refine gh_get S hI h0 rfl i_SF 0 (by decide) wi_70 rfl d_SF_writeTape_43 ?_
      refine gc_Vi S hI (c_Row_isEmpty l P f t1 (by omega)) kv_Row_isEmpty wi_121 t1 rfl rfl rfl hl.1 rfl (Nat.le_of_ble_eq_true rfl) ⟨Nat.le_of_ble_eq_true rfl, Nat.le_of_ble_eq_true rfl⟩ ⟨Nat.le_of_ble_eq_true rfl, Nat.le_of_ble_eq_true rfl⟩ d_SF_writeTape_46 (fun r303 f304 H locs hp305 hI => ?_)
      obtain ⟨hp1, hp2⟩ := hp305
      subst hp1
      rw [hp2] at hI
      by_cases hc306 : st.1.length = 0
      · rw [show (if st.1.length = 0 then nI 1 else nI 0 : Int32) = nI 1 from if_pos hc306]
        refine lv_if_eq (tgt := 57) S.1 S.2.1 d_SF_writeTape_49 (by decide) (fun c307 => ?_) (fun c307 => ?_)
        · skip
          replace c307 : 1 = 0 := (nI_eq (a := 1) (b := 0) (by omega) (by omega)).mp c307
          exact absurd c307 (by omega)
        · skip
          replace c307 : ¬ 1 = 0 := fun z => c307 ((nI_eq (a := 1) (b := 0) (by omega) (by omega)).mpr z)
          refine lv_iload S.1 S.2.1 d_SF_writeTape_52 (lv_at hl 1 rfl) ?_
          refine lv_goto (tgt := 72) S.1 S.2.1 d_SF_writeTape_54 (by decide) ?_
          refine lv_istore (lv' := [(7, .int (nI ((af x).2.2.1))), (6, .int (nI ((af x).2.2.1))), (5, .int (nI ((af x).2.2.1))), (4, .ref x), (0, .ref a), (1, .int (nI 2)), (2, .int aa), (3, .int (nI st.2.2.2.2.1))]) S.1 S.2.1 d_SF_writeTape_72 hl (by decide) rfl (fun ls hl => ?_)
          exact join ((af x).2.2.1) (by rw [if_pos hc306]) _ _ hI _ (lv_sub hl [4, 5, 6, 7, 3, 2, 1, 0] rfl)
      · rw [show (if st.1.length = 0 then nI 1 else nI 0 : Int32) = nI 0 from if_neg hc306]
        refine lv_if_eq (tgt := 57) S.1 S.2.1 d_SF_writeTape_49 (by decide) (fun c308 => ?_) (fun c308 => ?_)
        · skip
          replace c308 : 0 = 0 := (nI_eq (a := 0) (b := 0) (by omega) (by omega)).mp c308
          refine lv_iload S.1 S.2.1 d_SF_writeTape_57 (lv_at hl 1 rfl) ?_
          refine lv_iload S.1 S.2.1 d_SF_writeTape_59 (lv_at hl 0 rfl) ?_
          refine lv_aload_n S.1 S.2.1 d_SF_writeTape_61 rfl (lv_at hl 3 rfl) ?_
          refine gh_get S hI h0 rfl i_SF 0 (by decide) wi_70 rfl d_SF_writeTape_62 ?_
          refine gc_Vi S hI (c_Row_length l P f t1) kv_Row_length wi_80 t1 rfl rfl rfl hl.1 rfl (Nat.le_of_ble_eq_true rfl) ⟨Nat.le_of_ble_eq_true rfl, Nat.le_of_ble_eq_true rfl⟩ ⟨Nat.le_of_ble_eq_true rfl, Nat.le_of_ble_eq_true rfl⟩ d_SF_writeTape_65 (fun r309 f310 H locs hp311 hI => ?_)
          obtain ⟨hp1, hp2⟩ := hp311
          subst hp1
          rw [hp2] at hI
          have xw9 : (af x).2.2.1 ≤ 8192 := xw.1
          refine lv_iadd S.1 S.2.1 d_SF_writeTape_68 ?_
          refine lv_topi (fun v312 ev312 => ?_)
          replace ev312 : v312 = nI (((af x).2.2.1) + st.1.length) := ev312.trans (nI_add _ _)
          subst ev312
          refine gc_max S wi_267 hl.1 d_SF_writeTape_69 (by omega) (by omega) (Nat.le_of_ble_eq_true rfl) (Nat.le_of_ble_eq_true rfl) (Nat.le_of_ble_eq_true rfl) (Nat.le_of_ble_eq_true rfl) ?_
          refine lv_istore (lv' := [(7, .int (nI (max ((af x).2.2.1) (((af x).2.2.1) + st.1.length)))), (6, .int (nI ((af x).2.2.1))), (5, .int (nI ((af x).2.2.1))), (4, .ref x), (0, .ref a), (1, .int (nI 2)), (2, .int aa), (3, .int (nI st.2.2.2.2.1))]) S.1 S.2.1 d_SF_writeTape_72 hl (by decide) rfl (fun ls hl => ?_)
          exact join (max ((af x).2.2.1) (((af x).2.2.1) + st.1.length)) (by rw [if_neg hc306]) _ _ hI _ (lv_sub hl [4, 5, 6, 7, 3, 2, 1, 0] rfl)
        · skip
          replace c308 : ¬ 0 = 0 := fun z => c308 ((nI_eq (a := 0) (b := 0) (by omega) (by omega)).mpr z)
          exact absurd c308 (by omega)
