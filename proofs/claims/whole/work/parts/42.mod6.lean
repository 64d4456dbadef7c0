set_option maxRecDepth 100000 in
set_option maxHeartbeats 4000000 in
theorem c_X8_ahead {G : am_G} {μ : am_M} (A : pA) (h : InvM μ A) (ok : okA A) (x1 x2 x3 : Int32) : am_MA G yX8_ahead cX8_ahead 4 (some .int) 4 0 0 [.ref 234, .int x1, .int x2, .int x3] am_SH μ (am_P (some (.int (oAhead A x1 x2 x3).1)) am_SH (fun μ9 => InvM μ9 (oAhead A x1 x2 x3).2 ∧ am_fr μ μ9 234 14)) := by
  have h5 := ok.k.1
  refine am_ofK (own := RX8) (nm := "ahead") (L := [some (.ref 234), some (.int x1), some (.int x2), some (.int x3)]) rfl rfl (by decide +kernel) (Nat.le_of_ble_eq_true rfl) rfl ?_
  refine aw_aload_n dX8_ahead_0 rfl ?_
  refine aw_iload_n dX8_ahead_1 rfl ?_
  refine aw_v1i dX8_ahead_2 ml_X8_186 im_X8_isOffice se_X8_isOffice (c_X8_isOffice A h.sk ok.k _) sh_234 (by decide) rfl rfl (Nat.le_of_ble_eq_true rfl) (Nat.le_of_ble_eq_true rfl) (Nat.le_of_ble_eq_true rfl) (Nat.le_of_ble_eq_true rfl) (Nat.le_of_ble_eq_true rfl) ?_
  refine aw_pif_eq (tgt := 27) dX8_ahead_5 (by decide) (fun c5 => ?_) (fun c5 => ?_)
  · refine aw_ldc dX8_ahead_27 kc_X8_67 ?_
    refine aw_iret dX8_ahead_29 rfl rfl rfl rfl ?_
    exact pAnsM ((if_neg c5).trans rfl) h am_fr.rf
  · obtain ⟨k5, rfl, ha5, hb5, hz5⟩ := pIn_ex c5
    refine aw_iload_n dX8_ahead_8 rfl ?_
    refine aw_i2l dX8_ahead_9 ?_
    refine aw_lconst (v := lN 0) dX8_ahead_10 rfl ?_
    refine aw_ldc2 dX8_ahead_11 kl_X8_195 ?_
    refine aw_s3i dX8_ahead_14 ml_X8_57 st_X8_in (c_X8_in _ 0 61 (by decide +kernel) (by decide +kernel)) (Nat.le_of_ble_eq_true rfl) (Nat.le_of_ble_eq_true rfl) (Nat.le_of_ble_eq_true rfl) (Nat.le_of_ble_eq_true rfl) (Nat.le_of_ble_eq_true rfl) ?_
    refine aw_pif_eq (tgt := 27) dX8_ahead_17 (by decide) (fun c17 => ?_) (fun c17 => ?_)
    · refine aw_ldc dX8_ahead_27 kc_X8_67 ?_
      refine aw_iret dX8_ahead_29 rfl rfl rfl rfl ?_
      exact pAnsM ((if_pos c5).trans ((if_neg c17).trans rfl)) h am_fr.rf
    · obtain ⟨k17, rfl, ha17, hb17, hz17⟩ := pIn_ex c17
      refine aw_iload_n dX8_ahead_20 rfl ?_
      refine aw_s1i dX8_ahead_21 ml_X8_209 st_X8_isTwo (c_X8_isTwo _) (Nat.le_of_ble_eq_true rfl) (Nat.le_of_ble_eq_true rfl) (Nat.le_of_ble_eq_true rfl) (Nat.le_of_ble_eq_true rfl) (Nat.le_of_ble_eq_true rfl) ?_
      refine aw_pif_ne (tgt := 30) dX8_ahead_24 (by decide) (fun c24 => ?_) (fun c24 => ?_)
      · obtain ⟨k24, rfl, ha24, hb24, hz24⟩ := pIn_ex c24
        refine aw_aload_n dX8_ahead_30 rfl ?_
        refine aw_iload_n dX8_ahead_31 rfl ?_
        refine aw_v1vp dX8_ahead_32 ml_X8_212 im_X8_goAside se_X8_goAside (c_X8_goAside A h ok k17 (by omega)) sh_234 (by decide) rfl rfl (Nat.le_of_ble_eq_true rfl) (Nat.le_of_ble_eq_true rfl) (Nat.le_of_ble_eq_true rfl) (Nat.le_of_ble_eq_true rfl) (Nat.le_of_ble_eq_true rfl) (fun μ2 q2 => ?_)
        refine aw_aload_n dX8_ahead_35 rfl ?_
        refine aw_gr dX8_ahead_36 gf_X8_41 sh_234 (by rfl) ?_
        refine aw_bipush (v := nI 12) dX8_ahead_39 rfl ?_
        refine aw_iconst (v := nI 5) dX8_ahead_41 rfl ?_
        refine aw_iload_n dX8_ahead_42 rfl ?_
        refine aw_imul dX8_ahead_43 ?_
        refine aw_top (pk_mul _ _) ?_
        refine aw_iadd dX8_ahead_44 ?_
        refine aw_top (nI_add _ _) ?_
        refine aw_iload_n dX8_ahead_45 rfl ?_
        refine aw_iadd dX8_ahead_46 ?_
        refine aw_top (nI_add _ _) ?_
        refine aw_iald dX8_ahead_47 sh_245 rfl (by omega) (by decide) ?_
        refine aw_top (q2.1 (12 + 5 * k24 + k5) (by omega)) ?_
        have el := pH_L1 (o := k5) k17 A.K hb5 h5
        refine aw_iret dX8_ahead_48 rfl rfl rfl rfl ?_
        refine pAnsM ?_ (h.f2 (fun b hb => q2.2 b (by omega))) (q2.2.mono (by omega) (by omega))
        rw [oAhead, if_pos c5, if_pos c17, if_pos c24, zN_nI hz5, zN_nI hz17, ← el]
        match k24, hb24 with
        | 0, _ => rw [if_pos (by decide +kernel)]
        | 1, _ => rw [if_neg (by decide +kernel), show 12 + 5 * 1 + k5 = 17 + k5 by omega]
        | k + 2, hb => exact absurd hb (by omega)
      · refine aw_ldc dX8_ahead_27 kc_X8_67 ?_
        refine aw_iret dX8_ahead_29 rfl rfl rfl rfl ?_
        exact pAnsM ((if_pos c5).trans ((if_pos c17).trans ((if_neg c24).trans rfl))) h am_fr.rf
set_option maxRecDepth 100000 in
set_option maxHeartbeats 4000000 in
theorem l_X8_down {G : am_G} {μ : am_M} (A : pA) (h : InvM μ A) (o : Nat) : ∀ (r g : Nat) (L : pK) (μ1 : am_M), g + r = 61 → mC μ1 245 L → pOK L → L 6 + r ≤ 1000000 → o < L 5 → L 4 = A.K 4 → am_fr μ μ1 245 1 → pDn (A.K 4) r g (L (17 + o)) = pDn (A.K 4) 61 0 (A.K (17 + o)) → am_W (am_K G RX8 "down" 3 (some .int) 4 0 0 (am_P (some (.int (pDn (A.K 4) 61 0 (A.K (17 + o))))) am_SH (fun μ9 => InvM μ9 A ∧ am_fr μ μ9 234 14))) cX8_down 18 [some (.ref 234), some (.int (nI o)), some (.int (nI g))] [] am_SH μ1 0 0 := by
  intro r
  induction r with
  | zero =>
    intro g L μ1 hg hL hO h6 h5 h4 hf e
    refine aw_iload_n dX8_down_18 rfl ?_
    refine aw_bipush (v := nI 60) dX8_down_19 rfl ?_
    refine aw_icmp_gt (tgt := 51) dX8_down_21 (by decide) (fun c21 => ?_) (fun c21 => ?_)
    · refine aw_ldc dX8_down_51 kc_X8_216 ?_
      refine aw_iret dX8_down_53 rfl rfl rfl rfl ?_
      exact ⟨congrArg (fun z => some (Value.int z)) e, rfl, (h.f2 (fun b hb => hf b (by omega))), hf.mono (by omega) (by omega)⟩
    · exact absurd (nI_lt (by omega) (by omega)) c21
  | succ r ih =>
    intro g L μ1 hg hL hO h6 h5 h4 hf e
    have h55 := hO.1
    refine aw_iload_n dX8_down_18 rfl ?_
    refine aw_bipush (v := nI 60) dX8_down_19 rfl ?_
    refine aw_icmp_gt (tgt := 51) dX8_down_21 (by decide) (fun c21 => ?_) (fun c21 => ?_)
    · exact absurd c21 (nI_nlt (by omega) (by omega))
    · refine aw_aload_n dX8_down_24 rfl ?_
      refine aw_gr dX8_down_25 gf_X8_41 sh_234 (by rfl) ?_
      refine aw_bipush (v := nI 17) dX8_down_28 rfl ?_
      refine aw_iload_n dX8_down_30 rfl ?_
      refine aw_iadd dX8_down_31 ?_
      refine aw_top (nI_add _ _) ?_
      refine aw_iald dX8_down_32 sh_245 rfl (by omega) (by decide) ?_
      refine aw_top (hL (17 + o) (by omega)) ?_
      refine aw_if_ne (tgt := 38) dX8_down_33 (by decide) (fun c33 => ?_) (fun c33 => ?_)
      · rw [z_eq (by have := (hO.2.2.2.2 o (by omega)).2.2.1; omega)] at c33
        refine aw_aload_n dX8_down_38 rfl ?_
        refine aw_gr dX8_down_39 gf_X8_41 sh_234 (by rfl) ?_
        refine aw_s1vp dX8_down_42 ml_X8_175 st_X8_hourGoes (c_X8_hourGoes 245 sh_245 L hL hO) (Nat.le_of_ble_eq_true rfl) (Nat.le_of_ble_eq_true rfl) (Nat.le_of_ble_eq_true rfl) (Nat.le_of_ble_eq_true rfl) (Nat.le_of_ble_eq_true rfl) (fun μ2 q2 => ?_)
        refine aw_iinc (v := nI (g + 1)) dX8_down_45 rfl (nI_1 g) (Nat.le_of_ble_eq_true rfl) ?_
        refine aw_goto (tgt := 18) dX8_down_48 (by decide) ?_
        rw [pDn, if_neg c33] at e
        have e6 : pHour L 6 = L 6 + 1 := pHour_6
        exact ih (g + 1) (pHour L) μ2 (by omega) q2.1 (pHour_ok hO (by omega)) (by omega) (by rw [pHour_lo (by decide) (by decide)]; exact h5) (by rw [pHour_lo (by decide) (by decide)]; exact h4) (hf.tr q2.2) (by rw [pHour_h h5, h4]; exact e)
      · rw [z_eq (by have := (hO.2.2.2.2 o (by omega)).2.2.1; omega)] at c33
        refine aw_iload_n dX8_down_36 rfl ?_
        refine aw_iret dX8_down_37 rfl rfl rfl rfl ?_
        rw [pDn, if_pos c33] at e
        exact ⟨congrArg (fun z => some (Value.int z)) e, rfl, (h.f2 (fun b hb => hf b (by omega))), hf.mono (by omega) (by omega)⟩
set_option maxRecDepth 100000 in
set_option maxHeartbeats 4000000 in
theorem c_X8_down {G : am_G} {μ : am_M} (A : pA) (h : InvM μ A) (ok : okA A) (x1 : Int32) : am_MA G yX8_down cX8_down 3 (some .int) 4 0 0 [.ref 234, .int x1] am_SH μ (am_P (some (.int (oDown A x1).1)) am_SH (fun μ9 => InvM μ9 (oDown A x1).2 ∧ am_fr μ μ9 234 14)) := by
  refine am_ofK (own := RX8) (nm := "down") (L := [some (.ref 234), some (.int x1), none]) rfl rfl (by decide +kernel) (Nat.le_of_ble_eq_true rfl) rfl ?_
  refine aw_aload_n dX8_down_0 rfl ?_
  refine aw_iload_n dX8_down_1 rfl ?_
  refine aw_v1i dX8_down_2 ml_X8_186 im_X8_isOffice se_X8_isOffice (c_X8_isOffice A h.sk ok.k _) sh_234 (by decide) rfl rfl (Nat.le_of_ble_eq_true rfl) (Nat.le_of_ble_eq_true rfl) (Nat.le_of_ble_eq_true rfl) (Nat.le_of_ble_eq_true rfl) (Nat.le_of_ble_eq_true rfl) ?_
  refine aw_pif_ne (tgt := 11) dX8_down_5 (by decide) (fun c5 => ?_) (fun c5 => ?_)
  · obtain ⟨k5, rfl, ha5, hb5, hz5⟩ := pIn_ex c5
    refine aw_aload_n dX8_down_11 rfl ?_
    refine aw_iconst (v := nI 0) dX8_down_12 rfl ?_
    refine aw_v1vp dX8_down_13 ml_X8_212 im_X8_goAside se_X8_goAside (c_X8_goAside A h ok 0 (by omega)) sh_234 (by decide) rfl rfl (Nat.le_of_ble_eq_true rfl) (Nat.le_of_ble_eq_true rfl) (Nat.le_of_ble_eq_true rfl) (Nat.le_of_ble_eq_true rfl) (Nat.le_of_ble_eq_true rfl) (fun μ2 q2 => ?_)
    refine aw_iconst (v := nI 0) dX8_down_16 rfl ?_
    refine aw_istore_n dX8_down_17 (Nat.le_of_ble_eq_true rfl) ?_
    have e9 : oDown A (nI k5) = (pDn (A.K 4) 61 0 (A.K (17 + k5)), A) := by rw [oDown, if_pos c5, zN_nI hz5]
    rw [e9]
    exact l_X8_down A h k5 61 0 A.K μ2 rfl q2.1 ok.k (by have := ok.k6; omega) hb5 rfl q2.2 rfl
  · refine aw_ldc dX8_down_8 kc_X8_67 ?_
    refine aw_iret dX8_down_10 rfl rfl rfl rfl ?_
    exact pAnsM ((if_neg c5).trans rfl) h am_fr.rf
set_option maxRecDepth 100000 in
set_option maxHeartbeats 4000000 in
theorem l_X8_meet {G : am_G} {μ : am_M} (A : pA) (h : InvM μ A) (o p : Nat) : ∀ (r g : Nat) (L : pK) (μ1 : am_M), g + r = 61 → mC μ1 245 L → pOK L → L 6 + r ≤ 1000000 → o < L 5 → p < L 5 → am_fr μ μ1 245 1 → pMt o p r g L = pMt o p 61 0 A.K → am_W (am_K G RX8 "meet" 4 (some .int) 4 0 0 (am_P (some (.int (pMt o p 61 0 A.K))) am_SH (fun μ9 => InvM μ9 A ∧ am_fr μ μ9 234 14))) cX8_meet 31 [some (.ref 234), some (.int (nI o)), some (.int (nI p)), some (.int (nI g))] [] am_SH μ1 0 0 := by
  intro r
  induction r with
  | zero =>
    intro g L μ1 hg hL hO h6 h5 hp hf e
    refine aw_iload_n dX8_meet_31 rfl ?_
    refine aw_bipush (v := nI 60) dX8_meet_32 rfl ?_
    refine aw_icmp_gt (tgt := 94) dX8_meet_34 (by decide) (fun c34 => ?_) (fun c34 => ?_)
    · refine aw_ldc dX8_meet_94 kc_X8_216 ?_
      refine aw_iret dX8_meet_96 rfl rfl rfl rfl ?_
      exact ⟨congrArg (fun z => some (Value.int z)) e, rfl, (h.f2 (fun b hb => hf b (by omega))), hf.mono (by omega) (by omega)⟩
    · exact absurd (nI_lt (by omega) (by omega)) c34
  | succ r ih =>
    intro g L μ1 hg hL hO h6 h5 hp hf e
    have h55 := hO.1
    refine aw_iload_n dX8_meet_31 rfl ?_
    refine aw_bipush (v := nI 60) dX8_meet_32 rfl ?_
    refine aw_icmp_gt (tgt := 94) dX8_meet_34 (by decide) (fun c34 => ?_) (fun c34 => ?_)
    · exact absurd c34 (nI_nlt (by omega) (by omega))
    · refine aw_aload_n dX8_meet_37 rfl ?_
      refine aw_gr dX8_meet_38 gf_X8_41 sh_234 (by rfl) ?_
      refine aw_bipush (v := nI 12) dX8_meet_41 rfl ?_
      refine aw_iload_n dX8_meet_43 rfl ?_
      refine aw_iadd dX8_meet_44 ?_
      refine aw_top (nI_add _ _) ?_
      refine aw_iald dX8_meet_45 sh_245 rfl (by omega) (by decide) ?_
      refine aw_top (hL (12 + o) (by omega)) ?_
      refine aw_aload_n dX8_meet_46 rfl ?_
      refine aw_gr dX8_meet_47 gf_X8_41 sh_234 (by rfl) ?_
      refine aw_bipush (v := nI 12) dX8_meet_50 rfl ?_
      refine aw_iload_n dX8_meet_52 rfl ?_
      refine aw_iadd dX8_meet_53 ?_
      refine aw_top (nI_add _ _) ?_
      refine aw_iald dX8_meet_54 sh_245 rfl (by omega) (by decide) ?_
      refine aw_top (hL (12 + p) (by omega)) ?_
      refine aw_icmp_ne (tgt := 81) dX8_meet_55 (by decide) (fun c55 => ?_) (fun c55 => ?_)
      · rw [nI_eq (by have := (hO.2.2.2.2 o h5).2.1; omega) (by have := (hO.2.2.2.2 p hp).2.1; omega)] at c55
        rw [pMt, if_neg (fun q => c55 q.1)] at e
        refine aw_aload_n dX8_meet_81 rfl ?_
        refine aw_gr dX8_meet_82 gf_X8_41 sh_234 (by rfl) ?_
        refine aw_s1vp dX8_meet_85 ml_X8_175 st_X8_hourGoes (c_X8_hourGoes 245 sh_245 L hL hO) (Nat.le_of_ble_eq_true rfl) (Nat.le_of_ble_eq_true rfl) (Nat.le_of_ble_eq_true rfl) (Nat.le_of_ble_eq_true rfl) (Nat.le_of_ble_eq_true rfl) (fun μ2 q2 => ?_)
        refine aw_iinc (v := nI (g + 1)) dX8_meet_88 rfl (nI_1 g) (Nat.le_of_ble_eq_true rfl) ?_
        refine aw_goto (tgt := 31) dX8_meet_91 (by decide) ?_
        have e6 : pHour L 6 = L 6 + 1 := pHour_6
        exact ih (g + 1) (pHour L) μ2 (by omega) q2.1 (pHour_ok hO (by omega)) (by omega) (by rw [pHour_lo (by decide) (by decide)]; exact h5) (by rw [pHour_lo (by decide) (by decide)]; exact hp) (hf.tr q2.2) e
      · rw [nI_eq (by have := (hO.2.2.2.2 o h5).2.1; omega) (by have := (hO.2.2.2.2 p hp).2.1; omega)] at c55
        refine aw_aload_n dX8_meet_58 rfl ?_
        refine aw_gr dX8_meet_59 gf_X8_41 sh_234 (by rfl) ?_
        refine aw_bipush (v := nI 17) dX8_meet_62 rfl ?_
        refine aw_iload_n dX8_meet_64 rfl ?_
        refine aw_iadd dX8_meet_65 ?_
        refine aw_top (nI_add _ _) ?_
        refine aw_iald dX8_meet_66 sh_245 rfl (by omega) (by decide) ?_
        refine aw_top (hL (17 + o) (by omega)) ?_
        refine aw_aload_n dX8_meet_67 rfl ?_
        refine aw_gr dX8_meet_68 gf_X8_41 sh_234 (by rfl) ?_
        refine aw_bipush (v := nI 17) dX8_meet_71 rfl ?_
        refine aw_iload_n dX8_meet_73 rfl ?_
        refine aw_iadd dX8_meet_74 ?_
        refine aw_top (nI_add _ _) ?_
        refine aw_iald dX8_meet_75 sh_245 rfl (by omega) (by decide) ?_
        refine aw_top (hL (17 + p) (by omega)) ?_
        refine aw_icmp_ne (tgt := 81) dX8_meet_76 (by decide) (fun c76 => ?_) (fun c76 => ?_)
        · rw [nI_eq (by have := (hO.2.2.2.2 o h5).2.2.1; omega) (by have := (hO.2.2.2.2 p hp).2.2.1; omega)] at c76
          rw [pMt, if_neg (fun q => c76 q.2)] at e
          refine aw_aload_n dX8_meet_81 rfl ?_
          refine aw_gr dX8_meet_82 gf_X8_41 sh_234 (by rfl) ?_
          refine aw_s1vp dX8_meet_85 ml_X8_175 st_X8_hourGoes (c_X8_hourGoes 245 sh_245 L hL hO) (Nat.le_of_ble_eq_true rfl) (Nat.le_of_ble_eq_true rfl) (Nat.le_of_ble_eq_true rfl) (Nat.le_of_ble_eq_true rfl) (Nat.le_of_ble_eq_true rfl) (fun μ2 q2 => ?_)
          refine aw_iinc (v := nI (g + 1)) dX8_meet_88 rfl (nI_1 g) (Nat.le_of_ble_eq_true rfl) ?_
          refine aw_goto (tgt := 31) dX8_meet_91 (by decide) ?_
          have e6 : pHour L 6 = L 6 + 1 := pHour_6
          exact ih (g + 1) (pHour L) μ2 (by omega) q2.1 (pHour_ok hO (by omega)) (by omega) (by rw [pHour_lo (by decide) (by decide)]; exact h5) (by rw [pHour_lo (by decide) (by decide)]; exact hp) (hf.tr q2.2) e
        · rw [nI_eq (by have := (hO.2.2.2.2 o h5).2.2.1; omega) (by have := (hO.2.2.2.2 p hp).2.2.1; omega)] at c76
          rw [pMt, if_pos ⟨c55, c76⟩] at e
          refine aw_iload_n dX8_meet_79 rfl ?_
          refine aw_iret dX8_meet_80 rfl rfl rfl rfl ?_
          exact ⟨congrArg (fun z => some (Value.int z)) e, rfl, (h.f2 (fun b hb => hf b (by omega))), hf.mono (by omega) (by omega)⟩
set_option maxRecDepth 100000 in
set_option maxHeartbeats 4000000 in
theorem c_X8_meet {G : am_G} {μ : am_M} (A : pA) (h : InvM μ A) (ok : okA A) (x1 x2 : Int32) : am_MA G yX8_meet cX8_meet 4 (some .int) 4 0 0 [.ref 234, .int x1, .int x2] am_SH μ (am_P (some (.int (oMeet A x1 x2).1)) am_SH (fun μ9 => InvM μ9 (oMeet A x1 x2).2 ∧ am_fr μ μ9 234 14)) := by
  refine am_ofK (own := RX8) (nm := "meet") (L := [some (.ref 234), some (.int x1), some (.int x2), none]) rfl rfl (by decide +kernel) (Nat.le_of_ble_eq_true rfl) rfl ?_
  refine aw_aload_n dX8_meet_0 rfl ?_
  refine aw_iload_n dX8_meet_1 rfl ?_
  refine aw_v1i dX8_meet_2 ml_X8_186 im_X8_isOffice se_X8_isOffice (c_X8_isOffice A h.sk ok.k _) sh_234 (by decide) rfl rfl (Nat.le_of_ble_eq_true rfl) (Nat.le_of_ble_eq_true rfl) (Nat.le_of_ble_eq_true rfl) (Nat.le_of_ble_eq_true rfl) (Nat.le_of_ble_eq_true rfl) ?_
  refine aw_pif_eq (tgt := 21) dX8_meet_5 (by decide) (fun c5 => ?_) (fun c5 => ?_)
  · refine aw_ldc dX8_meet_21 kc_X8_67 ?_
    refine aw_iret dX8_meet_23 rfl rfl rfl rfl ?_
    exact pAnsM ((if_neg c5).trans rfl) h am_fr.rf
  · obtain ⟨k5, rfl, ha5, hb5, hz5⟩ := pIn_ex c5
    refine aw_aload_n dX8_meet_8 rfl ?_
    refine aw_iload_n dX8_meet_9 rfl ?_
    refine aw_v1i dX8_meet_10 ml_X8_186 im_X8_isOffice se_X8_isOffice (c_X8_isOffice A h.sk ok.k _) sh_234 (by decide) rfl rfl (Nat.le_of_ble_eq_true rfl) (Nat.le_of_ble_eq_true rfl) (Nat.le_of_ble_eq_true rfl) (Nat.le_of_ble_eq_true rfl) (Nat.le_of_ble_eq_true rfl) ?_
    refine aw_pif_eq (tgt := 21) dX8_meet_13 (by decide) (fun c13 => ?_) (fun c13 => ?_)
    · refine aw_ldc dX8_meet_21 kc_X8_67 ?_
      refine aw_iret dX8_meet_23 rfl rfl rfl rfl ?_
      exact pAnsM ((if_pos c5).trans ((if_neg c13).trans rfl)) h am_fr.rf
    · obtain ⟨k13, rfl, ha13, hb13, hz13⟩ := pIn_ex c13
      refine aw_iload_n dX8_meet_16 rfl ?_
      refine aw_iload_n dX8_meet_17 rfl ?_
      refine aw_icmp_ne (tgt := 24) dX8_meet_18 (by decide) (fun c18 => ?_) (fun c18 => ?_)
      · refine aw_aload_n dX8_meet_24 rfl ?_
        refine aw_iconst (v := nI 0) dX8_meet_25 rfl ?_
        refine aw_v1vp dX8_meet_26 ml_X8_212 im_X8_goAside se_X8_goAside (c_X8_goAside A h ok 0 (by omega)) sh_234 (by decide) rfl rfl (Nat.le_of_ble_eq_true rfl) (Nat.le_of_ble_eq_true rfl) (Nat.le_of_ble_eq_true rfl) (Nat.le_of_ble_eq_true rfl) (Nat.le_of_ble_eq_true rfl) (fun μ2 q2 => ?_)
        refine aw_iconst (v := nI 0) dX8_meet_29 rfl ?_
        refine aw_istore_n dX8_meet_30 (Nat.le_of_ble_eq_true rfl) ?_
        have e9 : oMeet A (nI k5) (nI k13) = (pMt k5 k13 61 0 A.K, A) := by rw [oMeet, if_pos c5, if_pos c13, if_neg c18, zN_nI hz5, zN_nI hz13]
        rw [e9]
        exact l_X8_meet A h k5 k13 61 0 A.K μ2 rfl q2.1 ok.k (by have := ok.k6; omega) hb5 hb13 q2.2 rfl
      · refine aw_ldc dX8_meet_21 kc_X8_67 ?_
        refine aw_iret dX8_meet_23 rfl rfl rfl rfl ?_
        exact pAnsM ((if_pos c5).trans ((if_pos c13).trans ((if_pos c18).trans rfl))) h am_fr.rf
theorem pIn2_lt {K : pK} (l : Nat) (h : K 5 ≤ 5) : pIn2 K l < 32 := by
  have := pSet_lt (fun o => decide (K (12 + o) = l)) (K 5)
  have : 2 ^ K 5 ≤ 2 ^ 5 := Nat.pow_le_pow_right (by decide) h
  unfold pIn2
  omega
set_option maxRecDepth 100000 in
set_option maxHeartbeats 4000000 in
theorem c_X8_over {G : am_G} {μ : am_M} (A : pA) (h : InvM μ A) (ok : okA A) (x1 x2 : Int32) : am_MA G yX8_over cX8_over 3 (some .int) 4 0 0 [.ref 234, .int x1, .int x2] am_SH μ (am_P (some (.int (oOver A x1 x2).1)) am_SH (fun μ9 => InvM μ9 (oOver A x1 x2).2 ∧ am_fr μ μ9 234 14)) := by
  refine am_ofK (own := RX8) (nm := "over") (L := [some (.ref 234), some (.int x1), some (.int x2)]) rfl rfl (by decide +kernel) (Nat.le_of_ble_eq_true rfl) rfl ?_
  refine aw_aload_n dX8_over_0 rfl ?_
  refine aw_gi dX8_over_1 gf_X8_137 sh_234 (by rfl) ?_
  refine aw_top h.is ?_
  refine aw_pif_ne (tgt := 10) dX8_over_4 (by decide) (fun s4 => ?_) (fun s4 => ?_)
  · refine aw_iload_n dX8_over_10 rfl ?_
    refine aw_s1i dX8_over_11 ml_X8_203 st_X8_isLand (c_X8_isLand _) (Nat.le_of_ble_eq_true rfl) (Nat.le_of_ble_eq_true rfl) (Nat.le_of_ble_eq_true rfl) (Nat.le_of_ble_eq_true rfl) (Nat.le_of_ble_eq_true rfl) ?_
    refine aw_pif_eq (tgt := 29) dX8_over_14 (by decide) (fun c14 => ?_) (fun c14 => ?_)
    · refine aw_ldc dX8_over_29 kc_X8_67 ?_
      refine aw_iret dX8_over_31 rfl rfl rfl rfl ?_
      exact pAnsM ((if_neg s4).trans ((if_neg c14).trans rfl)) h am_fr.rf
    · obtain ⟨k14, rfl, ha14, hb14, hz14⟩ := pIn_ex c14
      refine aw_iload_n dX8_over_17 rfl ?_
      refine aw_i2l dX8_over_18 ?_
      refine aw_lconst (v := lN 0) dX8_over_19 rfl ?_
      refine aw_ldc2 dX8_over_20 kl_X8_195 ?_
      refine aw_s3i dX8_over_23 ml_X8_57 st_X8_in (c_X8_in _ 0 61 (by decide +kernel) (by decide +kernel)) (Nat.le_of_ble_eq_true rfl) (Nat.le_of_ble_eq_true rfl) (Nat.le_of_ble_eq_true rfl) (Nat.le_of_ble_eq_true rfl) (Nat.le_of_ble_eq_true rfl) ?_
      refine aw_pif_ne (tgt := 32) dX8_over_26 (by decide) (fun c26 => ?_) (fun c26 => ?_)
      · obtain ⟨k26, rfl, ha26, hb26, hz26⟩ := pIn_ex c26
        refine aw_aload_n dX8_over_32 rfl ?_
        refine aw_iload_n dX8_over_33 rfl ?_
        refine aw_v1vp dX8_over_34 ml_X8_212 im_X8_goAside se_X8_goAside (c_X8_goAside A h ok k26 (by omega)) sh_234 (by decide) rfl rfl (Nat.le_of_ble_eq_true rfl) (Nat.le_of_ble_eq_true rfl) (Nat.le_of_ble_eq_true rfl) (Nat.le_of_ble_eq_true rfl) (Nat.le_of_ble_eq_true rfl) (fun μ2 q2 => ?_)
        have hp := (pH_ok k26 A.K ok.k (by have := ok.k6; omega)).1
        refine aw_aload_n dX8_over_37 rfl ?_
        refine aw_gr dX8_over_38 gf_X8_41 sh_234 (by rfl) ?_
        refine aw_iload_n dX8_over_41 rfl ?_
        refine aw_s2i dX8_over_42 ml_X8_206 st_X8_overOn (c_X8_overOn 245 sh_245 (pH k26 A.K) q2.1 hp k14 (by omega)) (Nat.le_of_ble_eq_true rfl) (Nat.le_of_ble_eq_true rfl) (Nat.le_of_ble_eq_true rfl) (Nat.le_of_ble_eq_true rfl) (Nat.le_of_ble_eq_true rfl) ?_
        refine aw_s1i dX8_over_45 ml_X8_183 st_X8_bits (c_X8_bits (pIn2 (pH k26 A.K) k14) (pIn2_lt _ hp.1)) (Nat.le_of_ble_eq_true rfl) (Nat.le_of_ble_eq_true rfl) (Nat.le_of_ble_eq_true rfl) (Nat.le_of_ble_eq_true rfl) (Nat.le_of_ble_eq_true rfl) ?_
        refine aw_iret dX8_over_48 rfl rfl rfl rfl ?_
        refine pAnsM ?_ (h.f2 (fun b hb => q2.2 b (by omega))) (q2.2.mono (by omega) (by omega))
        rw [oOver, if_neg s4, if_pos c14, if_pos c26, zN_nI hz14, zN_nI hz26]
      · refine aw_ldc dX8_over_29 kc_X8_67 ?_
        refine aw_iret dX8_over_31 rfl rfl rfl rfl ?_
        exact pAnsM ((if_neg s4).trans ((if_pos c14).trans ((if_neg c26).trans rfl))) h am_fr.rf
  · replace s4 := Decidable.not_not.mp s4
    refine aw_ldc dX8_over_7 kc_X8_169 ?_
    refine aw_iret dX8_over_9 rfl rfl rfl rfl ?_
    exact pAnsM ((if_pos s4).trans rfl) h am_fr.rf
theorem InvM.img {μ μ' : am_M} {A : pA} {j : Nat} {K : pK} (h : InvM μ A) (hj : j < 2) (h5 : ¬ K 5 = 0) (e : ∀ b, 234 ≤ b ∧ b < 244 ∧ b ≠ 241 ∧ b ≠ 242 → μ' b = μ b) (q1 : mO μ' 241 (32 * j) K) (q2 : ∀ q, q < 32 * j ∨ 32 * j + 32 ≤ q → μ' 241 q = μ 241 q) (q3 : μ' 242 j = nI 1) (q4 : ∀ k, k ≠ j → μ' 242 k = μ 242 k) : InvM μ' (A.sI (iUp A.im j K)) := by
  have e1 : ∀ j, j < 15 → μ' 234 j = μ 234 j := fun j _ => by rw [e 234 (by omega)]
  refine ⟨fun r hr => (h.rows r hr).fr (e 235 (by omega)) (e 236 (by omega)) (e 237 (by omega)), (e1 3 (by decide)).trans h.fi, (e1 5 (by decide)).trans h.tl, fun j hj => by rw [e 238 (by omega)]; exact h.tp j hj, (e1 6 (by decide)).trans h.fa, (e1 7 (by decide)).trans h.is, h.sk.fr (e 239 (by omega)), (e1 9 (by decide)).trans h.acn, fun i K hi => (h.ac i K hi).fr (e 240 (by omega)), fun k hk => ?_, fun k hk h0 => ?_, (e1 13 (by decide)).trans h.trn, fun i x hi => by rw [e 243 (by omega)]; exact h.tr i x hi⟩
  · show μ' 242 k = pI (¬ iUp A.im j K k 5 = 0)
    by_cases ek : k = j
    · subst ek; rw [iUp_s, q3, pI_1 h5]; rfl
    · rw [iUp_n ek, q4 k ek]; exact h.sv k hk
  · replace h0 : ¬ iUp A.im j K k 5 = 0 := h0
    show mO μ' 241 (32 * k) (iUp A.im j K k)
    by_cases ek : k = j
    · subst ek; rw [iUp_s]; exact q1
    · rw [iUp_n ek] at h0 ⊢
      intro i hi
      rw [q2 _ (by omega)]
      exact h.im k hk h0 i hi
set_option maxRecDepth 100000 in
set_option maxHeartbeats 4000000 in
theorem c_X8_image {G : am_G} {μ : am_M} (A : pA) (h : InvM μ A) (ok : okA A) (x1 : Int32) : am_MA G yX8_image cX8_image 2 (some .int) 2 0 0 [.ref 234, .int x1] am_SH μ (am_P (some (.int (oImage A x1).1)) am_SH (fun μ9 => InvM μ9 (oImage A x1).2 ∧ am_fr μ μ9 234 14)) := by
  refine am_ofK (own := RX8) (nm := "image") (L := [some (.ref 234), some (.int x1)]) rfl rfl (by decide +kernel) (Nat.le_of_ble_eq_true rfl) rfl ?_
  refine aw_iload_n dX8_image_0 rfl ?_
  refine aw_s1i dX8_image_1 ml_X8_209 st_X8_isTwo (c_X8_isTwo _) (Nat.le_of_ble_eq_true rfl) (Nat.le_of_ble_eq_true rfl) (Nat.le_of_ble_eq_true rfl) (Nat.le_of_ble_eq_true rfl) (Nat.le_of_ble_eq_true rfl) ?_
  refine aw_pif_ne (tgt := 10) dX8_image_4 (by decide) (fun c4 => ?_) (fun c4 => ?_)
  · obtain ⟨k4, rfl, ha4, hb4, hz4⟩ := pIn_ex c4
    refine aw_aload_n dX8_image_10 rfl ?_
    refine aw_gi dX8_image_11 gf_X8_137 sh_234 (by rfl) ?_
    refine aw_top h.is ?_
    refine aw_pif_ne (tgt := 20) dX8_image_14 (by decide) (fun s14 => ?_) (fun s14 => ?_)
    · refine aw_aload_n dX8_image_20 rfl ?_
      refine aw_gr dX8_image_21 gf_X8_22 sh_234 (by rfl) ?_
      refine aw_iconst (v := nI 0) dX8_image_24 rfl ?_
      refine aw_aload_n dX8_image_25 rfl ?_
      refine aw_gr dX8_image_26 gf_X8_28 sh_234 (by rfl) ?_
      refine aw_bipush (v := nI 32) dX8_image_29 rfl ?_
      refine aw_iload_n dX8_image_31 rfl ?_
      refine aw_imul dX8_image_32 ?_
      refine aw_top (pk_mul _ _) ?_
      refine aw_s4vp dX8_image_33 ml_X8_144 st_X8_copies (c_X8_copies 239 241 0 (32 * k4) 32 64 sh_239 sh_241 (by decide) (by decide) (by omega) (by decide) (by decide)) (Nat.le_of_ble_eq_true rfl) (Nat.le_of_ble_eq_true rfl) (Nat.le_of_ble_eq_true rfl) (Nat.le_of_ble_eq_true rfl) (Nat.le_of_ble_eq_true rfl) (fun μ2 q2 => ?_)
      refine aw_aload_n dX8_image_36 rfl ?_
      refine aw_gr dX8_image_37 gf_X8_31 sh_234 (by rfl) ?_
      refine aw_iload_n dX8_image_40 rfl ?_
      refine aw_iconst (v := nI 1) dX8_image_41 rfl ?_
      refine aw_zast dX8_image_42 sh_242 rfl (by omega) (by decide) rfl ?_
      refine aw_iconst (v := nI 1) dX8_image_43 rfl ?_
      refine aw_iret dX8_image_44 rfl rfl rfl rfl ?_
      refine pAnsM (A2 := A.sI (iUp A.im k4 A.K)) ?_ (h.img hb4 s14 (fun b hb => by rw [am_up_n (by omega)]; exact q2.2.2 b (by omega)) (fun j hj => ?_) (fun q hq => by rw [am_upn (by decide)]; exact q2.2.1 q hq) (by rw [am_ups, pk_us]) (fun k hk => by rw [am_ups, pk_un hk, q2.2.2 242 (by omega)])) ((q2.2.2.mono (by omega) (by omega)).up (by omega) (by omega))
      · rw [oImage, if_pos c4, if_neg s14, zN_nI hz4]
      · rw [am_upn (by decide), q2.1 j hj, Nat.zero_add]; exact h.sk j hj
    · replace s14 := Decidable.not_not.mp s14
      refine aw_ldc dX8_image_17 kc_X8_169 ?_
      refine aw_iret dX8_image_19 rfl rfl rfl rfl ?_
      exact pAnsM ((if_pos c4).trans ((if_pos s14).trans rfl)) h am_fr.rf
  · refine aw_ldc dX8_image_7 kc_X8_67 ?_
    refine aw_iret dX8_image_9 rfl rfl rfl rfl ?_
    exact pAnsM ((if_neg c4).trans rfl) h am_fr.rf
theorem InvM.rst {μ μ' : am_M} {A : pA} {K : pK} (h : InvM μ A) (h5 : ¬ K 5 = 0) (e : ∀ b, 235 ≤ b ∧ b < 244 ∧ b ≠ 239 → μ' b = μ b) (e1 : ∀ j, j < 15 ∧ j ≠ 9 → μ' 234 j = μ 234 j) (hs : mC μ' 239 K) (hi : ¬ A.K 5 = 0) (hn : μ' 234 9 = nI 0) : InvM μ' (A.sK K []) :=
  h.sky (fun b hb => e b (by omega)) e1 hs ⟨fun q => absurd q h5, fun q => absurd q hi⟩ hn (fun i K hi => absurd hi (by simp))
set_option maxRecDepth 100000 in
set_option maxHeartbeats 4000000 in
theorem c_X8_restore {G : am_G} {μ : am_M} (A : pA) (h : InvM μ A) (ok : okA A) (hi5 : ∀ k, k < 2 → ¬ A.im k 5 = 0 → ¬ A.K 5 = 0) (x1 : Int32) : am_MA G yX8_restore cX8_restore 2 (some .int) 2 0 0 [.ref 234, .int x1] am_SH μ (am_P (some (.int (oRestore A x1).1)) am_SH (fun μ9 => InvM μ9 (oRestore A x1).2 ∧ am_fr μ μ9 234 14)) := by
  refine am_ofK (own := RX8) (nm := "restore") (L := [some (.ref 234), some (.int x1)]) rfl rfl (by decide +kernel) (Nat.le_of_ble_eq_true rfl) rfl ?_
  refine aw_iload_n dX8_restore_0 rfl ?_
  refine aw_s1i dX8_restore_1 ml_X8_209 st_X8_isTwo (c_X8_isTwo _) (Nat.le_of_ble_eq_true rfl) (Nat.le_of_ble_eq_true rfl) (Nat.le_of_ble_eq_true rfl) (Nat.le_of_ble_eq_true rfl) (Nat.le_of_ble_eq_true rfl) ?_
  refine aw_pif_ne (tgt := 10) dX8_restore_4 (by decide) (fun c4 => ?_) (fun c4 => ?_)
  · obtain ⟨k4, rfl, ha4, hb4, hz4⟩ := pIn_ex c4
    refine aw_aload_n dX8_restore_10 rfl ?_
    refine aw_gr dX8_restore_11 gf_X8_31 sh_234 (by rfl) ?_
    refine aw_iload_n dX8_restore_14 rfl ?_
    refine aw_zald dX8_restore_15 sh_242 rfl (by omega) (by decide) ?_
    refine aw_top (h.sv k4 hb4) ?_
    refine aw_pif_ne (tgt := 22) dX8_restore_16 (by decide) (fun c16 => ?_) (fun c16 => ?_)
    · refine aw_aload_n dX8_restore_22 rfl ?_
      refine aw_gr dX8_restore_23 gf_X8_28 sh_234 (by rfl) ?_
      refine aw_bipush (v := nI 32) dX8_restore_26 rfl ?_
      refine aw_iload_n dX8_restore_28 rfl ?_
      refine aw_imul dX8_restore_29 ?_
      refine aw_top (pk_mul _ _) ?_
      refine aw_aload_n dX8_restore_30 rfl ?_
      refine aw_gr dX8_restore_31 gf_X8_22 sh_234 (by rfl) ?_
      refine aw_iconst (v := nI 0) dX8_restore_34 rfl ?_
      refine aw_s4vp dX8_restore_35 ml_X8_144 st_X8_copies (c_X8_copies 241 239 (32 * k4) 0 64 32 sh_241 sh_239 (by decide) (by omega) (by decide) (by decide) (by decide)) (Nat.le_of_ble_eq_true rfl) (Nat.le_of_ble_eq_true rfl) (Nat.le_of_ble_eq_true rfl) (Nat.le_of_ble_eq_true rfl) (Nat.le_of_ble_eq_true rfl) (fun μ2 q2 => ?_)
      refine aw_aload_n dX8_restore_38 rfl ?_
      refine aw_iconst (v := nI 0) dX8_restore_39 rfl ?_
      refine aw_pi dX8_restore_40 pf_X8_141 rfl rfl sh_234 (by rfl) ?_
      refine aw_iconst (v := nI 1) dX8_restore_43 rfl ?_
      refine aw_iret dX8_restore_44 rfl rfl rfl rfl ?_
      refine pAnsM (A2 := A.sK (A.im k4) []) ?_ (h.rst c16 (fun b hb => by rw [am_up_n (by omega)]; exact q2.2.2 b (by omega)) (fun j hj => by rw [am_ups, pk_un (by omega), q2.2.2 234 (by omega)]) (fun j hj => ?_) (hi5 k4 hb4 c16) (by rw [am_ups, pk_us])) ((q2.2.2.mono (by omega) (by omega)).up (by omega) (by omega))
      · rw [oRestore, if_pos c4, zN_nI hz4, if_neg c16]
      · have e1 := q2.1 j hj
        rw [Nat.zero_add] at e1
        rw [am_upn (by decide), e1]
        exact h.im k4 hb4 c16 j hj
    · replace c16 := Decidable.not_not.mp c16
      refine aw_ldc dX8_restore_19 kc_X8_169 ?_
      refine aw_iret dX8_restore_21 rfl rfl rfl rfl ?_
      refine pAnsM ?_ h am_fr.rf
      rw [oRestore, if_pos c4, zN_nI hz4, if_pos c16]
  · refine aw_ldc dX8_restore_7 kc_X8_67 ?_
    refine aw_iret dX8_restore_9 rfl rfl rfl rfl ?_
    exact pAnsM ((if_neg c4).trans rfl) h am_fr.rf
