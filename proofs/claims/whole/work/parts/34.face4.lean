theorem pFly_lt {K : pK} (h : K 5 ≤ 5) : pFly K < 32 := by
  have := pSet_lt (fun o => decide (0 < K (17 + o))) (K 5)
  have : 2 ^ K 5 ≤ 2 ^ 5 := Nat.pow_le_pow_right (by decide) h
  unfold pFly
  omega
set_option maxRecDepth 100000 in
set_option maxHeartbeats 4000000 in
theorem l_X7_hours {G : am_G} {μ : am_M} (A : pA) (n : Nat) (hn : n < 25) : ∀ (r i : Nat) (B : pA) (μ1 : am_M), i + r = n → InvC μ1 B → pOK B.K → B.K 6 + r ≤ 1000000 → am_fr μ μ1 0 234 → pHrs r B = pHrs n A → am_W (am_K G RX7 "hours" 3 (some .int) 4 0 0 (am_P (some (.int (nI (pCnt (pFly (pHrs n A).K))))) am_SH (fun μ9 => InvC μ9 (pHrs n A) ∧ am_fr μ μ9 0 234))) cX7_hours 43 [some (.ref 0), some (.int (nI n)), some (.int (nI i))] [] am_SH μ1 0 0 := by
  intro r
  induction r with
  | zero =>
    intro i B μ1 hi hB hk h6 hf e
    have e2 : B = pHrs n A := e
    subst e2
    refine aw_iload_n dX7_hours_43 rfl ?_
    refine aw_iload_n dX7_hours_44 rfl ?_
    refine aw_icmp_ge (tgt := 72) dX7_hours_45 (by decide) (fun c45 => ?_) (fun c45 => ?_)
    · refine aw_aload_n dX7_hours_72 rfl ?_
      refine aw_gr dX7_hours_73 gf_X7_30 sh_0 (by rfl) ?_
      refine aw_v0i dX7_hours_76 ml_X7_159 im_X5_floating se_X5_floating (c_X5_floating 27 sh_sky27 _ hB.sk hk) sh_sky27.1 (by decide) rfl rfl (Nat.le_of_ble_eq_true rfl) (Nat.le_of_ble_eq_true rfl) (Nat.le_of_ble_eq_true rfl) (Nat.le_of_ble_eq_true rfl) (Nat.le_of_ble_eq_true rfl) ?_
      refine aw_s1i dX7_hours_79 ml_X7_163 st_J6_bitCount_0f7a4 (c_J6_bitCount_0f7a4 (pFly (pHrs n A).K) (pFly_lt hk.1)) (Nat.le_of_ble_eq_true rfl) (Nat.le_of_ble_eq_true rfl) (Nat.le_of_ble_eq_true rfl) (Nat.le_of_ble_eq_true rfl) (Nat.le_of_ble_eq_true rfl) ?_
      refine aw_iret dX7_hours_82 rfl rfl rfl rfl ?_
      exact ⟨rfl, rfl, hB, hf⟩
    · exact absurd (nI_le (by omega) (by omega)) c45
  | succ r ih =>
    intro i B μ1 hi hB hk h6 hf e
    refine aw_iload_n dX7_hours_43 rfl ?_
    refine aw_iload_n dX7_hours_44 rfl ?_
    refine aw_icmp_ge (tgt := 72) dX7_hours_45 (by decide) (fun c45 => ?_) (fun c45 => ?_)
    · exact absurd c45 (nI_ge (by omega) (by omega))
    · refine aw_aload_n dX7_hours_48 rfl ?_
      refine aw_gr dX7_hours_49 gf_X7_36 sh_0 (by rfl) ?_
      refine aw_aload_n dX7_hours_52 rfl ?_
      refine aw_gr dX7_hours_53 gf_X7_30 sh_0 (by rfl) ?_
      refine aw_v1vp dX7_hours_56 ml_X7_153 im_X0_keep se_X0_keep (c_X0_keep B.ac hB.ac B.K hB.sk hk) sh_34 (by decide) rfl rfl (Nat.le_of_ble_eq_true rfl) (Nat.le_of_ble_eq_true rfl) (Nat.le_of_ble_eq_true rfl) (Nat.le_of_ble_eq_true rfl) (Nat.le_of_ble_eq_true rfl) (fun μ2 q2 => ?_)
      refine aw_aload_n dX7_hours_59 rfl ?_
      refine aw_gr dX7_hours_60 gf_X7_30 sh_0 (by rfl) ?_
      refine aw_v0vp dX7_hours_63 ml_X7_156 im_X5_passHour se_X5_passHour (c_X5_passHour 27 sh_sky27 B.K (hB.sk.fr (fun b _ _ => q2.2 b (by omega))) hk) sh_sky27.1 (by decide) rfl rfl (Nat.le_of_ble_eq_true rfl) (Nat.le_of_ble_eq_true rfl) (Nat.le_of_ble_eq_true rfl) (Nat.le_of_ble_eq_true rfl) (Nat.le_of_ble_eq_true rfl) (fun μ3 q3 => ?_)
      refine aw_iinc (v := nI (i + 1)) dX7_hours_66 rfl (nI_1 i) (Nat.le_of_ble_eq_true rfl) ?_
      refine aw_goto (tgt := 43) dX7_hours_69 (by decide) ?_
      have e6 : pHour B.K 6 = B.K 6 + 1 := pHour_6
      exact ih (i + 1) (B.act (pHour B.K)) μ3 (by omega) (hB.sky q3.1 (q2.1.fr (fun b _ _ => q3.2 b (by omega))) (fun b hb => by rw [q3.2 b (by omega)]; exact q2.2 b (by omega))) (pHour_ok hk (by omega)) (show pHour B.K 6 + r ≤ 1000000 by omega) ((hf.tr (q2.2.mono (by omega) (by omega))).tr (q3.2.mono (by omega) (by omega))) e
set_option maxRecDepth 100000 in
set_option maxHeartbeats 4000000 in
theorem c_X7_hours {G : am_G} {μ : am_M} (A : pA) (h : InvC μ A) (ok : okA A) (x1 : Int32) : am_MA G yX7_hours cX7_hours 3 (some .int) 4 0 0 [.ref 0, .int x1] am_SH μ (am_P (some (.int (oHours A x1).1)) am_SH (fun μ9 => InvC μ9 (oHours A x1).2 ∧ am_fr μ μ9 0 234)) := by
  refine am_ofK (own := RX7) (nm := "hours") (L := [some (.ref 0), some (.int x1), none]) rfl rfl (by decide +kernel) (Nat.le_of_ble_eq_true rfl) rfl ?_
  refine aw_aload_n dX7_hours_0 rfl ?_
  refine aw_v0i dX7_hours_1 ml_X7_145 im_X7_noSky se_X7_noSky (c_X7_noSky A h.sk ok.k) sh_0 (by decide) rfl rfl (Nat.le_of_ble_eq_true rfl) (Nat.le_of_ble_eq_true rfl) (Nat.le_of_ble_eq_true rfl) (Nat.le_of_ble_eq_true rfl) (Nat.le_of_ble_eq_true rfl) ?_
  refine aw_pif_eq (tgt := 10) dX7_hours_4 (by decide) (fun c4 => ?_) (fun c4 => ?_)
  · refine aw_iload_n dX7_hours_10 rfl ?_
    refine aw_iconst (v := nI 1) dX7_hours_11 rfl ?_
    refine aw_bipush (v := nI 24) dX7_hours_12 rfl ?_
    refine aw_s3i dX7_hours_14 ml_X7_71 st_X7_within (c_X7_within _ 1 25 rfl (by decide +kernel) (by decide) (by decide)) (Nat.le_of_ble_eq_true rfl) (Nat.le_of_ble_eq_true rfl) (Nat.le_of_ble_eq_true rfl) (Nat.le_of_ble_eq_true rfl) (Nat.le_of_ble_eq_true rfl) ?_
    refine aw_pif_ne (tgt := 23) dX7_hours_17 (by decide) (fun c17 => ?_) (fun c17 => ?_)
    · obtain ⟨k17, rfl, ha17, hb17, hz17⟩ := pIn_ex c17
      refine aw_aload_n dX7_hours_23 rfl ?_
      refine aw_gr dX7_hours_24 gf_X7_30 sh_0 (by rfl) ?_
      refine aw_gi dX7_hours_27 gf_X7_149 sh_sky27.1 (by rfl) ?_
      refine aw_top h.sk.2.2.1 ?_
      refine aw_iload_n dX7_hours_30 rfl ?_
      refine aw_iadd dX7_hours_31 ?_
      refine aw_top (nI_add _ _) ?_
      refine aw_sipush (v := nI 999) dX7_hours_32 rfl ?_
      refine aw_icmp_le (tgt := 41) dX7_hours_35 (by decide) (fun c35 => ?_) (fun c35 => ?_)
      · rw [nI_leI (by have := ok.k6; omega) (by decide)] at c35
        refine aw_iconst (v := nI 0) dX7_hours_41 rfl ?_
        refine aw_istore_n dX7_hours_42 (Nat.le_of_ble_eq_true rfl) ?_
        have e9 : oHours A (nI k17) = (nI (pCnt (pFly (pHrs k17 A).K)), pHrs k17 A) := by rw [oHours, if_neg c4, if_pos c17, zN_nI hz17, if_pos c35]
        rw [e9]
        exact l_X7_hours A k17 (by omega) k17 0 A μ (by omega) h ok.k (by have := ok.k6; omega) am_fr.rf rfl
      · rw [nI_leI (by have := ok.k6; omega) (by decide)] at c35
        refine aw_ldc dX7_hours_38 kc_X7_152 ?_
        refine aw_iret dX7_hours_40 rfl rfl rfl rfl ?_
        refine pAns ?_ h am_fr.rf
        rw [oHours, if_neg c4, if_pos c17, zN_nI hz17, if_neg c35]
    · refine aw_ldc dX7_hours_20 kc_X7_75 ?_
      refine aw_iret dX7_hours_22 rfl rfl rfl rfl ?_
      exact pAns ((if_neg c4).trans ((if_neg c17).trans rfl)) h am_fr.rf
  · refine aw_ldc dX7_hours_7 kc_X7_141 ?_
    refine aw_iret dX7_hours_9 rfl rfl rfl rfl ?_
    exact pAns ((if_pos c4).trans rfl) h am_fr.rf
set_option maxRecDepth 100000 in
set_option maxHeartbeats 4000000 in
theorem c_X7_land {G : am_G} {μ : am_M} (A : pA) (h : InvC μ A) (ok : okA A) (x1 : Int32) : am_MA G yX7_land cX7_land 2 (some .int) 2 0 0 [.ref 0, .int x1] am_SH μ (am_P (some (.int (oLand A x1).1)) am_SH (fun μ9 => InvC μ9 (oLand A x1).2 ∧ am_fr μ μ9 0 234)) := by
  refine am_ofK (own := RX7) (nm := "land") (L := [some (.ref 0), some (.int x1)]) rfl rfl (by decide +kernel) (Nat.le_of_ble_eq_true rfl) rfl ?_
  refine aw_aload_n dX7_land_0 rfl ?_
  refine aw_v0i dX7_land_1 ml_X7_145 im_X7_noSky se_X7_noSky (c_X7_noSky A h.sk ok.k) sh_0 (by decide) rfl rfl (Nat.le_of_ble_eq_true rfl) (Nat.le_of_ble_eq_true rfl) (Nat.le_of_ble_eq_true rfl) (Nat.le_of_ble_eq_true rfl) (Nat.le_of_ble_eq_true rfl) ?_
  refine aw_pif_eq (tgt := 10) dX7_land_4 (by decide) (fun c4 => ?_) (fun c4 => ?_)
  · refine aw_iload_n dX7_land_10 rfl ?_
    refine aw_s1i dX7_land_11 ml_X7_198 st_X7_isLand (c_X7_isLand _) (Nat.le_of_ble_eq_true rfl) (Nat.le_of_ble_eq_true rfl) (Nat.le_of_ble_eq_true rfl) (Nat.le_of_ble_eq_true rfl) (Nat.le_of_ble_eq_true rfl) ?_
    refine aw_pif_eq (tgt := 28) dX7_land_14 (by decide) (fun c14 => ?_) (fun c14 => ?_)
    · refine aw_ldc dX7_land_28 kc_X7_75 ?_
      refine aw_iret dX7_land_30 rfl rfl rfl rfl ?_
      exact pAns ((if_neg c4).trans ((if_neg c14).trans rfl)) h am_fr.rf
    · obtain ⟨k14, rfl, ha14, hb14, hz14⟩ := pIn_ex c14
      refine aw_aload_n dX7_land_17 rfl ?_
      refine aw_gr dX7_land_18 gf_X7_30 sh_0 (by rfl) ?_
      refine aw_iload_n dX7_land_21 rfl ?_
      refine aw_v1i dX7_land_22 ml_X7_201 im_X5_officesIn se_X5_officesIn (c_X5_officesIn 27 sh_sky27 A.K h.sk ok.k k14 (by omega)) sh_sky27.1 (by decide) rfl rfl (Nat.le_of_ble_eq_true rfl) (Nat.le_of_ble_eq_true rfl) (Nat.le_of_ble_eq_true rfl) (Nat.le_of_ble_eq_true rfl) (Nat.le_of_ble_eq_true rfl) ?_
      refine aw_goto (tgt := 30) dX7_land_25 (by decide) ?_
      refine aw_iret dX7_land_30 rfl rfl rfl rfl ?_
      refine pAns ?_ h am_fr.rf
      rw [oLand, if_neg c4, if_pos c14, zN_nI hz14]
      rfl
  · refine aw_ldc dX7_land_7 kc_X7_141 ?_
    refine aw_iret dX7_land_9 rfl rfl rfl rfl ?_
    exact pAns ((if_pos c4).trans rfl) h am_fr.rf
set_option maxRecDepth 100000 in
set_option maxHeartbeats 4000000 in
theorem c_X7_ahead {G : am_G} {μ : am_M} (A : pA) (h : InvC μ A) (ok : okA A) (x1 x2 x3 : Int32) : am_MA G yX7_ahead cX7_ahead 4 (some .int) 4 0 0 [.ref 0, .int x1, .int x2, .int x3] am_SH μ (am_P (some (.int (oAhead A x1 x2 x3).1)) am_SH (fun μ9 => InvC μ9 (oAhead A x1 x2 x3).2 ∧ am_fr μ μ9 0 234)) := by
  refine am_ofK (own := RX7) (nm := "ahead") (L := [some (.ref 0), some (.int x1), some (.int x2), some (.int x3)]) rfl rfl (by decide +kernel) (Nat.le_of_ble_eq_true rfl) rfl ?_
  refine aw_aload_n dX7_ahead_0 rfl ?_
  refine aw_iload_n dX7_ahead_1 rfl ?_
  refine aw_v1i dX7_ahead_2 ml_X7_168 im_X7_isOffice se_X7_isOffice (c_X7_isOffice A h.sk ok.k _) sh_0 (by decide) rfl rfl (Nat.le_of_ble_eq_true rfl) (Nat.le_of_ble_eq_true rfl) (Nat.le_of_ble_eq_true rfl) (Nat.le_of_ble_eq_true rfl) (Nat.le_of_ble_eq_true rfl) ?_
  refine aw_pif_eq (tgt := 25) dX7_ahead_5 (by decide) (fun c5 => ?_) (fun c5 => ?_)
  · refine aw_ldc dX7_ahead_25 kc_X7_75 ?_
    refine aw_iret dX7_ahead_27 rfl rfl rfl rfl ?_
    exact pAns ((if_neg c5).trans rfl) h am_fr.rf
  · obtain ⟨k5, rfl, ha5, hb5, hz5⟩ := pIn_ex c5
    refine aw_iload_n dX7_ahead_8 rfl ?_
    refine aw_iconst (v := nI 0) dX7_ahead_9 rfl ?_
    refine aw_bipush (v := nI 60) dX7_ahead_10 rfl ?_
    refine aw_s3i dX7_ahead_12 ml_X7_71 st_X7_within (c_X7_within _ 0 61 rfl (by decide +kernel) (by decide) (by decide)) (Nat.le_of_ble_eq_true rfl) (Nat.le_of_ble_eq_true rfl) (Nat.le_of_ble_eq_true rfl) (Nat.le_of_ble_eq_true rfl) (Nat.le_of_ble_eq_true rfl) ?_
    refine aw_pif_eq (tgt := 25) dX7_ahead_15 (by decide) (fun c15 => ?_) (fun c15 => ?_)
    · refine aw_ldc dX7_ahead_25 kc_X7_75 ?_
      refine aw_iret dX7_ahead_27 rfl rfl rfl rfl ?_
      exact pAns ((if_pos c5).trans ((if_neg c15).trans rfl)) h am_fr.rf
    · obtain ⟨k15, rfl, ha15, hb15, hz15⟩ := pIn_ex c15
      refine aw_iload_n dX7_ahead_18 rfl ?_
      refine aw_s1i dX7_ahead_19 ml_X7_204 st_X7_isOneOfTwo (c_X7_isOneOfTwo _) (Nat.le_of_ble_eq_true rfl) (Nat.le_of_ble_eq_true rfl) (Nat.le_of_ble_eq_true rfl) (Nat.le_of_ble_eq_true rfl) (Nat.le_of_ble_eq_true rfl) ?_
      refine aw_pif_ne (tgt := 28) dX7_ahead_22 (by decide) (fun c22 => ?_) (fun c22 => ?_)
      · obtain ⟨k22, rfl, ha22, hb22, hz22⟩ := pIn_ex c22
        refine aw_iload_n dX7_ahead_28 rfl ?_
        refine aw_if_ne (tgt := 44) dX7_ahead_29 (by decide) (fun c29 => ?_) (fun c29 => ?_)
        · refine aw_aload_n dX7_ahead_44 rfl ?_
          refine aw_gr dX7_ahead_45 gf_X7_49 sh_0 (by rfl) ?_
          refine aw_iload_n dX7_ahead_48 rfl ?_
          refine aw_iload_n dX7_ahead_49 rfl ?_
          refine aw_v2i dX7_ahead_50 ml_X7_210 im_X2_heightBehind se_X2_heightBehind (c_X2_heightBehind A.K h.sk ok.k k5 hb5 k15 (by omega)) sh_219 (by decide) rfl rfl (Nat.le_of_ble_eq_true rfl) (Nat.le_of_ble_eq_true rfl) (Nat.le_of_ble_eq_true rfl) (Nat.le_of_ble_eq_true rfl) (Nat.le_of_ble_eq_true rfl) ?_
          refine aw_iret dX7_ahead_53 rfl rfl rfl rfl ?_
          refine pAns ?_ h am_fr.rf
          rw [oAhead, if_pos c5, if_pos c15, if_pos c22, if_neg c29, zN_nI hz5, zN_nI hz15]
        · refine aw_aload_n dX7_ahead_32 rfl ?_
          refine aw_gr dX7_ahead_33 gf_X7_49 sh_0 (by rfl) ?_
          refine aw_iload_n dX7_ahead_36 rfl ?_
          refine aw_iload_n dX7_ahead_37 rfl ?_
          refine aw_v2i dX7_ahead_38 ml_X7_207 im_X2_landBehind se_X2_landBehind (c_X2_landBehind A.K h.sk ok.k k5 hb5 k15 (by omega)) sh_219 (by decide) rfl rfl (Nat.le_of_ble_eq_true rfl) (Nat.le_of_ble_eq_true rfl) (Nat.le_of_ble_eq_true rfl) (Nat.le_of_ble_eq_true rfl) (Nat.le_of_ble_eq_true rfl) ?_
          refine aw_goto (tgt := 53) dX7_ahead_41 (by decide) ?_
          refine aw_iret dX7_ahead_53 rfl rfl rfl rfl ?_
          refine pAns ?_ h am_fr.rf
          rw [oAhead, if_pos c5, if_pos c15, if_pos c22, if_pos c29, zN_nI hz5, zN_nI hz15]
      · refine aw_ldc dX7_ahead_25 kc_X7_75 ?_
        refine aw_iret dX7_ahead_27 rfl rfl rfl rfl ?_
        exact pAns ((if_pos c5).trans ((if_pos c15).trans ((if_neg c22).trans rfl))) h am_fr.rf
set_option maxRecDepth 100000 in
set_option maxHeartbeats 4000000 in
theorem c_X7_down {G : am_G} {μ : am_M} (A : pA) (h : InvC μ A) (ok : okA A) (x1 : Int32) : am_MA G yX7_down cX7_down 2 (some .int) 3 0 0 [.ref 0, .int x1] am_SH μ (am_P (some (.int (oDown A x1).1)) am_SH (fun μ9 => InvC μ9 (oDown A x1).2 ∧ am_fr μ μ9 0 234)) := by
  refine am_ofK (own := RX7) (nm := "down") (L := [some (.ref 0), some (.int x1)]) rfl rfl (by decide +kernel) (Nat.le_of_ble_eq_true rfl) rfl ?_
  refine aw_aload_n dX7_down_0 rfl ?_
  refine aw_iload_n dX7_down_1 rfl ?_
  refine aw_v1i dX7_down_2 ml_X7_168 im_X7_isOffice se_X7_isOffice (c_X7_isOffice A h.sk ok.k _) sh_0 (by decide) rfl rfl (Nat.le_of_ble_eq_true rfl) (Nat.le_of_ble_eq_true rfl) (Nat.le_of_ble_eq_true rfl) (Nat.le_of_ble_eq_true rfl) (Nat.le_of_ble_eq_true rfl) ?_
  refine aw_pif_eq (tgt := 19) dX7_down_5 (by decide) (fun c5 => ?_) (fun c5 => ?_)
  · refine aw_ldc dX7_down_19 kc_X7_75 ?_
    refine aw_iret dX7_down_21 rfl rfl rfl rfl ?_
    exact pAns ((if_neg c5).trans rfl) h am_fr.rf
  · obtain ⟨k5, rfl, ha5, hb5, hz5⟩ := pIn_ex c5
    refine aw_aload_n dX7_down_8 rfl ?_
    refine aw_gr dX7_down_9 gf_X7_49 sh_0 (by rfl) ?_
    refine aw_iload_n dX7_down_12 rfl ?_
    refine aw_v1i dX7_down_13 ml_X7_213 im_X2_hoursToGround se_X2_hoursToGround (c_X2_hoursToGround A.K h.sk ok.k k5 hb5) sh_219 (by decide) rfl rfl (Nat.le_of_ble_eq_true rfl) (Nat.le_of_ble_eq_true rfl) (Nat.le_of_ble_eq_true rfl) (Nat.le_of_ble_eq_true rfl) (Nat.le_of_ble_eq_true rfl) ?_
    refine aw_goto (tgt := 21) dX7_down_16 (by decide) ?_
    refine aw_iret dX7_down_21 rfl rfl rfl rfl ?_
    refine pAns ?_ h am_fr.rf
    rw [oDown, if_pos c5, zN_nI hz5]
set_option maxRecDepth 100000 in
set_option maxHeartbeats 4000000 in
theorem c_X7_meet {G : am_G} {μ : am_M} (A : pA) (h : InvC μ A) (ok : okA A) (x1 x2 : Int32) : am_MA G yX7_meet cX7_meet 3 (some .int) 5 0 0 [.ref 0, .int x1, .int x2] am_SH μ (am_P (some (.int (oMeet A x1 x2).1)) am_SH (fun μ9 => InvC μ9 (oMeet A x1 x2).2 ∧ am_fr μ μ9 0 234)) := by
  refine am_ofK (own := RX7) (nm := "meet") (L := [some (.ref 0), some (.int x1), some (.int x2)]) rfl rfl (by decide +kernel) (Nat.le_of_ble_eq_true rfl) rfl ?_
  refine aw_aload_n dX7_meet_0 rfl ?_
  refine aw_iload_n dX7_meet_1 rfl ?_
  refine aw_v1i dX7_meet_2 ml_X7_168 im_X7_isOffice se_X7_isOffice (c_X7_isOffice A h.sk ok.k _) sh_0 (by decide) rfl rfl (Nat.le_of_ble_eq_true rfl) (Nat.le_of_ble_eq_true rfl) (Nat.le_of_ble_eq_true rfl) (Nat.le_of_ble_eq_true rfl) (Nat.le_of_ble_eq_true rfl) ?_
  refine aw_pif_eq (tgt := 21) dX7_meet_5 (by decide) (fun c5 => ?_) (fun c5 => ?_)
  · refine aw_ldc dX7_meet_21 kc_X7_75 ?_
    refine aw_iret dX7_meet_23 rfl rfl rfl rfl ?_
    exact pAns ((if_neg c5).trans rfl) h am_fr.rf
  · obtain ⟨k5, rfl, ha5, hb5, hz5⟩ := pIn_ex c5
    refine aw_aload_n dX7_meet_8 rfl ?_
    refine aw_iload_n dX7_meet_9 rfl ?_
    refine aw_v1i dX7_meet_10 ml_X7_168 im_X7_isOffice se_X7_isOffice (c_X7_isOffice A h.sk ok.k _) sh_0 (by decide) rfl rfl (Nat.le_of_ble_eq_true rfl) (Nat.le_of_ble_eq_true rfl) (Nat.le_of_ble_eq_true rfl) (Nat.le_of_ble_eq_true rfl) (Nat.le_of_ble_eq_true rfl) ?_
    refine aw_pif_eq (tgt := 21) dX7_meet_13 (by decide) (fun c13 => ?_) (fun c13 => ?_)
    · refine aw_ldc dX7_meet_21 kc_X7_75 ?_
      refine aw_iret dX7_meet_23 rfl rfl rfl rfl ?_
      exact pAns ((if_pos c5).trans ((if_neg c13).trans rfl)) h am_fr.rf
    · obtain ⟨k13, rfl, ha13, hb13, hz13⟩ := pIn_ex c13
      refine aw_iload_n dX7_meet_16 rfl ?_
      refine aw_iload_n dX7_meet_17 rfl ?_
      refine aw_icmp_ne (tgt := 24) dX7_meet_18 (by decide) (fun c18 => ?_) (fun c18 => ?_)
      · refine aw_aload_n dX7_meet_24 rfl ?_
        refine aw_gr dX7_meet_25 gf_X7_49 sh_0 (by rfl) ?_
        refine aw_iload_n dX7_meet_28 rfl ?_
        refine aw_iload_n dX7_meet_29 rfl ?_
        refine aw_v2ip dX7_meet_30 ml_X7_216 im_X2_hoursToMeeting se_X2_hoursToMeeting (c_X2_hoursToMeeting A.K h.sk ok.k ok.k6 k5 hb5 k13 hb13) sh_219 (by decide) rfl rfl (Nat.le_of_ble_eq_true rfl) (Nat.le_of_ble_eq_true rfl) (Nat.le_of_ble_eq_true rfl) (Nat.le_of_ble_eq_true rfl) (Nat.le_of_ble_eq_true rfl) (fun μ2 q2 => ?_)
        refine aw_iret dX7_meet_33 rfl rfl rfl rfl ?_
        refine pAns ?_ (h.fr (fun b hb => q2 b (by omega))) (q2.mono (by omega) (by omega))
        rw [oMeet, if_pos c5, if_pos c13, if_neg c18, zN_nI hz5, zN_nI hz13]
      · refine aw_ldc dX7_meet_21 kc_X7_75 ?_
        refine aw_iret dX7_meet_23 rfl rfl rfl rfl ?_
        exact pAns ((if_pos c5).trans ((if_pos c13).trans ((if_pos c18).trans rfl))) h am_fr.rf
set_option maxRecDepth 100000 in
set_option maxHeartbeats 4000000 in
theorem c_X7_over {G : am_G} {μ : am_M} (A : pA) (h : InvC μ A) (ok : okA A) (x1 x2 : Int32) : am_MA G yX7_over cX7_over 3 (some .int) 5 0 0 [.ref 0, .int x1, .int x2] am_SH μ (am_P (some (.int (oOver A x1 x2).1)) am_SH (fun μ9 => InvC μ9 (oOver A x1 x2).2 ∧ am_fr μ μ9 0 234)) := by
  refine am_ofK (own := RX7) (nm := "over") (L := [some (.ref 0), some (.int x1), some (.int x2)]) rfl rfl (by decide +kernel) (Nat.le_of_ble_eq_true rfl) rfl ?_
  refine aw_aload_n dX7_over_0 rfl ?_
  refine aw_v0i dX7_over_1 ml_X7_145 im_X7_noSky se_X7_noSky (c_X7_noSky A h.sk ok.k) sh_0 (by decide) rfl rfl (Nat.le_of_ble_eq_true rfl) (Nat.le_of_ble_eq_true rfl) (Nat.le_of_ble_eq_true rfl) (Nat.le_of_ble_eq_true rfl) (Nat.le_of_ble_eq_true rfl) ?_
  refine aw_pif_eq (tgt := 10) dX7_over_4 (by decide) (fun c4 => ?_) (fun c4 => ?_)
  · refine aw_iload_n dX7_over_10 rfl ?_
    refine aw_s1i dX7_over_11 ml_X7_198 st_X7_isLand (c_X7_isLand _) (Nat.le_of_ble_eq_true rfl) (Nat.le_of_ble_eq_true rfl) (Nat.le_of_ble_eq_true rfl) (Nat.le_of_ble_eq_true rfl) (Nat.le_of_ble_eq_true rfl) ?_
    refine aw_pif_eq (tgt := 27) dX7_over_14 (by decide) (fun c14 => ?_) (fun c14 => ?_)
    · refine aw_ldc dX7_over_27 kc_X7_75 ?_
      refine aw_iret dX7_over_29 rfl rfl rfl rfl ?_
      exact pAns ((if_neg c4).trans ((if_neg c14).trans rfl)) h am_fr.rf
    · obtain ⟨k14, rfl, ha14, hb14, hz14⟩ := pIn_ex c14
      refine aw_iload_n dX7_over_17 rfl ?_
      refine aw_iconst (v := nI 0) dX7_over_18 rfl ?_
      refine aw_bipush (v := nI 60) dX7_over_19 rfl ?_
      refine aw_s3i dX7_over_21 ml_X7_71 st_X7_within (c_X7_within _ 0 61 rfl (by decide +kernel) (by decide) (by decide)) (Nat.le_of_ble_eq_true rfl) (Nat.le_of_ble_eq_true rfl) (Nat.le_of_ble_eq_true rfl) (Nat.le_of_ble_eq_true rfl) (Nat.le_of_ble_eq_true rfl) ?_
      refine aw_pif_ne (tgt := 30) dX7_over_24 (by decide) (fun c24 => ?_) (fun c24 => ?_)
      · obtain ⟨k24, rfl, ha24, hb24, hz24⟩ := pIn_ex c24
        refine aw_aload_n dX7_over_30 rfl ?_
        refine aw_gr dX7_over_31 gf_X7_49 sh_0 (by rfl) ?_
        refine aw_iload_n dX7_over_34 rfl ?_
        refine aw_iload_n dX7_over_35 rfl ?_
        refine aw_v2ip dX7_over_36 ml_X7_219 im_X2_officesBehind se_X2_officesBehind (c_X2_officesBehind A.K h.sk ok.k ok.k6 k14 k24 (by omega) (by omega)) sh_219 (by decide) rfl rfl (Nat.le_of_ble_eq_true rfl) (Nat.le_of_ble_eq_true rfl) (Nat.le_of_ble_eq_true rfl) (Nat.le_of_ble_eq_true rfl) (Nat.le_of_ble_eq_true rfl) (fun μ2 q2 => ?_)
        refine aw_iret dX7_over_39 rfl rfl rfl rfl ?_
        refine pAns ?_ (h.fr (fun b hb => q2 b (by omega))) (q2.mono (by omega) (by omega))
        rw [oOver, if_neg c4, if_pos c14, if_pos c24, zN_nI hz14, zN_nI hz24]
        rfl
      · refine aw_ldc dX7_over_27 kc_X7_75 ?_
        refine aw_iret dX7_over_29 rfl rfl rfl rfl ?_
        exact pAns ((if_neg c4).trans ((if_pos c14).trans ((if_neg c24).trans rfl))) h am_fr.rf
  · refine aw_ldc dX7_over_7 kc_X7_141 ?_
    refine aw_iret dX7_over_9 rfl rfl rfl rfl ?_
    exact pAns ((if_pos c4).trans rfl) h am_fr.rf
set_option maxRecDepth 100000 in
set_option maxHeartbeats 4000000 in
theorem c_X7_rule {G : am_G} {μ : am_M} (A : pA) (h : InvC μ A) (ok : okA A) (x1 x2 : Int32) : am_MA G yX7_rule cX7_rule 4 (some .int) 5 0 0 [.ref 0, .int x1, .int x2] am_SH μ (am_P (some (.int (oRule A x1 x2).1)) am_SH (fun μ9 => InvC μ9 (oRule A x1 x2).2 ∧ am_fr μ μ9 0 234)) := by
  refine am_ofK (own := RX7) (nm := "rule") (L := [some (.ref 0), some (.int x1), some (.int x2), none]) rfl rfl (by decide +kernel) (Nat.le_of_ble_eq_true rfl) rfl ?_
  refine aw_aload_n dX7_rule_0 rfl ?_
  refine aw_v0i dX7_rule_1 ml_X7_145 im_X7_noSky se_X7_noSky (c_X7_noSky A h.sk ok.k) sh_0 (by decide) rfl rfl (Nat.le_of_ble_eq_true rfl) (Nat.le_of_ble_eq_true rfl) (Nat.le_of_ble_eq_true rfl) (Nat.le_of_ble_eq_true rfl) (Nat.le_of_ble_eq_true rfl) ?_
  refine aw_pif_eq (tgt := 10) dX7_rule_4 (by decide) (fun c4 => ?_) (fun c4 => ?_)
  · refine aw_iload_n dX7_rule_10 rfl ?_
    refine aw_iconst (v := nI 1) dX7_rule_11 rfl ?_
    refine aw_bipush (v := nI 60) dX7_rule_12 rfl ?_
    refine aw_s3i dX7_rule_14 ml_X7_71 st_X7_within (c_X7_within _ 1 61 rfl (by decide +kernel) (by decide) (by decide)) (Nat.le_of_ble_eq_true rfl) (Nat.le_of_ble_eq_true rfl) (Nat.le_of_ble_eq_true rfl) (Nat.le_of_ble_eq_true rfl) (Nat.le_of_ble_eq_true rfl) ?_
    refine aw_pif_eq (tgt := 27) dX7_rule_17 (by decide) (fun c17 => ?_) (fun c17 => ?_)
    · refine aw_ldc dX7_rule_27 kc_X7_75 ?_
      refine aw_iret dX7_rule_29 rfl rfl rfl rfl ?_
      exact pAns ((if_neg c4).trans ((if_neg c17).trans rfl)) h am_fr.rf
    · obtain ⟨k17, rfl, ha17, hb17, hz17⟩ := pIn_ex c17
      refine aw_iload_n dX7_rule_20 rfl ?_
      refine aw_s1i dX7_rule_21 ml_X7_204 st_X7_isOneOfTwo (c_X7_isOneOfTwo _) (Nat.le_of_ble_eq_true rfl) (Nat.le_of_ble_eq_true rfl) (Nat.le_of_ble_eq_true rfl) (Nat.le_of_ble_eq_true rfl) (Nat.le_of_ble_eq_true rfl) ?_
      refine aw_pif_ne (tgt := 30) dX7_rule_24 (by decide) (fun c24 => ?_) (fun c24 => ?_)
      · obtain ⟨k24, rfl, ha24, hb24, hz24⟩ := pIn_ex c24
        refine aw_aload_n dX7_rule_30 rfl ?_
        refine aw_gr dX7_rule_31 gf_X7_49 sh_0 (by rfl) ?_
        refine aw_iload_n dX7_rule_34 rfl ?_
        refine aw_v1ip dX7_rule_35 ml_X7_249 im_X2_landRuled se_X2_landRuled (c_X2_landRuled A.K h.sk ok.k ok.k6 k17 (by omega)) sh_219 (by decide) rfl rfl (Nat.le_of_ble_eq_true rfl) (Nat.le_of_ble_eq_true rfl) (Nat.le_of_ble_eq_true rfl) (Nat.le_of_ble_eq_true rfl) (Nat.le_of_ble_eq_true rfl) (fun μ2 q2 => ?_)
        have hbs := pBs_le (pRl k17 A.K (fun _ => 0)) 9
        refine aw_istore_n dX7_rule_38 (Nat.le_of_ble_eq_true rfl) ?_
        refine aw_iload_n dX7_rule_39 rfl ?_
        refine aw_if_ne (tgt := 47) dX7_rule_40 (by decide) (fun c40 => ?_) (fun c40 => ?_)
        · refine aw_aload_n dX7_rule_47 rfl ?_
          refine aw_gr dX7_rule_48 gf_X7_49 sh_0 (by rfl) ?_
          refine aw_gr dX7_rule_51 gf_X7_252 sh_219 (by rfl) ?_
          refine aw_iload_n dX7_rule_54 rfl ?_
          refine aw_iald dX7_rule_55 sh_228 rfl (by omega) (by decide) ?_
          refine aw_top (q2.1 _ (by omega)) ?_
          refine aw_iret dX7_rule_56 rfl rfl rfl rfl ?_
          refine pAns ?_ (h.fr (fun b hb => q2.2 b (by omega))) (q2.2.mono (by omega) (by omega))
          rw [oRule, if_neg c4, if_pos c17, if_pos c24, if_neg c40, zN_nI hz17]
          rfl
        · refine aw_iload_n dX7_rule_43 rfl ?_
          refine aw_goto (tgt := 56) dX7_rule_44 (by decide) ?_
          refine aw_iret dX7_rule_56 rfl rfl rfl rfl ?_
          refine pAns ?_ (h.fr (fun b hb => q2.2 b (by omega))) (q2.2.mono (by omega) (by omega))
          rw [oRule, if_neg c4, if_pos c17, if_pos c24, if_pos c40, zN_nI hz17]
          rfl
      · refine aw_ldc dX7_rule_27 kc_X7_75 ?_
        refine aw_iret dX7_rule_29 rfl rfl rfl rfl ?_
        exact pAns ((if_neg c4).trans ((if_pos c17).trans ((if_neg c24).trans rfl))) h am_fr.rf
  · refine aw_ldc dX7_rule_7 kc_X7_141 ?_
    refine aw_iret dX7_rule_9 rfl rfl rfl rfl ?_
    exact pAns ((if_pos c4).trans rfl) h am_fr.rf
set_option maxRecDepth 100000 in
set_option maxHeartbeats 4000000 in
theorem c_X7_lasts {G : am_G} {μ : am_M} (A : pA) (h : InvC μ A) (ok : okA A) (x1 : Int32) : am_MA G yX7_lasts cX7_lasts 2 (some .int) 4 0 0 [.ref 0, .int x1] am_SH μ (am_P (some (.int (oLasts A x1).1)) am_SH (fun μ9 => InvC μ9 (oLasts A x1).2 ∧ am_fr μ μ9 0 234)) := by
  have h5 := ok.k.1
  refine am_ofK (own := RX7) (nm := "lasts") (L := [some (.ref 0), some (.int x1)]) rfl rfl (by decide +kernel) (Nat.le_of_ble_eq_true rfl) rfl ?_
  refine aw_aload_n dX7_lasts_0 rfl ?_
  refine aw_iload_n dX7_lasts_1 rfl ?_
  refine aw_v1i dX7_lasts_2 ml_X7_168 im_X7_isOffice se_X7_isOffice (c_X7_isOffice A h.sk ok.k _) sh_0 (by decide) rfl rfl (Nat.le_of_ble_eq_true rfl) (Nat.le_of_ble_eq_true rfl) (Nat.le_of_ble_eq_true rfl) (Nat.le_of_ble_eq_true rfl) (Nat.le_of_ble_eq_true rfl) ?_
  refine aw_pif_ne (tgt := 11) dX7_lasts_5 (by decide) (fun c5 => ?_) (fun c5 => ?_)
  · obtain ⟨k5, rfl, ha5, hb5, hz5⟩ := pIn_ex c5
    refine aw_aload_n dX7_lasts_11 rfl ?_
    refine aw_gr dX7_lasts_12 gf_X7_49 sh_0 (by rfl) ?_
    refine aw_iload_n dX7_lasts_15 rfl ?_
    refine aw_aload_n dX7_lasts_16 rfl ?_
    refine aw_gr dX7_lasts_17 gf_X7_30 sh_0 (by rfl) ?_
    refine aw_gr dX7_lasts_20 gf_X7_171 sh_sky27.1 (by rfl) ?_
    refine aw_iload_n dX7_lasts_23 rfl ?_
    refine aw_iald dX7_lasts_24 sh_sky27.2.2.2.2.2.1 rfl (by omega) (by decide) ?_
    refine aw_top (h.sk.2.2.2.2 k5 hb5).2.2.2.1 ?_
    refine aw_bipush (v := nI 99) dX7_lasts_25 rfl ?_
    refine aw_v3i dX7_lasts_27 ml_X7_255 im_X2_hoursUp se_X2_hoursUp (c_X2_hoursUp A.K h.sk ok.k k5 hb5 (A.K (22 + k5)) 99 (by omega) (ok.k.2.2.2.2 k5 hb5).2.2.2) sh_219 (by decide) rfl rfl (Nat.le_of_ble_eq_true rfl) (Nat.le_of_ble_eq_true rfl) (Nat.le_of_ble_eq_true rfl) (Nat.le_of_ble_eq_true rfl) (Nat.le_of_ble_eq_true rfl) ?_
    refine aw_iret dX7_lasts_30 rfl rfl rfl rfl ?_
    refine pAns ?_ h am_fr.rf
    rw [oLasts, if_pos c5, zN_nI hz5]
  · refine aw_ldc dX7_lasts_8 kc_X7_75 ?_
    refine aw_iret dX7_lasts_10 rfl rfl rfl rfl ?_
    exact pAns ((if_neg c5).trans rfl) h am_fr.rf
set_option maxRecDepth 100000 in
set_option maxHeartbeats 4000000 in
theorem c_X7_kept {G : am_G} {μ : am_M} (A : pA) (h : InvC μ A) (ok : okA A) (x1 x2 : Int32) : am_MA G yX7_kept cX7_kept 3 (some .int) 5 0 0 [.ref 0, .int x1, .int x2] am_SH μ (am_P (some (.int (oKept A x1 x2).1)) am_SH (fun μ9 => InvC μ9 (oKept A x1 x2).2 ∧ am_fr μ μ9 0 234)) := by
  refine am_ofK (own := RX7) (nm := "kept") (L := [some (.ref 0), some (.int x1), some (.int x2)]) rfl rfl (by decide +kernel) (Nat.le_of_ble_eq_true rfl) rfl ?_
  refine aw_aload_n dX7_kept_0 rfl ?_
  refine aw_iload_n dX7_kept_1 rfl ?_
  refine aw_v1i dX7_kept_2 ml_X7_168 im_X7_isOffice se_X7_isOffice (c_X7_isOffice A h.sk ok.k _) sh_0 (by decide) rfl rfl (Nat.le_of_ble_eq_true rfl) (Nat.le_of_ble_eq_true rfl) (Nat.le_of_ble_eq_true rfl) (Nat.le_of_ble_eq_true rfl) (Nat.le_of_ble_eq_true rfl) ?_
  refine aw_pif_eq (tgt := 18) dX7_kept_5 (by decide) (fun c5 => ?_) (fun c5 => ?_)
  · refine aw_ldc dX7_kept_18 kc_X7_75 ?_
    refine aw_iret dX7_kept_20 rfl rfl rfl rfl ?_
    exact pAns ((if_neg c5).trans rfl) h am_fr.rf
  · obtain ⟨k5, rfl, ha5, hb5, hz5⟩ := pIn_ex c5
    refine aw_iload_n dX7_kept_8 rfl ?_
    refine aw_iconst (v := nI 1) dX7_kept_9 rfl ?_
    refine aw_bipush (v := nI 24) dX7_kept_10 rfl ?_
    refine aw_s3i dX7_kept_12 ml_X7_71 st_X7_within (c_X7_within _ 1 25 rfl (by decide +kernel) (by decide) (by decide)) (Nat.le_of_ble_eq_true rfl) (Nat.le_of_ble_eq_true rfl) (Nat.le_of_ble_eq_true rfl) (Nat.le_of_ble_eq_true rfl) (Nat.le_of_ble_eq_true rfl) ?_
    refine aw_pif_ne (tgt := 21) dX7_kept_15 (by decide) (fun c15 => ?_) (fun c15 => ?_)
    · obtain ⟨k15, rfl, ha15, hb15, hz15⟩ := pIn_ex c15
      refine aw_aload_n dX7_kept_21 rfl ?_
      refine aw_gr dX7_kept_22 gf_X7_49 sh_0 (by rfl) ?_
      refine aw_iload_n dX7_kept_25 rfl ?_
      refine aw_iload_n dX7_kept_26 rfl ?_
      refine aw_v2i dX7_kept_27 ml_X7_258 im_X2_fewestFiles se_X2_fewestFiles (c_X2_fewestFiles A.K h.sk ok.k k5 hb5 k15 (by omega)) sh_219 (by decide) rfl rfl (Nat.le_of_ble_eq_true rfl) (Nat.le_of_ble_eq_true rfl) (Nat.le_of_ble_eq_true rfl) (Nat.le_of_ble_eq_true rfl) (Nat.le_of_ble_eq_true rfl) ?_
      refine aw_iret dX7_kept_30 rfl rfl rfl rfl ?_
      refine pAns ?_ h am_fr.rf
      rw [oKept, if_pos c5, if_pos c15, zN_nI hz5, zN_nI hz15]
    · refine aw_ldc dX7_kept_18 kc_X7_75 ?_
      refine aw_iret dX7_kept_20 rfl rfl rfl rfl ?_
      exact pAns ((if_pos c5).trans ((if_neg c15).trans rfl)) h am_fr.rf
set_option maxRecDepth 100000 in
set_option maxHeartbeats 4000000 in
theorem c_X7_drawn {G : am_G} {μ : am_M} (A : pA) (h : InvC μ A) (ok : okA A) (x1 x2 x3 : Int32) : am_MA G yX7_drawn cX7_drawn 5 (some .int) 5 0 0 [.ref 0, .int x1, .int x2, .int x3] am_SH μ (am_P (some (.int (oDrawn A x1 x2 x3).1)) am_SH (fun μ9 => InvC μ9 (oDrawn A x1 x2 x3).2 ∧ am_fr μ μ9 0 234)) := by
  refine am_ofK (own := RX7) (nm := "drawn") (L := [some (.ref 0), some (.int x1), some (.int x2), some (.int x3), none]) rfl rfl (by decide +kernel) (Nat.le_of_ble_eq_true rfl) rfl ?_
  refine aw_aload_n dX7_drawn_0 rfl ?_
  refine aw_v0i dX7_drawn_1 ml_X7_145 im_X7_noSky se_X7_noSky (c_X7_noSky A h.sk ok.k) sh_0 (by decide) rfl rfl (Nat.le_of_ble_eq_true rfl) (Nat.le_of_ble_eq_true rfl) (Nat.le_of_ble_eq_true rfl) (Nat.le_of_ble_eq_true rfl) (Nat.le_of_ble_eq_true rfl) ?_
  refine aw_pif_eq (tgt := 10) dX7_drawn_4 (by decide) (fun c4 => ?_) (fun c4 => ?_)
  · refine aw_iload_n dX7_drawn_10 rfl ?_
    refine aw_iconst (v := nI 0) dX7_drawn_11 rfl ?_
    refine aw_bipush (v := nI 60) dX7_drawn_12 rfl ?_
    refine aw_s3i dX7_drawn_14 ml_X7_71 st_X7_within (c_X7_within _ 0 61 rfl (by decide +kernel) (by decide) (by decide)) (Nat.le_of_ble_eq_true rfl) (Nat.le_of_ble_eq_true rfl) (Nat.le_of_ble_eq_true rfl) (Nat.le_of_ble_eq_true rfl) (Nat.le_of_ble_eq_true rfl) ?_
    refine aw_pif_eq (tgt := 38) dX7_drawn_17 (by decide) (fun c17 => ?_) (fun c17 => ?_)
    · refine aw_ldc dX7_drawn_38 kc_X7_75 ?_
      refine aw_iret dX7_drawn_40 rfl rfl rfl rfl ?_
      exact pAns ((if_neg c4).trans ((if_neg c17).trans rfl)) h am_fr.rf
    · obtain ⟨k17, rfl, ha17, hb17, hz17⟩ := pIn_ex c17
      refine aw_iload_n dX7_drawn_20 rfl ?_
      refine aw_iconst (v := nI 1) dX7_drawn_21 rfl ?_
      refine aw_ldcw dX7_drawn_22 kc_X7_269 ?_
      refine aw_s3i dX7_drawn_25 ml_X7_71 st_X7_within (c_X7_within _ 1 1000000 rfl (by decide +kernel) (by decide) (by decide)) (Nat.le_of_ble_eq_true rfl) (Nat.le_of_ble_eq_true rfl) (Nat.le_of_ble_eq_true rfl) (Nat.le_of_ble_eq_true rfl) (Nat.le_of_ble_eq_true rfl) ?_
      refine aw_pif_eq (tgt := 38) dX7_drawn_28 (by decide) (fun c28 => ?_) (fun c28 => ?_)
      · refine aw_ldc dX7_drawn_38 kc_X7_75 ?_
        refine aw_iret dX7_drawn_40 rfl rfl rfl rfl ?_
        exact pAns ((if_neg c4).trans ((if_pos c17).trans ((if_neg c28).trans rfl))) h am_fr.rf
      · obtain ⟨k28, rfl, ha28, hb28, hz28⟩ := pIn_ex c28
        refine aw_iload_n dX7_drawn_31 rfl ?_
        refine aw_s1i dX7_drawn_32 ml_X7_204 st_X7_isOneOfTwo (c_X7_isOneOfTwo _) (Nat.le_of_ble_eq_true rfl) (Nat.le_of_ble_eq_true rfl) (Nat.le_of_ble_eq_true rfl) (Nat.le_of_ble_eq_true rfl) (Nat.le_of_ble_eq_true rfl) ?_
        refine aw_pif_ne (tgt := 41) dX7_drawn_35 (by decide) (fun c35 => ?_) (fun c35 => ?_)
        · obtain ⟨k35, rfl, ha35, hb35, hz35⟩ := pIn_ex c35
          refine aw_aload_n dX7_drawn_41 rfl ?_
          refine aw_gr dX7_drawn_42 gf_X7_49 sh_0 (by rfl) ?_
          refine aw_iload_n dX7_drawn_45 rfl ?_
          refine aw_iload_n dX7_drawn_46 rfl ?_
          refine aw_v2ip dX7_drawn_47 ml_X7_270 im_X2_sheetsByDraws se_X2_sheetsByDraws (c_X2_sheetsByDraws A.K h.sk ok.k ok.k6 (by omega) k17 k28 (by omega) (by omega)) sh_219 (by decide) rfl rfl (Nat.le_of_ble_eq_true rfl) (Nat.le_of_ble_eq_true rfl) (Nat.le_of_ble_eq_true rfl) (Nat.le_of_ble_eq_true rfl) (Nat.le_of_ble_eq_true rfl) (fun μ2 q2 => ?_)
          refine aw_istore dX7_drawn_50 (Nat.le_of_ble_eq_true rfl) ?_
          refine aw_iload_n dX7_drawn_52 rfl ?_
          refine aw_if_ne (tgt := 61) dX7_drawn_53 (by decide) (fun c53 => ?_) (fun c53 => ?_)
          · refine aw_aload_n dX7_drawn_61 rfl ?_
            refine aw_gr dX7_drawn_62 gf_X7_49 sh_0 (by rfl) ?_
            refine aw_gr dX7_drawn_65 gf_X7_273 sh_219 (by rfl) ?_
            refine aw_v0i dX7_drawn_68 ml_X7_276 im_X5_landsAdded se_X5_landsAdded (c_X5_landsAdded 220 sh_sky220 (pDr k17 A.K k28 0).1 q2.1 q2.2.1) sh_sky220.1 (by decide) rfl rfl (Nat.le_of_ble_eq_true rfl) (Nat.le_of_ble_eq_true rfl) (Nat.le_of_ble_eq_true rfl) (Nat.le_of_ble_eq_true rfl) (Nat.le_of_ble_eq_true rfl) ?_
            refine aw_iret dX7_drawn_71 rfl rfl rfl rfl ?_
            refine pAns ?_ (h.fr (fun b hb => q2.2.2 b (by omega))) (q2.2.2.mono (by omega) (by omega))
            rw [oDrawn, if_neg c4, if_pos c17, if_pos c28, if_pos c35, if_neg c53, zN_nI hz17, zN_nI hz28]
          · refine aw_iload dX7_drawn_56 rfl ?_
            refine aw_goto (tgt := 71) dX7_drawn_58 (by decide) ?_
            refine aw_iret dX7_drawn_71 rfl rfl rfl rfl ?_
            refine pAns ?_ (h.fr (fun b hb => q2.2.2 b (by omega))) (q2.2.2.mono (by omega) (by omega))
            rw [oDrawn, if_neg c4, if_pos c17, if_pos c28, if_pos c35, if_pos c53, zN_nI hz17, zN_nI hz28]
        · refine aw_ldc dX7_drawn_38 kc_X7_75 ?_
          refine aw_iret dX7_drawn_40 rfl rfl rfl rfl ?_
          exact pAns ((if_neg c4).trans ((if_pos c17).trans ((if_pos c28).trans ((if_neg c35).trans rfl)))) h am_fr.rf
  · refine aw_ldc dX7_drawn_7 kc_X7_141 ?_
    refine aw_iret dX7_drawn_9 rfl rfl rfl rfl ?_
    exact pAns ((if_pos c4).trans rfl) h am_fr.rf
set_option maxRecDepth 100000 in
set_option maxHeartbeats 4000000 in
theorem c_X7_image {G : am_G} {μ : am_M} (A : pA) (h : InvC μ A) (ok : okA A) (x1 : Int32) : am_MA G yX7_image cX7_image 2 (some .int) 2 0 0 [.ref 0, .int x1] am_SH μ (am_P (some (.int (oImage A x1).1)) am_SH (fun μ9 => InvC μ9 (oImage A x1).2 ∧ am_fr μ μ9 0 234)) := by
  refine am_ofK (own := RX7) (nm := "image") (L := [some (.ref 0), some (.int x1)]) rfl rfl (by decide +kernel) (Nat.le_of_ble_eq_true rfl) rfl ?_
  refine aw_iload_n dX7_image_0 rfl ?_
  refine aw_iconst (v := nI 0) dX7_image_1 rfl ?_
  refine aw_iconst (v := nI 1) dX7_image_2 rfl ?_
  refine aw_s3i dX7_image_3 ml_X7_71 st_X7_within (c_X7_within _ 0 2 rfl (by decide +kernel) (by decide) (by decide)) (Nat.le_of_ble_eq_true rfl) (Nat.le_of_ble_eq_true rfl) (Nat.le_of_ble_eq_true rfl) (Nat.le_of_ble_eq_true rfl) (Nat.le_of_ble_eq_true rfl) ?_
  refine aw_pif_ne (tgt := 12) dX7_image_6 (by decide) (fun c6 => ?_) (fun c6 => ?_)
  · obtain ⟨k6, rfl, ha6, hb6, hz6⟩ := pIn_ex c6
    refine aw_aload_n dX7_image_12 rfl ?_
    refine aw_v0i dX7_image_13 ml_X7_145 im_X7_noSky se_X7_noSky (c_X7_noSky A h.sk ok.k) sh_0 (by decide) rfl rfl (Nat.le_of_ble_eq_true rfl) (Nat.le_of_ble_eq_true rfl) (Nat.le_of_ble_eq_true rfl) (Nat.le_of_ble_eq_true rfl) (Nat.le_of_ble_eq_true rfl) ?_
    refine aw_pif_eq (tgt := 22) dX7_image_16 (by decide) (fun c16 => ?_) (fun c16 => ?_)
    · refine aw_aload_n dX7_image_22 rfl ?_
      refine aw_gr dX7_image_23 gf_X7_40 sh_0 (by rfl) ?_
      refine aw_iload_n dX7_image_26 rfl ?_
      refine aw_aald (t := 3) dX7_image_27 sh_204 (by decide) rfl (by omega) (by decide) (sh_204r _ (by omega)) ?_
      refine aw_aload_n dX7_image_28 rfl ?_
      refine aw_gr dX7_image_29 gf_X7_30 sh_0 (by rfl) ?_
      refine aw_v1vp dX7_image_32 ml_X7_129 im_X5_become se_X5_become (c_X5_become (205 + 7 * k6) 27 (sh_img k6 (by omega)) sh_sky27 (by omega) A.K h.sk ok.k.1) (sh_img k6 (by omega)).1 (by decide) rfl rfl (Nat.le_of_ble_eq_true rfl) (Nat.le_of_ble_eq_true rfl) (Nat.le_of_ble_eq_true rfl) (Nat.le_of_ble_eq_true rfl) (Nat.le_of_ble_eq_true rfl) (fun μ2 q2 => ?_)
      refine aw_iconst (v := nI 1) dX7_image_35 rfl ?_
      refine aw_iret dX7_image_36 rfl rfl rfl rfl ?_
      refine pAns ?_ (h.img (by omega) q2.1 q2.2) (q2.2.mono (by omega) (by omega))
      rw [oImage, if_pos c6, if_neg c16, zN_nI hz6]
    · refine aw_ldc dX7_image_19 kc_X7_141 ?_
      refine aw_iret dX7_image_21 rfl rfl rfl rfl ?_
      exact pAns ((if_pos c6).trans ((if_pos c16).trans rfl)) h am_fr.rf
  · refine aw_ldc dX7_image_9 kc_X7_75 ?_
    refine aw_iret dX7_image_11 rfl rfl rfl rfl ?_
    exact pAns ((if_neg c6).trans rfl) h am_fr.rf
set_option maxRecDepth 100000 in
set_option maxHeartbeats 4000000 in
theorem c_X7_restore {G : am_G} {μ : am_M} (A : pA) (h : InvC μ A) (ok : okA A) (x1 : Int32) : am_MA G yX7_restore cX7_restore 2 (some .int) 2 0 0 [.ref 0, .int x1] am_SH μ (am_P (some (.int (oRestore A x1).1)) am_SH (fun μ9 => InvC μ9 (oRestore A x1).2 ∧ am_fr μ μ9 0 234)) := by
  refine am_ofK (own := RX7) (nm := "restore") (L := [some (.ref 0), some (.int x1)]) rfl rfl (by decide +kernel) (Nat.le_of_ble_eq_true rfl) rfl ?_
  refine aw_iload_n dX7_restore_0 rfl ?_
  refine aw_iconst (v := nI 0) dX7_restore_1 rfl ?_
  refine aw_iconst (v := nI 1) dX7_restore_2 rfl ?_
  refine aw_s3i dX7_restore_3 ml_X7_71 st_X7_within (c_X7_within _ 0 2 rfl (by decide +kernel) (by decide) (by decide)) (Nat.le_of_ble_eq_true rfl) (Nat.le_of_ble_eq_true rfl) (Nat.le_of_ble_eq_true rfl) (Nat.le_of_ble_eq_true rfl) (Nat.le_of_ble_eq_true rfl) ?_
  refine aw_pif_ne (tgt := 12) dX7_restore_6 (by decide) (fun c6 => ?_) (fun c6 => ?_)
  · obtain ⟨k6, rfl, ha6, hb6, hz6⟩ := pIn_ex c6
    refine aw_aload_n dX7_restore_12 rfl ?_
    refine aw_gr dX7_restore_13 gf_X7_40 sh_0 (by rfl) ?_
    refine aw_iload_n dX7_restore_16 rfl ?_
    refine aw_aald (t := 3) dX7_restore_17 sh_204 (by decide) rfl (by omega) (by decide) (sh_204r _ (by omega)) ?_
    refine aw_gi dX7_restore_18 gf_X7_135 (sh_img k6 (by omega)).1 (by rfl) ?_
    refine aw_top (h.im k6 (by omega)).1 ?_
    refine aw_if_ne (tgt := 27) dX7_restore_21 (by decide) (fun c21 => ?_) (fun c21 => ?_)
    · rw [z_eq (by have := (ok.im k6).1.1; omega)] at c21
      refine aw_aload_n dX7_restore_27 rfl ?_
      refine aw_gr dX7_restore_28 gf_X7_30 sh_0 (by rfl) ?_
      refine aw_aload_n dX7_restore_31 rfl ?_
      refine aw_gr dX7_restore_32 gf_X7_40 sh_0 (by rfl) ?_
      refine aw_iload_n dX7_restore_35 rfl ?_
      refine aw_aald (t := 3) dX7_restore_36 sh_204 (by decide) rfl (by omega) (by decide) (sh_204r _ (by omega)) ?_
      refine aw_v1vp dX7_restore_37 ml_X7_129 im_X5_become se_X5_become (c_X5_become 27 (205 + 7 * k6) sh_sky27 (sh_img k6 (by omega)) (by omega) (A.im k6) (h.im k6 (by omega)) (ok.im k6).1.1) sh_sky27.1 (by decide) rfl rfl (Nat.le_of_ble_eq_true rfl) (Nat.le_of_ble_eq_true rfl) (Nat.le_of_ble_eq_true rfl) (Nat.le_of_ble_eq_true rfl) (Nat.le_of_ble_eq_true rfl) (fun μ2 q2 => ?_)
      refine aw_aload_n dX7_restore_40 rfl ?_
      refine aw_gr dX7_restore_41 gf_X7_36 sh_0 (by rfl) ?_
      refine aw_v0vp dX7_restore_44 ml_X7_132 im_X0_forget se_X0_forget (c_X0_forget A.ac (h.ac.fr (fun b _ _ => q2.2 b (by omega)))) sh_34 (by decide) rfl rfl (Nat.le_of_ble_eq_true rfl) (Nat.le_of_ble_eq_true rfl) (Nat.le_of_ble_eq_true rfl) (Nat.le_of_ble_eq_true rfl) (Nat.le_of_ble_eq_true rfl) (fun μ3 q3 => ?_)
      refine aw_iconst (v := nI 1) dX7_restore_47 rfl ?_
      refine aw_iret dX7_restore_48 rfl rfl rfl rfl ?_
      refine pAns ?_ (h.sky (q2.1.fr (fun b _ _ => q3.2 b (by omega))) q3.1 (fun b hb => by rw [q3.2 b (by omega)]; exact q2.2 b (by omega))) ((q2.2.mono (by omega) (by omega)).tr (q3.2.mono (by omega) (by omega)))
      rw [oRestore, if_pos c6, zN_nI hz6, if_neg c21]
    · rw [z_eq (by have := (ok.im k6).1.1; omega)] at c21
      refine aw_ldc dX7_restore_24 kc_X7_141 ?_
      refine aw_iret dX7_restore_26 rfl rfl rfl rfl ?_
      refine pAns ?_ h am_fr.rf
      rw [oRestore, if_pos c6, zN_nI hz6, if_pos c21]
  · refine aw_ldc dX7_restore_9 kc_X7_75 ?_
    refine aw_iret dX7_restore_11 rfl rfl rfl rfl ?_
    exact pAns ((if_neg c6).trans rfl) h am_fr.rf
set_option maxRecDepth 100000 in
set_option maxHeartbeats 4000000 in
theorem c_X7_kind {G : am_G} {μ : am_M} (A : pA) (h : InvC μ A) (ok : okA A) (x1 : Int32) : am_MA G yX7_kind cX7_kind 2 (some .int) 2 0 0 [.ref 0, .int x1] am_SH μ (am_P (some (.int (oKind A x1).1)) am_SH (fun μ9 => InvC μ9 (oKind A x1).2 ∧ am_fr μ μ9 0 234)) := by
  have h5 := ok.k.1
  refine am_ofK (own := RX7) (nm := "kind") (L := [some (.ref 0), some (.int x1)]) rfl rfl (by decide +kernel) (Nat.le_of_ble_eq_true rfl) rfl ?_
  refine aw_aload_n dX7_kind_0 rfl ?_
  refine aw_iload_n dX7_kind_1 rfl ?_
  refine aw_v1i dX7_kind_2 ml_X7_168 im_X7_isOffice se_X7_isOffice (c_X7_isOffice A h.sk ok.k _) sh_0 (by decide) rfl rfl (Nat.le_of_ble_eq_true rfl) (Nat.le_of_ble_eq_true rfl) (Nat.le_of_ble_eq_true rfl) (Nat.le_of_ble_eq_true rfl) (Nat.le_of_ble_eq_true rfl) ?_
  refine aw_pif_eq (tgt := 20) dX7_kind_5 (by decide) (fun c5 => ?_) (fun c5 => ?_)
  · refine aw_ldc dX7_kind_20 kc_X7_75 ?_
    refine aw_iret dX7_kind_22 rfl rfl rfl rfl ?_
    exact pAns ((if_neg c5).trans rfl) h am_fr.rf
  · obtain ⟨k5, rfl, ha5, hb5, hz5⟩ := pIn_ex c5
    refine aw_aload_n dX7_kind_8 rfl ?_
    refine aw_gr dX7_kind_9 gf_X7_30 sh_0 (by rfl) ?_
    refine aw_gr dX7_kind_12 gf_X7_192 sh_sky27.1 (by rfl) ?_
    refine aw_iload_n dX7_kind_15 rfl ?_
    refine aw_iald dX7_kind_16 sh_sky27.2.2.1 rfl (by omega) (by decide) ?_
    refine aw_top (h.sk.2.2.2.2 k5 hb5).1 ?_
    refine aw_goto (tgt := 22) dX7_kind_17 (by decide) ?_
    refine aw_iret dX7_kind_22 rfl rfl rfl rfl ?_
    refine pAns ?_ h am_fr.rf
    rw [oKind, if_pos c5, zN_nI hz5]
set_option maxRecDepth 100000 in
set_option maxHeartbeats 4000000 in
theorem c_X7_as {G : am_G} {μ : am_M} (A : pA) (h : InvC μ A) (ok : okA A) (x1 x2 : Int32) : am_MA G yX7_as cX7_as 3 (some .int) 2 0 0 [.ref 0, .int x1, .int x2] am_SH μ (am_P (some (.int (oAs A x1 x2).1)) am_SH (fun μ9 => InvC μ9 (oAs A x1 x2).2 ∧ am_fr μ μ9 0 234)) := by
  have h5 := ok.k.1
  refine am_ofK (own := RX7) (nm := "as") (L := [some (.ref 0), some (.int x1), some (.int x2)]) rfl rfl (by decide +kernel) (Nat.le_of_ble_eq_true rfl) rfl ?_
  refine aw_aload_n dX7_as_0 rfl ?_
  refine aw_iload_n dX7_as_1 rfl ?_
  refine aw_v1i dX7_as_2 ml_X7_168 im_X7_isOffice se_X7_isOffice (c_X7_isOffice A h.sk ok.k _) sh_0 (by decide) rfl rfl (Nat.le_of_ble_eq_true rfl) (Nat.le_of_ble_eq_true rfl) (Nat.le_of_ble_eq_true rfl) (Nat.le_of_ble_eq_true rfl) (Nat.le_of_ble_eq_true rfl) ?_
  refine aw_pif_eq (tgt := 17) dX7_as_5 (by decide) (fun c5 => ?_) (fun c5 => ?_)
  · refine aw_ldc dX7_as_17 kc_X7_75 ?_
    refine aw_iret dX7_as_19 rfl rfl rfl rfl ?_
    exact pAns ((if_neg c5).trans rfl) h am_fr.rf
  · obtain ⟨k5, rfl, ha5, hb5, hz5⟩ := pIn_ex c5
    refine aw_iload_n dX7_as_8 rfl ?_
    refine aw_iconst (v := nI 0) dX7_as_9 rfl ?_
    refine aw_iconst (v := nI 5) dX7_as_10 rfl ?_
    refine aw_s3i dX7_as_11 ml_X7_71 st_X7_within (c_X7_within _ 0 6 rfl (by decide +kernel) (by decide) (by decide)) (Nat.le_of_ble_eq_true rfl) (Nat.le_of_ble_eq_true rfl) (Nat.le_of_ble_eq_true rfl) (Nat.le_of_ble_eq_true rfl) (Nat.le_of_ble_eq_true rfl) ?_
    refine aw_pif_ne (tgt := 20) dX7_as_14 (by decide) (fun c14 => ?_) (fun c14 => ?_)
    · obtain ⟨k14, rfl, ha14, hb14, hz14⟩ := pIn_ex c14
      refine aw_aload_n dX7_as_20 rfl ?_
      refine aw_gr dX7_as_21 gf_X7_30 sh_0 (by rfl) ?_
      refine aw_gr dX7_as_24 gf_X7_192 sh_sky27.1 (by rfl) ?_
      refine aw_iload_n dX7_as_27 rfl ?_
      refine aw_iald dX7_as_28 sh_sky27.2.2.1 rfl (by omega) (by decide) ?_
      refine aw_top (h.sk.2.2.2.2 k5 hb5).1 ?_
      have gk := (ok.k.2.2.2.2 k5 hb5).1
      refine aw_iload_n dX7_as_29 rfl ?_
      refine aw_s2i dX7_as_30 ml_X7_281 st_X3_isSuch (c_X3_isSuch (A.K (7 + k5)) k14 (by omega) (by omega)) (Nat.le_of_ble_eq_true rfl) (Nat.le_of_ble_eq_true rfl) (Nat.le_of_ble_eq_true rfl) (Nat.le_of_ble_eq_true rfl) (Nat.le_of_ble_eq_true rfl) ?_
      refine aw_pif_ne (tgt := 42) dX7_as_33 (by decide) (fun c33 => ?_) (fun c33 => ?_)
      · rw [pn_is _ (by omega) (by omega) _ (by omega)] at c33
        refine aw_aload_n dX7_as_42 rfl ?_
        refine aw_iload_n dX7_as_43 rfl ?_
        refine aw_v1i dX7_as_44 ml_X7_84 im_X7_foundNothing se_X7_foundNothing (c_X7_foundNothing _) sh_0 (by decide) rfl rfl (Nat.le_of_ble_eq_true rfl) (Nat.le_of_ble_eq_true rfl) (Nat.le_of_ble_eq_true rfl) (Nat.le_of_ble_eq_true rfl) (Nat.le_of_ble_eq_true rfl) ?_
        refine aw_iret dX7_as_47 rfl rfl rfl rfl ?_
        refine pAns ?_ (h.fd _) (am_fr.rf.up (by omega) (by omega))
        rw [oAs, if_pos c5, if_pos c14, zN_nI hz5, zN_nI hz14, if_pos c33]
        rfl
      · rw [pn_is _ (by omega) (by omega) _ (by omega)] at c33
        refine aw_aload_n dX7_as_36 rfl ?_
        refine aw_iconst (v := nI 3) dX7_as_37 rfl ?_
        refine aw_v1i dX7_as_38 ml_X7_76 im_X7_found se_X7_found (c_X7_found _) sh_0 (by decide) rfl rfl (Nat.le_of_ble_eq_true rfl) (Nat.le_of_ble_eq_true rfl) (Nat.le_of_ble_eq_true rfl) (Nat.le_of_ble_eq_true rfl) (Nat.le_of_ble_eq_true rfl) ?_
        refine aw_iret dX7_as_41 rfl rfl rfl rfl ?_
        refine pAns ?_ (h.fd _) (am_fr.rf.up (by omega) (by omega))
        rw [oAs, if_pos c5, if_pos c14, zN_nI hz5, zN_nI hz14, if_neg c33]
        rfl
    · refine aw_ldc dX7_as_17 kc_X7_75 ?_
      refine aw_iret dX7_as_19 rfl rfl rfl rfl ?_
      exact pAns ((if_pos c5).trans ((if_neg c14).trans rfl)) h am_fr.rf
set_option maxRecDepth 100000 in
set_option maxHeartbeats 4000000 in
theorem c_X7_ask {G : am_G} {μ : am_M} (A : pA) (h : InvC μ A) (ok : okA A) (x1 x2 : Int32) : am_MA G yX7_ask cX7_ask 3 (some .int) 7 0 0 [.ref 0, .int x1, .int x2] am_SH μ (am_P (some (.int (oAsk A x1 x2).1)) am_SH (fun μ9 => InvC μ9 (oAsk A x1 x2).2 ∧ am_fr μ μ9 0 234)) := by
  refine am_ofK (own := RX7) (nm := "ask") (L := [some (.ref 0), some (.int x1), some (.int x2)]) rfl rfl (by decide +kernel) (Nat.le_of_ble_eq_true rfl) rfl ?_
  refine aw_aload_n dX7_ask_0 rfl ?_
  refine aw_iload_n dX7_ask_1 rfl ?_
  refine aw_v1i dX7_ask_2 ml_X7_168 im_X7_isOffice se_X7_isOffice (c_X7_isOffice A h.sk ok.k _) sh_0 (by decide) rfl rfl (Nat.le_of_ble_eq_true rfl) (Nat.le_of_ble_eq_true rfl) (Nat.le_of_ble_eq_true rfl) (Nat.le_of_ble_eq_true rfl) (Nat.le_of_ble_eq_true rfl) ?_
  refine aw_pif_eq (tgt := 15) dX7_ask_5 (by decide) (fun c5 => ?_) (fun c5 => ?_)
  · refine aw_ldc dX7_ask_15 kc_X7_75 ?_
    refine aw_iret dX7_ask_17 rfl rfl rfl rfl ?_
    exact pAns ((if_neg c5).trans rfl) h am_fr.rf
  · obtain ⟨k5, rfl, ha5, hb5, hz5⟩ := pIn_ex c5
    refine aw_iload_n dX7_ask_8 rfl ?_
    refine aw_s1i dX7_ask_9 ml_X7_204 st_X7_isOneOfTwo (c_X7_isOneOfTwo _) (Nat.le_of_ble_eq_true rfl) (Nat.le_of_ble_eq_true rfl) (Nat.le_of_ble_eq_true rfl) (Nat.le_of_ble_eq_true rfl) (Nat.le_of_ble_eq_true rfl) ?_
    refine aw_pif_ne (tgt := 18) dX7_ask_12 (by decide) (fun c12 => ?_) (fun c12 => ?_)
    · obtain ⟨k12, rfl, ha12, hb12, hz12⟩ := pIn_ex c12
      refine aw_aload_n dX7_ask_18 rfl ?_
      refine aw_gr dX7_ask_19 gf_X7_56 sh_0 (by rfl) ?_
      refine aw_iload_n dX7_ask_22 rfl ?_
      refine aw_iload_n dX7_ask_23 rfl ?_
      refine aw_v2ip dX7_ask_24 ml_X7_284 im_X1_begin se_X1_begin (c_X1_begin A.K h.sk ok.k k5 hb5 k12 (by omega)) sh_232 (by decide) rfl rfl (Nat.le_of_ble_eq_true rfl) (Nat.le_of_ble_eq_true rfl) (Nat.le_of_ble_eq_true rfl) (Nat.le_of_ble_eq_true rfl) (Nat.le_of_ble_eq_true rfl) (fun μ2 q2 => ?_)
      refine aw_iret dX7_ask_27 rfl rfl rfl rfl ?_
      refine pAns ?_ (h.trc q2.1 q2.2) (q2.2.mono (by omega) (by omega))
      rw [oAsk, if_pos c5, if_pos c12, zN_nI hz5, zN_nI hz12]
    · refine aw_ldc dX7_ask_15 kc_X7_75 ?_
      refine aw_iret dX7_ask_17 rfl rfl rfl rfl ?_
      exact pAns ((if_pos c5).trans ((if_neg c12).trans rfl)) h am_fr.rf
set_option maxRecDepth 100000 in
set_option maxHeartbeats 4000000 in
theorem c_X7_trace {G : am_G} {μ : am_M} (A : pA) (h : InvC μ A) (ok : okA A) (x1 : Int32) : am_MA G yX7_trace cX7_trace 2 (some .int) 0 0 0 [.ref 0, .int x1] am_SH μ (am_P (some (.int (oTrace A x1).1)) am_SH (fun μ9 => InvC μ9 (oTrace A x1).2 ∧ am_fr μ μ9 0 234)) := by
  have ht := ok.tr
  refine am_ofK (own := RX7) (nm := "trace") (L := [some (.ref 0), some (.int x1)]) rfl rfl (by decide +kernel) (Nat.le_of_ble_eq_true rfl) rfl ?_
  refine aw_iload_n dX7_trace_0 rfl ?_
  refine aw_if_lt (tgt := 27) dX7_trace_1 (by decide) (fun c1 => ?_) (fun c1 => ?_)
  · refine aw_ldc dX7_trace_27 kc_X7_227 ?_
    refine aw_iret dX7_trace_29 rfl rfl rfl rfl ?_
    exact pAns ((if_neg (fun e => by rw [z_neg] at c1; have := e.1; omega)).trans rfl) h am_fr.rf
  · obtain ⟨k, hk, rfl⟩ := nI_of c1
    refine aw_iload_n dX7_trace_4 rfl ?_
    refine aw_aload_n dX7_trace_5 rfl ?_
    refine aw_gr dX7_trace_6 gf_X7_56 sh_0 (by rfl) ?_
    refine aw_gi dX7_trace_9 gf_X7_286 sh_232 (by rfl) ?_
    refine aw_top h.tr.1 ?_
    refine aw_icmp_ge (tgt := 27) dX7_trace_12 (by decide) (fun c12 => ?_) (fun c12 => ?_)
    · rw [nI_leI (by omega) hk] at c12
      refine aw_ldc dX7_trace_27 kc_X7_227 ?_
      refine aw_iret dX7_trace_29 rfl rfl rfl rfl ?_
      exact pAns ((if_neg (fun e => by have := (pIn_nI hk).mp e; omega)).trans rfl) h am_fr.rf
    · rw [nI_leI (by omega) hk] at c12
      refine aw_aload_n dX7_trace_15 rfl ?_
      refine aw_gr dX7_trace_16 gf_X7_56 sh_0 (by rfl) ?_
      refine aw_gr dX7_trace_19 gf_X7_289 sh_232 (by rfl) ?_
      refine aw_iload_n dX7_trace_22 rfl ?_
      refine aw_iald dX7_trace_23 sh_233 rfl (by omega) (by decide) ?_
      refine aw_top (h.tr.2.2 k (A.tr.getD k 0) (by rw [List.getD_eq_getElem?_getD, List.getElem?_eq_getElem (by omega)]; rfl)) ?_
      refine aw_goto (tgt := 29) dX7_trace_24 (by decide) ?_
      refine aw_iret dX7_trace_29 rfl rfl rfl rfl ?_
      refine pAns ?_ h am_fr.rf
      rw [oTrace, if_pos ((pIn_nI hk).mpr ⟨by omega, by omega⟩), zN_nI hk]
