set_option maxRecDepth 100000 in
set_option maxHeartbeats 4000000 in
theorem c_X7_office {G : am_G} {μ : am_M} (A : pA) (h : InvC μ A) (ok : okA A) (x1 x2 : Int32) : am_MA G yX7_office cX7_office 3 (some .int) 2 0 0 [.ref 0, .int x1, .int x2] am_SH μ (am_P (some (.int (oOffice A x1 x2).1)) am_SH (fun μ9 => InvC μ9 (oOffice A x1 x2).2 ∧ am_fr μ μ9 0 234)) := by
  have h5 := ok.k.1
  refine am_ofK (own := RX7) (nm := "office") (L := [some (.ref 0), some (.int x1), some (.int x2)]) rfl rfl (by decide +kernel) (Nat.le_of_ble_eq_true rfl) rfl ?_
  refine aw_aload_n dX7_office_0 rfl ?_
  refine aw_iload_n dX7_office_1 rfl ?_
  refine aw_v1i dX7_office_2 ml_X7_168 im_X7_isOffice se_X7_isOffice (c_X7_isOffice A h.sk ok.k _) sh_0 (by decide) rfl rfl (Nat.le_of_ble_eq_true rfl) (Nat.le_of_ble_eq_true rfl) (Nat.le_of_ble_eq_true rfl) (Nat.le_of_ble_eq_true rfl) (Nat.le_of_ble_eq_true rfl) ?_
  refine aw_pif_ne (tgt := 11) dX7_office_5 (by decide) (fun c5 => ?_) (fun c5 => ?_)
  · obtain ⟨k5, rfl, ha5, hb5, hz5⟩ := pIn_ex c5
    refine aw_iload_n dX7_office_11 rfl ?_
    have gk := ok.k.2.2.2.2 k5 hb5
    by_cases hw : pIn x2 0 6
    · obtain ⟨k, rfl, _, hk, hz⟩ := pIn_ex hw
      clear hw
      match k, hk with
      | 0, _ =>
        refine aw_tableIn (tgt := 52) dX7_office_12 (by decide) (by decide) rfl (by decide) ?_
        refine aw_aload_n dX7_office_52 rfl ?_
        refine aw_gr dX7_office_53 gf_X7_30 sh_0 (by rfl) ?_
        refine aw_gr dX7_office_56 gf_X7_180 sh_sky27.1 (by rfl) ?_
        refine aw_iload_n dX7_office_59 rfl ?_
        refine aw_iald dX7_office_60 sh_sky27.2.2.2.1 rfl (by omega) (by decide) ?_
        refine aw_top (h.sk.2.2.2.2 k5 hb5).2.1 ?_
        refine aw_iret dX7_office_61 rfl rfl rfl rfl ?_
        refine pAns ?_ h am_fr.rf
        rw [oOffice, if_pos c5, if_pos (by decide +kernel), zN_nI hz5]
        rfl
      | 1, _ =>
        refine aw_tableIn (tgt := 62) dX7_office_12 (by decide) (by decide) rfl (by decide) ?_
        refine aw_aload_n dX7_office_62 rfl ?_
        refine aw_gr dX7_office_63 gf_X7_30 sh_0 (by rfl) ?_
        refine aw_gr dX7_office_66 gf_X7_177 sh_sky27.1 (by rfl) ?_
        refine aw_iload_n dX7_office_69 rfl ?_
        refine aw_iald dX7_office_70 sh_sky27.2.2.2.2.1 rfl (by omega) (by decide) ?_
        refine aw_top (h.sk.2.2.2.2 k5 hb5).2.2.1 ?_
        refine aw_iret dX7_office_71 rfl rfl rfl rfl ?_
        refine pAns ?_ h am_fr.rf
        rw [oOffice, if_pos c5, if_pos (by decide +kernel), zN_nI hz5]
        rfl
      | 2, _ =>
        refine aw_tableIn (tgt := 72) dX7_office_12 (by decide) (by decide) rfl (by decide) ?_
        refine aw_aload_n dX7_office_72 rfl ?_
        refine aw_gr dX7_office_73 gf_X7_30 sh_0 (by rfl) ?_
        refine aw_gr dX7_office_76 gf_X7_171 sh_sky27.1 (by rfl) ?_
        refine aw_iload_n dX7_office_79 rfl ?_
        refine aw_iald dX7_office_80 sh_sky27.2.2.2.2.2.1 rfl (by omega) (by decide) ?_
        refine aw_top (h.sk.2.2.2.2 k5 hb5).2.2.2.1 ?_
        refine aw_iret dX7_office_81 rfl rfl rfl rfl ?_
        refine pAns ?_ h am_fr.rf
        rw [oOffice, if_pos c5, if_pos (by decide +kernel), zN_nI hz5]
        rfl
      | 3, _ =>
        refine aw_tableIn (tgt := 82) dX7_office_12 (by decide) (by decide) rfl (by decide) ?_
        refine aw_aload_n dX7_office_82 rfl ?_
        refine aw_gr dX7_office_83 gf_X7_30 sh_0 (by rfl) ?_
        refine aw_gr dX7_office_86 gf_X7_186 sh_sky27.1 (by rfl) ?_
        refine aw_iload_n dX7_office_89 rfl ?_
        refine aw_iald dX7_office_90 sh_sky27.2.2.2.2.2.2 rfl (by omega) (by decide) ?_
        refine aw_top (h.sk.2.2.2.2 k5 hb5).2.2.2.2 ?_
        refine aw_iret dX7_office_91 rfl rfl rfl rfl ?_
        refine pAns ?_ h am_fr.rf
        rw [oOffice, if_pos c5, if_pos (by decide +kernel), zN_nI hz5]
        rfl
      | 4, _ =>
        refine aw_tableIn (tgt := 92) dX7_office_12 (by decide) (by decide) rfl (by decide) ?_
        refine aw_aload_n dX7_office_92 rfl ?_
        refine aw_gr dX7_office_93 gf_X7_30 sh_0 (by rfl) ?_
        refine aw_gr dX7_office_96 gf_X7_177 sh_sky27.1 (by rfl) ?_
        refine aw_iload_n dX7_office_99 rfl ?_
        refine aw_iald dX7_office_100 sh_sky27.2.2.2.2.1 rfl (by omega) (by decide) ?_
        refine aw_top (h.sk.2.2.2.2 k5 hb5).2.2.1 ?_
        refine aw_s1i dX7_office_101 ml_X7_189 st_X5_bandOf (c_X5_bandOf (A.K (17 + k5)) (by omega)) (Nat.le_of_ble_eq_true rfl) (Nat.le_of_ble_eq_true rfl) (Nat.le_of_ble_eq_true rfl) (Nat.le_of_ble_eq_true rfl) (Nat.le_of_ble_eq_true rfl) ?_
        refine aw_iret dX7_office_104 rfl rfl rfl rfl ?_
        refine pAns ?_ h am_fr.rf
        rw [oOffice, if_pos c5, if_pos (by decide +kernel), zN_nI hz5]
        rfl
      | 5, _ =>
        refine aw_tableIn (tgt := 105) dX7_office_12 (by decide) (by decide) rfl (by decide) ?_
        refine aw_aload_n dX7_office_105 rfl ?_
        refine aw_gr dX7_office_106 gf_X7_30 sh_0 (by rfl) ?_
        refine aw_gr dX7_office_109 gf_X7_192 sh_sky27.1 (by rfl) ?_
        refine aw_iload_n dX7_office_112 rfl ?_
        refine aw_iald dX7_office_113 sh_sky27.2.2.1 rfl (by omega) (by decide) ?_
        refine aw_top (h.sk.2.2.2.2 k5 hb5).1 ?_
        refine aw_aload_n dX7_office_114 rfl ?_
        refine aw_gr dX7_office_115 gf_X7_30 sh_0 (by rfl) ?_
        refine aw_gr dX7_office_118 gf_X7_177 sh_sky27.1 (by rfl) ?_
        refine aw_iload_n dX7_office_121 rfl ?_
        refine aw_iald dX7_office_122 sh_sky27.2.2.2.2.1 rfl (by omega) (by decide) ?_
        refine aw_top (h.sk.2.2.2.2 k5 hb5).2.2.1 ?_
        refine aw_s2i dX7_office_123 ml_X7_195 st_X5_liftOf (c_X5_liftOf (A.K (7 + k5)) (A.K (17 + k5)) gk.1.1 gk.1.2 (by omega)) (Nat.le_of_ble_eq_true rfl) (Nat.le_of_ble_eq_true rfl) (Nat.le_of_ble_eq_true rfl) (Nat.le_of_ble_eq_true rfl) (Nat.le_of_ble_eq_true rfl) ?_
        refine aw_iret dX7_office_126 rfl rfl rfl rfl ?_
        refine pAns ?_ h am_fr.rf
        rw [oOffice, if_pos c5, if_pos (by decide +kernel), zN_nI hz5]
        rfl
      | k + 6, hk => exact absurd hk (by omega)
    · refine aw_tableOut (tgt := 127) dX7_office_12 (by have : ¬ (0 ≤ x2.toInt ∧ x2.toInt < 6) := hw; omega) (by decide) ?_
      refine aw_ldc dX7_office_127 kc_X7_75 ?_
      refine aw_iret dX7_office_129 rfl rfl rfl rfl ?_
      exact pAns ((if_pos c5).trans ((if_neg hw).trans rfl)) h am_fr.rf
  · refine aw_ldc dX7_office_8 kc_X7_75 ?_
    refine aw_iret dX7_office_10 rfl rfl rfl rfl ?_
    exact pAns ((if_neg c5).trans rfl) h am_fr.rf
set_option maxRecDepth 100000 in
set_option maxHeartbeats 4000000 in
theorem c_X7_count {G : am_G} {μ : am_M} (A : pA) (h : InvC μ A) (ok : okA A) (x1 : Int32) : am_MA G yX7_count cX7_count 2 (some .int) 1 0 0 [.ref 0, .int x1] am_SH μ (am_P (some (.int (oCount A x1).1)) am_SH (fun μ9 => InvC μ9 (oCount A x1).2 ∧ am_fr μ μ9 0 234)) := by
  refine am_ofK (own := RX7) (nm := "count") (L := [some (.ref 0), some (.int x1)]) rfl rfl (by decide +kernel) (Nat.le_of_ble_eq_true rfl) rfl ?_
  refine aw_iload_n dX7_count_0 rfl ?_
  obtain ⟨s, htp⟩ := h.tp
  by_cases hw : pIn x1 0 8
  · obtain ⟨k, rfl, _, hk, hz⟩ := pIn_ex hw
    clear hw
    match k, hk with
    | 0, _ =>
      refine aw_tableIn (tgt := 48) dX7_count_1 (by decide) (by decide) rfl (by decide) ?_
      refine aw_aload_n dX7_count_48 rfl ?_
      refine aw_v0i dX7_count_49 ml_X7_292 im_X7_rowsThatAre se_X7_rowsThatAre (c_X7_rowsThatAre A h) sh_0 (by decide) rfl rfl (Nat.le_of_ble_eq_true rfl) (Nat.le_of_ble_eq_true rfl) (Nat.le_of_ble_eq_true rfl) (Nat.le_of_ble_eq_true rfl) (Nat.le_of_ble_eq_true rfl) ?_
      refine aw_iret dX7_count_52 rfl rfl rfl rfl ?_
      exact pAns ((if_pos (by decide +kernel)).trans rfl) h am_fr.rf
    | 1, _ =>
      refine aw_tableIn (tgt := 53) dX7_count_1 (by decide) (by decide) rfl (by decide) ?_
      refine aw_aload_n dX7_count_53 rfl ?_
      refine aw_gr dX7_count_54 gf_X7_30 sh_0 (by rfl) ?_
      refine aw_gi dX7_count_57 gf_X7_135 sh_sky27.1 (by rfl) ?_
      refine aw_top h.sk.1 ?_
      refine aw_iret dX7_count_60 rfl rfl rfl rfl ?_
      exact pAns ((if_pos (by decide +kernel)).trans rfl) h am_fr.rf
    | 2, _ =>
      refine aw_tableIn (tgt := 61) dX7_count_1 (by decide) (by decide) rfl (by decide) ?_
      refine aw_aload_n dX7_count_61 rfl ?_
      refine aw_gr dX7_count_62 gf_X7_30 sh_0 (by rfl) ?_
      refine aw_gi dX7_count_65 gf_X7_295 sh_sky27.1 (by rfl) ?_
      refine aw_top h.sk.2.1 ?_
      refine aw_iret dX7_count_68 rfl rfl rfl rfl ?_
      exact pAns ((if_pos (by decide +kernel)).trans rfl) h am_fr.rf
    | 3, _ =>
      refine aw_tableIn (tgt := 69) dX7_count_1 (by decide) (by decide) rfl (by decide) ?_
      refine aw_aload_n dX7_count_69 rfl ?_
      refine aw_gr dX7_count_70 gf_X7_30 sh_0 (by rfl) ?_
      refine aw_gi dX7_count_73 gf_X7_149 sh_sky27.1 (by rfl) ?_
      refine aw_top h.sk.2.2.1 ?_
      refine aw_iret dX7_count_76 rfl rfl rfl rfl ?_
      exact pAns ((if_pos (by decide +kernel)).trans rfl) h am_fr.rf
    | 4, _ =>
      refine aw_tableIn (tgt := 77) dX7_count_1 (by decide) (by decide) rfl (by decide) ?_
      refine aw_aload_n dX7_count_77 rfl ?_
      refine aw_gr dX7_count_78 gf_X7_30 sh_0 (by rfl) ?_
      refine aw_v0i dX7_count_81 ml_X7_298 im_X5_allBurnt se_X5_allBurnt (c_X5_allBurnt 27 sh_sky27 A.K h.sk ok.k) sh_sky27.1 (by decide) rfl rfl (Nat.le_of_ble_eq_true rfl) (Nat.le_of_ble_eq_true rfl) (Nat.le_of_ble_eq_true rfl) (Nat.le_of_ble_eq_true rfl) (Nat.le_of_ble_eq_true rfl) ?_
      refine aw_iret dX7_count_84 rfl rfl rfl rfl ?_
      exact pAns ((if_pos (by decide +kernel)).trans rfl) h am_fr.rf
    | 5, _ =>
      refine aw_tableIn (tgt := 85) dX7_count_1 (by decide) (by decide) rfl (by decide) ?_
      refine aw_aload_n dX7_count_85 rfl ?_
      refine aw_gr dX7_count_86 gf_X7_30 sh_0 (by rfl) ?_
      refine aw_v0i dX7_count_89 ml_X7_159 im_X5_floating se_X5_floating (c_X5_floating 27 sh_sky27 A.K h.sk ok.k) sh_sky27.1 (by decide) rfl rfl (Nat.le_of_ble_eq_true rfl) (Nat.le_of_ble_eq_true rfl) (Nat.le_of_ble_eq_true rfl) (Nat.le_of_ble_eq_true rfl) (Nat.le_of_ble_eq_true rfl) ?_
      refine aw_iret dX7_count_92 rfl rfl rfl rfl ?_
      exact pAns ((if_pos (by decide +kernel)).trans rfl) h am_fr.rf
    | 6, _ =>
      refine aw_tableIn (tgt := 93) dX7_count_1 (by decide) (by decide) rfl (by decide) ?_
      refine aw_aload_n dX7_count_93 rfl ?_
      refine aw_gr dX7_count_94 gf_X7_36 sh_0 (by rfl) ?_
      refine aw_gi dX7_count_97 gf_X7_138 sh_34 (by rfl) ?_
      refine aw_top h.ac.1 ?_
      refine aw_iret dX7_count_100 rfl rfl rfl rfl ?_
      exact pAns ((if_pos (by decide +kernel)).trans rfl) h am_fr.rf
    | 7, _ =>
      refine aw_tableIn (tgt := 101) dX7_count_1 (by decide) (by decide) rfl (by decide) ?_
      refine aw_aload_n dX7_count_101 rfl ?_
      refine aw_gr dX7_count_102 gf_X7_19 sh_0 (by rfl) ?_
      refine aw_gi dX7_count_105 gf_X7_301 sh_18 (by rfl) ?_
      refine aw_top htp.1 ?_
      refine aw_iret dX7_count_108 rfl rfl rfl rfl ?_
      exact pAns ((if_pos (by decide +kernel)).trans rfl) h am_fr.rf
    | k + 8, hk => exact absurd hk (by omega)
  · refine aw_tableOut (tgt := 109) dX7_count_1 (by have : ¬ (0 ≤ x1.toInt ∧ x1.toInt < 8) := hw; omega) (by decide) ?_
    refine aw_ldc dX7_count_109 kc_X7_75 ?_
    refine aw_iret dX7_count_111 rfl rfl rfl rfl ?_
    exact pAns ((if_neg hw).trans rfl) h am_fr.rf
theorem z_m1 {k : Int32} (h : (-1) ≤ k) (h2 : ¬ k = (-1)) : ∃ j, j < 2 ^ 31 ∧ k = nI j := by
  refine nI_of ?_
  intro h3
  rw [z_neg] at h3
  rw [z_le2] at h
  have e : (-1 : Int32).toInt = -1 := by decide +kernel
  rw [e] at h
  exact h2 (Int32.toInt_inj.mp (by rw [e]; omega))
set_option maxRecDepth 100000 in
set_option maxHeartbeats 4000000 in
theorem c_X7_above {G : am_G} {μ : am_M} (A : pA) (h : InvC μ A) (ok : okA A) (x1 x2 x3 x4 x5 : Int32) : am_MA G yX7_above cX7_above 7 (some .int) 6 0 0 [.ref 0, .int x1, .int x2, .int x3, .int x4, .int x5] am_SH μ (am_P (some (.int (oAbove A x1 x2 x3 x4 x5).1)) am_SH (fun μ9 => InvC μ9 (oAbove A x1 x2 x3 x4 x5).2 ∧ am_fr μ μ9 0 234)) := by
  refine am_ofK (own := RX7) (nm := "above") (L := [some (.ref 0), some (.int x1), some (.int x2), some (.int x3), some (.int x4), some (.int x5), none]) rfl rfl (by decide +kernel) (Nat.le_of_ble_eq_true rfl) rfl ?_
  refine aw_aload_n dX7_above_0 rfl ?_
  refine aw_iload_n dX7_above_1 rfl ?_
  refine aw_v1i dX7_above_2 ml_X7_168 im_X7_isOffice se_X7_isOffice (c_X7_isOffice A h.sk ok.k _) sh_0 (by decide) rfl rfl (Nat.le_of_ble_eq_true rfl) (Nat.le_of_ble_eq_true rfl) (Nat.le_of_ble_eq_true rfl) (Nat.le_of_ble_eq_true rfl) (Nat.le_of_ble_eq_true rfl) ?_
  refine aw_pif_eq (tgt := 42) dX7_above_5 (by decide) (fun c5 => ?_) (fun c5 => ?_)
  · refine aw_ldc dX7_above_42 kc_X7_75 ?_
    refine aw_iret dX7_above_44 rfl rfl rfl rfl ?_
    exact pAns ((if_neg c5).trans rfl) h am_fr.rf
  · obtain ⟨k5, rfl, ha5, hb5, hz5⟩ := pIn_ex c5
    refine aw_iload_n dX7_above_8 rfl ?_
    refine aw_s1i dX7_above_9 ml_X7_198 st_X7_isLand (c_X7_isLand _) (Nat.le_of_ble_eq_true rfl) (Nat.le_of_ble_eq_true rfl) (Nat.le_of_ble_eq_true rfl) (Nat.le_of_ble_eq_true rfl) (Nat.le_of_ble_eq_true rfl) ?_
    refine aw_pif_eq (tgt := 42) dX7_above_12 (by decide) (fun c12 => ?_) (fun c12 => ?_)
    · refine aw_ldc dX7_above_42 kc_X7_75 ?_
      refine aw_iret dX7_above_44 rfl rfl rfl rfl ?_
      exact pAns ((if_pos c5).trans ((if_neg c12).trans rfl)) h am_fr.rf
    · obtain ⟨k12, rfl, ha12, hb12, hz12⟩ := pIn_ex c12
      refine aw_iload_n dX7_above_15 rfl ?_
      refine aw_iconst (v := nI 1) dX7_above_16 rfl ?_
      refine aw_bipush (v := nI 12) dX7_above_17 rfl ?_
      refine aw_s3i dX7_above_19 ml_X7_71 st_X7_within (c_X7_within _ 1 13 rfl (by decide +kernel) (by decide) (by decide)) (Nat.le_of_ble_eq_true rfl) (Nat.le_of_ble_eq_true rfl) (Nat.le_of_ble_eq_true rfl) (Nat.le_of_ble_eq_true rfl) (Nat.le_of_ble_eq_true rfl) ?_
      refine aw_pif_eq (tgt := 42) dX7_above_22 (by decide) (fun c22 => ?_) (fun c22 => ?_)
      · refine aw_ldc dX7_above_42 kc_X7_75 ?_
        refine aw_iret dX7_above_44 rfl rfl rfl rfl ?_
        exact pAns ((if_pos c5).trans ((if_pos c12).trans ((if_neg c22).trans rfl))) h am_fr.rf
      · obtain ⟨k22, rfl, ha22, hb22, hz22⟩ := pIn_ex c22
        refine aw_iload dX7_above_25 rfl ?_
        refine aw_iconst (v := nI 0) dX7_above_27 rfl ?_
        refine aw_bipush (v := nI 20) dX7_above_28 rfl ?_
        refine aw_s3i dX7_above_30 ml_X7_71 st_X7_within (c_X7_within _ 0 21 rfl (by decide +kernel) (by decide) (by decide)) (Nat.le_of_ble_eq_true rfl) (Nat.le_of_ble_eq_true rfl) (Nat.le_of_ble_eq_true rfl) (Nat.le_of_ble_eq_true rfl) (Nat.le_of_ble_eq_true rfl) ?_
        refine aw_pif_eq (tgt := 42) dX7_above_33 (by decide) (fun c33 => ?_) (fun c33 => ?_)
        · refine aw_ldc dX7_above_42 kc_X7_75 ?_
          refine aw_iret dX7_above_44 rfl rfl rfl rfl ?_
          exact pAns ((if_pos c5).trans ((if_pos c12).trans ((if_pos c22).trans ((if_neg c33).trans rfl)))) h am_fr.rf
        · obtain ⟨k33, rfl, ha33, hb33, hz33⟩ := pIn_ex c33
          refine aw_iload dX7_above_36 rfl ?_
          refine aw_iconst (v := (-1)) dX7_above_38 rfl ?_
          refine aw_icmp_ge (tgt := 45) dX7_above_39 (by decide) (fun c39 => ?_) (fun c39 => ?_)
          · refine aw_aload_n dX7_above_45 rfl ?_
            refine aw_gr dX7_above_46 gf_X7_49 sh_0 (by rfl) ?_
            refine aw_iload_n dX7_above_49 rfl ?_
            refine aw_iload_n dX7_above_50 rfl ?_
            refine aw_iload_n dX7_above_51 rfl ?_
            refine aw_iload dX7_above_52 rfl ?_
            refine aw_v4ip dX7_above_54 ml_X7_222 im_X2_fewestPlan se_X2_fewestPlan (c_X2_fewestPlan A.K h.sk ok.k k5 hb5 k12 k22 k33 (by omega) (by omega) (by omega)) sh_219 (by decide) rfl rfl (Nat.le_of_ble_eq_true rfl) (Nat.le_of_ble_eq_true rfl) (Nat.le_of_ble_eq_true rfl) (Nat.le_of_ble_eq_true rfl) (Nat.le_of_ble_eq_true rfl) (fun μ2 q2 => ?_)
            have hlt : (pAb A.K k5 k12 k22 k33) < 2 ^ 31 := pMn_lt (by omega) (pFp_ok k22 (by omega)) k12 k33 (21 - k33)
            refine aw_top (show _ = nI (pAb A.K k5 k12 k22 k33) from rfl) ?_
            refine aw_istore dX7_above_57 (Nat.le_of_ble_eq_true rfl) ?_
            refine aw_iload dX7_above_59 rfl ?_
            refine aw_ldc dX7_above_61 kc_X7_226 ?_
            refine aw_icmp_eq (tgt := 72) dX7_above_63 (by decide) (fun c63 => ?_) (fun c63 => ?_)
            · rw [nI_eq hlt (by decide)] at c63
              refine aw_ldc dX7_above_72 kc_X7_227 ?_
              refine aw_iret dX7_above_74 rfl rfl rfl rfl ?_
              refine pAns ?_ (h.fr (fun b hb => q2 b (by omega))) (q2.mono (by omega) (by omega))
              rw [oAbove, if_pos c5, if_pos c12, if_pos c22, if_pos c33, if_pos c39, zN_nI hz5, zN_nI hz12, zN_nI hz22, zN_nI hz33, if_pos c63]
            · rw [nI_eq hlt (by decide)] at c63
              refine aw_iload dX7_above_66 rfl ?_
              refine aw_iload_n dX7_above_68 rfl ?_
              refine aw_icmp_lt (tgt := 75) dX7_above_69 (by decide) (fun c69 => ?_) (fun c69 => ?_)
              · refine aw_iload dX7_above_75 rfl ?_
                refine aw_iconst (v := (-1)) dX7_above_77 rfl ?_
                refine aw_icmp_ne (tgt := 89) dX7_above_78 (by decide) (fun c78 => ?_) (fun c78 => ?_)
                · obtain ⟨k, hk, rfl⟩ := z_m1 c39 c78
                  rw [nI_ltI hk (by omega)] at c69
                  refine aw_iload dX7_above_89 rfl ?_
                  refine aw_iload_n dX7_above_91 rfl ?_
                  refine aw_iload dX7_above_92 rfl ?_
                  refine aw_s3i dX7_above_94 ml_X7_231 st_X2_sheetsAhead (c_X2_sheetsAhead (pAb A.K k5 k12 k22 k33) k22 k hlt (by omega) c69) (Nat.le_of_ble_eq_true rfl) (Nat.le_of_ble_eq_true rfl) (Nat.le_of_ble_eq_true rfl) (Nat.le_of_ble_eq_true rfl) (Nat.le_of_ble_eq_true rfl) ?_
                  refine aw_iret dX7_above_97 rfl rfl rfl rfl ?_
                  refine pAns ?_ (h.fr (fun b hb => q2 b (by omega))) (q2.mono (by omega) (by omega))
                  rw [oAbove, if_pos c5, if_pos c12, if_pos c22, if_pos c33, if_pos c39, zN_nI hz5, zN_nI hz12, zN_nI hz22, zN_nI hz33, if_neg c63, if_pos ((nI_ltI hk (by omega)).mpr c69), if_neg c78, zN_nI hk]
                · refine aw_iload dX7_above_81 rfl ?_
                  refine aw_s1i dX7_above_83 ml_X7_228 st_X2_sheetsOf (c_X2_sheetsOf (pAb A.K k5 k12 k22 k33) hlt) (Nat.le_of_ble_eq_true rfl) (Nat.le_of_ble_eq_true rfl) (Nat.le_of_ble_eq_true rfl) (Nat.le_of_ble_eq_true rfl) (Nat.le_of_ble_eq_true rfl) ?_
                  refine aw_goto (tgt := 97) dX7_above_86 (by decide) ?_
                  refine aw_iret dX7_above_97 rfl rfl rfl rfl ?_
                  refine pAns ?_ (h.fr (fun b hb => q2 b (by omega))) (q2.mono (by omega) (by omega))
                  rw [oAbove, if_pos c5, if_pos c12, if_pos c22, if_pos c33, if_pos c39, zN_nI hz5, zN_nI hz12, zN_nI hz22, zN_nI hz33, if_neg c63, if_pos c69, if_pos c78]
              · refine aw_ldc dX7_above_72 kc_X7_227 ?_
                refine aw_iret dX7_above_74 rfl rfl rfl rfl ?_
                refine pAns ?_ (h.fr (fun b hb => q2 b (by omega))) (q2.mono (by omega) (by omega))
                rw [oAbove, if_pos c5, if_pos c12, if_pos c22, if_pos c33, if_pos c39, zN_nI hz5, zN_nI hz12, zN_nI hz22, zN_nI hz33, if_neg c63, if_neg c69]
          · refine aw_ldc dX7_above_42 kc_X7_75 ?_
            refine aw_iret dX7_above_44 rfl rfl rfl rfl ?_
            exact pAns ((if_pos c5).trans ((if_pos c12).trans ((if_pos c22).trans ((if_pos c33).trans ((if_neg c39).trans rfl))))) h am_fr.rf
theorem pKs_cg {s : Nat} {f g : Nat → Int32} {i n h x : Nat} (e : ∀ j, j < i + n → f j = g j) : ∀ k, pKs s f i n h x k = pKs s g i n h x k := by
  have c : ∀ r j y, j + r ≤ i + n → pCm s f r j y = pCm s g r j y := by
    intro r
    induction r with
    | zero => intro j y _; rfl
    | succ r ih => intro j y hj; unfold pCm; rw [e j (by omega), ih (j + 1) _ (by omega)]
  intro k
  induction k with
  | zero => rfl
  | succ k ih => unfold pKs; rw [ih, c n i _ (Nat.le_refl _)]
set_option maxRecDepth 100000 in
set_option maxHeartbeats 4000000 in
theorem c_X7_who {G : am_G} {μ : am_M} (A : pA) (h : InvC μ A) (ok : okA A) (x1 x2 x3 x4 x5 : Int32) : am_MA G yX7_who cX7_who 7 (some .int) 4 0 0 [.ref 0, .int x1, .int x2, .int x3, .int x4, .int x5] am_SH μ (am_P (some (.int (oWho A x1 x2 x3 x4 x5).1)) am_SH (fun μ9 => InvC μ9 (oWho A x1 x2 x3 x4 x5).2 ∧ am_fr μ μ9 0 234)) := by
  have h5 := ok.k.1
  refine am_ofK (own := RX7) (nm := "who") (L := [some (.ref 0), some (.int x1), some (.int x2), some (.int x3), some (.int x4), some (.int x5), none]) rfl rfl (by decide +kernel) (Nat.le_of_ble_eq_true rfl) rfl ?_
  refine aw_aload_n dX7_who_0 rfl ?_
  refine aw_iload_n dX7_who_1 rfl ?_
  refine aw_v1i dX7_who_2 ml_X7_168 im_X7_isOffice se_X7_isOffice (c_X7_isOffice A h.sk ok.k _) sh_0 (by decide) rfl rfl (Nat.le_of_ble_eq_true rfl) (Nat.le_of_ble_eq_true rfl) (Nat.le_of_ble_eq_true rfl) (Nat.le_of_ble_eq_true rfl) (Nat.le_of_ble_eq_true rfl) ?_
  refine aw_pif_eq (tgt := 37) dX7_who_5 (by decide) (fun c5 => ?_) (fun c5 => ?_)
  · refine aw_ldc dX7_who_37 kc_X7_75 ?_
    refine aw_iret dX7_who_39 rfl rfl rfl rfl ?_
    exact pAns ((if_neg c5).trans rfl) h am_fr.rf
  · obtain ⟨k5, rfl, ha5, hb5, hz5⟩ := pIn_ex c5
    refine aw_iload_n dX7_who_8 rfl ?_
    refine aw_s1i dX7_who_9 ml_X7_67 st_X7_isRow (c_X7_isRow _) (Nat.le_of_ble_eq_true rfl) (Nat.le_of_ble_eq_true rfl) (Nat.le_of_ble_eq_true rfl) (Nat.le_of_ble_eq_true rfl) (Nat.le_of_ble_eq_true rfl) ?_
    refine aw_pif_eq (tgt := 37) dX7_who_12 (by decide) (fun c12 => ?_) (fun c12 => ?_)
    · refine aw_ldc dX7_who_37 kc_X7_75 ?_
      refine aw_iret dX7_who_39 rfl rfl rfl rfl ?_
      exact pAns ((if_pos c5).trans ((if_neg c12).trans rfl)) h am_fr.rf
    · obtain ⟨k12, rfl, ha12, hb12, hz12⟩ := pIn_ex c12
      refine aw_iload dX7_who_15 rfl ?_
      refine aw_iconst (v := nI 1) dX7_who_17 rfl ?_
      refine aw_bipush (v := nI 12) dX7_who_18 rfl ?_
      refine aw_s3i dX7_who_20 ml_X7_71 st_X7_within (c_X7_within _ 1 13 rfl (by decide +kernel) (by decide) (by decide)) (Nat.le_of_ble_eq_true rfl) (Nat.le_of_ble_eq_true rfl) (Nat.le_of_ble_eq_true rfl) (Nat.le_of_ble_eq_true rfl) (Nat.le_of_ble_eq_true rfl) ?_
      refine aw_pif_eq (tgt := 37) dX7_who_23 (by decide) (fun c23 => ?_) (fun c23 => ?_)
      · refine aw_ldc dX7_who_37 kc_X7_75 ?_
        refine aw_iret dX7_who_39 rfl rfl rfl rfl ?_
        exact pAns ((if_pos c5).trans ((if_pos c12).trans ((if_neg c23).trans rfl))) h am_fr.rf
      · obtain ⟨k23, rfl, ha23, hb23, hz23⟩ := pIn_ex c23
        refine aw_iload dX7_who_26 rfl ?_
        refine aw_iconst (v := nI 0) dX7_who_28 rfl ?_
        refine aw_bipush (v := nI 20) dX7_who_29 rfl ?_
        refine aw_s3i dX7_who_31 ml_X7_71 st_X7_within (c_X7_within _ 0 21 rfl (by decide +kernel) (by decide) (by decide)) (Nat.le_of_ble_eq_true rfl) (Nat.le_of_ble_eq_true rfl) (Nat.le_of_ble_eq_true rfl) (Nat.le_of_ble_eq_true rfl) (Nat.le_of_ble_eq_true rfl) ?_
        refine aw_pif_ne (tgt := 40) dX7_who_34 (by decide) (fun c34 => ?_) (fun c34 => ?_)
        · obtain ⟨k34, rfl, ha34, hb34, hz34⟩ := pIn_ex c34
          refine aw_aload_n dX7_who_40 rfl ?_
          refine aw_gr dX7_who_41 gf_X7_11 sh_0 (by rfl) ?_
          refine aw_iload_n dX7_who_44 rfl ?_
          refine aw_aald (t := 2) dX7_who_45 sh_1 (by decide) rfl (by omega) (by decide) (sh_1r _ (by omega)) ?_
          refine aw_iload_n dX7_who_46 rfl ?_
          refine aw_iload dX7_who_47 rfl ?_
          refine aw_v2i dX7_who_49 ml_X7_87 im_X4_findingOf se_X4_findingOf (c_X4_findingOf (2 + 2 * k12) (sh_row k12 (by omega)) (A.w k12) (h.rows k12 (by omega)) _ _) (sh_row k12 (by omega)).1 (by decide) rfl rfl (Nat.le_of_ble_eq_true rfl) (Nat.le_of_ble_eq_true rfl) (Nat.le_of_ble_eq_true rfl) (Nat.le_of_ble_eq_true rfl) (Nat.le_of_ble_eq_true rfl) ?_
          refine aw_istore dX7_who_52 (Nat.le_of_ble_eq_true rfl) ?_
          refine aw_iload dX7_who_54 rfl ?_
          refine aw_if_eq (tgt := 66) dX7_who_56 (by decide) (fun c56 => ?_) (fun c56 => ?_)
          · rw [z_eq (Nat.lt_of_le_of_lt (pFind_lt _ _ _) (by decide))] at c56
            obtain ⟨l, n, f, i, ew, rfl, hin, hzi⟩ := pFind_sp hz23 c56
            have hw := h.rows k12 (by omega)
            rw [ew] at hw
            have hn40 := hw.2.2.2.2.1
            refine aw_aload_n dX7_who_66 rfl ?_
            refine aw_aload_n dX7_who_67 rfl ?_
            refine aw_gr dX7_who_68 gf_X7_49 sh_0 (by rfl) ?_
            refine aw_aload_n dX7_who_71 rfl ?_
            refine aw_gr dX7_who_72 gf_X7_30 sh_0 (by rfl) ?_
            refine aw_gr dX7_who_75 gf_X7_177 sh_sky27.1 (by rfl) ?_
            refine aw_iload_n dX7_who_78 rfl ?_
            refine aw_iald dX7_who_79 sh_sky27.2.2.2.2.1 rfl (by omega) (by decide) ?_
            refine aw_top (h.sk.2.2.2.2 k5 hb5).2.2.1 ?_
            refine aw_aload_n dX7_who_80 rfl ?_
            refine aw_gr dX7_who_81 gf_X7_11 sh_0 (by rfl) ?_
            refine aw_iload_n dX7_who_84 rfl ?_
            refine aw_aald (t := 2) dX7_who_85 sh_1 (by decide) rfl (by omega) (by decide) (sh_1r _ (by omega)) ?_
            refine aw_gr dX7_who_86 gf_X7_105 (sh_row k12 (by omega)).1 (by rfl) ?_
            refine aw_iload_n dX7_who_89 rfl ?_
            refine aw_iload dX7_who_90 rfl ?_
            refine aw_iload dX7_who_92 rfl ?_
            refine aw_v5i dX7_who_94 ml_X7_245 im_X2_kindsThatFit se_X2_kindsThatFit (c_X2_kindsThatFit A.K h.sk ok.k (A.K (17 + k5)) (2 + 2 * k12 + 1) i k23 k34 (ok.k.2.2.2.2 k5 hb5).2.2.1 (by omega) (sh_row k12 (by omega)).2 (by omega)) sh_219 (by decide) rfl rfl (Nat.le_of_ble_eq_true rfl) (Nat.le_of_ble_eq_true rfl) (Nat.le_of_ble_eq_true rfl) (Nat.le_of_ble_eq_true rfl) (Nat.le_of_ble_eq_true rfl) ?_
            refine aw_v1i dX7_who_97 ml_X7_84 im_X7_foundNothing se_X7_foundNothing (c_X7_foundNothing _) sh_0 (by decide) rfl rfl (Nat.le_of_ble_eq_true rfl) (Nat.le_of_ble_eq_true rfl) (Nat.le_of_ble_eq_true rfl) (Nat.le_of_ble_eq_true rfl) (Nat.le_of_ble_eq_true rfl) ?_
            refine aw_iret dX7_who_100 rfl rfl rfl rfl ?_
            refine pAns ?_ (h.fd _) (am_fr.rf.up (by omega) (by omega))
            rw [oWho, if_pos c5, if_pos c12, if_pos c23, if_pos c34, zN_nI hz12, if_pos c56, zN_nI hz5, zN_nI hz23, zN_nI hz34, zN_nI hzi, ew, pKs_cg (f := pItm (some (l, n, f))) (g := μ (2 + 2 * k12 + 1)) (fun j hj => (hw.2.2.2.2.2 j (by omega)).symm)]
            rfl
          · rw [z_eq (Nat.lt_of_le_of_lt (pFind_lt _ _ _) (by decide))] at c56
            refine aw_aload_n dX7_who_59 rfl ?_
            refine aw_iload dX7_who_60 rfl ?_
            refine aw_v1i dX7_who_62 ml_X7_76 im_X7_found se_X7_found (c_X7_found _) sh_0 (by decide) rfl rfl (Nat.le_of_ble_eq_true rfl) (Nat.le_of_ble_eq_true rfl) (Nat.le_of_ble_eq_true rfl) (Nat.le_of_ble_eq_true rfl) (Nat.le_of_ble_eq_true rfl) ?_
            refine aw_iret dX7_who_65 rfl rfl rfl rfl ?_
            refine pAns ?_ (h.fd _) (am_fr.rf.up (by omega) (by omega))
            rw [oWho, if_pos c5, if_pos c12, if_pos c23, if_pos c34, zN_nI hz12, if_neg c56]
            rfl
        · refine aw_ldc dX7_who_37 kc_X7_75 ?_
          refine aw_iret dX7_who_39 rfl rfl rfl rfl ?_
          exact pAns ((if_pos c5).trans ((if_pos c12).trans ((if_pos c23).trans ((if_neg c34).trans rfl)))) h am_fr.rf
