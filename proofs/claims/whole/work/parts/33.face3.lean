set_option maxRecDepth 100000 in
set_option maxHeartbeats 4000000 in
theorem c_X7_feed {G : am_G} {μ : am_M} (A : pA) (h : InvC μ A) (ok : okA A) (x1 : Int32) : am_MA G yX7_feed cX7_feed 2 (some .int) 1 0 0 [.ref 0, .int x1] am_SH μ (am_P (some (.int (oFeed A x1).1)) am_SH (fun μ9 => InvC μ9 (oFeed A x1).2 ∧ am_fr μ μ9 0 234)) := by
  refine am_ofK (own := RX7) (nm := "feed") (L := [some (.ref 0), some (.int x1)]) rfl rfl (by decide +kernel) (Nat.le_of_ble_eq_true rfl) rfl ?_
  refine aw_iload_n dX7_feed_0 rfl ?_
  refine aw_iconst (v := nI 0) dX7_feed_1 rfl ?_
  refine aw_sipush (v := nI 255) dX7_feed_2 rfl ?_
  refine aw_s3i dX7_feed_5 ml_X7_71 st_X7_within (c_X7_within _ 0 256 rfl (by decide +kernel) (by decide) (by decide)) (Nat.le_of_ble_eq_true rfl) (Nat.le_of_ble_eq_true rfl) (Nat.le_of_ble_eq_true rfl) (Nat.le_of_ble_eq_true rfl) (Nat.le_of_ble_eq_true rfl) ?_
  refine aw_pif_ne (tgt := 14) dX7_feed_8 (by decide) (fun c8 => ?_) (fun c8 => ?_)
  · obtain ⟨k8, rfl, ha8, hb8, hz8⟩ := pIn_ex c8
    obtain ⟨s, hs⟩ := h.tp
    have htl := ok.tp.1
    by_cases ht : A.tl < 100
    · refine aw_aload_n dX7_feed_14 rfl ?_
      refine aw_gr dX7_feed_15 gf_X7_19 sh_0 (by rfl) ?_
      refine aw_iload_n dX7_feed_18 rfl ?_
      refine aw_v1ip dX7_feed_19 ml_X7_118 im_X6_add se_X6_add (c_X6_add A.tb A.tl s hs ok.tp ht k8) sh_18 (by decide) rfl rfl (Nat.le_of_ble_eq_true rfl) (Nat.le_of_ble_eq_true rfl) (Nat.le_of_ble_eq_true rfl) (Nat.le_of_ble_eq_true rfl) (Nat.le_of_ble_eq_true rfl) (fun μ2 q2 => ?_)
      refine aw_iret dX7_feed_22 rfl rfl rfl rfl ?_
      refine pAns ?_ (h.tape q2.1 (fun b hb => q2.2 b (by omega))) (q2.2.mono (by omega) (by omega))
      rw [oFeed, if_pos c8, if_pos ht, zN_nI hz8]
    · refine aw_aload_n dX7_feed_14 rfl ?_
      refine aw_gr dX7_feed_15 gf_X7_19 sh_0 (by rfl) ?_
      refine aw_iload_n dX7_feed_18 rfl ?_
      refine aw_v1i dX7_feed_19 ml_X7_118 im_X6_add se_X6_add (c_X6_addF A.tb A.tl s hs ok.tp (by omega) _) sh_18 (by decide) rfl rfl (Nat.le_of_ble_eq_true rfl) (Nat.le_of_ble_eq_true rfl) (Nat.le_of_ble_eq_true rfl) (Nat.le_of_ble_eq_true rfl) (Nat.le_of_ble_eq_true rfl) ?_
      refine aw_iret dX7_feed_22 rfl rfl rfl rfl ?_
      exact pAns ((if_pos c8).trans ((if_neg ht).trans rfl)) h am_fr.rf
  · refine aw_ldc dX7_feed_11 kc_X7_75 ?_
    refine aw_iret dX7_feed_13 rfl rfl rfl rfl ?_
    exact pAns ((if_neg c8).trans rfl) h am_fr.rf
set_option maxRecDepth 100000 in
set_option maxHeartbeats 4000000 in
theorem c_X7_fault {G : am_G} {μ : am_M} (A : pA) (h : InvC μ A) (ok : okA A) : am_MA G yX7_fault cX7_fault 1 (some .int) 0 0 0 [.ref 0] am_SH μ (am_P (some (.int (oFault A).1)) am_SH (fun μ9 => InvC μ9 (oFault A).2 ∧ am_fr μ μ9 0 234)) := by
  refine am_ofK (own := RX7) (nm := "fault") (L := [some (.ref 0)]) rfl rfl (by decide +kernel) (Nat.le_of_ble_eq_true rfl) rfl ?_
  refine aw_aload_n dX7_fault_0 rfl ?_
  refine aw_gi dX7_fault_1 gf_X7_60 sh_0 (by rfl) ?_
  refine aw_top h.fa ?_
  refine aw_iret dX7_fault_4 rfl rfl rfl rfl ?_
  exact pAns rfl h am_fr.rf
set_option maxRecDepth 100000 in
set_option maxHeartbeats 4000000 in
theorem c_X7_status {G : am_G} {μ : am_M} (A : pA) (h : InvC μ A) (ok : okA A) : am_MA G yX7_status cX7_status 1 (some .int) 0 0 0 [.ref 0] am_SH μ (am_P (some (.int (oStatus A).1)) am_SH (fun μ9 => InvC μ9 (oStatus A).2 ∧ am_fr μ μ9 0 234)) := by
  refine am_ofK (own := RX7) (nm := "status") (L := [some (.ref 0)]) rfl rfl (by decide +kernel) (Nat.le_of_ble_eq_true rfl) rfl ?_
  refine aw_aload_n dX7_status_0 rfl ?_
  refine aw_gi dX7_status_1 gf_X7_64 sh_0 (by rfl) ?_
  refine aw_top h.fi ?_
  refine aw_iret dX7_status_4 rfl rfl rfl rfl ?_
  exact pAns rfl h am_fr.rf
theorem pRead_rd (tb : Nat → Nat) (tl : Nat) (hk : tpOK tb tl) : rdOK tl (pRead tb tl).1 ∧ pTold9 (pRead tb tl).2 := pRead_ok tb tl
set_option maxRecDepth 100000 in
set_option maxHeartbeats 4000000 in
theorem c_X7_sky {G : am_G} {μ : am_M} (A : pA) (h : InvC μ A) (ok : okA A) : am_MA G yX7_sky cX7_sky 2 (some .int) 5 0 0 [.ref 0] am_SH μ (am_P (some (.int (oSky A).1)) am_SH (fun μ9 => InvC μ9 (oSky A).2 ∧ am_fr μ μ9 0 234)) := by
  obtain ⟨s, hs⟩ := h.tp
  refine am_ofK (own := RX7) (nm := "sky") (L := [some (.ref 0), none]) rfl rfl (by decide +kernel) (Nat.le_of_ble_eq_true rfl) rfl ?_
  refine aw_aload_n dX7_sky_0 rfl ?_
  refine aw_gr dX7_sky_1 gf_X7_19 sh_0 (by rfl) ?_
  refine aw_aload_n dX7_sky_4 rfl ?_
  refine aw_gr dX7_sky_5 gf_X7_26 sh_0 (by rfl) ?_
  refine aw_v1ip dX7_sky_8 ml_X7_121 im_X6_readInto se_X6_readInto (c_X6_readInto A.tb A.tl ok.tp s hs) sh_18 (by decide) rfl rfl (Nat.le_of_ble_eq_true rfl) (Nat.le_of_ble_eq_true rfl) (Nat.le_of_ble_eq_true rfl) (Nat.le_of_ble_eq_true rfl) (Nat.le_of_ble_eq_true rfl) (fun μ2 q2 => ?_)
  have hrd := pRead_rd A.tb A.tl ok.tp
  have h2 : InvC μ2 (A.sT A.tb 0) := h.tape q2.1 (fun b hb => q2.2.2 b (by omega))
  refine aw_istore_n dX7_sky_11 (Nat.le_of_ble_eq_true rfl) ?_
  refine aw_iload_n dX7_sky_12 rfl ?_
  refine aw_if_eq (tgt := 32) dX7_sky_13 (by decide) (fun c13 => ?_) (fun c13 => ?_)
  · rw [z_eq (by have := hrd.1.1; omega)] at c13
    refine aw_aload_n dX7_sky_32 rfl ?_
    refine aw_gr dX7_sky_33 gf_X7_30 sh_0 (by rfl) ?_
    refine aw_aload_n dX7_sky_36 rfl ?_
    refine aw_gr dX7_sky_37 gf_X7_26 sh_0 (by rfl) ?_
    refine aw_v1vp dX7_sky_40 ml_X7_129 im_X5_become se_X5_become (c_X5_become 27 20 sh_sky27 sh_sky20 (by omega) (pRead A.tb A.tl).2 q2.2.1 hrd.2.1.1) sh_sky27.1 (by decide) rfl rfl (Nat.le_of_ble_eq_true rfl) (Nat.le_of_ble_eq_true rfl) (Nat.le_of_ble_eq_true rfl) (Nat.le_of_ble_eq_true rfl) (Nat.le_of_ble_eq_true rfl) (fun μ3 q3 => ?_)
    refine aw_aload_n dX7_sky_43 rfl ?_
    refine aw_gr dX7_sky_44 gf_X7_36 sh_0 (by rfl) ?_
    refine aw_v0vp dX7_sky_47 ml_X7_132 im_X0_forget se_X0_forget (c_X0_forget A.ac (h2.ac.fr (fun b _ _ => q3.2 b (by omega)))) sh_34 (by decide) rfl rfl (Nat.le_of_ble_eq_true rfl) (Nat.le_of_ble_eq_true rfl) (Nat.le_of_ble_eq_true rfl) (Nat.le_of_ble_eq_true rfl) (Nat.le_of_ble_eq_true rfl) (fun μ4 q4 => ?_)
    refine aw_aload_n dX7_sky_50 rfl ?_
    refine aw_gr dX7_sky_51 gf_X7_30 sh_0 (by rfl) ?_
    refine aw_gi dX7_sky_54 gf_X7_135 sh_sky27.1 (by rfl) ?_
    refine aw_top (show _ = nI ((pRead A.tb A.tl).2 5) by rw [q4.2 27 (by omega)]; exact q3.1.1) ?_
    refine aw_iret dX7_sky_57 rfl rfl rfl rfl ?_
    exact pAns ((if_pos c13).trans rfl) (h2.sky (q3.1.fr (fun b _ _ => q4.2 b (by omega))) q4.1 (fun b hb => by rw [q4.2 b (by omega)]; exact q3.2 b (by omega))) (((q2.2.2.mono (by omega) (by omega)).tr (q3.2.mono (by omega) (by omega))).tr (q4.2.mono (by omega) (by omega)))
  · rw [z_eq (by have := hrd.1.1; omega)] at c13
    refine aw_aload_n dX7_sky_16 rfl ?_
    refine aw_iload_n dX7_sky_17 rfl ?_
    refine aw_pi dX7_sky_18 pf_X7_60 rfl rfl sh_0 (by rfl) ?_
    refine aw_ldc dX7_sky_21 kc_X7_125 ?_
    refine aw_aload_n dX7_sky_23 rfl ?_
    refine aw_gr dX7_sky_24 gf_X7_19 sh_0 (by rfl) ?_
    refine aw_gi dX7_sky_27 gf_X7_126 sh_18 (by rfl) ?_
    refine aw_top (show _ = nI (pRead A.tb A.tl).1.2 by rw [am_upn (by decide)]; exact q2.1.2.1) ?_
    refine aw_isub dX7_sky_30 ?_
    refine aw_iret dX7_sky_31 rfl rfl rfl rfl ?_
    exact pAns ((if_neg c13).trans rfl) (h2.flt _ rfl) ((q2.2.2.mono (by omega) (by omega)).up (by omega) (by omega))
set_option maxRecDepth 100000 in
set_option maxHeartbeats 4000000 in
theorem c_X7_undo {G : am_G} {μ : am_M} (A : pA) (h : InvC μ A) (ok : okA A) : am_MA G yX7_undo cX7_undo 1 (some .int) 3 0 0 [.ref 0] am_SH μ (am_P (some (.int (oUndo A).1)) am_SH (fun μ9 => InvC μ9 (oUndo A).2 ∧ am_fr μ μ9 0 234)) := by
  refine am_ofK (own := RX7) (nm := "undo") (L := [some (.ref 0)]) rfl rfl (by decide +kernel) (Nat.le_of_ble_eq_true rfl) rfl ?_
  cases ea : A.ac with
  | nil =>
    refine aw_aload_n dX7_undo_0 rfl ?_
    refine aw_gr dX7_undo_1 gf_X7_36 sh_0 (by rfl) ?_
    refine aw_gi dX7_undo_4 gf_X7_138 sh_34 (by rfl) ?_
    refine aw_top (show _ = nI 0 by have := h.ac.1; rw [ea] at this; exact this) ?_
    refine aw_if_ne (tgt := 13) dX7_undo_7 (by decide) (fun c7 => ?_) (fun c7 => ?_)
    · exact absurd nI_0 c7
    · refine aw_ldc dX7_undo_10 kc_X7_141 ?_
      refine aw_iret dX7_undo_12 rfl rfl rfl rfl ?_
      refine pAns ?_ h am_fr.rf
      rw [oUndo, ea]
      rfl
  | cons K ac =>
    refine aw_aload_n dX7_undo_0 rfl ?_
    refine aw_gr dX7_undo_1 gf_X7_36 sh_0 (by rfl) ?_
    refine aw_gi dX7_undo_4 gf_X7_138 sh_34 (by rfl) ?_
    refine aw_top (show _ = nI (ac.length + 1) by have := h.ac.1; rw [ea] at this; exact this) ?_
    refine aw_if_ne (tgt := 13) dX7_undo_7 (by decide) (fun c7 => ?_) (fun c7 => ?_)
    · refine aw_aload_n dX7_undo_13 rfl ?_
      refine aw_gr dX7_undo_14 gf_X7_36 sh_0 (by rfl) ?_
      refine aw_aload_n dX7_undo_17 rfl ?_
      refine aw_gr dX7_undo_18 gf_X7_30 sh_0 (by rfl) ?_
      refine aw_v1ip dX7_undo_21 ml_X7_142 im_X0_takeBack se_X0_takeBack (c_X0_takeBack K ac (by have := h.ac; rw [ea] at this; exact this)) sh_34 (by decide) rfl rfl (Nat.le_of_ble_eq_true rfl) (Nat.le_of_ble_eq_true rfl) (Nat.le_of_ble_eq_true rfl) (Nat.le_of_ble_eq_true rfl) (Nat.le_of_ble_eq_true rfl) (fun μ2 q2 => ?_)
      refine aw_iret dX7_undo_24 rfl rfl rfl rfl ?_
      refine pAns ?_ (h.sky q2.2.1 q2.1 (fun b hb => q2.2.2 b (by omega))) (q2.2.2.mono (by omega) (by omega))
      rw [oUndo, ea]
      rfl
    · exact absurd c7 (nI_ne0 (by omega) (by have := ok.acl; rw [ea] at this; simp at this; omega))
set_option maxRecDepth 100000 in
set_option maxHeartbeats 4000000 in
theorem c_X7_burn {G : am_G} {μ : am_M} (A : pA) (h : InvC μ A) (ok : okA A) (x1 x2 : Int32) : am_MA G yX7_burn cX7_burn 3 (some .int) 4 0 0 [.ref 0, .int x1, .int x2] am_SH μ (am_P (some (.int (oBurn A x1 x2).1)) am_SH (fun μ9 => InvC μ9 (oBurn A x1 x2).2 ∧ am_fr μ μ9 0 234)) := by
  have h5 := ok.k.1
  refine am_ofK (own := RX7) (nm := "burn") (L := [some (.ref 0), some (.int x1), some (.int x2)]) rfl rfl (by decide +kernel) (Nat.le_of_ble_eq_true rfl) rfl ?_
  refine aw_aload_n dX7_burn_0 rfl ?_
  refine aw_iload_n dX7_burn_1 rfl ?_
  refine aw_v1i dX7_burn_2 ml_X7_168 im_X7_isOffice se_X7_isOffice (c_X7_isOffice A h.sk ok.k _) sh_0 (by decide) rfl rfl (Nat.le_of_ble_eq_true rfl) (Nat.le_of_ble_eq_true rfl) (Nat.le_of_ble_eq_true rfl) (Nat.le_of_ble_eq_true rfl) (Nat.le_of_ble_eq_true rfl) ?_
  refine aw_pif_eq (tgt := 18) dX7_burn_5 (by decide) (fun c5 => ?_) (fun c5 => ?_)
  · refine aw_ldc dX7_burn_18 kc_X7_75 ?_
    refine aw_iret dX7_burn_20 rfl rfl rfl rfl ?_
    exact pAns ((if_neg c5).trans rfl) h am_fr.rf
  · obtain ⟨k5, rfl, ha5, hb5, hz5⟩ := pIn_ex c5
    refine aw_iload_n dX7_burn_8 rfl ?_
    refine aw_iconst (v := nI 1) dX7_burn_9 rfl ?_
    refine aw_bipush (v := nI 20) dX7_burn_10 rfl ?_
    refine aw_s3i dX7_burn_12 ml_X7_71 st_X7_within (c_X7_within _ 1 21 rfl (by decide +kernel) (by decide) (by decide)) (Nat.le_of_ble_eq_true rfl) (Nat.le_of_ble_eq_true rfl) (Nat.le_of_ble_eq_true rfl) (Nat.le_of_ble_eq_true rfl) (Nat.le_of_ble_eq_true rfl) ?_
    refine aw_pif_ne (tgt := 21) dX7_burn_15 (by decide) (fun c15 => ?_) (fun c15 => ?_)
    · obtain ⟨k15, rfl, ha15, hb15, hz15⟩ := pIn_ex c15
      refine aw_aload_n dX7_burn_21 rfl ?_
      refine aw_gr dX7_burn_22 gf_X7_30 sh_0 (by rfl) ?_
      refine aw_gr dX7_burn_25 gf_X7_171 sh_sky27.1 (by rfl) ?_
      refine aw_iload_n dX7_burn_28 rfl ?_
      refine aw_iald dX7_burn_29 sh_sky27.2.2.2.2.2.1 rfl (by omega) (by decide) ?_
      refine aw_top (h.sk.2.2.2.2 k5 hb5).2.2.2.1 ?_
      refine aw_iload_n dX7_burn_30 rfl ?_
      refine aw_icmp_ge (tgt := 37) dX7_burn_31 (by decide) (fun c31 => ?_) (fun c31 => ?_)
      · rw [nI_leI (by omega) (by have := (ok.k.2.2.2.2 k5 hb5).2.2.2; omega)] at c31
        refine aw_aload_n dX7_burn_37 rfl ?_
        refine aw_gr dX7_burn_38 gf_X7_36 sh_0 (by rfl) ?_
        refine aw_aload_n dX7_burn_41 rfl ?_
        refine aw_gr dX7_burn_42 gf_X7_30 sh_0 (by rfl) ?_
        refine aw_v1vp dX7_burn_45 ml_X7_153 im_X0_keep se_X0_keep (c_X0_keep A.ac h.ac A.K h.sk ok.k) sh_34 (by decide) rfl rfl (Nat.le_of_ble_eq_true rfl) (Nat.le_of_ble_eq_true rfl) (Nat.le_of_ble_eq_true rfl) (Nat.le_of_ble_eq_true rfl) (Nat.le_of_ble_eq_true rfl) (fun μ2 q2 => ?_)
        refine aw_aload_n dX7_burn_48 rfl ?_
        refine aw_gr dX7_burn_49 gf_X7_30 sh_0 (by rfl) ?_
        refine aw_iload_n dX7_burn_52 rfl ?_
        refine aw_iload_n dX7_burn_53 rfl ?_
        refine aw_v2vp dX7_burn_54 ml_X7_174 im_X5_useSheets se_X5_useSheets (c_X5_useSheets 27 sh_sky27 A.K (h.sk.fr (fun b _ _ => q2.2 b (by omega))) ok.k k5 k15 hb5 c31) sh_sky27.1 (by decide) rfl rfl (Nat.le_of_ble_eq_true rfl) (Nat.le_of_ble_eq_true rfl) (Nat.le_of_ble_eq_true rfl) (Nat.le_of_ble_eq_true rfl) (Nat.le_of_ble_eq_true rfl) (fun μ3 q3 => ?_)
        refine aw_aload_n dX7_burn_57 rfl ?_
        refine aw_gr dX7_burn_58 gf_X7_30 sh_0 (by rfl) ?_
        refine aw_gr dX7_burn_61 gf_X7_177 sh_sky27.1 (by rfl) ?_
        refine aw_iload_n dX7_burn_64 rfl ?_
        refine aw_iald dX7_burn_65 sh_sky27.2.2.2.2.1 rfl (by omega) (by decide) ?_
        refine aw_top (q3.1.2.2.2.2 k5 (show k5 < pBurn A.K k5 k15 5 by rw [pBurn, pUp_n (by omega), pUp_n (by omega), pUp_n (by omega)]; exact hb5)).2.2.1 ?_
        refine aw_iret dX7_burn_66 rfl rfl rfl rfl ?_
        refine pAns (A2 := A.act (pBurn A.K k5 k15)) ?_ (h.sky q3.1 (q2.1.fr (fun b _ _ => q3.2 b (by omega))) (fun b hb => by rw [q3.2 b (by omega)]; exact q2.2 b (by omega))) ((q2.2.mono (by omega) (by omega)).tr (q3.2.mono (by omega) (by omega)))
        rw [oBurn, if_pos c5, if_pos c15, zN_nI hz5, zN_nI hz15, if_pos c31]
      · rw [nI_leI (by omega) (by have := (ok.k.2.2.2.2 k5 hb5).2.2.2; omega)] at c31
        refine aw_ldc dX7_burn_34 kc_X7_141 ?_
        refine aw_iret dX7_burn_36 rfl rfl rfl rfl ?_
        refine pAns ?_ h am_fr.rf
        rw [oBurn, if_pos c5, if_pos c15, zN_nI hz5, zN_nI hz15, if_neg c31]
    · refine aw_ldc dX7_burn_18 kc_X7_75 ?_
      refine aw_iret dX7_burn_20 rfl rfl rfl rfl ?_
      exact pAns ((if_pos c5).trans ((if_neg c15).trans rfl)) h am_fr.rf
set_option maxRecDepth 100000 in
set_option maxHeartbeats 4000000 in
theorem c_X7_send {G : am_G} {μ : am_M} (A : pA) (h : InvC μ A) (ok : okA A) (x1 x2 x3 : Int32) : am_MA G yX7_send cX7_send 4 (some .int) 3 0 0 [.ref 0, .int x1, .int x2, .int x3] am_SH μ (am_P (some (.int (oSend A x1 x2 x3).1)) am_SH (fun μ9 => InvC μ9 (oSend A x1 x2 x3).2 ∧ am_fr μ μ9 0 234)) := by
  have h5 := ok.k.1
  refine am_ofK (own := RX7) (nm := "send") (L := [some (.ref 0), some (.int x1), some (.int x2), some (.int x3)]) rfl rfl (by decide +kernel) (Nat.le_of_ble_eq_true rfl) rfl ?_
  refine aw_aload_n dX7_send_0 rfl ?_
  refine aw_iload_n dX7_send_1 rfl ?_
  refine aw_v1i dX7_send_2 ml_X7_168 im_X7_isOffice se_X7_isOffice (c_X7_isOffice A h.sk ok.k _) sh_0 (by decide) rfl rfl (Nat.le_of_ble_eq_true rfl) (Nat.le_of_ble_eq_true rfl) (Nat.le_of_ble_eq_true rfl) (Nat.le_of_ble_eq_true rfl) (Nat.le_of_ble_eq_true rfl) ?_
  refine aw_pif_eq (tgt := 31) dX7_send_5 (by decide) (fun c5 => ?_) (fun c5 => ?_)
  · refine aw_ldc dX7_send_31 kc_X7_75 ?_
    refine aw_iret dX7_send_33 rfl rfl rfl rfl ?_
    exact pAns ((if_neg c5).trans rfl) h am_fr.rf
  · obtain ⟨k5, rfl, ha5, hb5, hz5⟩ := pIn_ex c5
    refine aw_aload_n dX7_send_8 rfl ?_
    refine aw_iload_n dX7_send_9 rfl ?_
    refine aw_v1i dX7_send_10 ml_X7_168 im_X7_isOffice se_X7_isOffice (c_X7_isOffice A h.sk ok.k _) sh_0 (by decide) rfl rfl (Nat.le_of_ble_eq_true rfl) (Nat.le_of_ble_eq_true rfl) (Nat.le_of_ble_eq_true rfl) (Nat.le_of_ble_eq_true rfl) (Nat.le_of_ble_eq_true rfl) ?_
    refine aw_pif_eq (tgt := 31) dX7_send_13 (by decide) (fun c13 => ?_) (fun c13 => ?_)
    · refine aw_ldc dX7_send_31 kc_X7_75 ?_
      refine aw_iret dX7_send_33 rfl rfl rfl rfl ?_
      exact pAns ((if_pos c5).trans ((if_neg c13).trans rfl)) h am_fr.rf
    · obtain ⟨k13, rfl, ha13, hb13, hz13⟩ := pIn_ex c13
      refine aw_iload_n dX7_send_16 rfl ?_
      refine aw_iload_n dX7_send_17 rfl ?_
      refine aw_icmp_eq (tgt := 31) dX7_send_18 (by decide) (fun c18 => ?_) (fun c18 => ?_)
      · refine aw_ldc dX7_send_31 kc_X7_75 ?_
        refine aw_iret dX7_send_33 rfl rfl rfl rfl ?_
        exact pAns ((if_pos c5).trans ((if_pos c13).trans ((if_pos c18).trans rfl))) h am_fr.rf
      · have hne : k5 ≠ k13 := fun e => c18 (by rw [e])
        refine aw_iload_n dX7_send_21 rfl ?_
        refine aw_iconst (v := nI 1) dX7_send_22 rfl ?_
        refine aw_bipush (v := nI 60) dX7_send_23 rfl ?_
        refine aw_s3i dX7_send_25 ml_X7_71 st_X7_within (c_X7_within _ 1 61 rfl (by decide +kernel) (by decide) (by decide)) (Nat.le_of_ble_eq_true rfl) (Nat.le_of_ble_eq_true rfl) (Nat.le_of_ble_eq_true rfl) (Nat.le_of_ble_eq_true rfl) (Nat.le_of_ble_eq_true rfl) ?_
        refine aw_pif_ne (tgt := 34) dX7_send_28 (by decide) (fun c28 => ?_) (fun c28 => ?_)
        · obtain ⟨k28, rfl, ha28, hb28, hz28⟩ := pIn_ex c28
          refine aw_aload_n dX7_send_34 rfl ?_
          refine aw_gr dX7_send_35 gf_X7_30 sh_0 (by rfl) ?_
          refine aw_gr dX7_send_38 gf_X7_180 sh_sky27.1 (by rfl) ?_
          refine aw_iload_n dX7_send_41 rfl ?_
          refine aw_iald dX7_send_42 sh_sky27.2.2.2.1 rfl (by omega) (by decide) ?_
          refine aw_top (h.sk.2.2.2.2 k5 hb5).2.1 ?_
          refine aw_aload_n dX7_send_43 rfl ?_
          refine aw_gr dX7_send_44 gf_X7_30 sh_0 (by rfl) ?_
          refine aw_gr dX7_send_47 gf_X7_180 sh_sky27.1 (by rfl) ?_
          refine aw_iload_n dX7_send_50 rfl ?_
          refine aw_iald dX7_send_51 sh_sky27.2.2.2.1 rfl (by omega) (by decide) ?_
          refine aw_top (h.sk.2.2.2.2 k13 hb13).2.1 ?_
          refine aw_icmp_ne (tgt := 68) dX7_send_52 (by decide) (fun c52 => ?_) (fun c52 => ?_)
          · rw [nI_eq (by have := (ok.k.2.2.2.2 k5 hb5).2.1; omega) (by have := (ok.k.2.2.2.2 k13 hb13).2.1; omega)] at c52
            refine aw_ldc dX7_send_68 kc_X7_141 ?_
            refine aw_iret dX7_send_70 rfl rfl rfl rfl ?_
            refine pAns ?_ h am_fr.rf
            rw [oSend, if_pos c5, if_pos c13, if_neg c18, if_pos c28, zN_nI hz5, zN_nI hz13, zN_nI hz28, if_neg c52]
          · rw [nI_eq (by have := (ok.k.2.2.2.2 k5 hb5).2.1; omega) (by have := (ok.k.2.2.2.2 k13 hb13).2.1; omega)] at c52
            refine aw_aload_n dX7_send_55 rfl ?_
            refine aw_gr dX7_send_56 gf_X7_30 sh_0 (by rfl) ?_
            refine aw_gr dX7_send_59 gf_X7_171 sh_sky27.1 (by rfl) ?_
            refine aw_iload_n dX7_send_62 rfl ?_
            refine aw_iald dX7_send_63 sh_sky27.2.2.2.2.2.1 rfl (by omega) (by decide) ?_
            refine aw_top (h.sk.2.2.2.2 k5 hb5).2.2.2.1 ?_
            refine aw_iload_n dX7_send_64 rfl ?_
            refine aw_icmp_ge (tgt := 71) dX7_send_65 (by decide) (fun c65 => ?_) (fun c65 => ?_)
            · rw [nI_leI (by omega) (by have := (ok.k.2.2.2.2 k5 hb5).2.2.2; omega)] at c65
              refine aw_aload_n dX7_send_71 rfl ?_
              refine aw_gr dX7_send_72 gf_X7_30 sh_0 (by rfl) ?_
              refine aw_gr dX7_send_75 gf_X7_171 sh_sky27.1 (by rfl) ?_
              refine aw_iload_n dX7_send_78 rfl ?_
              refine aw_iald dX7_send_79 sh_sky27.2.2.2.2.2.1 rfl (by omega) (by decide) ?_
              refine aw_top (h.sk.2.2.2.2 k13 hb13).2.2.2.1 ?_
              refine aw_iload_n dX7_send_80 rfl ?_
              refine aw_iadd dX7_send_81 ?_
              refine aw_top (nI_add _ _) ?_
              refine aw_bipush (v := nI 99) dX7_send_82 rfl ?_
              refine aw_icmp_le (tgt := 90) dX7_send_84 (by decide) (fun c84 => ?_) (fun c84 => ?_)
              · rw [nI_leI (by have := (ok.k.2.2.2.2 k13 hb13).2.2.2; omega) (by decide)] at c84
                refine aw_aload_n dX7_send_90 rfl ?_
                refine aw_gr dX7_send_91 gf_X7_36 sh_0 (by rfl) ?_
                refine aw_aload_n dX7_send_94 rfl ?_
                refine aw_gr dX7_send_95 gf_X7_30 sh_0 (by rfl) ?_
                refine aw_v1vp dX7_send_98 ml_X7_153 im_X0_keep se_X0_keep (c_X0_keep A.ac h.ac A.K h.sk ok.k) sh_34 (by decide) rfl rfl (Nat.le_of_ble_eq_true rfl) (Nat.le_of_ble_eq_true rfl) (Nat.le_of_ble_eq_true rfl) (Nat.le_of_ble_eq_true rfl) (Nat.le_of_ble_eq_true rfl) (fun μ2 q2 => ?_)
                have hs2 := h.sk.fr (fun b _ _ => q2.2 b (by omega))
                refine aw_aload_n dX7_send_101 rfl ?_
                refine aw_gr dX7_send_102 gf_X7_30 sh_0 (by rfl) ?_
                refine aw_gr dX7_send_105 gf_X7_171 sh_sky27.1 (by rfl) ?_
                refine aw_iload_n dX7_send_108 rfl ?_
                refine aw_dup2 dX7_send_109 rfl rfl ?_
                refine aw_iald dX7_send_110 sh_sky27.2.2.2.2.2.1 rfl (by omega) (by decide) ?_
                refine aw_top (hs2.2.2.2.2 k5 hb5).2.2.2.1 ?_
                refine aw_iload_n dX7_send_111 rfl ?_
                refine aw_isub dX7_send_112 ?_
                refine aw_top (pk_sub c65) ?_
                refine aw_iast dX7_send_113 sh_sky27.2.2.2.2.2.1 rfl (by omega) (by decide) ?_
                have hs3 := hs2.s3 (x := A.K (22 + k5) - k28) hb5 h5
                refine aw_aload_n dX7_send_114 rfl ?_
                refine aw_gr dX7_send_115 gf_X7_30 sh_0 (by rfl) ?_
                refine aw_gr dX7_send_118 gf_X7_171 sh_sky27.1 (by rfl) ?_
                refine aw_iload_n dX7_send_121 rfl ?_
                refine aw_dup2 dX7_send_122 rfl rfl ?_
                refine aw_iald dX7_send_123 sh_sky27.2.2.2.2.2.1 rfl (by omega) (by decide) ?_
                refine aw_top (show _ = nI (A.K (22 + k13)) by have := (hs3.2.2.2.2 k13 (show k13 < pUp A.K (22 + k5) _ 5 by rw [pUp_n (by omega)]; exact hb13)).2.2.2.1; rw [pUp_n (by omega)] at this; exact this) ?_
                refine aw_iload_n dX7_send_124 rfl ?_
                refine aw_iadd dX7_send_125 ?_
                refine aw_top (nI_add _ _) ?_
                refine aw_iast dX7_send_126 sh_sky27.2.2.2.2.2.1 rfl (by omega) (by decide) ?_
                have hs4 := hs3.s3 (x := A.K (22 + k13) + k28) (o := k13) (show k13 < pUp A.K (22 + k5) _ 5 by rw [pUp_n (by omega)]; exact hb13) (show pUp A.K (22 + k5) _ 5 ≤ 5 by rw [pUp_n (by omega)]; exact h5)
                refine aw_aload_n dX7_send_127 rfl ?_
                refine aw_gr dX7_send_128 gf_X7_30 sh_0 (by rfl) ?_
                refine aw_gr dX7_send_131 gf_X7_171 sh_sky27.1 (by rfl) ?_
                refine aw_iload_n dX7_send_134 rfl ?_
                refine aw_iald dX7_send_135 sh_sky27.2.2.2.2.2.1 rfl (by omega) (by decide) ?_
                refine aw_top (show _ = nI (A.K (22 + k13) + k28) by rw [am_ups, pk_us]) ?_
                refine aw_iret dX7_send_136 rfl rfl rfl rfl ?_
                refine pAns (A2 := A.act (pSend A.K k5 k13 k28)) ?_ (h.sky hs4 (q2.1.fr (fun b _ _ => by rw [am_up_n (by omega), am_up_n (by omega)])) (fun b hb => by rw [am_up_n (by omega), am_up_n (by omega)]; exact q2.2 b (by omega))) (((q2.2.mono (by omega) (by omega)).up (by omega) (by omega)).up (by omega) (by omega))
                rw [oSend, if_pos c5, if_pos c13, if_neg c18, if_pos c28, zN_nI hz5, zN_nI hz13, zN_nI hz28, if_pos c52, if_pos c65, if_pos c84]
              · rw [nI_leI (by have := (ok.k.2.2.2.2 k13 hb13).2.2.2; omega) (by decide)] at c84
                refine aw_ldc dX7_send_87 kc_X7_152 ?_
                refine aw_iret dX7_send_89 rfl rfl rfl rfl ?_
                refine pAns ?_ h am_fr.rf
                rw [oSend, if_pos c5, if_pos c13, if_neg c18, if_pos c28, zN_nI hz5, zN_nI hz13, zN_nI hz28, if_pos c52, if_pos c65, if_neg c84]
            · rw [nI_leI (by omega) (by have := (ok.k.2.2.2.2 k5 hb5).2.2.2; omega)] at c65
              refine aw_ldc dX7_send_68 kc_X7_141 ?_
              refine aw_iret dX7_send_70 rfl rfl rfl rfl ?_
              refine pAns ?_ h am_fr.rf
              rw [oSend, if_pos c5, if_pos c13, if_neg c18, if_pos c28, zN_nI hz5, zN_nI hz13, zN_nI hz28, if_pos c52, if_neg c65]
        · refine aw_ldc dX7_send_31 kc_X7_75 ?_
          refine aw_iret dX7_send_33 rfl rfl rfl rfl ?_
          exact pAns ((if_pos c5).trans ((if_pos c13).trans ((if_neg c18).trans ((if_neg c28).trans rfl)))) h am_fr.rf
set_option maxRecDepth 100000 in
set_option maxHeartbeats 4000000 in
theorem c_X7_wind {G : am_G} {μ : am_M} (A : pA) (h : InvC μ A) (ok : okA A) (x1 x2 : Int32) : am_MA G yX7_wind cX7_wind 4 (some .int) 3 0 0 [.ref 0, .int x1, .int x2] am_SH μ (am_P (some (.int (oWind A x1 x2).1)) am_SH (fun μ9 => InvC μ9 (oWind A x1 x2).2 ∧ am_fr μ μ9 0 234)) := by
  refine am_ofK (own := RX7) (nm := "wind") (L := [some (.ref 0), some (.int x1), some (.int x2), none]) rfl rfl (by decide +kernel) (Nat.le_of_ble_eq_true rfl) rfl ?_
  refine aw_aload_n dX7_wind_0 rfl ?_
  refine aw_v0i dX7_wind_1 ml_X7_145 im_X7_noSky se_X7_noSky (c_X7_noSky A h.sk ok.k) sh_0 (by decide) rfl rfl (Nat.le_of_ble_eq_true rfl) (Nat.le_of_ble_eq_true rfl) (Nat.le_of_ble_eq_true rfl) (Nat.le_of_ble_eq_true rfl) (Nat.le_of_ble_eq_true rfl) ?_
  refine aw_pif_eq (tgt := 10) dX7_wind_4 (by decide) (fun c4 => ?_) (fun c4 => ?_)
  · refine aw_iload_n dX7_wind_10 rfl ?_
    refine aw_iconst (v := nI 0) dX7_wind_11 rfl ?_
    refine aw_iconst (v := nI 3) dX7_wind_12 rfl ?_
    refine aw_s3i dX7_wind_13 ml_X7_71 st_X7_within (c_X7_within _ 0 4 rfl (by decide +kernel) (by decide) (by decide)) (Nat.le_of_ble_eq_true rfl) (Nat.le_of_ble_eq_true rfl) (Nat.le_of_ble_eq_true rfl) (Nat.le_of_ble_eq_true rfl) (Nat.le_of_ble_eq_true rfl) ?_
    refine aw_pif_eq (tgt := 28) dX7_wind_16 (by decide) (fun c16 => ?_) (fun c16 => ?_)
    · refine aw_ldc dX7_wind_28 kc_X7_75 ?_
      refine aw_iret dX7_wind_30 rfl rfl rfl rfl ?_
      exact pAns ((if_neg c4).trans ((if_neg c16).trans rfl)) h am_fr.rf
    · obtain ⟨k16, rfl, ha16, hb16, hz16⟩ := pIn_ex c16
      refine aw_iload_n dX7_wind_19 rfl ?_
      refine aw_iconst (v := nI 0) dX7_wind_20 rfl ?_
      refine aw_iconst (v := nI 4) dX7_wind_21 rfl ?_
      refine aw_s3i dX7_wind_22 ml_X7_71 st_X7_within (c_X7_within _ 0 5 rfl (by decide +kernel) (by decide) (by decide)) (Nat.le_of_ble_eq_true rfl) (Nat.le_of_ble_eq_true rfl) (Nat.le_of_ble_eq_true rfl) (Nat.le_of_ble_eq_true rfl) (Nat.le_of_ble_eq_true rfl) ?_
      refine aw_pif_ne (tgt := 31) dX7_wind_25 (by decide) (fun c25 => ?_) (fun c25 => ?_)
      · obtain ⟨k25, rfl, ha25, hb25, hz25⟩ := pIn_ex c25
        refine aw_aload_n dX7_wind_31 rfl ?_
        refine aw_gr dX7_wind_32 gf_X7_30 sh_0 (by rfl) ?_
        refine aw_gr dX7_wind_35 gf_X7_183 sh_sky27.1 (by rfl) ?_
        refine aw_iload_n dX7_wind_38 rfl ?_
        refine aw_iald dX7_wind_39 sh_sky27.2.1 rfl (by omega) (by decide) ?_
        refine aw_top (h.sk.2.2.2.1 k16 hb16) ?_
        refine aw_istore_n dX7_wind_40 (Nat.le_of_ble_eq_true rfl) ?_
        refine aw_aload_n dX7_wind_41 rfl ?_
        refine aw_gr dX7_wind_42 gf_X7_36 sh_0 (by rfl) ?_
        refine aw_aload_n dX7_wind_45 rfl ?_
        refine aw_gr dX7_wind_46 gf_X7_30 sh_0 (by rfl) ?_
        refine aw_v1vp dX7_wind_49 ml_X7_153 im_X0_keep se_X0_keep (c_X0_keep A.ac h.ac A.K h.sk ok.k) sh_34 (by decide) rfl rfl (Nat.le_of_ble_eq_true rfl) (Nat.le_of_ble_eq_true rfl) (Nat.le_of_ble_eq_true rfl) (Nat.le_of_ble_eq_true rfl) (Nat.le_of_ble_eq_true rfl) (fun μ2 q2 => ?_)
        refine aw_aload_n dX7_wind_52 rfl ?_
        refine aw_gr dX7_wind_53 gf_X7_30 sh_0 (by rfl) ?_
        refine aw_gr dX7_wind_56 gf_X7_183 sh_sky27.1 (by rfl) ?_
        refine aw_iload_n dX7_wind_59 rfl ?_
        refine aw_iload_n dX7_wind_60 rfl ?_
        refine aw_iast dX7_wind_61 sh_sky27.2.1 rfl (by omega) (by decide) ?_
        have hs3 := (h.sk.fr (fun b _ _ => q2.2 b (by omega))).wd (x := k25) hb16
        refine aw_iload_n dX7_wind_62 rfl ?_
        refine aw_iret dX7_wind_63 rfl rfl rfl rfl ?_
        refine pAns (A2 := A.act (pUp A.K k16 k25)) ?_ (h.sky hs3 (q2.1.fr (fun b _ _ => am_up_n (by omega))) (fun b hb => by rw [am_up_n (by omega)]; exact q2.2 b (by omega))) ((q2.2.mono (by omega) (by omega)).up (by omega) (by omega))
        rw [oWind, if_neg c4, if_pos c16, if_pos c25, zN_nI hz16, zN_nI hz25]
      · refine aw_ldc dX7_wind_28 kc_X7_75 ?_
        refine aw_iret dX7_wind_30 rfl rfl rfl rfl ?_
        exact pAns ((if_neg c4).trans ((if_pos c16).trans ((if_neg c25).trans rfl))) h am_fr.rf
  · refine aw_ldc dX7_wind_7 kc_X7_141 ?_
    refine aw_iret dX7_wind_9 rfl rfl rfl rfl ?_
    exact pAns ((if_pos c4).trans rfl) h am_fr.rf
