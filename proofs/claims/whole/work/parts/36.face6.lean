theorem pHs_cg {k s h i n : Nat} {f g : Nat → Int32} (e : ∀ j, j < n → f (i + j) = g (i + j)) : ∀ j, j ≤ n → pHs k s h f i j = pHs k s h g i j
  | 0, _ => rfl
  | j + 1, hj => by unfold pHs; rw [pHs_cg e j (by omega), e j (by omega)]
theorem pWs_cg {k s h i n : Nat} {f g : Nat → Int32} (e : ∀ j, j < n → f (i + j) = g (i + j)) : ∀ j, j ≤ n → pWs k s h f i j = pWs k s h g i j
  | 0, _ => rfl
  | j + 1, hj => by unfold pWs; rw [pWs_cg e j (by omega), pHs_cg e j (by omega), e j (by omega)]
theorem pAllO_mem {k5 : Nat} {f : Nat → Int32} : ∀ n i, pAllO k5 f n i = true → ∀ d, d < n → pIn (f (i + d)) 0 k5
  | 0, _, _, d, hd => absurd hd (by omega)
  | n + 1, i, h, d, hd => by
    unfold pAllO at h
    rw [Bool.and_eq_true] at h
    cases d with
    | zero => exact of_decide_eq_true h.1
    | succ d => rw [show i + (d + 1) = i + 1 + d by omega]; exact pAllO_mem n (i + 1) h.2 d (by omega)
set_option maxRecDepth 100000 in
set_option maxHeartbeats 4000000 in
theorem c_X7_ash {G : am_G} {μ : am_M} (A : pA) (h : InvC μ A) (ok : okA A) (x1 x2 x3 x4 x5 : Int32) : am_MA G yX7_ash cX7_ash 8 (some .int) 4 0 0 [.ref 0, .int x1, .int x2, .int x3, .int x4, .int x5] am_SH μ (am_P (some (.int (oAsh A x1 x2 x3 x4 x5).1)) am_SH (fun μ9 => InvC μ9 (oAsh A x1 x2 x3 x4 x5).2 ∧ am_fr μ μ9 0 234)) := by
  refine am_ofK (own := RX7) (nm := "ash") (L := [some (.ref 0), some (.int x1), some (.int x2), some (.int x3), some (.int x4), some (.int x5), none, none]) rfl rfl (by decide +kernel) (Nat.le_of_ble_eq_true rfl) rfl ?_
  refine aw_aload_n dX7_ash_0 rfl ?_
  refine aw_iload_n dX7_ash_1 rfl ?_
  refine aw_v1i dX7_ash_2 ml_X7_168 im_X7_isOffice se_X7_isOffice (c_X7_isOffice A h.sk ok.k _) sh_0 (by decide) rfl rfl (Nat.le_of_ble_eq_true rfl) (Nat.le_of_ble_eq_true rfl) (Nat.le_of_ble_eq_true rfl) (Nat.le_of_ble_eq_true rfl) (Nat.le_of_ble_eq_true rfl) ?_
  refine aw_pif_eq (tgt := 32) dX7_ash_5 (by decide) (fun c5 => ?_) (fun c5 => ?_)
  · refine aw_ldc dX7_ash_32 kc_X7_75 ?_
    refine aw_iret dX7_ash_34 rfl rfl rfl rfl ?_
    exact pAns ((if_neg c5).trans rfl) h am_fr.rf
  · obtain ⟨k5, rfl, ha5, hb5, hz5⟩ := pIn_ex c5
    refine aw_iload_n dX7_ash_8 rfl ?_
    refine aw_s1i dX7_ash_9 ml_X7_67 st_X7_isRow (c_X7_isRow _) (Nat.le_of_ble_eq_true rfl) (Nat.le_of_ble_eq_true rfl) (Nat.le_of_ble_eq_true rfl) (Nat.le_of_ble_eq_true rfl) (Nat.le_of_ble_eq_true rfl) ?_
    refine aw_pif_eq (tgt := 32) dX7_ash_12 (by decide) (fun c12 => ?_) (fun c12 => ?_)
    · refine aw_ldc dX7_ash_32 kc_X7_75 ?_
      refine aw_iret dX7_ash_34 rfl rfl rfl rfl ?_
      exact pAns ((if_pos c5).trans ((if_neg c12).trans rfl)) h am_fr.rf
    · obtain ⟨k12, rfl, ha12, hb12, hz12⟩ := pIn_ex c12
      refine aw_iload dX7_ash_15 rfl ?_
      refine aw_iconst (v := nI 1) dX7_ash_17 rfl ?_
      refine aw_bipush (v := nI 6) dX7_ash_18 rfl ?_
      refine aw_s3i dX7_ash_20 ml_X7_71 st_X7_within (c_X7_within _ 1 7 rfl (by decide +kernel) (by decide) (by decide)) (Nat.le_of_ble_eq_true rfl) (Nat.le_of_ble_eq_true rfl) (Nat.le_of_ble_eq_true rfl) (Nat.le_of_ble_eq_true rfl) (Nat.le_of_ble_eq_true rfl) ?_
      refine aw_pif_eq (tgt := 32) dX7_ash_23 (by decide) (fun c23 => ?_) (fun c23 => ?_)
      · refine aw_ldc dX7_ash_32 kc_X7_75 ?_
        refine aw_iret dX7_ash_34 rfl rfl rfl rfl ?_
        exact pAns ((if_pos c5).trans ((if_pos c12).trans ((if_neg c23).trans rfl))) h am_fr.rf
      · obtain ⟨k23, rfl, ha23, hb23, hz23⟩ := pIn_ex c23
        refine aw_iload dX7_ash_26 rfl ?_
        refine aw_iconst (v := (-1)) dX7_ash_28 rfl ?_
        refine aw_icmp_ge (tgt := 35) dX7_ash_29 (by decide) (fun c29 => ?_) (fun c29 => ?_)
        · refine aw_aload_n dX7_ash_35 rfl ?_
          refine aw_gr dX7_ash_36 gf_X7_11 sh_0 (by rfl) ?_
          refine aw_iload_n dX7_ash_39 rfl ?_
          refine aw_aald (t := 2) dX7_ash_40 sh_1 (by decide) rfl (by omega) (by decide) (sh_1r _ (by omega)) ?_
          refine aw_iload_n dX7_ash_41 rfl ?_
          refine aw_iload dX7_ash_42 rfl ?_
          refine aw_v2i dX7_ash_44 ml_X7_87 im_X4_findingOf se_X4_findingOf (c_X4_findingOf (2 + 2 * k12) (sh_row k12 (by omega)) (A.w k12) (h.rows k12 (by omega)) _ _) (sh_row k12 (by omega)).1 (by decide) rfl rfl (Nat.le_of_ble_eq_true rfl) (Nat.le_of_ble_eq_true rfl) (Nat.le_of_ble_eq_true rfl) (Nat.le_of_ble_eq_true rfl) (Nat.le_of_ble_eq_true rfl) ?_
          refine aw_istore dX7_ash_47 (Nat.le_of_ble_eq_true rfl) ?_
          refine aw_iload dX7_ash_49 rfl ?_
          refine aw_if_eq (tgt := 61) dX7_ash_51 (by decide) (fun c51 => ?_) (fun c51 => ?_)
          · rw [z_eq (Nat.lt_of_le_of_lt (pFind_lt _ _ _) (by decide))] at c51
            obtain ⟨l, n, f, i, ew, rfl, hin, hzi⟩ := pFind_sp hz23 c51
            have hw := h.rows k12 (by omega)
            rw [ew] at hw
            have hn40 := hw.2.2.2.2.1
            refine aw_aload_n dX7_ash_61 rfl ?_
            refine aw_gr dX7_ash_62 gf_X7_49 sh_0 (by rfl) ?_
            refine aw_iload_n dX7_ash_65 rfl ?_
            refine aw_aload_n dX7_ash_66 rfl ?_
            refine aw_gr dX7_ash_67 gf_X7_11 sh_0 (by rfl) ?_
            refine aw_iload_n dX7_ash_70 rfl ?_
            refine aw_aald (t := 2) dX7_ash_71 sh_1 (by decide) rfl (by omega) (by decide) (sh_1r _ (by omega)) ?_
            refine aw_gr dX7_ash_72 gf_X7_105 (sh_row k12 (by omega)).1 (by rfl) ?_
            refine aw_iload_n dX7_ash_75 rfl ?_
            refine aw_iload dX7_ash_76 rfl ?_
            refine aw_v4ip dX7_ash_78 ml_X7_239 im_X2_waysToBurn se_X2_waysToBurn (c_X2_waysToBurn A.K h.sk ok.k k5 hb5 (2 + 2 * k12 + 1) i k23 (sh_row k12 (by omega)).2 (by omega) (by omega) (by omega)) sh_219 (by decide) rfl rfl (Nat.le_of_ble_eq_true rfl) (Nat.le_of_ble_eq_true rfl) (Nat.le_of_ble_eq_true rfl) (Nat.le_of_ble_eq_true rfl) (Nat.le_of_ble_eq_true rfl) (fun μ2 q2 => ?_)
            have ef : ∀ j, j < k23 → (μ (2 + 2 * k12 + 1)) (i + j) = pItm (A.w k12) (i + j) := fun j hj => by rw [ew]; exact hw.2.2.2.2.2 _ (by omega)
            have e1 : pWs (A.K (7 + k5)) (A.K 4) (A.K (17 + k5)) (μ (2 + 2 * k12 + 1)) i k23 = (pWy A k5 k12 i k23) := pWs_cg ef k23 (Nat.le_refl _)
            rw [e1] at q2
            have h4 : (pWy A k5 k12 i k23) < 2 ^ 31 := Nat.lt_of_le_of_lt (Nat.le_trans (pWs_le _ _ _ _ _ _) (Nat.pow_le_pow_right (by decide) (show k23 ≤ 6 by omega))) (by decide)
            refine aw_top (show _ = nI (pWy A k5 k12 i k23) from congrArg nI e1) ?_
            have h2 : InvC μ2 A := h.fr (fun b hb => q2.2 b (by omega))
            refine aw_istore dX7_ash_81 (Nat.le_of_ble_eq_true rfl) ?_
            refine aw_iload dX7_ash_83 rfl ?_
            refine aw_iconst (v := (-1)) dX7_ash_85 rfl ?_
            refine aw_icmp_ne (tgt := 96) dX7_ash_86 (by decide) (fun c86 => ?_) (fun c86 => ?_)
            · obtain ⟨k, hk, rfl⟩ := z_m1 c29 c86
              refine aw_aload_n dX7_ash_96 rfl ?_
              refine aw_iload dX7_ash_97 rfl ?_
              refine aw_if_eq (tgt := 109) dX7_ash_99 (by decide) (fun c99 => ?_) (fun c99 => ?_)
              · rw [z_eq h4] at c99
                refine aw_ldc dX7_ash_109 kc_X7_227 ?_
                refine aw_goto (tgt := 124) dX7_ash_111 (by decide) ?_
                refine aw_v1i dX7_ash_124 ml_X7_84 im_X7_foundNothing se_X7_foundNothing (c_X7_foundNothing _) sh_0 (by decide) rfl rfl (Nat.le_of_ble_eq_true rfl) (Nat.le_of_ble_eq_true rfl) (Nat.le_of_ble_eq_true rfl) (Nat.le_of_ble_eq_true rfl) (Nat.le_of_ble_eq_true rfl) ?_
                refine aw_iret dX7_ash_127 rfl rfl rfl rfl ?_
                refine pAns ?_ (h2.fd _) ((q2.2.mono (by omega) (by omega)).up (by omega) (by omega))
                rw [oAsh, if_pos c5, if_pos c12, if_pos c23, if_pos c29, zN_nI hz12, if_pos c51, zN_nI hz5, zN_nI hz23, zN_nI hzi, if_neg c86, if_pos c99]
                rfl
              · rw [z_eq h4] at c99
                refine aw_iload dX7_ash_102 rfl ?_
                refine aw_iload dX7_ash_104 rfl ?_
                refine aw_icmp_lt (tgt := 114) dX7_ash_106 (by decide) (fun c106 => ?_) (fun c106 => ?_)
                · rw [nI_ltI hk (by omega)] at c106
                  refine aw_aload_n dX7_ash_114 rfl ?_
                  refine aw_gr dX7_ash_115 gf_X7_49 sh_0 (by rfl) ?_
                  refine aw_gr dX7_ash_118 gf_X7_242 sh_219 (by rfl) ?_
                  refine aw_iload dX7_ash_121 rfl ?_
                  refine aw_iald dX7_ash_123 sh_227 rfl (by omega) (by decide) ?_
                  refine aw_top (show _ = nI (pWk A k5 k12 i k) by rw [q2.1 (by omega) k c106, pHs_cg ef k (by omega), ef k c106]; rfl) ?_
                  refine aw_v1i dX7_ash_124 ml_X7_84 im_X7_foundNothing se_X7_foundNothing (c_X7_foundNothing _) sh_0 (by decide) rfl rfl (Nat.le_of_ble_eq_true rfl) (Nat.le_of_ble_eq_true rfl) (Nat.le_of_ble_eq_true rfl) (Nat.le_of_ble_eq_true rfl) (Nat.le_of_ble_eq_true rfl) ?_
                  refine aw_iret dX7_ash_127 rfl rfl rfl rfl ?_
                  refine pAns ?_ (h2.fd _) ((q2.2.mono (by omega) (by omega)).up (by omega) (by omega))
                  rw [oAsh, if_pos c5, if_pos c12, if_pos c23, if_pos c29, zN_nI hz12, if_pos c51, zN_nI hz5, zN_nI hz23, zN_nI hzi, if_neg c86, if_neg c99, if_pos ((nI_ltI hk (by omega)).mpr c106), zN_nI hk]
                  rfl
                · rw [nI_ltI hk (by omega)] at c106
                  refine aw_ldc dX7_ash_109 kc_X7_227 ?_
                  refine aw_goto (tgt := 124) dX7_ash_111 (by decide) ?_
                  refine aw_v1i dX7_ash_124 ml_X7_84 im_X7_foundNothing se_X7_foundNothing (c_X7_foundNothing _) sh_0 (by decide) rfl rfl (Nat.le_of_ble_eq_true rfl) (Nat.le_of_ble_eq_true rfl) (Nat.le_of_ble_eq_true rfl) (Nat.le_of_ble_eq_true rfl) (Nat.le_of_ble_eq_true rfl) ?_
                  refine aw_iret dX7_ash_127 rfl rfl rfl rfl ?_
                  refine pAns ?_ (h2.fd _) ((q2.2.mono (by omega) (by omega)).up (by omega) (by omega))
                  rw [oAsh, if_pos c5, if_pos c12, if_pos c23, if_pos c29, zN_nI hz12, if_pos c51, zN_nI hz5, zN_nI hz23, zN_nI hzi, if_neg c86, if_neg c99, if_neg (fun e => c106 ((nI_ltI hk (by omega)).mp e))]
                  rfl
            · refine aw_aload_n dX7_ash_89 rfl ?_
              refine aw_iload dX7_ash_90 rfl ?_
              refine aw_v1i dX7_ash_92 ml_X7_84 im_X7_foundNothing se_X7_foundNothing (c_X7_foundNothing _) sh_0 (by decide) rfl rfl (Nat.le_of_ble_eq_true rfl) (Nat.le_of_ble_eq_true rfl) (Nat.le_of_ble_eq_true rfl) (Nat.le_of_ble_eq_true rfl) (Nat.le_of_ble_eq_true rfl) ?_
              refine aw_iret dX7_ash_95 rfl rfl rfl rfl ?_
              refine pAns ?_ (h2.fd _) ((q2.2.mono (by omega) (by omega)).up (by omega) (by omega))
              rw [oAsh, if_pos c5, if_pos c12, if_pos c23, if_pos c29, zN_nI hz12, if_pos c51, zN_nI hz5, zN_nI hz23, zN_nI hzi, if_pos c86]
              rfl
          · rw [z_eq (Nat.lt_of_le_of_lt (pFind_lt _ _ _) (by decide))] at c51
            refine aw_aload_n dX7_ash_54 rfl ?_
            refine aw_iload dX7_ash_55 rfl ?_
            refine aw_v1i dX7_ash_57 ml_X7_76 im_X7_found se_X7_found (c_X7_found _) sh_0 (by decide) rfl rfl (Nat.le_of_ble_eq_true rfl) (Nat.le_of_ble_eq_true rfl) (Nat.le_of_ble_eq_true rfl) (Nat.le_of_ble_eq_true rfl) (Nat.le_of_ble_eq_true rfl) ?_
            refine aw_iret dX7_ash_60 rfl rfl rfl rfl ?_
            refine pAns ?_ (h.fd _) (am_fr.rf.up (by omega) (by omega))
            rw [oAsh, if_pos c5, if_pos c12, if_pos c23, if_pos c29, zN_nI hz12, if_neg c51]
            rfl
        · refine aw_ldc dX7_ash_32 kc_X7_75 ?_
          refine aw_iret dX7_ash_34 rfl rfl rfl rfl ?_
          exact pAns ((if_pos c5).trans ((if_pos c12).trans ((if_pos c23).trans ((if_neg c29).trans rfl)))) h am_fr.rf
set_option maxRecDepth 100000 in
set_option maxHeartbeats 4000000 in
theorem l_X7_petition {G : am_G} {μ : am_M} (A : pA) (h : InvC μ A) (ok : okA A) (l r i n : Nat) (hl : l ≤ 9) (hr : r < 8) (hin : i + n ≤ 40) (hns : A.w r ≠ none) : ∀ (s j : Nat) (X : Option Value), j + s = i + n → pAllO (A.K 5) (pItm (A.w r)) s j = pAllO (A.K 5) (pItm (A.w r)) n i → am_W (am_K G RX7 "petition" 7 (some .int) 5 0 0 (am_P (some (.int (if pAllO (A.K 5) (pItm (A.w r)) n i = true then A.ok (pPs l (fun d => zN ((pItm (A.w r)) (i + d))) n 61 0 A.K 0) else A.bad).1)) am_SH (fun μ9 => InvC μ9 (if pAllO (A.K 5) (pItm (A.w r)) n i = true then A.ok (pPs l (fun d => zN ((pItm (A.w r)) (i + d))) n 61 0 A.K 0) else A.bad).2 ∧ am_fr μ μ9 0 234))) cX7_petition 67 [some (.ref 0), some (.int (nI l)), some (.int (nI r)), some (.int (nI i)), some (.int (nI n)), X, some (.int (nI j))] [] am_SH μ 0 0 := by
  intro s
  induction s with
  | zero =>
    intro j X hj e
    have hw := h.rows r hr
    obtain ⟨⟨w1, w2, w3⟩, ew⟩ := Option.ne_none_iff_exists'.mp hns
    rw [ew] at hw
    have hm : ∀ p, p < 40 → μ (2 + 2 * r + 1) p = pItm (A.w r) p := fun p hp => by rw [ew]; exact hw.2.2.2.2.2 p hp
    have ha := pAllO_mem n i e.symm
    refine aw_iload dX7_petition_67 rfl ?_
    refine aw_iload_n dX7_petition_69 rfl ?_
    refine aw_iload dX7_petition_70 rfl ?_
    refine aw_iadd dX7_petition_72 ?_
    refine aw_top (nI_add _ _) ?_
    refine aw_icmp_ge (tgt := 104) dX7_petition_73 (by decide) (fun c73 => ?_) (fun c73 => ?_)
    · refine aw_aload_n dX7_petition_104 rfl ?_
      refine aw_aload_n dX7_petition_105 rfl ?_
      refine aw_gr dX7_petition_106 gf_X7_49 sh_0 (by rfl) ?_
      refine aw_iload_n dX7_petition_109 rfl ?_
      refine aw_aload_n dX7_petition_110 rfl ?_
      refine aw_gr dX7_petition_111 gf_X7_11 sh_0 (by rfl) ?_
      refine aw_iload_n dX7_petition_114 rfl ?_
      refine aw_aald (t := 2) dX7_petition_115 sh_1 (by decide) rfl (by omega) (by decide) (sh_1r _ (by omega)) ?_
      refine aw_gr dX7_petition_116 gf_X7_105 (sh_row r (by omega)).1 (by rfl) ?_
      refine aw_iload_n dX7_petition_119 rfl ?_
      refine aw_iload dX7_petition_120 rfl ?_
      refine aw_v4ip dX7_petition_122 ml_X7_235 im_X2_hoursToPass se_X2_hoursToPass (c_X2_hoursToPass A.K h.sk ok.k ok.k6 l (2 + 2 * r + 1) i n (fun d => zN (pItm (A.w r) (i + d))) hl (sh_row r hr).2 (by omega) (by omega) (fun d hd => by rw [hm _ (by omega)]; obtain ⟨k, e1, _, _, e2⟩ := pIn_ex (ha d hd); rw [e1, zN_nI e2]) (fun d hd => by obtain ⟨k, e1, _, e3, e2⟩ := pIn_ex (ha d hd); show zN _ < _; rw [e1, zN_nI e2]; exact e3)) sh_219 (by decide) rfl rfl (Nat.le_of_ble_eq_true rfl) (Nat.le_of_ble_eq_true rfl) (Nat.le_of_ble_eq_true rfl) (Nat.le_of_ble_eq_true rfl) (Nat.le_of_ble_eq_true rfl) (fun μ2 q2 => ?_)
      refine aw_v1i dX7_petition_125 ml_X7_84 im_X7_foundNothing se_X7_foundNothing (c_X7_foundNothing _) sh_0 (by decide) rfl rfl (Nat.le_of_ble_eq_true rfl) (Nat.le_of_ble_eq_true rfl) (Nat.le_of_ble_eq_true rfl) (Nat.le_of_ble_eq_true rfl) (Nat.le_of_ble_eq_true rfl) ?_
      refine aw_iret dX7_petition_128 rfl rfl rfl rfl ?_
      refine pAns ?_ ((h.fr (fun b hb => q2 b (by omega))).fd 0) ((q2.mono (by omega) (by omega)).up (by omega) (by omega))
      rw [if_pos (show _ = true from e.symm)]
      rfl
    · exact absurd (nI_le (by omega) (by omega)) c73
  | succ s ih =>
    intro j X hj e
    have hw := h.rows r hr
    obtain ⟨⟨w1, w2, w3⟩, ew⟩ := Option.ne_none_iff_exists'.mp hns
    rw [ew] at hw
    have hm : ∀ p, p < 40 → μ (2 + 2 * r + 1) p = pItm (A.w r) p := fun p hp => by rw [ew]; exact hw.2.2.2.2.2 p hp
    refine aw_iload dX7_petition_67 rfl ?_
    refine aw_iload_n dX7_petition_69 rfl ?_
    refine aw_iload dX7_petition_70 rfl ?_
    refine aw_iadd dX7_petition_72 ?_
    refine aw_top (nI_add _ _) ?_
    refine aw_icmp_ge (tgt := 104) dX7_petition_73 (by decide) (fun c73 => ?_) (fun c73 => ?_)
    · exact absurd c73 (nI_ge (by omega) (by omega))
    · refine aw_aload_n dX7_petition_76 rfl ?_
      refine aw_aload_n dX7_petition_77 rfl ?_
      refine aw_gr dX7_petition_78 gf_X7_11 sh_0 (by rfl) ?_
      refine aw_iload_n dX7_petition_81 rfl ?_
      refine aw_aald (t := 2) dX7_petition_82 sh_1 (by decide) rfl (by omega) (by decide) (sh_1r _ (by omega)) ?_
      refine aw_gr dX7_petition_83 gf_X7_105 (sh_row r (by omega)).1 (by rfl) ?_
      refine aw_iload dX7_petition_86 rfl ?_
      refine aw_iald dX7_petition_88 (sh_row r hr).2 rfl (by omega) (by decide) ?_
      refine aw_top (hm j (by omega)) ?_
      refine aw_v1i dX7_petition_89 ml_X7_168 im_X7_isOffice se_X7_isOffice (c_X7_isOffice A h.sk ok.k _) sh_0 (by decide) rfl rfl (Nat.le_of_ble_eq_true rfl) (Nat.le_of_ble_eq_true rfl) (Nat.le_of_ble_eq_true rfl) (Nat.le_of_ble_eq_true rfl) (Nat.le_of_ble_eq_true rfl) ?_
      refine aw_pif_ne (tgt := 98) dX7_petition_92 (by decide) (fun c92 => ?_) (fun c92 => ?_)
      · refine aw_iinc (v := nI (j + 1)) dX7_petition_98 rfl (nI_1 j) (Nat.le_of_ble_eq_true rfl) ?_
        refine aw_goto (tgt := 67) dX7_petition_101 (by decide) ?_
        exact ih (j + 1) _ (by omega) (by rw [← e, pAllO, decide_eq_true c92]; rfl)
      · refine aw_ldc dX7_petition_95 kc_X7_75 ?_
        refine aw_iret dX7_petition_97 rfl rfl rfl rfl ?_
        refine pAns ?_ h am_fr.rf
        rw [if_neg (fun q => by rw [← e, pAllO, decide_eq_false c92] at q; exact absurd q (by simp))]
        rfl
set_option maxRecDepth 100000 in
set_option maxHeartbeats 4000000 in
theorem c_X7_petition {G : am_G} {μ : am_M} (A : pA) (h : InvC μ A) (ok : okA A) (x1 x2 x3 x4 : Int32) : am_MA G yX7_petition cX7_petition 7 (some .int) 5 0 0 [.ref 0, .int x1, .int x2, .int x3, .int x4] am_SH μ (am_P (some (.int (oPet A x1 x2 x3 x4).1)) am_SH (fun μ9 => InvC μ9 (oPet A x1 x2 x3 x4).2 ∧ am_fr μ μ9 0 234)) := by
  refine am_ofK (own := RX7) (nm := "petition") (L := [some (.ref 0), some (.int x1), some (.int x2), some (.int x3), some (.int x4), none, none]) rfl rfl (by decide +kernel) (Nat.le_of_ble_eq_true rfl) rfl ?_
  refine aw_aload_n dX7_petition_0 rfl ?_
  refine aw_v0i dX7_petition_1 ml_X7_145 im_X7_noSky se_X7_noSky (c_X7_noSky A h.sk ok.k) sh_0 (by decide) rfl rfl (Nat.le_of_ble_eq_true rfl) (Nat.le_of_ble_eq_true rfl) (Nat.le_of_ble_eq_true rfl) (Nat.le_of_ble_eq_true rfl) (Nat.le_of_ble_eq_true rfl) ?_
  refine aw_pif_eq (tgt := 10) dX7_petition_4 (by decide) (fun c4 => ?_) (fun c4 => ?_)
  · refine aw_iload_n dX7_petition_10 rfl ?_
    refine aw_s1i dX7_petition_11 ml_X7_198 st_X7_isLand (c_X7_isLand _) (Nat.le_of_ble_eq_true rfl) (Nat.le_of_ble_eq_true rfl) (Nat.le_of_ble_eq_true rfl) (Nat.le_of_ble_eq_true rfl) (Nat.le_of_ble_eq_true rfl) ?_
    refine aw_pif_eq (tgt := 35) dX7_petition_14 (by decide) (fun c14 => ?_) (fun c14 => ?_)
    · refine aw_ldc dX7_petition_35 kc_X7_75 ?_
      refine aw_iret dX7_petition_37 rfl rfl rfl rfl ?_
      exact pAns ((if_neg c4).trans ((if_neg c14).trans rfl)) h am_fr.rf
    · obtain ⟨k14, rfl, ha14, hb14, hz14⟩ := pIn_ex c14
      refine aw_iload_n dX7_petition_17 rfl ?_
      refine aw_s1i dX7_petition_18 ml_X7_67 st_X7_isRow (c_X7_isRow _) (Nat.le_of_ble_eq_true rfl) (Nat.le_of_ble_eq_true rfl) (Nat.le_of_ble_eq_true rfl) (Nat.le_of_ble_eq_true rfl) (Nat.le_of_ble_eq_true rfl) ?_
      refine aw_pif_eq (tgt := 35) dX7_petition_21 (by decide) (fun c21 => ?_) (fun c21 => ?_)
      · refine aw_ldc dX7_petition_35 kc_X7_75 ?_
        refine aw_iret dX7_petition_37 rfl rfl rfl rfl ?_
        exact pAns ((if_neg c4).trans ((if_pos c14).trans ((if_neg c21).trans rfl))) h am_fr.rf
      · obtain ⟨k21, rfl, ha21, hb21, hz21⟩ := pIn_ex c21
        refine aw_iload dX7_petition_24 rfl ?_
        refine aw_iconst (v := nI 1) dX7_petition_26 rfl ?_
        refine aw_bipush (v := nI 8) dX7_petition_27 rfl ?_
        refine aw_s3i dX7_petition_29 ml_X7_71 st_X7_within (c_X7_within _ 1 9 rfl (by decide +kernel) (by decide) (by decide)) (Nat.le_of_ble_eq_true rfl) (Nat.le_of_ble_eq_true rfl) (Nat.le_of_ble_eq_true rfl) (Nat.le_of_ble_eq_true rfl) (Nat.le_of_ble_eq_true rfl) ?_
        refine aw_pif_ne (tgt := 38) dX7_petition_32 (by decide) (fun c32 => ?_) (fun c32 => ?_)
        · obtain ⟨k32, rfl, ha32, hb32, hz32⟩ := pIn_ex c32
          refine aw_aload_n dX7_petition_38 rfl ?_
          refine aw_gr dX7_petition_39 gf_X7_11 sh_0 (by rfl) ?_
          refine aw_iload_n dX7_petition_42 rfl ?_
          refine aw_aald (t := 2) dX7_petition_43 sh_1 (by decide) rfl (by omega) (by decide) (sh_1r _ (by omega)) ?_
          refine aw_iload_n dX7_petition_44 rfl ?_
          refine aw_iload dX7_petition_45 rfl ?_
          refine aw_v2i dX7_petition_47 ml_X7_87 im_X4_findingOf se_X4_findingOf (c_X4_findingOf (2 + 2 * k21) (sh_row k21 (by omega)) (A.w k21) (h.rows k21 (by omega)) _ _) (sh_row k21 (by omega)).1 (by decide) rfl rfl (Nat.le_of_ble_eq_true rfl) (Nat.le_of_ble_eq_true rfl) (Nat.le_of_ble_eq_true rfl) (Nat.le_of_ble_eq_true rfl) (Nat.le_of_ble_eq_true rfl) ?_
          refine aw_istore dX7_petition_50 (Nat.le_of_ble_eq_true rfl) ?_
          refine aw_iload dX7_petition_52 rfl ?_
          refine aw_if_eq (tgt := 64) dX7_petition_54 (by decide) (fun c54 => ?_) (fun c54 => ?_)
          · rw [z_eq (Nat.lt_of_le_of_lt (pFind_lt _ _ _) (by decide))] at c54
            obtain ⟨l, n, f, i, ew, rfl, hin, hzi⟩ := pFind_sp hz32 c54
            have hw := h.rows k21 (by omega)
            rw [ew] at hw
            have hn40 := hw.2.2.2.2.1
            refine aw_iload_n dX7_petition_64 rfl ?_
            refine aw_istore dX7_petition_65 (Nat.le_of_ble_eq_true rfl) ?_
            have e9 : oPet A (nI k14) (nI k21) (nI i) (nI k32) = (if pAllO (A.K 5) (pItm (A.w k21)) k32 i = true then A.ok (pPs k14 (fun d => zN ((pItm (A.w k21)) (i + d))) k32 61 0 A.K 0) else A.bad) := by
              rw [oPet, if_neg c4, if_pos c14, if_pos c21, if_pos c32, zN_nI hz21, if_pos c54, zN_nI hz14, zN_nI hz32, zN_nI hzi]
            rw [e9]
            exact l_X7_petition A h ok k14 k21 i k32 (by omega) (by omega) (by omega) (by rw [ew]; simp) k32 i _ rfl rfl
          · rw [z_eq (Nat.lt_of_le_of_lt (pFind_lt _ _ _) (by decide))] at c54
            refine aw_aload_n dX7_petition_57 rfl ?_
            refine aw_iload dX7_petition_58 rfl ?_
            refine aw_v1i dX7_petition_60 ml_X7_76 im_X7_found se_X7_found (c_X7_found _) sh_0 (by decide) rfl rfl (Nat.le_of_ble_eq_true rfl) (Nat.le_of_ble_eq_true rfl) (Nat.le_of_ble_eq_true rfl) (Nat.le_of_ble_eq_true rfl) (Nat.le_of_ble_eq_true rfl) ?_
            refine aw_iret dX7_petition_63 rfl rfl rfl rfl ?_
            refine pAns ?_ (h.fd _) (am_fr.rf.up (by omega) (by omega))
            rw [oPet, if_neg c4, if_pos c14, if_pos c21, if_pos c32, zN_nI hz21, if_neg c54]
            rfl
        · refine aw_ldc dX7_petition_35 kc_X7_75 ?_
          refine aw_iret dX7_petition_37 rfl rfl rfl rfl ?_
          exact pAns ((if_neg c4).trans ((if_pos c14).trans ((if_pos c21).trans ((if_neg c32).trans rfl)))) h am_fr.rf
  · refine aw_ldc dX7_petition_7 kc_X7_141 ?_
    refine aw_iret dX7_petition_9 rfl rfl rfl rfl ?_
    exact pAns ((if_pos c4).trans rfl) h am_fr.rf
set_option maxRecDepth 100000 in
set_option maxHeartbeats 4000000 in
theorem c_X7_turned {G : am_G} {μ : am_M} (A : pA) (h : InvC μ A) (ok : okA A) (x1 x2 x3 x4 x5 : Int32) : am_MA G yX7_turned cX7_turned 8 (some .long) 5 0 0 [.ref 0, .int x1, .int x2, .int x3, .int x4, .int x5] am_SH μ (am_P (some (.long (oTurned A x1 x2 x3 x4 x5))) am_SH (fun μ9 => InvC μ9 A ∧ am_fr μ μ9 0 234)) := by
  refine am_ofK (own := RX7) (nm := "turned") (L := [some (.ref 0), some (.int x1), some (.int x2), some (.int x3), some (.int x4), some (.int x5), none, none]) rfl rfl (by decide +kernel) (Nat.le_of_ble_eq_true rfl) rfl ?_
  refine aw_aload_n dX7_turned_0 rfl ?_
  refine aw_iload_n dX7_turned_1 rfl ?_
  refine aw_v1i dX7_turned_2 ml_X7_168 im_X7_isOffice se_X7_isOffice (c_X7_isOffice A h.sk ok.k _) sh_0 (by decide) rfl rfl (Nat.le_of_ble_eq_true rfl) (Nat.le_of_ble_eq_true rfl) (Nat.le_of_ble_eq_true rfl) (Nat.le_of_ble_eq_true rfl) (Nat.le_of_ble_eq_true rfl) ?_
  refine aw_pif_eq (tgt := 44) dX7_turned_5 (by decide) (fun c5 => ?_) (fun c5 => ?_)
  · refine aw_ldc2 dX7_turned_44 kl_X7_261 ?_
    refine aw_lret dX7_turned_47 rfl rfl rfl ?_
    exact pAnsL ((if_neg c5).trans rfl) h am_fr.rf
  · obtain ⟨k5, rfl, ha5, hb5, hz5⟩ := pIn_ex c5
    refine aw_iload_n dX7_turned_8 rfl ?_
    refine aw_s1i dX7_turned_9 ml_X7_198 st_X7_isLand (c_X7_isLand _) (Nat.le_of_ble_eq_true rfl) (Nat.le_of_ble_eq_true rfl) (Nat.le_of_ble_eq_true rfl) (Nat.le_of_ble_eq_true rfl) (Nat.le_of_ble_eq_true rfl) ?_
    refine aw_pif_eq (tgt := 44) dX7_turned_12 (by decide) (fun c12 => ?_) (fun c12 => ?_)
    · refine aw_ldc2 dX7_turned_44 kl_X7_261 ?_
      refine aw_lret dX7_turned_47 rfl rfl rfl ?_
      exact pAnsL ((if_pos c5).trans ((if_neg c12).trans rfl)) h am_fr.rf
    · obtain ⟨k12, rfl, ha12, hb12, hz12⟩ := pIn_ex c12
      refine aw_iload_n dX7_turned_15 rfl ?_
      refine aw_iconst (v := nI 1) dX7_turned_16 rfl ?_
      refine aw_bipush (v := nI 12) dX7_turned_17 rfl ?_
      refine aw_s3i dX7_turned_19 ml_X7_71 st_X7_within (c_X7_within _ 1 13 rfl (by decide +kernel) (by decide) (by decide)) (Nat.le_of_ble_eq_true rfl) (Nat.le_of_ble_eq_true rfl) (Nat.le_of_ble_eq_true rfl) (Nat.le_of_ble_eq_true rfl) (Nat.le_of_ble_eq_true rfl) ?_
      refine aw_pif_eq (tgt := 44) dX7_turned_22 (by decide) (fun c22 => ?_) (fun c22 => ?_)
      · refine aw_ldc2 dX7_turned_44 kl_X7_261 ?_
        refine aw_lret dX7_turned_47 rfl rfl rfl ?_
        exact pAnsL ((if_pos c5).trans ((if_pos c12).trans ((if_neg c22).trans rfl))) h am_fr.rf
      · obtain ⟨k22, rfl, ha22, hb22, hz22⟩ := pIn_ex c22
        refine aw_iload dX7_turned_25 rfl ?_
        refine aw_iconst (v := nI 0) dX7_turned_27 rfl ?_
        refine aw_bipush (v := nI 10) dX7_turned_28 rfl ?_
        refine aw_s3i dX7_turned_30 ml_X7_71 st_X7_within (c_X7_within _ 0 11 rfl (by decide +kernel) (by decide) (by decide)) (Nat.le_of_ble_eq_true rfl) (Nat.le_of_ble_eq_true rfl) (Nat.le_of_ble_eq_true rfl) (Nat.le_of_ble_eq_true rfl) (Nat.le_of_ble_eq_true rfl) ?_
        refine aw_pif_eq (tgt := 44) dX7_turned_33 (by decide) (fun c33 => ?_) (fun c33 => ?_)
        · refine aw_ldc2 dX7_turned_44 kl_X7_261 ?_
          refine aw_lret dX7_turned_47 rfl rfl rfl ?_
          exact pAnsL ((if_pos c5).trans ((if_pos c12).trans ((if_pos c22).trans ((if_neg c33).trans rfl)))) h am_fr.rf
        · obtain ⟨k33, rfl, ha33, hb33, hz33⟩ := pIn_ex c33
          refine aw_iload dX7_turned_36 rfl ?_
          refine aw_s1i dX7_turned_38 ml_X7_204 st_X7_isOneOfTwo (c_X7_isOneOfTwo _) (Nat.le_of_ble_eq_true rfl) (Nat.le_of_ble_eq_true rfl) (Nat.le_of_ble_eq_true rfl) (Nat.le_of_ble_eq_true rfl) (Nat.le_of_ble_eq_true rfl) ?_
          refine aw_pif_ne (tgt := 48) dX7_turned_41 (by decide) (fun c41 => ?_) (fun c41 => ?_)
          · obtain ⟨k41, rfl, ha41, hb41, hz41⟩ := pIn_ex c41
            refine aw_aload_n dX7_turned_48 rfl ?_
            refine aw_gr dX7_turned_49 gf_X7_49 sh_0 (by rfl) ?_
            refine aw_iload_n dX7_turned_52 rfl ?_
            refine aw_iload_n dX7_turned_53 rfl ?_
            refine aw_iload_n dX7_turned_54 rfl ?_
            refine aw_iload dX7_turned_55 rfl ?_
            refine aw_v4i dX7_turned_57 ml_X7_263 im_X2_casesInLand se_X2_casesInLand (c_X2_casesInLand A.K h.sk ok.k k5 hb5 k12 k22 k33 (by omega) (by omega) (by omega)) sh_219 (by decide) rfl rfl (Nat.le_of_ble_eq_true rfl) (Nat.le_of_ble_eq_true rfl) (Nat.le_of_ble_eq_true rfl) (Nat.le_of_ble_eq_true rfl) (Nat.le_of_ble_eq_true rfl) ?_
            have hcl := pCL_le A.K k5 k12 k22 k33 (by omega) 16
            refine aw_istore dX7_turned_60 (Nat.le_of_ble_eq_true rfl) ?_
            refine aw_sipush (v := nI 10000) dX7_turned_62 rfl ?_
            refine aw_iload dX7_turned_65 rfl ?_
            refine aw_s2i dX7_turned_67 ml_X7_266 st_X2_commonDivisor (c_X2_commonDivisor 10000 (pCL A.K k5 k12 k22 k33 16) (by decide) (by omega)) (Nat.le_of_ble_eq_true rfl) (Nat.le_of_ble_eq_true rfl) (Nat.le_of_ble_eq_true rfl) (Nat.le_of_ble_eq_true rfl) (Nat.le_of_ble_eq_true rfl) ?_
            refine aw_top (show _ = nI (Nat.gcd 10000 (pCL A.K k5 k12 k22 k33 16)) from congrArg nI (pGc_gcd 18 100 10000 _ (by omega) (by decide))) ?_
            have hg0 : 0 < (Nat.gcd 10000 (pCL A.K k5 k12 k22 k33 16)) := Nat.gcd_pos_of_pos_left _ (by decide)
            have hg1 : (Nat.gcd 10000 (pCL A.K k5 k12 k22 k33 16)) ≤ 10000 := Nat.le_of_dvd (by decide) (Nat.gcd_dvd_left _ _)
            refine aw_istore dX7_turned_70 (Nat.le_of_ble_eq_true rfl) ?_
            refine aw_iload dX7_turned_72 rfl ?_
            refine aw_if_ne (tgt := 81) dX7_turned_74 (by decide) (fun c74 => ?_) (fun c74 => ?_)
            · refine aw_iload dX7_turned_81 rfl ?_
              refine aw_if_ne (tgt := 91) dX7_turned_83 (by decide) (fun c83 => ?_) (fun c83 => ?_)
              · refine aw_sipush (v := nI 10000) dX7_turned_91 rfl ?_
                refine aw_iload dX7_turned_94 rfl ?_
                refine aw_idiv dX7_turned_96 (c74) ?_
                refine aw_top (pk_div (by omega) (by omega) (by omega)) ?_
                refine aw_i2l dX7_turned_97 ?_
                rw [nI_l (Nat.lt_of_le_of_lt (Nat.div_le_self _ _) (by omega))]
                refine aw_lret dX7_turned_98 rfl rfl rfl ?_
                refine pAnsL ?_ h am_fr.rf
                rw [oTurned, if_pos c5, if_pos c12, if_pos c22, if_pos c33, if_pos c41, zN_nI hz5, zN_nI hz12, zN_nI hz22, zN_nI hz33, if_neg c83]
              · refine aw_iload dX7_turned_86 rfl ?_
                refine aw_goto (tgt := 94) dX7_turned_88 (by decide) ?_
                refine aw_iload dX7_turned_94 rfl ?_
                refine aw_idiv dX7_turned_96 (c74) ?_
                refine aw_top (pk_div (by omega) (by omega) (by omega)) ?_
                refine aw_i2l dX7_turned_97 ?_
                rw [nI_l (Nat.lt_of_le_of_lt (Nat.div_le_self _ _) (by omega))]
                refine aw_lret dX7_turned_98 rfl rfl rfl ?_
                refine pAnsL ?_ h am_fr.rf
                rw [oTurned, if_pos c5, if_pos c12, if_pos c22, if_pos c33, if_pos c41, zN_nI hz5, zN_nI hz12, zN_nI hz22, zN_nI hz33, if_pos c83]
            · exact absurd c74 (nI_ne0 hg0 (by omega))
          · refine aw_ldc2 dX7_turned_44 kl_X7_261 ?_
            refine aw_lret dX7_turned_47 rfl rfl rfl ?_
            exact pAnsL ((if_pos c5).trans ((if_pos c12).trans ((if_pos c22).trans ((if_pos c33).trans ((if_neg c41).trans rfl))))) h am_fr.rf
