set_option maxRecDepth 100000 in
set_option maxHeartbeats 4000000 in
theorem c_X8_undo {G : am_G} {μ : am_M} (A : pA) (h : InvM μ A) (ok : okA A) (hk5 : A.ac ≠ [] → ¬ A.K 5 = 0) : am_MA G yX8_undo cX8_undo 1 (some .int) 1 0 0 [.ref 234] am_SH μ (am_P (some (.int (oUndo A).1)) am_SH (fun μ9 => InvM μ9 (oUndo A).2 ∧ am_fr μ μ9 234 14)) := by
  have hl := ok.acl
  refine am_ofK (own := RX8) (nm := "undo") (L := [some (.ref 234)]) rfl rfl (by decide +kernel) (Nat.le_of_ble_eq_true rfl) rfl ?_
  cases ea : A.ac with
  | nil =>
    refine aw_aload_n dX8_undo_0 rfl ?_
    refine aw_gi dX8_undo_1 gf_X8_141 sh_234 (by rfl) ?_
    refine aw_top (show _ = nI 0 by rw [h.acn, ea]; rfl) ?_
    refine aw_if_ne (tgt := 10) dX8_undo_4 (by decide) (fun c4 => ?_) (fun c4 => ?_)
    · exact absurd nI_0 c4
    · refine aw_ldc dX8_undo_7 kc_X8_169 ?_
      refine aw_iret dX8_undo_9 rfl rfl rfl rfl ?_
      refine pAnsM ?_ h am_fr.rf
      rw [oUndo, ea]
      rfl
  | cons K ac =>
    rw [ea] at hl
    have hl2 : ac.length + 1 ≤ 24 := hl
    refine aw_aload_n dX8_undo_0 rfl ?_
    refine aw_gi dX8_undo_1 gf_X8_141 sh_234 (by rfl) ?_
    refine aw_top (show _ = nI (ac.length + 1) by rw [h.acn, ea]; rfl) ?_
    refine aw_if_ne (tgt := 10) dX8_undo_4 (by decide) (fun c4 => ?_) (fun c4 => ?_)
    · refine aw_aload_n dX8_undo_10 rfl ?_
      refine aw_dup dX8_undo_11 rfl ?_
      refine aw_gi dX8_undo_12 gf_X8_141 sh_234 (by rfl) ?_
      refine aw_top (show _ = nI (ac.length + 1) by rw [h.acn, ea]; rfl) ?_
      refine aw_iconst (v := nI 1) dX8_undo_15 rfl ?_
      refine aw_isub dX8_undo_16 ?_
      refine aw_top (pk_sub (by omega)) ?_
      refine aw_top (show _ = nI ac.length by rw [Nat.add_sub_cancel]) ?_
      refine aw_pi dX8_undo_17 pf_X8_141 rfl rfl sh_234 (by rfl) ?_
      refine aw_aload_n dX8_undo_20 rfl ?_
      refine aw_gr dX8_undo_21 gf_X8_25 sh_234 (by rfl) ?_
      refine aw_bipush (v := nI 32) dX8_undo_24 rfl ?_
      refine aw_aload_n dX8_undo_26 rfl ?_
      refine aw_gi dX8_undo_27 gf_X8_141 sh_234 (by rfl) ?_
      refine aw_top (show _ = nI ac.length by rw [am_ups, pk_us]) ?_
      refine aw_imul dX8_undo_30 ?_
      refine aw_top (pk_mul _ _) ?_
      refine aw_aload_n dX8_undo_31 rfl ?_
      refine aw_gr dX8_undo_32 gf_X8_22 sh_234 (by rfl) ?_
      refine aw_iconst (v := nI 0) dX8_undo_35 rfl ?_
      refine aw_s4vp dX8_undo_36 ml_X8_144 st_X8_copies (c_X8_copies 240 239 (32 * ac.length) 0 768 32 sh_240 sh_239 (by decide) (by omega) (by decide) (by decide) (by decide)) (Nat.le_of_ble_eq_true rfl) (Nat.le_of_ble_eq_true rfl) (Nat.le_of_ble_eq_true rfl) (Nat.le_of_ble_eq_true rfl) (Nat.le_of_ble_eq_true rfl) (fun μ2 q2 => ?_)
      refine aw_aload_n dX8_undo_39 rfl ?_
      refine aw_gi dX8_undo_40 gf_X8_141 sh_234 (by rfl) ?_
      refine aw_top (show _ = nI ac.length by rw [q2.2.2 234 (by omega), am_ups, pk_us]) ?_
      refine aw_iret dX8_undo_43 rfl rfl rfl rfl ?_
      have hK := ok.ac K (by rw [ea]; exact List.mem_cons_self)
      refine pAnsM (A2 := A.sK K ac) ?_ (h.sky (fun b hb => by rw [q2.2.2 b (by omega), am_up_n (by omega)]) (fun j hj => by rw [q2.2.2 234 (by omega), am_ups, pk_un (by omega)]) (fun j hj => ?_) ⟨fun e => by omega, fun e => absurd e (hk5 (by rw [ea]; simp))⟩ (by rw [q2.2.2 234 (by omega), am_ups, pk_us]) (fun i K2 hi j hj => ?_)) ((am_fr.rf.up (by omega) (by omega)).tr (q2.2.2.mono (by omega) (by omega)))
      · rw [oUndo, ea]; rfl
      · have e1 := q2.1 j hj
        rw [Nat.zero_add, am_upn (by decide)] at e1
        rw [e1]
        have e2 := h.ac 0 K (by rw [ea]; rfl) j hj
        rw [ea] at e2
        exact e2
      · have hl : i < ac.length := (List.getElem?_eq_some_iff.mp hi).1
        rw [q2.2.2 240 (by omega), am_upn (by decide)]
        have e2 := h.ac (i + 1) K2 (by rw [ea]; exact hi) j hj
        rw [ea, show (K :: ac).length - 1 - (i + 1) = ac.length - 1 - i by simp; omega] at e2
        exact e2
    · exact absurd c4 (nI_ne0 (by omega) (by omega))
set_option maxRecDepth 100000 in
set_option maxHeartbeats 4000000 in
theorem c_X8_burn {G : am_G} {μ : am_M} (A : pA) (h : InvM μ A) (ok : okA A) (x1 x2 : Int32) : am_MA G yX8_burn cX8_burn 3 (some .int) 3 0 0 [.ref 234, .int x1, .int x2] am_SH μ (am_P (some (.int (oBurn A x1 x2).1)) am_SH (fun μ9 => InvM μ9 (oBurn A x1 x2).2 ∧ am_fr μ μ9 234 14)) := by
  have h5 := ok.k.1
  refine am_ofK (own := RX8) (nm := "burn") (L := [some (.ref 234), some (.int x1), some (.int x2)]) rfl rfl (by decide +kernel) (Nat.le_of_ble_eq_true rfl) rfl ?_
  refine aw_aload_n dX8_burn_0 rfl ?_
  refine aw_iload_n dX8_burn_1 rfl ?_
  refine aw_v1i dX8_burn_2 ml_X8_186 im_X8_isOffice se_X8_isOffice (c_X8_isOffice A h.sk ok.k _) sh_234 (by decide) rfl rfl (Nat.le_of_ble_eq_true rfl) (Nat.le_of_ble_eq_true rfl) (Nat.le_of_ble_eq_true rfl) (Nat.le_of_ble_eq_true rfl) (Nat.le_of_ble_eq_true rfl) ?_
  refine aw_pif_eq (tgt := 20) dX8_burn_5 (by decide) (fun c5 => ?_) (fun c5 => ?_)
  · refine aw_ldc dX8_burn_20 kc_X8_67 ?_
    refine aw_iret dX8_burn_22 rfl rfl rfl rfl ?_
    exact pAnsM ((if_neg c5).trans rfl) h am_fr.rf
  · obtain ⟨k5, rfl, ha5, hb5, hz5⟩ := pIn_ex c5
    refine aw_iload_n dX8_burn_8 rfl ?_
    refine aw_i2l dX8_burn_9 ?_
    refine aw_lconst (v := lN 1) dX8_burn_10 rfl ?_
    refine aw_ldc2 dX8_burn_11 kl_X8_189 ?_
    refine aw_s3i dX8_burn_14 ml_X8_57 st_X8_in (c_X8_in _ 1 21 (by decide +kernel) (by decide +kernel)) (Nat.le_of_ble_eq_true rfl) (Nat.le_of_ble_eq_true rfl) (Nat.le_of_ble_eq_true rfl) (Nat.le_of_ble_eq_true rfl) (Nat.le_of_ble_eq_true rfl) ?_
    refine aw_pif_ne (tgt := 23) dX8_burn_17 (by decide) (fun c17 => ?_) (fun c17 => ?_)
    · obtain ⟨k17, rfl, ha17, hb17, hz17⟩ := pIn_ex c17
      refine aw_aload_n dX8_burn_23 rfl ?_
      refine aw_gr dX8_burn_24 gf_X8_22 sh_234 (by rfl) ?_
      refine aw_bipush (v := nI 22) dX8_burn_27 rfl ?_
      refine aw_iload_n dX8_burn_29 rfl ?_
      refine aw_iadd dX8_burn_30 ?_
      refine aw_top (nI_add _ _) ?_
      refine aw_iald dX8_burn_31 sh_239 rfl (by omega) (by decide) ?_
      refine aw_top (h.sk (22 + k5) (by omega)) ?_
      refine aw_iload_n dX8_burn_32 rfl ?_
      refine aw_icmp_ge (tgt := 39) dX8_burn_33 (by decide) (fun c33 => ?_) (fun c33 => ?_)
      · rw [nI_leI (by omega) (by have := (ok.k.2.2.2.2 k5 hb5).2.2.2; omega)] at c33
        refine aw_aload_n dX8_burn_39 rfl ?_
        refine aw_v0vp dX8_burn_40 ml_X8_172 im_X8_remember se_X8_remember (c_X8_remember A h ok) sh_234 (by decide) rfl rfl (Nat.le_of_ble_eq_true rfl) (Nat.le_of_ble_eq_true rfl) (Nat.le_of_ble_eq_true rfl) (Nat.le_of_ble_eq_true rfl) (Nat.le_of_ble_eq_true rfl) (fun μ2 q2 => ?_)
        have hs2 : mC μ2 239 A.K := q2.1.sk
        refine aw_aload_n dX8_burn_43 rfl ?_
        refine aw_gr dX8_burn_44 gf_X8_22 sh_234 (by rfl) ?_
        refine aw_iload_n dX8_burn_47 rfl ?_
        refine aw_iload_n dX8_burn_48 rfl ?_
        refine aw_s3vp dX8_burn_49 ml_X8_191 st_X8_burns (c_X8_burns 239 sh_239 A.K q2.1.sk ok.k k5 k17 hb5 c33) (Nat.le_of_ble_eq_true rfl) (Nat.le_of_ble_eq_true rfl) (Nat.le_of_ble_eq_true rfl) (Nat.le_of_ble_eq_true rfl) (Nat.le_of_ble_eq_true rfl) (fun μ3 q3 => ?_)
        refine aw_aload_n dX8_burn_52 rfl ?_
        refine aw_gr dX8_burn_53 gf_X8_22 sh_234 (by rfl) ?_
        refine aw_bipush (v := nI 17) dX8_burn_56 rfl ?_
        refine aw_iload_n dX8_burn_58 rfl ?_
        refine aw_iadd dX8_burn_59 ?_
        refine aw_top (nI_add _ _) ?_
        refine aw_iald dX8_burn_60 sh_239 rfl (by omega) (by decide) ?_
        refine aw_top (q3.1 (17 + k5) (by omega)) ?_
        refine aw_iret dX8_burn_61 rfl rfl rfl rfl ?_
        refine pAnsM (A2 := A.act (pBurn A.K k5 k17)) ?_ (q2.1.sky (K := _) (fun b hb => q3.2 b (by omega)) (fun j hj => by rw [q3.2 234 (by omega)]) q3.1 (by rw [pBurn, pUp_n (by omega), pUp_n (by omega), pUp_n (by omega)]; exact Iff.rfl) (by rw [q3.2 234 (by omega)]; exact q2.1.acn) (fun i K hi => (q2.1.ac i K hi).fr (q3.2 240 (by omega)))) (q2.2.tr (q3.2.mono (by omega) (by omega)))
        rw [oBurn, if_pos c5, if_pos c17, zN_nI hz5, zN_nI hz17, if_pos c33]
      · rw [nI_leI (by omega) (by have := (ok.k.2.2.2.2 k5 hb5).2.2.2; omega)] at c33
        refine aw_ldc dX8_burn_36 kc_X8_169 ?_
        refine aw_iret dX8_burn_38 rfl rfl rfl rfl ?_
        refine pAnsM ?_ h am_fr.rf
        rw [oBurn, if_pos c5, if_pos c17, zN_nI hz5, zN_nI hz17, if_neg c33]
    · refine aw_ldc dX8_burn_20 kc_X8_67 ?_
      refine aw_iret dX8_burn_22 rfl rfl rfl rfl ?_
      exact pAnsM ((if_pos c5).trans ((if_neg c17).trans rfl)) h am_fr.rf
set_option maxRecDepth 100000 in
set_option maxHeartbeats 4000000 in
theorem c_X8_send {G : am_G} {μ : am_M} (A : pA) (h : InvM μ A) (ok : okA A) (x1 x2 x3 : Int32) : am_MA G yX8_send cX8_send 4 (some .int) 2 0 0 [.ref 234, .int x1, .int x2, .int x3] am_SH μ (am_P (some (.int (oSend A x1 x2 x3).1)) am_SH (fun μ9 => InvM μ9 (oSend A x1 x2 x3).2 ∧ am_fr μ μ9 234 14)) := by
  have h5 := ok.k.1
  refine am_ofK (own := RX8) (nm := "send") (L := [some (.ref 234), some (.int x1), some (.int x2), some (.int x3)]) rfl rfl (by decide +kernel) (Nat.le_of_ble_eq_true rfl) rfl ?_
  refine aw_aload_n dX8_send_0 rfl ?_
  refine aw_iload_n dX8_send_1 rfl ?_
  refine aw_v1i dX8_send_2 ml_X8_186 im_X8_isOffice se_X8_isOffice (c_X8_isOffice A h.sk ok.k _) sh_234 (by decide) rfl rfl (Nat.le_of_ble_eq_true rfl) (Nat.le_of_ble_eq_true rfl) (Nat.le_of_ble_eq_true rfl) (Nat.le_of_ble_eq_true rfl) (Nat.le_of_ble_eq_true rfl) ?_
  refine aw_pif_eq (tgt := 33) dX8_send_5 (by decide) (fun c5 => ?_) (fun c5 => ?_)
  · refine aw_ldc dX8_send_33 kc_X8_67 ?_
    refine aw_iret dX8_send_35 rfl rfl rfl rfl ?_
    exact pAnsM ((if_neg c5).trans rfl) h am_fr.rf
  · obtain ⟨k5, rfl, ha5, hb5, hz5⟩ := pIn_ex c5
    refine aw_aload_n dX8_send_8 rfl ?_
    refine aw_iload_n dX8_send_9 rfl ?_
    refine aw_v1i dX8_send_10 ml_X8_186 im_X8_isOffice se_X8_isOffice (c_X8_isOffice A h.sk ok.k _) sh_234 (by decide) rfl rfl (Nat.le_of_ble_eq_true rfl) (Nat.le_of_ble_eq_true rfl) (Nat.le_of_ble_eq_true rfl) (Nat.le_of_ble_eq_true rfl) (Nat.le_of_ble_eq_true rfl) ?_
    refine aw_pif_eq (tgt := 33) dX8_send_13 (by decide) (fun c13 => ?_) (fun c13 => ?_)
    · refine aw_ldc dX8_send_33 kc_X8_67 ?_
      refine aw_iret dX8_send_35 rfl rfl rfl rfl ?_
      exact pAnsM ((if_pos c5).trans ((if_neg c13).trans rfl)) h am_fr.rf
    · obtain ⟨k13, rfl, ha13, hb13, hz13⟩ := pIn_ex c13
      refine aw_iload_n dX8_send_16 rfl ?_
      refine aw_iload_n dX8_send_17 rfl ?_
      refine aw_icmp_eq (tgt := 33) dX8_send_18 (by decide) (fun c18 => ?_) (fun c18 => ?_)
      · refine aw_ldc dX8_send_33 kc_X8_67 ?_
        refine aw_iret dX8_send_35 rfl rfl rfl rfl ?_
        exact pAnsM ((if_pos c5).trans ((if_pos c13).trans ((if_pos c18).trans rfl))) h am_fr.rf
      · have hne : k5 ≠ k13 := fun e => c18 (by rw [e])
        refine aw_iload_n dX8_send_21 rfl ?_
        refine aw_i2l dX8_send_22 ?_
        refine aw_lconst (v := lN 1) dX8_send_23 rfl ?_
        refine aw_ldc2 dX8_send_24 kl_X8_195 ?_
        refine aw_s3i dX8_send_27 ml_X8_57 st_X8_in (c_X8_in _ 1 61 (by decide +kernel) (by decide +kernel)) (Nat.le_of_ble_eq_true rfl) (Nat.le_of_ble_eq_true rfl) (Nat.le_of_ble_eq_true rfl) (Nat.le_of_ble_eq_true rfl) (Nat.le_of_ble_eq_true rfl) ?_
        refine aw_pif_ne (tgt := 36) dX8_send_30 (by decide) (fun c30 => ?_) (fun c30 => ?_)
        · obtain ⟨k30, rfl, ha30, hb30, hz30⟩ := pIn_ex c30
          refine aw_aload_n dX8_send_36 rfl ?_
          refine aw_gr dX8_send_37 gf_X8_22 sh_234 (by rfl) ?_
          refine aw_bipush (v := nI 12) dX8_send_40 rfl ?_
          refine aw_iload_n dX8_send_42 rfl ?_
          refine aw_iadd dX8_send_43 ?_
          refine aw_top (nI_add _ _) ?_
          refine aw_iald dX8_send_44 sh_239 rfl (by omega) (by decide) ?_
          refine aw_top (h.sk (12 + k5) (by omega)) ?_
          refine aw_aload_n dX8_send_45 rfl ?_
          refine aw_gr dX8_send_46 gf_X8_22 sh_234 (by rfl) ?_
          refine aw_bipush (v := nI 12) dX8_send_49 rfl ?_
          refine aw_iload_n dX8_send_51 rfl ?_
          refine aw_iadd dX8_send_52 ?_
          refine aw_top (nI_add _ _) ?_
          refine aw_iald dX8_send_53 sh_239 rfl (by omega) (by decide) ?_
          refine aw_top (h.sk (12 + k13) (by omega)) ?_
          refine aw_icmp_ne (tgt := 70) dX8_send_54 (by decide) (fun c54 => ?_) (fun c54 => ?_)
          · rw [nI_eq (by have := (ok.k.2.2.2.2 k5 hb5).2.1; omega) (by have := (ok.k.2.2.2.2 k13 hb13).2.1; omega)] at c54
            refine aw_ldc dX8_send_70 kc_X8_169 ?_
            refine aw_iret dX8_send_72 rfl rfl rfl rfl ?_
            refine pAnsM ?_ h am_fr.rf
            rw [oSend, if_pos c5, if_pos c13, if_neg c18, if_pos c30, zN_nI hz5, zN_nI hz13, zN_nI hz30, if_neg c54]
          · rw [nI_eq (by have := (ok.k.2.2.2.2 k5 hb5).2.1; omega) (by have := (ok.k.2.2.2.2 k13 hb13).2.1; omega)] at c54
            refine aw_aload_n dX8_send_57 rfl ?_
            refine aw_gr dX8_send_58 gf_X8_22 sh_234 (by rfl) ?_
            refine aw_bipush (v := nI 22) dX8_send_61 rfl ?_
            refine aw_iload_n dX8_send_63 rfl ?_
            refine aw_iadd dX8_send_64 ?_
            refine aw_top (nI_add _ _) ?_
            refine aw_iald dX8_send_65 sh_239 rfl (by omega) (by decide) ?_
            refine aw_top (h.sk (22 + k5) (by omega)) ?_
            refine aw_iload_n dX8_send_66 rfl ?_
            refine aw_icmp_ge (tgt := 73) dX8_send_67 (by decide) (fun c67 => ?_) (fun c67 => ?_)
            · rw [nI_leI (by omega) (by have := (ok.k.2.2.2.2 k5 hb5).2.2.2; omega)] at c67
              refine aw_aload_n dX8_send_73 rfl ?_
              refine aw_gr dX8_send_74 gf_X8_22 sh_234 (by rfl) ?_
              refine aw_bipush (v := nI 22) dX8_send_77 rfl ?_
              refine aw_iload_n dX8_send_79 rfl ?_
              refine aw_iadd dX8_send_80 ?_
              refine aw_top (nI_add _ _) ?_
              refine aw_iald dX8_send_81 sh_239 rfl (by omega) (by decide) ?_
              refine aw_top (h.sk (22 + k13) (by omega)) ?_
              refine aw_iload_n dX8_send_82 rfl ?_
              refine aw_iadd dX8_send_83 ?_
              refine aw_top (nI_add _ _) ?_
              refine aw_bipush (v := nI 99) dX8_send_84 rfl ?_
              refine aw_icmp_le (tgt := 92) dX8_send_86 (by decide) (fun c86 => ?_) (fun c86 => ?_)
              · rw [nI_leI (by have := (ok.k.2.2.2.2 k13 hb13).2.2.2; omega) (by decide)] at c86
                refine aw_aload_n dX8_send_92 rfl ?_
                refine aw_v0vp dX8_send_93 ml_X8_172 im_X8_remember se_X8_remember (c_X8_remember A h ok) sh_234 (by decide) rfl rfl (Nat.le_of_ble_eq_true rfl) (Nat.le_of_ble_eq_true rfl) (Nat.le_of_ble_eq_true rfl) (Nat.le_of_ble_eq_true rfl) (Nat.le_of_ble_eq_true rfl) (fun μ2 q2 => ?_)
                have hs2 : mC μ2 239 A.K := q2.1.sk
                refine aw_aload_n dX8_send_96 rfl ?_
                refine aw_gr dX8_send_97 gf_X8_22 sh_234 (by rfl) ?_
                refine aw_bipush (v := nI 22) dX8_send_100 rfl ?_
                refine aw_iload_n dX8_send_102 rfl ?_
                refine aw_iadd dX8_send_103 ?_
                refine aw_top (nI_add _ _) ?_
                refine aw_dup2 dX8_send_104 rfl rfl ?_
                refine aw_iald dX8_send_105 sh_239 rfl (by omega) (by decide) ?_
                refine aw_top (hs2 (22 + k5) (by omega)) ?_
                refine aw_iload_n dX8_send_106 rfl ?_
                refine aw_isub dX8_send_107 ?_
                refine aw_top (pk_sub c67) ?_
                refine aw_iast dX8_send_108 sh_239 rfl (by omega) (by decide) ?_
                have m1 := hs2.up (22 + k5) (A.K (22 + k5) - k30)
                refine aw_aload_n dX8_send_109 rfl ?_
                refine aw_gr dX8_send_110 gf_X8_22 sh_234 (by rfl) ?_
                refine aw_bipush (v := nI 22) dX8_send_113 rfl ?_
                refine aw_iload_n dX8_send_115 rfl ?_
                refine aw_iadd dX8_send_116 ?_
                refine aw_top (nI_add _ _) ?_
                refine aw_dup2 dX8_send_117 rfl rfl ?_
                refine aw_iald dX8_send_118 sh_239 rfl (by omega) (by decide) ?_
                refine aw_top (show _ = nI (A.K (22 + k13)) by rw [m1 (22 + k13) (by omega), pUp_n (by omega)]) ?_
                refine aw_iload_n dX8_send_119 rfl ?_
                refine aw_iadd dX8_send_120 ?_
                refine aw_top (nI_add _ _) ?_
                refine aw_iast dX8_send_121 sh_239 rfl (by omega) (by decide) ?_
                have m2 := m1.up (22 + k13) (A.K (22 + k13) + k30)
                refine aw_aload_n dX8_send_122 rfl ?_
                refine aw_gr dX8_send_123 gf_X8_22 sh_234 (by rfl) ?_
                refine aw_bipush (v := nI 22) dX8_send_126 rfl ?_
                refine aw_iload_n dX8_send_128 rfl ?_
                refine aw_iadd dX8_send_129 ?_
                refine aw_top (nI_add _ _) ?_
                refine aw_iald dX8_send_130 sh_239 rfl (by omega) (by decide) ?_
                refine aw_top (show _ = nI (A.K (22 + k13) + k30) by rw [am_ups, pk_us]) ?_
                refine aw_iret dX8_send_131 rfl rfl rfl rfl ?_
                have f3 := ((am_fr.rf (μ := μ2) (a := 239) (n := 1)).up (f := upd (μ2 239) (22 + k5) (nI (A.K (22 + k5) - k30))) (Nat.le_refl 239) (by omega))
                refine pAnsM (A2 := A.act (pSend A.K k5 k13 k30)) ?_ (q2.1.sky (fun b hb => by rw [am_up_n (by omega), am_up_n (by omega)]) (fun j hj => by rw [am_up_n (by decide), am_up_n (by decide)]) m2 (by rw [pSend, pUp_n (by omega), pUp_n (by omega)]; exact Iff.rfl) (by rw [am_up_n (by decide), am_up_n (by decide)]; exact q2.1.acn) (fun i K hi => (q2.1.ac i K hi).fr (by rw [am_up_n (by decide), am_up_n (by decide)]))) ((q2.2.up (by omega) (by omega)).up (by omega) (by omega))
                rw [oSend, if_pos c5, if_pos c13, if_neg c18, if_pos c30, zN_nI hz5, zN_nI hz13, zN_nI hz30, if_pos c54, if_pos c67, if_pos c86]
              · rw [nI_leI (by have := (ok.k.2.2.2.2 k13 hb13).2.2.2; omega) (by decide)] at c86
                refine aw_ldc dX8_send_89 kc_X8_80 ?_
                refine aw_iret dX8_send_91 rfl rfl rfl rfl ?_
                refine pAnsM ?_ h am_fr.rf
                rw [oSend, if_pos c5, if_pos c13, if_neg c18, if_pos c30, zN_nI hz5, zN_nI hz13, zN_nI hz30, if_pos c54, if_pos c67, if_neg c86]
            · rw [nI_leI (by omega) (by have := (ok.k.2.2.2.2 k5 hb5).2.2.2; omega)] at c67
              refine aw_ldc dX8_send_70 kc_X8_169 ?_
              refine aw_iret dX8_send_72 rfl rfl rfl rfl ?_
              refine pAnsM ?_ h am_fr.rf
              rw [oSend, if_pos c5, if_pos c13, if_neg c18, if_pos c30, zN_nI hz5, zN_nI hz13, zN_nI hz30, if_pos c54, if_neg c67]
        · refine aw_ldc dX8_send_33 kc_X8_67 ?_
          refine aw_iret dX8_send_35 rfl rfl rfl rfl ?_
          exact pAnsM ((if_pos c5).trans ((if_pos c13).trans ((if_neg c18).trans ((if_neg c30).trans rfl)))) h am_fr.rf
set_option maxRecDepth 100000 in
set_option maxHeartbeats 4000000 in
theorem c_X8_wind {G : am_G} {μ : am_M} (A : pA) (h : InvM μ A) (ok : okA A) (x1 x2 : Int32) : am_MA G yX8_wind cX8_wind 4 (some .int) 2 0 0 [.ref 234, .int x1, .int x2] am_SH μ (am_P (some (.int (oWind A x1 x2).1)) am_SH (fun μ9 => InvM μ9 (oWind A x1 x2).2 ∧ am_fr μ μ9 234 14)) := by
  refine am_ofK (own := RX8) (nm := "wind") (L := [some (.ref 234), some (.int x1), some (.int x2), none]) rfl rfl (by decide +kernel) (Nat.le_of_ble_eq_true rfl) rfl ?_
  refine aw_aload_n dX8_wind_0 rfl ?_
  refine aw_gi dX8_wind_1 gf_X8_137 sh_234 (by rfl) ?_
  refine aw_top h.is ?_
  refine aw_pif_ne (tgt := 10) dX8_wind_4 (by decide) (fun s4 => ?_) (fun s4 => ?_)
  · refine aw_iload_n dX8_wind_10 rfl ?_
    refine aw_i2l dX8_wind_11 ?_
    refine aw_lconst (v := lN 0) dX8_wind_12 rfl ?_
    refine aw_ldc2 dX8_wind_13 kl_X8_197 ?_
    refine aw_s3i dX8_wind_16 ml_X8_57 st_X8_in (c_X8_in _ 0 4 (by decide +kernel) (by decide +kernel)) (Nat.le_of_ble_eq_true rfl) (Nat.le_of_ble_eq_true rfl) (Nat.le_of_ble_eq_true rfl) (Nat.le_of_ble_eq_true rfl) (Nat.le_of_ble_eq_true rfl) ?_
    refine aw_pif_eq (tgt := 34) dX8_wind_19 (by decide) (fun c19 => ?_) (fun c19 => ?_)
    · refine aw_ldc dX8_wind_34 kc_X8_67 ?_
      refine aw_iret dX8_wind_36 rfl rfl rfl rfl ?_
      exact pAnsM ((if_neg s4).trans ((if_neg c19).trans rfl)) h am_fr.rf
    · obtain ⟨k19, rfl, ha19, hb19, hz19⟩ := pIn_ex c19
      refine aw_iload_n dX8_wind_22 rfl ?_
      refine aw_i2l dX8_wind_23 ?_
      refine aw_lconst (v := lN 0) dX8_wind_24 rfl ?_
      refine aw_ldc2 dX8_wind_25 kl_X8_199 ?_
      refine aw_s3i dX8_wind_28 ml_X8_57 st_X8_in (c_X8_in _ 0 5 (by decide +kernel) (by decide +kernel)) (Nat.le_of_ble_eq_true rfl) (Nat.le_of_ble_eq_true rfl) (Nat.le_of_ble_eq_true rfl) (Nat.le_of_ble_eq_true rfl) (Nat.le_of_ble_eq_true rfl) ?_
      refine aw_pif_ne (tgt := 37) dX8_wind_31 (by decide) (fun c31 => ?_) (fun c31 => ?_)
      · obtain ⟨k31, rfl, ha31, hb31, hz31⟩ := pIn_ex c31
        refine aw_aload_n dX8_wind_37 rfl ?_
        refine aw_v0vp dX8_wind_38 ml_X8_172 im_X8_remember se_X8_remember (c_X8_remember A h ok) sh_234 (by decide) rfl rfl (Nat.le_of_ble_eq_true rfl) (Nat.le_of_ble_eq_true rfl) (Nat.le_of_ble_eq_true rfl) (Nat.le_of_ble_eq_true rfl) (Nat.le_of_ble_eq_true rfl) (fun μ2 q2 => ?_)
        have hs2 : mC μ2 239 A.K := q2.1.sk
        refine aw_aload_n dX8_wind_41 rfl ?_
        refine aw_gr dX8_wind_42 gf_X8_22 sh_234 (by rfl) ?_
        refine aw_iconst (v := nI 0) dX8_wind_45 rfl ?_
        refine aw_iload_n dX8_wind_46 rfl ?_
        refine aw_iadd dX8_wind_47 ?_
        refine aw_top ((nI_add 0 _).trans (by rw [Nat.zero_add])) ?_
        refine aw_iald dX8_wind_48 sh_239 rfl (by omega) (by decide) ?_
        refine aw_top (hs2 k19 (by omega)) ?_
        refine aw_istore_n dX8_wind_49 (Nat.le_of_ble_eq_true rfl) ?_
        refine aw_aload_n dX8_wind_50 rfl ?_
        refine aw_gr dX8_wind_51 gf_X8_22 sh_234 (by rfl) ?_
        refine aw_iconst (v := nI 0) dX8_wind_54 rfl ?_
        refine aw_iload_n dX8_wind_55 rfl ?_
        refine aw_iadd dX8_wind_56 ?_
        refine aw_top ((nI_add 0 _).trans (by rw [Nat.zero_add])) ?_
        refine aw_iload_n dX8_wind_57 rfl ?_
        refine aw_iast dX8_wind_58 sh_239 rfl (by omega) (by decide) ?_
        have m1 := hs2.up k19 k31
        refine aw_iload_n dX8_wind_59 rfl ?_
        refine aw_iret dX8_wind_60 rfl rfl rfl rfl ?_
        refine pAnsM (A2 := A.act (pUp A.K k19 k31)) ?_ (q2.1.sky (fun b hb => am_up_n (by omega)) (fun j hj => by rw [am_up_n (by decide)]) m1 (by rw [pUp_n (by omega)]; exact Iff.rfl) (by rw [am_up_n (by decide)]; exact q2.1.acn) (fun i K hi => (q2.1.ac i K hi).fr (am_up_n (by decide)))) (q2.2.up (by omega) (by omega))
        rw [oWind, if_neg s4, if_pos c19, if_pos c31, zN_nI hz19, zN_nI hz31]
      · refine aw_ldc dX8_wind_34 kc_X8_67 ?_
        refine aw_iret dX8_wind_36 rfl rfl rfl rfl ?_
        exact pAnsM ((if_neg s4).trans ((if_pos c19).trans ((if_neg c31).trans rfl))) h am_fr.rf
  · replace s4 := Decidable.not_not.mp s4
    refine aw_ldc dX8_wind_7 kc_X8_169 ?_
    refine aw_iret dX8_wind_9 rfl rfl rfl rfl ?_
    exact pAnsM ((if_pos s4).trans rfl) h am_fr.rf
theorem okA_act {A : pA} {K : pK} (h : okA A) (h5 : 0 < A.K 5) (hk : pOK K) (h6 : K 6 ≤ 999) : okA (A.act K) :=
  ⟨h.tp, hk, h6, fun L hL => by
    have hL2 : L ∈ A.K :: A.ac := List.mem_of_mem_take hL
    rcases List.mem_cons.mp hL2 with e | e
    · rw [e]; exact ⟨h.k, h.k6, h5⟩
    · exact h.ac L e, by show ((A.K :: A.ac).take 24).length ≤ 24; rw [List.length_take]; omega, h.im, h.tr, h.fi, h.w⟩
set_option maxRecDepth 100000 in
set_option maxHeartbeats 4000000 in
theorem l_X8_hours {G : am_G} {μ : am_M} (A : pA) (n : Nat) (hn : n < 25) : ∀ (r i : Nat) (B : pA) (μ1 : am_M), i + r = n → InvM μ1 B → okA B → 0 < B.K 5 → B.K 6 + r ≤ 999 → am_fr μ μ1 234 14 → pHrs r B = pHrs n A → am_W (am_K G RX8 "hours" 3 (some .int) 3 0 0 (am_P (some (.int (nI (pCnt (pFly (pHrs n A).K))))) am_SH (fun μ9 => InvM μ9 (pHrs n A) ∧ am_fr μ μ9 234 14))) cX8_hours 45 [some (.ref 234), some (.int (nI n)), some (.int (nI i))] [] am_SH μ1 0 0 := by
  intro r
  induction r with
  | zero =>
    intro i B μ1 hi hB hk h5 h6 hf e
    have e2 : B = pHrs n A := e
    subst e2
    refine aw_iload_n dX8_hours_45 rfl ?_
    refine aw_iload_n dX8_hours_46 rfl ?_
    refine aw_icmp_ge (tgt := 67) dX8_hours_47 (by decide) (fun c47 => ?_) (fun c47 => ?_)
    · refine aw_aload_n dX8_hours_67 rfl ?_
      refine aw_gr dX8_hours_68 gf_X8_22 sh_234 (by rfl) ?_
      refine aw_s1i dX8_hours_71 ml_X8_179 st_X8_flying (c_X8_flying 239 sh_239 _ hB.sk hk.k) (Nat.le_of_ble_eq_true rfl) (Nat.le_of_ble_eq_true rfl) (Nat.le_of_ble_eq_true rfl) (Nat.le_of_ble_eq_true rfl) (Nat.le_of_ble_eq_true rfl) ?_
      refine aw_s1i dX8_hours_74 ml_X8_183 st_X8_bits (c_X8_bits (pFly (pHrs n A).K) (pFly_lt hk.k.1)) (Nat.le_of_ble_eq_true rfl) (Nat.le_of_ble_eq_true rfl) (Nat.le_of_ble_eq_true rfl) (Nat.le_of_ble_eq_true rfl) (Nat.le_of_ble_eq_true rfl) ?_
      refine aw_iret dX8_hours_77 rfl rfl rfl rfl ?_
      exact ⟨rfl, rfl, hB, hf⟩
    · exact absurd (nI_le (by omega) (by omega)) c47
  | succ r ih =>
    intro i B μ1 hi hB hk h5 h6 hf e
    refine aw_iload_n dX8_hours_45 rfl ?_
    refine aw_iload_n dX8_hours_46 rfl ?_
    refine aw_icmp_ge (tgt := 67) dX8_hours_47 (by decide) (fun c47 => ?_) (fun c47 => ?_)
    · exact absurd c47 (nI_ge (by omega) (by omega))
    · refine aw_aload_n dX8_hours_50 rfl ?_
      refine aw_v0vp dX8_hours_51 ml_X8_172 im_X8_remember se_X8_remember (c_X8_remember B hB hk) sh_234 (by decide) rfl rfl (Nat.le_of_ble_eq_true rfl) (Nat.le_of_ble_eq_true rfl) (Nat.le_of_ble_eq_true rfl) (Nat.le_of_ble_eq_true rfl) (Nat.le_of_ble_eq_true rfl) (fun μ2 q2 => ?_)
      refine aw_aload_n dX8_hours_54 rfl ?_
      refine aw_gr dX8_hours_55 gf_X8_22 sh_234 (by rfl) ?_
      refine aw_s1vp dX8_hours_58 ml_X8_175 st_X8_hourGoes (c_X8_hourGoes 239 sh_239 B.K q2.1.sk hk.k) (Nat.le_of_ble_eq_true rfl) (Nat.le_of_ble_eq_true rfl) (Nat.le_of_ble_eq_true rfl) (Nat.le_of_ble_eq_true rfl) (Nat.le_of_ble_eq_true rfl) (fun μ3 q3 => ?_)
      refine aw_iinc (v := nI (i + 1)) dX8_hours_61 rfl (nI_1 i) (Nat.le_of_ble_eq_true rfl) ?_
      refine aw_goto (tgt := 45) dX8_hours_64 (by decide) ?_
      have e6 : pHour B.K 6 = B.K 6 + 1 := pHour_6
      exact ih (i + 1) (B.act (pHour B.K)) μ3 (by omega) (q2.1.sky (K := _) (fun b hb => q3.2 b (by omega)) (fun j hj => by rw [q3.2 234 (by omega)]) q3.1 (by rw [pHour_lo (by decide) (by decide)]; exact Iff.rfl) (by rw [q3.2 234 (by omega)]; exact q2.1.acn) (fun i K hi => (q2.1.ac i K hi).fr (q3.2 240 (by omega)))) (okA_act hk h5 (pHour_ok hk.k (by omega)) (by omega)) (show 0 < pHour B.K 5 by rw [pHour_lo (by decide) (by decide)]; exact h5) (show pHour B.K 6 + r ≤ 999 by omega) ((hf.tr q2.2).tr (q3.2.mono (by omega) (by omega))) e
set_option maxRecDepth 100000 in
set_option maxHeartbeats 4000000 in
theorem c_X8_hours {G : am_G} {μ : am_M} (A : pA) (h : InvM μ A) (ok : okA A) (x1 : Int32) : am_MA G yX8_hours cX8_hours 3 (some .int) 3 0 0 [.ref 234, .int x1] am_SH μ (am_P (some (.int (oHours A x1).1)) am_SH (fun μ9 => InvM μ9 (oHours A x1).2 ∧ am_fr μ μ9 234 14)) := by
  refine am_ofK (own := RX8) (nm := "hours") (L := [some (.ref 234), some (.int x1), none]) rfl rfl (by decide +kernel) (Nat.le_of_ble_eq_true rfl) rfl ?_
  refine aw_aload_n dX8_hours_0 rfl ?_
  refine aw_gi dX8_hours_1 gf_X8_137 sh_234 (by rfl) ?_
  refine aw_top h.is ?_
  refine aw_pif_ne (tgt := 10) dX8_hours_4 (by decide) (fun s4 => ?_) (fun s4 => ?_)
  · refine aw_iload_n dX8_hours_10 rfl ?_
    refine aw_i2l dX8_hours_11 ?_
    refine aw_lconst (v := lN 1) dX8_hours_12 rfl ?_
    refine aw_ldc2 dX8_hours_13 kl_X8_170 ?_
    refine aw_s3i dX8_hours_16 ml_X8_57 st_X8_in (c_X8_in _ 1 25 (by decide +kernel) (by decide +kernel)) (Nat.le_of_ble_eq_true rfl) (Nat.le_of_ble_eq_true rfl) (Nat.le_of_ble_eq_true rfl) (Nat.le_of_ble_eq_true rfl) (Nat.le_of_ble_eq_true rfl) ?_
    refine aw_pif_ne (tgt := 25) dX8_hours_19 (by decide) (fun c19 => ?_) (fun c19 => ?_)
    · obtain ⟨k19, rfl, ha19, hb19, hz19⟩ := pIn_ex c19
      refine aw_aload_n dX8_hours_25 rfl ?_
      refine aw_gr dX8_hours_26 gf_X8_22 sh_234 (by rfl) ?_
      refine aw_bipush (v := nI 6) dX8_hours_29 rfl ?_
      refine aw_iald dX8_hours_31 sh_239 rfl (by omega) (by decide) ?_
      refine aw_top (h.sk (6) (by omega)) ?_
      refine aw_iload_n dX8_hours_32 rfl ?_
      refine aw_iadd dX8_hours_33 ?_
      refine aw_top (nI_add _ _) ?_
      refine aw_sipush (v := nI 999) dX8_hours_34 rfl ?_
      refine aw_icmp_le (tgt := 43) dX8_hours_37 (by decide) (fun c37 => ?_) (fun c37 => ?_)
      · rw [nI_leI (by have := ok.k6; omega) (by decide)] at c37
        refine aw_iconst (v := nI 0) dX8_hours_43 rfl ?_
        refine aw_istore_n dX8_hours_44 (Nat.le_of_ble_eq_true rfl) ?_
        have e9 : oHours A (nI k19) = (nI (pCnt (pFly (pHrs k19 A).K)), pHrs k19 A) := by rw [oHours, if_neg s4, if_pos c19, zN_nI hz19, if_pos c37]
        rw [e9]
        exact l_X8_hours A k19 (by omega) k19 0 A μ (by omega) h ok (by omega) (by omega) am_fr.rf rfl
      · rw [nI_leI (by have := ok.k6; omega) (by decide)] at c37
        refine aw_ldc dX8_hours_40 kc_X8_80 ?_
        refine aw_iret dX8_hours_42 rfl rfl rfl rfl ?_
        refine pAnsM ?_ h am_fr.rf
        rw [oHours, if_neg s4, if_pos c19, zN_nI hz19, if_neg c37]
    · refine aw_ldc dX8_hours_22 kc_X8_67 ?_
      refine aw_iret dX8_hours_24 rfl rfl rfl rfl ?_
      exact pAnsM ((if_neg s4).trans ((if_neg c19).trans rfl)) h am_fr.rf
  · replace s4 := Decidable.not_not.mp s4
    refine aw_ldc dX8_hours_7 kc_X8_169 ?_
    refine aw_iret dX8_hours_9 rfl rfl rfl rfl ?_
    exact pAnsM ((if_pos s4).trans rfl) h am_fr.rf
