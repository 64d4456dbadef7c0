theorem InvM.trc {μ μ' : am_M} {A : pA} {tr : List Nat} (h : InvM μ A) (f : lvF μ μ') (q : mtr μ' tr) : InvM μ' (A.sR tr) := by
  have e : ∀ b, 235 ≤ b ∧ b < 243 → μ' b = μ b := fun b hb => f.2 b (by omega) (by omega)
  have e1 : ∀ j, j ≠ 13 → μ' 234 j = μ 234 j := f.1
  exact ⟨fun r hr => (h.rows r hr).fr (e 235 (by omega)) (e 236 (by omega)) (e 237 (by omega)), (e1 3 (by decide)).trans h.fi, (e1 5 (by decide)).trans h.tl, fun j hj => by rw [e 238 (by omega)]; exact h.tp j hj, (e1 6 (by decide)).trans h.fa, (e1 7 (by decide)).trans h.is, h.sk.fr (e 239 (by omega)), (e1 9 (by decide)).trans h.acn, fun i K hi => (h.ac i K hi).fr (e 240 (by omega)), fun k hk => by rw [e 242 (by omega)]; exact h.sv k hk, fun k hk h0 => (h.im k hk h0).fr (e 241 (by omega)), q.1, q.2⟩
theorem lvF.fr {μ μ' : am_M} (f : lvF μ μ') : am_fr μ μ' 234 14 := fun b hb => f.2 b (by omega) (by omega)
set_option maxRecDepth 100000 in
set_option maxHeartbeats 4000000 in
theorem c_X8_ask {G : am_G} {μ : am_M} (A : pA) (h : InvM μ A) (ok : okA A) (x1 x2 : Int32) : am_MA G yX8_ask cX8_ask 5 (some .int) 2 0 0 [.ref 234, .int x1, .int x2] am_SH μ (am_P (some (.int (oAsk A x1 x2).1)) am_SH (fun μ9 => InvM μ9 (oAsk A x1 x2).2 ∧ am_fr μ μ9 234 14)) := by
  have h5 := ok.k.1
  refine am_ofK (own := RX8) (nm := "ask") (L := [some (.ref 234), some (.int x1), some (.int x2), none, none]) rfl rfl (by decide +kernel) (Nat.le_of_ble_eq_true rfl) rfl ?_
  refine aw_aload_n dX8_ask_0 rfl ?_
  refine aw_iload_n dX8_ask_1 rfl ?_
  refine aw_v1i dX8_ask_2 ml_X8_186 im_X8_isOffice se_X8_isOffice (c_X8_isOffice A h.sk ok.k _) sh_234 (by decide) rfl rfl (Nat.le_of_ble_eq_true rfl) (Nat.le_of_ble_eq_true rfl) (Nat.le_of_ble_eq_true rfl) (Nat.le_of_ble_eq_true rfl) (Nat.le_of_ble_eq_true rfl) ?_
  refine aw_pif_eq (tgt := 18) dX8_ask_5 (by decide) (fun c5 => ?_) (fun c5 => ?_)
  · refine aw_ldc dX8_ask_18 kc_X8_67 ?_
    refine aw_iret dX8_ask_20 rfl rfl rfl rfl ?_
    exact pAnsM ((if_neg c5).trans rfl) h am_fr.rf
  · obtain ⟨k5, rfl, ha5, hb5, hz5⟩ := pIn_ex c5
    refine aw_iload_n dX8_ask_8 rfl ?_
    refine aw_i2l dX8_ask_9 ?_
    refine aw_lconst (v := lN 0) dX8_ask_10 rfl ?_
    refine aw_lconst (v := lN 1) dX8_ask_11 rfl ?_
    refine aw_s3i dX8_ask_12 ml_X8_57 st_X8_in (c_X8_in _ 0 2 (by decide +kernel) (by decide +kernel)) (Nat.le_of_ble_eq_true rfl) (Nat.le_of_ble_eq_true rfl) (Nat.le_of_ble_eq_true rfl) (Nat.le_of_ble_eq_true rfl) (Nat.le_of_ble_eq_true rfl) ?_
    refine aw_pif_ne (tgt := 21) dX8_ask_15 (by decide) (fun c15 => ?_) (fun c15 => ?_)
    · obtain ⟨k15, rfl, ha15, hb15, hz15⟩ := pIn_ex c15
      have gk := (ok.k.2.2.2.2 k5 hb5).1
      refine aw_aload_n dX8_ask_21 rfl ?_
      refine aw_iconst (v := nI 0) dX8_ask_22 rfl ?_
      refine aw_pi dX8_ask_23 pf_X8_262 rfl rfl sh_234 (by rfl) ?_
      have f1 : lvF μ (am_up μ 234 (upd (μ 234) 13 (nI 0))) := ⟨fun j hj => by rw [am_ups, pk_un hj], fun b h1 h2 => am_up_n h1⟩
      have m1 : mtr (am_up μ 234 (upd (μ 234) 13 (nI 0))) [] := ⟨by rw [am_ups, pk_us]; rfl, fun i x hi => absurd hi (by simp)⟩
      have s1 := f1.sk h.sk
      refine aw_aload_n dX8_ask_26 rfl ?_
      refine aw_gr dX8_ask_27 gf_X8_22 sh_234 (by rfl) ?_
      refine aw_bipush (v := nI 7) dX8_ask_30 rfl ?_
      refine aw_iload_n dX8_ask_32 rfl ?_
      refine aw_iadd dX8_ask_33 ?_
      refine aw_top (nI_add _ _) ?_
      refine aw_iald dX8_ask_34 sh_239 rfl (by omega) (by decide) ?_
      refine aw_top (s1 (7 + k5) (by omega)) ?_
      refine aw_istore_n dX8_ask_35 (Nat.le_of_ble_eq_true rfl) ?_
      refine aw_iload_n dX8_ask_36 rfl ?_
      refine aw_iconst (v := nI 4) dX8_ask_37 rfl ?_
      refine aw_icmp_ge (tgt := 101) dX8_ask_38 (by decide) (fun c38 => ?_) (fun c38 => ?_)
      · rw [nI_leI (by decide) (by omega)] at c38
        replace c38 : ¬ A.K (7 + k5) < 4 := by omega
        refine aw_iload_n dX8_ask_101 rfl ?_
        refine aw_if_ne (tgt := 111) dX8_ask_102 (by decide) (fun c102 => ?_) (fun c102 => ?_)
        · rw [z_eq (by omega)] at c102
          refine aw_aload_n dX8_ask_111 rfl ?_
          refine aw_ldc2 dX8_ask_112 kl_X8_289 ?_
          refine aw_v1vp dX8_ask_115 ml_X8_271 im_X8_leave se_X8_leave (c_X8_leave2 [] m1 (by decide) 23 20 (by decide) (by decide) (by decide)) sh_234 (by decide) rfl rfl (Nat.le_of_ble_eq_true rfl) (Nat.le_of_ble_eq_true rfl) (Nat.le_of_ble_eq_true rfl) (Nat.le_of_ble_eq_true rfl) (Nat.le_of_ble_eq_true rfl) (fun μ2 q2 => ?_)
          have s2 := q2.2.sk s1
          refine aw_iload_n dX8_ask_118 rfl ?_
          refine aw_aload_n dX8_ask_119 rfl ?_
          refine aw_iload_n dX8_ask_120 rfl ?_
          refine aw_v1ip dX8_ask_121 ml_X8_286 im_X8_sizeOf se_X8_sizeOf (c_X8_sizeOf A.K s2 ok.k k5 hb5 _ q2.1 (by decide)) sh_234 (by decide) rfl rfl (Nat.le_of_ble_eq_true rfl) (Nat.le_of_ble_eq_true rfl) (Nat.le_of_ble_eq_true rfl) (Nat.le_of_ble_eq_true rfl) (Nat.le_of_ble_eq_true rfl) (fun μ3 q3 => ?_)
          refine aw_isub dX8_ask_124 ?_
          refine aw_iret dX8_ask_125 rfl rfl rfl rfl ?_
          refine pAnsM (A2 := A.sR (pAskT (A.K (7 + k5)) k15)) ?_ (h.trc ((f1.tr q2.2).tr q3.2) ?_) (((f1.tr q2.2).tr q3.2)).fr
          · rw [oAsk, if_pos c5, if_pos c15, zN_nI hz5, zN_nI hz15]
            refine congrArg (fun z => (z, _)) ?_
            unfold pAsk; rw [if_neg c38, if_neg c102]
          · unfold pAskT
            rw [if_neg c38, if_neg c102]
            exact by have := q3.1; rw [List.nil_append] at this; exact this
        · rw [z_eq (by omega)] at c102
          refine aw_aload_n dX8_ask_105 rfl ?_
          refine aw_iload_n dX8_ask_106 rfl ?_
          refine aw_v1ip dX8_ask_107 ml_X8_286 im_X8_sizeOf se_X8_sizeOf (c_X8_sizeOf A.K s1 ok.k k5 hb5 [] m1 (by decide)) sh_234 (by decide) rfl rfl (Nat.le_of_ble_eq_true rfl) (Nat.le_of_ble_eq_true rfl) (Nat.le_of_ble_eq_true rfl) (Nat.le_of_ble_eq_true rfl) (Nat.le_of_ble_eq_true rfl) (fun μ2 q2 => ?_)
          refine aw_iret dX8_ask_110 rfl rfl rfl rfl ?_
          refine pAnsM (A2 := A.sR (pAskT (A.K (7 + k5)) k15)) ?_ (h.trc (f1.tr q2.2) ?_) ((f1.tr q2.2)).fr
          · rw [oAsk, if_pos c5, if_pos c15, zN_nI hz5, zN_nI hz15]
            refine congrArg (fun z => (z, _)) ?_
            unfold pAsk; rw [if_neg c38, if_pos c102]
          · unfold pAskT
            rw [if_neg c38, if_pos c102]
            exact q2.1
      · rw [nI_leI (by decide) (by omega)] at c38
        replace c38 : A.K (7 + k5) < 4 := by omega
        refine aw_iload_n dX8_ask_41 rfl ?_
        refine aw_iconst (v := nI 1) dX8_ask_42 rfl ?_
        refine aw_icmp_ne (tgt := 52) dX8_ask_43 (by decide) (fun c43 => ?_) (fun c43 => ?_)
        · rw [nI_eq (by omega) (by decide)] at c43
          refine aw_aload_n dX8_ask_52 rfl ?_
          refine aw_iload_n dX8_ask_53 rfl ?_
          refine aw_iconst (v := nI 2) dX8_ask_54 rfl ?_
          refine aw_icmp_ne (tgt := 64) dX8_ask_55 (by decide) (fun c55 => ?_) (fun c55 => ?_)
          · rw [nI_eq (by omega) (by decide)] at c55
            refine aw_ldc2 dX8_ask_64 kl_X8_284 ?_
            refine aw_v1vp dX8_ask_67 ml_X8_271 im_X8_leave se_X8_leave (c_X8_leave2 [] m1 (by decide) 11 10 (by decide) (by decide) (by decide)) sh_234 (by decide) rfl rfl (Nat.le_of_ble_eq_true rfl) (Nat.le_of_ble_eq_true rfl) (Nat.le_of_ble_eq_true rfl) (Nat.le_of_ble_eq_true rfl) (Nat.le_of_ble_eq_true rfl) (fun μ2 q2 => ?_)
            have s2 := q2.2.sk s1
            refine aw_aload_n dX8_ask_70 rfl ?_
            refine aw_gr dX8_ask_71 gf_X8_22 sh_234 (by rfl) ?_
            refine aw_bipush (v := nI 22) dX8_ask_74 rfl ?_
            refine aw_iload_n dX8_ask_76 rfl ?_
            refine aw_iadd dX8_ask_77 ?_
            refine aw_top (nI_add _ _) ?_
            refine aw_iald dX8_ask_78 sh_239 rfl (by omega) (by decide) ?_
            refine aw_top (s2 (22 + k5) (by omega)) ?_
            refine aw_aload_n dX8_ask_79 rfl ?_
            refine aw_iload_n dX8_ask_80 rfl ?_
            refine aw_v1ip dX8_ask_81 ml_X8_279 im_X8_mark se_X8_mark (c_X8_mark A.K s2 ok.k k5 hb5 _ q2.1 (by decide)) sh_234 (by decide) rfl rfl (Nat.le_of_ble_eq_true rfl) (Nat.le_of_ble_eq_true rfl) (Nat.le_of_ble_eq_true rfl) (Nat.le_of_ble_eq_true rfl) (Nat.le_of_ble_eq_true rfl) (fun μ3 q3 => ?_)
            refine aw_iadd dX8_ask_84 ?_
            refine aw_istore dX8_ask_85 (Nat.le_of_ble_eq_true rfl) ?_
            refine aw_iload_n dX8_ask_87 rfl ?_
            refine aw_iconst (v := nI 2) dX8_ask_88 rfl ?_
            refine aw_icmp_ne (tgt := 98) dX8_ask_89 (by decide) (fun c89 => ?_) (fun c89 => ?_)
            · refine aw_iload dX8_ask_98 rfl ?_
              refine aw_iret dX8_ask_100 rfl rfl rfl rfl ?_
              refine pAnsM (A2 := A.sR (pAskT (A.K (7 + k5)) k15)) ?_ (h.trc ((f1.tr q2.2).tr q3.2) ?_) (((f1.tr q2.2).tr q3.2)).fr
              · rw [oAsk, if_pos c5, if_pos c15, zN_nI hz5, zN_nI hz15]
                refine congrArg (fun z => (z, _)) ?_
                unfold pAsk; rw [if_pos c38, if_neg c43, if_neg c55]
              · unfold pAskT
                rw [if_pos c38, if_neg c43, if_neg c55]
                exact by have := q3.1; rw [List.nil_append] at this; exact this
            · rw [nI_eq (by omega) (by decide)] at c89
              exact absurd c89 c55
          · rw [nI_eq (by omega) (by decide)] at c55
            refine aw_ldc2 dX8_ask_58 kl_X8_282 ?_
            refine aw_goto (tgt := 67) dX8_ask_61 (by decide) ?_
            refine aw_v1vp dX8_ask_67 ml_X8_271 im_X8_leave se_X8_leave (c_X8_leave3 [] m1 (by decide) 12 11 10 (by decide) (by decide) (by decide) (by decide)) sh_234 (by decide) rfl rfl (Nat.le_of_ble_eq_true rfl) (Nat.le_of_ble_eq_true rfl) (Nat.le_of_ble_eq_true rfl) (Nat.le_of_ble_eq_true rfl) (Nat.le_of_ble_eq_true rfl) (fun μ2 q2 => ?_)
            have s2 := q2.2.sk s1
            refine aw_aload_n dX8_ask_70 rfl ?_
            refine aw_gr dX8_ask_71 gf_X8_22 sh_234 (by rfl) ?_
            refine aw_bipush (v := nI 22) dX8_ask_74 rfl ?_
            refine aw_iload_n dX8_ask_76 rfl ?_
            refine aw_iadd dX8_ask_77 ?_
            refine aw_top (nI_add _ _) ?_
            refine aw_iald dX8_ask_78 sh_239 rfl (by omega) (by decide) ?_
            refine aw_top (s2 (22 + k5) (by omega)) ?_
            refine aw_aload_n dX8_ask_79 rfl ?_
            refine aw_iload_n dX8_ask_80 rfl ?_
            refine aw_v1ip dX8_ask_81 ml_X8_279 im_X8_mark se_X8_mark (c_X8_mark A.K s2 ok.k k5 hb5 _ q2.1 (by decide)) sh_234 (by decide) rfl rfl (Nat.le_of_ble_eq_true rfl) (Nat.le_of_ble_eq_true rfl) (Nat.le_of_ble_eq_true rfl) (Nat.le_of_ble_eq_true rfl) (Nat.le_of_ble_eq_true rfl) (fun μ3 q3 => ?_)
            refine aw_iadd dX8_ask_84 ?_
            refine aw_istore dX8_ask_85 (Nat.le_of_ble_eq_true rfl) ?_
            refine aw_iload_n dX8_ask_87 rfl ?_
            refine aw_iconst (v := nI 2) dX8_ask_88 rfl ?_
            refine aw_icmp_ne (tgt := 98) dX8_ask_89 (by decide) (fun c89 => ?_) (fun c89 => ?_)
            · rw [nI_eq (by omega) (by decide)] at c89
              exact absurd c55 c89
            · refine aw_iload dX8_ask_92 rfl ?_
              refine aw_ineg dX8_ask_94 ?_
              refine aw_goto (tgt := 100) dX8_ask_95 (by decide) ?_
              refine aw_iret dX8_ask_100 rfl rfl rfl rfl ?_
              refine pAnsM (A2 := A.sR (pAskT (A.K (7 + k5)) k15)) ?_ (h.trc ((f1.tr q2.2).tr q3.2) ?_) (((f1.tr q2.2).tr q3.2)).fr
              · rw [oAsk, if_pos c5, if_pos c15, zN_nI hz5, zN_nI hz15]
                refine congrArg (fun z => (z, _)) ?_
                unfold pAsk; rw [if_pos c38, if_neg c43, if_pos c55]
              · unfold pAskT
                rw [if_pos c38, if_neg c43, if_pos c55]
                exact by have := q3.1; rw [List.nil_append] at this; exact this
        · rw [nI_eq (by omega) (by decide)] at c43
          refine aw_aload_n dX8_ask_46 rfl ?_
          refine aw_iload_n dX8_ask_47 rfl ?_
          refine aw_v1ip dX8_ask_48 ml_X8_279 im_X8_mark se_X8_mark (c_X8_mark A.K s1 ok.k k5 hb5 [] m1 (by decide)) sh_234 (by decide) rfl rfl (Nat.le_of_ble_eq_true rfl) (Nat.le_of_ble_eq_true rfl) (Nat.le_of_ble_eq_true rfl) (Nat.le_of_ble_eq_true rfl) (Nat.le_of_ble_eq_true rfl) (fun μ2 q2 => ?_)
          refine aw_iret dX8_ask_51 rfl rfl rfl rfl ?_
          refine pAnsM (A2 := A.sR (pAskT (A.K (7 + k5)) k15)) ?_ (h.trc (f1.tr q2.2) ?_) ((f1.tr q2.2)).fr
          · rw [oAsk, if_pos c5, if_pos c15, zN_nI hz5, zN_nI hz15]
            refine congrArg (fun z => (z, _)) ?_
            unfold pAsk; rw [if_pos c38, if_pos c43]
          · unfold pAskT
            rw [if_pos c38, if_pos c43]
            exact q2.1
    · refine aw_ldc dX8_ask_18 kc_X8_67 ?_
      refine aw_iret dX8_ask_20 rfl rfl rfl rfl ?_
      exact pAnsM ((if_pos c5).trans ((if_neg c15).trans rfl)) h am_fr.rf
