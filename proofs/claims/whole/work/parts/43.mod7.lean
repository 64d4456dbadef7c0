theorem InvM.row {μ μ' : am_M} {A : pA} {r : Nat} {x : Option pRow} (h : InvM μ A) (q1 : mrow μ' r x) (q2 : ∀ q, q ≠ r → μ' 235 q = μ 235 q ∧ μ' 236 q = μ 236 q ∧ ∀ j, j < 40 → μ' 237 (40 * q + j) = μ 237 (40 * q + j)) (e0 : ∀ b, (238 ≤ b ∧ b < 244) ∨ b = 234 → μ' b = μ b) : InvM (am_up μ' 234 (upd (μ' 234) 3 (nI 0))) (A.sW (wUp A.w r x)) := by
  have e : ∀ b, 238 ≤ b ∧ b < 244 → am_up μ' 234 (upd (μ' 234) 3 (nI 0)) b = μ b := fun b hb => by rw [am_up_n (by omega)]; exact e0 b (by omega)
  have e1 : ∀ j, j ≠ 3 → am_up μ' 234 (upd (μ' 234) 3 (nI 0)) 234 j = μ 234 j := fun j hj => by rw [am_ups, pk_un hj, e0 234 (by omega)]
  refine ⟨fun q hq => ?_, by rw [am_ups, pk_us]; rfl, (e1 5 (by decide)).trans h.tl, fun j hj => by rw [e 238 (by omega)]; exact h.tp j hj, (e1 6 (by decide)).trans h.fa, (e1 7 (by decide)).trans h.is, h.sk.fr (e 239 (by omega)), (e1 9 (by decide)).trans h.acn, fun i K hi => (h.ac i K hi).fr (e 240 (by omega)), fun k hk => by rw [e 242 (by omega)]; exact h.sv k hk, fun k hk h0 => (h.im k hk h0).fr (e 241 (by omega)), (e1 13 (by decide)).trans h.trn, fun i x hi => by rw [e 243 (by omega)]; exact h.tr i x hi⟩
  show mrow _ q (wUp A.w r x q)
  by_cases ek : q = r
  · subst ek; rw [wUp_s]; exact q1.fr (am_up_n (by decide)) (am_up_n (by decide)) (am_up_n (by decide))
  · rw [wUp_n ek]
    obtain ⟨b1, b2, b3⟩ := q2 q ek
    have hw := h.rows q hq
    cases ew : A.w q with
    | none => rw [ew] at hw; show am_up μ' 234 _ 236 q = _; rw [am_upn (by decide), b2]; exact hw
    | some p =>
      obtain ⟨l, n, f⟩ := p
      rw [ew] at hw
      exact ⟨by rw [am_upn (by decide), b1]; exact hw.1, by rw [am_upn (by decide), b2]; exact hw.2.1, hw.2.2.1, hw.2.2.2.1, fun j hj => by rw [am_upn (by decide), b3 j hj]; exact hw.2.2.2.2 j hj⟩
set_option maxRecDepth 100000 in
set_option maxHeartbeats 4000000 in
theorem c_X8_drop {G : am_G} {μ : am_M} (A : pA) (h : InvM μ A) (ok : okA A) (x1 : Int32) : am_MA G yX8_drop cX8_drop 3 (some .int) 2 0 0 [.ref 234, .int x1] am_SH μ (am_P (some (.int (oDrop A x1).1)) am_SH (fun μ9 => InvM μ9 (oDrop A x1).2 ∧ am_fr μ μ9 234 14)) := by
  refine am_ofK (own := RX8) (nm := "drop") (L := [some (.ref 234), some (.int x1), none]) rfl rfl (by decide +kernel) (Nat.le_of_ble_eq_true rfl) rfl ?_
  refine aw_iload_n dX8_drop_0 rfl ?_
  refine aw_s1i dX8_drop_1 ml_X8_61 st_X8_isRow (c_X8_isRow _) (Nat.le_of_ble_eq_true rfl) (Nat.le_of_ble_eq_true rfl) (Nat.le_of_ble_eq_true rfl) (Nat.le_of_ble_eq_true rfl) (Nat.le_of_ble_eq_true rfl) ?_
  refine aw_pif_ne (tgt := 10) dX8_drop_4 (by decide) (fun c4 => ?_) (fun c4 => ?_)
  · obtain ⟨k4, rfl, ha4, hb4, hz4⟩ := pIn_ex c4
    refine aw_aload_n dX8_drop_10 rfl ?_
    refine aw_gr dX8_drop_11 gf_X8_13 sh_234 (by rfl) ?_
    refine aw_iload_n dX8_drop_14 rfl ?_
    refine aw_iald dX8_drop_15 sh_236 rfl (by omega) (by decide) ?_
    refine aw_if_ge (tgt := 25) dX8_drop_16 (by decide) (fun c16 => ?_) (fun c16 => ?_)
    · rw [mrow_ge (h.rows k4 (by omega))] at c16
      obtain ⟨⟨l, n, f⟩, ew⟩ := Option.ne_none_iff_exists'.mp c16
      have hw := h.rows k4 (by omega)
      rw [ew] at hw
      have hn := hw.2.2.2.1
      have hl := hw.2.2.1
      refine aw_aload_n dX8_drop_25 rfl ?_
      refine aw_gr dX8_drop_26 gf_X8_13 sh_234 (by rfl) ?_
      refine aw_iload_n dX8_drop_29 rfl ?_
      refine aw_iald dX8_drop_30 sh_236 rfl (by omega) (by decide) ?_
      refine aw_top hw.2.1 ?_
      refine aw_istore_n dX8_drop_31 (Nat.le_of_ble_eq_true rfl) ?_
      refine aw_aload_n dX8_drop_32 rfl ?_
      refine aw_gr dX8_drop_33 gf_X8_13 sh_234 (by rfl) ?_
      refine aw_iload_n dX8_drop_36 rfl ?_
      refine aw_iconst (v := (-1)) dX8_drop_37 rfl ?_
      refine aw_iast dX8_drop_38 sh_236 rfl (by omega) (by decide) ?_
      refine aw_aload_n dX8_drop_39 rfl ?_
      refine aw_iload_n dX8_drop_40 rfl ?_
      refine aw_v1i dX8_drop_41 ml_X8_72 im_X8_well se_X8_well (c_X8_well _) sh_234 (by decide) rfl rfl (Nat.le_of_ble_eq_true rfl) (Nat.le_of_ble_eq_true rfl) (Nat.le_of_ble_eq_true rfl) (Nat.le_of_ble_eq_true rfl) (Nat.le_of_ble_eq_true rfl) ?_
      refine aw_iret dX8_drop_44 rfl rfl rfl rfl ?_
      refine pAnsM ?_ (h.row (r := k4) (x := none) (show am_up μ 236 _ 236 k4 = _ by rw [am_ups, pk_us]) (fun q hq => ⟨by rw [am_upn (by decide)], by rw [am_ups, pk_un hq], fun j hj => by rw [am_upn (by decide)]⟩) (fun b hb => am_up_n (by omega))) ((am_fr.rf.up (by omega) (by omega)).up (by omega) (by omega))
      rw [oDrop, if_pos c4, zN_nI hz4, ew]
      rfl
    · rw [mrow_ge (h.rows k4 (by omega)), Decidable.not_not] at c16
      refine aw_aload_n dX8_drop_19 rfl ?_
      refine aw_iconst (v := nI 1) dX8_drop_20 rfl ?_
      refine aw_v1i dX8_drop_21 ml_X8_68 im_X8_found se_X8_found (c_X8_found _) sh_234 (by decide) rfl rfl (Nat.le_of_ble_eq_true rfl) (Nat.le_of_ble_eq_true rfl) (Nat.le_of_ble_eq_true rfl) (Nat.le_of_ble_eq_true rfl) (Nat.le_of_ble_eq_true rfl) ?_
      refine aw_iret dX8_drop_24 rfl rfl rfl rfl ?_
      refine pAnsM ?_ (h.fd _) (am_fr.rf.up (by omega) (by omega))
      rw [oDrop, if_pos c4, zN_nI hz4, c16]
      rfl
  · refine aw_ldc dX8_drop_7 kc_X8_67 ?_
    refine aw_iret dX8_drop_9 rfl rfl rfl rfl ?_
    exact pAnsM ((if_neg c4).trans rfl) h am_fr.rf
theorem InvM.tape {μ μ' : am_M} {A : pA} {tb : Nat → Nat} {tl : Nat} (h : InvM μ A) (e : ∀ b, 235 ≤ b ∧ b < 244 ∧ b ≠ 238 → μ' b = μ b) (e1 : ∀ j, j < 15 ∧ j ≠ 5 → μ' 234 j = μ 234 j) (q1 : μ' 234 5 = nI tl) (q2 : ∀ j, j < tl → μ' 238 j = nI (tb j)) : InvM μ' (A.sT tb tl) :=
  ⟨fun r hr => (h.rows r hr).fr (e 235 (by omega)) (e 236 (by omega)) (e 237 (by omega)), (e1 3 (by decide)).trans h.fi, q1, q2, (e1 6 (by decide)).trans h.fa, (e1 7 (by decide)).trans h.is, h.sk.fr (e 239 (by omega)), (e1 9 (by decide)).trans h.acn, fun i K hi => (h.ac i K hi).fr (e 240 (by omega)), fun k hk => by rw [e 242 (by omega)]; exact h.sv k hk, fun k hk h0 => (h.im k hk h0).fr (e 241 (by omega)), (e1 13 (by decide)).trans h.trn, fun i x hi => by rw [e 243 (by omega)]; exact h.tr i x hi⟩
set_option maxRecDepth 100000 in
set_option maxHeartbeats 4000000 in
theorem c_X8_feed {G : am_G} {μ : am_M} (A : pA) (h : InvM μ A) (ok : okA A) (x1 : Int32) : am_MA G yX8_feed cX8_feed 2 (some .int) 1 0 0 [.ref 234, .int x1] am_SH μ (am_P (some (.int (oFeed A x1).1)) am_SH (fun μ9 => InvM μ9 (oFeed A x1).2 ∧ am_fr μ μ9 234 14)) := by
  have htl := ok.tp.1
  refine am_ofK (own := RX8) (nm := "feed") (L := [some (.ref 234), some (.int x1)]) rfl rfl (by decide +kernel) (Nat.le_of_ble_eq_true rfl) rfl ?_
  refine aw_iload_n dX8_feed_0 rfl ?_
  refine aw_i2l dX8_feed_1 ?_
  refine aw_lconst (v := lN 0) dX8_feed_2 rfl ?_
  refine aw_ldc2 dX8_feed_3 kl_X8_75 ?_
  refine aw_s3i dX8_feed_6 ml_X8_57 st_X8_in (c_X8_in _ 0 256 (by decide +kernel) (by decide +kernel)) (Nat.le_of_ble_eq_true rfl) (Nat.le_of_ble_eq_true rfl) (Nat.le_of_ble_eq_true rfl) (Nat.le_of_ble_eq_true rfl) (Nat.le_of_ble_eq_true rfl) ?_
  refine aw_pif_ne (tgt := 15) dX8_feed_9 (by decide) (fun c9 => ?_) (fun c9 => ?_)
  · obtain ⟨k9, rfl, ha9, hb9, hz9⟩ := pIn_ex c9
    refine aw_aload_n dX8_feed_15 rfl ?_
    refine aw_gi dX8_feed_16 gf_X8_77 sh_234 (by rfl) ?_
    refine aw_top h.tl ?_
    refine aw_bipush (v := nI 100) dX8_feed_19 rfl ?_
    refine aw_icmp_ne (tgt := 27) dX8_feed_21 (by decide) (fun c21 => ?_) (fun c21 => ?_)
    · rw [nI_eq (by omega) (by decide)] at c21
      refine aw_aload_n dX8_feed_27 rfl ?_
      refine aw_gr dX8_feed_28 gf_X8_19 sh_234 (by rfl) ?_
      refine aw_aload_n dX8_feed_31 rfl ?_
      refine aw_gi dX8_feed_32 gf_X8_77 sh_234 (by rfl) ?_
      refine aw_top h.tl ?_
      refine aw_iload_n dX8_feed_35 rfl ?_
      refine aw_iast dX8_feed_36 sh_238 rfl (by omega) (by decide) ?_
      refine aw_aload_n dX8_feed_37 rfl ?_
      refine aw_dup dX8_feed_38 rfl ?_
      refine aw_gi dX8_feed_39 gf_X8_77 sh_234 (by rfl) ?_
      refine aw_top (show _ = nI A.tl by rw [am_upn (by decide)]; exact h.tl) ?_
      refine aw_iconst (v := nI 1) dX8_feed_42 rfl ?_
      refine aw_iadd dX8_feed_43 ?_
      refine aw_top (nI_add _ _) ?_
      refine aw_pi dX8_feed_44 pf_X8_77 rfl rfl sh_234 (by rfl) ?_
      refine aw_aload_n dX8_feed_47 rfl ?_
      refine aw_gi dX8_feed_48 gf_X8_77 sh_234 (by rfl) ?_
      refine aw_top (show _ = nI (A.tl + 1) by rw [am_ups, pk_us]) ?_
      refine aw_iret dX8_feed_51 rfl rfl rfl rfl ?_
      refine pAnsM (A2 := A.sT (pUp A.tb A.tl k9) (A.tl + 1)) ?_ (h.tape (fun b hb => by rw [am_up_n (by omega), am_up_n (by omega)]) (fun j hj => by rw [am_ups, pk_un (by omega), am_up_n (by decide)]) (by rw [am_ups, pk_us]) (fun j hj => ?_)) ((am_fr.rf.up (by omega) (by omega)).up (by omega) (by omega))
      · rw [oFeed, if_pos c9, if_pos (by omega), zN_nI hz9]
      · rw [am_upn (by decide), am_ups]
        by_cases e : j = A.tl
        · rw [e, pk_us, pUp_s]
        · rw [pk_un e, pUp_n e]; exact h.tp j (by omega)
    · rw [nI_eq (by omega) (by decide)] at c21
      refine aw_ldc dX8_feed_24 kc_X8_80 ?_
      refine aw_iret dX8_feed_26 rfl rfl rfl rfl ?_
      refine pAnsM ?_ h am_fr.rf
      rw [oFeed, if_pos c9, if_neg (by omega)]
  · refine aw_ldc dX8_feed_12 kc_X8_67 ?_
    refine aw_iret dX8_feed_14 rfl rfl rfl rfl ?_
    exact pAnsM ((if_neg c9).trans rfl) h am_fr.rf
theorem pFind_1 {l n i : Nat} {f : Nat → Int32} (hn : n ≤ 40) (hz : i < 2 ^ 31) (hi : i < n) : pFind (some (l, n, f)) (nI i) (nI 1) = 0 := by
  show (if pSpanB n (nI i) (nI 1) = true then 0 else 2) = 0
  rw [if_pos (pSpanB_iff.mpr ((pSpan_nI hz (by decide)).mpr (by omega)))]
theorem pFind_2 {l n : Nat} {f : Nat → Int32} {i : Int32} (hn : n ≤ 40) (hi : ¬ pIn i 0 n) : pFind (some (l, n, f)) i (nI 1) = 2 := by
  show (if pSpanB n i (nI 1) = true then 0 else 2) = 2
  rw [if_neg]
  intro q
  obtain ⟨e1, e2, e3⟩ := pSpanB_iff.mp q
  rw [nI_toInt (by decide)] at e3
  exact hi ⟨e1, by omega⟩
theorem pCut_0 (v : Int32) : pCut 0 v = v.toInt8.toInt32 := if_pos rfl
theorem pCut_1 (v : Int32) : pCut 1 v = v.toInt16.toInt32 := rfl
theorem pCut_2 {l : Nat} {v : Int32} (h0 : ¬ l = 0) (h1 : ¬ l = 1) : pCut l v = v := by unfold pCut; rw [if_neg h0, if_neg h1]
set_option maxRecDepth 100000 in
set_option maxHeartbeats 4000000 in
theorem c_X8_set {G : am_G} {μ : am_M} (A : pA) (h : InvM μ A) (ok : okA A) (x1 x2 x3 : Int32) : am_MA G yX8_set cX8_set 4 (some .int) 2 0 0 [.ref 234, .int x1, .int x2, .int x3] am_SH μ (am_P (some (.int (oSet A x1 x2 x3).1)) am_SH (fun μ9 => InvM μ9 (oSet A x1 x2 x3).2 ∧ am_fr μ μ9 234 14)) := by
  refine am_ofK (own := RX8) (nm := "set") (L := [some (.ref 234), some (.int x1), some (.int x2), some (.int x3)]) rfl rfl (by decide +kernel) (Nat.le_of_ble_eq_true rfl) rfl ?_
  refine aw_iload_n dX8_set_0 rfl ?_
  refine aw_s1i dX8_set_1 ml_X8_61 st_X8_isRow (c_X8_isRow _) (Nat.le_of_ble_eq_true rfl) (Nat.le_of_ble_eq_true rfl) (Nat.le_of_ble_eq_true rfl) (Nat.le_of_ble_eq_true rfl) (Nat.le_of_ble_eq_true rfl) ?_
  refine aw_pif_ne (tgt := 10) dX8_set_4 (by decide) (fun c4 => ?_) (fun c4 => ?_)
  · obtain ⟨k4, rfl, ha4, hb4, hz4⟩ := pIn_ex c4
    refine aw_aload_n dX8_set_10 rfl ?_
    refine aw_gr dX8_set_11 gf_X8_13 sh_234 (by rfl) ?_
    refine aw_iload_n dX8_set_14 rfl ?_
    refine aw_iald dX8_set_15 sh_236 rfl (by omega) (by decide) ?_
    refine aw_if_ge (tgt := 25) dX8_set_16 (by decide) (fun c16 => ?_) (fun c16 => ?_)
    · rw [mrow_ge (h.rows k4 (by omega))] at c16
      obtain ⟨⟨l, n, f⟩, ew⟩ := Option.ne_none_iff_exists'.mp c16
      have hw := h.rows k4 (by omega)
      rw [ew] at hw
      have hn := hw.2.2.2.1
      have hl := hw.2.2.1
      refine aw_iload_n dX8_set_25 rfl ?_
      refine aw_i2l dX8_set_26 ?_
      refine aw_lconst (v := lN 0) dX8_set_27 rfl ?_
      refine aw_aload_n dX8_set_28 rfl ?_
      refine aw_gr dX8_set_29 gf_X8_13 sh_234 (by rfl) ?_
      refine aw_iload_n dX8_set_32 rfl ?_
      refine aw_iald dX8_set_33 sh_236 rfl (by omega) (by decide) ?_
      refine aw_top hw.2.1 ?_
      refine aw_iconst (v := nI 1) dX8_set_34 rfl ?_
      refine aw_isub dX8_set_35 ?_
      refine aw_i2l dX8_set_36 ?_
      refine aw_s3i dX8_set_37 ml_X8_57 st_X8_in (c_X8_in _ 0 n (by decide +kernel) (by rw [l32]; exact pn_pred (by omega))) (Nat.le_of_ble_eq_true rfl) (Nat.le_of_ble_eq_true rfl) (Nat.le_of_ble_eq_true rfl) (Nat.le_of_ble_eq_true rfl) (Nat.le_of_ble_eq_true rfl) ?_
      refine aw_pif_ne (tgt := 49) dX8_set_40 (by decide) (fun c40 => ?_) (fun c40 => ?_)
      · obtain ⟨i, rfl, _, hbi, hzi⟩ := pIn_ex c40
        refine aw_aload_n dX8_set_49 rfl ?_
        refine aw_gr dX8_set_50 gf_X8_16 sh_234 (by rfl) ?_
        refine aw_bipush (v := nI 40) dX8_set_53 rfl ?_
        refine aw_iload_n dX8_set_55 rfl ?_
        refine aw_imul dX8_set_56 ?_
        refine aw_top (pk_mul _ _) ?_
        refine aw_iload_n dX8_set_57 rfl ?_
        refine aw_iadd dX8_set_58 ?_
        refine aw_top (nI_add _ _) ?_
        refine aw_aload_n dX8_set_59 rfl ?_
        refine aw_gr dX8_set_60 gf_X8_7 sh_234 (by rfl) ?_
        refine aw_iload_n dX8_set_63 rfl ?_
        refine aw_iald dX8_set_64 sh_235 rfl (by omega) (by decide) ?_
        refine aw_top hw.1 ?_
        refine aw_if_ne (tgt := 73) dX8_set_65 (by decide) (fun c65 => ?_) (fun c65 => ?_)
        · rw [z_eq (by omega)] at c65
          refine aw_aload_n dX8_set_73 rfl ?_
          refine aw_gr dX8_set_74 gf_X8_7 sh_234 (by rfl) ?_
          refine aw_iload_n dX8_set_77 rfl ?_
          refine aw_iald dX8_set_78 sh_235 rfl (by omega) (by decide) ?_
          refine aw_top hw.1 ?_
          refine aw_iconst (v := nI 1) dX8_set_79 rfl ?_
          refine aw_icmp_ne (tgt := 88) dX8_set_80 (by decide) (fun c80 => ?_) (fun c80 => ?_)
          · rw [nI_eq (by omega) (by decide)] at c80
            refine aw_iload_n dX8_set_88 rfl ?_
            refine aw_iast dX8_set_89 sh_237 rfl (by omega) (by decide) ?_
            refine aw_aload_n dX8_set_90 rfl ?_
            refine aw_aload_n dX8_set_91 rfl ?_
            refine aw_gr dX8_set_92 gf_X8_16 sh_234 (by rfl) ?_
            refine aw_bipush (v := nI 40) dX8_set_95 rfl ?_
            refine aw_iload_n dX8_set_97 rfl ?_
            refine aw_imul dX8_set_98 ?_
            refine aw_top (pk_mul _ _) ?_
            refine aw_iload_n dX8_set_99 rfl ?_
            refine aw_iadd dX8_set_100 ?_
            refine aw_top (nI_add _ _) ?_
            refine aw_iald dX8_set_101 sh_237 rfl (by omega) (by decide) ?_
            refine aw_top (show _ = _ by rw [am_ups, pk_us]) ?_
            refine aw_v1i dX8_set_102 ml_X8_72 im_X8_well se_X8_well (c_X8_well _) sh_234 (by decide) rfl rfl (Nat.le_of_ble_eq_true rfl) (Nat.le_of_ble_eq_true rfl) (Nat.le_of_ble_eq_true rfl) (Nat.le_of_ble_eq_true rfl) (Nat.le_of_ble_eq_true rfl) ?_
            refine aw_iret dX8_set_105 rfl rfl rfl rfl ?_
            have ecut : pCut l x3 = x3 := pCut_2 c65 c80
            refine pAnsM ?_ (h.row (r := k4) (x := some (l, n, upd f i (pCut l x3))) ?_ (fun q hq => ⟨by rw [am_upn (by decide)], by rw [am_upn (by decide)], fun j hj => by rw [am_ups, pk_un (by omega)]⟩) (fun b hb => am_up_n (by omega))) ((am_fr.rf.up (by omega) (by omega)).up (by omega) (by omega))
            · rw [oSet, if_pos c4, zN_nI hz4, ew, if_pos (pFind_1 hn hzi hbi), zN_nI hzi]
              show (pCut l x3, A.sW (wUp A.w k4 (some (l, n, upd f i (pCut l x3))))) = _
              rw [ecut]
            · refine ⟨by rw [am_upn (by decide)]; exact hw.1, by rw [am_upn (by decide)]; exact hw.2.1, hl, hn, fun j hj => ?_⟩
              rw [am_ups]
              by_cases e : j = i
              · rw [e, pk_us, pk_us]; exact ecut.symm
              · rw [pk_un (by omega), pk_un e]; exact hw.2.2.2.2 j hj
          · rw [nI_eq (by omega) (by decide)] at c80
            refine aw_iload_n dX8_set_83 rfl ?_
            refine aw_i2s dX8_set_84 ?_
            refine aw_goto (tgt := 89) dX8_set_85 (by decide) ?_
            refine aw_iast dX8_set_89 sh_237 rfl (by omega) (by decide) ?_
            refine aw_aload_n dX8_set_90 rfl ?_
            refine aw_aload_n dX8_set_91 rfl ?_
            refine aw_gr dX8_set_92 gf_X8_16 sh_234 (by rfl) ?_
            refine aw_bipush (v := nI 40) dX8_set_95 rfl ?_
            refine aw_iload_n dX8_set_97 rfl ?_
            refine aw_imul dX8_set_98 ?_
            refine aw_top (pk_mul _ _) ?_
            refine aw_iload_n dX8_set_99 rfl ?_
            refine aw_iadd dX8_set_100 ?_
            refine aw_top (nI_add _ _) ?_
            refine aw_iald dX8_set_101 sh_237 rfl (by omega) (by decide) ?_
            refine aw_top (show _ = _ by rw [am_ups, pk_us]) ?_
            refine aw_v1i dX8_set_102 ml_X8_72 im_X8_well se_X8_well (c_X8_well _) sh_234 (by decide) rfl rfl (Nat.le_of_ble_eq_true rfl) (Nat.le_of_ble_eq_true rfl) (Nat.le_of_ble_eq_true rfl) (Nat.le_of_ble_eq_true rfl) (Nat.le_of_ble_eq_true rfl) ?_
            refine aw_iret dX8_set_105 rfl rfl rfl rfl ?_
            have ecut : pCut l x3 = x3.toInt16.toInt32 := by rw [c80]; exact pCut_1 _
            refine pAnsM ?_ (h.row (r := k4) (x := some (l, n, upd f i (pCut l x3))) ?_ (fun q hq => ⟨by rw [am_upn (by decide)], by rw [am_upn (by decide)], fun j hj => by rw [am_ups, pk_un (by omega)]⟩) (fun b hb => am_up_n (by omega))) ((am_fr.rf.up (by omega) (by omega)).up (by omega) (by omega))
            · rw [oSet, if_pos c4, zN_nI hz4, ew, if_pos (pFind_1 hn hzi hbi), zN_nI hzi]
              show (pCut l x3, A.sW (wUp A.w k4 (some (l, n, upd f i (pCut l x3))))) = _
              rw [ecut]
            · refine ⟨by rw [am_upn (by decide)]; exact hw.1, by rw [am_upn (by decide)]; exact hw.2.1, hl, hn, fun j hj => ?_⟩
              rw [am_ups]
              by_cases e : j = i
              · rw [e, pk_us, pk_us]; exact ecut.symm
              · rw [pk_un (by omega), pk_un e]; exact hw.2.2.2.2 j hj
        · rw [z_eq (by omega)] at c65
          refine aw_iload_n dX8_set_68 rfl ?_
          refine aw_i2b dX8_set_69 ?_
          refine aw_goto (tgt := 89) dX8_set_70 (by decide) ?_
          refine aw_iast dX8_set_89 sh_237 rfl (by omega) (by decide) ?_
          refine aw_aload_n dX8_set_90 rfl ?_
          refine aw_aload_n dX8_set_91 rfl ?_
          refine aw_gr dX8_set_92 gf_X8_16 sh_234 (by rfl) ?_
          refine aw_bipush (v := nI 40) dX8_set_95 rfl ?_
          refine aw_iload_n dX8_set_97 rfl ?_
          refine aw_imul dX8_set_98 ?_
          refine aw_top (pk_mul _ _) ?_
          refine aw_iload_n dX8_set_99 rfl ?_
          refine aw_iadd dX8_set_100 ?_
          refine aw_top (nI_add _ _) ?_
          refine aw_iald dX8_set_101 sh_237 rfl (by omega) (by decide) ?_
          refine aw_top (show _ = _ by rw [am_ups, pk_us]) ?_
          refine aw_v1i dX8_set_102 ml_X8_72 im_X8_well se_X8_well (c_X8_well _) sh_234 (by decide) rfl rfl (Nat.le_of_ble_eq_true rfl) (Nat.le_of_ble_eq_true rfl) (Nat.le_of_ble_eq_true rfl) (Nat.le_of_ble_eq_true rfl) (Nat.le_of_ble_eq_true rfl) ?_
          refine aw_iret dX8_set_105 rfl rfl rfl rfl ?_
          have ecut : pCut l x3 = x3.toInt8.toInt32 := by rw [c65]; exact pCut_0 _
          refine pAnsM ?_ (h.row (r := k4) (x := some (l, n, upd f i (pCut l x3))) ?_ (fun q hq => ⟨by rw [am_upn (by decide)], by rw [am_upn (by decide)], fun j hj => by rw [am_ups, pk_un (by omega)]⟩) (fun b hb => am_up_n (by omega))) ((am_fr.rf.up (by omega) (by omega)).up (by omega) (by omega))
          · rw [oSet, if_pos c4, zN_nI hz4, ew, if_pos (pFind_1 hn hzi hbi), zN_nI hzi]
            show (pCut l x3, A.sW (wUp A.w k4 (some (l, n, upd f i (pCut l x3))))) = _
            rw [ecut]
          · refine ⟨by rw [am_upn (by decide)]; exact hw.1, by rw [am_upn (by decide)]; exact hw.2.1, hl, hn, fun j hj => ?_⟩
            rw [am_ups]
            by_cases e : j = i
            · rw [e, pk_us, pk_us]; exact ecut.symm
            · rw [pk_un (by omega), pk_un e]; exact hw.2.2.2.2 j hj
      · refine aw_aload_n dX8_set_43 rfl ?_
        refine aw_iconst (v := nI 2) dX8_set_44 rfl ?_
        refine aw_v1i dX8_set_45 ml_X8_68 im_X8_found se_X8_found (c_X8_found _) sh_234 (by decide) rfl rfl (Nat.le_of_ble_eq_true rfl) (Nat.le_of_ble_eq_true rfl) (Nat.le_of_ble_eq_true rfl) (Nat.le_of_ble_eq_true rfl) (Nat.le_of_ble_eq_true rfl) ?_
        refine aw_iret dX8_set_48 rfl rfl rfl rfl ?_
        refine pAnsM ?_ (h.fd _) (am_fr.rf.up (by omega) (by omega))
        rw [oSet, if_pos c4, zN_nI hz4, ew, pFind_2 hn c40, if_neg (by decide)]
        rfl
    · rw [mrow_ge (h.rows k4 (by omega)), Decidable.not_not] at c16
      refine aw_aload_n dX8_set_19 rfl ?_
      refine aw_iconst (v := nI 1) dX8_set_20 rfl ?_
      refine aw_v1i dX8_set_21 ml_X8_68 im_X8_found se_X8_found (c_X8_found _) sh_234 (by decide) rfl rfl (Nat.le_of_ble_eq_true rfl) (Nat.le_of_ble_eq_true rfl) (Nat.le_of_ble_eq_true rfl) (Nat.le_of_ble_eq_true rfl) (Nat.le_of_ble_eq_true rfl) ?_
      refine aw_iret dX8_set_24 rfl rfl rfl rfl ?_
      refine pAnsM ?_ (h.fd _) (am_fr.rf.up (by omega) (by omega))
      rw [oSet, if_pos c4, zN_nI hz4, c16]
      rfl
  · refine aw_ldc dX8_set_7 kc_X8_67 ?_
    refine aw_iret dX8_set_9 rfl rfl rfl rfl ?_
    exact pAnsM ((if_neg c4).trans rfl) h am_fr.rf
set_option maxRecDepth 100000 in
set_option maxHeartbeats 4000000 in
theorem l_X8_row {G : am_G} {μ : am_M} (A : pA) (h : InvM μ A) (r l n : Nat) (hr : r < 8) (hl : l < 3) (hn : n ≤ 40) : ∀ (s c : Nat) (μ1 : am_M), c + s = 40 → (∀ q, μ1 235 q = if q = r then nI l else μ 235 q) → (∀ q, μ1 236 q = if q = r then nI n else μ 236 q) → (∀ q, μ1 237 q = if 40 * r ≤ q ∧ q < 40 * r + c then nI 0 else μ 237 q) → am_fr μ μ1 235 3 → am_W (am_K G RX8 "row" 5 (some .int) 2 0 0 (am_P (some (.int (nI n))) am_SH (fun μ9 => InvM μ9 (A.sW (wUp A.w r (some (l, n, fun _ => nI 0)))) ∧ am_fr μ μ9 234 14))) cX8_row 55 [some (.ref 234), some (.int (nI r)), some (.int (nI l)), some (.int (nI n)), some (.int (nI c))] [] am_SH μ1 0 0 := by
  intro s
  induction s with
  | zero =>
    intro c μ1 hc e5 e6 e7 hf
    have ec : c = 40 := by omega
    subst ec
    refine aw_iload dX8_row_55 rfl ?_
    refine aw_bipush (v := nI 40) dX8_row_57 rfl ?_
    refine aw_icmp_ge (tgt := 81) dX8_row_59 (by decide) (fun c59 => ?_) (fun c59 => ?_)
    · refine aw_aload_n dX8_row_81 rfl ?_
      refine aw_iload_n dX8_row_82 rfl ?_
      refine aw_v1i dX8_row_83 ml_X8_72 im_X8_well se_X8_well (c_X8_well _) sh_234 (by decide) rfl rfl (Nat.le_of_ble_eq_true rfl) (Nat.le_of_ble_eq_true rfl) (Nat.le_of_ble_eq_true rfl) (Nat.le_of_ble_eq_true rfl) (Nat.le_of_ble_eq_true rfl) ?_
      refine aw_iret dX8_row_86 rfl rfl rfl rfl ?_
      refine ⟨rfl, rfl, h.row ⟨by rw [e5, if_pos rfl], by rw [e6, if_pos rfl], by omega, by omega, fun j hj => by rw [e7, if_pos (by omega)]⟩ (fun q hq => ⟨by rw [e5, if_neg hq], by rw [e6, if_neg hq], fun j hj => by rw [e7, if_neg (by omega)]⟩) (fun b hb => hf b (by omega)), (hf.mono (by omega) (by omega)).up (by omega) (by omega)⟩
    · exact absurd (nI_le (by omega) (by omega)) c59
  | succ s ih =>
    intro c μ1 hc e5 e6 e7 hf
    refine aw_iload dX8_row_55 rfl ?_
    refine aw_bipush (v := nI 40) dX8_row_57 rfl ?_
    refine aw_icmp_ge (tgt := 81) dX8_row_59 (by decide) (fun c59 => ?_) (fun c59 => ?_)
    · exact absurd c59 (nI_ge (by omega) (by omega))
    · refine aw_aload_n dX8_row_62 rfl ?_
      refine aw_gr dX8_row_63 gf_X8_16 sh_234 (by rfl) ?_
      refine aw_bipush (v := nI 40) dX8_row_66 rfl ?_
      refine aw_iload_n dX8_row_68 rfl ?_
      refine aw_imul dX8_row_69 ?_
      refine aw_top (pk_mul _ _) ?_
      refine aw_iload dX8_row_70 rfl ?_
      refine aw_iadd dX8_row_72 ?_
      refine aw_top (nI_add _ _) ?_
      refine aw_iconst (v := nI 0) dX8_row_73 rfl ?_
      refine aw_iast dX8_row_74 sh_237 rfl (by omega) (by decide) ?_
      refine aw_iinc (v := nI (c + 1)) dX8_row_75 rfl (nI_1 c) (Nat.le_of_ble_eq_true rfl) ?_
      refine aw_goto (tgt := 55) dX8_row_78 (by decide) ?_
      refine ih (c + 1) _ (by omega) (fun q => by rw [am_upn (by decide)]; exact e5 q) (fun q => by rw [am_upn (by decide)]; exact e6 q) (fun q => ?_) (hf.up (by omega) (by omega))
      rw [am_ups]
      by_cases e : q = 40 * r + c
      · rw [e, pk_us, if_pos (by omega)]
      · rw [pk_un e, e7]
        by_cases e2 : 40 * r ≤ q ∧ q < 40 * r + c
        · rw [if_pos e2, if_pos (by omega)]
        · rw [if_neg e2, if_neg (by omega)]
set_option maxRecDepth 100000 in
set_option maxHeartbeats 4000000 in
theorem c_X8_row {G : am_G} {μ : am_M} (A : pA) (h : InvM μ A) (ok : okA A) (x1 x2 x3 : Int32) : am_MA G yX8_row cX8_row 5 (some .int) 2 0 0 [.ref 234, .int x1, .int x2, .int x3] am_SH μ (am_P (some (.int (oRow A x1 x2 x3).1)) am_SH (fun μ9 => InvM μ9 (oRow A x1 x2 x3).2 ∧ am_fr μ μ9 234 14)) := by
  refine am_ofK (own := RX8) (nm := "row") (L := [some (.ref 234), some (.int x1), some (.int x2), some (.int x3), none]) rfl rfl (by decide +kernel) (Nat.le_of_ble_eq_true rfl) rfl ?_
  refine aw_iload_n dX8_row_0 rfl ?_
  refine aw_s1i dX8_row_1 ml_X8_61 st_X8_isRow (c_X8_isRow _) (Nat.le_of_ble_eq_true rfl) (Nat.le_of_ble_eq_true rfl) (Nat.le_of_ble_eq_true rfl) (Nat.le_of_ble_eq_true rfl) (Nat.le_of_ble_eq_true rfl) ?_
  refine aw_pif_eq (tgt := 25) dX8_row_4 (by decide) (fun c4 => ?_) (fun c4 => ?_)
  · refine aw_ldc dX8_row_25 kc_X8_67 ?_
    refine aw_iret dX8_row_27 rfl rfl rfl rfl ?_
    exact pAnsM ((if_neg c4).trans rfl) h am_fr.rf
  · obtain ⟨k4, rfl, ha4, hb4, hz4⟩ := pIn_ex c4
    refine aw_iload_n dX8_row_7 rfl ?_
    refine aw_i2l dX8_row_8 ?_
    refine aw_lconst (v := lN 0) dX8_row_9 rfl ?_
    refine aw_ldc2 dX8_row_10 kl_X8_65 ?_
    refine aw_s3i dX8_row_13 ml_X8_57 st_X8_in (c_X8_in _ 0 3 (by decide +kernel) (by decide +kernel)) (Nat.le_of_ble_eq_true rfl) (Nat.le_of_ble_eq_true rfl) (Nat.le_of_ble_eq_true rfl) (Nat.le_of_ble_eq_true rfl) (Nat.le_of_ble_eq_true rfl) ?_
    refine aw_pif_eq (tgt := 25) dX8_row_16 (by decide) (fun c16 => ?_) (fun c16 => ?_)
    · refine aw_ldc dX8_row_25 kc_X8_67 ?_
      refine aw_iret dX8_row_27 rfl rfl rfl rfl ?_
      exact pAnsM ((if_pos c4).trans ((if_neg c16).trans rfl)) h am_fr.rf
    · obtain ⟨k16, rfl, ha16, hb16, hz16⟩ := pIn_ex c16
      refine aw_iload_n dX8_row_19 rfl ?_
      refine aw_bipush (v := nI 40) dX8_row_20 rfl ?_
      refine aw_icmp_le (tgt := 28) dX8_row_22 (by decide) (fun c22 => ?_) (fun c22 => ?_)
      · refine aw_iload_n dX8_row_28 rfl ?_
        refine aw_if_ge (tgt := 38) dX8_row_29 (by decide) (fun c29 => ?_) (fun c29 => ?_)
        · obtain ⟨n, hn, rfl⟩ := nI_of (x := x3) (by rw [z_neg]; rw [z_le2] at c29; exact Int.not_lt.mpr c29)
          have c22n := (nI_leI hn (by decide)).mp c22
          refine aw_aload_n dX8_row_38 rfl ?_
          refine aw_gr dX8_row_39 gf_X8_7 sh_234 (by rfl) ?_
          refine aw_iload_n dX8_row_42 rfl ?_
          refine aw_iload_n dX8_row_43 rfl ?_
          refine aw_iast dX8_row_44 sh_235 rfl (by omega) (by decide) ?_
          refine aw_aload_n dX8_row_45 rfl ?_
          refine aw_gr dX8_row_46 gf_X8_13 sh_234 (by rfl) ?_
          refine aw_iload_n dX8_row_49 rfl ?_
          refine aw_iload_n dX8_row_50 rfl ?_
          refine aw_iast dX8_row_51 sh_236 rfl (by omega) (by decide) ?_
          refine aw_iconst (v := nI 0) dX8_row_52 rfl ?_
          refine aw_istore dX8_row_53 (Nat.le_of_ble_eq_true rfl) ?_
          have e9 : oRow A (nI k4) (nI k16) (nI n) = (nI n, A.sW (wUp A.w k4 (some (k16, n, fun _ => nI 0)))) := by rw [oRow, if_pos c4, if_pos c16, if_pos c22, if_pos c29, zN_nI hz4, zN_nI hz16, zN_nI hn]
          rw [e9]
          refine l_X8_row A h k4 k16 n hb4 hb16 c22n 40 0 _ rfl (fun q => ?_) (fun q => ?_) (fun q => ?_) ((am_fr.rf.up (by omega) (by omega)).up (by omega) (by omega))
          · rw [am_upn (by decide), am_ups]; rfl
          · rw [am_ups, am_up_n (by decide)]; rfl
          · rw [am_upn (by decide), am_upn (by decide), if_neg (by omega)]
        · refine aw_aload_n dX8_row_32 rfl ?_
          refine aw_iconst (v := nI 4) dX8_row_33 rfl ?_
          refine aw_v1i dX8_row_34 ml_X8_68 im_X8_found se_X8_found (c_X8_found _) sh_234 (by decide) rfl rfl (Nat.le_of_ble_eq_true rfl) (Nat.le_of_ble_eq_true rfl) (Nat.le_of_ble_eq_true rfl) (Nat.le_of_ble_eq_true rfl) (Nat.le_of_ble_eq_true rfl) ?_
          refine aw_iret dX8_row_37 rfl rfl rfl rfl ?_
          exact pAnsM ((if_pos c4).trans ((if_pos c16).trans ((if_pos c22).trans ((if_neg c29).trans rfl)))) (h.fd _) (am_fr.rf.up (by omega) (by omega))
      · refine aw_ldc dX8_row_25 kc_X8_67 ?_
        refine aw_iret dX8_row_27 rfl rfl rfl rfl ?_
        exact pAnsM ((if_pos c4).trans ((if_pos c16).trans ((if_neg c22).trans rfl))) h am_fr.rf
