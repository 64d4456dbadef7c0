set_option maxRecDepth 100000 in
set_option maxHeartbeats 4000000 in
theorem c_X7_row {G : am_G} {μ : am_M} (A : pA) (h : InvC μ A) (ok : okA A) (x1 x2 x3 : Int32) : am_MA G yX7_row cX7_row 4 (some .int) 3 0 0 [.ref 0, .int x1, .int x2, .int x3] am_SH μ (am_P (some (.int (oRow A x1 x2 x3).1)) am_SH (fun μ9 => InvC μ9 (oRow A x1 x2 x3).2 ∧ am_fr μ μ9 0 234)) := by
  refine am_ofK (own := RX7) (nm := "row") (L := [some (.ref 0), some (.int x1), some (.int x2), some (.int x3)]) rfl rfl (by decide +kernel) (Nat.le_of_ble_eq_true rfl) rfl ?_
  refine aw_iload_n dX7_row_0 rfl ?_
  refine aw_s1i dX7_row_1 ml_X7_67 st_X7_isRow (c_X7_isRow _) (Nat.le_of_ble_eq_true rfl) (Nat.le_of_ble_eq_true rfl) (Nat.le_of_ble_eq_true rfl) (Nat.le_of_ble_eq_true rfl) (Nat.le_of_ble_eq_true rfl) ?_
  refine aw_pif_eq (tgt := 22) dX7_row_4 (by decide) (fun c4 => ?_) (fun c4 => ?_)
  · refine aw_ldc dX7_row_22 kc_X7_75 ?_
    refine aw_iret dX7_row_24 rfl rfl rfl rfl ?_
    exact pAns ((if_neg c4).trans rfl) h am_fr.rf
  · obtain ⟨k4, rfl, ha4, hb4, hz4⟩ := pIn_ex c4
    refine aw_iload_n dX7_row_7 rfl ?_
    refine aw_iconst (v := nI 0) dX7_row_8 rfl ?_
    refine aw_iconst (v := nI 2) dX7_row_9 rfl ?_
    refine aw_s3i dX7_row_10 ml_X7_71 st_X7_within (c_X7_within _ 0 3 rfl (by decide +kernel) (by decide) (by decide)) (Nat.le_of_ble_eq_true rfl) (Nat.le_of_ble_eq_true rfl) (Nat.le_of_ble_eq_true rfl) (Nat.le_of_ble_eq_true rfl) (Nat.le_of_ble_eq_true rfl) ?_
    refine aw_pif_eq (tgt := 22) dX7_row_13 (by decide) (fun c13 => ?_) (fun c13 => ?_)
    · refine aw_ldc dX7_row_22 kc_X7_75 ?_
      refine aw_iret dX7_row_24 rfl rfl rfl rfl ?_
      exact pAns ((if_pos c4).trans ((if_neg c13).trans rfl)) h am_fr.rf
    · obtain ⟨k13, rfl, ha13, hb13, hz13⟩ := pIn_ex c13
      refine aw_iload_n dX7_row_16 rfl ?_
      refine aw_bipush (v := nI 40) dX7_row_17 rfl ?_
      refine aw_icmp_le (tgt := 25) dX7_row_19 (by decide) (fun c19 => ?_) (fun c19 => ?_)
      · refine aw_iload_n dX7_row_25 rfl ?_
        refine aw_if_ge (tgt := 35) dX7_row_26 (by decide) (fun c26 => ?_) (fun c26 => ?_)
        · obtain ⟨n, hn, rfl⟩ := nI_of (x := x3) (by rw [z_neg]; rw [z_le2] at c26; exact Int.not_lt.mpr c26)
          have c19n := (nI_leI hn (by decide)).mp c19
          refine aw_aload_n dX7_row_35 rfl ?_
          refine aw_gr dX7_row_36 gf_X7_11 sh_0 (by rfl) ?_
          refine aw_iload_n dX7_row_39 rfl ?_
          refine aw_aald (t := 2) dX7_row_40 sh_1 (by decide) rfl (by omega) (by decide) (sh_1r _ (by omega)) ?_
          refine aw_iload_n dX7_row_41 rfl ?_
          refine aw_iload_n dX7_row_42 rfl ?_
          refine aw_v2vp dX7_row_43 ml_X7_80 im_X4_begin se_X4_begin (c_X4_begin (2 + 2 * k4) (sh_row k4 (by omega)) k13 n (by omega) c19n) (sh_row k4 (by omega)).1 (by decide) rfl rfl (Nat.le_of_ble_eq_true rfl) (Nat.le_of_ble_eq_true rfl) (Nat.le_of_ble_eq_true rfl) (Nat.le_of_ble_eq_true rfl) (Nat.le_of_ble_eq_true rfl) (fun μ2 q2 => ?_)
          refine aw_aload_n dX7_row_46 rfl ?_
          refine aw_iload_n dX7_row_47 rfl ?_
          refine aw_v1i dX7_row_48 ml_X7_84 im_X7_foundNothing se_X7_foundNothing (c_X7_foundNothing _) sh_0 (by decide) rfl rfl (Nat.le_of_ble_eq_true rfl) (Nat.le_of_ble_eq_true rfl) (Nat.le_of_ble_eq_true rfl) (Nat.le_of_ble_eq_true rfl) (Nat.le_of_ble_eq_true rfl) ?_
          refine aw_iret dX7_row_51 rfl rfl rfl rfl ?_
          refine pAns (A2 := A.sW (wUp A.w k4 (some (k13, n, fun _ => nI 0)))) ?_ (h.row q2.1 q2.2 (by omega)) ((q2.2.mono (by omega) (by omega)).up (by omega) (by omega))
          rw [oRow, if_pos c4, if_pos c13, if_pos c19, if_pos c26, zN_nI hz4, zN_nI hz13, zN_nI hn]
        · refine aw_aload_n dX7_row_29 rfl ?_
          refine aw_iconst (v := nI 4) dX7_row_30 rfl ?_
          refine aw_v1i dX7_row_31 ml_X7_76 im_X7_found se_X7_found (c_X7_found _) sh_0 (by decide) rfl rfl (Nat.le_of_ble_eq_true rfl) (Nat.le_of_ble_eq_true rfl) (Nat.le_of_ble_eq_true rfl) (Nat.le_of_ble_eq_true rfl) (Nat.le_of_ble_eq_true rfl) ?_
          refine aw_iret dX7_row_34 rfl rfl rfl rfl ?_
          exact pAns ((if_pos c4).trans ((if_pos c13).trans ((if_pos c19).trans ((if_neg c26).trans rfl)))) (h.fd _) (am_fr.rf.up (by omega) (by omega))
      · refine aw_ldc dX7_row_22 kc_X7_75 ?_
        refine aw_iret dX7_row_24 rfl rfl rfl rfl ?_
        exact pAns ((if_pos c4).trans ((if_pos c13).trans ((if_neg c19).trans rfl))) h am_fr.rf
theorem pFind_sp {w : Option pRow} {i : Int32} {m : Nat} (hm : m < 2 ^ 31) (h : pFind w i (nI m) = 0) : ∃ l n f k, w = some (l, n, f) ∧ i = nI k ∧ k + m ≤ n ∧ k < 2 ^ 31 := by
  cases w with
  | none => exact absurd h (show ¬ (1 : Nat) = 0 by decide)
  | some q =>
    obtain ⟨l, n, f⟩ := q
    replace h : (if pSpanB n i (nI m) = true then 0 else 2) = 0 := h
    by_cases e : pSpanB n i (nI m) = true
    · rw [pSpanB_iff] at e
      obtain ⟨e1, e2, e3⟩ := e
      obtain ⟨k, hk, rfl⟩ := nI_of (x := i) (by rw [z_neg]; omega)
      rw [nI_toInt hk, nI_toInt hm] at e3
      exact ⟨l, n, f, k, rfl, rfl, by omega, hk⟩
    · rw [if_neg e] at h
      exact absurd h (by decide)
theorem pFind_put {w : Option pRow} {i : Int32} (h : pFind w i (nI 1) = 0) : ∃ l n f k, w = some (l, n, f) ∧ i = nI k ∧ k < n ∧ k < 2 ^ 31 := by
  obtain ⟨l, n, f, k, e1, e2, e3, e4⟩ := pFind_sp (m := 1) (by decide) h
  exact ⟨l, n, f, k, e1, e2, by omega, e4⟩
theorem pFind_lt (w : Option pRow) (i n : Int32) : pFind w i n ≤ 2 := by
  unfold pFind
  split
  · decide
  · split <;> decide
set_option maxRecDepth 100000 in
set_option maxHeartbeats 4000000 in
theorem c_X7_set {G : am_G} {μ : am_M} (A : pA) (h : InvC μ A) (ok : okA A) (x1 x2 x3 : Int32) : am_MA G yX7_set cX7_set 5 (some .int) 2 0 0 [.ref 0, .int x1, .int x2, .int x3] am_SH μ (am_P (some (.int (oSet A x1 x2 x3).1)) am_SH (fun μ9 => InvC μ9 (oSet A x1 x2 x3).2 ∧ am_fr μ μ9 0 234)) := by
  refine am_ofK (own := RX7) (nm := "set") (L := [some (.ref 0), some (.int x1), some (.int x2), some (.int x3), none]) rfl rfl (by decide +kernel) (Nat.le_of_ble_eq_true rfl) rfl ?_
  refine aw_iload_n dX7_set_0 rfl ?_
  refine aw_s1i dX7_set_1 ml_X7_67 st_X7_isRow (c_X7_isRow _) (Nat.le_of_ble_eq_true rfl) (Nat.le_of_ble_eq_true rfl) (Nat.le_of_ble_eq_true rfl) (Nat.le_of_ble_eq_true rfl) (Nat.le_of_ble_eq_true rfl) ?_
  refine aw_pif_ne (tgt := 10) dX7_set_4 (by decide) (fun c4 => ?_) (fun c4 => ?_)
  · obtain ⟨k4, rfl, ha4, hb4, hz4⟩ := pIn_ex c4
    refine aw_aload_n dX7_set_10 rfl ?_
    refine aw_gr dX7_set_11 gf_X7_11 sh_0 (by rfl) ?_
    refine aw_iload_n dX7_set_14 rfl ?_
    refine aw_aald (t := 2) dX7_set_15 sh_1 (by decide) rfl (by omega) (by decide) (sh_1r _ (by omega)) ?_
    refine aw_iload_n dX7_set_16 rfl ?_
    refine aw_iconst (v := nI 1) dX7_set_17 rfl ?_
    refine aw_v2i dX7_set_18 ml_X7_87 im_X4_findingOf se_X4_findingOf (c_X4_findingOf (2 + 2 * k4) (sh_row k4 (by omega)) (A.w k4) (h.rows k4 (by omega)) _ _) (sh_row k4 (by omega)).1 (by decide) rfl rfl (Nat.le_of_ble_eq_true rfl) (Nat.le_of_ble_eq_true rfl) (Nat.le_of_ble_eq_true rfl) (Nat.le_of_ble_eq_true rfl) (Nat.le_of_ble_eq_true rfl) ?_
    refine aw_istore dX7_set_21 (Nat.le_of_ble_eq_true rfl) ?_
    refine aw_iload dX7_set_23 rfl ?_
    refine aw_if_eq (tgt := 35) dX7_set_25 (by decide) (fun c25 => ?_) (fun c25 => ?_)
    · rw [z_eq (Nat.lt_of_le_of_lt (pFind_lt _ _ _) (by decide))] at c25
      obtain ⟨l, n, f, k, ew, rfl, hk, hz⟩ := pFind_put c25
      have hw := h.rows k4 (by omega)
      rw [ew] at hw
      refine aw_aload_n dX7_set_35 rfl ?_
      refine aw_aload_n dX7_set_36 rfl ?_
      refine aw_gr dX7_set_37 gf_X7_11 sh_0 (by rfl) ?_
      refine aw_iload_n dX7_set_40 rfl ?_
      refine aw_aald (t := 2) dX7_set_41 sh_1 (by decide) rfl (by omega) (by decide) (sh_1r _ (by omega)) ?_
      refine aw_iload_n dX7_set_42 rfl ?_
      refine aw_iload_n dX7_set_43 rfl ?_
      refine aw_v2ip dX7_set_44 ml_X7_91 im_X4_put se_X4_put (c_X4_put (2 + 2 * k4) (sh_row k4 (by omega)) l n f hw k hk x3) (sh_row k4 (by omega)).1 (by decide) rfl rfl (Nat.le_of_ble_eq_true rfl) (Nat.le_of_ble_eq_true rfl) (Nat.le_of_ble_eq_true rfl) (Nat.le_of_ble_eq_true rfl) (Nat.le_of_ble_eq_true rfl) (fun μ2 q2 => ?_)
      refine aw_v1i dX7_set_47 ml_X7_84 im_X7_foundNothing se_X7_foundNothing (c_X7_foundNothing _) sh_0 (by decide) rfl rfl (Nat.le_of_ble_eq_true rfl) (Nat.le_of_ble_eq_true rfl) (Nat.le_of_ble_eq_true rfl) (Nat.le_of_ble_eq_true rfl) (Nat.le_of_ble_eq_true rfl) ?_
      refine aw_iret dX7_set_50 rfl rfl rfl rfl ?_
      refine pAns ?_ (h.row q2.1 q2.2 (by omega)) ((q2.2.mono (by omega) (by omega)).up (by omega) (by omega))
      rw [oSet, if_pos c4, zN_nI hz4, if_pos c25, zN_nI hz, ew]
      rfl
    · rw [z_eq (Nat.lt_of_le_of_lt (pFind_lt _ _ _) (by decide))] at c25
      refine aw_aload_n dX7_set_28 rfl ?_
      refine aw_iload dX7_set_29 rfl ?_
      refine aw_v1i dX7_set_31 ml_X7_76 im_X7_found se_X7_found (c_X7_found _) sh_0 (by decide) rfl rfl (Nat.le_of_ble_eq_true rfl) (Nat.le_of_ble_eq_true rfl) (Nat.le_of_ble_eq_true rfl) (Nat.le_of_ble_eq_true rfl) (Nat.le_of_ble_eq_true rfl) ?_
      refine aw_iret dX7_set_34 rfl rfl rfl rfl ?_
      refine pAns ?_ (h.fd _) (am_fr.rf.up (by omega) (by omega))
      rw [oSet, if_pos c4, zN_nI hz4, if_neg c25]
      rfl
  · refine aw_ldc dX7_set_7 kc_X7_75 ?_
    refine aw_iret dX7_set_9 rfl rfl rfl rfl ?_
    exact pAns ((if_neg c4).trans rfl) h am_fr.rf
set_option maxRecDepth 100000 in
set_option maxHeartbeats 4000000 in
theorem c_X7_drop {G : am_G} {μ : am_M} (A : pA) (h : InvC μ A) (ok : okA A) (x1 : Int32) : am_MA G yX7_drop cX7_drop 2 (some .int) 2 0 0 [.ref 0, .int x1] am_SH μ (am_P (some (.int (oDrop A x1).1)) am_SH (fun μ9 => InvC μ9 (oDrop A x1).2 ∧ am_fr μ μ9 0 234)) := by
  refine am_ofK (own := RX7) (nm := "drop") (L := [some (.ref 0), some (.int x1)]) rfl rfl (by decide +kernel) (Nat.le_of_ble_eq_true rfl) rfl ?_
  refine aw_iload_n dX7_drop_0 rfl ?_
  refine aw_s1i dX7_drop_1 ml_X7_67 st_X7_isRow (c_X7_isRow _) (Nat.le_of_ble_eq_true rfl) (Nat.le_of_ble_eq_true rfl) (Nat.le_of_ble_eq_true rfl) (Nat.le_of_ble_eq_true rfl) (Nat.le_of_ble_eq_true rfl) ?_
  refine aw_pif_ne (tgt := 10) dX7_drop_4 (by decide) (fun c4 => ?_) (fun c4 => ?_)
  · obtain ⟨k4, rfl, ha4, hb4, hz4⟩ := pIn_ex c4
    refine aw_aload_n dX7_drop_10 rfl ?_
    refine aw_gr dX7_drop_11 gf_X7_11 sh_0 (by rfl) ?_
    refine aw_iload_n dX7_drop_14 rfl ?_
    refine aw_aald (t := 2) dX7_drop_15 sh_1 (by decide) rfl (by omega) (by decide) (sh_1r _ (by omega)) ?_
    refine aw_gi dX7_drop_16 gf_X7_94 (sh_row k4 (by omega)).1 (by rfl) ?_
    refine aw_top (rowC_ms (h.rows k4 (by omega))) ?_
    refine aw_pif_eq (tgt := 28) dX7_drop_19 (by decide) (fun c19 => ?_) (fun c19 => ?_)
    · obtain ⟨⟨l, n, f⟩, ew⟩ := Option.ne_none_iff_exists'.mp c19
      have hw := h.rows k4 (by omega)
      rw [ew] at hw
      refine aw_aload_n dX7_drop_28 rfl ?_
      refine aw_gr dX7_drop_29 gf_X7_11 sh_0 (by rfl) ?_
      refine aw_iload_n dX7_drop_32 rfl ?_
      refine aw_aald (t := 2) dX7_drop_33 sh_1 (by decide) rfl (by omega) (by decide) (sh_1r _ (by omega)) ?_
      refine aw_iconst (v := nI 1) dX7_drop_34 rfl ?_
      refine aw_pi dX7_drop_35 pf_X7_94 rfl rfl (sh_row k4 (by omega)).1 (by rfl) ?_
      refine aw_aload_n dX7_drop_38 rfl ?_
      refine aw_aload_n dX7_drop_39 rfl ?_
      refine aw_gr dX7_drop_40 gf_X7_11 sh_0 (by rfl) ?_
      refine aw_iload_n dX7_drop_43 rfl ?_
      refine aw_aald (t := 2) dX7_drop_44 sh_1 (by decide) rfl (by omega) (by decide) (sh_1r _ (by omega)) ?_
      refine aw_gi dX7_drop_45 gf_X7_115 (sh_row k4 (by omega)).1 (by rfl) ?_
      refine aw_top (show _ = nI n by rw [am_ups, pk_un (by decide)]; exact hw.2.2.1) ?_
      refine aw_v1i dX7_drop_48 ml_X7_84 im_X7_foundNothing se_X7_foundNothing (c_X7_foundNothing _) sh_0 (by decide) rfl rfl (Nat.le_of_ble_eq_true rfl) (Nat.le_of_ble_eq_true rfl) (Nat.le_of_ble_eq_true rfl) (Nat.le_of_ble_eq_true rfl) (Nat.le_of_ble_eq_true rfl) ?_
      refine aw_iret dX7_drop_51 rfl rfl rfl rfl ?_
      refine pAns ?_ (h.row (x := none) (show _ = nI 1 by rw [am_ups, pk_us]) (am_fr.rf.up (by omega) (by omega)) (by omega)) ((am_fr.rf.up (by omega) (by omega)).up (by omega) (by omega))
      rw [oDrop, if_pos c4, zN_nI hz4, ew]
      rfl
    · refine aw_aload_n dX7_drop_22 rfl ?_
      refine aw_iconst (v := nI 1) dX7_drop_23 rfl ?_
      refine aw_v1i dX7_drop_24 ml_X7_76 im_X7_found se_X7_found (c_X7_found _) sh_0 (by decide) rfl rfl (Nat.le_of_ble_eq_true rfl) (Nat.le_of_ble_eq_true rfl) (Nat.le_of_ble_eq_true rfl) (Nat.le_of_ble_eq_true rfl) (Nat.le_of_ble_eq_true rfl) ?_
      refine aw_iret dX7_drop_27 rfl rfl rfl rfl ?_
      refine pAns ?_ (h.fd _) (am_fr.rf.up (by omega) (by omega))
      rw [oDrop, if_pos c4, zN_nI hz4, c19]
      rfl
  · refine aw_ldc dX7_drop_7 kc_X7_75 ?_
    refine aw_iret dX7_drop_9 rfl rfl rfl rfl ?_
    exact pAns ((if_neg c4).trans rfl) h am_fr.rf
set_option maxRecDepth 100000 in
set_option maxHeartbeats 4000000 in
theorem c_X7_copy {G : am_G} {μ : am_M} (A : pA) (h : InvC μ A) (ok : okA A) (x1 x2 x3 x4 x5 : Int32) : am_MA G yX7_copy cX7_copy 8 (some .int) 2 0 0 [.ref 0, .int x1, .int x2, .int x3, .int x4, .int x5] am_SH μ (am_P (some (.int (oCopy A x1 x2 x3 x4 x5).1)) am_SH (fun μ9 => InvC μ9 (oCopy A x1 x2 x3 x4 x5).2 ∧ am_fr μ μ9 0 234)) := by
  refine am_ofK (own := RX7) (nm := "copy") (L := [some (.ref 0), some (.int x1), some (.int x2), some (.int x3), some (.int x4), some (.int x5), none, none]) rfl rfl (by decide +kernel) (Nat.le_of_ble_eq_true rfl) rfl ?_
  refine aw_iload_n dX7_copy_0 rfl ?_
  refine aw_s1i dX7_copy_1 ml_X7_67 st_X7_isRow (c_X7_isRow _) (Nat.le_of_ble_eq_true rfl) (Nat.le_of_ble_eq_true rfl) (Nat.le_of_ble_eq_true rfl) (Nat.le_of_ble_eq_true rfl) (Nat.le_of_ble_eq_true rfl) ?_
  refine aw_pif_eq (tgt := 14) dX7_copy_4 (by decide) (fun c4 => ?_) (fun c4 => ?_)
  · refine aw_ldc dX7_copy_14 kc_X7_75 ?_
    refine aw_iret dX7_copy_16 rfl rfl rfl rfl ?_
    exact pAns ((if_neg c4).trans rfl) h am_fr.rf
  · obtain ⟨k4, rfl, ha4, hb4, hz4⟩ := pIn_ex c4
    refine aw_iload_n dX7_copy_7 rfl ?_
    refine aw_s1i dX7_copy_8 ml_X7_67 st_X7_isRow (c_X7_isRow _) (Nat.le_of_ble_eq_true rfl) (Nat.le_of_ble_eq_true rfl) (Nat.le_of_ble_eq_true rfl) (Nat.le_of_ble_eq_true rfl) (Nat.le_of_ble_eq_true rfl) ?_
    refine aw_pif_ne (tgt := 17) dX7_copy_11 (by decide) (fun c11 => ?_) (fun c11 => ?_)
    · obtain ⟨k11, rfl, ha11, hb11, hz11⟩ := pIn_ex c11
      refine aw_aload_n dX7_copy_17 rfl ?_
      refine aw_gr dX7_copy_18 gf_X7_11 sh_0 (by rfl) ?_
      refine aw_iload_n dX7_copy_21 rfl ?_
      refine aw_aald (t := 2) dX7_copy_22 sh_1 (by decide) rfl (by omega) (by decide) (sh_1r _ (by omega)) ?_
      refine aw_astore dX7_copy_23 (Nat.le_of_ble_eq_true rfl) ?_
      refine aw_aload_n dX7_copy_25 rfl ?_
      refine aw_gr dX7_copy_26 gf_X7_11 sh_0 (by rfl) ?_
      refine aw_iload_n dX7_copy_29 rfl ?_
      refine aw_aald (t := 2) dX7_copy_30 sh_1 (by decide) rfl (by omega) (by decide) (sh_1r _ (by omega)) ?_
      refine aw_astore dX7_copy_31 (Nat.le_of_ble_eq_true rfl) ?_
      refine aw_aload dX7_copy_33 rfl ?_
      refine aw_gi dX7_copy_35 gf_X7_94 (sh_row k4 (by omega)).1 (by rfl) ?_
      refine aw_top (rowC_ms (h.rows k4 (by omega))) ?_
      refine aw_pif_ne (tgt := 49) dX7_copy_38 (by decide) (fun c38 => ?_) (fun c38 => ?_)
      · refine aw_aload_n dX7_copy_49 rfl ?_
        refine aw_iconst (v := nI 1) dX7_copy_50 rfl ?_
        refine aw_v1i dX7_copy_51 ml_X7_76 im_X7_found se_X7_found (c_X7_found _) sh_0 (by decide) rfl rfl (Nat.le_of_ble_eq_true rfl) (Nat.le_of_ble_eq_true rfl) (Nat.le_of_ble_eq_true rfl) (Nat.le_of_ble_eq_true rfl) (Nat.le_of_ble_eq_true rfl) ?_
        refine aw_iret dX7_copy_54 rfl rfl rfl rfl ?_
        refine pAns ?_ (h.fd _) (am_fr.rf.up (by omega) (by omega))
        rw [oCopy, if_pos c4, if_pos c11, zN_nI hz4, zN_nI hz11, c38]
        rfl
      · obtain ⟨⟨l1, n1, f1⟩, ew1⟩ := Option.ne_none_iff_exists'.mp c38
        have hw1 := h.rows k4 (by omega)
        rw [ew1] at hw1
        refine aw_aload dX7_copy_41 rfl ?_
        refine aw_gi dX7_copy_43 gf_X7_94 (sh_row k11 (by omega)).1 (by rfl) ?_
        refine aw_top (rowC_ms (h.rows k11 (by omega))) ?_
        refine aw_pif_eq (tgt := 55) dX7_copy_46 (by decide) (fun c46 => ?_) (fun c46 => ?_)
        · obtain ⟨⟨l2, n2, f2⟩, ew2⟩ := Option.ne_none_iff_exists'.mp c46
          have hw2 := h.rows k11 (by omega)
          rw [ew2] at hw2
          refine aw_aload dX7_copy_55 rfl ?_
          refine aw_gi dX7_copy_57 gf_X7_98 (sh_row k4 (by omega)).1 (by rfl) ?_
          refine aw_top hw1.2.1 ?_
          refine aw_aload dX7_copy_60 rfl ?_
          refine aw_gi dX7_copy_62 gf_X7_98 (sh_row k11 (by omega)).1 (by rfl) ?_
          refine aw_top hw2.2.1 ?_
          refine aw_icmp_eq (tgt := 74) dX7_copy_65 (by decide) (fun c65 => ?_) (fun c65 => ?_)
          · rw [nI_eq (by have := hw1.2.2.2.1; omega) (by have := hw2.2.2.2.1; omega)] at c65
            refine aw_aload dX7_copy_74 rfl ?_
            refine aw_iload_n dX7_copy_76 rfl ?_
            refine aw_iload dX7_copy_77 rfl ?_
            refine aw_v2i dX7_copy_79 ml_X7_101 im_X4_spans se_X4_spans (c_X4_spans (2 + 2 * k4) (sh_row k4 (by omega)) n1 hw1.2.2.1 hw1.2.2.2.2.1 _ _) (sh_row k4 (by omega)).1 (by decide) rfl rfl (Nat.le_of_ble_eq_true rfl) (Nat.le_of_ble_eq_true rfl) (Nat.le_of_ble_eq_true rfl) (Nat.le_of_ble_eq_true rfl) (Nat.le_of_ble_eq_true rfl) ?_
            refine aw_pif_eq (tgt := 97) dX7_copy_82 (by decide) (fun c82 => ?_) (fun c82 => ?_)
            · refine aw_aload_n dX7_copy_97 rfl ?_
              refine aw_iconst (v := nI 2) dX7_copy_98 rfl ?_
              refine aw_v1i dX7_copy_99 ml_X7_76 im_X7_found se_X7_found (c_X7_found _) sh_0 (by decide) rfl rfl (Nat.le_of_ble_eq_true rfl) (Nat.le_of_ble_eq_true rfl) (Nat.le_of_ble_eq_true rfl) (Nat.le_of_ble_eq_true rfl) (Nat.le_of_ble_eq_true rfl) ?_
              refine aw_iret dX7_copy_102 rfl rfl rfl rfl ?_
              refine pAns ?_ (h.fd _) (am_fr.rf.up (by omega) (by omega))
              rw [oCopy, if_pos c4, if_pos c11, zN_nI hz4, zN_nI hz11, ew1, ew2]; exact (if_pos c65).trans ((if_neg c82).trans rfl)
            · refine aw_aload dX7_copy_85 rfl ?_
              refine aw_iload dX7_copy_87 rfl ?_
              refine aw_iload dX7_copy_89 rfl ?_
              refine aw_v2i dX7_copy_91 ml_X7_101 im_X4_spans se_X4_spans (c_X4_spans (2 + 2 * k11) (sh_row k11 (by omega)) n2 hw2.2.2.1 hw2.2.2.2.2.1 _ _) (sh_row k11 (by omega)).1 (by decide) rfl rfl (Nat.le_of_ble_eq_true rfl) (Nat.le_of_ble_eq_true rfl) (Nat.le_of_ble_eq_true rfl) (Nat.le_of_ble_eq_true rfl) (Nat.le_of_ble_eq_true rfl) ?_
              refine aw_pif_ne (tgt := 103) dX7_copy_94 (by decide) (fun c94 => ?_) (fun c94 => ?_)
              · obtain ⟨e1, e2, e3⟩ := pSpanB_iff.mp c82
                obtain ⟨e4, e5, e6⟩ := pSpanB_iff.mp c94
                obtain ⟨i, hi, rfl⟩ := nI_of (x := x2) (by rw [z_neg]; omega)
                obtain ⟨j, hj, rfl⟩ := nI_of (x := x4) (by rw [z_neg]; omega)
                obtain ⟨n, hn, rfl⟩ := nI_of (x := x5) (by rw [z_neg]; omega)
                rw [nI_toInt hi, nI_toInt hn] at e3
                rw [nI_toInt hj, nI_toInt hn] at e6
                have b1 := hw1.2.2.2.2.1
                have b2 := hw2.2.2.2.2.1
                refine aw_aload dX7_copy_103 rfl ?_
                refine aw_gr dX7_copy_105 gf_X7_105 (sh_row k4 (by omega)).1 (by rfl) ?_
                refine aw_iload_n dX7_copy_108 rfl ?_
                refine aw_aload dX7_copy_109 rfl ?_
                refine aw_gr dX7_copy_111 gf_X7_105 (sh_row k11 (by omega)).1 (by rfl) ?_
                refine aw_iload dX7_copy_114 rfl ?_
                refine aw_iload dX7_copy_116 rfl ?_
                refine aw_copy dX7_copy_118 lk_X7_109 nt_copy st_copy iw_J10 (Nat.le_of_ble_eq_true rfl) (Nat.le_of_ble_eq_true rfl) (Nat.le_of_ble_eq_true rfl) (sh_row k4 (by omega)).2 (sh_row k11 (by omega)).2 rfl rfl rfl (by omega) (by omega) (by decide) (by decide) ?_
                refine aw_aload_n dX7_copy_121 rfl ?_
                refine aw_iload dX7_copy_122 rfl ?_
                refine aw_v1i dX7_copy_124 ml_X7_84 im_X7_foundNothing se_X7_foundNothing (c_X7_foundNothing _) sh_0 (by decide) rfl rfl (Nat.le_of_ble_eq_true rfl) (Nat.le_of_ble_eq_true rfl) (Nat.le_of_ble_eq_true rfl) (Nat.le_of_ble_eq_true rfl) (Nat.le_of_ble_eq_true rfl) ?_
                refine aw_iret dX7_copy_127 rfl rfl rfl rfl ?_
                refine pAns ?_ (h.row (r := k11) (x := some (l2, n2, pCp f1 f2 i j n)) ?_ (am_fr.rf.up (by omega) (by omega)) (by omega)) ((am_fr.rf.up (by omega) (by omega)).up (by omega) (by omega))
                · rw [oCopy, if_pos c4, if_pos c11, zN_nI hz4, zN_nI hz11, ew1, ew2]; exact (if_pos c65).trans ((if_pos c82).trans ((if_pos c94).trans (by rw [zN_nI hi, zN_nI hj, zN_nI hn])))
                · refine ⟨by rw [am_upn (by omega)]; exact hw2.1, by rw [am_upn (by omega)]; exact hw2.2.1, by rw [am_upn (by omega)]; exact hw2.2.2.1, hw2.2.2.2.1, hw2.2.2.2.2.1, fun p hp => ?_⟩
                  rw [am_ups]
                  show (if j ≤ p ∧ p < j + n then μ (2 + 2 * k4 + 1) (i + (p - j)) else μ (2 + 2 * k11 + 1) p) = if j ≤ p ∧ p < j + n then f1 (i + (p - j)) else f2 p
                  split
                  · exact hw1.2.2.2.2.2 _ (by omega)
                  · exact hw2.2.2.2.2.2 _ hp
              · refine aw_aload_n dX7_copy_97 rfl ?_
                refine aw_iconst (v := nI 2) dX7_copy_98 rfl ?_
                refine aw_v1i dX7_copy_99 ml_X7_76 im_X7_found se_X7_found (c_X7_found _) sh_0 (by decide) rfl rfl (Nat.le_of_ble_eq_true rfl) (Nat.le_of_ble_eq_true rfl) (Nat.le_of_ble_eq_true rfl) (Nat.le_of_ble_eq_true rfl) (Nat.le_of_ble_eq_true rfl) ?_
                refine aw_iret dX7_copy_102 rfl rfl rfl rfl ?_
                refine pAns ?_ (h.fd _) (am_fr.rf.up (by omega) (by omega))
                rw [oCopy, if_pos c4, if_pos c11, zN_nI hz4, zN_nI hz11, ew1, ew2]; exact (if_pos c65).trans ((if_pos c82).trans ((if_neg c94).trans rfl))
          · rw [nI_eq (by have := hw1.2.2.2.1; omega) (by have := hw2.2.2.2.1; omega)] at c65
            refine aw_aload_n dX7_copy_68 rfl ?_
            refine aw_iconst (v := nI 5) dX7_copy_69 rfl ?_
            refine aw_v1i dX7_copy_70 ml_X7_76 im_X7_found se_X7_found (c_X7_found _) sh_0 (by decide) rfl rfl (Nat.le_of_ble_eq_true rfl) (Nat.le_of_ble_eq_true rfl) (Nat.le_of_ble_eq_true rfl) (Nat.le_of_ble_eq_true rfl) (Nat.le_of_ble_eq_true rfl) ?_
            refine aw_iret dX7_copy_73 rfl rfl rfl rfl ?_
            refine pAns ?_ (h.fd _) (am_fr.rf.up (by omega) (by omega))
            rw [oCopy, if_pos c4, if_pos c11, zN_nI hz4, zN_nI hz11, ew1, ew2]; exact (if_neg c65).trans rfl
        · refine aw_aload_n dX7_copy_49 rfl ?_
          refine aw_iconst (v := nI 1) dX7_copy_50 rfl ?_
          refine aw_v1i dX7_copy_51 ml_X7_76 im_X7_found se_X7_found (c_X7_found _) sh_0 (by decide) rfl rfl (Nat.le_of_ble_eq_true rfl) (Nat.le_of_ble_eq_true rfl) (Nat.le_of_ble_eq_true rfl) (Nat.le_of_ble_eq_true rfl) (Nat.le_of_ble_eq_true rfl) ?_
          refine aw_iret dX7_copy_54 rfl rfl rfl rfl ?_
          refine pAns ?_ (h.fd _) (am_fr.rf.up (by omega) (by omega))
          rw [oCopy, if_pos c4, if_pos c11, zN_nI hz4, zN_nI hz11, ew1, c46]
          rfl
    · refine aw_ldc dX7_copy_14 kc_X7_75 ?_
      refine aw_iret dX7_copy_16 rfl rfl rfl rfl ?_
      exact pAns ((if_pos c4).trans ((if_neg c11).trans rfl)) h am_fr.rf
