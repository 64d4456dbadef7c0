set_option maxRecDepth 100000 in
set_option maxHeartbeats 4000000 in
theorem l_X8_hourGoes {G : am_G} {μ : am_M} (a : Nat) (hc : am_SH[a]? = some (100, 32, [])) (K : pK) (hK : mC μ a K) (ho : pOK K) : ∀ (r i : Nat) (μ1 : am_M), i + r = K 5 → mC μ1 a (pHT K i) → am_fr μ μ1 a 1 → am_W (am_K G RX8 "hourGoes" 2 none 2 0 0 (am_P none am_SH (fun μ9 => mC μ9 a (pHour K) ∧ am_fr μ μ9 a 1))) cX8_hourGoes 2 [some (.ref a), some (.int (nI i))] [] am_SH μ1 0 0 := by
  have h5 := ho.1
  intro r
  induction r with
  | zero =>
    intro i μ1 hi hm hf
    have e : i = K 5 := by omega
    subst e
    refine aw_iload_n dX8_hourGoes_2 rfl ?_
    refine aw_aload_n dX8_hourGoes_3 rfl ?_
    refine aw_iconst (v := nI 5) dX8_hourGoes_4 rfl ?_
    refine aw_iald (j := 5) dX8_hourGoes_5 hc rfl (by decide) (by decide) ?_
    refine aw_top (show _ = nI (K 5) by rw [hm 5 (by decide), pHT_0 (by omega) (by omega)]) ?_
    refine aw_icmp_ge (tgt := 53) dX8_hourGoes_6 (by decide) (fun c6 => ?_) (fun c6 => ?_)
    · refine aw_aload_n dX8_hourGoes_53 rfl ?_
      refine aw_bipush (v := nI 6) dX8_hourGoes_54 rfl ?_
      refine aw_dup2 dX8_hourGoes_56 rfl rfl ?_
      refine aw_iald (j := 6) dX8_hourGoes_57 hc rfl (by decide) (by decide) ?_
      refine aw_top (show _ = nI (K 6) by rw [hm 6 (by decide), pHT_0 (by omega) (by omega)]) ?_
      refine aw_iconst (v := nI 1) dX8_hourGoes_58 rfl ?_
      refine aw_iadd dX8_hourGoes_59 ?_
      refine aw_top (nI_add _ _) ?_
      refine aw_iast (j := 6) dX8_hourGoes_60 hc rfl (by decide) (by decide) ?_
      refine aw_vret dX8_hourGoes_61 rfl rfl rfl ?_
      exact ⟨rfl, rfl, (hm.up 6 (K 6 + 1)).cg (fun j _ => pHT_end h5 j), hf.up (by omega) (by omega)⟩
    · exact absurd (nI_le (by omega) (by omega)) c6
  | succ r ih =>
    intro i μ1 hi hm hf
    have gk := ho.2.2.2.2 i (by omega)
    refine aw_iload_n dX8_hourGoes_2 rfl ?_
    refine aw_aload_n dX8_hourGoes_3 rfl ?_
    refine aw_iconst (v := nI 5) dX8_hourGoes_4 rfl ?_
    refine aw_iald (j := 5) dX8_hourGoes_5 hc rfl (by decide) (by decide) ?_
    refine aw_top (show _ = nI (K 5) by rw [hm 5 (by decide), pHT_0 (by omega) (by omega)]) ?_
    refine aw_icmp_ge (tgt := 53) dX8_hourGoes_6 (by decide) (fun c6 => ?_) (fun c6 => ?_)
    · exact absurd c6 (nI_ge (by omega) (by omega))
    · refine aw_aload_n dX8_hourGoes_9 rfl ?_
      refine aw_bipush (v := nI 17) dX8_hourGoes_10 rfl ?_
      refine aw_iload_n dX8_hourGoes_12 rfl ?_
      refine aw_iadd dX8_hourGoes_13 ?_
      refine aw_top (nI_add _ _) ?_
      refine aw_aload_n dX8_hourGoes_14 rfl ?_
      refine aw_aload_n dX8_hourGoes_15 rfl ?_
      refine aw_bipush (v := nI 17) dX8_hourGoes_16 rfl ?_
      refine aw_iload_n dX8_hourGoes_18 rfl ?_
      refine aw_iadd dX8_hourGoes_19 ?_
      refine aw_top (nI_add _ _) ?_
      refine aw_iald dX8_hourGoes_20 hc rfl (by omega) (by decide) ?_
      refine aw_top (show _ = nI (K (17 + i)) by rw [hm (17 + i) (by omega), pHT_h (by omega) (by omega)]) ?_
      refine aw_s2i dX8_hourGoes_21 ml_X8_157 st_X8_sunk (c_X8_sunk a hc (pHT K i) hm (pHT_ok ho (by omega)) (K (17 + i)) gk.2.2.1) (Nat.le_of_ble_eq_true rfl) (Nat.le_of_ble_eq_true rfl) (Nat.le_of_ble_eq_true rfl) (Nat.le_of_ble_eq_true rfl) (Nat.le_of_ble_eq_true rfl) ?_
      refine aw_top (show _ = nI (K (17 + i) - K 4) by rw [pHT_0 (by omega) (by omega)]) ?_
      refine aw_iast dX8_hourGoes_24 hc rfl (by omega) (by decide) ?_
      have hm2 := hm.up (17 + i) (K (17 + i) - K 4)
      refine aw_aload_n dX8_hourGoes_25 rfl ?_
      refine aw_bipush (v := nI 12) dX8_hourGoes_26 rfl ?_
      refine aw_iload_n dX8_hourGoes_28 rfl ?_
      refine aw_iadd dX8_hourGoes_29 ?_
      refine aw_top (nI_add _ _) ?_
      refine aw_aload_n dX8_hourGoes_30 rfl ?_
      refine aw_aload_n dX8_hourGoes_31 rfl ?_
      refine aw_bipush (v := nI 12) dX8_hourGoes_32 rfl ?_
      refine aw_iload_n dX8_hourGoes_34 rfl ?_
      refine aw_iadd dX8_hourGoes_35 ?_
      refine aw_top (nI_add _ _) ?_
      refine aw_iald dX8_hourGoes_36 hc rfl (by omega) (by decide) ?_
      refine aw_top (show _ = nI (K (12 + i)) by rw [hm2 (12 + i) (by omega), pUp_n (by omega), pHT_l (by omega) (by omega)]) ?_
      refine aw_aload_n dX8_hourGoes_37 rfl ?_
      refine aw_bipush (v := nI 17) dX8_hourGoes_38 rfl ?_
      refine aw_iload_n dX8_hourGoes_40 rfl ?_
      refine aw_iadd dX8_hourGoes_41 ?_
      refine aw_top (nI_add _ _) ?_
      refine aw_iald dX8_hourGoes_42 hc rfl (by omega) (by decide) ?_
      refine aw_top (show _ = nI (K (17 + i) - K 4) by rw [hm2 (17 + i) (by omega), pUp_s]) ?_
      refine aw_s3i dX8_hourGoes_43 ml_X8_161 st_X8_carried (c_X8_carried a hc _ hm2 (pUp_ok_h (pHT_ok ho (by omega)) (by rw [pHT_0 (by omega) (by omega)]; omega) (by omega)) (K (12 + i)) (K (17 + i) - K 4) gk.2.1 (by omega)) (Nat.le_of_ble_eq_true rfl) (Nat.le_of_ble_eq_true rfl) (Nat.le_of_ble_eq_true rfl) (Nat.le_of_ble_eq_true rfl) (Nat.le_of_ble_eq_true rfl) ?_
      refine aw_top (congrArg nI (pCar_cg (K' := K) (fun b hb => by rw [pUp_n (by omega), pHT_0 (by omega) (by omega)]) _ _)) ?_
      refine aw_iast dX8_hourGoes_46 hc rfl (by omega) (by decide) ?_
      have hm3 := (hm2.up (12 + i) (pCar K (K (12 + i)) (K (17 + i) - K 4))).cg (fun j _ => pHT_st (by omega) j)
      refine aw_iinc (v := nI (i + 1)) dX8_hourGoes_47 rfl (nI_1 i) (Nat.le_of_ble_eq_true rfl) ?_
      refine aw_goto (tgt := 2) dX8_hourGoes_50 (by decide) ?_
      exact ih (i + 1) _ (by omega) hm3 ((hf.up (by omega) (by omega)).up (by omega) (by omega))
set_option maxRecDepth 100000 in
set_option maxHeartbeats 4000000 in
theorem c_X8_hourGoes {G : am_G} {μ : am_M} (a : Nat) (hc : am_SH[a]? = some (100, 32, [])) (K : pK) (hK : mC μ a K) (ho : pOK K) : am_MA G yX8_hourGoes cX8_hourGoes 2 none 2 0 0 [.ref a] am_SH μ (am_P none am_SH (fun μ9 => mC μ9 a (pHour K) ∧ am_fr μ μ9 a 1)) := by
  refine am_ofK (own := RX8) (nm := "hourGoes") (L := [some (.ref a), none]) rfl rfl (by decide +kernel) (Nat.le_of_ble_eq_true rfl) rfl ?_
  refine aw_iconst (v := nI 0) dX8_hourGoes_0 rfl ?_
  refine aw_istore_n dX8_hourGoes_1 (Nat.le_of_ble_eq_true rfl) ?_
  exact l_X8_hourGoes a hc K hK ho (K 5) 0 μ (by omega) (hK.cg (fun j _ => (pHT_z K j).symm)) am_fr.rf
set_option maxRecDepth 100000 in
set_option maxHeartbeats 4000000 in
theorem c_X8_burns {G : am_G} {μ : am_M} (a : Nat) (hc : am_SH[a]? = some (100, 32, [])) (K : pK) (hK : mC μ a K) (ho : pOK K) (o n : Nat) (hoo : o < K 5) (hn : n ≤ K (22 + o)) : am_MA G yX8_burns cX8_burns 3 none 2 0 0 [.ref a, .int (nI o), .int (nI n)] am_SH μ (am_P none am_SH (fun μ9 => mC μ9 a (pBurn K o n) ∧ am_fr μ μ9 a 1)) := by
  have h5 := ho.1
  have gk := ho.2.2.2.2 o hoo
  refine am_ofK (own := RX8) (nm := "burns") (L := [some (.ref a), some (.int (nI o)), some (.int (nI n))]) rfl rfl (by decide +kernel) (Nat.le_of_ble_eq_true rfl) rfl ?_
  refine aw_aload_n dX8_burns_0 rfl ?_
  refine aw_bipush (v := nI 22) dX8_burns_1 rfl ?_
  refine aw_iload_n dX8_burns_3 rfl ?_
  refine aw_iadd dX8_burns_4 ?_
  refine aw_top (nI_add _ _) ?_
  refine aw_dup2 dX8_burns_5 rfl rfl ?_
  refine aw_iald dX8_burns_6 hc rfl (by omega) (by decide) ?_
  refine aw_top (hK (22 + o) (by omega)) ?_
  refine aw_iload_n dX8_burns_7 rfl ?_
  refine aw_isub dX8_burns_8 ?_
  refine aw_top (pk_sub hn) ?_
  refine aw_iast dX8_burns_9 hc rfl (by omega) (by decide) ?_
  have h1 := hK.up (22 + o) (K (22 + o) - n)
  refine aw_aload_n dX8_burns_10 rfl ?_
  refine aw_bipush (v := nI 27) dX8_burns_11 rfl ?_
  refine aw_iload_n dX8_burns_13 rfl ?_
  refine aw_iadd dX8_burns_14 ?_
  refine aw_top (nI_add _ _) ?_
  refine aw_dup2 dX8_burns_15 rfl rfl ?_
  refine aw_iald dX8_burns_16 hc rfl (by omega) (by decide) ?_
  refine aw_top (show _ = nI (K (27 + o)) by rw [h1 (27 + o) (by omega), pUp_n (by omega)]) ?_
  refine aw_iload_n dX8_burns_17 rfl ?_
  refine aw_iadd dX8_burns_18 ?_
  refine aw_top (nI_add _ _) ?_
  refine aw_iast dX8_burns_19 hc rfl (by omega) (by decide) ?_
  have h2 := h1.up (27 + o) (K (27 + o) + n)
  refine aw_aload_n dX8_burns_20 rfl ?_
  refine aw_bipush (v := nI 17) dX8_burns_21 rfl ?_
  refine aw_iload_n dX8_burns_23 rfl ?_
  refine aw_iadd dX8_burns_24 ?_
  refine aw_top (nI_add _ _) ?_
  refine aw_aload_n dX8_burns_25 rfl ?_
  refine aw_bipush (v := nI 7) dX8_burns_26 rfl ?_
  refine aw_iload_n dX8_burns_28 rfl ?_
  refine aw_iadd dX8_burns_29 ?_
  refine aw_top (nI_add _ _) ?_
  refine aw_iald dX8_burns_30 hc rfl (by omega) (by decide) ?_
  refine aw_top (show _ = nI (K (7 + o)) by rw [h2 (7 + o) (by omega), pUp_n (by omega), pUp_n (by omega)]) ?_
  refine aw_aload_n dX8_burns_31 rfl ?_
  refine aw_bipush (v := nI 17) dX8_burns_32 rfl ?_
  refine aw_iload_n dX8_burns_34 rfl ?_
  refine aw_iadd dX8_burns_35 ?_
  refine aw_top (nI_add _ _) ?_
  refine aw_iald dX8_burns_36 hc rfl (by omega) (by decide) ?_
  refine aw_top (show _ = nI (K (17 + o)) by rw [h2 (17 + o) (by omega), pUp_n (by omega), pUp_n (by omega)]) ?_
  refine aw_iload_n dX8_burns_37 rfl ?_
  refine aw_s3i dX8_burns_38 ml_X8_165 st_X8_lifted (c_X8_lifted (K (7 + o)) (K (17 + o)) n gk.1.1 gk.1.2 gk.2.2.1 (by omega)) (Nat.le_of_ble_eq_true rfl) (Nat.le_of_ble_eq_true rfl) (Nat.le_of_ble_eq_true rfl) (Nat.le_of_ble_eq_true rfl) (Nat.le_of_ble_eq_true rfl) ?_
  refine aw_iast dX8_burns_41 hc rfl (by omega) (by decide) ?_
  refine aw_vret dX8_burns_42 rfl rfl rfl ?_
  exact ⟨rfl, rfl, h2.up (17 + o) _, ((am_fr.rf.up (by omega) (by omega)).up (by omega) (by omega)).up (by omega) (by omega)⟩
set_option maxRecDepth 100000 in
set_option maxHeartbeats 4000000 in
theorem l_X8_flying {G : am_G} {μ : am_M} (a : Nat) (hc : am_SH[a]? = some (100, 32, [])) (K : pK) (hK : mC μ a K) (ho : pOK K) : ∀ (r i : Nat), i + r = K 5 → am_W (am_K G RX8 "flying" 3 (some .int) 0 0 0 (am_E (some (.int (nI (pSet (fun o => decide (0 < K (17 + o))) (K 5))))) am_SH μ)) cX8_flying 4 [some (.ref a), some (.int (nI (pSet (fun o => decide (0 < K (17 + o))) i))), some (.int (nI i))] [] am_SH μ 0 0 := by
  have h5 := ho.1
  intro r
  induction r with
  | zero =>
    intro i hi
    refine aw_iload_n dX8_flying_4 rfl ?_
    refine aw_aload_n dX8_flying_5 rfl ?_
    refine aw_iconst (v := nI 5) dX8_flying_6 rfl ?_
    refine aw_iald (j := 5) dX8_flying_7 hc rfl (by decide) (by decide) ?_
    refine aw_top (hK 5 (by decide)) ?_
    refine aw_icmp_ge (tgt := 36) dX8_flying_8 (by decide) (fun c8 => ?_) (fun c8 => ?_)
    · refine aw_iload_n dX8_flying_36 rfl ?_
      refine aw_iret dX8_flying_37 rfl rfl rfl rfl ?_
      have e : i = K 5 := by omega
      subst e
      exact ⟨rfl, rfl, rfl⟩
    · exact absurd (nI_le (by omega) (by omega)) c8
  | succ r ih =>
    intro i hi
    have gk := ho.2.2.2.2 i (by omega)
    refine aw_iload_n dX8_flying_4 rfl ?_
    refine aw_aload_n dX8_flying_5 rfl ?_
    refine aw_iconst (v := nI 5) dX8_flying_6 rfl ?_
    refine aw_iald (j := 5) dX8_flying_7 hc rfl (by decide) (by decide) ?_
    refine aw_top (hK 5 (by decide)) ?_
    refine aw_icmp_ge (tgt := 36) dX8_flying_8 (by decide) (fun c8 => ?_) (fun c8 => ?_)
    · exact absurd c8 (nI_ge (by omega) (by omega))
    · refine aw_iload_n dX8_flying_11 rfl ?_
      refine aw_aload_n dX8_flying_12 rfl ?_
      refine aw_bipush (v := nI 17) dX8_flying_13 rfl ?_
      refine aw_iload_n dX8_flying_15 rfl ?_
      refine aw_iadd dX8_flying_16 ?_
      refine aw_top (nI_add _ _) ?_
      refine aw_iald dX8_flying_17 hc rfl (by omega) (by decide) ?_
      refine aw_top (hK (17 + i) (by omega)) ?_
      refine aw_if_le (tgt := 27) dX8_flying_18 (by decide) (fun c18 => ?_) (fun c18 => ?_)
      · rw [z_le (by omega)] at c18
        have e1 : pSet (fun o => decide (0 < K (17 + o))) (i + 1) = pSet (fun o => decide (0 < K (17 + o))) i := by show (if _ then _ else _) = _; rw [if_neg (by simp; omega)]
        refine aw_iconst (v := nI 0) dX8_flying_27 rfl ?_
        refine aw_ior dX8_flying_28 ?_
        refine aw_top ((pn_or0 _).trans (congrArg nI e1.symm)) ?_
        refine aw_istore_n dX8_flying_29 (Nat.le_of_ble_eq_true rfl) ?_
        refine aw_iinc (v := nI (i + 1)) dX8_flying_30 rfl (nI_1 i) (Nat.le_of_ble_eq_true rfl) ?_
        refine aw_goto (tgt := 4) dX8_flying_33 (by decide) ?_
        exact ih (i + 1) (by omega)
      · rw [z_le (by omega)] at c18
        have e1 : pSet (fun o => decide (0 < K (17 + o))) (i + 1) = pSet (fun o => decide (0 < K (17 + o))) i + 2 ^ i := by show (if _ then _ else _) = _; rw [if_pos (by simp; omega)]
        refine aw_iconst (v := nI 1) dX8_flying_21 rfl ?_
        refine aw_iload_n dX8_flying_22 rfl ?_
        refine aw_ishl dX8_flying_23 ?_
        refine aw_goto (tgt := 28) dX8_flying_24 (by decide) ?_
        refine aw_ior dX8_flying_28 ?_
        refine aw_top ((pn_or i (by omega) _ (pSet_lt _ i)).trans (congrArg nI e1.symm)) ?_
        refine aw_istore_n dX8_flying_29 (Nat.le_of_ble_eq_true rfl) ?_
        refine aw_iinc (v := nI (i + 1)) dX8_flying_30 rfl (nI_1 i) (Nat.le_of_ble_eq_true rfl) ?_
        refine aw_goto (tgt := 4) dX8_flying_33 (by decide) ?_
        exact ih (i + 1) (by omega)
set_option maxRecDepth 100000 in
set_option maxHeartbeats 4000000 in
theorem c_X8_flying {G : am_G} {μ : am_M} (a : Nat) (hc : am_SH[a]? = some (100, 32, [])) (K : pK) (hK : mC μ a K) (ho : pOK K) : am_MA G yX8_flying cX8_flying 3 (some .int) 0 0 0 [.ref a] am_SH μ (am_E (some (.int (nI (pSet (fun o => decide (0 < K (17 + o))) (K 5))))) am_SH μ) := by
  refine am_ofK (own := RX8) (nm := "flying") (L := [some (.ref a), none, none]) rfl rfl (by decide +kernel) (Nat.le_of_ble_eq_true rfl) rfl ?_
  refine aw_iconst (v := nI 0) dX8_flying_0 rfl ?_
  refine aw_istore_n dX8_flying_1 (Nat.le_of_ble_eq_true rfl) ?_
  refine aw_iconst (v := nI 0) dX8_flying_2 rfl ?_
  refine aw_istore_n dX8_flying_3 (Nat.le_of_ble_eq_true rfl) ?_
  exact l_X8_flying a hc K hK ho (K 5) 0 (by omega)
set_option maxRecDepth 100000 in
set_option maxHeartbeats 4000000 in
theorem l_X8_overOn {G : am_G} {μ : am_M} (a : Nat) (hc : am_SH[a]? = some (100, 32, [])) (K : pK) (hK : mC μ a K) (ho : pOK K) (l : Nat) (hl : l ≤ 9) : ∀ (r i : Nat), i + r = K 5 → am_W (am_K G RX8 "overOn" 4 (some .int) 0 0 0 (am_E (some (.int (nI (pSet (fun o => decide (K (12 + o) = l)) (K 5))))) am_SH μ)) cX8_overOn 4 [some (.ref a), some (.int (nI l)), some (.int (nI (pSet (fun o => decide (K (12 + o) = l)) i))), some (.int (nI i))] [] am_SH μ 0 0 := by
  have h5 := ho.1
  intro r
  induction r with
  | zero =>
    intro i hi
    refine aw_iload_n dX8_overOn_4 rfl ?_
    refine aw_aload_n dX8_overOn_5 rfl ?_
    refine aw_iconst (v := nI 5) dX8_overOn_6 rfl ?_
    refine aw_iald (j := 5) dX8_overOn_7 hc rfl (by decide) (by decide) ?_
    refine aw_top (hK 5 (by decide)) ?_
    refine aw_icmp_ge (tgt := 37) dX8_overOn_8 (by decide) (fun c8 => ?_) (fun c8 => ?_)
    · refine aw_iload_n dX8_overOn_37 rfl ?_
      refine aw_iret dX8_overOn_38 rfl rfl rfl rfl ?_
      have e : i = K 5 := by omega
      subst e
      exact ⟨rfl, rfl, rfl⟩
    · exact absurd (nI_le (by omega) (by omega)) c8
  | succ r ih =>
    intro i hi
    have gk := ho.2.2.2.2 i (by omega)
    refine aw_iload_n dX8_overOn_4 rfl ?_
    refine aw_aload_n dX8_overOn_5 rfl ?_
    refine aw_iconst (v := nI 5) dX8_overOn_6 rfl ?_
    refine aw_iald (j := 5) dX8_overOn_7 hc rfl (by decide) (by decide) ?_
    refine aw_top (hK 5 (by decide)) ?_
    refine aw_icmp_ge (tgt := 37) dX8_overOn_8 (by decide) (fun c8 => ?_) (fun c8 => ?_)
    · exact absurd c8 (nI_ge (by omega) (by omega))
    · refine aw_iload_n dX8_overOn_11 rfl ?_
      refine aw_aload_n dX8_overOn_12 rfl ?_
      refine aw_bipush (v := nI 12) dX8_overOn_13 rfl ?_
      refine aw_iload_n dX8_overOn_15 rfl ?_
      refine aw_iadd dX8_overOn_16 ?_
      refine aw_top (nI_add _ _) ?_
      refine aw_iald dX8_overOn_17 hc rfl (by omega) (by decide) ?_
      refine aw_top (hK (12 + i) (by omega)) ?_
      refine aw_iload_n dX8_overOn_18 rfl ?_
      refine aw_icmp_ne (tgt := 28) dX8_overOn_19 (by decide) (fun c19 => ?_) (fun c19 => ?_)
      · rw [nI_eq (by omega) (by omega)] at c19
        have e1 : pSet (fun o => decide (K (12 + o) = l)) (i + 1) = pSet (fun o => decide (K (12 + o) = l)) i := by show (if _ then _ else _) = _; rw [if_neg (by simpa using c19)]
        refine aw_iconst (v := nI 0) dX8_overOn_28 rfl ?_
        refine aw_ior dX8_overOn_29 ?_
        refine aw_top ((pn_or0 _).trans (congrArg nI e1.symm)) ?_
        refine aw_istore_n dX8_overOn_30 (Nat.le_of_ble_eq_true rfl) ?_
        refine aw_iinc (v := nI (i + 1)) dX8_overOn_31 rfl (nI_1 i) (Nat.le_of_ble_eq_true rfl) ?_
        refine aw_goto (tgt := 4) dX8_overOn_34 (by decide) ?_
        exact ih (i + 1) (by omega)
      · rw [nI_eq (by omega) (by omega)] at c19
        have e1 : pSet (fun o => decide (K (12 + o) = l)) (i + 1) = pSet (fun o => decide (K (12 + o) = l)) i + 2 ^ i := by show (if _ then _ else _) = _; rw [if_pos (by simpa using c19)]
        refine aw_iconst (v := nI 1) dX8_overOn_22 rfl ?_
        refine aw_iload_n dX8_overOn_23 rfl ?_
        refine aw_ishl dX8_overOn_24 ?_
        refine aw_goto (tgt := 29) dX8_overOn_25 (by decide) ?_
        refine aw_ior dX8_overOn_29 ?_
        refine aw_top ((pn_or i (by omega) _ (pSet_lt _ i)).trans (congrArg nI e1.symm)) ?_
        refine aw_istore_n dX8_overOn_30 (Nat.le_of_ble_eq_true rfl) ?_
        refine aw_iinc (v := nI (i + 1)) dX8_overOn_31 rfl (nI_1 i) (Nat.le_of_ble_eq_true rfl) ?_
        refine aw_goto (tgt := 4) dX8_overOn_34 (by decide) ?_
        exact ih (i + 1) (by omega)
set_option maxRecDepth 100000 in
set_option maxHeartbeats 4000000 in
theorem c_X8_overOn {G : am_G} {μ : am_M} (a : Nat) (hc : am_SH[a]? = some (100, 32, [])) (K : pK) (hK : mC μ a K) (ho : pOK K) (l : Nat) (hl : l ≤ 9) : am_MA G yX8_overOn cX8_overOn 4 (some .int) 0 0 0 [.ref a, .int (nI l)] am_SH μ (am_E (some (.int (nI (pSet (fun o => decide (K (12 + o) = l)) (K 5))))) am_SH μ) := by
  refine am_ofK (own := RX8) (nm := "overOn") (L := [some (.ref a), some (.int (nI l)), none, none]) rfl rfl (by decide +kernel) (Nat.le_of_ble_eq_true rfl) rfl ?_
  refine aw_iconst (v := nI 0) dX8_overOn_0 rfl ?_
  refine aw_istore_n dX8_overOn_1 (Nat.le_of_ble_eq_true rfl) ?_
  refine aw_iconst (v := nI 0) dX8_overOn_2 rfl ?_
  refine aw_istore_n dX8_overOn_3 (Nat.le_of_ble_eq_true rfl) ?_
  exact l_X8_overOn a hc K hK ho l hl (K 5) 0 (by omega)
set_option maxRecDepth 100000 in
set_option maxHeartbeats 4000000 in
theorem l_X8_bits {G : am_G} {sh : List am_S} {μ : am_M} (v : Nat) : ∀ (r n l : Nat), l < 32 → l ≤ r → n + pCnt l = pCnt v → am_W (am_K G RX8 "bits" 3 (some .int) 0 0 0 (am_E (some (.int (nI (pCnt v)))) sh μ)) cX8_bits 4 [some (.int (nI v)), some (.int (nI n)), some (.int (nI l))] [] sh μ 0 0 := by
  intro r
  induction r with
  | zero =>
    intro n l hl hr e
    refine aw_iload_n dX8_bits_4 rfl ?_
    refine aw_if_eq (tgt := 20) dX8_bits_5 (by decide) (fun c5 => ?_) (fun c5 => ?_)
    · rw [z_eq (by omega)] at c5
      refine aw_iload_n dX8_bits_20 rfl ?_
      refine aw_iret dX8_bits_21 rfl rfl rfl rfl ?_
      have e : l = 0 := c5
      subst e
      exact ⟨congrArg (fun z => some (Value.int (nI z))) (by have : pCnt 0 = 0 := rfl; omega), rfl, rfl⟩
    · rw [z_eq (by omega)] at c5
      omega
  | succ r ih =>
    intro n l hl hr e
    refine aw_iload_n dX8_bits_4 rfl ?_
    refine aw_if_eq (tgt := 20) dX8_bits_5 (by decide) (fun c5 => ?_) (fun c5 => ?_)
    · rw [z_eq (by omega)] at c5
      refine aw_iload_n dX8_bits_20 rfl ?_
      refine aw_iret dX8_bits_21 rfl rfl rfl rfl ?_
      have e : l = 0 := c5
      subst e
      exact ⟨congrArg (fun z => some (Value.int (nI z))) (by have : pCnt 0 = 0 := rfl; omega), rfl, rfl⟩
    · rw [z_eq (by omega)] at c5
      have b := pn_bits l hl (by omega)
      refine aw_iinc (v := nI (n + 1)) dX8_bits_8 rfl (nI_1 n) (Nat.le_of_ble_eq_true rfl) ?_
      refine aw_iload_n dX8_bits_11 rfl ?_
      refine aw_iload_n dX8_bits_12 rfl ?_
      refine aw_iconst (v := nI 1) dX8_bits_13 rfl ?_
      refine aw_isub dX8_bits_14 ?_
      refine aw_iand dX8_bits_15 ?_
      refine aw_top b.1 ?_
      refine aw_istore_n dX8_bits_16 (Nat.le_of_ble_eq_true rfl) ?_
      refine aw_goto (tgt := 4) dX8_bits_17 (by decide) ?_
      exact ih (n + 1) _ (by omega) (by omega) (by omega)
set_option maxRecDepth 100000 in
set_option maxHeartbeats 4000000 in
theorem c_X8_bits {G : am_G} {sh : List am_S} {μ : am_M} (v : Nat) (hv : v < 32) : am_MA G yX8_bits cX8_bits 3 (some .int) 0 0 0 [.int (nI v)] sh μ (am_E (some (.int (nI (pCnt v)))) sh μ) := by
  refine am_ofK (own := RX8) (nm := "bits") (L := [some (.int (nI v)), none, none]) rfl rfl (by decide +kernel) (Nat.le_of_ble_eq_true rfl) rfl ?_
  refine aw_iconst (v := nI 0) dX8_bits_0 rfl ?_
  refine aw_istore_n dX8_bits_1 (Nat.le_of_ble_eq_true rfl) ?_
  refine aw_iload_n dX8_bits_2 rfl ?_
  refine aw_istore_n dX8_bits_3 (Nat.le_of_ble_eq_true rfl) ?_
  exact l_X8_bits v 32 0 v hv (by omega) (by omega)
set_option maxRecDepth 100000 in
set_option maxHeartbeats 4000000 in
theorem l_X8_copies {G : am_G} {μ : am_M} (a b i j na nb : Nat) (hca : am_SH[a]? = some (100, na, [])) (hcb : am_SH[b]? = some (100, nb, [])) (hab : a ≠ b) (hi : i + 32 ≤ na) (hj : j + 32 ≤ nb) (hna : na < 100000) (hnb : nb < 100000) : ∀ (r c : Nat) (μ1 : am_M), c + r = 32 → (∀ k, k < c → μ1 b (j + k) = μ a (i + k)) → (∀ q, (q < j ∨ j + 32 ≤ q) → μ1 b q = μ b q) → am_fr μ μ1 b 1 → am_W (am_K G RX8 "copies" 5 none 0 0 0 (am_P none am_SH (fun μ9 => (∀ k, k < 32 → μ9 b (j + k) = μ a (i + k)) ∧ (∀ q, (q < j ∨ j + 32 ≤ q) → μ9 b q = μ b q) ∧ am_fr μ μ9 b 1))) cX8_copies 3 [some (.ref a), some (.int (nI i)), some (.ref b), some (.int (nI j)), some (.int (nI c))] [] am_SH μ1 0 0 := by
  intro r
  induction r with
  | zero =>
    intro c μ1 hc hm hq hf
    refine aw_iload dX8_copies_3 rfl ?_
    refine aw_bipush (v := nI 32) dX8_copies_5 rfl ?_
    refine aw_icmp_ge (tgt := 28) dX8_copies_7 (by decide) (fun c7 => ?_) (fun c7 => ?_)
    · refine aw_vret dX8_copies_28 rfl rfl rfl ?_
      have e : c = 32 := by omega
      subst e
      exact ⟨rfl, rfl, hm, hq, hf⟩
    · exact absurd (nI_le (by omega) (by omega)) c7
  | succ r ih =>
    intro c μ1 hc hm hq hf
    refine aw_iload dX8_copies_3 rfl ?_
    refine aw_bipush (v := nI 32) dX8_copies_5 rfl ?_
    refine aw_icmp_ge (tgt := 28) dX8_copies_7 (by decide) (fun c7 => ?_) (fun c7 => ?_)
    · exact absurd c7 (nI_ge (by omega) (by omega))
    · refine aw_aload_n dX8_copies_10 rfl ?_
      refine aw_iload_n dX8_copies_11 rfl ?_
      refine aw_iload dX8_copies_12 rfl ?_
      refine aw_iadd dX8_copies_14 ?_
      refine aw_top (nI_add _ _) ?_
      refine aw_aload_n dX8_copies_15 rfl ?_
      refine aw_iload_n dX8_copies_16 rfl ?_
      refine aw_iload dX8_copies_17 rfl ?_
      refine aw_iadd dX8_copies_19 ?_
      refine aw_top (nI_add _ _) ?_
      refine aw_iald dX8_copies_20 hca rfl (by omega) (Nat.lt_trans (by assumption) (by decide)) ?_
      refine aw_top (show _ = μ a (i + c) by rw [hf a (by omega)]) ?_
      refine aw_iast dX8_copies_21 hcb rfl (by omega) (Nat.lt_trans (by assumption) (by decide)) ?_
      refine aw_iinc (v := nI (c + 1)) dX8_copies_22 rfl (nI_1 c) (Nat.le_of_ble_eq_true rfl) ?_
      refine aw_goto (tgt := 3) dX8_copies_25 (by decide) ?_
      refine ih (c + 1) _ (by omega) (fun k hk => ?_) (fun q hq2 => ?_) (hf.up (by omega) (by omega))
      · rw [am_ups]
        by_cases e : k = c
        · rw [e, pk_us]
        · rw [pk_un (by omega)]; exact hm k (by omega)
      · rw [am_ups, pk_un (by omega)]; exact hq q hq2
set_option maxRecDepth 100000 in
set_option maxHeartbeats 4000000 in
theorem c_X8_copies {G : am_G} {μ : am_M} (a b i j na nb : Nat) (hca : am_SH[a]? = some (100, na, [])) (hcb : am_SH[b]? = some (100, nb, [])) (hab : a ≠ b) (hi : i + 32 ≤ na) (hj : j + 32 ≤ nb) (hna : na < 100000) (hnb : nb < 100000) : am_MA G yX8_copies cX8_copies 5 none 0 0 0 [.ref a, .int (nI i), .ref b, .int (nI j)] am_SH μ (am_P none am_SH (fun μ9 => (∀ k, k < 32 → μ9 b (j + k) = μ a (i + k)) ∧ (∀ q, (q < j ∨ j + 32 ≤ q) → μ9 b q = μ b q) ∧ am_fr μ μ9 b 1)) := by
  refine am_ofK (own := RX8) (nm := "copies") (L := [some (.ref a), some (.int (nI i)), some (.ref b), some (.int (nI j)), none]) rfl rfl (by decide +kernel) (Nat.le_of_ble_eq_true rfl) rfl ?_
  refine aw_iconst (v := nI 0) dX8_copies_0 rfl ?_
  refine aw_istore dX8_copies_1 (Nat.le_of_ble_eq_true rfl) ?_
  exact l_X8_copies a b i j na nb hca hcb hab hi hj hna hnb 32 0 μ rfl (fun k hk => absurd hk (by omega)) (fun q _ => rfl) am_fr.rf
