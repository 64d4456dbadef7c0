theorem z_dec (x : Int32) : x + Int32.ofInt (-1) = x - nI 1 := by rw [Int32.sub_eq_add_neg]; rfl
theorem pMany_le (P : Nat → Bool) (M : Nat) : ∀ m, pMany P M m ≤ m
  | 0 => Nat.le_refl _
  | m + 1 => by have := pMany_le P M m; unfold pMany; split <;> omega
theorem pn_top : ∀ n, n < 7 → (nI 1 <<< (nI (2 * n) &&& 31)) - nI 1 = nI (4 ^ n - 0) - nI 1 := by decide +kernel
theorem z_m1b {k : Int32} (h : (-1) ≤ k) (h2 : ¬ 0 ≤ k) : k = (-1) := by
  rw [z_le2] at h h2
  have e : (-1 : Int32).toInt = -1 := by decide +kernel
  have e0 : (0 : Int32).toInt = 0 := by decide +kernel
  rw [e] at h
  rw [e0] at h2
  exact Int32.toInt_inj.mp (by rw [e]; omega)
set_option maxRecDepth 100000 in
set_option maxHeartbeats 4000000 in
theorem l_X8_ash {G : am_G} {μ : am_M} (A : pA) (h : InvM μ A) (ok : okA A) (o r i n : Nat) (x5 : Int32) (hoo : o < A.K 5) (hr : r < 8) (hin : i + n ≤ 40) (hn : n ≤ 6) (hk : (-1) ≤ x5) (hit : ∀ j, j < 40 → μ 237 (40 * r + j) = pItm (A.w r) j) : ∀ (s m : Nat) (X : Option Value), m + s = 4 ^ n → am_W (am_K G RX8 "ash" 11 (some .int) 3 0 0 (am_P (some (.int (if x5 = (-1) then A.ok (nI (pWs (A.K (7 + o)) (A.K 4) (A.K (17 + o)) (pItm (A.w r)) i n)) else if (pWs (A.K (7 + o)) (A.K 4) (A.K (17 + o)) (pItm (A.w r)) i n) = 0 then A.ok zNONE else if x5 < nI n then A.ok (nI (pFq (A.K (7 + o)) (A.K 4) (pHs (A.K (7 + o)) (A.K 4) (A.K (17 + o)) (pItm (A.w r)) i (zN x5)) (pItm (A.w r) (i + zN x5)) 4)) else A.ok zNONE).1)) am_SH (fun μ9 => InvM μ9 (if x5 = (-1) then A.ok (nI (pWs (A.K (7 + o)) (A.K 4) (A.K (17 + o)) (pItm (A.w r)) i n)) else if (pWs (A.K (7 + o)) (A.K 4) (A.K (17 + o)) (pItm (A.w r)) i n) = 0 then A.ok zNONE else if x5 < nI n then A.ok (nI (pFq (A.K (7 + o)) (A.K 4) (pHs (A.K (7 + o)) (A.K 4) (A.K (17 + o)) (pItm (A.w r)) i (zN x5)) (pItm (A.w r) (i + zN x5)) 4)) else A.ok zNONE).2 ∧ am_fr μ μ9 234 14))) cX8_ash 72 [some (.ref 234), some (.int (nI o)), some (.int (nI r)), some (.int (nI i)), some (.int (nI n)), some (.int x5), some (.int 0), some (.int (nI (pMany (pOkc (A.K (7 + o)) (A.K 4) (A.K (17 + o)) (pItm (A.w r)) i n) (4 ^ n) m))), some (.int (pFst (pOkc (A.K (7 + o)) (A.K 4) (A.K (17 + o)) (pItm (A.w r)) i n) (4 ^ n) m)), some (.int (nI (4 ^ n - m) - nI 1)), X] [] am_SH μ 0 0 := by
  have h46 := pow4_6 hn
  have h4p : 0 < 4 ^ n := Nat.pow_pos (by decide)
  have hwl := pWs_le (A.K (7 + o)) (A.K 4) (A.K (17 + o)) (pItm (A.w r)) i n
  intro s
  induction s with
  | zero =>
    intro m X hm
    have e : m = 4 ^ n := by omega
    subst e
    have emany : pMany (pOkc (A.K (7 + o)) (A.K 4) (A.K (17 + o)) (pItm (A.w r)) i n) (4 ^ n) (4 ^ n) = (pWs (A.K (7 + o)) (A.K 4) (A.K (17 + o)) (pItm (A.w r)) i n) := by have := pMany_ct (pOkc (A.K (7 + o)) (A.K 4) (A.K (17 + o)) (pItm (A.w r)) i n) (4 ^ n) (4 ^ n) (Nat.le_refl _); rw [Nat.sub_self, pWs_ct] at this; exact this
    refine aw_iload dX8_ash_72 rfl ?_
    refine aw_if_lt (tgt := 129) dX8_ash_74 (by decide) (fun c74 => ?_) (fun c74 => ?_)
    · refine aw_aload_n dX8_ash_129 rfl ?_
      refine aw_iload dX8_ash_130 rfl ?_
      refine aw_if_ge (tgt := 140) dX8_ash_132 (by decide) (fun c132 => ?_) (fun c132 => ?_)
      · refine aw_iload dX8_ash_140 rfl ?_
        refine aw_if_eq (tgt := 152) dX8_ash_142 (by decide) (fun c142 => ?_) (fun c142 => ?_)
        · rw [emany, z_eq (by omega)] at c142
          refine aw_ldc dX8_ash_152 kc_X8_216 ?_
          refine aw_goto (tgt := 171) dX8_ash_154 (by decide) ?_
          refine aw_v1i dX8_ash_171 ml_X8_72 im_X8_well se_X8_well (c_X8_well _) sh_234 (by decide) rfl rfl (Nat.le_of_ble_eq_true rfl) (Nat.le_of_ble_eq_true rfl) (Nat.le_of_ble_eq_true rfl) (Nat.le_of_ble_eq_true rfl) (Nat.le_of_ble_eq_true rfl) ?_
          refine aw_iret dX8_ash_174 rfl rfl rfl rfl ?_
          have hx : ¬ x5 = (-1) := fun q => by rw [q] at c132; exact absurd c132 (by decide +kernel)
          refine pAnsM ?_ (h.fd 0) (am_fr.rf.up (by omega) (by omega))
          rw [if_neg hx, if_pos c142]
          rfl
        · rw [emany, z_eq (by omega)] at c142
          refine aw_iload dX8_ash_145 rfl ?_
          refine aw_iload dX8_ash_147 rfl ?_
          refine aw_icmp_lt (tgt := 157) dX8_ash_149 (by decide) (fun c149 => ?_) (fun c149 => ?_)
          · have hx : ¬ x5 = (-1) := fun q => by rw [q] at c132; exact absurd c132 (by decide +kernel)
            obtain ⟨j, hj, rfl⟩ := z_m1 hk hx
            have c149n := (nI_ltI hj (by omega)).mp c149
            obtain ⟨l1, l2, l3⟩ := pLc_ok (A.K (7 + o)) (A.K 4) (A.K (17 + o)) (pItm (A.w r)) i n (by omega)
            have efst : pFst (pOkc (A.K (7 + o)) (A.K 4) (A.K (17 + o)) (pItm (A.w r)) i n) (4 ^ n) (4 ^ n) = nI (pLc (A.K (7 + o)) (A.K 4) (A.K (17 + o)) (pItm (A.w r)) i n) := pFst_eq l1 l3 l2 (4 ^ n) (Nat.le_refl _) (by omega)
            refine aw_iload dX8_ash_157 rfl ?_
            refine aw_top efst ?_
            refine aw_iconst (v := nI 2) dX8_ash_159 rfl ?_
            refine aw_iload dX8_ash_160 rfl ?_
            refine aw_iconst (v := nI 1) dX8_ash_162 rfl ?_
            refine aw_isub dX8_ash_163 ?_
            refine aw_top (pk_sub (by omega)) ?_
            refine aw_iload dX8_ash_164 rfl ?_
            refine aw_isub dX8_ash_166 ?_
            refine aw_top (pk_sub (by omega)) ?_
            refine aw_imul dX8_ash_167 ?_
            refine aw_top (pk_mul _ _) ?_
            refine aw_ishr dX8_ash_168 ?_
            refine aw_iconst (v := nI 3) dX8_ash_169 rfl ?_
            refine aw_iand dX8_ash_170 ?_
            refine aw_top (pn_sh (by omega) (by omega)) ?_
            refine aw_top (show _ = nI (pFq (A.K (7 + o)) (A.K 4) (pHs (A.K (7 + o)) (A.K 4) (A.K (17 + o)) (pItm (A.w r)) i (zN (nI j))) (pItm (A.w r) (i + zN (nI j))) 4) by rw [zN_nI hj, p4_2, pLc_dg (A.K (7 + o)) (A.K 4) (A.K (17 + o)) (pItm (A.w r)) i n (by omega) j c149n]) ?_
            refine aw_v1i dX8_ash_171 ml_X8_72 im_X8_well se_X8_well (c_X8_well _) sh_234 (by decide) rfl rfl (Nat.le_of_ble_eq_true rfl) (Nat.le_of_ble_eq_true rfl) (Nat.le_of_ble_eq_true rfl) (Nat.le_of_ble_eq_true rfl) (Nat.le_of_ble_eq_true rfl) ?_
            refine aw_iret dX8_ash_174 rfl rfl rfl rfl ?_
            refine pAnsM ?_ (h.fd 0) (am_fr.rf.up (by omega) (by omega))
            rw [if_neg hx, if_neg c142, if_pos c149]
            rfl
          · refine aw_ldc dX8_ash_152 kc_X8_216 ?_
            refine aw_goto (tgt := 171) dX8_ash_154 (by decide) ?_
            refine aw_v1i dX8_ash_171 ml_X8_72 im_X8_well se_X8_well (c_X8_well _) sh_234 (by decide) rfl rfl (Nat.le_of_ble_eq_true rfl) (Nat.le_of_ble_eq_true rfl) (Nat.le_of_ble_eq_true rfl) (Nat.le_of_ble_eq_true rfl) (Nat.le_of_ble_eq_true rfl) ?_
            refine aw_iret dX8_ash_174 rfl rfl rfl rfl ?_
            have hx : ¬ x5 = (-1) := fun q => by rw [q] at c132; exact absurd c132 (by decide +kernel)
            refine pAnsM ?_ (h.fd 0) (am_fr.rf.up (by omega) (by omega))
            rw [if_neg hx, if_neg c142, if_neg c149]
            rfl
      · refine aw_iload dX8_ash_135 rfl ?_
        refine aw_goto (tgt := 171) dX8_ash_137 (by decide) ?_
        refine aw_v1i dX8_ash_171 ml_X8_72 im_X8_well se_X8_well (c_X8_well _) sh_234 (by decide) rfl rfl (Nat.le_of_ble_eq_true rfl) (Nat.le_of_ble_eq_true rfl) (Nat.le_of_ble_eq_true rfl) (Nat.le_of_ble_eq_true rfl) (Nat.le_of_ble_eq_true rfl) ?_
        refine aw_iret dX8_ash_174 rfl rfl rfl rfl ?_
        refine pAnsM ?_ (h.fd 0) (am_fr.rf.up (by omega) (by omega))
        rw [if_pos (z_m1b hk c132), emany]
        rfl
    · exact absurd (show nI (4 ^ n - 4 ^ n) - nI 1 < 0 by rw [Nat.sub_self]; decide +kernel) c74
  | succ s ih =>
    intro m X hm
    have ec : nI (4 ^ n - m) - nI 1 = nI (4 ^ n - (m + 1)) := by rw [show 4 ^ n - m = (4 ^ n - (m + 1)) + 1 by omega]; exact nI_pred _
    rw [ec]
    refine aw_iload dX8_ash_72 rfl ?_
    refine aw_if_lt (tgt := 129) dX8_ash_74 (by decide) (fun c74 => ?_) (fun c74 => ?_)
    · exact absurd c74 (nI_pos (by omega))
    · refine aw_aload_n dX8_ash_77 rfl ?_
      refine aw_iload_n dX8_ash_78 rfl ?_
      refine aw_bipush (v := nI 40) dX8_ash_79 rfl ?_
      refine aw_iload_n dX8_ash_81 rfl ?_
      refine aw_imul dX8_ash_82 ?_
      refine aw_top (pk_mul _ _) ?_
      refine aw_iload_n dX8_ash_83 rfl ?_
      refine aw_iadd dX8_ash_84 ?_
      refine aw_top (nI_add _ _) ?_
      refine aw_iload dX8_ash_85 rfl ?_
      refine aw_iload dX8_ash_87 rfl ?_
      refine aw_v4i dX8_ash_89 ml_X8_238 im_X8_comesSo se_X8_comesSo (c_X8_comesSo A h ok o r i n (4 ^ n - (m + 1)) hoo hr hin hn (by omega) hit) sh_234 (by decide) rfl rfl (Nat.le_of_ble_eq_true rfl) (Nat.le_of_ble_eq_true rfl) (Nat.le_of_ble_eq_true rfl) (Nat.le_of_ble_eq_true rfl) (Nat.le_of_ble_eq_true rfl) ?_
      refine aw_istore dX8_ash_92 (Nat.le_of_ble_eq_true rfl) ?_
      refine aw_iload dX8_ash_94 rfl ?_
      refine aw_iload dX8_ash_96 rfl ?_
      refine aw_pif_eq (tgt := 105) dX8_ash_98 (by decide) (fun c98 => ?_) (fun c98 => ?_)
      · have e1 : pMany (pOkc (A.K (7 + o)) (A.K 4) (A.K (17 + o)) (pItm (A.w r)) i n) (4 ^ n) (m + 1) = pMany (pOkc (A.K (7 + o)) (A.K 4) (A.K (17 + o)) (pItm (A.w r)) i n) (4 ^ n) m + 0 := by rw [pMany, if_neg c98]
        have e2 : pFst (pOkc (A.K (7 + o)) (A.K 4) (A.K (17 + o)) (pItm (A.w r)) i n) (4 ^ n) (m + 1) = pFst (pOkc (A.K (7 + o)) (A.K 4) (A.K (17 + o)) (pItm (A.w r)) i n) (4 ^ n) m := by rw [pFst, if_neg c98]
        refine aw_iconst (v := nI 0) dX8_ash_105 rfl ?_
        refine aw_iadd dX8_ash_106 ?_
        refine aw_top ((nI_add _ _).trans (congrArg nI e1.symm)) ?_
        refine aw_istore dX8_ash_107 (Nat.le_of_ble_eq_true rfl) ?_
        refine aw_iload dX8_ash_109 rfl ?_
        refine aw_pif_eq (tgt := 119) dX8_ash_111 (by decide) (fun c111 => ?_) (fun c111 => ?_)
        · refine aw_iload dX8_ash_119 rfl ?_
          refine aw_top e2.symm ?_
          refine aw_istore dX8_ash_121 (Nat.le_of_ble_eq_true rfl) ?_
          refine aw_iinc (v := nI (4 ^ n - (m + 1)) - nI 1) dX8_ash_123 rfl (z_dec _) (Nat.le_of_ble_eq_true rfl) ?_
          refine aw_goto (tgt := 72) dX8_ash_126 (by decide) ?_
          exact ih (m + 1) _ (by omega)
        · exact absurd c111 c98
      · have e1 : pMany (pOkc (A.K (7 + o)) (A.K 4) (A.K (17 + o)) (pItm (A.w r)) i n) (4 ^ n) (m + 1) = pMany (pOkc (A.K (7 + o)) (A.K 4) (A.K (17 + o)) (pItm (A.w r)) i n) (4 ^ n) m + 1 := by rw [pMany, if_pos c98]
        have e2 : pFst (pOkc (A.K (7 + o)) (A.K 4) (A.K (17 + o)) (pItm (A.w r)) i n) (4 ^ n) (m + 1) = nI (4 ^ n - (m + 1)) := by rw [pFst, if_pos c98]
        refine aw_iconst (v := nI 1) dX8_ash_101 rfl ?_
        refine aw_goto (tgt := 106) dX8_ash_102 (by decide) ?_
        refine aw_iadd dX8_ash_106 ?_
        refine aw_top ((nI_add _ _).trans (congrArg nI e1.symm)) ?_
        refine aw_istore dX8_ash_107 (Nat.le_of_ble_eq_true rfl) ?_
        refine aw_iload dX8_ash_109 rfl ?_
        refine aw_pif_eq (tgt := 119) dX8_ash_111 (by decide) (fun c111 => ?_) (fun c111 => ?_)
        · exact absurd c98 c111
        · refine aw_iload dX8_ash_114 rfl ?_
          refine aw_goto (tgt := 121) dX8_ash_116 (by decide) ?_
          refine aw_top e2.symm ?_
          refine aw_istore dX8_ash_121 (Nat.le_of_ble_eq_true rfl) ?_
          refine aw_iinc (v := nI (4 ^ n - (m + 1)) - nI 1) dX8_ash_123 rfl (z_dec _) (Nat.le_of_ble_eq_true rfl) ?_
          refine aw_goto (tgt := 72) dX8_ash_126 (by decide) ?_
          exact ih (m + 1) _ (by omega)
set_option maxRecDepth 100000 in
set_option maxHeartbeats 4000000 in
theorem c_X8_ash {G : am_G} {μ : am_M} (A : pA) (h : InvM μ A) (ok : okA A) (x1 x2 x3 x4 x5 : Int32) : am_MA G yX8_ash cX8_ash 11 (some .int) 3 0 0 [.ref 234, .int x1, .int x2, .int x3, .int x4, .int x5] am_SH μ (am_P (some (.int (oAsh A x1 x2 x3 x4 x5).1)) am_SH (fun μ9 => InvM μ9 (oAsh A x1 x2 x3 x4 x5).2 ∧ am_fr μ μ9 234 14)) := by
  refine am_ofK (own := RX8) (nm := "ash") (L := [some (.ref 234), some (.int x1), some (.int x2), some (.int x3), some (.int x4), some (.int x5), none, none, none, none, none]) rfl rfl (by decide +kernel) (Nat.le_of_ble_eq_true rfl) rfl ?_
  refine aw_aload_n dX8_ash_0 rfl ?_
  refine aw_iload_n dX8_ash_1 rfl ?_
  refine aw_v1i dX8_ash_2 ml_X8_186 im_X8_isOffice se_X8_isOffice (c_X8_isOffice A h.sk ok.k _) sh_234 (by decide) rfl rfl (Nat.le_of_ble_eq_true rfl) (Nat.le_of_ble_eq_true rfl) (Nat.le_of_ble_eq_true rfl) (Nat.le_of_ble_eq_true rfl) (Nat.le_of_ble_eq_true rfl) ?_
  refine aw_pif_eq (tgt := 34) dX8_ash_5 (by decide) (fun c5 => ?_) (fun c5 => ?_)
  · refine aw_ldc dX8_ash_34 kc_X8_67 ?_
    refine aw_iret dX8_ash_36 rfl rfl rfl rfl ?_
    exact pAnsM ((if_neg c5).trans rfl) h am_fr.rf
  · obtain ⟨k5, rfl, ha5, hb5, hz5⟩ := pIn_ex c5
    refine aw_iload_n dX8_ash_8 rfl ?_
    refine aw_s1i dX8_ash_9 ml_X8_61 st_X8_isRow (c_X8_isRow _) (Nat.le_of_ble_eq_true rfl) (Nat.le_of_ble_eq_true rfl) (Nat.le_of_ble_eq_true rfl) (Nat.le_of_ble_eq_true rfl) (Nat.le_of_ble_eq_true rfl) ?_
    refine aw_pif_eq (tgt := 34) dX8_ash_12 (by decide) (fun c12 => ?_) (fun c12 => ?_)
    · refine aw_ldc dX8_ash_34 kc_X8_67 ?_
      refine aw_iret dX8_ash_36 rfl rfl rfl rfl ?_
      exact pAnsM ((if_pos c5).trans ((if_neg c12).trans rfl)) h am_fr.rf
    · obtain ⟨k12, rfl, ha12, hb12, hz12⟩ := pIn_ex c12
      refine aw_iload dX8_ash_15 rfl ?_
      refine aw_i2l dX8_ash_17 ?_
      refine aw_lconst (v := lN 1) dX8_ash_18 rfl ?_
      refine aw_ldc2 dX8_ash_19 kl_X8_236 ?_
      refine aw_s3i dX8_ash_22 ml_X8_57 st_X8_in (c_X8_in _ 1 7 (by decide +kernel) (by decide +kernel)) (Nat.le_of_ble_eq_true rfl) (Nat.le_of_ble_eq_true rfl) (Nat.le_of_ble_eq_true rfl) (Nat.le_of_ble_eq_true rfl) (Nat.le_of_ble_eq_true rfl) ?_
      refine aw_pif_eq (tgt := 34) dX8_ash_25 (by decide) (fun c25 => ?_) (fun c25 => ?_)
      · refine aw_ldc dX8_ash_34 kc_X8_67 ?_
        refine aw_iret dX8_ash_36 rfl rfl rfl rfl ?_
        exact pAnsM ((if_pos c5).trans ((if_pos c12).trans ((if_neg c25).trans rfl))) h am_fr.rf
      · obtain ⟨k25, rfl, ha25, hb25, hz25⟩ := pIn_ex c25
        refine aw_iload dX8_ash_28 rfl ?_
        refine aw_iconst (v := (-1)) dX8_ash_30 rfl ?_
        refine aw_icmp_ge (tgt := 37) dX8_ash_31 (by decide) (fun c31 => ?_) (fun c31 => ?_)
        · by_cases hf0 : (pFind (A.w k12) x3 (nI k25)) = 0
          · refine aw_aload_n dX8_ash_37 rfl ?_
            refine aw_iload_n dX8_ash_38 rfl ?_
            refine aw_iload_n dX8_ash_39 rfl ?_
            refine aw_iload dX8_ash_40 rfl ?_
            refine aw_v3ip dX8_ash_42 ml_X8_233 im_X8_lies se_X8_lies (c_X8_lies0 A h k12 k25 (by omega) hz25 x3 hf0) sh_234 (by decide) rfl rfl (Nat.le_of_ble_eq_true rfl) (Nat.le_of_ble_eq_true rfl) (Nat.le_of_ble_eq_true rfl) (Nat.le_of_ble_eq_true rfl) (Nat.le_of_ble_eq_true rfl) (fun μ2 q2 => ?_)
            subst q2
            refine aw_istore dX8_ash_45 (Nat.le_of_ble_eq_true rfl) ?_
            refine aw_iload dX8_ash_47 rfl ?_
            refine aw_if_ge (tgt := 55) dX8_ash_49 (by decide) (fun c49 => ?_) (fun c49 => ?_)
            · obtain ⟨l, nn, f, i, ew, rfl, hin, hzi⟩ := pFind_sp hz25 hf0
              have hw := h.rows k12 (by omega)
              rw [ew] at hw
              have hn40 := hw.2.2.2.1
              have hit : ∀ j, j < 40 → μ2 237 (40 * k12 + j) = pItm (A.w k12) j := fun j hj => by rw [ew]; exact hw.2.2.2.2 j hj
              refine aw_iconst (v := nI 0) dX8_ash_55 rfl ?_
              refine aw_istore dX8_ash_56 (Nat.le_of_ble_eq_true rfl) ?_
              refine aw_ldc dX8_ash_58 kc_X8_216 ?_
              refine aw_istore dX8_ash_60 (Nat.le_of_ble_eq_true rfl) ?_
              refine aw_iconst (v := nI 1) dX8_ash_62 rfl ?_
              refine aw_iconst (v := nI 2) dX8_ash_63 rfl ?_
              refine aw_iload dX8_ash_64 rfl ?_
              refine aw_imul dX8_ash_66 ?_
              refine aw_top (pk_mul _ _) ?_
              refine aw_ishl dX8_ash_67 ?_
              refine aw_iconst (v := nI 1) dX8_ash_68 rfl ?_
              refine aw_isub dX8_ash_69 ?_
              refine aw_top (pn_top k25 (by omega)) ?_
              refine aw_istore dX8_ash_70 (Nat.le_of_ble_eq_true rfl) ?_
              have e9 : oAsh A (nI k5) (nI k12) (nI i) (nI k25) x5 = (if x5 = (-1) then A.ok (nI (pWs (A.K (7 + k5)) (A.K 4) (A.K (17 + k5)) (pItm (A.w k12)) i k25)) else if (pWs (A.K (7 + k5)) (A.K 4) (A.K (17 + k5)) (pItm (A.w k12)) i k25) = 0 then A.ok zNONE else if x5 < nI k25 then A.ok (nI (pFq (A.K (7 + k5)) (A.K 4) (pHs (A.K (7 + k5)) (A.K 4) (A.K (17 + k5)) (pItm (A.w k12)) i (zN x5)) (pItm (A.w k12) (i + zN x5)) 4)) else A.ok zNONE) := by
                rw [oAsh, if_pos c5, if_pos c12, if_pos c25, if_pos c31, zN_nI hz12, if_pos hf0, zN_nI hz5, zN_nI hz25, zN_nI hzi]
                rfl
              rw [e9]
              exact l_X8_ash A h ok k5 k12 i k25 x5 hb5 hb12 (by omega) (by omega) c31 hit (4 ^ k25) 0 _ (by omega)
            · exact absurd (show (0 : Int32) ≤ 0 by decide) c49
          · refine aw_aload_n dX8_ash_37 rfl ?_
            refine aw_iload_n dX8_ash_38 rfl ?_
            refine aw_iload_n dX8_ash_39 rfl ?_
            refine aw_iload dX8_ash_40 rfl ?_
            refine aw_v3ip dX8_ash_42 ml_X8_233 im_X8_lies se_X8_lies (c_X8_lies1 A h k12 k25 (by omega) hz25 x3 hf0) sh_234 (by decide) rfl rfl (Nat.le_of_ble_eq_true rfl) (Nat.le_of_ble_eq_true rfl) (Nat.le_of_ble_eq_true rfl) (Nat.le_of_ble_eq_true rfl) (Nat.le_of_ble_eq_true rfl) (fun μ2 q2 => ?_)
            subst q2
            refine aw_istore dX8_ash_45 (Nat.le_of_ble_eq_true rfl) ?_
            refine aw_iload dX8_ash_47 rfl ?_
            refine aw_if_ge (tgt := 55) dX8_ash_49 (by decide) (fun c49 => ?_) (fun c49 => ?_)
            · exact absurd c49 (z_fd _ (Nat.lt_of_le_of_lt (pFind_lt _ _ _) (by decide)))
            · refine aw_iload dX8_ash_52 rfl ?_
              refine aw_iret dX8_ash_54 rfl rfl rfl rfl ?_
              refine pAnsM ?_ (h.fd _) (am_fr.rf.up (by omega) (by omega))
              rw [oAsh, if_pos c5, if_pos c12, if_pos c25, if_pos c31, zN_nI hz12, if_neg hf0]
              rfl
        · refine aw_ldc dX8_ash_34 kc_X8_67 ?_
          refine aw_iret dX8_ash_36 rfl rfl rfl rfl ?_
          exact pAnsM ((if_pos c5).trans ((if_pos c12).trans ((if_pos c25).trans ((if_neg c31).trans rfl)))) h am_fr.rf
