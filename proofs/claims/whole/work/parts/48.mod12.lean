theorem c_X8_lies0 {G : am_G} {μ : am_M} (A : pA) (h : InvM μ A) (r n : Nat) (hr : r < 8) (hn : n < 2 ^ 31) (x : Int32) (h0 : (pFind (A.w r) x (nI n)) = 0) : am_MA G yX8_lies cX8_lies 4 (some .int) 1 0 0 [.ref 234, .int (nI r), .int x, .int (nI n)] am_SH μ (am_P (some (.int 0)) am_SH (fun μ9 => μ9 = μ)) := by
  have := c_X8_lies (G := G) A h r n hr hn x
  rw [if_pos h0, if_pos h0] at this
  exact this
theorem c_X8_lies1 {G : am_G} {μ : am_M} (A : pA) (h : InvM μ A) (r n : Nat) (hr : r < 8) (hn : n < 2 ^ 31) (x : Int32) (h0 : ¬ (pFind (A.w r) x (nI n)) = 0) : am_MA G yX8_lies cX8_lies 4 (some .int) 1 0 0 [.ref 234, .int (nI r), .int x, .int (nI n)] am_SH μ (am_P (some (.int ((-1000010) - nI (pFind (A.w r) x (nI n))))) am_SH (fun μ9 => μ9 = am_up μ 234 (upd (μ 234) 3 (nI (pFind (A.w r) x (nI n)))))) := by
  have := c_X8_lies (G := G) A h r n hr hn x
  rw [if_neg h0, if_neg h0] at this
  exact this
theorem z_fd : ∀ f, f < 6 → ¬ (0 : Int32) ≤ (-1000010) - nI f := by decide +kernel
set_option maxRecDepth 100000 in
set_option maxHeartbeats 4000000 in
theorem l2_X8_who {G : am_G} {μ : am_M} (A : pA) (h : InvM μ A) (ok : okA A) (o r i n x : Nat) (hoo : o < A.K 5) (hr : r < 8) (hin : i + n ≤ 40) (hx : x ≤ 20) (hit : ∀ j, j < 40 → μ 237 (40 * r + j) = pItm (A.w r) j) (c : Nat) (B : Bool) (kk : ∀ (Y J : Option Value), am_W (am_K G RX8 "who" 12 (some .int) 2 0 0 (am_P (some (.int (nI (pKs (A.K 4) (pItm (A.w r)) i n (A.K (17 + o)) x 5)))) am_SH (fun μ9 => InvM μ9 (A.sF 0) ∧ am_fr μ μ9 234 14))) cX8_who 153 [some (.ref 234), some (.int (nI o)), some (.int (nI r)), some (.int (nI i)), some (.int (nI n)), some (.int (nI x)), some (.int 0), some (.int (nI (pKs (A.K 4) (pItm (A.w r)) i n (A.K (17 + o)) x c))), some (.int (nI (c + 1))), Y, some (.int (pI (B = true))), J] [] am_SH μ 0 0) : ∀ (s j y : Nat) (b : Bool), j + s = n → y ≤ 20 → (b && pCm (A.K 4) (pItm (A.w r)) s (i + j) y) = B → am_W (am_K G RX8 "who" 12 (some .int) 2 0 0 (am_P (some (.int (nI (pKs (A.K 4) (pItm (A.w r)) i n (A.K (17 + o)) x 5)))) am_SH (fun μ9 => InvM μ9 (A.sF 0) ∧ am_fr μ μ9 234 14))) cX8_who 98 [some (.ref 234), some (.int (nI o)), some (.int (nI r)), some (.int (nI i)), some (.int (nI n)), some (.int (nI x)), some (.int 0), some (.int (nI (pKs (A.K 4) (pItm (A.w r)) i n (A.K (17 + o)) x c))), some (.int (nI (c + 1))), some (.int (nI y)), some (.int (pI (b = true))), some (.int (nI j))] [] am_SH μ 0 0 := by
  intro s
  induction s with
  | zero =>
    intro j y b hj hy e
    refine aw_iload dX8_who_98 rfl ?_
    refine aw_iload dX8_who_100 rfl ?_
    refine aw_icmp_ge (tgt := 153) dX8_who_102 (by decide) (fun c102 => ?_) (fun c102 => ?_)
    · have e2 : b = B := by have : (b && true) = B := e; rw [Bool.and_true] at this; exact this
      subst e2
      exact kk _ _
    · exact absurd (nI_le (by omega) (by omega)) c102
  | succ s ih =>
    intro j y b hj hy e
    refine aw_iload dX8_who_98 rfl ?_
    refine aw_iload dX8_who_100 rfl ?_
    refine aw_icmp_ge (tgt := 153) dX8_who_102 (by decide) (fun c102 => ?_) (fun c102 => ?_)
    · exact absurd c102 (nI_ge (by omega) (by omega))
    · refine aw_aload_n dX8_who_105 rfl ?_
      refine aw_gr dX8_who_106 gf_X8_22 sh_234 (by rfl) ?_
      refine aw_iload dX8_who_109 rfl ?_
      refine aw_s2i dX8_who_111 ml_X8_157 st_X8_sunk (c_X8_sunk 239 sh_239 A.K h.sk ok.k y hy) (Nat.le_of_ble_eq_true rfl) (Nat.le_of_ble_eq_true rfl) (Nat.le_of_ble_eq_true rfl) (Nat.le_of_ble_eq_true rfl) (Nat.le_of_ble_eq_true rfl) ?_
      refine aw_istore dX8_who_114 (Nat.le_of_ble_eq_true rfl) ?_
      refine aw_iload dX8_who_116 rfl ?_
      refine aw_pif_eq (tgt := 144) dX8_who_118 (by decide) (fun c118 => ?_) (fun c118 => ?_)
      · refine aw_iconst (v := nI 0) dX8_who_144 rfl ?_
        refine aw_top (show nI 0 = pI (false = true) by rw [pI_n (by decide)]; rfl) ?_
        refine aw_istore dX8_who_145 (Nat.le_of_ble_eq_true rfl) ?_
        refine aw_iinc (v := nI (j + 1)) dX8_who_147 rfl (nI_1 j) (Nat.le_of_ble_eq_true rfl) ?_
        refine aw_goto (tgt := 98) dX8_who_150 (by decide) ?_
        have eb : b = false := by cases b; rfl; exact absurd rfl c118
        rw [eb, Bool.false_and] at e
        exact ih (j + 1) _ false (by omega) (by omega) (by rw [Bool.false_and]; exact e)
      · refine aw_iload dX8_who_121 rfl ?_
        refine aw_aload_n dX8_who_123 rfl ?_
        refine aw_gr dX8_who_124 gf_X8_16 sh_234 (by rfl) ?_
        refine aw_bipush (v := nI 40) dX8_who_127 rfl ?_
        refine aw_iload_n dX8_who_129 rfl ?_
        refine aw_imul dX8_who_130 ?_
        refine aw_top (pk_mul _ _) ?_
        refine aw_iload_n dX8_who_131 rfl ?_
        refine aw_iadd dX8_who_132 ?_
        refine aw_top (nI_add _ _) ?_
        refine aw_iload dX8_who_133 rfl ?_
        refine aw_iadd dX8_who_135 ?_
        refine aw_top (nI_add _ _) ?_
        refine aw_iald dX8_who_136 sh_237 rfl (by omega) (by decide) ?_
        refine aw_top (show _ = pItm (A.w r) (i + j) by rw [show 40 * r + i + j = 40 * r + (i + j) by omega]; exact hit _ (by omega)) ?_
        refine aw_icmp_ne (tgt := 144) dX8_who_137 (by decide) (fun c137 => ?_) (fun c137 => ?_)
        · refine aw_iconst (v := nI 0) dX8_who_144 rfl ?_
          refine aw_top (show nI 0 = pI (false = true) by rw [pI_n (by decide)]; rfl) ?_
          refine aw_istore dX8_who_145 (Nat.le_of_ble_eq_true rfl) ?_
          refine aw_iinc (v := nI (j + 1)) dX8_who_147 rfl (nI_1 j) (Nat.le_of_ble_eq_true rfl) ?_
          refine aw_goto (tgt := 98) dX8_who_150 (by decide) ?_
          rw [pCm, decide_eq_false (fun q => c137 q), Bool.false_and, Bool.and_false] at e
          exact ih (j + 1) _ false (by omega) (by omega) (by rw [Bool.false_and]; exact e)
        · refine aw_iconst (v := nI 1) dX8_who_140 rfl ?_
          refine aw_goto (tgt := 145) dX8_who_141 (by decide) ?_
          refine aw_top (show nI 1 = pI (true = true) by rw [pI_1 rfl]; rfl) ?_
          refine aw_istore dX8_who_145 (Nat.le_of_ble_eq_true rfl) ?_
          refine aw_iinc (v := nI (j + 1)) dX8_who_147 rfl (nI_1 j) (Nat.le_of_ble_eq_true rfl) ?_
          refine aw_goto (tgt := 98) dX8_who_150 (by decide) ?_
          rw [c118, pCm, decide_eq_true c137, Bool.true_and, Bool.true_and] at e
          exact ih (j + 1) _ true (by omega) (by omega) (by rw [Bool.true_and, show i + (j + 1) = i + j + 1 by omega]; exact e)
set_option maxRecDepth 100000 in
set_option maxHeartbeats 4000000 in
theorem l_X8_who {G : am_G} {μ : am_M} (A : pA) (h : InvM μ A) (ok : okA A) (o r i n x : Nat) (hoo : o < A.K 5) (hr : r < 8) (hin : i + n ≤ 40) (hx : x ≤ 20) (hit : ∀ j, j < 40 → μ 237 (40 * r + j) = pItm (A.w r) j) : ∀ (s c : Nat) (Y S J : Option Value), c + s = 5 → am_W (am_K G RX8 "who" 12 (some .int) 2 0 0 (am_P (some (.int (nI (pKs (A.K 4) (pItm (A.w r)) i n (A.K (17 + o)) x 5)))) am_SH (fun μ9 => InvM μ9 (A.sF 0) ∧ am_fr μ μ9 234 14))) cX8_who 68 [some (.ref 234), some (.int (nI o)), some (.int (nI r)), some (.int (nI i)), some (.int (nI n)), some (.int (nI x)), some (.int 0), some (.int (nI (pKs (A.K 4) (pItm (A.w r)) i n (A.K (17 + o)) x c))), some (.int (nI (c + 1))), Y, S, J] [] am_SH μ 0 0 := by
  have h5 := ok.k.1
  have gh := (ok.k.2.2.2.2 o hoo).2.2.1
  intro s
  induction s with
  | zero =>
    intro c Y S J hc
    have e : c = 5 := by omega
    subst e
    refine aw_iload dX8_who_68 rfl ?_
    refine aw_iconst (v := nI 5) dX8_who_70 rfl ?_
    refine aw_icmp_gt (tgt := 177) dX8_who_71 (by decide) (fun c71 => ?_) (fun c71 => ?_)
    · refine aw_aload_n dX8_who_177 rfl ?_
      refine aw_iload dX8_who_178 rfl ?_
      refine aw_v1i dX8_who_180 ml_X8_72 im_X8_well se_X8_well (c_X8_well _) sh_234 (by decide) rfl rfl (Nat.le_of_ble_eq_true rfl) (Nat.le_of_ble_eq_true rfl) (Nat.le_of_ble_eq_true rfl) (Nat.le_of_ble_eq_true rfl) (Nat.le_of_ble_eq_true rfl) ?_
      refine aw_iret dX8_who_183 rfl rfl rfl rfl ?_
      exact ⟨rfl, rfl, h.fd 0, am_fr.rf.up (by omega) (by omega)⟩
    · exact absurd (nI_lt (by omega) (by omega)) c71
  | succ s ih =>
    intro c Y S J hc
    refine aw_iload dX8_who_68 rfl ?_
    refine aw_iconst (v := nI 5) dX8_who_70 rfl ?_
    refine aw_icmp_gt (tgt := 177) dX8_who_71 (by decide) (fun c71 => ?_) (fun c71 => ?_)
    · exact absurd c71 (nI_nlt (by omega) (by omega))
    · refine aw_iload dX8_who_74 rfl ?_
      refine aw_aload_n dX8_who_76 rfl ?_
      refine aw_gr dX8_who_77 gf_X8_22 sh_234 (by rfl) ?_
      refine aw_bipush (v := nI 17) dX8_who_80 rfl ?_
      refine aw_iload_n dX8_who_82 rfl ?_
      refine aw_iadd dX8_who_83 ?_
      refine aw_top (nI_add _ _) ?_
      refine aw_iald dX8_who_84 sh_239 rfl (by omega) (by decide) ?_
      refine aw_top (h.sk (17 + o) (by omega)) ?_
      refine aw_iload dX8_who_85 rfl ?_
      refine aw_s3i dX8_who_87 ml_X8_165 st_X8_lifted (c_X8_lifted (c + 1) (A.K (17 + o)) x (by omega) (by omega) gh (by omega)) (Nat.le_of_ble_eq_true rfl) (Nat.le_of_ble_eq_true rfl) (Nat.le_of_ble_eq_true rfl) (Nat.le_of_ble_eq_true rfl) (Nat.le_of_ble_eq_true rfl) ?_
      refine aw_istore dX8_who_90 (Nat.le_of_ble_eq_true rfl) ?_
      refine aw_iconst (v := nI 1) dX8_who_92 rfl ?_
      refine aw_top (show nI 1 = pI (true = true) by rw [pI_1 rfl]; rfl) ?_
      refine aw_istore dX8_who_93 (Nat.le_of_ble_eq_true rfl) ?_
      refine aw_iconst (v := nI 0) dX8_who_95 rfl ?_
      refine aw_istore dX8_who_96 (Nat.le_of_ble_eq_true rfl) ?_
      refine l2_X8_who A h ok o r i n x hoo hr hin hx hit c (pCm (A.K 4) (pItm (A.w r)) n i (pLifted (c + 1) (A.K (17 + o)) x)) (fun Y J => ?_) n 0 _ true (by omega) (pLifted_le _ _ _ gh) rfl
      refine aw_iload dX8_who_153 rfl ?_
      refine aw_iload dX8_who_155 rfl ?_
      refine aw_pif_eq (tgt := 167) dX8_who_157 (by decide) (fun c157 => ?_) (fun c157 => ?_)
      · have e1 : pKs (A.K 4) (pItm (A.w r)) i n (A.K (17 + o)) x (c + 1) = pKs (A.K 4) (pItm (A.w r)) i n (A.K (17 + o)) x c := by rw [pKs, if_neg c157]
        refine aw_iconst (v := nI 0) dX8_who_167 rfl ?_
        refine aw_ior dX8_who_168 ?_
        refine aw_top ((pn_or0 _).trans (congrArg nI e1.symm)) ?_
        refine aw_istore dX8_who_169 (Nat.le_of_ble_eq_true rfl) ?_
        refine aw_iinc (v := nI (c + 1 + 1)) dX8_who_171 rfl (nI_1 _) (Nat.le_of_ble_eq_true rfl) ?_
        refine aw_goto (tgt := 68) dX8_who_174 (by decide) ?_
        exact ih (c + 1) Y (some (.int (pI ((pCm (A.K 4) (pItm (A.w r)) n i (pLifted (c + 1) (A.K (17 + o)) x)) = true)))) J (by omega)
      · have e1 : pKs (A.K 4) (pItm (A.w r)) i n (A.K (17 + o)) x (c + 1) = pKs (A.K 4) (pItm (A.w r)) i n (A.K (17 + o)) x c + 2 ^ (c + 1) := by rw [pKs, if_pos c157]
        refine aw_iconst (v := nI 1) dX8_who_160 rfl ?_
        refine aw_iload dX8_who_161 rfl ?_
        refine aw_ishl dX8_who_163 ?_
        refine aw_goto (tgt := 168) dX8_who_164 (by decide) ?_
        refine aw_ior dX8_who_168 ?_
        refine aw_top ((pn_or6 (c + 1) (by omega) _ (pKs_lt _ _ _ _ _ _ c)).trans (congrArg nI e1.symm)) ?_
        refine aw_istore dX8_who_169 (Nat.le_of_ble_eq_true rfl) ?_
        refine aw_iinc (v := nI (c + 1 + 1)) dX8_who_171 rfl (nI_1 _) (Nat.le_of_ble_eq_true rfl) ?_
        refine aw_goto (tgt := 68) dX8_who_174 (by decide) ?_
        exact ih (c + 1) Y (some (.int (pI ((pCm (A.K 4) (pItm (A.w r)) n i (pLifted (c + 1) (A.K (17 + o)) x)) = true)))) J (by omega)
set_option maxRecDepth 100000 in
set_option maxHeartbeats 4000000 in
theorem c_X8_who {G : am_G} {μ : am_M} (A : pA) (h : InvM μ A) (ok : okA A) (x1 x2 x3 x4 x5 : Int32) : am_MA G yX8_who cX8_who 12 (some .int) 2 0 0 [.ref 234, .int x1, .int x2, .int x3, .int x4, .int x5] am_SH μ (am_P (some (.int (oWho A x1 x2 x3 x4 x5).1)) am_SH (fun μ9 => InvM μ9 (oWho A x1 x2 x3 x4 x5).2 ∧ am_fr μ μ9 234 14)) := by
  refine am_ofK (own := RX8) (nm := "who") (L := [some (.ref 234), some (.int x1), some (.int x2), some (.int x3), some (.int x4), some (.int x5), none, none, none, none, none, none]) rfl rfl (by decide +kernel) (Nat.le_of_ble_eq_true rfl) rfl ?_
  refine aw_aload_n dX8_who_0 rfl ?_
  refine aw_iload_n dX8_who_1 rfl ?_
  refine aw_v1i dX8_who_2 ml_X8_186 im_X8_isOffice se_X8_isOffice (c_X8_isOffice A h.sk ok.k _) sh_234 (by decide) rfl rfl (Nat.le_of_ble_eq_true rfl) (Nat.le_of_ble_eq_true rfl) (Nat.le_of_ble_eq_true rfl) (Nat.le_of_ble_eq_true rfl) (Nat.le_of_ble_eq_true rfl) ?_
  refine aw_pif_eq (tgt := 41) dX8_who_5 (by decide) (fun c5 => ?_) (fun c5 => ?_)
  · refine aw_ldc dX8_who_41 kc_X8_67 ?_
    refine aw_iret dX8_who_43 rfl rfl rfl rfl ?_
    exact pAnsM ((if_neg c5).trans rfl) h am_fr.rf
  · obtain ⟨k5, rfl, ha5, hb5, hz5⟩ := pIn_ex c5
    refine aw_iload_n dX8_who_8 rfl ?_
    refine aw_s1i dX8_who_9 ml_X8_61 st_X8_isRow (c_X8_isRow _) (Nat.le_of_ble_eq_true rfl) (Nat.le_of_ble_eq_true rfl) (Nat.le_of_ble_eq_true rfl) (Nat.le_of_ble_eq_true rfl) (Nat.le_of_ble_eq_true rfl) ?_
    refine aw_pif_eq (tgt := 41) dX8_who_12 (by decide) (fun c12 => ?_) (fun c12 => ?_)
    · refine aw_ldc dX8_who_41 kc_X8_67 ?_
      refine aw_iret dX8_who_43 rfl rfl rfl rfl ?_
      exact pAnsM ((if_pos c5).trans ((if_neg c12).trans rfl)) h am_fr.rf
    · obtain ⟨k12, rfl, ha12, hb12, hz12⟩ := pIn_ex c12
      refine aw_iload dX8_who_15 rfl ?_
      refine aw_i2l dX8_who_17 ?_
      refine aw_lconst (v := lN 1) dX8_who_18 rfl ?_
      refine aw_ldc2 dX8_who_19 kl_X8_225 ?_
      refine aw_s3i dX8_who_22 ml_X8_57 st_X8_in (c_X8_in _ 1 13 (by decide +kernel) (by decide +kernel)) (Nat.le_of_ble_eq_true rfl) (Nat.le_of_ble_eq_true rfl) (Nat.le_of_ble_eq_true rfl) (Nat.le_of_ble_eq_true rfl) (Nat.le_of_ble_eq_true rfl) ?_
      refine aw_pif_eq (tgt := 41) dX8_who_25 (by decide) (fun c25 => ?_) (fun c25 => ?_)
      · refine aw_ldc dX8_who_41 kc_X8_67 ?_
        refine aw_iret dX8_who_43 rfl rfl rfl rfl ?_
        exact pAnsM ((if_pos c5).trans ((if_pos c12).trans ((if_neg c25).trans rfl))) h am_fr.rf
      · obtain ⟨k25, rfl, ha25, hb25, hz25⟩ := pIn_ex c25
        refine aw_iload dX8_who_28 rfl ?_
        refine aw_i2l dX8_who_30 ?_
        refine aw_lconst (v := lN 0) dX8_who_31 rfl ?_
        refine aw_ldc2 dX8_who_32 kl_X8_189 ?_
        refine aw_s3i dX8_who_35 ml_X8_57 st_X8_in (c_X8_in _ 0 21 (by decide +kernel) (by decide +kernel)) (Nat.le_of_ble_eq_true rfl) (Nat.le_of_ble_eq_true rfl) (Nat.le_of_ble_eq_true rfl) (Nat.le_of_ble_eq_true rfl) (Nat.le_of_ble_eq_true rfl) ?_
        refine aw_pif_ne (tgt := 44) dX8_who_38 (by decide) (fun c38 => ?_) (fun c38 => ?_)
        · obtain ⟨k38, rfl, ha38, hb38, hz38⟩ := pIn_ex c38
          by_cases hf0 : (pFind (A.w k12) x3 (nI k25)) = 0
          · refine aw_aload_n dX8_who_44 rfl ?_
            refine aw_iload_n dX8_who_45 rfl ?_
            refine aw_iload_n dX8_who_46 rfl ?_
            refine aw_iload dX8_who_47 rfl ?_
            refine aw_v3ip dX8_who_49 ml_X8_233 im_X8_lies se_X8_lies (c_X8_lies0 A h k12 k25 (by omega) hz25 x3 hf0) sh_234 (by decide) rfl rfl (Nat.le_of_ble_eq_true rfl) (Nat.le_of_ble_eq_true rfl) (Nat.le_of_ble_eq_true rfl) (Nat.le_of_ble_eq_true rfl) (Nat.le_of_ble_eq_true rfl) (fun μ2 q2 => ?_)
            subst q2
            refine aw_istore dX8_who_52 (Nat.le_of_ble_eq_true rfl) ?_
            refine aw_iload dX8_who_54 rfl ?_
            refine aw_if_ge (tgt := 62) dX8_who_56 (by decide) (fun c56 => ?_) (fun c56 => ?_)
            · obtain ⟨l, nn, f, i, ew, rfl, hin, hzi⟩ := pFind_sp hz25 hf0
              have hw := h.rows k12 (by omega)
              rw [ew] at hw
              have hn40 := hw.2.2.2.1
              have hit : ∀ j, j < 40 → μ2 237 (40 * k12 + j) = pItm (A.w k12) j := fun j hj => by rw [ew]; exact hw.2.2.2.2 j hj
              refine aw_iconst (v := nI 0) dX8_who_62 rfl ?_
              refine aw_istore dX8_who_63 (Nat.le_of_ble_eq_true rfl) ?_
              refine aw_iconst (v := nI 1) dX8_who_65 rfl ?_
              refine aw_istore dX8_who_66 (Nat.le_of_ble_eq_true rfl) ?_
              have e9 : oWho A (nI k5) (nI k12) (nI i) (nI k25) (nI k38) = (nI (pKs (A.K 4) (pItm (A.w k12)) i k25 (A.K (17 + k5)) k38 5), A.sF 0) := by
                rw [oWho, if_pos c5, if_pos c12, if_pos c25, if_pos c38, zN_nI hz12, if_pos hf0, zN_nI hz5, zN_nI hz25, zN_nI hz38, zN_nI hzi]
                rfl
              rw [e9]
              exact l_X8_who A h ok k5 k12 i k25 k38 hb5 hb12 (by omega) (by omega) hit 5 0 _ _ _ rfl
            · exact absurd (show (0 : Int32) ≤ 0 by decide) c56
          · refine aw_aload_n dX8_who_44 rfl ?_
            refine aw_iload_n dX8_who_45 rfl ?_
            refine aw_iload_n dX8_who_46 rfl ?_
            refine aw_iload dX8_who_47 rfl ?_
            refine aw_v3ip dX8_who_49 ml_X8_233 im_X8_lies se_X8_lies (c_X8_lies1 A h k12 k25 (by omega) hz25 x3 hf0) sh_234 (by decide) rfl rfl (Nat.le_of_ble_eq_true rfl) (Nat.le_of_ble_eq_true rfl) (Nat.le_of_ble_eq_true rfl) (Nat.le_of_ble_eq_true rfl) (Nat.le_of_ble_eq_true rfl) (fun μ2 q2 => ?_)
            subst q2
            refine aw_istore dX8_who_52 (Nat.le_of_ble_eq_true rfl) ?_
            refine aw_iload dX8_who_54 rfl ?_
            refine aw_if_ge (tgt := 62) dX8_who_56 (by decide) (fun c56 => ?_) (fun c56 => ?_)
            · exact absurd c56 (z_fd _ (Nat.lt_of_le_of_lt (pFind_lt _ _ _) (by decide)))
            · refine aw_iload dX8_who_59 rfl ?_
              refine aw_iret dX8_who_61 rfl rfl rfl rfl ?_
              refine pAnsM ?_ (h.fd _) (am_fr.rf.up (by omega) (by omega))
              rw [oWho, if_pos c5, if_pos c12, if_pos c25, if_pos c38, zN_nI hz12, if_neg hf0]
              rfl
        · refine aw_ldc dX8_who_41 kc_X8_67 ?_
          refine aw_iret dX8_who_43 rfl rfl rfl rfl ?_
          exact pAnsM ((if_pos c5).trans ((if_pos c12).trans ((if_pos c25).trans ((if_neg c38).trans rfl)))) h am_fr.rf
