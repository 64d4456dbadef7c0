set_option maxRecDepth 100000 in
set_option maxHeartbeats 4000000 in
theorem l2_X8_drawn {G : am_G} {μ : am_M} {μ1 : am_M} (A : pA) (h : InvM μ A) (n sd : Nat) (x3 : Int32) (X Y : Option Value) (hL : mC μ1 245 (pDr n A.K sd 0).1) (h5 : (pDr n A.K sd 0).1 5 ≤ 5) (hf : am_fr μ μ1 245 1) : ∀ (r i : Nat), i + r = (pDr n A.K sd 0).1 5 → am_W (am_K G RX8 "drawn" 10 (some .int) 4 0 0 (am_P (some (.int (if x3 = 0 then nI (pDr n A.K sd 0).2 else nI (pSum (pDr n A.K sd 0).1 12 ((pDr n A.K sd 0).1 5))))) am_SH (fun μ9 => InvM μ9 A ∧ am_fr μ μ9 234 14))) cX8_drawn 168 [some (.ref 234), some (.int (nI n)), some (.int (nI sd)), some (.int x3), X, none, some (.int (nI (pDr n A.K sd 0).2)), some (.int (nI (pSum (pDr n A.K sd 0).1 12 i))), some (.int (nI i)), Y] [] am_SH μ1 0 0 := by
  intro r
  induction r with
  | zero =>
    intro i hi
    have e : i = (pDr n A.K sd 0).1 5 := by omega
    subst e
    refine aw_iload dX8_drawn_168 rfl ?_
    refine aw_aload_n dX8_drawn_170 rfl ?_
    refine aw_gr dX8_drawn_171 gf_X8_41 sh_234 (by rfl) ?_
    refine aw_iconst (v := nI 5) dX8_drawn_174 rfl ?_
    refine aw_iald (j := 5) dX8_drawn_175 sh_245 rfl (by decide) (by decide) ?_
    refine aw_top (hL 5 (by decide)) ?_
    refine aw_icmp_ge (tgt := 200) dX8_drawn_176 (by decide) (fun c176 => ?_) (fun c176 => ?_)
    · refine aw_iload_n dX8_drawn_200 rfl ?_
      refine aw_if_ne (tgt := 209) dX8_drawn_201 (by decide) (fun c201 => ?_) (fun c201 => ?_)
      · refine aw_iload dX8_drawn_209 rfl ?_
        refine aw_iret dX8_drawn_211 rfl rfl rfl rfl ?_
        refine ⟨congrArg (fun z => some (Value.int z)) ?_, rfl, (h.f2 (fun b hb => hf b (by omega))), hf.mono (by omega) (by omega)⟩
        rw [if_neg c201]
      · refine aw_iload dX8_drawn_204 rfl ?_
        refine aw_goto (tgt := 211) dX8_drawn_206 (by decide) ?_
        refine aw_iret dX8_drawn_211 rfl rfl rfl rfl ?_
        refine ⟨congrArg (fun z => some (Value.int z)) ?_, rfl, (h.f2 (fun b hb => hf b (by omega))), hf.mono (by omega) (by omega)⟩
        rw [if_pos c201]
    · exact absurd (nI_le (by omega) (by omega)) c176
  | succ r ih =>
    intro i hi
    refine aw_iload dX8_drawn_168 rfl ?_
    refine aw_aload_n dX8_drawn_170 rfl ?_
    refine aw_gr dX8_drawn_171 gf_X8_41 sh_234 (by rfl) ?_
    refine aw_iconst (v := nI 5) dX8_drawn_174 rfl ?_
    refine aw_iald (j := 5) dX8_drawn_175 sh_245 rfl (by decide) (by decide) ?_
    refine aw_top (hL 5 (by decide)) ?_
    refine aw_icmp_ge (tgt := 200) dX8_drawn_176 (by decide) (fun c176 => ?_) (fun c176 => ?_)
    · exact absurd c176 (nI_ge (by omega) (by omega))
    · refine aw_iload dX8_drawn_179 rfl ?_
      refine aw_aload_n dX8_drawn_181 rfl ?_
      refine aw_gr dX8_drawn_182 gf_X8_41 sh_234 (by rfl) ?_
      refine aw_bipush (v := nI 12) dX8_drawn_185 rfl ?_
      refine aw_iload dX8_drawn_187 rfl ?_
      refine aw_iadd dX8_drawn_189 ?_
      refine aw_top (nI_add _ _) ?_
      refine aw_iald dX8_drawn_190 sh_245 rfl (by omega) (by decide) ?_
      refine aw_top (hL (12 + i) (by omega)) ?_
      refine aw_iadd dX8_drawn_191 ?_
      refine aw_top (nI_add _ _) ?_
      refine aw_istore dX8_drawn_192 (Nat.le_of_ble_eq_true rfl) ?_
      refine aw_iinc (v := nI (i + 1)) dX8_drawn_194 rfl (nI_1 i) (Nat.le_of_ble_eq_true rfl) ?_
      refine aw_goto (tgt := 168) dX8_drawn_197 (by decide) ?_
      exact ih (i + 1) (by omega)
set_option maxRecDepth 100000 in
set_option maxHeartbeats 4000000 in
theorem l_X8_drawn {G : am_G} {μ : am_M} (A : pA) (h : InvM μ A) (n sd : Nat) (x3 : Int32) (hn : n ≤ 60) : ∀ (r i : Nat) (L : pK) (x s : Nat) (μ1 : am_M) (X Y : Option Value), i + r = n → mC μ1 245 L → pOK L → L 6 + r ≤ 1000000 → 0 < L 5 → x < 2147483647 → am_fr μ μ1 245 1 → pDr r L x s = pDr n A.K sd 0 → am_W (am_K G RX8 "drawn" 10 (some .int) 4 0 0 (am_P (some (.int (if x3 = 0 then nI (pDr n A.K sd 0).2 else nI (pSum (pDr n A.K sd 0).1 12 ((pDr n A.K sd 0).1 5))))) am_SH (fun μ9 => InvM μ9 A ∧ am_fr μ μ9 234 14))) cX8_drawn 59 [some (.ref 234), some (.int (nI n)), some (.int (nI sd)), some (.int x3), some (.long (lN x)), none, some (.int (nI s)), some (.int (nI i)), X, Y] [] am_SH μ1 0 0 := by
  intro r
  induction r with
  | zero =>
    intro i L x s μ1 X Y hi hL hO h6 hp hx hf e
    have e2 : L = (pDr n A.K sd 0).1 := congrArg Prod.fst e
    have e3 : s = (pDr n A.K sd 0).2 := congrArg Prod.snd e
    subst e2 e3
    refine aw_iload dX8_drawn_59 rfl ?_
    refine aw_iload_n dX8_drawn_61 rfl ?_
    refine aw_icmp_ge (tgt := 162) dX8_drawn_62 (by decide) (fun c62 => ?_) (fun c62 => ?_)
    · refine aw_iconst (v := nI 0) dX8_drawn_162 rfl ?_
      refine aw_istore dX8_drawn_163 (Nat.le_of_ble_eq_true rfl) ?_
      refine aw_iconst (v := nI 0) dX8_drawn_165 rfl ?_
      refine aw_istore dX8_drawn_166 (Nat.le_of_ble_eq_true rfl) ?_
      exact l2_X8_drawn A h n sd x3 _ _ hL hO.1 hf ((pDr n A.K sd 0).1 5) 0 (by omega)
    · exact absurd (nI_le (by omega) (by omega)) c62
  | succ r ih =>
    intro i L x s μ1 X Y hi hL hO h6 hp hx hf e
    have h55 := hO.1
    refine aw_iload dX8_drawn_59 rfl ?_
    refine aw_iload_n dX8_drawn_61 rfl ?_
    refine aw_icmp_ge (tgt := 162) dX8_drawn_62 (by decide) (fun c62 => ?_) (fun c62 => ?_)
    · exact absurd c62 (nI_ge (by omega) (by omega))
    · refine aw_lload dX8_drawn_65 rfl ?_
      refine aw_ldc2 dX8_drawn_67 kl_X8_253 ?_
      refine aw_lmul dX8_drawn_70 ?_
      rw [lN_mul]
      refine aw_ldc2 dX8_drawn_71 kl_X8_255 ?_
      refine aw_lrem dX8_drawn_74 (by decide) ?_
      rw [pk_lRem (by omega) (by omega) (by omega)]
      have hx2 : x * 16807 % 2147483647 < 2147483647 := Nat.mod_lt _ (by decide)
      refine aw_lstore dX8_drawn_75 (Nat.le_of_ble_eq_true rfl) ?_
      refine aw_lload dX8_drawn_77 rfl ?_
      refine aw_aload_n dX8_drawn_79 rfl ?_
      refine aw_gr dX8_drawn_80 gf_X8_41 sh_234 (by rfl) ?_
      refine aw_iconst (v := nI 5) dX8_drawn_83 rfl ?_
      refine aw_iald (j := 5) dX8_drawn_84 sh_245 rfl (by decide) (by decide) ?_
      refine aw_top (hL 5 (by decide)) ?_
      refine aw_i2l dX8_drawn_85 ?_
      rw [nI_l (by omega)]
      refine aw_lrem dX8_drawn_86 (fun q => by rw [show (0 : Int64) = lN 0 from rfl, pk_lEQ (by omega) (by omega)] at q; omega) ?_
      rw [pk_lRem (by omega) (by omega) (by omega)]
      refine aw_l2i dX8_drawn_87 ?_
      rw [lN_i]
      have hdo : pDo L x < L 5 := Nat.mod_lt _ hp
      refine aw_istore dX8_drawn_88 (Nat.le_of_ble_eq_true rfl) ?_
      refine aw_lload dX8_drawn_90 rfl ?_
      refine aw_ldc2 dX8_drawn_92 kl_X8_199 ?_
      refine aw_lrem dX8_drawn_95 (by decide) ?_
      rw [pk_lRem (by omega) (by omega) (by omega)]
      refine aw_l2i dX8_drawn_96 ?_
      rw [lN_i]
      have gf := (hO.2.2.2.2 _ hdo).2.2.2
      refine aw_istore dX8_drawn_97 (Nat.le_of_ble_eq_true rfl) ?_
      refine aw_iload dX8_drawn_99 rfl ?_
      refine aw_aload_n dX8_drawn_101 rfl ?_
      refine aw_gr dX8_drawn_102 gf_X8_41 sh_234 (by rfl) ?_
      refine aw_bipush (v := nI 22) dX8_drawn_105 rfl ?_
      refine aw_iload dX8_drawn_107 rfl ?_
      refine aw_iadd dX8_drawn_109 ?_
      refine aw_top (nI_add _ _) ?_
      refine aw_iald dX8_drawn_110 sh_245 rfl (by have : x * 16807 % 2147483647 % L 5 < L 5 := hdo; omega) (by decide) ?_
      refine aw_top (show _ = nI (L (22 + pDo L x)) from hL (22 + pDo L x) (by omega)) ?_
      refine aw_icmp_le (tgt := 127) dX8_drawn_111 (by decide) (fun c111 => ?_) (fun c111 => ?_)
      · rw [nI_leI (by omega) (by omega)] at c111
        have es : x * 16807 % 2147483647 % 4 = pDs L x := by unfold pDs; unfold pDx; omega
        refine aw_iload dX8_drawn_127 rfl ?_
        refine aw_top (congrArg nI es) ?_
        refine aw_istore dX8_drawn_129 (Nat.le_of_ble_eq_true rfl) ?_
        refine aw_aload_n dX8_drawn_131 rfl ?_
        refine aw_gr dX8_drawn_132 gf_X8_41 sh_234 (by rfl) ?_
        refine aw_iload dX8_drawn_135 rfl ?_
        refine aw_iload dX8_drawn_137 rfl ?_
        refine aw_s3vp dX8_drawn_139 ml_X8_191 st_X8_burns (c_X8_burns 245 sh_245 L hL hO (pDo L x) (pDs L x) hdo (Nat.min_le_right _ _)) (Nat.le_of_ble_eq_true rfl) (Nat.le_of_ble_eq_true rfl) (Nat.le_of_ble_eq_true rfl) (Nat.le_of_ble_eq_true rfl) (Nat.le_of_ble_eq_true rfl) (fun μ2 q2 => ?_)
        refine aw_iload dX8_drawn_142 rfl ?_
        refine aw_iload dX8_drawn_144 rfl ?_
        refine aw_iadd dX8_drawn_146 ?_
        refine aw_top (nI_add _ _) ?_
        refine aw_istore dX8_drawn_147 (Nat.le_of_ble_eq_true rfl) ?_
        refine aw_aload_n dX8_drawn_149 rfl ?_
        refine aw_gr dX8_drawn_150 gf_X8_41 sh_234 (by rfl) ?_
        refine aw_s1vp dX8_drawn_153 ml_X8_175 st_X8_hourGoes (c_X8_hourGoes 245 sh_245 _ q2.1 (pBurn_ok hO hdo)) (Nat.le_of_ble_eq_true rfl) (Nat.le_of_ble_eq_true rfl) (Nat.le_of_ble_eq_true rfl) (Nat.le_of_ble_eq_true rfl) (Nat.le_of_ble_eq_true rfl) (fun μ3 q3 => ?_)
        refine aw_iinc (v := nI (i + 1)) dX8_drawn_156 rfl (nI_1 i) (Nat.le_of_ble_eq_true rfl) ?_
        refine aw_goto (tgt := 59) dX8_drawn_159 (by decide) ?_
        have hbo : pOK (pBurn L (pDo L x) (pDs L x)) := pBurn_ok hO hdo
        have b6 : pBurn L (pDo L x) (pDs L x) 6 = L 6 := pBurn_lo (by decide)
        have b5 : pBurn L (pDo L x) (pDs L x) 5 = L 5 := pBurn_lo (by decide)
        have e6 : pHour (pBurn L (pDo L x) (pDs L x)) 6 = pBurn L (pDo L x) (pDs L x) 6 + 1 := pHour_6
        have e5 : pHour (pBurn L (pDo L x) (pDs L x)) 5 = pBurn L (pDo L x) (pDs L x) 5 := pHour_lo (by decide) (by decide)
        exact ih (i + 1) _ (pDx x) (s + pDs L x) μ3 _ _ (by omega) q3.1 (pHour_ok hbo (by omega)) (by omega) (by omega) hx2 ((hf.tr q2.2).tr q3.2) e
      · rw [nI_leI (by omega) (by omega)] at c111
        have es : L (22 + pDo L x) = pDs L x := by unfold pDs; unfold pDx; omega
        refine aw_aload_n dX8_drawn_114 rfl ?_
        refine aw_gr dX8_drawn_115 gf_X8_41 sh_234 (by rfl) ?_
        refine aw_bipush (v := nI 22) dX8_drawn_118 rfl ?_
        refine aw_iload dX8_drawn_120 rfl ?_
        refine aw_iadd dX8_drawn_122 ?_
        refine aw_top (nI_add _ _) ?_
        refine aw_iald dX8_drawn_123 sh_245 rfl (by have : x * 16807 % 2147483647 % L 5 < L 5 := hdo; omega) (by decide) ?_
        refine aw_top (show _ = nI (L (22 + pDo L x)) from hL (22 + pDo L x) (by omega)) ?_
        refine aw_goto (tgt := 129) dX8_drawn_124 (by decide) ?_
        refine aw_top (congrArg nI es) ?_
        refine aw_istore dX8_drawn_129 (Nat.le_of_ble_eq_true rfl) ?_
        refine aw_aload_n dX8_drawn_131 rfl ?_
        refine aw_gr dX8_drawn_132 gf_X8_41 sh_234 (by rfl) ?_
        refine aw_iload dX8_drawn_135 rfl ?_
        refine aw_iload dX8_drawn_137 rfl ?_
        refine aw_s3vp dX8_drawn_139 ml_X8_191 st_X8_burns (c_X8_burns 245 sh_245 L hL hO (pDo L x) (pDs L x) hdo (Nat.min_le_right _ _)) (Nat.le_of_ble_eq_true rfl) (Nat.le_of_ble_eq_true rfl) (Nat.le_of_ble_eq_true rfl) (Nat.le_of_ble_eq_true rfl) (Nat.le_of_ble_eq_true rfl) (fun μ2 q2 => ?_)
        refine aw_iload dX8_drawn_142 rfl ?_
        refine aw_iload dX8_drawn_144 rfl ?_
        refine aw_iadd dX8_drawn_146 ?_
        refine aw_top (nI_add _ _) ?_
        refine aw_istore dX8_drawn_147 (Nat.le_of_ble_eq_true rfl) ?_
        refine aw_aload_n dX8_drawn_149 rfl ?_
        refine aw_gr dX8_drawn_150 gf_X8_41 sh_234 (by rfl) ?_
        refine aw_s1vp dX8_drawn_153 ml_X8_175 st_X8_hourGoes (c_X8_hourGoes 245 sh_245 _ q2.1 (pBurn_ok hO hdo)) (Nat.le_of_ble_eq_true rfl) (Nat.le_of_ble_eq_true rfl) (Nat.le_of_ble_eq_true rfl) (Nat.le_of_ble_eq_true rfl) (Nat.le_of_ble_eq_true rfl) (fun μ3 q3 => ?_)
        refine aw_iinc (v := nI (i + 1)) dX8_drawn_156 rfl (nI_1 i) (Nat.le_of_ble_eq_true rfl) ?_
        refine aw_goto (tgt := 59) dX8_drawn_159 (by decide) ?_
        have hbo : pOK (pBurn L (pDo L x) (pDs L x)) := pBurn_ok hO hdo
        have b6 : pBurn L (pDo L x) (pDs L x) 6 = L 6 := pBurn_lo (by decide)
        have b5 : pBurn L (pDo L x) (pDs L x) 5 = L 5 := pBurn_lo (by decide)
        have e6 : pHour (pBurn L (pDo L x) (pDs L x)) 6 = pBurn L (pDo L x) (pDs L x) 6 + 1 := pHour_6
        have e5 : pHour (pBurn L (pDo L x) (pDs L x)) 5 = pBurn L (pDo L x) (pDs L x) 5 := pHour_lo (by decide) (by decide)
        exact ih (i + 1) _ (pDx x) (s + pDs L x) μ3 _ _ (by omega) q3.1 (pHour_ok hbo (by omega)) (by omega) (by omega) hx2 ((hf.tr q2.2).tr q3.2) e
set_option maxRecDepth 100000 in
set_option maxHeartbeats 4000000 in
theorem c_X8_drawn {G : am_G} {μ : am_M} (A : pA) (h : InvM μ A) (ok : okA A) (x1 x2 x3 : Int32) : am_MA G yX8_drawn cX8_drawn 10 (some .int) 4 0 0 [.ref 234, .int x1, .int x2, .int x3] am_SH μ (am_P (some (.int (oDrawn A x1 x2 x3).1)) am_SH (fun μ9 => InvM μ9 (oDrawn A x1 x2 x3).2 ∧ am_fr μ μ9 234 14)) := by
  refine am_ofK (own := RX8) (nm := "drawn") (L := [some (.ref 234), some (.int x1), some (.int x2), some (.int x3), none, none, none, none, none, none]) rfl rfl (by decide +kernel) (Nat.le_of_ble_eq_true rfl) rfl ?_
  refine aw_aload_n dX8_drawn_0 rfl ?_
  refine aw_gi dX8_drawn_1 gf_X8_137 sh_234 (by rfl) ?_
  refine aw_top h.is ?_
  refine aw_pif_ne (tgt := 10) dX8_drawn_4 (by decide) (fun s4 => ?_) (fun s4 => ?_)
  · refine aw_iload_n dX8_drawn_10 rfl ?_
    refine aw_i2l dX8_drawn_11 ?_
    refine aw_lconst (v := lN 0) dX8_drawn_12 rfl ?_
    refine aw_ldc2 dX8_drawn_13 kl_X8_195 ?_
    refine aw_s3i dX8_drawn_16 ml_X8_57 st_X8_in (c_X8_in _ 0 61 (by decide +kernel) (by decide +kernel)) (Nat.le_of_ble_eq_true rfl) (Nat.le_of_ble_eq_true rfl) (Nat.le_of_ble_eq_true rfl) (Nat.le_of_ble_eq_true rfl) (Nat.le_of_ble_eq_true rfl) ?_
    refine aw_pif_eq (tgt := 41) dX8_drawn_19 (by decide) (fun c19 => ?_) (fun c19 => ?_)
    · refine aw_ldc dX8_drawn_41 kc_X8_67 ?_
      refine aw_iret dX8_drawn_43 rfl rfl rfl rfl ?_
      exact pAnsM ((if_neg s4).trans ((if_neg c19).trans rfl)) h am_fr.rf
    · obtain ⟨k19, rfl, ha19, hb19, hz19⟩ := pIn_ex c19
      refine aw_iload_n dX8_drawn_22 rfl ?_
      refine aw_i2l dX8_drawn_23 ?_
      refine aw_lconst (v := lN 1) dX8_drawn_24 rfl ?_
      refine aw_ldc2 dX8_drawn_25 kl_X8_251 ?_
      refine aw_s3i dX8_drawn_28 ml_X8_57 st_X8_in (c_X8_in _ 1 1000000 (by decide +kernel) (by decide +kernel)) (Nat.le_of_ble_eq_true rfl) (Nat.le_of_ble_eq_true rfl) (Nat.le_of_ble_eq_true rfl) (Nat.le_of_ble_eq_true rfl) (Nat.le_of_ble_eq_true rfl) ?_
      refine aw_pif_eq (tgt := 41) dX8_drawn_31 (by decide) (fun c31 => ?_) (fun c31 => ?_)
      · refine aw_ldc dX8_drawn_41 kc_X8_67 ?_
        refine aw_iret dX8_drawn_43 rfl rfl rfl rfl ?_
        exact pAnsM ((if_neg s4).trans ((if_pos c19).trans ((if_neg c31).trans rfl))) h am_fr.rf
      · obtain ⟨k31, rfl, ha31, hb31, hz31⟩ := pIn_ex c31
        refine aw_iload_n dX8_drawn_34 rfl ?_
        refine aw_s1i dX8_drawn_35 ml_X8_209 st_X8_isTwo (c_X8_isTwo _) (Nat.le_of_ble_eq_true rfl) (Nat.le_of_ble_eq_true rfl) (Nat.le_of_ble_eq_true rfl) (Nat.le_of_ble_eq_true rfl) (Nat.le_of_ble_eq_true rfl) ?_
        refine aw_pif_ne (tgt := 44) dX8_drawn_38 (by decide) (fun c38 => ?_) (fun c38 => ?_)
        · refine aw_aload_n dX8_drawn_44 rfl ?_
          refine aw_iconst (v := nI 0) dX8_drawn_45 rfl ?_
          refine aw_v1vp dX8_drawn_46 ml_X8_212 im_X8_goAside se_X8_goAside (c_X8_goAside A h ok 0 (by omega)) sh_234 (by decide) rfl rfl (Nat.le_of_ble_eq_true rfl) (Nat.le_of_ble_eq_true rfl) (Nat.le_of_ble_eq_true rfl) (Nat.le_of_ble_eq_true rfl) (Nat.le_of_ble_eq_true rfl) (fun μ2 q2 => ?_)
          refine aw_iload_n dX8_drawn_49 rfl ?_
          refine aw_i2l dX8_drawn_50 ?_
          rw [nI_l hz31]
          refine aw_lstore dX8_drawn_51 (Nat.le_of_ble_eq_true rfl) ?_
          refine aw_iconst (v := nI 0) dX8_drawn_53 rfl ?_
          refine aw_istore dX8_drawn_54 (Nat.le_of_ble_eq_true rfl) ?_
          refine aw_iconst (v := nI 0) dX8_drawn_56 rfl ?_
          refine aw_istore dX8_drawn_57 (Nat.le_of_ble_eq_true rfl) ?_
          have e9 : oDrawn A (nI k19) (nI k31) x3 = (if x3 = 0 then nI (pDr k19 A.K k31 0).2 else nI (pSum (pDr k19 A.K k31 0).1 12 ((pDr k19 A.K k31 0).1 5)), A) := by
            rw [oDrawn, if_neg s4, if_pos c19, if_pos c31, if_pos c38, zN_nI hz19, zN_nI hz31]
            split <;> rfl
          rw [e9]
          exact l_X8_drawn A h k19 k31 x3 (by omega) k19 0 A.K k31 0 μ2 _ _ (by omega) q2.1 ok.k (by have := ok.k6; omega) (by omega) (by omega) q2.2 rfl
        · refine aw_ldc dX8_drawn_41 kc_X8_67 ?_
          refine aw_iret dX8_drawn_43 rfl rfl rfl rfl ?_
          exact pAnsM ((if_neg s4).trans ((if_pos c19).trans ((if_pos c31).trans ((if_neg c38).trans rfl)))) h am_fr.rf
  · replace s4 := Decidable.not_not.mp s4
    refine aw_ldc dX8_drawn_7 kc_X8_169 ?_
    refine aw_iret dX8_drawn_9 rfl rfl rfl rfl ?_
    exact pAnsM ((if_pos s4).trans rfl) h am_fr.rf
