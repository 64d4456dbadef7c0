set_option maxRecDepth 100000 in
set_option maxHeartbeats 4000000 in
theorem t_X8_count {G : am_G} {μ : am_M} (A : pA) (h : InvM μ A) (ok : okA A) (x1 : Int32) (X : Option Value) : am_W (am_K G RX8 "count" 5 (some .int) 1 0 0 (am_P (some (.int (oCount A x1).1)) am_SH (fun μ9 => InvM μ9 (oCount A x1).2 ∧ am_fr μ μ9 234 14))) cX8_count 68 [some (.ref 234), some (.int x1), some (.int (nI (pAre A.w 8))), some (.int (nI (pSum A.K 27 (A.K 5)))), X] [] am_SH μ 0 0 := by
  refine aw_iload_n dX8_count_68 rfl ?_
  by_cases hw : pIn x1 0 8
  · obtain ⟨k, rfl, _, hk, hz⟩ := pIn_ex hw
    clear hw
    match k, hk with
    | 0, _ =>
      refine aw_tableIn (tgt := 116) dX8_count_69 (by decide) (by decide) rfl (by decide) ?_
      refine aw_iload_n dX8_count_116 rfl ?_
      refine aw_iret dX8_count_117 rfl rfl rfl rfl ?_
      exact pAnsM ((if_pos (by decide +kernel)).trans rfl) h am_fr.rf
    | 1, _ =>
      refine aw_tableIn (tgt := 118) dX8_count_69 (by decide) (by decide) rfl (by decide) ?_
      refine aw_aload_n dX8_count_118 rfl ?_
      refine aw_gr dX8_count_119 gf_X8_22 sh_234 (by rfl) ?_
      refine aw_iconst (v := nI 5) dX8_count_122 rfl ?_
      refine aw_iald (j := 5) dX8_count_123 sh_239 rfl (by decide) (by decide) ?_
      refine aw_top (h.sk 5 (by decide)) ?_
      refine aw_iret dX8_count_124 rfl rfl rfl rfl ?_
      exact pAnsM ((if_pos (by decide +kernel)).trans rfl) h am_fr.rf
    | 2, _ =>
      refine aw_tableIn (tgt := 125) dX8_count_69 (by decide) (by decide) rfl (by decide) ?_
      refine aw_aload_n dX8_count_125 rfl ?_
      refine aw_gr dX8_count_126 gf_X8_22 sh_234 (by rfl) ?_
      refine aw_iconst (v := nI 4) dX8_count_129 rfl ?_
      refine aw_iald (j := 4) dX8_count_130 sh_239 rfl (by decide) (by decide) ?_
      refine aw_top (h.sk 4 (by decide)) ?_
      refine aw_iret dX8_count_131 rfl rfl rfl rfl ?_
      exact pAnsM ((if_pos (by decide +kernel)).trans rfl) h am_fr.rf
    | 3, _ =>
      refine aw_tableIn (tgt := 132) dX8_count_69 (by decide) (by decide) rfl (by decide) ?_
      refine aw_aload_n dX8_count_132 rfl ?_
      refine aw_gr dX8_count_133 gf_X8_22 sh_234 (by rfl) ?_
      refine aw_bipush (v := nI 6) dX8_count_136 rfl ?_
      refine aw_iald (j := 6) dX8_count_138 sh_239 rfl (by decide) (by decide) ?_
      refine aw_top (h.sk 6 (by decide)) ?_
      refine aw_iret dX8_count_139 rfl rfl rfl rfl ?_
      exact pAnsM ((if_pos (by decide +kernel)).trans rfl) h am_fr.rf
    | 4, _ =>
      refine aw_tableIn (tgt := 140) dX8_count_69 (by decide) (by decide) rfl (by decide) ?_
      refine aw_iload_n dX8_count_140 rfl ?_
      refine aw_iret dX8_count_141 rfl rfl rfl rfl ?_
      exact pAnsM ((if_pos (by decide +kernel)).trans rfl) h am_fr.rf
    | 5, _ =>
      refine aw_tableIn (tgt := 142) dX8_count_69 (by decide) (by decide) rfl (by decide) ?_
      refine aw_aload_n dX8_count_142 rfl ?_
      refine aw_gr dX8_count_143 gf_X8_22 sh_234 (by rfl) ?_
      refine aw_s1i dX8_count_146 ml_X8_179 st_X8_flying (c_X8_flying 239 sh_239 A.K h.sk ok.k) (Nat.le_of_ble_eq_true rfl) (Nat.le_of_ble_eq_true rfl) (Nat.le_of_ble_eq_true rfl) (Nat.le_of_ble_eq_true rfl) (Nat.le_of_ble_eq_true rfl) ?_
      refine aw_iret dX8_count_149 rfl rfl rfl rfl ?_
      exact pAnsM ((if_pos (by decide +kernel)).trans rfl) h am_fr.rf
    | 6, _ =>
      refine aw_tableIn (tgt := 150) dX8_count_69 (by decide) (by decide) rfl (by decide) ?_
      refine aw_aload_n dX8_count_150 rfl ?_
      refine aw_gi dX8_count_151 gf_X8_141 sh_234 (by rfl) ?_
      refine aw_top h.acn ?_
      refine aw_iret dX8_count_154 rfl rfl rfl rfl ?_
      exact pAnsM ((if_pos (by decide +kernel)).trans rfl) h am_fr.rf
    | 7, _ =>
      refine aw_tableIn (tgt := 155) dX8_count_69 (by decide) (by decide) rfl (by decide) ?_
      refine aw_aload_n dX8_count_155 rfl ?_
      refine aw_gi dX8_count_156 gf_X8_77 sh_234 (by rfl) ?_
      refine aw_top h.tl ?_
      refine aw_iret dX8_count_159 rfl rfl rfl rfl ?_
      exact pAnsM ((if_pos (by decide +kernel)).trans rfl) h am_fr.rf
    | k + 8, hk => exact absurd hk (by omega)
  · refine aw_tableOut (tgt := 160) dX8_count_69 (by have : ¬ (0 ≤ x1.toInt ∧ x1.toInt < 8) := hw; omega) (by decide) ?_
    refine aw_ldc dX8_count_160 kc_X8_67 ?_
    refine aw_iret dX8_count_162 rfl rfl rfl rfl ?_
    exact pAnsM ((if_neg hw).trans rfl) h am_fr.rf
set_option maxRecDepth 100000 in
set_option maxHeartbeats 4000000 in
theorem l2_X8_count {G : am_G} {μ : am_M} (A : pA) (h : InvM μ A) (ok : okA A) (x1 : Int32) : ∀ (r i : Nat), i + r = A.K 5 → am_W (am_K G RX8 "count" 5 (some .int) 1 0 0 (am_P (some (.int (oCount A x1).1)) am_SH (fun μ9 => InvM μ9 (oCount A x1).2 ∧ am_fr μ μ9 234 14))) cX8_count 38 [some (.ref 234), some (.int x1), some (.int (nI (pAre A.w 8))), some (.int (nI (pSum A.K 27 i))), some (.int (nI i))] [] am_SH μ 0 0 := by
  have h5 := ok.k.1
  intro r
  induction r with
  | zero =>
    intro i hi
    have e : i = A.K 5 := by omega
    subst e
    refine aw_iload dX8_count_38 rfl ?_
    refine aw_aload_n dX8_count_40 rfl ?_
    refine aw_gr dX8_count_41 gf_X8_22 sh_234 (by rfl) ?_
    refine aw_iconst (v := nI 5) dX8_count_44 rfl ?_
    refine aw_iald (j := 5) dX8_count_45 sh_239 rfl (by decide) (by decide) ?_
    refine aw_top (h.sk 5 (by decide)) ?_
    refine aw_icmp_ge (tgt := 68) dX8_count_46 (by decide) (fun c46 => ?_) (fun c46 => ?_)
    · exact t_X8_count A h ok x1 _
    · exact absurd (nI_le (by omega) (by omega)) c46
  | succ r ih =>
    intro i hi
    refine aw_iload dX8_count_38 rfl ?_
    refine aw_aload_n dX8_count_40 rfl ?_
    refine aw_gr dX8_count_41 gf_X8_22 sh_234 (by rfl) ?_
    refine aw_iconst (v := nI 5) dX8_count_44 rfl ?_
    refine aw_iald (j := 5) dX8_count_45 sh_239 rfl (by decide) (by decide) ?_
    refine aw_top (h.sk 5 (by decide)) ?_
    refine aw_icmp_ge (tgt := 68) dX8_count_46 (by decide) (fun c46 => ?_) (fun c46 => ?_)
    · exact absurd c46 (nI_ge (by omega) (by omega))
    · refine aw_iload_n dX8_count_49 rfl ?_
      refine aw_aload_n dX8_count_50 rfl ?_
      refine aw_gr dX8_count_51 gf_X8_22 sh_234 (by rfl) ?_
      refine aw_bipush (v := nI 27) dX8_count_54 rfl ?_
      refine aw_iload dX8_count_56 rfl ?_
      refine aw_iadd dX8_count_58 ?_
      refine aw_top (nI_add _ _) ?_
      refine aw_iald dX8_count_59 sh_239 rfl (by omega) (by decide) ?_
      refine aw_top (h.sk (27 + i) (by omega)) ?_
      refine aw_iadd dX8_count_60 ?_
      refine aw_top (nI_add _ _) ?_
      refine aw_istore_n dX8_count_61 (Nat.le_of_ble_eq_true rfl) ?_
      refine aw_iinc (v := nI (i + 1)) dX8_count_62 rfl (nI_1 i) (Nat.le_of_ble_eq_true rfl) ?_
      refine aw_goto (tgt := 38) dX8_count_65 (by decide) ?_
      exact ih (i + 1) (by omega)
set_option maxRecDepth 100000 in
set_option maxHeartbeats 4000000 in
theorem l_X8_count {G : am_G} {μ : am_M} (A : pA) (h : InvM μ A) (ok : okA A) (x1 : Int32) : ∀ (r i : Nat), i + r = 8 → am_W (am_K G RX8 "count" 5 (some .int) 1 0 0 (am_P (some (.int (oCount A x1).1)) am_SH (fun μ9 => InvM μ9 (oCount A x1).2 ∧ am_fr μ μ9 234 14))) cX8_count 4 [some (.ref 234), some (.int x1), some (.int (nI (pAre A.w i))), some (.int (nI i)), none] [] am_SH μ 0 0 := by
  intro r
  induction r with
  | zero =>
    intro i hi
    have e : i = 8 := by omega
    subst e
    refine aw_iload_n dX8_count_4 rfl ?_
    refine aw_bipush (v := nI 8) dX8_count_5 rfl ?_
    refine aw_icmp_ge (tgt := 33) dX8_count_7 (by decide) (fun c7 => ?_) (fun c7 => ?_)
    · refine aw_iconst (v := nI 0) dX8_count_33 rfl ?_
      refine aw_istore_n dX8_count_34 (Nat.le_of_ble_eq_true rfl) ?_
      refine aw_iconst (v := nI 0) dX8_count_35 rfl ?_
      refine aw_istore dX8_count_36 (Nat.le_of_ble_eq_true rfl) ?_
      exact l2_X8_count A h ok x1 (A.K 5) 0 (by omega)
    · exact absurd (nI_le (by omega) (by omega)) c7
  | succ r ih =>
    intro i hi
    have hg := mrow_ge (h.rows i (by omega))
    refine aw_iload_n dX8_count_4 rfl ?_
    refine aw_bipush (v := nI 8) dX8_count_5 rfl ?_
    refine aw_icmp_ge (tgt := 33) dX8_count_7 (by decide) (fun c7 => ?_) (fun c7 => ?_)
    · exact absurd c7 (nI_ge (by omega) (by omega))
    · refine aw_iload_n dX8_count_10 rfl ?_
      refine aw_aload_n dX8_count_11 rfl ?_
      refine aw_gr dX8_count_12 gf_X8_13 sh_234 (by rfl) ?_
      refine aw_iload_n dX8_count_15 rfl ?_
      refine aw_iald dX8_count_16 sh_236 rfl (by omega) (by decide) ?_
      refine aw_if_ge (tgt := 24) dX8_count_17 (by decide) (fun c17 => ?_) (fun c17 => ?_)
      · rw [hg] at c17
        have e1 : pAre A.w (i + 1) = pAre A.w i + 1 := by rw [pAre, if_pos (Option.isSome_iff_ne_none.mpr c17)]
        refine aw_iconst (v := nI 1) dX8_count_24 rfl ?_
        refine aw_iadd dX8_count_25 ?_
        refine aw_top ((nI_add _ _).trans (congrArg nI e1.symm)) ?_
        refine aw_istore_n dX8_count_26 (Nat.le_of_ble_eq_true rfl) ?_
        refine aw_iinc (v := nI (i + 1)) dX8_count_27 rfl (nI_1 i) (Nat.le_of_ble_eq_true rfl) ?_
        refine aw_goto (tgt := 4) dX8_count_30 (by decide) ?_
        exact ih (i + 1) (by omega)
      · rw [hg, Decidable.not_not] at c17
        have e1 : pAre A.w (i + 1) = pAre A.w i + 0 := by rw [pAre, c17]; rfl
        refine aw_iconst (v := nI 0) dX8_count_20 rfl ?_
        refine aw_goto (tgt := 25) dX8_count_21 (by decide) ?_
        refine aw_iadd dX8_count_25 ?_
        refine aw_top ((nI_add _ _).trans (congrArg nI e1.symm)) ?_
        refine aw_istore_n dX8_count_26 (Nat.le_of_ble_eq_true rfl) ?_
        refine aw_iinc (v := nI (i + 1)) dX8_count_27 rfl (nI_1 i) (Nat.le_of_ble_eq_true rfl) ?_
        refine aw_goto (tgt := 4) dX8_count_30 (by decide) ?_
        exact ih (i + 1) (by omega)
set_option maxRecDepth 100000 in
set_option maxHeartbeats 4000000 in
theorem c_X8_count {G : am_G} {μ : am_M} (A : pA) (h : InvM μ A) (ok : okA A) (x1 : Int32) : am_MA G yX8_count cX8_count 5 (some .int) 1 0 0 [.ref 234, .int x1] am_SH μ (am_P (some (.int (oCount A x1).1)) am_SH (fun μ9 => InvM μ9 (oCount A x1).2 ∧ am_fr μ μ9 234 14)) := by
  refine am_ofK (own := RX8) (nm := "count") (L := [some (.ref 234), some (.int x1), none, none, none]) rfl rfl (by decide +kernel) (Nat.le_of_ble_eq_true rfl) rfl ?_
  refine aw_iconst (v := nI 0) dX8_count_0 rfl ?_
  refine aw_istore_n dX8_count_1 (Nat.le_of_ble_eq_true rfl) ?_
  refine aw_iconst (v := nI 0) dX8_count_2 rfl ?_
  refine aw_istore_n dX8_count_3 (Nat.le_of_ble_eq_true rfl) ?_
  exact l_X8_count A h ok x1 8 0 rfl
set_option maxRecDepth 100000 in
set_option maxHeartbeats 4000000 in
theorem l3_X8_rule {G : am_G} {μ : am_M} {μ1 : am_M} (A : pA) (h : InvM μ A) (n : Nat) (x2 : Int32) (hm : ∀ l, l < 10 → μ1 247 l = nI (pRlC A.K n l)) (hle : ∀ l, pRlC A.K n l ≤ 1000) (hf : am_fr μ μ1 245 3) : ∀ (r b : Nat), b + r = 9 → am_W (am_K G RX8 "rule" 5 (some .int) 4 0 0 (am_P (some (.int (if x2 = 0 then nI (pBs (pRlC A.K n) 9) else nI (pRlC A.K n (pBs (pRlC A.K n) 9))))) am_SH (fun μ9 => InvM μ9 A ∧ am_fr μ μ9 234 14))) cX8_rule 122 [some (.ref 234), some (.int (nI n)), some (.int x2), some (.int (nI (pBs (pRlC A.K n) b))), some (.int (nI (b + 1)))] [] am_SH μ1 0 0 := by
  intro r
  induction r with
  | zero =>
    intro b hb
    have e : b = 9 := by omega
    subst e
    have hbs := pBs_le (pRlC A.K n) 9
    refine aw_iload dX8_rule_122 rfl ?_
    refine aw_bipush (v := nI 10) dX8_rule_124 rfl ?_
    refine aw_icmp_ge (tgt := 158) dX8_rule_126 (by decide) (fun c126 => ?_) (fun c126 => ?_)
    · refine aw_iload_n dX8_rule_158 rfl ?_
      refine aw_if_ne (tgt := 166) dX8_rule_159 (by decide) (fun c159 => ?_) (fun c159 => ?_)
      · refine aw_aload_n dX8_rule_166 rfl ?_
        refine aw_gr dX8_rule_167 gf_X8_47 sh_234 (by rfl) ?_
        refine aw_iload_n dX8_rule_170 rfl ?_
        refine aw_iald dX8_rule_171 sh_247 rfl (by omega) (by decide) ?_
        refine aw_top (hm _ (by omega)) ?_
        refine aw_iret dX8_rule_172 rfl rfl rfl rfl ?_
        refine ⟨congrArg (fun z => some (Value.int z)) ?_, rfl, (h.f2 (fun b hb => hf b (by omega))), hf.mono (by omega) (by omega)⟩
        rw [if_neg c159]
      · refine aw_iload_n dX8_rule_162 rfl ?_
        refine aw_goto (tgt := 172) dX8_rule_163 (by decide) ?_
        refine aw_iret dX8_rule_172 rfl rfl rfl rfl ?_
        refine ⟨congrArg (fun z => some (Value.int z)) ?_, rfl, (h.f2 (fun b hb => hf b (by omega))), hf.mono (by omega) (by omega)⟩
        rw [if_pos c159]
    · exact absurd (nI_le (by omega) (by omega)) c126
  | succ r ih =>
    intro b hb
    have hbs := pBs_le (pRlC A.K n) b
    refine aw_iload dX8_rule_122 rfl ?_
    refine aw_bipush (v := nI 10) dX8_rule_124 rfl ?_
    refine aw_icmp_ge (tgt := 158) dX8_rule_126 (by decide) (fun c126 => ?_) (fun c126 => ?_)
    · exact absurd c126 (nI_ge (by omega) (by omega))
    · refine aw_aload_n dX8_rule_129 rfl ?_
      refine aw_gr dX8_rule_130 gf_X8_47 sh_234 (by rfl) ?_
      refine aw_iload dX8_rule_133 rfl ?_
      refine aw_iald dX8_rule_135 sh_247 rfl (by omega) (by decide) ?_
      refine aw_top (hm (b + 1) (by omega)) ?_
      refine aw_aload_n dX8_rule_136 rfl ?_
      refine aw_gr dX8_rule_137 gf_X8_47 sh_234 (by rfl) ?_
      refine aw_iload_n dX8_rule_140 rfl ?_
      refine aw_iald dX8_rule_141 sh_247 rfl (by omega) (by decide) ?_
      refine aw_top (hm _ (by omega)) ?_
      refine aw_icmp_le (tgt := 150) dX8_rule_142 (by decide) (fun c142 => ?_) (fun c142 => ?_)
      · rw [nI_leI (by have := hle (b + 1); omega) (by have := hle (pBs (pRlC A.K n) b); omega)] at c142
        have e1 : pBs (pRlC A.K n) (b + 1) = pBs (pRlC A.K n) b := by rw [pBs, if_neg (by omega)]
        refine aw_iload_n dX8_rule_150 rfl ?_
        refine aw_istore_n dX8_rule_151 (Nat.le_of_ble_eq_true rfl) ?_
        refine aw_iinc (v := nI (b + 1 + 1)) dX8_rule_152 rfl (nI_1 _) (Nat.le_of_ble_eq_true rfl) ?_
        refine aw_goto (tgt := 122) dX8_rule_155 (by decide) ?_
        have := ih (b + 1) (by omega)
        rw [e1] at this
        exact this
      · rw [nI_leI (by have := hle (b + 1); omega) (by have := hle (pBs (pRlC A.K n) b); omega)] at c142
        have e1 : pBs (pRlC A.K n) (b + 1) = b + 1 := by rw [pBs, if_pos (by omega)]
        refine aw_iload dX8_rule_145 rfl ?_
        refine aw_goto (tgt := 151) dX8_rule_147 (by decide) ?_
        refine aw_istore_n dX8_rule_151 (Nat.le_of_ble_eq_true rfl) ?_
        refine aw_iinc (v := nI (b + 1 + 1)) dX8_rule_152 rfl (nI_1 _) (Nat.le_of_ble_eq_true rfl) ?_
        refine aw_goto (tgt := 122) dX8_rule_155 (by decide) ?_
        have := ih (b + 1) (by omega)
        rw [e1] at this
        exact this
set_option maxRecDepth 100000 in
set_option maxHeartbeats 4000000 in
theorem l2_X8_rule {G : am_G} {μ : am_M} (A : pA) (n : Nat) (x2 : Int32) (i : Nat) (L : pK) (hO : pOK L) (c : Nat → Nat) (kk : ∀ (μ1 : am_M) (Y : Option Value), mC μ1 245 L → (∀ l, l < 10 → μ1 247 l = nI (pAddO L (L 5) c l)) → am_fr μ μ1 245 3 → am_W (am_K G RX8 "rule" 5 (some .int) 4 0 0 (am_P (some (.int (if x2 = 0 then nI (pBs (pRlC A.K n) 9) else nI (pRlC A.K n (pBs (pRlC A.K n) 9))))) am_SH (fun μ9 => InvM μ9 A ∧ am_fr μ μ9 234 14))) cX8_rule 60 [some (.ref 234), some (.int (nI n)), some (.int x2), some (.int (nI (i + 1))), Y] [] am_SH μ1 0 0) : ∀ (r o : Nat) (μ1 : am_M), o + r = L 5 → mC μ1 245 L → (∀ l, l < 10 → μ1 247 l = nI (pAddO L o c l)) → am_fr μ μ1 245 3 → am_W (am_K G RX8 "rule" 5 (some .int) 4 0 0 (am_P (some (.int (if x2 = 0 then nI (pBs (pRlC A.K n) 9) else nI (pRlC A.K n (pBs (pRlC A.K n) 9))))) am_SH (fun μ9 => InvM μ9 A ∧ am_fr μ μ9 234 14))) cX8_rule 75 [some (.ref 234), some (.int (nI n)), some (.int x2), some (.int (nI i)), some (.int (nI o))] [] am_SH μ1 0 0 := by
  have h5 := hO.1
  intro r
  induction r with
  | zero =>
    intro o μ1 ho hL hm hf
    have e : o = L 5 := by omega
    subst e
    refine aw_iload dX8_rule_75 rfl ?_
    refine aw_aload_n dX8_rule_77 rfl ?_
    refine aw_gr dX8_rule_78 gf_X8_41 sh_234 (by rfl) ?_
    refine aw_iconst (v := nI 5) dX8_rule_81 rfl ?_
    refine aw_iald (j := 5) dX8_rule_82 sh_245 rfl (by decide) (by decide) ?_
    refine aw_top (hL 5 (by decide)) ?_
    refine aw_icmp_ge (tgt := 111) dX8_rule_83 (by decide) (fun c83 => ?_) (fun c83 => ?_)
    · refine aw_iinc (v := nI (i + 1)) dX8_rule_111 rfl (nI_1 i) (Nat.le_of_ble_eq_true rfl) ?_
      refine aw_goto (tgt := 60) dX8_rule_114 (by decide) ?_
      exact kk μ1 _ hL hm hf
    · exact absurd (nI_le (by omega) (by omega)) c83
  | succ r ih =>
    intro o μ1 ho hL hm hf
    have gl := (hO.2.2.2.2 o (by omega)).2.1
    refine aw_iload dX8_rule_75 rfl ?_
    refine aw_aload_n dX8_rule_77 rfl ?_
    refine aw_gr dX8_rule_78 gf_X8_41 sh_234 (by rfl) ?_
    refine aw_iconst (v := nI 5) dX8_rule_81 rfl ?_
    refine aw_iald (j := 5) dX8_rule_82 sh_245 rfl (by decide) (by decide) ?_
    refine aw_top (hL 5 (by decide)) ?_
    refine aw_icmp_ge (tgt := 111) dX8_rule_83 (by decide) (fun c83 => ?_) (fun c83 => ?_)
    · exact absurd c83 (nI_ge (by omega) (by omega))
    · refine aw_aload_n dX8_rule_86 rfl ?_
      refine aw_gr dX8_rule_87 gf_X8_47 sh_234 (by rfl) ?_
      refine aw_aload_n dX8_rule_90 rfl ?_
      refine aw_gr dX8_rule_91 gf_X8_41 sh_234 (by rfl) ?_
      refine aw_bipush (v := nI 12) dX8_rule_94 rfl ?_
      refine aw_iload dX8_rule_96 rfl ?_
      refine aw_iadd dX8_rule_98 ?_
      refine aw_top (nI_add _ _) ?_
      refine aw_iald dX8_rule_99 sh_245 rfl (by omega) (by decide) ?_
      refine aw_top (hL (12 + o) (by omega)) ?_
      refine aw_dup2 dX8_rule_100 rfl rfl ?_
      refine aw_iald dX8_rule_101 sh_247 rfl (by omega) (by decide) ?_
      refine aw_top (hm _ (by omega)) ?_
      refine aw_iconst (v := nI 1) dX8_rule_102 rfl ?_
      refine aw_iadd dX8_rule_103 ?_
      refine aw_top (nI_add _ _) ?_
      refine aw_iast dX8_rule_104 sh_247 rfl (by omega) (by decide) ?_
      refine aw_iinc (v := nI (o + 1)) dX8_rule_105 rfl (nI_1 o) (Nat.le_of_ble_eq_true rfl) ?_
      refine aw_goto (tgt := 75) dX8_rule_108 (by decide) ?_
      refine ih (o + 1) _ (by omega) (hL.fr (am_up_n (by decide))) (fun l hl => ?_) (hf.up (by omega) (by omega))
      rw [am_ups]
      by_cases e : l = L (12 + o)
      · rw [e, pk_us]; show _ = nI (pUp _ _ _ _); rw [pUp_s]
      · rw [pk_un e]; show _ = nI (pUp _ _ _ _); rw [pUp_n e]; exact hm l hl
theorem pAddO_l2 (L : pK) (c : Nat → Nat) (l : Nat) : ∀ o, pAddO L o c l ≤ c l + o
  | 0 => Nat.le_refl _
  | o + 1 => by
    have h1 := pAddO_l2 L c l o
    show pUp _ _ _ _ ≤ _
    by_cases e : l = L (12 + o)
    · rw [← e, pUp_s]; omega
    · rw [pUp_n e]; omega
set_option maxRecDepth 100000 in
set_option maxHeartbeats 4000000 in
theorem l_X8_rule {G : am_G} {μ : am_M} (A : pA) (h : InvM μ A) (n : Nat) (x2 : Int32) (hn : n ≤ 60) : ∀ (r i : Nat) (L : pK) (c : Nat → Nat) (μ1 : am_M) (Y : Option Value), i + r = n → mC μ1 245 L → pOK L → L 6 + r ≤ 1000000 → (∀ l, l < 10 → μ1 247 l = nI (c l)) → am_fr μ μ1 245 3 → (∀ l, c l ≤ 5 * i) → pRl r L c = pRlC A.K n → am_W (am_K G RX8 "rule" 5 (some .int) 4 0 0 (am_P (some (.int (if x2 = 0 then nI (pBs (pRlC A.K n) 9) else nI (pRlC A.K n (pBs (pRlC A.K n) 9))))) am_SH (fun μ9 => InvM μ9 A ∧ am_fr μ μ9 234 14))) cX8_rule 60 [some (.ref 234), some (.int (nI n)), some (.int x2), some (.int (nI i)), Y] [] am_SH μ1 0 0 := by
  intro r
  induction r with
  | zero =>
    intro i L c μ1 Y hi hL hO h6 hm hf hle e
    have e2 : c = pRlC A.K n := e
    subst e2
    have hle2 : ∀ l, pRlC A.K n l ≤ 1000 := fun l => by have := hle l; omega
    refine aw_iload_n dX8_rule_60 rfl ?_
    refine aw_iload_n dX8_rule_61 rfl ?_
    refine aw_icmp_ge (tgt := 117) dX8_rule_62 (by decide) (fun c62 => ?_) (fun c62 => ?_)
    · refine aw_iconst (v := nI 0) dX8_rule_117 rfl ?_
      refine aw_istore_n dX8_rule_118 (Nat.le_of_ble_eq_true rfl) ?_
      refine aw_iconst (v := nI 1) dX8_rule_119 rfl ?_
      refine aw_istore dX8_rule_120 (Nat.le_of_ble_eq_true rfl) ?_
      exact l3_X8_rule A h n x2 hm hle2 hf 9 0 rfl
    · exact absurd (nI_le (by omega) (by omega)) c62
  | succ r ih =>
    intro i L c μ1 Y hi hL hO h6 hm hf hle e
    refine aw_iload_n dX8_rule_60 rfl ?_
    refine aw_iload_n dX8_rule_61 rfl ?_
    refine aw_icmp_ge (tgt := 117) dX8_rule_62 (by decide) (fun c62 => ?_) (fun c62 => ?_)
    · exact absurd c62 (nI_ge (by omega) (by omega))
    · refine aw_aload_n dX8_rule_65 rfl ?_
      refine aw_gr dX8_rule_66 gf_X8_41 sh_234 (by rfl) ?_
      refine aw_s1vp dX8_rule_69 ml_X8_175 st_X8_hourGoes (c_X8_hourGoes 245 sh_245 L hL hO) (Nat.le_of_ble_eq_true rfl) (Nat.le_of_ble_eq_true rfl) (Nat.le_of_ble_eq_true rfl) (Nat.le_of_ble_eq_true rfl) (Nat.le_of_ble_eq_true rfl) (fun μ2 q2 => ?_)
      refine aw_iconst (v := nI 0) dX8_rule_72 rfl ?_
      refine aw_istore dX8_rule_73 (Nat.le_of_ble_eq_true rfl) ?_
      have e6 : pHour L 6 = L 6 + 1 := pHour_6
      have hO2 := pHour_ok hO (by omega)
      refine l2_X8_rule A n x2 i (pHour L) hO2 c (fun μ3 Y g1 g2 g3 => ih (i + 1) (pHour L) _ μ3 Y (by omega) g1 hO2 (by omega) g2 g3 (fun l => ?_) e) (pHour L 5) 0 μ2 (by omega) q2.1 (fun l hl => by rw [q2.2 247 (by omega)]; exact hm l hl) (hf.tr (q2.2.mono (by omega) (by omega)))
      have := pAddO_l2 (pHour L) c l (pHour L 5)
      have := hle l
      have := hO2.1
      omega
set_option maxRecDepth 100000 in
set_option maxHeartbeats 4000000 in
theorem l0_X8_rule {G : am_G} {μ : am_M} (A : pA) (h : InvM μ A) (ok : okA A) (n : Nat) (x2 : Int32) (hn : n ≤ 60) : ∀ (r c : Nat) (μ1 : am_M), c + r = 10 → (∀ l, l < c → μ1 247 l = nI 0) → am_fr μ μ1 247 1 → am_W (am_K G RX8 "rule" 5 (some .int) 4 0 0 (am_P (some (.int (if x2 = 0 then nI (pBs (pRlC A.K n) 9) else nI (pRlC A.K n (pBs (pRlC A.K n) 9))))) am_SH (fun μ9 => InvM μ9 A ∧ am_fr μ μ9 234 14))) cX8_rule 34 [some (.ref 234), some (.int (nI n)), some (.int x2), some (.int (nI c)), none] [] am_SH μ1 0 0 := by
  intro r
  induction r with
  | zero =>
    intro c μ1 hc hm hf
    have e : c = 10 := by omega
    subst e
    refine aw_iload_n dX8_rule_34 rfl ?_
    refine aw_bipush (v := nI 10) dX8_rule_35 rfl ?_
    refine aw_icmp_ge (tgt := 53) dX8_rule_37 (by decide) (fun c37 => ?_) (fun c37 => ?_)
    · refine aw_aload_n dX8_rule_53 rfl ?_
      refine aw_iconst (v := nI 0) dX8_rule_54 rfl ?_
      refine aw_v1vp dX8_rule_55 ml_X8_212 im_X8_goAside se_X8_goAside (c_X8_goAside A (h.f2 (fun b hb => hf b (by omega))) ok 0 (by omega)) sh_234 (by decide) rfl rfl (Nat.le_of_ble_eq_true rfl) (Nat.le_of_ble_eq_true rfl) (Nat.le_of_ble_eq_true rfl) (Nat.le_of_ble_eq_true rfl) (Nat.le_of_ble_eq_true rfl) (fun μ2 q2 => ?_)
      refine aw_iconst (v := nI 0) dX8_rule_58 rfl ?_
      refine aw_istore_n dX8_rule_59 (Nat.le_of_ble_eq_true rfl) ?_
      exact l_X8_rule A h n x2 hn n 0 A.K (fun _ => 0) μ2 _ (by omega) q2.1 ok.k (by have := ok.k6; omega) (fun l hl => by rw [q2.2 247 (by omega)]; exact hm l hl) ((hf.mono (by omega) (by omega)).tr (q2.2.mono (by omega) (by omega))) (fun l => by omega) rfl
    · exact absurd (nI_le (by omega) (by omega)) c37
  | succ r ih =>
    intro c μ1 hc hm hf
    refine aw_iload_n dX8_rule_34 rfl ?_
    refine aw_bipush (v := nI 10) dX8_rule_35 rfl ?_
    refine aw_icmp_ge (tgt := 53) dX8_rule_37 (by decide) (fun c37 => ?_) (fun c37 => ?_)
    · exact absurd c37 (nI_ge (by omega) (by omega))
    · refine aw_aload_n dX8_rule_40 rfl ?_
      refine aw_gr dX8_rule_41 gf_X8_47 sh_234 (by rfl) ?_
      refine aw_iload_n dX8_rule_44 rfl ?_
      refine aw_iconst (v := nI 0) dX8_rule_45 rfl ?_
      refine aw_iast dX8_rule_46 sh_247 rfl (by omega) (by decide) ?_
      refine aw_iinc (v := nI (c + 1)) dX8_rule_47 rfl (nI_1 c) (Nat.le_of_ble_eq_true rfl) ?_
      refine aw_goto (tgt := 34) dX8_rule_50 (by decide) ?_
      refine ih (c + 1) _ (by omega) (fun l hl => ?_) (hf.up (by omega) (by omega))
      rw [am_ups]
      by_cases e : l = c
      · rw [e, pk_us]
      · rw [pk_un e]; exact hm l (by omega)
set_option maxRecDepth 100000 in
set_option maxHeartbeats 4000000 in
theorem c_X8_rule {G : am_G} {μ : am_M} (A : pA) (h : InvM μ A) (ok : okA A) (x1 x2 : Int32) : am_MA G yX8_rule cX8_rule 5 (some .int) 4 0 0 [.ref 234, .int x1, .int x2] am_SH μ (am_P (some (.int (oRule A x1 x2).1)) am_SH (fun μ9 => InvM μ9 (oRule A x1 x2).2 ∧ am_fr μ μ9 234 14)) := by
  refine am_ofK (own := RX8) (nm := "rule") (L := [some (.ref 234), some (.int x1), some (.int x2), none, none]) rfl rfl (by decide +kernel) (Nat.le_of_ble_eq_true rfl) rfl ?_
  refine aw_aload_n dX8_rule_0 rfl ?_
  refine aw_gi dX8_rule_1 gf_X8_137 sh_234 (by rfl) ?_
  refine aw_top h.is ?_
  refine aw_pif_ne (tgt := 10) dX8_rule_4 (by decide) (fun s4 => ?_) (fun s4 => ?_)
  · refine aw_iload_n dX8_rule_10 rfl ?_
    refine aw_i2l dX8_rule_11 ?_
    refine aw_lconst (v := lN 1) dX8_rule_12 rfl ?_
    refine aw_ldc2 dX8_rule_13 kl_X8_195 ?_
    refine aw_s3i dX8_rule_16 ml_X8_57 st_X8_in (c_X8_in _ 1 61 (by decide +kernel) (by decide +kernel)) (Nat.le_of_ble_eq_true rfl) (Nat.le_of_ble_eq_true rfl) (Nat.le_of_ble_eq_true rfl) (Nat.le_of_ble_eq_true rfl) (Nat.le_of_ble_eq_true rfl) ?_
    refine aw_pif_eq (tgt := 29) dX8_rule_19 (by decide) (fun c19 => ?_) (fun c19 => ?_)
    · refine aw_ldc dX8_rule_29 kc_X8_67 ?_
      refine aw_iret dX8_rule_31 rfl rfl rfl rfl ?_
      exact pAnsM ((if_neg s4).trans ((if_neg c19).trans rfl)) h am_fr.rf
    · obtain ⟨k19, rfl, ha19, hb19, hz19⟩ := pIn_ex c19
      refine aw_iload_n dX8_rule_22 rfl ?_
      refine aw_s1i dX8_rule_23 ml_X8_209 st_X8_isTwo (c_X8_isTwo _) (Nat.le_of_ble_eq_true rfl) (Nat.le_of_ble_eq_true rfl) (Nat.le_of_ble_eq_true rfl) (Nat.le_of_ble_eq_true rfl) (Nat.le_of_ble_eq_true rfl) ?_
      refine aw_pif_ne (tgt := 32) dX8_rule_26 (by decide) (fun c26 => ?_) (fun c26 => ?_)
      · refine aw_iconst (v := nI 0) dX8_rule_32 rfl ?_
        refine aw_istore_n dX8_rule_33 (Nat.le_of_ble_eq_true rfl) ?_
        have e9 : oRule A (nI k19) x2 = (if x2 = 0 then nI (pBs (pRlC A.K k19) 9) else nI (pRlC A.K k19 (pBs (pRlC A.K k19) 9)), A) := by
          rw [oRule, if_neg s4, if_pos c19, if_pos c26, zN_nI hz19]
          split <;> rfl
        rw [e9]
        exact l0_X8_rule A h ok k19 x2 (by omega) 10 0 μ rfl (fun l hl => absurd hl (by omega)) am_fr.rf
      · refine aw_ldc dX8_rule_29 kc_X8_67 ?_
        refine aw_iret dX8_rule_31 rfl rfl rfl rfl ?_
        exact pAnsM ((if_neg s4).trans ((if_pos c19).trans ((if_neg c26).trans rfl))) h am_fr.rf
  · replace s4 := Decidable.not_not.mp s4
    refine aw_ldc dX8_rule_7 kc_X8_169 ?_
    refine aw_iret dX8_rule_9 rfl rfl rfl rfl ?_
    exact pAnsM ((if_pos s4).trans rfl) h am_fr.rf
