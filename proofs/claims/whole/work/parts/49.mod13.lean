set_option maxRecDepth 100000 in
set_option maxHeartbeats 4000000 in
theorem x_X8_petition {G : am_G} {μ : am_M} {μ1 : am_M} (A : pA) (l r i n g d : Nat) (X : Option Value) (kk : ∀ (R X : Option Value), am_W (am_K G RX8 "petition" 10 (some .int) 4 0 0 (am_P (some (.int (if pAllO (A.K 5) (pItm (A.w r)) n i = true then A.ok (pPs l (fun d => zN ((pItm (A.w r)) (i + d))) n 61 0 A.K 0) else A.bad).1)) am_SH (fun μ9 => InvM μ9 (if pAllO (A.K 5) (pItm (A.w r)) n i = true then A.ok (pPs l (fun d => zN ((pItm (A.w r)) (i + d))) n 61 0 A.K 0) else A.bad).2 ∧ am_fr μ μ9 234 14))) cX8_petition 201 [some (.ref 234), some (.int (nI l)), some (.int (nI r)), some (.int (nI i)), some (.int (nI n)), some (.int 0), some (.int (nI d)), some (.int (nI g)), R, X] [] am_SH μ1 0 0) : am_W (am_K G RX8 "petition" 10 (some .int) 4 0 0 (am_P (some (.int (if pAllO (A.K 5) (pItm (A.w r)) n i = true then A.ok (pPs l (fun d => zN ((pItm (A.w r)) (i + d))) n 61 0 A.K 0) else A.bad).1)) am_SH (fun μ9 => InvM μ9 (if pAllO (A.K 5) (pItm (A.w r)) n i = true then A.ok (pPs l (fun d => zN ((pItm (A.w r)) (i + d))) n 61 0 A.K 0) else A.bad).2 ∧ am_fr μ μ9 234 14))) cX8_petition 119 [some (.ref 234), some (.int (nI l)), some (.int (nI r)), some (.int (nI i)), some (.int (nI n)), some (.int 0), some (.int (nI d)), some (.int (nI g)), some (.int (nI 0)), X] [] am_SH μ1 0 0 := by
  refine aw_iload dX8_petition_119 rfl ?_
  refine aw_iload dX8_petition_121 rfl ?_
  refine aw_icmp_ge (tgt := 201) dX8_petition_123 (by decide) (fun c123 => ?_) (fun c123 => ?_)
  · exact kk _ _
  · refine aw_iload dX8_petition_126 rfl ?_
    refine aw_if_eq (tgt := 201) dX8_petition_128 (by decide) (fun c128 => ?_) (fun c128 => ?_)
    · exact kk _ _
    · exact absurd (show nI 0 = 0 by decide +kernel) c128
theorem pBand_0 {h : Nat} : pBand h = 0 ↔ h < 6 := by
  unfold pBand
  split
  · exact ⟨fun _ => by assumption, fun _ => rfl⟩
  · split
    · omega
    · split <;> omega
set_option maxRecDepth 100000 in
set_option maxHeartbeats 4000000 in
theorem l3_X8_petition {G : am_G} {μ : am_M} {μ1 : am_M} (A : pA) (l r i n g : Nat) (hl : l ≤ 9) (hr : r < 8) (hin : i + n ≤ 40) (hn : n ≤ 8) (hos : ∀ d, d < n → pIn (pItm (A.w r) (i + d)) 0 (A.K 5)) (hit1 : ∀ j, j < 40 → μ1 237 (40 * r + j) = pItm (A.w r) j) (Lk : pK) (hL : mC μ1 245 Lk) (hO : pOK Lk) (h5 : Lk 5 = A.K 5) : ∀ (s d : Nat) (X : Option Value), d + s = n → (∀ (R X : Option Value), am_W (am_K G RX8 "petition" 10 (some .int) 4 0 0 (am_P (some (.int (if pAllO (A.K 5) (pItm (A.w r)) n i = true then A.ok (pPs l (fun d => zN ((pItm (A.w r)) (i + d))) n 61 0 A.K 0) else A.bad).1)) am_SH (fun μ9 => InvM μ9 (if pAllO (A.K 5) (pItm (A.w r)) n i = true then A.ok (pPs l (fun d => zN ((pItm (A.w r)) (i + d))) n 61 0 A.K 0) else A.bad).2 ∧ am_fr μ μ9 234 14))) cX8_petition 201 [some (.ref 234), some (.int (nI l)), some (.int (nI r)), some (.int (nI i)), some (.int (nI n)), some (.int 0), some (.int (nI (pAdv Lk l (fun d => zN ((pItm (A.w r)) (i + d))) s d))), some (.int (nI g)), R, X] [] am_SH μ1 0 0) → am_W (am_K G RX8 "petition" 10 (some .int) 4 0 0 (am_P (some (.int (if pAllO (A.K 5) (pItm (A.w r)) n i = true then A.ok (pPs l (fun d => zN ((pItm (A.w r)) (i + d))) n 61 0 A.K 0) else A.bad).1)) am_SH (fun μ9 => InvM μ9 (if pAllO (A.K 5) (pItm (A.w r)) n i = true then A.ok (pPs l (fun d => zN ((pItm (A.w r)) (i + d))) n 61 0 A.K 0) else A.bad).2 ∧ am_fr μ μ9 234 14))) cX8_petition 119 [some (.ref 234), some (.int (nI l)), some (.int (nI r)), some (.int (nI i)), some (.int (nI n)), some (.int 0), some (.int (nI d)), some (.int (nI g)), some (.int (nI 1)), X] [] am_SH μ1 0 0 := by
  have h55 := hO.1
  intro s
  induction s with
  | zero =>
    intro d X hd kk
    have e : d = n := by omega
    subst e
    refine aw_iload dX8_petition_119 rfl ?_
    refine aw_iload dX8_petition_121 rfl ?_
    refine aw_icmp_ge (tgt := 201) dX8_petition_123 (by decide) (fun c123 => ?_) (fun c123 => ?_)
    · exact kk _ _
    · exact absurd (nI_le (by omega) (by omega)) c123
  | succ s ih =>
    intro d X hd kk
    obtain ⟨o, eo, _, ho1, ho2⟩ := pIn_ex (hos d (by omega))
    have hzo : zN (pItm (A.w r) (i + d)) = o := by rw [eo, zN_nI ho2]
    have gl := (hO.2.2.2.2 o (by omega)).2
    refine aw_iload dX8_petition_119 rfl ?_
    refine aw_iload dX8_petition_121 rfl ?_
    refine aw_icmp_ge (tgt := 201) dX8_petition_123 (by decide) (fun c123 => ?_) (fun c123 => ?_)
    · exact absurd c123 (nI_ge (by omega) (by omega))
    · refine aw_iload dX8_petition_126 rfl ?_
      refine aw_if_eq (tgt := 201) dX8_petition_128 (by decide) (fun c128 => ?_) (fun c128 => ?_)
      · exact absurd c128 (by decide +kernel)
      · refine aw_aload_n dX8_petition_131 rfl ?_
        refine aw_gr dX8_petition_132 gf_X8_16 sh_234 (by rfl) ?_
        refine aw_bipush (v := nI 40) dX8_petition_135 rfl ?_
        refine aw_iload_n dX8_petition_137 rfl ?_
        refine aw_imul dX8_petition_138 ?_
        refine aw_top (pk_mul _ _) ?_
        refine aw_iload_n dX8_petition_139 rfl ?_
        refine aw_iadd dX8_petition_140 ?_
        refine aw_top (nI_add _ _) ?_
        refine aw_iload dX8_petition_141 rfl ?_
        refine aw_iadd dX8_petition_143 ?_
        refine aw_top (nI_add _ _) ?_
        refine aw_iald dX8_petition_144 sh_237 rfl (by omega) (by decide) ?_
        refine aw_top (show _ = nI o by rw [show 40 * r + i + d = 40 * r + (i + d) by omega, hit1 _ (by omega)]; exact eo) ?_
        refine aw_istore dX8_petition_145 (Nat.le_of_ble_eq_true rfl) ?_
        refine aw_aload_n dX8_petition_147 rfl ?_
        refine aw_gr dX8_petition_148 gf_X8_41 sh_234 (by rfl) ?_
        refine aw_bipush (v := nI 12) dX8_petition_151 rfl ?_
        refine aw_iload dX8_petition_153 rfl ?_
        refine aw_iadd dX8_petition_155 ?_
        refine aw_top (nI_add _ _) ?_
        refine aw_iald dX8_petition_156 sh_245 rfl (by omega) (by decide) ?_
        refine aw_top (hL (12 + o) (by omega)) ?_
        refine aw_iload_n dX8_petition_157 rfl ?_
        refine aw_icmp_ne (tgt := 180) dX8_petition_158 (by decide) (fun c158 => ?_) (fun c158 => ?_)
        · rw [nI_eq (by omega) (by omega)] at c158
          refine aw_iconst (v := nI 0) dX8_petition_180 rfl ?_
          refine aw_istore dX8_petition_181 (Nat.le_of_ble_eq_true rfl) ?_
          refine aw_iload dX8_petition_183 rfl ?_
          refine aw_iload dX8_petition_185 rfl ?_
          refine aw_if_eq (tgt := 194) dX8_petition_187 (by decide) (fun c187 => ?_) (fun c187 => ?_)
          · refine aw_iconst (v := nI 0) dX8_petition_194 rfl ?_
            refine aw_iadd dX8_petition_195 ?_
            refine aw_top (nI_add _ _) ?_
            refine aw_istore dX8_petition_196 (Nat.le_of_ble_eq_true rfl) ?_
            refine aw_goto (tgt := 119) dX8_petition_198 (by decide) ?_
            have ep : ¬ pRdB Lk l (zN (pItm (A.w r) (i + d))) = true := by rw [hzo]; unfold pRdB; exact fun q => c158 (of_decide_eq_true ((Bool.and_eq_true _ _).mp q).1)
            refine x_X8_petition A l r i n g d _ (fun R X => ?_)
            have := kk R X
            rw [pAdv, if_neg ep] at this
            exact this
          · exact absurd (show nI 0 = 0 by decide +kernel) c187
        · rw [nI_eq (by omega) (by omega)] at c158
          refine aw_aload_n dX8_petition_161 rfl ?_
          refine aw_gr dX8_petition_162 gf_X8_41 sh_234 (by rfl) ?_
          refine aw_bipush (v := nI 17) dX8_petition_165 rfl ?_
          refine aw_iload dX8_petition_167 rfl ?_
          refine aw_iadd dX8_petition_169 ?_
          refine aw_top (nI_add _ _) ?_
          refine aw_iald dX8_petition_170 sh_245 rfl (by omega) (by decide) ?_
          refine aw_top (hL (17 + o) (by omega)) ?_
          refine aw_bipush (v := nI 6) dX8_petition_171 rfl ?_
          refine aw_icmp_ge (tgt := 180) dX8_petition_173 (by decide) (fun c173 => ?_) (fun c173 => ?_)
          · rw [nI_leI (by decide) (by omega)] at c173
            refine aw_iconst (v := nI 0) dX8_petition_180 rfl ?_
            refine aw_istore dX8_petition_181 (Nat.le_of_ble_eq_true rfl) ?_
            refine aw_iload dX8_petition_183 rfl ?_
            refine aw_iload dX8_petition_185 rfl ?_
            refine aw_if_eq (tgt := 194) dX8_petition_187 (by decide) (fun c187 => ?_) (fun c187 => ?_)
            · refine aw_iconst (v := nI 0) dX8_petition_194 rfl ?_
              refine aw_iadd dX8_petition_195 ?_
              refine aw_top (nI_add _ _) ?_
              refine aw_istore dX8_petition_196 (Nat.le_of_ble_eq_true rfl) ?_
              refine aw_goto (tgt := 119) dX8_petition_198 (by decide) ?_
              have ep : ¬ pRdB Lk l (zN (pItm (A.w r) (i + d))) = true := by rw [hzo]; unfold pRdB; exact fun q => by have := of_decide_eq_true ((Bool.and_eq_true _ _).mp q).2; rw [pBand_0] at this; omega
              refine x_X8_petition A l r i n g d _ (fun R X => ?_)
              have := kk R X
              rw [pAdv, if_neg ep] at this
              exact this
            · exact absurd (show nI 0 = 0 by decide +kernel) c187
          · rw [nI_leI (by decide) (by omega)] at c173
            refine aw_iconst (v := nI 1) dX8_petition_176 rfl ?_
            refine aw_goto (tgt := 181) dX8_petition_177 (by decide) ?_
            refine aw_istore dX8_petition_181 (Nat.le_of_ble_eq_true rfl) ?_
            refine aw_iload dX8_petition_183 rfl ?_
            refine aw_iload dX8_petition_185 rfl ?_
            refine aw_if_eq (tgt := 194) dX8_petition_187 (by decide) (fun c187 => ?_) (fun c187 => ?_)
            · exact absurd c187 (by decide +kernel)
            · refine aw_iconst (v := nI 1) dX8_petition_190 rfl ?_
              refine aw_goto (tgt := 195) dX8_petition_191 (by decide) ?_
              refine aw_iadd dX8_petition_195 ?_
              refine aw_top (nI_add _ _) ?_
              refine aw_istore dX8_petition_196 (Nat.le_of_ble_eq_true rfl) ?_
              refine aw_goto (tgt := 119) dX8_petition_198 (by decide) ?_
              have ep : pRdB Lk l (zN (pItm (A.w r) (i + d))) = true := by rw [hzo]; unfold pRdB; rw [decide_eq_true c158, decide_eq_true (pBand_0.mpr (by omega))]; rfl
              refine ih (d + 1) _ (by omega) (fun R X => ?_)
              have := kk R X
              rw [pAdv, if_pos ep] at this
              exact this
set_option maxRecDepth 100000 in
set_option maxHeartbeats 4000000 in
theorem l2_X8_petition {G : am_G} {μ : am_M} (A : pA) (h : InvM μ A) (ok : okA A) (l r i n : Nat) (hl : l ≤ 9) (hr : r < 8) (hin : i + n ≤ 40) (hn : n ≤ 8) (hit : ∀ j, j < 40 → μ 237 (40 * r + j) = pItm (A.w r) j) (hall : pAllO (A.K 5) (pItm (A.w r)) n i = true) : ∀ (s g d : Nat) (Lk : pK) (μ1 : am_M) (R X : Option Value), g + s = 61 → d ≤ n → mC μ1 245 Lk → pOK Lk → Lk 5 = A.K 5 → Lk 6 + s ≤ 1000000 → am_fr μ μ1 245 1 → pPs l (fun d => zN ((pItm (A.w r)) (i + d))) n s g Lk d = pPs l (fun d => zN ((pItm (A.w r)) (i + d))) n 61 0 A.K 0 → am_W (am_K G RX8 "petition" 10 (some .int) 4 0 0 (am_P (some (.int (if pAllO (A.K 5) (pItm (A.w r)) n i = true then A.ok (pPs l (fun d => zN ((pItm (A.w r)) (i + d))) n 61 0 A.K 0) else A.bad).1)) am_SH (fun μ9 => InvM μ9 (if pAllO (A.K 5) (pItm (A.w r)) n i = true then A.ok (pPs l (fun d => zN ((pItm (A.w r)) (i + d))) n 61 0 A.K 0) else A.bad).2 ∧ am_fr μ μ9 234 14))) cX8_petition 109 [some (.ref 234), some (.int (nI l)), some (.int (nI r)), some (.int (nI i)), some (.int (nI n)), some (.int 0), some (.int (nI d)), some (.int (nI g)), R, X] [] am_SH μ1 0 0 := by
  have hos := pAllO_mem n i hall
  intro s
  induction s with
  | zero =>
    intro g d Lk μ1 R X hg hd hL hO h5 h6 hf e
    refine aw_iload dX8_petition_109 rfl ?_
    refine aw_bipush (v := nI 60) dX8_petition_111 rfl ?_
    refine aw_icmp_gt (tgt := 228) dX8_petition_113 (by decide) (fun c113 => ?_) (fun c113 => ?_)
    · refine aw_aload_n dX8_petition_228 rfl ?_
      refine aw_ldc dX8_petition_229 kc_X8_216 ?_
      refine aw_v1i dX8_petition_231 ml_X8_72 im_X8_well se_X8_well (c_X8_well _) sh_234 (by decide) rfl rfl (Nat.le_of_ble_eq_true rfl) (Nat.le_of_ble_eq_true rfl) (Nat.le_of_ble_eq_true rfl) (Nat.le_of_ble_eq_true rfl) (Nat.le_of_ble_eq_true rfl) ?_
      refine aw_iret dX8_petition_234 rfl rfl rfl rfl ?_
      refine pAnsM ?_ ((h.f2 (fun b hb => hf b (by omega))).fd 0) ((hf.mono (by omega) (by omega)).up (by omega) (by omega))
      rw [if_pos hall, ← e]
      rfl
    · exact absurd (nI_lt (by omega) (by omega)) c113
  | succ s ih =>
    intro g d Lk μ1 R X hg hd hL hO h5 h6 hf e
    have ha := pAdv_le Lk l (fun d => zN ((pItm (A.w r)) (i + d))) (n - d) d
    refine aw_iload dX8_petition_109 rfl ?_
    refine aw_bipush (v := nI 60) dX8_petition_111 rfl ?_
    refine aw_icmp_gt (tgt := 228) dX8_petition_113 (by decide) (fun c113 => ?_) (fun c113 => ?_)
    · exact absurd c113 (nI_nlt (by omega) (by omega))
    · refine aw_iconst (v := nI 1) dX8_petition_116 rfl ?_
      refine aw_istore dX8_petition_117 (Nat.le_of_ble_eq_true rfl) ?_
      refine l3_X8_petition A l r i n g hl hr hin hn hos (fun j hj => by rw [hf 237 (by omega)]; exact hit j hj) Lk hL hO h5 (n - d) d _ (by omega) (fun R X => ?_)
      refine aw_iload dX8_petition_201 rfl ?_
      refine aw_iload dX8_petition_203 rfl ?_
      refine aw_icmp_ne (tgt := 215) dX8_petition_205 (by decide) (fun c205 => ?_) (fun c205 => ?_)
      · rw [nI_eq (by omega) (by omega)] at c205
        rw [pPs, if_neg c205] at e
        refine aw_aload_n dX8_petition_215 rfl ?_
        refine aw_gr dX8_petition_216 gf_X8_41 sh_234 (by rfl) ?_
        refine aw_s1vp dX8_petition_219 ml_X8_175 st_X8_hourGoes (c_X8_hourGoes 245 sh_245 Lk hL hO) (Nat.le_of_ble_eq_true rfl) (Nat.le_of_ble_eq_true rfl) (Nat.le_of_ble_eq_true rfl) (Nat.le_of_ble_eq_true rfl) (Nat.le_of_ble_eq_true rfl) (fun μ2 q2 => ?_)
        refine aw_iinc (v := nI (g + 1)) dX8_petition_222 rfl (nI_1 g) (Nat.le_of_ble_eq_true rfl) ?_
        refine aw_goto (tgt := 109) dX8_petition_225 (by decide) ?_
        have e6 : pHour Lk 6 = Lk 6 + 1 := pHour_6
        exact ih (g + 1) _ (pHour Lk) μ2 _ _ (by omega) (by omega) q2.1 (pHour_ok hO (by omega)) (by rw [pHour_lo (by decide) (by decide)]; exact h5) (by omega) (hf.tr q2.2) e
      · rw [nI_eq (by omega) (by omega)] at c205
        rw [pPs, if_pos c205] at e
        refine aw_aload_n dX8_petition_208 rfl ?_
        refine aw_iload dX8_petition_209 rfl ?_
        refine aw_v1i dX8_petition_211 ml_X8_72 im_X8_well se_X8_well (c_X8_well _) sh_234 (by decide) rfl rfl (Nat.le_of_ble_eq_true rfl) (Nat.le_of_ble_eq_true rfl) (Nat.le_of_ble_eq_true rfl) (Nat.le_of_ble_eq_true rfl) (Nat.le_of_ble_eq_true rfl) ?_
        refine aw_iret dX8_petition_214 rfl rfl rfl rfl ?_
        refine pAnsM ?_ ((h.f2 (fun b hb => hf b (by omega))).fd 0) ((hf.mono (by omega) (by omega)).up (by omega) (by omega))
        rw [if_pos hall, ← e]
        rfl
set_option maxRecDepth 100000 in
set_option maxHeartbeats 4000000 in
theorem l_X8_petition {G : am_G} {μ : am_M} (A : pA) (h : InvM μ A) (ok : okA A) (l r i n : Nat) (hl : l ≤ 9) (hr : r < 8) (hin : i + n ≤ 40) (hn : n ≤ 8) (hit : ∀ j, j < 40 → μ 237 (40 * r + j) = pItm (A.w r) j) : ∀ (s k : Nat), k + s = n → pAllO (A.K 5) (pItm (A.w r)) s (i + k) = pAllO (A.K 5) (pItm (A.w r)) n i → am_W (am_K G RX8 "petition" 10 (some .int) 4 0 0 (am_P (some (.int (if pAllO (A.K 5) (pItm (A.w r)) n i = true then A.ok (pPs l (fun d => zN ((pItm (A.w r)) (i + d))) n 61 0 A.K 0) else A.bad).1)) am_SH (fun μ9 => InvM μ9 (if pAllO (A.K 5) (pItm (A.w r)) n i = true then A.ok (pPs l (fun d => zN ((pItm (A.w r)) (i + d))) n 61 0 A.K 0) else A.bad).2 ∧ am_fr μ μ9 234 14))) cX8_petition 61 [some (.ref 234), some (.int (nI l)), some (.int (nI r)), some (.int (nI i)), some (.int (nI n)), some (.int 0), some (.int (nI k)), none, none, none] [] am_SH μ 0 0 := by
  intro s
  induction s with
  | zero =>
    intro k hk e
    refine aw_iload dX8_petition_61 rfl ?_
    refine aw_iload dX8_petition_63 rfl ?_
    refine aw_icmp_ge (tgt := 98) dX8_petition_65 (by decide) (fun c65 => ?_) (fun c65 => ?_)
    · refine aw_aload_n dX8_petition_98 rfl ?_
      refine aw_iconst (v := nI 0) dX8_petition_99 rfl ?_
      refine aw_v1vp dX8_petition_100 ml_X8_212 im_X8_goAside se_X8_goAside (c_X8_goAside A h ok 0 (by omega)) sh_234 (by decide) rfl rfl (Nat.le_of_ble_eq_true rfl) (Nat.le_of_ble_eq_true rfl) (Nat.le_of_ble_eq_true rfl) (Nat.le_of_ble_eq_true rfl) (Nat.le_of_ble_eq_true rfl) (fun μ2 q2 => ?_)
      refine aw_iconst (v := nI 0) dX8_petition_103 rfl ?_
      refine aw_istore dX8_petition_104 (Nat.le_of_ble_eq_true rfl) ?_
      refine aw_iconst (v := nI 0) dX8_petition_106 rfl ?_
      refine aw_istore dX8_petition_107 (Nat.le_of_ble_eq_true rfl) ?_
      exact l2_X8_petition A h ok l r i n hl hr hin hn hit e.symm 61 0 0 A.K μ2 _ _ rfl (by omega) q2.1 ok.k rfl (by have := ok.k6; omega) q2.2 rfl
    · exact absurd (nI_le (by omega) (by omega)) c65
  | succ s ih =>
    intro k hk e
    refine aw_iload dX8_petition_61 rfl ?_
    refine aw_iload dX8_petition_63 rfl ?_
    refine aw_icmp_ge (tgt := 98) dX8_petition_65 (by decide) (fun c65 => ?_) (fun c65 => ?_)
    · exact absurd c65 (nI_ge (by omega) (by omega))
    · refine aw_aload_n dX8_petition_68 rfl ?_
      refine aw_aload_n dX8_petition_69 rfl ?_
      refine aw_gr dX8_petition_70 gf_X8_16 sh_234 (by rfl) ?_
      refine aw_bipush (v := nI 40) dX8_petition_73 rfl ?_
      refine aw_iload_n dX8_petition_75 rfl ?_
      refine aw_imul dX8_petition_76 ?_
      refine aw_top (pk_mul _ _) ?_
      refine aw_iload_n dX8_petition_77 rfl ?_
      refine aw_iadd dX8_petition_78 ?_
      refine aw_top (nI_add _ _) ?_
      refine aw_iload dX8_petition_79 rfl ?_
      refine aw_iadd dX8_petition_81 ?_
      refine aw_top (nI_add _ _) ?_
      refine aw_iald dX8_petition_82 sh_237 rfl (by omega) (by decide) ?_
      refine aw_top (show _ = pItm (A.w r) (i + k) by rw [show 40 * r + i + k = 40 * r + (i + k) by omega]; exact hit _ (by omega)) ?_
      refine aw_v1i dX8_petition_83 ml_X8_186 im_X8_isOffice se_X8_isOffice (c_X8_isOffice A h.sk ok.k _) sh_234 (by decide) rfl rfl (Nat.le_of_ble_eq_true rfl) (Nat.le_of_ble_eq_true rfl) (Nat.le_of_ble_eq_true rfl) (Nat.le_of_ble_eq_true rfl) (Nat.le_of_ble_eq_true rfl) ?_
      refine aw_pif_ne (tgt := 92) dX8_petition_86 (by decide) (fun c86 => ?_) (fun c86 => ?_)
      · refine aw_iinc (v := nI (k + 1)) dX8_petition_92 rfl (nI_1 k) (Nat.le_of_ble_eq_true rfl) ?_
        refine aw_goto (tgt := 61) dX8_petition_95 (by decide) ?_
        exact ih (k + 1) (by omega) (by rw [← e, pAllO, decide_eq_true c86]; rfl)
      · refine aw_ldc dX8_petition_89 kc_X8_67 ?_
        refine aw_iret dX8_petition_91 rfl rfl rfl rfl ?_
        refine pAnsM ?_ h am_fr.rf
        rw [if_neg (fun q => by rw [← e, pAllO, decide_eq_false c86] at q; exact absurd q (by simp))]
        rfl
set_option maxRecDepth 100000 in
set_option maxHeartbeats 4000000 in
theorem c_X8_petition {G : am_G} {μ : am_M} (A : pA) (h : InvM μ A) (ok : okA A) (x1 x2 x3 x4 : Int32) : am_MA G yX8_petition cX8_petition 10 (some .int) 4 0 0 [.ref 234, .int x1, .int x2, .int x3, .int x4] am_SH μ (am_P (some (.int (oPet A x1 x2 x3 x4).1)) am_SH (fun μ9 => InvM μ9 (oPet A x1 x2 x3 x4).2 ∧ am_fr μ μ9 234 14)) := by
  refine am_ofK (own := RX8) (nm := "petition") (L := [some (.ref 234), some (.int x1), some (.int x2), some (.int x3), some (.int x4), none, none, none, none, none]) rfl rfl (by decide +kernel) (Nat.le_of_ble_eq_true rfl) rfl ?_
  refine aw_aload_n dX8_petition_0 rfl ?_
  refine aw_gi dX8_petition_1 gf_X8_137 sh_234 (by rfl) ?_
  refine aw_top h.is ?_
  refine aw_pif_ne (tgt := 10) dX8_petition_4 (by decide) (fun s4 => ?_) (fun s4 => ?_)
  · refine aw_iload_n dX8_petition_10 rfl ?_
    refine aw_s1i dX8_petition_11 ml_X8_203 st_X8_isLand (c_X8_isLand _) (Nat.le_of_ble_eq_true rfl) (Nat.le_of_ble_eq_true rfl) (Nat.le_of_ble_eq_true rfl) (Nat.le_of_ble_eq_true rfl) (Nat.le_of_ble_eq_true rfl) ?_
    refine aw_pif_eq (tgt := 37) dX8_petition_14 (by decide) (fun c14 => ?_) (fun c14 => ?_)
    · refine aw_ldc dX8_petition_37 kc_X8_67 ?_
      refine aw_iret dX8_petition_39 rfl rfl rfl rfl ?_
      exact pAnsM ((if_neg s4).trans ((if_neg c14).trans rfl)) h am_fr.rf
    · obtain ⟨k14, rfl, ha14, hb14, hz14⟩ := pIn_ex c14
      refine aw_iload_n dX8_petition_17 rfl ?_
      refine aw_s1i dX8_petition_18 ml_X8_61 st_X8_isRow (c_X8_isRow _) (Nat.le_of_ble_eq_true rfl) (Nat.le_of_ble_eq_true rfl) (Nat.le_of_ble_eq_true rfl) (Nat.le_of_ble_eq_true rfl) (Nat.le_of_ble_eq_true rfl) ?_
      refine aw_pif_eq (tgt := 37) dX8_petition_21 (by decide) (fun c21 => ?_) (fun c21 => ?_)
      · refine aw_ldc dX8_petition_37 kc_X8_67 ?_
        refine aw_iret dX8_petition_39 rfl rfl rfl rfl ?_
        exact pAnsM ((if_neg s4).trans ((if_pos c14).trans ((if_neg c21).trans rfl))) h am_fr.rf
      · obtain ⟨k21, rfl, ha21, hb21, hz21⟩ := pIn_ex c21
        refine aw_iload dX8_petition_24 rfl ?_
        refine aw_i2l dX8_petition_26 ?_
        refine aw_lconst (v := lN 1) dX8_petition_27 rfl ?_
        refine aw_ldc2 dX8_petition_28 kl_X8_231 ?_
        refine aw_s3i dX8_petition_31 ml_X8_57 st_X8_in (c_X8_in _ 1 9 (by decide +kernel) (by decide +kernel)) (Nat.le_of_ble_eq_true rfl) (Nat.le_of_ble_eq_true rfl) (Nat.le_of_ble_eq_true rfl) (Nat.le_of_ble_eq_true rfl) (Nat.le_of_ble_eq_true rfl) ?_
        refine aw_pif_ne (tgt := 40) dX8_petition_34 (by decide) (fun c34 => ?_) (fun c34 => ?_)
        · obtain ⟨k34, rfl, ha34, hb34, hz34⟩ := pIn_ex c34
          by_cases hf0 : (pFind (A.w k21) x3 (nI k34)) = 0
          · refine aw_aload_n dX8_petition_40 rfl ?_
            refine aw_iload_n dX8_petition_41 rfl ?_
            refine aw_iload_n dX8_petition_42 rfl ?_
            refine aw_iload dX8_petition_43 rfl ?_
            refine aw_v3ip dX8_petition_45 ml_X8_233 im_X8_lies se_X8_lies (c_X8_lies0 A h k21 k34 (by omega) hz34 x3 hf0) sh_234 (by decide) rfl rfl (Nat.le_of_ble_eq_true rfl) (Nat.le_of_ble_eq_true rfl) (Nat.le_of_ble_eq_true rfl) (Nat.le_of_ble_eq_true rfl) (Nat.le_of_ble_eq_true rfl) (fun μ2 q2 => ?_)
            subst q2
            refine aw_istore dX8_petition_48 (Nat.le_of_ble_eq_true rfl) ?_
            refine aw_iload dX8_petition_50 rfl ?_
            refine aw_if_ge (tgt := 58) dX8_petition_52 (by decide) (fun c52 => ?_) (fun c52 => ?_)
            · obtain ⟨l, nn, f, i, ew, rfl, hin, hzi⟩ := pFind_sp hz34 hf0
              have hw := h.rows k21 (by omega)
              rw [ew] at hw
              have hn40 := hw.2.2.2.1
              have hit : ∀ j, j < 40 → μ2 237 (40 * k21 + j) = pItm (A.w k21) j := fun j hj => by rw [ew]; exact hw.2.2.2.2 j hj
              refine aw_iconst (v := nI 0) dX8_petition_58 rfl ?_
              refine aw_istore dX8_petition_59 (Nat.le_of_ble_eq_true rfl) ?_
              have e9 : oPet A (nI k14) (nI k21) (nI i) (nI k34) = (if pAllO (A.K 5) (pItm (A.w k21)) k34 i = true then A.ok (pPs k14 (fun d => zN ((pItm (A.w k21)) (i + d))) k34 61 0 A.K 0) else A.bad) := by
                rw [oPet, if_neg s4, if_pos c14, if_pos c21, if_pos c34, zN_nI hz21, if_pos hf0, zN_nI hz14, zN_nI hz34, zN_nI hzi]
              rw [e9]
              exact l_X8_petition A h ok k14 k21 i k34 (by omega) (by omega) (by omega) (by omega) hit k34 0 (by omega) rfl
            · exact absurd (show (0 : Int32) ≤ 0 by decide) c52
          · refine aw_aload_n dX8_petition_40 rfl ?_
            refine aw_iload_n dX8_petition_41 rfl ?_
            refine aw_iload_n dX8_petition_42 rfl ?_
            refine aw_iload dX8_petition_43 rfl ?_
            refine aw_v3ip dX8_petition_45 ml_X8_233 im_X8_lies se_X8_lies (c_X8_lies1 A h k21 k34 (by omega) hz34 x3 hf0) sh_234 (by decide) rfl rfl (Nat.le_of_ble_eq_true rfl) (Nat.le_of_ble_eq_true rfl) (Nat.le_of_ble_eq_true rfl) (Nat.le_of_ble_eq_true rfl) (Nat.le_of_ble_eq_true rfl) (fun μ2 q2 => ?_)
            subst q2
            refine aw_istore dX8_petition_48 (Nat.le_of_ble_eq_true rfl) ?_
            refine aw_iload dX8_petition_50 rfl ?_
            refine aw_if_ge (tgt := 58) dX8_petition_52 (by decide) (fun c52 => ?_) (fun c52 => ?_)
            · exact absurd c52 (z_fd _ (Nat.lt_of_le_of_lt (pFind_lt _ _ _) (by decide)))
            · refine aw_iload dX8_petition_55 rfl ?_
              refine aw_iret dX8_petition_57 rfl rfl rfl rfl ?_
              refine pAnsM ?_ (h.fd _) (am_fr.rf.up (by omega) (by omega))
              rw [oPet, if_neg s4, if_pos c14, if_pos c21, if_pos c34, zN_nI hz21, if_neg hf0]
              rfl
        · refine aw_ldc dX8_petition_37 kc_X8_67 ?_
          refine aw_iret dX8_petition_39 rfl rfl rfl rfl ?_
          exact pAnsM ((if_neg s4).trans ((if_pos c14).trans ((if_pos c21).trans ((if_neg c34).trans rfl)))) h am_fr.rf
  · replace s4 := Decidable.not_not.mp s4
    refine aw_ldc dX8_petition_7 kc_X8_169 ?_
    refine aw_iret dX8_petition_9 rfl rfl rfl rfl ?_
    exact pAnsM ((if_pos s4).trans rfl) h am_fr.rf
