/-! ===== the model's above ===== -/
theorem oAbove_eq {A : pA} (ok : okA A) {o l n h : Nat} {x5 : Int32} (c1 : pIn (nI o) 0 (A.K 5)) (c2 : pIn (nI l) 0 10) (c3 : pIn (nI n) 1 13) (c4 : pIn (nI h) 0 21) (c5 : (-1) ≤ x5) (z1 : o < 2 ^ 31) (z2 : l < 2 ^ 31) (z3 : n < 2 ^ 31) (z4 : h < 2 ^ 31) : oAbove A (nI o) (nI l) (nI n) (nI h) x5 = if pB A.K (A.K (7 + o)) l h n (A.K (12 + o)) (A.K (17 + o)) ≤ A.K (22 + o) then (if x5 < nI n then (if x5 = (-1) then (nI (pB A.K (A.K (7 + o)) l h n (A.K (12 + o)) (A.K (17 + o))), A) else (nI (pDg A.K (A.K (7 + o)) l h n (A.K (12 + o), A.K (17 + o)) (zN x5)), A)) else (zNONE, A)) else (zNONE, A) := by
  have d1 := (pIn_nI z1).mp c1
  have d2 := (pIn_nI z2).mp c2
  have d3 := (pIn_nI z3).mp c3
  have d4 := (pIn_nI z4).mp c4
  have e := pAb_eq (K := A.K) (o := o) (l := l) (n := n) (h := h) ok.k d1.2 (by omega) (by omega) (by omega)
  have h99 := (ok.k.2.2.2.2 o d1.2).2.2.2
  rw [oAbove, if_pos c1, if_pos c2, if_pos c3, if_pos c4, if_pos c5, zN_nI z1, zN_nI z2, zN_nI z3, zN_nI z4]
  by_cases c : pB A.K (A.K (7 + o)) l h n (A.K (12 + o)) (A.K (17 + o)) ≤ A.K (22 + o)
  · rw [if_pos c] at e ⊢
    have hB : pB A.K (A.K (7 + o)) l h n (A.K (12 + o), A.K (17 + o)).1 (A.K (12 + o), A.K (17 + o)).2 < pFAR := by
      show pB A.K (A.K (7 + o)) l h n (A.K (12 + o)) (A.K (17 + o)) < 1000000
      omega
    have hg := pGk_lt n (A.K (12 + o), A.K (17 + o)) hB
    have h4 : 4 ^ n ≤ 16777216 := Nat.le_trans (pow4_le (show n ≤ 12 by omega)) (by decide)
    rw [e, if_neg (by show ¬ _ = 2147483647; omega)]
    by_cases k1 : x5 < nI n
    · rw [if_pos k1, if_pos k1]
      by_cases k2 : x5 = (-1)
      · rw [if_pos k2, if_pos k2]
        congr 2
        omega
      · rw [if_neg k2, if_neg k2]
        obtain ⟨j, hj, rfl⟩ := z_m1 c5 k2
        rw [zN_nI hj, pDg_all _ (by omega) hB ((nI_ltI hj z3).mp k1)]
    · rw [if_neg k1, if_neg k1]
  · rw [if_neg c] at e ⊢
    rw [e, if_pos rfl]
set_option maxRecDepth 100000 in
set_option maxHeartbeats 4000000 in
theorem l2_X8_above {G : am_G} {μ : am_M} {μ1 : am_M} (A : pA) (ok : okA A) (k l0 n h0 : Nat) (hk1 : 1 ≤ k) (hk5 : k ≤ 5) (hn : n ≤ 12) (hK : mC μ1 239 A.K) (hF : ∀ a b c, b ≤ 9 → c ≤ 20 → a ≤ n → μ1 246 (210 * a + 21 * b + c) = nI (pB A.K k l0 h0 a b c)) (R : Int32) (o j b : Nat) (i m l y : Nat) (hi : i + (m + 1) = n) (hl : l ≤ 9) (hy : y ≤ 20) (hB : pB A.K k l0 h0 (m + 1) l y < pFAR) (kk : am_W (am_K G RX8 "above" 13 (some .int) 4 0 0 (am_P (some (.int R)) am_SH (fun μ9 => InvM μ9 A ∧ am_fr μ μ9 234 14))) cX8_above 187 [some (.ref 234), some (.int (nI o)), some (.int (nI l0)), some (.int (nI n)), some (.int (nI h0)), some (.int (nI j)), some (.int (nI k)), some (.int (nI l)), some (.int (nI y)), some (.int (nI b)), some (.int (nI i)), some (.int (nI (m + 1))), some (.int (nI (pGs A.K k l0 h0 m (l, y))))] [] am_SH μ1 0 0) : ∀ (r s : Nat), s + r = (pGs A.K k l0 h0 m (l, y)) → am_W (am_K G RX8 "above" 13 (some .int) 4 0 0 (am_P (some (.int R)) am_SH (fun μ9 => InvM μ9 A ∧ am_fr μ μ9 234 14))) cX8_above 150 [some (.ref 234), some (.int (nI o)), some (.int (nI l0)), some (.int (nI n)), some (.int (nI h0)), some (.int (nI j)), some (.int (nI k)), some (.int (nI l)), some (.int (nI y)), some (.int (nI b)), some (.int (nI i)), some (.int (nI (m + 1))), some (.int (nI s))] [] am_SH μ1 0 0 := by
  obtain ⟨g1, g2, g3⟩ := pGs_sp (q := (l, y)) hB
  intro r
  induction r with
  | zero =>
    intro s hs
    have e : s = (pGs A.K k l0 h0 m (l, y)) := by omega
    refine aw_aload_n dX8_above_150 rfl ?_
    refine aw_iload dX8_above_151 rfl ?_
    refine aw_iload dX8_above_153 rfl ?_
    refine aw_iload dX8_above_155 rfl ?_
    refine aw_iload dX8_above_157 rfl ?_
    refine aw_iload dX8_above_159 rfl ?_
    refine aw_v5i dX8_above_161 ml_X8_221 im_X8_fewestBy se_X8_fewestBy (c_X8_fewestBy A.K hK ok.k (pB A.K k l0 h0) k m l y s hk1 hk5 (by omega) hl hy (by omega) (fun a b d ha hb hd => hF a b d hb hd (by omega))) sh_234 (by decide) rfl rfl (Nat.le_of_ble_eq_true rfl) (Nat.le_of_ble_eq_true rfl) (Nat.le_of_ble_eq_true rfl) (Nat.le_of_ble_eq_true rfl) (Nat.le_of_ble_eq_true rfl) ?_
    have hb1 : _ ≤ 1000000 := pB_le A.K k l0 h0 m (pSt A.K k (l, y) s).1 (pSt A.K k (l, y) s).2
    have hb2 : _ ≤ 1000000 := pB_le A.K k l0 h0 (m + 1) l y
    refine aw_aload_n dX8_above_164 rfl ?_
    refine aw_gr dX8_above_165 gf_X8_44 sh_234 (by rfl) ?_
    refine aw_iload dX8_above_168 rfl ?_
    refine aw_iload dX8_above_170 rfl ?_
    refine aw_iload dX8_above_172 rfl ?_
    refine aw_s3i dX8_above_174 ml_X8_217 st_X8_cell (c_X8_cell (m + 1) l y) (Nat.le_of_ble_eq_true rfl) (Nat.le_of_ble_eq_true rfl) (Nat.le_of_ble_eq_true rfl) (Nat.le_of_ble_eq_true rfl) (Nat.le_of_ble_eq_true rfl) ?_
    refine aw_iald dX8_above_177 sh_246 rfl (by omega) (by decide) ?_
    refine aw_top (hF (m + 1) l y hl hy (by omega)) ?_
    refine aw_icmp_eq (tgt := 187) dX8_above_178 (by decide) (fun c178 => ?_) (fun c178 => ?_)
    · rw [e]
      exact kk
    · rw [nI_eq (by omega) (by omega)] at c178
      exact absurd (by rw [e]; exact g2) c178
  | succ r ih =>
    intro s hs
    refine aw_aload_n dX8_above_150 rfl ?_
    refine aw_iload dX8_above_151 rfl ?_
    refine aw_iload dX8_above_153 rfl ?_
    refine aw_iload dX8_above_155 rfl ?_
    refine aw_iload dX8_above_157 rfl ?_
    refine aw_iload dX8_above_159 rfl ?_
    refine aw_v5i dX8_above_161 ml_X8_221 im_X8_fewestBy se_X8_fewestBy (c_X8_fewestBy A.K hK ok.k (pB A.K k l0 h0) k m l y s hk1 hk5 (by omega) hl hy (by omega) (fun a b d ha hb hd => hF a b d hb hd (by omega))) sh_234 (by decide) rfl rfl (Nat.le_of_ble_eq_true rfl) (Nat.le_of_ble_eq_true rfl) (Nat.le_of_ble_eq_true rfl) (Nat.le_of_ble_eq_true rfl) (Nat.le_of_ble_eq_true rfl) ?_
    have hb1 : _ ≤ 1000000 := pB_le A.K k l0 h0 m (pSt A.K k (l, y) s).1 (pSt A.K k (l, y) s).2
    have hb2 : _ ≤ 1000000 := pB_le A.K k l0 h0 (m + 1) l y
    refine aw_aload_n dX8_above_164 rfl ?_
    refine aw_gr dX8_above_165 gf_X8_44 sh_234 (by rfl) ?_
    refine aw_iload dX8_above_168 rfl ?_
    refine aw_iload dX8_above_170 rfl ?_
    refine aw_iload dX8_above_172 rfl ?_
    refine aw_s3i dX8_above_174 ml_X8_217 st_X8_cell (c_X8_cell (m + 1) l y) (Nat.le_of_ble_eq_true rfl) (Nat.le_of_ble_eq_true rfl) (Nat.le_of_ble_eq_true rfl) (Nat.le_of_ble_eq_true rfl) (Nat.le_of_ble_eq_true rfl) ?_
    refine aw_iald dX8_above_177 sh_246 rfl (by omega) (by decide) ?_
    refine aw_top (hF (m + 1) l y hl hy (by omega)) ?_
    refine aw_icmp_eq (tgt := 187) dX8_above_178 (by decide) (fun c178 => ?_) (fun c178 => ?_)
    · rw [nI_eq (by omega) (by omega)] at c178
      exact absurd c178 (g3 s (by omega))
    · refine aw_iinc (v := nI (s + 1)) dX8_above_181 rfl (nI_1 s) (Nat.le_of_ble_eq_true rfl) ?_
      refine aw_goto (tgt := 150) dX8_above_184 (by decide) ?_
      exact ih (s + 1) (by omega)
set_option maxRecDepth 100000 in
set_option maxHeartbeats 4000000 in
theorem l_X8_above {G : am_G} {μ : am_M} {μ1 : am_M} (A : pA) (ok : okA A) (k l0 n h0 : Nat) (hk1 : 1 ≤ k) (hk5 : k ≤ 5) (hn : n ≤ 12) (hK : mC μ1 239 A.K) (hF : ∀ a b c, b ≤ 9 → c ≤ 20 → a ≤ n → μ1 246 (210 * a + 21 * b + c) = nI (pB A.K k l0 h0 a b c)) (R : Int32) (o j b : Nat) (hj : j < 2 ^ 31) (hE : InvM μ1 A ∧ am_fr μ μ1 234 14) : ∀ (m i l y : Nat) (X Y : Option Value), i + m = n → l ≤ 9 → y ≤ 20 → pB A.K k l0 h0 m l y < pFAR → i ≤ j → (if j < n then R = nI (pDg A.K k l0 h0 m (l, y) (j - i)) else R = zNONE) → am_W (am_K G RX8 "above" 13 (some .int) 4 0 0 (am_P (some (.int R)) am_SH (fun μ9 => InvM μ9 A ∧ am_fr μ μ9 234 14))) cX8_above 135 [some (.ref 234), some (.int (nI o)), some (.int (nI l0)), some (.int (nI n)), some (.int (nI h0)), some (.int (nI j)), some (.int (nI k)), some (.int (nI l)), some (.int (nI y)), some (.int (nI b)), some (.int (nI i)), X, Y] [] am_SH μ1 0 0 := by
  intro m
  induction m with
  | zero =>
    intro i l y X Y hi hl hy hB hij e
    rw [if_neg (by omega)] at e
    refine aw_iload dX8_above_135 rfl ?_
    refine aw_iload_n dX8_above_137 rfl ?_
    refine aw_icmp_ge (tgt := 234) dX8_above_138 (by decide) (fun c138 => ?_) (fun c138 => ?_)
    · refine aw_ldc dX8_above_234 kc_X8_216 ?_
      refine aw_iret dX8_above_236 rfl rfl rfl rfl ?_
      exact ⟨congrArg (fun z => some (Value.int z)) (e.symm), rfl, hE⟩
    · exact absurd (nI_le (by omega) (by omega)) c138
  | succ m ih =>
    intro i l y X Y hi hl hy hB hij e
    obtain ⟨g1, g2, g3⟩ := pGs_sp (q := (l, y)) hB
    refine aw_iload dX8_above_135 rfl ?_
    refine aw_iload_n dX8_above_137 rfl ?_
    refine aw_icmp_ge (tgt := 234) dX8_above_138 (by decide) (fun c138 => ?_) (fun c138 => ?_)
    · exact absurd c138 (nI_ge (by omega) (by omega))
    · refine aw_iload_n dX8_above_141 rfl ?_
      refine aw_iload dX8_above_142 rfl ?_
      refine aw_isub dX8_above_144 ?_
      refine aw_top (pk_sub (by omega)) ?_
      refine aw_top (show _ = nI (m + 1) by rw [show n - i = m + 1 by omega]) ?_
      refine aw_istore dX8_above_145 (Nat.le_of_ble_eq_true rfl) ?_
      refine aw_iconst (v := nI 0) dX8_above_147 rfl ?_
      refine aw_istore dX8_above_148 (Nat.le_of_ble_eq_true rfl) ?_
      refine l2_X8_above A ok k l0 n h0 hk1 hk5 hn hK hF R o j b i m l y hi hl hy hB ?_ (pGs A.K k l0 h0 m (l, y)) 0 (by omega)
      refine aw_iload dX8_above_187 rfl ?_
      refine aw_iload dX8_above_189 rfl ?_
      refine aw_icmp_ne (tgt := 197) dX8_above_191 (by decide) (fun c191 => ?_) (fun c191 => ?_)
      · rw [nI_eq (by omega) (by omega)] at c191
        refine aw_aload_n dX8_above_197 rfl ?_
        refine aw_gr dX8_above_198 gf_X8_22 sh_234 (by rfl) ?_
        refine aw_iload dX8_above_201 rfl ?_
        refine aw_iload dX8_above_203 rfl ?_
        refine aw_iload dX8_above_205 rfl ?_
        refine aw_s3i dX8_above_207 ml_X8_165 st_X8_lifted (c_X8_lifted k y (pGs A.K k l0 h0 m (l, y)) hk1 hk5 hy (by omega)) (Nat.le_of_ble_eq_true rfl) (Nat.le_of_ble_eq_true rfl) (Nat.le_of_ble_eq_true rfl) (Nat.le_of_ble_eq_true rfl) (Nat.le_of_ble_eq_true rfl) ?_
        have hl20 := pLifted_le k (pGs A.K k l0 h0 m (l, y)) y hy
        refine aw_s2i dX8_above_210 ml_X8_157 st_X8_sunk (c_X8_sunk 239 sh_239 A.K hK ok.k _ hl20) (Nat.le_of_ble_eq_true rfl) (Nat.le_of_ble_eq_true rfl) (Nat.le_of_ble_eq_true rfl) (Nat.le_of_ble_eq_true rfl) (Nat.le_of_ble_eq_true rfl) ?_
        refine aw_istore dX8_above_213 (Nat.le_of_ble_eq_true rfl) ?_
        refine aw_aload_n dX8_above_215 rfl ?_
        refine aw_gr dX8_above_216 gf_X8_22 sh_234 (by rfl) ?_
        refine aw_iload dX8_above_219 rfl ?_
        refine aw_iload dX8_above_221 rfl ?_
        refine aw_s3i dX8_above_223 ml_X8_161 st_X8_carried (c_X8_carried 239 sh_239 A.K hK ok.k l (pLifted k y (pGs A.K k l0 h0 m (l, y)) - A.K 4) hl (by omega)) (Nat.le_of_ble_eq_true rfl) (Nat.le_of_ble_eq_true rfl) (Nat.le_of_ble_eq_true rfl) (Nat.le_of_ble_eq_true rfl) (Nat.le_of_ble_eq_true rfl) ?_
        refine aw_istore dX8_above_226 (Nat.le_of_ble_eq_true rfl) ?_
        refine aw_iinc (v := nI (i + 1)) dX8_above_228 rfl (nI_1 i) (Nat.le_of_ble_eq_true rfl) ?_
        refine aw_goto (tgt := 135) dX8_above_231 (by decide) ?_
        have hst := pSt_le (K := A.K) (k := k) (q := (l, y)) (s := (pGs A.K k l0 h0 m (l, y))) hy
        have g4 : pBs1 A.K k l0 h0 m (l, y) (pGs A.K k l0 h0 m (l, y)) = pB A.K k l0 h0 (m + 1) l y := g2
        unfold pBs1 at g4
        have hlt : pB A.K k l0 h0 m (pSt A.K k (l, y) (pGs A.K k l0 h0 m (l, y))).1 (pSt A.K k (l, y) (pGs A.K k l0 h0 m (l, y))).2 < pFAR := by omega
        refine ih (i + 1) _ _ _ _ (by omega) hst.1 hst.2 hlt (by omega) ?_
        by_cases hjn : j < n
        · rw [if_pos hjn] at e ⊢
          rw [e, show j - i = j - (i + 1) + 1 by omega]
          rfl
        · rw [if_neg hjn] at e ⊢
          exact e
      · rw [nI_eq (by omega) (by omega)] at c191
        refine aw_iload dX8_above_194 rfl ?_
        refine aw_iret dX8_above_196 rfl rfl rfl rfl ?_
        rw [if_pos (by omega), show j - i = 0 by omega] at e
        exact ⟨congrArg (fun z => some (Value.int z)) (e.symm), rfl, hE⟩
set_option maxRecDepth 100000 in
set_option maxHeartbeats 4000000 in
theorem c_X8_above {G : am_G} {μ : am_M} (A : pA) (h : InvM μ A) (ok : okA A) (x1 x2 x3 x4 x5 : Int32) : am_MA G yX8_above cX8_above 13 (some .int) 4 0 0 [.ref 234, .int x1, .int x2, .int x3, .int x4, .int x5] am_SH μ (am_P (some (.int (oAbove A x1 x2 x3 x4 x5).1)) am_SH (fun μ9 => InvM μ9 (oAbove A x1 x2 x3 x4 x5).2 ∧ am_fr μ μ9 234 14)) := by
  have h5 := ok.k.1
  refine am_ofK (own := RX8) (nm := "above") (L := [some (.ref 234), some (.int x1), some (.int x2), some (.int x3), some (.int x4), some (.int x5), none, none, none, none, none, none, none]) rfl rfl (by decide +kernel) (Nat.le_of_ble_eq_true rfl) rfl ?_
  refine aw_aload_n dX8_above_0 rfl ?_
  refine aw_iload_n dX8_above_1 rfl ?_
  refine aw_v1i dX8_above_2 ml_X8_186 im_X8_isOffice se_X8_isOffice (c_X8_isOffice A h.sk ok.k _) sh_234 (by decide) rfl rfl (Nat.le_of_ble_eq_true rfl) (Nat.le_of_ble_eq_true rfl) (Nat.le_of_ble_eq_true rfl) (Nat.le_of_ble_eq_true rfl) (Nat.le_of_ble_eq_true rfl) ?_
  refine aw_pif_eq (tgt := 46) dX8_above_5 (by decide) (fun c5 => ?_) (fun c5 => ?_)
  · refine aw_ldc dX8_above_46 kc_X8_67 ?_
    refine aw_iret dX8_above_48 rfl rfl rfl rfl ?_
    exact pAnsM ((if_neg c5).trans rfl) h am_fr.rf
  · obtain ⟨k5, rfl, ha5, hb5, hz5⟩ := pIn_ex c5
    refine aw_iload_n dX8_above_8 rfl ?_
    refine aw_s1i dX8_above_9 ml_X8_203 st_X8_isLand (c_X8_isLand _) (Nat.le_of_ble_eq_true rfl) (Nat.le_of_ble_eq_true rfl) (Nat.le_of_ble_eq_true rfl) (Nat.le_of_ble_eq_true rfl) (Nat.le_of_ble_eq_true rfl) ?_
    refine aw_pif_eq (tgt := 46) dX8_above_12 (by decide) (fun c12 => ?_) (fun c12 => ?_)
    · refine aw_ldc dX8_above_46 kc_X8_67 ?_
      refine aw_iret dX8_above_48 rfl rfl rfl rfl ?_
      exact pAnsM ((if_pos c5).trans ((if_neg c12).trans rfl)) h am_fr.rf
    · obtain ⟨k12, rfl, ha12, hb12, hz12⟩ := pIn_ex c12
      refine aw_iload_n dX8_above_15 rfl ?_
      refine aw_i2l dX8_above_16 ?_
      refine aw_lconst (v := lN 1) dX8_above_17 rfl ?_
      refine aw_ldc2 dX8_above_18 kl_X8_225 ?_
      refine aw_s3i dX8_above_21 ml_X8_57 st_X8_in (c_X8_in _ 1 13 (by decide +kernel) (by decide +kernel)) (Nat.le_of_ble_eq_true rfl) (Nat.le_of_ble_eq_true rfl) (Nat.le_of_ble_eq_true rfl) (Nat.le_of_ble_eq_true rfl) (Nat.le_of_ble_eq_true rfl) ?_
      refine aw_pif_eq (tgt := 46) dX8_above_24 (by decide) (fun c24 => ?_) (fun c24 => ?_)
      · refine aw_ldc dX8_above_46 kc_X8_67 ?_
        refine aw_iret dX8_above_48 rfl rfl rfl rfl ?_
        exact pAnsM ((if_pos c5).trans ((if_pos c12).trans ((if_neg c24).trans rfl))) h am_fr.rf
      · obtain ⟨k24, rfl, ha24, hb24, hz24⟩ := pIn_ex c24
        refine aw_iload dX8_above_27 rfl ?_
        refine aw_i2l dX8_above_29 ?_
        refine aw_lconst (v := lN 0) dX8_above_30 rfl ?_
        refine aw_ldc2 dX8_above_31 kl_X8_189 ?_
        refine aw_s3i dX8_above_34 ml_X8_57 st_X8_in (c_X8_in _ 0 21 (by decide +kernel) (by decide +kernel)) (Nat.le_of_ble_eq_true rfl) (Nat.le_of_ble_eq_true rfl) (Nat.le_of_ble_eq_true rfl) (Nat.le_of_ble_eq_true rfl) (Nat.le_of_ble_eq_true rfl) ?_
        refine aw_pif_eq (tgt := 46) dX8_above_37 (by decide) (fun c37 => ?_) (fun c37 => ?_)
        · refine aw_ldc dX8_above_46 kc_X8_67 ?_
          refine aw_iret dX8_above_48 rfl rfl rfl rfl ?_
          exact pAnsM ((if_pos c5).trans ((if_pos c12).trans ((if_pos c24).trans ((if_neg c37).trans rfl)))) h am_fr.rf
        · obtain ⟨k37, rfl, ha37, hb37, hz37⟩ := pIn_ex c37
          refine aw_iload dX8_above_40 rfl ?_
          refine aw_iconst (v := (-1)) dX8_above_42 rfl ?_
          refine aw_icmp_ge (tgt := 49) dX8_above_43 (by decide) (fun c43 => ?_) (fun c43 => ?_)
          · rw [oAbove_eq ok c5 c12 c24 c37 c43 hz5 hz12 hz24 hz37]
            have gk := ok.k.2.2.2.2 k5 hb5
            refine aw_aload_n dX8_above_49 rfl ?_
            refine aw_gr dX8_above_50 gf_X8_22 sh_234 (by rfl) ?_
            refine aw_bipush (v := nI 7) dX8_above_53 rfl ?_
            refine aw_iload_n dX8_above_55 rfl ?_
            refine aw_iadd dX8_above_56 ?_
            refine aw_top (nI_add _ _) ?_
            refine aw_iald dX8_above_57 sh_239 rfl (by omega) (by decide) ?_
            refine aw_top (h.sk (7 + k5) (by omega)) ?_
            refine aw_istore dX8_above_58 (Nat.le_of_ble_eq_true rfl) ?_
            refine aw_aload_n dX8_above_60 rfl ?_
            refine aw_iload dX8_above_61 rfl ?_
            refine aw_iload_n dX8_above_63 rfl ?_
            refine aw_iload_n dX8_above_64 rfl ?_
            refine aw_iload dX8_above_65 rfl ?_
            refine aw_v4vp dX8_above_67 ml_X8_227 im_X8_layFewest se_X8_layFewest (c_X8_layFewest A h ok (A.K (7 + k5)) k12 k24 k37 gk.1.1 gk.1.2 (by omega) (by omega) (by omega)) sh_234 (by decide) rfl rfl (Nat.le_of_ble_eq_true rfl) (Nat.le_of_ble_eq_true rfl) (Nat.le_of_ble_eq_true rfl) (Nat.le_of_ble_eq_true rfl) (Nat.le_of_ble_eq_true rfl) (fun μ2 q2 => ?_)
            have hI : InvM μ2 A := h.f2 (fun b hb => q2.2 b (by omega))
            have hfr : am_fr μ μ2 234 14 := q2.2.mono (by omega) (by omega)
            have hbl : _ ≤ 1000000 := pB_le A.K (A.K (7 + k5)) k12 k37 k24 (A.K (12 + k5)) (A.K (17 + k5))
            refine aw_aload_n dX8_above_70 rfl ?_
            refine aw_gr dX8_above_71 gf_X8_22 sh_234 (by rfl) ?_
            refine aw_bipush (v := nI 12) dX8_above_74 rfl ?_
            refine aw_iload_n dX8_above_76 rfl ?_
            refine aw_iadd dX8_above_77 ?_
            refine aw_top (nI_add _ _) ?_
            refine aw_iald dX8_above_78 sh_239 rfl (by omega) (by decide) ?_
            refine aw_top (hI.sk (12 + k5) (by omega)) ?_
            refine aw_istore dX8_above_79 (Nat.le_of_ble_eq_true rfl) ?_
            refine aw_aload_n dX8_above_81 rfl ?_
            refine aw_gr dX8_above_82 gf_X8_22 sh_234 (by rfl) ?_
            refine aw_bipush (v := nI 17) dX8_above_85 rfl ?_
            refine aw_iload_n dX8_above_87 rfl ?_
            refine aw_iadd dX8_above_88 ?_
            refine aw_top (nI_add _ _) ?_
            refine aw_iald dX8_above_89 sh_239 rfl (by omega) (by decide) ?_
            refine aw_top (hI.sk (17 + k5) (by omega)) ?_
            refine aw_istore dX8_above_90 (Nat.le_of_ble_eq_true rfl) ?_
            refine aw_aload_n dX8_above_92 rfl ?_
            refine aw_gr dX8_above_93 gf_X8_44 sh_234 (by rfl) ?_
            refine aw_iload_n dX8_above_96 rfl ?_
            refine aw_iload dX8_above_97 rfl ?_
            refine aw_iload dX8_above_99 rfl ?_
            refine aw_s3i dX8_above_101 ml_X8_217 st_X8_cell (c_X8_cell k24 (A.K (12 + k5)) (A.K (17 + k5))) (Nat.le_of_ble_eq_true rfl) (Nat.le_of_ble_eq_true rfl) (Nat.le_of_ble_eq_true rfl) (Nat.le_of_ble_eq_true rfl) (Nat.le_of_ble_eq_true rfl) ?_
            refine aw_iald dX8_above_104 sh_246 rfl (by omega) (by decide) ?_
            refine aw_top (q2.1 k24 (A.K (12 + k5)) (A.K (17 + k5)) (by omega) (by omega) (by omega)) ?_
            refine aw_istore dX8_above_105 (Nat.le_of_ble_eq_true rfl) ?_
            refine aw_iload dX8_above_107 rfl ?_
            refine aw_aload_n dX8_above_109 rfl ?_
            refine aw_gr dX8_above_110 gf_X8_22 sh_234 (by rfl) ?_
            refine aw_bipush (v := nI 22) dX8_above_113 rfl ?_
            refine aw_iload_n dX8_above_115 rfl ?_
            refine aw_iadd dX8_above_116 ?_
            refine aw_top (nI_add _ _) ?_
            refine aw_iald dX8_above_117 sh_239 rfl (by omega) (by decide) ?_
            refine aw_top (hI.sk (22 + k5) (by omega)) ?_
            refine aw_icmp_le (tgt := 124) dX8_above_118 (by decide) (fun c118 => ?_) (fun c118 => ?_)
            · rw [nI_leI (by omega) (by omega)] at c118
              refine aw_iload dX8_above_124 rfl ?_
              refine aw_if_ge (tgt := 132) dX8_above_126 (by decide) (fun c126 => ?_) (fun c126 => ?_)
              · refine aw_iconst (v := nI 0) dX8_above_132 rfl ?_
                refine aw_istore dX8_above_133 (Nat.le_of_ble_eq_true rfl) ?_
                have hx : ¬ x5 = (-1) := fun q => by rw [q] at c126; exact absurd c126 (by decide +kernel)
                obtain ⟨j, hj, rfl⟩ := z_m1 c43 hx
                have e8 : (if pB A.K (A.K (7 + k5)) k12 k37 k24 (A.K (12 + k5)) (A.K (17 + k5)) ≤ A.K (22 + k5) then (if nI j < nI k24 then (if nI j = (-1) then (nI (pB A.K (A.K (7 + k5)) k12 k37 k24 (A.K (12 + k5)) (A.K (17 + k5))), A) else (nI (pDg A.K (A.K (7 + k5)) k12 k37 k24 (A.K (12 + k5), A.K (17 + k5)) (zN (nI j))), A)) else (zNONE, A)) else (zNONE, A)) = ((if j < k24 then nI (pDg A.K (A.K (7 + k5)) k12 k37 k24 (A.K (12 + k5), A.K (17 + k5)) j) else zNONE), A) := by
                  rw [if_pos c118]
                  by_cases q : j < k24
                  · rw [if_pos ((nI_ltI hj hz24).mpr q), if_neg hx, if_pos q, zN_nI hj]
                  · rw [if_neg (fun z => q ((nI_ltI hj hz24).mp z)), if_neg q]
                rw [e8]
                refine l_X8_above A ok (A.K (7 + k5)) k12 k24 k37 gk.1.1 gk.1.2 (by omega) hI.sk q2.1 _ k5 j _ hj ⟨hI, hfr⟩ k24 0 (A.K (12 + k5)) (A.K (17 + k5)) _ _ (by omega) (by omega) (by omega) (by show _ < 1000000; omega) (by omega) ?_
                by_cases q : j < k24
                · rw [if_pos q, if_pos q]; rfl
                · rw [if_neg q, if_neg q]
              · refine aw_iload dX8_above_129 rfl ?_
                refine aw_iret dX8_above_131 rfl rfl rfl rfl ?_
                have hx : x5 = (-1) := z_m1b c43 c126
                have hlt : x5 < nI k24 := by
                  rw [hx, z_lt2, nI_toInt hz24, show (-1 : Int32).toInt = -1 by decide +kernel]
                  omega
                refine pAnsM ?_ hI hfr
                rw [if_pos c118, if_pos hlt, if_pos hx]
            · rw [nI_leI (by omega) (by omega)] at c118
              refine aw_ldc dX8_above_121 kc_X8_216 ?_
              refine aw_iret dX8_above_123 rfl rfl rfl rfl ?_
              refine pAnsM ?_ hI hfr
              rw [if_neg c118]
          · refine aw_ldc dX8_above_46 kc_X8_67 ?_
            refine aw_iret dX8_above_48 rfl rfl rfl rfl ?_
            exact pAnsM ((if_pos c5).trans ((if_pos c12).trans ((if_pos c24).trans ((if_pos c37).trans ((if_neg c43).trans rfl))))) h am_fr.rf
