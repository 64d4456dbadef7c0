theorem pFind_bad {l s m : Nat} {f : Nat → Int32} {x : Int32} (h : ¬ (0 ≤ x.toInt ∧ x.toInt + m ≤ s)) (hm : m < 2 ^ 31) : pFind (some (l, s, f)) x (nI m) = 2 := by
  show (if pSpanB s x (nI m) = true then 0 else 2) = 2
  rw [if_neg]
  intro q
  obtain ⟨e1, e2, e3⟩ := pSpanB_iff.mp q
  rw [nI_toInt hm] at e3
  exact h ⟨e1, e3⟩
theorem pFind_ok {l s m : Nat} {f : Nat → Int32} {x : Int32} (h : 0 ≤ x.toInt ∧ x.toInt + m ≤ s) (hm : m < 2 ^ 31) : pFind (some (l, s, f)) x (nI m) = 0 := by
  show (if pSpanB s x (nI m) = true then 0 else 2) = 0
  rw [if_pos (pSpanB_iff.mpr ⟨h.1, by rw [nI_toInt hm]; omega, by rw [nI_toInt hm]; exact h.2⟩)]
set_option maxRecDepth 100000 in
set_option maxHeartbeats 4000000 in
theorem c_X8_lies {G : am_G} {μ : am_M} (A : pA) (h : InvM μ A) (r n : Nat) (hr : r < 8) (hn : n < 2 ^ 31) (x : Int32) : am_MA G yX8_lies cX8_lies 4 (some .int) 1 0 0 [.ref 234, .int (nI r), .int x, .int (nI n)] am_SH μ (am_P (some (.int (if (pFind (A.w r) x (nI n)) = 0 then 0 else (-1000010) - nI (pFind (A.w r) x (nI n))))) am_SH (fun μ9 => μ9 = if (pFind (A.w r) x (nI n)) = 0 then μ else am_up μ 234 (upd (μ 234) 3 (nI (pFind (A.w r) x (nI n)))))) := by
  refine am_ofK (own := RX8) (nm := "lies") (L := [some (.ref 234), some (.int (nI r)), some (.int x), some (.int (nI n))]) rfl rfl (by decide +kernel) (Nat.le_of_ble_eq_true rfl) rfl ?_
  refine aw_aload_n dX8_lies_0 rfl ?_
  refine aw_gr dX8_lies_1 gf_X8_13 sh_234 (by rfl) ?_
  refine aw_iload_n dX8_lies_4 rfl ?_
  refine aw_iald dX8_lies_5 sh_236 rfl (by omega) (by decide) ?_
  refine aw_if_ge (tgt := 15) dX8_lies_6 (by decide) (fun c6 => ?_) (fun c6 => ?_)
  · rw [mrow_ge (h.rows r (by omega))] at c6
    obtain ⟨⟨l, s, f⟩, ew⟩ := Option.ne_none_iff_exists'.mp c6
    have hw := h.rows r (by omega)
    rw [ew] at hw
    have hn4 := hw.2.2.2.1
    have hl := hw.2.2.1
    refine aw_iload_n dX8_lies_15 rfl ?_
    refine aw_if_lt (tgt := 35) dX8_lies_16 (by decide) (fun c16 => ?_) (fun c16 => ?_)
    · refine aw_aload_n dX8_lies_35 rfl ?_
      refine aw_iconst (v := nI 2) dX8_lies_36 rfl ?_
      refine aw_v1i dX8_lies_37 ml_X8_68 im_X8_found se_X8_found (c_X8_found _) sh_234 (by decide) rfl rfl (Nat.le_of_ble_eq_true rfl) (Nat.le_of_ble_eq_true rfl) (Nat.le_of_ble_eq_true rfl) (Nat.le_of_ble_eq_true rfl) (Nat.le_of_ble_eq_true rfl) ?_
      refine aw_goto (tgt := 44) dX8_lies_40 (by decide) ?_
      refine aw_iret dX8_lies_44 rfl rfl rfl rfl ?_
      have ep : (pFind (A.w r) x (nI n)) = 2 := by rw [ew]; exact pFind_bad (fun q => by rw [z_neg] at c16; omega) hn
      rw [ep]
      exact ⟨rfl, rfl, rfl⟩
    · refine aw_iload_n dX8_lies_19 rfl ?_
      refine aw_i2l dX8_lies_20 ?_
      refine aw_iload_n dX8_lies_21 rfl ?_
      refine aw_i2l dX8_lies_22 ?_
      refine aw_ladd dX8_lies_23 ?_
      refine aw_aload_n dX8_lies_24 rfl ?_
      refine aw_gr dX8_lies_25 gf_X8_13 sh_234 (by rfl) ?_
      refine aw_iload_n dX8_lies_28 rfl ?_
      refine aw_iald dX8_lies_29 sh_236 rfl (by omega) (by decide) ?_
      refine aw_top hw.2.1 ?_
      refine aw_i2l dX8_lies_30 ?_
      refine aw_lcmp dX8_lies_31 ?_
      refine aw_if_le (tgt := 43) dX8_lies_32 (by decide) (fun c32 => ?_) (fun c32 => ?_)
      · rw [lg_cmp_le, z_add64 hn4 (by rw [z_neg] at c16; omega) (by rw [nI_toInt hn]; omega), nI_toInt hn] at c32
        refine aw_iconst (v := nI 0) dX8_lies_43 rfl ?_
        refine aw_iret dX8_lies_44 rfl rfl rfl rfl ?_
        have ep : (pFind (A.w r) x (nI n)) = 0 := by rw [ew]; exact pFind_ok ⟨by rw [z_neg] at c16; omega, c32⟩ hn
        rw [ep]
        exact ⟨rfl, rfl, rfl⟩
      · rw [lg_cmp_le, z_add64 hn4 (by rw [z_neg] at c16; omega) (by rw [nI_toInt hn]; omega), nI_toInt hn] at c32
        refine aw_aload_n dX8_lies_35 rfl ?_
        refine aw_iconst (v := nI 2) dX8_lies_36 rfl ?_
        refine aw_v1i dX8_lies_37 ml_X8_68 im_X8_found se_X8_found (c_X8_found _) sh_234 (by decide) rfl rfl (Nat.le_of_ble_eq_true rfl) (Nat.le_of_ble_eq_true rfl) (Nat.le_of_ble_eq_true rfl) (Nat.le_of_ble_eq_true rfl) (Nat.le_of_ble_eq_true rfl) ?_
        refine aw_goto (tgt := 44) dX8_lies_40 (by decide) ?_
        refine aw_iret dX8_lies_44 rfl rfl rfl rfl ?_
        have ep : (pFind (A.w r) x (nI n)) = 2 := by rw [ew]; exact pFind_bad (fun q => c32 q.2) hn
        rw [ep]
        exact ⟨rfl, rfl, rfl⟩
  · rw [mrow_ge (h.rows r (by omega)), Decidable.not_not] at c6
    refine aw_aload_n dX8_lies_9 rfl ?_
    refine aw_iconst (v := nI 1) dX8_lies_10 rfl ?_
    refine aw_v1i dX8_lies_11 ml_X8_68 im_X8_found se_X8_found (c_X8_found _) sh_234 (by decide) rfl rfl (Nat.le_of_ble_eq_true rfl) (Nat.le_of_ble_eq_true rfl) (Nat.le_of_ble_eq_true rfl) (Nat.le_of_ble_eq_true rfl) (Nat.le_of_ble_eq_true rfl) ?_
    refine aw_iret dX8_lies_14 rfl rfl rfl rfl ?_
    have ep : (pFind (A.w r) x (nI n)) = 1 := by rw [c6]; rfl
    rw [ep]
    exact ⟨rfl, rfl, rfl⟩
set_option maxRecDepth 100000 in
set_option maxHeartbeats 4000000 in
theorem l_X8_copy {G : am_G} {μ : am_M} (A : pA) (h : InvM μ A) (a b i j n l1 n1 l2 n2 : Nat) (f1 f2 : Nat → Int32) (ha : a < 8) (hb : b < 8) (hw1 : mrow μ a (some (l1, n1, f1))) (hw2 : mrow μ b (some (l2, n2, f2))) (b1 : n1 ≤ 40) (b2 : n2 ≤ 40) (e1 : i + n ≤ n1) (e2 : j + n ≤ n2) : ∀ (s c : Nat) (μ1 : am_M) (X : Option Value), c + s = n → (∀ q, μ1 237 q = if (if i < j then 40 * b + j + (n - c) ≤ q ∧ q < 40 * b + j + n else 40 * b + j ≤ q ∧ q < 40 * b + j + c) then μ 237 (40 * a + i + (q - (40 * b + j))) else μ 237 q) → am_fr μ μ1 237 1 → am_W (am_K G RX8 "copy" 8 (some .int) 2 0 0 (am_P (some (.int (nI n))) am_SH (fun μ9 => InvM μ9 (A.sW (wUp A.w b (some (l2, n2, pCp f1 f2 i j n)))) ∧ am_fr μ μ9 234 14))) cX8_copy 120 [some (.ref 234), some (.int (nI a)), some (.int (nI i)), some (.int (nI b)), some (.int (nI j)), some (.int (nI n)), some (.int (nI c)), X] [] am_SH μ1 0 0 := by
  intro s
  induction s with
  | zero =>
    intro c μ1 X hc hm hf
    have ec : c = n := by omega
    subst ec
    refine aw_iload dX8_copy_120 rfl ?_
    refine aw_iload dX8_copy_122 rfl ?_
    refine aw_icmp_ge (tgt := 182) dX8_copy_124 (by decide) (fun c124 => ?_) (fun c124 => ?_)
    · refine aw_aload_n dX8_copy_182 rfl ?_
      refine aw_iload dX8_copy_183 rfl ?_
      refine aw_v1i dX8_copy_185 ml_X8_72 im_X8_well se_X8_well (c_X8_well _) sh_234 (by decide) rfl rfl (Nat.le_of_ble_eq_true rfl) (Nat.le_of_ble_eq_true rfl) (Nat.le_of_ble_eq_true rfl) (Nat.le_of_ble_eq_true rfl) (Nat.le_of_ble_eq_true rfl) ?_
      refine aw_iret dX8_copy_188 rfl rfl rfl rfl ?_
      refine ⟨rfl, rfl, h.row ⟨by rw [hf 235 (by omega)]; exact hw2.1, by rw [hf 236 (by omega)]; exact hw2.2.1, hw2.2.2.1, hw2.2.2.2.1, fun p hp => ?_⟩ (fun q hq => ⟨by rw [hf 235 (by omega)], by rw [hf 236 (by omega)], fun p hp => ?_⟩) (fun x hx => hf x (by omega)), (hf.mono (by omega) (by omega)).up (by omega) (by omega)⟩
      · rw [hm]
        show _ = if j ≤ p ∧ p < j + c then f1 (i + (p - j)) else f2 p
        by_cases e : j ≤ p ∧ p < j + c
        · rw [if_pos e, if_pos (by split <;> omega), show 40 * a + i + (40 * b + p - (40 * b + j)) = 40 * a + (i + (p - j)) by omega]
          exact hw1.2.2.2.2 _ (by omega)
        · rw [if_neg e, if_neg (by split <;> omega)]
          exact hw2.2.2.2.2 p hp
      · rw [hm, if_neg (by split <;> omega)]
    · exact absurd (nI_le (by omega) (by omega)) c124
  | succ s ih =>
    intro c μ1 X hc hm hf
    refine aw_iload dX8_copy_120 rfl ?_
    refine aw_iload dX8_copy_122 rfl ?_
    refine aw_icmp_ge (tgt := 182) dX8_copy_124 (by decide) (fun c124 => ?_) (fun c124 => ?_)
    · exact absurd c124 (nI_ge (by omega) (by omega))
    · refine aw_iload dX8_copy_127 rfl ?_
      refine aw_iload_n dX8_copy_129 rfl ?_
      refine aw_icmp_le (tgt := 143) dX8_copy_130 (by decide) (fun c130 => ?_) (fun c130 => ?_)
      · have c130n : ¬ i < j := by rw [nI_leI (by omega) (by omega)] at c130; omega
        refine aw_iload dX8_copy_143 rfl ?_
        refine aw_istore dX8_copy_145 (Nat.le_of_ble_eq_true rfl) ?_
        refine aw_aload_n dX8_copy_147 rfl ?_
        refine aw_gr dX8_copy_148 gf_X8_16 sh_234 (by rfl) ?_
        refine aw_bipush (v := nI 40) dX8_copy_151 rfl ?_
        refine aw_iload_n dX8_copy_153 rfl ?_
        refine aw_imul dX8_copy_154 ?_
        refine aw_top (pk_mul _ _) ?_
        refine aw_iload dX8_copy_155 rfl ?_
        refine aw_iadd dX8_copy_157 ?_
        refine aw_top (nI_add _ _) ?_
        refine aw_iload dX8_copy_158 rfl ?_
        refine aw_iadd dX8_copy_160 ?_
        refine aw_top (nI_add _ _) ?_
        refine aw_aload_n dX8_copy_161 rfl ?_
        refine aw_gr dX8_copy_162 gf_X8_16 sh_234 (by rfl) ?_
        refine aw_bipush (v := nI 40) dX8_copy_165 rfl ?_
        refine aw_iload_n dX8_copy_167 rfl ?_
        refine aw_imul dX8_copy_168 ?_
        refine aw_top (pk_mul _ _) ?_
        refine aw_iload_n dX8_copy_169 rfl ?_
        refine aw_iadd dX8_copy_170 ?_
        refine aw_top (nI_add _ _) ?_
        refine aw_iload dX8_copy_171 rfl ?_
        refine aw_iadd dX8_copy_173 ?_
        refine aw_top (nI_add _ _) ?_
        refine aw_iald dX8_copy_174 sh_237 rfl (by omega) (by decide) ?_
        refine aw_top (show _ = μ 237 (40 * a + i + c) by rw [hm, if_neg (by split <;> omega)]) ?_
        refine aw_iast dX8_copy_175 sh_237 rfl (by omega) (by decide) ?_
        refine aw_iinc (v := nI (c + 1)) dX8_copy_176 rfl (nI_1 c) (Nat.le_of_ble_eq_true rfl) ?_
        refine aw_goto (tgt := 120) dX8_copy_179 (by decide) ?_
        refine ih (c + 1) _ _ (by omega) (fun q => ?_) (hf.up (by omega) (by omega))
        rw [am_ups]
        by_cases e : q = 40 * b + j + c
        · rw [e, pk_us, if_pos (by split <;> omega), show 40 * a + i + (40 * b + j + c - (40 * b + j)) = 40 * a + i + c by omega]
        · rw [pk_un e, hm]
          by_cases e2 : (if i < j then 40 * b + j + (n - c) ≤ q ∧ q < 40 * b + j + n else 40 * b + j ≤ q ∧ q < 40 * b + j + c)
          · rw [if_pos e2, if_pos (by split at e2 <;> rename_i e3 <;> first | (rw [if_pos e3]; omega) | (rw [if_neg e3]; omega))]
          · rw [if_neg e2, if_neg (by split at e2 <;> rename_i e3 <;> first | (rw [if_pos e3]; omega) | (rw [if_neg e3]; omega))]
      · have c130n : i < j := by rw [nI_leI (by omega) (by omega)] at c130; omega
        refine aw_iload dX8_copy_133 rfl ?_
        refine aw_iconst (v := nI 1) dX8_copy_135 rfl ?_
        refine aw_isub dX8_copy_136 ?_
        refine aw_top (pk_sub (by omega)) ?_
        refine aw_iload dX8_copy_137 rfl ?_
        refine aw_isub dX8_copy_139 ?_
        refine aw_top (pk_sub (by omega)) ?_
        refine aw_goto (tgt := 145) dX8_copy_140 (by decide) ?_
        refine aw_istore dX8_copy_145 (Nat.le_of_ble_eq_true rfl) ?_
        refine aw_aload_n dX8_copy_147 rfl ?_
        refine aw_gr dX8_copy_148 gf_X8_16 sh_234 (by rfl) ?_
        refine aw_bipush (v := nI 40) dX8_copy_151 rfl ?_
        refine aw_iload_n dX8_copy_153 rfl ?_
        refine aw_imul dX8_copy_154 ?_
        refine aw_top (pk_mul _ _) ?_
        refine aw_iload dX8_copy_155 rfl ?_
        refine aw_iadd dX8_copy_157 ?_
        refine aw_top (nI_add _ _) ?_
        refine aw_iload dX8_copy_158 rfl ?_
        refine aw_iadd dX8_copy_160 ?_
        refine aw_top (nI_add _ _) ?_
        refine aw_aload_n dX8_copy_161 rfl ?_
        refine aw_gr dX8_copy_162 gf_X8_16 sh_234 (by rfl) ?_
        refine aw_bipush (v := nI 40) dX8_copy_165 rfl ?_
        refine aw_iload_n dX8_copy_167 rfl ?_
        refine aw_imul dX8_copy_168 ?_
        refine aw_top (pk_mul _ _) ?_
        refine aw_iload_n dX8_copy_169 rfl ?_
        refine aw_iadd dX8_copy_170 ?_
        refine aw_top (nI_add _ _) ?_
        refine aw_iload dX8_copy_171 rfl ?_
        refine aw_iadd dX8_copy_173 ?_
        refine aw_top (nI_add _ _) ?_
        refine aw_iald dX8_copy_174 sh_237 rfl (by omega) (by decide) ?_
        refine aw_top (show _ = μ 237 (40 * a + i + (n - 1 - c)) by rw [hm, if_neg (by split <;> omega)]) ?_
        refine aw_iast dX8_copy_175 sh_237 rfl (by omega) (by decide) ?_
        refine aw_iinc (v := nI (c + 1)) dX8_copy_176 rfl (nI_1 c) (Nat.le_of_ble_eq_true rfl) ?_
        refine aw_goto (tgt := 120) dX8_copy_179 (by decide) ?_
        refine ih (c + 1) _ _ (by omega) (fun q => ?_) (hf.up (by omega) (by omega))
        rw [am_ups]
        by_cases e : q = 40 * b + j + (n - 1 - c)
        · rw [e, pk_us, if_pos (by split <;> omega), show 40 * a + i + (40 * b + j + (n - 1 - c) - (40 * b + j)) = 40 * a + i + (n - 1 - c) by omega]
        · rw [pk_un e, hm]
          by_cases e2 : (if i < j then 40 * b + j + (n - c) ≤ q ∧ q < 40 * b + j + n else 40 * b + j ≤ q ∧ q < 40 * b + j + c)
          · rw [if_pos e2, if_pos (by split at e2 <;> rename_i e3 <;> first | (rw [if_pos e3]; omega) | (rw [if_neg e3]; omega))]
          · rw [if_neg e2, if_neg (by split at e2 <;> rename_i e3 <;> first | (rw [if_pos e3]; omega) | (rw [if_neg e3]; omega))]
set_option maxRecDepth 100000 in
set_option maxHeartbeats 4000000 in
theorem c_X8_copy {G : am_G} {μ : am_M} (A : pA) (h : InvM μ A) (ok : okA A) (x1 x2 x3 x4 x5 : Int32) : am_MA G yX8_copy cX8_copy 8 (some .int) 2 0 0 [.ref 234, .int x1, .int x2, .int x3, .int x4, .int x5] am_SH μ (am_P (some (.int (oCopy A x1 x2 x3 x4 x5).1)) am_SH (fun μ9 => InvM μ9 (oCopy A x1 x2 x3 x4 x5).2 ∧ am_fr μ μ9 234 14)) := by
  refine am_ofK (own := RX8) (nm := "copy") (L := [some (.ref 234), some (.int x1), some (.int x2), some (.int x3), some (.int x4), some (.int x5), none, none]) rfl rfl (by decide +kernel) (Nat.le_of_ble_eq_true rfl) rfl ?_
  refine aw_iload_n dX8_copy_0 rfl ?_
  refine aw_s1i dX8_copy_1 ml_X8_61 st_X8_isRow (c_X8_isRow _) (Nat.le_of_ble_eq_true rfl) (Nat.le_of_ble_eq_true rfl) (Nat.le_of_ble_eq_true rfl) (Nat.le_of_ble_eq_true rfl) (Nat.le_of_ble_eq_true rfl) ?_
  refine aw_pif_eq (tgt := 14) dX8_copy_4 (by decide) (fun c4 => ?_) (fun c4 => ?_)
  · refine aw_ldc dX8_copy_14 kc_X8_67 ?_
    refine aw_iret dX8_copy_16 rfl rfl rfl rfl ?_
    exact pAnsM ((if_neg c4).trans rfl) h am_fr.rf
  · obtain ⟨k4, rfl, ha4, hb4, hz4⟩ := pIn_ex c4
    refine aw_iload_n dX8_copy_7 rfl ?_
    refine aw_s1i dX8_copy_8 ml_X8_61 st_X8_isRow (c_X8_isRow _) (Nat.le_of_ble_eq_true rfl) (Nat.le_of_ble_eq_true rfl) (Nat.le_of_ble_eq_true rfl) (Nat.le_of_ble_eq_true rfl) (Nat.le_of_ble_eq_true rfl) ?_
    refine aw_pif_ne (tgt := 17) dX8_copy_11 (by decide) (fun c11 => ?_) (fun c11 => ?_)
    · obtain ⟨k11, rfl, ha11, hb11, hz11⟩ := pIn_ex c11
      refine aw_aload_n dX8_copy_17 rfl ?_
      refine aw_gr dX8_copy_18 gf_X8_13 sh_234 (by rfl) ?_
      refine aw_iload_n dX8_copy_21 rfl ?_
      refine aw_iald dX8_copy_22 sh_236 rfl (by omega) (by decide) ?_
      refine aw_if_lt (tgt := 35) dX8_copy_23 (by decide) (fun c23 => ?_) (fun c23 => ?_)
      · have c23b : A.w k4 = none := by refine Decidable.byContradiction (fun q => ?_); have := (mrow_ge (h.rows k4 (by omega))).mpr q; rw [z_le2] at this; rw [z_neg] at c23; exact absurd c23 (Int.not_lt.mpr this)
        refine aw_aload_n dX8_copy_35 rfl ?_
        refine aw_iconst (v := nI 1) dX8_copy_36 rfl ?_
        refine aw_v1i dX8_copy_37 ml_X8_68 im_X8_found se_X8_found (c_X8_found _) sh_234 (by decide) rfl rfl (Nat.le_of_ble_eq_true rfl) (Nat.le_of_ble_eq_true rfl) (Nat.le_of_ble_eq_true rfl) (Nat.le_of_ble_eq_true rfl) (Nat.le_of_ble_eq_true rfl) ?_
        refine aw_iret dX8_copy_40 rfl rfl rfl rfl ?_
        refine pAnsM ?_ (h.fd _) (am_fr.rf.up (by omega) (by omega))
        rw [oCopy, if_pos c4, if_pos c11, zN_nI hz4, zN_nI hz11, c23b]
        rfl
      · have c23b : 0 ≤ μ 236 k4 := by rw [z_le2]; rw [z_neg] at c23; exact Int.not_lt.mp c23
        rw [mrow_ge (h.rows k4 (by omega))] at c23b
        obtain ⟨⟨l1, n1, f1⟩, ew1⟩ := Option.ne_none_iff_exists'.mp c23b
        have hw1 := h.rows k4 (by omega)
        rw [ew1] at hw1
        have hn1 := hw1.2.2.2.1
        have hl1 := hw1.2.2.1
        refine aw_aload_n dX8_copy_26 rfl ?_
        refine aw_gr dX8_copy_27 gf_X8_13 sh_234 (by rfl) ?_
        refine aw_iload_n dX8_copy_30 rfl ?_
        refine aw_iald dX8_copy_31 sh_236 rfl (by omega) (by decide) ?_
        refine aw_if_ge (tgt := 41) dX8_copy_32 (by decide) (fun c32 => ?_) (fun c32 => ?_)
        · rw [mrow_ge (h.rows k11 (by omega))] at c32
          obtain ⟨⟨l2, n2, f2⟩, ew2⟩ := Option.ne_none_iff_exists'.mp c32
          have hw2 := h.rows k11 (by omega)
          rw [ew2] at hw2
          have hn2 := hw2.2.2.2.1
          have hl2 := hw2.2.2.1
          refine aw_aload_n dX8_copy_41 rfl ?_
          refine aw_gr dX8_copy_42 gf_X8_7 sh_234 (by rfl) ?_
          refine aw_iload_n dX8_copy_45 rfl ?_
          refine aw_iald dX8_copy_46 sh_235 rfl (by omega) (by decide) ?_
          refine aw_top hw1.1 ?_
          refine aw_aload_n dX8_copy_47 rfl ?_
          refine aw_gr dX8_copy_48 gf_X8_7 sh_234 (by rfl) ?_
          refine aw_iload_n dX8_copy_51 rfl ?_
          refine aw_iald dX8_copy_52 sh_235 rfl (by omega) (by decide) ?_
          refine aw_top hw2.1 ?_
          refine aw_icmp_eq (tgt := 62) dX8_copy_53 (by decide) (fun c53 => ?_) (fun c53 => ?_)
          · rw [nI_eq (by omega) (by omega)] at c53
            refine aw_iload_n dX8_copy_62 rfl ?_
            refine aw_if_lt (tgt := 111) dX8_copy_63 (by decide) (fun c63 => ?_) (fun c63 => ?_)
            · refine aw_aload_n dX8_copy_111 rfl ?_
              refine aw_iconst (v := nI 2) dX8_copy_112 rfl ?_
              refine aw_v1i dX8_copy_113 ml_X8_68 im_X8_found se_X8_found (c_X8_found _) sh_234 (by decide) rfl rfl (Nat.le_of_ble_eq_true rfl) (Nat.le_of_ble_eq_true rfl) (Nat.le_of_ble_eq_true rfl) (Nat.le_of_ble_eq_true rfl) (Nat.le_of_ble_eq_true rfl) ?_
              refine aw_iret dX8_copy_116 rfl rfl rfl rfl ?_
              refine pAnsM ?_ (h.fd _) (am_fr.rf.up (by omega) (by omega))
              rw [oCopy, if_pos c4, if_pos c11, zN_nI hz4, zN_nI hz11, ew1, ew2]; exact (if_pos c53).trans ((if_neg (fun q => by obtain ⟨u1, u2, u3⟩ := pSpanB_iff.mp q; rw [z_neg] at c63; omega)).trans rfl)
            · refine aw_iload dX8_copy_66 rfl ?_
              refine aw_if_lt (tgt := 111) dX8_copy_68 (by decide) (fun c68 => ?_) (fun c68 => ?_)
              · refine aw_aload_n dX8_copy_111 rfl ?_
                refine aw_iconst (v := nI 2) dX8_copy_112 rfl ?_
                refine aw_v1i dX8_copy_113 ml_X8_68 im_X8_found se_X8_found (c_X8_found _) sh_234 (by decide) rfl rfl (Nat.le_of_ble_eq_true rfl) (Nat.le_of_ble_eq_true rfl) (Nat.le_of_ble_eq_true rfl) (Nat.le_of_ble_eq_true rfl) (Nat.le_of_ble_eq_true rfl) ?_
                refine aw_iret dX8_copy_116 rfl rfl rfl rfl ?_
                by_cases u : pSpanB n1 x2 x5 = true
                · refine pAnsM ?_ (h.fd _) (am_fr.rf.up (by omega) (by omega))
                  rw [oCopy, if_pos c4, if_pos c11, zN_nI hz4, zN_nI hz11, ew1, ew2]; exact (if_pos c53).trans ((if_pos u).trans ((if_neg (fun q => by obtain ⟨u1, u2, u3⟩ := pSpanB_iff.mp q; rw [z_neg] at c68; omega)).trans rfl))
                · refine pAnsM ?_ (h.fd _) (am_fr.rf.up (by omega) (by omega))
                  rw [oCopy, if_pos c4, if_pos c11, zN_nI hz4, zN_nI hz11, ew1, ew2]; exact (if_pos c53).trans ((if_neg u).trans rfl)
              · refine aw_iload dX8_copy_71 rfl ?_
                refine aw_if_lt (tgt := 111) dX8_copy_73 (by decide) (fun c73 => ?_) (fun c73 => ?_)
                · refine aw_aload_n dX8_copy_111 rfl ?_
                  refine aw_iconst (v := nI 2) dX8_copy_112 rfl ?_
                  refine aw_v1i dX8_copy_113 ml_X8_68 im_X8_found se_X8_found (c_X8_found _) sh_234 (by decide) rfl rfl (Nat.le_of_ble_eq_true rfl) (Nat.le_of_ble_eq_true rfl) (Nat.le_of_ble_eq_true rfl) (Nat.le_of_ble_eq_true rfl) (Nat.le_of_ble_eq_true rfl) ?_
                  refine aw_iret dX8_copy_116 rfl rfl rfl rfl ?_
                  refine pAnsM ?_ (h.fd _) (am_fr.rf.up (by omega) (by omega))
                  rw [oCopy, if_pos c4, if_pos c11, zN_nI hz4, zN_nI hz11, ew1, ew2]; exact (if_pos c53).trans ((if_neg (fun q => by obtain ⟨u1, u2, u3⟩ := pSpanB_iff.mp q; rw [z_neg] at c73; omega)).trans rfl)
                · refine aw_iload_n dX8_copy_76 rfl ?_
                  refine aw_i2l dX8_copy_77 ?_
                  refine aw_iload dX8_copy_78 rfl ?_
                  refine aw_i2l dX8_copy_80 ?_
                  refine aw_ladd dX8_copy_81 ?_
                  refine aw_aload_n dX8_copy_82 rfl ?_
                  refine aw_gr dX8_copy_83 gf_X8_13 sh_234 (by rfl) ?_
                  refine aw_iload_n dX8_copy_86 rfl ?_
                  refine aw_iald dX8_copy_87 sh_236 rfl (by omega) (by decide) ?_
                  refine aw_top hw1.2.1 ?_
                  refine aw_i2l dX8_copy_88 ?_
                  refine aw_lcmp dX8_copy_89 ?_
                  refine aw_if_gt (tgt := 111) dX8_copy_90 (by decide) (fun c90 => ?_) (fun c90 => ?_)
                  · rw [lg_cmp_gt, ← Int64.not_le, z_add64 hn1 (by rw [z_neg] at c63; omega) (by rw [z_neg] at c73; omega)] at c90
                    refine aw_aload_n dX8_copy_111 rfl ?_
                    refine aw_iconst (v := nI 2) dX8_copy_112 rfl ?_
                    refine aw_v1i dX8_copy_113 ml_X8_68 im_X8_found se_X8_found (c_X8_found _) sh_234 (by decide) rfl rfl (Nat.le_of_ble_eq_true rfl) (Nat.le_of_ble_eq_true rfl) (Nat.le_of_ble_eq_true rfl) (Nat.le_of_ble_eq_true rfl) (Nat.le_of_ble_eq_true rfl) ?_
                    refine aw_iret dX8_copy_116 rfl rfl rfl rfl ?_
                    refine pAnsM ?_ (h.fd _) (am_fr.rf.up (by omega) (by omega))
                    rw [oCopy, if_pos c4, if_pos c11, zN_nI hz4, zN_nI hz11, ew1, ew2]; exact (if_pos c53).trans ((if_neg (fun q => by obtain ⟨u1, u2, u3⟩ := pSpanB_iff.mp q; omega)).trans rfl)
                  · rw [lg_cmp_gt, ← Int64.not_le, z_add64 hn1 (by rw [z_neg] at c63; omega) (by rw [z_neg] at c73; omega)] at c90
                    replace c90 := Decidable.not_not.mp c90
                    refine aw_iload dX8_copy_93 rfl ?_
                    refine aw_i2l dX8_copy_95 ?_
                    refine aw_iload dX8_copy_96 rfl ?_
                    refine aw_i2l dX8_copy_98 ?_
                    refine aw_ladd dX8_copy_99 ?_
                    refine aw_aload_n dX8_copy_100 rfl ?_
                    refine aw_gr dX8_copy_101 gf_X8_13 sh_234 (by rfl) ?_
                    refine aw_iload_n dX8_copy_104 rfl ?_
                    refine aw_iald dX8_copy_105 sh_236 rfl (by omega) (by decide) ?_
                    refine aw_top hw2.2.1 ?_
                    refine aw_i2l dX8_copy_106 ?_
                    refine aw_lcmp dX8_copy_107 ?_
                    refine aw_if_le (tgt := 117) dX8_copy_108 (by decide) (fun c108 => ?_) (fun c108 => ?_)
                    · rw [lg_cmp_le, z_add64 hn2 (by rw [z_neg] at c68; omega) (by rw [z_neg] at c73; omega)] at c108
                      refine aw_iconst (v := nI 0) dX8_copy_117 rfl ?_
                      refine aw_istore dX8_copy_118 (Nat.le_of_ble_eq_true rfl) ?_
                      have u1 : pSpanB n1 x2 x5 = true := pSpanB_iff.mpr ⟨by rw [z_neg] at c63; omega, by rw [z_neg] at c73; omega, by omega⟩
                      have u2 : pSpanB n2 x4 x5 = true := pSpanB_iff.mpr ⟨by rw [z_neg] at c68; omega, by rw [z_neg] at c73; omega, by omega⟩
                      obtain ⟨i, hi, rfl⟩ := nI_of c63
                      obtain ⟨j, hj, rfl⟩ := nI_of c68
                      obtain ⟨n, hn, rfl⟩ := nI_of c73
                      rw [nI_toInt hi, nI_toInt hn] at c90
                      rw [nI_toInt hj, nI_toInt hn] at c108
                      have e9 : oCopy A (nI k4) (nI i) (nI k11) (nI j) (nI n) = (nI n, A.sW (wUp A.w k11 (some (l2, n2, pCp f1 f2 i j n)))) := by
                        rw [oCopy, if_pos c4, if_pos c11, zN_nI hz4, zN_nI hz11, ew1, ew2]; exact (if_pos c53).trans ((if_pos u1).trans ((if_pos u2).trans (by rw [zN_nI hi, zN_nI hj, zN_nI hn])))
                      rw [e9]
                      exact l_X8_copy A h k4 k11 i j n l1 n1 l2 n2 f1 f2 hb4 hb11 hw1 hw2 hn1 hn2 (by omega) (by omega) n 0 μ _ (by omega) (fun q => by rw [if_neg (by split <;> omega)]) am_fr.rf
                    · rw [lg_cmp_le, z_add64 hn2 (by rw [z_neg] at c68; omega) (by rw [z_neg] at c73; omega)] at c108
                      refine aw_aload_n dX8_copy_111 rfl ?_
                      refine aw_iconst (v := nI 2) dX8_copy_112 rfl ?_
                      refine aw_v1i dX8_copy_113 ml_X8_68 im_X8_found se_X8_found (c_X8_found _) sh_234 (by decide) rfl rfl (Nat.le_of_ble_eq_true rfl) (Nat.le_of_ble_eq_true rfl) (Nat.le_of_ble_eq_true rfl) (Nat.le_of_ble_eq_true rfl) (Nat.le_of_ble_eq_true rfl) ?_
                      refine aw_iret dX8_copy_116 rfl rfl rfl rfl ?_
                      have u : pSpanB n1 x2 x5 = true := pSpanB_iff.mpr ⟨by rw [z_neg] at c63; omega, by rw [z_neg] at c73; omega, by omega⟩
                      refine pAnsM ?_ (h.fd _) (am_fr.rf.up (by omega) (by omega))
                      rw [oCopy, if_pos c4, if_pos c11, zN_nI hz4, zN_nI hz11, ew1, ew2]; exact (if_pos c53).trans ((if_pos u).trans ((if_neg (fun q => by obtain ⟨u1, u2, u3⟩ := pSpanB_iff.mp q; omega)).trans rfl))
          · rw [nI_eq (by omega) (by omega)] at c53
            refine aw_aload_n dX8_copy_56 rfl ?_
            refine aw_iconst (v := nI 5) dX8_copy_57 rfl ?_
            refine aw_v1i dX8_copy_58 ml_X8_68 im_X8_found se_X8_found (c_X8_found _) sh_234 (by decide) rfl rfl (Nat.le_of_ble_eq_true rfl) (Nat.le_of_ble_eq_true rfl) (Nat.le_of_ble_eq_true rfl) (Nat.le_of_ble_eq_true rfl) (Nat.le_of_ble_eq_true rfl) ?_
            refine aw_iret dX8_copy_61 rfl rfl rfl rfl ?_
            refine pAnsM ?_ (h.fd _) (am_fr.rf.up (by omega) (by omega))
            rw [oCopy, if_pos c4, if_pos c11, zN_nI hz4, zN_nI hz11, ew1, ew2]; exact (if_neg c53).trans rfl
        · rw [mrow_ge (h.rows k11 (by omega)), Decidable.not_not] at c32
          refine aw_aload_n dX8_copy_35 rfl ?_
          refine aw_iconst (v := nI 1) dX8_copy_36 rfl ?_
          refine aw_v1i dX8_copy_37 ml_X8_68 im_X8_found se_X8_found (c_X8_found _) sh_234 (by decide) rfl rfl (Nat.le_of_ble_eq_true rfl) (Nat.le_of_ble_eq_true rfl) (Nat.le_of_ble_eq_true rfl) (Nat.le_of_ble_eq_true rfl) (Nat.le_of_ble_eq_true rfl) ?_
          refine aw_iret dX8_copy_40 rfl rfl rfl rfl ?_
          refine pAnsM ?_ (h.fd _) (am_fr.rf.up (by omega) (by omega))
          rw [oCopy, if_pos c4, if_pos c11, zN_nI hz4, zN_nI hz11, ew1, c32]
          rfl
    · refine aw_ldc dX8_copy_14 kc_X8_67 ?_
      refine aw_iret dX8_copy_16 rfl rfl rfl rfl ?_
      exact pAnsM ((if_pos c4).trans ((if_neg c11).trans rfl)) h am_fr.rf
