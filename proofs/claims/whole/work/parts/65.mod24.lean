/-! ===== the model's reader: numbers, signs ===== -/
theorem pTk_le (tb : Nat → Nat) (tl p : Nat) : pTk tb tl p ≤ 5 := by unfold pTk; (repeat' split) <;> omega
theorem pTk_0 {tb : Nat → Nat} {tl p : Nat} : pTk tb tl p = 0 ↔ ¬ p < tl := by
  unfold pTk; (repeat' split) <;> omega
theorem pTk_1 {tb : Nat → Nat} {tl p : Nat} : pTk tb tl p = 1 ↔ p < tl ∧ 97 ≤ tb p ∧ tb p ≤ 122 := by
  unfold pTk; (repeat' split) <;> omega
theorem pTk_3 {tb : Nat → Nat} {tl p : Nat} : pTk tb tl p = 3 ↔ p < tl ∧ tb p = 44 := by
  unfold pTk; (repeat' split) <;> omega
theorem pTk_4 {tb : Nat → Nat} {tl p : Nat} : pTk tb tl p = 4 ↔ p < tl ∧ tb p = 59 := by
  unfold pTk; (repeat' split) <;> omega
theorem pFigs_pos {tb : Nat → Nat} {tl p : Nat} : pFigs tb tl p = 0 ↔ ¬ (p < tl ∧ 48 ≤ tb p ∧ tb p ≤ 57) := by
  have e : pFigs tb tl p = if p + 0 < tl ∧ pFigB (tb (p + 0)) = true then pFg tb tl p 2 1 else 0 := rfl
  have h1 := (pFg_le tb tl p 2 1).1
  rw [e, Nat.add_zero]
  have e2 : pFigB (tb p) = true ↔ 48 ≤ tb p ∧ tb p ≤ 57 := by simp [pFigB]
  by_cases c : p < tl ∧ pFigB (tb p) = true
  · rw [if_pos c]
    exact ⟨fun q => by omega, fun q => absurd ⟨c.1, e2.mp c.2⟩ q⟩
  · rw [if_neg c]
    exact ⟨fun _ q => c ⟨q.1, e2.mpr q.2⟩, fun _ => rfl⟩
theorem pTk_2 {tb : Nat → Nat} {tl p : Nat} : pTk tb tl p = 2 ↔ ¬ (pFigs tb tl p = 0 ∨ 2 < pFigs tb tl p) := by
  rw [pFigs_pos]
  unfold pTk; (repeat' split) <;> omega
theorem pV_99 {tb : Nat → Nat} {tl p : Nat} (h : ¬ (pFigs tb tl p = 0 ∨ 2 < pFigs tb tl p)) : pV tb (pFigs tb tl p) p 0 ≤ 99 := by
  have hf := pFg_fig tb tl p 3 0 (fun j hj => absurd hj (by omega))
  have e : pFigs tb tl p = 1 ∨ pFigs tb tl p = 2 := by omega
  rcases e with e | e
  · have a0 := hf 0 (by show 0 < pFigs tb tl p; omega)
    rw [e]
    show 0 * 10 + tb p - 48 ≤ 99
    rw [Nat.add_zero] at a0
    omega
  · have a0 := hf 0 (by show 0 < pFigs tb tl p; omega)
    have a1 := hf 1 (by show 1 < pFigs tb tl p; omega)
    rw [e]
    show (0 * 10 + tb p - 48) * 10 + tb (p + 1) - 48 ≤ 99
    rw [Nat.add_zero] at a0
    omega
def rdF (μ μ' : am_M) : Prop := (∀ b, b ≠ 234 → b ≠ 244 → μ' b = μ b) ∧ ∀ j, j < 15 → j ≠ 6 → μ' 234 j = μ 234 j
theorem rdF.rf {μ : am_M} : rdF μ μ := ⟨fun _ _ _ => rfl, fun _ _ _ => rfl⟩
theorem rdF.tr {μ μ' μ2 : am_M} (h : rdF μ μ') (h2 : rdF μ' μ2) : rdF μ μ2 := ⟨fun b a c => (h2.1 b a c).trans (h.1 b a c), fun j a c => (h2.2 j a c).trans (h.2 j a c)⟩
theorem nxF.rd {μ μ' : am_M} (h : nxF μ μ') : rdF μ μ' := ⟨fun b a _ => h.1 b a, fun j a _ => h.2 j a⟩
theorem rdF.u6 {μ μ' : am_M} {x : Int32} (h : rdF μ μ') : rdF μ (am_up μ' 234 (upd (μ' 234) 6 x)) := ⟨fun b a c => by rw [am_up_n a]; exact h.1 b a c, fun j a c => by rw [am_ups, pk_un c]; exact h.2 j a c⟩
theorem rdF.u9 {μ μ' : am_M} {j : Nat} {x : Int32} (h : rdF μ μ') (hj : 15 ≤ j) : rdF μ (am_up μ' 234 (upd (μ' 234) j x)) := ⟨fun b a c => by rw [am_up_n a]; exact h.1 b a c, fun i a c => by rw [am_ups, pk_un (by omega)]; exact h.2 i a c⟩
theorem rdF.ur {μ μ' : am_M} {f : Nat → Int32} (h : rdF μ μ') : rdF μ (am_up μ' 244 f) := ⟨fun b a c => by rw [am_up_n c]; exact h.1 b a c, fun j a c => by rw [am_upn (by decide)]; exact h.2 j a c⟩
def rdM (μ : am_M) (tb : Nat → Nat) (tl : Nat) (fa : Int32) (s : Nat × Nat) : Prop := (μ 234 19 = nI tl) ∧ (∀ j, j < tl → μ 238 j = nI (tb j)) ∧ (s.1 = 0 → μ 234 15 = nI s.2 ∧ μ 234 6 = fa) ∧ (¬ s.1 = 0 → μ 234 6 = nI s.1 ∧ μ 234 16 = nI s.2)
theorem rdM.ps {μ : am_M} {tb : Nat → Nat} {tl : Nat} {fa : Int32} {s : Nat × Nat} (h : rdM μ tb tl fa s) : μ 234 19 = nI tl := h.1
theorem rdM.tp {μ : am_M} {tb : Nat → Nat} {tl : Nat} {fa : Int32} {s : Nat × Nat} (h : rdM μ tb tl fa s) : ∀ j, j < tl → μ 238 j = nI (tb j) := h.2.1
theorem rdM.ok {μ : am_M} {tb : Nat → Nat} {tl : Nat} {fa : Int32} {s : Nat × Nat} (h : rdM μ tb tl fa s) : s.1 = 0 → μ 234 15 = nI s.2 ∧ μ 234 6 = fa := h.2.2.1
theorem rdM.er {μ : am_M} {tb : Nat → Nat} {tl : Nat} {fa : Int32} {s : Nat × Nat} (h : rdM μ tb tl fa s) : ¬ s.1 = 0 → μ 234 6 = nI s.1 ∧ μ 234 16 = nI s.2 := h.2.2.2

theorem nxC.fail {μ : am_M} {tb : Nat → Nat} {tl a p f : Nat} {t v fa : Int32} (h : nxC μ tb tl a p t v) (hf : ¬ f = 0) : rdM (am_up μ 234 (upd (μ 234) 6 (nI f))) tb tl fa (f, p) := ⟨by rw [am_ups, pk_un (by decide)]; exact h.ps, fun j hj => by rw [am_upn (by decide)]; exact h.tp j hj, fun q => absurd q hf, fun _ => ⟨by rw [am_ups, pk_us], by rw [am_ups, pk_un (by decide)]; exact h.pb⟩⟩
theorem nxC.good {μ : am_M} {tb : Nat → Nat} {tl a p : Nat} {t v fa : Int32} (h : nxC μ tb tl a p t v) (hf : μ 234 6 = fa) : rdM μ tb tl fa (0, a) := ⟨h.ps, h.tp, fun _ => ⟨h.pa, hf⟩, fun q => absurd rfl q⟩
theorem rdM.ur {μ : am_M} {tb : Nat → Nat} {tl : Nat} {fa : Int32} {s : Nat × Nat} {f : Nat → Int32} (h : rdM μ tb tl fa s) : rdM (am_up μ 244 f) tb tl fa s := ⟨by rw [am_upn (by decide)]; exact h.ps, fun j hj => by rw [am_upn (by decide)]; exact h.tp j hj, fun q => by rw [am_upn (by decide), am_upn (by decide)]; exact h.ok q, fun q => by rw [am_upn (by decide), am_upn (by decide)]; exact h.er q⟩
theorem rdM.nx {μ : am_M} {tb : Nat → Nat} {tl p : Nat} {fa : Int32} (h : rdM μ tb tl fa (0, p)) : μ 234 15 = nI p ∧ μ 234 19 = nI tl ∧ ∀ j, j < tl → μ 238 j = nI (tb j) := ⟨(h.ok rfl).1, h.ps, h.tp⟩
set_option maxRecDepth 100000 in
set_option maxHeartbeats 4000000 in
theorem c_X8_fails {G : am_G} {μ : am_M} (f : Nat) : am_MA G yX8_fails cX8_fails 2 (some .boolean) 0 0 0 [.ref 234, .int (nI f)] am_SH μ (am_E (some (.int (nI 0))) am_SH (am_up μ 234 (upd (μ 234) 6 (nI f)))) := by
  refine am_ofK (own := RX8) (nm := "fails") (L := [some (.ref 234), some (.int (nI f))]) rfl rfl (by decide +kernel) (Nat.le_of_ble_eq_true rfl) rfl ?_
  refine aw_aload_n dX8_fails_0 rfl ?_
  refine aw_iload_n dX8_fails_1 rfl ?_
  refine aw_pi dX8_fails_2 pf_X8_107 rfl rfl sh_234 (by rfl) ?_
  refine aw_iconst (v := nI 0) dX8_fails_5 rfl ?_
  refine aw_iret dX8_fails_6 rfl rfl rfl rfl ?_
  exact ⟨rfl, rfl, rfl⟩
set_option maxRecDepth 100000 in
set_option maxHeartbeats 4000000 in
theorem c_X8_number {G : am_G} {μ : am_M} (tb : Nat → Nat) (tl p : Nat) (fa : Int32) (hk : tpOK tb tl) (hp : p ≤ tl) (hR : rdM μ tb tl fa (0, p)) (place most : Nat) (hpl : place < 32) (hm : most < 100) : am_MA G yX8_number cX8_number 3 (some .boolean) 3 0 0 [.ref 234, .int (nI place), .int (nI most)] am_SH μ (am_P (some (.int (pI ((pTN tb tl most (0, p)).1.1 = 0)))) am_SH (fun μ9 => rdM μ9 tb tl fa (pTN tb tl most (0, p)).1 ∧ rdF μ μ9 ∧ ((pTN tb tl most (0, p)).1.1 = 0 → μ9 244 = upd (μ 244) place (nI (pTN tb tl most (0, p)).2)))) := by
  have htl := hk.1
  refine am_ofK (own := RX8) (nm := "number") (L := [some (.ref 234), some (.int (nI place)), some (.int (nI most))]) rfl rfl (by decide +kernel) (Nat.le_of_ble_eq_true rfl) rfl ?_
  refine aw_aload_n dX8_number_0 rfl ?_
  refine aw_v0vp dX8_number_1 ml_X8_110 im_X8_next se_X8_next (c_X8_next tb tl p hk hp hR.nx) sh_234 (by decide) rfl rfl (Nat.le_of_ble_eq_true rfl) (Nat.le_of_ble_eq_true rfl) (Nat.le_of_ble_eq_true rfl) (Nat.le_of_ble_eq_true rfl) (Nat.le_of_ble_eq_true rfl) (fun μ2 q2 => ?_)
  obtain ⟨a, v, hN, hF, hX, ha⟩ := q2
  have h6 : μ2 234 6 = fa := (hF.2 6 (by decide)).trans (hR.ok rfl).2
  have ht5 := pTk_le tb tl p
  refine aw_aload_n dX8_number_4 rfl ?_
  refine aw_gi dX8_number_5 gf_X8_101 sh_234 (by rfl) ?_
  refine aw_top hN.pt ?_
  refine aw_iconst (v := nI 2) dX8_number_8 rfl ?_
  refine aw_icmp_eq (tgt := 18) dX8_number_9 (by decide) (fun c9 => ?_) (fun c9 => ?_)
  · rw [nI_eq (by omega) (by decide), pTk_2] at c9
    refine aw_aload_n dX8_number_18 rfl ?_
    refine aw_gi dX8_number_19 gf_X8_104 sh_234 (by rfl) ?_
    obtain ⟨ea, ev⟩ := hX.2.2.1 (pTk_2.mpr c9)
    have h99 := pV_99 c9
    refine aw_top (hN.pv.trans ev) ?_
    refine aw_i2l dX8_number_22 ?_
    refine aw_lconst (v := lN 0) dX8_number_23 rfl ?_
    refine aw_iload_n dX8_number_24 rfl ?_
    refine aw_i2l dX8_number_25 ?_
    refine aw_s3i dX8_number_26 ml_X8_57 st_X8_in (c_X8_in _ 0 (most + 1) (by decide +kernel) (by rw [l32, nI_toInt (by omega)]; omega)) (Nat.le_of_ble_eq_true rfl) (Nat.le_of_ble_eq_true rfl) (Nat.le_of_ble_eq_true rfl) (Nat.le_of_ble_eq_true rfl) (Nat.le_of_ble_eq_true rfl) ?_
    refine aw_pif_ne (tgt := 38) dX8_number_29 (by decide) (fun c29 => ?_) (fun c29 => ?_)
    · rw [pIn_nI (by omega)] at c29
      refine aw_aload_n dX8_number_38 rfl ?_
      refine aw_gr dX8_number_39 gf_X8_38 sh_234 (by rfl) ?_
      refine aw_iload_n dX8_number_42 rfl ?_
      refine aw_aload_n dX8_number_43 rfl ?_
      refine aw_gi dX8_number_44 gf_X8_104 sh_234 (by rfl) ?_
      refine aw_top (hN.pv.trans ev) ?_
      refine aw_iast dX8_number_47 sh_244 rfl (hpl) (by decide) ?_
      refine aw_iconst (v := nI 1) dX8_number_48 rfl ?_
      refine aw_iret dX8_number_49 rfl rfl rfl rfl ?_
      have et : (pTN tb tl most (0, p)) = ((0, p + pFigs tb tl p), pV tb (pFigs tb tl p) p 0) := by
        unfold pTN
        rw [if_neg (by simp), if_neg c9, if_neg (show ¬ most < pV tb (pFigs tb tl p) p 0 by omega)]
      rw [et]
      exact ⟨pI_tr rfl, rfl, (by rw [← ea]; exact (hN.good h6).ur), hF.rd.ur, fun _ => by rw [am_up_s, hF.1 244 (by decide)]⟩
    · rw [pIn_nI (by omega)] at c29
      refine aw_aload_n dX8_number_32 rfl ?_
      refine aw_iconst (v := nI 2) dX8_number_33 rfl ?_
      refine aw_v1i dX8_number_34 ml_X8_113 im_X8_fails se_X8_fails (c_X8_fails 2) sh_234 (by decide) rfl rfl (Nat.le_of_ble_eq_true rfl) (Nat.le_of_ble_eq_true rfl) (Nat.le_of_ble_eq_true rfl) (Nat.le_of_ble_eq_true rfl) (Nat.le_of_ble_eq_true rfl) ?_
      refine aw_iret dX8_number_37 rfl rfl rfl rfl ?_
      have et : (pTN tb tl most (0, p)) = ((2, p), 0) := by
        unfold pTN
        rw [if_neg (by simp), if_neg c9, if_pos (show most < pV tb (pFigs tb tl p) p 0 by omega)]
      rw [et]
      exact ⟨pI_fa (by simp), rfl, hN.fail (by decide), hF.rd.u6, fun q => absurd q (by simp)⟩
  · rw [nI_eq (by omega) (by decide), pTk_2] at c9
    refine aw_aload_n dX8_number_12 rfl ?_
    refine aw_iconst (v := nI 1) dX8_number_13 rfl ?_
    refine aw_v1i dX8_number_14 ml_X8_113 im_X8_fails se_X8_fails (c_X8_fails 1) sh_234 (by decide) rfl rfl (Nat.le_of_ble_eq_true rfl) (Nat.le_of_ble_eq_true rfl) (Nat.le_of_ble_eq_true rfl) (Nat.le_of_ble_eq_true rfl) (Nat.le_of_ble_eq_true rfl) ?_
    refine aw_iret dX8_number_17 rfl rfl rfl rfl ?_
    have et : (pTN tb tl most (0, p)) = ((1, p), 0) := by
      unfold pTN
      rw [if_neg (by simp), if_pos (Decidable.not_not.mp c9)]
    rw [et]
    exact ⟨pI_fa (by simp), rfl, hN.fail (by decide), hF.rd.u6, fun q => absurd q (by simp)⟩
set_option maxRecDepth 100000 in
set_option maxHeartbeats 4000000 in
theorem c_X8_sign {G : am_G} {μ : am_M} (tb : Nat → Nat) (tl p : Nat) (fa : Int32) (hk : tpOK tb tl) (hp : p ≤ tl) (hR : rdM μ tb tl fa (0, p)) (which due : Nat) (hw : which = 3 ∨ which = 4) (hd : pTk tb tl p = which ↔ p < tl ∧ tb p = due) : am_MA G yX8_sign cX8_sign 2 (some .boolean) 3 0 0 [.ref 234, .int (nI which)] am_SH μ (am_P (some (.int (pI ((pTB tb tl due (0, p)).1 = 0)))) am_SH (fun μ9 => rdM μ9 tb tl fa (pTB tb tl due (0, p)) ∧ rdF μ μ9 ∧ μ9 244 = μ 244)) := by
  have htl := hk.1
  refine am_ofK (own := RX8) (nm := "sign") (L := [some (.ref 234), some (.int (nI which))]) rfl rfl (by decide +kernel) (Nat.le_of_ble_eq_true rfl) rfl ?_
  refine aw_aload_n dX8_sign_0 rfl ?_
  refine aw_v0vp dX8_sign_1 ml_X8_110 im_X8_next se_X8_next (c_X8_next tb tl p hk hp hR.nx) sh_234 (by decide) rfl rfl (Nat.le_of_ble_eq_true rfl) (Nat.le_of_ble_eq_true rfl) (Nat.le_of_ble_eq_true rfl) (Nat.le_of_ble_eq_true rfl) (Nat.le_of_ble_eq_true rfl) (fun μ2 q2 => ?_)
  obtain ⟨a, v, hN, hF, hX, ha⟩ := q2
  have h6 : μ2 234 6 = fa := (hF.2 6 (by decide)).trans (hR.ok rfl).2
  have ht5 := pTk_le tb tl p
  refine aw_aload_n dX8_sign_4 rfl ?_
  refine aw_gi dX8_sign_5 gf_X8_101 sh_234 (by rfl) ?_
  refine aw_top hN.pt ?_
  refine aw_iload_n dX8_sign_8 rfl ?_
  refine aw_icmp_eq (tgt := 20) dX8_sign_9 (by decide) (fun c9 => ?_) (fun c9 => ?_)
  · rw [nI_eq (by omega) (by omega), hd] at c9
    refine aw_iconst (v := nI 1) dX8_sign_20 rfl ?_
    refine aw_goto (tgt := 25) dX8_sign_21 (by decide) ?_
    refine aw_iret dX8_sign_25 rfl rfl rfl rfl ?_
    have et : (pTB tb tl due (0, p)) = (0, p + 1) := by
      unfold pTB
      rw [if_neg (by simp), if_pos c9]
    rw [et]
    have ea : a = p + 1 := by
      rcases hw with e | e
      · exact hX.2.2.2.1 (by rw [← e]; exact hd.mpr c9)
      · exact hX.2.2.2.2 (by rw [← e]; exact hd.mpr c9)
    exact ⟨pI_tr rfl, rfl, (by rw [← ea]; exact hN.good h6), hF.rd, hF.1 244 (by decide)⟩
  · rw [nI_eq (by omega) (by omega), hd] at c9
    refine aw_aload_n dX8_sign_12 rfl ?_
    refine aw_iconst (v := nI 1) dX8_sign_13 rfl ?_
    refine aw_v1i dX8_sign_14 ml_X8_113 im_X8_fails se_X8_fails (c_X8_fails 1) sh_234 (by decide) rfl rfl (Nat.le_of_ble_eq_true rfl) (Nat.le_of_ble_eq_true rfl) (Nat.le_of_ble_eq_true rfl) (Nat.le_of_ble_eq_true rfl) (Nat.le_of_ble_eq_true rfl) ?_
    refine aw_if_eq (tgt := 24) dX8_sign_17 (by decide) (fun c17 => ?_) (fun c17 => ?_)
    · refine aw_iconst (v := nI 0) dX8_sign_24 rfl ?_
      refine aw_iret dX8_sign_25 rfl rfl rfl rfl ?_
      have et : (pTB tb tl due (0, p)) = (1, p) := by
        unfold pTB
        rw [if_neg (by simp), if_neg c9]
      rw [et]
      exact ⟨pI_fa (by simp), rfl, hN.fail (by decide), hF.rd.u6, by rw [am_up_n (by decide)]; exact hF.1 244 (by decide)⟩
    · exact absurd (show nI 0 = 0 by decide +kernel) c17
set_option maxRecDepth 100000 in
set_option maxHeartbeats 4000000 in
theorem c_X8_sortOf {G : am_G} {sh : List am_S} {μ : am_M} (v : Nat) (hv : v < 256) : am_MA G yX8_sortOf cX8_sortOf 1 (some .int) 0 0 0 [.int (nI v)] sh μ (am_E (some (.int (nI (pSort v)))) sh μ) := by
  refine am_ofK (own := RX8) (nm := "sortOf") (L := [some (.int (nI v))]) rfl rfl (by decide +kernel) (Nat.le_of_ble_eq_true rfl) rfl ?_
  refine aw_iload_n dX8_sortOf_0 rfl ?_
  refine aw_bipush (v := nI 98) dX8_sortOf_1 rfl ?_
  refine aw_icmp_ne (tgt := 10) dX8_sortOf_3 (by decide) (fun c3 => ?_) (fun c3 => ?_)
  · rw [nI_eq (by omega) (by decide)] at c3
    refine aw_iload_n dX8_sortOf_10 rfl ?_
    refine aw_bipush (v := nI 102) dX8_sortOf_11 rfl ?_
    refine aw_icmp_ne (tgt := 20) dX8_sortOf_13 (by decide) (fun c13 => ?_) (fun c13 => ?_)
    · rw [nI_eq (by omega) (by decide)] at c13
      refine aw_iload_n dX8_sortOf_20 rfl ?_
      refine aw_bipush (v := nI 108) dX8_sortOf_21 rfl ?_
      refine aw_icmp_ne (tgt := 30) dX8_sortOf_23 (by decide) (fun c23 => ?_) (fun c23 => ?_)
      · rw [nI_eq (by omega) (by decide)] at c23
        refine aw_iload_n dX8_sortOf_30 rfl ?_
        refine aw_bipush (v := nI 100) dX8_sortOf_31 rfl ?_
        refine aw_icmp_ne (tgt := 40) dX8_sortOf_33 (by decide) (fun c33 => ?_) (fun c33 => ?_)
        · rw [nI_eq (by omega) (by decide)] at c33
          refine aw_iload_n dX8_sortOf_40 rfl ?_
          refine aw_bipush (v := nI 97) dX8_sortOf_41 rfl ?_
          refine aw_icmp_ne (tgt := 50) dX8_sortOf_43 (by decide) (fun c43 => ?_) (fun c43 => ?_)
          · rw [nI_eq (by omega) (by decide)] at c43
            refine aw_iconst (v := nI 0) dX8_sortOf_50 rfl ?_
            refine aw_iret dX8_sortOf_51 rfl rfl rfl rfl ?_
            refine ⟨congrArg (fun z => some (Value.int (nI z))) ?_, rfl, rfl⟩
            unfold pSort
            rw [if_neg c3, if_neg c13, if_neg c23, if_neg c33, if_neg c43]
          · rw [nI_eq (by omega) (by decide)] at c43
            refine aw_iconst (v := nI 5) dX8_sortOf_46 rfl ?_
            refine aw_goto (tgt := 51) dX8_sortOf_47 (by decide) ?_
            refine aw_iret dX8_sortOf_51 rfl rfl rfl rfl ?_
            refine ⟨congrArg (fun z => some (Value.int (nI z))) ?_, rfl, rfl⟩
            unfold pSort
            rw [if_neg c3, if_neg c13, if_neg c23, if_neg c33, if_pos c43]
        · rw [nI_eq (by omega) (by decide)] at c33
          refine aw_iconst (v := nI 4) dX8_sortOf_36 rfl ?_
          refine aw_goto (tgt := 51) dX8_sortOf_37 (by decide) ?_
          refine aw_iret dX8_sortOf_51 rfl rfl rfl rfl ?_
          refine ⟨congrArg (fun z => some (Value.int (nI z))) ?_, rfl, rfl⟩
          unfold pSort
          rw [if_neg c3, if_neg c13, if_neg c23, if_pos c33]
      · rw [nI_eq (by omega) (by decide)] at c23
        refine aw_iconst (v := nI 3) dX8_sortOf_26 rfl ?_
        refine aw_goto (tgt := 51) dX8_sortOf_27 (by decide) ?_
        refine aw_iret dX8_sortOf_51 rfl rfl rfl rfl ?_
        refine ⟨congrArg (fun z => some (Value.int (nI z))) ?_, rfl, rfl⟩
        unfold pSort
        rw [if_neg c3, if_neg c13, if_pos c23]
    · rw [nI_eq (by omega) (by decide)] at c13
      refine aw_iconst (v := nI 2) dX8_sortOf_16 rfl ?_
      refine aw_goto (tgt := 51) dX8_sortOf_17 (by decide) ?_
      refine aw_iret dX8_sortOf_51 rfl rfl rfl rfl ?_
      refine ⟨congrArg (fun z => some (Value.int (nI z))) ?_, rfl, rfl⟩
      unfold pSort
      rw [if_neg c3, if_pos c13]
  · rw [nI_eq (by omega) (by decide)] at c3
    refine aw_iconst (v := nI 1) dX8_sortOf_6 rfl ?_
    refine aw_goto (tgt := 51) dX8_sortOf_7 (by decide) ?_
    refine aw_iret dX8_sortOf_51 rfl rfl rfl rfl ?_
    refine ⟨congrArg (fun z => some (Value.int (nI z))) ?_, rfl, rfl⟩
    unfold pSort
    rw [if_pos c3]
