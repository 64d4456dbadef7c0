/-! ===== the model's reader: laws, offices ===== -/
theorem pTB_f {tb : Nat → Nat} {tl d : Nat} {s : Nat × Nat} (h : ¬ s.1 = 0) : pTB tb tl d s = s := by unfold pTB; rw [if_pos h]
theorem pTN_f {tb : Nat → Nat} {tl d : Nat} {s : Nat × Nat} (h : ¬ s.1 = 0) : pTN tb tl d s = (s, 0) := by unfold pTN; rw [if_pos h]
theorem pTS_f {tb : Nat → Nat} {tl d : Nat} {s : Nat × Nat} (h : ¬ s.1 = 0) : pTS tb tl d s = (s, 0) := by unfold pTS; rw [if_pos h]
theorem pLawW_f {tb : Nat → Nat} {tl : Nat} : ∀ (r b : Nat) (q : (Nat × Nat) × pK), ¬ q.1.1 = 0 → (pLawW tb tl r b q).1 = q.1
  | 0, _, _, _ => rfl
  | r + 1, b, q, h => by
    unfold pLawW
    have e : pTB tb tl 44 (pTN tb tl 4 q.1).1 = q.1 := by rw [pTN_f h]; exact pTB_f h
    rw [pLawW_f r (b + 1) _ (by show ¬ (pTB tb tl 44 (pTN tb tl 4 q.1).1).1 = 0; rw [e]; exact h)]
    exact e
theorem pLaw_1 (tb : Nat → Nat) (tl : Nat) : (pLaw tb tl).1 = pTB tb tl 59 (pTN tb tl 3 (pLawQ tb tl).1).1 := by unfold pLaw; dsimp only
theorem pLaw_f {tb : Nat → Nat} {tl : Nat} {s : Nat × Nat} (e : (pLawQ tb tl).1 = s) (h : ¬ s.1 = 0) : (pLaw tb tl).1 = s := by
  rw [pLaw_1, e, pTN_f h]
  exact pTB_f h
theorem mC_upd {μ μ' : am_M} {K : pK} {place v : Nat} (h : mC μ 244 K) (e : μ' 244 = upd (μ 244) place (nI v)) : mC μ' 244 (pUp K place v) := fun j hj => by
  rw [e]
  by_cases c : j = place
  · rw [c, pk_us, pUp_s]
  · rw [pk_un c, pUp_n c]; exact h j hj
theorem pair0 {s : Nat × Nat} (h : s.1 = 0) : (0, s.2) = s := Prod.ext h.symm rfl

theorem c_X8_numberS {G : am_G} {μ : am_M} (tb : Nat → Nat) (tl : Nat) (fa : Int32) (hk : tpOK tb tl) (s : Nat × Nat) (h0 : s.1 = 0) (hp : s.2 ≤ tl) (hR : rdM μ tb tl fa s) (place most : Nat) (hpl : place < 32) (hm : most < 100) : am_MA G yX8_number cX8_number 3 (some .boolean) 3 0 0 [.ref 234, .int (nI place), .int (nI most)] am_SH μ (am_P (some (.int (pI ((pTN tb tl most s).1.1 = 0)))) am_SH (fun μ9 => rdM μ9 tb tl fa (pTN tb tl most s).1 ∧ rdF μ μ9 ∧ ((pTN tb tl most s).1.1 = 0 → μ9 244 = upd (μ 244) place (nI (pTN tb tl most s).2)))) := by
  obtain ⟨f, p⟩ := s
  replace h0 : f = 0 := h0
  subst h0
  exact c_X8_number tb tl p fa hk hp hR place most hpl hm
theorem c_X8_signS {G : am_G} {μ : am_M} (tb : Nat → Nat) (tl : Nat) (fa : Int32) (hk : tpOK tb tl) (s : Nat × Nat) (h0 : s.1 = 0) (hp : s.2 ≤ tl) (hR : rdM μ tb tl fa s) (which due : Nat) (hw : which = 3 ∨ which = 4) (hd : ∀ p, pTk tb tl p = which ↔ p < tl ∧ tb p = due) : am_MA G yX8_sign cX8_sign 2 (some .boolean) 3 0 0 [.ref 234, .int (nI which)] am_SH μ (am_P (some (.int (pI ((pTB tb tl due s).1 = 0)))) am_SH (fun μ9 => rdM μ9 tb tl fa (pTB tb tl due s) ∧ rdF μ μ9 ∧ μ9 244 = μ 244)) := by
  obtain ⟨f, p⟩ := s
  replace h0 : f = 0 := h0
  subst h0
  exact c_X8_sign tb tl p fa hk hp hR which due hw (hd p)
set_option maxRecDepth 100000 in
set_option maxHeartbeats 4000000 in
theorem l_X8_readsLaw {G : am_G} {μ : am_M} (tb : Nat → Nat) (tl : Nat) (fa : Int32) (hk : tpOK tb tl) : ∀ (r b : Nat) (q : (Nat × Nat) × pK) (μ1 : am_M), b + r = 4 → q.1.1 = 0 → q.1.2 ≤ tl → rdM μ1 tb tl fa q.1 → mC μ1 244 q.2 → rdF μ μ1 → pLawW tb tl r b q = pLawQ tb tl → am_W (am_K G RX8 "readsLaw" 2 (some .boolean) 4 0 0 (am_P (some (.int (pI ((pLaw tb tl).1.1 = 0)))) am_SH (fun μ9 => rdM μ9 tb tl fa (pLaw tb tl).1 ∧ rdF μ μ9 ∧ ((pLaw tb tl).1.1 = 0 → mC μ9 244 (pLaw tb tl).2)))) cX8_readsLaw 29 [some (.ref 234), some (.int (nI b))] [] am_SH μ1 0 0 := by
  intro r
  induction r with
  | zero =>
    intro b q μ1 hb h0 hp hR hK hF e
    have e4 : b = 4 := by omega
    subst e4
    replace e : q = pLawQ tb tl := e
    refine aw_iload_n dX8_readsLaw_29 rfl ?_
    refine aw_iconst (v := nI 4) dX8_readsLaw_30 rfl ?_
    refine aw_icmp_ge (tgt := 61) dX8_readsLaw_31 (by decide) (fun c31 => ?_) (fun c31 => ?_)
    · refine aw_aload_n dX8_readsLaw_61 rfl ?_
      refine aw_iconst (v := nI 4) dX8_readsLaw_62 rfl ?_
      refine aw_iconst (v := nI 3) dX8_readsLaw_63 rfl ?_
      refine aw_v2ip dX8_readsLaw_64 ml_X8_116 im_X8_number se_X8_number (c_X8_numberS tb tl fa hk q.1 h0 hp hR 4 3 (by decide) (by decide)) sh_234 (by decide) rfl rfl (Nat.le_of_ble_eq_true rfl) (Nat.le_of_ble_eq_true rfl) (Nat.le_of_ble_eq_true rfl) (Nat.le_of_ble_eq_true rfl) (Nat.le_of_ble_eq_true rfl) (fun μ2 q2 => ?_)
      refine aw_pif_eq (tgt := 82) dX8_readsLaw_67 (by decide) (fun c67 => ?_) (fun c67 => ?_)
      · refine aw_iconst (v := nI 0) dX8_readsLaw_82 rfl ?_
        refine aw_iret dX8_readsLaw_83 rfl rfl rfl rfl ?_
        have el : (pLaw tb tl).1 = (pTN tb tl 3 q.1).1 := by rw [pLaw_1, ← e]; exact pTB_f c67
        exact ⟨pI_fa (by rw [el]; exact c67), rfl, by rw [el]; exact q2.1, hF.tr q2.2.1, fun z => absurd z (by rw [el]; exact c67)⟩
      · have hp2 := (pTN_ok (tb := tb) (tl := tl) (most := 3) (s := q.1) ⟨by omega, hp⟩).1.2
        refine aw_aload_n dX8_readsLaw_70 rfl ?_
        refine aw_iconst (v := nI 4) dX8_readsLaw_71 rfl ?_
        refine aw_v1ip dX8_readsLaw_72 ml_X8_120 im_X8_sign se_X8_sign (c_X8_signS tb tl fa hk (pTN tb tl 3 q.1).1 c67 hp2 q2.1 4 59 (Or.inr rfl) (fun _ => pTk_4)) sh_234 (by decide) rfl rfl (Nat.le_of_ble_eq_true rfl) (Nat.le_of_ble_eq_true rfl) (Nat.le_of_ble_eq_true rfl) (Nat.le_of_ble_eq_true rfl) (Nat.le_of_ble_eq_true rfl) (fun μ3 q3 => ?_)
        refine aw_pif_eq (tgt := 82) dX8_readsLaw_75 (by decide) (fun c75 => ?_) (fun c75 => ?_)
        · refine aw_iconst (v := nI 0) dX8_readsLaw_82 rfl ?_
          refine aw_iret dX8_readsLaw_83 rfl rfl rfl rfl ?_
          have el : (pLaw tb tl).1 = pTB tb tl 59 (pTN tb tl 3 q.1).1 := by rw [pLaw_1, ← e]
          exact ⟨pI_fa (by rw [el]; exact c75), rfl, by rw [el]; exact q3.1, (hF.tr q2.2.1).tr q3.2.1, fun z => absurd z (by rw [el]; exact c75)⟩
        · refine aw_iconst (v := nI 1) dX8_readsLaw_78 rfl ?_
          refine aw_goto (tgt := 83) dX8_readsLaw_79 (by decide) ?_
          refine aw_iret dX8_readsLaw_83 rfl rfl rfl rfl ?_
          have el : (pLaw tb tl).1 = pTB tb tl 59 (pTN tb tl 3 q.1).1 := by rw [pLaw_1, ← e]
          exact ⟨pI_tr (by rw [el]; exact c75), rfl, by rw [el]; exact q3.1, (hF.tr q2.2.1).tr q3.2.1, fun _ => by rw [pLaw_2, ← e]; exact mC_upd (μ := μ1) hK (q3.2.2.trans (q2.2.2 c67))⟩
    · exact absurd (nI_le (by omega) (by omega)) c31
  | succ r ih =>
    intro b q μ1 hb h0 hp hR hK hF e
    refine aw_iload_n dX8_readsLaw_29 rfl ?_
    refine aw_iconst (v := nI 4) dX8_readsLaw_30 rfl ?_
    refine aw_icmp_ge (tgt := 61) dX8_readsLaw_31 (by decide) (fun c31 => ?_) (fun c31 => ?_)
    · exact absurd c31 (nI_ge (by omega) (by omega))
    · refine aw_aload_n dX8_readsLaw_34 rfl ?_
      refine aw_iconst (v := nI 0) dX8_readsLaw_35 rfl ?_
      refine aw_iload_n dX8_readsLaw_36 rfl ?_
      refine aw_iadd dX8_readsLaw_37 ?_
      refine aw_top (nI_add _ _) ?_
      refine aw_top (show _ = nI b by rw [Nat.zero_add]) ?_
      refine aw_iconst (v := nI 4) dX8_readsLaw_38 rfl ?_
      refine aw_v2ip dX8_readsLaw_39 ml_X8_116 im_X8_number se_X8_number (c_X8_numberS tb tl fa hk q.1 h0 hp hR b 4 (by omega) (by decide)) sh_234 (by decide) rfl rfl (Nat.le_of_ble_eq_true rfl) (Nat.le_of_ble_eq_true rfl) (Nat.le_of_ble_eq_true rfl) (Nat.le_of_ble_eq_true rfl) (Nat.le_of_ble_eq_true rfl) (fun μ2 q2 => ?_)
      refine aw_pif_eq (tgt := 53) dX8_readsLaw_42 (by decide) (fun c42 => ?_) (fun c42 => ?_)
      · refine aw_iconst (v := nI 0) dX8_readsLaw_53 rfl ?_
        refine aw_iret dX8_readsLaw_54 rfl rfl rfl rfl ?_
        have el : (pLaw tb tl).1 = (pTN tb tl 4 q.1).1 := pLaw_f (by rw [← e, pLawW, pLawW_f r (b + 1) _ (by show ¬ (pTB tb tl 44 (pTN tb tl 4 q.1).1).1 = 0; rw [pTB_f c42]; exact c42)]; exact pTB_f c42) c42
        exact ⟨pI_fa (by rw [el]; exact c42), rfl, by rw [el]; exact q2.1, hF.tr q2.2.1, fun z => absurd z (by rw [el]; exact c42)⟩
      · have hp2 := (pTN_ok (tb := tb) (tl := tl) (most := 4) (s := q.1) ⟨by omega, hp⟩).1
        refine aw_aload_n dX8_readsLaw_45 rfl ?_
        refine aw_iconst (v := nI 3) dX8_readsLaw_46 rfl ?_
        refine aw_v1ip dX8_readsLaw_47 ml_X8_120 im_X8_sign se_X8_sign (c_X8_signS tb tl fa hk (pTN tb tl 4 q.1).1 c42 hp2.2 q2.1 3 44 (Or.inl rfl) (fun _ => pTk_3)) sh_234 (by decide) rfl rfl (Nat.le_of_ble_eq_true rfl) (Nat.le_of_ble_eq_true rfl) (Nat.le_of_ble_eq_true rfl) (Nat.le_of_ble_eq_true rfl) (Nat.le_of_ble_eq_true rfl) (fun μ3 q3 => ?_)
        refine aw_pif_ne (tgt := 55) dX8_readsLaw_50 (by decide) (fun c50 => ?_) (fun c50 => ?_)
        · refine aw_iinc (v := nI (b + 1)) dX8_readsLaw_55 rfl (nI_1 b) (Nat.le_of_ble_eq_true rfl) ?_
          refine aw_goto (tgt := 29) dX8_readsLaw_58 (by decide) ?_
          exact ih (b + 1) (pTB tb tl 44 (pTN tb tl 4 q.1).1, pUp q.2 b (pTN tb tl 4 q.1).2) μ3 (by omega) c50 (pTB_ok hp2).2 q3.1 (mC_upd (μ := μ1) hK (q3.2.2.trans (q2.2.2 c42))) ((hF.tr q2.2.1).tr q3.2.1) e
        · refine aw_iconst (v := nI 0) dX8_readsLaw_53 rfl ?_
          refine aw_iret dX8_readsLaw_54 rfl rfl rfl rfl ?_
          have el : (pLaw tb tl).1 = pTB tb tl 44 (pTN tb tl 4 q.1).1 := pLaw_f (by rw [← e, pLawW, pLawW_f r (b + 1) _ c50]) c50
          exact ⟨pI_fa (by rw [el]; exact c50), rfl, by rw [el]; exact q3.1, (hF.tr q2.2.1).tr q3.2.1, fun z => absurd z (by rw [el]; exact c50)⟩
set_option maxRecDepth 100000 in
set_option maxHeartbeats 4000000 in
theorem c_X8_readsLaw {G : am_G} {μ : am_M} (tb : Nat → Nat) (tl : Nat) (fa : Int32) (hk : tpOK tb tl) (hR : rdM μ tb tl fa (0, 0)) (hK : mC μ 244 (fun _ => 0)) : am_MA G yX8_readsLaw cX8_readsLaw 2 (some .boolean) 4 0 0 [.ref 234] am_SH μ (am_P (some (.int (pI ((pLaw tb tl).1.1 = 0)))) am_SH (fun μ9 => rdM μ9 tb tl fa (pLaw tb tl).1 ∧ rdF μ μ9 ∧ ((pLaw tb tl).1.1 = 0 → mC μ9 244 (pLaw tb tl).2))) := by
  have htl := hk.1
  refine am_ofK (own := RX8) (nm := "readsLaw") (L := [some (.ref 234), none]) rfl rfl (by decide +kernel) (Nat.le_of_ble_eq_true rfl) rfl ?_
  refine aw_aload_n dX8_readsLaw_0 rfl ?_
  refine aw_v0vp dX8_readsLaw_1 ml_X8_110 im_X8_next se_X8_next (c_X8_next tb tl 0 hk (by omega) hR.nx) sh_234 (by decide) rfl rfl (Nat.le_of_ble_eq_true rfl) (Nat.le_of_ble_eq_true rfl) (Nat.le_of_ble_eq_true rfl) (Nat.le_of_ble_eq_true rfl) (Nat.le_of_ble_eq_true rfl) (fun μ2 q2 => ?_)
  obtain ⟨a, v, hN, hF, hX, ha⟩ := q2
  have h6 : μ2 234 6 = fa := (hF.2 6 (by decide)).trans (hR.ok rfl).2
  have ht5 := pTk_le tb tl 0
  refine aw_aload_n dX8_readsLaw_4 rfl ?_
  refine aw_gi dX8_readsLaw_5 gf_X8_101 sh_234 (by rfl) ?_
  refine aw_top hN.pt ?_
  refine aw_iconst (v := nI 1) dX8_readsLaw_8 rfl ?_
  refine aw_icmp_ne (tgt := 21) dX8_readsLaw_9 (by decide) (fun c9 => ?_) (fun c9 => ?_)
  · rw [nI_eq (by omega) (by decide)] at c9
    refine aw_aload_n dX8_readsLaw_21 rfl ?_
    refine aw_iconst (v := nI 1) dX8_readsLaw_22 rfl ?_
    refine aw_v1i dX8_readsLaw_23 ml_X8_113 im_X8_fails se_X8_fails (c_X8_fails 1) sh_234 (by decide) rfl rfl (Nat.le_of_ble_eq_true rfl) (Nat.le_of_ble_eq_true rfl) (Nat.le_of_ble_eq_true rfl) (Nat.le_of_ble_eq_true rfl) (Nat.le_of_ble_eq_true rfl) ?_
    refine aw_iret dX8_readsLaw_26 rfl rfl rfl rfl ?_
    have e0 : pTB tb tl 119 (0, 0) = (1, 0) := by unfold pTB; rw [if_neg (by simp), if_neg (fun z => c9 (pTk_1.mpr ⟨z.1, by rw [show tb 0 = 119 from z.2]; decide, by rw [show tb 0 = 119 from z.2]; decide⟩))]
    have el : (pLaw tb tl).1 = (1, 0) := pLaw_f (by unfold pLawQ; rw [e0, pLawW_f 4 0 _ (by simp)]) (by simp)
    exact ⟨pI_fa (by rw [el]; simp), rfl, by rw [el]; exact hN.fail (by decide), hF.rd.u6, fun z => absurd z (by rw [el]; simp)⟩
  · rw [nI_eq (by omega) (by decide)] at c9
    obtain ⟨ea, ev⟩ := hX.2.1 c9
    have hb := hk.2 0 (pTk_1.mp c9).1
    refine aw_aload_n dX8_readsLaw_12 rfl ?_
    refine aw_gi dX8_readsLaw_13 gf_X8_104 sh_234 (by rfl) ?_
    refine aw_top (hN.pv.trans ev) ?_
    refine aw_bipush (v := nI 119) dX8_readsLaw_16 rfl ?_
    refine aw_icmp_eq (tgt := 27) dX8_readsLaw_18 (by decide) (fun c18 => ?_) (fun c18 => ?_)
    · rw [nI_eq (by omega) (by decide)] at c18
      refine aw_iconst (v := nI 0) dX8_readsLaw_27 rfl ?_
      refine aw_istore_n dX8_readsLaw_28 (Nat.le_of_ble_eq_true rfl) ?_
      have e0 : pTB tb tl 119 (0, 0) = (0, 1) := by unfold pTB; rw [if_neg (by simp), if_pos ⟨(pTk_1.mp c9).1, c18⟩]
      have e1 : pLawW tb tl 4 0 ((0, 1), fun _ => 0) = pLawQ tb tl := by unfold pLawQ; rw [e0]
      exact l_X8_readsLaw tb tl fa hk 4 0 ((0, 1), fun _ => 0) μ2 rfl rfl (by have := (pTk_1.mp c9).1; show 1 ≤ tl; omega) (by have := hN.good h6; rw [ea] at this; exact this) (hK.fr (hF.1 244 (by decide))) hF.rd e1
    · rw [nI_eq (by omega) (by decide)] at c18
      refine aw_aload_n dX8_readsLaw_21 rfl ?_
      refine aw_iconst (v := nI 1) dX8_readsLaw_22 rfl ?_
      refine aw_v1i dX8_readsLaw_23 ml_X8_113 im_X8_fails se_X8_fails (c_X8_fails 1) sh_234 (by decide) rfl rfl (Nat.le_of_ble_eq_true rfl) (Nat.le_of_ble_eq_true rfl) (Nat.le_of_ble_eq_true rfl) (Nat.le_of_ble_eq_true rfl) (Nat.le_of_ble_eq_true rfl) ?_
      refine aw_iret dX8_readsLaw_26 rfl rfl rfl rfl ?_
      have e0 : pTB tb tl 119 (0, 0) = (1, 0) := by unfold pTB; rw [if_neg (by simp), if_neg (fun z => c18 z.2)]
      have el : (pLaw tb tl).1 = (1, 0) := pLaw_f (by unfold pLawQ; rw [e0, pLawW_f 4 0 _ (by simp)]) (by simp)
      exact ⟨pI_fa (by rw [el]; simp), rfl, by rw [el]; exact hN.fail (by decide), hF.rd.u6, fun z => absurd z (by rw [el]; simp)⟩
