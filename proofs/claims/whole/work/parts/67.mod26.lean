/-! ===== the model's reader: offices ===== -/
theorem pOff_f1 {tb : Nat → Nat} {tl : Nat} {q : (Nat × Nat) × pK} (h : ¬ (pO1 tb tl q).1.1 = 0) : pO5 tb tl q = (pO1 tb tl q).1 := by simp only [pO5, pO4, pO3, pO2, pTN_f h, pTB_f h]
theorem pOff_f2 {tb : Nat → Nat} {tl : Nat} {q : (Nat × Nat) × pK} (h : ¬ (pO2 tb tl q).1.1 = 0) : pO5 tb tl q = (pO2 tb tl q).1 := by simp only [pO5, pO4, pO3, pTN_f h, pTB_f h]
theorem pOff_f3 {tb : Nat → Nat} {tl : Nat} {q : (Nat × Nat) × pK} (h : ¬ (pTB tb tl 44 (pO2 tb tl q).1).1 = 0) : pO5 tb tl q = pTB tb tl 44 (pO2 tb tl q).1 := by simp only [pO5, pO4, pO3, pTN_f h, pTB_f h]
theorem pOff_f4 {tb : Nat → Nat} {tl : Nat} {q : (Nat × Nat) × pK} (h : ¬ (pO3 tb tl q).1.1 = 0) : pO5 tb tl q = (pO3 tb tl q).1 := by simp only [pO5, pO4, pTN_f h, pTB_f h]
theorem pOff_f5 {tb : Nat → Nat} {tl : Nat} {q : (Nat × Nat) × pK} (h : ¬ (pTB tb tl 44 (pO3 tb tl q).1).1 = 0) : pO5 tb tl q = pTB tb tl 44 (pO3 tb tl q).1 := by simp only [pO5, pO4, pTN_f h, pTB_f h]
theorem pOff_f6 {tb : Nat → Nat} {tl : Nat} {q : (Nat × Nat) × pK} (h : ¬ (pO4 tb tl q).1.1 = 0) : pO5 tb tl q = (pO4 tb tl q).1 := by simp only [pO5, pTB_f h]
theorem pOff_1e {tb : Nat → Nat} {tl : Nat} {q : (Nat × Nat) × pK} : (pOff tb tl q).1 = pO5 tb tl q := by unfold pOff; dsimp only
theorem pO_ok {tb : Nat → Nat} {tl : Nat} {q : (Nat × Nat) × pK} (h : rdOK tl q.1) : rdOK tl (pO1 tb tl q).1 ∧ rdOK tl (pO2 tb tl q).1 ∧ rdOK tl (pTB tb tl 44 (pO2 tb tl q).1) ∧ rdOK tl (pO3 tb tl q).1 ∧ rdOK tl (pTB tb tl 44 (pO3 tb tl q).1) ∧ rdOK tl (pO4 tb tl q).1 := by
  have k1 : rdOK tl (pO1 tb tl q).1 := by unfold pO1; exact (pTS_ok h).1
  have k2 : rdOK tl (pO2 tb tl q).1 := by unfold pO2; exact (pTN_ok k1).1
  have k3 := pTB_ok (tb := tb) (due := 44) k2
  have k4 : rdOK tl (pO3 tb tl q).1 := by unfold pO3; exact (pTN_ok k3).1
  have k5 := pTB_ok (tb := tb) (due := 44) k4
  have k6 : rdOK tl (pO4 tb tl q).1 := by unfold pO4; exact (pTN_ok k5).1
  exact ⟨k1, k2, k3, k4, k5, k6⟩
theorem pSort_let {v : Nat} (h : pSort v ≠ 0) : 97 ≤ v ∧ v ≤ 122 := by
  unfold pSort at h; (repeat' split at h) <;> omega
theorem pAdd_up {K : pK} {k l h f : Nat} (h5 : K 5 < 5) (hz : K (27 + K 5) = 0) (j : Nat) : pUp (pUp (pUp (pUp (pUp K (7 + K 5) k) 5 (K 5 + 1)) (12 + K 5) l) (17 + K 5) h) (22 + K 5) f j = pAdd K k l h f j := by
  unfold pUp pAdd
  (repeat' split) <;> first | rfl | omega | (rename_i c; rw [c]; exact hz)
theorem c_X8_numberT {G : am_G} {μ : am_M} (tb : Nat → Nat) (tl : Nat) (fa : Int32) (hk : tpOK tb tl) (s : Nat × Nat) (u : (Nat × Nat) × Nat) (place most : Nat) (hu : pTN tb tl most s = u) (h0 : s.1 = 0) (hp : s.2 ≤ tl) (hR : rdM μ tb tl fa s) (hpl : place < 32) (hm : most < 100) : am_MA G yX8_number cX8_number 3 (some .boolean) 3 0 0 [.ref 234, .int (nI place), .int (nI most)] am_SH μ (am_P (some (.int (pI (u.1.1 = 0)))) am_SH (fun μ9 => rdM μ9 tb tl fa u.1 ∧ rdF μ μ9 ∧ (u.1.1 = 0 → μ9 244 = upd (μ 244) place (nI u.2)))) := by
  subst hu
  exact c_X8_numberS tb tl fa hk s h0 hp hR place most hpl hm
theorem c_X8_signT {G : am_G} {μ : am_M} (tb : Nat → Nat) (tl : Nat) (fa : Int32) (hk : tpOK tb tl) (s u : Nat × Nat) (which due : Nat) (hu : pTB tb tl due s = u) (h0 : s.1 = 0) (hp : s.2 ≤ tl) (hR : rdM μ tb tl fa s) (hw : which = 3 ∨ which = 4) (hd : ∀ p, pTk tb tl p = which ↔ p < tl ∧ tb p = due) : am_MA G yX8_sign cX8_sign 2 (some .boolean) 3 0 0 [.ref 234, .int (nI which)] am_SH μ (am_P (some (.int (pI (u.1 = 0)))) am_SH (fun μ9 => rdM μ9 tb tl fa u ∧ rdF μ μ9 ∧ μ9 244 = μ 244)) := by
  subst hu
  exact c_X8_signS tb tl fa hk s h0 hp hR which due hw hd
set_option maxRecDepth 100000 in
set_option maxHeartbeats 4000000 in
theorem c_X8_readsOffice {G : am_G} {μ : am_M} (tb : Nat → Nat) (tl : Nat) (fa : Int32) (hk : tpOK tb tl) (q : (Nat × Nat) × pK) (a : Nat) (v : Int32) (h0 : q.1.1 = 0) (hp : q.1.2 ≤ tl) (hN : nxC μ tb tl a q.1.2 (nI (pTk tb tl q.1.2)) v) (hX : nxR tb tl q.1.2 a v) (h6 : μ 234 6 = fa) (hK : mC μ 244 q.2) (h5 : q.2 5 ≤ 5) (hz : ∀ o, o < 5 → q.2 (27 + o) = 0) : am_MA G yX8_readsOffice cX8_readsOffice 3 (some .boolean) 4 0 0 [.ref 234] am_SH μ (am_P (some (.int (pI ((pOff tb tl q).1.1 = 0)))) am_SH (fun μ9 => rdM μ9 tb tl fa (pOff tb tl q).1 ∧ rdF μ μ9 ∧ ((pOff tb tl q).1.1 = 0 → mC μ9 244 (pOff tb tl q).2))) := by
  have htl := hk.1
  have ht5 := pTk_le tb tl q.1.2
  refine am_ofK (own := RX8) (nm := "readsOffice") (L := [some (.ref 234), none, none]) rfl rfl (by decide +kernel) (Nat.le_of_ble_eq_true rfl) rfl ?_
  refine aw_aload_n dX8_readsOffice_0 rfl ?_
  refine aw_gi dX8_readsOffice_1 gf_X8_101 sh_234 (by rfl) ?_
  refine aw_top hN.pt ?_
  refine aw_iconst (v := nI 1) dX8_readsOffice_4 rfl ?_
  refine aw_icmp_ne (tgt := 18) dX8_readsOffice_5 (by decide) (fun c5 => ?_) (fun c5 => ?_)
  · rw [nI_eq (by omega) (by decide)] at c5
    refine aw_iconst (v := nI 0) dX8_readsOffice_18 rfl ?_
    refine aw_istore_n dX8_readsOffice_19 (Nat.le_of_ble_eq_true rfl) ?_
    refine aw_iload_n dX8_readsOffice_20 rfl ?_
    refine aw_if_ne (tgt := 30) dX8_readsOffice_21 (by decide) (fun c21 => ?_) (fun c21 => ?_)
    · exact absurd (show nI 0 = 0 by decide +kernel) c21
    · first | (rw [z_eq (by omega)] at c21) | skip
      refine aw_aload_n dX8_readsOffice_24 rfl ?_
      refine aw_iconst (v := nI 1) dX8_readsOffice_25 rfl ?_
      refine aw_v1i dX8_readsOffice_26 ml_X8_113 im_X8_fails se_X8_fails (c_X8_fails 1) sh_234 (by decide) rfl rfl (Nat.le_of_ble_eq_true rfl) (Nat.le_of_ble_eq_true rfl) (Nat.le_of_ble_eq_true rfl) (Nat.le_of_ble_eq_true rfl) (Nat.le_of_ble_eq_true rfl) ?_
      refine aw_iret dX8_readsOffice_29 rfl rfl rfl rfl ?_
      have e1 : pO1 tb tl q = ((1, q.1.2), 0) := by
        unfold pO1 pTS
        rw [if_neg (fun z => z h0), if_neg (fun z => c5 (pTk_1.mpr ⟨z.1, pSort_let z.2⟩))]
      have el := (pOff_1e (tb := tb) (tl := tl) (q := q)).trans ((pOff_f1 (by rw [e1]; simp)).trans (by rw [e1]))
      exact ⟨pI_fa (by rw [el]; simp), rfl, by rw [el]; exact hN.fail (by decide), rdF.rf.u6, fun z => absurd z (by rw [el]; simp)⟩
  · rw [nI_eq (by omega) (by decide)] at c5
    obtain ⟨ea, ev⟩ := hX.2.1 c5
    have hb := hk.2 q.1.2 (pTk_1.mp c5).1
    refine aw_aload_n dX8_readsOffice_8 rfl ?_
    refine aw_gi dX8_readsOffice_9 gf_X8_104 sh_234 (by rfl) ?_
    refine aw_top (hN.pv.trans ev) ?_
    refine aw_s1i dX8_readsOffice_12 ml_X8_123 st_X8_sortOf (c_X8_sortOf (tb q.1.2) hb) (Nat.le_of_ble_eq_true rfl) (Nat.le_of_ble_eq_true rfl) (Nat.le_of_ble_eq_true rfl) (Nat.le_of_ble_eq_true rfl) (Nat.le_of_ble_eq_true rfl) ?_
    have hs5 := pSort_le (tb q.1.2)
    refine aw_goto (tgt := 19) dX8_readsOffice_15 (by decide) ?_
    refine aw_istore_n dX8_readsOffice_19 (Nat.le_of_ble_eq_true rfl) ?_
    refine aw_iload_n dX8_readsOffice_20 rfl ?_
    refine aw_if_ne (tgt := 30) dX8_readsOffice_21 (by decide) (fun c21 => ?_) (fun c21 => ?_)
    · rw [z_eq (by omega)] at c21
      refine aw_aload_n dX8_readsOffice_30 rfl ?_
      refine aw_gr dX8_readsOffice_31 gf_X8_38 sh_234 (by rfl) ?_
      refine aw_iconst (v := nI 5) dX8_readsOffice_34 rfl ?_
      refine aw_iald (j := 5) dX8_readsOffice_35 sh_244 rfl (by decide) (by decide) ?_
      refine aw_top (hK 5 (by decide)) ?_
      refine aw_istore_n dX8_readsOffice_36 (Nat.le_of_ble_eq_true rfl) ?_
      refine aw_iload_n dX8_readsOffice_37 rfl ?_
      refine aw_iconst (v := nI 5) dX8_readsOffice_38 rfl ?_
      refine aw_icmp_ne (tgt := 48) dX8_readsOffice_39 (by decide) (fun c39 => ?_) (fun c39 => ?_)
      · rw [nI_eq (by omega) (by decide)] at c39
        have e1 : pO1 tb tl q = ((0, q.1.2 + 1), pSort (tb q.1.2)) := by
          unfold pO1 pTS
          rw [if_neg (fun z => z h0), if_pos ⟨(pTk_1.mp c5).1, c21⟩, if_pos (by omega)]
        have hR0 : rdM μ tb tl fa (pO1 tb tl q).1 := by
          rw [e1]
          have := hN.good h6
          rw [ea] at this
          exact this
        obtain ⟨k1, k2, k3, k4, k5, k6⟩ := pO_ok (tb := tb) (q := q) ⟨by omega, hp⟩
        refine aw_aload_n dX8_readsOffice_48 rfl ?_
        refine aw_gr dX8_readsOffice_49 gf_X8_38 sh_234 (by rfl) ?_
        refine aw_bipush (v := nI 7) dX8_readsOffice_52 rfl ?_
        refine aw_iload_n dX8_readsOffice_54 rfl ?_
        refine aw_iadd dX8_readsOffice_55 ?_
        refine aw_top (nI_add _ _) ?_
        refine aw_iload_n dX8_readsOffice_56 rfl ?_
        refine aw_iast dX8_readsOffice_57 sh_244 rfl (by omega) (by decide) ?_
        refine aw_gen (P := fun μ3 => mC μ3 244 (pUp q.2 (7 + q.2 5) (pSort (tb q.1.2))) ∧ rdF μ μ3 ∧ rdM μ3 tb tl fa (pO1 tb tl q).1) ⟨hK.up _ _, rdF.rf.ur, hR0.ur⟩ (fun μ1 hq => ?_)
        obtain ⟨hK1, hF1, hR1⟩ := hq
        refine aw_aload_n dX8_readsOffice_58 rfl ?_
        refine aw_gr dX8_readsOffice_59 gf_X8_38 sh_234 (by rfl) ?_
        refine aw_iconst (v := nI 5) dX8_readsOffice_62 rfl ?_
        refine aw_dup2 dX8_readsOffice_63 rfl rfl ?_
        refine aw_iald (j := 5) dX8_readsOffice_64 sh_244 rfl (by decide) (by decide) ?_
        refine aw_top (hK1 5 (by decide)) ?_
        refine aw_top (show _ = nI (q.2 5) by rw [pUp_n (by omega)]) ?_
        refine aw_iconst (v := nI 1) dX8_readsOffice_65 rfl ?_
        refine aw_iadd dX8_readsOffice_66 ?_
        refine aw_top (nI_add _ _) ?_
        refine aw_iast (j := 5) dX8_readsOffice_67 sh_244 rfl (by decide) (by decide) ?_
        refine aw_gen (P := fun μ3 => mC μ3 244 (pUp (pUp q.2 (7 + q.2 5) (pSort (tb q.1.2))) 5 (q.2 5 + 1)) ∧ rdF μ μ3 ∧ rdM μ3 tb tl fa (pO1 tb tl q).1) ⟨hK1.up _ _, hF1.ur, hR1.ur⟩ (fun μ1 hq => ?_)
        obtain ⟨hK1, hF1, hR1⟩ := hq
        refine aw_aload_n dX8_readsOffice_68 rfl ?_
        refine aw_bipush (v := nI 12) dX8_readsOffice_69 rfl ?_
        refine aw_iload_n dX8_readsOffice_71 rfl ?_
        refine aw_iadd dX8_readsOffice_72 ?_
        refine aw_top (nI_add _ _) ?_
        refine aw_bipush (v := nI 9) dX8_readsOffice_73 rfl ?_
        refine aw_v2ip dX8_readsOffice_75 ml_X8_116 im_X8_number se_X8_number (c_X8_numberT tb tl fa hk (pO1 tb tl q).1 (pO2 tb tl q) (12 + q.2 5) 9 (by simp only [pO2]) (by rw [e1]) k1.2 hR1 (by omega) (by decide)) sh_234 (by decide) rfl rfl (Nat.le_of_ble_eq_true rfl) (Nat.le_of_ble_eq_true rfl) (Nat.le_of_ble_eq_true rfl) (Nat.le_of_ble_eq_true rfl) (Nat.le_of_ble_eq_true rfl) (fun μ2 q2 => ?_)
        refine aw_pif_eq (tgt := 135) dX8_readsOffice_78 (by decide) (fun c78 => ?_) (fun c78 => ?_)
        · refine aw_iconst (v := nI 0) dX8_readsOffice_135 rfl ?_
          refine aw_iret dX8_readsOffice_136 rfl rfl rfl rfl ?_
          have el := (pOff_1e (tb := tb) (tl := tl) (q := q)).trans (pOff_f2 c78)
          exact ⟨pI_fa (by rw [el]; exact c78), rfl, by rw [el]; exact q2.1, hF1.tr q2.2.1, fun z => absurd z (by rw [el]; exact c78)⟩
        · have hK2 := mC_upd (μ := μ1) hK1 (q2.2.2 c78)
          refine aw_aload_n dX8_readsOffice_81 rfl ?_
          refine aw_iconst (v := nI 3) dX8_readsOffice_82 rfl ?_
          refine aw_v1ip dX8_readsOffice_83 ml_X8_120 im_X8_sign se_X8_sign (c_X8_signT tb tl fa hk (pO2 tb tl q).1 (pTB tb tl 44 (pO2 tb tl q).1) 3 44 rfl c78 k2.2 q2.1 (Or.inl rfl) (fun _ => pTk_3)) sh_234 (by decide) rfl rfl (Nat.le_of_ble_eq_true rfl) (Nat.le_of_ble_eq_true rfl) (Nat.le_of_ble_eq_true rfl) (Nat.le_of_ble_eq_true rfl) (Nat.le_of_ble_eq_true rfl) (fun μ3 q3 => ?_)
          refine aw_pif_eq (tgt := 135) dX8_readsOffice_86 (by decide) (fun c86 => ?_) (fun c86 => ?_)
          · refine aw_iconst (v := nI 0) dX8_readsOffice_135 rfl ?_
            refine aw_iret dX8_readsOffice_136 rfl rfl rfl rfl ?_
            have el := (pOff_1e (tb := tb) (tl := tl) (q := q)).trans (pOff_f3 c86)
            exact ⟨pI_fa (by rw [el]; exact c86), rfl, by rw [el]; exact q3.1, (hF1.tr q2.2.1).tr q3.2.1, fun z => absurd z (by rw [el]; exact c86)⟩
          · have hK3 := hK2.fr q3.2.2
            refine aw_aload_n dX8_readsOffice_89 rfl ?_
            refine aw_bipush (v := nI 17) dX8_readsOffice_90 rfl ?_
            refine aw_iload_n dX8_readsOffice_92 rfl ?_
            refine aw_iadd dX8_readsOffice_93 ?_
            refine aw_top (nI_add _ _) ?_
            refine aw_bipush (v := nI 20) dX8_readsOffice_94 rfl ?_
            refine aw_v2ip dX8_readsOffice_96 ml_X8_116 im_X8_number se_X8_number (c_X8_numberT tb tl fa hk (pTB tb tl 44 (pO2 tb tl q).1) (pO3 tb tl q) (17 + q.2 5) 20 (by simp only [pO3]) c86 k3.2 q3.1 (by omega) (by decide)) sh_234 (by decide) rfl rfl (Nat.le_of_ble_eq_true rfl) (Nat.le_of_ble_eq_true rfl) (Nat.le_of_ble_eq_true rfl) (Nat.le_of_ble_eq_true rfl) (Nat.le_of_ble_eq_true rfl) (fun μ4 q4 => ?_)
            refine aw_pif_eq (tgt := 135) dX8_readsOffice_99 (by decide) (fun c99 => ?_) (fun c99 => ?_)
            · refine aw_iconst (v := nI 0) dX8_readsOffice_135 rfl ?_
              refine aw_iret dX8_readsOffice_136 rfl rfl rfl rfl ?_
              have el := (pOff_1e (tb := tb) (tl := tl) (q := q)).trans (pOff_f4 c99)
              exact ⟨pI_fa (by rw [el]; exact c99), rfl, by rw [el]; exact q4.1, ((hF1.tr q2.2.1).tr q3.2.1).tr q4.2.1, fun z => absurd z (by rw [el]; exact c99)⟩
            · have hK4 := mC_upd (μ := μ3) hK3 (q4.2.2 c99)
              refine aw_aload_n dX8_readsOffice_102 rfl ?_
              refine aw_iconst (v := nI 3) dX8_readsOffice_103 rfl ?_
              refine aw_v1ip dX8_readsOffice_104 ml_X8_120 im_X8_sign se_X8_sign (c_X8_signT tb tl fa hk (pO3 tb tl q).1 (pTB tb tl 44 (pO3 tb tl q).1) 3 44 rfl c99 k4.2 q4.1 (Or.inl rfl) (fun _ => pTk_3)) sh_234 (by decide) rfl rfl (Nat.le_of_ble_eq_true rfl) (Nat.le_of_ble_eq_true rfl) (Nat.le_of_ble_eq_true rfl) (Nat.le_of_ble_eq_true rfl) (Nat.le_of_ble_eq_true rfl) (fun μ5 q5 => ?_)
              refine aw_pif_eq (tgt := 135) dX8_readsOffice_107 (by decide) (fun c107 => ?_) (fun c107 => ?_)
              · refine aw_iconst (v := nI 0) dX8_readsOffice_135 rfl ?_
                refine aw_iret dX8_readsOffice_136 rfl rfl rfl rfl ?_
                have el := (pOff_1e (tb := tb) (tl := tl) (q := q)).trans (pOff_f5 c107)
                exact ⟨pI_fa (by rw [el]; exact c107), rfl, by rw [el]; exact q5.1, (((hF1.tr q2.2.1).tr q3.2.1).tr q4.2.1).tr q5.2.1, fun z => absurd z (by rw [el]; exact c107)⟩
              · have hK5 := hK4.fr q5.2.2
                refine aw_aload_n dX8_readsOffice_110 rfl ?_
                refine aw_bipush (v := nI 22) dX8_readsOffice_111 rfl ?_
                refine aw_iload_n dX8_readsOffice_113 rfl ?_
                refine aw_iadd dX8_readsOffice_114 ?_
                refine aw_top (nI_add _ _) ?_
                refine aw_bipush (v := nI 60) dX8_readsOffice_115 rfl ?_
                refine aw_v2ip dX8_readsOffice_117 ml_X8_116 im_X8_number se_X8_number (c_X8_numberT tb tl fa hk (pTB tb tl 44 (pO3 tb tl q).1) (pO4 tb tl q) (22 + q.2 5) 60 (by simp only [pO4]) c107 k5.2 q5.1 (by omega) (by decide)) sh_234 (by decide) rfl rfl (Nat.le_of_ble_eq_true rfl) (Nat.le_of_ble_eq_true rfl) (Nat.le_of_ble_eq_true rfl) (Nat.le_of_ble_eq_true rfl) (Nat.le_of_ble_eq_true rfl) (fun μ6 q6 => ?_)
                refine aw_pif_eq (tgt := 135) dX8_readsOffice_120 (by decide) (fun c120 => ?_) (fun c120 => ?_)
                · refine aw_iconst (v := nI 0) dX8_readsOffice_135 rfl ?_
                  refine aw_iret dX8_readsOffice_136 rfl rfl rfl rfl ?_
                  have el := (pOff_1e (tb := tb) (tl := tl) (q := q)).trans (pOff_f6 c120)
                  exact ⟨pI_fa (by rw [el]; exact c120), rfl, by rw [el]; exact q6.1, ((((hF1.tr q2.2.1).tr q3.2.1).tr q4.2.1).tr q5.2.1).tr q6.2.1, fun z => absurd z (by rw [el]; exact c120)⟩
                · have hK6 := mC_upd (μ := μ5) hK5 (q6.2.2 c120)
                  refine aw_aload_n dX8_readsOffice_123 rfl ?_
                  refine aw_iconst (v := nI 4) dX8_readsOffice_124 rfl ?_
                  refine aw_v1ip dX8_readsOffice_125 ml_X8_120 im_X8_sign se_X8_sign (c_X8_signT tb tl fa hk (pO4 tb tl q).1 (pO5 tb tl q) 4 59 (by simp only [pO5]) c120 k6.2 q6.1 (Or.inr rfl) (fun _ => pTk_4)) sh_234 (by decide) rfl rfl (Nat.le_of_ble_eq_true rfl) (Nat.le_of_ble_eq_true rfl) (Nat.le_of_ble_eq_true rfl) (Nat.le_of_ble_eq_true rfl) (Nat.le_of_ble_eq_true rfl) (fun μ7 q7 => ?_)
                  refine aw_pif_eq (tgt := 135) dX8_readsOffice_128 (by decide) (fun c128 => ?_) (fun c128 => ?_)
                  · refine aw_iconst (v := nI 0) dX8_readsOffice_135 rfl ?_
                    refine aw_iret dX8_readsOffice_136 rfl rfl rfl rfl ?_
                    have el := pOff_1e (tb := tb) (tl := tl) (q := q)
                    exact ⟨pI_fa (by rw [el]; exact c128), rfl, by rw [el]; exact q7.1, (((((hF1.tr q2.2.1).tr q3.2.1).tr q4.2.1).tr q5.2.1).tr q6.2.1).tr q7.2.1, fun z => absurd z (by rw [el]; exact c128)⟩
                  · refine aw_iconst (v := nI 1) dX8_readsOffice_131 rfl ?_
                    refine aw_goto (tgt := 136) dX8_readsOffice_132 (by decide) ?_
                    refine aw_iret dX8_readsOffice_136 rfl rfl rfl rfl ?_
                    have el := pOff_1e (tb := tb) (tl := tl) (q := q)
                    exact ⟨pI_tr (by rw [el]; exact c128), rfl, by rw [el]; exact q7.1, (((((hF1.tr q2.2.1).tr q3.2.1).tr q4.2.1).tr q5.2.1).tr q6.2.1).tr q7.2.1, fun _ => by rw [pOff_2 c128]; exact (hK6.fr q7.2.2).cg (fun j hj => by rw [show (pO1 tb tl q).2 = _ from congrArg Prod.snd e1]; exact pAdd_up (by omega) (hz _ (by omega)) j)⟩
      · rw [nI_eq (by omega) (by decide)] at c39
        refine aw_aload_n dX8_readsOffice_42 rfl ?_
        refine aw_iconst (v := nI 3) dX8_readsOffice_43 rfl ?_
        refine aw_v1i dX8_readsOffice_44 ml_X8_113 im_X8_fails se_X8_fails (c_X8_fails 3) sh_234 (by decide) rfl rfl (Nat.le_of_ble_eq_true rfl) (Nat.le_of_ble_eq_true rfl) (Nat.le_of_ble_eq_true rfl) (Nat.le_of_ble_eq_true rfl) (Nat.le_of_ble_eq_true rfl) ?_
        refine aw_iret dX8_readsOffice_47 rfl rfl rfl rfl ?_
        have e1 : pO1 tb tl q = ((3, q.1.2), pSort (tb q.1.2)) := by
          unfold pO1 pTS
          rw [if_neg (fun z => z h0), if_pos ⟨(pTk_1.mp c5).1, c21⟩, if_neg (by omega)]
        have el := (pOff_1e (tb := tb) (tl := tl) (q := q)).trans ((pOff_f1 (by rw [e1]; simp)).trans (by rw [e1]))
        exact ⟨pI_fa (by rw [el]; simp), rfl, by rw [el]; exact hN.fail (by decide), rdF.rf.u6, fun z => absurd z (by rw [el]; simp)⟩
    · first | (rw [z_eq (by omega)] at c21) | skip
      refine aw_aload_n dX8_readsOffice_24 rfl ?_
      refine aw_iconst (v := nI 1) dX8_readsOffice_25 rfl ?_
      refine aw_v1i dX8_readsOffice_26 ml_X8_113 im_X8_fails se_X8_fails (c_X8_fails 1) sh_234 (by decide) rfl rfl (Nat.le_of_ble_eq_true rfl) (Nat.le_of_ble_eq_true rfl) (Nat.le_of_ble_eq_true rfl) (Nat.le_of_ble_eq_true rfl) (Nat.le_of_ble_eq_true rfl) ?_
      refine aw_iret dX8_readsOffice_29 rfl rfl rfl rfl ?_
      have e1 : pO1 tb tl q = ((1, q.1.2), 0) := by
        unfold pO1 pTS
        rw [if_neg (fun z => z h0), if_neg (fun z => z.2 c21)]
      have el := (pOff_1e (tb := tb) (tl := tl) (q := q)).trans ((pOff_f1 (by rw [e1]; simp)).trans (by rw [e1]))
      exact ⟨pI_fa (by rw [el]; simp), rfl, by rw [el]; exact hN.fail (by decide), rdF.rf.u6, fun z => absurd z (by rw [el]; simp)⟩
