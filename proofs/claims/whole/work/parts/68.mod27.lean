/-! ===== the model's sky ===== -/
theorem pOffs_f {tb : Nat → Nat} {tl : Nat} : ∀ (r : Nat) (q : (Nat × Nat) × pK), ¬ q.1.1 = 0 → pOffs tb tl r q = q
  | 0, _, _ => rfl
  | r + 1, q, h => by unfold pOffs; rw [if_neg (fun z => h z.1)]
theorem pOffs_s (tb : Nat → Nat) (tl r : Nat) (q : (Nat × Nat) × pK) : pOffs tb tl (r + 1) q = if q.1.1 = 0 ∧ q.1.2 < tl then pOffs tb tl r (pOff tb tl q) else q := rfl
theorem pOff_fq {tb : Nat → Nat} {tl : Nat} {q : (Nat × Nat) × pK} (h : ¬ q.1.1 = 0) : (pOff tb tl q).1 = q.1 := by
  have e : pO1 tb tl q = (q.1, 0) := by unfold pO1; exact pTS_f h
  rw [pOff_1e, pOff_f1 (by rw [e]; exact h), e]
theorem pRead_l {tb : Nat → Nat} {tl : Nat} (h : ¬ (pLaw tb tl).1.1 = 0) : (pRead tb tl).1 = (pLaw tb tl).1 := by
  unfold pRead
  rw [pOffs_f 5 _ (by rw [pOff_fq h]; exact h)]
  exact pOff_fq h
theorem pOff_lt {tb : Nat → Nat} {tl : Nat} {q : (Nat × Nat) × pK} (h : (pO5 tb tl q).1 = 0) : q.2 5 < 5 ∧ q.1.1 = 0 := by
  have h1 : (pO1 tb tl q).1.1 = 0 := Decidable.byContradiction (fun c => c (by rw [← pOff_f1 c]; exact h))
  refine ⟨?_, ?_⟩
  · unfold pO1 at h1; exact (pTS_0 h1).1
  · exact Decidable.byContradiction (fun c => c (by unfold pO1 at h1; rw [pTS_f c] at h1; exact h1))
theorem pAdd_5 (K : pK) (k l h f : Nat) : pAdd K k l h f 5 = K 5 + 1 := by
  unfold pAdd
  exact if_pos rfl
theorem pOff_5 {tb : Nat → Nat} {tl : Nat} {q : (Nat × Nat) × pK} (h : (pO5 tb tl q).1 = 0) : (pOff tb tl q).2 5 = q.2 5 + 1 := by
  rw [pOff_2 h]
  dsimp only
  exact pAdd_5 _ _ _ _ _
theorem pAdd_z {K : pK} {k l h f : Nat} (h5 : K 5 < 5) (hz : ∀ o, o < 5 → K (27 + o) = 0) (o : Nat) (ho : o < 5) : pAdd K k l h f (27 + o) = 0 := by
  unfold pAdd
  rw [if_neg (by omega), if_neg (by omega), if_neg (by omega), if_neg (by omega), if_neg (by omega)]
  split
  · rfl
  · exact hz o ho
theorem pO5_ok {tb : Nat → Nat} {tl : Nat} {q : (Nat × Nat) × pK} (h : rdOK tl q.1) : rdOK tl (pO5 tb tl q) := by
  unfold pO5
  exact pTB_ok (pO_ok h).2.2.2.2.2
theorem pOffs_pos {tb : Nat → Nat} {tl : Nat} : ∀ (r : Nat) (q : (Nat × Nat) × pK), 0 < q.2 5 → (pOffs tb tl r q).1.1 = 0 → 0 < (pOffs tb tl r q).2 5
  | 0, q, h, _ => h
  | r + 1, q, h, h2 => by
    rw [pOffs_s] at h2 ⊢
    by_cases c : q.1.1 = 0 ∧ q.1.2 < tl
    · rw [if_pos c] at h2 ⊢
      by_cases c2 : (pOff tb tl q).1.1 = 0
      · exact pOffs_pos r _ (by rw [pOff_5 (by rw [← pOff_1e]; exact c2)]; omega) h2
      · rw [pOffs_f r _ c2] at h2; exact absurd h2 c2
    · rw [if_neg c]; exact h
theorem pRead_pos {tb : Nat → Nat} {tl : Nat} (h : (pRead tb tl).1.1 = 0) : 0 < (pRead tb tl).2 5 := by
  unfold pRead at h ⊢
  by_cases c2 : (pOff tb tl (pLaw tb tl)).1.1 = 0
  · exact pOffs_pos 5 _ (by rw [pOff_5 (by rw [← pOff_1e]; exact c2)]; omega) h
  · rw [pOffs_f 5 _ c2] at h; exact absurd h c2
theorem okB_sS {A : pA} {K : pK} (h : okB A) (hk : pOK K) (h6 : K 6 ≤ 999) (h5 : ¬ K 5 = 0) : okB (A.sS K) :=
  ⟨⟨⟨Nat.zero_le _, fun j hj => absurd hj (Nat.not_lt_zero j)⟩, hk, h6, (fun K2 hK => absurd hK (by show ¬ K2 ∈ ([] : List pK); simp)), Nat.zero_le _, h.1.im, h.1.tr, h.1.fi, h.1.w⟩, (fun q => absurd rfl q), fun _ _ _ => h5⟩
theorem okB_sA {A : pA} {f : Nat} (h : okB A) : okB (A.sA f) :=
  ⟨⟨⟨Nat.zero_le _, fun j hj => absurd hj (Nat.not_lt_zero j)⟩, h.1.k, h.1.k6, h.1.ac, h.1.acl, h.1.im, h.1.tr, h.1.fi, h.1.w⟩, h.2.1, h.2.2⟩
theorem okB_oSky {A : pA} (h : okB A) : okB (oSky A).2 := by
  have hp := pRead_pos (tb := A.tb) (tl := A.tl)
  have hk := (pRead_ok A.tb A.tl).2
  unfold oSky
  generalize pRead A.tb A.tl = R at hp hk ⊢
  by_cases c : R.1.1 = 0
  · rw [if_pos c]
    exact okB_sS h hk.1 (by rw [hk.2.1]; omega) (by have := hp c; omega)
  · rw [if_neg c]
    exact okB_sA h
set_option maxRecDepth 100000 in
set_option maxHeartbeats 4000000 in
theorem l_X8_reads {G : am_G} {μ : am_M} (tb : Nat → Nat) (tl : Nat) (fa : Int32) (hk : tpOK tb tl) : ∀ (r : Nat) (q : (Nat × Nat) × pK) (a : Nat) (v : Int32) (μ1 : am_M), q.2 5 + r = 6 → q.1.1 = 0 → q.1.2 ≤ tl → q.2 5 ≤ 5 → nxC μ1 tb tl a q.1.2 (nI (pTk tb tl q.1.2)) v → nxR tb tl q.1.2 a v → μ1 234 6 = fa → mC μ1 244 q.2 → (∀ o, o < 5 → q.2 (27 + o) = 0) → rdF μ μ1 → (q.1.2 < tl ∨ 0 < q.2 5 → pOffs tb tl r q = pRead tb tl) → (q.2 5 = 0 → pOffs tb tl 5 (pOff tb tl q) = pRead tb tl) → am_W (am_K G RX8 "reads" 2 (some .boolean) 5 0 0 (am_P (some (.int (pI ((pRead tb tl).1.1 = 0)))) am_SH (fun μ9 => rdM μ9 tb tl fa (pRead tb tl).1 ∧ rdF μ μ9 ∧ ((pRead tb tl).1.1 = 0 → mC μ9 244 (pRead tb tl).2)))) cX8_reads 39 [some (.ref 234), some (.int (nI 32))] [] am_SH μ1 0 0 := by
  have htl := hk.1
  intro r
  induction r with
  | zero =>
    intro q a v μ1 hr h0 hp h5 hN hX h6 hK hz hF e1 e2
    omega
  | succ r ih =>
    intro q a v μ1 hr h0 hp h5 hN hX h6 hK hz hF e1 e2
    have ht5 := pTk_le tb tl q.1.2
    refine aw_aload_n dX8_reads_39 rfl ?_
    refine aw_gi dX8_reads_40 gf_X8_101 sh_234 (by rfl) ?_
    refine aw_top hN.pt ?_
    refine aw_if_eq (tgt := 62) dX8_reads_43 (by decide) (fun c43 => ?_) (fun c43 => ?_)
    · rw [z_eq (by omega), pTk_0] at c43
      refine aw_aload_n dX8_reads_62 rfl ?_
      refine aw_gr dX8_reads_63 gf_X8_38 sh_234 (by rfl) ?_
      refine aw_iconst (v := nI 5) dX8_reads_66 rfl ?_
      refine aw_iald (j := 5) dX8_reads_67 sh_244 rfl (by decide) (by decide) ?_
      refine aw_top (hK 5 (by decide)) ?_
      refine aw_if_gt (tgt := 79) dX8_reads_68 (by decide) (fun c68 => ?_) (fun c68 => ?_)
      · rw [z_gt (by omega)] at c68
        refine aw_iconst (v := nI 1) dX8_reads_79 rfl ?_
        refine aw_goto (tgt := 84) dX8_reads_80 (by decide) ?_
        refine aw_iret dX8_reads_84 rfl rfl rfl rfl ?_
        have er : pRead tb tl = q := by rw [← e1 (Or.inr c68), pOffs_s, if_neg (fun z => c43 z.2)]
        exact ⟨pI_tr (by rw [er]; exact h0), rfl, (by rw [er]; have := hN.good h6; rw [hX.1 (pTk_0.mpr c43), pair0 h0] at this; exact this), hF, fun _ => by rw [er]; exact hK⟩
      · rw [z_gt (by omega)] at c68
        refine aw_aload_n dX8_reads_71 rfl ?_
        refine aw_iconst (v := nI 1) dX8_reads_72 rfl ?_
        refine aw_v1i dX8_reads_73 ml_X8_113 im_X8_fails se_X8_fails (c_X8_fails 1) sh_234 (by decide) rfl rfl (Nat.le_of_ble_eq_true rfl) (Nat.le_of_ble_eq_true rfl) (Nat.le_of_ble_eq_true rfl) (Nat.le_of_ble_eq_true rfl) (Nat.le_of_ble_eq_true rfl) ?_
        refine aw_if_eq (tgt := 83) dX8_reads_76 (by decide) (fun c76 => ?_) (fun c76 => ?_)
        · refine aw_iconst (v := nI 0) dX8_reads_83 rfl ?_
          refine aw_iret dX8_reads_84 rfl rfl rfl rfl ?_
          have ep : pO1 tb tl q = ((1, q.1.2), 0) := by unfold pO1 pTS; rw [if_neg (fun z => z h0), if_neg (fun z => c43 z.1)]
          have eo : (pOff tb tl q).1 = (1, q.1.2) := pOff_1e.trans ((pOff_f1 (by rw [ep]; simp)).trans (by rw [ep]))
          have er : (pRead tb tl).1 = (1, q.1.2) := by rw [← e2 (by omega), pOffs_f 5 _ (by rw [eo]; simp)]; exact eo
          exact ⟨pI_fa (by rw [er]; simp), rfl, by rw [er]; exact hN.fail (by decide), hF.u6, fun z => absurd z (by rw [er]; simp)⟩
        · exact absurd (show nI 0 = 0 by decide +kernel) c76
    · rw [z_eq (by omega), pTk_0] at c43
      have hlt : q.1.2 < tl := Decidable.not_not.mp c43
      refine aw_aload_n dX8_reads_46 rfl ?_
      refine aw_v0ip dX8_reads_47 ml_X8_130 im_X8_readsOffice se_X8_readsOffice (c_X8_readsOffice tb tl fa hk q a v h0 hp hN hX h6 hK h5 hz) sh_234 (by decide) rfl rfl (Nat.le_of_ble_eq_true rfl) (Nat.le_of_ble_eq_true rfl) (Nat.le_of_ble_eq_true rfl) (Nat.le_of_ble_eq_true rfl) (Nat.le_of_ble_eq_true rfl) (fun μ2 q2 => ?_)
      refine aw_pif_ne (tgt := 55) dX8_reads_50 (by decide) (fun c50 => ?_) (fun c50 => ?_)
      · have c5 : (pO5 tb tl q).1 = 0 := by rw [← pOff_1e]; exact c50
        have hl5 := pOff_lt c5
        have h5e := pOff_5 c5
        have hp2 : (pOff tb tl q).1.2 ≤ tl := by rw [pOff_1e]; exact (pO5_ok ⟨by omega, hp⟩).2
        have hR2 : rdM μ2 tb tl fa (0, (pOff tb tl q).1.2) := by rw [pair0 c50]; exact q2.1
        refine aw_aload_n dX8_reads_55 rfl ?_
        refine aw_v0vp dX8_reads_56 ml_X8_110 im_X8_next se_X8_next (c_X8_next tb tl (pOff tb tl q).1.2 hk hp2 hR2.nx) sh_234 (by decide) rfl rfl (Nat.le_of_ble_eq_true rfl) (Nat.le_of_ble_eq_true rfl) (Nat.le_of_ble_eq_true rfl) (Nat.le_of_ble_eq_true rfl) (Nat.le_of_ble_eq_true rfl) (fun μ3 q3 => ?_)
        obtain ⟨a2, v2, hN2, hF2, hX2, ha2⟩ := q3
        have h62 : μ3 234 6 = fa := (hF2.2 6 (by decide)).trans (hR2.ok rfl).2
        have e3 : pOffs tb tl r (pOff tb tl q) = pRead tb tl := by rw [← e1 (Or.inl hlt), pOffs_s, if_pos ⟨h0, hlt⟩]
        have hz2 : ∀ o, o < 5 → (pOff tb tl q).2 (27 + o) = 0 := fun o ho => by rw [pOff_2 c5]; exact pAdd_z hl5.1 hz o ho
        refine aw_goto (tgt := 39) dX8_reads_59 (by decide) ?_
        exact ih (pOff tb tl q) a2 v2 μ3 (by omega) c50 hp2 (by omega) hN2 hX2 h62 ((q2.2.2 c50).fr (hF2.1 244 (by decide))) hz2 ((hF.tr q2.2.1).tr hF2.rd) (fun _ => e3) (fun z => absurd z (by omega))
      · refine aw_iconst (v := nI 0) dX8_reads_53 rfl ?_
        refine aw_iret dX8_reads_54 rfl rfl rfl rfl ?_
        have er : pRead tb tl = pOff tb tl q := by rw [← e1 (Or.inl hlt), pOffs_s, if_pos ⟨h0, hlt⟩, pOffs_f r _ c50]
        exact ⟨pI_fa (by rw [er]; exact c50), rfl, by rw [er]; exact q2.1, hF.tr q2.2.1, fun z => absurd z (by rw [er]; exact c50)⟩
set_option maxRecDepth 100000 in
set_option maxHeartbeats 4000000 in
theorem z_X8_reads {G : am_G} {μ : am_M} (tb : Nat → Nat) (tl : Nat) (fa : Int32) (hk : tpOK tb tl) (kk : ∀ μ1 : am_M, (∀ j, j < 32 → μ1 244 j = nI 0) → (∀ b, b ≠ 244 → μ1 b = μ b) → am_W (am_K G RX8 "reads" 2 (some .boolean) 5 0 0 (am_P (some (.int (pI ((pRead tb tl).1.1 = 0)))) am_SH (fun μ9 => rdM μ9 tb tl fa (pRead tb tl).1 ∧ rdF μ μ9 ∧ ((pRead tb tl).1.1 = 0 → mC μ9 244 (pRead tb tl).2)))) cX8_reads 21 [some (.ref 234), some (.int (nI 32))] [] am_SH μ1 0 0) : ∀ (r k : Nat) (μ1 : am_M), k + r = 32 → (∀ j, j < k → μ1 244 j = nI 0) → (∀ b, b ≠ 244 → μ1 b = μ b) → am_W (am_K G RX8 "reads" 2 (some .boolean) 5 0 0 (am_P (some (.int (pI ((pRead tb tl).1.1 = 0)))) am_SH (fun μ9 => rdM μ9 tb tl fa (pRead tb tl).1 ∧ rdF μ μ9 ∧ ((pRead tb tl).1.1 = 0 → mC μ9 244 (pRead tb tl).2)))) cX8_reads 2 [some (.ref 234), some (.int (nI k))] [] am_SH μ1 0 0 := by
  intro r
  induction r with
  | zero =>
    intro k μ1 hk0 hz hf
    have e : k = 32 := by omega
    subst e
    refine aw_iload_n dX8_reads_2 rfl ?_
    refine aw_bipush (v := nI 32) dX8_reads_3 rfl ?_
    refine aw_icmp_ge (tgt := 21) dX8_reads_5 (by decide) (fun c5 => ?_) (fun c5 => ?_)
    · exact kk _ hz hf
    · exact absurd (nI_le (by omega) (by omega)) c5
  | succ r ih =>
    intro k μ1 hk0 hz hf
    refine aw_iload_n dX8_reads_2 rfl ?_
    refine aw_bipush (v := nI 32) dX8_reads_3 rfl ?_
    refine aw_icmp_ge (tgt := 21) dX8_reads_5 (by decide) (fun c5 => ?_) (fun c5 => ?_)
    · exact absurd c5 (nI_ge (by omega) (by omega))
    · refine aw_aload_n dX8_reads_8 rfl ?_
      refine aw_gr dX8_reads_9 gf_X8_38 sh_234 (by rfl) ?_
      refine aw_iload_n dX8_reads_12 rfl ?_
      refine aw_iconst (v := nI 0) dX8_reads_13 rfl ?_
      refine aw_iast dX8_reads_14 sh_244 rfl (by omega) (by decide) ?_
      refine aw_iinc (v := nI (k + 1)) dX8_reads_15 rfl (nI_1 k) (Nat.le_of_ble_eq_true rfl) ?_
      refine aw_goto (tgt := 2) dX8_reads_18 (by decide) ?_
      refine ih (k + 1) _ (by omega) (fun j hj => ?_) (fun b hb => by rw [am_up_n hb]; exact hf b hb)
      rw [am_ups]
      by_cases e : j = k
      · rw [e, pk_us]
      · rw [pk_un e]; exact hz j (by omega)
theorem pLaw_z (tb : Nat → Nat) (tl o : Nat) (_ : o < 5) : (pLaw tb tl).2 (27 + o) = 0 := by
  rw [pLaw_2, pUp_n (by omega)]
  exact (pLawQ_ok tb tl).2.2 (27 + o) (by omega)
set_option maxRecDepth 100000 in
set_option maxHeartbeats 4000000 in
theorem c_X8_reads {G : am_G} {μ : am_M} (tb : Nat → Nat) (tl : Nat) (fa : Int32) (hk : tpOK tb tl) (hs : μ 234 19 = nI tl) (ht : ∀ j, j < tl → μ 238 j = nI (tb j)) (h6 : μ 234 6 = fa) : am_MA G yX8_reads cX8_reads 2 (some .boolean) 5 0 0 [.ref 234] am_SH μ (am_P (some (.int (pI ((pRead tb tl).1.1 = 0)))) am_SH (fun μ9 => rdM μ9 tb tl fa (pRead tb tl).1 ∧ rdF μ μ9 ∧ ((pRead tb tl).1.1 = 0 → mC μ9 244 (pRead tb tl).2))) := by
  refine am_ofK (own := RX8) (nm := "reads") (L := [some (.ref 234), none]) rfl rfl (by decide +kernel) (Nat.le_of_ble_eq_true rfl) rfl ?_
  refine aw_iconst (v := nI 0) dX8_reads_0 rfl ?_
  refine aw_istore_n dX8_reads_1 (Nat.le_of_ble_eq_true rfl) ?_
  refine z_X8_reads tb tl fa hk (fun μ1 z1 f1 => ?_) 32 0 _ rfl (fun j hj => absurd hj (Nat.not_lt_zero j)) (fun b _ => rfl)
  refine aw_aload_n dX8_reads_21 rfl ?_
  refine aw_iconst (v := nI 0) dX8_reads_22 rfl ?_
  refine aw_pi dX8_reads_23 pf_X8_85 rfl rfl sh_234 (by rfl) ?_
  refine aw_gen (P := fun μ3 => rdM μ3 tb tl fa (0, 0) ∧ mC μ3 244 (fun _ => 0) ∧ rdF μ μ3) ⟨⟨by rw [am_ups, pk_un (by decide), f1 234 (by decide)]; exact hs, fun j hj => by rw [am_upn (by decide), f1 238 (by decide)]; exact ht j hj, fun _ => ⟨by rw [am_ups, pk_us], by rw [am_ups, pk_un (by decide), f1 234 (by decide)]; exact h6⟩, fun q => absurd rfl q⟩, fun j hj => by rw [am_upn (by decide)]; exact z1 j hj, rdF.u9 ⟨fun b _ hb => f1 b hb, fun j _ _ => by rw [f1 234 (by decide)]⟩ (by decide)⟩ (fun μ1 hq => ?_)
  obtain ⟨hR1, hK1, hF1⟩ := hq
  refine aw_aload_n dX8_reads_26 rfl ?_
  refine aw_v0ip dX8_reads_27 ml_X8_126 im_X8_readsLaw se_X8_readsLaw (c_X8_readsLaw tb tl fa hk hR1 hK1) sh_234 (by decide) rfl rfl (Nat.le_of_ble_eq_true rfl) (Nat.le_of_ble_eq_true rfl) (Nat.le_of_ble_eq_true rfl) (Nat.le_of_ble_eq_true rfl) (Nat.le_of_ble_eq_true rfl) (fun μ2 q2 => ?_)
  refine aw_pif_ne (tgt := 35) dX8_reads_30 (by decide) (fun c30 => ?_) (fun c30 => ?_)
  · obtain ⟨l1, l2, l3⟩ := pLaw_ok tb tl
    have hR2 : rdM μ2 tb tl fa (0, (pLaw tb tl).1.2) := by rw [pair0 c30]; exact q2.1
    refine aw_aload_n dX8_reads_35 rfl ?_
    refine aw_v0vp dX8_reads_36 ml_X8_110 im_X8_next se_X8_next (c_X8_next tb tl (pLaw tb tl).1.2 hk l1.2 hR2.nx) sh_234 (by decide) rfl rfl (Nat.le_of_ble_eq_true rfl) (Nat.le_of_ble_eq_true rfl) (Nat.le_of_ble_eq_true rfl) (Nat.le_of_ble_eq_true rfl) (Nat.le_of_ble_eq_true rfl) (fun μ3 q3 => ?_)
    obtain ⟨a, v, hN, hF, hX, ha⟩ := q3
    have h62 : μ3 234 6 = fa := (hF.2 6 (by decide)).trans (hR2.ok rfl).2
    refine l_X8_reads tb tl fa hk 6 (pLaw tb tl) a v μ3 (by omega) c30 l1.2 (by omega) hN hX h62 ((q2.2.2 c30).fr (hF.1 244 (by decide))) (pLaw_z tb tl) ((hF1.tr q2.2.1).tr hF.rd) (fun z => ?_) (fun _ => rfl)
    have hlt : (pLaw tb tl).1.2 < tl := by omega
    rw [pOffs_s, if_pos ⟨c30, hlt⟩]
    rfl
  · refine aw_iconst (v := nI 0) dX8_reads_33 rfl ?_
    refine aw_iret dX8_reads_34 rfl rfl rfl rfl ?_
    have er := pRead_l c30
    exact ⟨pI_fa (by rw [er]; exact c30), rfl, by rw [er]; exact q2.1, hF1.tr q2.2.1, fun z => absurd z (by rw [er]; exact c30)⟩
theorem InvM.sA {μ μ' : am_M} {A : pA} {f : Nat} (h : InvM μ A) (e : ∀ b, 235 ≤ b ∧ b < 244 → μ' b = μ b) (e1 : ∀ j, j < 15 ∧ j ≠ 5 ∧ j ≠ 6 → μ' 234 j = μ 234 j) (h5 : μ' 234 5 = nI 0) (h6 : μ' 234 6 = nI f) : InvM μ' (A.sA f) :=
  ⟨fun r hr => (h.rows r hr).fr (e 235 (by omega)) (e 236 (by omega)) (e 237 (by omega)), (e1 3 (by decide)).trans h.fi, h5, fun j hj => absurd hj (Nat.not_lt_zero j), h6, (e1 7 (by decide)).trans h.is, h.sk.fr (e 239 (by omega)), (e1 9 (by decide)).trans h.acn, fun i K hi => (h.ac i K hi).fr (e 240 (by omega)), fun k hk => by rw [e 242 (by omega)]; exact h.sv k hk, fun k hk h0 => (h.im k hk h0).fr (e 241 (by omega)), (e1 13 (by decide)).trans h.trn, fun i x hi => by rw [e 243 (by omega)]; exact h.tr i x hi⟩
theorem InvM.sS {μ μ' : am_M} {A : pA} {K : pK} (h : InvM μ A) (e : ∀ b, 235 ≤ b ∧ b < 244 ∧ b ≠ 239 → μ' b = μ b) (e1 : ∀ j, j < 15 ∧ j ≠ 5 ∧ j ≠ 6 ∧ j ≠ 7 ∧ j ≠ 9 → μ' 234 j = μ 234 j) (h5 : μ' 234 5 = nI 0) (h6 : μ' 234 6 = nI A.fa) (h7 : μ' 234 7 = nI 1) (hs : mC μ' 239 K) (h9 : μ' 234 9 = nI 0) (hK : ¬ K 5 = 0) : InvM μ' (A.sS K) :=
  ⟨fun r hr => (h.rows r hr).fr (e 235 (by omega)) (e 236 (by omega)) (e 237 (by omega)), (e1 3 (by decide)).trans h.fi, h5, fun j hj => absurd hj (Nat.not_lt_zero j), h6, h7.trans (by rw [pI_1 (show ¬ (A.sS K).K 5 = 0 from hK)]; rfl), hs, h9, fun i K2 hi => absurd hi (by show ¬ ([] : List pK)[i]? = some K2; simp), fun k hk => by rw [e 242 (by omega)]; exact h.sv k hk, fun k hk h0 => (h.im k hk h0).fr (e 241 (by omega)), (e1 13 (by decide)).trans h.trn, fun i x hi => by rw [e 243 (by omega)]; exact h.tr i x hi⟩
set_option maxRecDepth 100000 in
set_option maxHeartbeats 4000000 in
theorem c_X8_sky {G : am_G} {μ : am_M} (A : pA) (h : InvM μ A) (ok : okA A) : am_MA G yX8_sky cX8_sky 1 (some .int) 6 0 0 [.ref 234] am_SH μ (am_P (some (.int (oSky A).1)) am_SH (fun μ9 => InvM μ9 (oSky A).2 ∧ am_fr μ μ9 234 14)) := by
  refine am_ofK (own := RX8) (nm := "sky") (L := [some (.ref 234)]) rfl rfl (by decide +kernel) (Nat.le_of_ble_eq_true rfl) rfl ?_
  refine aw_aload_n dX8_sky_0 rfl ?_
  refine aw_aload_n dX8_sky_1 rfl ?_
  refine aw_gi dX8_sky_2 gf_X8_77 sh_234 (by rfl) ?_
  refine aw_top h.tl ?_
  refine aw_pi dX8_sky_5 pf_X8_91 rfl rfl sh_234 (by rfl) ?_
  refine aw_aload_n dX8_sky_8 rfl ?_
  refine aw_iconst (v := nI 0) dX8_sky_9 rfl ?_
  refine aw_pi dX8_sky_10 pf_X8_77 rfl rfl sh_234 (by rfl) ?_
  refine aw_gen (P := fun μ3 => (∀ b, b ≠ 234 → μ3 b = μ b) ∧ (∀ j, j < 15 → j ≠ 5 → μ3 234 j = μ 234 j) ∧ μ3 234 5 = nI 0 ∧ μ3 234 19 = nI A.tl) ⟨fun b hb => by rw [am_up_n hb, am_up_n hb], fun j h1 h2 => by rw [am_ups, pk_un h2, am_ups, pk_un (by omega)], by rw [am_ups, pk_us], by rw [am_ups, pk_un (by decide), am_ups, pk_us]⟩ (fun μ1 hq => ?_)
  obtain ⟨f1, f2, f3, f4⟩ := hq
  refine aw_aload_n dX8_sky_13 rfl ?_
  refine aw_v0ip dX8_sky_14 ml_X8_133 im_X8_reads se_X8_reads (c_X8_reads A.tb A.tl (nI A.fa) ok.tp f4 (fun j hj => by rw [f1 238 (by decide)]; exact h.tp j hj) ((f2 6 (by decide) (by decide)).trans h.fa)) sh_234 (by decide) rfl rfl (Nat.le_of_ble_eq_true rfl) (Nat.le_of_ble_eq_true rfl) (Nat.le_of_ble_eq_true rfl) (Nat.le_of_ble_eq_true rfl) (Nat.le_of_ble_eq_true rfl) (fun μ2 q2 => ?_)
  refine aw_pif_ne (tgt := 28) dX8_sky_17 (by decide) (fun c17 => ?_) (fun c17 => ?_)
  · refine aw_aload_n dX8_sky_28 rfl ?_
    refine aw_iconst (v := nI 1) dX8_sky_29 rfl ?_
    refine aw_pi dX8_sky_30 pf_X8_137 rfl rfl sh_234 (by rfl) ?_
    refine aw_aload_n dX8_sky_33 rfl ?_
    refine aw_iconst (v := nI 0) dX8_sky_34 rfl ?_
    refine aw_pi dX8_sky_35 pf_X8_141 rfl rfl sh_234 (by rfl) ?_
    refine aw_gen (P := fun μ3 => (∀ b, b ≠ 234 → μ3 b = μ2 b) ∧ (∀ j, j ≠ 7 → j ≠ 9 → μ3 234 j = μ2 234 j) ∧ μ3 234 7 = nI 1 ∧ μ3 234 9 = nI 0) ⟨fun b hb => by rw [am_up_n hb, am_up_n hb], fun j h1 h2 => by rw [am_ups, pk_un h2, am_ups, pk_un h1], by rw [am_ups, pk_un (by decide), am_ups, pk_us], by rw [am_ups, pk_us]⟩ (fun μ3 hq => ?_)
    obtain ⟨g1, g2, g3, g4⟩ := hq
    refine aw_aload_n dX8_sky_38 rfl ?_
    refine aw_gr dX8_sky_39 gf_X8_38 sh_234 (by rfl) ?_
    refine aw_iconst (v := nI 0) dX8_sky_42 rfl ?_
    refine aw_aload_n dX8_sky_43 rfl ?_
    refine aw_gr dX8_sky_44 gf_X8_22 sh_234 (by rfl) ?_
    refine aw_iconst (v := nI 0) dX8_sky_47 rfl ?_
    refine aw_s4vp dX8_sky_48 ml_X8_144 st_X8_copies (c_X8_copies 244 239 0 0 32 32 sh_244 sh_239 (by decide) (by decide) (by decide) (by decide) (by decide)) (Nat.le_of_ble_eq_true rfl) (Nat.le_of_ble_eq_true rfl) (Nat.le_of_ble_eq_true rfl) (Nat.le_of_ble_eq_true rfl) (Nat.le_of_ble_eq_true rfl) (fun μ4 q4 => ?_)
    refine aw_aload_n dX8_sky_51 rfl ?_
    refine aw_gr dX8_sky_52 gf_X8_22 sh_234 (by rfl) ?_
    refine aw_iconst (v := nI 5) dX8_sky_55 rfl ?_
    refine aw_iald (j := 5) dX8_sky_56 sh_239 rfl (by decide) (by decide) ?_
    refine aw_top (show _ = nI ((pRead A.tb A.tl).2 5) by have := q4.1 5 (by decide); rw [Nat.zero_add] at this; rw [this, g1 244 (by decide)]; exact q2.2.2 c17 5 (by decide)) ?_
    refine aw_iret dX8_sky_57 rfl rfl rfl rfl ?_
    have hsk : mC μ4 239 (pRead A.tb A.tl).2 := fun j hj => by have := q4.1 j hj; rw [Nat.zero_add] at this; rw [this, g1 244 (by decide)]; exact q2.2.2 c17 j hj
    refine pAnsM ?_ (h.sS (K := (pRead A.tb A.tl).2) (fun b hb => (q4.2.2 b (by omega)).trans ((g1 b (by omega)).trans ((q2.2.1.1 b (by omega) (by omega)).trans (f1 b (by omega))))) (fun j hj => by rw [q4.2.2 234 (by omega), g2 j hj.2.2.2.1 hj.2.2.2.2, q2.2.1.2 j hj.1 hj.2.2.1]; exact f2 j hj.1 hj.2.1) (by rw [q4.2.2 234 (by omega), g2 5 (by decide) (by decide), q2.2.1.2 5 (by decide) (by decide)]; exact f3) (by rw [q4.2.2 234 (by omega), g2 6 (by decide) (by decide)]; exact (q2.1.ok c17).2) (by rw [q4.2.2 234 (by omega)]; exact g3) hsk (by rw [q4.2.2 234 (by omega)]; exact g4) (by have := pRead_pos c17; omega)) (fun b hb => (q4.2.2 b (by omega)).trans ((g1 b (by omega)).trans ((q2.2.1.1 b (by omega) (by omega)).trans (f1 b (by omega)))))
    rw [oSky, if_pos c17]
  · refine aw_ldc dX8_sky_20 kc_X8_136 ?_
    refine aw_aload_n dX8_sky_22 rfl ?_
    refine aw_gi dX8_sky_23 gf_X8_88 sh_234 (by rfl) ?_
    refine aw_top (q2.1.er c17).2 ?_
    refine aw_isub dX8_sky_26 ?_
    refine aw_iret dX8_sky_27 rfl rfl rfl rfl ?_
    refine pAnsM ?_ (h.sA (f := (pRead A.tb A.tl).1.1) (fun b hb => (q2.2.1.1 b (by omega) (by omega)).trans (f1 b (by omega))) (fun j hj => (q2.2.1.2 j hj.1 hj.2.2).trans (f2 j hj.1 hj.2.1)) ((q2.2.1.2 5 (by decide) (by decide)).trans f3) (q2.1.er c17).1) (fun b hb => (q2.2.1.1 b (by omega) (by omega)).trans (f1 b (by omega)))
    rw [oSky, if_neg c17]
