/-! ===== foretold ===== -/
def pL1 (K : pK) : Nat → Nat → Nat → Nat × Nat
  | 0, l, h => (l, h)
  | n + 1, l, h => pL1 K n (pCar K l (h - K 4)) (h - K 4)
def pH : Nat → pK → pK
  | 0, K => K
  | n + 1, K => pH n (pHour K)
def pDn (s : Nat) : Nat → Nat → Nat → Int32
  | 0, _, _ => -1000000
  | r + 1, g, h => if h = 0 then nI g else pDn s r (g + 1) (h - s)
def pMt (o p : Nat) : Nat → Nat → pK → Int32
  | 0, _, _ => -1000000
  | r + 1, g, K => if K (12 + o) = K (12 + p) ∧ K (17 + o) = K (17 + p) then nI g else pMt o p r (g + 1) (pHour K)
theorem pHour_lo {K : pK} {j : Nat} (h : j < 12) (h6 : j ≠ 6) : pHour K j = K j := by unfold pHour; rw [if_neg (by omega), if_neg (by omega), if_neg h6]
theorem pHour_6 {K : pK} : pHour K 6 = K 6 + 1 := by unfold pHour; rw [if_neg (by omega), if_neg (by omega), if_pos rfl]
theorem pHour_hi {K : pK} {j : Nat} (h : 22 ≤ j) (h5 : K 5 ≤ 5) : pHour K j = K j := by unfold pHour; rw [if_neg (by omega), if_neg (by omega), if_neg (by omega)]
theorem pHour_h {K : pK} {o : Nat} (h : o < K 5) : pHour K (17 + o) = K (17 + o) - K 4 := by unfold pHour; rw [if_pos (by omega)]
theorem pHour_l {K : pK} {o : Nat} (h : o < K 5) (h5 : K 5 ≤ 5) : pHour K (12 + o) = pCar K (K (12 + o)) (K (17 + o) - K 4) := by unfold pHour; rw [if_neg (by omega), if_pos (by omega), show 12 + o + 5 = 17 + o by omega]
/-- behind n hours a sky is well, and what hours don't touch stays -/
theorem pH_ok : ∀ (n : Nat) (K : pK), pOK K → K 6 + n ≤ 1000000 → pOK (pH n K) ∧ ∀ j, j < 12 → j ≠ 6 → pH n K j = K j
  | 0, K, h, _ => ⟨h, fun _ _ _ => rfl⟩
  | n + 1, K, h, h6 => by
    have := pH_ok n (pHour K) (pHour_ok h (by omega)) (by rw [pHour_6]; omega)
    exact ⟨this.1, fun j hj hj6 => (this.2 j hj hj6).trans (pHour_lo hj hj6)⟩
theorem pCar_le (K : pK) (l h : Nat) : pCar K l h ≤ 9 := Nat.min_le_left _ _
theorem pCar_cong {K K' : pK} (h : ∀ b, b < 4 → K' b = K b) (l x : Nat) : pCar K' l x = pCar K l x := by
  unfold pCar pW
  split
  · rfl
  · rw [h _ (pBand_lt x)]
theorem pL1_cong {K K' : pK} (h : ∀ b, b < 5 → K' b = K b) : ∀ n l x, pL1 K' n l x = pL1 K n l x
  | 0, _, _ => rfl
  | n + 1, l, x => by
    unfold pL1
    rw [pCar_cong (fun b hb => h b (by omega)), h 4 (by omega)]
    exact pL1_cong h n _ _
theorem pH_L1 {o : Nat} : ∀ (n : Nat) (K : pK), o < K 5 → K 5 ≤ 5 → (pH n K (12 + o), pH n K (17 + o)) = pL1 K n (K (12 + o)) (K (17 + o))
  | 0, K, _, _ => rfl
  | n + 1, K, h, h5 => by
    have := pH_L1 n (pHour K) (by rw [pHour_lo (by omega) (by omega)]; exact h) (by rw [pHour_lo (by omega) (by omega)]; exact h5)
    rw [pL1_cong (K := K) (fun b hb => pHour_lo (by omega) (by omega)), pHour_h h, pHour_l h h5] at this
    exact this
theorem pL1_le {K : pK} : ∀ n l h, l ≤ 9 → h ≤ 20 → (pL1 K n l h).1 ≤ 9 ∧ (pL1 K n l h).2 ≤ 20
  | 0, l, h, h1, h2 => ⟨h1, h2⟩
  | n + 1, l, h, h1, h2 => pL1_le n _ _ (pCar_le _ _ _) (by omega)
set_option maxRecDepth 100000 in
set_option maxHeartbeats 4000000 in
theorem l_X2_landBehind {G : am_G} {μ : am_M} (K : pK) (hK : skyC μ 27 K) (ho : pOK K) (o n : Nat) (hn : n ≤ 60) : ∀ (r i l h : Nat), i + r = n → l ≤ 9 → h ≤ 20 → pL1 K r l h = pL1 K n (K (12 + o)) (K (17 + o)) → am_W (am_K G RX2 "landBehind" 6 (some .int) 3 0 0 (am_E (some (.int (nI (pL1 K n (K (12 + o)) (K (17 + o))).1))) am_SH μ)) cX2_landBehind 24 [some (.ref 219), some (.int (nI o)), some (.int (nI n)), some (.int (nI l)), some (.int (nI h)), some (.int (nI i))] [] am_SH μ 0 0 := by
  intro r
  induction r with
  | zero =>
    intro i l h hi hl hh e
    refine aw_iload dX2_landBehind_24 rfl ?_
    refine aw_iload_n dX2_landBehind_26 rfl ?_
    refine aw_icmp_ge (tgt := 58) dX2_landBehind_27 (by decide) (fun c27 => ?_) (fun c27 => ?_)
    · refine aw_iload_n dX2_landBehind_58 rfl ?_
      refine aw_iret dX2_landBehind_59 rfl rfl rfl rfl ?_
      exact ⟨congrArg (fun z => some (Value.int (nI (z : Nat × Nat).1))) e, rfl, rfl⟩
    · exact absurd (nI_le (by omega) (by omega)) c27
  | succ r ih =>
    intro i l h hi hl hh e
    refine aw_iload dX2_landBehind_24 rfl ?_
    refine aw_iload_n dX2_landBehind_26 rfl ?_
    refine aw_icmp_ge (tgt := 58) dX2_landBehind_27 (by decide) (fun c27 => ?_) (fun c27 => ?_)
    · exact absurd c27 (nI_ge (by omega) (by omega))
    · refine aw_aload_n dX2_landBehind_30 rfl ?_
      refine aw_gr dX2_landBehind_31 gf_X2_30 sh_219 (by rfl) ?_
      refine aw_iload dX2_landBehind_34 rfl ?_
      refine aw_v1i dX2_landBehind_36 ml_X2_39 im_X5_sunk se_X5_sunk (c_X5_sunk 27 sh_sky27 K hK ho h hh) sh_sky27.1 (by decide) rfl rfl (Nat.le_of_ble_eq_true rfl) (Nat.le_of_ble_eq_true rfl) (Nat.le_of_ble_eq_true rfl) (Nat.le_of_ble_eq_true rfl) (Nat.le_of_ble_eq_true rfl) ?_
      refine aw_istore dX2_landBehind_39 (Nat.le_of_ble_eq_true rfl) ?_
      refine aw_aload_n dX2_landBehind_41 rfl ?_
      refine aw_gr dX2_landBehind_42 gf_X2_30 sh_219 (by rfl) ?_
      refine aw_iload_n dX2_landBehind_45 rfl ?_
      refine aw_iload dX2_landBehind_46 rfl ?_
      refine aw_v2i dX2_landBehind_48 ml_X2_43 im_X5_carried se_X5_carried (c_X5_carried 27 sh_sky27 K hK ho l (h - K 4) hl (by omega)) sh_sky27.1 (by decide) rfl rfl (Nat.le_of_ble_eq_true rfl) (Nat.le_of_ble_eq_true rfl) (Nat.le_of_ble_eq_true rfl) (Nat.le_of_ble_eq_true rfl) (Nat.le_of_ble_eq_true rfl) ?_
      refine aw_istore_n dX2_landBehind_51 (Nat.le_of_ble_eq_true rfl) ?_
      refine aw_iinc (v := nI (i + 1)) dX2_landBehind_52 rfl (nI_1 i) (Nat.le_of_ble_eq_true rfl) ?_
      refine aw_goto (tgt := 24) dX2_landBehind_55 (by decide) ?_
      exact ih (i + 1) _ _ (by omega) (pCar_le _ _ _) (by omega) e
set_option maxRecDepth 100000 in
set_option maxHeartbeats 4000000 in
theorem c_X2_landBehind {G : am_G} {μ : am_M} (K : pK) (hK : skyC μ 27 K) (ho : pOK K) (o : Nat) (hoo : o < K 5) (n : Nat) (hn : n ≤ 60) : am_MA G yX2_landBehind cX2_landBehind 6 (some .int) 3 0 0 [.ref 219, .int (nI o), .int (nI n)] am_SH μ (am_E (some (.int (nI (pL1 K n (K (12 + o)) (K (17 + o))).1))) am_SH μ) := by
  have g := hK.2.2.2.2 o hoo
  have gk := ho.2.2.2.2 o hoo
  have h5 := ho.1
  refine am_ofK (own := RX2) (nm := "landBehind") (L := [some (.ref 219), some (.int (nI o)), some (.int (nI n)), none, none, none]) rfl rfl (by decide +kernel) (Nat.le_of_ble_eq_true rfl) rfl ?_
  refine aw_aload_n dX2_landBehind_0 rfl ?_
  refine aw_gr dX2_landBehind_1 gf_X2_30 sh_219 (by rfl) ?_
  refine aw_gr dX2_landBehind_4 gf_X2_33 sh_sky27.1 (by rfl) ?_
  refine aw_iload_n dX2_landBehind_7 rfl ?_
  refine aw_iald dX2_landBehind_8 sh_sky27.2.2.2.1 rfl (by omega) (by decide) ?_
  refine aw_top g.2.1 ?_
  refine aw_istore_n dX2_landBehind_9 (Nat.le_of_ble_eq_true rfl) ?_
  refine aw_aload_n dX2_landBehind_10 rfl ?_
  refine aw_gr dX2_landBehind_11 gf_X2_30 sh_219 (by rfl) ?_
  refine aw_gr dX2_landBehind_14 gf_X2_36 sh_sky27.1 (by rfl) ?_
  refine aw_iload_n dX2_landBehind_17 rfl ?_
  refine aw_iald dX2_landBehind_18 sh_sky27.2.2.2.2.1 rfl (by omega) (by decide) ?_
  refine aw_top g.2.2.1 ?_
  refine aw_istore dX2_landBehind_19 (Nat.le_of_ble_eq_true rfl) ?_
  refine aw_iconst (v := nI 0) dX2_landBehind_21 rfl ?_
  refine aw_istore dX2_landBehind_22 (Nat.le_of_ble_eq_true rfl) ?_
  exact l_X2_landBehind K hK ho o n hn n 0 _ _ (by omega) gk.2.1 gk.2.2.1 rfl
set_option maxRecDepth 100000 in
set_option maxHeartbeats 4000000 in
theorem l_X2_heightBehind {G : am_G} {μ : am_M} (K : pK) (hK : skyC μ 27 K) (ho : pOK K) (o n : Nat) (hn : n ≤ 60) : ∀ (r i l h : Nat), i + r = n → h ≤ 20 → pL1 K r l h = pL1 K n (K (12 + o)) (K (17 + o)) → am_W (am_K G RX2 "heightBehind" 5 (some .int) 2 0 0 (am_E (some (.int (nI (pL1 K n (K (12 + o)) (K (17 + o))).2))) am_SH μ)) cX2_heightBehind 13 [some (.ref 219), some (.int (nI o)), some (.int (nI n)), some (.int (nI h)), some (.int (nI i))] [] am_SH μ 0 0 := by
  intro r
  induction r with
  | zero =>
    intro i l h hi hh e
    refine aw_iload dX2_heightBehind_13 rfl ?_
    refine aw_iload_n dX2_heightBehind_15 rfl ?_
    refine aw_icmp_ge (tgt := 34) dX2_heightBehind_16 (by decide) (fun c16 => ?_) (fun c16 => ?_)
    · refine aw_iload_n dX2_heightBehind_34 rfl ?_
      refine aw_iret dX2_heightBehind_35 rfl rfl rfl rfl ?_
      exact ⟨congrArg (fun z => some (Value.int (nI (z : Nat × Nat).2))) e, rfl, rfl⟩
    · exact absurd (nI_le (by omega) (by omega)) c16
  | succ r ih =>
    intro i l h hi hh e
    refine aw_iload dX2_heightBehind_13 rfl ?_
    refine aw_iload_n dX2_heightBehind_15 rfl ?_
    refine aw_icmp_ge (tgt := 34) dX2_heightBehind_16 (by decide) (fun c16 => ?_) (fun c16 => ?_)
    · exact absurd c16 (nI_ge (by omega) (by omega))
    · refine aw_aload_n dX2_heightBehind_19 rfl ?_
      refine aw_gr dX2_heightBehind_20 gf_X2_30 sh_219 (by rfl) ?_
      refine aw_iload_n dX2_heightBehind_23 rfl ?_
      refine aw_v1i dX2_heightBehind_24 ml_X2_39 im_X5_sunk se_X5_sunk (c_X5_sunk 27 sh_sky27 K hK ho h hh) sh_sky27.1 (by decide) rfl rfl (Nat.le_of_ble_eq_true rfl) (Nat.le_of_ble_eq_true rfl) (Nat.le_of_ble_eq_true rfl) (Nat.le_of_ble_eq_true rfl) (Nat.le_of_ble_eq_true rfl) ?_
      refine aw_istore_n dX2_heightBehind_27 (Nat.le_of_ble_eq_true rfl) ?_
      refine aw_iinc (v := nI (i + 1)) dX2_heightBehind_28 rfl (nI_1 i) (Nat.le_of_ble_eq_true rfl) ?_
      refine aw_goto (tgt := 13) dX2_heightBehind_31 (by decide) ?_
      exact ih (i + 1) _ _ (by omega) (by omega) e
set_option maxRecDepth 100000 in
set_option maxHeartbeats 4000000 in
theorem c_X2_heightBehind {G : am_G} {μ : am_M} (K : pK) (hK : skyC μ 27 K) (ho : pOK K) (o : Nat) (hoo : o < K 5) (n : Nat) (hn : n ≤ 60) : am_MA G yX2_heightBehind cX2_heightBehind 5 (some .int) 2 0 0 [.ref 219, .int (nI o), .int (nI n)] am_SH μ (am_E (some (.int (nI (pL1 K n (K (12 + o)) (K (17 + o))).2))) am_SH μ) := by
  have g := hK.2.2.2.2 o hoo
  have gk := ho.2.2.2.2 o hoo
  have h5 := ho.1
  refine am_ofK (own := RX2) (nm := "heightBehind") (L := [some (.ref 219), some (.int (nI o)), some (.int (nI n)), none, none]) rfl rfl (by decide +kernel) (Nat.le_of_ble_eq_true rfl) rfl ?_
  refine aw_aload_n dX2_heightBehind_0 rfl ?_
  refine aw_gr dX2_heightBehind_1 gf_X2_30 sh_219 (by rfl) ?_
  refine aw_gr dX2_heightBehind_4 gf_X2_36 sh_sky27.1 (by rfl) ?_
  refine aw_iload_n dX2_heightBehind_7 rfl ?_
  refine aw_iald dX2_heightBehind_8 sh_sky27.2.2.2.2.1 rfl (by omega) (by decide) ?_
  refine aw_top g.2.2.1 ?_
  refine aw_istore_n dX2_heightBehind_9 (Nat.le_of_ble_eq_true rfl) ?_
  refine aw_iconst (v := nI 0) dX2_heightBehind_10 rfl ?_
  refine aw_istore dX2_heightBehind_11 (Nat.le_of_ble_eq_true rfl) ?_
  exact l_X2_heightBehind K hK ho o n hn n 0 (K (12 + o)) _ (by omega) gk.2.2.1 rfl
set_option maxRecDepth 100000 in
set_option maxHeartbeats 4000000 in
theorem l_X2_hoursToGround {G : am_G} {μ : am_M} (K : pK) (hK : skyC μ 27 K) (ho : pOK K) (o : Nat) : ∀ (r i h : Nat), i + r = 61 → h ≤ 20 → pDn (K 4) r i h = pDn (K 4) 61 0 (K (17 + o)) → am_W (am_K G RX2 "hoursToGround" 4 (some .int) 2 0 0 (am_E (some (.int (pDn (K 4) 61 0 (K (17 + o))))) am_SH μ)) cX2_hoursToGround 12 [some (.ref 219), some (.int (nI o)), some (.int (nI h)), some (.int (nI i))] [] am_SH μ 0 0 := by
  intro r
  induction r with
  | zero =>
    intro i h hi hh e
    refine aw_iload_n dX2_hoursToGround_12 rfl ?_
    refine aw_bipush (v := nI 60) dX2_hoursToGround_13 rfl ?_
    refine aw_icmp_gt (tgt := 39) dX2_hoursToGround_15 (by decide) (fun c15 => ?_) (fun c15 => ?_)
    · refine aw_ldc dX2_hoursToGround_39 kc_X2_47 ?_
      refine aw_iret dX2_hoursToGround_41 rfl rfl rfl rfl ?_
      exact ⟨congrArg (fun z => some (Value.int z)) e, rfl, rfl⟩
    · exact absurd (nI_lt (by omega) (by omega)) c15
  | succ r ih =>
    intro i h hi hh e
    refine aw_iload_n dX2_hoursToGround_12 rfl ?_
    refine aw_bipush (v := nI 60) dX2_hoursToGround_13 rfl ?_
    refine aw_icmp_gt (tgt := 39) dX2_hoursToGround_15 (by decide) (fun c15 => ?_) (fun c15 => ?_)
    · exact absurd c15 (nI_nlt (by omega) (by omega))
    · refine aw_iload_n dX2_hoursToGround_18 rfl ?_
      refine aw_if_ne (tgt := 24) dX2_hoursToGround_19 (by decide) (fun c19 => ?_) (fun c19 => ?_)
      · rw [z_eq (by omega)] at c19
        refine aw_aload_n dX2_hoursToGround_24 rfl ?_
        refine aw_gr dX2_hoursToGround_25 gf_X2_30 sh_219 (by rfl) ?_
        refine aw_iload_n dX2_hoursToGround_28 rfl ?_
        refine aw_v1i dX2_hoursToGround_29 ml_X2_39 im_X5_sunk se_X5_sunk (c_X5_sunk 27 sh_sky27 K hK ho h hh) sh_sky27.1 (by decide) rfl rfl (Nat.le_of_ble_eq_true rfl) (Nat.le_of_ble_eq_true rfl) (Nat.le_of_ble_eq_true rfl) (Nat.le_of_ble_eq_true rfl) (Nat.le_of_ble_eq_true rfl) ?_
        refine aw_istore_n dX2_hoursToGround_32 (Nat.le_of_ble_eq_true rfl) ?_
        refine aw_iinc (v := nI (i + 1)) dX2_hoursToGround_33 rfl (nI_1 i) (Nat.le_of_ble_eq_true rfl) ?_
        refine aw_goto (tgt := 12) dX2_hoursToGround_36 (by decide) ?_
        rw [pDn, if_neg c19] at e
        exact ih (i + 1) _ (by omega) (by omega) e
      · rw [z_eq (by omega)] at c19
        refine aw_iload_n dX2_hoursToGround_22 rfl ?_
        refine aw_iret dX2_hoursToGround_23 rfl rfl rfl rfl ?_
        rw [pDn, if_pos c19] at e
        exact ⟨congrArg (fun z => some (Value.int z)) e, rfl, rfl⟩
set_option maxRecDepth 100000 in
set_option maxHeartbeats 4000000 in
theorem c_X2_hoursToGround {G : am_G} {μ : am_M} (K : pK) (hK : skyC μ 27 K) (ho : pOK K) (o : Nat) (hoo : o < K 5) : am_MA G yX2_hoursToGround cX2_hoursToGround 4 (some .int) 2 0 0 [.ref 219, .int (nI o)] am_SH μ (am_E (some (.int (pDn (K 4) 61 0 (K (17 + o))))) am_SH μ) := by
  have g := hK.2.2.2.2 o hoo
  have gk := ho.2.2.2.2 o hoo
  have h5 := ho.1
  refine am_ofK (own := RX2) (nm := "hoursToGround") (L := [some (.ref 219), some (.int (nI o)), none, none]) rfl rfl (by decide +kernel) (Nat.le_of_ble_eq_true rfl) rfl ?_
  refine aw_aload_n dX2_hoursToGround_0 rfl ?_
  refine aw_gr dX2_hoursToGround_1 gf_X2_30 sh_219 (by rfl) ?_
  refine aw_gr dX2_hoursToGround_4 gf_X2_36 sh_sky27.1 (by rfl) ?_
  refine aw_iload_n dX2_hoursToGround_7 rfl ?_
  refine aw_iald dX2_hoursToGround_8 sh_sky27.2.2.2.2.1 rfl (by omega) (by decide) ?_
  refine aw_top g.2.2.1 ?_
  refine aw_istore_n dX2_hoursToGround_9 (Nat.le_of_ble_eq_true rfl) ?_
  refine aw_iconst (v := nI 0) dX2_hoursToGround_10 rfl ?_
  refine aw_istore_n dX2_hoursToGround_11 (Nat.le_of_ble_eq_true rfl) ?_
  exact l_X2_hoursToGround K hK ho o 61 0 _ (by omega) gk.2.2.1 rfl
set_option maxRecDepth 100000 in
set_option maxHeartbeats 4000000 in
theorem l_X2_hoursToMeeting {G : am_G} {μ : am_M} (K : pK) (o p : Nat) : ∀ (r i : Nat) (L : pK) (μ1 : am_M), i + r = 61 → skyC μ1 220 L → pOK L → L 6 + r ≤ 1000000 → o < L 5 → p < L 5 → am_fr μ μ1 220 7 → pMt o p r i L = pMt o p 61 0 K → am_W (am_K G RX2 "hoursToMeeting" 4 (some .int) 4 0 0 (am_P (some (.int (pMt o p 61 0 K))) am_SH (fun μ9 => am_fr μ μ9 220 7))) cX2_hoursToMeeting 13 [some (.ref 219), some (.int (nI o)), some (.int (nI p)), some (.int (nI i))] [] am_SH μ1 0 0 := by
  intro r
  induction r with
  | zero =>
    intro i L μ1 hi hL hO h6 ho1 hp1 hf e
    refine aw_iload_n dX2_hoursToMeeting_13 rfl ?_
    refine aw_bipush (v := nI 60) dX2_hoursToMeeting_14 rfl ?_
    refine aw_icmp_gt (tgt := 76) dX2_hoursToMeeting_16 (by decide) (fun c16 => ?_) (fun c16 => ?_)
    · refine aw_ldc dX2_hoursToMeeting_76 kc_X2_47 ?_
      refine aw_iret dX2_hoursToMeeting_78 rfl rfl rfl rfl ?_
      exact ⟨congrArg (fun z => some (Value.int z)) e, rfl, hf⟩
    · exact absurd (nI_lt (by omega) (by omega)) c16
  | succ r ih =>
    intro i L μ1 hi hL hO h6 ho1 hp1 hf e
    have h5 := hO.1
    have ga := hL.2.2.2.2 o ho1
    have gb := hL.2.2.2.2 p hp1
    have ka := hO.2.2.2.2 o ho1
    have kb := hO.2.2.2.2 p hp1
    refine aw_iload_n dX2_hoursToMeeting_13 rfl ?_
    refine aw_bipush (v := nI 60) dX2_hoursToMeeting_14 rfl ?_
    refine aw_icmp_gt (tgt := 76) dX2_hoursToMeeting_16 (by decide) (fun c16 => ?_) (fun c16 => ?_)
    · exact absurd c16 (nI_nlt (by omega) (by omega))
    · refine aw_aload_n dX2_hoursToMeeting_19 rfl ?_
      refine aw_gr dX2_hoursToMeeting_20 gf_X2_14 sh_219 (by rfl) ?_
      refine aw_gr dX2_hoursToMeeting_23 gf_X2_33 sh_sky220.1 (by rfl) ?_
      refine aw_iload_n dX2_hoursToMeeting_26 rfl ?_
      refine aw_iald dX2_hoursToMeeting_27 sh_sky220.2.2.2.1 rfl (by omega) (by decide) ?_
      refine aw_top ga.2.1 ?_
      refine aw_aload_n dX2_hoursToMeeting_28 rfl ?_
      refine aw_gr dX2_hoursToMeeting_29 gf_X2_14 sh_219 (by rfl) ?_
      refine aw_gr dX2_hoursToMeeting_32 gf_X2_33 sh_sky220.1 (by rfl) ?_
      refine aw_iload_n dX2_hoursToMeeting_35 rfl ?_
      refine aw_iald dX2_hoursToMeeting_36 sh_sky220.2.2.2.1 rfl (by omega) (by decide) ?_
      refine aw_top gb.2.1 ?_
      refine aw_icmp_ne (tgt := 63) dX2_hoursToMeeting_37 (by decide) (fun c37 => ?_) (fun c37 => ?_)
      · rw [nI_eq (by omega) (by omega)] at c37
        rw [pMt, if_neg (fun q => c37 q.1)] at e
        refine aw_aload_n dX2_hoursToMeeting_63 rfl ?_
        refine aw_gr dX2_hoursToMeeting_64 gf_X2_14 sh_219 (by rfl) ?_
        refine aw_v0vp dX2_hoursToMeeting_67 ml_X2_52 im_X5_passHour se_X5_passHour (c_X5_passHour 220 sh_sky220 L hL hO) sh_sky220.1 (by decide) rfl rfl (Nat.le_of_ble_eq_true rfl) (Nat.le_of_ble_eq_true rfl) (Nat.le_of_ble_eq_true rfl) (Nat.le_of_ble_eq_true rfl) (Nat.le_of_ble_eq_true rfl) (fun μ2 q2 => ?_)
        refine aw_iinc (v := nI (i + 1)) dX2_hoursToMeeting_70 rfl (nI_1 i) (Nat.le_of_ble_eq_true rfl) ?_
        refine aw_goto (tgt := 13) dX2_hoursToMeeting_73 (by decide) ?_
        exact ih (i + 1) (pHour L) μ2 (by omega) q2.1 (pHour_ok hO (by omega)) (by rw [pHour_6]; omega) (by rw [pHour_lo (by omega) (by omega)]; exact ho1) (by rw [pHour_lo (by omega) (by omega)]; exact hp1) (hf.tr q2.2) e
      · rw [nI_eq (by omega) (by omega)] at c37
        refine aw_aload_n dX2_hoursToMeeting_40 rfl ?_
        refine aw_gr dX2_hoursToMeeting_41 gf_X2_14 sh_219 (by rfl) ?_
        refine aw_gr dX2_hoursToMeeting_44 gf_X2_36 sh_sky220.1 (by rfl) ?_
        refine aw_iload_n dX2_hoursToMeeting_47 rfl ?_
        refine aw_iald dX2_hoursToMeeting_48 sh_sky220.2.2.2.2.1 rfl (by omega) (by decide) ?_
        refine aw_top ga.2.2.1 ?_
        refine aw_aload_n dX2_hoursToMeeting_49 rfl ?_
        refine aw_gr dX2_hoursToMeeting_50 gf_X2_14 sh_219 (by rfl) ?_
        refine aw_gr dX2_hoursToMeeting_53 gf_X2_36 sh_sky220.1 (by rfl) ?_
        refine aw_iload_n dX2_hoursToMeeting_56 rfl ?_
        refine aw_iald dX2_hoursToMeeting_57 sh_sky220.2.2.2.2.1 rfl (by omega) (by decide) ?_
        refine aw_top gb.2.2.1 ?_
        refine aw_icmp_ne (tgt := 63) dX2_hoursToMeeting_58 (by decide) (fun c58 => ?_) (fun c58 => ?_)
        · rw [nI_eq (by omega) (by omega)] at c58
          rw [pMt, if_neg (fun q => c58 q.2)] at e
          refine aw_aload_n dX2_hoursToMeeting_63 rfl ?_
          refine aw_gr dX2_hoursToMeeting_64 gf_X2_14 sh_219 (by rfl) ?_
          refine aw_v0vp dX2_hoursToMeeting_67 ml_X2_52 im_X5_passHour se_X5_passHour (c_X5_passHour 220 sh_sky220 L hL hO) sh_sky220.1 (by decide) rfl rfl (Nat.le_of_ble_eq_true rfl) (Nat.le_of_ble_eq_true rfl) (Nat.le_of_ble_eq_true rfl) (Nat.le_of_ble_eq_true rfl) (Nat.le_of_ble_eq_true rfl) (fun μ2 q2 => ?_)
          refine aw_iinc (v := nI (i + 1)) dX2_hoursToMeeting_70 rfl (nI_1 i) (Nat.le_of_ble_eq_true rfl) ?_
          refine aw_goto (tgt := 13) dX2_hoursToMeeting_73 (by decide) ?_
          exact ih (i + 1) (pHour L) μ2 (by omega) q2.1 (pHour_ok hO (by omega)) (by rw [pHour_6]; omega) (by rw [pHour_lo (by omega) (by omega)]; exact ho1) (by rw [pHour_lo (by omega) (by omega)]; exact hp1) (hf.tr q2.2) e
        · rw [nI_eq (by omega) (by omega)] at c58
          rw [pMt, if_pos ⟨c37, c58⟩] at e
          refine aw_iload_n dX2_hoursToMeeting_61 rfl ?_
          refine aw_iret dX2_hoursToMeeting_62 rfl rfl rfl rfl ?_
          exact ⟨congrArg (fun z => some (Value.int z)) e, rfl, hf⟩
set_option maxRecDepth 100000 in
set_option maxHeartbeats 4000000 in
theorem c_X2_hoursToMeeting {G : am_G} {μ : am_M} (K : pK) (hK : skyC μ 27 K) (ho : pOK K) (h6 : K 6 ≤ 999) (o : Nat) (hoo : o < K 5) (p : Nat) (hp : p < K 5) : am_MA G yX2_hoursToMeeting cX2_hoursToMeeting 4 (some .int) 4 0 0 [.ref 219, .int (nI o), .int (nI p)] am_SH μ (am_P (some (.int (pMt o p 61 0 K))) am_SH (fun μ9 => am_fr μ μ9 220 7)) := by
  refine am_ofK (own := RX2) (nm := "hoursToMeeting") (L := [some (.ref 219), some (.int (nI o)), some (.int (nI p)), none]) rfl rfl (by decide +kernel) (Nat.le_of_ble_eq_true rfl) rfl ?_
  refine aw_aload_n dX2_hoursToMeeting_0 rfl ?_
  refine aw_gr dX2_hoursToMeeting_1 gf_X2_14 sh_219 (by rfl) ?_
  refine aw_aload_n dX2_hoursToMeeting_4 rfl ?_
  refine aw_gr dX2_hoursToMeeting_5 gf_X2_30 sh_219 (by rfl) ?_
  refine aw_v1vp dX2_hoursToMeeting_8 ml_X2_48 im_X5_become se_X5_become (c_X5_become 220 27 sh_sky220 sh_sky27 (by omega) K hK ho.1) sh_sky220.1 (by decide) rfl rfl (Nat.le_of_ble_eq_true rfl) (Nat.le_of_ble_eq_true rfl) (Nat.le_of_ble_eq_true rfl) (Nat.le_of_ble_eq_true rfl) (Nat.le_of_ble_eq_true rfl) (fun μ2 q2 => ?_)
  refine aw_iconst (v := nI 0) dX2_hoursToMeeting_11 rfl ?_
  refine aw_istore_n dX2_hoursToMeeting_12 (Nat.le_of_ble_eq_true rfl) ?_
  exact l_X2_hoursToMeeting K o p 61 0 K μ2 (by omega) q2.1 ho (by omega) hoo hp q2.2 rfl
theorem pSet_32 (p : Nat → Bool) {n : Nat} (h : n ≤ 5) : pSet p n < 32 := Nat.lt_of_lt_of_le (pSet_lt p n) (by have := Nat.pow_le_pow_right (show 1 ≤ 2 by decide) h; omega)
set_option maxRecDepth 100000 in
set_option maxHeartbeats 4000000 in
theorem l_X2_officesBehind {G : am_G} {μ : am_M} (K : pK) (l n : Nat) (hl : l ≤ 9) (hn : n ≤ 60) : ∀ (r i : Nat) (L : pK) (μ1 : am_M), i + r = n → skyC μ1 220 L → pOK L → L 6 + r ≤ 1000000 → am_fr μ μ1 220 7 → pH r L = pH n K → am_W (am_K G RX2 "officesBehind" 4 (some .int) 4 0 0 (am_P (some (.int (nI (pCnt (pSet (fun o => decide (pH n K (12 + o) = l)) (pH n K 5)))))) am_SH (fun μ9 => am_fr μ μ9 220 7))) cX2_officesBehind 13 [some (.ref 219), some (.int (nI l)), some (.int (nI n)), some (.int (nI i))] [] am_SH μ1 0 0 := by
  intro r
  induction r with
  | zero =>
    intro i L μ1 hi hL hO h6 hf e
    refine aw_iload_n dX2_officesBehind_13 rfl ?_
    refine aw_iload_n dX2_officesBehind_14 rfl ?_
    refine aw_icmp_ge (tgt := 31) dX2_officesBehind_15 (by decide) (fun c15 => ?_) (fun c15 => ?_)
    · refine aw_aload_n dX2_officesBehind_31 rfl ?_
      refine aw_gr dX2_officesBehind_32 gf_X2_14 sh_219 (by rfl) ?_
      refine aw_iload_n dX2_officesBehind_35 rfl ?_
      refine aw_v1i dX2_officesBehind_36 ml_X2_55 im_X5_officesIn se_X5_officesIn (c_X5_officesIn 220 sh_sky220 L hL hO l hl) sh_sky220.1 (by decide) rfl rfl (Nat.le_of_ble_eq_true rfl) (Nat.le_of_ble_eq_true rfl) (Nat.le_of_ble_eq_true rfl) (Nat.le_of_ble_eq_true rfl) (Nat.le_of_ble_eq_true rfl) ?_
      refine aw_s1i dX2_officesBehind_39 ml_X2_58 st_J6_bitCount_0f7a4 (c_J6_bitCount_0f7a4 _ (pSet_32 _ hO.1)) (Nat.le_of_ble_eq_true rfl) (Nat.le_of_ble_eq_true rfl) (Nat.le_of_ble_eq_true rfl) (Nat.le_of_ble_eq_true rfl) (Nat.le_of_ble_eq_true rfl) ?_
      refine aw_iret dX2_officesBehind_42 rfl rfl rfl rfl ?_
      have e : L = pH n K := e
      subst e
      exact ⟨rfl, rfl, hf⟩
    · exact absurd (nI_le (by omega) (by omega)) c15
  | succ r ih =>
    intro i L μ1 hi hL hO h6 hf e
    refine aw_iload_n dX2_officesBehind_13 rfl ?_
    refine aw_iload_n dX2_officesBehind_14 rfl ?_
    refine aw_icmp_ge (tgt := 31) dX2_officesBehind_15 (by decide) (fun c15 => ?_) (fun c15 => ?_)
    · exact absurd c15 (nI_ge (by omega) (by omega))
    · refine aw_aload_n dX2_officesBehind_18 rfl ?_
      refine aw_gr dX2_officesBehind_19 gf_X2_14 sh_219 (by rfl) ?_
      refine aw_v0vp dX2_officesBehind_22 ml_X2_52 im_X5_passHour se_X5_passHour (c_X5_passHour 220 sh_sky220 L hL hO) sh_sky220.1 (by decide) rfl rfl (Nat.le_of_ble_eq_true rfl) (Nat.le_of_ble_eq_true rfl) (Nat.le_of_ble_eq_true rfl) (Nat.le_of_ble_eq_true rfl) (Nat.le_of_ble_eq_true rfl) (fun μ2 q2 => ?_)
      refine aw_iinc (v := nI (i + 1)) dX2_officesBehind_25 rfl (nI_1 i) (Nat.le_of_ble_eq_true rfl) ?_
      refine aw_goto (tgt := 13) dX2_officesBehind_28 (by decide) ?_
      exact ih (i + 1) (pHour L) μ2 (by omega) q2.1 (pHour_ok hO (by omega)) (by rw [pHour_6]; omega) (hf.tr q2.2) e
set_option maxRecDepth 100000 in
set_option maxHeartbeats 4000000 in
theorem c_X2_officesBehind {G : am_G} {μ : am_M} (K : pK) (hK : skyC μ 27 K) (ho : pOK K) (h6 : K 6 ≤ 999) (l n : Nat) (hl : l ≤ 9) (hn : n ≤ 60) : am_MA G yX2_officesBehind cX2_officesBehind 4 (some .int) 4 0 0 [.ref 219, .int (nI l), .int (nI n)] am_SH μ (am_P (some (.int (nI (pCnt (pSet (fun o => decide (pH n K (12 + o) = l)) (pH n K 5)))))) am_SH (fun μ9 => am_fr μ μ9 220 7)) := by
  refine am_ofK (own := RX2) (nm := "officesBehind") (L := [some (.ref 219), some (.int (nI l)), some (.int (nI n)), none]) rfl rfl (by decide +kernel) (Nat.le_of_ble_eq_true rfl) rfl ?_
  refine aw_aload_n dX2_officesBehind_0 rfl ?_
  refine aw_gr dX2_officesBehind_1 gf_X2_14 sh_219 (by rfl) ?_
  refine aw_aload_n dX2_officesBehind_4 rfl ?_
  refine aw_gr dX2_officesBehind_5 gf_X2_30 sh_219 (by rfl) ?_
  refine aw_v1vp dX2_officesBehind_8 ml_X2_48 im_X5_become se_X5_become (c_X5_become 220 27 sh_sky220 sh_sky27 (by omega) K hK ho.1) sh_sky220.1 (by decide) rfl rfl (Nat.le_of_ble_eq_true rfl) (Nat.le_of_ble_eq_true rfl) (Nat.le_of_ble_eq_true rfl) (Nat.le_of_ble_eq_true rfl) (Nat.le_of_ble_eq_true rfl) (fun μ2 q2 => ?_)
  refine aw_iconst (v := nI 0) dX2_officesBehind_11 rfl ?_
  refine aw_istore_n dX2_officesBehind_12 (Nat.le_of_ble_eq_true rfl) ?_
  exact l_X2_officesBehind K l n hl hn n 0 K μ2 (by omega) q2.1 ho (by omega) q2.2 rfl
