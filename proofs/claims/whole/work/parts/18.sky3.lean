def pHT (K : pK) (i : Nat) : pK := fun j => if 17 ≤ j ∧ j < 17 + i then K j - K 4 else if 12 ≤ j ∧ j < 12 + i then pCar K (K j) (K (j + 5) - K 4) else K j
theorem pHT_0 {K : pK} {i j : Nat} (h : j < 12 ∨ 22 ≤ j) (hi : i ≤ 5) : pHT K i j = K j := by
  unfold pHT
  rw [if_neg (by omega), if_neg (by omega)]
theorem pHT_h {K : pK} {i o : Nat} (h : i ≤ o) (h5 : o < 5) : pHT K i (17 + o) = K (17 + o) := by
  unfold pHT
  rw [if_neg (by omega), if_neg (by omega)]
theorem pHT_l {K : pK} {i o : Nat} (h : i ≤ o) (h5 : o < 5) : pHT K i (12 + o) = K (12 + o) := by
  unfold pHT
  rw [if_neg (by omega), if_neg (by omega)]
theorem pHT_ok {K : pK} {i : Nat} (h : pOK K) (hi : i ≤ K 5) : pOK (pHT K i) := by
  obtain ⟨h1, h2, h3, h4, h5⟩ := h
  refine ⟨by rw [pHT_0 (by omega) (by omega)]; exact h1, by rw [pHT_0 (by omega) (by omega)]; exact h2, fun b hb => by rw [pHT_0 (by omega) (by omega)]; exact h3 b hb, by rw [pHT_0 (by omega) (by omega)]; exact h4, fun o ho => ?_⟩
  rw [pHT_0 (by omega) (by omega)] at ho
  obtain ⟨g1, g2, g3, g4⟩ := h5 o ho
  refine ⟨by rw [pHT_0 (by omega) (by omega)]; exact g1, ?_, ?_, by rw [pHT_0 (by omega) (by omega)]; exact g4⟩
  · unfold pHT
    rw [if_neg (by omega)]
    split
    · exact Nat.min_le_left _ _
    · exact g2
  · unfold pHT
    split
    · omega
    · rw [if_neg (by omega)]; exact g3
theorem pUp_ok_h {K : pK} {o x : Nat} (h : pOK K) (ho : o < K 5) (hx : x ≤ 20) : pOK (pUp K (17 + o) x) := by
  obtain ⟨h1, h2, h3, h4, h5⟩ := h
  refine ⟨by rw [pUp_n (by omega)]; exact h1, by rw [pUp_n (by omega)]; exact h2, fun b hb => by rw [pUp_n (by omega)]; exact h3 b hb, by rw [pUp_n (by omega)]; exact h4, fun q hq => ?_⟩
  rw [pUp_n (by omega)] at hq
  obtain ⟨g1, g2, g3, g4⟩ := h5 q hq
  refine ⟨by rw [pUp_n (by omega)]; exact g1, by rw [pUp_n (by omega)]; exact g2, ?_, by rw [pUp_n (by omega)]; exact g4⟩
  by_cases e : q = o
  · subst e; rw [pUp_s]; exact hx
  · rw [pUp_n (by omega)]; exact g3
theorem pW_up {K : pK} {j x h : Nat} (hj : 4 ≤ j) : pW (pUp K j x) h = pW K h := by
  unfold pW
  split
  · rfl
  · exact pUp_n (by have := pBand_lt h; omega)
theorem pW_HT {K : pK} {i h : Nat} (hi : i ≤ 5) : pW (pHT K i) h = pW K h := by
  unfold pW
  split
  · rfl
  · exact pHT_0 (by have := pBand_lt h; omega) hi
theorem pHT_s {K : pK} {i : Nat} (hi : i < 5) : ∀ j, j < 32 → pUp (pUp (pHT K i) (17 + i) (K (17 + i) - K 4)) (12 + i) (pCar K (K (12 + i)) (K (17 + i) - K 4)) j = pHT K (i + 1) j := by
  intro j hj
  by_cases h1 : j = 12 + i
  · subst h1
    rw [pUp_s]
    unfold pHT
    rw [if_neg (by omega), if_pos (by omega), show 12 + i + 5 = 17 + i by omega]
  · rw [pUp_n h1]
    by_cases h2 : j = 17 + i
    · subst h2
      rw [pUp_s]
      unfold pHT
      rw [if_pos (by omega)]
    · rw [pUp_n h2]
      unfold pHT
      by_cases c1 : 17 ≤ j ∧ j < 17 + i
      · rw [if_pos c1, if_pos (by omega)]
      · rw [if_neg c1, if_neg (show ¬ (17 ≤ j ∧ j < 17 + (i + 1)) by omega)]
        by_cases c2 : 12 ≤ j ∧ j < 12 + i
        · rw [if_pos c2, if_pos (by omega)]
        · rw [if_neg c2, if_neg (by omega)]
theorem pHT_n {K : pK} (h5 : K 5 ≤ 5) : ∀ j, j < 32 → pUp (pHT K (K 5)) 6 (K 6 + 1) j = pHour K j := by
  intro j hj
  by_cases h1 : j = 6
  · subst h1
    rw [pUp_s]
    unfold pHour
    rw [if_neg (by omega), if_neg (by omega), if_pos rfl]
  · rw [pUp_n h1]
    unfold pHT pHour
    by_cases c1 : 17 ≤ j ∧ j < 17 + K 5
    · rw [if_pos c1, if_pos c1]
    · rw [if_neg c1, if_neg c1]
      by_cases c2 : 12 ≤ j ∧ j < 12 + K 5
      · rw [if_pos c2, if_pos c2]
      · rw [if_neg c2, if_neg c2, if_neg h1]
theorem pHour_ok {K : pK} (h : pOK K) (h6 : K 6 < 1000000) : pOK (pHour K) := by
  obtain ⟨h1, h2, h3, h4, h5⟩ := h
  have e5 : pHour K 5 = K 5 := by unfold pHour; rw [if_neg (by omega), if_neg (by omega), if_neg (by omega)]
  refine ⟨by rw [e5]; exact h1, by unfold pHour; rw [if_neg (by omega), if_neg (by omega), if_neg (by omega)]; exact h2, fun b hb => by unfold pHour; rw [if_neg (by omega), if_neg (by omega), if_neg (by omega)]; exact h3 b hb, by unfold pHour; rw [if_neg (by omega), if_neg (by omega), if_pos rfl]; omega, fun o ho => ?_⟩
  rw [e5] at ho
  obtain ⟨g1, g2, g3, g4⟩ := h5 o ho
  refine ⟨by unfold pHour; rw [if_neg (by omega), if_neg (by omega), if_neg (by omega)]; exact g1, ?_, ?_, by unfold pHour; rw [if_neg (by omega), if_neg (by omega), if_neg (by omega)]; exact g4⟩
  · unfold pHour; rw [if_neg (by omega), if_pos (by omega)]; exact Nat.min_le_left _ _
  · unfold pHour; rw [if_pos (by omega)]; omega
set_option maxRecDepth 100000 in
set_option maxHeartbeats 4000000 in
theorem l_X5_passHour {G : am_G} {sh : List am_S} {μ : am_M} {a : Nat} (hs : am_sky sh a) {K : pK} (ho : pOK K) : ∀ (r i : Nat) (μ1 : am_M), i + r = K 5 → skyC μ1 a (pHT K i) → am_fr μ μ1 a 7 → am_W (am_K G RX5 "passHour" 2 none 3 0 0 (am_P none sh (fun μ9 => skyC μ9 a (pHour K) ∧ am_fr μ μ9 a 7))) cX5_passHour 2 [some (.ref a), some (.int (nI i))] [] sh μ1 0 0 := by
  obtain ⟨s0, s1, s2, s3, s4, s5, s6⟩ := id hs
  have h5 := ho.1
  intro r
  induction r with
  | zero =>
    intro i μ1 hi hS hF
    have e5 : μ1 a 0 = nI (K 5) := by rw [hS.1, pHT_0 (by omega) (by omega)]
    have e6 : μ1 a 2 = nI (K 6) := by rw [hS.2.2.1, pHT_0 (by omega) (by omega)]
    refine aw_iload_n dX5_passHour_2 rfl ?_
    refine aw_aload_n dX5_passHour_3 rfl ?_
    refine aw_gi dX5_passHour_4 gf_X5_28 (by assumption) (by rfl) ?_
    refine aw_top e5 ?_
    refine aw_icmp_ge (tgt := 54) dX5_passHour_7 (by decide) (fun c7 => ?_) (fun c7 => ?_)
    · refine aw_aload_n dX5_passHour_54 rfl ?_
      refine aw_dup dX5_passHour_55 rfl ?_
      refine aw_gi dX5_passHour_56 gf_X5_35 (by assumption) (by rfl) ?_
      refine aw_top e6 ?_
      refine aw_iconst (v := nI 1) dX5_passHour_59 rfl ?_
      refine aw_iadd dX5_passHour_60 ?_
      refine aw_top (nI_add (K 6) 1) ?_
      refine aw_pi dX5_passHour_61 pf_X5_35 rfl rfl (by assumption) (by rfl) ?_
      refine aw_vret dX5_passHour_64 rfl rfl rfl ?_
      have hi2 : i = K 5 := by omega
      subst hi2
      exact ⟨rfl, rfl, (hS.hr (x := K 6 + 1)).cong (by rw [pUp_n (by omega), pHT_0 (by omega) (by omega)]; exact h5) (pHT_n h5), hF.up (by omega) (by omega)⟩
    · exact absurd (nI_le (by omega) (by omega)) c7
  | succ r ih =>
    intro i μ1 hi hS hF
    have e5 : μ1 a 0 = nI (K 5) := by rw [hS.1, pHT_0 (by omega) (by omega)]
    have hi5 : i < K 5 := by omega
    have hSo := hS.2.2.2.2 i (by rw [pHT_0 (by omega) (by omega)]; exact hi5)
    have ok1 := pHT_ok ho (show i ≤ K 5 by omega)
    have g := ho.2.2.2.2 i hi5
    refine aw_iload_n dX5_passHour_2 rfl ?_
    refine aw_aload_n dX5_passHour_3 rfl ?_
    refine aw_gi dX5_passHour_4 gf_X5_28 (by assumption) (by rfl) ?_
    refine aw_top e5 ?_
    refine aw_icmp_ge (tgt := 54) dX5_passHour_7 (by decide) (fun c7 => ?_) (fun c7 => ?_)
    · exact absurd c7 (nI_ge (by omega) (by omega))
    · refine aw_aload_n dX5_passHour_10 rfl ?_
      refine aw_gr dX5_passHour_11 gf_X5_19 (by assumption) (by rfl) ?_
      refine aw_iload_n dX5_passHour_14 rfl ?_
      refine aw_aload_n dX5_passHour_15 rfl ?_
      refine aw_aload_n dX5_passHour_16 rfl ?_
      refine aw_gr dX5_passHour_17 gf_X5_19 (by assumption) (by rfl) ?_
      refine aw_iload_n dX5_passHour_20 rfl ?_
      refine aw_iald dX5_passHour_21 (by assumption) rfl (by omega) (by decide) ?_
      refine aw_top (show μ1 (a + 4) i = nI (K (17 + i)) by rw [hSo.2.2.1, pHT_h (by omega) (by omega)]) ?_
      refine aw_v1i dX5_passHour_22 ml_X5_44 im_X5_sunk se_X5_sunk (c_X5_sunk a hs (pHT K i) hS ok1 (K (17 + i)) g.2.2.1) (by assumption) (by decide) rfl rfl (Nat.le_of_ble_eq_true rfl) (Nat.le_of_ble_eq_true rfl) (Nat.le_of_ble_eq_true rfl) (Nat.le_of_ble_eq_true rfl) (Nat.le_of_ble_eq_true rfl) ?_
      refine aw_top (show nI (K (17 + i) - pHT K i 4) = nI (K (17 + i) - K 4) by rw [pHT_0 (by omega) (by omega)]) ?_
      refine aw_iast dX5_passHour_25 (by assumption) rfl (by omega) (by decide) ?_
      have hS1 := hS.s2 (x := K (17 + i) - K 4) (o := i) (by rw [pHT_0 (by omega) (by omega)]; exact hi5) (by rw [pHT_0 (by omega) (by omega)]; exact h5)
      have ok2 := pUp_ok_h (o := i) (x := K (17 + i) - K 4) ok1 (by rw [pHT_0 (by omega) (by omega)]; exact hi5) (by omega)
      have hF1 := hF.up (b := a + 4) (f := upd (μ1 (a + 4)) i (nI (K (17 + i) - K 4))) (by omega) (by omega)
      generalize am_up μ1 (a + 4) (upd (μ1 (a + 4)) i (nI (K (17 + i) - K 4))) = μ2 at hS1 hF1 ⊢
      have hSp := hS1.2.2.2.2 i (by rw [pUp_n (by omega), pHT_0 (by omega) (by omega)]; exact hi5)
      refine aw_aload_n dX5_passHour_26 rfl ?_
      refine aw_gr dX5_passHour_27 gf_X5_16 (by assumption) (by rfl) ?_
      refine aw_iload_n dX5_passHour_30 rfl ?_
      refine aw_aload_n dX5_passHour_31 rfl ?_
      refine aw_aload_n dX5_passHour_32 rfl ?_
      refine aw_gr dX5_passHour_33 gf_X5_16 (by assumption) (by rfl) ?_
      refine aw_iload_n dX5_passHour_36 rfl ?_
      refine aw_iald dX5_passHour_37 (by assumption) rfl (by omega) (by decide) ?_
      refine aw_top (show μ2 (a + 3) i = nI (K (12 + i)) by rw [hSp.2.1, pUp_n (by omega), pHT_l (by omega) (by omega)]) ?_
      refine aw_aload_n dX5_passHour_38 rfl ?_
      refine aw_gr dX5_passHour_39 gf_X5_19 (by assumption) (by rfl) ?_
      refine aw_iload_n dX5_passHour_42 rfl ?_
      refine aw_iald dX5_passHour_43 (by assumption) rfl (by omega) (by decide) ?_
      refine aw_top (show μ2 (a + 4) i = nI (K (17 + i) - K 4) by rw [hSp.2.2.1, pUp_s]) ?_
      refine aw_v2i dX5_passHour_44 ml_X5_48 im_X5_carried se_X5_carried (c_X5_carried a hs _ hS1 ok2 (K (12 + i)) (K (17 + i) - K 4) g.2.1 (by omega)) (by assumption) (by decide) rfl rfl (Nat.le_of_ble_eq_true rfl) (Nat.le_of_ble_eq_true rfl) (Nat.le_of_ble_eq_true rfl) (Nat.le_of_ble_eq_true rfl) (Nat.le_of_ble_eq_true rfl) ?_
      refine aw_top (show _ = nI (pCar K (K (12 + i)) (K (17 + i) - K 4)) by unfold pCar; rw [pW_up (by omega), pW_HT (by omega)]) ?_
      refine aw_iast dX5_passHour_47 (by assumption) rfl (by omega) (by decide) ?_
      refine aw_iinc (v := nI (i + 1)) dX5_passHour_48 rfl (nI_1 i) (Nat.le_of_ble_eq_true rfl) ?_
      refine aw_goto (tgt := 2) dX5_passHour_51 (by decide) ?_
      exact ih (i + 1) _ (by omega) ((hS1.s1 (x := pCar K (K (12 + i)) (K (17 + i) - K 4)) (o := i) (by rw [pUp_n (by omega), pHT_0 (by omega) (by omega)]; exact hi5) (by rw [pUp_n (by omega), pHT_0 (by omega) (by omega)]; exact h5)).cong (by rw [pUp_n (by omega), pUp_n (by omega), pHT_0 (by omega) (by omega)]; exact h5) (pHT_s (by omega))) (hF1.up (by omega) (by omega))
set_option maxRecDepth 100000 in
set_option maxHeartbeats 4000000 in
theorem c_X5_passHour {G : am_G} {sh : List am_S} {μ : am_M} (a : Nat) (hs : am_sky sh a) (K : pK) (hK : skyC μ a K) (ho : pOK K) : am_MA G yX5_passHour cX5_passHour 2 none 3 0 0 [.ref a] sh μ (am_P none sh (fun μ9 => skyC μ9 a (pHour K) ∧ am_fr μ μ9 a 7)) := by
  obtain ⟨s0, s1, s2, s3, s4, s5, s6⟩ := id hs
  refine am_ofK (own := RX5) (nm := "passHour") (L := [some (.ref a), none]) rfl rfl (by decide +kernel) (Nat.le_of_ble_eq_true rfl) rfl ?_
  refine aw_iconst (v := nI 0) dX5_passHour_0 rfl ?_
  refine aw_istore_n dX5_passHour_1 (Nat.le_of_ble_eq_true rfl) ?_
  exact l_X5_passHour hs ho (K 5) 0 μ (by omega) (hK.cong ho.1 (fun j _ => by unfold pHT; rw [if_neg (by omega), if_neg (by omega)])) am_fr.rf
/-- an office burns sheets -/
def pBurn (K : pK) (o n : Nat) : pK := pUp (pUp (pUp K (22 + o) (K (22 + o) - n)) (27 + o) (K (27 + o) + n)) (17 + o) (pLifted (K (7 + o)) (K (17 + o)) n)
theorem pLifted_le (kind : Nat) : ∀ (n h : Nat), h ≤ 20 → pLifted kind h n ≤ 20
  | 0, h, hh => hh
  | n + 1, h, hh => pLifted_le kind n _ (Nat.min_le_left _ _)
theorem pBurn_ok {K : pK} {o n : Nat} (h : pOK K) (ho : o < K 5) : pOK (pBurn K o n) := by
  have h9 := h
  obtain ⟨h1, h2, h3, h4, h5⟩ := h
  unfold pBurn
  have e5 : pUp (pUp K (22 + o) (K (22 + o) - n)) (27 + o) (K (27 + o) + n) 5 = K 5 := by rw [pUp_n (by omega), pUp_n (by omega)]
  refine pUp_ok_h ?_ (by rw [e5]; exact ho) (pLifted_le _ _ _ (h5 o ho).2.2.1)
  refine ⟨by rw [e5]; exact h1, by rw [pUp_n (by omega), pUp_n (by omega)]; exact h2, fun b hb => by rw [pUp_n (by omega), pUp_n (by omega)]; exact h3 b hb, by rw [pUp_n (by omega), pUp_n (by omega)]; exact h4, fun q hq => ?_⟩
  rw [e5] at hq
  obtain ⟨g1, g2, g3, g4⟩ := h5 q hq
  refine ⟨by rw [pUp_n (by omega), pUp_n (by omega)]; exact g1, by rw [pUp_n (by omega), pUp_n (by omega)]; exact g2, by rw [pUp_n (by omega), pUp_n (by omega)]; exact g3, ?_⟩
  rw [pUp_n (by omega)]
  by_cases e : q = o
  · subst e; rw [pUp_s]; omega
  · rw [pUp_n (by omega)]; exact g4
set_option maxRecDepth 100000 in
set_option maxHeartbeats 4000000 in
theorem c_X5_useSheets {G : am_G} {sh : List am_S} {μ : am_M} (a : Nat) (hs : am_sky sh a) (K : pK) (hK : skyC μ a K) (ho : pOK K) (o n : Nat) (hoo : o < K 5) (hn : n ≤ K (22 + o)) : am_MA G yX5_useSheets cX5_useSheets 3 none 3 0 0 [.ref a, .int (nI o), .int (nI n)] sh μ (am_P none sh (fun μ9 => skyC μ9 a (pBurn K o n) ∧ am_fr μ μ9 a 7)) := by
  obtain ⟨s0, s1, s2, s3, s4, s5, s6⟩ := id hs
  obtain ⟨k0, k1, k2, k3, k4⟩ := id hK
  have h5 := ho.1
  have ok := ho.2.2.2.2 o hoo
  have g := k4 o hoo
  refine am_ofK (own := RX5) (nm := "useSheets") (L := [some (.ref a), some (.int (nI o)), some (.int (nI n))]) rfl rfl (by decide +kernel) (Nat.le_of_ble_eq_true rfl) rfl ?_
  refine aw_aload_n dX5_useSheets_0 rfl ?_
  refine aw_gr dX5_useSheets_1 gf_X5_22 (by assumption) (by rfl) ?_
  refine aw_iload_n dX5_useSheets_4 rfl ?_
  refine aw_dup2 dX5_useSheets_5 rfl rfl ?_
  refine aw_iald dX5_useSheets_6 (by assumption) rfl (by omega) (by decide) ?_
  refine aw_top g.2.2.2.1 ?_
  refine aw_iload_n dX5_useSheets_7 rfl ?_
  refine aw_isub dX5_useSheets_8 ?_
  refine aw_top (pk_sub hn) ?_
  refine aw_iast dX5_useSheets_9 (by assumption) rfl (by omega) (by decide) ?_
  have hS1 := hK.s3 (x := K (22 + o) - n) hoo h5
  have hF1 := (am_fr.rf (μ := μ) (a := a) (n := 7)).up (b := a + 5) (f := upd (μ (a + 5)) o (nI (K (22 + o) - n))) (by omega) (by omega)
  generalize am_up μ (a + 5) (upd (μ (a + 5)) o (nI (K (22 + o) - n))) = μ2 at hS1 hF1 ⊢
  have g1 := hS1.2.2.2.2 o (by rw [pUp_n (by omega)]; exact hoo)
  refine aw_aload_n dX5_useSheets_10 rfl ?_
  refine aw_gr dX5_useSheets_11 gf_X5_25 (by assumption) (by rfl) ?_
  refine aw_iload_n dX5_useSheets_14 rfl ?_
  refine aw_dup2 dX5_useSheets_15 rfl rfl ?_
  refine aw_iald dX5_useSheets_16 (by assumption) rfl (by omega) (by decide) ?_
  refine aw_top (show μ2 (a + 6) o = nI (K (27 + o)) by rw [g1.2.2.2.2, pUp_n (by omega)]) ?_
  refine aw_iload_n dX5_useSheets_17 rfl ?_
  refine aw_iadd dX5_useSheets_18 ?_
  refine aw_top (nI_add _ _) ?_
  refine aw_iast dX5_useSheets_19 (by assumption) rfl (by omega) (by decide) ?_
  have hS2 := hS1.s4 (x := K (27 + o) + n) (o := o) (by rw [pUp_n (by omega)]; exact hoo) (by rw [pUp_n (by omega)]; exact h5)
  have hF2 := hF1.up (b := a + 6) (f := upd (μ2 (a + 6)) o (nI (K (27 + o) + n))) (by omega) (by omega)
  generalize am_up μ2 (a + 6) (upd (μ2 (a + 6)) o (nI (K (27 + o) + n))) = μ3 at hS2 hF2 ⊢
  have g2 := hS2.2.2.2.2 o (by rw [pUp_n (by omega), pUp_n (by omega)]; exact hoo)
  refine aw_aload_n dX5_useSheets_20 rfl ?_
  refine aw_gr dX5_useSheets_21 gf_X5_19 (by assumption) (by rfl) ?_
  refine aw_iload_n dX5_useSheets_24 rfl ?_
  refine aw_aload_n dX5_useSheets_25 rfl ?_
  refine aw_gr dX5_useSheets_26 gf_X5_13 (by assumption) (by rfl) ?_
  refine aw_iload_n dX5_useSheets_29 rfl ?_
  refine aw_iald dX5_useSheets_30 (by assumption) rfl (by omega) (by decide) ?_
  refine aw_top (show μ3 (a + 2) o = nI (K (7 + o)) by rw [g2.1, pUp_n (by omega), pUp_n (by omega)]) ?_
  refine aw_aload_n dX5_useSheets_31 rfl ?_
  refine aw_gr dX5_useSheets_32 gf_X5_19 (by assumption) (by rfl) ?_
  refine aw_iload_n dX5_useSheets_35 rfl ?_
  refine aw_iald dX5_useSheets_36 (by assumption) rfl (by omega) (by decide) ?_
  refine aw_top (show μ3 (a + 4) o = nI (K (17 + o)) by rw [g2.2.2.1, pUp_n (by omega), pUp_n (by omega)]) ?_
  refine aw_iload_n dX5_useSheets_37 rfl ?_
  refine aw_s3i dX5_useSheets_38 ml_X5_52 st_X5_lifted (c_X5_lifted (K (7 + o)) (K (17 + o)) n ok.1.1 ok.1.2 ok.2.2.1 (by omega)) (Nat.le_of_ble_eq_true rfl) (Nat.le_of_ble_eq_true rfl) (Nat.le_of_ble_eq_true rfl) (Nat.le_of_ble_eq_true rfl) (Nat.le_of_ble_eq_true rfl) ?_
  refine aw_iast dX5_useSheets_41 (by assumption) rfl (by omega) (by decide) ?_
  refine aw_vret dX5_useSheets_42 rfl rfl rfl ?_
  exact ⟨rfl, rfl, hS2.s2 (o := o) (by rw [pUp_n (by omega), pUp_n (by omega)]; exact hoo) (by rw [pUp_n (by omega), pUp_n (by omega)]; exact h5), hF2.up (by omega) (by omega)⟩
set_option maxRecDepth 100000 in
set_option maxHeartbeats 4000000 in
theorem x_X5_become {μ : am_M} {a a2 : Nat} {K : pK} (hd : a + 7 ≤ a2 ∨ a2 + 7 ≤ a) (hK : skyC μ a2 K) (h5 : K 5 ≤ 5) : ∀ μ9 : am_M, (μ9 a 0 = μ a2 0) → (μ9 a 1 = μ a2 1) → (μ9 a 2 = μ a2 2) → (∀ b, b < 4 → μ9 (a + 1) b = μ (a2 + 1) b) → (∀ b, b < 5 → μ9 (a + 2) b = μ (a2 + 2) b) → (∀ b, b < 5 → μ9 (a + 3) b = μ (a2 + 3) b) → (∀ b, b < 5 → μ9 (a + 4) b = μ (a2 + 4) b) → (∀ b, b < 5 → μ9 (a + 5) b = μ (a2 + 5) b) → (∀ b, b < 5 → μ9 (a + 6) b = μ (a2 + 6) b) → skyC μ9 a K := by
  intro μ9 e0 e1 e2 e3 f2 f3 f4 f5 f6
  obtain ⟨k0, k1, k2, k3, k4⟩ := hK
  refine ⟨e0.trans k0, e1.trans k1, e2.trans k2, fun b hb => (e3 b hb).trans (k3 b hb), fun o ho => ?_⟩
  obtain ⟨g2, g3, g4, g5, g6⟩ := k4 o ho
  exact ⟨(f2 o (by omega)).trans g2, (f3 o (by omega)).trans g3, (f4 o (by omega)).trans g4, (f5 o (by omega)).trans g5, (f6 o (by omega)).trans g6⟩
set_option maxRecDepth 100000 in
set_option maxHeartbeats 4000000 in
theorem c_X5_become {G : am_G} {sh : List am_S} {μ : am_M} (a a2 : Nat) (hs : am_sky sh a) (hs2 : am_sky sh a2) (hd : a + 7 ≤ a2 ∨ a2 + 7 ≤ a) (K : pK) (hK : skyC μ a2 K) (h5 : K 5 ≤ 5) : am_MA G yX5_become cX5_become 2 none 1 0 0 [.ref a, .ref a2] sh μ (am_P none sh (fun μ9 => skyC μ9 a K ∧ am_fr μ μ9 a 7)) := by
  obtain ⟨s0, s1, s2, s3, s4, s5, s6⟩ := id hs
  obtain ⟨t0, t1, t2, t3, t4, t5, t6⟩ := id hs2
  refine am_ofK (own := RX5) (nm := "become") (L := [some (.ref a), some (.ref a2)]) rfl rfl (by decide +kernel) (Nat.le_of_ble_eq_true rfl) rfl ?_
  refine aw_aload_n dX5_become_0 rfl ?_
  refine aw_aload_n dX5_become_1 rfl ?_
  refine aw_gi dX5_become_2 gf_X5_28 (by assumption) (by rfl) ?_
  refine aw_pi dX5_become_5 pf_X5_28 rfl rfl (by assumption) (by rfl) ?_
  refine aw_aload_n dX5_become_8 rfl ?_
  refine aw_aload_n dX5_become_9 rfl ?_
  refine aw_gi dX5_become_10 gf_X5_32 (by assumption) (by rfl) ?_
  refine aw_pi dX5_become_13 pf_X5_32 rfl rfl (by assumption) (by rfl) ?_
  refine aw_aload_n dX5_become_16 rfl ?_
  refine aw_aload_n dX5_become_17 rfl ?_
  refine aw_gi dX5_become_18 gf_X5_35 (by assumption) (by rfl) ?_
  refine aw_pi dX5_become_21 pf_X5_35 rfl rfl (by assumption) (by rfl) ?_
  refine aw_aload_n dX5_become_24 rfl ?_
  refine aw_gr dX5_become_25 gf_X5_9 (by assumption) (by rfl) ?_
  refine aw_iconst (v := nI 0) dX5_become_28 rfl ?_
  refine aw_aload_n dX5_become_29 rfl ?_
  refine aw_gr dX5_become_30 gf_X5_9 (by assumption) (by rfl) ?_
  refine aw_iconst (v := nI 0) dX5_become_33 rfl ?_
  refine aw_iconst (v := nI 4) dX5_become_34 rfl ?_
  refine aw_copy dX5_become_35 lk_X5_38 nt_copy st_copy iw_J10 (Nat.le_of_ble_eq_true rfl) (Nat.le_of_ble_eq_true rfl) (Nat.le_of_ble_eq_true rfl) (by assumption) (by assumption) rfl rfl rfl (by decide) (by decide) (by decide) (by decide) ?_
  refine aw_aload_n dX5_become_38 rfl ?_
  refine aw_gr dX5_become_39 gf_X5_13 (by assumption) (by rfl) ?_
  refine aw_iconst (v := nI 0) dX5_become_42 rfl ?_
  refine aw_aload_n dX5_become_43 rfl ?_
  refine aw_gr dX5_become_44 gf_X5_13 (by assumption) (by rfl) ?_
  refine aw_iconst (v := nI 0) dX5_become_47 rfl ?_
  refine aw_iconst (v := nI 5) dX5_become_48 rfl ?_
  refine aw_copy dX5_become_49 lk_X5_38 nt_copy st_copy iw_J10 (Nat.le_of_ble_eq_true rfl) (Nat.le_of_ble_eq_true rfl) (Nat.le_of_ble_eq_true rfl) (by assumption) (by assumption) rfl rfl rfl (by decide) (by decide) (by decide) (by decide) ?_
  refine aw_aload_n dX5_become_52 rfl ?_
  refine aw_gr dX5_become_53 gf_X5_16 (by assumption) (by rfl) ?_
  refine aw_iconst (v := nI 0) dX5_become_56 rfl ?_
  refine aw_aload_n dX5_become_57 rfl ?_
  refine aw_gr dX5_become_58 gf_X5_16 (by assumption) (by rfl) ?_
  refine aw_iconst (v := nI 0) dX5_become_61 rfl ?_
  refine aw_iconst (v := nI 5) dX5_become_62 rfl ?_
  refine aw_copy dX5_become_63 lk_X5_38 nt_copy st_copy iw_J10 (Nat.le_of_ble_eq_true rfl) (Nat.le_of_ble_eq_true rfl) (Nat.le_of_ble_eq_true rfl) (by assumption) (by assumption) rfl rfl rfl (by decide) (by decide) (by decide) (by decide) ?_
  refine aw_aload_n dX5_become_66 rfl ?_
  refine aw_gr dX5_become_67 gf_X5_19 (by assumption) (by rfl) ?_
  refine aw_iconst (v := nI 0) dX5_become_70 rfl ?_
  refine aw_aload_n dX5_become_71 rfl ?_
  refine aw_gr dX5_become_72 gf_X5_19 (by assumption) (by rfl) ?_
  refine aw_iconst (v := nI 0) dX5_become_75 rfl ?_
  refine aw_iconst (v := nI 5) dX5_become_76 rfl ?_
  refine aw_copy dX5_become_77 lk_X5_38 nt_copy st_copy iw_J10 (Nat.le_of_ble_eq_true rfl) (Nat.le_of_ble_eq_true rfl) (Nat.le_of_ble_eq_true rfl) (by assumption) (by assumption) rfl rfl rfl (by decide) (by decide) (by decide) (by decide) ?_
  refine aw_aload_n dX5_become_80 rfl ?_
  refine aw_gr dX5_become_81 gf_X5_22 (by assumption) (by rfl) ?_
  refine aw_iconst (v := nI 0) dX5_become_84 rfl ?_
  refine aw_aload_n dX5_become_85 rfl ?_
  refine aw_gr dX5_become_86 gf_X5_22 (by assumption) (by rfl) ?_
  refine aw_iconst (v := nI 0) dX5_become_89 rfl ?_
  refine aw_iconst (v := nI 5) dX5_become_90 rfl ?_
  refine aw_copy dX5_become_91 lk_X5_38 nt_copy st_copy iw_J10 (Nat.le_of_ble_eq_true rfl) (Nat.le_of_ble_eq_true rfl) (Nat.le_of_ble_eq_true rfl) (by assumption) (by assumption) rfl rfl rfl (by decide) (by decide) (by decide) (by decide) ?_
  refine aw_aload_n dX5_become_94 rfl ?_
  refine aw_gr dX5_become_95 gf_X5_25 (by assumption) (by rfl) ?_
  refine aw_iconst (v := nI 0) dX5_become_98 rfl ?_
  refine aw_aload_n dX5_become_99 rfl ?_
  refine aw_gr dX5_become_100 gf_X5_25 (by assumption) (by rfl) ?_
  refine aw_iconst (v := nI 0) dX5_become_103 rfl ?_
  refine aw_iconst (v := nI 5) dX5_become_104 rfl ?_
  refine aw_copy dX5_become_105 lk_X5_38 nt_copy st_copy iw_J10 (Nat.le_of_ble_eq_true rfl) (Nat.le_of_ble_eq_true rfl) (Nat.le_of_ble_eq_true rfl) (by assumption) (by assumption) rfl rfl rfl (by decide) (by decide) (by decide) (by decide) ?_
  refine aw_vret dX5_become_108 rfl rfl rfl ?_
  refine ⟨rfl, rfl, x_X5_become hd hK h5 _ ?_ ?_ ?_ ?_ ?_ ?_ ?_ ?_ ?_, ?_⟩
  · simp only [am_upn (show a ≠ a + 1 by omega), am_upn (show a ≠ a + 2 by omega), am_upn (show a ≠ a + 3 by omega), am_upn (show a ≠ a + 4 by omega), am_upn (show a ≠ a + 5 by omega), am_upn (show a ≠ a + 6 by omega), am_ups, pk_us, pk_un (show (0 : Nat) ≠ 1 by decide), pk_un (show (0 : Nat) ≠ 2 by decide), pk_un (show (1 : Nat) ≠ 2 by decide), am_upn (show a2 ≠ a by omega)]
  · simp only [am_upn (show a ≠ a + 1 by omega), am_upn (show a ≠ a + 2 by omega), am_upn (show a ≠ a + 3 by omega), am_upn (show a ≠ a + 4 by omega), am_upn (show a ≠ a + 5 by omega), am_upn (show a ≠ a + 6 by omega), am_ups, pk_us, pk_un (show (0 : Nat) ≠ 1 by decide), pk_un (show (0 : Nat) ≠ 2 by decide), pk_un (show (1 : Nat) ≠ 2 by decide), am_upn (show a2 ≠ a by omega)]
  · simp only [am_upn (show a ≠ a + 1 by omega), am_upn (show a ≠ a + 2 by omega), am_upn (show a ≠ a + 3 by omega), am_upn (show a ≠ a + 4 by omega), am_upn (show a ≠ a + 5 by omega), am_upn (show a ≠ a + 6 by omega), am_ups, pk_us, pk_un (show (0 : Nat) ≠ 1 by decide), pk_un (show (0 : Nat) ≠ 2 by decide), pk_un (show (1 : Nat) ≠ 2 by decide), am_upn (show a2 ≠ a by omega)]
  · intro b hb
    simp only [am_upn (show a + 1 ≠ a + 2 by omega), am_upn (show a + 1 ≠ a + 3 by omega), am_upn (show a + 1 ≠ a + 4 by omega), am_upn (show a + 1 ≠ a + 5 by omega), am_upn (show a + 1 ≠ a + 6 by omega), am_ups]
    rw [pk_cpy_in (by omega) (by omega)]
    simp only [am_upn (show a2 + 1 ≠ a + 1 by omega), am_upn (show a2 + 1 ≠ a + 2 by omega), am_upn (show a2 + 1 ≠ a + 3 by omega), am_upn (show a2 + 1 ≠ a + 4 by omega), am_upn (show a2 + 1 ≠ a + 5 by omega), am_upn (show a2 + 1 ≠ a + 6 by omega), am_upn (show a2 + 1 ≠ a by omega), Nat.zero_add, Nat.sub_zero]
  · intro b hb
    simp only [am_upn (show a + 2 ≠ a + 1 by omega), am_upn (show a + 2 ≠ a + 3 by omega), am_upn (show a + 2 ≠ a + 4 by omega), am_upn (show a + 2 ≠ a + 5 by omega), am_upn (show a + 2 ≠ a + 6 by omega), am_ups]
    rw [pk_cpy_in (by omega) (by omega)]
    simp only [am_upn (show a2 + 2 ≠ a + 1 by omega), am_upn (show a2 + 2 ≠ a + 2 by omega), am_upn (show a2 + 2 ≠ a + 3 by omega), am_upn (show a2 + 2 ≠ a + 4 by omega), am_upn (show a2 + 2 ≠ a + 5 by omega), am_upn (show a2 + 2 ≠ a + 6 by omega), am_upn (show a2 + 2 ≠ a by omega), Nat.zero_add, Nat.sub_zero]
  · intro b hb
    simp only [am_upn (show a + 3 ≠ a + 1 by omega), am_upn (show a + 3 ≠ a + 2 by omega), am_upn (show a + 3 ≠ a + 4 by omega), am_upn (show a + 3 ≠ a + 5 by omega), am_upn (show a + 3 ≠ a + 6 by omega), am_ups]
    rw [pk_cpy_in (by omega) (by omega)]
    simp only [am_upn (show a2 + 3 ≠ a + 1 by omega), am_upn (show a2 + 3 ≠ a + 2 by omega), am_upn (show a2 + 3 ≠ a + 3 by omega), am_upn (show a2 + 3 ≠ a + 4 by omega), am_upn (show a2 + 3 ≠ a + 5 by omega), am_upn (show a2 + 3 ≠ a + 6 by omega), am_upn (show a2 + 3 ≠ a by omega), Nat.zero_add, Nat.sub_zero]
  · intro b hb
    simp only [am_upn (show a + 4 ≠ a + 1 by omega), am_upn (show a + 4 ≠ a + 2 by omega), am_upn (show a + 4 ≠ a + 3 by omega), am_upn (show a + 4 ≠ a + 5 by omega), am_upn (show a + 4 ≠ a + 6 by omega), am_ups]
    rw [pk_cpy_in (by omega) (by omega)]
    simp only [am_upn (show a2 + 4 ≠ a + 1 by omega), am_upn (show a2 + 4 ≠ a + 2 by omega), am_upn (show a2 + 4 ≠ a + 3 by omega), am_upn (show a2 + 4 ≠ a + 4 by omega), am_upn (show a2 + 4 ≠ a + 5 by omega), am_upn (show a2 + 4 ≠ a + 6 by omega), am_upn (show a2 + 4 ≠ a by omega), Nat.zero_add, Nat.sub_zero]
  · intro b hb
    simp only [am_upn (show a + 5 ≠ a + 1 by omega), am_upn (show a + 5 ≠ a + 2 by omega), am_upn (show a + 5 ≠ a + 3 by omega), am_upn (show a + 5 ≠ a + 4 by omega), am_upn (show a + 5 ≠ a + 6 by omega), am_ups]
    rw [pk_cpy_in (by omega) (by omega)]
    simp only [am_upn (show a2 + 5 ≠ a + 1 by omega), am_upn (show a2 + 5 ≠ a + 2 by omega), am_upn (show a2 + 5 ≠ a + 3 by omega), am_upn (show a2 + 5 ≠ a + 4 by omega), am_upn (show a2 + 5 ≠ a + 5 by omega), am_upn (show a2 + 5 ≠ a + 6 by omega), am_upn (show a2 + 5 ≠ a by omega), Nat.zero_add, Nat.sub_zero]
  · intro b hb
    simp only [am_upn (show a + 6 ≠ a + 1 by omega), am_upn (show a + 6 ≠ a + 2 by omega), am_upn (show a + 6 ≠ a + 3 by omega), am_upn (show a + 6 ≠ a + 4 by omega), am_upn (show a + 6 ≠ a + 5 by omega), am_ups]
    rw [pk_cpy_in (by omega) (by omega)]
    simp only [am_upn (show a2 + 6 ≠ a + 1 by omega), am_upn (show a2 + 6 ≠ a + 2 by omega), am_upn (show a2 + 6 ≠ a + 3 by omega), am_upn (show a2 + 6 ≠ a + 4 by omega), am_upn (show a2 + 6 ≠ a + 5 by omega), am_upn (show a2 + 6 ≠ a + 6 by omega), am_upn (show a2 + 6 ≠ a by omega), Nat.zero_add, Nat.sub_zero]
  · exact ((((((((am_fr.rf.up (by omega) (by omega)).up (by omega) (by omega)).up (by omega) (by omega)).up (by omega) (by omega)).up (by omega) (by omega)).up (by omega) (by omega)).up (by omega) (by omega)).up (by omega) (by omega)).up (by omega) (by omega)
