/-! ===== foretold: petition ===== -/
def pRdB (L : pK) (l o : Nat) : Bool := decide (L (12 + o) = l) && decide (pBand (L (17 + o)) = 0)
def pAdv (L : pK) (l : Nat) (os : Nat → Nat) : Nat → Nat → Nat
  | 0, d => d
  | r + 1, d => if pRdB L l (os d) = true then pAdv L l os r (d + 1) else d
def pPs (l : Nat) (os : Nat → Nat) (n : Nat) : Nat → Nat → pK → Nat → Int32
  | 0, _, _, _ => -1000000
  | r + 1, g, L, d => if pAdv L l os (n - d) d = n then nI g else pPs l os n r (g + 1) (pHour L) (pAdv L l os (n - d) d)
theorem pAdv_le (L : pK) (l : Nat) (os : Nat → Nat) : ∀ r d, d ≤ pAdv L l os r d ∧ pAdv L l os r d ≤ d + r
  | 0, d => ⟨Nat.le_refl _, Nat.le_refl _⟩
  | r + 1, d => by
    unfold pAdv
    split
    · have := pAdv_le L l os r (d + 1); omega
    · omega
set_option maxRecDepth 100000 in
set_option maxHeartbeats 4000000 in
theorem c_X2_reads {G : am_G} {μ : am_M} (L : pK) (hL : skyC μ 220 L) (hO : pOK L) (o : Nat) (hoo : o < L 5) (l : Nat) (hl : l ≤ 9) : am_MA G yX2_reads cX2_reads 3 (some .boolean) 1 0 0 [.ref 219, .int (nI o), .int (nI l)] am_SH μ (am_E (some (.int (pI (pRdB L l o = true)))) am_SH μ) := by
  have g := hL.2.2.2.2 o hoo
  have gk := hO.2.2.2.2 o hoo
  have h5 := hO.1
  refine am_ofK (own := RX2) (nm := "reads") (L := [some (.ref 219), some (.int (nI o)), some (.int (nI l))]) rfl rfl (by decide +kernel) (Nat.le_of_ble_eq_true rfl) rfl ?_
  refine aw_aload_n dX2_reads_0 rfl ?_
  refine aw_gr dX2_reads_1 gf_X2_14 sh_219 (by rfl) ?_
  refine aw_gr dX2_reads_4 gf_X2_33 sh_sky220.1 (by rfl) ?_
  refine aw_iload_n dX2_reads_7 rfl ?_
  refine aw_iald dX2_reads_8 sh_sky220.2.2.2.1 rfl (by omega) (by decide) ?_
  refine aw_top g.2.1 ?_
  refine aw_iload_n dX2_reads_9 rfl ?_
  refine aw_icmp_ne (tgt := 32) dX2_reads_10 (by decide) (fun c10 => ?_) (fun c10 => ?_)
  · rw [nI_eq (by omega) (by omega)] at c10
    refine aw_iconst (v := nI 0) dX2_reads_32 rfl ?_
    refine aw_iret dX2_reads_33 rfl rfl rfl rfl ?_
    exact ⟨congrArg (fun z => some (Value.int z)) (pI_n (by simp [pRdB, c10])).symm, rfl, rfl⟩
  · rw [nI_eq (by omega) (by omega)] at c10
    refine aw_aload_n dX2_reads_13 rfl ?_
    refine aw_gr dX2_reads_14 gf_X2_14 sh_219 (by rfl) ?_
    refine aw_gr dX2_reads_17 gf_X2_36 sh_sky220.1 (by rfl) ?_
    refine aw_iload_n dX2_reads_20 rfl ?_
    refine aw_iald dX2_reads_21 sh_sky220.2.2.2.2.1 rfl (by omega) (by decide) ?_
    refine aw_top g.2.2.1 ?_
    refine aw_s1i dX2_reads_22 ml_X2_104 st_X5_bandOf (c_X5_bandOf (L (17 + o)) (by omega)) (Nat.le_of_ble_eq_true rfl) (Nat.le_of_ble_eq_true rfl) (Nat.le_of_ble_eq_true rfl) (Nat.le_of_ble_eq_true rfl) (Nat.le_of_ble_eq_true rfl) ?_
    refine aw_if_ne (tgt := 32) dX2_reads_25 (by decide) (fun c25 => ?_) (fun c25 => ?_)
    · rw [z_eq (by have := pBand_lt (L (17 + o)); omega)] at c25
      refine aw_iconst (v := nI 0) dX2_reads_32 rfl ?_
      refine aw_iret dX2_reads_33 rfl rfl rfl rfl ?_
      exact ⟨congrArg (fun z => some (Value.int z)) (pI_n (by simp [pRdB, c25])).symm, rfl, rfl⟩
    · rw [z_eq (by have := pBand_lt (L (17 + o)); omega)] at c25
      refine aw_iconst (v := nI 1) dX2_reads_28 rfl ?_
      refine aw_goto (tgt := 33) dX2_reads_29 (by decide) ?_
      refine aw_iret dX2_reads_33 rfl rfl rfl rfl ?_
      exact ⟨congrArg (fun z => some (Value.int z)) (pI_1 (by simp [pRdB, c10, c25])).symm, rfl, rfl⟩
set_option maxRecDepth 100000 in
set_option maxHeartbeats 4000000 in
theorem l2_X2_hoursToPass {G : am_G} {μ : am_M} {μ1 : am_M} {K : pK} {l q i n : Nat} {os : Nat → Nat} (hl : l ≤ 9) (hq : am_SH[q]? = some (100, 40, [])) (hq20 : q < 20) (hin : i + n ≤ 40) (hit : ∀ d, d < n → μ q (i + d) = nI (os d)) {L : pK} (hL : skyC μ1 220 L) (hO : pOK L) (hos : ∀ d, d < n → os d < L 5) (hf : am_fr μ μ1 220 7) {g0 rr : Nat} (hg : g0 ≤ 60) (kk : ∀ (d : Nat) (μ2 : am_M), d ≤ n → skyC μ2 220 (pHour L) → am_fr μ μ2 220 7 → pPs l os n rr (g0 + 1) (pHour L) d = pPs l os n 61 0 K 0 → am_W (am_K G RX2 "hoursToPass" 7 (some .int) 4 0 0 (am_P (some (.int (pPs l os n 61 0 K 0))) am_SH (fun μ9 => am_fr μ μ9 220 7))) cX2_hoursToPass 17 [some (.ref 219), some (.int (nI l)), some (.ref q), some (.int (nI i)), some (.int (nI n)), some (.int (nI (i + d))), some (.int (nI (g0 + 1)))] [] am_SH μ2 0 0) : ∀ (r d : Nat), d + r = n → (if pAdv L l os r d = n then nI g0 else pPs l os n rr (g0 + 1) (pHour L) (pAdv L l os r d)) = pPs l os n 61 0 K 0 → am_W (am_K G RX2 "hoursToPass" 7 (some .int) 4 0 0 (am_P (some (.int (pPs l os n 61 0 K 0))) am_SH (fun μ9 => am_fr μ μ9 220 7))) cX2_hoursToPass 24 [some (.ref 219), some (.int (nI l)), some (.ref q), some (.int (nI i)), some (.int (nI n)), some (.int (nI (i + d))), some (.int (nI g0))] [] am_SH μ1 0 0 := by
  intro r
  induction r with
  | zero =>
    intro d hd e
    have dn : d = n := by omega
    subst dn
    refine aw_iload dX2_hoursToPass_24 rfl ?_
    refine aw_iload_n dX2_hoursToPass_26 rfl ?_
    refine aw_iload dX2_hoursToPass_27 rfl ?_
    refine aw_iadd dX2_hoursToPass_29 ?_
    refine aw_top (nI_add _ _) ?_
    refine aw_icmp_ge (tgt := 51) dX2_hoursToPass_30 (by decide) (fun c30 => ?_) (fun c30 => ?_)
    · refine aw_iload dX2_hoursToPass_51 rfl ?_
      refine aw_iload_n dX2_hoursToPass_53 rfl ?_
      refine aw_iload dX2_hoursToPass_54 rfl ?_
      refine aw_iadd dX2_hoursToPass_56 ?_
      refine aw_top (nI_add _ _) ?_
      refine aw_icmp_ne (tgt := 63) dX2_hoursToPass_57 (by decide) (fun c57 => ?_) (fun c57 => ?_)
      · exact absurd rfl c57
      · refine aw_iload dX2_hoursToPass_60 rfl ?_
        refine aw_iret dX2_hoursToPass_62 rfl rfl rfl rfl ?_
        have e2 : pAdv L l os 0 d = d := rfl
        rw [e2, if_pos rfl] at e
        exact ⟨congrArg (fun z => some (Value.int z)) e, rfl, hf⟩
    · exact absurd (nI_le (by omega) (by omega)) c30
  | succ r ih =>
    intro d hd e
    have g := hos d (by omega)
    refine aw_iload dX2_hoursToPass_24 rfl ?_
    refine aw_iload_n dX2_hoursToPass_26 rfl ?_
    refine aw_iload dX2_hoursToPass_27 rfl ?_
    refine aw_iadd dX2_hoursToPass_29 ?_
    refine aw_top (nI_add _ _) ?_
    refine aw_icmp_ge (tgt := 51) dX2_hoursToPass_30 (by decide) (fun c30 => ?_) (fun c30 => ?_)
    · exact absurd c30 (nI_ge (by omega) (by omega))
    · refine aw_aload_n dX2_hoursToPass_33 rfl ?_
      refine aw_aload_n dX2_hoursToPass_34 rfl ?_
      refine aw_iload dX2_hoursToPass_35 rfl ?_
      refine aw_iald dX2_hoursToPass_37 hq rfl (by omega) (by decide) ?_
      refine aw_top (show _ = nI (os d) by rw [hf q (by omega)]; exact hit d (by omega)) ?_
      refine aw_iload_n dX2_hoursToPass_38 rfl ?_
      refine aw_v2i dX2_hoursToPass_39 ml_X2_100 im_X2_reads se_X2_reads (c_X2_reads L hL hO (os d) g l hl) sh_219 (by decide) rfl rfl (Nat.le_of_ble_eq_true rfl) (Nat.le_of_ble_eq_true rfl) (Nat.le_of_ble_eq_true rfl) (Nat.le_of_ble_eq_true rfl) (Nat.le_of_ble_eq_true rfl) ?_
      refine aw_pif_eq (tgt := 51) dX2_hoursToPass_42 (by decide) (fun c42 => ?_) (fun c42 => ?_)
      · have e2 : pAdv L l os (r + 1) d = d := by rw [pAdv, if_neg c42]
        rw [e2, if_neg (by omega)] at e
        refine aw_iload dX2_hoursToPass_51 rfl ?_
        refine aw_iload_n dX2_hoursToPass_53 rfl ?_
        refine aw_iload dX2_hoursToPass_54 rfl ?_
        refine aw_iadd dX2_hoursToPass_56 ?_
        refine aw_top (nI_add _ _) ?_
        refine aw_icmp_ne (tgt := 63) dX2_hoursToPass_57 (by decide) (fun c57 => ?_) (fun c57 => ?_)
        · refine aw_aload_n dX2_hoursToPass_63 rfl ?_
          refine aw_gr dX2_hoursToPass_64 gf_X2_14 sh_219 (by rfl) ?_
          refine aw_v0vp dX2_hoursToPass_67 ml_X2_52 im_X5_passHour se_X5_passHour (c_X5_passHour 220 sh_sky220 L hL hO) sh_sky220.1 (by decide) rfl rfl (Nat.le_of_ble_eq_true rfl) (Nat.le_of_ble_eq_true rfl) (Nat.le_of_ble_eq_true rfl) (Nat.le_of_ble_eq_true rfl) (Nat.le_of_ble_eq_true rfl) (fun μ2 q2 => ?_)
          refine aw_iinc (v := nI (g0 + 1)) dX2_hoursToPass_70 rfl (nI_1 g0) (Nat.le_of_ble_eq_true rfl) ?_
          refine aw_goto (tgt := 17) dX2_hoursToPass_73 (by decide) ?_
          exact kk d μ2 (by omega) q2.1 (hf.tr q2.2) e
        · rw [nI_eq (by omega) (by omega)] at c57
          omega
      · have e2 : pAdv L l os (r + 1) d = pAdv L l os r (d + 1) := by rw [pAdv, if_pos c42]
        rw [e2] at e
        refine aw_iinc (v := nI (i + (d + 1))) dX2_hoursToPass_45 rfl (nI_1 (i + d)) (Nat.le_of_ble_eq_true rfl) ?_
        refine aw_goto (tgt := 24) dX2_hoursToPass_48 (by decide) ?_
        exact ih (d + 1) (by omega) e
set_option maxRecDepth 100000 in
set_option maxHeartbeats 4000000 in
theorem l_X2_hoursToPass {G : am_G} {μ : am_M} {K : pK} {l q i n : Nat} {os : Nat → Nat} (hl : l ≤ 9) (hq : am_SH[q]? = some (100, 40, [])) (hq20 : q < 20) (hin : i + n ≤ 40) (hit : ∀ d, d < n → μ q (i + d) = nI (os d)) : ∀ (r g : Nat) (L : pK) (d : Nat) (μ1 : am_M), g + r = 61 → d ≤ n → skyC μ1 220 L → pOK L → L 6 + r ≤ 1000000 → (∀ x, x < n → os x < L 5) → am_fr μ μ1 220 7 → pPs l os n r g L d = pPs l os n 61 0 K 0 → am_W (am_K G RX2 "hoursToPass" 7 (some .int) 4 0 0 (am_P (some (.int (pPs l os n 61 0 K 0))) am_SH (fun μ9 => am_fr μ μ9 220 7))) cX2_hoursToPass 17 [some (.ref 219), some (.int (nI l)), some (.ref q), some (.int (nI i)), some (.int (nI n)), some (.int (nI (i + d))), some (.int (nI g))] [] am_SH μ1 0 0 := by
  intro r
  induction r with
  | zero =>
    intro g L d μ1 hg hd hL hO h6 hos hf e
    refine aw_iload dX2_hoursToPass_17 rfl ?_
    refine aw_bipush (v := nI 60) dX2_hoursToPass_19 rfl ?_
    refine aw_icmp_gt (tgt := 76) dX2_hoursToPass_21 (by decide) (fun c21 => ?_) (fun c21 => ?_)
    · refine aw_ldc dX2_hoursToPass_76 kc_X2_47 ?_
      refine aw_iret dX2_hoursToPass_78 rfl rfl rfl rfl ?_
      exact ⟨congrArg (fun z => some (Value.int z)) e, rfl, hf⟩
    · exact absurd (nI_lt (by omega) (by omega)) c21
  | succ r ih =>
    intro g L d μ1 hg hd hL hO h6 hos hf e
    refine aw_iload dX2_hoursToPass_17 rfl ?_
    refine aw_bipush (v := nI 60) dX2_hoursToPass_19 rfl ?_
    refine aw_icmp_gt (tgt := 76) dX2_hoursToPass_21 (by decide) (fun c21 => ?_) (fun c21 => ?_)
    · exact absurd c21 (nI_nlt (by omega) (by omega))
    · exact l2_X2_hoursToPass hl hq hq20 hin hit hL hO hos hf (rr := r) (by omega) (fun d2 μ2 hd2 hL2 hf2 e2 => ih (g + 1) (pHour L) d2 μ2 (by omega) hd2 hL2 (pHour_ok hO (by omega)) (by rw [pHour_6]; omega) (fun x hx => by rw [pHour_lo (by omega) (by omega)]; exact hos x hx) hf2 e2) (n - d) d (by omega) e
set_option maxRecDepth 100000 in
set_option maxHeartbeats 4000000 in
theorem c_X2_hoursToPass {G : am_G} {μ : am_M} (K : pK) (hK : skyC μ 27 K) (ho : pOK K) (h6 : K 6 ≤ 999) (l q i n : Nat) (os : Nat → Nat) (hl : l ≤ 9) (hq : am_SH[q]? = some (100, 40, [])) (hq20 : q < 20) (hin : i + n ≤ 40) (hit : ∀ d, d < n → μ q (i + d) = nI (os d)) (hos : ∀ d, d < n → os d < K 5) : am_MA G yX2_hoursToPass cX2_hoursToPass 7 (some .int) 4 0 0 [.ref 219, .int (nI l), .ref q, .int (nI i), .int (nI n)] am_SH μ (am_P (some (.int (pPs l os n 61 0 K 0))) am_SH (fun μ9 => am_fr μ μ9 220 7)) := by
  refine am_ofK (own := RX2) (nm := "hoursToPass") (L := [some (.ref 219), some (.int (nI l)), some (.ref q), some (.int (nI i)), some (.int (nI n)), none, none]) rfl rfl (by decide +kernel) (Nat.le_of_ble_eq_true rfl) rfl ?_
  refine aw_aload_n dX2_hoursToPass_0 rfl ?_
  refine aw_gr dX2_hoursToPass_1 gf_X2_14 sh_219 (by rfl) ?_
  refine aw_aload_n dX2_hoursToPass_4 rfl ?_
  refine aw_gr dX2_hoursToPass_5 gf_X2_30 sh_219 (by rfl) ?_
  refine aw_v1vp dX2_hoursToPass_8 ml_X2_48 im_X5_become se_X5_become (c_X5_become 220 27 sh_sky220 sh_sky27 (by omega) K hK ho.1) sh_sky220.1 (by decide) rfl rfl (Nat.le_of_ble_eq_true rfl) (Nat.le_of_ble_eq_true rfl) (Nat.le_of_ble_eq_true rfl) (Nat.le_of_ble_eq_true rfl) (Nat.le_of_ble_eq_true rfl) (fun μ2 q2 => ?_)
  refine aw_iload_n dX2_hoursToPass_11 rfl ?_
  refine aw_istore dX2_hoursToPass_12 (Nat.le_of_ble_eq_true rfl) ?_
  refine aw_iconst (v := nI 0) dX2_hoursToPass_14 rfl ?_
  refine aw_istore dX2_hoursToPass_15 (Nat.le_of_ble_eq_true rfl) ?_
  exact l_X2_hoursToPass (K := K) hl hq hq20 hin hit 61 0 K 0 μ2 (by omega) (by omega) q2.1 ho (by omega) hos q2.2 rfl
/-! ===== foretold: who, ash ===== -/
def pCm (s : Nat) (f : Nat → Int32) : Nat → Nat → Nat → Bool
  | 0, _, _ => true
  | r + 1, j, h => decide (nI (h - s) = f j) && pCm s f r (j + 1) (h - s)
theorem pn_or6 : ∀ o, o < 6 → ∀ v, v < 2 ^ o → nI v ||| (nI 1 <<< (nI o &&& 31)) = nI (v + 2 ^ o) := by decide +kernel
def pKs (s : Nat) (f : Nat → Int32) (i n h x : Nat) : Nat → Nat
  | 0 => 0
  | k + 1 => if pCm s f n i (pLifted (k + 1) h x) = true then pKs s f i n h x k + 2 ^ (k + 1) else pKs s f i n h x k
theorem pKs_lt (s : Nat) (f : Nat → Int32) (i n h x : Nat) : ∀ k, pKs s f i n h x k < 2 ^ (k + 1)
  | 0 => by simp [pKs]
  | k + 1 => by
    have := pKs_lt s f i n h x k
    unfold pKs
    rw [Nat.pow_succ 2 (k + 1)]
    split <;> omega
set_option maxRecDepth 100000 in
set_option maxHeartbeats 4000000 in
theorem l_X2_comesSo {G : am_G} {μ : am_M} (K : pK) (hK : skyC μ 27 K) (ho : pOK K) (h q i n : Nat) (hq : am_SH[q]? = some (100, 40, [])) (hin : i + n ≤ 40) : ∀ (r j x : Nat), j + r = i + n → x ≤ 20 → pCm (K 4) (μ q) r j x = pCm (K 4) (μ q) n i h → am_W (am_K G RX2 "comesSo" 7 (some .boolean) 2 0 0 (am_E (some (.int (pI (pCm (K 4) (μ q) n i h = true)))) am_SH μ)) cX2_comesSo 6 [some (.ref 219), some (.int (nI h)), some (.ref q), some (.int (nI i)), some (.int (nI n)), some (.int (nI x)), some (.int (nI j))] [] am_SH μ 0 0 := by
  intro r
  induction r with
  | zero =>
    intro j x hj hx e
    refine aw_iload dX2_comesSo_6 rfl ?_
    refine aw_iload_n dX2_comesSo_8 rfl ?_
    refine aw_iload dX2_comesSo_9 rfl ?_
    refine aw_iadd dX2_comesSo_11 ?_
    refine aw_top (nI_add _ _) ?_
    refine aw_icmp_ge (tgt := 43) dX2_comesSo_12 (by decide) (fun c12 => ?_) (fun c12 => ?_)
    · refine aw_iconst (v := nI 1) dX2_comesSo_43 rfl ?_
      refine aw_iret dX2_comesSo_44 rfl rfl rfl rfl ?_
      exact ⟨congrArg (fun z => some (Value.int z)) (pI_1 (by rw [← e]; rfl)).symm, rfl, rfl⟩
    · exact absurd (nI_le (by omega) (by omega)) c12
  | succ r ih =>
    intro j x hj hx e
    refine aw_iload dX2_comesSo_6 rfl ?_
    refine aw_iload_n dX2_comesSo_8 rfl ?_
    refine aw_iload dX2_comesSo_9 rfl ?_
    refine aw_iadd dX2_comesSo_11 ?_
    refine aw_top (nI_add _ _) ?_
    refine aw_icmp_ge (tgt := 43) dX2_comesSo_12 (by decide) (fun c12 => ?_) (fun c12 => ?_)
    · exact absurd c12 (nI_ge (by omega) (by omega))
    · refine aw_aload_n dX2_comesSo_15 rfl ?_
      refine aw_gr dX2_comesSo_16 gf_X2_30 sh_219 (by rfl) ?_
      refine aw_iload dX2_comesSo_19 rfl ?_
      refine aw_v1i dX2_comesSo_21 ml_X2_39 im_X5_sunk se_X5_sunk (c_X5_sunk 27 sh_sky27 K hK ho x hx) sh_sky27.1 (by decide) rfl rfl (Nat.le_of_ble_eq_true rfl) (Nat.le_of_ble_eq_true rfl) (Nat.le_of_ble_eq_true rfl) (Nat.le_of_ble_eq_true rfl) (Nat.le_of_ble_eq_true rfl) ?_
      refine aw_istore dX2_comesSo_24 (Nat.le_of_ble_eq_true rfl) ?_
      refine aw_iload dX2_comesSo_26 rfl ?_
      refine aw_aload_n dX2_comesSo_28 rfl ?_
      refine aw_iload dX2_comesSo_29 rfl ?_
      refine aw_iald dX2_comesSo_31 hq rfl (by omega) (by decide) ?_
      refine aw_icmp_eq (tgt := 37) dX2_comesSo_32 (by decide) (fun c32 => ?_) (fun c32 => ?_)
      · refine aw_iinc (v := nI (j + 1)) dX2_comesSo_37 rfl (nI_1 j) (Nat.le_of_ble_eq_true rfl) ?_
        refine aw_goto (tgt := 6) dX2_comesSo_40 (by decide) ?_
        refine ih (j + 1) (x - K 4) (by omega) (by omega) ?_
        rw [← e, pCm]
        simp [c32]
      · refine aw_iconst (v := nI 0) dX2_comesSo_35 rfl ?_
        refine aw_iret dX2_comesSo_36 rfl rfl rfl rfl ?_
        refine ⟨congrArg (fun z => some (Value.int z)) (pI_n ?_).symm, rfl, rfl⟩
        rw [← e, pCm]
        simp [c32]
set_option maxRecDepth 100000 in
set_option maxHeartbeats 4000000 in
theorem c_X2_comesSo {G : am_G} {μ : am_M} (K : pK) (hK : skyC μ 27 K) (ho : pOK K) (h q i n : Nat) (hh : h ≤ 20) (hq : am_SH[q]? = some (100, 40, [])) (hin : i + n ≤ 40) : am_MA G yX2_comesSo cX2_comesSo 7 (some .boolean) 2 0 0 [.ref 219, .int (nI h), .ref q, .int (nI i), .int (nI n)] am_SH μ (am_E (some (.int (pI (pCm (K 4) (μ q) n i h = true)))) am_SH μ) := by
  refine am_ofK (own := RX2) (nm := "comesSo") (L := [some (.ref 219), some (.int (nI h)), some (.ref q), some (.int (nI i)), some (.int (nI n)), none, none]) rfl rfl (by decide +kernel) (Nat.le_of_ble_eq_true rfl) rfl ?_
  refine aw_iload_n dX2_comesSo_0 rfl ?_
  refine aw_istore dX2_comesSo_1 (Nat.le_of_ble_eq_true rfl) ?_
  refine aw_iload_n dX2_comesSo_3 rfl ?_
  refine aw_istore dX2_comesSo_4 (Nat.le_of_ble_eq_true rfl) ?_
  exact l_X2_comesSo K hK ho h q i n hq hin n i h (by omega) hh rfl
set_option maxRecDepth 100000 in
set_option maxHeartbeats 4000000 in
theorem l_X2_kindsThatFit {G : am_G} {μ : am_M} (K : pK) (hK : skyC μ 27 K) (ho : pOK K) (h q i n x : Nat) (hh : h ≤ 20) (hx : x ≤ 20) (hq : am_SH[q]? = some (100, 40, [])) (hin : i + n ≤ 40) : ∀ (r k : Nat), k + r = 5 → am_W (am_K G RX2 "kindsThatFit" 8 (some .int) 3 0 0 (am_E (some (.int (nI (pKs (K 4) (μ q) i n h x 5)))) am_SH μ)) cX2_kindsThatFit 6 [some (.ref 219), some (.int (nI h)), some (.ref q), some (.int (nI i)), some (.int (nI n)), some (.int (nI x)), some (.int (nI (pKs (K 4) (μ q) i n h x k))), some (.int (nI (k + 1)))] [] am_SH μ 0 0 := by
  intro r
  induction r with
  | zero =>
    intro k hk
    refine aw_iload dX2_kindsThatFit_6 rfl ?_
    refine aw_iconst (v := nI 5) dX2_kindsThatFit_8 rfl ?_
    refine aw_icmp_gt (tgt := 46) dX2_kindsThatFit_9 (by decide) (fun c9 => ?_) (fun c9 => ?_)
    · refine aw_iload dX2_kindsThatFit_46 rfl ?_
      refine aw_iret dX2_kindsThatFit_48 rfl rfl rfl rfl ?_
      have e : k = 5 := by omega
      subst e
      exact ⟨rfl, rfl, rfl⟩
    · exact absurd (nI_lt (by omega) (by omega)) c9
  | succ r ih =>
    intro k hk
    refine aw_iload dX2_kindsThatFit_6 rfl ?_
    refine aw_iconst (v := nI 5) dX2_kindsThatFit_8 rfl ?_
    refine aw_icmp_gt (tgt := 46) dX2_kindsThatFit_9 (by decide) (fun c9 => ?_) (fun c9 => ?_)
    · exact absurd c9 (nI_nlt (by omega) (by omega))
    · refine aw_aload_n dX2_kindsThatFit_12 rfl ?_
      refine aw_iload dX2_kindsThatFit_13 rfl ?_
      refine aw_iload_n dX2_kindsThatFit_15 rfl ?_
      refine aw_iload dX2_kindsThatFit_16 rfl ?_
      refine aw_s3i dX2_kindsThatFit_18 ml_X2_95 st_X5_lifted (c_X5_lifted (k + 1) h x (by omega) (by omega) hh (by omega)) (Nat.le_of_ble_eq_true rfl) (Nat.le_of_ble_eq_true rfl) (Nat.le_of_ble_eq_true rfl) (Nat.le_of_ble_eq_true rfl) (Nat.le_of_ble_eq_true rfl) ?_
      refine aw_aload_n dX2_kindsThatFit_21 rfl ?_
      refine aw_iload_n dX2_kindsThatFit_22 rfl ?_
      refine aw_iload dX2_kindsThatFit_23 rfl ?_
      refine aw_v4i dX2_kindsThatFit_25 ml_X2_109 im_X2_comesSo se_X2_comesSo (c_X2_comesSo K hK ho _ q i n (pLifted_le _ _ _ hh) hq hin) sh_219 (by decide) rfl rfl (Nat.le_of_ble_eq_true rfl) (Nat.le_of_ble_eq_true rfl) (Nat.le_of_ble_eq_true rfl) (Nat.le_of_ble_eq_true rfl) (Nat.le_of_ble_eq_true rfl) ?_
      refine aw_pif_eq (tgt := 40) dX2_kindsThatFit_28 (by decide) (fun c28 => ?_) (fun c28 => ?_)
      · have e1 : pKs (K 4) (μ q) i n h x (k + 1) = pKs (K 4) (μ q) i n h x k := by rw [pKs, if_neg c28]
        refine aw_iinc (v := nI (k + 1 + 1)) dX2_kindsThatFit_40 rfl (nI_1 _) (Nat.le_of_ble_eq_true rfl) ?_
        refine aw_goto (tgt := 6) dX2_kindsThatFit_43 (by decide) ?_
        have ih2 := ih (k + 1) (by omega)
        rw [e1] at ih2
        exact ih2
      · have e1 : pKs (K 4) (μ q) i n h x (k + 1) = pKs (K 4) (μ q) i n h x k + 2 ^ (k + 1) := by rw [pKs, if_pos c28]
        refine aw_iload dX2_kindsThatFit_31 rfl ?_
        refine aw_iconst (v := nI 1) dX2_kindsThatFit_33 rfl ?_
        refine aw_iload dX2_kindsThatFit_34 rfl ?_
        refine aw_ishl dX2_kindsThatFit_36 ?_
        refine aw_ior dX2_kindsThatFit_37 ?_
        refine aw_top ((pn_or6 (k + 1) (by omega) _ (pKs_lt _ _ _ _ _ _ k)).trans (congrArg nI e1.symm)) ?_
        refine aw_istore dX2_kindsThatFit_38 (Nat.le_of_ble_eq_true rfl) ?_
        refine aw_iinc (v := nI (k + 1 + 1)) dX2_kindsThatFit_40 rfl (nI_1 _) (Nat.le_of_ble_eq_true rfl) ?_
        refine aw_goto (tgt := 6) dX2_kindsThatFit_43 (by decide) ?_
        have ih2 := ih (k + 1) (by omega)
        exact ih2
set_option maxRecDepth 100000 in
set_option maxHeartbeats 4000000 in
theorem c_X2_kindsThatFit {G : am_G} {μ : am_M} (K : pK) (hK : skyC μ 27 K) (ho : pOK K) (h q i n x : Nat) (hh : h ≤ 20) (hx : x ≤ 20) (hq : am_SH[q]? = some (100, 40, [])) (hin : i + n ≤ 40) : am_MA G yX2_kindsThatFit cX2_kindsThatFit 8 (some .int) 3 0 0 [.ref 219, .int (nI h), .ref q, .int (nI i), .int (nI n), .int (nI x)] am_SH μ (am_E (some (.int (nI (pKs (K 4) (μ q) i n h x 5)))) am_SH μ) := by
  refine am_ofK (own := RX2) (nm := "kindsThatFit") (L := [some (.ref 219), some (.int (nI h)), some (.ref q), some (.int (nI i)), some (.int (nI n)), some (.int (nI x)), none, none]) rfl rfl (by decide +kernel) (Nat.le_of_ble_eq_true rfl) rfl ?_
  refine aw_iconst (v := nI 0) dX2_kindsThatFit_0 rfl ?_
  refine aw_istore dX2_kindsThatFit_1 (Nat.le_of_ble_eq_true rfl) ?_
  refine aw_iconst (v := nI 1) dX2_kindsThatFit_3 rfl ?_
  refine aw_istore dX2_kindsThatFit_4 (Nat.le_of_ble_eq_true rfl) ?_
  exact l_X2_kindsThatFit K hK ho h q i n x hh hx hq hin 5 0 (by omega)
theorem pn_dec3 : ∀ m, m < 4 → nI 3 - nI m + Int32.ofInt (-1) = nI 3 - nI (m + 1) := by decide +kernel
/-- x is where c sheets bring it -/
def pFit (k s h : Nat) (x : Int32) (c : Nat) : Bool := decide (nI (pLifted k h c - s) = x)
/-- of the m greatest numbers of sheets (3 at most): how many fit, the least that does -/
def pFc (k s h : Nat) (x : Int32) : Nat → Nat
  | 0 => 0
  | m + 1 => if pFit k s h x (3 - m) = true then pFc k s h x m + 1 else pFc k s h x m
def pFq (k s h : Nat) (x : Int32) : Nat → Nat
  | 0 => 4
  | m + 1 => if pFit k s h x (3 - m) = true then 3 - m else pFq k s h x m
/-- the height ahead of step j -/
def pHs (k s h : Nat) (f : Nat → Int32) (i : Nat) : Nat → Nat
  | 0 => h
  | j + 1 => pLifted k (pHs k s h f i j) (pFq k s (pHs k s h f i j) (f (i + j)) 4) - s
def pWs (k s h : Nat) (f : Nat → Int32) (i : Nat) : Nat → Nat
  | 0 => 1
  | j + 1 => pWs k s h f i j * pFc k s (pHs k s h f i j) (f (i + j)) 4
theorem pFq_fit (k s h : Nat) (x : Int32) : ∀ m, 0 < pFc k s h x m → pFit k s h x (pFq k s h x m) = true ∧ pFq k s h x m ≤ 3
  | 0, hm => by simp [pFc] at hm
  | m + 1, hm => by
    unfold pFc at hm
    unfold pFq
    split
    · rename_i q; exact ⟨q, by omega⟩
    · rename_i q
      rw [if_neg q] at hm
      exact pFq_fit k s h x m hm
theorem pHs_le (k s h : Nat) (f : Nat → Int32) (i : Nat) (hh : h ≤ 20) : ∀ j, pHs k s h f i j ≤ 20
  | 0 => hh
  | j + 1 => by
    unfold pHs
    have := pLifted_le k (pFq k s (pHs k s h f i j) (f (i + j)) 4) _ (pHs_le k s h f i hh j)
    omega
theorem pWs_0 (k s h : Nat) (f : Nat → Int32) (i : Nat) {j : Nat} (h0 : pWs k s h f i j = 0) : ∀ r, pWs k s h f i (j + r) = 0
  | 0 => h0
  | r + 1 => by
    show pWs k s h f i (j + r) * _ = 0
    rw [pWs_0 k s h f i h0 r, Nat.zero_mul]
theorem pFc_le (k s h : Nat) (x : Int32) : ∀ m, pFc k s h x m ≤ m
  | 0 => Nat.le_refl _
  | m + 1 => by
    have := pFc_le k s h x m
    unfold pFc
    split <;> omega
theorem pWs_le (k s h : Nat) (f : Nat → Int32) (i : Nat) : ∀ j, pWs k s h f i j ≤ 4 ^ j
  | 0 => Nat.le_refl _
  | j + 1 => by
    unfold pWs
    rw [Nat.pow_succ]
    exact Nat.mul_le_mul (pWs_le k s h f i j) (pFc_le _ _ _ _ 4)
set_option maxRecDepth 100000 in
set_option maxHeartbeats 4000000 in
theorem l2_X2_waysToBurn {G : am_G} {μ : am_M} (K : pK) (hK : skyC μ 27 K) (ho : pOK K) (o : Nat) (hoo : o < K 5) (q i n : Nat) (hq : am_SH[q]? = some (100, 40, [])) (hq20 : q < 20) (hin : i + n ≤ 40) (hn : n ≤ 12) (j : Nat) (hj : j < n) (hj20 : (pHs (K (7 + o)) (K 4) (K (17 + o)) (μ q) i j) ≤ 20) (kk : ∀ (μ1 : am_M) (X Y : Option Value), (∀ j2, j2 < j + 1 → μ1 227 j2 = nI (pFq (K (7 + o)) (K 4) (pHs (K (7 + o)) (K 4) (K (17 + o)) (μ q) i j2) (μ q (i + j2)) 4)) → am_fr μ μ1 227 1 → am_W (am_K G RX2 "waysToBurn" 11 (some .int) 3 0 0 (am_P (some (.int (nI (pWs (K (7 + o)) (K 4) (K (17 + o)) (μ q) i n)))) am_SH (fun μ9 => (0 < pWs (K (7 + o)) (K 4) (K (17 + o)) (μ q) i n → ∀ j, j < n → μ9 227 j = nI (pFq (K (7 + o)) (K 4) (pHs (K (7 + o)) (K 4) (K (17 + o)) (μ q) i j) (μ q (i + j)) 4)) ∧ am_fr μ μ9 227 1))) cX2_waysToBurn 28 [some (.ref 219), some (.int (nI o)), some (.ref q), some (.int (nI i)), some (.int (nI n)), some (.int (nI (K (7 + o)))), some (.int (nI (pHs (K (7 + o)) (K 4) (K (17 + o)) (μ q) i (j + 1)))), some (.int (nI (pWs (K (7 + o)) (K 4) (K (17 + o)) (μ q) i (j + 1)))), some (.int (nI (j + 1))), X, Y] [] am_SH μ1 0 0) : ∀ (r m : Nat) (μ1 : am_M), m + r = 4 → (∀ j2, j2 < j → μ1 227 j2 = nI (pFq (K (7 + o)) (K 4) (pHs (K (7 + o)) (K 4) (K (17 + o)) (μ q) i j2) (μ q (i + j2)) 4)) → (0 < pFc (K (7 + o)) (K 4) (pHs (K (7 + o)) (K 4) (K (17 + o)) (μ q) i j) (μ q (i + j)) m → μ1 227 j = nI (pFq (K (7 + o)) (K 4) (pHs (K (7 + o)) (K 4) (K (17 + o)) (μ q) i j) (μ q (i + j)) m)) → am_fr μ μ1 227 1 → am_W (am_K G RX2 "waysToBurn" 11 (some .int) 3 0 0 (am_P (some (.int (nI (pWs (K (7 + o)) (K 4) (K (17 + o)) (μ q) i n)))) am_SH (fun μ9 => (0 < pWs (K (7 + o)) (K 4) (K (17 + o)) (μ q) i n → ∀ j, j < n → μ9 227 j = nI (pFq (K (7 + o)) (K 4) (pHs (K (7 + o)) (K 4) (K (17 + o)) (μ q) i j) (μ q (i + j)) 4)) ∧ am_fr μ μ9 227 1))) cX2_waysToBurn 41 [some (.ref 219), some (.int (nI o)), some (.ref q), some (.int (nI i)), some (.int (nI n)), some (.int (nI (K (7 + o)))), some (.int (nI (pHs (K (7 + o)) (K 4) (K (17 + o)) (μ q) i j))), some (.int (nI (pWs (K (7 + o)) (K 4) (K (17 + o)) (μ q) i j))), some (.int (nI j)), some (.int (nI (pFc (K (7 + o)) (K 4) (pHs (K (7 + o)) (K 4) (K (17 + o)) (μ q) i j) (μ q (i + j)) m))), some (.int (nI 3 - nI m))] [] am_SH μ1 0 0 := by
  have g := hK.2.2.2.2 o hoo
  have gk := ho.2.2.2.2 o hoo
  have h5 := ho.1
  intro r
  induction r with
  | zero =>
    intro m μ1 hm hp hfq hf
    have m4 : m = 4 := by omega
    subst m4
    refine aw_iload dX2_waysToBurn_41 rfl ?_
    refine aw_if_lt (tgt := 89) dX2_waysToBurn_43 (by decide) (fun c43 => ?_) (fun c43 => ?_)
    · refine aw_iload dX2_waysToBurn_89 rfl ?_
      refine aw_if_ne (tgt := 96) dX2_waysToBurn_91 (by decide) (fun c91 => ?_) (fun c91 => ?_)
      · rw [z_eq (by have := pFc_le (K (7 + o)) (K 4) (pHs (K (7 + o)) (K 4) (K (17 + o)) (μ q) i j) (μ q (i + j)) 4; omega)] at c91
        refine aw_iload dX2_waysToBurn_96 rfl ?_
        refine aw_iload dX2_waysToBurn_98 rfl ?_
        refine aw_imul dX2_waysToBurn_100 ?_
        refine aw_top ((pk_mul _ _).trans (show _ = nI (pWs (K (7 + o)) (K 4) (K (17 + o)) (μ q) i (j + 1)) by rw [pWs])) ?_
        refine aw_istore dX2_waysToBurn_101 (Nat.le_of_ble_eq_true rfl) ?_
        refine aw_aload_n dX2_waysToBurn_103 rfl ?_
        refine aw_iload_n dX2_waysToBurn_104 rfl ?_
        refine aw_iload dX2_waysToBurn_105 rfl ?_
        refine aw_iadd dX2_waysToBurn_107 ?_
        refine aw_top (nI_add _ _) ?_
        refine aw_iald dX2_waysToBurn_108 hq rfl (by omega) (by decide) ?_
        refine aw_top (show _ = nI (pHs (K (7 + o)) (K 4) (K (17 + o)) (μ q) i (j + 1)) by rw [hf q (by omega)]; have := (pFq_fit (K (7 + o)) (K 4) (pHs (K (7 + o)) (K 4) (K (17 + o)) (μ q) i j) (μ q (i + j)) 4 (by omega)).1; simp [pFit] at this; rw [pHs]; exact this.symm) ?_
        refine aw_istore dX2_waysToBurn_109 (Nat.le_of_ble_eq_true rfl) ?_
        refine aw_iinc (v := nI (j + 1)) dX2_waysToBurn_111 rfl (nI_1 j) (Nat.le_of_ble_eq_true rfl) ?_
        refine aw_goto (tgt := 28) dX2_waysToBurn_114 (by decide) ?_
        refine kk μ1 _ _ (fun j2 hj2 => ?_) hf
        by_cases ej : j2 = j
        · subst ej; exact hfq (by omega)
        · exact hp j2 (by omega)
      · rw [z_eq (by have := pFc_le (K (7 + o)) (K 4) (pHs (K (7 + o)) (K 4) (K (17 + o)) (μ q) i j) (μ q (i + j)) 4; omega)] at c91
        refine aw_iconst (v := nI 0) dX2_waysToBurn_94 rfl ?_
        refine aw_iret dX2_waysToBurn_95 rfl rfl rfl rfl ?_
        have e0 : pWs (K (7 + o)) (K 4) (K (17 + o)) (μ q) i (j + 1) = 0 := by rw [pWs, c91, Nat.mul_zero]
        have e1 := pWs_0 (K (7 + o)) (K 4) (K (17 + o)) (μ q) i e0 (n - (j + 1))
        rw [show j + 1 + (n - (j + 1)) = n by omega] at e1
        refine ⟨by rw [e1], rfl, fun h0 => by rw [e1] at h0; omega, hf⟩
    · exact absurd (show nI 3 - nI 4 < 0 by decide) c43
  | succ r ih =>
    intro m μ1 hm hp hfq hf
    have e3 : nI 3 - nI m = nI (3 - m) := pk_sub (by omega)
    refine aw_iload dX2_waysToBurn_41 rfl ?_
    refine aw_if_lt (tgt := 89) dX2_waysToBurn_43 (by decide) (fun c43 => ?_) (fun c43 => ?_)
    · rw [e3, z_lt (by omega)] at c43
      exact c43.elim
    · refine aw_aload_n dX2_waysToBurn_46 rfl ?_
      refine aw_gr dX2_waysToBurn_47 gf_X2_30 sh_219 (by rfl) ?_
      refine aw_iload dX2_waysToBurn_50 rfl ?_
      refine aw_iload dX2_waysToBurn_52 rfl ?_
      refine aw_iload dX2_waysToBurn_54 rfl ?_
      refine aw_top e3 ?_
      refine aw_s3i dX2_waysToBurn_56 ml_X2_95 st_X5_lifted (c_X5_lifted (K (7 + o)) (pHs (K (7 + o)) (K 4) (K (17 + o)) (μ q) i j) (3 - m) gk.1.1 gk.1.2 hj20 (by omega)) (Nat.le_of_ble_eq_true rfl) (Nat.le_of_ble_eq_true rfl) (Nat.le_of_ble_eq_true rfl) (Nat.le_of_ble_eq_true rfl) (Nat.le_of_ble_eq_true rfl) ?_
      refine aw_v1i dX2_waysToBurn_59 ml_X2_39 im_X5_sunk se_X5_sunk (c_X5_sunk 27 sh_sky27 K (hK.fr (fun b _ _ => hf b (by omega))) ho _ (pLifted_le _ _ _ hj20)) sh_sky27.1 (by decide) rfl rfl (Nat.le_of_ble_eq_true rfl) (Nat.le_of_ble_eq_true rfl) (Nat.le_of_ble_eq_true rfl) (Nat.le_of_ble_eq_true rfl) (Nat.le_of_ble_eq_true rfl) ?_
      refine aw_aload_n dX2_waysToBurn_62 rfl ?_
      refine aw_iload_n dX2_waysToBurn_63 rfl ?_
      refine aw_iload dX2_waysToBurn_64 rfl ?_
      refine aw_iadd dX2_waysToBurn_66 ?_
      refine aw_top (nI_add _ _) ?_
      refine aw_iald dX2_waysToBurn_67 hq rfl (by omega) (by decide) ?_
      refine aw_top (show _ = μ q (i + j) by rw [hf q (by omega)]) ?_
      refine aw_icmp_ne (tgt := 83) dX2_waysToBurn_68 (by decide) (fun c68 => ?_) (fun c68 => ?_)
      · have ef : ¬ pFit (K (7 + o)) (K 4) (pHs (K (7 + o)) (K 4) (K (17 + o)) (μ q) i j) (μ q (i + j)) (3 - m) = true := by simp [pFit, c68]
        have e4 : pFc (K (7 + o)) (K 4) (pHs (K (7 + o)) (K 4) (K (17 + o)) (μ q) i j) (μ q (i + j)) (m + 1) = pFc (K (7 + o)) (K 4) (pHs (K (7 + o)) (K 4) (K (17 + o)) (μ q) i j) (μ q (i + j)) m := by rw [pFc, if_neg ef]
        have e5 : pFq (K (7 + o)) (K 4) (pHs (K (7 + o)) (K 4) (K (17 + o)) (μ q) i j) (μ q (i + j)) (m + 1) = pFq (K (7 + o)) (K 4) (pHs (K (7 + o)) (K 4) (K (17 + o)) (μ q) i j) (μ q (i + j)) m := by rw [pFq, if_neg ef]
        refine aw_iinc (v := nI 3 - nI (m + 1)) dX2_waysToBurn_83 rfl (pn_dec3 m (by omega)) (Nat.le_of_ble_eq_true rfl) ?_
        refine aw_goto (tgt := 41) dX2_waysToBurn_86 (by decide) ?_
        have ih2 := ih (m + 1) μ1 (by omega) hp (by rw [e4, e5]; exact hfq) hf
        rw [e4] at ih2
        exact ih2
      · have ef : pFit (K (7 + o)) (K 4) (pHs (K (7 + o)) (K 4) (K (17 + o)) (μ q) i j) (μ q (i + j)) (3 - m) = true := by simp [pFit, c68]
        have e4 : pFc (K (7 + o)) (K 4) (pHs (K (7 + o)) (K 4) (K (17 + o)) (μ q) i j) (μ q (i + j)) (m + 1) = pFc (K (7 + o)) (K 4) (pHs (K (7 + o)) (K 4) (K (17 + o)) (μ q) i j) (μ q (i + j)) m + 1 := by rw [pFc, if_pos ef]
        have e5 : pFq (K (7 + o)) (K 4) (pHs (K (7 + o)) (K 4) (K (17 + o)) (μ q) i j) (μ q (i + j)) (m + 1) = 3 - m := by rw [pFq, if_pos ef]
        refine aw_iinc (v := nI (pFc (K (7 + o)) (K 4) (pHs (K (7 + o)) (K 4) (K (17 + o)) (μ q) i j) (μ q (i + j)) (m + 1))) dX2_waysToBurn_71 rfl (by rw [e4]; exact nI_1 _) (Nat.le_of_ble_eq_true rfl) ?_
        refine aw_aload_n dX2_waysToBurn_74 rfl ?_
        refine aw_gr dX2_waysToBurn_75 gf_X2_18 sh_219 (by rfl) ?_
        refine aw_iload dX2_waysToBurn_78 rfl ?_
        refine aw_iload dX2_waysToBurn_80 rfl ?_
        refine aw_iast dX2_waysToBurn_82 sh_227 rfl (by omega) (by decide) ?_
        refine aw_iinc (v := nI 3 - nI (m + 1)) dX2_waysToBurn_83 rfl (pn_dec3 m (by omega)) (Nat.le_of_ble_eq_true rfl) ?_
        refine aw_goto (tgt := 41) dX2_waysToBurn_86 (by decide) ?_
        refine ih (m + 1) _ (by omega) (fun j2 hj2 => ?_) (fun _ => ?_) (hf.up (by omega) (by omega))
        · rw [am_ups, pk_un (by omega)]; exact hp j2 hj2
        · rw [am_ups, pk_us, e5, ← e3]
set_option maxRecDepth 100000 in
set_option maxHeartbeats 4000000 in
theorem l_X2_waysToBurn {G : am_G} {μ : am_M} (K : pK) (hK : skyC μ 27 K) (ho : pOK K) (o : Nat) (hoo : o < K 5) (q i n : Nat) (hq : am_SH[q]? = some (100, 40, [])) (hq20 : q < 20) (hin : i + n ≤ 40) (hn : n ≤ 12) : ∀ (r j : Nat) (μ1 : am_M) (X Y : Option Value), j + r = n → (∀ j2, j2 < j → μ1 227 j2 = nI (pFq (K (7 + o)) (K 4) (pHs (K (7 + o)) (K 4) (K (17 + o)) (μ q) i j2) (μ q (i + j2)) 4)) → am_fr μ μ1 227 1 → am_W (am_K G RX2 "waysToBurn" 11 (some .int) 3 0 0 (am_P (some (.int (nI (pWs (K (7 + o)) (K 4) (K (17 + o)) (μ q) i n)))) am_SH (fun μ9 => (0 < pWs (K (7 + o)) (K 4) (K (17 + o)) (μ q) i n → ∀ j, j < n → μ9 227 j = nI (pFq (K (7 + o)) (K 4) (pHs (K (7 + o)) (K 4) (K (17 + o)) (μ q) i j) (μ q (i + j)) 4)) ∧ am_fr μ μ9 227 1))) cX2_waysToBurn 28 [some (.ref 219), some (.int (nI o)), some (.ref q), some (.int (nI i)), some (.int (nI n)), some (.int (nI (K (7 + o)))), some (.int (nI (pHs (K (7 + o)) (K 4) (K (17 + o)) (μ q) i j))), some (.int (nI (pWs (K (7 + o)) (K 4) (K (17 + o)) (μ q) i j))), some (.int (nI j)), X, Y] [] am_SH μ1 0 0 := by
  have g := hK.2.2.2.2 o hoo
  have gk := ho.2.2.2.2 o hoo
  have h5 := ho.1
  intro r
  induction r with
  | zero =>
    intro j μ1 X Y hj hp hf
    have jn : j = n := by omega
    subst jn
    refine aw_iload dX2_waysToBurn_28 rfl ?_
    refine aw_iload dX2_waysToBurn_30 rfl ?_
    refine aw_icmp_ge (tgt := 117) dX2_waysToBurn_32 (by decide) (fun c32 => ?_) (fun c32 => ?_)
    · refine aw_iload dX2_waysToBurn_117 rfl ?_
      refine aw_iret dX2_waysToBurn_119 rfl rfl rfl rfl ?_
      exact ⟨rfl, rfl, fun _ => hp, hf⟩
    · exact absurd (nI_le (by omega) (by omega)) c32
  | succ r ih =>
    intro j μ1 X Y hj hp hf
    refine aw_iload dX2_waysToBurn_28 rfl ?_
    refine aw_iload dX2_waysToBurn_30 rfl ?_
    refine aw_icmp_ge (tgt := 117) dX2_waysToBurn_32 (by decide) (fun c32 => ?_) (fun c32 => ?_)
    · exact absurd c32 (nI_ge (by omega) (by omega))
    · refine aw_iconst (v := nI 0) dX2_waysToBurn_35 rfl ?_
      refine aw_istore dX2_waysToBurn_36 (Nat.le_of_ble_eq_true rfl) ?_
      refine aw_iconst (v := nI 3) dX2_waysToBurn_38 rfl ?_
      refine aw_istore dX2_waysToBurn_39 (Nat.le_of_ble_eq_true rfl) ?_
      exact l2_X2_waysToBurn K hK ho o hoo q i n hq hq20 hin hn j (by omega) (pHs_le _ _ _ _ _ gk.2.2.1 j) (fun μ2 X Y hp2 hf2 => ih (j + 1) μ2 X Y (by omega) hp2 hf2) 4 0 μ1 (by omega) hp (fun h0 => by simp [pFc] at h0) hf
set_option maxRecDepth 100000 in
set_option maxHeartbeats 4000000 in
theorem c_X2_waysToBurn {G : am_G} {μ : am_M} (K : pK) (hK : skyC μ 27 K) (ho : pOK K) (o : Nat) (hoo : o < K 5) (q i n : Nat) (hq : am_SH[q]? = some (100, 40, [])) (hq20 : q < 20) (hin : i + n ≤ 40) (hn : n ≤ 12) : am_MA G yX2_waysToBurn cX2_waysToBurn 11 (some .int) 3 0 0 [.ref 219, .int (nI o), .ref q, .int (nI i), .int (nI n)] am_SH μ (am_P (some (.int (nI (pWs (K (7 + o)) (K 4) (K (17 + o)) (μ q) i n)))) am_SH (fun μ9 => (0 < pWs (K (7 + o)) (K 4) (K (17 + o)) (μ q) i n → ∀ j, j < n → μ9 227 j = nI (pFq (K (7 + o)) (K 4) (pHs (K (7 + o)) (K 4) (K (17 + o)) (μ q) i j) (μ q (i + j)) 4)) ∧ am_fr μ μ9 227 1)) := by
  have g := hK.2.2.2.2 o hoo
  have gk := ho.2.2.2.2 o hoo
  have h5 := ho.1
  refine am_ofK (own := RX2) (nm := "waysToBurn") (L := [some (.ref 219), some (.int (nI o)), some (.ref q), some (.int (nI i)), some (.int (nI n)), none, none, none, none, none, none]) rfl rfl (by decide +kernel) (Nat.le_of_ble_eq_true rfl) rfl ?_
  refine aw_aload_n dX2_waysToBurn_0 rfl ?_
  refine aw_gr dX2_waysToBurn_1 gf_X2_30 sh_219 (by rfl) ?_
  refine aw_gr dX2_waysToBurn_4 gf_X2_92 sh_sky27.1 (by rfl) ?_
  refine aw_iload_n dX2_waysToBurn_7 rfl ?_
  refine aw_iald dX2_waysToBurn_8 sh_sky27.2.2.1 rfl (by omega) (by decide) ?_
  refine aw_top g.1 ?_
  refine aw_istore dX2_waysToBurn_9 (Nat.le_of_ble_eq_true rfl) ?_
  refine aw_aload_n dX2_waysToBurn_11 rfl ?_
  refine aw_gr dX2_waysToBurn_12 gf_X2_30 sh_219 (by rfl) ?_
  refine aw_gr dX2_waysToBurn_15 gf_X2_36 sh_sky27.1 (by rfl) ?_
  refine aw_iload_n dX2_waysToBurn_18 rfl ?_
  refine aw_iald dX2_waysToBurn_19 sh_sky27.2.2.2.2.1 rfl (by omega) (by decide) ?_
  refine aw_top g.2.2.1 ?_
  refine aw_istore dX2_waysToBurn_20 (Nat.le_of_ble_eq_true rfl) ?_
  refine aw_iconst (v := nI 1) dX2_waysToBurn_22 rfl ?_
  refine aw_istore dX2_waysToBurn_23 (Nat.le_of_ble_eq_true rfl) ?_
  refine aw_iconst (v := nI 0) dX2_waysToBurn_25 rfl ?_
  refine aw_istore dX2_waysToBurn_26 (Nat.le_of_ble_eq_true rfl) ?_
  exact l_X2_waysToBurn K hK ho o hoo q i n hq hq20 hin hn n 0 μ _ _ (by omega) (fun j2 hj2 => by omega) am_fr.rf
