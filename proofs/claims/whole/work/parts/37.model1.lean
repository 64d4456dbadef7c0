/-! ===== the model's helpers ===== -/
def mC (μ : am_M) (a : Nat) (K : pK) : Prop := ∀ j, j < 32 → μ a j = nI (K j)
theorem mC.fr {μ μ' : am_M} {a : Nat} {K : pK} (h : mC μ a K) (e : μ' a = μ a) : mC μ' a K := fun j hj => by rw [e]; exact h j hj
theorem mC.up {μ : am_M} {a : Nat} {K : pK} (h : mC μ a K) (j x : Nat) : mC (am_up μ a (upd (μ a) j (nI x))) a (pUp K j x) := fun i hi => by
  rw [am_ups]
  by_cases e : i = j
  · rw [e, pk_us, pUp_s]
  · rw [pk_un e, pUp_n e]; exact h i hi
theorem mC.cg {μ : am_M} {a : Nat} {K K' : pK} (h : mC μ a K) (e : ∀ j, j < 32 → K j = K' j) : mC μ a K' := fun j hj => by rw [← e j hj]; exact h j hj
theorem pCar_cg {K K' : pK} (e : ∀ b, b < 4 → K b = K' b) (l h : Nat) : pCar K l h = pCar K' l h := by
  unfold pCar pW
  split
  · rfl
  · rw [e _ (pBand_lt h)]
theorem pHT_st {K : pK} {i : Nat} (hi : i < 5) (j : Nat) : pUp (pUp (pHT K i) (17 + i) (K (17 + i) - K 4)) (12 + i) (pCar K (K (12 + i)) (K (17 + i) - K 4)) j = pHT K (i + 1) j := by
  by_cases e1 : j = 12 + i
  · subst e1
    rw [pUp_s]
    unfold pHT
    rw [if_neg (by omega), if_pos (by omega), show 12 + i + 5 = 17 + i by omega]
  · rw [pUp_n e1]
    by_cases e2 : j = 17 + i
    · subst e2
      rw [pUp_s]
      unfold pHT
      rw [if_pos (by omega)]
    · rw [pUp_n e2]
      unfold pHT
      by_cases e3 : 17 ≤ j ∧ j < 17 + i
      · rw [if_pos e3, if_pos (by omega)]
      · rw [if_neg e3, if_neg (show ¬ (17 ≤ j ∧ j < 17 + (i + 1)) by omega)]
        by_cases e4 : 12 ≤ j ∧ j < 12 + i
        · rw [if_pos e4, if_pos (by omega)]
        · rw [if_neg e4, if_neg (by omega)]
theorem pHT_end {K : pK} (h5 : K 5 ≤ 5) (j : Nat) : pUp (pHT K (K 5)) 6 (K 6 + 1) j = pHour K j := by
  by_cases e : j = 6
  · subst e; rw [pUp_s, pHour_6]
  · rw [pUp_n e]
    unfold pHT pHour
    split
    · rfl
    · split
      · rfl
      · first | rfl | rw [if_neg e]
theorem pHT_z (K : pK) (j : Nat) : pHT K 0 j = K j := by
  unfold pHT
  rw [if_neg (by omega), if_neg (by omega)]
theorem pLift_le3 (k x : Nat) : pLift k x ≤ 3 := by
  unfold pLift
  split
  · omega
  · split
    · omega
    · split
      · split <;> omega
      · omega
theorem lt64 {x y : Int64} : x < y ↔ x.toInt < y.toInt := Int64.lt_iff_toInt_lt
theorem l32 (v : Int32) : v.toInt64.toInt = v.toInt := Int32.toInt_toInt64 v
theorem pn_bits : ∀ l, l < 32 → 0 < l → nI l &&& (nI l - nI 1) = nI (l &&& (l - 1)) ∧ (l &&& (l - 1)) < l ∧ pCnt l = pCnt (l &&& (l - 1)) + 1 := by decide +kernel
theorem pn_or0 (v : Int32) : v ||| nI 0 = v := by
  show v ||| 0 = v
  simp
theorem pn_sunk2 {h s : Nat} (hh : h ≤ 20) (hs : s ≤ 3) : True := trivial
theorem pn_car2 : ∀ l, l < 10 → ∀ w, w < 5 → (if 0 ≤ nI l + nI w - nI 2 then (if nI l + nI w - nI 2 ≤ nI 9 then nI l + nI w - nI 2 else nI 9) else nI 0) = nI (min 9 (l + w - 2)) := by decide +kernel
set_option maxRecDepth 100000 in
set_option maxHeartbeats 4000000 in
theorem c_X8_in {G : am_G} {sh : List am_S} {μ : am_M} (v : Int32) (lo n : Nat) {a b : Int64} (ea : a.toInt = (lo : Int)) (eb : b.toInt = (n : Int) - 1) : am_MA G yX8_in cX8_in 6 (some .boolean) 0 0 0 [.long v.toInt64, .long a, .long b] sh μ (am_E (some (.int (pI (pIn v lo n)))) sh μ) := by
  have t0 := l32 v
  refine am_ofK (own := RX8) (nm := "in") (L := [some (.long v.toInt64), none, some (.long a), none, some (.long b), none]) rfl rfl (by decide +kernel) (Nat.le_of_ble_eq_true rfl) rfl ?_
  refine aw_lload_n dX8_in_0 rfl ?_
  refine aw_lload_n dX8_in_1 rfl ?_
  refine aw_lcmp dX8_in_2 ?_
  refine aw_if_lt (tgt := 17) dX8_in_3 (by decide) (fun c3 => ?_) (fun c3 => ?_)
  · rw [lg_cmp_lt, lt64] at c3
    refine aw_iconst (v := nI 0) dX8_in_17 rfl ?_
    refine aw_iret dX8_in_18 rfl rfl rfl rfl ?_
    exact ⟨pI_fa (by omega), rfl, rfl⟩
  · rw [lg_cmp_lt, lt64] at c3
    refine aw_lload_n dX8_in_6 rfl ?_
    refine aw_lload dX8_in_7 rfl ?_
    refine aw_lcmp dX8_in_9 ?_
    refine aw_if_gt (tgt := 17) dX8_in_10 (by decide) (fun c10 => ?_) (fun c10 => ?_)
    · rw [lg_cmp_gt, lt64] at c10
      refine aw_iconst (v := nI 0) dX8_in_17 rfl ?_
      refine aw_iret dX8_in_18 rfl rfl rfl rfl ?_
      exact ⟨pI_fa (by omega), rfl, rfl⟩
    · rw [lg_cmp_gt, lt64] at c10
      refine aw_iconst (v := nI 1) dX8_in_13 rfl ?_
      refine aw_goto (tgt := 18) dX8_in_14 (by decide) ?_
      refine aw_iret dX8_in_18 rfl rfl rfl rfl ?_
      exact ⟨pI_tr (by omega), rfl, rfl⟩
set_option maxRecDepth 100000 in
set_option maxHeartbeats 4000000 in
theorem c_X8_isRow {G : am_G} {sh : List am_S} {μ : am_M} (v : Int32) : am_MA G yX8_isRow cX8_isRow 1 (some .boolean) 1 0 0 [.int v] sh μ (am_E (some (.int (pI (pIn v 0 8)))) sh μ) := by
  refine am_ofK (own := RX8) (nm := "isRow") (L := [some (.int v)]) rfl rfl (by decide +kernel) (Nat.le_of_ble_eq_true rfl) rfl ?_
  refine aw_iload_n dX8_isRow_0 rfl ?_
  refine aw_i2l dX8_isRow_1 ?_
  refine aw_lconst (v := lN 0) dX8_isRow_2 rfl ?_
  refine aw_ldc2 dX8_isRow_3 kl_X8_55 ?_
  refine aw_s3i dX8_isRow_6 ml_X8_57 st_X8_in (c_X8_in v 0 8 (by decide +kernel) (by decide +kernel)) (Nat.le_of_ble_eq_true rfl) (Nat.le_of_ble_eq_true rfl) (Nat.le_of_ble_eq_true rfl) (Nat.le_of_ble_eq_true rfl) (Nat.le_of_ble_eq_true rfl) ?_
  refine aw_iret dX8_isRow_9 rfl (pI_nar _) rfl rfl ?_
  exact ⟨rfl, rfl, rfl⟩
set_option maxRecDepth 100000 in
set_option maxHeartbeats 4000000 in
theorem c_X8_isLand {G : am_G} {sh : List am_S} {μ : am_M} (v : Int32) : am_MA G yX8_isLand cX8_isLand 1 (some .boolean) 1 0 0 [.int v] sh μ (am_E (some (.int (pI (pIn v 0 10)))) sh μ) := by
  refine am_ofK (own := RX8) (nm := "isLand") (L := [some (.int v)]) rfl rfl (by decide +kernel) (Nat.le_of_ble_eq_true rfl) rfl ?_
  refine aw_iload_n dX8_isLand_0 rfl ?_
  refine aw_i2l dX8_isLand_1 ?_
  refine aw_lconst (v := lN 0) dX8_isLand_2 rfl ?_
  refine aw_ldc2 dX8_isLand_3 kl_X8_148 ?_
  refine aw_s3i dX8_isLand_6 ml_X8_57 st_X8_in (c_X8_in v 0 10 (by decide +kernel) (by decide +kernel)) (Nat.le_of_ble_eq_true rfl) (Nat.le_of_ble_eq_true rfl) (Nat.le_of_ble_eq_true rfl) (Nat.le_of_ble_eq_true rfl) (Nat.le_of_ble_eq_true rfl) ?_
  refine aw_iret dX8_isLand_9 rfl (pI_nar _) rfl rfl ?_
  exact ⟨rfl, rfl, rfl⟩
set_option maxRecDepth 100000 in
set_option maxHeartbeats 4000000 in
theorem c_X8_isTwo {G : am_G} {sh : List am_S} {μ : am_M} (v : Int32) : am_MA G yX8_isTwo cX8_isTwo 1 (some .boolean) 1 0 0 [.int v] sh μ (am_E (some (.int (pI (pIn v 0 2)))) sh μ) := by
  refine am_ofK (own := RX8) (nm := "isTwo") (L := [some (.int v)]) rfl rfl (by decide +kernel) (Nat.le_of_ble_eq_true rfl) rfl ?_
  refine aw_iload_n dX8_isTwo_0 rfl ?_
  refine aw_i2l dX8_isTwo_1 ?_
  refine aw_lconst (v := lN 0) dX8_isTwo_2 rfl ?_
  refine aw_lconst (v := lN 1) dX8_isTwo_3 rfl ?_
  refine aw_s3i dX8_isTwo_4 ml_X8_57 st_X8_in (c_X8_in v 0 2 (by decide +kernel) (by decide +kernel)) (Nat.le_of_ble_eq_true rfl) (Nat.le_of_ble_eq_true rfl) (Nat.le_of_ble_eq_true rfl) (Nat.le_of_ble_eq_true rfl) (Nat.le_of_ble_eq_true rfl) ?_
  refine aw_iret dX8_isTwo_7 rfl (pI_nar _) rfl rfl ?_
  exact ⟨rfl, rfl, rfl⟩
set_option maxRecDepth 100000 in
set_option maxHeartbeats 4000000 in
theorem c_X8_isFigure {G : am_G} {sh : List am_S} {μ : am_M} (v : Int32) : am_MA G yX8_isFigure cX8_isFigure 1 (some .boolean) 1 0 0 [.int v] sh μ (am_E (some (.int (pI (pIn v 48 58)))) sh μ) := by
  refine am_ofK (own := RX8) (nm := "isFigure") (L := [some (.int v)]) rfl rfl (by decide +kernel) (Nat.le_of_ble_eq_true rfl) rfl ?_
  refine aw_iload_n dX8_isFigure_0 rfl ?_
  refine aw_i2l dX8_isFigure_1 ?_
  refine aw_ldc2 dX8_isFigure_2 kl_X8_81 ?_
  refine aw_ldc2 dX8_isFigure_5 kl_X8_83 ?_
  refine aw_s3i dX8_isFigure_8 ml_X8_57 st_X8_in (c_X8_in v 48 58 (by decide +kernel) (by decide +kernel)) (Nat.le_of_ble_eq_true rfl) (Nat.le_of_ble_eq_true rfl) (Nat.le_of_ble_eq_true rfl) (Nat.le_of_ble_eq_true rfl) (Nat.le_of_ble_eq_true rfl) ?_
  refine aw_iret dX8_isFigure_11 rfl (pI_nar _) rfl rfl ?_
  exact ⟨rfl, rfl, rfl⟩
set_option maxRecDepth 100000 in
set_option maxHeartbeats 4000000 in
theorem c_X8_isOffice {G : am_G} {μ : am_M} (A : pA) (hs : mC μ 239 A.K) (hk : pOK A.K) (v : Int32) : am_MA G yX8_isOffice cX8_isOffice 2 (some .boolean) 1 0 0 [.ref 234, .int v] am_SH μ (am_E (some (.int (pI (pIn v 0 (A.K 5))))) am_SH μ) := by
  have h5 := hk.1
  refine am_ofK (own := RX8) (nm := "isOffice") (L := [some (.ref 234), some (.int v)]) rfl rfl (by decide +kernel) (Nat.le_of_ble_eq_true rfl) rfl ?_
  refine aw_iload_n dX8_isOffice_0 rfl ?_
  refine aw_i2l dX8_isOffice_1 ?_
  refine aw_lconst (v := lN 0) dX8_isOffice_2 rfl ?_
  refine aw_aload_n dX8_isOffice_3 rfl ?_
  refine aw_gr dX8_isOffice_4 gf_X8_22 sh_234 (by rfl) ?_
  refine aw_iconst (v := nI 5) dX8_isOffice_7 rfl ?_
  refine aw_iald (j := 5) dX8_isOffice_8 sh_239 rfl (by decide) (by decide) ?_
  refine aw_top (hs 5 (by decide)) ?_
  refine aw_iconst (v := nI 1) dX8_isOffice_9 rfl ?_
  refine aw_isub dX8_isOffice_10 ?_
  refine aw_i2l dX8_isOffice_11 ?_
  refine aw_s3i dX8_isOffice_12 ml_X8_57 st_X8_in (c_X8_in v 0 (A.K 5) (by decide +kernel) (by rw [l32]; exact pn_pred (by omega))) (Nat.le_of_ble_eq_true rfl) (Nat.le_of_ble_eq_true rfl) (Nat.le_of_ble_eq_true rfl) (Nat.le_of_ble_eq_true rfl) (Nat.le_of_ble_eq_true rfl) ?_
  refine aw_iret dX8_isOffice_15 rfl (pI_nar _) rfl rfl ?_
  exact ⟨rfl, rfl, rfl⟩
set_option maxRecDepth 100000 in
set_option maxHeartbeats 4000000 in
theorem c_X8_found {G : am_G} {μ : am_M} (f : Nat) : am_MA G yX8_found cX8_found 2 (some .int) 0 0 0 [.ref 234, .int (nI f)] am_SH μ (am_E (some (.int ((-1000010) - nI f))) am_SH (am_up μ 234 (upd (μ 234) 3 (nI f)))) := by
  refine am_ofK (own := RX8) (nm := "found") (L := [some (.ref 234), some (.int (nI f))]) rfl rfl (by decide +kernel) (Nat.le_of_ble_eq_true rfl) rfl ?_
  refine aw_aload_n dX8_found_0 rfl ?_
  refine aw_iload_n dX8_found_1 rfl ?_
  refine aw_pi dX8_found_2 pf_X8_50 rfl rfl sh_234 (by rfl) ?_
  refine aw_ldc dX8_found_5 kc_X8_54 ?_
  refine aw_iload_n dX8_found_7 rfl ?_
  refine aw_isub dX8_found_8 ?_
  refine aw_iret dX8_found_9 rfl rfl rfl rfl ?_
  exact ⟨rfl, rfl, rfl⟩
set_option maxRecDepth 100000 in
set_option maxHeartbeats 4000000 in
theorem c_X8_well {G : am_G} {μ : am_M} (x : Int32) : am_MA G yX8_well cX8_well 2 (some .int) 0 0 0 [.ref 234, .int x] am_SH μ (am_E (some (.int (x))) am_SH (am_up μ 234 (upd (μ 234) 3 (nI 0)))) := by
  refine am_ofK (own := RX8) (nm := "well") (L := [some (.ref 234), some (.int (x))]) rfl rfl (by decide +kernel) (Nat.le_of_ble_eq_true rfl) rfl ?_
  refine aw_aload_n dX8_well_0 rfl ?_
  refine aw_iconst (v := nI 0) dX8_well_1 rfl ?_
  refine aw_pi dX8_well_2 pf_X8_50 rfl rfl sh_234 (by rfl) ?_
  refine aw_iload_n dX8_well_5 rfl ?_
  refine aw_iret dX8_well_6 rfl rfl rfl rfl ?_
  exact ⟨rfl, rfl, rfl⟩
set_option maxRecDepth 100000 in
set_option maxHeartbeats 4000000 in
theorem c_X8_bandOf {G : am_G} {sh : List am_S} {μ : am_M} (h : Nat) (hh : h < 2 ^ 31) : am_MA G yX8_bandOf cX8_bandOf 1 (some .int) 0 0 0 [.int (nI h)] sh μ (am_E (some (.int (nI (pBand h)))) sh μ) := by
  refine am_ofK (own := RX8) (nm := "bandOf") (L := [some (.int (nI h))]) rfl rfl (by decide +kernel) (Nat.le_of_ble_eq_true rfl) rfl ?_
  refine aw_iload_n dX8_bandOf_0 rfl ?_
  refine aw_bipush (v := nI 6) dX8_bandOf_1 rfl ?_
  refine aw_icmp_ge (tgt := 10) dX8_bandOf_3 (by decide) (fun c3 => ?_) (fun c3 => ?_)
  · rw [nI_leI (by decide) hh] at c3
    refine aw_iload_n dX8_bandOf_10 rfl ?_
    refine aw_bipush (v := nI 11) dX8_bandOf_11 rfl ?_
    refine aw_icmp_ge (tgt := 20) dX8_bandOf_13 (by decide) (fun c13 => ?_) (fun c13 => ?_)
    · rw [nI_leI (by decide) hh] at c13
      refine aw_iload_n dX8_bandOf_20 rfl ?_
      refine aw_bipush (v := nI 16) dX8_bandOf_21 rfl ?_
      refine aw_icmp_ge (tgt := 30) dX8_bandOf_23 (by decide) (fun c23 => ?_) (fun c23 => ?_)
      · rw [nI_leI (by decide) hh] at c23
        refine aw_iconst (v := nI 3) dX8_bandOf_30 rfl ?_
        refine aw_iret dX8_bandOf_31 rfl rfl rfl rfl ?_
        exact ⟨congrArg (fun z => some (Value.int (nI z))) (show _ = pBand h by unfold pBand; rw [if_neg (by omega)]; rw [if_neg (by omega)]; rw [if_neg (by omega)]), rfl, rfl⟩
      · rw [nI_leI (by decide) hh] at c23
        refine aw_iconst (v := nI 2) dX8_bandOf_26 rfl ?_
        refine aw_goto (tgt := 31) dX8_bandOf_27 (by decide) ?_
        refine aw_iret dX8_bandOf_31 rfl rfl rfl rfl ?_
        exact ⟨congrArg (fun z => some (Value.int (nI z))) (show _ = pBand h by unfold pBand; rw [if_neg (by omega)]; rw [if_neg (by omega)]; rw [if_pos (by omega)]), rfl, rfl⟩
    · rw [nI_leI (by decide) hh] at c13
      refine aw_iconst (v := nI 1) dX8_bandOf_16 rfl ?_
      refine aw_goto (tgt := 31) dX8_bandOf_17 (by decide) ?_
      refine aw_iret dX8_bandOf_31 rfl rfl rfl rfl ?_
      exact ⟨congrArg (fun z => some (Value.int (nI z))) (show _ = pBand h by unfold pBand; rw [if_neg (by omega)]; rw [if_pos (by omega)]), rfl, rfl⟩
  · rw [nI_leI (by decide) hh] at c3
    refine aw_iconst (v := nI 0) dX8_bandOf_6 rfl ?_
    refine aw_goto (tgt := 31) dX8_bandOf_7 (by decide) ?_
    refine aw_iret dX8_bandOf_31 rfl rfl rfl rfl ?_
    exact ⟨congrArg (fun z => some (Value.int (nI z))) (show _ = pBand h by unfold pBand; rw [if_pos (by omega)]), rfl, rfl⟩
set_option maxRecDepth 100000 in
set_option maxHeartbeats 4000000 in
theorem c_X8_liftOf {G : am_G} {sh : List am_S} {μ : am_M} (kind h : Nat) (h1 : 1 ≤ kind) (h5 : kind ≤ 5) (hh : h < 2 ^ 31) : am_MA G yX8_liftOf cX8_liftOf 2 (some .int) 0 0 0 [.int (nI kind), .int (nI h)] sh μ (am_E (some (.int (nI (pLift kind h)))) sh μ) := by
  refine am_ofK (own := RX8) (nm := "liftOf") (L := [some (.int (nI kind)), some (.int (nI h))]) rfl rfl (by decide +kernel) (Nat.le_of_ble_eq_true rfl) rfl ?_
  refine aw_iload_n dX8_liftOf_0 rfl ?_
  match kind, h1, h5 with
  | 1, _, _ =>
    refine aw_tableIn (tgt := 36) dX8_liftOf_1 (by decide) (by decide) rfl (by decide) ?_
    refine aw_iconst (v := nI 2) dX8_liftOf_36 rfl ?_
    refine aw_iret dX8_liftOf_37 rfl rfl rfl rfl ?_
    exact ⟨rfl, rfl, rfl⟩
  | 2, _, _ =>
    refine aw_tableIn (tgt := 51) dX8_liftOf_1 (by decide) (by decide) rfl (by decide) ?_
    refine aw_iconst (v := nI 1) dX8_liftOf_51 rfl ?_
    refine aw_iret dX8_liftOf_52 rfl rfl rfl rfl ?_
    exact ⟨rfl, rfl, rfl⟩
  | 3, _, _ =>
    refine aw_tableIn (tgt := 38) dX8_liftOf_1 (by decide) (by decide) rfl (by decide) ?_
    refine aw_iconst (v := nI 3) dX8_liftOf_38 rfl ?_
    refine aw_iret dX8_liftOf_39 rfl rfl rfl rfl ?_
    exact ⟨rfl, rfl, rfl⟩
  | 4, _, _ =>
    refine aw_tableIn (tgt := 51) dX8_liftOf_1 (by decide) (by decide) rfl (by decide) ?_
    refine aw_iconst (v := nI 1) dX8_liftOf_51 rfl ?_
    refine aw_iret dX8_liftOf_52 rfl rfl rfl rfl ?_
    exact ⟨rfl, rfl, rfl⟩
  | 5, _, _ =>
    refine aw_tableIn (tgt := 40) dX8_liftOf_1 (by decide) (by decide) rfl (by decide) ?_
    refine aw_iload_n dX8_liftOf_40 rfl ?_
    refine aw_iconst (v := nI 5) dX8_liftOf_41 rfl ?_
    refine aw_icmp_le (tgt := 49) dX8_liftOf_42 (by decide) (fun c42 => ?_) (fun c42 => ?_)
    · rw [nI_leI hh (by decide)] at c42
      refine aw_iconst (v := nI 1) dX8_liftOf_49 rfl ?_
      refine aw_iret dX8_liftOf_50 rfl rfl rfl rfl ?_
      exact ⟨congrArg (fun z => some (Value.int (nI z))) (show _ = (if 5 < h then 0 else 1) by rw [if_neg (by omega)]), rfl, rfl⟩
    · rw [nI_leI hh (by decide)] at c42
      refine aw_iconst (v := nI 0) dX8_liftOf_45 rfl ?_
      refine aw_goto (tgt := 50) dX8_liftOf_46 (by decide) ?_
      refine aw_iret dX8_liftOf_50 rfl rfl rfl rfl ?_
      exact ⟨congrArg (fun z => some (Value.int (nI z))) (show _ = (if 5 < h then 0 else 1) by rw [if_pos (by omega)]), rfl, rfl⟩
  | 0, h1, _ => exact absurd h1 (by omega)
  | k + 6, _, h5 => exact absurd h5 (by omega)
set_option maxRecDepth 100000 in
set_option maxHeartbeats 4000000 in
theorem l_X8_lifted {G : am_G} {sh : List am_S} {μ : am_M} (kind h n : Nat) (h1 : 1 ≤ kind) (h5 : kind ≤ 5) (hn : n < 2 ^ 31) : ∀ (r i x : Nat), i + r = n → x ≤ 20 → pLifted kind x r = pLifted kind h n → am_W (am_K G RX8 "lifted" 5 (some .int) 1 0 0 (am_E (some (.int (nI (pLifted kind h n)))) sh μ)) cX8_lifted 5 [some (.int (nI kind)), some (.int (nI h)), some (.int (nI n)), some (.int (nI x)), some (.int (nI i))] [] sh μ 0 0 := by
  intro r
  induction r with
  | zero =>
    intro i x hi hx e
    refine aw_iload dX8_lifted_5 rfl ?_
    refine aw_iload_n dX8_lifted_7 rfl ?_
    refine aw_icmp_ge (tgt := 38) dX8_lifted_8 (by decide) (fun c8 => ?_) (fun c8 => ?_)
    · refine aw_iload_n dX8_lifted_38 rfl ?_
      refine aw_iret dX8_lifted_39 rfl rfl rfl rfl ?_
      exact ⟨congrArg (fun z => some (Value.int (nI z))) e, rfl, rfl⟩
    · exact absurd (nI_le (by omega) (by omega)) c8
  | succ r ih =>
    intro i x hi hx e
    refine aw_iload dX8_lifted_5 rfl ?_
    refine aw_iload_n dX8_lifted_7 rfl ?_
    refine aw_icmp_ge (tgt := 38) dX8_lifted_8 (by decide) (fun c8 => ?_) (fun c8 => ?_)
    · exact absurd c8 (nI_ge (by omega) (by omega))
    · refine aw_iload_n dX8_lifted_11 rfl ?_
      refine aw_iload_n dX8_lifted_12 rfl ?_
      refine aw_iload_n dX8_lifted_13 rfl ?_
      refine aw_s2i dX8_lifted_14 ml_X8_150 st_X8_liftOf (c_X8_liftOf kind x h1 h5 (by omega)) (Nat.le_of_ble_eq_true rfl) (Nat.le_of_ble_eq_true rfl) (Nat.le_of_ble_eq_true rfl) (Nat.le_of_ble_eq_true rfl) (Nat.le_of_ble_eq_true rfl) ?_
      refine aw_iadd dX8_lifted_17 ?_
      refine aw_top (nI_add _ _) ?_
      refine aw_istore_n dX8_lifted_18 (Nat.le_of_ble_eq_true rfl) ?_
      refine aw_iload_n dX8_lifted_19 rfl ?_
      refine aw_bipush (v := nI 20) dX8_lifted_20 rfl ?_
      refine aw_icmp_le (tgt := 30) dX8_lifted_22 (by decide) (fun c22 => ?_) (fun c22 => ?_)
      · rw [nI_leI (by have := pLift_le3 kind x; omega) (by decide)] at c22
        have e2 : min 20 (x + pLift kind x) = x + pLift kind x := by omega
        refine aw_iload_n dX8_lifted_30 rfl ?_
        refine aw_istore_n dX8_lifted_31 (Nat.le_of_ble_eq_true rfl) ?_
        refine aw_iinc (v := nI (i + 1)) dX8_lifted_32 rfl (nI_1 i) (Nat.le_of_ble_eq_true rfl) ?_
        refine aw_goto (tgt := 5) dX8_lifted_35 (by decide) ?_
        refine ih (i + 1) _ (by omega) (by omega) ?_
        rw [← e2]
        exact e
      · rw [nI_leI (by have := pLift_le3 kind x; omega) (by decide)] at c22
        have e2 : min 20 (x + pLift kind x) = 20 := by omega
        refine aw_bipush (v := nI 20) dX8_lifted_25 rfl ?_
        refine aw_goto (tgt := 31) dX8_lifted_27 (by decide) ?_
        refine aw_istore_n dX8_lifted_31 (Nat.le_of_ble_eq_true rfl) ?_
        refine aw_iinc (v := nI (i + 1)) dX8_lifted_32 rfl (nI_1 i) (Nat.le_of_ble_eq_true rfl) ?_
        refine aw_goto (tgt := 5) dX8_lifted_35 (by decide) ?_
        refine ih (i + 1) _ (by omega) (by omega) ?_
        rw [← e2]
        exact e
set_option maxRecDepth 100000 in
set_option maxHeartbeats 4000000 in
theorem c_X8_lifted {G : am_G} {sh : List am_S} {μ : am_M} (kind h n : Nat) (h1 : 1 ≤ kind) (h5 : kind ≤ 5) (hh : h ≤ 20) (hn : n < 2 ^ 31) : am_MA G yX8_lifted cX8_lifted 5 (some .int) 1 0 0 [.int (nI kind), .int (nI h), .int (nI n)] sh μ (am_E (some (.int (nI (pLifted kind h n)))) sh μ) := by
  refine am_ofK (own := RX8) (nm := "lifted") (L := [some (.int (nI kind)), some (.int (nI h)), some (.int (nI n)), none, none]) rfl rfl (by decide +kernel) (Nat.le_of_ble_eq_true rfl) rfl ?_
  refine aw_iload_n dX8_lifted_0 rfl ?_
  refine aw_istore_n dX8_lifted_1 (Nat.le_of_ble_eq_true rfl) ?_
  refine aw_iconst (v := nI 0) dX8_lifted_2 rfl ?_
  refine aw_istore dX8_lifted_3 (Nat.le_of_ble_eq_true rfl) ?_
  exact l_X8_lifted kind h n h1 h5 hn n 0 h (by omega) hh rfl
set_option maxRecDepth 100000 in
set_option maxHeartbeats 4000000 in
theorem c_X8_sunk {G : am_G} {μ : am_M} (a : Nat) (hc : am_SH[a]? = some (100, 32, [])) (K : pK) (hK : mC μ a K) (ho : pOK K) (h : Nat) (hh : h ≤ 20) : am_MA G yX8_sunk cX8_sunk 2 (some .int) 0 0 0 [.ref a, .int (nI h)] am_SH μ (am_E (some (.int (nI (h - K 4)))) am_SH μ) := by
  have h4 := ho.2.1
  refine am_ofK (own := RX8) (nm := "sunk") (L := [some (.ref a), some (.int (nI h))]) rfl rfl (by decide +kernel) (Nat.le_of_ble_eq_true rfl) rfl ?_
  refine aw_iload_n dX8_sunk_0 rfl ?_
  refine aw_aload_n dX8_sunk_1 rfl ?_
  refine aw_iconst (v := nI 4) dX8_sunk_2 rfl ?_
  refine aw_iald (j := 4) dX8_sunk_3 hc rfl (by decide) (by decide) ?_
  refine aw_top (hK 4 (by decide)) ?_
  refine aw_icmp_le (tgt := 15) dX8_sunk_4 (by decide) (fun c4 => ?_) (fun c4 => ?_)
  · rw [nI_leI (by omega) (by omega)] at c4
    refine aw_iconst (v := nI 0) dX8_sunk_15 rfl ?_
    refine aw_iret dX8_sunk_16 rfl rfl rfl rfl ?_
    exact ⟨congrArg (fun z => some (Value.int (nI z))) (by omega), rfl, rfl⟩
  · rw [nI_leI (by omega) (by omega)] at c4
    refine aw_iload_n dX8_sunk_7 rfl ?_
    refine aw_aload_n dX8_sunk_8 rfl ?_
    refine aw_iconst (v := nI 4) dX8_sunk_9 rfl ?_
    refine aw_iald (j := 4) dX8_sunk_10 hc rfl (by decide) (by decide) ?_
    refine aw_top (hK 4 (by decide)) ?_
    refine aw_isub dX8_sunk_11 ?_
    refine aw_top (pk_sub (by omega)) ?_
    refine aw_goto (tgt := 16) dX8_sunk_12 (by decide) ?_
    refine aw_iret dX8_sunk_16 rfl rfl rfl rfl ?_
    exact ⟨rfl, rfl, rfl⟩
set_option maxRecDepth 100000 in
set_option maxHeartbeats 4000000 in
theorem c_X8_carried {G : am_G} {μ : am_M} (a : Nat) (hc : am_SH[a]? = some (100, 32, [])) (K : pK) (hK : mC μ a K) (ho : pOK K) (l h : Nat) (hl : l ≤ 9) (hh : h ≤ 20) : am_MA G yX8_carried cX8_carried 4 (some .int) 1 0 0 [.ref a, .int (nI l), .int (nI h)] am_SH μ (am_E (some (.int (nI (pCar K l h)))) am_SH μ) := by
  refine am_ofK (own := RX8) (nm := "carried") (L := [some (.ref a), some (.int (nI l)), some (.int (nI h)), none]) rfl rfl (by decide +kernel) (Nat.le_of_ble_eq_true rfl) rfl ?_
  refine aw_iload_n dX8_carried_0 rfl ?_
  refine aw_if_ne (tgt := 8) dX8_carried_1 (by decide) (fun c1 => ?_) (fun c1 => ?_)
  · rw [z_eq (by omega)] at c1
    refine aw_iload_n dX8_carried_8 rfl ?_
    refine aw_aload_n dX8_carried_9 rfl ?_
    refine aw_iconst (v := nI 0) dX8_carried_10 rfl ?_
    refine aw_iload_n dX8_carried_11 rfl ?_
    refine aw_s1i dX8_carried_12 ml_X8_154 st_X8_bandOf (c_X8_bandOf h (by omega)) (Nat.le_of_ble_eq_true rfl) (Nat.le_of_ble_eq_true rfl) (Nat.le_of_ble_eq_true rfl) (Nat.le_of_ble_eq_true rfl) (Nat.le_of_ble_eq_true rfl) ?_
    refine aw_iadd dX8_carried_15 ?_
    refine aw_top ((nI_add 0 _).trans (by rw [Nat.zero_add])) ?_
    refine aw_iald dX8_carried_16 hc rfl (by have := pBand_lt h; omega) (by decide) ?_
    refine aw_top (hK _ (by have := pBand_lt h; omega)) ?_
    refine aw_iadd dX8_carried_17 ?_
    refine aw_iconst (v := nI 2) dX8_carried_18 rfl ?_
    refine aw_isub dX8_carried_19 ?_
    refine aw_istore_n dX8_carried_20 (Nat.le_of_ble_eq_true rfl) ?_
    refine aw_iload_n dX8_carried_21 rfl ?_
    refine aw_if_ge (tgt := 29) dX8_carried_22 (by decide) (fun c22 => ?_) (fun c22 => ?_)
    · refine aw_iload_n dX8_carried_29 rfl ?_
      refine aw_bipush (v := nI 9) dX8_carried_30 rfl ?_
      refine aw_icmp_le (tgt := 40) dX8_carried_32 (by decide) (fun c32 => ?_) (fun c32 => ?_)
      · refine aw_iload_n dX8_carried_40 rfl ?_
        refine aw_iret dX8_carried_41 rfl rfl rfl rfl ?_
        refine ⟨congrArg (fun z => some (Value.int z)) ?_, rfl, rfl⟩
        have e := pn_car2 l (by omega) (K (pBand h)) (by have := ho.2.2.1 _ (pBand_lt h); omega)
        rw [if_pos c22, if_pos c32] at e
        rw [e]
        show _ = nI (pCar K l h)
        unfold pCar pW
        rw [if_neg c1]
      · refine aw_bipush (v := nI 9) dX8_carried_35 rfl ?_
        refine aw_goto (tgt := 41) dX8_carried_37 (by decide) ?_
        refine aw_iret dX8_carried_41 rfl rfl rfl rfl ?_
        refine ⟨congrArg (fun z => some (Value.int z)) ?_, rfl, rfl⟩
        have e := pn_car2 l (by omega) (K (pBand h)) (by have := ho.2.2.1 _ (pBand_lt h); omega)
        rw [if_pos c22, if_neg c32] at e
        rw [e]
        show _ = nI (pCar K l h)
        unfold pCar pW
        rw [if_neg c1]
    · refine aw_iconst (v := nI 0) dX8_carried_25 rfl ?_
      refine aw_goto (tgt := 41) dX8_carried_26 (by decide) ?_
      refine aw_iret dX8_carried_41 rfl rfl rfl rfl ?_
      refine ⟨congrArg (fun z => some (Value.int z)) ?_, rfl, rfl⟩
      have e := pn_car2 l (by omega) (K (pBand h)) (by have := ho.2.2.1 _ (pBand_lt h); omega)
      rw [if_neg c22] at e
      rw [e]
      show _ = nI (pCar K l h)
      unfold pCar pW
      rw [if_neg c1]
  · rw [z_eq (by omega)] at c1
    refine aw_iload_n dX8_carried_4 rfl ?_
    refine aw_goto (tgt := 20) dX8_carried_5 (by decide) ?_
    refine aw_istore_n dX8_carried_20 (Nat.le_of_ble_eq_true rfl) ?_
    refine aw_iload_n dX8_carried_21 rfl ?_
    refine aw_if_ge (tgt := 29) dX8_carried_22 (by decide) (fun c22 => ?_) (fun c22 => ?_)
    · refine aw_iload_n dX8_carried_29 rfl ?_
      refine aw_bipush (v := nI 9) dX8_carried_30 rfl ?_
      refine aw_icmp_le (tgt := 40) dX8_carried_32 (by decide) (fun c32 => ?_) (fun c32 => ?_)
      · refine aw_iload_n dX8_carried_40 rfl ?_
        refine aw_iret dX8_carried_41 rfl rfl rfl rfl ?_
        exact ⟨congrArg (fun z => some (Value.int (nI z))) (show l = pCar K l h by unfold pCar pW; rw [if_pos c1]; omega), rfl, rfl⟩
      · refine aw_bipush (v := nI 9) dX8_carried_35 rfl ?_
        refine aw_goto (tgt := 41) dX8_carried_37 (by decide) ?_
        refine aw_iret dX8_carried_41 rfl rfl rfl rfl ?_
        exact absurd (nI_le (by omega) (by decide)) c32
    · refine aw_iconst (v := nI 0) dX8_carried_25 rfl ?_
      refine aw_goto (tgt := 41) dX8_carried_26 (by decide) ?_
      refine aw_iret dX8_carried_41 rfl rfl rfl rfl ?_
      exact absurd (nI_pos' (by omega)) c22
