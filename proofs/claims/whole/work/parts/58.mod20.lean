/-! ===== the model's above: the table of the fewest sheets ===== -/
abbrev pFAR : Nat := 1000000
/-- of c numbers of sheets: the fewest, where G tells those of the hours behind -/
def pBc (K : pK) (k : Nat) (G : Nat → Nat → Nat) (l h : Nat) : Nat → Nat
  | 0 => pFAR
  | c + 1 => min (pBc K k G l h c) (c + G (pSt K k (l, h) c).1 (pSt K k (l, h) c).2)
def pB (K : pK) (k l0 h0 : Nat) : Nat → Nat → Nat → Nat
  | 0 => fun l h => if l = l0 ∧ h0 ≤ h then 0 else pFAR
  | m + 1 => fun l h => pBc K k (pB K k l0 h0 m) l h 4
theorem pBc_le (K : pK) (k : Nat) (G : Nat → Nat → Nat) (l h : Nat) : ∀ c, pBc K k G l h c ≤ pFAR
  | 0 => Nat.le_refl _
  | c + 1 => Nat.le_trans (Nat.min_le_left _ _) (pBc_le K k G l h c)
theorem pB_le (K : pK) (k l0 h0 : Nat) : ∀ m l h, pB K k l0 h0 m l h ≤ pFAR
  | 0, l, h => by show (if _ then _ else _) ≤ _; split <;> omega
  | m + 1, l, h => pBc_le _ _ _ _ _ 4
set_option maxRecDepth 100000 in
set_option maxHeartbeats 4000000 in
theorem c_X8_cell {G : am_G} {sh : List am_S} {μ : am_M} (a l h : Nat) : am_MA G yX8_cell cX8_cell 3 (some .int) 0 0 0 [.int (nI a), .int (nI l), .int (nI h)] sh μ (am_E (some (.int (nI (210 * a + 21 * l + h)))) sh μ) := by
  refine am_ofK (own := RX8) (nm := "cell") (L := [some (.int (nI a)), some (.int (nI l)), some (.int (nI h))]) rfl rfl (by decide +kernel) (Nat.le_of_ble_eq_true rfl) rfl ?_
  refine aw_sipush (v := nI 210) dX8_cell_0 rfl ?_
  refine aw_iload_n dX8_cell_3 rfl ?_
  refine aw_imul dX8_cell_4 ?_
  refine aw_top (pk_mul _ _) ?_
  refine aw_bipush (v := nI 21) dX8_cell_5 rfl ?_
  refine aw_iload_n dX8_cell_7 rfl ?_
  refine aw_imul dX8_cell_8 ?_
  refine aw_top (pk_mul _ _) ?_
  refine aw_iadd dX8_cell_9 ?_
  refine aw_top (nI_add _ _) ?_
  refine aw_iload_n dX8_cell_10 rfl ?_
  refine aw_iadd dX8_cell_11 ?_
  refine aw_top (nI_add _ _) ?_
  refine aw_iret dX8_cell_12 rfl rfl rfl rfl ?_
  exact ⟨rfl, rfl, rfl⟩
set_option maxRecDepth 100000 in
set_option maxHeartbeats 4000000 in
theorem c_X8_fewestBy {G : am_G} {μ : am_M} (K : pK) (hK : mC μ 239 K) (ho : pOK K) (F : Nat → Nat → Nat → Nat) (k m l h s : Nat) (hk1 : 1 ≤ k) (hk5 : k ≤ 5) (hm : m < 12) (hl : l ≤ 9) (hh : h ≤ 20) (hs : s < 4) (hF : ∀ a b c, a ≤ m → b ≤ 9 → c ≤ 20 → μ 246 (210 * a + 21 * b + c) = nI (F a b c)) : am_MA G yX8_fewestBy cX8_fewestBy 7 (some .int) 2 0 0 [.ref 234, .int (nI k), .int (nI (m + 1)), .int (nI l), .int (nI h), .int (nI s)] am_SH μ (am_E (some (.int (nI (s + F m (pSt K k (l, h) s).1 (pSt K k (l, h) s).2)))) am_SH μ) := by
  refine am_ofK (own := RX8) (nm := "fewestBy") (L := [some (.ref 234), some (.int (nI k)), some (.int (nI (m + 1))), some (.int (nI l)), some (.int (nI h)), some (.int (nI s)), none]) rfl rfl (by decide +kernel) (Nat.le_of_ble_eq_true rfl) rfl ?_
  refine aw_aload_n dX8_fewestBy_0 rfl ?_
  refine aw_gr dX8_fewestBy_1 gf_X8_22 sh_234 (by rfl) ?_
  refine aw_iload_n dX8_fewestBy_4 rfl ?_
  refine aw_iload dX8_fewestBy_5 rfl ?_
  refine aw_iload dX8_fewestBy_7 rfl ?_
  refine aw_s3i dX8_fewestBy_9 ml_X8_165 st_X8_lifted (c_X8_lifted k h s hk1 hk5 hh (by omega)) (Nat.le_of_ble_eq_true rfl) (Nat.le_of_ble_eq_true rfl) (Nat.le_of_ble_eq_true rfl) (Nat.le_of_ble_eq_true rfl) (Nat.le_of_ble_eq_true rfl) ?_
  have hl20 := pLifted_le k s h hh
  refine aw_s2i dX8_fewestBy_12 ml_X8_157 st_X8_sunk (c_X8_sunk 239 sh_239 K hK ho _ hl20) (Nat.le_of_ble_eq_true rfl) (Nat.le_of_ble_eq_true rfl) (Nat.le_of_ble_eq_true rfl) (Nat.le_of_ble_eq_true rfl) (Nat.le_of_ble_eq_true rfl) ?_
  refine aw_istore dX8_fewestBy_15 (Nat.le_of_ble_eq_true rfl) ?_
  refine aw_iload dX8_fewestBy_17 rfl ?_
  refine aw_aload_n dX8_fewestBy_19 rfl ?_
  refine aw_gr dX8_fewestBy_20 gf_X8_44 sh_234 (by rfl) ?_
  refine aw_iload_n dX8_fewestBy_23 rfl ?_
  refine aw_iconst (v := nI 1) dX8_fewestBy_24 rfl ?_
  refine aw_isub dX8_fewestBy_25 ?_
  refine aw_top (pk_sub (by omega)) ?_
  refine aw_top (show _ = nI m by rw [Nat.add_sub_cancel]) ?_
  refine aw_aload_n dX8_fewestBy_26 rfl ?_
  refine aw_gr dX8_fewestBy_27 gf_X8_22 sh_234 (by rfl) ?_
  refine aw_iload_n dX8_fewestBy_30 rfl ?_
  refine aw_iload dX8_fewestBy_31 rfl ?_
  refine aw_s3i dX8_fewestBy_33 ml_X8_161 st_X8_carried (c_X8_carried 239 sh_239 K hK ho l (pLifted k h s - K 4) hl (by omega)) (Nat.le_of_ble_eq_true rfl) (Nat.le_of_ble_eq_true rfl) (Nat.le_of_ble_eq_true rfl) (Nat.le_of_ble_eq_true rfl) (Nat.le_of_ble_eq_true rfl) ?_
  have hc9 := pCar_le K l (pLifted k h s - K 4)
  refine aw_iload dX8_fewestBy_36 rfl ?_
  refine aw_s3i dX8_fewestBy_38 ml_X8_217 st_X8_cell (c_X8_cell m (pCar K l (pLifted k h s - K 4)) (pLifted k h s - K 4)) (Nat.le_of_ble_eq_true rfl) (Nat.le_of_ble_eq_true rfl) (Nat.le_of_ble_eq_true rfl) (Nat.le_of_ble_eq_true rfl) (Nat.le_of_ble_eq_true rfl) ?_
  refine aw_iald dX8_fewestBy_41 sh_246 rfl (by omega) (by decide) ?_
  refine aw_top (show _ = nI (F m (pSt K k (l, h) s).1 (pSt K k (l, h) s).2) from hF m _ _ (by omega) hc9 (by omega)) ?_
  refine aw_iadd dX8_fewestBy_42 ?_
  refine aw_top (nI_add _ _) ?_
  refine aw_iret dX8_fewestBy_43 rfl rfl rfl rfl ?_
  exact ⟨rfl, rfl, rfl⟩
