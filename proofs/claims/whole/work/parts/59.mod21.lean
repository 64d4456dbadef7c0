set_option maxRecDepth 100000 in
set_option maxHeartbeats 4000000 in
theorem x_X8_layFewest {G : am_G} {μ : am_M} {μ1 : am_M} (A : pA) (h : InvM μ A) (ok : okA A) (k l0 n h0 : Nat) (hk1 : 1 ≤ k) (hk5 : k ≤ 5) (hl0 : l0 ≤ 9) (hn : n ≤ 12) (hh0 : h0 ≤ 20) (t l y : Nat) (ht : t ≤ n) (hl : l ≤ 9) (hy : y ≤ 20) (hd : (∀ a b c, b ≤ 9 → c ≤ 20 → 210 * a + 21 * b + c < (210 * t + 21 * l + y) → μ1 246 (210 * a + 21 * b + c) = nI (pB A.K k l0 h0 a b c))) (hf : am_fr μ μ1 246 1) (X Y : Option Value) (kk : ∀ (μ1 : am_M) (X Y Z : Option Value), (∀ a b c, b ≤ 9 → c ≤ 20 → 210 * a + 21 * b + c < (210 * t + 21 * l + (y + 1)) → μ1 246 (210 * a + 21 * b + c) = nI (pB A.K k l0 h0 a b c)) → am_fr μ μ1 246 1 → am_W (am_K G RX8 "layFewest" 11 none 3 0 0 (am_P none am_SH (fun μ9 => (∀ a b c, b ≤ 9 → c ≤ 20 → a ≤ n → μ9 246 (210 * a + 21 * b + c) = nI (pB A.K k l0 h0 a b c)) ∧ am_fr μ μ9 246 1))) cX8_layFewest 22 [some (.ref 234), some (.int (nI k)), some (.int (nI l0)), some (.int (nI n)), some (.int (nI h0)), some (.int (nI t)), some (.int (nI l)), some (.int (nI (y + 1))), X, Y, Z] [] am_SH μ1 0 0) : am_W (am_K G RX8 "layFewest" 11 none 3 0 0 (am_P none am_SH (fun μ9 => (∀ a b c, b ≤ 9 → c ≤ 20 → a ≤ n → μ9 246 (210 * a + 21 * b + c) = nI (pB A.K k l0 h0 a b c)) ∧ am_fr μ μ9 246 1))) cX8_layFewest 106 [some (.ref 234), some (.int (nI k)), some (.int (nI l0)), some (.int (nI n)), some (.int (nI h0)), some (.int (nI t)), some (.int (nI l)), some (.int (nI y)), some (.int (nI (pB A.K k l0 h0 t l y))), X, Y] [] am_SH μ1 0 0 := by
  refine aw_aload_n dX8_layFewest_106 rfl ?_
  refine aw_gr dX8_layFewest_107 gf_X8_44 sh_234 (by rfl) ?_
  refine aw_iload dX8_layFewest_110 rfl ?_
  refine aw_iload dX8_layFewest_112 rfl ?_
  refine aw_iload dX8_layFewest_114 rfl ?_
  refine aw_s3i dX8_layFewest_116 ml_X8_217 st_X8_cell (c_X8_cell t l y) (Nat.le_of_ble_eq_true rfl) (Nat.le_of_ble_eq_true rfl) (Nat.le_of_ble_eq_true rfl) (Nat.le_of_ble_eq_true rfl) (Nat.le_of_ble_eq_true rfl) ?_
  refine aw_iload dX8_layFewest_119 rfl ?_
  refine aw_iast dX8_layFewest_121 sh_246 rfl (by omega) (by decide) ?_
  refine aw_iinc (v := nI (y + 1)) dX8_layFewest_122 rfl (nI_1 y) (Nat.le_of_ble_eq_true rfl) ?_
  refine aw_goto (tgt := 22) dX8_layFewest_125 (by decide) ?_
  refine kk _ _ _ _ (fun a b c hb hc hlt => ?_) (hf.up (by omega) (by omega))
  rw [am_ups]
  by_cases e : 210 * a + 21 * b + c = 210 * t + 21 * l + y
  · have e1 : a = t := by omega
    have e2 : b = l := by omega
    have e3 : c = y := by omega
    subst e1 e2 e3
    rw [pk_us]
  · rw [pk_un e]; exact hd a b c hb hc (by omega)
