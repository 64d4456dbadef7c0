set_option maxRecDepth 100000 in
set_option maxHeartbeats 4000000 in
theorem x_X8_layFewest {G : am_G} {μ : am_M} {μ1 : am_M} (A : pA) (h : InvM μ A) (ok : okA A) (k l0 n h0 : Nat) (hk1 : 1 ≤ k) (hk5 : k ≤ 5) (hl0 : l0 ≤ 9) (hn : n ≤ 12) (hh0 : h0 ≤ 20) (t l y : Nat) (ht : t ≤ n) (hl : l ≤ 9) (hy : y ≤ 20) (hd : (∀ a b c, b ≤ 9 → c ≤ 20 → 210 * a + 21 * b + c < (210 * t + 21 * l + y) → μ1 246 (210 * a + 21 * b + c) = nI (pB A.K k l0 h0 a b c))) (hf : am_fr μ μ1 246 1) (X Y : Option Value) (kk : ∀ (μ1 : am_M) (X Y Z : Option Value), (∀ a b c, b ≤ 9 → c ≤ 20 → 210 * a + 21 * b + c < (210 * t + 21 * l + (y + 1)) → μ1 246 (210 * a + 21 * b + c) = nI (pB A.K k l0 h0 a b c)) → am_fr μ μ1 246 1 → am_W (am_K G RX8 "layFewest" 11 none 3 0 0 (am_P none am_SH (fun μ9 => (∀ a b c, b ≤ 9 → c ≤ 20 → a ≤ n → μ9 246 (210 * a + 21 * b + c) = nI (pB A.K k l0 h0 a b c)) ∧ am_fr μ μ9 246 1))) cX8_layFewest 22 [some (.ref 234), some (.int (nI k)), some (.int (nI l0)), some (.int (nI n)), some (.int (nI h0)), some (.int (nI t)), some (.int (nI l)), some (.int (nI (y + 1))), X, Y, Z] [] am_SH μ1 0 0) : am_W (am_K G RX8 "layFewest" 11 none 3 0 0 (am_P none am_SH (fun μ9 => (∀ a b c, b ≤ 9 → c ≤ 20 → a ≤ n → μ9 246 (210 * a + 21 * b + c) = nI (pB A.K k l0 h0 a b c)) ∧ am_fr μ μ9 246 1))) cX8_layFewest 106 [some (.ref 234), some (.int (nI k)), some (.int (nI l0)), some (.int (nI n)), some (.int (nI h0)), some (.int (nI t)), some (.int (nI l)), some (.int (nI y)), some (.int (nI (pB A.K k l0 h0 t l y))), X, Y] [] am_SH μ1 0 0 := by
  refine aw_aload_n dX8_layFewest_106 rfl ?_
  refine aw_gr dX8_layFewest_107 gf_X8_44 sh_234 (by rfl) ?_
  refine aw_iload dX8_layFewest_110 rfl ?_
  refine aw_iload dX8_layFewest_112 rfl ?_
  refine aw_iload dX8_layFewest_114 rfl ?_
  refine aw_s3i dX8_layFewest_116 ml_X8_217 st_X8_cell (c_X8_cell t l y) (Nat.le_of_ble_eq_true rfl) (Nat.le_of_ble_eq_true rfl) (Nat.le_of_ble_eq_true rfl) (Nat.le_of_ble_eq_true rfl) (Nat.le_of_ble_eq_true rfl) ?_
  refine aw_iload dX8_layFewest_119 rfl ?_
  refine aw_iast dX8_layFewest_121 sh_246 rfl (by omega) (by decide) ?_
  refine aw_iinc (v := nI (y + 1)) dX8_layFewest_122 rfl (nI_1 y) (Nat.le_of_ble_eq_true rfl) ?_
  refine aw_goto (tgt := 22) dX8_layFewest_125 (by decide) ?_
  refine kk _ _ _ _ (fun a b c hb hc hlt => ?_) (hf.up (by omega) (by omega))
  rw [am_ups]
  by_cases e : 210 * a + 21 * b + c = 210 * t + 21 * l + y
  · have e1 : a = t := by omega
    have e2 : b = l := by omega
    have e3 : c = y := by omega
    subst e1 e2 e3
    rw [pk_us]
  · rw [pk_un e]; exact hd a b c hb hc (by omega)
set_option maxRecDepth 100000 in
set_option maxHeartbeats 4000000 in
theorem l4_X8_layFewest {G : am_G} {μ : am_M} {μ1 : am_M} (A : pA) (h : InvM μ A) (ok : okA A) (k l0 n h0 : Nat) (hk1 : 1 ≤ k) (hk5 : k ≤ 5) (hl0 : l0 ≤ 9) (hn : n ≤ 12) (hh0 : h0 ≤ 20) (m l y : Nat) (ht : m + 1 ≤ n) (hl : l ≤ 9) (hy : y ≤ 20) (hd : (∀ a b c, b ≤ 9 → c ≤ 20 → 210 * a + 21 * b + c < (210 * (m + 1) + 21 * l + y) → μ1 246 (210 * a + 21 * b + c) = nI (pB A.K k l0 h0 a b c))) (hf : am_fr μ μ1 246 1) (kk : ∀ (μ1 : am_M) (X Y Z : Option Value), (∀ a b c, b ≤ 9 → c ≤ 20 → 210 * a + 21 * b + c < (210 * (m + 1) + 21 * l + (y + 1)) → μ1 246 (210 * a + 21 * b + c) = nI (pB A.K k l0 h0 a b c)) → am_fr μ μ1 246 1 → am_W (am_K G RX8 "layFewest" 11 none 3 0 0 (am_P none am_SH (fun μ9 => (∀ a b c, b ≤ 9 → c ≤ 20 → a ≤ n → μ9 246 (210 * a + 21 * b + c) = nI (pB A.K k l0 h0 a b c)) ∧ am_fr μ μ9 246 1))) cX8_layFewest 22 [some (.ref 234), some (.int (nI k)), some (.int (nI l0)), some (.int (nI n)), some (.int (nI h0)), some (.int (nI (m + 1))), some (.int (nI l)), some (.int (nI (y + 1))), X, Y, Z] [] am_SH μ1 0 0) : ∀ (r c : Nat) (X : Option Value), c + r = 4 → am_W (am_K G RX8 "layFewest" 11 none 3 0 0 (am_P none am_SH (fun μ9 => (∀ a b c, b ≤ 9 → c ≤ 20 → a ≤ n → μ9 246 (210 * a + 21 * b + c) = nI (pB A.K k l0 h0 a b c)) ∧ am_fr μ μ9 246 1))) cX8_layFewest 58 [some (.ref 234), some (.int (nI k)), some (.int (nI l0)), some (.int (nI n)), some (.int (nI h0)), some (.int (nI (m + 1))), some (.int (nI l)), some (.int (nI y)), some (.int (nI (pBc A.K k (pB A.K k l0 h0 m) l y c))), some (.int (nI c)), X] [] am_SH μ1 0 0 := by
  intro r
  induction r with
  | zero =>
    intro c X hc
    have e : c = 4 := by omega
    subst e
    refine aw_iload dX8_layFewest_58 rfl ?_
    refine aw_iconst (v := nI 4) dX8_layFewest_60 rfl ?_
    refine aw_icmp_ge (tgt := 106) dX8_layFewest_61 (by decide) (fun c61 => ?_) (fun c61 => ?_)
    · exact x_X8_layFewest A h ok k l0 n h0 hk1 hk5 hl0 hn hh0 (m + 1) l y ht hl hy hd hf _ _ kk
    · exact absurd (nI_le (by omega) (by omega)) c61
  | succ r ih =>
    intro c X hc
    refine aw_iload dX8_layFewest_58 rfl ?_
    refine aw_iconst (v := nI 4) dX8_layFewest_60 rfl ?_
    refine aw_icmp_ge (tgt := 106) dX8_layFewest_61 (by decide) (fun c61 => ?_) (fun c61 => ?_)
    · exact absurd c61 (nI_ge (by omega) (by omega))
    · refine aw_iload dX8_layFewest_64 rfl ?_
      refine aw_if_le (tgt := 106) dX8_layFewest_66 (by decide) (fun c66 => ?_) (fun c66 => ?_)
      · rw [z_le (by omega)] at c66
        omega
      · refine aw_aload_n dX8_layFewest_69 rfl ?_
        refine aw_iload_n dX8_layFewest_70 rfl ?_
        refine aw_iload dX8_layFewest_71 rfl ?_
        refine aw_iload dX8_layFewest_73 rfl ?_
        refine aw_iload dX8_layFewest_75 rfl ?_
        refine aw_iload dX8_layFewest_77 rfl ?_
        refine aw_v5i dX8_layFewest_79 ml_X8_221 im_X8_fewestBy se_X8_fewestBy (c_X8_fewestBy A.K (h.sk.fr (hf 239 (by omega))) ok.k (pB A.K k l0 h0) k m l y c hk1 hk5 (by omega) hl hy (by omega) (fun a b d ha hb hd2 => hd a b d hb hd2 (by omega))) sh_234 (by decide) rfl rfl (Nat.le_of_ble_eq_true rfl) (Nat.le_of_ble_eq_true rfl) (Nat.le_of_ble_eq_true rfl) (Nat.le_of_ble_eq_true rfl) (Nat.le_of_ble_eq_true rfl) ?_
        have hb1 : _ ≤ 1000000 := pB_le A.K k l0 h0 m (pSt A.K k (l, y) c).1 (pSt A.K k (l, y) c).2
        have hb2 : _ ≤ 1000000 := pBc_le A.K k (pB A.K k l0 h0 m) l y c
        refine aw_istore dX8_layFewest_82 (Nat.le_of_ble_eq_true rfl) ?_
        refine aw_iload dX8_layFewest_84 rfl ?_
        refine aw_iload dX8_layFewest_86 rfl ?_
        refine aw_icmp_ge (tgt := 96) dX8_layFewest_88 (by decide) (fun c88 => ?_) (fun c88 => ?_)
        · rw [nI_leI (by omega) (by omega)] at c88
          have e1 : (pBc A.K k (pB A.K k l0 h0 m) l y (c + 1)) = (pBc A.K k (pB A.K k l0 h0 m) l y c) := by show min _ _ = _; omega
          refine aw_iload dX8_layFewest_96 rfl ?_
          refine aw_top (congrArg nI e1.symm) ?_
          refine aw_istore dX8_layFewest_98 (Nat.le_of_ble_eq_true rfl) ?_
          refine aw_iinc (v := nI (c + 1)) dX8_layFewest_100 rfl (nI_1 c) (Nat.le_of_ble_eq_true rfl) ?_
          refine aw_goto (tgt := 58) dX8_layFewest_103 (by decide) ?_
          exact ih (c + 1) _ (by omega)
        · rw [nI_leI (by omega) (by omega)] at c88
          have e1 : (pBc A.K k (pB A.K k l0 h0 m) l y (c + 1)) = c + pB A.K k l0 h0 m (pSt A.K k (l, y) c).1 (pSt A.K k (l, y) c).2 := by show min _ _ = _; omega
          refine aw_iload dX8_layFewest_91 rfl ?_
          refine aw_goto (tgt := 98) dX8_layFewest_93 (by decide) ?_
          refine aw_top (congrArg nI e1.symm) ?_
          refine aw_istore dX8_layFewest_98 (Nat.le_of_ble_eq_true rfl) ?_
          refine aw_iinc (v := nI (c + 1)) dX8_layFewest_100 rfl (nI_1 c) (Nat.le_of_ble_eq_true rfl) ?_
          refine aw_goto (tgt := 58) dX8_layFewest_103 (by decide) ?_
          exact ih (c + 1) _ (by omega)
set_option maxRecDepth 100000 in
set_option maxHeartbeats 4000000 in
theorem l3_X8_layFewest {G : am_G} {μ : am_M} (A : pA) (h : InvM μ A) (ok : okA A) (k l0 n h0 : Nat) (hk1 : 1 ≤ k) (hk5 : k ≤ 5) (hl0 : l0 ≤ 9) (hn : n ≤ 12) (hh0 : h0 ≤ 20) (t l : Nat) (ht : t ≤ n) (hl : l ≤ 9) (kk : ∀ (μ1 : am_M) (V X Y Z : Option Value), (∀ a b c, b ≤ 9 → c ≤ 20 → 210 * a + 21 * b + c < (210 * t + 21 * (l + 1)) → μ1 246 (210 * a + 21 * b + c) = nI (pB A.K k l0 h0 a b c)) → am_fr μ μ1 246 1 → am_W (am_K G RX8 "layFewest" 11 none 3 0 0 (am_P none am_SH (fun μ9 => (∀ a b c, b ≤ 9 → c ≤ 20 → a ≤ n → μ9 246 (210 * a + 21 * b + c) = nI (pB A.K k l0 h0 a b c)) ∧ am_fr μ μ9 246 1))) cX8_layFewest 12 [some (.ref 234), some (.int (nI k)), some (.int (nI l0)), some (.int (nI n)), some (.int (nI h0)), some (.int (nI t)), some (.int (nI (l + 1))), V, X, Y, Z] [] am_SH μ1 0 0) : ∀ (r y : Nat) (μ1 : am_M) (X Y Z : Option Value), y + r = 21 → (∀ a b c, b ≤ 9 → c ≤ 20 → 210 * a + 21 * b + c < (210 * t + 21 * l + y) → μ1 246 (210 * a + 21 * b + c) = nI (pB A.K k l0 h0 a b c)) → am_fr μ μ1 246 1 → am_W (am_K G RX8 "layFewest" 11 none 3 0 0 (am_P none am_SH (fun μ9 => (∀ a b c, b ≤ 9 → c ≤ 20 → a ≤ n → μ9 246 (210 * a + 21 * b + c) = nI (pB A.K k l0 h0 a b c)) ∧ am_fr μ μ9 246 1))) cX8_layFewest 22 [some (.ref 234), some (.int (nI k)), some (.int (nI l0)), some (.int (nI n)), some (.int (nI h0)), some (.int (nI t)), some (.int (nI l)), some (.int (nI y)), X, Y, Z] [] am_SH μ1 0 0 := by
  intro r
  induction r with
  | zero =>
    intro y μ1 X Y Z hy hd hf
    have e : y = 21 := by omega
    subst e
    refine aw_iload dX8_layFewest_22 rfl ?_
    refine aw_bipush (v := nI 21) dX8_layFewest_24 rfl ?_
    refine aw_icmp_ge (tgt := 128) dX8_layFewest_26 (by decide) (fun c26 => ?_) (fun c26 => ?_)
    · refine aw_iinc (v := nI (l + 1)) dX8_layFewest_128 rfl (nI_1 l) (Nat.le_of_ble_eq_true rfl) ?_
      refine aw_goto (tgt := 12) dX8_layFewest_131 (by decide) ?_
      exact kk μ1 _ _ _ _ (fun a b c hb hc hlt => hd a b c hb hc (by omega)) hf
    · exact absurd (nI_le (by omega) (by omega)) c26
  | succ r ih =>
    intro y μ1 X Y Z hy hd hf
    refine aw_iload dX8_layFewest_22 rfl ?_
    refine aw_bipush (v := nI 21) dX8_layFewest_24 rfl ?_
    refine aw_icmp_ge (tgt := 128) dX8_layFewest_26 (by decide) (fun c26 => ?_) (fun c26 => ?_)
    · exact absurd c26 (nI_ge (by omega) (by omega))
    · refine aw_iload dX8_layFewest_29 rfl ?_
      refine aw_if_gt (tgt := 47) dX8_layFewest_31 (by decide) (fun c31 => ?_) (fun c31 => ?_)
      · rw [z_gt (by omega)] at c31
        refine aw_ldc dX8_layFewest_47 kc_X8_220 ?_
        refine aw_goto (tgt := 53) dX8_layFewest_49 (by decide) ?_
        refine aw_istore dX8_layFewest_53 (Nat.le_of_ble_eq_true rfl) ?_
        refine aw_iconst (v := nI 0) dX8_layFewest_55 rfl ?_
        refine aw_istore dX8_layFewest_56 (Nat.le_of_ble_eq_true rfl) ?_
        obtain ⟨m, rfl⟩ : ∃ m, t = m + 1 := ⟨t - 1, by omega⟩
        exact l4_X8_layFewest A h ok k l0 n h0 hk1 hk5 hl0 hn hh0 m l y ht hl (by omega) hd hf (fun μ2 X Y Z g1 g2 => ih (y + 1) μ2 X Y Z (by omega) g1 g2) 4 0 _ rfl
      · rw [z_gt (by omega)] at c31
        refine aw_iload dX8_layFewest_34 rfl ?_
        refine aw_iload_n dX8_layFewest_36 rfl ?_
        refine aw_icmp_ne (tgt := 47) dX8_layFewest_37 (by decide) (fun c37 => ?_) (fun c37 => ?_)
        · rw [nI_eq (by omega) (by omega)] at c37
          refine aw_ldc dX8_layFewest_47 kc_X8_220 ?_
          refine aw_goto (tgt := 53) dX8_layFewest_49 (by decide) ?_
          refine aw_istore dX8_layFewest_53 (Nat.le_of_ble_eq_true rfl) ?_
          refine aw_iconst (v := nI 0) dX8_layFewest_55 rfl ?_
          refine aw_istore dX8_layFewest_56 (Nat.le_of_ble_eq_true rfl) ?_
          refine aw_iload dX8_layFewest_58 rfl ?_
          refine aw_iconst (v := nI 4) dX8_layFewest_60 rfl ?_
          refine aw_icmp_ge (tgt := 106) dX8_layFewest_61 (by decide) (fun c61 => ?_) (fun c61 => ?_)
          · exact absurd c61 (by decide +kernel)
          · refine aw_iload dX8_layFewest_64 rfl ?_
            refine aw_if_le (tgt := 106) dX8_layFewest_66 (by decide) (fun c66 => ?_) (fun c66 => ?_)
            · have t0 : t = 0 := by omega
              subst t0
              have eb : pB A.K k l0 h0 0 l y = 1000000 := by show (if _ then _ else _) = _; rw [if_neg (fun q => c37 q.1)]
              have g := x_X8_layFewest A h ok k l0 n h0 hk1 hk5 hl0 hn hh0 0 l y ht hl (by omega) hd hf (some (.int (nI 0))) Z (fun μ2 X Y Z g1 g2 => ih (y + 1) μ2 X Y Z (by omega) g1 g2)
              rw [eb] at g
              exact g
            · rw [z_le (by omega)] at c66
              omega
        · rw [nI_eq (by omega) (by omega)] at c37
          refine aw_iload dX8_layFewest_40 rfl ?_
          refine aw_iload dX8_layFewest_42 rfl ?_
          refine aw_icmp_ge (tgt := 52) dX8_layFewest_44 (by decide) (fun c44 => ?_) (fun c44 => ?_)
          · rw [nI_leI (by omega) (by omega)] at c44
            refine aw_iconst (v := nI 0) dX8_layFewest_52 rfl ?_
            refine aw_istore dX8_layFewest_53 (Nat.le_of_ble_eq_true rfl) ?_
            refine aw_iconst (v := nI 0) dX8_layFewest_55 rfl ?_
            refine aw_istore dX8_layFewest_56 (Nat.le_of_ble_eq_true rfl) ?_
            refine aw_iload dX8_layFewest_58 rfl ?_
            refine aw_iconst (v := nI 4) dX8_layFewest_60 rfl ?_
            refine aw_icmp_ge (tgt := 106) dX8_layFewest_61 (by decide) (fun c61 => ?_) (fun c61 => ?_)
            · exact absurd c61 (by decide +kernel)
            · refine aw_iload dX8_layFewest_64 rfl ?_
              refine aw_if_le (tgt := 106) dX8_layFewest_66 (by decide) (fun c66 => ?_) (fun c66 => ?_)
              · have t0 : t = 0 := by omega
                subst t0
                have eb : pB A.K k l0 h0 0 l y = 0 := by show (if _ then _ else _) = _; rw [if_pos ⟨c37, c44⟩]
                have g := x_X8_layFewest A h ok k l0 n h0 hk1 hk5 hl0 hn hh0 0 l y ht hl (by omega) hd hf (some (.int (nI 0))) Z (fun μ2 X Y Z g1 g2 => ih (y + 1) μ2 X Y Z (by omega) g1 g2)
                rw [eb] at g
                exact g
              · rw [z_le (by omega)] at c66
                omega
          · rw [nI_leI (by omega) (by omega)] at c44
            refine aw_ldc dX8_layFewest_47 kc_X8_220 ?_
            refine aw_goto (tgt := 53) dX8_layFewest_49 (by decide) ?_
            refine aw_istore dX8_layFewest_53 (Nat.le_of_ble_eq_true rfl) ?_
            refine aw_iconst (v := nI 0) dX8_layFewest_55 rfl ?_
            refine aw_istore dX8_layFewest_56 (Nat.le_of_ble_eq_true rfl) ?_
            refine aw_iload dX8_layFewest_58 rfl ?_
            refine aw_iconst (v := nI 4) dX8_layFewest_60 rfl ?_
            refine aw_icmp_ge (tgt := 106) dX8_layFewest_61 (by decide) (fun c61 => ?_) (fun c61 => ?_)
            · exact absurd c61 (by decide +kernel)
            · refine aw_iload dX8_layFewest_64 rfl ?_
              refine aw_if_le (tgt := 106) dX8_layFewest_66 (by decide) (fun c66 => ?_) (fun c66 => ?_)
              · have t0 : t = 0 := by omega
                subst t0
                have eb : pB A.K k l0 h0 0 l y = 1000000 := by show (if _ then _ else _) = _; rw [if_neg (fun q => c44 q.2)]
                have g := x_X8_layFewest A h ok k l0 n h0 hk1 hk5 hl0 hn hh0 0 l y ht hl (by omega) hd hf (some (.int (nI 0))) Z (fun μ2 X Y Z g1 g2 => ih (y + 1) μ2 X Y Z (by omega) g1 g2)
                rw [eb] at g
                exact g
              · rw [z_le (by omega)] at c66
                omega
set_option maxRecDepth 100000 in
set_option maxHeartbeats 4000000 in
theorem l2_X8_layFewest {G : am_G} {μ : am_M} (A : pA) (h : InvM μ A) (ok : okA A) (k l0 n h0 : Nat) (hk1 : 1 ≤ k) (hk5 : k ≤ 5) (hl0 : l0 ≤ 9) (hn : n ≤ 12) (hh0 : h0 ≤ 20) (t : Nat) (ht : t ≤ n) (kk : ∀ (μ1 : am_M) (U V X Y Z : Option Value), (∀ a b c, b ≤ 9 → c ≤ 20 → 210 * a + 21 * b + c < (210 * (t + 1)) → μ1 246 (210 * a + 21 * b + c) = nI (pB A.K k l0 h0 a b c)) → am_fr μ μ1 246 1 → am_W (am_K G RX8 "layFewest" 11 none 3 0 0 (am_P none am_SH (fun μ9 => (∀ a b c, b ≤ 9 → c ≤ 20 → a ≤ n → μ9 246 (210 * a + 21 * b + c) = nI (pB A.K k l0 h0 a b c)) ∧ am_fr μ μ9 246 1))) cX8_layFewest 3 [some (.ref 234), some (.int (nI k)), some (.int (nI l0)), some (.int (nI n)), some (.int (nI h0)), some (.int (nI (t + 1))), U, V, X, Y, Z] [] am_SH μ1 0 0) : ∀ (r l : Nat) (μ1 : am_M) (V X Y Z : Option Value), l + r = 10 → (∀ a b c, b ≤ 9 → c ≤ 20 → 210 * a + 21 * b + c < (210 * t + 21 * l) → μ1 246 (210 * a + 21 * b + c) = nI (pB A.K k l0 h0 a b c)) → am_fr μ μ1 246 1 → am_W (am_K G RX8 "layFewest" 11 none 3 0 0 (am_P none am_SH (fun μ9 => (∀ a b c, b ≤ 9 → c ≤ 20 → a ≤ n → μ9 246 (210 * a + 21 * b + c) = nI (pB A.K k l0 h0 a b c)) ∧ am_fr μ μ9 246 1))) cX8_layFewest 12 [some (.ref 234), some (.int (nI k)), some (.int (nI l0)), some (.int (nI n)), some (.int (nI h0)), some (.int (nI t)), some (.int (nI l)), V, X, Y, Z] [] am_SH μ1 0 0 := by
  intro r
  induction r with
  | zero =>
    intro l μ1 V X Y Z hl hd hf
    have e : l = 10 := by omega
    subst e
    refine aw_iload dX8_layFewest_12 rfl ?_
    refine aw_bipush (v := nI 10) dX8_layFewest_14 rfl ?_
    refine aw_icmp_ge (tgt := 134) dX8_layFewest_16 (by decide) (fun c16 => ?_) (fun c16 => ?_)
    · refine aw_iinc (v := nI (t + 1)) dX8_layFewest_134 rfl (nI_1 t) (Nat.le_of_ble_eq_true rfl) ?_
      refine aw_goto (tgt := 3) dX8_layFewest_137 (by decide) ?_
      exact kk μ1 _ _ _ _ _ (fun a b c hb hc hlt => hd a b c hb hc (by omega)) hf
    · exact absurd (nI_le (by omega) (by omega)) c16
  | succ r ih =>
    intro l μ1 V X Y Z hl hd hf
    refine aw_iload dX8_layFewest_12 rfl ?_
    refine aw_bipush (v := nI 10) dX8_layFewest_14 rfl ?_
    refine aw_icmp_ge (tgt := 134) dX8_layFewest_16 (by decide) (fun c16 => ?_) (fun c16 => ?_)
    · exact absurd c16 (nI_ge (by omega) (by omega))
    · refine aw_iconst (v := nI 0) dX8_layFewest_19 rfl ?_
      refine aw_istore dX8_layFewest_20 (Nat.le_of_ble_eq_true rfl) ?_
      exact l3_X8_layFewest A h ok k l0 n h0 hk1 hk5 hl0 hn hh0 t l ht (by omega) (fun μ2 V X Y Z g1 g2 => ih (l + 1) μ2 V X Y Z (by omega) g1 g2) 21 0 μ1 _ _ _ rfl (fun a b c hb hc hlt => hd a b c hb hc (by omega)) hf
set_option maxRecDepth 100000 in
set_option maxHeartbeats 4000000 in
theorem l_X8_layFewest {G : am_G} {μ : am_M} (A : pA) (h : InvM μ A) (ok : okA A) (k l0 n h0 : Nat) (hk1 : 1 ≤ k) (hk5 : k ≤ 5) (hl0 : l0 ≤ 9) (hn : n ≤ 12) (hh0 : h0 ≤ 20) : ∀ (r t : Nat) (μ1 : am_M) (U V X Y Z : Option Value), t + r = n + 1 → (∀ a b c, b ≤ 9 → c ≤ 20 → 210 * a + 21 * b + c < (210 * t) → μ1 246 (210 * a + 21 * b + c) = nI (pB A.K k l0 h0 a b c)) → am_fr μ μ1 246 1 → am_W (am_K G RX8 "layFewest" 11 none 3 0 0 (am_P none am_SH (fun μ9 => (∀ a b c, b ≤ 9 → c ≤ 20 → a ≤ n → μ9 246 (210 * a + 21 * b + c) = nI (pB A.K k l0 h0 a b c)) ∧ am_fr μ μ9 246 1))) cX8_layFewest 3 [some (.ref 234), some (.int (nI k)), some (.int (nI l0)), some (.int (nI n)), some (.int (nI h0)), some (.int (nI t)), U, V, X, Y, Z] [] am_SH μ1 0 0 := by
  intro r
  induction r with
  | zero =>
    intro t μ1 U V X Y Z ht hd hf
    refine aw_iload dX8_layFewest_3 rfl ?_
    refine aw_iload_n dX8_layFewest_5 rfl ?_
    refine aw_icmp_gt (tgt := 140) dX8_layFewest_6 (by decide) (fun c6 => ?_) (fun c6 => ?_)
    · refine aw_vret dX8_layFewest_140 rfl rfl rfl ?_
      exact ⟨rfl, rfl, fun a b c hb hc ha => hd a b c hb hc (by omega), hf⟩
    · exact absurd (nI_lt (by omega) (by omega)) c6
  | succ r ih =>
    intro t μ1 U V X Y Z ht hd hf
    refine aw_iload dX8_layFewest_3 rfl ?_
    refine aw_iload_n dX8_layFewest_5 rfl ?_
    refine aw_icmp_gt (tgt := 140) dX8_layFewest_6 (by decide) (fun c6 => ?_) (fun c6 => ?_)
    · exact absurd c6 (nI_nlt (by omega) (by omega))
    · refine aw_iconst (v := nI 0) dX8_layFewest_9 rfl ?_
      refine aw_istore dX8_layFewest_10 (Nat.le_of_ble_eq_true rfl) ?_
      exact l2_X8_layFewest A h ok k l0 n h0 hk1 hk5 hl0 hn hh0 t (by omega) (fun μ2 U V X Y Z g1 g2 => ih (t + 1) μ2 U V X Y Z (by omega) g1 g2) 10 0 μ1 _ _ _ _ rfl (fun a b c hb hc hlt => hd a b c hb hc (by omega)) hf
set_option maxRecDepth 100000 in
set_option maxHeartbeats 4000000 in
theorem c_X8_layFewest {G : am_G} {μ : am_M} (A : pA) (h : InvM μ A) (ok : okA A) (k l0 n h0 : Nat) (hk1 : 1 ≤ k) (hk5 : k ≤ 5) (hl0 : l0 ≤ 9) (hn : n ≤ 12) (hh0 : h0 ≤ 20) : am_MA G yX8_layFewest cX8_layFewest 11 none 3 0 0 [.ref 234, .int (nI k), .int (nI l0), .int (nI n), .int (nI h0)] am_SH μ (am_P none am_SH (fun μ9 => (∀ a b c, b ≤ 9 → c ≤ 20 → a ≤ n → μ9 246 (210 * a + 21 * b + c) = nI (pB A.K k l0 h0 a b c)) ∧ am_fr μ μ9 246 1)) := by
  refine am_ofK (own := RX8) (nm := "layFewest") (L := [some (.ref 234), some (.int (nI k)), some (.int (nI l0)), some (.int (nI n)), some (.int (nI h0)), none, none, none, none, none, none]) rfl rfl (by decide +kernel) (Nat.le_of_ble_eq_true rfl) rfl ?_
  refine aw_iconst (v := nI 0) dX8_layFewest_0 rfl ?_
  refine aw_istore dX8_layFewest_1 (Nat.le_of_ble_eq_true rfl) ?_
  exact l_X8_layFewest A h ok k l0 n h0 hk1 hk5 hl0 hn hh0 (n + 1) 0 μ _ _ _ _ _ (by omega) (fun a b c hb hc hlt => absurd hlt (by omega)) am_fr.rf
