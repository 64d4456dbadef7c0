/-! ===== foretold: rule ===== -/
def pAddO (K : pK) : Nat → (Nat → Nat) → Nat → Nat
  | 0, c => c
  | o + 1, c => pUp (pAddO K o c) (K (12 + o)) (pAddO K o c (K (12 + o)) + 1)
def pRl : Nat → pK → (Nat → Nat) → Nat → Nat
  | 0, _, c => c
  | r + 1, K, c => pRl r (pHour K) (pAddO (pHour K) (pHour K 5) c)
def pBs (c : Nat → Nat) : Nat → Nat
  | 0 => 0
  | n + 1 => if c (pBs c n) < c (n + 1) then n + 1 else pBs c n
theorem pBs_le (c : Nat → Nat) : ∀ n, pBs c n ≤ n
  | 0 => Nat.le_refl _
  | n + 1 => by
    unfold pBs
    have := pBs_le c n
    split <;> omega
theorem pAddO_le (K : pK) (B : Nat) : ∀ (o : Nat) (c : Nat → Nat), (∀ l, c l ≤ B) → ∀ l, pAddO K o c l ≤ B + o
  | 0, c, h, l => h l
  | o + 1, c, h, l => by
    have := pAddO_le K B o c h
    unfold pAddO pUp
    split
    · have := this (K (12 + o)); omega
    · have := this l; omega
/-- the counts of the class's stays -/
def stC (μ : am_M) (c : Nat → Nat) : Prop := ∀ l, l < 10 → μ 228 l = nI (c l)
set_option maxRecDepth 100000 in
set_option maxHeartbeats 4000000 in
theorem l3_X2_landRuled {G : am_G} {μ : am_M} {μ1 : am_M} (K : pK) (n : Nat) (hn : n ≤ 60) (c : Nat → Nat) (ec : c = pRl n K (fun _ => 0)) (hc : ∀ l, c l ≤ 1000) (hs : stC μ1 c) (hf : am_fr μ μ1 220 9) : ∀ (r i : Nat), i + r = 9 → am_W (am_K G RX2 "landRuled" 4 (some .int) 4 0 0 (am_P (some (.int (nI (pBs (pRl n K (fun _ => 0)) 9)))) am_SH (fun μ9 => stC μ9 (pRl n K (fun _ => 0)) ∧ am_fr μ μ9 220 9))) cX2_landRuled 80 [some (.ref 219), some (.int (nI n)), some (.int (nI (pBs c i))), some (.int (nI (i + 1)))] [] am_SH μ1 0 0 := by
  intro r
  induction r with
  | zero =>
    intro i hi
    refine aw_iload_n dX2_landRuled_80 rfl ?_
    refine aw_bipush (v := nI 10) dX2_landRuled_81 rfl ?_
    refine aw_icmp_ge (tgt := 109) dX2_landRuled_83 (by decide) (fun c83 => ?_) (fun c83 => ?_)
    · refine aw_iload_n dX2_landRuled_109 rfl ?_
      refine aw_iret dX2_landRuled_110 rfl rfl rfl rfl ?_
      have e9 : i = 9 := by omega
      subst e9
      subst ec
      exact ⟨rfl, rfl, hs, hf⟩
    · exact absurd (nI_le (by omega) (by omega)) c83
  | succ r ih =>
    intro i hi
    refine aw_iload_n dX2_landRuled_80 rfl ?_
    refine aw_bipush (v := nI 10) dX2_landRuled_81 rfl ?_
    refine aw_icmp_ge (tgt := 109) dX2_landRuled_83 (by decide) (fun c83 => ?_) (fun c83 => ?_)
    · exact absurd c83 (nI_ge (by omega) (by omega))
    · refine aw_aload_n dX2_landRuled_86 rfl ?_
      refine aw_gr dX2_landRuled_87 gf_X2_22 sh_219 (by rfl) ?_
      refine aw_iload_n dX2_landRuled_90 rfl ?_
      refine aw_iald dX2_landRuled_91 sh_228 rfl (by omega) (by decide) ?_
      refine aw_top (hs _ (by omega)) ?_
      refine aw_aload_n dX2_landRuled_92 rfl ?_
      refine aw_gr dX2_landRuled_93 gf_X2_22 sh_219 (by rfl) ?_
      refine aw_iload_n dX2_landRuled_96 rfl ?_
      refine aw_iald dX2_landRuled_97 sh_228 rfl (by have := pBs_le c i; omega) (by decide) ?_
      refine aw_top (hs _ (by have := pBs_le c i; omega)) ?_
      refine aw_icmp_le (tgt := 103) dX2_landRuled_98 (by decide) (fun c98 => ?_) (fun c98 => ?_)
      · rw [nI_leI (by have := hc (i + 1); omega) (by have := hc (pBs c i); omega)] at c98
        have e1 : pBs c (i + 1) = pBs c i := by show (if _ then _ else _) = _; rw [if_neg (by omega)]
        rw [← e1]
        refine aw_iinc (v := nI (i + 1 + 1)) dX2_landRuled_103 rfl (nI_1 _) (Nat.le_of_ble_eq_true rfl) ?_
        refine aw_goto (tgt := 80) dX2_landRuled_106 (by decide) ?_
        exact ih (i + 1) (by omega)
      · rw [nI_leI (by have := hc (i + 1); omega) (by have := hc (pBs c i); omega)] at c98
        have e1 : pBs c (i + 1) = i + 1 := by show (if _ then _ else _) = _; rw [if_pos (by omega)]
        refine aw_iload_n dX2_landRuled_101 rfl ?_
        refine aw_istore_n dX2_landRuled_102 (Nat.le_of_ble_eq_true rfl) ?_
        refine aw_iinc (v := nI (i + 1 + 1)) dX2_landRuled_103 rfl (nI_1 _) (Nat.le_of_ble_eq_true rfl) ?_
        refine aw_goto (tgt := 80) dX2_landRuled_106 (by decide) ?_
        have ih2 := ih (i + 1) (by omega)
        rw [e1] at ih2
        exact ih2
set_option maxRecDepth 100000 in
set_option maxHeartbeats 4000000 in
theorem l2_X2_landRuled {G : am_G} {μ : am_M} {K : pK} {n i : Nat} {L : pK} {c : Nat → Nat} (h5 : L 5 ≤ 5) (hO : pOK L) (kk : ∀ (μ1 : am_M) (X : Option Value), skyC μ1 220 L → stC μ1 (pAddO L (L 5) c) → am_fr μ μ1 220 9 → am_W (am_K G RX2 "landRuled" 4 (some .int) 4 0 0 (am_P (some (.int (nI (pBs (pRl n K (fun _ => 0)) 9)))) am_SH (fun μ9 => stC μ9 (pRl n K (fun _ => 0)) ∧ am_fr μ μ9 220 9))) cX2_landRuled 21 [some (.ref 219), some (.int (nI n)), some (.int (nI (i + 1))), X] [] am_SH μ1 0 0) : ∀ (r o : Nat) (c2 : Nat → Nat) (μ1 : am_M), o + r = L 5 → skyC μ1 220 L → stC μ1 c2 → (∀ l, c2 l ≤ 1000 + o) → am_fr μ μ1 220 9 → c2 = pAddO L o c → am_W (am_K G RX2 "landRuled" 4 (some .int) 4 0 0 (am_P (some (.int (nI (pBs (pRl n K (fun _ => 0)) 9)))) am_SH (fun μ9 => stC μ9 (pRl n K (fun _ => 0)) ∧ am_fr μ μ9 220 9))) cX2_landRuled 35 [some (.ref 219), some (.int (nI n)), some (.int (nI i)), some (.int (nI o))] [] am_SH μ1 0 0 := by
  intro r
  induction r with
  | zero =>
    intro o c2 μ1 hro hL hs hcb hf ec
    refine aw_iload_n dX2_landRuled_35 rfl ?_
    refine aw_aload_n dX2_landRuled_36 rfl ?_
    refine aw_gr dX2_landRuled_37 gf_X2_14 sh_219 (by rfl) ?_
    refine aw_gi dX2_landRuled_40 gf_X2_113 sh_sky220.1 (by rfl) ?_
    refine aw_top hL.1 ?_
    refine aw_icmp_ge (tgt := 70) dX2_landRuled_43 (by decide) (fun c43 => ?_) (fun c43 => ?_)
    · refine aw_iinc (v := nI (i + 1)) dX2_landRuled_70 rfl (nI_1 i) (Nat.le_of_ble_eq_true rfl) ?_
      refine aw_goto (tgt := 21) dX2_landRuled_73 (by decide) ?_
      have e9 : o = L 5 := by omega
      subst e9
      exact kk μ1 _ hL (ec ▸ hs) hf
    · exact absurd (nI_le (by omega) (by omega)) c43
  | succ r ih =>
    intro o c2 μ1 hro hL hs hcb hf ec
    refine aw_iload_n dX2_landRuled_35 rfl ?_
    refine aw_aload_n dX2_landRuled_36 rfl ?_
    refine aw_gr dX2_landRuled_37 gf_X2_14 sh_219 (by rfl) ?_
    refine aw_gi dX2_landRuled_40 gf_X2_113 sh_sky220.1 (by rfl) ?_
    refine aw_top hL.1 ?_
    refine aw_icmp_ge (tgt := 70) dX2_landRuled_43 (by decide) (fun c43 => ?_) (fun c43 => ?_)
    · exact absurd c43 (nI_ge (by omega) (by omega))
    · refine aw_aload_n dX2_landRuled_46 rfl ?_
      refine aw_gr dX2_landRuled_47 gf_X2_22 sh_219 (by rfl) ?_
      refine aw_aload_n dX2_landRuled_50 rfl ?_
      refine aw_gr dX2_landRuled_51 gf_X2_14 sh_219 (by rfl) ?_
      refine aw_gr dX2_landRuled_54 gf_X2_33 sh_sky220.1 (by rfl) ?_
      refine aw_iload_n dX2_landRuled_57 rfl ?_
      refine aw_iald dX2_landRuled_58 sh_sky220.2.2.2.1 rfl (by omega) (by decide) ?_
      refine aw_top (hL.2.2.2.2 o (by omega)).2.1 ?_
      refine aw_dup2 dX2_landRuled_59 rfl rfl ?_
      refine aw_iald dX2_landRuled_60 sh_228 rfl (by have := (hO.2.2.2.2 o (by omega)).2.1; omega) (by decide) ?_
      refine aw_top (hs _ (by have := (hO.2.2.2.2 o (by omega)).2.1; omega)) ?_
      refine aw_iconst (v := nI 1) dX2_landRuled_61 rfl ?_
      refine aw_iadd dX2_landRuled_62 ?_
      refine aw_top (nI_add _ _) ?_
      refine aw_iast dX2_landRuled_63 sh_228 rfl (by have := (hO.2.2.2.2 o (by omega)).2.1; omega) (by decide) ?_
      refine aw_iinc (v := nI (o + 1)) dX2_landRuled_64 rfl (nI_1 o) (Nat.le_of_ble_eq_true rfl) ?_
      refine aw_goto (tgt := 35) dX2_landRuled_67 (by decide) ?_
      refine ih (o + 1) (pUp c2 (L (12 + o)) (c2 (L (12 + o)) + 1)) _ (by omega) (hL.up (by omega)) (fun l hl => ?_) (fun l => ?_) (hf.up (by omega) (by omega)) (by subst ec; rfl)
      · rw [am_ups]
        by_cases e1 : l = L (12 + o)
        · subst e1; rw [pk_us, pUp_s]
        · rw [pk_un e1, pUp_n e1]; exact hs l hl
      · unfold pUp; split
        · have := hcb (L (12 + o)); omega
        · have := hcb l; omega
set_option maxRecDepth 100000 in
set_option maxHeartbeats 4000000 in
theorem l_X2_landRuled {G : am_G} {μ : am_M} (K : pK) (n : Nat) (hn : n ≤ 60) : ∀ (r i : Nat) (L : pK) (c : Nat → Nat) (μ1 : am_M) (X : Option Value), i + r = n → skyC μ1 220 L → pOK L → L 6 + r ≤ 1000000 → stC μ1 c → (∀ l, c l ≤ 5 * i) → am_fr μ μ1 220 9 → pRl r L c = pRl n K (fun _ => 0) → am_W (am_K G RX2 "landRuled" 4 (some .int) 4 0 0 (am_P (some (.int (nI (pBs (pRl n K (fun _ => 0)) 9)))) am_SH (fun μ9 => stC μ9 (pRl n K (fun _ => 0)) ∧ am_fr μ μ9 220 9))) cX2_landRuled 21 [some (.ref 219), some (.int (nI n)), some (.int (nI i)), X] [] am_SH μ1 0 0 := by
  intro r
  induction r with
  | zero =>
    intro i L c μ1 X hi hL hO h6 hs hcb hf e
    have e : c = pRl n K (fun _ => 0) := e
    refine aw_iload_n dX2_landRuled_21 rfl ?_
    refine aw_iload_n dX2_landRuled_22 rfl ?_
    refine aw_icmp_ge (tgt := 76) dX2_landRuled_23 (by decide) (fun c23 => ?_) (fun c23 => ?_)
    · refine aw_iconst (v := nI 0) dX2_landRuled_76 rfl ?_
      refine aw_istore_n dX2_landRuled_77 (Nat.le_of_ble_eq_true rfl) ?_
      refine aw_iconst (v := nI 1) dX2_landRuled_78 rfl ?_
      refine aw_istore_n dX2_landRuled_79 (Nat.le_of_ble_eq_true rfl) ?_
      exact l3_X2_landRuled K n hn c e (fun l => by have := hcb l; omega) hs hf 9 0 (by omega)
    · exact absurd (nI_le (by omega) (by omega)) c23
  | succ r ih =>
    intro i L c μ1 X hi hL hO h6 hs hcb hf e
    refine aw_iload_n dX2_landRuled_21 rfl ?_
    refine aw_iload_n dX2_landRuled_22 rfl ?_
    refine aw_icmp_ge (tgt := 76) dX2_landRuled_23 (by decide) (fun c23 => ?_) (fun c23 => ?_)
    · exact absurd c23 (nI_ge (by omega) (by omega))
    · refine aw_aload_n dX2_landRuled_26 rfl ?_
      refine aw_gr dX2_landRuled_27 gf_X2_14 sh_219 (by rfl) ?_
      refine aw_v0vp dX2_landRuled_30 ml_X2_52 im_X5_passHour se_X5_passHour (c_X5_passHour 220 sh_sky220 L hL hO) sh_sky220.1 (by decide) rfl rfl (Nat.le_of_ble_eq_true rfl) (Nat.le_of_ble_eq_true rfl) (Nat.le_of_ble_eq_true rfl) (Nat.le_of_ble_eq_true rfl) (Nat.le_of_ble_eq_true rfl) (fun μ2 q2 => ?_)
      refine aw_iconst (v := nI 0) dX2_landRuled_33 rfl ?_
      refine aw_istore_n dX2_landRuled_34 (Nat.le_of_ble_eq_true rfl) ?_
      have hO2 := pHour_ok hO (by omega)
      exact l2_X2_landRuled hO2.1 hO2 (fun μ3 X hL3 hs3 hf3 => ih (i + 1) (pHour L) _ μ3 X (by omega) hL3 hO2 (by rw [pHour_6]; omega) hs3 (fun l => by have := pAddO_le (pHour L) (5 * i) (pHour L 5) c hcb l; have := hO2.1; omega) hf3 e) (pHour L 5) 0 c μ2 (by omega) q2.1 (fun l hl => by rw [q2.2 228 (by omega)]; exact hs l hl) (fun l => by have := hcb l; omega) (hf.tr (q2.2.mono (by omega) (by omega))) rfl
set_option maxRecDepth 100000 in
set_option maxHeartbeats 4000000 in
theorem c_X2_landRuled {G : am_G} {μ : am_M} (K : pK) (hK : skyC μ 27 K) (ho : pOK K) (h6 : K 6 ≤ 999) (n : Nat) (hn : n ≤ 60) : am_MA G yX2_landRuled cX2_landRuled 4 (some .int) 4 0 0 [.ref 219, .int (nI n)] am_SH μ (am_P (some (.int (nI (pBs (pRl n K (fun _ => 0)) 9)))) am_SH (fun μ9 => stC μ9 (pRl n K (fun _ => 0)) ∧ am_fr μ μ9 220 9)) := by
  refine am_ofK (own := RX2) (nm := "landRuled") (L := [some (.ref 219), some (.int (nI n)), none, none]) rfl rfl (by decide +kernel) (Nat.le_of_ble_eq_true rfl) rfl ?_
  refine aw_aload_n dX2_landRuled_0 rfl ?_
  refine aw_gr dX2_landRuled_1 gf_X2_22 sh_219 (by rfl) ?_
  refine aw_iconst (v := nI 0) dX2_landRuled_4 rfl ?_
  refine aw_s2vp dX2_landRuled_5 ml_X2_64 st_J7_fill_53178 (c_J7_fill_53178 228 10 (nI 0) sh_228 (by omega)) (Nat.le_of_ble_eq_true rfl) (Nat.le_of_ble_eq_true rfl) (Nat.le_of_ble_eq_true rfl) (Nat.le_of_ble_eq_true rfl) (Nat.le_of_ble_eq_true rfl) (fun μ2 q2 => ?_)
  refine aw_aload_n dX2_landRuled_8 rfl ?_
  refine aw_gr dX2_landRuled_9 gf_X2_14 sh_219 (by rfl) ?_
  refine aw_aload_n dX2_landRuled_12 rfl ?_
  refine aw_gr dX2_landRuled_13 gf_X2_30 sh_219 (by rfl) ?_
  refine aw_v1vp dX2_landRuled_16 ml_X2_48 im_X5_become se_X5_become (c_X5_become 220 27 sh_sky220 sh_sky27 (by omega) K (hK.fr (fun b _ _ => q2.2 b (by omega))) ho.1) sh_sky220.1 (by decide) rfl rfl (Nat.le_of_ble_eq_true rfl) (Nat.le_of_ble_eq_true rfl) (Nat.le_of_ble_eq_true rfl) (Nat.le_of_ble_eq_true rfl) (Nat.le_of_ble_eq_true rfl) (fun μ3 q3 => ?_)
  refine aw_iconst (v := nI 0) dX2_landRuled_19 rfl ?_
  refine aw_istore_n dX2_landRuled_20 (Nat.le_of_ble_eq_true rfl) ?_
  exact l_X2_landRuled K n hn n 0 K (fun _ => 0) μ3 _ (by omega) q3.1 ho (by omega) (fun l hl => by rw [q3.2 228 (by omega)]; exact q2.1 l hl) (fun l => by omega) ((q2.2.mono (by omega) (by omega)).tr (q3.2.mono (by omega) (by omega))) rfl
/-! ===== foretold: lasts ===== -/
def pLh (k s h left : Nat) : Nat := if h - s = 0 ∧ 0 < left then pLifted k h 1 - s else h - s
def pLl (s h left : Nat) : Nat := if h - s = 0 ∧ 0 < left then left - 1 else left
def pLs (k s : Nat) : Nat → Nat → Nat → Nat
  | 0, _, _ => 0
  | r + 1, h, left => if pLh k s h left = 0 then 0 else pLs k s r (pLh k s h left) (pLl s h left) + 1
theorem pLs_le (k s : Nat) : ∀ r h left, pLs k s r h left ≤ r
  | 0, _, _ => Nat.le_refl _
  | r + 1, h, left => by
    unfold pLs
    split
    · omega
    · have := pLs_le k s r (pLh k s h left) (pLl s h left); omega
def pUpH (K : pK) (o files most : Nat) : Nat := if K (17 + o) = 0 then 0 else pLs (K (7 + o)) (K 4) most (K (17 + o)) files
set_option maxRecDepth 100000 in
set_option maxHeartbeats 4000000 in
theorem l_X2_hoursUp {G : am_G} {μ : am_M} (K : pK) (hK : skyC μ 27 K) (ho : pOK K) (o : Nat) (hoo : o < K 5) (files most : Nat) (hm : most ≤ 99) (hfi : files ≤ 99) : ∀ (r i h left : Nat), i + r = most → h ≤ 20 → left ≤ 99 → ¬ h = 0 → i + pLs (K (7 + o)) (K 4) r h left = pUpH K o files most → am_W (am_K G RX2 "hoursUp" 7 (some .int) 3 0 0 (am_E (some (.int (nI (pUpH K o files most)))) am_SH μ)) cX2_hoursUp 24 [some (.ref 219), some (.int (nI o)), some (.int (nI files)), some (.int (nI most)), some (.int (nI h)), some (.int (nI left)), some (.int (nI i))] [] am_SH μ 0 0 := by
  have g := hK.2.2.2.2 o hoo
  have gk := ho.2.2.2.2 o hoo
  have h5 := ho.1
  intro r
  induction r with
  | zero =>
    intro i h left hi hh hl hp e
    have e : i + 0 = pUpH K o files most := e
    refine aw_iload dX2_hoursUp_24 rfl ?_
    refine aw_iload_n dX2_hoursUp_26 rfl ?_
    refine aw_icmp_ge (tgt := 92) dX2_hoursUp_27 (by decide) (fun c27 => ?_) (fun c27 => ?_)
    · refine aw_iload_n dX2_hoursUp_92 rfl ?_
      refine aw_iret dX2_hoursUp_93 rfl rfl rfl rfl ?_
      exact ⟨congrArg (fun z => some (Value.int (nI z))) (by omega), rfl, rfl⟩
    · exact absurd (nI_le (by omega) (by omega)) c27
  | succ r ih =>
    intro i h left hi hh hl hp e
    refine aw_iload dX2_hoursUp_24 rfl ?_
    refine aw_iload_n dX2_hoursUp_26 rfl ?_
    refine aw_icmp_ge (tgt := 92) dX2_hoursUp_27 (by decide) (fun c27 => ?_) (fun c27 => ?_)
    · exact absurd c27 (nI_ge (by omega) (by omega))
    · refine aw_aload_n dX2_hoursUp_30 rfl ?_
      refine aw_gr dX2_hoursUp_31 gf_X2_30 sh_219 (by rfl) ?_
      refine aw_iload dX2_hoursUp_34 rfl ?_
      refine aw_v1i dX2_hoursUp_36 ml_X2_39 im_X5_sunk se_X5_sunk (c_X5_sunk 27 sh_sky27 K hK ho h hh) sh_sky27.1 (by decide) rfl rfl (Nat.le_of_ble_eq_true rfl) (Nat.le_of_ble_eq_true rfl) (Nat.le_of_ble_eq_true rfl) (Nat.le_of_ble_eq_true rfl) (Nat.le_of_ble_eq_true rfl) ?_
      refine aw_if_ne (tgt := 67) dX2_hoursUp_39 (by decide) (fun c39 => ?_) (fun c39 => ?_)
      · rw [z_eq (by omega)] at c39
        have eh : pLh (K (7 + o)) (K 4) h left = h - K 4 := by unfold pLh; rw [if_neg (fun q => c39 q.1)]
        have el : pLl (K 4) h left = left := by unfold pLl; rw [if_neg (fun q => c39 q.1)]
        refine aw_aload_n dX2_hoursUp_67 rfl ?_
        refine aw_gr dX2_hoursUp_68 gf_X2_30 sh_219 (by rfl) ?_
        refine aw_iload dX2_hoursUp_71 rfl ?_
        refine aw_v1i dX2_hoursUp_73 ml_X2_39 im_X5_sunk se_X5_sunk (c_X5_sunk 27 sh_sky27 K hK ho h (by omega)) sh_sky27.1 (by decide) rfl rfl (Nat.le_of_ble_eq_true rfl) (Nat.le_of_ble_eq_true rfl) (Nat.le_of_ble_eq_true rfl) (Nat.le_of_ble_eq_true rfl) (Nat.le_of_ble_eq_true rfl) ?_
        refine aw_istore dX2_hoursUp_76 (Nat.le_of_ble_eq_true rfl) ?_
        refine aw_iload dX2_hoursUp_78 rfl ?_
        refine aw_if_ne (tgt := 86) dX2_hoursUp_80 (by decide) (fun c80 => ?_) (fun c80 => ?_)
        · rw [z_eq (by omega)] at c80
          refine aw_iinc (v := nI (i + 1)) dX2_hoursUp_86 rfl (nI_1 i) (Nat.le_of_ble_eq_true rfl) ?_
          refine aw_goto (tgt := 24) dX2_hoursUp_89 (by decide) ?_
          rw [pLs, if_neg (by rw [eh]; exact c80), eh, el] at e
          exact ih (i + 1) _ left (by omega) (by omega) (by omega) c80 (by omega)
        · rw [z_eq (by omega)] at c80
          refine aw_iload dX2_hoursUp_83 rfl ?_
          refine aw_iret dX2_hoursUp_85 rfl rfl rfl rfl ?_
          rw [pLs, if_pos (by rw [eh]; exact c80)] at e
          exact ⟨congrArg (fun z => some (Value.int (nI z))) (by omega), rfl, rfl⟩
      · rw [z_eq (by omega)] at c39
        refine aw_iload dX2_hoursUp_42 rfl ?_
        refine aw_if_le (tgt := 67) dX2_hoursUp_44 (by decide) (fun c44 => ?_) (fun c44 => ?_)
        · rw [z_le (by omega)] at c44
          have eh : pLh (K (7 + o)) (K 4) h left = h - K 4 := by unfold pLh; rw [if_neg (by omega)]
          have el : pLl (K 4) h left = left := by unfold pLl; rw [if_neg (by omega)]
          refine aw_aload_n dX2_hoursUp_67 rfl ?_
          refine aw_gr dX2_hoursUp_68 gf_X2_30 sh_219 (by rfl) ?_
          refine aw_iload dX2_hoursUp_71 rfl ?_
          refine aw_v1i dX2_hoursUp_73 ml_X2_39 im_X5_sunk se_X5_sunk (c_X5_sunk 27 sh_sky27 K hK ho h (by omega)) sh_sky27.1 (by decide) rfl rfl (Nat.le_of_ble_eq_true rfl) (Nat.le_of_ble_eq_true rfl) (Nat.le_of_ble_eq_true rfl) (Nat.le_of_ble_eq_true rfl) (Nat.le_of_ble_eq_true rfl) ?_
          refine aw_istore dX2_hoursUp_76 (Nat.le_of_ble_eq_true rfl) ?_
          refine aw_iload dX2_hoursUp_78 rfl ?_
          refine aw_if_ne (tgt := 86) dX2_hoursUp_80 (by decide) (fun c80 => ?_) (fun c80 => ?_)
          · rw [z_eq (by omega)] at c80
            refine aw_iinc (v := nI (i + 1)) dX2_hoursUp_86 rfl (nI_1 i) (Nat.le_of_ble_eq_true rfl) ?_
            refine aw_goto (tgt := 24) dX2_hoursUp_89 (by decide) ?_
            rw [pLs, if_neg (by rw [eh]; exact c80), eh, el] at e
            exact ih (i + 1) _ left (by omega) (by omega) (by omega) c80 (by omega)
          · rw [z_eq (by omega)] at c80
            refine aw_iload dX2_hoursUp_83 rfl ?_
            refine aw_iret dX2_hoursUp_85 rfl rfl rfl rfl ?_
            rw [pLs, if_pos (by rw [eh]; exact c80)] at e
            exact ⟨congrArg (fun z => some (Value.int (nI z))) (by omega), rfl, rfl⟩
        · rw [z_le (by omega)] at c44
          have eh : pLh (K (7 + o)) (K 4) h left = pLifted (K (7 + o)) h 1 - K 4 := by unfold pLh; rw [if_pos (by omega)]
          have el : pLl (K 4) h left = left - 1 := by unfold pLl; rw [if_pos (by omega)]
          have hle := pLifted_le (K (7 + o)) 1 h hh
          refine aw_aload_n dX2_hoursUp_47 rfl ?_
          refine aw_gr dX2_hoursUp_48 gf_X2_30 sh_219 (by rfl) ?_
          refine aw_gr dX2_hoursUp_51 gf_X2_92 sh_sky27.1 (by rfl) ?_
          refine aw_iload_n dX2_hoursUp_54 rfl ?_
          refine aw_iald dX2_hoursUp_55 sh_sky27.2.2.1 rfl (by omega) (by decide) ?_
          refine aw_top g.1 ?_
          refine aw_iload dX2_hoursUp_56 rfl ?_
          refine aw_iconst (v := nI 1) dX2_hoursUp_58 rfl ?_
          refine aw_s3i dX2_hoursUp_59 ml_X2_95 st_X5_lifted (c_X5_lifted (K (7 + o)) h 1 gk.1.1 gk.1.2 hh (by omega)) (Nat.le_of_ble_eq_true rfl) (Nat.le_of_ble_eq_true rfl) (Nat.le_of_ble_eq_true rfl) (Nat.le_of_ble_eq_true rfl) (Nat.le_of_ble_eq_true rfl) ?_
          refine aw_istore dX2_hoursUp_62 (Nat.le_of_ble_eq_true rfl) ?_
          refine aw_iinc (v := nI (left - 1)) dX2_hoursUp_64 rfl (show nI left + Int32.ofInt (-1) = nI (left - 1) from sb_m1 (by omega)) (Nat.le_of_ble_eq_true rfl) ?_
          refine aw_aload_n dX2_hoursUp_67 rfl ?_
          refine aw_gr dX2_hoursUp_68 gf_X2_30 sh_219 (by rfl) ?_
          refine aw_iload dX2_hoursUp_71 rfl ?_
          refine aw_v1i dX2_hoursUp_73 ml_X2_39 im_X5_sunk se_X5_sunk (c_X5_sunk 27 sh_sky27 K hK ho (pLifted (K (7 + o)) h 1) (by omega)) sh_sky27.1 (by decide) rfl rfl (Nat.le_of_ble_eq_true rfl) (Nat.le_of_ble_eq_true rfl) (Nat.le_of_ble_eq_true rfl) (Nat.le_of_ble_eq_true rfl) (Nat.le_of_ble_eq_true rfl) ?_
          refine aw_istore dX2_hoursUp_76 (Nat.le_of_ble_eq_true rfl) ?_
          refine aw_iload dX2_hoursUp_78 rfl ?_
          refine aw_if_ne (tgt := 86) dX2_hoursUp_80 (by decide) (fun c80 => ?_) (fun c80 => ?_)
          · rw [z_eq (by omega)] at c80
            refine aw_iinc (v := nI (i + 1)) dX2_hoursUp_86 rfl (nI_1 i) (Nat.le_of_ble_eq_true rfl) ?_
            refine aw_goto (tgt := 24) dX2_hoursUp_89 (by decide) ?_
            rw [pLs, if_neg (by rw [eh]; exact c80), eh, el] at e
            exact ih (i + 1) _ (left - 1) (by omega) (by omega) (by omega) c80 (by omega)
          · rw [z_eq (by omega)] at c80
            refine aw_iload dX2_hoursUp_83 rfl ?_
            refine aw_iret dX2_hoursUp_85 rfl rfl rfl rfl ?_
            rw [pLs, if_pos (by rw [eh]; exact c80)] at e
            exact ⟨congrArg (fun z => some (Value.int (nI z))) (by omega), rfl, rfl⟩
set_option maxRecDepth 100000 in
set_option maxHeartbeats 4000000 in
theorem c_X2_hoursUp {G : am_G} {μ : am_M} (K : pK) (hK : skyC μ 27 K) (ho : pOK K) (o : Nat) (hoo : o < K 5) (files most : Nat) (hm : most ≤ 99) (hfi : files ≤ 99) : am_MA G yX2_hoursUp cX2_hoursUp 7 (some .int) 3 0 0 [.ref 219, .int (nI o), .int (nI files), .int (nI most)] am_SH μ (am_E (some (.int (nI (pUpH K o files most)))) am_SH μ) := by
  have g := hK.2.2.2.2 o hoo
  have gk := ho.2.2.2.2 o hoo
  have h5 := ho.1
  refine am_ofK (own := RX2) (nm := "hoursUp") (L := [some (.ref 219), some (.int (nI o)), some (.int (nI files)), some (.int (nI most)), none, none, none]) rfl rfl (by decide +kernel) (Nat.le_of_ble_eq_true rfl) rfl ?_
  refine aw_aload_n dX2_hoursUp_0 rfl ?_
  refine aw_gr dX2_hoursUp_1 gf_X2_30 sh_219 (by rfl) ?_
  refine aw_gr dX2_hoursUp_4 gf_X2_36 sh_sky27.1 (by rfl) ?_
  refine aw_iload_n dX2_hoursUp_7 rfl ?_
  refine aw_iald dX2_hoursUp_8 sh_sky27.2.2.2.2.1 rfl (by omega) (by decide) ?_
  refine aw_top g.2.2.1 ?_
  refine aw_istore dX2_hoursUp_9 (Nat.le_of_ble_eq_true rfl) ?_
  refine aw_iload_n dX2_hoursUp_11 rfl ?_
  refine aw_istore dX2_hoursUp_12 (Nat.le_of_ble_eq_true rfl) ?_
  refine aw_iload dX2_hoursUp_14 rfl ?_
  refine aw_if_ne (tgt := 21) dX2_hoursUp_16 (by decide) (fun c16 => ?_) (fun c16 => ?_)
  · rw [z_eq (by omega)] at c16
    refine aw_iconst (v := nI 0) dX2_hoursUp_21 rfl ?_
    refine aw_istore dX2_hoursUp_22 (Nat.le_of_ble_eq_true rfl) ?_
    exact l_X2_hoursUp K hK ho o hoo files most hm hfi most 0 _ files (by omega) gk.2.2.1 hfi c16 (by unfold pUpH; rw [if_neg c16]; omega)
  · rw [z_eq (by omega)] at c16
    refine aw_iconst (v := nI 0) dX2_hoursUp_19 rfl ?_
    refine aw_iret dX2_hoursUp_20 rfl rfl rfl rfl ?_
    exact ⟨congrArg (fun z => some (Value.int (nI z))) (by unfold pUpH; rw [if_pos c16]), rfl, rfl⟩
def pKp (K : pK) (o n : Nat) : Nat → Nat → Int32
  | 0, _ => -1000000
  | r + 1, f => if n ≤ pUpH K o f n then nI f else pKp K o n r (f + 1)
theorem pUpH_le (K : pK) (o f m : Nat) : pUpH K o f m ≤ m := by
  unfold pUpH
  split
  · omega
  · exact pLs_le _ _ _ _ _
set_option maxRecDepth 100000 in
set_option maxHeartbeats 4000000 in
theorem l_X2_fewestFiles {G : am_G} {μ : am_M} (K : pK) (hK : skyC μ 27 K) (ho : pOK K) (o : Nat) (hoo : o < K 5) (n : Nat) (hn : n ≤ 24) : ∀ (r f : Nat), f + r = 61 → pKp K o n r f = pKp K o n 61 0 → am_W (am_K G RX2 "fewestFiles" 4 (some .int) 4 0 0 (am_E (some (.int (pKp K o n 61 0))) am_SH μ)) cX2_fewestFiles 2 [some (.ref 219), some (.int (nI o)), some (.int (nI n)), some (.int (nI f))] [] am_SH μ 0 0 := by
  intro r
  induction r with
  | zero =>
    intro f hi e
    refine aw_iload_n dX2_fewestFiles_2 rfl ?_
    refine aw_bipush (v := nI 60) dX2_fewestFiles_3 rfl ?_
    refine aw_icmp_gt (tgt := 27) dX2_fewestFiles_5 (by decide) (fun c5 => ?_) (fun c5 => ?_)
    · refine aw_ldc dX2_fewestFiles_27 kc_X2_47 ?_
      refine aw_iret dX2_fewestFiles_29 rfl rfl rfl rfl ?_
      exact ⟨congrArg (fun z => some (Value.int z)) e, rfl, rfl⟩
    · exact absurd (nI_lt (by omega) (by omega)) c5
  | succ r ih =>
    intro f hi e
    refine aw_iload_n dX2_fewestFiles_2 rfl ?_
    refine aw_bipush (v := nI 60) dX2_fewestFiles_3 rfl ?_
    refine aw_icmp_gt (tgt := 27) dX2_fewestFiles_5 (by decide) (fun c5 => ?_) (fun c5 => ?_)
    · exact absurd c5 (nI_nlt (by omega) (by omega))
    · refine aw_aload_n dX2_fewestFiles_8 rfl ?_
      refine aw_iload_n dX2_fewestFiles_9 rfl ?_
      refine aw_iload_n dX2_fewestFiles_10 rfl ?_
      refine aw_iload_n dX2_fewestFiles_11 rfl ?_
      refine aw_v3i dX2_fewestFiles_12 ml_X2_117 im_X2_hoursUp se_X2_hoursUp (c_X2_hoursUp K hK ho o hoo f n (by omega) (by omega)) sh_219 (by decide) rfl rfl (Nat.le_of_ble_eq_true rfl) (Nat.le_of_ble_eq_true rfl) (Nat.le_of_ble_eq_true rfl) (Nat.le_of_ble_eq_true rfl) (Nat.le_of_ble_eq_true rfl) ?_
      refine aw_iload_n dX2_fewestFiles_15 rfl ?_
      refine aw_icmp_lt (tgt := 21) dX2_fewestFiles_16 (by decide) (fun c16 => ?_) (fun c16 => ?_)
      · rw [nI_ltI (by have := pUpH_le K o f n; omega) (by omega)] at c16
        rw [pKp, if_neg (by omega)] at e
        refine aw_iinc (v := nI (f + 1)) dX2_fewestFiles_21 rfl (nI_1 f) (Nat.le_of_ble_eq_true rfl) ?_
        refine aw_goto (tgt := 2) dX2_fewestFiles_24 (by decide) ?_
        exact ih (f + 1) (by omega) e
      · rw [nI_ltI (by have := pUpH_le K o f n; omega) (by omega)] at c16
        rw [pKp, if_pos (by omega)] at e
        refine aw_iload_n dX2_fewestFiles_19 rfl ?_
        refine aw_iret dX2_fewestFiles_20 rfl rfl rfl rfl ?_
        exact ⟨congrArg (fun z => some (Value.int z)) e, rfl, rfl⟩
set_option maxRecDepth 100000 in
set_option maxHeartbeats 4000000 in
theorem c_X2_fewestFiles {G : am_G} {μ : am_M} (K : pK) (hK : skyC μ 27 K) (ho : pOK K) (o : Nat) (hoo : o < K 5) (n : Nat) (hn : n ≤ 24) : am_MA G yX2_fewestFiles cX2_fewestFiles 4 (some .int) 4 0 0 [.ref 219, .int (nI o), .int (nI n)] am_SH μ (am_E (some (.int (pKp K o n 61 0))) am_SH μ) := by
  refine am_ofK (own := RX2) (nm := "fewestFiles") (L := [some (.ref 219), some (.int (nI o)), some (.int (nI n)), none]) rfl rfl (by decide +kernel) (Nat.le_of_ble_eq_true rfl) rfl ?_
  refine aw_iconst (v := nI 0) dX2_fewestFiles_0 rfl ?_
  refine aw_istore_n dX2_fewestFiles_1 (Nat.le_of_ble_eq_true rfl) ?_
  exact l_X2_fewestFiles K hK ho o hoo n hn 61 0 (by omega) rfl
