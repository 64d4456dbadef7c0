/-! ===== foretold: winds by odds ===== -/
theorem pn_bit : ∀ t, t < 16 → ∀ b, b < 4 → ((nI t >>> (nI b &&& 31)) &&& nI 1) = nI (t / 2 ^ b % 2) := by decide +kernel
theorem pn_neg : ∀ w, w < 5 → -(nI w - nI 2) = nI (4 - w) - nI 2 := by decide +kernel
theorem pn_min {a b : Nat} (ha : a < 2 ^ 31) (hb : b < 2 ^ 31) : (if nI b < nI a then nI b else nI a) = nI (min a b) := by
  by_cases h : b < a
  · rw [if_pos (nI_lt h ha)]; congr 1; omega
  · rw [if_neg (nI_nlt (by omega) hb)]; congr 1; omega
def pCs (t p : Nat) : Nat → Nat
  | 0 => 1
  | b + 1 => pCs t p b * (if t / 2 ^ b % 2 = 1 then p else 10 - p)
def pTurn (K : pK) (t : Nat) : pK := fun j => if j < 4 then (if t / 2 ^ j % 2 = 1 then 4 - K j else K j) else K j
theorem pTurn_W {K : pK} {t h : Nat} (hW : pW K h ≤ 4) : pW (pTurn K t) h = if t / 2 ^ pBand h % 2 = 1 then 4 - pW K h else pW K h := by
  unfold pW
  by_cases h0 : h = 0
  · rw [if_pos h0, if_pos h0]; split <;> rfl
  · rw [if_neg h0, if_neg h0]
    unfold pTurn
    rw [if_pos (pBand_lt h)]
theorem pTurn_4 {K : pK} {t j : Nat} (h : 4 ≤ j) : pTurn K t j = K j := by unfold pTurn; rw [if_neg (by omega)]
def pCL (K : pK) (o l n p : Nat) : Nat → Nat
  | 0 => 0
  | t + 1 => pCL K o l n p t + (if (pL1 (pTurn K t) n (K (12 + o)) (K (17 + o))).1 = l then pCs t p 4 else 0)
theorem pCs_le (t p : Nat) (hp : p ≤ 10) : ∀ b, pCs t p b ≤ 10 ^ b
  | 0 => Nat.le_refl _
  | b + 1 => by
    unfold pCs
    rw [Nat.pow_succ]
    exact Nat.mul_le_mul (pCs_le t p hp b) (by split <;> omega)
set_option maxRecDepth 100000 in
theorem pCL_le (K : pK) (o l n p : Nat) (hp : p ≤ 10) : ∀ t, pCL K o l n p t ≤ t * 10000
  | 0 => by simp [pCL]
  | t + 1 => by
    have h1 := pCL_le K o l n p hp t
    have h2 : pCs t p 4 ≤ 10000 := pCs_le t p hp 4
    unfold pCL
    generalize pCs t p 4 = y at h2 ⊢
    generalize pCL K o l n p t = z at h1 ⊢
    split <;> omega
set_option maxRecDepth 100000 in
set_option maxHeartbeats 4000000 in
theorem l_X2_casesOf {G : am_G} {sh : List am_S} {μ : am_M} (t p : Nat) (ht : t < 16) (hp : p ≤ 10) : ∀ (r b : Nat), b + r = 4 → am_W (am_K G RX2 "casesOf" 4 (some .int) 0 0 0 (am_E (some (.int (nI (pCs t p 4)))) sh μ)) cX2_casesOf 4 [some (.int (nI t)), some (.int (nI p)), some (.int (nI (pCs t p b))), some (.int (nI b))] [] sh μ 0 0 := by
  intro r
  induction r with
  | zero =>
    intro b hi
    refine aw_iload_n dX2_casesOf_4 rfl ?_
    refine aw_iconst (v := nI 4) dX2_casesOf_5 rfl ?_
    refine aw_icmp_ge (tgt := 35) dX2_casesOf_6 (by decide) (fun c6 => ?_) (fun c6 => ?_)
    · refine aw_iload_n dX2_casesOf_35 rfl ?_
      refine aw_iret dX2_casesOf_36 rfl rfl rfl rfl ?_
      have e : b = 4 := by omega
      subst e
      exact ⟨rfl, rfl, rfl⟩
    · exact absurd (nI_le (by omega) (by omega)) c6
  | succ r ih =>
    intro b hi
    refine aw_iload_n dX2_casesOf_4 rfl ?_
    refine aw_iconst (v := nI 4) dX2_casesOf_5 rfl ?_
    refine aw_icmp_ge (tgt := 35) dX2_casesOf_6 (by decide) (fun c6 => ?_) (fun c6 => ?_)
    · exact absurd c6 (nI_ge (by omega) (by omega))
    · refine aw_iload_n dX2_casesOf_9 rfl ?_
      refine aw_iload_n dX2_casesOf_10 rfl ?_
      refine aw_iload_n dX2_casesOf_11 rfl ?_
      refine aw_ishr dX2_casesOf_12 ?_
      refine aw_iconst (v := nI 1) dX2_casesOf_13 rfl ?_
      refine aw_iand dX2_casesOf_14 ?_
      refine aw_top (pn_bit t ht b (by omega)) ?_
      refine aw_iconst (v := nI 1) dX2_casesOf_15 rfl ?_
      refine aw_icmp_ne (tgt := 23) dX2_casesOf_16 (by decide) (fun c16 => ?_) (fun c16 => ?_)
      · rw [nI_eq (by omega) (by omega)] at c16
        have e1 : pCs t p (b + 1) = pCs t p b * (10 - p) := by rw [pCs, if_neg c16]
        refine aw_bipush (v := nI 10) dX2_casesOf_23 rfl ?_
        refine aw_iload_n dX2_casesOf_25 rfl ?_
        refine aw_isub dX2_casesOf_26 ?_
        refine aw_top (pk_sub hp) ?_
        refine aw_imul dX2_casesOf_27 ?_
        refine aw_top ((pk_mul _ _).trans (congrArg nI e1.symm)) ?_
        refine aw_istore_n dX2_casesOf_28 (Nat.le_of_ble_eq_true rfl) ?_
        refine aw_iinc (v := nI (b + 1)) dX2_casesOf_29 rfl (nI_1 b) (Nat.le_of_ble_eq_true rfl) ?_
        refine aw_goto (tgt := 4) dX2_casesOf_32 (by decide) ?_
        exact ih (b + 1) (by omega)
      · rw [nI_eq (by omega) (by omega)] at c16
        have e1 : pCs t p (b + 1) = pCs t p b * p := by rw [pCs, if_pos c16]
        refine aw_iload_n dX2_casesOf_19 rfl ?_
        refine aw_goto (tgt := 27) dX2_casesOf_20 (by decide) ?_
        refine aw_imul dX2_casesOf_27 ?_
        refine aw_top ((pk_mul _ _).trans (congrArg nI e1.symm)) ?_
        refine aw_istore_n dX2_casesOf_28 (Nat.le_of_ble_eq_true rfl) ?_
        refine aw_iinc (v := nI (b + 1)) dX2_casesOf_29 rfl (nI_1 b) (Nat.le_of_ble_eq_true rfl) ?_
        refine aw_goto (tgt := 4) dX2_casesOf_32 (by decide) ?_
        exact ih (b + 1) (by omega)
set_option maxRecDepth 100000 in
set_option maxHeartbeats 4000000 in
theorem c_X2_casesOf {G : am_G} {sh : List am_S} {μ : am_M} (t p : Nat) (ht : t < 16) (hp : p ≤ 10) : am_MA G yX2_casesOf cX2_casesOf 4 (some .int) 0 0 0 [.int (nI t), .int (nI p)] sh μ (am_E (some (.int (nI (pCs t p 4)))) sh μ) := by
  refine am_ofK (own := RX2) (nm := "casesOf") (L := [some (.int (nI t)), some (.int (nI p)), none, none]) rfl rfl (by decide +kernel) (Nat.le_of_ble_eq_true rfl) rfl ?_
  refine aw_iconst (v := nI 1) dX2_casesOf_0 rfl ?_
  refine aw_istore_n dX2_casesOf_1 (Nat.le_of_ble_eq_true rfl) ?_
  refine aw_iconst (v := nI 0) dX2_casesOf_2 rfl ?_
  refine aw_istore_n dX2_casesOf_3 (Nat.le_of_ble_eq_true rfl) ?_
  exact l_X2_casesOf t p ht hp 4 0 (by omega)
set_option maxRecDepth 100000 in
set_option maxHeartbeats 4000000 in
theorem l_X2_landIfTurned {G : am_G} {μ : am_M} (K : pK) (hK : skyC μ 27 K) (ho : pOK K) (o n t : Nat) (hn : n ≤ 60) (ht : t < 16) : ∀ (r i l h : Nat) (X Y : Option Value), i + r = n → l ≤ 9 → h ≤ 20 → pL1 (pTurn K t) r l h = pL1 (pTurn K t) n (K (12 + o)) (K (17 + o)) → am_W (am_K G RX2 "landIfTurned" 9 (some .int) 3 0 0 (am_E (some (.int (nI (pL1 (pTurn K t) n (K (12 + o)) (K (17 + o))).1))) am_SH μ)) cX2_landIfTurned 25 [some (.ref 219), some (.int (nI o)), some (.int (nI n)), some (.int (nI t)), some (.int (nI l)), some (.int (nI h)), some (.int (nI i)), X, Y] [] am_SH μ 0 0 := by
  intro r
  induction r with
  | zero =>
    intro i l h X Y hi hl hh e
    refine aw_iload dX2_landIfTurned_25 rfl ?_
    refine aw_iload_n dX2_landIfTurned_27 rfl ?_
    refine aw_icmp_ge (tgt := 99) dX2_landIfTurned_28 (by decide) (fun c28 => ?_) (fun c28 => ?_)
    · refine aw_iload dX2_landIfTurned_99 rfl ?_
      refine aw_iret dX2_landIfTurned_101 rfl rfl rfl rfl ?_
      exact ⟨congrArg (fun z => some (Value.int (nI (z : Nat × Nat).1))) e, rfl, rfl⟩
    · exact absurd (nI_le (by omega) (by omega)) c28
  | succ r ih =>
    intro i l h X Y hi hl hh e
    have hW : pW K (h - K 4) ≤ 4 := by unfold pW; split; omega; exact ho.2.2.1 _ (pBand_lt _)
    refine aw_iload dX2_landIfTurned_25 rfl ?_
    refine aw_iload_n dX2_landIfTurned_27 rfl ?_
    refine aw_icmp_ge (tgt := 99) dX2_landIfTurned_28 (by decide) (fun c28 => ?_) (fun c28 => ?_)
    · exact absurd c28 (nI_ge (by omega) (by omega))
    · refine aw_aload_n dX2_landIfTurned_31 rfl ?_
      refine aw_gr dX2_landIfTurned_32 gf_X2_30 sh_219 (by rfl) ?_
      refine aw_iload dX2_landIfTurned_35 rfl ?_
      refine aw_v1i dX2_landIfTurned_37 ml_X2_39 im_X5_sunk se_X5_sunk (c_X5_sunk 27 sh_sky27 K hK ho h hh) sh_sky27.1 (by decide) rfl rfl (Nat.le_of_ble_eq_true rfl) (Nat.le_of_ble_eq_true rfl) (Nat.le_of_ble_eq_true rfl) (Nat.le_of_ble_eq_true rfl) (Nat.le_of_ble_eq_true rfl) ?_
      refine aw_istore dX2_landIfTurned_40 (Nat.le_of_ble_eq_true rfl) ?_
      refine aw_aload_n dX2_landIfTurned_42 rfl ?_
      refine aw_gr dX2_landIfTurned_43 gf_X2_30 sh_219 (by rfl) ?_
      refine aw_iload dX2_landIfTurned_46 rfl ?_
      refine aw_v1i dX2_landIfTurned_48 ml_X2_126 im_X5_driftAt se_X5_driftAt (c_X5_driftAt 27 sh_sky27 K hK ho (h - K 4) (by omega)) sh_sky27.1 (by decide) rfl rfl (Nat.le_of_ble_eq_true rfl) (Nat.le_of_ble_eq_true rfl) (Nat.le_of_ble_eq_true rfl) (Nat.le_of_ble_eq_true rfl) (Nat.le_of_ble_eq_true rfl) ?_
      refine aw_istore dX2_landIfTurned_51 (Nat.le_of_ble_eq_true rfl) ?_
      refine aw_iload_n dX2_landIfTurned_53 rfl ?_
      refine aw_iload dX2_landIfTurned_54 rfl ?_
      refine aw_s1i dX2_landIfTurned_56 ml_X2_104 st_X5_bandOf (c_X5_bandOf (h - K 4) (by omega)) (Nat.le_of_ble_eq_true rfl) (Nat.le_of_ble_eq_true rfl) (Nat.le_of_ble_eq_true rfl) (Nat.le_of_ble_eq_true rfl) (Nat.le_of_ble_eq_true rfl) ?_
      refine aw_ishr dX2_landIfTurned_59 ?_
      refine aw_iconst (v := nI 1) dX2_landIfTurned_60 rfl ?_
      refine aw_iand dX2_landIfTurned_61 ?_
      refine aw_top (pn_bit t ht _ (pBand_lt _)) ?_
      refine aw_iconst (v := nI 1) dX2_landIfTurned_62 rfl ?_
      refine aw_icmp_ne (tgt := 70) dX2_landIfTurned_63 (by decide) (fun c63 => ?_) (fun c63 => ?_)
      · rw [nI_eq (by omega) (by omega)] at c63
        refine aw_iconst (v := nI 0) dX2_landIfTurned_70 rfl ?_
        refine aw_istore dX2_landIfTurned_71 (Nat.le_of_ble_eq_true rfl) ?_
        refine aw_iload dX2_landIfTurned_73 rfl ?_
        refine aw_iload dX2_landIfTurned_75 rfl ?_
        refine aw_if_eq (tgt := 86) dX2_landIfTurned_77 (by decide) (fun c77 => ?_) (fun c77 => ?_)
        · refine aw_iload dX2_landIfTurned_86 rfl ?_
          refine aw_s2i dX2_landIfTurned_88 ml_X2_129 st_X5_moved (c_X5_moved l (pW K (h - K 4)) hl hW rfl) (Nat.le_of_ble_eq_true rfl) (Nat.le_of_ble_eq_true rfl) (Nat.le_of_ble_eq_true rfl) (Nat.le_of_ble_eq_true rfl) (Nat.le_of_ble_eq_true rfl) ?_
          refine aw_istore dX2_landIfTurned_91 (Nat.le_of_ble_eq_true rfl) ?_
          refine aw_iinc (v := nI (i + 1)) dX2_landIfTurned_93 rfl (nI_1 i) (Nat.le_of_ble_eq_true rfl) ?_
          refine aw_goto (tgt := 25) dX2_landIfTurned_96 (by decide) ?_
          refine ih (i + 1) _ _ _ _ (by omega) (Nat.min_le_left _ _) (by omega) ?_
          rw [← e]
          rw [pL1, pTurn_4 (by omega)]
          unfold pCar
          rw [pTurn_W hW, if_neg c63]
        · exact absurd (show nI 0 = 0 by decide) c77
      · rw [nI_eq (by omega) (by omega)] at c63
        refine aw_iconst (v := nI 1) dX2_landIfTurned_66 rfl ?_
        refine aw_goto (tgt := 71) dX2_landIfTurned_67 (by decide) ?_
        refine aw_istore dX2_landIfTurned_71 (Nat.le_of_ble_eq_true rfl) ?_
        refine aw_iload dX2_landIfTurned_73 rfl ?_
        refine aw_iload dX2_landIfTurned_75 rfl ?_
        refine aw_if_eq (tgt := 86) dX2_landIfTurned_77 (by decide) (fun c77 => ?_) (fun c77 => ?_)
        · exact absurd c77 (by decide)
        · refine aw_iload dX2_landIfTurned_80 rfl ?_
          refine aw_ineg dX2_landIfTurned_82 ?_
          refine aw_top (pn_neg _ (by omega)) ?_
          refine aw_goto (tgt := 88) dX2_landIfTurned_83 (by decide) ?_
          refine aw_s2i dX2_landIfTurned_88 ml_X2_129 st_X5_moved (c_X5_moved l (4 - pW K (h - K 4)) hl (by omega) rfl) (Nat.le_of_ble_eq_true rfl) (Nat.le_of_ble_eq_true rfl) (Nat.le_of_ble_eq_true rfl) (Nat.le_of_ble_eq_true rfl) (Nat.le_of_ble_eq_true rfl) ?_
          refine aw_istore dX2_landIfTurned_91 (Nat.le_of_ble_eq_true rfl) ?_
          refine aw_iinc (v := nI (i + 1)) dX2_landIfTurned_93 rfl (nI_1 i) (Nat.le_of_ble_eq_true rfl) ?_
          refine aw_goto (tgt := 25) dX2_landIfTurned_96 (by decide) ?_
          refine ih (i + 1) _ _ _ _ (by omega) (Nat.min_le_left _ _) (by omega) ?_
          rw [← e]
          rw [pL1, pTurn_4 (by omega)]
          unfold pCar
          rw [pTurn_W hW, if_pos c63]
set_option maxRecDepth 100000 in
set_option maxHeartbeats 4000000 in
theorem c_X2_landIfTurned {G : am_G} {μ : am_M} (K : pK) (hK : skyC μ 27 K) (ho : pOK K) (o : Nat) (hoo : o < K 5) (n t : Nat) (hn : n ≤ 60) (ht : t < 16) : am_MA G yX2_landIfTurned cX2_landIfTurned 9 (some .int) 3 0 0 [.ref 219, .int (nI o), .int (nI n), .int (nI t)] am_SH μ (am_E (some (.int (nI (pL1 (pTurn K t) n (K (12 + o)) (K (17 + o))).1))) am_SH μ) := by
  have g := hK.2.2.2.2 o hoo
  have gk := ho.2.2.2.2 o hoo
  have h5 := ho.1
  refine am_ofK (own := RX2) (nm := "landIfTurned") (L := [some (.ref 219), some (.int (nI o)), some (.int (nI n)), some (.int (nI t)), none, none, none, none, none]) rfl rfl (by decide +kernel) (Nat.le_of_ble_eq_true rfl) rfl ?_
  refine aw_aload_n dX2_landIfTurned_0 rfl ?_
  refine aw_gr dX2_landIfTurned_1 gf_X2_30 sh_219 (by rfl) ?_
  refine aw_gr dX2_landIfTurned_4 gf_X2_33 sh_sky27.1 (by rfl) ?_
  refine aw_iload_n dX2_landIfTurned_7 rfl ?_
  refine aw_iald dX2_landIfTurned_8 sh_sky27.2.2.2.1 rfl (by omega) (by decide) ?_
  refine aw_top g.2.1 ?_
  refine aw_istore dX2_landIfTurned_9 (Nat.le_of_ble_eq_true rfl) ?_
  refine aw_aload_n dX2_landIfTurned_11 rfl ?_
  refine aw_gr dX2_landIfTurned_12 gf_X2_30 sh_219 (by rfl) ?_
  refine aw_gr dX2_landIfTurned_15 gf_X2_36 sh_sky27.1 (by rfl) ?_
  refine aw_iload_n dX2_landIfTurned_18 rfl ?_
  refine aw_iald dX2_landIfTurned_19 sh_sky27.2.2.2.2.1 rfl (by omega) (by decide) ?_
  refine aw_top g.2.2.1 ?_
  refine aw_istore dX2_landIfTurned_20 (Nat.le_of_ble_eq_true rfl) ?_
  refine aw_iconst (v := nI 0) dX2_landIfTurned_22 rfl ?_
  refine aw_istore dX2_landIfTurned_23 (Nat.le_of_ble_eq_true rfl) ?_
  exact l_X2_landIfTurned K hK ho o n t hn ht n 0 _ _ _ _ (by omega) gk.2.1 gk.2.2.1 rfl
set_option maxRecDepth 100000 in
set_option maxHeartbeats 4000000 in
theorem l_X2_casesInLand {G : am_G} {μ : am_M} (K : pK) (hK : skyC μ 27 K) (ho : pOK K) (o : Nat) (hoo : o < K 5) (l n p : Nat) (hl : l ≤ 9) (hn : n ≤ 60) (hp : p ≤ 10) : ∀ (r t : Nat), t + r = 16 → am_W (am_K G RX2 "casesInLand" 7 (some .int) 4 0 0 (am_E (some (.int (nI (pCL K o l n p 16)))) am_SH μ)) cX2_casesInLand 6 [some (.ref 219), some (.int (nI o)), some (.int (nI l)), some (.int (nI n)), some (.int (nI p)), some (.int (nI (pCL K o l n p t))), some (.int (nI t))] [] am_SH μ 0 0 := by
  have g := hK.2.2.2.2 o hoo
  have gk := ho.2.2.2.2 o hoo
  have h5 := ho.1
  intro r
  induction r with
  | zero =>
    intro t hi
    refine aw_iload dX2_casesInLand_6 rfl ?_
    refine aw_bipush (v := nI 16) dX2_casesInLand_8 rfl ?_
    refine aw_icmp_ge (tgt := 43) dX2_casesInLand_10 (by decide) (fun c10 => ?_) (fun c10 => ?_)
    · refine aw_iload dX2_casesInLand_43 rfl ?_
      refine aw_iret dX2_casesInLand_45 rfl rfl rfl rfl ?_
      have e : t = 16 := by omega
      subst e
      exact ⟨rfl, rfl, rfl⟩
    · exact absurd (nI_le (by omega) (by omega)) c10
  | succ r ih =>
    intro t hi
    refine aw_iload dX2_casesInLand_6 rfl ?_
    refine aw_bipush (v := nI 16) dX2_casesInLand_8 rfl ?_
    refine aw_icmp_ge (tgt := 43) dX2_casesInLand_10 (by decide) (fun c10 => ?_) (fun c10 => ?_)
    · exact absurd c10 (nI_ge (by omega) (by omega))
    · refine aw_aload_n dX2_casesInLand_13 rfl ?_
      refine aw_iload_n dX2_casesInLand_14 rfl ?_
      refine aw_iload_n dX2_casesInLand_15 rfl ?_
      refine aw_iload dX2_casesInLand_16 rfl ?_
      refine aw_v3i dX2_casesInLand_18 ml_X2_120 im_X2_landIfTurned se_X2_landIfTurned (c_X2_landIfTurned K hK ho o hoo n t hn (by omega)) sh_219 (by decide) rfl rfl (Nat.le_of_ble_eq_true rfl) (Nat.le_of_ble_eq_true rfl) (Nat.le_of_ble_eq_true rfl) (Nat.le_of_ble_eq_true rfl) (Nat.le_of_ble_eq_true rfl) ?_
      refine aw_iload_n dX2_casesInLand_21 rfl ?_
      refine aw_icmp_ne (tgt := 37) dX2_casesInLand_22 (by decide) (fun c22 => ?_) (fun c22 => ?_)
      · rw [nI_eq (by have := (pL1_le (K := pTurn K t) n _ _ gk.2.1 gk.2.2.1).1; omega) (by omega)] at c22
        have e1 : pCL K o l n p (t + 1) = pCL K o l n p t := by rw [pCL, if_neg c22]; rfl
        refine aw_iinc (v := nI (t + 1)) dX2_casesInLand_37 rfl (nI_1 t) (Nat.le_of_ble_eq_true rfl) ?_
        refine aw_goto (tgt := 6) dX2_casesInLand_40 (by decide) ?_
        have ih2 := ih (t + 1) (by omega)
        rw [e1] at ih2
        exact ih2
      · rw [nI_eq (by have := (pL1_le (K := pTurn K t) n _ _ gk.2.1 gk.2.2.1).1; omega) (by omega)] at c22
        have e1 : pCL K o l n p (t + 1) = pCL K o l n p t + pCs t p 4 := by rw [pCL, if_pos c22]
        refine aw_iload dX2_casesInLand_25 rfl ?_
        refine aw_iload dX2_casesInLand_27 rfl ?_
        refine aw_iload dX2_casesInLand_29 rfl ?_
        refine aw_s2i dX2_casesInLand_31 ml_X2_123 st_X2_casesOf (c_X2_casesOf t p (by omega) hp) (Nat.le_of_ble_eq_true rfl) (Nat.le_of_ble_eq_true rfl) (Nat.le_of_ble_eq_true rfl) (Nat.le_of_ble_eq_true rfl) (Nat.le_of_ble_eq_true rfl) ?_
        refine aw_iadd dX2_casesInLand_34 ?_
        refine aw_top ((nI_add _ _).trans (congrArg nI e1.symm)) ?_
        refine aw_istore dX2_casesInLand_35 (Nat.le_of_ble_eq_true rfl) ?_
        refine aw_iinc (v := nI (t + 1)) dX2_casesInLand_37 rfl (nI_1 t) (Nat.le_of_ble_eq_true rfl) ?_
        refine aw_goto (tgt := 6) dX2_casesInLand_40 (by decide) ?_
        have ih2 := ih (t + 1) (by omega)
        exact ih2
set_option maxRecDepth 100000 in
set_option maxHeartbeats 4000000 in
theorem c_X2_casesInLand {G : am_G} {μ : am_M} (K : pK) (hK : skyC μ 27 K) (ho : pOK K) (o : Nat) (hoo : o < K 5) (l n p : Nat) (hl : l ≤ 9) (hn : n ≤ 60) (hp : p ≤ 10) : am_MA G yX2_casesInLand cX2_casesInLand 7 (some .int) 4 0 0 [.ref 219, .int (nI o), .int (nI l), .int (nI n), .int (nI p)] am_SH μ (am_E (some (.int (nI (pCL K o l n p 16)))) am_SH μ) := by
  refine am_ofK (own := RX2) (nm := "casesInLand") (L := [some (.ref 219), some (.int (nI o)), some (.int (nI l)), some (.int (nI n)), some (.int (nI p)), none, none]) rfl rfl (by decide +kernel) (Nat.le_of_ble_eq_true rfl) rfl ?_
  refine aw_iconst (v := nI 0) dX2_casesInLand_0 rfl ?_
  refine aw_istore dX2_casesInLand_1 (Nat.le_of_ble_eq_true rfl) ?_
  refine aw_iconst (v := nI 0) dX2_casesInLand_3 rfl ?_
  refine aw_istore dX2_casesInLand_4 (Nat.le_of_ble_eq_true rfl) ?_
  exact l_X2_casesInLand K hK ho o hoo l n p hl hn hp 16 0 (by omega)
def pGc : Nat → Nat → Nat → Nat
  | 0, d, _ => d
  | r + 1, d, l => if l = 0 then d else pGc r l (d % l)
theorem pGc_gcd : ∀ (k r d l : Nat), l < 2 ^ k → 2 * k + 1 ≤ r → pGc r d l = Nat.gcd d l := by
  intro k
  induction k with
  | zero =>
    intro r d l hl hr
    have : l = 0 := by simpa using hl
    subst this
    cases r with
    | zero => omega
    | succ r => rw [pGc, if_pos rfl, Nat.gcd_zero_right]
  | succ k ih =>
    intro r d l hl hr
    obtain ⟨r, rfl⟩ : ∃ q, r = q + 2 := ⟨r - 2, by omega⟩
    rw [pGc]
    split
    · rename_i h; subst h; rw [Nat.gcd_zero_right]
    · rename_i h
      rw [pGc]
      have h1 : d % l < l := Nat.mod_lt _ (by omega)
      split
      · rename_i h2
        rw [Nat.gcd_comm, Nat.gcd_rec, h2, Nat.gcd_zero_left]
      · rename_i h2
        have h3 : l % (d % l) < 2 ^ k := by
          rw [Nat.pow_succ] at hl
          have h4 : l % (d % l) < d % l := Nat.mod_lt _ (by omega)
          by_cases h5 : d % l < 2 ^ k
          · omega
          · have : l % (d % l) ≤ l - d % l := by
              rw [Nat.mod_eq_sub_mod (by omega)]
              exact Nat.mod_le _ _
            omega
        rw [ih r (d % l) (l % (d % l)) h3 (by omega)]
        rw [Nat.gcd_comm (d % l), ← Nat.gcd_rec, ← Nat.gcd_rec, Nat.gcd_comm]
set_option maxRecDepth 100000 in
set_option maxHeartbeats 4000000 in
theorem l_X2_commonDivisor {G : am_G} {sh : List am_S} {μ : am_M} {a b : Nat} : ∀ (r i d l : Nat) (X : Option Value), i + r = 100 → d < 2 ^ 31 → l < 2 ^ 31 → pGc r d l = pGc 100 a b → am_W (am_K G RX2 "commonDivisor" 6 (some .int) 0 0 0 (am_E (some (.int (nI (pGc 100 a b)))) sh μ)) cX2_commonDivisor 7 [some (.int (nI a)), some (.int (nI b)), some (.int (nI d)), some (.int (nI l)), some (.int (nI i)), X] [] sh μ 0 0 := by
  intro r
  induction r with
  | zero =>
    intro i d l X hi hd hl e
    refine aw_iload dX2_commonDivisor_7 rfl ?_
    refine aw_bipush (v := nI 100) dX2_commonDivisor_9 rfl ?_
    refine aw_icmp_ge (tgt := 34) dX2_commonDivisor_11 (by decide) (fun c11 => ?_) (fun c11 => ?_)
    · refine aw_iload_n dX2_commonDivisor_34 rfl ?_
      refine aw_iret dX2_commonDivisor_35 rfl rfl rfl rfl ?_
      exact ⟨congrArg (fun z => some (Value.int (nI z))) e, rfl, rfl⟩
    · exact absurd (nI_le (by omega) (by omega)) c11
  | succ r ih =>
    intro i d l X hi hd hl e
    refine aw_iload dX2_commonDivisor_7 rfl ?_
    refine aw_bipush (v := nI 100) dX2_commonDivisor_9 rfl ?_
    refine aw_icmp_ge (tgt := 34) dX2_commonDivisor_11 (by decide) (fun c11 => ?_) (fun c11 => ?_)
    · exact absurd c11 (nI_ge (by omega) (by omega))
    · refine aw_iload_n dX2_commonDivisor_14 rfl ?_
      refine aw_if_eq (tgt := 34) dX2_commonDivisor_15 (by decide) (fun c15 => ?_) (fun c15 => ?_)
      · rw [z_eq (by omega)] at c15
        rw [pGc, if_pos c15] at e
        refine aw_iload_n dX2_commonDivisor_34 rfl ?_
        refine aw_iret dX2_commonDivisor_35 rfl rfl rfl rfl ?_
        exact ⟨congrArg (fun z => some (Value.int (nI z))) e, rfl, rfl⟩
      · rw [z_eq (by omega)] at c15
        rw [pGc, if_neg c15] at e
        refine aw_iload_n dX2_commonDivisor_18 rfl ?_
        refine aw_iload_n dX2_commonDivisor_19 rfl ?_
        refine aw_irem dX2_commonDivisor_20 (fun q => c15 ((z_eq (by omega)).mp q)) ?_
        refine aw_top (pk_rem (by omega) (by omega) (by omega)) ?_
        refine aw_istore dX2_commonDivisor_21 (Nat.le_of_ble_eq_true rfl) ?_
        refine aw_iload_n dX2_commonDivisor_23 rfl ?_
        refine aw_istore_n dX2_commonDivisor_24 (Nat.le_of_ble_eq_true rfl) ?_
        refine aw_iload dX2_commonDivisor_25 rfl ?_
        refine aw_istore_n dX2_commonDivisor_27 (Nat.le_of_ble_eq_true rfl) ?_
        refine aw_iinc (v := nI (i + 1)) dX2_commonDivisor_28 rfl (nI_1 i) (Nat.le_of_ble_eq_true rfl) ?_
        refine aw_goto (tgt := 7) dX2_commonDivisor_31 (by decide) ?_
        exact ih (i + 1) l (d % l) _ (by omega) hl (by have := Nat.mod_lt d (show 0 < l by omega); omega) e
set_option maxRecDepth 100000 in
set_option maxHeartbeats 4000000 in
theorem c_X2_commonDivisor {G : am_G} {sh : List am_S} {μ : am_M} (a b : Nat) (ha : a < 2 ^ 31) (hb : b < 2 ^ 31) : am_MA G yX2_commonDivisor cX2_commonDivisor 6 (some .int) 0 0 0 [.int (nI a), .int (nI b)] sh μ (am_E (some (.int (nI (pGc 100 a b)))) sh μ) := by
  refine am_ofK (own := RX2) (nm := "commonDivisor") (L := [some (.int (nI a)), some (.int (nI b)), none, none, none, none]) rfl rfl (by decide +kernel) (Nat.le_of_ble_eq_true rfl) rfl ?_
  refine aw_iload_n dX2_commonDivisor_0 rfl ?_
  refine aw_istore_n dX2_commonDivisor_1 (Nat.le_of_ble_eq_true rfl) ?_
  refine aw_iload_n dX2_commonDivisor_2 rfl ?_
  refine aw_istore_n dX2_commonDivisor_3 (Nat.le_of_ble_eq_true rfl) ?_
  refine aw_iconst (v := nI 0) dX2_commonDivisor_4 rfl ?_
  refine aw_istore dX2_commonDivisor_5 (Nat.le_of_ble_eq_true rfl) ?_
  exact l_X2_commonDivisor 100 0 a b _ (by omega) ha hb rfl
/-! ===== foretold: hours by draws ===== -/
def pDx (x : Nat) : Nat := x * 16807 % 2147483647
def pDo (K : pK) (x : Nat) : Nat := pDx x % K 5
def pDs (K : pK) (x : Nat) : Nat := min (pDx x % 4) (K (22 + pDo K x))
def pDr : Nat → pK → Nat → Nat → pK × Nat
  | 0, K, _, s => (K, s)
  | r + 1, K, x, s => pDr r (pHour (pBurn K (pDo K x) (pDs K x))) (pDx x) (s + pDs K x)
theorem pBurn_lo {K : pK} {o n j : Nat} (h : j < 12) : pBurn K o n j = K j := by unfold pBurn; rw [pUp_n (by omega), pUp_n (by omega), pUp_n (by omega)]
set_option maxRecDepth 100000 in
set_option maxHeartbeats 4000000 in
theorem l_X2_sheetsByDraws {G : am_G} {μ : am_M} (K : pK) (n seed : Nat) (hn : n ≤ 60) : ∀ (r i : Nat) (L : pK) (x s : Nat) (μ1 : am_M) (X Y : Option Value), i + r = n → skyC μ1 220 L → pOK L → L 6 + r ≤ 1000000 → 0 < L 5 → x < 2147483647 → am_fr μ μ1 220 7 → pDr r L x s = pDr n K seed 0 → am_W (am_K G RX2 "sheetsByDraws" 9 (some .int) 4 0 0 (am_P (some (.int (nI (pDr n K seed 0).2))) am_SH (fun μ9 => skyC μ9 220 (pDr n K seed 0).1 ∧ pOK (pDr n K seed 0).1 ∧ am_fr μ μ9 220 7))) cX2_sheetsByDraws 20 [some (.ref 219), some (.int (nI n)), some (.int (nI seed)), some (.int (nI s)), some (.long (lN x)), none, some (.int (nI i)), X, Y] [] am_SH μ1 0 0 := by
  intro r
  induction r with
  | zero =>
    intro i L x s μ1 X Y hi hL hO h6 h5 hx hf e
    refine aw_iload dX2_sheetsByDraws_20 rfl ?_
    refine aw_iload_n dX2_sheetsByDraws_22 rfl ?_
    refine aw_icmp_ge (tgt := 113) dX2_sheetsByDraws_23 (by decide) (fun c23 => ?_) (fun c23 => ?_)
    · refine aw_iload_n dX2_sheetsByDraws_113 rfl ?_
      refine aw_iret dX2_sheetsByDraws_114 rfl rfl rfl rfl ?_
      have e : (L, s) = pDr n K seed 0 := e
      rw [← e]
      exact ⟨rfl, rfl, hL, hO, hf⟩
    · exact absurd (nI_le (by omega) (by omega)) c23
  | succ r ih =>
    intro i L x s μ1 X Y hi hL hO h6 h5 hx hf e
    have h55 := hO.1
    have hx2 : pDx x < 2147483647 := Nat.mod_lt _ (by decide)
    have hd : pDo L x < L 5 := Nat.mod_lt _ h5
    have g := hL.2.2.2.2 _ hd
    have gk := hO.2.2.2.2 _ hd
    refine aw_iload dX2_sheetsByDraws_20 rfl ?_
    refine aw_iload_n dX2_sheetsByDraws_22 rfl ?_
    refine aw_icmp_ge (tgt := 113) dX2_sheetsByDraws_23 (by decide) (fun c23 => ?_) (fun c23 => ?_)
    · exact absurd c23 (nI_ge (by omega) (by omega))
    · refine aw_aload_n dX2_sheetsByDraws_26 rfl ?_
      refine aw_gr dX2_sheetsByDraws_27 gf_X2_14 sh_219 (by rfl) ?_
      refine aw_gi dX2_sheetsByDraws_30 gf_X2_113 sh_sky220.1 (by rfl) ?_
      refine aw_top hL.1 ?_
      refine aw_if_le (tgt := 113) dX2_sheetsByDraws_33 (by decide) (fun c33 => ?_) (fun c33 => ?_)
      · rw [z_le (by omega)] at c33
        omega
      · refine aw_lload dX2_sheetsByDraws_36 rfl ?_
        refine aw_ldc2 dX2_sheetsByDraws_38 kl_X2_132 ?_
        refine aw_lmul dX2_sheetsByDraws_41 ?_
        rw [lN_mul]
        refine aw_ldc2 dX2_sheetsByDraws_42 kl_X2_134 ?_
        refine aw_lrem dX2_sheetsByDraws_45 (by decide) ?_
        rw [pk_lRem (by omega) (by omega) (by omega)]
        rw [show x * 16807 % 2147483647 = pDx x from rfl]
        refine aw_lstore dX2_sheetsByDraws_46 (Nat.le_of_ble_eq_true rfl) ?_
        refine aw_lload dX2_sheetsByDraws_48 rfl ?_
        refine aw_aload_n dX2_sheetsByDraws_50 rfl ?_
        refine aw_gr dX2_sheetsByDraws_51 gf_X2_14 sh_219 (by rfl) ?_
        refine aw_gi dX2_sheetsByDraws_54 gf_X2_113 sh_sky220.1 (by rfl) ?_
        refine aw_top hL.1 ?_
        refine aw_i2l dX2_sheetsByDraws_57 ?_
        rw [nI_l (by omega)]
        refine aw_lrem dX2_sheetsByDraws_58 (fun q => by rw [show (0 : Int64) = lN 0 from rfl, pk_lEQ (by omega) (by omega)] at q; omega) ?_
        rw [pk_lRem (by omega) (by omega) (by omega)]
        refine aw_l2i dX2_sheetsByDraws_59 ?_
        rw [lN_i]
        rw [show pDx x % L 5 = pDo L x from rfl]
        refine aw_istore dX2_sheetsByDraws_60 (Nat.le_of_ble_eq_true rfl) ?_
        refine aw_lload dX2_sheetsByDraws_62 rfl ?_
        refine aw_ldc2 dX2_sheetsByDraws_64 kl_X2_136 ?_
        refine aw_lrem dX2_sheetsByDraws_67 (by decide) ?_
        rw [pk_lRem (by omega) (by omega) (by omega)]
        refine aw_l2i dX2_sheetsByDraws_68 ?_
        rw [lN_i]
        refine aw_aload_n dX2_sheetsByDraws_69 rfl ?_
        refine aw_gr dX2_sheetsByDraws_70 gf_X2_14 sh_219 (by rfl) ?_
        refine aw_gr dX2_sheetsByDraws_73 gf_X2_83 sh_sky220.1 (by rfl) ?_
        refine aw_iload dX2_sheetsByDraws_76 rfl ?_
        refine aw_iald dX2_sheetsByDraws_78 sh_sky220.2.2.2.2.2.1 rfl (by omega) (by decide) ?_
        refine aw_top g.2.2.2.1 ?_
        refine aw_min dX2_sheetsByDraws_79 lk_X2_74 st_min iw_J9 cw_min (Nat.le_of_ble_eq_true rfl) (Nat.le_of_ble_eq_true rfl) (Nat.le_of_ble_eq_true rfl) (Nat.le_of_ble_eq_true rfl) (Nat.le_of_ble_eq_true rfl) ?_
        refine aw_top ((pn_min (by omega) (by omega)).trans (show _ = nI (pDs L x) from rfl)) ?_
        refine aw_istore dX2_sheetsByDraws_82 (Nat.le_of_ble_eq_true rfl) ?_
        refine aw_aload_n dX2_sheetsByDraws_84 rfl ?_
        refine aw_gr dX2_sheetsByDraws_85 gf_X2_14 sh_219 (by rfl) ?_
        refine aw_iload dX2_sheetsByDraws_88 rfl ?_
        refine aw_iload dX2_sheetsByDraws_90 rfl ?_
        refine aw_v2vp dX2_sheetsByDraws_92 ml_X2_138 im_X5_useSheets se_X5_useSheets (c_X5_useSheets 220 sh_sky220 L hL hO (pDo L x) (pDs L x) hd (Nat.min_le_right _ _)) sh_sky220.1 (by decide) rfl rfl (Nat.le_of_ble_eq_true rfl) (Nat.le_of_ble_eq_true rfl) (Nat.le_of_ble_eq_true rfl) (Nat.le_of_ble_eq_true rfl) (Nat.le_of_ble_eq_true rfl) (fun μ2 q2 => ?_)
        refine aw_iload_n dX2_sheetsByDraws_95 rfl ?_
        refine aw_iload dX2_sheetsByDraws_96 rfl ?_
        refine aw_iadd dX2_sheetsByDraws_98 ?_
        refine aw_top (nI_add _ _) ?_
        refine aw_istore_n dX2_sheetsByDraws_99 (Nat.le_of_ble_eq_true rfl) ?_
        refine aw_aload_n dX2_sheetsByDraws_100 rfl ?_
        refine aw_gr dX2_sheetsByDraws_101 gf_X2_14 sh_219 (by rfl) ?_
        refine aw_v0vp dX2_sheetsByDraws_104 ml_X2_52 im_X5_passHour se_X5_passHour (c_X5_passHour 220 sh_sky220 _ q2.1 (pBurn_ok hO hd)) sh_sky220.1 (by decide) rfl rfl (Nat.le_of_ble_eq_true rfl) (Nat.le_of_ble_eq_true rfl) (Nat.le_of_ble_eq_true rfl) (Nat.le_of_ble_eq_true rfl) (Nat.le_of_ble_eq_true rfl) (fun μ3 q3 => ?_)
        refine aw_iinc (v := nI (i + 1)) dX2_sheetsByDraws_107 rfl (nI_1 i) (Nat.le_of_ble_eq_true rfl) ?_
        refine aw_goto (tgt := 20) dX2_sheetsByDraws_110 (by decide) ?_
        exact ih (i + 1) _ (pDx x) _ μ3 _ _ (by omega) q3.1 (pHour_ok (pBurn_ok hO hd) (by rw [pBurn_lo (by omega)]; omega)) (by rw [pHour_6, pBurn_lo (by omega)]; omega) (by rw [pHour_lo (by omega) (by omega), pBurn_lo (by omega)]; exact h5) hx2 (hf.tr (q2.2.tr q3.2)) e
set_option maxRecDepth 100000 in
set_option maxHeartbeats 4000000 in
theorem c_X2_sheetsByDraws {G : am_G} {μ : am_M} (K : pK) (hK : skyC μ 27 K) (ho : pOK K) (h6 : K 6 ≤ 999) (h5 : 0 < K 5) (n seed : Nat) (hn : n ≤ 60) (hs : seed < 1000000) : am_MA G yX2_sheetsByDraws cX2_sheetsByDraws 9 (some .int) 4 0 0 [.ref 219, .int (nI n), .int (nI seed)] am_SH μ (am_P (some (.int (nI (pDr n K seed 0).2))) am_SH (fun μ9 => skyC μ9 220 (pDr n K seed 0).1 ∧ pOK (pDr n K seed 0).1 ∧ am_fr μ μ9 220 7)) := by
  refine am_ofK (own := RX2) (nm := "sheetsByDraws") (L := [some (.ref 219), some (.int (nI n)), some (.int (nI seed)), none, none, none, none, none, none]) rfl rfl (by decide +kernel) (Nat.le_of_ble_eq_true rfl) rfl ?_
  refine aw_aload_n dX2_sheetsByDraws_0 rfl ?_
  refine aw_gr dX2_sheetsByDraws_1 gf_X2_14 sh_219 (by rfl) ?_
  refine aw_aload_n dX2_sheetsByDraws_4 rfl ?_
  refine aw_gr dX2_sheetsByDraws_5 gf_X2_30 sh_219 (by rfl) ?_
  refine aw_v1vp dX2_sheetsByDraws_8 ml_X2_48 im_X5_become se_X5_become (c_X5_become 220 27 sh_sky220 sh_sky27 (by omega) K hK ho.1) sh_sky220.1 (by decide) rfl rfl (Nat.le_of_ble_eq_true rfl) (Nat.le_of_ble_eq_true rfl) (Nat.le_of_ble_eq_true rfl) (Nat.le_of_ble_eq_true rfl) (Nat.le_of_ble_eq_true rfl) (fun μ2 q2 => ?_)
  refine aw_iconst (v := nI 0) dX2_sheetsByDraws_11 rfl ?_
  refine aw_istore_n dX2_sheetsByDraws_12 (Nat.le_of_ble_eq_true rfl) ?_
  refine aw_iload_n dX2_sheetsByDraws_13 rfl ?_
  refine aw_i2l dX2_sheetsByDraws_14 ?_
  rw [nI_l (by omega)]
  refine aw_lstore dX2_sheetsByDraws_15 (Nat.le_of_ble_eq_true rfl) ?_
  refine aw_iconst (v := nI 0) dX2_sheetsByDraws_17 rfl ?_
  refine aw_istore dX2_sheetsByDraws_18 (Nat.le_of_ble_eq_true rfl) ?_
  exact l_X2_sheetsByDraws K n seed hn n 0 K seed 0 μ2 _ _ (by omega) q2.1 ho (by omega) h5 (by omega) q2.2 rfl
