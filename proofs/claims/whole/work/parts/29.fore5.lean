/-! ===== foretold: above ===== -/
abbrev pINF : Nat := 2147483647
def pSt (K : pK) (k : Nat) (q : Nat × Nat) (s : Nat) : Nat × Nat := (pCar K q.1 (pLifted k q.2 s - K 4), pLifted k q.2 s - K 4)
def pIx (q : Nat × Nat) : Nat := q.1 * 21 + q.2
def pLg (p s : Nat) : Nat := (p / 16777216 + s) * 16777216 + (p % 16777216) * 4 + s
def pSpr (K : pK) (k : Nat) (q : Nat × Nat) (p : Nat) : Nat → (Nat → Nat) → Nat → Nat
  | 0, F => F
  | c + 1, F => pUp (pSpr K k q p c F) (pIx (pSt K k q c)) (min (pSpr K k q p c F (pIx (pSt K k q c))) (pLg p c))
def pSpA (K : pK) (k fl : Nat) (F : Nat → Nat) : Nat → Nat → Nat
  | 0 => fun _ => pINF
  | j + 1 => if F j = pINF then pSpA K k fl F j else pSpr K k (j / 21, j % 21) (F j) (min 3 (fl - F j / 16777216) + 1) (pSpA K k fl F j)
def pFp (K : pK) (k fl : Nat) (q : Nat × Nat) : Nat → Nat → Nat
  | 0 => pUp (fun _ => pINF) (pIx q) 0
  | m + 1 => pSpA K k fl (pFp K k fl q m) 210
/-- the least plan of those at a land from a height on: c heights looked at -/
def pMn (F : Nat → Nat) (l least : Nat) : Nat → Nat
  | 0 => pINF
  | c + 1 => min (pMn F l least c) (F (l * 21 + (least + c)))
/-- plans of m hours are small -/
def okF (m fl : Nat) (F : Nat → Nat) : Prop := ∀ j, F j = pINF ∨ (F j % 16777216 < 4 ^ m ∧ F j / 16777216 ≤ 3 * m ∧ F j / 16777216 ≤ fl)
theorem pLifted_s (k : Nat) : ∀ n h, pLifted k h (n + 1) = pLifted k (pLifted k h n) 1
  | 0, h => rfl
  | n + 1, h => by
    show pLifted k (min 20 (h + pLift k h)) (n + 1) = pLifted k (pLifted k (min 20 (h + pLift k h)) n) 1
    exact pLifted_s k n _
theorem pSt_le {K : pK} {k : Nat} {q : Nat × Nat} {s : Nat} (h : q.2 ≤ 20) : (pSt K k q s).1 ≤ 9 ∧ (pSt K k q s).2 ≤ 20 := ⟨pCar_le _ _ _, by have := pLifted_le k s q.2 h; show pLifted k q.2 s - K 4 ≤ 20; omega⟩
theorem pIx_lt {q : Nat × Nat} (h1 : q.1 ≤ 9) (h2 : q.2 ≤ 20) : pIx q < 210 := by unfold pIx; omega
theorem pow4_le {m n : Nat} (h : m ≤ n) : 4 ^ m ≤ 4 ^ n := Nat.pow_le_pow_right (by decide) h
theorem pLg_ok {m fl p s : Nat} (hm : m ≤ 11) (h : p % 16777216 < 4 ^ m ∧ p / 16777216 ≤ 3 * m ∧ p / 16777216 ≤ fl) (hs : s ≤ 3) (hf : s ≤ fl - p / 16777216) : pLg p s % 16777216 < 4 ^ (m + 1) ∧ pLg p s / 16777216 ≤ 3 * (m + 1) ∧ pLg p s / 16777216 ≤ fl ∧ pLg p s / 16777216 = p / 16777216 + s ∧ pLg p s % 16777216 = p % 16777216 * 4 + s := by
  obtain ⟨h1, h2, h3⟩ := h
  have h4 : p % 16777216 * 4 + s < 4 ^ (m + 1) := by rw [Nat.pow_succ]; omega
  have h5 : 4 ^ (m + 1) ≤ 16777216 := Nat.le_trans (pow4_le (show m + 1 ≤ 12 by omega)) (by decide)
  have e1 : pLg p s = (p % 16777216 * 4 + s) + 16777216 * (p / 16777216 + s) := by unfold pLg; omega
  have e2 : pLg p s % 16777216 = p % 16777216 * 4 + s := by rw [e1, Nat.add_mul_mod_self_left]; exact Nat.mod_eq_of_lt (by omega)
  have e3 : pLg p s / 16777216 = p / 16777216 + s := by rw [e1, Nat.add_mul_div_left _ _ (by decide), Nat.div_eq_of_lt (by omega)]; omega
  exact ⟨by rw [e2]; exact h4, by rw [e3]; omega, by rw [e3]; omega, e3, e2⟩
theorem okF_min {m fl : Nat} {F : Nat → Nat} {j x : Nat} (h : okF m fl F) (hx : x = pINF ∨ (x % 16777216 < 4 ^ m ∧ x / 16777216 ≤ 3 * m ∧ x / 16777216 ≤ fl)) : okF m fl (pUp F j (min (F j) x)) := by
  intro i
  unfold pUp
  split
  · rcases Nat.le_total (F j) x with q | q
    · rw [Nat.min_eq_left q]; exact h j
    · rw [Nat.min_eq_right q]; exact hx
  · exact h i
theorem pSpr_ok {K : pK} {k fl m p : Nat} {q : Nat × Nat} (hm : m ≤ 11) (hp : p % 16777216 < 4 ^ m ∧ p / 16777216 ≤ 3 * m ∧ p / 16777216 ≤ fl) : ∀ (c : Nat) (F : Nat → Nat), c ≤ min 3 (fl - p / 16777216) + 1 → okF (m + 1) fl F → okF (m + 1) fl (pSpr K k q p c F)
  | 0, F, _, h => h
  | c + 1, F, hc, h => by
    have h1 := pSpr_ok (K := K) (k := k) (q := q) hm hp c F (by omega) h
    have h2 := pLg_ok (s := c) hm hp (by omega) (by omega)
    exact okF_min h1 (Or.inr ⟨h2.1, h2.2.1, h2.2.2.1⟩)
theorem pSpA_ok {K : pK} {k fl m : Nat} {F : Nat → Nat} (hm : m ≤ 11) (hF : okF m fl F) : ∀ j, okF (m + 1) fl (pSpA K k fl F j)
  | 0 => fun _ => Or.inl rfl
  | j + 1 => by
    unfold pSpA
    split
    · exact pSpA_ok hm hF j
    · rename_i q
      exact pSpr_ok hm ((hF j).resolve_left q) _ _ (Nat.le_refl _) (pSpA_ok hm hF j)
theorem pFp_ok {K : pK} {k fl : Nat} {q : Nat × Nat} : ∀ m, m ≤ 12 → okF m fl (pFp K k fl q m)
  | 0, _ => fun j => by
    show pUp _ _ _ j = pINF ∨ _
    unfold pFp pUp
    split
    · exact Or.inr ⟨by decide, by decide, by simp⟩
    · exact Or.inl rfl
  | m + 1, h => pSpA_ok (by omega) (pFp_ok m (by omega)) 210
theorem okF_lt {m fl : Nat} {F : Nat → Nat} (hm : m ≤ 12) (h : okF m fl F) (j : Nat) : F j < 2 ^ 31 := by
  rcases h j with e | e
  · rw [e]; decide
  · have := Nat.div_add_mod (F j) 16777216
    omega
set_option maxRecDepth 100000 in
set_option maxHeartbeats 4000000 in
theorem c_X2_sheetsOf {G : am_G} {sh : List am_S} {μ : am_M} (p : Nat) (hp : p < 2 ^ 31) : am_MA G yX2_sheetsOf cX2_sheetsOf 1 (some .int) 0 0 0 [.int (nI p)] sh μ (am_E (some (.int (nI (p / 16777216)))) sh μ) := by
  refine am_ofK (own := RX2) (nm := "sheetsOf") (L := [some (.int (nI p))]) rfl rfl (by decide +kernel) (Nat.le_of_ble_eq_true rfl) rfl ?_
  refine aw_iload_n dX2_sheetsOf_0 rfl ?_
  refine aw_ldc dX2_sheetsOf_1 kc_X2_99 ?_
  refine aw_idiv dX2_sheetsOf_3 (by decide) ?_
  refine aw_top (pk_div hp (by omega) (by omega)) ?_
  refine aw_iret dX2_sheetsOf_4 rfl rfl rfl rfl ?_
  exact ⟨rfl, rfl, rfl⟩
set_option maxRecDepth 100000 in
set_option maxHeartbeats 4000000 in
theorem c_X2_longer {G : am_G} {sh : List am_S} {μ : am_M} (p s : Nat) (hp : p < 2 ^ 31) : am_MA G yX2_longer cX2_longer 3 (some .int) 1 0 0 [.int (nI p), .int (nI s)] sh μ (am_E (some (.int (nI (pLg p s)))) sh μ) := by
  refine am_ofK (own := RX2) (nm := "longer") (L := [some (.int (nI p)), some (.int (nI s)), none]) rfl rfl (by decide +kernel) (Nat.le_of_ble_eq_true rfl) rfl ?_
  refine aw_iload_n dX2_longer_0 rfl ?_
  refine aw_ldc dX2_longer_1 kc_X2_99 ?_
  refine aw_irem dX2_longer_3 (by decide) ?_
  refine aw_top (pk_rem hp (by omega) (by omega)) ?_
  refine aw_istore_n dX2_longer_4 (Nat.le_of_ble_eq_true rfl) ?_
  refine aw_iload_n dX2_longer_5 rfl ?_
  refine aw_s1i dX2_longer_6 ml_X2_86 st_X2_sheetsOf (c_X2_sheetsOf p hp) (Nat.le_of_ble_eq_true rfl) (Nat.le_of_ble_eq_true rfl) (Nat.le_of_ble_eq_true rfl) (Nat.le_of_ble_eq_true rfl) (Nat.le_of_ble_eq_true rfl) ?_
  refine aw_iload_n dX2_longer_9 rfl ?_
  refine aw_iadd dX2_longer_10 ?_
  refine aw_top (nI_add _ _) ?_
  refine aw_ldc dX2_longer_11 kc_X2_99 ?_
  refine aw_imul dX2_longer_13 ?_
  refine aw_top (pk_mul _ _) ?_
  refine aw_iload_n dX2_longer_14 rfl ?_
  refine aw_iconst (v := nI 4) dX2_longer_15 rfl ?_
  refine aw_imul dX2_longer_16 ?_
  refine aw_top (pk_mul _ _) ?_
  refine aw_iadd dX2_longer_17 ?_
  refine aw_top (nI_add _ _) ?_
  refine aw_iload_n dX2_longer_18 rfl ?_
  refine aw_iadd dX2_longer_19 ?_
  refine aw_top (nI_add _ _) ?_
  refine aw_iret dX2_longer_20 rfl rfl rfl rfl ?_
  exact ⟨rfl, rfl, rfl⟩
theorem pn_sh {p e : Nat} (hp : p < 2 ^ 31) (he : e < 32) : (nI p >>> (nI e &&& 31)) &&& nI 3 = nI (p / 2 ^ e % 4) := by
  have h1 : ∀ e, e < 32 → ((nI e &&& 31).toBitVec.smod 32).toNat = e := by decide +kernel
  rw [pk_shrN hp _ e (h1 e he)]
  rw [pk_andN (n := p / 2 ^ e) (Nat.lt_of_le_of_lt (Nat.div_le_self _ _) (by omega)) 2 (by decide)]
set_option maxRecDepth 100000 in
set_option maxHeartbeats 4000000 in
theorem c_X2_sheetsAhead {G : am_G} {sh : List am_S} {μ : am_M} (p n k : Nat) (hp : p < 2 ^ 31) (hn : n ≤ 12) (hk : k < n) : am_MA G yX2_sheetsAhead cX2_sheetsAhead 3 (some .int) 0 0 0 [.int (nI p), .int (nI n), .int (nI k)] sh μ (am_E (some (.int (nI (p / 2 ^ (2 * (n - 1 - k)) % 4)))) sh μ) := by
  refine am_ofK (own := RX2) (nm := "sheetsAhead") (L := [some (.int (nI p)), some (.int (nI n)), some (.int (nI k))]) rfl rfl (by decide +kernel) (Nat.le_of_ble_eq_true rfl) rfl ?_
  refine aw_iload_n dX2_sheetsAhead_0 rfl ?_
  refine aw_iconst (v := nI 2) dX2_sheetsAhead_1 rfl ?_
  refine aw_iload_n dX2_sheetsAhead_2 rfl ?_
  refine aw_iconst (v := nI 1) dX2_sheetsAhead_3 rfl ?_
  refine aw_isub dX2_sheetsAhead_4 ?_
  refine aw_top (pk_sub (by omega)) ?_
  refine aw_iload_n dX2_sheetsAhead_5 rfl ?_
  refine aw_isub dX2_sheetsAhead_6 ?_
  refine aw_top (pk_sub (by omega)) ?_
  refine aw_imul dX2_sheetsAhead_7 ?_
  refine aw_top (pk_mul _ _) ?_
  refine aw_ishr dX2_sheetsAhead_8 ?_
  refine aw_iconst (v := nI 3) dX2_sheetsAhead_9 rfl ?_
  refine aw_iand dX2_sheetsAhead_10 ?_
  refine aw_top (pn_sh hp (by omega)) ?_
  refine aw_iret dX2_sheetsAhead_11 rfl rfl rfl rfl ?_
  exact ⟨rfl, rfl, rfl⟩
set_option maxRecDepth 100000 in
set_option maxHeartbeats 4000000 in
theorem l_X2_spread {G : am_G} {μ : am_M} (K : pK) (hK : skyC μ 27 K) (ho : pOK K) (o : Nat) (hoo : o < K 5) (bq : Nat) (hb : bq = 230 ∨ bq = 231) (hq : am_SH[bq]? = some (100, 210, [])) (l h p mm : Nat) (hl : l ≤ 9) (hh : h ≤ 20) (hmm : mm ≤ 11) (hp : p % 16777216 < 4 ^ mm ∧ p / 16777216 ≤ 3 * mm ∧ p / 16777216 ≤ K (22 + o)) (F : Nat → Nat) (hF : okF (mm + 1) (K (22 + o)) F) : ∀ (r c : Nat) (μ1 : am_M) (X Y : Option Value), c + r = min 3 (K (22 + o) - p / 16777216) + 1 → (∀ j, j < 210 → μ1 bq j = nI (pSpr K (K (7 + o)) (l, h) p c F j)) → am_fr μ μ1 bq 1 → am_W (am_K G RX2 "spread" 11 none 3 0 0 (am_P none am_SH (fun μ9 => (∀ j, j < 210 → μ9 bq j = nI (pSpr K (K (7 + o)) (l, h) p (min 3 (K (22 + o) - p / 16777216) + 1) F j)) ∧ am_fr μ μ9 bq 1))) cX2_spread 27 [some (.ref 219), some (.int (nI o)), some (.int (nI l)), some (.int (nI h)), some (.int (nI p)), some (.ref bq), some (.int (nI (min 3 (K (22 + o) - p / 16777216)))), some (.int (nI (pLifted (K (7 + o)) h c))), some (.int (nI c)), X, Y] [] am_SH μ1 0 0 := by
  have g := hK.2.2.2.2 o hoo
  have gk := ho.2.2.2.2 o hoo
  have h5 := ho.1
  have p31 : p < 2 ^ 31 := by have := Nat.div_add_mod p 16777216; have := Nat.le_trans (pow4_le (show mm ≤ 12 by omega)) (show 4 ^ 12 ≤ 16777216 by decide); omega
  intro r
  induction r with
  | zero =>
    intro c μ1 X Y hc hm hf
    refine aw_iload dX2_spread_27 rfl ?_
    refine aw_iload dX2_spread_29 rfl ?_
    refine aw_icmp_gt (tgt := 106) dX2_spread_31 (by decide) (fun c31 => ?_) (fun c31 => ?_)
    · refine aw_vret dX2_spread_106 rfl rfl rfl ?_
      have e : c = min 3 (K (22 + o) - p / 16777216) + 1 := by omega
      subst e
      exact ⟨rfl, rfl, hm, hf⟩
    · exact absurd (nI_lt (by omega) (by omega)) c31
  | succ r ih =>
    intro c μ1 X Y hc hm hf
    have hle := pLifted_le (K (7 + o)) c h hh
    have hix : (pIx (pSt K (K (7 + o)) (l, h) c)) < 210 := pIx_lt (pSt_le hh).1 (pSt_le hh).2
    have hK1 : skyC μ1 27 K := hK.fr (fun b _ _ => hf b (by omega))
    have hF1 := pSpr_ok (K := K) (k := K (7 + o)) (q := (l, h)) hmm hp c F (by omega) hF
    have hlg := pLg_ok (s := c) hmm hp (by omega) (by omega)
    have h412 : 4 ^ (mm + 1) ≤ 16777216 := Nat.le_trans (pow4_le (show mm + 1 ≤ 12 by omega)) (by decide)
    refine aw_iload dX2_spread_27 rfl ?_
    refine aw_iload dX2_spread_29 rfl ?_
    refine aw_icmp_gt (tgt := 106) dX2_spread_31 (by decide) (fun c31 => ?_) (fun c31 => ?_)
    · exact absurd c31 (nI_nlt (by omega) (by omega))
    · refine aw_aload_n dX2_spread_34 rfl ?_
      refine aw_gr dX2_spread_35 gf_X2_30 sh_219 (by rfl) ?_
      refine aw_iload dX2_spread_38 rfl ?_
      refine aw_v1i dX2_spread_40 ml_X2_39 im_X5_sunk se_X5_sunk (c_X5_sunk 27 sh_sky27 K hK1 ho _ hle) sh_sky27.1 (by decide) rfl rfl (Nat.le_of_ble_eq_true rfl) (Nat.le_of_ble_eq_true rfl) (Nat.le_of_ble_eq_true rfl) (Nat.le_of_ble_eq_true rfl) (Nat.le_of_ble_eq_true rfl) ?_
      refine aw_istore dX2_spread_43 (Nat.le_of_ble_eq_true rfl) ?_
      refine aw_aload_n dX2_spread_45 rfl ?_
      refine aw_gr dX2_spread_46 gf_X2_30 sh_219 (by rfl) ?_
      refine aw_iload_n dX2_spread_49 rfl ?_
      refine aw_iload dX2_spread_50 rfl ?_
      refine aw_v2i dX2_spread_52 ml_X2_43 im_X5_carried se_X5_carried (c_X5_carried 27 sh_sky27 K hK1 ho l (pLifted (K (7 + o)) h c - K 4) hl (by omega)) sh_sky27.1 (by decide) rfl rfl (Nat.le_of_ble_eq_true rfl) (Nat.le_of_ble_eq_true rfl) (Nat.le_of_ble_eq_true rfl) (Nat.le_of_ble_eq_true rfl) (Nat.le_of_ble_eq_true rfl) ?_
      refine aw_bipush (v := nI 21) dX2_spread_55 rfl ?_
      refine aw_imul dX2_spread_57 ?_
      refine aw_top (pk_mul _ _) ?_
      refine aw_iload dX2_spread_58 rfl ?_
      refine aw_iadd dX2_spread_60 ?_
      refine aw_top ((nI_add _ _).trans (show _ = nI (pIx (pSt K (K (7 + o)) (l, h) c)) from rfl)) ?_
      refine aw_istore dX2_spread_61 (Nat.le_of_ble_eq_true rfl) ?_
      refine aw_aload dX2_spread_63 rfl ?_
      refine aw_iload dX2_spread_65 rfl ?_
      refine aw_aload dX2_spread_67 rfl ?_
      refine aw_iload dX2_spread_69 rfl ?_
      refine aw_iald dX2_spread_71 hq rfl (hix) (by decide) ?_
      refine aw_top (hm _ hix) ?_
      refine aw_iload dX2_spread_72 rfl ?_
      refine aw_iload dX2_spread_74 rfl ?_
      refine aw_s2i dX2_spread_76 ml_X2_89 st_X2_longer (c_X2_longer p c p31) (Nat.le_of_ble_eq_true rfl) (Nat.le_of_ble_eq_true rfl) (Nat.le_of_ble_eq_true rfl) (Nat.le_of_ble_eq_true rfl) (Nat.le_of_ble_eq_true rfl) ?_
      refine aw_min dX2_spread_79 lk_X2_74 st_min iw_J9 cw_min (Nat.le_of_ble_eq_true rfl) (Nat.le_of_ble_eq_true rfl) (Nat.le_of_ble_eq_true rfl) (Nat.le_of_ble_eq_true rfl) (Nat.le_of_ble_eq_true rfl) ?_
      refine aw_top (pn_min (okF_lt (by omega) hF1 _) (by have := Nat.div_add_mod (pLg p c) 16777216; omega)) ?_
      refine aw_iast dX2_spread_82 hq rfl (hix) (by decide) ?_
      refine aw_aload_n dX2_spread_83 rfl ?_
      refine aw_gr dX2_spread_84 gf_X2_30 sh_219 (by rfl) ?_
      refine aw_gr dX2_spread_87 gf_X2_92 sh_sky27.1 (by rfl) ?_
      refine aw_iload_n dX2_spread_90 rfl ?_
      refine aw_iald dX2_spread_91 sh_sky27.2.2.1 rfl (by omega) (by decide) ?_
      refine aw_top (show _ = nI (K (7 + o)) by rw [am_upn (by omega)]; exact (hK1.2.2.2.2 o hoo).1) ?_
      refine aw_iload dX2_spread_92 rfl ?_
      refine aw_iconst (v := nI 1) dX2_spread_94 rfl ?_
      refine aw_s3i dX2_spread_95 ml_X2_95 st_X5_lifted (c_X5_lifted (K (7 + o)) (pLifted (K (7 + o)) h c) 1 gk.1.1 gk.1.2 hle (by omega)) (Nat.le_of_ble_eq_true rfl) (Nat.le_of_ble_eq_true rfl) (Nat.le_of_ble_eq_true rfl) (Nat.le_of_ble_eq_true rfl) (Nat.le_of_ble_eq_true rfl) ?_
      refine aw_top (show _ = nI (pLifted (K (7 + o)) h (c + 1)) from congrArg nI (pLifted_s _ c h).symm) ?_
      refine aw_istore dX2_spread_98 (Nat.le_of_ble_eq_true rfl) ?_
      refine aw_iinc (v := nI (c + 1)) dX2_spread_100 rfl (nI_1 c) (Nat.le_of_ble_eq_true rfl) ?_
      refine aw_goto (tgt := 27) dX2_spread_103 (by decide) ?_
      refine ih (c + 1) _ _ _ (by omega) (fun j hj => ?_) (hf.up (by omega) (by omega))
      rw [am_ups]
      by_cases e : j = (pIx (pSt K (K (7 + o)) (l, h) c))
      · rw [e, pk_us]; show _ = nI (pUp _ _ _ _); rw [pUp_s]
      · rw [pk_un e]; show _ = nI (pUp _ _ _ _); rw [pUp_n e]; exact hm j hj
set_option maxRecDepth 100000 in
set_option maxHeartbeats 4000000 in
theorem c_X2_spread {G : am_G} {μ : am_M} (K : pK) (hK : skyC μ 27 K) (ho : pOK K) (o : Nat) (hoo : o < K 5) (bq : Nat) (hb : bq = 230 ∨ bq = 231) (hq : am_SH[bq]? = some (100, 210, [])) (l h p mm : Nat) (hl : l ≤ 9) (hh : h ≤ 20) (hmm : mm ≤ 11) (hp : p % 16777216 < 4 ^ mm ∧ p / 16777216 ≤ 3 * mm ∧ p / 16777216 ≤ K (22 + o)) (F : Nat → Nat) (hF : okF (mm + 1) (K (22 + o)) F) (hm : ∀ j, j < 210 → μ bq j = nI (F j)) : am_MA G yX2_spread cX2_spread 11 none 3 0 0 [.ref 219, .int (nI o), .int (nI l), .int (nI h), .int (nI p), .ref bq] am_SH μ (am_P none am_SH (fun μ9 => (∀ j, j < 210 → μ9 bq j = nI (pSpr K (K (7 + o)) (l, h) p (min 3 (K (22 + o) - p / 16777216) + 1) F j)) ∧ am_fr μ μ9 bq 1)) := by
  have g := hK.2.2.2.2 o hoo
  have gk := ho.2.2.2.2 o hoo
  have h5 := ho.1
  have p31 : p < 2 ^ 31 := by have := Nat.div_add_mod p 16777216; have := Nat.le_trans (pow4_le (show mm ≤ 12 by omega)) (show 4 ^ 12 ≤ 16777216 by decide); omega
  refine am_ofK (own := RX2) (nm := "spread") (L := [some (.ref 219), some (.int (nI o)), some (.int (nI l)), some (.int (nI h)), some (.int (nI p)), some (.ref bq), none, none, none, none, none]) rfl rfl (by decide +kernel) (Nat.le_of_ble_eq_true rfl) rfl ?_
  refine aw_iconst (v := nI 3) dX2_spread_0 rfl ?_
  refine aw_aload_n dX2_spread_1 rfl ?_
  refine aw_gr dX2_spread_2 gf_X2_30 sh_219 (by rfl) ?_
  refine aw_gr dX2_spread_5 gf_X2_83 sh_sky27.1 (by rfl) ?_
  refine aw_iload_n dX2_spread_8 rfl ?_
  refine aw_iald dX2_spread_9 sh_sky27.2.2.2.2.2.1 rfl (by omega) (by decide) ?_
  refine aw_top g.2.2.2.1 ?_
  refine aw_iload dX2_spread_10 rfl ?_
  refine aw_s1i dX2_spread_12 ml_X2_86 st_X2_sheetsOf (c_X2_sheetsOf p p31) (Nat.le_of_ble_eq_true rfl) (Nat.le_of_ble_eq_true rfl) (Nat.le_of_ble_eq_true rfl) (Nat.le_of_ble_eq_true rfl) (Nat.le_of_ble_eq_true rfl) ?_
  refine aw_isub dX2_spread_15 ?_
  refine aw_top (pk_sub hp.2.2) ?_
  refine aw_min dX2_spread_16 lk_X2_74 st_min iw_J9 cw_min (Nat.le_of_ble_eq_true rfl) (Nat.le_of_ble_eq_true rfl) (Nat.le_of_ble_eq_true rfl) (Nat.le_of_ble_eq_true rfl) (Nat.le_of_ble_eq_true rfl) ?_
  refine aw_top (pn_min (by omega) (by omega)) ?_
  refine aw_istore dX2_spread_19 (Nat.le_of_ble_eq_true rfl) ?_
  refine aw_iload_n dX2_spread_21 rfl ?_
  refine aw_istore dX2_spread_22 (Nat.le_of_ble_eq_true rfl) ?_
  refine aw_iconst (v := nI 0) dX2_spread_24 rfl ?_
  refine aw_istore dX2_spread_25 (Nat.le_of_ble_eq_true rfl) ?_
  exact l_X2_spread K hK ho o hoo bq hb hq l h p mm hl hh hmm hp F hF (min 3 (K (22 + o) - p / 16777216) + 1) 0 μ _ _ (by omega) hm am_fr.rf
set_option maxRecDepth 100000 in
set_option maxHeartbeats 4000000 in
theorem l2_X2_spreadAll {G : am_G} {μ : am_M} (K : pK) (hK : skyC μ 27 K) (ho : pOK K) (o : Nat) (hoo : o < K 5) (bq : Nat) (hb : bq = 230 ∨ bq = 231) (hq : am_SH[bq]? = some (100, 210, [])) (hqq : Nat) (hh0 : hqq = 230 ∨ hqq = 231) (hne : hqq ≠ bq) (hqc : am_SH[hqq]? = some (100, 210, [])) (mm : Nat) (hmm : mm ≤ 11) (F : Nat → Nat) (hF : okF mm (K (22 + o)) F) (hm0 : ∀ j, j < 210 → μ hqq j = nI (F j)) (l : Nat) (hl : l < 10) (kk : ∀ (μ1 : am_M) (X Y : Option Value), (∀ j, j < 210 → μ1 bq j = nI (pSpA K (K (7 + o)) (K (22 + o)) F ((l + 1) * 21) j)) → am_fr μ μ1 bq 1 → am_W (am_K G RX2 "spreadAll" 7 none 4 0 0 (am_P none am_SH (fun μ9 => (∀ j, j < 210 → μ9 bq j = nI (pSpA K (K (7 + o)) (K (22 + o)) F 210 j)) ∧ am_fr μ μ9 bq 1))) cX2_spreadAll 9 [some (.ref 219), some (.int (nI o)), some (.ref hqq), some (.ref bq), some (.int (nI (l + 1))), X, Y] [] am_SH μ1 0 0) : ∀ (r h : Nat) (μ1 : am_M) (X : Option Value), h + r = 21 → (∀ j, j < 210 → μ1 bq j = nI (pSpA K (K (7 + o)) (K (22 + o)) F (l * 21 + h) j)) → am_fr μ μ1 bq 1 → am_W (am_K G RX2 "spreadAll" 7 none 4 0 0 (am_P none am_SH (fun μ9 => (∀ j, j < 210 → μ9 bq j = nI (pSpA K (K (7 + o)) (K (22 + o)) F 210 j)) ∧ am_fr μ μ9 bq 1))) cX2_spreadAll 19 [some (.ref 219), some (.int (nI o)), some (.ref hqq), some (.ref bq), some (.int (nI l)), some (.int (nI h)), X] [] am_SH μ1 0 0 := by
  have g := hK.2.2.2.2 o hoo
  have gk := ho.2.2.2.2 o hoo
  have h5 := ho.1
  intro r
  induction r with
  | zero =>
    intro h μ1 X hh hm hf
    refine aw_iload dX2_spreadAll_19 rfl ?_
    refine aw_bipush (v := nI 21) dX2_spreadAll_21 rfl ?_
    refine aw_icmp_ge (tgt := 63) dX2_spreadAll_23 (by decide) (fun c23 => ?_) (fun c23 => ?_)
    · refine aw_iinc (v := nI (l + 1)) dX2_spreadAll_63 rfl (nI_1 l) (Nat.le_of_ble_eq_true rfl) ?_
      refine aw_goto (tgt := 9) dX2_spreadAll_66 (by decide) ?_
      have e : l * 21 + h = (l + 1) * 21 := by omega
      rw [e] at hm
      exact kk μ1 _ _ hm hf
    · exact absurd (nI_le (by omega) (by omega)) c23
  | succ r ih =>
    intro h μ1 X hh hm hf
    refine aw_iload dX2_spreadAll_19 rfl ?_
    refine aw_bipush (v := nI 21) dX2_spreadAll_21 rfl ?_
    refine aw_icmp_ge (tgt := 63) dX2_spreadAll_23 (by decide) (fun c23 => ?_) (fun c23 => ?_)
    · exact absurd c23 (nI_ge (by omega) (by omega))
    · refine aw_aload_n dX2_spreadAll_26 rfl ?_
      refine aw_iload dX2_spreadAll_27 rfl ?_
      refine aw_bipush (v := nI 21) dX2_spreadAll_29 rfl ?_
      refine aw_imul dX2_spreadAll_31 ?_
      refine aw_top (pk_mul _ _) ?_
      refine aw_iload dX2_spreadAll_32 rfl ?_
      refine aw_iadd dX2_spreadAll_34 ?_
      refine aw_top (nI_add _ _) ?_
      refine aw_iald dX2_spreadAll_35 hqc rfl (by omega) (by decide) ?_
      refine aw_top (show _ = nI (F (l * 21 + h)) by rw [hf hqq (by omega)]; exact hm0 _ (by omega)) ?_
      refine aw_istore dX2_spreadAll_36 (Nat.le_of_ble_eq_true rfl) ?_
      refine aw_iload dX2_spreadAll_38 rfl ?_
      refine aw_ldc dX2_spreadAll_40 kc_X2_63 ?_
      refine aw_icmp_eq (tgt := 57) dX2_spreadAll_42 (by decide) (fun c42 => ?_) (fun c42 => ?_)
      · rw [nI_eq (okF_lt (by omega) hF _) (by decide)] at c42
        have e1 : pSpA K (K (7 + o)) (K (22 + o)) F ((l * 21 + h) + 1) = pSpA K (K (7 + o)) (K (22 + o)) F (l * 21 + h) := by rw [pSpA, if_pos c42]
        refine aw_iinc (v := nI (h + 1)) dX2_spreadAll_57 rfl (nI_1 h) (Nat.le_of_ble_eq_true rfl) ?_
        refine aw_goto (tgt := 19) dX2_spreadAll_60 (by decide) ?_
        exact ih (h + 1) μ1 _ (by omega) (fun j hj => by rw [show l * 21 + (h + 1) = (l * 21 + h) + 1 by omega, e1]; exact hm j hj) hf
      · rw [nI_eq (okF_lt (by omega) hF _) (by decide)] at c42
        have e1 : pSpA K (K (7 + o)) (K (22 + o)) F ((l * 21 + h) + 1) = pSpr K (K (7 + o)) (l, h) (F (l * 21 + h)) (min 3 (K (22 + o) - F (l * 21 + h) / 16777216) + 1) (pSpA K (K (7 + o)) (K (22 + o)) F (l * 21 + h)) := by rw [pSpA, if_neg c42, show (l * 21 + h) / 21 = l by omega, show (l * 21 + h) % 21 = h by omega]
        refine aw_aload_n dX2_spreadAll_45 rfl ?_
        refine aw_iload_n dX2_spreadAll_46 rfl ?_
        refine aw_iload dX2_spreadAll_47 rfl ?_
        refine aw_iload dX2_spreadAll_49 rfl ?_
        refine aw_iload dX2_spreadAll_51 rfl ?_
        refine aw_aload_n dX2_spreadAll_53 rfl ?_
        refine aw_v5vp dX2_spreadAll_54 ml_X2_79 im_X2_spread se_X2_spread (c_X2_spread K (hK.fr (fun b _ _ => hf b (by omega))) ho o hoo bq hb hq l h (F (l * 21 + h)) mm (by omega) (by omega) hmm ((hF _).resolve_left c42) (pSpA K (K (7 + o)) (K (22 + o)) F (l * 21 + h)) (pSpA_ok hmm hF _) hm) sh_219 (by decide) rfl rfl (Nat.le_of_ble_eq_true rfl) (Nat.le_of_ble_eq_true rfl) (Nat.le_of_ble_eq_true rfl) (Nat.le_of_ble_eq_true rfl) (Nat.le_of_ble_eq_true rfl) (fun μ2 q2 => ?_)
        refine aw_iinc (v := nI (h + 1)) dX2_spreadAll_57 rfl (nI_1 h) (Nat.le_of_ble_eq_true rfl) ?_
        refine aw_goto (tgt := 19) dX2_spreadAll_60 (by decide) ?_
        exact ih (h + 1) μ2 _ (by omega) (fun j hj => by rw [show l * 21 + (h + 1) = (l * 21 + h) + 1 by omega, e1]; exact q2.1 j hj) (hf.tr q2.2)
set_option maxRecDepth 100000 in
set_option maxHeartbeats 4000000 in
theorem l_X2_spreadAll {G : am_G} {μ : am_M} (K : pK) (hK : skyC μ 27 K) (ho : pOK K) (o : Nat) (hoo : o < K 5) (bq : Nat) (hb : bq = 230 ∨ bq = 231) (hq : am_SH[bq]? = some (100, 210, [])) (hqq : Nat) (hh0 : hqq = 230 ∨ hqq = 231) (hne : hqq ≠ bq) (hqc : am_SH[hqq]? = some (100, 210, [])) (mm : Nat) (hmm : mm ≤ 11) (F : Nat → Nat) (hF : okF mm (K (22 + o)) F) (hm0 : ∀ j, j < 210 → μ hqq j = nI (F j)) : ∀ (r l : Nat) (μ1 : am_M) (X Y : Option Value), l + r = 10 → (∀ j, j < 210 → μ1 bq j = nI (pSpA K (K (7 + o)) (K (22 + o)) F (l * 21) j)) → am_fr μ μ1 bq 1 → am_W (am_K G RX2 "spreadAll" 7 none 4 0 0 (am_P none am_SH (fun μ9 => (∀ j, j < 210 → μ9 bq j = nI (pSpA K (K (7 + o)) (K (22 + o)) F 210 j)) ∧ am_fr μ μ9 bq 1))) cX2_spreadAll 9 [some (.ref 219), some (.int (nI o)), some (.ref hqq), some (.ref bq), some (.int (nI l)), X, Y] [] am_SH μ1 0 0 := by
  intro r
  induction r with
  | zero =>
    intro l μ1 X Y hl hm hf
    refine aw_iload dX2_spreadAll_9 rfl ?_
    refine aw_bipush (v := nI 10) dX2_spreadAll_11 rfl ?_
    refine aw_icmp_ge (tgt := 69) dX2_spreadAll_13 (by decide) (fun c13 => ?_) (fun c13 => ?_)
    · refine aw_vret dX2_spreadAll_69 rfl rfl rfl ?_
      have e : l = 10 := by omega
      subst e
      exact ⟨rfl, rfl, hm, hf⟩
    · exact absurd (nI_le (by omega) (by omega)) c13
  | succ r ih =>
    intro l μ1 X Y hl hm hf
    refine aw_iload dX2_spreadAll_9 rfl ?_
    refine aw_bipush (v := nI 10) dX2_spreadAll_11 rfl ?_
    refine aw_icmp_ge (tgt := 69) dX2_spreadAll_13 (by decide) (fun c13 => ?_) (fun c13 => ?_)
    · exact absurd c13 (nI_ge (by omega) (by omega))
    · refine aw_iconst (v := nI 0) dX2_spreadAll_16 rfl ?_
      refine aw_istore dX2_spreadAll_17 (Nat.le_of_ble_eq_true rfl) ?_
      exact l2_X2_spreadAll K hK ho o hoo bq hb hq hqq hh0 hne hqc mm hmm F hF hm0 l (by omega) (fun μ2 X Y hm2 hf2 => ih (l + 1) μ2 X Y (by omega) hm2 hf2) 21 0 μ1 _ (by omega) hm hf
set_option maxRecDepth 100000 in
set_option maxHeartbeats 4000000 in
theorem c_X2_spreadAll {G : am_G} {μ : am_M} (K : pK) (hK : skyC μ 27 K) (ho : pOK K) (o : Nat) (hoo : o < K 5) (bq : Nat) (hb : bq = 230 ∨ bq = 231) (hq : am_SH[bq]? = some (100, 210, [])) (hqq : Nat) (hh0 : hqq = 230 ∨ hqq = 231) (hne : hqq ≠ bq) (hqc : am_SH[hqq]? = some (100, 210, [])) (mm : Nat) (hmm : mm ≤ 11) (F : Nat → Nat) (hF : okF mm (K (22 + o)) F) (hm0 : ∀ j, j < 210 → μ hqq j = nI (F j)) : am_MA G yX2_spreadAll cX2_spreadAll 7 none 4 0 0 [.ref 219, .int (nI o), .ref hqq, .ref bq] am_SH μ (am_P none am_SH (fun μ9 => (∀ j, j < 210 → μ9 bq j = nI (pSpA K (K (7 + o)) (K (22 + o)) F 210 j)) ∧ am_fr μ μ9 bq 1)) := by
  refine am_ofK (own := RX2) (nm := "spreadAll") (L := [some (.ref 219), some (.int (nI o)), some (.ref hqq), some (.ref bq), none, none, none]) rfl rfl (by decide +kernel) (Nat.le_of_ble_eq_true rfl) rfl ?_
  refine aw_aload_n dX2_spreadAll_0 rfl ?_
  refine aw_ldc dX2_spreadAll_1 kc_X2_63 ?_
  refine aw_s2vp dX2_spreadAll_3 ml_X2_64 st_J7_fill_53178 (c_J7_fill_53178 bq 210 (nI 2147483647) hq (by omega)) (Nat.le_of_ble_eq_true rfl) (Nat.le_of_ble_eq_true rfl) (Nat.le_of_ble_eq_true rfl) (Nat.le_of_ble_eq_true rfl) (Nat.le_of_ble_eq_true rfl) (fun μ2 q2 => ?_)
  refine aw_iconst (v := nI 0) dX2_spreadAll_6 rfl ?_
  refine aw_istore dX2_spreadAll_7 (Nat.le_of_ble_eq_true rfl) ?_
  exact l_X2_spreadAll K hK ho o hoo bq hb hq hqq hh0 hne hqc mm hmm F hF hm0 10 0 μ2 _ _ (by omega) (fun j hj => q2.1 j hj) q2.2
theorem sh_229r : ∀ j, j < 2 → ([some (.ref 230), some (.ref 231)] : List (Option Value))[j]? = some (some (.ref (230 + j)))
  | 0, _ => rfl
  | 1, _ => rfl
  | j + 2, h => absurd h (by omega)
theorem sh_23x : ∀ j, j < 2 → am_SH[230 + j]? = some (100, 210, [])
  | 0, _ => rfl
  | 1, _ => rfl
  | j + 2, h => absurd h (by omega)
theorem pn_odd : ∀ s, s < 20 → nI s &&& nI 1 = nI (s % 2) := by decide +kernel
theorem pMn_lt {F : Nat → Nat} {m fl : Nat} (hm : m ≤ 12) (h : okF m fl F) (l least : Nat) : ∀ c, pMn F l least c < 2 ^ 31
  | 0 => by show 2147483647 < 2 ^ 31; decide
  | c + 1 => by
    have := okF_lt hm h (l * 21 + (least + c))
    have := pMn_lt hm h l least c
    unfold pMn
    omega
set_option maxRecDepth 100000 in
set_option maxHeartbeats 4000000 in
theorem l3_X2_fewestPlan {G : am_G} {μ : am_M} {μ1 : am_M} {K : pK} {o l n least : Nat} (hl : l ≤ 9) (hn : n ≤ 12) (hle : least ≤ 20) (hm : ∀ j, j < 210 → μ1 (230 + n % 2) j = nI (pFp K (K (7 + o)) (K (22 + o)) (K (12 + o), K (17 + o)) n j)) (hf : am_fr μ μ1 230 2) : ∀ (r c : Nat), c + r = 21 - least → am_W (am_K G RX2 "fewestPlan" 7 (some .int) 5 0 0 (am_P (some (.int (nI (pMn (pFp K (K (7 + o)) (K (22 + o)) (K (12 + o), K (17 + o)) n) l least (21 - least))))) am_SH (fun μ9 => am_fr μ μ9 230 2))) cX2_fewestPlan 89 [some (.ref 219), some (.int (nI o)), some (.int (nI l)), some (.int (nI n)), some (.int (nI least)), some (.int (nI (pMn (pFp K (K (7 + o)) (K (22 + o)) (K (12 + o), K (17 + o)) n) l least c))), some (.int (nI (least + c)))] [] am_SH μ1 0 0 := by
  intro r
  induction r with
  | zero =>
    intro c hc
    refine aw_iload dX2_fewestPlan_89 rfl ?_
    refine aw_bipush (v := nI 21) dX2_fewestPlan_91 rfl ?_
    refine aw_icmp_ge (tgt := 125) dX2_fewestPlan_93 (by decide) (fun c93 => ?_) (fun c93 => ?_)
    · refine aw_iload dX2_fewestPlan_125 rfl ?_
      refine aw_iret dX2_fewestPlan_127 rfl rfl rfl rfl ?_
      have e : c = 21 - least := by omega
      subst e
      exact ⟨rfl, rfl, hf⟩
    · exact absurd (nI_le (by omega) (by omega)) c93
  | succ r ih =>
    intro c hc
    refine aw_iload dX2_fewestPlan_89 rfl ?_
    refine aw_bipush (v := nI 21) dX2_fewestPlan_91 rfl ?_
    refine aw_icmp_ge (tgt := 125) dX2_fewestPlan_93 (by decide) (fun c93 => ?_) (fun c93 => ?_)
    · exact absurd c93 (nI_ge (by omega) (by omega))
    · refine aw_iload dX2_fewestPlan_96 rfl ?_
      refine aw_aload_n dX2_fewestPlan_98 rfl ?_
      refine aw_gr dX2_fewestPlan_99 gf_X2_27 sh_219 (by rfl) ?_
      refine aw_iload_n dX2_fewestPlan_102 rfl ?_
      refine aw_iconst (v := nI 1) dX2_fewestPlan_103 rfl ?_
      refine aw_iand dX2_fewestPlan_104 ?_
      refine aw_top (pn_odd n (by omega)) ?_
      refine aw_aald (t := 4) dX2_fewestPlan_105 sh_229 (by decide) rfl (by omega) (by decide) (sh_229r _ (by omega)) ?_
      refine aw_iload_n dX2_fewestPlan_106 rfl ?_
      refine aw_bipush (v := nI 21) dX2_fewestPlan_107 rfl ?_
      refine aw_imul dX2_fewestPlan_109 ?_
      refine aw_top (pk_mul _ _) ?_
      refine aw_iload dX2_fewestPlan_110 rfl ?_
      refine aw_iadd dX2_fewestPlan_112 ?_
      refine aw_top (nI_add _ _) ?_
      refine aw_iald dX2_fewestPlan_113 (sh_23x _ (by omega)) rfl (by omega) (by decide) ?_
      refine aw_top (hm _ (by omega)) ?_
      refine aw_min dX2_fewestPlan_114 lk_X2_74 st_min iw_J9 cw_min (Nat.le_of_ble_eq_true rfl) (Nat.le_of_ble_eq_true rfl) (Nat.le_of_ble_eq_true rfl) (Nat.le_of_ble_eq_true rfl) (Nat.le_of_ble_eq_true rfl) ?_
      refine aw_top ((pn_min (pMn_lt (by omega) (pFp_ok n (by omega)) l least c) (okF_lt (by omega) (pFp_ok n (by omega)) _)).trans (show _ = nI (pMn _ l least (c + 1)) from rfl)) ?_
      refine aw_istore dX2_fewestPlan_117 (Nat.le_of_ble_eq_true rfl) ?_
      refine aw_iinc (v := nI (least + (c + 1))) dX2_fewestPlan_119 rfl (nI_1 _) (Nat.le_of_ble_eq_true rfl) ?_
      refine aw_goto (tgt := 89) dX2_fewestPlan_122 (by decide) ?_
      exact ih (c + 1) (by omega)
set_option maxRecDepth 100000 in
set_option maxHeartbeats 4000000 in
theorem l_X2_fewestPlan {G : am_G} {μ : am_M} (K : pK) (hK : skyC μ 27 K) (ho : pOK K) (o : Nat) (hoo : o < K 5) (l n least : Nat) (hl : l ≤ 9) (hn : n ≤ 12) (hle : least ≤ 20) : ∀ (r s : Nat) (μ1 : am_M) (X : Option Value), s + r = n → (∀ j, j < 210 → μ1 (230 + s % 2) j = nI (pFp K (K (7 + o)) (K (22 + o)) (K (12 + o), K (17 + o)) s j)) → am_fr μ μ1 230 2 → am_W (am_K G RX2 "fewestPlan" 7 (some .int) 5 0 0 (am_P (some (.int (nI (pMn (pFp K (K (7 + o)) (K (22 + o)) (K (12 + o), K (17 + o)) n) l least (21 - least))))) am_SH (fun μ9 => am_fr μ μ9 230 2))) cX2_fewestPlan 44 [some (.ref 219), some (.int (nI o)), some (.int (nI l)), some (.int (nI n)), some (.int (nI least)), some (.int (nI s)), X] [] am_SH μ1 0 0 := by
  intro r
  induction r with
  | zero =>
    intro s μ1 X hs hm hf
    have e : s = n := by omega
    subst e
    refine aw_iload dX2_fewestPlan_44 rfl ?_
    refine aw_iload_n dX2_fewestPlan_46 rfl ?_
    refine aw_icmp_ge (tgt := 81) dX2_fewestPlan_47 (by decide) (fun c47 => ?_) (fun c47 => ?_)
    · refine aw_ldc dX2_fewestPlan_81 kc_X2_63 ?_
      refine aw_istore dX2_fewestPlan_83 (Nat.le_of_ble_eq_true rfl) ?_
      refine aw_iload dX2_fewestPlan_85 rfl ?_
      refine aw_istore dX2_fewestPlan_87 (Nat.le_of_ble_eq_true rfl) ?_
      exact l3_X2_fewestPlan hl hn hle hm hf (21 - least) 0 (by omega)
    · exact absurd (nI_le (by omega) (by omega)) c47
  | succ r ih =>
    intro s μ1 X hs hm hf
    refine aw_iload dX2_fewestPlan_44 rfl ?_
    refine aw_iload_n dX2_fewestPlan_46 rfl ?_
    refine aw_icmp_ge (tgt := 81) dX2_fewestPlan_47 (by decide) (fun c47 => ?_) (fun c47 => ?_)
    · exact absurd c47 (nI_ge (by omega) (by omega))
    · refine aw_aload_n dX2_fewestPlan_50 rfl ?_
      refine aw_iload_n dX2_fewestPlan_51 rfl ?_
      refine aw_aload_n dX2_fewestPlan_52 rfl ?_
      refine aw_gr dX2_fewestPlan_53 gf_X2_27 sh_219 (by rfl) ?_
      refine aw_iload dX2_fewestPlan_56 rfl ?_
      refine aw_iconst (v := nI 1) dX2_fewestPlan_58 rfl ?_
      refine aw_iand dX2_fewestPlan_59 ?_
      refine aw_top (pn_odd s (by omega)) ?_
      refine aw_aald (t := 4) dX2_fewestPlan_60 sh_229 (by decide) rfl (by omega) (by decide) (sh_229r _ (by omega)) ?_
      refine aw_aload_n dX2_fewestPlan_61 rfl ?_
      refine aw_gr dX2_fewestPlan_62 gf_X2_27 sh_219 (by rfl) ?_
      refine aw_iload dX2_fewestPlan_65 rfl ?_
      refine aw_iconst (v := nI 1) dX2_fewestPlan_67 rfl ?_
      refine aw_iadd dX2_fewestPlan_68 ?_
      refine aw_top (nI_add _ _) ?_
      refine aw_iconst (v := nI 1) dX2_fewestPlan_69 rfl ?_
      refine aw_iand dX2_fewestPlan_70 ?_
      refine aw_top (pn_odd (s + 1) (by omega)) ?_
      refine aw_aald (t := 4) dX2_fewestPlan_71 sh_229 (by decide) rfl (by omega) (by decide) (sh_229r _ (by omega)) ?_
      refine aw_v3vp dX2_fewestPlan_72 ml_X2_70 im_X2_spreadAll se_X2_spreadAll (c_X2_spreadAll K (hK.fr (fun b _ _ => hf b (by omega))) ho o hoo (230 + (s + 1) % 2) (by omega) (sh_23x _ (by omega)) (230 + s % 2) (by omega) (by omega) (sh_23x _ (by omega)) s (by omega) (pFp K (K (7 + o)) (K (22 + o)) (K (12 + o), K (17 + o)) s) (pFp_ok s (by omega)) hm) sh_219 (by decide) rfl rfl (Nat.le_of_ble_eq_true rfl) (Nat.le_of_ble_eq_true rfl) (Nat.le_of_ble_eq_true rfl) (Nat.le_of_ble_eq_true rfl) (Nat.le_of_ble_eq_true rfl) (fun μ2 q2 => ?_)
      refine aw_iinc (v := nI (s + 1)) dX2_fewestPlan_75 rfl (nI_1 s) (Nat.le_of_ble_eq_true rfl) ?_
      refine aw_goto (tgt := 44) dX2_fewestPlan_78 (by decide) ?_
      exact ih (s + 1) μ2 _ (by omega) q2.1 (hf.tr (q2.2.mono (by omega) (by omega)))
set_option maxRecDepth 100000 in
set_option maxHeartbeats 4000000 in
theorem c_X2_fewestPlan {G : am_G} {μ : am_M} (K : pK) (hK : skyC μ 27 K) (ho : pOK K) (o : Nat) (hoo : o < K 5) (l n least : Nat) (hl : l ≤ 9) (hn : n ≤ 12) (hle : least ≤ 20) : am_MA G yX2_fewestPlan cX2_fewestPlan 7 (some .int) 5 0 0 [.ref 219, .int (nI o), .int (nI l), .int (nI n), .int (nI least)] am_SH μ (am_P (some (.int (nI (pMn (pFp K (K (7 + o)) (K (22 + o)) (K (12 + o), K (17 + o)) n) l least (21 - least))))) am_SH (fun μ9 => am_fr μ μ9 230 2)) := by
  have g := hK.2.2.2.2 o hoo
  have gk := ho.2.2.2.2 o hoo
  have h5 := ho.1
  refine am_ofK (own := RX2) (nm := "fewestPlan") (L := [some (.ref 219), some (.int (nI o)), some (.int (nI l)), some (.int (nI n)), some (.int (nI least)), none, none]) rfl rfl (by decide +kernel) (Nat.le_of_ble_eq_true rfl) rfl ?_
  refine aw_aload_n dX2_fewestPlan_0 rfl ?_
  refine aw_gr dX2_fewestPlan_1 gf_X2_27 sh_219 (by rfl) ?_
  refine aw_iconst (v := nI 0) dX2_fewestPlan_4 rfl ?_
  refine aw_aald (t := 4) dX2_fewestPlan_5 sh_229 (by decide) rfl (by omega) (by decide) (sh_229r 0 (by omega)) ?_
  refine aw_ldc dX2_fewestPlan_6 kc_X2_63 ?_
  refine aw_s2vp dX2_fewestPlan_8 ml_X2_64 st_J7_fill_53178 (c_J7_fill_53178 230 210 (nI 2147483647) (sh_23x 0 (by omega)) (by omega)) (Nat.le_of_ble_eq_true rfl) (Nat.le_of_ble_eq_true rfl) (Nat.le_of_ble_eq_true rfl) (Nat.le_of_ble_eq_true rfl) (Nat.le_of_ble_eq_true rfl) (fun μ2 q2 => ?_)
  refine aw_aload_n dX2_fewestPlan_11 rfl ?_
  refine aw_gr dX2_fewestPlan_12 gf_X2_27 sh_219 (by rfl) ?_
  refine aw_iconst (v := nI 0) dX2_fewestPlan_15 rfl ?_
  refine aw_aald (t := 4) dX2_fewestPlan_16 sh_229 (by decide) rfl (by omega) (by decide) (sh_229r 0 (by omega)) ?_
  refine aw_aload_n dX2_fewestPlan_17 rfl ?_
  refine aw_gr dX2_fewestPlan_18 gf_X2_30 sh_219 (by rfl) ?_
  refine aw_gr dX2_fewestPlan_21 gf_X2_33 sh_sky27.1 (by rfl) ?_
  refine aw_iload_n dX2_fewestPlan_24 rfl ?_
  refine aw_iald dX2_fewestPlan_25 sh_sky27.2.2.2.1 rfl (by omega) (by decide) ?_
  refine aw_top (show _ = nI (K (12 + o)) by rw [q2.2 (27 + 3) (by omega)]; exact g.2.1) ?_
  refine aw_bipush (v := nI 21) dX2_fewestPlan_26 rfl ?_
  refine aw_imul dX2_fewestPlan_28 ?_
  refine aw_top (pk_mul _ _) ?_
  refine aw_aload_n dX2_fewestPlan_29 rfl ?_
  refine aw_gr dX2_fewestPlan_30 gf_X2_30 sh_219 (by rfl) ?_
  refine aw_gr dX2_fewestPlan_33 gf_X2_36 sh_sky27.1 (by rfl) ?_
  refine aw_iload_n dX2_fewestPlan_36 rfl ?_
  refine aw_iald dX2_fewestPlan_37 sh_sky27.2.2.2.2.1 rfl (by omega) (by decide) ?_
  refine aw_top (show _ = nI (K (17 + o)) by rw [q2.2 (27 + 4) (by omega)]; exact g.2.2.1) ?_
  refine aw_iadd dX2_fewestPlan_38 ?_
  refine aw_top (nI_add _ _) ?_
  refine aw_iconst (v := nI 0) dX2_fewestPlan_39 rfl ?_
  refine aw_iast dX2_fewestPlan_40 (sh_23x 0 (by omega)) rfl (by omega) (by decide) ?_
  refine aw_iconst (v := nI 0) dX2_fewestPlan_41 rfl ?_
  refine aw_istore dX2_fewestPlan_42 (Nat.le_of_ble_eq_true rfl) ?_
  refine l_X2_fewestPlan K hK ho o hoo l n least hl hn hle n 0 _ _ (by omega) (fun j hj => ?_) ((q2.2.mono (by omega) (by omega)).up (by omega) (by omega))
  show am_up μ2 230 _ 230 j = nI (pUp _ (K (12 + o) * 21 + K (17 + o)) 0 j)
  rw [am_ups]
  by_cases e : j = K (12 + o) * 21 + K (17 + o)
  · rw [e, pk_us, pUp_s]
  · rw [pk_un e, pUp_n e]; exact q2.1 j hj
