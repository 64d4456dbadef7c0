set_option maxRecDepth 100000 in
set_option maxHeartbeats 4000000 in
theorem l_X8_goAside {G : am_G} {μ : am_M} (A : pA) (n : Nat) (hn : n ≤ 60) : ∀ (r i : Nat) (L : pK) (μ1 : am_M), i + r = n → mC μ1 245 L → pOK L → L 6 + r ≤ 1000000 → am_fr μ μ1 245 1 → pH r L = pH n A.K → am_W (am_K G RX8 "goAside" 3 none 3 0 0 (am_P none am_SH (fun μ9 => mC μ9 245 (pH n A.K) ∧ am_fr μ μ9 245 1))) cX8_goAside 15 [some (.ref 234), some (.int (nI n)), some (.int (nI i))] [] am_SH μ1 0 0 := by
  intro r
  induction r with
  | zero =>
    intro i L μ1 hi hL hO h6 hf e
    have e2 : L = pH n A.K := e
    refine aw_iload_n dX8_goAside_15 rfl ?_
    refine aw_iload_n dX8_goAside_16 rfl ?_
    refine aw_icmp_ge (tgt := 33) dX8_goAside_17 (by decide) (fun c17 => ?_) (fun c17 => ?_)
    · refine aw_vret dX8_goAside_33 rfl rfl rfl ?_
      exact ⟨rfl, rfl, e2 ▸ hL, hf⟩
    · exact absurd (nI_le (by omega) (by omega)) c17
  | succ r ih =>
    intro i L μ1 hi hL hO h6 hf e
    refine aw_iload_n dX8_goAside_15 rfl ?_
    refine aw_iload_n dX8_goAside_16 rfl ?_
    refine aw_icmp_ge (tgt := 33) dX8_goAside_17 (by decide) (fun c17 => ?_) (fun c17 => ?_)
    · exact absurd c17 (nI_ge (by omega) (by omega))
    · refine aw_aload_n dX8_goAside_20 rfl ?_
      refine aw_gr dX8_goAside_21 gf_X8_41 sh_234 (by rfl) ?_
      refine aw_s1vp dX8_goAside_24 ml_X8_175 st_X8_hourGoes (c_X8_hourGoes 245 sh_245 L hL hO) (Nat.le_of_ble_eq_true rfl) (Nat.le_of_ble_eq_true rfl) (Nat.le_of_ble_eq_true rfl) (Nat.le_of_ble_eq_true rfl) (Nat.le_of_ble_eq_true rfl) (fun μ2 q2 => ?_)
      refine aw_iinc (v := nI (i + 1)) dX8_goAside_27 rfl (nI_1 i) (Nat.le_of_ble_eq_true rfl) ?_
      refine aw_goto (tgt := 15) dX8_goAside_30 (by decide) ?_
      have e6 : pHour L 6 = L 6 + 1 := pHour_6
      exact ih (i + 1) (pHour L) μ2 (by omega) q2.1 (pHour_ok hO (by omega)) (by omega) (hf.tr q2.2) e
set_option maxRecDepth 100000 in
set_option maxHeartbeats 4000000 in
theorem c_X8_goAside {G : am_G} {μ : am_M} (A : pA) (h : InvM μ A) (ok : okA A) (n : Nat) (hn : n ≤ 60) : am_MA G yX8_goAside cX8_goAside 3 none 3 0 0 [.ref 234, .int (nI n)] am_SH μ (am_P none am_SH (fun μ9 => mC μ9 245 (pH n A.K) ∧ am_fr μ μ9 245 1)) := by
  refine am_ofK (own := RX8) (nm := "goAside") (L := [some (.ref 234), some (.int (nI n)), none]) rfl rfl (by decide +kernel) (Nat.le_of_ble_eq_true rfl) rfl ?_
  refine aw_aload_n dX8_goAside_0 rfl ?_
  refine aw_gr dX8_goAside_1 gf_X8_22 sh_234 (by rfl) ?_
  refine aw_iconst (v := nI 0) dX8_goAside_4 rfl ?_
  refine aw_aload_n dX8_goAside_5 rfl ?_
  refine aw_gr dX8_goAside_6 gf_X8_41 sh_234 (by rfl) ?_
  refine aw_iconst (v := nI 0) dX8_goAside_9 rfl ?_
  refine aw_s4vp dX8_goAside_10 ml_X8_144 st_X8_copies (c_X8_copies 239 245 0 0 32 32 sh_239 sh_245 (by decide) (by decide) (by decide) (by decide) (by decide)) (Nat.le_of_ble_eq_true rfl) (Nat.le_of_ble_eq_true rfl) (Nat.le_of_ble_eq_true rfl) (Nat.le_of_ble_eq_true rfl) (Nat.le_of_ble_eq_true rfl) (fun μ2 q2 => ?_)
  refine aw_iconst (v := nI 0) dX8_goAside_13 rfl ?_
  refine aw_istore_n dX8_goAside_14 (Nat.le_of_ble_eq_true rfl) ?_
  exact l_X8_goAside A n hn n 0 A.K μ2 (by omega) (fun j hj => by have := q2.1 j hj; rw [Nat.zero_add] at this; rw [this]; exact h.sk j hj) ok.k (by have := ok.k6; omega) q2.2.2 rfl
set_option maxRecDepth 100000 in
set_option maxHeartbeats 4000000 in
theorem t_X8_remember {G : am_G} {μ : am_M} {μ1 : am_M} (A : pA) (acs : List pK) (ea : A.ac.take 23 = acs) (h : InvM μ1 (A.sK A.K acs)) (hl : acs.length ≤ 23) (hf : am_fr μ μ1 234 14) (X : Option Value) : am_W (am_K G RX8 "remember" 2 none 1 0 0 (am_P none am_SH (fun μ9 => InvM μ9 (A.act A.K) ∧ am_fr μ μ9 234 14))) cX8_remember 49 [some (.ref 234), X] [] am_SH μ1 0 0 := by
  refine aw_aload_n dX8_remember_49 rfl ?_
  refine aw_gr dX8_remember_50 gf_X8_22 sh_234 (by rfl) ?_
  refine aw_iconst (v := nI 0) dX8_remember_53 rfl ?_
  refine aw_aload_n dX8_remember_54 rfl ?_
  refine aw_gr dX8_remember_55 gf_X8_25 sh_234 (by rfl) ?_
  refine aw_bipush (v := nI 32) dX8_remember_58 rfl ?_
  refine aw_aload_n dX8_remember_60 rfl ?_
  refine aw_gi dX8_remember_61 gf_X8_141 sh_234 (by rfl) ?_
  refine aw_top h.acn ?_
  refine aw_imul dX8_remember_64 ?_
  refine aw_top (pk_mul _ _) ?_
  refine aw_s4vp dX8_remember_65 ml_X8_144 st_X8_copies (c_X8_copies 239 240 0 (32 * acs.length) 32 768 sh_239 sh_240 (by decide) (by decide) (by omega) (by decide) (by decide)) (Nat.le_of_ble_eq_true rfl) (Nat.le_of_ble_eq_true rfl) (Nat.le_of_ble_eq_true rfl) (Nat.le_of_ble_eq_true rfl) (Nat.le_of_ble_eq_true rfl) (fun μ2 q2 => ?_)
  refine aw_aload_n dX8_remember_68 rfl ?_
  refine aw_dup dX8_remember_69 rfl ?_
  refine aw_gi dX8_remember_70 gf_X8_141 sh_234 (by rfl) ?_
  refine aw_top (show _ = nI acs.length by rw [q2.2.2 234 (by omega)]; exact h.acn) ?_
  refine aw_iconst (v := nI 1) dX8_remember_73 rfl ?_
  refine aw_iadd dX8_remember_74 ?_
  refine aw_top (nI_add _ _) ?_
  refine aw_pi dX8_remember_75 pf_X8_141 rfl rfl sh_234 (by rfl) ?_
  refine aw_vret dX8_remember_78 rfl rfl rfl ?_
  have es : A.act A.K = (A.sK A.K acs).sK A.K (A.K :: acs) := by rw [← ea]; rfl
  rw [es]
  refine ⟨rfl, rfl, h.sky (fun b hb => by rw [am_up_n (by omega)]; exact q2.2.2 b (by omega)) (fun j hj => by rw [am_ups, pk_un (by omega), q2.2.2 234 (by omega)]) (fun j hj => by rw [am_upn (by decide), q2.2.2 239 (by omega)]; exact h.sk j hj) Iff.rfl (by rw [am_ups, pk_us]; rfl) (fun i K hi j hj => ?_), (hf.tr (q2.2.2.mono (by omega) (by omega))).up (by omega) (by omega)⟩
  rw [am_upn (by decide)]
  cases i with
  | zero =>
    have e0 : K = A.K := by simpa using hi.symm
    subst e0
    show μ2 240 (32 * (acs.length + 1 - 1 - 0) + j) = _
    rw [show acs.length + 1 - 1 - 0 = acs.length by omega, q2.1 j hj, Nat.zero_add]
    exact h.sk j hj
  | succ i =>
    have hi2 : acs[i]? = some K := by simpa using hi
    have hl : i < acs.length := (List.getElem?_eq_some_iff.mp hi2).1
    show μ2 240 (32 * (acs.length + 1 - 1 - (i + 1)) + j) = _
    rw [q2.2.1 _ (by omega), show acs.length + 1 - 1 - (i + 1) = acs.length - 1 - i by omega]
    exact h.ac i K hi2 j hj
set_option maxRecDepth 100000 in
set_option maxHeartbeats 4000000 in
theorem l_X8_remember {G : am_G} {μ : am_M} (A : pA) (h : InvM μ A) (h24 : A.ac.length = 24) : ∀ (r c : Nat) (μ1 : am_M), c + r = 736 → (∀ q, q < c → μ1 240 q = μ 240 (q + 32)) → (∀ q, c ≤ q → μ1 240 q = μ 240 q) → am_fr μ μ1 240 1 → am_W (am_K G RX8 "remember" 2 none 1 0 0 (am_P none am_SH (fun μ9 => InvM μ9 (A.act A.K) ∧ am_fr μ μ9 234 14))) cX8_remember 11 [some (.ref 234), some (.int (nI c))] [] am_SH μ1 0 0 := by
  intro r
  induction r with
  | zero =>
    intro c μ1 hc hm hq hf
    refine aw_iload_n dX8_remember_11 rfl ?_
    refine aw_sipush (v := nI 736) dX8_remember_12 rfl ?_
    refine aw_icmp_ge (tgt := 39) dX8_remember_15 (by decide) (fun c15 => ?_) (fun c15 => ?_)
    · refine aw_aload_n dX8_remember_39 rfl ?_
      refine aw_dup dX8_remember_40 rfl ?_
      refine aw_gi dX8_remember_41 gf_X8_141 sh_234 (by rfl) ?_
      refine aw_top (show _ = nI 24 by rw [hf 234 (by omega), h.acn, h24]) ?_
      refine aw_iconst (v := nI 1) dX8_remember_44 rfl ?_
      refine aw_isub dX8_remember_45 ?_
      refine aw_top (show nI 24 - nI 1 = nI 23 by decide +kernel) ?_
      refine aw_pi dX8_remember_46 pf_X8_141 rfl rfl sh_234 (by rfl) ?_
      have hl23 : (A.ac.take 23).length = 23 := by rw [List.length_take, h24]; decide
      refine t_X8_remember A (A.ac.take 23) rfl (h.sky (fun b hb => by rw [am_up_n (by omega)]; exact hf b (by omega)) (fun j hj => by rw [am_ups, pk_un (by omega), hf 234 (by omega)]) (fun j hj => by rw [am_upn (by decide), hf 239 (by omega)]; exact h.sk j hj) Iff.rfl (by rw [am_ups, pk_us, hl23]) (fun i K hi j hj => ?_)) (by omega) ((hf.mono (by omega) (by omega)).up (by omega) (by omega)) _
      rw [List.getElem?_take] at hi
      split at hi
      · rename_i hi3
        rw [am_upn (by decide), hl23, hm _ (by omega), show 32 * (23 - 1 - i) + j + 32 = 32 * (A.ac.length - 1 - i) + j by omega]
        exact h.ac i K hi j hj
      · exact absurd hi (by simp)
    · exact absurd (nI_le (by omega) (by omega)) c15
  | succ r ih =>
    intro c μ1 hc hm hq hf
    refine aw_iload_n dX8_remember_11 rfl ?_
    refine aw_sipush (v := nI 736) dX8_remember_12 rfl ?_
    refine aw_icmp_ge (tgt := 39) dX8_remember_15 (by decide) (fun c15 => ?_) (fun c15 => ?_)
    · exact absurd c15 (nI_ge (by omega) (by omega))
    · refine aw_aload_n dX8_remember_18 rfl ?_
      refine aw_gr dX8_remember_19 gf_X8_25 sh_234 (by rfl) ?_
      refine aw_iload_n dX8_remember_22 rfl ?_
      refine aw_aload_n dX8_remember_23 rfl ?_
      refine aw_gr dX8_remember_24 gf_X8_25 sh_234 (by rfl) ?_
      refine aw_iload_n dX8_remember_27 rfl ?_
      refine aw_bipush (v := nI 32) dX8_remember_28 rfl ?_
      refine aw_iadd dX8_remember_30 ?_
      refine aw_top (nI_add _ _) ?_
      refine aw_iald dX8_remember_31 sh_240 rfl (by omega) (by decide) ?_
      refine aw_top (hq (c + 32) (by omega)) ?_
      refine aw_iast dX8_remember_32 sh_240 rfl (by omega) (by decide) ?_
      refine aw_iinc (v := nI (c + 1)) dX8_remember_33 rfl (nI_1 c) (Nat.le_of_ble_eq_true rfl) ?_
      refine aw_goto (tgt := 11) dX8_remember_36 (by decide) ?_
      refine ih (c + 1) _ (by omega) (fun q hq2 => ?_) (fun q hq2 => ?_) (hf.up (by omega) (by omega))
      · rw [am_ups]
        by_cases e : q = c
        · rw [e, pk_us]
        · rw [pk_un e]; exact hm q (by omega)
      · rw [am_ups, pk_un (by omega)]; exact hq q (by omega)
set_option maxRecDepth 100000 in
set_option maxHeartbeats 4000000 in
theorem c_X8_remember {G : am_G} {μ : am_M} (A : pA) (h : InvM μ A) (ok : okA A) : am_MA G yX8_remember cX8_remember 2 none 1 0 0 [.ref 234] am_SH μ (am_P none am_SH (fun μ9 => InvM μ9 (A.act A.K) ∧ am_fr μ μ9 234 14)) := by
  have hl := ok.acl
  refine am_ofK (own := RX8) (nm := "remember") (L := [some (.ref 234), none]) rfl rfl (by decide +kernel) (Nat.le_of_ble_eq_true rfl) rfl ?_
  refine aw_aload_n dX8_remember_0 rfl ?_
  refine aw_gi dX8_remember_1 gf_X8_141 sh_234 (by rfl) ?_
  refine aw_top h.acn ?_
  refine aw_bipush (v := nI 24) dX8_remember_4 rfl ?_
  refine aw_icmp_ne (tgt := 49) dX8_remember_6 (by decide) (fun c6 => ?_) (fun c6 => ?_)
  · rw [nI_eq (by omega) (by decide)] at c6
    exact t_X8_remember A A.ac (List.take_of_length_le (by omega)) h (by omega) am_fr.rf _
  · rw [nI_eq (by omega) (by decide)] at c6
    refine aw_iconst (v := nI 0) dX8_remember_9 rfl ?_
    refine aw_istore_n dX8_remember_10 (Nat.le_of_ble_eq_true rfl) ?_
    exact l_X8_remember A h c6 736 0 μ rfl (fun q hq => absurd hq (by omega)) (fun q _ => rfl) am_fr.rf
theorem z_add64 {i n : Int32} {s : Nat} (hs : s ≤ 40) (hi : 0 ≤ i.toInt) (hn : 0 ≤ n.toInt) : i.toInt64 + n.toInt64 ≤ (nI s).toInt64 ↔ i.toInt + n.toInt ≤ s := by
  obtain ⟨a, ha, rfl⟩ := nI_of (x := i) (by rw [z_neg]; omega)
  obtain ⟨b, hb, rfl⟩ := nI_of (x := n) (by rw [z_neg]; omega)
  rw [nI_l ha, nI_l hb, nI_l (by omega), lN_add, nI_toInt ha, nI_toInt hb]
  rw [Int64.le_iff_toInt_le]
  have e : (lN (a + b)).toInt = ((a + b : Nat) : Int) := lg_ofNat_toInt (by omega)
  rw [e, lN_toInt (by omega)]
  omega
