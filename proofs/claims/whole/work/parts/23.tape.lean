/-! ===== the tape and its reader ===== -/
def pFigB (v : Nat) : Bool := decide (48 ≤ v) && decide (v ≤ 57)
/-- how many figures stand from p on, three at most: c are known -/
def pFg (tb : Nat → Nat) (tl p : Nat) : Nat → Nat → Nat
  | 0, c => c
  | r + 1, c => if p + c < tl ∧ pFigB (tb (p + c)) = true then pFg tb tl p r (c + 1) else c
def pFigs (tb : Nat → Nat) (tl p : Nat) : Nat := pFg tb tl p 3 0
def pV (tb : Nat → Nat) : Nat → Nat → Nat → Nat
  | 0, _, v => v
  | r + 1, i, v => pV tb r (i + 1) (v * 10 + tb i - 48)
def pTB (tb : Nat → Nat) (tl due : Nat) (s : Nat × Nat) : Nat × Nat := if s.1 ≠ 0 then s else if s.2 < tl ∧ tb s.2 = due then (0, s.2 + 1) else (1, s.2)
def pTN (tb : Nat → Nat) (tl most : Nat) (s : Nat × Nat) : (Nat × Nat) × Nat := if s.1 ≠ 0 then (s, 0) else if pFigs tb tl s.2 = 0 ∨ 2 < pFigs tb tl s.2 then ((1, s.2), 0) else if most < pV tb (pFigs tb tl s.2) s.2 0 then ((2, s.2), 0) else ((0, s.2 + pFigs tb tl s.2), pV tb (pFigs tb tl s.2) s.2 0)
def pTS (tb : Nat → Nat) (tl offices : Nat) (s : Nat × Nat) : (Nat × Nat) × Nat := if s.1 ≠ 0 then (s, 0) else if s.2 < tl ∧ pSort (tb s.2) ≠ 0 then (if offices < 5 then ((0, s.2 + 1), pSort (tb s.2)) else ((3, s.2), pSort (tb s.2))) else ((1, s.2), 0)
theorem pFg_le (tb : Nat → Nat) (tl p : Nat) : ∀ r c, c ≤ pFg tb tl p r c ∧ pFg tb tl p r c ≤ c + r
  | 0, c => ⟨Nat.le_refl _, Nat.le_refl _⟩
  | r + 1, c => by
    unfold pFg
    split
    · have := pFg_le tb tl p r (c + 1); omega
    · omega
theorem pFg_in (tb : Nat → Nat) (tl p : Nat) : ∀ r c, p + c ≤ tl → p + pFg tb tl p r c ≤ tl
  | 0, c, h => h
  | r + 1, c, h => by
    unfold pFg
    split
    · exact pFg_in tb tl p r (c + 1) (by omega)
    · exact h
theorem pFg_fig (tb : Nat → Nat) (tl p : Nat) : ∀ r c, (∀ j, j < c → 48 ≤ tb (p + j) ∧ tb (p + j) ≤ 57) → ∀ j, j < pFg tb tl p r c → 48 ≤ tb (p + j) ∧ tb (p + j) ≤ 57
  | 0, c, h => h
  | r + 1, c, h => by
    unfold pFg
    split
    · rename_i hc
      refine pFg_fig tb tl p r (c + 1) (fun j hj => ?_)
      by_cases e : j = c
      · subst e
        have := hc.2
        simp [pFigB] at this
        exact this
      · exact h j (by omega)
    · exact h
/-- the class's reader: the tape, where it reads, its fault -/
def tpC (μ : am_M) (tb : Nat → Nat) (tl : Nat) (s : Nat × Nat) : Prop := μ 18 1 = nI tl ∧ μ 18 2 = nI s.2 ∧ μ 18 3 = nI s.1 ∧ ∀ j, j < tl → μ 19 j = nI (tb j)
def tpOK (tb : Nat → Nat) (tl : Nat) : Prop := tl ≤ 100 ∧ ∀ j, j < tl → tb j < 256
def rdOK (tl : Nat) (s : Nat × Nat) : Prop := s.1 ≤ 3 ∧ s.2 ≤ tl
theorem pTB_ok {tb : Nat → Nat} {tl due : Nat} {s : Nat × Nat} (h : rdOK tl s) : rdOK tl (pTB tb tl due s) := by
  obtain ⟨h1, h2⟩ := h
  unfold pTB
  split
  · exact ⟨h1, h2⟩
  · split
    · rename_i q; exact ⟨by simp, q.1⟩
    · exact ⟨by simp, h2⟩
theorem pTN_ok {tb : Nat → Nat} {tl most : Nat} {s : Nat × Nat} (h : rdOK tl s) : rdOK tl (pTN tb tl most s).1 ∧ (pTN tb tl most s).2 ≤ most := by
  obtain ⟨h1, h2⟩ := h
  unfold pTN
  split
  · exact ⟨⟨h1, h2⟩, Nat.zero_le _⟩
  · split
    · exact ⟨⟨by simp, h2⟩, Nat.zero_le _⟩
    · split
      · exact ⟨⟨by simp, h2⟩, Nat.zero_le _⟩
      · exact ⟨⟨by simp, pFg_in tb tl s.2 3 0 h2⟩, by simp only []; omega⟩
theorem pTS_ok {tb : Nat → Nat} {tl off : Nat} {s : Nat × Nat} (h : rdOK tl s) : rdOK tl (pTS tb tl off s).1 ∧ (pTS tb tl off s).2 ≤ 5 := by
  obtain ⟨h1, h2⟩ := h
  have hs : ∀ v, pSort v ≤ 5 := by intro v; unfold pSort; (repeat' split) <;> omega
  unfold pTS
  split
  · exact ⟨⟨h1, h2⟩, Nat.zero_le _⟩
  · split
    · rename_i q
      split
      · exact ⟨⟨by simp, q.1⟩, hs _⟩
      · exact ⟨⟨by simp, h2⟩, hs _⟩
    · exact ⟨⟨by simp, h2⟩, Nat.zero_le _⟩
set_option maxRecDepth 100000 in
set_option maxHeartbeats 4000000 in
theorem c_X6_add {G : am_G} {μ : am_M} (tb : Nat → Nat) (tl : Nat) (s : Nat × Nat) (ht : tpC μ tb tl s) (hk : tpOK tb tl) (hl : tl < 100) (v : Nat) : am_MA G yX6_add cX6_add 2 (some .int) 0 0 0 [.ref 18, .int (nI v)] am_SH μ (am_P (some (.int (nI (tl + 1)))) am_SH (fun μ9 => tpC μ9 (pUp tb tl v) (tl + 1) s ∧ am_fr μ μ9 18 2)) := by
  obtain ⟨t1, t2, t3, t4⟩ := id ht
  have k1 := hk.1
  refine am_ofK (own := RX6) (nm := "add") (L := [some (.ref 18), some (.int (nI v))]) rfl rfl (by decide +kernel) (Nat.le_of_ble_eq_true rfl) rfl ?_
  refine aw_aload_n dX6_add_0 rfl ?_
  refine aw_gi dX6_add_1 gf_X6_15 sh_18 (by rfl) ?_
  refine aw_top t1 ?_
  refine aw_bipush (v := nI 100) dX6_add_4 rfl ?_
  refine aw_icmp_lt (tgt := 12) dX6_add_6 (by decide) (fun c6 => ?_) (fun c6 => ?_)
  · refine aw_aload_n dX6_add_12 rfl ?_
    refine aw_gr dX6_add_13 gf_X6_11 sh_18 (by rfl) ?_
    refine aw_aload_n dX6_add_16 rfl ?_
    refine aw_gi dX6_add_17 gf_X6_15 sh_18 (by rfl) ?_
    refine aw_top t1 ?_
    refine aw_iload_n dX6_add_20 rfl ?_
    refine aw_iast dX6_add_21 sh_19 rfl (by omega) (by decide) ?_
    refine aw_aload_n dX6_add_22 rfl ?_
    refine aw_dup dX6_add_23 rfl ?_
    refine aw_gi dX6_add_24 gf_X6_15 sh_18 (by rfl) ?_
    refine aw_top (show _ = nI tl by rw [am_upn (by omega)]; exact t1) ?_
    refine aw_iconst (v := nI 1) dX6_add_27 rfl ?_
    refine aw_iadd dX6_add_28 ?_
    refine aw_top (nI_add _ _) ?_
    refine aw_pi dX6_add_29 pf_X6_15 rfl rfl sh_18 (by rfl) ?_
    refine aw_aload_n dX6_add_32 rfl ?_
    refine aw_gi dX6_add_33 gf_X6_15 sh_18 (by rfl) ?_
    refine aw_top (show _ = nI (tl + 1) by rw [am_ups, pk_us]) ?_
    refine aw_iret dX6_add_36 rfl rfl rfl rfl ?_
    refine ⟨rfl, rfl, ⟨by rw [am_ups, pk_us], by rw [am_ups, pk_un (by decide), am_upn (by omega)]; exact t2, by rw [am_ups, pk_un (by decide), am_upn (by omega)]; exact t3, fun j hj => ?_⟩, (am_fr.rf.up (by omega) (by omega)).up (by omega) (by omega)⟩
    rw [am_upn (by omega), am_ups]
    by_cases e : j = tl
    · subst e; rw [pk_us, pUp_s]
    · rw [pk_un e, pUp_n e]; exact t4 j (by omega)
  · exact absurd (nI_lt (by omega) (by omega)) c6
set_option maxRecDepth 100000 in
set_option maxHeartbeats 4000000 in
theorem c_X6_addF {G : am_G} {μ : am_M} (tb : Nat → Nat) (tl : Nat) (s : Nat × Nat) (ht : tpC μ tb tl s) (hk : tpOK tb tl) (hl : tl = 100) (v : Int32) : am_MA G yX6_add cX6_add 2 (some .int) 0 0 0 [.ref 18, .int v] am_SH μ (am_E (some (.int (-1000003))) am_SH μ) := by
  obtain ⟨t1, t2, t3, t4⟩ := id ht
  have k1 := hk.1
  refine am_ofK (own := RX6) (nm := "add") (L := [some (.ref 18), some (.int v)]) rfl rfl (by decide +kernel) (Nat.le_of_ble_eq_true rfl) rfl ?_
  refine aw_aload_n dX6_add_0 rfl ?_
  refine aw_gi dX6_add_1 gf_X6_15 sh_18 (by rfl) ?_
  refine aw_top t1 ?_
  refine aw_bipush (v := nI 100) dX6_add_4 rfl ?_
  refine aw_icmp_lt (tgt := 12) dX6_add_6 (by decide) (fun c6 => ?_) (fun c6 => ?_)
  · exact absurd c6 (nI_nlt (by omega) (by omega))
  · refine aw_ldc dX6_add_9 kc_X6_19 ?_
    refine aw_iret dX6_add_11 rfl rfl rfl rfl ?_
    exact ⟨rfl, rfl, rfl⟩
set_option maxRecDepth 100000 in
set_option maxHeartbeats 4000000 in
theorem c_X6_isFigure {G : am_G} {sh : List am_S} {μ : am_M} (v : Nat) (hv : v < 256) : am_MA G yX6_isFigure cX6_isFigure 1 (some .boolean) 0 0 0 [.int (nI v)] sh μ (am_E (some (.int (pI (pFigB v = true)))) sh μ) := by
  refine am_ofK (own := RX6) (nm := "isFigure") (L := [some (.int (nI v))]) rfl rfl (by decide +kernel) (Nat.le_of_ble_eq_true rfl) rfl ?_
  refine aw_iload_n dX6_isFigure_0 rfl ?_
  refine aw_bipush (v := nI 48) dX6_isFigure_1 rfl ?_
  refine aw_icmp_lt (tgt := 16) dX6_isFigure_3 (by decide) (fun c3 => ?_) (fun c3 => ?_)
  · rw [nI_ltI (by omega) (by omega)] at c3
    refine aw_iconst (v := nI 0) dX6_isFigure_16 rfl ?_
    refine aw_iret dX6_isFigure_17 rfl rfl rfl rfl ?_
    exact ⟨congrArg (fun z => some (Value.int z)) (pI_n (by simp [pFigB]; omega)).symm, rfl, rfl⟩
  · rw [nI_ltI (by omega) (by omega)] at c3
    refine aw_iload_n dX6_isFigure_6 rfl ?_
    refine aw_bipush (v := nI 57) dX6_isFigure_7 rfl ?_
    refine aw_icmp_gt (tgt := 16) dX6_isFigure_9 (by decide) (fun c9 => ?_) (fun c9 => ?_)
    · rw [nI_ltI (by omega) (by omega)] at c9
      refine aw_iconst (v := nI 0) dX6_isFigure_16 rfl ?_
      refine aw_iret dX6_isFigure_17 rfl rfl rfl rfl ?_
      exact ⟨congrArg (fun z => some (Value.int z)) (pI_n (by simp [pFigB]; omega)).symm, rfl, rfl⟩
    · rw [nI_ltI (by omega) (by omega)] at c9
      refine aw_iconst (v := nI 1) dX6_isFigure_12 rfl ?_
      refine aw_goto (tgt := 17) dX6_isFigure_13 (by decide) ?_
      refine aw_iret dX6_isFigure_17 rfl rfl rfl rfl ?_
      exact ⟨congrArg (fun z => some (Value.int z)) (pI_1 (by simp [pFigB]; omega)).symm, rfl, rfl⟩
set_option maxRecDepth 100000 in
set_option maxHeartbeats 4000000 in
theorem l_X6_figuresHere {G : am_G} {μ : am_M} (tb : Nat → Nat) (tl : Nat) (s : Nat × Nat) (ht : tpC μ tb tl s) (hk : tpOK tb tl) (hr : rdOK tl s) : ∀ (r c : Nat), c + r = 3 → pFg tb tl s.2 r c = pFigs tb tl s.2 → am_W (am_K G RX6 "figuresHere" 2 (some .int) 1 0 0 (am_E (some (.int (nI (pFigs tb tl s.2)))) am_SH μ)) cX6_figuresHere 2 [some (.ref 18), some (.int (nI c))] [] am_SH μ 0 0 := by
  obtain ⟨t1, t2, t3, t4⟩ := id ht
  have k1 := hk.1
  have hr2 := hr.2
  intro r
  induction r with
  | zero =>
    intro c hc e
    refine aw_iload_n dX6_figuresHere_2 rfl ?_
    refine aw_iconst (v := nI 3) dX6_figuresHere_3 rfl ?_
    refine aw_icmp_ge (tgt := 43) dX6_figuresHere_4 (by decide) (fun c4 => ?_) (fun c4 => ?_)
    · refine aw_iload_n dX6_figuresHere_43 rfl ?_
      refine aw_iret dX6_figuresHere_44 rfl rfl rfl rfl ?_
      exact ⟨congrArg (fun z => some (Value.int (nI z))) e, rfl, rfl⟩
    · exact absurd (nI_le (by omega) (by omega)) c4
  | succ r ih =>
    intro c hc e
    refine aw_iload_n dX6_figuresHere_2 rfl ?_
    refine aw_iconst (v := nI 3) dX6_figuresHere_3 rfl ?_
    refine aw_icmp_ge (tgt := 43) dX6_figuresHere_4 (by decide) (fun c4 => ?_) (fun c4 => ?_)
    · exact absurd c4 (nI_ge (by omega) (by omega))
    · refine aw_aload_n dX6_figuresHere_7 rfl ?_
      refine aw_gi dX6_figuresHere_8 gf_X6_20 sh_18 (by rfl) ?_
      refine aw_top t2 ?_
      refine aw_iload_n dX6_figuresHere_11 rfl ?_
      refine aw_iadd dX6_figuresHere_12 ?_
      refine aw_top (nI_add _ _) ?_
      refine aw_aload_n dX6_figuresHere_13 rfl ?_
      refine aw_gi dX6_figuresHere_14 gf_X6_15 sh_18 (by rfl) ?_
      refine aw_top t1 ?_
      refine aw_icmp_ge (tgt := 43) dX6_figuresHere_17 (by decide) (fun c17 => ?_) (fun c17 => ?_)
      · rw [nI_leI (by omega) (by omega)] at c17
        have e : c = pFigs tb tl s.2 := by rw [← e]; show _ = if _ then _ else _; rw [if_neg (by omega)]
        refine aw_iload_n dX6_figuresHere_43 rfl ?_
        refine aw_iret dX6_figuresHere_44 rfl rfl rfl rfl ?_
        exact ⟨congrArg (fun z => some (Value.int (nI z))) e, rfl, rfl⟩
      · rw [nI_leI (by omega) (by omega)] at c17
        refine aw_aload_n dX6_figuresHere_20 rfl ?_
        refine aw_gr dX6_figuresHere_21 gf_X6_11 sh_18 (by rfl) ?_
        refine aw_aload_n dX6_figuresHere_24 rfl ?_
        refine aw_gi dX6_figuresHere_25 gf_X6_20 sh_18 (by rfl) ?_
        refine aw_top t2 ?_
        refine aw_iload_n dX6_figuresHere_28 rfl ?_
        refine aw_iadd dX6_figuresHere_29 ?_
        refine aw_top (nI_add _ _) ?_
        refine aw_iald dX6_figuresHere_30 sh_19 rfl (by omega) (by decide) ?_
        refine aw_top (t4 _ (by omega)) ?_
        refine aw_s1i dX6_figuresHere_31 ml_X6_71 st_X6_isFigure (c_X6_isFigure (tb (s.2 + c)) (hk.2 _ (by omega))) (Nat.le_of_ble_eq_true rfl) (Nat.le_of_ble_eq_true rfl) (Nat.le_of_ble_eq_true rfl) (Nat.le_of_ble_eq_true rfl) (Nat.le_of_ble_eq_true rfl) ?_
        refine aw_pif_eq (tgt := 43) dX6_figuresHere_34 (by decide) (fun c34 => ?_) (fun c34 => ?_)
        · have e : c = pFigs tb tl s.2 := by rw [← e]; show _ = if _ then _ else _; rw [if_neg (fun q => c34 q.2)]
          refine aw_iload_n dX6_figuresHere_43 rfl ?_
          refine aw_iret dX6_figuresHere_44 rfl rfl rfl rfl ?_
          exact ⟨congrArg (fun z => some (Value.int (nI z))) e, rfl, rfl⟩
        · refine aw_iinc (v := nI (c + 1)) dX6_figuresHere_37 rfl (nI_1 c) (Nat.le_of_ble_eq_true rfl) ?_
          refine aw_goto (tgt := 2) dX6_figuresHere_40 (by decide) ?_
          exact ih (c + 1) (by omega) (by rw [← e]; show _ = if _ then _ else _; rw [if_pos ⟨by omega, c34⟩])
set_option maxRecDepth 100000 in
set_option maxHeartbeats 4000000 in
theorem c_X6_figuresHere {G : am_G} {μ : am_M} (tb : Nat → Nat) (tl : Nat) (s : Nat × Nat) (ht : tpC μ tb tl s) (hk : tpOK tb tl) (hr : rdOK tl s) : am_MA G yX6_figuresHere cX6_figuresHere 2 (some .int) 1 0 0 [.ref 18] am_SH μ (am_E (some (.int (nI (pFigs tb tl s.2)))) am_SH μ) := by
  refine am_ofK (own := RX6) (nm := "figuresHere") (L := [some (.ref 18), none]) rfl rfl (by decide +kernel) (Nat.le_of_ble_eq_true rfl) rfl ?_
  refine aw_iconst (v := nI 0) dX6_figuresHere_0 rfl ?_
  refine aw_istore_n dX6_figuresHere_1 (Nat.le_of_ble_eq_true rfl) ?_
  exact l_X6_figuresHere tb tl s ht hk hr 3 0 (by omega) rfl
set_option maxRecDepth 100000 in
set_option maxHeartbeats 4000000 in
theorem c_X6_takeByte {G : am_G} {μ : am_M} (tb : Nat → Nat) (tl : Nat) (s : Nat × Nat) (ht : tpC μ tb tl s) (hk : tpOK tb tl) (hr : rdOK tl s) (due : Nat) (hd : due < 256) : am_MA G yX6_takeByte cX6_takeByte 2 none 0 0 0 [.ref 18, .int (nI due)] am_SH μ (am_P none am_SH (fun μ9 => tpC μ9 tb tl (pTB tb tl due s) ∧ am_fr μ μ9 18 1)) := by
  obtain ⟨t1, t2, t3, t4⟩ := id ht
  have k1 := hk.1
  have hr1 := hr.1
  have hr2 := hr.2
  refine am_ofK (own := RX6) (nm := "takeByte") (L := [some (.ref 18), some (.int (nI due))]) rfl rfl (by decide +kernel) (Nat.le_of_ble_eq_true rfl) rfl ?_
  refine aw_aload_n dX6_takeByte_0 rfl ?_
  refine aw_gi dX6_takeByte_1 gf_X6_23 sh_18 (by rfl) ?_
  refine aw_top t3 ?_
  refine aw_if_eq (tgt := 8) dX6_takeByte_4 (by decide) (fun c4 => ?_) (fun c4 => ?_)
  · rw [z_eq (by omega)] at c4
    refine aw_aload_n dX6_takeByte_8 rfl ?_
    refine aw_gi dX6_takeByte_9 gf_X6_20 sh_18 (by rfl) ?_
    refine aw_top t2 ?_
    refine aw_aload_n dX6_takeByte_12 rfl ?_
    refine aw_gi dX6_takeByte_13 gf_X6_15 sh_18 (by rfl) ?_
    refine aw_top t1 ?_
    refine aw_icmp_ge (tgt := 45) dX6_takeByte_16 (by decide) (fun c16 => ?_) (fun c16 => ?_)
    · rw [nI_leI (by omega) (by omega)] at c16
      have e : pTB tb tl due s = (1, s.2) := by unfold pTB; rw [if_neg (by omega), if_neg (by omega)]
      refine aw_aload_n dX6_takeByte_45 rfl ?_
      refine aw_iconst (v := nI 1) dX6_takeByte_46 rfl ?_
      refine aw_pi dX6_takeByte_47 pf_X6_23 rfl rfl sh_18 (by rfl) ?_
      refine aw_vret dX6_takeByte_50 rfl rfl rfl ?_
      refine ⟨rfl, rfl, ?_⟩
      rw [e]
      exact ⟨⟨by rw [am_ups, pk_un (by decide)]; exact t1, by rw [am_ups, pk_un (by decide)]; exact t2, by rw [am_ups, pk_us], fun j hj => by rw [am_upn (by omega)]; exact t4 j hj⟩, am_fr.rf.up (by omega) (by omega)⟩
    · rw [nI_leI (by omega) (by omega)] at c16
      refine aw_aload_n dX6_takeByte_19 rfl ?_
      refine aw_gr dX6_takeByte_20 gf_X6_11 sh_18 (by rfl) ?_
      refine aw_aload_n dX6_takeByte_23 rfl ?_
      refine aw_gi dX6_takeByte_24 gf_X6_20 sh_18 (by rfl) ?_
      refine aw_top t2 ?_
      refine aw_iald dX6_takeByte_27 sh_19 rfl (by omega) (by decide) ?_
      refine aw_top (t4 _ (by omega)) ?_
      refine aw_iload_n dX6_takeByte_28 rfl ?_
      refine aw_icmp_ne (tgt := 45) dX6_takeByte_29 (by decide) (fun c29 => ?_) (fun c29 => ?_)
      · rw [nI_eq (by have := hk.2 s.2 (by omega); omega) (by omega)] at c29
        have e : pTB tb tl due s = (1, s.2) := by unfold pTB; rw [if_neg (by omega), if_neg (fun q => c29 q.2)]
        refine aw_aload_n dX6_takeByte_45 rfl ?_
        refine aw_iconst (v := nI 1) dX6_takeByte_46 rfl ?_
        refine aw_pi dX6_takeByte_47 pf_X6_23 rfl rfl sh_18 (by rfl) ?_
        refine aw_vret dX6_takeByte_50 rfl rfl rfl ?_
        refine ⟨rfl, rfl, ?_⟩
        rw [e]
        exact ⟨⟨by rw [am_ups, pk_un (by decide)]; exact t1, by rw [am_ups, pk_un (by decide)]; exact t2, by rw [am_ups, pk_us], fun j hj => by rw [am_upn (by omega)]; exact t4 j hj⟩, am_fr.rf.up (by omega) (by omega)⟩
      · rw [nI_eq (by have := hk.2 s.2 (by omega); omega) (by omega)] at c29
        have e : pTB tb tl due s = (0, s.2 + 1) := by unfold pTB; rw [if_neg (by omega), if_pos ⟨by omega, c29⟩]
        refine aw_aload_n dX6_takeByte_32 rfl ?_
        refine aw_dup dX6_takeByte_33 rfl ?_
        refine aw_gi dX6_takeByte_34 gf_X6_20 sh_18 (by rfl) ?_
        refine aw_top t2 ?_
        refine aw_iconst (v := nI 1) dX6_takeByte_37 rfl ?_
        refine aw_iadd dX6_takeByte_38 ?_
        refine aw_top (nI_add _ _) ?_
        refine aw_pi dX6_takeByte_39 pf_X6_20 rfl rfl sh_18 (by rfl) ?_
        refine aw_goto (tgt := 50) dX6_takeByte_42 (by decide) ?_
        refine aw_vret dX6_takeByte_50 rfl rfl rfl ?_
        refine ⟨rfl, rfl, ?_⟩
        rw [e]
        exact ⟨⟨by rw [am_ups, pk_un (by decide)]; exact t1, by rw [am_ups, pk_us], by rw [am_ups, pk_un (by decide)]; exact (t3.trans (by congr 1)), fun j hj => by rw [am_upn (by omega)]; exact t4 j hj⟩, am_fr.rf.up (by omega) (by omega)⟩
  · rw [z_eq (by omega)] at c4
    refine aw_vret dX6_takeByte_7 rfl rfl rfl ?_
    have e : pTB tb tl due s = s := by unfold pTB; rw [if_pos c4]
    refine ⟨rfl, rfl, ?_⟩
    rw [e]
    exact ⟨ht, am_fr.rf⟩
set_option maxRecDepth 100000 in
set_option maxHeartbeats 4000000 in
theorem l_X6_takeNumber {G : am_G} {μ : am_M} (tb : Nat → Nat) (tl : Nat) (s : Nat × Nat) (ht : tpC μ tb tl s) (hk : tpOK tb tl) (hr : rdOK tl s) (most : Nat) (hm : most < 100) (h0 : s.1 = 0) (hg : ¬ (pFigs tb tl s.2 = 0 ∨ 2 < pFigs tb tl s.2)) : ∀ (r i v : Nat), s.2 ≤ i ∧ i + r = s.2 + pFigs tb tl s.2 → (v = 0 ∧ r ≤ 2 ∨ v ≤ 9 ∧ r ≤ 1 ∨ v ≤ 99 ∧ r = 0) → pV tb r i v = pV tb (pFigs tb tl s.2) s.2 0 → am_W (am_K G RX6 "takeNumber" 5 (some .int) 2 0 0 (am_P (some (.int (nI (pTN tb tl most s).2))) am_SH (fun μ9 => tpC μ9 tb tl (pTN tb tl most s).1 ∧ am_fr μ μ9 18 1))) cX6_takeNumber 38 [some (.ref 18), some (.int (nI most)), some (.int (nI (pFigs tb tl s.2))), some (.int (nI v)), some (.int (nI i))] [] am_SH μ 0 0 := by
  obtain ⟨t1, t2, t3, t4⟩ := id ht
  have k1 := hk.1
  have hr1 := hr.1
  have hr2 := hr.2
  have f2 : s.2 + pFigs tb tl s.2 ≤ tl := pFg_in tb tl s.2 3 0 hr2
  have fd : ∀ j, j < pFigs tb tl s.2 → 48 ≤ tb (s.2 + j) ∧ tb (s.2 + j) ≤ 57 := pFg_fig tb tl s.2 3 0 (fun j hj => by omega)
  intro r
  induction r with
  | zero =>
    intro i v hi hv e
    have e : v = pV tb (pFigs tb tl s.2) s.2 0 := e
    refine aw_iload dX6_takeNumber_38 rfl ?_
    refine aw_aload_n dX6_takeNumber_40 rfl ?_
    refine aw_gi dX6_takeNumber_41 gf_X6_20 sh_18 (by rfl) ?_
    refine aw_top t2 ?_
    refine aw_iload_n dX6_takeNumber_44 rfl ?_
    refine aw_iadd dX6_takeNumber_45 ?_
    refine aw_top (nI_add _ _) ?_
    refine aw_icmp_ge (tgt := 71) dX6_takeNumber_46 (by decide) (fun c46 => ?_) (fun c46 => ?_)
    · refine aw_iload_n dX6_takeNumber_71 rfl ?_
      refine aw_iload_n dX6_takeNumber_72 rfl ?_
      refine aw_icmp_le (tgt := 83) dX6_takeNumber_73 (by decide) (fun c73 => ?_) (fun c73 => ?_)
      · rw [nI_leI (by omega) (by omega)] at c73
        have e9 : pTN tb tl most s = ((0, s.2 + pFigs tb tl s.2), v) := by unfold pTN; rw [if_neg (by omega), if_neg (by omega), if_neg (by omega), e]
        refine aw_aload_n dX6_takeNumber_83 rfl ?_
        refine aw_dup dX6_takeNumber_84 rfl ?_
        refine aw_gi dX6_takeNumber_85 gf_X6_20 sh_18 (by rfl) ?_
        refine aw_top t2 ?_
        refine aw_iload_n dX6_takeNumber_88 rfl ?_
        refine aw_iadd dX6_takeNumber_89 ?_
        refine aw_top (nI_add _ _) ?_
        refine aw_pi dX6_takeNumber_90 pf_X6_20 rfl rfl sh_18 (by rfl) ?_
        refine aw_iload_n dX6_takeNumber_93 rfl ?_
        refine aw_iret dX6_takeNumber_94 rfl rfl rfl rfl ?_
        refine ⟨by rw [e9], rfl, ?_⟩
        rw [e9]
        exact ⟨⟨by rw [am_ups, pk_un (by decide)]; exact t1, by rw [am_ups, pk_us], by rw [am_ups, pk_un (by decide)]; exact (t3.trans (by congr 1)), fun j hj => by rw [am_upn (by omega)]; exact t4 j hj⟩, am_fr.rf.up (by omega) (by omega)⟩
      · rw [nI_leI (by omega) (by omega)] at c73
        have e9 : pTN tb tl most s = ((2, s.2), 0) := by unfold pTN; rw [if_neg (by omega), if_neg (by omega), if_pos (by omega)]
        refine aw_aload_n dX6_takeNumber_76 rfl ?_
        refine aw_iconst (v := nI 2) dX6_takeNumber_77 rfl ?_
        refine aw_pi dX6_takeNumber_78 pf_X6_23 rfl rfl sh_18 (by rfl) ?_
        refine aw_iconst (v := nI 0) dX6_takeNumber_81 rfl ?_
        refine aw_iret dX6_takeNumber_82 rfl rfl rfl rfl ?_
        refine ⟨by rw [e9], rfl, ?_⟩
        rw [e9]
        exact ⟨⟨by rw [am_ups, pk_un (by decide)]; exact t1, by rw [am_ups, pk_un (by decide)]; exact t2, by rw [am_ups, pk_us], fun j hj => by rw [am_upn (by omega)]; exact t4 j hj⟩, am_fr.rf.up (by omega) (by omega)⟩
    · exact absurd (nI_le (by omega) (by omega)) c46
  | succ r ih =>
    intro i v hi hv e
    have dg : 48 ≤ tb i ∧ tb i ≤ 57 := by have := fd (i - s.2) (by omega); rwa [show s.2 + (i - s.2) = i by omega] at this
    refine aw_iload dX6_takeNumber_38 rfl ?_
    refine aw_aload_n dX6_takeNumber_40 rfl ?_
    refine aw_gi dX6_takeNumber_41 gf_X6_20 sh_18 (by rfl) ?_
    refine aw_top t2 ?_
    refine aw_iload_n dX6_takeNumber_44 rfl ?_
    refine aw_iadd dX6_takeNumber_45 ?_
    refine aw_top (nI_add _ _) ?_
    refine aw_icmp_ge (tgt := 71) dX6_takeNumber_46 (by decide) (fun c46 => ?_) (fun c46 => ?_)
    · exact absurd c46 (nI_ge (by omega) (by omega))
    · refine aw_iload_n dX6_takeNumber_49 rfl ?_
      refine aw_bipush (v := nI 10) dX6_takeNumber_50 rfl ?_
      refine aw_imul dX6_takeNumber_52 ?_
      refine aw_top (pk_mul _ _) ?_
      refine aw_aload_n dX6_takeNumber_53 rfl ?_
      refine aw_gr dX6_takeNumber_54 gf_X6_11 sh_18 (by rfl) ?_
      refine aw_iload dX6_takeNumber_57 rfl ?_
      refine aw_iald dX6_takeNumber_59 sh_19 rfl (by omega) (by decide) ?_
      refine aw_top (t4 _ (by omega)) ?_
      refine aw_iadd dX6_takeNumber_60 ?_
      refine aw_top (nI_add _ _) ?_
      refine aw_bipush (v := nI 48) dX6_takeNumber_61 rfl ?_
      refine aw_isub dX6_takeNumber_63 ?_
      refine aw_top (pk_sub (by omega)) ?_
      refine aw_istore_n dX6_takeNumber_64 (Nat.le_of_ble_eq_true rfl) ?_
      refine aw_iinc (v := nI (i + 1)) dX6_takeNumber_65 rfl (nI_1 i) (Nat.le_of_ble_eq_true rfl) ?_
      refine aw_goto (tgt := 38) dX6_takeNumber_68 (by decide) ?_
      exact ih (i + 1) (v * 10 + tb i - 48) (by omega) (by omega) e
set_option maxRecDepth 100000 in
set_option maxHeartbeats 4000000 in
theorem c_X6_takeNumber {G : am_G} {μ : am_M} (tb : Nat → Nat) (tl : Nat) (s : Nat × Nat) (ht : tpC μ tb tl s) (hk : tpOK tb tl) (hr : rdOK tl s) (most : Nat) (hm : most < 100) : am_MA G yX6_takeNumber cX6_takeNumber 5 (some .int) 2 0 0 [.ref 18, .int (nI most)] am_SH μ (am_P (some (.int (nI (pTN tb tl most s).2))) am_SH (fun μ9 => tpC μ9 tb tl (pTN tb tl most s).1 ∧ am_fr μ μ9 18 1)) := by
  obtain ⟨t1, t2, t3, t4⟩ := id ht
  have k1 := hk.1
  have hr1 := hr.1
  have hr2 := hr.2
  have f3 := (pFg_le tb tl s.2 3 0).2
  have f4 : pFigs tb tl s.2 ≤ 3 := by unfold pFigs; omega
  refine am_ofK (own := RX6) (nm := "takeNumber") (L := [some (.ref 18), some (.int (nI most)), none, none, none]) rfl rfl (by decide +kernel) (Nat.le_of_ble_eq_true rfl) rfl ?_
  refine aw_aload_n dX6_takeNumber_0 rfl ?_
  refine aw_gi dX6_takeNumber_1 gf_X6_23 sh_18 (by rfl) ?_
  refine aw_top t3 ?_
  refine aw_if_eq (tgt := 9) dX6_takeNumber_4 (by decide) (fun c4 => ?_) (fun c4 => ?_)
  · rw [z_eq (by omega)] at c4
    refine aw_aload_n dX6_takeNumber_9 rfl ?_
    refine aw_v0i dX6_takeNumber_10 ml_X6_67 im_X6_figuresHere se_X6_figuresHere (c_X6_figuresHere tb tl s ht hk hr) sh_18 (by decide) rfl rfl (Nat.le_of_ble_eq_true rfl) (Nat.le_of_ble_eq_true rfl) (Nat.le_of_ble_eq_true rfl) (Nat.le_of_ble_eq_true rfl) (Nat.le_of_ble_eq_true rfl) ?_
    refine aw_istore_n dX6_takeNumber_13 (Nat.le_of_ble_eq_true rfl) ?_
    refine aw_iload_n dX6_takeNumber_14 rfl ?_
    refine aw_if_eq (tgt := 23) dX6_takeNumber_15 (by decide) (fun c15 => ?_) (fun c15 => ?_)
    · rw [z_eq (by omega)] at c15
      have e9 : pTN tb tl most s = ((1, s.2), 0) := by unfold pTN; rw [if_neg (by omega), if_pos (by omega)]
      refine aw_aload_n dX6_takeNumber_23 rfl ?_
      refine aw_iconst (v := nI 1) dX6_takeNumber_24 rfl ?_
      refine aw_pi dX6_takeNumber_25 pf_X6_23 rfl rfl sh_18 (by rfl) ?_
      refine aw_iconst (v := nI 0) dX6_takeNumber_28 rfl ?_
      refine aw_iret dX6_takeNumber_29 rfl rfl rfl rfl ?_
      refine ⟨by rw [e9], rfl, ?_⟩
      rw [e9]
      exact ⟨⟨by rw [am_ups, pk_un (by decide)]; exact t1, by rw [am_ups, pk_un (by decide)]; exact t2, by rw [am_ups, pk_us], fun j hj => by rw [am_upn (by omega)]; exact t4 j hj⟩, am_fr.rf.up (by omega) (by omega)⟩
    · rw [z_eq (by omega)] at c15
      refine aw_iload_n dX6_takeNumber_18 rfl ?_
      refine aw_iconst (v := nI 2) dX6_takeNumber_19 rfl ?_
      refine aw_icmp_le (tgt := 30) dX6_takeNumber_20 (by decide) (fun c20 => ?_) (fun c20 => ?_)
      · rw [nI_leI (by omega) (by omega)] at c20
        refine aw_iconst (v := nI 0) dX6_takeNumber_30 rfl ?_
        refine aw_istore_n dX6_takeNumber_31 (Nat.le_of_ble_eq_true rfl) ?_
        refine aw_aload_n dX6_takeNumber_32 rfl ?_
        refine aw_gi dX6_takeNumber_33 gf_X6_20 sh_18 (by rfl) ?_
        refine aw_top t2 ?_
        refine aw_istore dX6_takeNumber_36 (Nat.le_of_ble_eq_true rfl) ?_
        exact l_X6_takeNumber tb tl s ht hk hr most hm c4 (by omega) (pFigs tb tl s.2) s.2 0 (by omega) (by omega) rfl
      · rw [nI_leI (by omega) (by omega)] at c20
        have e9 : pTN tb tl most s = ((1, s.2), 0) := by unfold pTN; rw [if_neg (by omega), if_pos (by omega)]
        refine aw_aload_n dX6_takeNumber_23 rfl ?_
        refine aw_iconst (v := nI 1) dX6_takeNumber_24 rfl ?_
        refine aw_pi dX6_takeNumber_25 pf_X6_23 rfl rfl sh_18 (by rfl) ?_
        refine aw_iconst (v := nI 0) dX6_takeNumber_28 rfl ?_
        refine aw_iret dX6_takeNumber_29 rfl rfl rfl rfl ?_
        refine ⟨by rw [e9], rfl, ?_⟩
        rw [e9]
        exact ⟨⟨by rw [am_ups, pk_un (by decide)]; exact t1, by rw [am_ups, pk_un (by decide)]; exact t2, by rw [am_ups, pk_us], fun j hj => by rw [am_upn (by omega)]; exact t4 j hj⟩, am_fr.rf.up (by omega) (by omega)⟩
  · rw [z_eq (by omega)] at c4
    refine aw_iconst (v := nI 0) dX6_takeNumber_7 rfl ?_
    refine aw_iret dX6_takeNumber_8 rfl rfl rfl rfl ?_
    have e : pTN tb tl most s = (s, 0) := by unfold pTN; rw [if_pos c4]
    refine ⟨by rw [e], rfl, ?_⟩
    rw [e]
    exact ⟨ht, am_fr.rf⟩
theorem pSort_le (v : Nat) : pSort v ≤ 5 := by unfold pSort; (repeat' split) <;> omega
set_option maxRecDepth 100000 in
set_option maxHeartbeats 4000000 in
theorem c_X6_takeSort {G : am_G} {μ : am_M} (tb : Nat → Nat) (tl : Nat) (s : Nat × Nat) (ht : tpC μ tb tl s) (hk : tpOK tb tl) (hr : rdOK tl s) (n : Nat) (hn : n ≤ 5) : am_MA G yX6_takeSort cX6_takeSort 3 (some .int) 1 0 0 [.ref 18, .int (nI n)] am_SH μ (am_P (some (.int (nI (pTS tb tl n s).2))) am_SH (fun μ9 => tpC μ9 tb tl (pTS tb tl n s).1 ∧ am_fr μ μ9 18 1)) := by
  obtain ⟨t1, t2, t3, t4⟩ := id ht
  have k1 := hk.1
  have hr1 := hr.1
  have hr2 := hr.2
  refine am_ofK (own := RX6) (nm := "takeSort") (L := [some (.ref 18), some (.int (nI n)), none]) rfl rfl (by decide +kernel) (Nat.le_of_ble_eq_true rfl) rfl ?_
  refine aw_aload_n dX6_takeSort_0 rfl ?_
  refine aw_gi dX6_takeSort_1 gf_X6_23 sh_18 (by rfl) ?_
  refine aw_top t3 ?_
  refine aw_if_eq (tgt := 9) dX6_takeSort_4 (by decide) (fun c4 => ?_) (fun c4 => ?_)
  · rw [z_eq (by omega)] at c4
    refine aw_aload_n dX6_takeSort_9 rfl ?_
    refine aw_gi dX6_takeSort_10 gf_X6_20 sh_18 (by rfl) ?_
    refine aw_top t2 ?_
    refine aw_aload_n dX6_takeSort_13 rfl ?_
    refine aw_gi dX6_takeSort_14 gf_X6_15 sh_18 (by rfl) ?_
    refine aw_top t1 ?_
    refine aw_icmp_ge (tgt := 35) dX6_takeSort_17 (by decide) (fun c17 => ?_) (fun c17 => ?_)
    · rw [nI_leI (by omega) (by omega)] at c17
      have e9 : pTS tb tl n s = ((1, s.2), 0) := by unfold pTS; rw [if_neg (by omega), if_neg (by omega)]
      refine aw_iconst (v := nI 0) dX6_takeSort_35 rfl ?_
      refine aw_istore_n dX6_takeSort_36 (Nat.le_of_ble_eq_true rfl) ?_
      refine aw_iload_n dX6_takeSort_37 rfl ?_
      refine aw_if_ne (tgt := 49) dX6_takeSort_38 (by decide) (fun c38 => ?_) (fun c38 => ?_)
      · exact absurd (show nI 0 = 0 by decide) c38
      · refine aw_aload_n dX6_takeSort_41 rfl ?_
        refine aw_iconst (v := nI 1) dX6_takeSort_42 rfl ?_
        refine aw_pi dX6_takeSort_43 pf_X6_23 rfl rfl sh_18 (by rfl) ?_
        refine aw_goto (tgt := 72) dX6_takeSort_46 (by decide) ?_
        refine aw_iload_n dX6_takeSort_72 rfl ?_
        refine aw_iret dX6_takeSort_73 rfl rfl rfl rfl ?_
        refine ⟨by rw [e9], rfl, ?_⟩
        rw [e9]
        exact ⟨⟨by rw [am_ups, pk_un (by decide)]; exact t1, by rw [am_ups, pk_un (by decide)]; exact t2, by rw [am_ups, pk_us], fun j hj => by rw [am_upn (by omega)]; exact t4 j hj⟩, am_fr.rf.up (by omega) (by omega)⟩
    · rw [nI_leI (by omega) (by omega)] at c17
      refine aw_aload_n dX6_takeSort_20 rfl ?_
      refine aw_gr dX6_takeSort_21 gf_X6_11 sh_18 (by rfl) ?_
      refine aw_aload_n dX6_takeSort_24 rfl ?_
      refine aw_gi dX6_takeSort_25 gf_X6_20 sh_18 (by rfl) ?_
      refine aw_top t2 ?_
      refine aw_iald dX6_takeSort_28 sh_19 rfl (by omega) (by decide) ?_
      refine aw_top (t4 _ (by omega)) ?_
      refine aw_s1i dX6_takeSort_29 ml_X6_64 st_X3_ofLetter (c_X3_ofLetter (tb s.2) (hk.2 _ (by omega))) (Nat.le_of_ble_eq_true rfl) (Nat.le_of_ble_eq_true rfl) (Nat.le_of_ble_eq_true rfl) (Nat.le_of_ble_eq_true rfl) (Nat.le_of_ble_eq_true rfl) ?_
      refine aw_goto (tgt := 36) dX6_takeSort_32 (by decide) ?_
      refine aw_istore_n dX6_takeSort_36 (Nat.le_of_ble_eq_true rfl) ?_
      refine aw_iload_n dX6_takeSort_37 rfl ?_
      refine aw_if_ne (tgt := 49) dX6_takeSort_38 (by decide) (fun c38 => ?_) (fun c38 => ?_)
      · rw [z_eq (by have : pSort (tb s.2) ≤ 5 := pSort_le _; omega)] at c38
        refine aw_iload_n dX6_takeSort_49 rfl ?_
        refine aw_iconst (v := nI 5) dX6_takeSort_50 rfl ?_
        refine aw_icmp_lt (tgt := 62) dX6_takeSort_51 (by decide) (fun c51 => ?_) (fun c51 => ?_)
        · rw [nI_ltI (by omega) (by omega)] at c51
          have e9 : pTS tb tl n s = ((0, s.2 + 1), pSort (tb s.2)) := by unfold pTS; rw [if_neg (by omega), if_pos ⟨by omega, c38⟩, if_pos c51]
          refine aw_aload_n dX6_takeSort_62 rfl ?_
          refine aw_dup dX6_takeSort_63 rfl ?_
          refine aw_gi dX6_takeSort_64 gf_X6_20 sh_18 (by rfl) ?_
          refine aw_top t2 ?_
          refine aw_iconst (v := nI 1) dX6_takeSort_67 rfl ?_
          refine aw_iadd dX6_takeSort_68 ?_
          refine aw_top (nI_add _ _) ?_
          refine aw_pi dX6_takeSort_69 pf_X6_20 rfl rfl sh_18 (by rfl) ?_
          refine aw_iload_n dX6_takeSort_72 rfl ?_
          refine aw_iret dX6_takeSort_73 rfl rfl rfl rfl ?_
          refine ⟨by rw [e9], rfl, ?_⟩
          rw [e9]
          exact ⟨⟨by rw [am_ups, pk_un (by decide)]; exact t1, by rw [am_ups, pk_us], by rw [am_ups, pk_un (by decide)]; exact (t3.trans (by congr 1)), fun j hj => by rw [am_upn (by omega)]; exact t4 j hj⟩, am_fr.rf.up (by omega) (by omega)⟩
        · rw [nI_ltI (by omega) (by omega)] at c51
          have e9 : pTS tb tl n s = ((3, s.2), pSort (tb s.2)) := by unfold pTS; rw [if_neg (by omega), if_pos ⟨by omega, c38⟩, if_neg c51]
          refine aw_aload_n dX6_takeSort_54 rfl ?_
          refine aw_iconst (v := nI 3) dX6_takeSort_55 rfl ?_
          refine aw_pi dX6_takeSort_56 pf_X6_23 rfl rfl sh_18 (by rfl) ?_
          refine aw_goto (tgt := 72) dX6_takeSort_59 (by decide) ?_
          refine aw_iload_n dX6_takeSort_72 rfl ?_
          refine aw_iret dX6_takeSort_73 rfl rfl rfl rfl ?_
          refine ⟨by rw [e9], rfl, ?_⟩
          rw [e9]
          exact ⟨⟨by rw [am_ups, pk_un (by decide)]; exact t1, by rw [am_ups, pk_un (by decide)]; exact t2, by rw [am_ups, pk_us], fun j hj => by rw [am_upn (by omega)]; exact t4 j hj⟩, am_fr.rf.up (by omega) (by omega)⟩
      · rw [z_eq (by have := pSort_le (tb s.2); omega)] at c38
        have e9 : pTS tb tl n s = ((1, s.2), 0) := by unfold pTS; rw [if_neg (by omega), if_neg (fun q => q.2 c38)]
        refine aw_aload_n dX6_takeSort_41 rfl ?_
        refine aw_iconst (v := nI 1) dX6_takeSort_42 rfl ?_
        refine aw_pi dX6_takeSort_43 pf_X6_23 rfl rfl sh_18 (by rfl) ?_
        refine aw_goto (tgt := 72) dX6_takeSort_46 (by decide) ?_
        refine aw_iload_n dX6_takeSort_72 rfl ?_
        refine aw_iret dX6_takeSort_73 rfl rfl rfl rfl ?_
        refine ⟨by rw [e9, c38], rfl, ?_⟩
        rw [e9]
        exact ⟨⟨by rw [am_ups, pk_un (by decide)]; exact t1, by rw [am_ups, pk_un (by decide)]; exact t2, by rw [am_ups, pk_us], fun j hj => by rw [am_upn (by omega)]; exact t4 j hj⟩, am_fr.rf.up (by omega) (by omega)⟩
  · rw [z_eq (by omega)] at c4
    refine aw_iconst (v := nI 0) dX6_takeSort_7 rfl ?_
    refine aw_iret dX6_takeSort_8 rfl rfl rfl rfl ?_
    have e : pTS tb tl n s = (s, 0) := by unfold pTS; rw [if_pos c4]
    refine ⟨by rw [e], rfl, ?_⟩
    rw [e]
    exact ⟨ht, am_fr.rf⟩
