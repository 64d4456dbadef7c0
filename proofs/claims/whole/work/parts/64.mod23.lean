/-! ===== the model's reader: tokens ===== -/
theorem aw_gen {C : am_C} {cc : ByteArray} {pc : Nat} {L : am_L} {S : List Value} {sh : List am_S} {μ : am_M} {k n : Nat} {P : am_M → Prop} (hP : P μ) (kk : ∀ μ', P μ' → am_W C cc pc L S sh μ' k n) : am_W C cc pc L S sh μ k n := kk μ hP
def pTk (tb : Nat → Nat) (tl p : Nat) : Nat := if p < tl then (if 97 ≤ tb p ∧ tb p ≤ 122 then 1 else if 48 ≤ tb p ∧ tb p ≤ 57 then (if 2 < pFigs tb tl p then 5 else 2) else if tb p = 44 then 3 else if tb p = 59 then 4 else 5) else 0
def nxR (tb : Nat → Nat) (tl p a : Nat) (v : Int32) : Prop := (pTk tb tl p = 0 → a = p) ∧ (pTk tb tl p = 1 → a = p + 1 ∧ v = nI (tb p)) ∧ (pTk tb tl p = 2 → a = p + pFigs tb tl p ∧ v = nI (pV tb (pFigs tb tl p) p 0)) ∧ (pTk tb tl p = 3 → a = p + 1) ∧ (pTk tb tl p = 4 → a = p + 1)
theorem pFg_min {tb : Nat → Nat} {tl p n : Nat} (h1 : p + n ≤ tl) (h2 : ∀ j, j < n → 48 ≤ tb (p + j) ∧ tb (p + j) ≤ 57) (h3 : p + n = tl ∨ ¬ (48 ≤ tb (p + n) ∧ tb (p + n) ≤ 57)) : ∀ r i, i ≤ n → pFg tb tl p r i = min (i + r) n
  | 0, i, h => by show i = _; omega
  | r + 1, i, h => by
    unfold pFg
    by_cases e : i = n
    · rw [if_neg (by
        rw [e]
        intro q
        rcases h3 with h3 | h3
        · omega
        · apply h3; have := q.2; simp [pFigB] at this; exact this)]
      omega
    · have := h2 i (by omega)
      rw [if_pos ⟨by omega, by simp [pFigB]; exact this⟩, pFg_min h1 h2 h3 r (i + 1) (by omega)]
      omega
theorem pFigs_min {tb : Nat → Nat} {tl p n : Nat} (h1 : p + n ≤ tl) (h2 : ∀ j, j < n → 48 ≤ tb (p + j) ∧ tb (p + j) ≤ 57) (h3 : p + n = tl ∨ ¬ (48 ≤ tb (p + n) ∧ tb (p + n) ≤ 57)) : pFigs tb tl p = min 3 n := by
  have := pFg_min h1 h2 h3 3 0 (by omega)
  rw [Nat.zero_add] at this
  exact this
def nxC (μ : am_M) (tb : Nat → Nat) (tl a p : Nat) (t v : Int32) : Prop := (μ 234 15 = nI a) ∧ (μ 234 16 = nI p) ∧ (μ 234 17 = t) ∧ (μ 234 18 = v) ∧ (μ 234 19 = nI tl) ∧ (∀ j, j < tl → μ 238 j = nI (tb j))
theorem nxC.pa {μ : am_M} {tb : Nat → Nat} {tl a p : Nat} {t v : Int32} (h : nxC μ tb tl a p t v) : μ 234 15 = nI a := h.1
theorem nxC.pb {μ : am_M} {tb : Nat → Nat} {tl a p : Nat} {t v : Int32} (h : nxC μ tb tl a p t v) : μ 234 16 = nI p := h.2.1
theorem nxC.pt {μ : am_M} {tb : Nat → Nat} {tl a p : Nat} {t v : Int32} (h : nxC μ tb tl a p t v) : μ 234 17 = t := h.2.2.1
theorem nxC.pv {μ : am_M} {tb : Nat → Nat} {tl a p : Nat} {t v : Int32} (h : nxC μ tb tl a p t v) : μ 234 18 = v := h.2.2.2.1
theorem nxC.ps {μ : am_M} {tb : Nat → Nat} {tl a p : Nat} {t v : Int32} (h : nxC μ tb tl a p t v) : μ 234 19 = nI tl := h.2.2.2.2.1
theorem nxC.tp {μ : am_M} {tb : Nat → Nat} {tl a p : Nat} {t v : Int32} (h : nxC μ tb tl a p t v) : ∀ j, j < tl → μ 238 j = nI (tb j) := h.2.2.2.2.2

theorem nxC.sa {μ : am_M} {tb : Nat → Nat} {tl a p : Nat} {t v : Int32} (h : nxC μ tb tl a p t v) (x : Nat) : nxC (am_up μ 234 (upd (μ 234) 15 (nI x))) tb tl x p t v := ⟨by rw [am_ups, pk_us], by rw [am_ups, pk_un (by decide)]; exact h.pb, by rw [am_ups, pk_un (by decide)]; exact h.pt, by rw [am_ups, pk_un (by decide)]; exact h.pv, by rw [am_ups, pk_un (by decide)]; exact h.ps, fun j hj => by rw [am_upn (by decide)]; exact h.tp j hj⟩
theorem nxC.sb {μ : am_M} {tb : Nat → Nat} {tl a p : Nat} {t v : Int32} (h : nxC μ tb tl a p t v) (x : Nat) : nxC (am_up μ 234 (upd (μ 234) 16 (nI x))) tb tl a x t v := ⟨by rw [am_ups, pk_un (by decide)]; exact h.pa, by rw [am_ups, pk_us], by rw [am_ups, pk_un (by decide)]; exact h.pt, by rw [am_ups, pk_un (by decide)]; exact h.pv, by rw [am_ups, pk_un (by decide)]; exact h.ps, fun j hj => by rw [am_upn (by decide)]; exact h.tp j hj⟩
theorem nxC.st {μ : am_M} {tb : Nat → Nat} {tl a p : Nat} {t v : Int32} (h : nxC μ tb tl a p t v) (x : Int32) : nxC (am_up μ 234 (upd (μ 234) 17 x)) tb tl a p x v := ⟨by rw [am_ups, pk_un (by decide)]; exact h.pa, by rw [am_ups, pk_un (by decide)]; exact h.pb, by rw [am_ups, pk_us], by rw [am_ups, pk_un (by decide)]; exact h.pv, by rw [am_ups, pk_un (by decide)]; exact h.ps, fun j hj => by rw [am_upn (by decide)]; exact h.tp j hj⟩
theorem nxC.sv {μ : am_M} {tb : Nat → Nat} {tl a p : Nat} {t v : Int32} (h : nxC μ tb tl a p t v) (x : Int32) : nxC (am_up μ 234 (upd (μ 234) 18 x)) tb tl a p t x := ⟨by rw [am_ups, pk_un (by decide)]; exact h.pa, by rw [am_ups, pk_un (by decide)]; exact h.pb, by rw [am_ups, pk_un (by decide)]; exact h.pt, by rw [am_ups, pk_us], by rw [am_ups, pk_un (by decide)]; exact h.ps, fun j hj => by rw [am_upn (by decide)]; exact h.tp j hj⟩
def nxF (μ μ' : am_M) : Prop := (∀ b, b ≠ 234 → μ' b = μ b) ∧ ∀ j, j < 15 → μ' 234 j = μ 234 j
theorem nxF.rf {μ : am_M} : nxF μ μ := ⟨fun _ _ => rfl, fun _ _ => rfl⟩
theorem nxF.up {μ μ' : am_M} {j : Nat} {x : Int32} (h : nxF μ μ') (hj : 15 ≤ j) : nxF μ (am_up μ' 234 (upd (μ' 234) j x)) := ⟨fun b hb => by rw [am_up_n hb]; exact h.1 b hb, fun i hi => by rw [am_ups, pk_un (by omega)]; exact h.2 i hi⟩
set_option maxRecDepth 100000 in
set_option maxHeartbeats 4000000 in
theorem x_X8_next {G : am_G} {μ : am_M} {μ1 : am_M} (tb : Nat → Nat) (tl p : Nat) (hk : tpOK tb tl) (hp : p ≤ tl) {Q : Option Value → List am_S → am_M → Prop} (t : Nat) (ht : t ≤ 5) (ht2 : t ≠ 2) (c t0 v0 : Int32) (hN : nxC μ1 tb tl p p t0 v0) (hF : nxF μ μ1) (kk : ∀ μ9, nxC μ9 tb tl (if t = 0 then p else p + 1) p (nI t) (if t = 1 then c else nI 0) → nxF μ μ9 → Q none am_SH μ9) : am_W (am_K G RX8 "next" 2 none 2 0 0 Q) cX8_next 92 [some (.ref 234), some (.int c)] [.int (nI t), .ref 234] am_SH μ1 0 0 := by
  refine aw_pi dX8_next_92 pf_X8_101 rfl rfl sh_234 (by rfl) ?_
  refine aw_gen (P := fun μ3 => nxC μ3 tb tl p p (nI t) v0 ∧ nxF μ μ3) ⟨hN.st _, hF.up (by decide)⟩ (fun μ1 hq => ?_)
  obtain ⟨hN, hF⟩ := hq
  refine aw_aload_n dX8_next_95 rfl ?_
  refine aw_aload_n dX8_next_96 rfl ?_
  refine aw_gi dX8_next_97 gf_X8_101 sh_234 (by rfl) ?_
  refine aw_top hN.pt ?_
  refine aw_iconst (v := nI 1) dX8_next_100 rfl ?_
  refine aw_icmp_ne (tgt := 108) dX8_next_101 (by decide) (fun c101 => ?_) (fun c101 => ?_)
  · rw [nI_eq (by omega) (by omega)] at c101
    refine aw_iconst (v := nI 0) dX8_next_108 rfl ?_
    refine aw_pi dX8_next_109 pf_X8_104 rfl rfl sh_234 (by rfl) ?_
    refine aw_gen (P := fun μ3 => nxC μ3 tb tl p p (nI t) (if t = 1 then c else nI 0) ∧ nxF μ μ3) ⟨by rw [if_neg c101]; exact hN.sv _, hF.up (by decide)⟩ (fun μ1 hq => ?_)
    obtain ⟨hN, hF⟩ := hq
    refine aw_aload_n dX8_next_112 rfl ?_
    refine aw_dup dX8_next_113 rfl ?_
    refine aw_gi dX8_next_114 gf_X8_85 sh_234 (by rfl) ?_
    refine aw_top hN.pa ?_
    refine aw_aload_n dX8_next_117 rfl ?_
    refine aw_gi dX8_next_118 gf_X8_101 sh_234 (by rfl) ?_
    refine aw_top hN.pt ?_
    refine aw_if_le (tgt := 136) dX8_next_121 (by decide) (fun c121 => ?_) (fun c121 => ?_)
    · rw [z_le (by omega)] at c121
      refine aw_iconst (v := nI 0) dX8_next_136 rfl ?_
      refine aw_iadd dX8_next_137 ?_
      refine aw_top (nI_add _ _) ?_
      refine aw_top (show _ = nI (if t = 0 then p else p + 1) by rw [if_pos (by omega)]; rfl) ?_
      refine aw_pi dX8_next_138 pf_X8_85 rfl rfl sh_234 (by rfl) ?_
      refine aw_gen (P := fun μ3 => nxC μ3 tb tl (if t = 0 then p else p + 1) p (nI t) (if t = 1 then c else nI 0) ∧ nxF μ μ3) ⟨hN.sa _, hF.up (by decide)⟩ (fun μ1 hq => ?_)
      obtain ⟨hN, hF⟩ := hq
      refine aw_aload_n dX8_next_141 rfl ?_
      refine aw_gi dX8_next_142 gf_X8_101 sh_234 (by rfl) ?_
      refine aw_top hN.pt ?_
      refine aw_iconst (v := nI 2) dX8_next_145 rfl ?_
      refine aw_icmp_ne (tgt := 232) dX8_next_146 (by decide) (fun c146 => ?_) (fun c146 => ?_)
      · refine aw_aload_n dX8_next_232 rfl ?_
        refine aw_aload_n dX8_next_233 rfl ?_
        refine aw_gi dX8_next_234 gf_X8_101 sh_234 (by rfl) ?_
        refine aw_top hN.pt ?_
        refine aw_iconst (v := nI 2) dX8_next_237 rfl ?_
        refine aw_icmp_ne (tgt := 258) dX8_next_238 (by decide) (fun c238 => ?_) (fun c238 => ?_)
        · refine aw_aload_n dX8_next_258 rfl ?_
          refine aw_gi dX8_next_259 gf_X8_101 sh_234 (by rfl) ?_
          refine aw_top hN.pt ?_
          refine aw_pi dX8_next_262 pf_X8_101 rfl rfl sh_234 (by rfl) ?_
          refine aw_gen (P := fun μ3 => nxC μ3 tb tl (if t = 0 then p else p + 1) p (nI t) (if t = 1 then c else nI 0) ∧ nxF μ μ3) ⟨hN.st _, hF.up (by decide)⟩ (fun μ1 hq => ?_)
          obtain ⟨hN, hF⟩ := hq
          refine aw_vret dX8_next_265 rfl rfl rfl ?_
          exact kk _ hN hF
        · rw [nI_eq (by omega) (by omega)] at c238
          exact absurd c238 ht2
      · rw [nI_eq (by omega) (by omega)] at c146
        exact absurd c146 ht2
    · rw [z_le (by omega)] at c121
      refine aw_aload_n dX8_next_124 rfl ?_
      refine aw_gi dX8_next_125 gf_X8_101 sh_234 (by rfl) ?_
      refine aw_top hN.pt ?_
      refine aw_iconst (v := nI 2) dX8_next_128 rfl ?_
      refine aw_icmp_eq (tgt := 136) dX8_next_129 (by decide) (fun c129 => ?_) (fun c129 => ?_)
      · rw [nI_eq (by omega) (by omega)] at c129
        exact absurd c129 ht2
      · refine aw_iconst (v := nI 1) dX8_next_132 rfl ?_
        refine aw_goto (tgt := 137) dX8_next_133 (by decide) ?_
        refine aw_iadd dX8_next_137 ?_
        refine aw_top (nI_add _ _) ?_
        refine aw_top (show _ = nI (if t = 0 then p else p + 1) by rw [if_neg (by omega)]) ?_
        refine aw_pi dX8_next_138 pf_X8_85 rfl rfl sh_234 (by rfl) ?_
        refine aw_gen (P := fun μ3 => nxC μ3 tb tl (if t = 0 then p else p + 1) p (nI t) (if t = 1 then c else nI 0) ∧ nxF μ μ3) ⟨hN.sa _, hF.up (by decide)⟩ (fun μ1 hq => ?_)
        obtain ⟨hN, hF⟩ := hq
        refine aw_aload_n dX8_next_141 rfl ?_
        refine aw_gi dX8_next_142 gf_X8_101 sh_234 (by rfl) ?_
        refine aw_top hN.pt ?_
        refine aw_iconst (v := nI 2) dX8_next_145 rfl ?_
        refine aw_icmp_ne (tgt := 232) dX8_next_146 (by decide) (fun c146 => ?_) (fun c146 => ?_)
        · refine aw_aload_n dX8_next_232 rfl ?_
          refine aw_aload_n dX8_next_233 rfl ?_
          refine aw_gi dX8_next_234 gf_X8_101 sh_234 (by rfl) ?_
          refine aw_top hN.pt ?_
          refine aw_iconst (v := nI 2) dX8_next_237 rfl ?_
          refine aw_icmp_ne (tgt := 258) dX8_next_238 (by decide) (fun c238 => ?_) (fun c238 => ?_)
          · refine aw_aload_n dX8_next_258 rfl ?_
            refine aw_gi dX8_next_259 gf_X8_101 sh_234 (by rfl) ?_
            refine aw_top hN.pt ?_
            refine aw_pi dX8_next_262 pf_X8_101 rfl rfl sh_234 (by rfl) ?_
            refine aw_gen (P := fun μ3 => nxC μ3 tb tl (if t = 0 then p else p + 1) p (nI t) (if t = 1 then c else nI 0) ∧ nxF μ μ3) ⟨hN.st _, hF.up (by decide)⟩ (fun μ1 hq => ?_)
            obtain ⟨hN, hF⟩ := hq
            refine aw_vret dX8_next_265 rfl rfl rfl ?_
            exact kk _ hN hF
          · rw [nI_eq (by omega) (by omega)] at c238
            exact absurd c238 ht2
        · rw [nI_eq (by omega) (by omega)] at c146
          exact absurd c146 ht2
  · rw [nI_eq (by omega) (by omega)] at c101
    refine aw_iload_n dX8_next_104 rfl ?_
    refine aw_goto (tgt := 109) dX8_next_105 (by decide) ?_
    refine aw_pi dX8_next_109 pf_X8_104 rfl rfl sh_234 (by rfl) ?_
    refine aw_gen (P := fun μ3 => nxC μ3 tb tl p p (nI t) (if t = 1 then c else nI 0) ∧ nxF μ μ3) ⟨by rw [if_pos c101]; exact hN.sv _, hF.up (by decide)⟩ (fun μ1 hq => ?_)
    obtain ⟨hN, hF⟩ := hq
    refine aw_aload_n dX8_next_112 rfl ?_
    refine aw_dup dX8_next_113 rfl ?_
    refine aw_gi dX8_next_114 gf_X8_85 sh_234 (by rfl) ?_
    refine aw_top hN.pa ?_
    refine aw_aload_n dX8_next_117 rfl ?_
    refine aw_gi dX8_next_118 gf_X8_101 sh_234 (by rfl) ?_
    refine aw_top hN.pt ?_
    refine aw_if_le (tgt := 136) dX8_next_121 (by decide) (fun c121 => ?_) (fun c121 => ?_)
    · rw [z_le (by omega)] at c121
      refine aw_iconst (v := nI 0) dX8_next_136 rfl ?_
      refine aw_iadd dX8_next_137 ?_
      refine aw_top (nI_add _ _) ?_
      refine aw_top (show _ = nI (if t = 0 then p else p + 1) by rw [if_pos (by omega)]; rfl) ?_
      refine aw_pi dX8_next_138 pf_X8_85 rfl rfl sh_234 (by rfl) ?_
      refine aw_gen (P := fun μ3 => nxC μ3 tb tl (if t = 0 then p else p + 1) p (nI t) (if t = 1 then c else nI 0) ∧ nxF μ μ3) ⟨hN.sa _, hF.up (by decide)⟩ (fun μ1 hq => ?_)
      obtain ⟨hN, hF⟩ := hq
      refine aw_aload_n dX8_next_141 rfl ?_
      refine aw_gi dX8_next_142 gf_X8_101 sh_234 (by rfl) ?_
      refine aw_top hN.pt ?_
      refine aw_iconst (v := nI 2) dX8_next_145 rfl ?_
      refine aw_icmp_ne (tgt := 232) dX8_next_146 (by decide) (fun c146 => ?_) (fun c146 => ?_)
      · refine aw_aload_n dX8_next_232 rfl ?_
        refine aw_aload_n dX8_next_233 rfl ?_
        refine aw_gi dX8_next_234 gf_X8_101 sh_234 (by rfl) ?_
        refine aw_top hN.pt ?_
        refine aw_iconst (v := nI 2) dX8_next_237 rfl ?_
        refine aw_icmp_ne (tgt := 258) dX8_next_238 (by decide) (fun c238 => ?_) (fun c238 => ?_)
        · refine aw_aload_n dX8_next_258 rfl ?_
          refine aw_gi dX8_next_259 gf_X8_101 sh_234 (by rfl) ?_
          refine aw_top hN.pt ?_
          refine aw_pi dX8_next_262 pf_X8_101 rfl rfl sh_234 (by rfl) ?_
          refine aw_gen (P := fun μ3 => nxC μ3 tb tl (if t = 0 then p else p + 1) p (nI t) (if t = 1 then c else nI 0) ∧ nxF μ μ3) ⟨hN.st _, hF.up (by decide)⟩ (fun μ1 hq => ?_)
          obtain ⟨hN, hF⟩ := hq
          refine aw_vret dX8_next_265 rfl rfl rfl ?_
          exact kk _ hN hF
        · rw [nI_eq (by omega) (by omega)] at c238
          exact absurd c238 ht2
      · rw [nI_eq (by omega) (by omega)] at c146
        exact absurd c146 ht2
    · rw [z_le (by omega)] at c121
      refine aw_aload_n dX8_next_124 rfl ?_
      refine aw_gi dX8_next_125 gf_X8_101 sh_234 (by rfl) ?_
      refine aw_top hN.pt ?_
      refine aw_iconst (v := nI 2) dX8_next_128 rfl ?_
      refine aw_icmp_eq (tgt := 136) dX8_next_129 (by decide) (fun c129 => ?_) (fun c129 => ?_)
      · rw [nI_eq (by omega) (by omega)] at c129
        exact absurd c129 ht2
      · refine aw_iconst (v := nI 1) dX8_next_132 rfl ?_
        refine aw_goto (tgt := 137) dX8_next_133 (by decide) ?_
        refine aw_iadd dX8_next_137 ?_
        refine aw_top (nI_add _ _) ?_
        refine aw_top (show _ = nI (if t = 0 then p else p + 1) by rw [if_neg (by omega)]) ?_
        refine aw_pi dX8_next_138 pf_X8_85 rfl rfl sh_234 (by rfl) ?_
        refine aw_gen (P := fun μ3 => nxC μ3 tb tl (if t = 0 then p else p + 1) p (nI t) (if t = 1 then c else nI 0) ∧ nxF μ μ3) ⟨hN.sa _, hF.up (by decide)⟩ (fun μ1 hq => ?_)
        obtain ⟨hN, hF⟩ := hq
        refine aw_aload_n dX8_next_141 rfl ?_
        refine aw_gi dX8_next_142 gf_X8_101 sh_234 (by rfl) ?_
        refine aw_top hN.pt ?_
        refine aw_iconst (v := nI 2) dX8_next_145 rfl ?_
        refine aw_icmp_ne (tgt := 232) dX8_next_146 (by decide) (fun c146 => ?_) (fun c146 => ?_)
        · refine aw_aload_n dX8_next_232 rfl ?_
          refine aw_aload_n dX8_next_233 rfl ?_
          refine aw_gi dX8_next_234 gf_X8_101 sh_234 (by rfl) ?_
          refine aw_top hN.pt ?_
          refine aw_iconst (v := nI 2) dX8_next_237 rfl ?_
          refine aw_icmp_ne (tgt := 258) dX8_next_238 (by decide) (fun c238 => ?_) (fun c238 => ?_)
          · refine aw_aload_n dX8_next_258 rfl ?_
            refine aw_gi dX8_next_259 gf_X8_101 sh_234 (by rfl) ?_
            refine aw_top hN.pt ?_
            refine aw_pi dX8_next_262 pf_X8_101 rfl rfl sh_234 (by rfl) ?_
            refine aw_gen (P := fun μ3 => nxC μ3 tb tl (if t = 0 then p else p + 1) p (nI t) (if t = 1 then c else nI 0) ∧ nxF μ μ3) ⟨hN.st _, hF.up (by decide)⟩ (fun μ1 hq => ?_)
            obtain ⟨hN, hF⟩ := hq
            refine aw_vret dX8_next_265 rfl rfl rfl ?_
            exact kk _ hN hF
          · rw [nI_eq (by omega) (by omega)] at c238
            exact absurd c238 ht2
        · rw [nI_eq (by omega) (by omega)] at c146
          exact absurd c146 ht2
set_option maxRecDepth 100000 in
set_option maxHeartbeats 4000000 in
theorem y_X8_next {G : am_G} {μ : am_M} {μ1 : am_M} (tb : Nat → Nat) (tl p : Nat) (hk : tpOK tb tl) (hp : p ≤ tl) {Q : Option Value → List am_S → am_M → Prop} (c : Int32) (n : Nat) (hn : p + n ≤ tl) (hfg : (∀ j, j < n → 48 ≤ tb (p + j) ∧ tb (p + j) ≤ 57)) (hend : p + n = tl ∨ ¬ (48 ≤ tb (p + n) ∧ tb (p + n) ≤ 57)) (hN : nxC μ1 tb tl (p + n) p (nI 2) (nI (pV tb (min n 2) p 0))) (hF : nxF μ μ1) (kk : ∀ (n : Nat) (μ9 : am_M), p + n ≤ tl → (∀ j, j < n → 48 ≤ tb (p + j) ∧ tb (p + j) ≤ 57) → (p + n = tl ∨ ¬ (48 ≤ tb (p + n) ∧ tb (p + n) ≤ 57)) → nxC μ9 tb tl (p + n) p (nI (if 2 < n then 5 else 2)) (nI (pV tb (min n 2) p 0)) → nxF μ μ9 → Q none am_SH μ9) : am_W (am_K G RX8 "next" 2 none 2 0 0 Q) cX8_next 232 [some (.ref 234), some (.int c)] [] am_SH μ1 0 0 := by
  have htl := hk.1
  refine aw_aload_n dX8_next_232 rfl ?_
  refine aw_aload_n dX8_next_233 rfl ?_
  refine aw_gi dX8_next_234 gf_X8_101 sh_234 (by rfl) ?_
  refine aw_top hN.pt ?_
  refine aw_iconst (v := nI 2) dX8_next_237 rfl ?_
  refine aw_icmp_ne (tgt := 258) dX8_next_238 (by decide) (fun c238 => ?_) (fun c238 => ?_)
  · exact absurd rfl c238
  · refine aw_aload_n dX8_next_241 rfl ?_
    refine aw_gi dX8_next_242 gf_X8_85 sh_234 (by rfl) ?_
    refine aw_top hN.pa ?_
    refine aw_aload_n dX8_next_245 rfl ?_
    refine aw_gi dX8_next_246 gf_X8_88 sh_234 (by rfl) ?_
    refine aw_top hN.pb ?_
    refine aw_isub dX8_next_249 ?_
    refine aw_top (pk_sub (by omega)) ?_
    refine aw_top (show _ = nI n by rw [Nat.add_sub_cancel_left]) ?_
    refine aw_iconst (v := nI 2) dX8_next_250 rfl ?_
    refine aw_icmp_le (tgt := 258) dX8_next_251 (by decide) (fun c251 => ?_) (fun c251 => ?_)
    · rw [nI_leI (by omega) (by omega)] at c251
      refine aw_aload_n dX8_next_258 rfl ?_
      refine aw_gi dX8_next_259 gf_X8_101 sh_234 (by rfl) ?_
      refine aw_top hN.pt ?_
      refine aw_pi dX8_next_262 pf_X8_101 rfl rfl sh_234 (by rfl) ?_
      refine aw_gen (P := fun μ3 => nxC μ3 tb tl (p + n) p (nI (if 2 < n then 5 else 2)) (nI (pV tb (min n 2) p 0)) ∧ nxF μ μ3) ⟨by rw [if_neg (by omega)]; exact hN.st _, hF.up (by decide)⟩ (fun μ1 hq => ?_)
      obtain ⟨hN, hF⟩ := hq
      refine aw_vret dX8_next_265 rfl rfl rfl ?_
      exact kk n _ hn hfg hend hN hF
    · rw [nI_leI (by omega) (by omega)] at c251
      refine aw_iconst (v := nI 5) dX8_next_254 rfl ?_
      refine aw_goto (tgt := 262) dX8_next_255 (by decide) ?_
      refine aw_pi dX8_next_262 pf_X8_101 rfl rfl sh_234 (by rfl) ?_
      refine aw_gen (P := fun μ3 => nxC μ3 tb tl (p + n) p (nI (if 2 < n then 5 else 2)) (nI (pV tb (min n 2) p 0)) ∧ nxF μ μ3) ⟨by rw [if_pos (by omega)]; exact hN.st _, hF.up (by decide)⟩ (fun μ1 hq => ?_)
      obtain ⟨hN, hF⟩ := hq
      refine aw_vret dX8_next_265 rfl rfl rfl ?_
      exact kk n _ hn hfg hend hN hF
theorem pV_end {tb : Nat → Nat} {p n : Nat} (h : n < 2) : 10 * pV tb (min n 2) p 0 + tb (p + n) - 48 = pV tb (min (n + 1) 2) p 0 := by
  have e : n = 0 ∨ n = 1 := by omega
  rcases e with e | e
  · subst e
    show 10 * 0 + tb (p + 0) - 48 = 0 * 10 + tb p - 48
    rfl
  · subst e
    show 10 * (0 * 10 + tb p - 48) + tb (p + 1) - 48 = (0 * 10 + tb p - 48) * 10 + tb (p + 1) - 48
    omega
set_option maxRecDepth 100000 in
set_option maxHeartbeats 4000000 in
theorem l_X8_next {G : am_G} {μ : am_M} (tb : Nat → Nat) (tl p : Nat) (hk : tpOK tb tl) (hp : p ≤ tl) {Q : Option Value → List am_S → am_M → Prop} (c : Int32) (kk : ∀ (n : Nat) (μ9 : am_M), p + n ≤ tl → (∀ j, j < n → 48 ≤ tb (p + j) ∧ tb (p + j) ≤ 57) → (p + n = tl ∨ ¬ (48 ≤ tb (p + n) ∧ tb (p + n) ≤ 57)) → nxC μ9 tb tl (p + n) p (nI (if 2 < n then 5 else 2)) (nI (pV tb (min n 2) p 0)) → nxF μ μ9 → Q none am_SH μ9) : ∀ (r n : Nat) (μ1 : am_M), p + n + r = tl → (∀ j, j < n → 48 ≤ tb (p + j) ∧ tb (p + j) ≤ 57) → nxC μ1 tb tl (p + n) p (nI 2) (nI (pV tb (min n 2) p 0)) → nxF μ μ1 → am_W (am_K G RX8 "next" 2 none 2 0 0 Q) cX8_next 141 [some (.ref 234), some (.int c)] [] am_SH μ1 0 0 := by
  have htl := hk.1
  intro r
  induction r with
  | zero =>
    intro n μ1 hn hfg hN hF
    refine aw_aload_n dX8_next_141 rfl ?_
    refine aw_gi dX8_next_142 gf_X8_101 sh_234 (by rfl) ?_
    refine aw_top hN.pt ?_
    refine aw_iconst (v := nI 2) dX8_next_145 rfl ?_
    refine aw_icmp_ne (tgt := 232) dX8_next_146 (by decide) (fun c146 => ?_) (fun c146 => ?_)
    · exact absurd rfl c146
    · refine aw_aload_n dX8_next_149 rfl ?_
      refine aw_gi dX8_next_150 gf_X8_85 sh_234 (by rfl) ?_
      refine aw_top hN.pa ?_
      refine aw_aload_n dX8_next_153 rfl ?_
      refine aw_gi dX8_next_154 gf_X8_91 sh_234 (by rfl) ?_
      refine aw_top hN.ps ?_
      refine aw_icmp_ge (tgt := 232) dX8_next_157 (by decide) (fun c157 => ?_) (fun c157 => ?_)
      · exact y_X8_next tb tl p hk hp c n (by omega) hfg (Or.inl (by omega)) hN hF kk
      · exact absurd (nI_le (by omega) (by omega)) c157
  | succ r ih =>
    intro n μ1 hn hfg hN hF
    refine aw_aload_n dX8_next_141 rfl ?_
    refine aw_gi dX8_next_142 gf_X8_101 sh_234 (by rfl) ?_
    refine aw_top hN.pt ?_
    refine aw_iconst (v := nI 2) dX8_next_145 rfl ?_
    refine aw_icmp_ne (tgt := 232) dX8_next_146 (by decide) (fun c146 => ?_) (fun c146 => ?_)
    · exact absurd rfl c146
    · refine aw_aload_n dX8_next_149 rfl ?_
      refine aw_gi dX8_next_150 gf_X8_85 sh_234 (by rfl) ?_
      refine aw_top hN.pa ?_
      refine aw_aload_n dX8_next_153 rfl ?_
      refine aw_gi dX8_next_154 gf_X8_91 sh_234 (by rfl) ?_
      refine aw_top hN.ps ?_
      refine aw_icmp_ge (tgt := 232) dX8_next_157 (by decide) (fun c157 => ?_) (fun c157 => ?_)
      · exact absurd c157 (nI_ge (by omega) (by omega))
      · refine aw_aload_n dX8_next_160 rfl ?_
        refine aw_gr dX8_next_161 gf_X8_19 sh_234 (by rfl) ?_
        refine aw_aload_n dX8_next_164 rfl ?_
        refine aw_gi dX8_next_165 gf_X8_85 sh_234 (by rfl) ?_
        refine aw_top hN.pa ?_
        refine aw_iald dX8_next_168 sh_238 rfl (by omega) (by decide) ?_
        refine aw_top (hN.tp (p + n) (by omega)) ?_
        have hb := hk.2 (p + n) (by omega)
        refine aw_s1i dX8_next_169 ml_X8_98 st_X8_isFigure (c_X8_isFigure _) (Nat.le_of_ble_eq_true rfl) (Nat.le_of_ble_eq_true rfl) (Nat.le_of_ble_eq_true rfl) (Nat.le_of_ble_eq_true rfl) (Nat.le_of_ble_eq_true rfl) ?_
        refine aw_pif_eq (tgt := 232) dX8_next_172 (by decide) (fun c172 => ?_) (fun c172 => ?_)
        · rw [pIn_nI (by omega)] at c172
          exact y_X8_next tb tl p hk hp c n (by omega) hfg (Or.inr (fun q => c172 ⟨q.1, by omega⟩)) hN hF kk
        · rw [pIn_nI (by omega)] at c172
          refine aw_aload_n dX8_next_175 rfl ?_
          refine aw_aload_n dX8_next_176 rfl ?_
          refine aw_gi dX8_next_177 gf_X8_85 sh_234 (by rfl) ?_
          refine aw_top hN.pa ?_
          refine aw_aload_n dX8_next_180 rfl ?_
          refine aw_gi dX8_next_181 gf_X8_88 sh_234 (by rfl) ?_
          refine aw_top hN.pb ?_
          refine aw_isub dX8_next_184 ?_
          refine aw_top (pk_sub (by omega)) ?_
          refine aw_top (show _ = nI n by rw [Nat.add_sub_cancel_left]) ?_
          refine aw_iconst (v := nI 2) dX8_next_185 rfl ?_
          refine aw_icmp_ge (tgt := 212) dX8_next_186 (by decide) (fun c186 => ?_) (fun c186 => ?_)
          · rw [nI_leI (by omega) (by omega)] at c186
            refine aw_aload_n dX8_next_212 rfl ?_
            refine aw_gi dX8_next_213 gf_X8_104 sh_234 (by rfl) ?_
            refine aw_top hN.pv ?_
            refine aw_pi dX8_next_216 pf_X8_104 rfl rfl sh_234 (by rfl) ?_
            refine aw_gen (P := fun μ3 => nxC μ3 tb tl (p + n) p (nI 2) (nI (pV tb (min (n + 1) 2) p 0)) ∧ nxF μ μ3) ⟨by rw [show min (n + 1) 2 = min n 2 by omega]; exact hN.sv _, hF.up (by decide)⟩ (fun μ1 hq => ?_)
            obtain ⟨hN, hF⟩ := hq
            refine aw_aload_n dX8_next_219 rfl ?_
            refine aw_dup dX8_next_220 rfl ?_
            refine aw_gi dX8_next_221 gf_X8_85 sh_234 (by rfl) ?_
            refine aw_top hN.pa ?_
            refine aw_iconst (v := nI 1) dX8_next_224 rfl ?_
            refine aw_iadd dX8_next_225 ?_
            refine aw_top (nI_add _ _) ?_
            refine aw_pi dX8_next_226 pf_X8_85 rfl rfl sh_234 (by rfl) ?_
            refine aw_gen (P := fun μ3 => nxC μ3 tb tl (p + (n + 1)) p (nI 2) (nI (pV tb (min (n + 1) 2) p 0)) ∧ nxF μ μ3) ⟨hN.sa _, hF.up (by decide)⟩ (fun μ1 hq => ?_)
            obtain ⟨hN, hF⟩ := hq
            refine aw_goto (tgt := 141) dX8_next_229 (by decide) ?_
            refine ih (n + 1) _ (by omega) (fun j hj => ?_) hN hF
            by_cases e : j = n
            · rw [e]; exact ⟨c172.1, by omega⟩
            · exact hfg j (by omega)
          · rw [nI_leI (by omega) (by omega)] at c186
            refine aw_bipush (v := nI 10) dX8_next_189 rfl ?_
            refine aw_aload_n dX8_next_191 rfl ?_
            refine aw_gi dX8_next_192 gf_X8_104 sh_234 (by rfl) ?_
            refine aw_top hN.pv ?_
            refine aw_imul dX8_next_195 ?_
            refine aw_top (pk_mul _ _) ?_
            refine aw_aload_n dX8_next_196 rfl ?_
            refine aw_gr dX8_next_197 gf_X8_19 sh_234 (by rfl) ?_
            refine aw_aload_n dX8_next_200 rfl ?_
            refine aw_gi dX8_next_201 gf_X8_85 sh_234 (by rfl) ?_
            refine aw_top hN.pa ?_
            refine aw_iald dX8_next_204 sh_238 rfl (by omega) (by decide) ?_
            refine aw_top (hN.tp (p + n) (by omega)) ?_
            refine aw_iadd dX8_next_205 ?_
            refine aw_top (nI_add _ _) ?_
            refine aw_bipush (v := nI 48) dX8_next_206 rfl ?_
            refine aw_isub dX8_next_208 ?_
            refine aw_top (pk_sub (by omega)) ?_
            refine aw_top (show _ = nI (pV tb (min (n + 1) 2) p 0) by rw [pV_end (by omega)]) ?_
            refine aw_goto (tgt := 216) dX8_next_209 (by decide) ?_
            refine aw_pi dX8_next_216 pf_X8_104 rfl rfl sh_234 (by rfl) ?_
            refine aw_gen (P := fun μ3 => nxC μ3 tb tl (p + n) p (nI 2) (nI (pV tb (min (n + 1) 2) p 0)) ∧ nxF μ μ3) ⟨hN.sv _, hF.up (by decide)⟩ (fun μ1 hq => ?_)
            obtain ⟨hN, hF⟩ := hq
            refine aw_aload_n dX8_next_219 rfl ?_
            refine aw_dup dX8_next_220 rfl ?_
            refine aw_gi dX8_next_221 gf_X8_85 sh_234 (by rfl) ?_
            refine aw_top hN.pa ?_
            refine aw_iconst (v := nI 1) dX8_next_224 rfl ?_
            refine aw_iadd dX8_next_225 ?_
            refine aw_top (nI_add _ _) ?_
            refine aw_pi dX8_next_226 pf_X8_85 rfl rfl sh_234 (by rfl) ?_
            refine aw_gen (P := fun μ3 => nxC μ3 tb tl (p + (n + 1)) p (nI 2) (nI (pV tb (min (n + 1) 2) p 0)) ∧ nxF μ μ3) ⟨hN.sa _, hF.up (by decide)⟩ (fun μ1 hq => ?_)
            obtain ⟨hN, hF⟩ := hq
            refine aw_goto (tgt := 141) dX8_next_229 (by decide) ?_
            refine ih (n + 1) _ (by omega) (fun j hj => ?_) hN hF
            by_cases e : j = n
            · rw [e]; exact ⟨c172.1, by omega⟩
            · exact hfg j (by omega)
set_option maxRecDepth 100000 in
set_option maxHeartbeats 4000000 in
theorem z_X8_next {G : am_G} {μ : am_M} {μ1 : am_M} (tb : Nat → Nat) (tl p : Nat) (hk : tpOK tb tl) (hp : p ≤ tl) {Q : Option Value → List am_S → am_M → Prop} (c t0 v0 : Int32) (hN : nxC μ1 tb tl p p t0 v0) (hF : nxF μ μ1) (kk : ∀ (n : Nat) (μ9 : am_M), p + n ≤ tl → (∀ j, j < n → 48 ≤ tb (p + j) ∧ tb (p + j) ≤ 57) → (p + n = tl ∨ ¬ (48 ≤ tb (p + n) ∧ tb (p + n) ≤ 57)) → nxC μ9 tb tl (p + n) p (nI (if 2 < n then 5 else 2)) (nI (pV tb (min n 2) p 0)) → nxF μ μ9 → Q none am_SH μ9) : am_W (am_K G RX8 "next" 2 none 2 0 0 Q) cX8_next 92 [some (.ref 234), some (.int c)] [.int (nI 2), .ref 234] am_SH μ1 0 0 := by
  refine aw_pi dX8_next_92 pf_X8_101 rfl rfl sh_234 (by rfl) ?_
  refine aw_gen (P := fun μ3 => nxC μ3 tb tl p p (nI 2) v0 ∧ nxF μ μ3) ⟨hN.st _, hF.up (by decide)⟩ (fun μ1 hq => ?_)
  obtain ⟨hN, hF⟩ := hq
  refine aw_aload_n dX8_next_95 rfl ?_
  refine aw_aload_n dX8_next_96 rfl ?_
  refine aw_gi dX8_next_97 gf_X8_101 sh_234 (by rfl) ?_
  refine aw_top hN.pt ?_
  refine aw_iconst (v := nI 1) dX8_next_100 rfl ?_
  refine aw_icmp_ne (tgt := 108) dX8_next_101 (by decide) (fun c101 => ?_) (fun c101 => ?_)
  · refine aw_iconst (v := nI 0) dX8_next_108 rfl ?_
    refine aw_pi dX8_next_109 pf_X8_104 rfl rfl sh_234 (by rfl) ?_
    refine aw_gen (P := fun μ3 => nxC μ3 tb tl p p (nI 2) (nI 0) ∧ nxF μ μ3) ⟨hN.sv _, hF.up (by decide)⟩ (fun μ1 hq => ?_)
    obtain ⟨hN, hF⟩ := hq
    refine aw_aload_n dX8_next_112 rfl ?_
    refine aw_dup dX8_next_113 rfl ?_
    refine aw_gi dX8_next_114 gf_X8_85 sh_234 (by rfl) ?_
    refine aw_top hN.pa ?_
    refine aw_aload_n dX8_next_117 rfl ?_
    refine aw_gi dX8_next_118 gf_X8_101 sh_234 (by rfl) ?_
    refine aw_top hN.pt ?_
    refine aw_if_le (tgt := 136) dX8_next_121 (by decide) (fun c121 => ?_) (fun c121 => ?_)
    · exact absurd c121 (by decide +kernel)
    · refine aw_aload_n dX8_next_124 rfl ?_
      refine aw_gi dX8_next_125 gf_X8_101 sh_234 (by rfl) ?_
      refine aw_top hN.pt ?_
      refine aw_iconst (v := nI 2) dX8_next_128 rfl ?_
      refine aw_icmp_eq (tgt := 136) dX8_next_129 (by decide) (fun c129 => ?_) (fun c129 => ?_)
      · refine aw_iconst (v := nI 0) dX8_next_136 rfl ?_
        refine aw_iadd dX8_next_137 ?_
        refine aw_top (nI_add _ _) ?_
        refine aw_pi dX8_next_138 pf_X8_85 rfl rfl sh_234 (by rfl) ?_
        refine aw_gen (P := fun μ3 => nxC μ3 tb tl (p + 0) p (nI 2) (nI 0) ∧ nxF μ μ3) ⟨hN.sa _, hF.up (by decide)⟩ (fun μ1 hq => ?_)
        obtain ⟨hN, hF⟩ := hq
        exact l_X8_next tb tl p hk hp c kk (tl - p) 0 _ (by omega) (fun j hj => absurd hj (by omega)) hN hF
      · exact absurd rfl c129
  · exact absurd c101 (by decide +kernel)
set_option maxRecDepth 100000 in
set_option maxHeartbeats 4000000 in
theorem c_X8_next {G : am_G} {μ : am_M} (tb : Nat → Nat) (tl p : Nat) (hk : tpOK tb tl) (hp : p ≤ tl) (hA : μ 234 15 = nI p ∧ μ 234 19 = nI tl ∧ ∀ j, j < tl → μ 238 j = nI (tb j)) : am_MA G yX8_next cX8_next 2 none 2 0 0 [.ref 234] am_SH μ (am_P none am_SH (fun μ9 => ∃ a v, nxC μ9 tb tl a p (nI (pTk tb tl p)) v ∧ nxF μ μ9 ∧ nxR tb tl p a v ∧ a ≤ tl)) := by
  have htl := hk.1
  refine am_ofK (own := RX8) (nm := "next") (L := [some (.ref 234), none]) rfl rfl (by decide +kernel) (Nat.le_of_ble_eq_true rfl) rfl ?_
  refine aw_aload_n dX8_next_0 rfl ?_
  refine aw_aload_n dX8_next_1 rfl ?_
  refine aw_gi dX8_next_2 gf_X8_85 sh_234 (by rfl) ?_
  refine aw_top hA.1 ?_
  refine aw_pi dX8_next_5 pf_X8_88 rfl rfl sh_234 (by rfl) ?_
  refine aw_gen (P := fun μ3 => nxC μ3 tb tl p p (μ 234 17) (μ 234 18) ∧ nxF μ μ3) ⟨⟨by rw [am_ups, pk_un (by decide)]; exact hA.1, by rw [am_ups, pk_us], by rw [am_ups, pk_un (by decide)], by rw [am_ups, pk_un (by decide)], by rw [am_ups, pk_un (by decide)]; exact hA.2.1, fun j hj => by rw [am_upn (by decide)]; exact hA.2.2 j hj⟩, nxF.rf.up (by decide)⟩ (fun μ1 hq => ?_)
  obtain ⟨hN, hF⟩ := hq
  refine aw_aload_n dX8_next_8 rfl ?_
  refine aw_gi dX8_next_9 gf_X8_85 sh_234 (by rfl) ?_
  refine aw_top hN.pa ?_
  refine aw_aload_n dX8_next_12 rfl ?_
  refine aw_gi dX8_next_13 gf_X8_91 sh_234 (by rfl) ?_
  refine aw_top hN.ps ?_
  refine aw_icmp_ge (tgt := 31) dX8_next_16 (by decide) (fun c16 => ?_) (fun c16 => ?_)
  · have hge : tl ≤ p := by rw [nI_leI (by omega) (by omega)] at c16; omega
    refine aw_iconst (v := (-1)) dX8_next_31 rfl ?_
    refine aw_istore_n dX8_next_32 (Nat.le_of_ble_eq_true rfl) ?_
    refine aw_aload_n dX8_next_33 rfl ?_
    refine aw_iload_n dX8_next_34 rfl ?_
    refine aw_if_ge (tgt := 42) dX8_next_35 (by decide) (fun c35 => ?_) (fun c35 => ?_)
    · exact absurd c35 (by decide +kernel)
    · refine aw_iconst (v := nI 0) dX8_next_38 rfl ?_
      refine aw_goto (tgt := 92) dX8_next_39 (by decide) ?_
      have et : pTk tb tl p = 0 := by unfold pTk; rw [if_neg (by omega)]
      refine x_X8_next tb tl p hk hp 0 (by decide) (by decide) _ _ _ hN hF (fun μ9 g1 g2 => ?_)
      refine ⟨rfl, rfl, _, _, by rw [et]; exact g1, g2, ⟨fun q => ?_, fun q => ?_, fun q => ?_, fun q => ?_, fun q => ?_⟩, by show p ≤ tl; omega⟩
      all_goals first | exact absurd (et.symm.trans q) (by decide) | rfl | exact ⟨rfl, rfl⟩
  · have hlt : p < tl := by rw [nI_leI (by omega) (by omega)] at c16; omega
    have hb := hk.2 p hlt
    refine aw_aload_n dX8_next_19 rfl ?_
    refine aw_gr dX8_next_20 gf_X8_19 sh_234 (by rfl) ?_
    refine aw_aload_n dX8_next_23 rfl ?_
    refine aw_gi dX8_next_24 gf_X8_85 sh_234 (by rfl) ?_
    refine aw_top hN.pa ?_
    refine aw_iald dX8_next_27 sh_238 rfl (by omega) (by decide) ?_
    refine aw_top (hN.tp p hlt) ?_
    refine aw_goto (tgt := 32) dX8_next_28 (by decide) ?_
    refine aw_istore_n dX8_next_32 (Nat.le_of_ble_eq_true rfl) ?_
    refine aw_aload_n dX8_next_33 rfl ?_
    refine aw_iload_n dX8_next_34 rfl ?_
    refine aw_if_ge (tgt := 42) dX8_next_35 (by decide) (fun c35 => ?_) (fun c35 => ?_)
    · refine aw_iload_n dX8_next_42 rfl ?_
      refine aw_i2l dX8_next_43 ?_
      refine aw_ldc2 dX8_next_44 kl_X8_94 ?_
      refine aw_ldc2 dX8_next_47 kl_X8_96 ?_
      refine aw_s3i dX8_next_50 ml_X8_57 st_X8_in (c_X8_in _ 97 123 (by decide +kernel) (by decide +kernel)) (Nat.le_of_ble_eq_true rfl) (Nat.le_of_ble_eq_true rfl) (Nat.le_of_ble_eq_true rfl) (Nat.le_of_ble_eq_true rfl) (Nat.le_of_ble_eq_true rfl) ?_
      refine aw_pif_eq (tgt := 60) dX8_next_53 (by decide) (fun c53 => ?_) (fun c53 => ?_)
      · rw [pIn_nI (by omega)] at c53
        refine aw_iload_n dX8_next_60 rfl ?_
        refine aw_s1i dX8_next_61 ml_X8_98 st_X8_isFigure (c_X8_isFigure _) (Nat.le_of_ble_eq_true rfl) (Nat.le_of_ble_eq_true rfl) (Nat.le_of_ble_eq_true rfl) (Nat.le_of_ble_eq_true rfl) (Nat.le_of_ble_eq_true rfl) ?_
        refine aw_pif_eq (tgt := 71) dX8_next_64 (by decide) (fun c64 => ?_) (fun c64 => ?_)
        · rw [pIn_nI (by omega)] at c64
          refine aw_iload_n dX8_next_71 rfl ?_
          refine aw_bipush (v := nI 44) dX8_next_72 rfl ?_
          refine aw_icmp_ne (tgt := 81) dX8_next_74 (by decide) (fun c74 => ?_) (fun c74 => ?_)
          · rw [nI_eq (by omega) (by omega)] at c74
            refine aw_iload_n dX8_next_81 rfl ?_
            refine aw_bipush (v := nI 59) dX8_next_82 rfl ?_
            refine aw_icmp_ne (tgt := 91) dX8_next_84 (by decide) (fun c84 => ?_) (fun c84 => ?_)
            · rw [nI_eq (by omega) (by omega)] at c84
              refine aw_iconst (v := nI 5) dX8_next_91 rfl ?_
              have et : pTk tb tl p = 5 := by unfold pTk; rw [if_pos hlt, if_neg (fun q => c53 ⟨q.1, by omega⟩), if_neg (fun q => c64 ⟨q.1, by omega⟩), if_neg c74, if_neg c84]
              refine x_X8_next tb tl p hk hp 5 (by decide) (by decide) _ _ _ hN hF (fun μ9 g1 g2 => ?_)
              refine ⟨rfl, rfl, _, _, by rw [et]; exact g1, g2, ⟨fun q => ?_, fun q => ?_, fun q => ?_, fun q => ?_, fun q => ?_⟩, by show p + 1 ≤ tl; omega⟩
              all_goals first | exact absurd (et.symm.trans q) (by decide) | rfl | exact ⟨rfl, rfl⟩
            · rw [nI_eq (by omega) (by omega)] at c84
              refine aw_iconst (v := nI 4) dX8_next_87 rfl ?_
              refine aw_goto (tgt := 92) dX8_next_88 (by decide) ?_
              have et : pTk tb tl p = 4 := by unfold pTk; rw [if_pos hlt, if_neg (fun q => c53 ⟨q.1, by omega⟩), if_neg (fun q => c64 ⟨q.1, by omega⟩), if_neg c74, if_pos c84]
              refine x_X8_next tb tl p hk hp 4 (by decide) (by decide) _ _ _ hN hF (fun μ9 g1 g2 => ?_)
              refine ⟨rfl, rfl, _, _, by rw [et]; exact g1, g2, ⟨fun q => ?_, fun q => ?_, fun q => ?_, fun q => ?_, fun q => ?_⟩, by show p + 1 ≤ tl; omega⟩
              all_goals first | exact absurd (et.symm.trans q) (by decide) | rfl | exact ⟨rfl, rfl⟩
          · rw [nI_eq (by omega) (by omega)] at c74
            refine aw_iconst (v := nI 3) dX8_next_77 rfl ?_
            refine aw_goto (tgt := 92) dX8_next_78 (by decide) ?_
            have et : pTk tb tl p = 3 := by unfold pTk; rw [if_pos hlt, if_neg (fun q => c53 ⟨q.1, by omega⟩), if_neg (fun q => c64 ⟨q.1, by omega⟩), if_pos c74]
            refine x_X8_next tb tl p hk hp 3 (by decide) (by decide) _ _ _ hN hF (fun μ9 g1 g2 => ?_)
            refine ⟨rfl, rfl, _, _, by rw [et]; exact g1, g2, ⟨fun q => ?_, fun q => ?_, fun q => ?_, fun q => ?_, fun q => ?_⟩, by show p + 1 ≤ tl; omega⟩
            all_goals first | exact absurd (et.symm.trans q) (by decide) | rfl | exact ⟨rfl, rfl⟩
        · rw [pIn_nI (by omega)] at c64
          refine aw_iconst (v := nI 2) dX8_next_67 rfl ?_
          refine aw_goto (tgt := 92) dX8_next_68 (by decide) ?_
          refine z_X8_next tb tl p hk hp _ _ _ hN hF (fun n μ9 h1 h2 h3 g1 g2 => ?_)
          have ef := pFigs_min h1 h2 h3
          have hn1 : 1 ≤ n := by
            rcases Nat.eq_zero_or_pos n with e | e
            · subst e
              rcases h3 with h3 | h3
              · omega
              · exact absurd (show 48 ≤ tb p ∧ tb p ≤ 57 from ⟨c64.1, by omega⟩) h3
            · exact e
          have et : pTk tb tl p = if 2 < n then 5 else 2 := by
            unfold pTk
            rw [if_pos hlt, if_neg (fun q => c53 ⟨q.1, by omega⟩), if_pos ⟨c64.1, by omega⟩, ef]
            by_cases q : 2 < n
            · rw [if_pos q, if_pos (by omega)]
            · rw [if_neg q, if_neg (by omega)]
          refine ⟨rfl, rfl, p + n, _, by rw [et]; exact g1, g2, ⟨fun q => ?_, fun q => ?_, fun q => ?_, fun q => ?_, fun q => ?_⟩, h1⟩
          all_goals rw [et] at q
          · split at q <;> omega
          · split at q <;> omega
          · have q2 : n ≤ 2 := by
              by_cases c : 2 < n
              · rw [if_pos c] at q; omega
              · omega
            rw [ef, show min 3 n = n by omega, show min n 2 = n by omega]
            exact ⟨rfl, rfl⟩
          · split at q <;> omega
          · split at q <;> omega
      · rw [pIn_nI (by omega)] at c53
        refine aw_iconst (v := nI 1) dX8_next_56 rfl ?_
        refine aw_goto (tgt := 92) dX8_next_57 (by decide) ?_
        have et : pTk tb tl p = 1 := by unfold pTk; rw [if_pos hlt, if_pos ⟨c53.1, by omega⟩]
        refine x_X8_next tb tl p hk hp 1 (by decide) (by decide) _ _ _ hN hF (fun μ9 g1 g2 => ?_)
        refine ⟨rfl, rfl, _, _, by rw [et]; exact g1, g2, ⟨fun q => ?_, fun q => ?_, fun q => ?_, fun q => ?_, fun q => ?_⟩, by show p + 1 ≤ tl; omega⟩
        all_goals first | exact absurd (et.symm.trans q) (by decide) | rfl | exact ⟨rfl, rfl⟩
    · exact absurd (nI_pos' (by omega)) c35
