set_option maxRecDepth 100000 in
set_option maxHeartbeats 4000000 in
theorem l5_X8_turned {G : am_G} {μ : am_M} {μ1 : am_M} (A : pA) (h : InvM μ A) (o l n p : Nat) (x5 : Int32) (hp : p ≤ 10) (hf : am_fr μ μ1 245 1) : ∀ (r x y : Nat) (X Y : Option Value), x < 2 ^ 31 → y ≤ r ∧ y < 2 ^ 31 → Nat.gcd x y = (Nat.gcd 10000 (pCL A.K o l n p 16)) → am_W (am_K G RX8 "turned" 16 (some .long) 4 0 0 (am_P (some (.long (if x5 = 0 then lN ((pCL A.K o l n p 16) / (Nat.gcd 10000 (pCL A.K o l n p 16))) else lN (10000 / (Nat.gcd 10000 (pCL A.K o l n p 16)))))) am_SH (fun μ9 => InvM μ9 A ∧ am_fr μ μ9 234 14))) cX8_turned 230 [some (.ref 234), some (.int (nI o)), some (.int (nI l)), some (.int (nI n)), some (.int (nI p)), some (.int x5), some (.long (lN (pCL A.K o l n p 16))), none, some (.long (lN 10000)), none, some (.long (lN x)), none, some (.long (lN y)), none, X, Y] [] am_SH μ1 0 0 := by
  have hcl := pCL_le A.K o l n p hp 16
  intro r
  induction r with
  | zero =>
    intro x y X Y hx hy e
    have hx0 : 0 < Nat.gcd x y := by rw [e]; exact Nat.gcd_pos_of_pos_left _ (by decide)
    have hxp : y = 0 → 0 < x := fun q => by rw [q, Nat.gcd_zero_right] at hx0; exact hx0
    refine aw_lload dX8_turned_230 rfl ?_
    refine aw_lconst (v := lN 0) dX8_turned_232 rfl ?_
    refine aw_lcmp dX8_turned_233 ?_
    refine aw_if_eq (tgt := 255) dX8_turned_234 (by decide) (fun c234 => ?_) (fun c234 => ?_)
    · rw [lg_cmp_eq, pk_lEQ (by omega) (by omega)] at c234
      have hxp2 := hxp c234
      refine aw_iload dX8_turned_255 rfl ?_
      refine aw_if_ne (tgt := 268) dX8_turned_257 (by decide) (fun c257 => ?_) (fun c257 => ?_)
      · refine aw_lload dX8_turned_268 rfl ?_
        refine aw_lload dX8_turned_270 rfl ?_
        refine aw_ldiv dX8_turned_272 (fun q => by rw [show (0 : Int64) = lN 0 from rfl, pk_lEQ (by omega) (by omega)] at q; omega) ?_
        rw [pk_lDiv (by omega) (by omega) (by omega)]
        refine aw_lret dX8_turned_273 rfl rfl rfl ?_
        have ex : x = Nat.gcd 10000 (pCL A.K o l n p 16) := by rw [← e, c234, Nat.gcd_zero_right]
        refine ⟨congrArg (fun z => some (Value.long z)) ?_, rfl, (h.f2 (fun b hb => hf b (by omega))), hf.mono (by omega) (by omega)⟩
        rw [if_neg c257, ← ex]
      · refine aw_lload dX8_turned_260 rfl ?_
        refine aw_lload dX8_turned_262 rfl ?_
        refine aw_ldiv dX8_turned_264 (fun q => by rw [show (0 : Int64) = lN 0 from rfl, pk_lEQ (by omega) (by omega)] at q; omega) ?_
        rw [pk_lDiv (by omega) (by omega) (by omega)]
        refine aw_goto (tgt := 273) dX8_turned_265 (by decide) ?_
        refine aw_lret dX8_turned_273 rfl rfl rfl ?_
        have ex : x = Nat.gcd 10000 (pCL A.K o l n p 16) := by rw [← e, c234, Nat.gcd_zero_right]
        refine ⟨congrArg (fun z => some (Value.long z)) ?_, rfl, (h.f2 (fun b hb => hf b (by omega))), hf.mono (by omega) (by omega)⟩
        rw [if_pos c257, ← ex]
    · rw [lg_cmp_eq, pk_lEQ (by omega) (by omega)] at c234
      omega
  | succ r ih =>
    intro x y X Y hx hy e
    have hx0 : 0 < Nat.gcd x y := by rw [e]; exact Nat.gcd_pos_of_pos_left _ (by decide)
    have hxp : y = 0 → 0 < x := fun q => by rw [q, Nat.gcd_zero_right] at hx0; exact hx0
    refine aw_lload dX8_turned_230 rfl ?_
    refine aw_lconst (v := lN 0) dX8_turned_232 rfl ?_
    refine aw_lcmp dX8_turned_233 ?_
    refine aw_if_eq (tgt := 255) dX8_turned_234 (by decide) (fun c234 => ?_) (fun c234 => ?_)
    · rw [lg_cmp_eq, pk_lEQ (by omega) (by omega)] at c234
      have hxp2 := hxp c234
      refine aw_iload dX8_turned_255 rfl ?_
      refine aw_if_ne (tgt := 268) dX8_turned_257 (by decide) (fun c257 => ?_) (fun c257 => ?_)
      · refine aw_lload dX8_turned_268 rfl ?_
        refine aw_lload dX8_turned_270 rfl ?_
        refine aw_ldiv dX8_turned_272 (fun q => by rw [show (0 : Int64) = lN 0 from rfl, pk_lEQ (by omega) (by omega)] at q; omega) ?_
        rw [pk_lDiv (by omega) (by omega) (by omega)]
        refine aw_lret dX8_turned_273 rfl rfl rfl ?_
        have ex : x = Nat.gcd 10000 (pCL A.K o l n p 16) := by rw [← e, c234, Nat.gcd_zero_right]
        refine ⟨congrArg (fun z => some (Value.long z)) ?_, rfl, (h.f2 (fun b hb => hf b (by omega))), hf.mono (by omega) (by omega)⟩
        rw [if_neg c257, ← ex]
      · refine aw_lload dX8_turned_260 rfl ?_
        refine aw_lload dX8_turned_262 rfl ?_
        refine aw_ldiv dX8_turned_264 (fun q => by rw [show (0 : Int64) = lN 0 from rfl, pk_lEQ (by omega) (by omega)] at q; omega) ?_
        rw [pk_lDiv (by omega) (by omega) (by omega)]
        refine aw_goto (tgt := 273) dX8_turned_265 (by decide) ?_
        refine aw_lret dX8_turned_273 rfl rfl rfl ?_
        have ex : x = Nat.gcd 10000 (pCL A.K o l n p 16) := by rw [← e, c234, Nat.gcd_zero_right]
        refine ⟨congrArg (fun z => some (Value.long z)) ?_, rfl, (h.f2 (fun b hb => hf b (by omega))), hf.mono (by omega) (by omega)⟩
        rw [if_pos c257, ← ex]
    · rw [lg_cmp_eq, pk_lEQ (by omega) (by omega)] at c234
      refine aw_lload dX8_turned_237 rfl ?_
      refine aw_lload dX8_turned_239 rfl ?_
      refine aw_lrem dX8_turned_241 (fun q => by rw [show (0 : Int64) = lN 0 from rfl, pk_lEQ (by omega) (by omega)] at q; omega) ?_
      rw [pk_lRem (by omega) (by omega) (by omega)]
      refine aw_lstore dX8_turned_242 (Nat.le_of_ble_eq_true rfl) ?_
      refine aw_lload dX8_turned_244 rfl ?_
      refine aw_lstore dX8_turned_246 (Nat.le_of_ble_eq_true rfl) ?_
      refine aw_lload dX8_turned_248 rfl ?_
      refine aw_lstore dX8_turned_250 (Nat.le_of_ble_eq_true rfl) ?_
      refine aw_goto (tgt := 230) dX8_turned_252 (by decide) ?_
      have hm := Nat.mod_lt x (show 0 < y by omega)
      exact ih y (x % y) _ _ (by omega) (by omega) (by rw [← e, Nat.gcd_comm x y, Nat.gcd_rec y x, Nat.gcd_comm])
theorem pTurn_ok {K : pK} (t : Nat) (h : pOK K) : pOK (pTurn K t) := by
  refine ⟨by rw [pTurn_4 (by decide)]; exact h.1, by rw [pTurn_4 (by decide)]; exact h.2.1, fun b hb => ?_, by rw [pTurn_4 (by decide)]; exact h.2.2.2.1, fun o ho => ?_⟩
  · have := h.2.2.1 b hb
    unfold pTurn
    rw [if_pos hb]
    split <;> omega
  · rw [pTurn_4 (by decide)] at ho
    rw [pTurn_4 (by omega), pTurn_4 (by omega), pTurn_4 (by omega), pTurn_4 (by omega)]
    exact h.2.2.2.2 o ho
def pTb (K : pK) (t b : Nat) : pK := fun j => if j < b then pTurn K t j else K j
theorem pTb_4 (K : pK) (t j : Nat) : pTb K t 4 j = pTurn K t j := by
  unfold pTb
  split
  · rfl
  · rw [pTurn_4 (by omega)]
theorem pTb_s (K : pK) (t b j : Nat) : pUp (pTb K t b) b (pTurn K t b) j = pTb K t (b + 1) j := by
  by_cases e : j = b
  · rw [e, pUp_s]; unfold pTb; rw [if_pos (by omega)]
  · rw [pUp_n e]; unfold pTb
    by_cases e2 : j < b
    · rw [if_pos e2, if_pos (by omega)]
    · rw [if_neg e2, if_neg (by omega)]
set_option maxRecDepth 100000 in
set_option maxHeartbeats 4000000 in
theorem l4_X8_turned {G : am_G} {μ : am_M} (A : pA) (ok : okA A) (o l n p : Nat) (x5 : Int32) (hoo : o < A.K 5) (hl : l ≤ 9) (hn : n ≤ 12) (hp : p ≤ 10) (t : Nat) (ht : t < 16) (kk : ∀ (μ1 : am_M) (X Y Z V U : Option Value), am_fr μ μ1 245 1 → am_W (am_K G RX8 "turned" 16 (some .long) 4 0 0 (am_P (some (.long (if x5 = 0 then lN ((pCL A.K o l n p 16) / (Nat.gcd 10000 (pCL A.K o l n p 16))) else lN (10000 / (Nat.gcd 10000 (pCL A.K o l n p 16)))))) am_SH (fun μ9 => InvM μ9 A ∧ am_fr μ μ9 234 14))) cX8_turned 63 [some (.ref 234), some (.int (nI o)), some (.int (nI l)), some (.int (nI n)), some (.int (nI p)), some (.int x5), some (.long (lN (pCL A.K o l n p (t + 1)))), none, some (.long (lN 10000)), none, some (.int (nI (t + 1))), X, Y, Z, V, U] [] am_SH μ1 0 0) : ∀ (r k : Nat) (L : pK) (μ1 : am_M) (V U : Option Value), k + r = n → mC μ1 245 L → pOK L → L 6 + r ≤ 1000000 → am_fr μ μ1 245 1 → pH r L = pH n (pTurn A.K t) → am_W (am_K G RX8 "turned" 16 (some .long) 4 0 0 (am_P (some (.long (if x5 = 0 then lN ((pCL A.K o l n p 16) / (Nat.gcd 10000 (pCL A.K o l n p 16))) else lN (10000 / (Nat.gcd 10000 (pCL A.K o l n p 16)))))) am_SH (fun μ9 => InvM μ9 A ∧ am_fr μ μ9 234 14))) cX8_turned 173 [some (.ref 234), some (.int (nI o)), some (.int (nI l)), some (.int (nI n)), some (.int (nI p)), some (.int x5), some (.long (lN (pCL A.K o l n p t))), none, some (.long (lN 10000)), none, some (.int (nI t)), some (.long (lN (pCs t p 4))), none, some (.int (nI k)), V, U] [] am_SH μ1 0 0 := by
  have h5 := ok.k.1
  intro r
  induction r with
  | zero =>
    intro k L μ1 V U hk hL hO h6 hf e
    have e : L = pH n (pTurn A.K t) := e
    have el := pH_L1 (o := o) n (pTurn A.K t) (by rw [pTurn_4 (by decide)]; exact hoo) (by rw [pTurn_4 (by decide)]; exact ok.k.1)
    rw [pTurn_4 (show 4 ≤ 12 + o by omega), pTurn_4 (show 4 ≤ 17 + o by omega)] at el
    have hok := (pH_ok n (pTurn A.K t) (pTurn_ok t ok.k) (by rw [pTurn_4 (by decide)]; have := ok.k6; omega))
    have htl := (hok.1.2.2.2.2 o (by rw [hok.2 5 (by decide) (by decide), pTurn_4 (by decide)]; exact hoo)).2.1
    have etl : pH n (pTurn A.K t) (12 + o) = (pL1 (pTurn A.K t) n (A.K (12 + o)) (A.K (17 + o))).1 := congrArg Prod.fst el
    rw [etl] at htl
    refine aw_iload dX8_turned_173 rfl ?_
    refine aw_iload_n dX8_turned_175 rfl ?_
    refine aw_icmp_ge (tgt := 192) dX8_turned_176 (by decide) (fun c176 => ?_) (fun c176 => ?_)
    · refine aw_lload dX8_turned_192 rfl ?_
      refine aw_aload_n dX8_turned_194 rfl ?_
      refine aw_gr dX8_turned_195 gf_X8_41 sh_234 (by rfl) ?_
      refine aw_bipush (v := nI 12) dX8_turned_198 rfl ?_
      refine aw_iload_n dX8_turned_200 rfl ?_
      refine aw_iadd dX8_turned_201 ?_
      refine aw_top (nI_add _ _) ?_
      refine aw_iald dX8_turned_202 sh_245 rfl (by omega) (by decide) ?_
      refine aw_top (show _ = nI (pL1 (pTurn A.K t) n (A.K (12 + o)) (A.K (17 + o))).1 by rw [hL (12 + o) (by omega), e, ← el]) ?_
      refine aw_iload_n dX8_turned_203 rfl ?_
      refine aw_icmp_ne (tgt := 212) dX8_turned_204 (by decide) (fun c204 => ?_) (fun c204 => ?_)
      · rw [nI_eq (by omega) (by omega)] at c204
        have e1 : (pCL A.K o l n p (t + 1)) = (pCL A.K o l n p t) + 0 := by rw [pCL, if_neg c204]
        refine aw_lconst (v := lN 0) dX8_turned_212 rfl ?_
        refine aw_ladd dX8_turned_213 ?_
        rw [lN_add, ← e1]
        refine aw_lstore dX8_turned_214 (Nat.le_of_ble_eq_true rfl) ?_
        refine aw_iinc (v := nI (t + 1)) dX8_turned_216 rfl (nI_1 t) (Nat.le_of_ble_eq_true rfl) ?_
        refine aw_goto (tgt := 63) dX8_turned_219 (by decide) ?_
        exact kk _ _ _ _ _ _ hf
      · rw [nI_eq (by omega) (by omega)] at c204
        have e1 : (pCL A.K o l n p (t + 1)) = (pCL A.K o l n p t) + pCs t p 4 := by rw [pCL, if_pos c204]
        refine aw_lload dX8_turned_207 rfl ?_
        refine aw_goto (tgt := 213) dX8_turned_209 (by decide) ?_
        refine aw_ladd dX8_turned_213 ?_
        rw [lN_add, ← e1]
        refine aw_lstore dX8_turned_214 (Nat.le_of_ble_eq_true rfl) ?_
        refine aw_iinc (v := nI (t + 1)) dX8_turned_216 rfl (nI_1 t) (Nat.le_of_ble_eq_true rfl) ?_
        refine aw_goto (tgt := 63) dX8_turned_219 (by decide) ?_
        exact kk _ _ _ _ _ _ hf
    · exact absurd (nI_le (by omega) (by omega)) c176
  | succ r ih =>
    intro k L μ1 V U hk hL hO h6 hf e
    refine aw_iload dX8_turned_173 rfl ?_
    refine aw_iload_n dX8_turned_175 rfl ?_
    refine aw_icmp_ge (tgt := 192) dX8_turned_176 (by decide) (fun c176 => ?_) (fun c176 => ?_)
    · exact absurd c176 (nI_ge (by omega) (by omega))
    · refine aw_aload_n dX8_turned_179 rfl ?_
      refine aw_gr dX8_turned_180 gf_X8_41 sh_234 (by rfl) ?_
      refine aw_s1vp dX8_turned_183 ml_X8_175 st_X8_hourGoes (c_X8_hourGoes 245 sh_245 L hL hO) (Nat.le_of_ble_eq_true rfl) (Nat.le_of_ble_eq_true rfl) (Nat.le_of_ble_eq_true rfl) (Nat.le_of_ble_eq_true rfl) (Nat.le_of_ble_eq_true rfl) (fun μ2 q2 => ?_)
      refine aw_iinc (v := nI (k + 1)) dX8_turned_186 rfl (nI_1 k) (Nat.le_of_ble_eq_true rfl) ?_
      refine aw_goto (tgt := 173) dX8_turned_189 (by decide) ?_
      have e6 : pHour L 6 = L 6 + 1 := pHour_6
      exact ih (k + 1) (pHour L) μ2 _ _ (by omega) q2.1 (pHour_ok hO (by omega)) (by omega) (hf.tr q2.2) e
set_option maxRecDepth 100000 in
set_option maxHeartbeats 4000000 in
theorem l3_X8_turned {G : am_G} {μ : am_M}  (A : pA) (h : InvM μ A) (ok : okA A) (o l n p : Nat) (x5 : Int32) (hoo : o < A.K 5) (hl : l ≤ 9) (hn : n ≤ 12) (hp : p ≤ 10) (t : Nat) (ht : t < 16) (kk : ∀ (μ1 : am_M) (X Y Z V U : Option Value), am_fr μ μ1 245 1 → am_W (am_K G RX8 "turned" 16 (some .long) 4 0 0 (am_P (some (.long (if x5 = 0 then lN ((pCL A.K o l n p 16) / (Nat.gcd 10000 (pCL A.K o l n p 16))) else lN (10000 / (Nat.gcd 10000 (pCL A.K o l n p 16)))))) am_SH (fun μ9 => InvM μ9 A ∧ am_fr μ μ9 234 14))) cX8_turned 63 [some (.ref 234), some (.int (nI o)), some (.int (nI l)), some (.int (nI n)), some (.int (nI p)), some (.int x5), some (.long (lN (pCL A.K o l n p (t + 1)))), none, some (.long (lN 10000)), none, some (.int (nI (t + 1))), X, Y, Z, V, U] [] am_SH μ1 0 0) : ∀ (r b : Nat) (μ1 : am_M) (V U : Option Value), b + r = 4 → mC μ1 245 (pTb A.K t b) → am_fr μ μ1 245 1 → am_W (am_K G RX8 "turned" 16 (some .long) 4 0 0 (am_P (some (.long (if x5 = 0 then lN ((pCL A.K o l n p 16) / (Nat.gcd 10000 (pCL A.K o l n p 16))) else lN (10000 / (Nat.gcd 10000 (pCL A.K o l n p 16)))))) am_SH (fun μ9 => InvM μ9 A ∧ am_fr μ μ9 234 14))) cX8_turned 81 [some (.ref 234), some (.int (nI o)), some (.int (nI l)), some (.int (nI n)), some (.int (nI p)), some (.int x5), some (.long (lN (pCL A.K o l n p t))), none, some (.long (lN 10000)), none, some (.int (nI t)), some (.long (lN (pCs t p b))), none, some (.int (nI b)), V, U] [] am_SH μ1 0 0 := by
  intro r
  induction r with
  | zero =>
    intro b μ1 V U hb hL hf
    have e : b = 4 := by omega
    subst e
    refine aw_iload dX8_turned_81 rfl ?_
    refine aw_iconst (v := nI 4) dX8_turned_83 rfl ?_
    refine aw_icmp_ge (tgt := 170) dX8_turned_84 (by decide) (fun c84 => ?_) (fun c84 => ?_)
    · refine aw_iconst (v := nI 0) dX8_turned_170 rfl ?_
      refine aw_istore dX8_turned_171 (Nat.le_of_ble_eq_true rfl) ?_
      exact l4_X8_turned A ok o l n p x5 hoo hl hn hp t ht kk n 0 (pTurn A.K t) μ1 _ _ (by omega) (hL.cg (fun j _ => pTb_4 A.K t j)) (pTurn_ok t ok.k) (by rw [pTurn_4 (by decide)]; have := ok.k6; omega) hf rfl
    · exact absurd (nI_le (by omega) (by omega)) c84
  | succ r ih =>
    intro b μ1 V U hb hL hf
    have hb4 : b < 4 := by omega
    have hw := ok.k.2.2.1 b hb4
    have h2 : t / 2 ^ b % 2 < 2 := Nat.mod_lt _ (by decide)
    refine aw_iload dX8_turned_81 rfl ?_
    refine aw_iconst (v := nI 4) dX8_turned_83 rfl ?_
    refine aw_icmp_ge (tgt := 170) dX8_turned_84 (by decide) (fun c84 => ?_) (fun c84 => ?_)
    · exact absurd c84 (nI_ge (by omega) (by omega))
    · refine aw_iload dX8_turned_87 rfl ?_
      refine aw_iload dX8_turned_89 rfl ?_
      refine aw_ishr dX8_turned_91 ?_
      refine aw_iconst (v := nI 1) dX8_turned_92 rfl ?_
      refine aw_iand dX8_turned_93 ?_
      refine aw_top (pn_bit t ht b hb4) ?_
      refine aw_iconst (v := nI 1) dX8_turned_94 rfl ?_
      refine aw_icmp_ne (tgt := 102) dX8_turned_95 (by decide) (fun c95 => ?_) (fun c95 => ?_)
      · rw [nI_eq (by omega) (by decide)] at c95
        refine aw_iconst (v := nI 0) dX8_turned_102 rfl ?_
        refine aw_istore dX8_turned_103 (Nat.le_of_ble_eq_true rfl) ?_
        refine aw_aload_n dX8_turned_105 rfl ?_
        refine aw_gr dX8_turned_106 gf_X8_41 sh_234 (by rfl) ?_
        refine aw_iconst (v := nI 0) dX8_turned_109 rfl ?_
        refine aw_iload dX8_turned_110 rfl ?_
        refine aw_iadd dX8_turned_112 ?_
        refine aw_top ((nI_add 0 _).trans (by rw [Nat.zero_add])) ?_
        refine aw_iload dX8_turned_113 rfl ?_
        refine aw_if_eq (tgt := 132) dX8_turned_115 (by decide) (fun c115 => ?_) (fun c115 => ?_)
        · refine aw_aload_n dX8_turned_132 rfl ?_
          refine aw_gr dX8_turned_133 gf_X8_22 sh_234 (by rfl) ?_
          refine aw_iconst (v := nI 0) dX8_turned_136 rfl ?_
          refine aw_iload dX8_turned_137 rfl ?_
          refine aw_iadd dX8_turned_139 ?_
          refine aw_top ((nI_add 0 _).trans (by rw [Nat.zero_add])) ?_
          refine aw_iald dX8_turned_140 sh_239 rfl (by omega) (by decide) ?_
          refine aw_top (show _ = nI (A.K b) by rw [hf 239 (by omega)]; exact h.sk b (by omega)) ?_
          refine aw_top (show _ = nI (pTurn A.K t b) by unfold pTurn; rw [if_pos hb4, if_neg c95]) ?_
          refine aw_iast dX8_turned_141 sh_245 rfl (by omega) (by decide) ?_
          have hL2 := (hL.up b (pTurn A.K t b)).cg (fun j _ => pTb_s A.K t b j)
          refine aw_lload dX8_turned_142 rfl ?_
          refine aw_iload dX8_turned_144 rfl ?_
          refine aw_if_eq (tgt := 155) dX8_turned_146 (by decide) (fun c146 => ?_) (fun c146 => ?_)
          · refine aw_bipush (v := nI 10) dX8_turned_155 rfl ?_
            refine aw_iload dX8_turned_157 rfl ?_
            refine aw_isub dX8_turned_159 ?_
            refine aw_top (pk_sub (by omega)) ?_
            refine aw_i2l dX8_turned_160 ?_
            rw [nI_l (by omega)]
            refine aw_lmul dX8_turned_161 ?_
            rw [lN_mul]
            have e1 : pCs t p (b + 1) = pCs t p b * (10 - p) := by rw [pCs, if_neg c95]
            rw [← e1]
            refine aw_lstore dX8_turned_162 (Nat.le_of_ble_eq_true rfl) ?_
            refine aw_iinc (v := nI (b + 1)) dX8_turned_164 rfl (nI_1 b) (Nat.le_of_ble_eq_true rfl) ?_
            refine aw_goto (tgt := 81) dX8_turned_167 (by decide) ?_
            exact ih (b + 1) _ _ _ (by omega) hL2 (hf.up (by omega) (by omega))
          · exact absurd (show nI 0 = 0 by decide +kernel) c146
        · exact absurd (show nI 0 = 0 by decide +kernel) c115
      · rw [nI_eq (by omega) (by decide)] at c95
        refine aw_iconst (v := nI 1) dX8_turned_98 rfl ?_
        refine aw_goto (tgt := 103) dX8_turned_99 (by decide) ?_
        refine aw_istore dX8_turned_103 (Nat.le_of_ble_eq_true rfl) ?_
        refine aw_aload_n dX8_turned_105 rfl ?_
        refine aw_gr dX8_turned_106 gf_X8_41 sh_234 (by rfl) ?_
        refine aw_iconst (v := nI 0) dX8_turned_109 rfl ?_
        refine aw_iload dX8_turned_110 rfl ?_
        refine aw_iadd dX8_turned_112 ?_
        refine aw_top ((nI_add 0 _).trans (by rw [Nat.zero_add])) ?_
        refine aw_iload dX8_turned_113 rfl ?_
        refine aw_if_eq (tgt := 132) dX8_turned_115 (by decide) (fun c115 => ?_) (fun c115 => ?_)
        · exact absurd c115 (by decide +kernel)
        · refine aw_iconst (v := nI 4) dX8_turned_118 rfl ?_
          refine aw_aload_n dX8_turned_119 rfl ?_
          refine aw_gr dX8_turned_120 gf_X8_22 sh_234 (by rfl) ?_
          refine aw_iconst (v := nI 0) dX8_turned_123 rfl ?_
          refine aw_iload dX8_turned_124 rfl ?_
          refine aw_iadd dX8_turned_126 ?_
          refine aw_top ((nI_add 0 _).trans (by rw [Nat.zero_add])) ?_
          refine aw_iald dX8_turned_127 sh_239 rfl (by omega) (by decide) ?_
          refine aw_top (show _ = nI (A.K b) by rw [hf 239 (by omega)]; exact h.sk b (by omega)) ?_
          refine aw_isub dX8_turned_128 ?_
          refine aw_top (pk_sub (by omega)) ?_
          refine aw_goto (tgt := 141) dX8_turned_129 (by decide) ?_
          refine aw_top (show _ = nI (pTurn A.K t b) by unfold pTurn; rw [if_pos hb4, if_pos c95]) ?_
          refine aw_iast dX8_turned_141 sh_245 rfl (by omega) (by decide) ?_
          have hL2 := (hL.up b (pTurn A.K t b)).cg (fun j _ => pTb_s A.K t b j)
          refine aw_lload dX8_turned_142 rfl ?_
          refine aw_iload dX8_turned_144 rfl ?_
          refine aw_if_eq (tgt := 155) dX8_turned_146 (by decide) (fun c146 => ?_) (fun c146 => ?_)
          · exact absurd c146 (by decide +kernel)
          · refine aw_iload dX8_turned_149 rfl ?_
            refine aw_i2l dX8_turned_151 ?_
            rw [nI_l (by omega)]
            refine aw_goto (tgt := 161) dX8_turned_152 (by decide) ?_
            refine aw_lmul dX8_turned_161 ?_
            rw [lN_mul]
            have e1 : pCs t p (b + 1) = pCs t p b * p := by rw [pCs, if_pos c95]
            rw [← e1]
            refine aw_lstore dX8_turned_162 (Nat.le_of_ble_eq_true rfl) ?_
            refine aw_iinc (v := nI (b + 1)) dX8_turned_164 rfl (nI_1 b) (Nat.le_of_ble_eq_true rfl) ?_
            refine aw_goto (tgt := 81) dX8_turned_167 (by decide) ?_
            exact ih (b + 1) _ _ _ (by omega) hL2 (hf.up (by omega) (by omega))
set_option maxRecDepth 100000 in
set_option maxHeartbeats 4000000 in
theorem l_X8_turned {G : am_G} {μ : am_M} (A : pA) (h : InvM μ A) (ok : okA A) (o l n p : Nat) (x5 : Int32) (hoo : o < A.K 5) (hl : l ≤ 9) (hn : n ≤ 12) (hp : p ≤ 10) : ∀ (r t : Nat) (μ1 : am_M) (X Y Z V U : Option Value), t + r = 16 → am_fr μ μ1 245 1 → am_W (am_K G RX8 "turned" 16 (some .long) 4 0 0 (am_P (some (.long (if x5 = 0 then lN ((pCL A.K o l n p 16) / (Nat.gcd 10000 (pCL A.K o l n p 16))) else lN (10000 / (Nat.gcd 10000 (pCL A.K o l n p 16)))))) am_SH (fun μ9 => InvM μ9 A ∧ am_fr μ μ9 234 14))) cX8_turned 63 [some (.ref 234), some (.int (nI o)), some (.int (nI l)), some (.int (nI n)), some (.int (nI p)), some (.int x5), some (.long (lN (pCL A.K o l n p t))), none, some (.long (lN 10000)), none, some (.int (nI t)), X, Y, Z, V, U] [] am_SH μ1 0 0 := by
  intro r
  induction r with
  | zero =>
    intro t μ1 X Y Z V U ht hf
    have e : t = 16 := by omega
    subst e
    have hcl := pCL_le A.K o l n p hp 16
    refine aw_iload dX8_turned_63 rfl ?_
    refine aw_bipush (v := nI 16) dX8_turned_65 rfl ?_
    refine aw_icmp_ge (tgt := 222) dX8_turned_67 (by decide) (fun c67 => ?_) (fun c67 => ?_)
    · refine aw_lload dX8_turned_222 rfl ?_
      refine aw_lstore dX8_turned_224 (Nat.le_of_ble_eq_true rfl) ?_
      refine aw_lload dX8_turned_226 rfl ?_
      refine aw_lstore dX8_turned_228 (Nat.le_of_ble_eq_true rfl) ?_
      exact l5_X8_turned A h o l n p x5 hp hf 10000 _ 10000 _ _ (by omega) (by decide) (Nat.gcd_comm _ _)
    · exact absurd (nI_le (by omega) (by omega)) c67
  | succ r ih =>
    intro t μ1 X Y Z V U ht hf
    refine aw_iload dX8_turned_63 rfl ?_
    refine aw_bipush (v := nI 16) dX8_turned_65 rfl ?_
    refine aw_icmp_ge (tgt := 222) dX8_turned_67 (by decide) (fun c67 => ?_) (fun c67 => ?_)
    · exact absurd c67 (nI_ge (by omega) (by omega))
    · refine aw_aload_n dX8_turned_70 rfl ?_
      refine aw_iconst (v := nI 0) dX8_turned_71 rfl ?_
      refine aw_v1vp dX8_turned_72 ml_X8_212 im_X8_goAside se_X8_goAside (c_X8_goAside A (h.f2 (fun b hb => hf b (by omega))) ok 0 (by omega)) sh_234 (by decide) rfl rfl (Nat.le_of_ble_eq_true rfl) (Nat.le_of_ble_eq_true rfl) (Nat.le_of_ble_eq_true rfl) (Nat.le_of_ble_eq_true rfl) (Nat.le_of_ble_eq_true rfl) (fun μ2 q2 => ?_)
      refine aw_lconst (v := lN 1) dX8_turned_75 rfl ?_
      refine aw_lstore dX8_turned_76 (Nat.le_of_ble_eq_true rfl) ?_
      refine aw_iconst (v := nI 0) dX8_turned_78 rfl ?_
      refine aw_istore dX8_turned_79 (Nat.le_of_ble_eq_true rfl) ?_
      exact l3_X8_turned A h ok o l n p x5 hoo hl hn hp t (by omega) (fun μ3 X Y Z V U g => ih (t + 1) μ3 X Y Z V U (by omega) g) 4 0 μ2 _ _ rfl (q2.1.cg (fun j _ => rfl)) (hf.tr q2.2)
set_option maxRecDepth 100000 in
set_option maxHeartbeats 4000000 in
theorem c_X8_turned {G : am_G} {μ : am_M} (A : pA) (h : InvM μ A) (ok : okA A) (x1 x2 x3 x4 x5 : Int32) : am_MA G yX8_turned cX8_turned 16 (some .long) 4 0 0 [.ref 234, .int x1, .int x2, .int x3, .int x4, .int x5] am_SH μ (am_P (some (.long (oTurned A x1 x2 x3 x4 x5))) am_SH (fun μ9 => InvM μ9 A ∧ am_fr μ μ9 234 14)) := by
  refine am_ofK (own := RX8) (nm := "turned") (L := [some (.ref 234), some (.int x1), some (.int x2), some (.int x3), some (.int x4), some (.int x5), none, none, none, none, none, none, none, none, none, none]) rfl rfl (by decide +kernel) (Nat.le_of_ble_eq_true rfl) rfl ?_
  refine aw_aload_n dX8_turned_0 rfl ?_
  refine aw_iload_n dX8_turned_1 rfl ?_
  refine aw_v1i dX8_turned_2 ml_X8_186 im_X8_isOffice se_X8_isOffice (c_X8_isOffice A h.sk ok.k _) sh_234 (by decide) rfl rfl (Nat.le_of_ble_eq_true rfl) (Nat.le_of_ble_eq_true rfl) (Nat.le_of_ble_eq_true rfl) (Nat.le_of_ble_eq_true rfl) (Nat.le_of_ble_eq_true rfl) ?_
  refine aw_pif_eq (tgt := 48) dX8_turned_5 (by decide) (fun c5 => ?_) (fun c5 => ?_)
  · refine aw_ldc2 dX8_turned_48 kl_X8_247 ?_
    refine aw_lret dX8_turned_51 rfl rfl rfl ?_
    exact pAnsML ((if_neg c5).trans rfl) h am_fr.rf
  · obtain ⟨k5, rfl, ha5, hb5, hz5⟩ := pIn_ex c5
    refine aw_iload_n dX8_turned_8 rfl ?_
    refine aw_s1i dX8_turned_9 ml_X8_203 st_X8_isLand (c_X8_isLand _) (Nat.le_of_ble_eq_true rfl) (Nat.le_of_ble_eq_true rfl) (Nat.le_of_ble_eq_true rfl) (Nat.le_of_ble_eq_true rfl) (Nat.le_of_ble_eq_true rfl) ?_
    refine aw_pif_eq (tgt := 48) dX8_turned_12 (by decide) (fun c12 => ?_) (fun c12 => ?_)
    · refine aw_ldc2 dX8_turned_48 kl_X8_247 ?_
      refine aw_lret dX8_turned_51 rfl rfl rfl ?_
      exact pAnsML ((if_pos c5).trans ((if_neg c12).trans rfl)) h am_fr.rf
    · obtain ⟨k12, rfl, ha12, hb12, hz12⟩ := pIn_ex c12
      refine aw_iload_n dX8_turned_15 rfl ?_
      refine aw_i2l dX8_turned_16 ?_
      refine aw_lconst (v := lN 1) dX8_turned_17 rfl ?_
      refine aw_ldc2 dX8_turned_18 kl_X8_225 ?_
      refine aw_s3i dX8_turned_21 ml_X8_57 st_X8_in (c_X8_in _ 1 13 (by decide +kernel) (by decide +kernel)) (Nat.le_of_ble_eq_true rfl) (Nat.le_of_ble_eq_true rfl) (Nat.le_of_ble_eq_true rfl) (Nat.le_of_ble_eq_true rfl) (Nat.le_of_ble_eq_true rfl) ?_
      refine aw_pif_eq (tgt := 48) dX8_turned_24 (by decide) (fun c24 => ?_) (fun c24 => ?_)
      · refine aw_ldc2 dX8_turned_48 kl_X8_247 ?_
        refine aw_lret dX8_turned_51 rfl rfl rfl ?_
        exact pAnsML ((if_pos c5).trans ((if_pos c12).trans ((if_neg c24).trans rfl))) h am_fr.rf
      · obtain ⟨k24, rfl, ha24, hb24, hz24⟩ := pIn_ex c24
        refine aw_iload dX8_turned_27 rfl ?_
        refine aw_i2l dX8_turned_29 ?_
        refine aw_lconst (v := lN 0) dX8_turned_30 rfl ?_
        refine aw_ldc2 dX8_turned_31 kl_X8_245 ?_
        refine aw_s3i dX8_turned_34 ml_X8_57 st_X8_in (c_X8_in _ 0 11 (by decide +kernel) (by decide +kernel)) (Nat.le_of_ble_eq_true rfl) (Nat.le_of_ble_eq_true rfl) (Nat.le_of_ble_eq_true rfl) (Nat.le_of_ble_eq_true rfl) (Nat.le_of_ble_eq_true rfl) ?_
        refine aw_pif_eq (tgt := 48) dX8_turned_37 (by decide) (fun c37 => ?_) (fun c37 => ?_)
        · refine aw_ldc2 dX8_turned_48 kl_X8_247 ?_
          refine aw_lret dX8_turned_51 rfl rfl rfl ?_
          exact pAnsML ((if_pos c5).trans ((if_pos c12).trans ((if_pos c24).trans ((if_neg c37).trans rfl)))) h am_fr.rf
        · obtain ⟨k37, rfl, ha37, hb37, hz37⟩ := pIn_ex c37
          refine aw_iload dX8_turned_40 rfl ?_
          refine aw_s1i dX8_turned_42 ml_X8_209 st_X8_isTwo (c_X8_isTwo _) (Nat.le_of_ble_eq_true rfl) (Nat.le_of_ble_eq_true rfl) (Nat.le_of_ble_eq_true rfl) (Nat.le_of_ble_eq_true rfl) (Nat.le_of_ble_eq_true rfl) ?_
          refine aw_pif_ne (tgt := 52) dX8_turned_45 (by decide) (fun c45 => ?_) (fun c45 => ?_)
          · refine aw_lconst (v := lN 0) dX8_turned_52 rfl ?_
            refine aw_lstore dX8_turned_53 (Nat.le_of_ble_eq_true rfl) ?_
            refine aw_ldc2 dX8_turned_55 kl_X8_249 ?_
            refine aw_lstore dX8_turned_58 (Nat.le_of_ble_eq_true rfl) ?_
            refine aw_iconst (v := nI 0) dX8_turned_60 rfl ?_
            refine aw_istore dX8_turned_61 (Nat.le_of_ble_eq_true rfl) ?_
            have e9 : oTurned A (nI k5) (nI k12) (nI k24) (nI k37) x5 = (if x5 = 0 then lN ((pCL A.K k5 k12 k24 k37 16) / (Nat.gcd 10000 (pCL A.K k5 k12 k24 k37 16))) else lN (10000 / (Nat.gcd 10000 (pCL A.K k5 k12 k24 k37 16)))) := by
              rw [oTurned, if_pos c5, if_pos c12, if_pos c24, if_pos c37, if_pos c45, zN_nI hz5, zN_nI hz12, zN_nI hz24, zN_nI hz37]
            rw [e9]
            exact l_X8_turned A h ok k5 k12 k24 k37 x5 hb5 (by omega) (by omega) (by omega) 16 0 μ _ _ _ _ _ rfl am_fr.rf
          · refine aw_ldc2 dX8_turned_48 kl_X8_247 ?_
            refine aw_lret dX8_turned_51 rfl rfl rfl ?_
            exact pAnsML ((if_pos c5).trans ((if_pos c12).trans ((if_pos c24).trans ((if_pos c37).trans ((if_neg c45).trans rfl))))) h am_fr.rf
