/-! ===== what a text tells ===== -/
/-- the winds of a law: r to come, b read -/
def pLawW (tb : Nat → Nat) (tl : Nat) : Nat → Nat → (Nat × Nat) × pK → (Nat × Nat) × pK
  | 0, _, q => q
  | r + 1, b, q => pLawW tb tl r (b + 1) (pTB tb tl 44 (pTN tb tl 4 q.1).1, pUp q.2 b (pTN tb tl 4 q.1).2)
def pLawQ (tb : Nat → Nat) (tl : Nat) : (Nat × Nat) × pK := pLawW tb tl 4 0 (pTB tb tl 119 (0, 0), fun _ => 0)
def pLaw (tb : Nat → Nat) (tl : Nat) : (Nat × Nat) × pK := (pTB tb tl 59 (pTN tb tl 3 (pLawQ tb tl).1).1, pUp (pLawQ tb tl).2 4 (pTN tb tl 3 (pLawQ tb tl).1).2)
theorem pLaw_2 (tb : Nat → Nat) (tl : Nat) : (pLaw tb tl).2 = pUp (pLawQ tb tl).2 4 (pTN tb tl 3 (pLawQ tb tl).1).2 := rfl
def pO1 (tb : Nat → Nat) (tl : Nat) (q : (Nat × Nat) × pK) : (Nat × Nat) × Nat := pTS tb tl (q.2 5) q.1
def pO2 (tb : Nat → Nat) (tl : Nat) (q : (Nat × Nat) × pK) : (Nat × Nat) × Nat := pTN tb tl 9 (pO1 tb tl q).1
def pO3 (tb : Nat → Nat) (tl : Nat) (q : (Nat × Nat) × pK) : (Nat × Nat) × Nat := pTN tb tl 20 (pTB tb tl 44 (pO2 tb tl q).1)
def pO4 (tb : Nat → Nat) (tl : Nat) (q : (Nat × Nat) × pK) : (Nat × Nat) × Nat := pTN tb tl 60 (pTB tb tl 44 (pO3 tb tl q).1)
def pO5 (tb : Nat → Nat) (tl : Nat) (q : (Nat × Nat) × pK) : Nat × Nat := pTB tb tl 59 (pO4 tb tl q).1
def pOff (tb : Nat → Nat) (tl : Nat) (q : (Nat × Nat) × pK) : (Nat × Nat) × pK := (pO5 tb tl q, if (pO5 tb tl q).1 = 0 then pAdd q.2 (pO1 tb tl q).2 (pO2 tb tl q).2 (pO3 tb tl q).2 (pO4 tb tl q).2 else q.2)
theorem pOff_1 {tb : Nat → Nat} {tl : Nat} {q : (Nat × Nat) × pK} (h : ¬ (pO5 tb tl q).1 = 0) : pOff tb tl q = (pO5 tb tl q, q.2) := by unfold pOff; rw [if_neg h]
theorem pOff_2 {tb : Nat → Nat} {tl : Nat} {q : (Nat × Nat) × pK} (h : (pO5 tb tl q).1 = 0) : pOff tb tl q = (pO5 tb tl q, pAdd q.2 (pO1 tb tl q).2 (pO2 tb tl q).2 (pO3 tb tl q).2 (pO4 tb tl q).2) := by unfold pOff; rw [if_pos h]
def pOffs (tb : Nat → Nat) (tl : Nat) : Nat → (Nat × Nat) × pK → (Nat × Nat) × pK
  | 0, q => q
  | r + 1, q => if q.1.1 = 0 ∧ q.1.2 < tl then pOffs tb tl r (pOff tb tl q) else q
def pRead (tb : Nat → Nat) (tl : Nat) : (Nat × Nat) × pK := pOffs tb tl 5 (pOff tb tl (pLaw tb tl))
/-- what is told so far is well -/
def pTold9 (K : pK) : Prop := pOK K ∧ K 6 = 0 ∧ ∀ o, o < K 5 → K (27 + o) = 0
theorem pTS_0 {tb : Nat → Nat} {tl n : Nat} {s : Nat × Nat} (h : (pTS tb tl n s).1.1 = 0) : n < 5 ∧ 1 ≤ (pTS tb tl n s).2 := by
  unfold pTS at h ⊢
  split at h
  · rename_i q; exact absurd h q
  · rename_i q
    rw [if_neg q]
    split at h
    · rename_i q2
      rw [if_pos q2]
      split at h
      · rename_i q3; rw [if_pos q3]; exact ⟨q3, by have := q2.2; simp only []; omega⟩
      · simp at h
    · simp at h
theorem pTN_0 {tb : Nat → Nat} {tl n : Nat} {s : Nat × Nat} (h : (pTN tb tl n s).1.1 = 0) : s.1 = 0 := by
  unfold pTN at h
  split at h
  · exact h
  · rename_i q; omega
theorem pTB_0 {tb : Nat → Nat} {tl n : Nat} {s : Nat × Nat} (h : (pTB tb tl n s).1 = 0) : s.1 = 0 := by
  unfold pTB at h
  split at h
  · exact h
  · rename_i q; omega
theorem pAdd_ok {K : pK} {k l h f : Nat} (hK : pTold9 K) (h5 : K 5 < 5) (hk : 1 ≤ k ∧ k ≤ 5) (hl : l ≤ 9) (hh : h ≤ 20) (hf : f ≤ 60) : pTold9 (pAdd K k l h f) := by
  obtain ⟨⟨h1, h2, h3, h4, h6⟩, h7, h8⟩ := hK
  have e5 : pAdd K k l h f 5 = K 5 + 1 := by unfold pAdd; rw [if_pos rfl]
  have lo : ∀ j, j < 7 → j ≠ 5 → pAdd K k l h f j = K j := fun j hj hj5 => by unfold pAdd; rw [if_neg hj5, if_neg (by omega), if_neg (by omega), if_neg (by omega), if_neg (by omega), if_neg (by omega)]
  refine ⟨⟨by rw [e5]; omega, by rw [lo 4 (by omega) (by omega)]; exact h2, fun b hb => by rw [lo b (by omega) (by omega)]; exact h3 b hb, by rw [lo 6 (by omega) (by omega)]; exact h4, fun o ho => ?_⟩, by rw [lo 6 (by omega) (by omega)]; exact h7, fun o ho => ?_⟩
  · rw [e5] at ho
    by_cases e : o = K 5
    · subst e
      refine ⟨?_, ?_, ?_, ?_⟩
      · unfold pAdd; rw [if_neg (by omega), if_pos rfl]; exact hk
      · unfold pAdd; rw [if_neg (by omega), if_neg (by omega), if_pos rfl]; exact hl
      · unfold pAdd; rw [if_neg (by omega), if_neg (by omega), if_neg (by omega), if_pos rfl]; exact hh
      · unfold pAdd; rw [if_neg (by omega), if_neg (by omega), if_neg (by omega), if_neg (by omega), if_pos rfl]; omega
    · obtain ⟨g1, g2, g3, g4⟩ := h6 o (by omega)
      refine ⟨?_, ?_, ?_, ?_⟩
      · unfold pAdd; rw [if_neg (by omega), if_neg (by omega), if_neg (by omega), if_neg (by omega), if_neg (by omega), if_neg (by omega)]; exact g1
      · unfold pAdd; rw [if_neg (by omega), if_neg (by omega), if_neg (by omega), if_neg (by omega), if_neg (by omega), if_neg (by omega)]; exact g2
      · unfold pAdd; rw [if_neg (by omega), if_neg (by omega), if_neg (by omega), if_neg (by omega), if_neg (by omega), if_neg (by omega)]; exact g3
      · unfold pAdd; rw [if_neg (by omega), if_neg (by omega), if_neg (by omega), if_neg (by omega), if_neg (by omega), if_neg (by omega)]; exact g4
  · rw [e5] at ho
    by_cases e : o = K 5
    · subst e
      unfold pAdd; rw [if_neg (by omega), if_neg (by omega), if_neg (by omega), if_neg (by omega), if_neg (by omega), if_pos rfl]
    · unfold pAdd; rw [if_neg (by omega), if_neg (by omega), if_neg (by omega), if_neg (by omega), if_neg (by omega), if_neg (by omega)]; exact h8 o (by omega)
theorem pOff_ok {tb : Nat → Nat} {tl : Nat} {q : (Nat × Nat) × pK} (hr : rdOK tl q.1) (hK : pTold9 q.2) : rdOK tl (pOff tb tl q).1 ∧ pTold9 (pOff tb tl q).2 := by
  have a1 := pTS_ok (tb := tb) (off := q.2 5) hr
  have a2 := pTN_ok (tb := tb) (most := 9) a1.1
  have a3 := pTB_ok (tb := tb) (due := 44) a2.1
  have a4 := pTN_ok (tb := tb) (most := 20) a3
  have a5 := pTB_ok (tb := tb) (due := 44) a4.1
  have a6 := pTN_ok (tb := tb) (most := 60) a5
  have a7 := pTB_ok (tb := tb) (due := 59) a6.1
  refine ⟨a7, ?_⟩
  by_cases h0 : (pO5 tb tl q).1 = 0
  · rw [pOff_2 h0]
    have b1 := pTS_0 (pTN_0 (pTB_0 (pTN_0 (pTB_0 (pTN_0 (pTB_0 h0))))))
    exact pAdd_ok hK b1.1 ⟨b1.2, a1.2⟩ a2.2 a4.2 a6.2
  · rw [pOff_1 h0]; exact hK
theorem pOffs_ok {tb : Nat → Nat} {tl : Nat} : ∀ (r : Nat) (q : (Nat × Nat) × pK), rdOK tl q.1 → pTold9 q.2 → rdOK tl (pOffs tb tl r q).1 ∧ pTold9 (pOffs tb tl r q).2
  | 0, q, h1, h2 => ⟨h1, h2⟩
  | r + 1, q, h1, h2 => by
    unfold pOffs
    split
    · exact pOffs_ok r _ (pOff_ok h1 h2).1 (pOff_ok h1 h2).2
    · exact ⟨h1, h2⟩
/-- a law's winds so far -/
def lwOK (q : (Nat × Nat) × pK) : Prop := (∀ b, b < 4 → q.2 b ≤ 4) ∧ ∀ j, 4 ≤ j → q.2 j = 0
theorem pLawW_ok {tb : Nat → Nat} {tl : Nat} : ∀ (r b : Nat) (q : (Nat × Nat) × pK), b + r = 4 → rdOK tl q.1 → lwOK q → rdOK tl (pLawW tb tl r b q).1 ∧ lwOK (pLawW tb tl r b q)
  | 0, b, q, _, h1, h2 => ⟨h1, h2⟩
  | r + 1, b, q, hb, h1, h2 => by
    unfold pLawW
    have a1 := pTN_ok (tb := tb) (most := 4) h1
    refine pLawW_ok r (b + 1) _ (by omega) (pTB_ok a1.1) ⟨fun c hc => ?_, fun j hj => ?_⟩
    · by_cases e : c = b
      · subst e; show pUp _ _ _ _ ≤ 4; rw [pUp_s]; exact a1.2
      · show pUp _ _ _ _ ≤ 4; rw [pUp_n e]; exact h2.1 c hc
    · show pUp _ _ _ _ = 0; rw [pUp_n (by omega)]; exact h2.2 j hj
theorem pLawQ_ok (tb : Nat → Nat) (tl : Nat) : rdOK tl (pLawQ tb tl).1 ∧ lwOK (pLawQ tb tl) := by
  unfold pLawQ
  exact pLawW_ok (tb := tb) 4 0 (pTB tb tl 119 (0, 0), fun _ => 0) (by omega) (pTB_ok ⟨by simp, by simp⟩) ⟨fun b _ => by simp, fun j _ => rfl⟩
theorem pLaw_ok (tb : Nat → Nat) (tl : Nat) : rdOK tl (pLaw tb tl).1 ∧ pTold9 (pLaw tb tl).2 ∧ (pLaw tb tl).2 5 = 0 := by
  obtain ⟨a1, a2, a3⟩ := pLawQ_ok tb tl
  generalize hq : pLawQ tb tl = q at a1 a2 a3
  have a4 := pTN_ok (tb := tb) (most := 3) a1
  have eL : pLaw tb tl = (pTB tb tl 59 (pTN tb tl 3 q.1).1, pUp q.2 4 (pTN tb tl 3 q.1).2) := by unfold pLaw; rw [hq]
  rw [eL]
  have e5 : pUp q.2 4 (pTN tb tl 3 q.1).2 5 = 0 := by rw [pUp_n (by omega)]; exact a3 5 (by omega)
  generalize pTN tb tl 3 q.1 = w at a4 e5 ⊢
  show rdOK tl (pTB tb tl 59 w.1) ∧ pTold9 (pUp q.2 4 w.2) ∧ pUp q.2 4 w.2 5 = 0
  refine ⟨pTB_ok a4.1, ⟨⟨by rw [e5]; omega, ?_, fun b hb => ?_, ?_, fun o ho => by rw [e5] at ho; omega⟩, ?_, fun o ho => by rw [e5] at ho; omega⟩, e5⟩
  · rw [pUp_s]; exact a4.2
  · rw [pUp_n (by omega)]; exact a2 b hb
  · rw [pUp_n (by omega), a3 6 (by omega)]; omega
  · rw [pUp_n (by omega)]; exact a3 6 (by omega)
theorem pRead_ok (tb : Nat → Nat) (tl : Nat) : rdOK tl (pRead tb tl).1 ∧ pTold9 (pRead tb tl).2 := by
  obtain ⟨a1, a2, -⟩ := pLaw_ok tb tl
  have a3 := pOff_ok (tb := tb) a1 a2
  exact pOffs_ok 5 _ a3.1 a3.2
theorem tpC.up {μ : am_M} {tb : Nat → Nat} {tl a : Nat} {s : Nat × Nat} {f : Nat → Int32} (h : tpC μ tb tl s) (e : a < 18 ∨ 20 ≤ a) : tpC (am_up μ a f) tb tl s := ⟨by rw [am_upn (by omega)]; exact h.1, by rw [am_upn (by omega)]; exact h.2.1, by rw [am_upn (by omega)]; exact h.2.2.1, fun j hj => by rw [am_upn (by omega)]; exact h.2.2.2 j hj⟩
theorem skyC.up {μ : am_M} {a b : Nat} {K : pK} {f : Nat → Int32} (h : skyC μ a K) (e : b < a ∨ a + 7 ≤ b) : skyC (am_up μ b f) a K := h.fr (fun c h1 h2 => am_up_n (by omega))
theorem tpC.fr {μ μ' : am_M} {tb : Nat → Nat} {tl : Nat} {s : Nat × Nat} (h : tpC μ tb tl s) (e : ∀ b, 18 ≤ b → b < 20 → μ' b = μ b) : tpC μ' tb tl s := ⟨by rw [e 18 (by omega) (by omega)]; exact h.1, by rw [e 18 (by omega) (by omega)]; exact h.2.1, by rw [e 18 (by omega) (by omega)]; exact h.2.2.1, fun j hj => by rw [e 19 (by omega) (by omega)]; exact h.2.2.2 j hj⟩
/-- the told sky while its law is read: the winds below b -/
def tdW (μ : am_M) (b : Nat) (K : pK) : Prop := μ 20 0 = nI 0 ∧ μ 20 2 = nI 0 ∧ ∀ c, c < b → μ 21 c = nI (K c)
set_option maxRecDepth 100000 in
set_option maxHeartbeats 4000000 in
theorem l_X6_readLaw {G : am_G} {μ : am_M} (tb : Nat → Nat) (tl : Nat) (hk : tpOK tb tl) : ∀ (r b : Nat) (q : (Nat × Nat) × pK) (μ1 : am_M), b + r = 4 → rdOK tl q.1 → tpC μ1 tb tl q.1 → tdW μ1 b q.2 → lwOK q → am_fr μ μ1 18 9 → pLawW tb tl r b q = pLawQ tb tl → am_W (am_K G RX6 "readLaw" 3 none 3 0 0 (am_P none am_SH (fun μ9 => tpC μ9 tb tl (pLaw tb tl).1 ∧ skyC μ9 20 (pLaw tb tl).2 ∧ am_fr μ μ9 18 9))) cX6_readLaw 8 [some (.ref 18), some (.ref 20), some (.int (nI b))] [] am_SH μ1 0 0 := by
  intro r
  induction r with
  | zero =>
    intro b q μ1 hb hr ht hw hl hf e
    have hb4 : b = 4 := by omega
    subst hb4
    have e : q = pLawQ tb tl := e
    have a1 := pTN_ok (tb := tb) (most := 3) hr
    refine aw_iload_n dX6_readLaw_8 rfl ?_
    refine aw_iconst (v := nI 4) dX6_readLaw_9 rfl ?_
    refine aw_icmp_ge (tgt := 36) dX6_readLaw_10 (by decide) (fun c10 => ?_) (fun c10 => ?_)
    · refine aw_aload_n dX6_readLaw_36 rfl ?_
      refine aw_aload_n dX6_readLaw_37 rfl ?_
      refine aw_iconst (v := nI 3) dX6_readLaw_38 rfl ?_
      refine aw_v1ip dX6_readLaw_39 ml_X6_45 im_X6_takeNumber se_X6_takeNumber (c_X6_takeNumber tb tl q.1 ht hk hr 3 (by omega)) sh_18 (by decide) rfl rfl (Nat.le_of_ble_eq_true rfl) (Nat.le_of_ble_eq_true rfl) (Nat.le_of_ble_eq_true rfl) (Nat.le_of_ble_eq_true rfl) (Nat.le_of_ble_eq_true rfl) (fun μ2 q2 => ?_)
      refine aw_pi dX6_readLaw_42 pf_X6_49 rfl rfl sh_sky20.1 (by rfl) ?_
      refine aw_aload_n dX6_readLaw_45 rfl ?_
      refine aw_bipush (v := nI 59) dX6_readLaw_46 rfl ?_
      refine aw_v1vp dX6_readLaw_48 ml_X6_38 im_X6_takeByte se_X6_takeByte (c_X6_takeByte tb tl (pTN tb tl 3 q.1).1 (q2.1.up (by omega)) hk a1.1 59 (by omega)) sh_18 (by decide) rfl rfl (Nat.le_of_ble_eq_true rfl) (Nat.le_of_ble_eq_true rfl) (Nat.le_of_ble_eq_true rfl) (Nat.le_of_ble_eq_true rfl) (Nat.le_of_ble_eq_true rfl) (fun μ3 q3 => ?_)
      refine aw_vret dX6_readLaw_51 rfl rfl rfl ?_
      have e9 : pLaw tb tl = (pTB tb tl 59 (pTN tb tl 3 q.1).1, pUp q.2 4 (pTN tb tl 3 q.1).2) := by rw [e]; rfl
      refine ⟨rfl, rfl, ?_⟩
      rw [e9]
      dsimp only
      refine ⟨q3.1, ⟨?_, ?_, ?_, ?_, ?_⟩, fun c hc => ?_⟩
      · rw [q3.2 20 (by omega), am_ups, pk_un (by decide), q2.2 20 (by omega), hw.1, pUp_n (by omega), hl.2 5 (by omega)]
      · rw [q3.2 20 (by omega), am_ups, pk_us, pUp_s]
      · rw [q3.2 20 (by omega), am_ups, pk_un (by decide), q2.2 20 (by omega), hw.2.1, pUp_n (by omega), hl.2 6 (by omega)]
      · intro c hc
        rw [q3.2 21 (by omega), am_upn (by omega), q2.2 21 (by omega), hw.2.2 c hc, pUp_n (by omega)]
      · intro o ho
        rw [pUp_n (by omega), hl.2 5 (by omega)] at ho
        omega
      · rw [q3.2 c (by omega), am_up_n (by omega), q2.2 c (by omega), hf c hc]
    · exact absurd (nI_le (by omega) (by omega)) c10
  | succ r ih =>
    intro b q μ1 hb hr ht hw hl hf e
    have a1 := pTN_ok (tb := tb) (most := 4) hr
    refine aw_iload_n dX6_readLaw_8 rfl ?_
    refine aw_iconst (v := nI 4) dX6_readLaw_9 rfl ?_
    refine aw_icmp_ge (tgt := 36) dX6_readLaw_10 (by decide) (fun c10 => ?_) (fun c10 => ?_)
    · exact absurd c10 (nI_ge (by omega) (by omega))
    · refine aw_aload_n dX6_readLaw_13 rfl ?_
      refine aw_gr dX6_readLaw_14 gf_X6_42 sh_sky20.1 (by rfl) ?_
      refine aw_iload_n dX6_readLaw_17 rfl ?_
      refine aw_aload_n dX6_readLaw_18 rfl ?_
      refine aw_iconst (v := nI 4) dX6_readLaw_19 rfl ?_
      refine aw_v1ip dX6_readLaw_20 ml_X6_45 im_X6_takeNumber se_X6_takeNumber (c_X6_takeNumber tb tl q.1 ht hk hr 4 (by omega)) sh_18 (by decide) rfl rfl (Nat.le_of_ble_eq_true rfl) (Nat.le_of_ble_eq_true rfl) (Nat.le_of_ble_eq_true rfl) (Nat.le_of_ble_eq_true rfl) (Nat.le_of_ble_eq_true rfl) (fun μ2 q2 => ?_)
      refine aw_iast dX6_readLaw_23 sh_sky20.2.1 rfl (by omega) (by decide) ?_
      refine aw_aload_n dX6_readLaw_24 rfl ?_
      refine aw_bipush (v := nI 44) dX6_readLaw_25 rfl ?_
      refine aw_v1vp dX6_readLaw_27 ml_X6_38 im_X6_takeByte se_X6_takeByte (c_X6_takeByte tb tl (pTN tb tl 4 q.1).1 (q2.1.up (by omega)) hk a1.1 44 (by omega)) sh_18 (by decide) rfl rfl (Nat.le_of_ble_eq_true rfl) (Nat.le_of_ble_eq_true rfl) (Nat.le_of_ble_eq_true rfl) (Nat.le_of_ble_eq_true rfl) (Nat.le_of_ble_eq_true rfl) (fun μ3 q3 => ?_)
      refine aw_iinc (v := nI (b + 1)) dX6_readLaw_30 rfl (nI_1 b) (Nat.le_of_ble_eq_true rfl) ?_
      refine aw_goto (tgt := 8) dX6_readLaw_33 (by decide) ?_
      refine ih (b + 1) (pTB tb tl 44 (pTN tb tl 4 q.1).1, pUp q.2 b (pTN tb tl 4 q.1).2) μ3 (by omega) (pTB_ok a1.1) q3.1 ⟨?_, ?_, fun c hc => ?_⟩ ⟨fun c hc => ?_, fun j hj => ?_⟩ (fun c hc => ?_) e
      all_goals (try dsimp only)
      · rw [q3.2 20 (by omega), am_upn (by omega), q2.2 20 (by omega)]; exact hw.1
      · rw [q3.2 20 (by omega), am_upn (by omega), q2.2 20 (by omega)]; exact hw.2.1
      · rw [q3.2 21 (by omega), am_ups]
        by_cases e1 : c = b
        · subst e1; rw [pk_us, pUp_s]
        · rw [pk_un e1, pUp_n e1, q2.2 21 (by omega)]; exact hw.2.2 c (by omega)
      · by_cases e1 : c = b
        · subst e1; rw [pUp_s]; exact a1.2
        · rw [pUp_n e1]; exact hl.1 c hc
      · rw [pUp_n (by omega)]; exact hl.2 j hj
      · rw [q3.2 c (by omega), am_up_n (by omega), q2.2 c (by omega), hf c hc]
set_option maxRecDepth 100000 in
set_option maxHeartbeats 4000000 in
theorem c_X6_readLaw {G : am_G} {μ : am_M} (tb : Nat → Nat) (tl : Nat) (hk : tpOK tb tl) (ht : tpC μ tb tl (0, 0)) (hw : μ 20 0 = nI 0 ∧ μ 20 2 = nI 0) : am_MA G yX6_readLaw cX6_readLaw 3 none 3 0 0 [.ref 18, .ref 20] am_SH μ (am_P none am_SH (fun μ9 => tpC μ9 tb tl (pLaw tb tl).1 ∧ skyC μ9 20 (pLaw tb tl).2 ∧ am_fr μ μ9 18 9)) := by
  refine am_ofK (own := RX6) (nm := "readLaw") (L := [some (.ref 18), some (.ref 20), none]) rfl rfl (by decide +kernel) (Nat.le_of_ble_eq_true rfl) rfl ?_
  refine aw_aload_n dX6_readLaw_0 rfl ?_
  refine aw_bipush (v := nI 119) dX6_readLaw_1 rfl ?_
  refine aw_v1vp dX6_readLaw_3 ml_X6_38 im_X6_takeByte se_X6_takeByte (c_X6_takeByte tb tl (0, 0) ht hk ⟨by simp, by simp⟩ 119 (by omega)) sh_18 (by decide) rfl rfl (Nat.le_of_ble_eq_true rfl) (Nat.le_of_ble_eq_true rfl) (Nat.le_of_ble_eq_true rfl) (Nat.le_of_ble_eq_true rfl) (Nat.le_of_ble_eq_true rfl) (fun μ2 q2 => ?_)
  refine aw_iconst (v := nI 0) dX6_readLaw_6 rfl ?_
  refine aw_istore_n dX6_readLaw_7 (Nat.le_of_ble_eq_true rfl) ?_
  exact l_X6_readLaw tb tl hk 4 0 (pTB tb tl 119 (0, 0), fun _ => 0) μ2 (by omega) (pTB_ok ⟨by simp, by simp⟩) q2.1 ⟨by rw [q2.2 20 (by omega)]; exact hw.1, by rw [q2.2 20 (by omega)]; exact hw.2, fun c hc => by omega⟩ ⟨fun b _ => by simp, fun j _ => rfl⟩ (fun c hc => q2.2 c (by omega)) rfl
set_option maxRecDepth 100000 in
set_option maxHeartbeats 4000000 in
theorem c_X6_readOffice {G : am_G} {μ : am_M} (tb : Nat → Nat) (tl : Nat) (hk : tpOK tb tl) (q : (Nat × Nat) × pK) (hr : rdOK tl q.1) (hK : pTold9 q.2) (ht : tpC μ tb tl q.1) (hs : skyC μ 20 q.2) : am_MA G yX6_readOffice cX6_readOffice 6 none 3 0 0 [.ref 18, .ref 20] am_SH μ (am_P none am_SH (fun μ9 => tpC μ9 tb tl (pOff tb tl q).1 ∧ skyC μ9 20 (pOff tb tl q).2 ∧ am_fr μ μ9 18 9)) := by
  have k5 := hK.1.1
  have a1 := pTS_ok (tb := tb) (off := q.2 5) hr
  have a2 := pTN_ok (tb := tb) (most := 9) a1.1
  have a3 := pTB_ok (tb := tb) (due := 44) a2.1
  have a4 := pTN_ok (tb := tb) (most := 20) a3
  have a5 := pTB_ok (tb := tb) (due := 44) a4.1
  have a6 := pTN_ok (tb := tb) (most := 60) a5
  have a7 := pTB_ok (tb := tb) (due := 59) a6.1
  refine am_ofK (own := RX6) (nm := "readOffice") (L := [some (.ref 18), some (.ref 20), none, none, none, none]) rfl rfl (by decide +kernel) (Nat.le_of_ble_eq_true rfl) rfl ?_
  refine aw_aload_n dX6_readOffice_0 rfl ?_
  refine aw_aload_n dX6_readOffice_1 rfl ?_
  refine aw_gi dX6_readOffice_2 gf_X6_52 sh_sky20.1 (by rfl) ?_
  refine aw_top hs.1 ?_
  refine aw_v1ip dX6_readOffice_5 ml_X6_55 im_X6_takeSort se_X6_takeSort (c_X6_takeSort tb tl q.1 ht hk hr (q.2 5) k5) sh_18 (by decide) rfl rfl (Nat.le_of_ble_eq_true rfl) (Nat.le_of_ble_eq_true rfl) (Nat.le_of_ble_eq_true rfl) (Nat.le_of_ble_eq_true rfl) (Nat.le_of_ble_eq_true rfl) (fun μ2 q2 => ?_)
  refine aw_istore_n dX6_readOffice_8 (Nat.le_of_ble_eq_true rfl) ?_
  refine aw_aload_n dX6_readOffice_9 rfl ?_
  refine aw_bipush (v := nI 9) dX6_readOffice_10 rfl ?_
  refine aw_v1ip dX6_readOffice_12 ml_X6_45 im_X6_takeNumber se_X6_takeNumber (c_X6_takeNumber tb tl _ q2.1 hk a1.1 9 (by omega)) sh_18 (by decide) rfl rfl (Nat.le_of_ble_eq_true rfl) (Nat.le_of_ble_eq_true rfl) (Nat.le_of_ble_eq_true rfl) (Nat.le_of_ble_eq_true rfl) (Nat.le_of_ble_eq_true rfl) (fun μ3 q3 => ?_)
  refine aw_istore_n dX6_readOffice_15 (Nat.le_of_ble_eq_true rfl) ?_
  refine aw_aload_n dX6_readOffice_16 rfl ?_
  refine aw_bipush (v := nI 44) dX6_readOffice_17 rfl ?_
  refine aw_v1vp dX6_readOffice_19 ml_X6_38 im_X6_takeByte se_X6_takeByte (c_X6_takeByte tb tl _ q3.1 hk a2.1 44 (by omega)) sh_18 (by decide) rfl rfl (Nat.le_of_ble_eq_true rfl) (Nat.le_of_ble_eq_true rfl) (Nat.le_of_ble_eq_true rfl) (Nat.le_of_ble_eq_true rfl) (Nat.le_of_ble_eq_true rfl) (fun μ4 q4 => ?_)
  refine aw_aload_n dX6_readOffice_22 rfl ?_
  refine aw_bipush (v := nI 20) dX6_readOffice_23 rfl ?_
  refine aw_v1ip dX6_readOffice_25 ml_X6_45 im_X6_takeNumber se_X6_takeNumber (c_X6_takeNumber tb tl _ q4.1 hk a3 20 (by omega)) sh_18 (by decide) rfl rfl (Nat.le_of_ble_eq_true rfl) (Nat.le_of_ble_eq_true rfl) (Nat.le_of_ble_eq_true rfl) (Nat.le_of_ble_eq_true rfl) (Nat.le_of_ble_eq_true rfl) (fun μ5 q5 => ?_)
  refine aw_istore dX6_readOffice_28 (Nat.le_of_ble_eq_true rfl) ?_
  refine aw_aload_n dX6_readOffice_30 rfl ?_
  refine aw_bipush (v := nI 44) dX6_readOffice_31 rfl ?_
  refine aw_v1vp dX6_readOffice_33 ml_X6_38 im_X6_takeByte se_X6_takeByte (c_X6_takeByte tb tl _ q5.1 hk a4.1 44 (by omega)) sh_18 (by decide) rfl rfl (Nat.le_of_ble_eq_true rfl) (Nat.le_of_ble_eq_true rfl) (Nat.le_of_ble_eq_true rfl) (Nat.le_of_ble_eq_true rfl) (Nat.le_of_ble_eq_true rfl) (fun μ6 q6 => ?_)
  refine aw_aload_n dX6_readOffice_36 rfl ?_
  refine aw_bipush (v := nI 60) dX6_readOffice_37 rfl ?_
  refine aw_v1ip dX6_readOffice_39 ml_X6_45 im_X6_takeNumber se_X6_takeNumber (c_X6_takeNumber tb tl _ q6.1 hk a5 60 (by omega)) sh_18 (by decide) rfl rfl (Nat.le_of_ble_eq_true rfl) (Nat.le_of_ble_eq_true rfl) (Nat.le_of_ble_eq_true rfl) (Nat.le_of_ble_eq_true rfl) (Nat.le_of_ble_eq_true rfl) (fun μ7 q7 => ?_)
  refine aw_istore dX6_readOffice_42 (Nat.le_of_ble_eq_true rfl) ?_
  refine aw_aload_n dX6_readOffice_44 rfl ?_
  refine aw_bipush (v := nI 59) dX6_readOffice_45 rfl ?_
  refine aw_v1vp dX6_readOffice_47 ml_X6_38 im_X6_takeByte se_X6_takeByte (c_X6_takeByte tb tl _ q7.1 hk a6.1 59 (by omega)) sh_18 (by decide) rfl rfl (Nat.le_of_ble_eq_true rfl) (Nat.le_of_ble_eq_true rfl) (Nat.le_of_ble_eq_true rfl) (Nat.le_of_ble_eq_true rfl) (Nat.le_of_ble_eq_true rfl) (fun μ8 q8 => ?_)
  refine aw_aload_n dX6_readOffice_50 rfl ?_
  refine aw_gi dX6_readOffice_51 gf_X6_23 sh_18 (by rfl) ?_
  have hF : am_fr μ μ8 18 1 := q2.2.tr (q3.2.tr (q4.2.tr (q5.2.tr (q6.2.tr (q7.2.tr q8.2)))))
  have hs8 : skyC μ8 20 q.2 := hs.fr (fun b _ _ => hF b (by omega))
  refine aw_top q8.1.2.2.1 ?_
  refine aw_if_ne (tgt := 67) dX6_readOffice_54 (by decide) (fun c54 => ?_) (fun c54 => ?_)
  · rw [z_eq (by have := a7.1; omega)] at c54
    have c54 : _ := c54
    refine aw_vret dX6_readOffice_67 rfl rfl rfl ?_
    refine ⟨rfl, rfl, ?_⟩
    rw [pOff_1 c54]
    exact ⟨q8.1, hs8, hF.mono (by omega) (by omega)⟩
  · rw [z_eq (by have := a7.1; omega)] at c54
    have c54 : _ := c54
    have b1 := pTS_0 (pTN_0 (pTB_0 (pTN_0 (pTB_0 (pTN_0 (pTB_0 c54))))))
    refine aw_aload_n dX6_readOffice_57 rfl ?_
    refine aw_iload_n dX6_readOffice_58 rfl ?_
    refine aw_iload_n dX6_readOffice_59 rfl ?_
    refine aw_iload dX6_readOffice_60 rfl ?_
    refine aw_iload dX6_readOffice_62 rfl ?_
    refine aw_v4vp dX6_readOffice_64 ml_X6_58 im_X5_addOffice se_X5_addOffice (c_X5_addOffice 20 sh_sky20 q.2 hs8 b1.1 _ _ _ _) sh_sky20.1 (by decide) rfl rfl (Nat.le_of_ble_eq_true rfl) (Nat.le_of_ble_eq_true rfl) (Nat.le_of_ble_eq_true rfl) (Nat.le_of_ble_eq_true rfl) (Nat.le_of_ble_eq_true rfl) (fun μ9 q9 => ?_)
    refine aw_vret dX6_readOffice_67 rfl rfl rfl ?_
    refine ⟨rfl, rfl, ?_⟩
    rw [pOff_2 c54]
    exact ⟨q8.1.fr (fun b _ _ => q9.2 b (by omega)), q9.1, (hF.mono (by omega) (by omega)).tr (q9.2.mono (by omega) (by omega))⟩
set_option maxRecDepth 100000 in
set_option maxHeartbeats 4000000 in
theorem l_X6_readInto {G : am_G} {μ : am_M} (tb : Nat → Nat) (tl : Nat) (hk : tpOK tb tl) : ∀ (r i : Nat) (q : (Nat × Nat) × pK) (μ1 : am_M), i + r = 5 → rdOK tl q.1 → pTold9 q.2 → tpC μ1 tb tl q.1 → skyC μ1 20 q.2 → am_fr μ μ1 18 9 → pOffs tb tl r q = pRead tb tl → am_W (am_K G RX6 "readInto" 3 (some .int) 4 0 0 (am_P (some (.int (nI (pRead tb tl).1.1))) am_SH (fun μ9 => tpC μ9 tb 0 (pRead tb tl).1 ∧ skyC μ9 20 (pRead tb tl).2 ∧ am_fr μ μ9 18 9))) cX6_readInto 26 [some (.ref 18), some (.ref 20), some (.int (nI i))] [] am_SH μ1 0 0 := by
  intro r
  induction r with
  | zero =>
    intro i q μ1 hi hr hK ht hs hf e
    have e : q = pRead tb tl := e
    refine aw_iload_n dX6_readInto_26 rfl ?_
    refine aw_iconst (v := nI 5) dX6_readInto_27 rfl ?_
    refine aw_icmp_ge (tgt := 60) dX6_readInto_28 (by decide) (fun c28 => ?_) (fun c28 => ?_)
    · refine aw_aload_n dX6_readInto_60 rfl ?_
      refine aw_iconst (v := nI 0) dX6_readInto_61 rfl ?_
      refine aw_pi dX6_readInto_62 pf_X6_15 rfl rfl sh_18 (by rfl) ?_
      refine aw_aload_n dX6_readInto_65 rfl ?_
      refine aw_gi dX6_readInto_66 gf_X6_23 sh_18 (by rfl) ?_
      refine aw_top (show _ = nI (pRead tb tl).1.1 by rw [am_ups, pk_un (by decide), ht.2.2.1, e]) ?_
      refine aw_iret dX6_readInto_69 rfl rfl rfl rfl ?_
      refine ⟨rfl, rfl, ⟨by rw [am_ups, pk_us], by rw [am_ups, pk_un (by decide), ht.2.1, e], by rw [am_ups, pk_un (by decide), ht.2.2.1, e], fun j hj => by omega⟩, ?_, hf.up (by omega) (by omega)⟩
      rw [← e]
      exact hs.up (by omega)
    · exact absurd (nI_le (by omega) (by omega)) c28
  | succ r ih =>
    intro i q μ1 hi hr hK ht hs hf e
    refine aw_iload_n dX6_readInto_26 rfl ?_
    refine aw_iconst (v := nI 5) dX6_readInto_27 rfl ?_
    refine aw_icmp_ge (tgt := 60) dX6_readInto_28 (by decide) (fun c28 => ?_) (fun c28 => ?_)
    · exact absurd c28 (nI_ge (by omega) (by omega))
    · refine aw_aload_n dX6_readInto_31 rfl ?_
      refine aw_gi dX6_readInto_32 gf_X6_23 sh_18 (by rfl) ?_
      refine aw_top ht.2.2.1 ?_
      refine aw_if_ne (tgt := 60) dX6_readInto_35 (by decide) (fun c35 => ?_) (fun c35 => ?_)
      · rw [z_eq (by have := hr.1; omega)] at c35
        have e : q = pRead tb tl := by rw [← e]; show _ = if _ then _ else _; rw [if_neg (fun w => c35 w.1)]
        refine aw_aload_n dX6_readInto_60 rfl ?_
        refine aw_iconst (v := nI 0) dX6_readInto_61 rfl ?_
        refine aw_pi dX6_readInto_62 pf_X6_15 rfl rfl sh_18 (by rfl) ?_
        refine aw_aload_n dX6_readInto_65 rfl ?_
        refine aw_gi dX6_readInto_66 gf_X6_23 sh_18 (by rfl) ?_
        refine aw_top (show _ = nI (pRead tb tl).1.1 by rw [am_ups, pk_un (by decide), ht.2.2.1, e]) ?_
        refine aw_iret dX6_readInto_69 rfl rfl rfl rfl ?_
        refine ⟨rfl, rfl, ⟨by rw [am_ups, pk_us], by rw [am_ups, pk_un (by decide), ht.2.1, e], by rw [am_ups, pk_un (by decide), ht.2.2.1, e], fun j hj => by omega⟩, ?_, hf.up (by omega) (by omega)⟩
        rw [← e]
        exact hs.up (by omega)
      · rw [z_eq (by have := hr.1; omega)] at c35
        refine aw_aload_n dX6_readInto_38 rfl ?_
        refine aw_gi dX6_readInto_39 gf_X6_20 sh_18 (by rfl) ?_
        refine aw_top ht.2.1 ?_
        refine aw_aload_n dX6_readInto_42 rfl ?_
        refine aw_gi dX6_readInto_43 gf_X6_15 sh_18 (by rfl) ?_
        refine aw_top ht.1 ?_
        refine aw_icmp_ge (tgt := 60) dX6_readInto_46 (by decide) (fun c46 => ?_) (fun c46 => ?_)
        · rw [nI_leI (by have := hk.1; omega) (by have := hk.1; have := hr.2; omega)] at c46
          have e : q = pRead tb tl := by rw [← e]; show _ = if _ then _ else _; rw [if_neg (fun w => absurd w.2 (by omega))]
          refine aw_aload_n dX6_readInto_60 rfl ?_
          refine aw_iconst (v := nI 0) dX6_readInto_61 rfl ?_
          refine aw_pi dX6_readInto_62 pf_X6_15 rfl rfl sh_18 (by rfl) ?_
          refine aw_aload_n dX6_readInto_65 rfl ?_
          refine aw_gi dX6_readInto_66 gf_X6_23 sh_18 (by rfl) ?_
          refine aw_top (show _ = nI (pRead tb tl).1.1 by rw [am_ups, pk_un (by decide), ht.2.2.1, e]) ?_
          refine aw_iret dX6_readInto_69 rfl rfl rfl rfl ?_
          refine ⟨rfl, rfl, ⟨by rw [am_ups, pk_us], by rw [am_ups, pk_un (by decide), ht.2.1, e], by rw [am_ups, pk_un (by decide), ht.2.2.1, e], fun j hj => by omega⟩, ?_, hf.up (by omega) (by omega)⟩
          rw [← e]
          exact hs.up (by omega)
        · rw [nI_leI (by have := hk.1; omega) (by have := hk.1; have := hr.2; omega)] at c46
          refine aw_aload_n dX6_readInto_49 rfl ?_
          refine aw_aload_n dX6_readInto_50 rfl ?_
          refine aw_v1vp dX6_readInto_51 ml_X6_35 im_X6_readOffice se_X6_readOffice (c_X6_readOffice tb tl hk q hr hK ht hs) sh_18 (by decide) rfl rfl (Nat.le_of_ble_eq_true rfl) (Nat.le_of_ble_eq_true rfl) (Nat.le_of_ble_eq_true rfl) (Nat.le_of_ble_eq_true rfl) (Nat.le_of_ble_eq_true rfl) (fun μ2 q2 => ?_)
          refine aw_iinc (v := nI (i + 1)) dX6_readInto_54 rfl (nI_1 i) (Nat.le_of_ble_eq_true rfl) ?_
          refine aw_goto (tgt := 26) dX6_readInto_57 (by decide) ?_
          exact ih (i + 1) (pOff tb tl q) μ2 (by omega) (pOff_ok hr hK).1 (pOff_ok hr hK).2 q2.1 q2.2.1 (hf.tr q2.2.2) (by rw [← e]; show _ = if _ then _ else _; rw [if_pos ⟨c35, by omega⟩])
set_option maxRecDepth 100000 in
set_option maxHeartbeats 4000000 in
theorem c_X6_readInto {G : am_G} {μ : am_M} (tb : Nat → Nat) (tl : Nat) (hk : tpOK tb tl) (s : Nat × Nat) (ht : tpC μ tb tl s) : am_MA G yX6_readInto cX6_readInto 3 (some .int) 4 0 0 [.ref 18, .ref 20] am_SH μ (am_P (some (.int (nI (pRead tb tl).1.1))) am_SH (fun μ9 => tpC μ9 tb 0 (pRead tb tl).1 ∧ skyC μ9 20 (pRead tb tl).2 ∧ am_fr μ μ9 18 9)) := by
  refine am_ofK (own := RX6) (nm := "readInto") (L := [some (.ref 18), some (.ref 20), none]) rfl rfl (by decide +kernel) (Nat.le_of_ble_eq_true rfl) rfl ?_
  refine aw_aload_n dX6_readInto_0 rfl ?_
  refine aw_iconst (v := nI 0) dX6_readInto_1 rfl ?_
  refine aw_pi dX6_readInto_2 pf_X6_20 rfl rfl sh_18 (by rfl) ?_
  refine aw_aload_n dX6_readInto_5 rfl ?_
  refine aw_iconst (v := nI 0) dX6_readInto_6 rfl ?_
  refine aw_pi dX6_readInto_7 pf_X6_23 rfl rfl sh_18 (by rfl) ?_
  have t0 : tpC (am_up (am_up μ 18 (upd (μ 18) 2 (nI 0))) 18 (upd (am_up μ 18 (upd (μ 18) 2 (nI 0)) 18) 3 (nI 0))) tb tl (0, 0) := ⟨by rw [am_ups, pk_un (by decide), am_ups, pk_un (by decide)]; exact ht.1, by rw [am_ups, pk_un (by decide), am_ups, pk_us], by rw [am_ups, pk_us], fun j hj => by rw [am_upn (by omega), am_upn (by omega)]; exact ht.2.2.2 j hj⟩
  have f0 : am_fr μ (am_up (am_up μ 18 (upd (μ 18) 2 (nI 0))) 18 (upd (am_up μ 18 (upd (μ 18) 2 (nI 0)) 18) 3 (nI 0))) 18 1 := (am_fr.rf.up (by omega) (by omega)).up (by omega) (by omega)
  generalize am_up (am_up μ 18 (upd (μ 18) 2 (nI 0))) 18 (upd (am_up μ 18 (upd (μ 18) 2 (nI 0)) 18) 3 (nI 0)) = μ1 at t0 f0 ⊢
  refine aw_aload_n dX6_readInto_10 rfl ?_
  refine aw_v0vp dX6_readInto_11 ml_X6_26 im_X5_begin se_X5_begin (c_X5_begin 20 sh_sky20) sh_sky20.1 (by decide) rfl rfl (Nat.le_of_ble_eq_true rfl) (Nat.le_of_ble_eq_true rfl) (Nat.le_of_ble_eq_true rfl) (Nat.le_of_ble_eq_true rfl) (Nat.le_of_ble_eq_true rfl) (fun μ2 q2 => ?_)
  refine aw_aload_n dX6_readInto_14 rfl ?_
  refine aw_aload_n dX6_readInto_15 rfl ?_
  refine aw_v1vp dX6_readInto_16 ml_X6_31 im_X6_readLaw se_X6_readLaw (c_X6_readLaw tb tl hk (t0.fr (fun b _ _ => q2.2.2.2 b (by omega))) ⟨q2.1, q2.2.2.1⟩) sh_18 (by decide) rfl rfl (Nat.le_of_ble_eq_true rfl) (Nat.le_of_ble_eq_true rfl) (Nat.le_of_ble_eq_true rfl) (Nat.le_of_ble_eq_true rfl) (Nat.le_of_ble_eq_true rfl) (fun μ3 q3 => ?_)
  refine aw_aload_n dX6_readInto_19 rfl ?_
  refine aw_aload_n dX6_readInto_20 rfl ?_
  refine aw_v1vp dX6_readInto_21 ml_X6_35 im_X6_readOffice se_X6_readOffice (c_X6_readOffice tb tl hk (pLaw tb tl) (pLaw_ok tb tl).1 (pLaw_ok tb tl).2.1 q3.1 q3.2.1) sh_18 (by decide) rfl rfl (Nat.le_of_ble_eq_true rfl) (Nat.le_of_ble_eq_true rfl) (Nat.le_of_ble_eq_true rfl) (Nat.le_of_ble_eq_true rfl) (Nat.le_of_ble_eq_true rfl) (fun μ4 q4 => ?_)
  refine aw_iconst (v := nI 0) dX6_readInto_24 rfl ?_
  refine aw_istore_n dX6_readInto_25 (Nat.le_of_ble_eq_true rfl) ?_
  have a3 := pOff_ok (tb := tb) (pLaw_ok tb tl).1 (pLaw_ok tb tl).2.1
  exact l_X6_readInto tb tl hk 5 0 (pOff tb tl (pLaw tb tl)) μ4 (by omega) a3.1 a3.2 q4.1 q4.2.1 ((f0.mono (by omega) (by omega)).tr ((q2.2.2.2.mono (by omega) (by omega)).tr (q3.2.2.tr q4.2.2))) rfl
