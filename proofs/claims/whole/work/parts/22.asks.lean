/-! ===== kinds ===== -/
def pSort (v : Nat) : Nat := if v = 98 then 1 else if v = 102 then 2 else if v = 108 then 3 else if v = 100 then 4 else if v = 97 then 5 else 0
def pNear (k : Nat) : Nat := ([0, 0, 1, 1, 0, 4] : List Nat).getD k 0
def pTold (k w : Nat) : Nat := if w = 0 then ([10, 11, 12, 0, 13, 14] : List Nat).getD k 0 else ([20, 21, 24, 22, 23, 0] : List Nat).getD k 0
theorem pn_near : ∀ j, j < 6 → ([0, 0, 1, 1, 0, 4] : List Int32).getD j 0 = nI (pNear j) := by decide +kernel
theorem pn_told0 : ∀ j, j < 6 → ([10, 11, 12, 0, 13, 14] : List Int32).getD j 0 = nI (pTold j 0) := by decide +kernel
theorem pn_told1 : ∀ j, j < 6 → ([20, 21, 24, 22, 23, 0] : List Int32).getD j 0 = nI (pTold j 1) := by decide +kernel
theorem pNear_lt : ∀ j, j < 6 → pNear j < 6 := by decide +kernel
theorem pTold_lt : ∀ j, j < 6 → ∀ w, w < 2 → pTold j w < 25 := by decide +kernel
def pIsL : Nat → Nat → Nat → Nat
  | 0, s, _ => s
  | r + 1, s, w => if s = w ∨ s = 0 then s else pIsL r (pNear s) w
/-- one of kind k is one of kind w, too -/
def pIs (k w : Nat) : Bool := w == 0 || k == w || (w == 1 && (k == 2 || k == 3)) || (w == 4 && k == 5)
theorem pn_is : ∀ k, k < 6 → 1 ≤ k → ∀ w, w < 6 → (pIsL 6 k w = w ↔ pIs k w = true) := by decide +kernel
theorem pIsL_lt : ∀ r s w, s < 6 → pIsL r s w < 6
  | 0, s, _, h => h
  | r + 1, s, w, h => by
    unfold pIsL
    split
    · exact h
    · exact pIsL_lt r _ w (pNear_lt s h)
def pBL : Nat → Nat → Nat → Nat
  | 0, k, _ => k
  | r + 1, k, w => if pTold k w = 0 then pBL r (pNear k) w else k
theorem pBL_lt : ∀ r k w, k < 6 → pBL r k w < 6
  | 0, k, _, h => h
  | r + 1, k, w, h => by
    unfold pBL
    split
    · exact pBL_lt r _ w (pNear_lt k h)
    · exact h
def pBody (k w : Nat) : Nat := pTold (pBL 6 k w) w
set_option maxRecDepth 100000 in
set_option maxHeartbeats 4000000 in
theorem c_X3_ofLetter {G : am_G} {sh : List am_S} {μ : am_M} (v : Nat) (hv : v < 256) : am_MA G yX3_ofLetter cX3_ofLetter 1 (some .int) 0 0 0 [.int (nI v)] sh μ (am_E (some (.int (nI (pSort v)))) sh μ) := by
  refine am_ofK (own := RX3) (nm := "ofLetter") (L := [some (.int (nI v))]) rfl rfl (by decide +kernel) (Nat.le_of_ble_eq_true rfl) rfl ?_
  refine aw_iload_n dX3_ofLetter_0 rfl ?_
  by_cases hr : v < 97 ∨ 108 < v
  · refine aw_tableOut (tgt := 74) dX3_ofLetter_1 (by rw [nI_toInt (by omega)]; omega) (by decide) ?_
    refine aw_iconst (v := nI 0) dX3_ofLetter_74 rfl ?_
    refine aw_iret dX3_ofLetter_75 rfl rfl rfl rfl ?_
    refine ⟨congrArg (fun z => some (Value.int (nI z))) ?_, rfl, rfl⟩
    unfold pSort; (repeat' split) <;> omega
  · rcases (show v = 97 ∨ v = 98 ∨ v = 99 ∨ v = 100 ∨ v = 101 ∨ v = 102 ∨ v = 103 ∨ v = 104 ∨ v = 105 ∨ v = 106 ∨ v = 107 ∨ v = 108 by omega) with rfl | rfl | rfl | rfl | rfl | rfl | rfl | rfl | rfl | rfl | rfl | rfl
    · refine aw_tableIn (tgt := 72) dX3_ofLetter_1 (by decide) (by decide) rfl (by decide) ?_
      refine aw_iconst (v := nI 5) dX3_ofLetter_72 rfl ?_
      refine aw_iret dX3_ofLetter_73 rfl rfl rfl rfl ?_
      exact ⟨rfl, rfl, rfl⟩
    · refine aw_tableIn (tgt := 64) dX3_ofLetter_1 (by decide) (by decide) rfl (by decide) ?_
      refine aw_iconst (v := nI 1) dX3_ofLetter_64 rfl ?_
      refine aw_iret dX3_ofLetter_65 rfl rfl rfl rfl ?_
      exact ⟨rfl, rfl, rfl⟩
    · refine aw_tableIn (tgt := 74) dX3_ofLetter_1 (by decide) (by decide) rfl (by decide) ?_
      refine aw_iconst (v := nI 0) dX3_ofLetter_74 rfl ?_
      refine aw_iret dX3_ofLetter_75 rfl rfl rfl rfl ?_
      exact ⟨rfl, rfl, rfl⟩
    · refine aw_tableIn (tgt := 70) dX3_ofLetter_1 (by decide) (by decide) rfl (by decide) ?_
      refine aw_iconst (v := nI 4) dX3_ofLetter_70 rfl ?_
      refine aw_iret dX3_ofLetter_71 rfl rfl rfl rfl ?_
      exact ⟨rfl, rfl, rfl⟩
    · refine aw_tableIn (tgt := 74) dX3_ofLetter_1 (by decide) (by decide) rfl (by decide) ?_
      refine aw_iconst (v := nI 0) dX3_ofLetter_74 rfl ?_
      refine aw_iret dX3_ofLetter_75 rfl rfl rfl rfl ?_
      exact ⟨rfl, rfl, rfl⟩
    · refine aw_tableIn (tgt := 66) dX3_ofLetter_1 (by decide) (by decide) rfl (by decide) ?_
      refine aw_iconst (v := nI 2) dX3_ofLetter_66 rfl ?_
      refine aw_iret dX3_ofLetter_67 rfl rfl rfl rfl ?_
      exact ⟨rfl, rfl, rfl⟩
    · refine aw_tableIn (tgt := 74) dX3_ofLetter_1 (by decide) (by decide) rfl (by decide) ?_
      refine aw_iconst (v := nI 0) dX3_ofLetter_74 rfl ?_
      refine aw_iret dX3_ofLetter_75 rfl rfl rfl rfl ?_
      exact ⟨rfl, rfl, rfl⟩
    · refine aw_tableIn (tgt := 74) dX3_ofLetter_1 (by decide) (by decide) rfl (by decide) ?_
      refine aw_iconst (v := nI 0) dX3_ofLetter_74 rfl ?_
      refine aw_iret dX3_ofLetter_75 rfl rfl rfl rfl ?_
      exact ⟨rfl, rfl, rfl⟩
    · refine aw_tableIn (tgt := 74) dX3_ofLetter_1 (by decide) (by decide) rfl (by decide) ?_
      refine aw_iconst (v := nI 0) dX3_ofLetter_74 rfl ?_
      refine aw_iret dX3_ofLetter_75 rfl rfl rfl rfl ?_
      exact ⟨rfl, rfl, rfl⟩
    · refine aw_tableIn (tgt := 74) dX3_ofLetter_1 (by decide) (by decide) rfl (by decide) ?_
      refine aw_iconst (v := nI 0) dX3_ofLetter_74 rfl ?_
      refine aw_iret dX3_ofLetter_75 rfl rfl rfl rfl ?_
      exact ⟨rfl, rfl, rfl⟩
    · refine aw_tableIn (tgt := 74) dX3_ofLetter_1 (by decide) (by decide) rfl (by decide) ?_
      refine aw_iconst (v := nI 0) dX3_ofLetter_74 rfl ?_
      refine aw_iret dX3_ofLetter_75 rfl rfl rfl rfl ?_
      exact ⟨rfl, rfl, rfl⟩
    · refine aw_tableIn (tgt := 68) dX3_ofLetter_1 (by decide) (by decide) rfl (by decide) ?_
      refine aw_iconst (v := nI 3) dX3_ofLetter_68 rfl ?_
      refine aw_iret dX3_ofLetter_69 rfl rfl rfl rfl ?_
      exact ⟨rfl, rfl, rfl⟩
set_option maxRecDepth 100000 in
set_option maxHeartbeats 4000000 in
theorem c_X3_nearest {G : am_G} {sh : List am_S} {μ : am_M} (k : Nat) (hk : k < 6) : am_MA G yX3_nearest cX3_nearest 1 (some .int) 0 0 0 [.int (nI k)] sh μ (am_E (some (.int (nI (pNear k)))) sh μ) := by
  refine am_ofK (own := RX3) (nm := "nearest") (L := [some (.int (nI k))]) rfl rfl (by decide +kernel) (Nat.le_of_ble_eq_true rfl) rfl ?_
  refine aw_iload_n dX3_nearest_0 rfl ?_
  refine aw_if_lt (tgt := 18) dX3_nearest_1 (by decide) (fun c1 => ?_) (fun c1 => ?_)
  · rw [z_lt (by omega)] at c1
    exact c1.elim
  · refine aw_iload_n dX3_nearest_4 rfl ?_
    refine aw_bipush (v := nI 6) dX3_nearest_5 rfl ?_
    refine aw_icmp_ge (tgt := 18) dX3_nearest_7 (by decide) (fun c7 => ?_) (fun c7 => ?_)
    · exact absurd c7 (nI_ge (by omega) (by omega))
    · refine aw_sta (jl := 0) (j := k) dX3_nearest_10 dX3_nearest_13 dX3_nearest_14 (List.mem_of_getElem? (i := 0) rfl) fs_X3_9 rfl rfl rfl (by omega) ?_
      refine aw_top (pn_near k hk) ?_
      refine aw_goto (tgt := 19) dX3_nearest_15 (by decide) ?_
      refine aw_iret dX3_nearest_19 rfl rfl rfl rfl ?_
      exact ⟨rfl, rfl, rfl⟩
set_option maxRecDepth 100000 in
set_option maxHeartbeats 4000000 in
theorem l_X3_isSuch {G : am_G} {sh : List am_S} {μ : am_M} {k w : Nat} (hk : k < 6) (hw : w < 6) : ∀ (r s i : Nat), s < 6 → i + r = 6 → pIsL r s w = pIsL 6 k w → am_W (am_K G RX3 "isSuch" 4 (some .boolean) 1 0 0 (am_E (some (.int (pI (pIsL 6 k w = w)))) sh μ)) cX3_isSuch 4 [some (.int (nI k)), some (.int (nI w)), some (.int (nI s)), some (.int (nI i))] [] sh μ 0 0 := by
  intro r
  induction r with
  | zero =>
    intro s i hs hi e
    refine aw_iload_n dX3_isSuch_4 rfl ?_
    refine aw_bipush (v := nI 6) dX3_isSuch_5 rfl ?_
    refine aw_icmp_ge (tgt := 30) dX3_isSuch_7 (by decide) (fun c7 => ?_) (fun c7 => ?_)
    · refine aw_iload_n dX3_isSuch_30 rfl ?_
      refine aw_iload_n dX3_isSuch_31 rfl ?_
      refine aw_icmp_ne (tgt := 39) dX3_isSuch_32 (by decide) (fun c32 => ?_) (fun c32 => ?_)
      · rw [nI_eq (by omega) (by omega)] at c32
        refine aw_iconst (v := nI 0) dX3_isSuch_39 rfl ?_
        refine aw_iret dX3_isSuch_40 rfl rfl rfl rfl ?_
        exact ⟨congrArg (fun z => some (Value.int z)) (pI_n (by rw [← e]; exact c32)).symm, rfl, rfl⟩
      · rw [nI_eq (by omega) (by omega)] at c32
        refine aw_iconst (v := nI 1) dX3_isSuch_35 rfl ?_
        refine aw_goto (tgt := 40) dX3_isSuch_36 (by decide) ?_
        refine aw_iret dX3_isSuch_40 rfl rfl rfl rfl ?_
        exact ⟨congrArg (fun z => some (Value.int z)) (pI_1 (by rw [← e]; exact c32)).symm, rfl, rfl⟩
    · exact absurd (nI_le (by omega) (by omega)) c7
  | succ r ih =>
    intro s i hs hi e
    refine aw_iload_n dX3_isSuch_4 rfl ?_
    refine aw_bipush (v := nI 6) dX3_isSuch_5 rfl ?_
    refine aw_icmp_ge (tgt := 30) dX3_isSuch_7 (by decide) (fun c7 => ?_) (fun c7 => ?_)
    · exact absurd c7 (nI_ge (by omega) (by omega))
    · refine aw_iload_n dX3_isSuch_10 rfl ?_
      refine aw_iload_n dX3_isSuch_11 rfl ?_
      refine aw_icmp_eq (tgt := 30) dX3_isSuch_12 (by decide) (fun c12 => ?_) (fun c12 => ?_)
      · rw [nI_eq (by omega) (by omega)] at c12
        have e2 : s = pIsL 6 k w := by rw [← e]; show _ = if _ then _ else _; rw [if_pos (Or.inl c12)]
        refine aw_iload_n dX3_isSuch_30 rfl ?_
        refine aw_iload_n dX3_isSuch_31 rfl ?_
        refine aw_icmp_ne (tgt := 39) dX3_isSuch_32 (by decide) (fun c32 => ?_) (fun c32 => ?_)
        · rw [nI_eq (by omega) (by omega)] at c32
          refine aw_iconst (v := nI 0) dX3_isSuch_39 rfl ?_
          refine aw_iret dX3_isSuch_40 rfl rfl rfl rfl ?_
          exact ⟨congrArg (fun z => some (Value.int z)) (pI_n (by rw [← e2]; exact c32)).symm, rfl, rfl⟩
        · rw [nI_eq (by omega) (by omega)] at c32
          refine aw_iconst (v := nI 1) dX3_isSuch_35 rfl ?_
          refine aw_goto (tgt := 40) dX3_isSuch_36 (by decide) ?_
          refine aw_iret dX3_isSuch_40 rfl rfl rfl rfl ?_
          exact ⟨congrArg (fun z => some (Value.int z)) (pI_1 (by rw [← e2]; exact c32)).symm, rfl, rfl⟩
      · rw [nI_eq (by omega) (by omega)] at c12
        refine aw_iload_n dX3_isSuch_15 rfl ?_
        refine aw_if_eq (tgt := 30) dX3_isSuch_16 (by decide) (fun c16 => ?_) (fun c16 => ?_)
        · rw [z_eq (by omega)] at c16
          have e2 : s = pIsL 6 k w := by rw [← e]; show _ = if _ then _ else _; rw [if_pos (Or.inr c16)]
          refine aw_iload_n dX3_isSuch_30 rfl ?_
          refine aw_iload_n dX3_isSuch_31 rfl ?_
          refine aw_icmp_ne (tgt := 39) dX3_isSuch_32 (by decide) (fun c32 => ?_) (fun c32 => ?_)
          · rw [nI_eq (by omega) (by omega)] at c32
            refine aw_iconst (v := nI 0) dX3_isSuch_39 rfl ?_
            refine aw_iret dX3_isSuch_40 rfl rfl rfl rfl ?_
            exact ⟨congrArg (fun z => some (Value.int z)) (pI_n (by rw [← e2]; exact c32)).symm, rfl, rfl⟩
          · rw [nI_eq (by omega) (by omega)] at c32
            refine aw_iconst (v := nI 1) dX3_isSuch_35 rfl ?_
            refine aw_goto (tgt := 40) dX3_isSuch_36 (by decide) ?_
            refine aw_iret dX3_isSuch_40 rfl rfl rfl rfl ?_
            exact ⟨congrArg (fun z => some (Value.int z)) (pI_1 (by rw [← e2]; exact c32)).symm, rfl, rfl⟩
        · rw [z_eq (by omega)] at c16
          refine aw_iload_n dX3_isSuch_19 rfl ?_
          refine aw_s1i dX3_isSuch_20 ml_X3_13 st_X3_nearest (c_X3_nearest s hs) (Nat.le_of_ble_eq_true rfl) (Nat.le_of_ble_eq_true rfl) (Nat.le_of_ble_eq_true rfl) (Nat.le_of_ble_eq_true rfl) (Nat.le_of_ble_eq_true rfl) ?_
          refine aw_istore_n dX3_isSuch_23 (Nat.le_of_ble_eq_true rfl) ?_
          refine aw_iinc (v := nI (i + 1)) dX3_isSuch_24 rfl (nI_1 i) (Nat.le_of_ble_eq_true rfl) ?_
          refine aw_goto (tgt := 4) dX3_isSuch_27 (by decide) ?_
          exact ih (pNear s) (i + 1) (pNear_lt s hs) (by omega) (by rw [← e]; show _ = if _ then _ else _; rw [if_neg (by omega)])
set_option maxRecDepth 100000 in
set_option maxHeartbeats 4000000 in
theorem c_X3_isSuch {G : am_G} {sh : List am_S} {μ : am_M} (k w : Nat) (hk : k < 6) (hw : w < 6) : am_MA G yX3_isSuch cX3_isSuch 4 (some .boolean) 1 0 0 [.int (nI k), .int (nI w)] sh μ (am_E (some (.int (pI (pIsL 6 k w = w)))) sh μ) := by
  refine am_ofK (own := RX3) (nm := "isSuch") (L := [some (.int (nI k)), some (.int (nI w)), none, none]) rfl rfl (by decide +kernel) (Nat.le_of_ble_eq_true rfl) rfl ?_
  refine aw_iload_n dX3_isSuch_0 rfl ?_
  refine aw_istore_n dX3_isSuch_1 (Nat.le_of_ble_eq_true rfl) ?_
  refine aw_iconst (v := nI 0) dX3_isSuch_2 rfl ?_
  refine aw_istore_n dX3_isSuch_3 (Nat.le_of_ble_eq_true rfl) ?_
  exact l_X3_isSuch hk hw 6 k 0 hk (by omega) rfl
set_option maxRecDepth 100000 in
set_option maxHeartbeats 4000000 in
theorem c_X1_toldBody {G : am_G} {sh : List am_S} {μ : am_M} (k w : Nat) (hk : k < 6) (hw : w < 2) : am_MA G yX1_toldBody cX1_toldBody 2 (some .int) 0 0 0 [.int (nI k), .int (nI w)] sh μ (am_E (some (.int (nI (pTold k w)))) sh μ) := by
  refine am_ofK (own := RX1) (nm := "toldBody") (L := [some (.int (nI k)), some (.int (nI w))]) rfl rfl (by decide +kernel) (Nat.le_of_ble_eq_true rfl) rfl ?_
  rcases (show w = 0 ∨ w = 1 by omega) with rfl | rfl
  · refine aw_iload_n dX1_toldBody_0 rfl ?_
    refine aw_if_lt (tgt := 10) dX1_toldBody_1 (by decide) (fun c1 => ?_) (fun c1 => ?_)
    · rw [z_lt (by omega)] at c1
      exact c1.elim
    · refine aw_iload_n dX1_toldBody_4 rfl ?_
      refine aw_bipush (v := nI 6) dX1_toldBody_5 rfl ?_
      refine aw_icmp_lt (tgt := 12) dX1_toldBody_7 (by decide) (fun c7 => ?_) (fun c7 => ?_)
      · refine aw_iload_n dX1_toldBody_12 rfl ?_
        refine aw_if_ne (tgt := 24) dX1_toldBody_13 (by decide) (fun c13 => ?_) (fun c13 => ?_)
        · exact absurd (show nI 0 = 0 by decide) c13
        · refine aw_sta (jl := 0) (j := k) dX1_toldBody_16 dX1_toldBody_19 dX1_toldBody_20 (List.mem_of_getElem? (i := 1) rfl) fs_X1_43 rfl rfl rfl (by omega) ?_
          refine aw_top (pn_told0 k hk) ?_
          refine aw_goto (tgt := 29) dX1_toldBody_21 (by decide) ?_
          refine aw_iret dX1_toldBody_29 rfl rfl rfl rfl ?_
          exact ⟨rfl, rfl, rfl⟩
      · exact absurd (nI_lt (by omega) (by omega)) c7
  · refine aw_iload_n dX1_toldBody_0 rfl ?_
    refine aw_if_lt (tgt := 10) dX1_toldBody_1 (by decide) (fun c1 => ?_) (fun c1 => ?_)
    · rw [z_lt (by omega)] at c1
      exact c1.elim
    · refine aw_iload_n dX1_toldBody_4 rfl ?_
      refine aw_bipush (v := nI 6) dX1_toldBody_5 rfl ?_
      refine aw_icmp_lt (tgt := 12) dX1_toldBody_7 (by decide) (fun c7 => ?_) (fun c7 => ?_)
      · refine aw_iload_n dX1_toldBody_12 rfl ?_
        refine aw_if_ne (tgt := 24) dX1_toldBody_13 (by decide) (fun c13 => ?_) (fun c13 => ?_)
        · refine aw_sta (jl := 0) (j := k) dX1_toldBody_24 dX1_toldBody_27 dX1_toldBody_28 (List.mem_of_getElem? (i := 2) rfl) fs_X1_46 rfl rfl rfl (by omega) ?_
          refine aw_top (pn_told1 k hk) ?_
          refine aw_iret dX1_toldBody_29 rfl rfl rfl rfl ?_
          exact ⟨rfl, rfl, rfl⟩
        · exact absurd c13 (by decide)
      · exact absurd (nI_lt (by omega) (by omega)) c7
set_option maxRecDepth 100000 in
set_option maxHeartbeats 4000000 in
theorem l_X1_bodyFor {G : am_G} {μ : am_M} {K : pK} {o w : Nat} (hw : w < 2) : ∀ (r k i : Nat), k < 6 → i + r = 6 → pBL r k w = pBL 6 (K (7 + o)) w → am_W (am_K G RX1 "bodyFor" 5 (some .int) 1 0 0 (am_E (some (.int (nI (pBody (K (7 + o)) w)))) am_SH μ)) cX1_bodyFor 13 [some (.ref 232), some (.int (nI o)), some (.int (nI w)), some (.int (nI k)), some (.int (nI i))] [] am_SH μ 0 0 := by
  intro r
  induction r with
  | zero =>
    intro k i hk hi e
    refine aw_iload dX1_bodyFor_13 rfl ?_
    refine aw_bipush (v := nI 6) dX1_bodyFor_15 rfl ?_
    refine aw_icmp_ge (tgt := 39) dX1_bodyFor_17 (by decide) (fun c17 => ?_) (fun c17 => ?_)
    · refine aw_iload_n dX1_bodyFor_39 rfl ?_
      refine aw_iload_n dX1_bodyFor_40 rfl ?_
      refine aw_s2i dX1_bodyFor_41 ml_X1_36 st_X1_toldBody (c_X1_toldBody k w hk hw) (Nat.le_of_ble_eq_true rfl) (Nat.le_of_ble_eq_true rfl) (Nat.le_of_ble_eq_true rfl) (Nat.le_of_ble_eq_true rfl) (Nat.le_of_ble_eq_true rfl) ?_
      refine aw_iret dX1_bodyFor_44 rfl rfl rfl rfl ?_
      exact ⟨congrArg (fun z => some (Value.int (nI (pTold z w)))) e, rfl, rfl⟩
    · exact absurd (nI_le (by omega) (by omega)) c17
  | succ r ih =>
    intro k i hk hi e
    refine aw_iload dX1_bodyFor_13 rfl ?_
    refine aw_bipush (v := nI 6) dX1_bodyFor_15 rfl ?_
    refine aw_icmp_ge (tgt := 39) dX1_bodyFor_17 (by decide) (fun c17 => ?_) (fun c17 => ?_)
    · exact absurd c17 (nI_ge (by omega) (by omega))
    · refine aw_iload_n dX1_bodyFor_20 rfl ?_
      refine aw_iload_n dX1_bodyFor_21 rfl ?_
      refine aw_s2i dX1_bodyFor_22 ml_X1_36 st_X1_toldBody (c_X1_toldBody k w hk hw) (Nat.le_of_ble_eq_true rfl) (Nat.le_of_ble_eq_true rfl) (Nat.le_of_ble_eq_true rfl) (Nat.le_of_ble_eq_true rfl) (Nat.le_of_ble_eq_true rfl) ?_
      refine aw_if_ne (tgt := 39) dX1_bodyFor_25 (by decide) (fun c25 => ?_) (fun c25 => ?_)
      · rw [z_eq (by have := pTold_lt k hk w hw; omega)] at c25
        have e : k = pBL 6 (K (7 + o)) w := by rw [← e]; show _ = if _ then _ else _; rw [if_neg c25]
        refine aw_iload_n dX1_bodyFor_39 rfl ?_
        refine aw_iload_n dX1_bodyFor_40 rfl ?_
        refine aw_s2i dX1_bodyFor_41 ml_X1_36 st_X1_toldBody (c_X1_toldBody k w hk hw) (Nat.le_of_ble_eq_true rfl) (Nat.le_of_ble_eq_true rfl) (Nat.le_of_ble_eq_true rfl) (Nat.le_of_ble_eq_true rfl) (Nat.le_of_ble_eq_true rfl) ?_
        refine aw_iret dX1_bodyFor_44 rfl rfl rfl rfl ?_
        exact ⟨congrArg (fun z => some (Value.int (nI (pTold z w)))) e, rfl, rfl⟩
      · rw [z_eq (by have := pTold_lt k hk w hw; omega)] at c25
        refine aw_iload_n dX1_bodyFor_28 rfl ?_
        refine aw_s1i dX1_bodyFor_29 ml_X1_39 st_X3_nearest (c_X3_nearest k hk) (Nat.le_of_ble_eq_true rfl) (Nat.le_of_ble_eq_true rfl) (Nat.le_of_ble_eq_true rfl) (Nat.le_of_ble_eq_true rfl) (Nat.le_of_ble_eq_true rfl) ?_
        refine aw_istore_n dX1_bodyFor_32 (Nat.le_of_ble_eq_true rfl) ?_
        refine aw_iinc (v := nI (i + 1)) dX1_bodyFor_33 rfl (nI_1 i) (Nat.le_of_ble_eq_true rfl) ?_
        refine aw_goto (tgt := 13) dX1_bodyFor_36 (by decide) ?_
        exact ih (pNear k) (i + 1) (pNear_lt k hk) (by omega) (by rw [← e]; show _ = if _ then _ else _; rw [if_pos c25])
set_option maxRecDepth 100000 in
set_option maxHeartbeats 4000000 in
theorem c_X1_bodyFor {G : am_G} {μ : am_M} (K : pK) (hK : skyC μ 27 K) (ho : pOK K) (o : Nat) (hoo : o < K 5) (w : Nat) (hw : w < 2) : am_MA G yX1_bodyFor cX1_bodyFor 5 (some .int) 1 0 0 [.ref 232, .int (nI o), .int (nI w)] am_SH μ (am_E (some (.int (nI (pBody (K (7 + o)) w)))) am_SH μ) := by
  have g := hK.2.2.2.2 o hoo
  have gk := ho.2.2.2.2 o hoo
  have h5 := ho.1
  refine am_ofK (own := RX1) (nm := "bodyFor") (L := [some (.ref 232), some (.int (nI o)), some (.int (nI w)), none, none]) rfl rfl (by decide +kernel) (Nat.le_of_ble_eq_true rfl) rfl ?_
  refine aw_aload_n dX1_bodyFor_0 rfl ?_
  refine aw_gr dX1_bodyFor_1 gf_X1_13 sh_232 (by rfl) ?_
  refine aw_gr dX1_bodyFor_4 gf_X1_29 sh_sky27.1 (by rfl) ?_
  refine aw_iload_n dX1_bodyFor_7 rfl ?_
  refine aw_iald dX1_bodyFor_8 sh_sky27.2.2.1 rfl (by omega) (by decide) ?_
  refine aw_top g.1 ?_
  refine aw_istore_n dX1_bodyFor_9 (Nat.le_of_ble_eq_true rfl) ?_
  refine aw_iconst (v := nI 0) dX1_bodyFor_10 rfl ?_
  refine aw_istore dX1_bodyFor_11 (Nat.le_of_ble_eq_true rfl) ?_
  exact l_X1_bodyFor hw 6 _ 0 (by omega) (by omega) rfl
/-! ===== the trace ===== -/
def trcC (μ : am_M) (tr : List Nat) : Prop := μ 232 2 = nI tr.length ∧ tr.length ≤ 16 ∧ ∀ i x, tr[i]? = some x → μ 233 i = nI x
theorem trcC.fr {μ μ' : am_M} {tr : List Nat} (h : trcC μ tr) (e : ∀ b, 232 ≤ b → b < 234 → μ' b = μ b) : trcC μ' tr := ⟨by rw [e 232 (by omega) (by omega)]; exact h.1, h.2.1, fun i x hi => by rw [e 233 (by omega) (by omega)]; exact h.2.2 i x hi⟩
set_option maxRecDepth 100000 in
set_option maxHeartbeats 4000000 in
theorem c_X1_leave {G : am_G} {μ : am_M} (tr : List Nat) (ht : trcC μ tr) (hl : tr.length < 16) (b : Nat) : am_MA G yX1_leave cX1_leave 2 none 0 0 0 [.ref 232, .int (nI b)] am_SH μ (am_P none am_SH (fun μ9 => trcC μ9 (tr ++ [b]) ∧ am_fr μ μ9 232 2)) := by
  refine am_ofK (own := RX1) (nm := "leave") (L := [some (.ref 232), some (.int (nI b))]) rfl rfl (by decide +kernel) (Nat.le_of_ble_eq_true rfl) rfl ?_
  refine aw_aload_n dX1_leave_0 rfl ?_
  refine aw_gi dX1_leave_1 gf_X1_17 sh_232 (by rfl) ?_
  refine aw_top ht.1 ?_
  refine aw_bipush (v := nI 16) dX1_leave_4 rfl ?_
  refine aw_icmp_ge (tgt := 29) dX1_leave_6 (by decide) (fun c6 => ?_) (fun c6 => ?_)
  · exact absurd c6 (nI_ge (by omega) (by omega))
  · refine aw_aload_n dX1_leave_9 rfl ?_
    refine aw_gr dX1_leave_10 gf_X1_9 sh_232 (by rfl) ?_
    refine aw_aload_n dX1_leave_13 rfl ?_
    refine aw_gi dX1_leave_14 gf_X1_17 sh_232 (by rfl) ?_
    refine aw_top ht.1 ?_
    refine aw_iload_n dX1_leave_17 rfl ?_
    refine aw_iast dX1_leave_18 sh_233 rfl (by omega) (by decide) ?_
    refine aw_aload_n dX1_leave_19 rfl ?_
    refine aw_dup dX1_leave_20 rfl ?_
    refine aw_gi dX1_leave_21 gf_X1_17 sh_232 (by rfl) ?_
    refine aw_top (show _ = nI tr.length by rw [am_upn (by omega)]; exact ht.1) ?_
    refine aw_iconst (v := nI 1) dX1_leave_24 rfl ?_
    refine aw_iadd dX1_leave_25 ?_
    refine aw_top (nI_add _ _) ?_
    refine aw_pi dX1_leave_26 pf_X1_17 rfl rfl sh_232 (by rfl) ?_
    refine aw_vret dX1_leave_29 rfl rfl rfl ?_
    refine ⟨rfl, rfl, ⟨by rw [am_ups, pk_us]; simp, by simp; omega, fun i x hi => ?_⟩, (am_fr.rf.up (by omega) (by omega)).up (by omega) (by omega)⟩
    rw [am_upn (by omega), am_ups]
    by_cases e : i = tr.length
    · subst e; rw [pk_us]; simp at hi; rw [hi]
    · have hl : i < tr.length := by have := (List.getElem?_eq_some_iff.mp hi).1; simp at this; omega
      rw [pk_un e]; rw [List.getElem?_append_left hl] at hi; exact ht.2.2 i x hi
set_option maxRecDepth 100000 in
set_option maxHeartbeats 4000000 in
theorem g_10 {G : am_G} {μ : am_M} (K : pK) (hK : skyC μ 27 K) (ho : pOK K) (o : Nat) (hoo : o < K 5) (tr : List Nat) (ht : trcC μ tr) (hl : tr.length + 1 ≤ 16) (dp : Nat) (hdp : dp + 1 ≤ 20) : am_MA G yX1_give cX1_give 5 (some .int) 1 0 0 [.ref 232, .int (nI 10), .int (nI o), .int (nI dp)] am_SH μ (am_P (some (.int (nI (K (22 + o))))) am_SH (fun μ9 => trcC μ9 (tr ++ [10]) ∧ am_fr μ μ9 232 2)) := by
  have g := hK.2.2.2.2 o hoo
  have h5 := ho.1
  have gk := ho.2.2.2.2 o hoo
  refine am_ofK (own := RX1) (nm := "give") (L := [some (.ref 232), some (.int (nI 10)), some (.int (nI o)), some (.int (nI dp)), none]) rfl rfl (by decide +kernel) (Nat.le_of_ble_eq_true rfl) rfl ?_
  refine aw_iload_n dX1_give_0 rfl ?_
  refine aw_bipush (v := nI 20) dX1_give_1 rfl ?_
  refine aw_icmp_le (tgt := 8) dX1_give_3 (by decide) (fun c3 => ?_) (fun c3 => ?_)
  · refine aw_aload_n dX1_give_8 rfl ?_
    refine aw_iload_n dX1_give_9 rfl ?_
    refine aw_v1vp dX1_give_10 ml_X1_49 im_X1_leave se_X1_leave (c_X1_leave tr ht (by omega) 10) sh_232 (by decide) rfl rfl (Nat.le_of_ble_eq_true rfl) (Nat.le_of_ble_eq_true rfl) (Nat.le_of_ble_eq_true rfl) (Nat.le_of_ble_eq_true rfl) (Nat.le_of_ble_eq_true rfl) (fun μ2 hq => ?_)
    refine aw_iload_n dX1_give_13 rfl ?_
    refine aw_iconst (v := nI 1) dX1_give_14 rfl ?_
    refine aw_iadd dX1_give_15 ?_
    refine aw_top (nI_add _ _) ?_
    refine aw_istore dX1_give_16 (Nat.le_of_ble_eq_true rfl) ?_
    refine aw_iload_n dX1_give_18 rfl ?_
    refine aw_tableIn (tgt := 92) dX1_give_19 (by decide) (by decide) rfl (by decide) ?_
    obtain ⟨t2, f2⟩ := hq
    have hK2 : skyC μ2 27 K := hK.fr (fun b _ _ => f2 b (by omega))
    have g2 := hK2.2.2.2.2 o hoo
    refine aw_aload_n dX1_give_92 rfl ?_
    refine aw_gr dX1_give_93 gf_X1_13 sh_232 (by rfl) ?_
    refine aw_gr dX1_give_96 gf_X1_53 sh_sky27.1 (by rfl) ?_
    refine aw_iload_n dX1_give_99 rfl ?_
    refine aw_iald dX1_give_100 sh_sky27.2.2.2.2.2.1 rfl (by omega) (by decide) ?_
    refine aw_top g2.2.2.2.1 ?_
    refine aw_iret dX1_give_101 rfl rfl rfl rfl ?_
    exact ⟨rfl, rfl, by simpa using t2, f2⟩
  · exact absurd (nI_le (by omega) (by omega)) c3
set_option maxRecDepth 100000 in
set_option maxHeartbeats 4000000 in
theorem g_20 {G : am_G} {μ : am_M} (K : pK) (hK : skyC μ 27 K) (ho : pOK K) (o : Nat) (hoo : o < K 5) (tr : List Nat) (ht : trcC μ tr) (hl : tr.length + 1 ≤ 16) (dp : Nat) (hdp : dp + 1 ≤ 20) : am_MA G yX1_give cX1_give 5 (some .int) 1 0 0 [.ref 232, .int (nI 20), .int (nI o), .int (nI dp)] am_SH μ (am_P (some (.int (nI o))) am_SH (fun μ9 => trcC μ9 (tr ++ [20]) ∧ am_fr μ μ9 232 2)) := by
  have g := hK.2.2.2.2 o hoo
  have h5 := ho.1
  have gk := ho.2.2.2.2 o hoo
  refine am_ofK (own := RX1) (nm := "give") (L := [some (.ref 232), some (.int (nI 20)), some (.int (nI o)), some (.int (nI dp)), none]) rfl rfl (by decide +kernel) (Nat.le_of_ble_eq_true rfl) rfl ?_
  refine aw_iload_n dX1_give_0 rfl ?_
  refine aw_bipush (v := nI 20) dX1_give_1 rfl ?_
  refine aw_icmp_le (tgt := 8) dX1_give_3 (by decide) (fun c3 => ?_) (fun c3 => ?_)
  · refine aw_aload_n dX1_give_8 rfl ?_
    refine aw_iload_n dX1_give_9 rfl ?_
    refine aw_v1vp dX1_give_10 ml_X1_49 im_X1_leave se_X1_leave (c_X1_leave tr ht (by omega) 20) sh_232 (by decide) rfl rfl (Nat.le_of_ble_eq_true rfl) (Nat.le_of_ble_eq_true rfl) (Nat.le_of_ble_eq_true rfl) (Nat.le_of_ble_eq_true rfl) (Nat.le_of_ble_eq_true rfl) (fun μ2 hq => ?_)
    refine aw_iload_n dX1_give_13 rfl ?_
    refine aw_iconst (v := nI 1) dX1_give_14 rfl ?_
    refine aw_iadd dX1_give_15 ?_
    refine aw_top (nI_add _ _) ?_
    refine aw_istore dX1_give_16 (Nat.le_of_ble_eq_true rfl) ?_
    refine aw_iload_n dX1_give_18 rfl ?_
    refine aw_tableIn (tgt := 162) dX1_give_19 (by decide) (by decide) rfl (by decide) ?_
    obtain ⟨t2, f2⟩ := hq
    have hK2 : skyC μ2 27 K := hK.fr (fun b _ _ => f2 b (by omega))
    have g2 := hK2.2.2.2.2 o hoo
    refine aw_iload_n dX1_give_162 rfl ?_
    refine aw_iret dX1_give_163 rfl rfl rfl rfl ?_
    exact ⟨rfl, rfl, by simpa using t2, f2⟩
  · exact absurd (nI_le (by omega) (by omega)) c3
set_option maxRecDepth 100000 in
set_option maxHeartbeats 4000000 in
theorem g_21 {G : am_G} {μ : am_M} (K : pK) (hK : skyC μ 27 K) (ho : pOK K) (o : Nat) (hoo : o < K 5) (tr : List Nat) (ht : trcC μ tr) (hl : tr.length + 2 ≤ 16) (dp : Nat) (hdp : dp + 2 ≤ 20) : am_MA G yX1_give cX1_give 5 (some .int) 2 0 0 [.ref 232, .int (nI 21), .int (nI o), .int (nI dp)] am_SH μ (am_P (some (.int (nI o + nI (K (17 + o))))) am_SH (fun μ9 => trcC μ9 (tr ++ [21, 20]) ∧ am_fr μ μ9 232 2)) := by
  have g := hK.2.2.2.2 o hoo
  have h5 := ho.1
  have gk := ho.2.2.2.2 o hoo
  refine am_ofK (own := RX1) (nm := "give") (L := [some (.ref 232), some (.int (nI 21)), some (.int (nI o)), some (.int (nI dp)), none]) rfl rfl (by decide +kernel) (Nat.le_of_ble_eq_true rfl) rfl ?_
  refine aw_iload_n dX1_give_0 rfl ?_
  refine aw_bipush (v := nI 20) dX1_give_1 rfl ?_
  refine aw_icmp_le (tgt := 8) dX1_give_3 (by decide) (fun c3 => ?_) (fun c3 => ?_)
  · refine aw_aload_n dX1_give_8 rfl ?_
    refine aw_iload_n dX1_give_9 rfl ?_
    refine aw_v1vp dX1_give_10 ml_X1_49 im_X1_leave se_X1_leave (c_X1_leave tr ht (by omega) 21) sh_232 (by decide) rfl rfl (Nat.le_of_ble_eq_true rfl) (Nat.le_of_ble_eq_true rfl) (Nat.le_of_ble_eq_true rfl) (Nat.le_of_ble_eq_true rfl) (Nat.le_of_ble_eq_true rfl) (fun μ2 hq => ?_)
    refine aw_iload_n dX1_give_13 rfl ?_
    refine aw_iconst (v := nI 1) dX1_give_14 rfl ?_
    refine aw_iadd dX1_give_15 ?_
    refine aw_top (nI_add _ _) ?_
    refine aw_istore dX1_give_16 (Nat.le_of_ble_eq_true rfl) ?_
    refine aw_iload_n dX1_give_18 rfl ?_
    refine aw_tableIn (tgt := 164) dX1_give_19 (by decide) (by decide) rfl (by decide) ?_
    obtain ⟨t2, f2⟩ := hq
    have hK2 : skyC μ2 27 K := hK.fr (fun b _ _ => f2 b (by omega))
    have g2 := hK2.2.2.2.2 o hoo
    refine aw_aload_n dX1_give_164 rfl ?_
    refine aw_bipush (v := nI 20) dX1_give_165 rfl ?_
    refine aw_iload_n dX1_give_167 rfl ?_
    refine aw_iload dX1_give_168 rfl ?_
    refine aw_v3ip dX1_give_170 ml_X1_25 im_X1_give se_X1_give (g_20 K hK2 ho o hoo _ t2 (by simp; omega) (dp + 1) (by omega)) sh_232 (by decide) rfl rfl (Nat.le_of_ble_eq_true rfl) (Nat.le_of_ble_eq_true rfl) (Nat.le_of_ble_eq_true rfl) (Nat.le_of_ble_eq_true rfl) (Nat.le_of_ble_eq_true rfl) (fun μ3 hq3 => ?_)
    obtain ⟨t3, f3⟩ := hq3
    have hK3 : skyC μ3 27 K := hK2.fr (fun b _ _ => f3 b (by omega))
    have g3 := hK3.2.2.2.2 o hoo
    refine aw_aload_n dX1_give_173 rfl ?_
    refine aw_gr dX1_give_174 gf_X1_13 sh_232 (by rfl) ?_
    refine aw_gr dX1_give_177 gf_X1_56 sh_sky27.1 (by rfl) ?_
    refine aw_iload_n dX1_give_180 rfl ?_
    refine aw_iald dX1_give_181 sh_sky27.2.2.2.2.1 rfl (by omega) (by decide) ?_
    refine aw_top g3.2.2.1 ?_
    refine aw_iadd dX1_give_182 ?_
    refine aw_iret dX1_give_183 rfl rfl rfl rfl ?_
    exact ⟨rfl, rfl, by simpa using t3, (f2).tr (f3)⟩
  · exact absurd (nI_le (by omega) (by omega)) c3
set_option maxRecDepth 100000 in
set_option maxHeartbeats 4000000 in
theorem g_13 {G : am_G} {μ : am_M} (K : pK) (hK : skyC μ 27 K) (ho : pOK K) (o : Nat) (hoo : o < K 5) (tr : List Nat) (ht : trcC μ tr) (hl : tr.length + 2 ≤ 16) (dp : Nat) (hdp : dp + 2 ≤ 20) : am_MA G yX1_give cX1_give 5 (some .int) 2 0 0 [.ref 232, .int (nI 13), .int (nI o), .int (nI dp)] am_SH μ (am_P (some (.int (nI (K (22 + o)) - nI 100))) am_SH (fun μ9 => trcC μ9 (tr ++ [13, 10]) ∧ am_fr μ μ9 232 2)) := by
  have g := hK.2.2.2.2 o hoo
  have h5 := ho.1
  have gk := ho.2.2.2.2 o hoo
  refine am_ofK (own := RX1) (nm := "give") (L := [some (.ref 232), some (.int (nI 13)), some (.int (nI o)), some (.int (nI dp)), none]) rfl rfl (by decide +kernel) (Nat.le_of_ble_eq_true rfl) rfl ?_
  refine aw_iload_n dX1_give_0 rfl ?_
  refine aw_bipush (v := nI 20) dX1_give_1 rfl ?_
  refine aw_icmp_le (tgt := 8) dX1_give_3 (by decide) (fun c3 => ?_) (fun c3 => ?_)
  · refine aw_aload_n dX1_give_8 rfl ?_
    refine aw_iload_n dX1_give_9 rfl ?_
    refine aw_v1vp dX1_give_10 ml_X1_49 im_X1_leave se_X1_leave (c_X1_leave tr ht (by omega) 13) sh_232 (by decide) rfl rfl (Nat.le_of_ble_eq_true rfl) (Nat.le_of_ble_eq_true rfl) (Nat.le_of_ble_eq_true rfl) (Nat.le_of_ble_eq_true rfl) (Nat.le_of_ble_eq_true rfl) (fun μ2 hq => ?_)
    refine aw_iload_n dX1_give_13 rfl ?_
    refine aw_iconst (v := nI 1) dX1_give_14 rfl ?_
    refine aw_iadd dX1_give_15 ?_
    refine aw_top (nI_add _ _) ?_
    refine aw_istore dX1_give_16 (Nat.le_of_ble_eq_true rfl) ?_
    refine aw_iload_n dX1_give_18 rfl ?_
    refine aw_tableIn (tgt := 137) dX1_give_19 (by decide) (by decide) rfl (by decide) ?_
    obtain ⟨t2, f2⟩ := hq
    have hK2 : skyC μ2 27 K := hK.fr (fun b _ _ => f2 b (by omega))
    have g2 := hK2.2.2.2.2 o hoo
    refine aw_aload_n dX1_give_137 rfl ?_
    refine aw_bipush (v := nI 10) dX1_give_138 rfl ?_
    refine aw_iload_n dX1_give_140 rfl ?_
    refine aw_iload dX1_give_141 rfl ?_
    refine aw_v3ip dX1_give_143 ml_X1_25 im_X1_give se_X1_give (g_10 K hK2 ho o hoo _ t2 (by simp; omega) (dp + 1) (by omega)) sh_232 (by decide) rfl rfl (Nat.le_of_ble_eq_true rfl) (Nat.le_of_ble_eq_true rfl) (Nat.le_of_ble_eq_true rfl) (Nat.le_of_ble_eq_true rfl) (Nat.le_of_ble_eq_true rfl) (fun μ3 hq3 => ?_)
    obtain ⟨t3, f3⟩ := hq3
    have hK3 : skyC μ3 27 K := hK2.fr (fun b _ _ => f3 b (by omega))
    have g3 := hK3.2.2.2.2 o hoo
    refine aw_bipush (v := nI 100) dX1_give_146 rfl ?_
    refine aw_isub dX1_give_148 ?_
    refine aw_iret dX1_give_149 rfl rfl rfl rfl ?_
    exact ⟨rfl, rfl, by simpa using t3, (f2).tr (f3)⟩
  · exact absurd (nI_le (by omega) (by omega)) c3
set_option maxRecDepth 100000 in
set_option maxHeartbeats 4000000 in
theorem g_14 {G : am_G} {μ : am_M} (K : pK) (hK : skyC μ 27 K) (ho : pOK K) (o : Nat) (hoo : o < K 5) (tr : List Nat) (ht : trcC μ tr) (hl : tr.length + 3 ≤ 16) (dp : Nat) (hdp : dp + 3 ≤ 20) : am_MA G yX1_give cX1_give 5 (some .int) 3 0 0 [.ref 232, .int (nI 14), .int (nI o), .int (nI dp)] am_SH μ (am_P (some (.int ((nI (K (22 + o)) - nI 100) * nI 2))) am_SH (fun μ9 => trcC μ9 (tr ++ [14, 13, 10]) ∧ am_fr μ μ9 232 2)) := by
  have g := hK.2.2.2.2 o hoo
  have h5 := ho.1
  have gk := ho.2.2.2.2 o hoo
  refine am_ofK (own := RX1) (nm := "give") (L := [some (.ref 232), some (.int (nI 14)), some (.int (nI o)), some (.int (nI dp)), none]) rfl rfl (by decide +kernel) (Nat.le_of_ble_eq_true rfl) rfl ?_
  refine aw_iload_n dX1_give_0 rfl ?_
  refine aw_bipush (v := nI 20) dX1_give_1 rfl ?_
  refine aw_icmp_le (tgt := 8) dX1_give_3 (by decide) (fun c3 => ?_) (fun c3 => ?_)
  · refine aw_aload_n dX1_give_8 rfl ?_
    refine aw_iload_n dX1_give_9 rfl ?_
    refine aw_v1vp dX1_give_10 ml_X1_49 im_X1_leave se_X1_leave (c_X1_leave tr ht (by omega) 14) sh_232 (by decide) rfl rfl (Nat.le_of_ble_eq_true rfl) (Nat.le_of_ble_eq_true rfl) (Nat.le_of_ble_eq_true rfl) (Nat.le_of_ble_eq_true rfl) (Nat.le_of_ble_eq_true rfl) (fun μ2 hq => ?_)
    refine aw_iload_n dX1_give_13 rfl ?_
    refine aw_iconst (v := nI 1) dX1_give_14 rfl ?_
    refine aw_iadd dX1_give_15 ?_
    refine aw_top (nI_add _ _) ?_
    refine aw_istore dX1_give_16 (Nat.le_of_ble_eq_true rfl) ?_
    refine aw_iload_n dX1_give_18 rfl ?_
    refine aw_tableIn (tgt := 150) dX1_give_19 (by decide) (by decide) rfl (by decide) ?_
    obtain ⟨t2, f2⟩ := hq
    have hK2 : skyC μ2 27 K := hK.fr (fun b _ _ => f2 b (by omega))
    have g2 := hK2.2.2.2.2 o hoo
    refine aw_aload_n dX1_give_150 rfl ?_
    refine aw_bipush (v := nI 13) dX1_give_151 rfl ?_
    refine aw_iload_n dX1_give_153 rfl ?_
    refine aw_iload dX1_give_154 rfl ?_
    refine aw_v3ip dX1_give_156 ml_X1_25 im_X1_give se_X1_give (g_13 K hK2 ho o hoo _ t2 (by simp; omega) (dp + 1) (by omega)) sh_232 (by decide) rfl rfl (Nat.le_of_ble_eq_true rfl) (Nat.le_of_ble_eq_true rfl) (Nat.le_of_ble_eq_true rfl) (Nat.le_of_ble_eq_true rfl) (Nat.le_of_ble_eq_true rfl) (fun μ3 hq3 => ?_)
    obtain ⟨t3, f3⟩ := hq3
    have hK3 : skyC μ3 27 K := hK2.fr (fun b _ _ => f3 b (by omega))
    have g3 := hK3.2.2.2.2 o hoo
    refine aw_iconst (v := nI 2) dX1_give_159 rfl ?_
    refine aw_imul dX1_give_160 ?_
    refine aw_iret dX1_give_161 rfl rfl rfl rfl ?_
    exact ⟨rfl, rfl, by simpa using t3, (f2).tr (f3)⟩
  · exact absurd (nI_le (by omega) (by omega)) c3
set_option maxRecDepth 100000 in
set_option maxHeartbeats 4000000 in
theorem g_22 {G : am_G} {μ : am_M} (K : pK) (hK : skyC μ 27 K) (ho : pOK K) (o : Nat) (hoo : o < K 5) (tr : List Nat) (ht : trcC μ tr) (hl : tr.length + 3 ≤ 16) (dp : Nat) (hdp : dp + 3 ≤ 20) : am_MA G yX1_give cX1_give 5 (some .int) 3 0 0 [.ref 232, .int (nI 22), .int (nI o), .int (nI dp)] am_SH μ (am_P (some (.int (nI o + nI (K (17 + o)) - nI 1000))) am_SH (fun μ9 => trcC μ9 (tr ++ [22, 21, 20]) ∧ am_fr μ μ9 232 2)) := by
  have g := hK.2.2.2.2 o hoo
  have h5 := ho.1
  have gk := ho.2.2.2.2 o hoo
  refine am_ofK (own := RX1) (nm := "give") (L := [some (.ref 232), some (.int (nI 22)), some (.int (nI o)), some (.int (nI dp)), none]) rfl rfl (by decide +kernel) (Nat.le_of_ble_eq_true rfl) rfl ?_
  refine aw_iload_n dX1_give_0 rfl ?_
  refine aw_bipush (v := nI 20) dX1_give_1 rfl ?_
  refine aw_icmp_le (tgt := 8) dX1_give_3 (by decide) (fun c3 => ?_) (fun c3 => ?_)
  · refine aw_aload_n dX1_give_8 rfl ?_
    refine aw_iload_n dX1_give_9 rfl ?_
    refine aw_v1vp dX1_give_10 ml_X1_49 im_X1_leave se_X1_leave (c_X1_leave tr ht (by omega) 22) sh_232 (by decide) rfl rfl (Nat.le_of_ble_eq_true rfl) (Nat.le_of_ble_eq_true rfl) (Nat.le_of_ble_eq_true rfl) (Nat.le_of_ble_eq_true rfl) (Nat.le_of_ble_eq_true rfl) (fun μ2 hq => ?_)
    refine aw_iload_n dX1_give_13 rfl ?_
    refine aw_iconst (v := nI 1) dX1_give_14 rfl ?_
    refine aw_iadd dX1_give_15 ?_
    refine aw_top (nI_add _ _) ?_
    refine aw_istore dX1_give_16 (Nat.le_of_ble_eq_true rfl) ?_
    refine aw_iload_n dX1_give_18 rfl ?_
    refine aw_tableIn (tgt := 184) dX1_give_19 (by decide) (by decide) rfl (by decide) ?_
    obtain ⟨t2, f2⟩ := hq
    have hK2 : skyC μ2 27 K := hK.fr (fun b _ _ => f2 b (by omega))
    have g2 := hK2.2.2.2.2 o hoo
    refine aw_aload_n dX1_give_184 rfl ?_
    refine aw_bipush (v := nI 21) dX1_give_185 rfl ?_
    refine aw_iload_n dX1_give_187 rfl ?_
    refine aw_iload dX1_give_188 rfl ?_
    refine aw_v3ip dX1_give_190 ml_X1_25 im_X1_give se_X1_give (g_21 K hK2 ho o hoo _ t2 (by simp; omega) (dp + 1) (by omega)) sh_232 (by decide) rfl rfl (Nat.le_of_ble_eq_true rfl) (Nat.le_of_ble_eq_true rfl) (Nat.le_of_ble_eq_true rfl) (Nat.le_of_ble_eq_true rfl) (Nat.le_of_ble_eq_true rfl) (fun μ3 hq3 => ?_)
    obtain ⟨t3, f3⟩ := hq3
    have hK3 : skyC μ3 27 K := hK2.fr (fun b _ _ => f3 b (by omega))
    have g3 := hK3.2.2.2.2 o hoo
    refine aw_sipush (v := nI 1000) dX1_give_193 rfl ?_
    refine aw_isub dX1_give_196 ?_
    refine aw_iret dX1_give_197 rfl rfl rfl rfl ?_
    exact ⟨rfl, rfl, by simpa using t3, (f2).tr (f3)⟩
  · exact absurd (nI_le (by omega) (by omega)) c3
set_option maxRecDepth 100000 in
set_option maxHeartbeats 4000000 in
theorem g_24 {G : am_G} {μ : am_M} (K : pK) (hK : skyC μ 27 K) (ho : pOK K) (o : Nat) (hoo : o < K 5) (tr : List Nat) (ht : trcC μ tr) (hl : tr.length + 3 ≤ 16) (dp : Nat) (hdp : dp + 3 ≤ 20) : am_MA G yX1_give cX1_give 5 (some .int) 3 0 0 [.ref 232, .int (nI 24), .int (nI o), .int (nI dp)] am_SH μ (am_P (some (.int ((nI o + nI (K (17 + o))) * nI 2))) am_SH (fun μ9 => trcC μ9 (tr ++ [24, 21, 20]) ∧ am_fr μ μ9 232 2)) := by
  have g := hK.2.2.2.2 o hoo
  have h5 := ho.1
  have gk := ho.2.2.2.2 o hoo
  refine am_ofK (own := RX1) (nm := "give") (L := [some (.ref 232), some (.int (nI 24)), some (.int (nI o)), some (.int (nI dp)), none]) rfl rfl (by decide +kernel) (Nat.le_of_ble_eq_true rfl) rfl ?_
  refine aw_iload_n dX1_give_0 rfl ?_
  refine aw_bipush (v := nI 20) dX1_give_1 rfl ?_
  refine aw_icmp_le (tgt := 8) dX1_give_3 (by decide) (fun c3 => ?_) (fun c3 => ?_)
  · refine aw_aload_n dX1_give_8 rfl ?_
    refine aw_iload_n dX1_give_9 rfl ?_
    refine aw_v1vp dX1_give_10 ml_X1_49 im_X1_leave se_X1_leave (c_X1_leave tr ht (by omega) 24) sh_232 (by decide) rfl rfl (Nat.le_of_ble_eq_true rfl) (Nat.le_of_ble_eq_true rfl) (Nat.le_of_ble_eq_true rfl) (Nat.le_of_ble_eq_true rfl) (Nat.le_of_ble_eq_true rfl) (fun μ2 hq => ?_)
    refine aw_iload_n dX1_give_13 rfl ?_
    refine aw_iconst (v := nI 1) dX1_give_14 rfl ?_
    refine aw_iadd dX1_give_15 ?_
    refine aw_top (nI_add _ _) ?_
    refine aw_istore dX1_give_16 (Nat.le_of_ble_eq_true rfl) ?_
    refine aw_iload_n dX1_give_18 rfl ?_
    refine aw_tableIn (tgt := 222) dX1_give_19 (by decide) (by decide) rfl (by decide) ?_
    obtain ⟨t2, f2⟩ := hq
    have hK2 : skyC μ2 27 K := hK.fr (fun b _ _ => f2 b (by omega))
    have g2 := hK2.2.2.2.2 o hoo
    refine aw_aload_n dX1_give_222 rfl ?_
    refine aw_bipush (v := nI 21) dX1_give_223 rfl ?_
    refine aw_iload_n dX1_give_225 rfl ?_
    refine aw_iload dX1_give_226 rfl ?_
    refine aw_v3ip dX1_give_228 ml_X1_25 im_X1_give se_X1_give (g_21 K hK2 ho o hoo _ t2 (by simp; omega) (dp + 1) (by omega)) sh_232 (by decide) rfl rfl (Nat.le_of_ble_eq_true rfl) (Nat.le_of_ble_eq_true rfl) (Nat.le_of_ble_eq_true rfl) (Nat.le_of_ble_eq_true rfl) (Nat.le_of_ble_eq_true rfl) (fun μ3 hq3 => ?_)
    obtain ⟨t3, f3⟩ := hq3
    have hK3 : skyC μ3 27 K := hK2.fr (fun b _ _ => f3 b (by omega))
    have g3 := hK3.2.2.2.2 o hoo
    refine aw_iconst (v := nI 2) dX1_give_231 rfl ?_
    refine aw_imul dX1_give_232 ?_
    refine aw_iret dX1_give_233 rfl rfl rfl rfl ?_
    exact ⟨rfl, rfl, by simpa using t3, (f2).tr (f3)⟩
  · exact absurd (nI_le (by omega) (by omega)) c3
/-- MARK of an office of kind 1, 2, 3; its bodies -/
def pMk (K : pK) (o : Nat) : Int32 := if K (7 + o) = 2 then (nI o + nI (K (17 + o))) * nI 2 else if K (7 + o) = 3 then nI o + nI (K (17 + o)) - nI 1000 else nI o + nI (K (17 + o))
def pMkT (k : Nat) : List Nat := if k = 2 then [24, 21, 20] else if k = 3 then [22, 21, 20] else [21, 20]
/-- SIZE of an office of kind 4, 5 -/
def pSz (K : pK) (o : Nat) : Int32 := if K (7 + o) = 5 then (nI (K (22 + o)) - nI 100) * nI 2 else nI (K (22 + o)) - nI 100
def pSzT (k : Nat) : List Nat := if k = 5 then [14, 13, 10] else [13, 10]
set_option maxRecDepth 100000 in
set_option maxHeartbeats 4000000 in
theorem g_21d {G : am_G} {μ : am_M} (K : pK) (hK : skyC μ 27 K) (ho : pOK K) (o : Nat) (hoo : o < K 5) (tr : List Nat) (ht : trcC μ tr) (hl : tr.length + 2 ≤ 16) (dp : Nat) (hdp : dp + 3 ≤ 20) : am_MA G yX1_give cX1_give 5 (some .int) 3 0 0 [.ref 232, .int (nI 21), .int (nI o), .int (nI dp)] am_SH μ (am_P (some (.int (nI o + nI (K (17 + o))))) am_SH (fun μ9 => trcC μ9 (tr ++ [21, 20]) ∧ am_fr μ μ9 232 2)) := by
  have g := hK.2.2.2.2 o hoo
  have h5 := ho.1
  have gk := ho.2.2.2.2 o hoo
  refine am_ofK (own := RX1) (nm := "give") (L := [some (.ref 232), some (.int (nI 21)), some (.int (nI o)), some (.int (nI dp)), none]) rfl rfl (by decide +kernel) (Nat.le_of_ble_eq_true rfl) rfl ?_
  refine aw_iload_n dX1_give_0 rfl ?_
  refine aw_bipush (v := nI 20) dX1_give_1 rfl ?_
  refine aw_icmp_le (tgt := 8) dX1_give_3 (by decide) (fun c3 => ?_) (fun c3 => ?_)
  · refine aw_aload_n dX1_give_8 rfl ?_
    refine aw_iload_n dX1_give_9 rfl ?_
    refine aw_v1vp dX1_give_10 ml_X1_49 im_X1_leave se_X1_leave (c_X1_leave tr ht (by omega) 21) sh_232 (by decide) rfl rfl (Nat.le_of_ble_eq_true rfl) (Nat.le_of_ble_eq_true rfl) (Nat.le_of_ble_eq_true rfl) (Nat.le_of_ble_eq_true rfl) (Nat.le_of_ble_eq_true rfl) (fun μ2 hq => ?_)
    refine aw_iload_n dX1_give_13 rfl ?_
    refine aw_iconst (v := nI 1) dX1_give_14 rfl ?_
    refine aw_iadd dX1_give_15 ?_
    refine aw_top (nI_add _ _) ?_
    refine aw_istore dX1_give_16 (Nat.le_of_ble_eq_true rfl) ?_
    refine aw_iload_n dX1_give_18 rfl ?_
    refine aw_tableIn (tgt := 164) dX1_give_19 (by decide) (by decide) rfl (by decide) ?_
    obtain ⟨t2, f2⟩ := hq
    have hK2 : skyC μ2 27 K := hK.fr (fun b _ _ => f2 b (by omega))
    have g2 := hK2.2.2.2.2 o hoo
    refine aw_aload_n dX1_give_164 rfl ?_
    refine aw_bipush (v := nI 20) dX1_give_165 rfl ?_
    refine aw_iload_n dX1_give_167 rfl ?_
    refine aw_iload dX1_give_168 rfl ?_
    refine aw_v3ip dX1_give_170 ml_X1_25 im_X1_give se_X1_give (g_20 K hK2 ho o hoo _ t2 (by simp; omega) (dp + 1) (by omega)) sh_232 (by decide) rfl rfl (Nat.le_of_ble_eq_true rfl) (Nat.le_of_ble_eq_true rfl) (Nat.le_of_ble_eq_true rfl) (Nat.le_of_ble_eq_true rfl) (Nat.le_of_ble_eq_true rfl) (fun μ3 hq3 => ?_)
    obtain ⟨t3, f3⟩ := hq3
    have hK3 : skyC μ3 27 K := hK2.fr (fun b _ _ => f3 b (by omega))
    have g3 := hK3.2.2.2.2 o hoo
    refine aw_aload_n dX1_give_173 rfl ?_
    refine aw_gr dX1_give_174 gf_X1_13 sh_232 (by rfl) ?_
    refine aw_gr dX1_give_177 gf_X1_56 sh_sky27.1 (by rfl) ?_
    refine aw_iload_n dX1_give_180 rfl ?_
    refine aw_iald dX1_give_181 sh_sky27.2.2.2.2.1 rfl (by omega) (by decide) ?_
    refine aw_top g3.2.2.1 ?_
    refine aw_iadd dX1_give_182 ?_
    refine aw_iret dX1_give_183 rfl rfl rfl rfl ?_
    exact ⟨rfl, rfl, by simpa using t3, (f2).tr (f3)⟩
  · exact absurd (nI_le (by omega) (by omega)) c3
set_option maxRecDepth 100000 in
set_option maxHeartbeats 4000000 in
theorem g_13d {G : am_G} {μ : am_M} (K : pK) (hK : skyC μ 27 K) (ho : pOK K) (o : Nat) (hoo : o < K 5) (tr : List Nat) (ht : trcC μ tr) (hl : tr.length + 2 ≤ 16) (dp : Nat) (hdp : dp + 3 ≤ 20) : am_MA G yX1_give cX1_give 5 (some .int) 3 0 0 [.ref 232, .int (nI 13), .int (nI o), .int (nI dp)] am_SH μ (am_P (some (.int (nI (K (22 + o)) - nI 100))) am_SH (fun μ9 => trcC μ9 (tr ++ [13, 10]) ∧ am_fr μ μ9 232 2)) := by
  have g := hK.2.2.2.2 o hoo
  have h5 := ho.1
  have gk := ho.2.2.2.2 o hoo
  refine am_ofK (own := RX1) (nm := "give") (L := [some (.ref 232), some (.int (nI 13)), some (.int (nI o)), some (.int (nI dp)), none]) rfl rfl (by decide +kernel) (Nat.le_of_ble_eq_true rfl) rfl ?_
  refine aw_iload_n dX1_give_0 rfl ?_
  refine aw_bipush (v := nI 20) dX1_give_1 rfl ?_
  refine aw_icmp_le (tgt := 8) dX1_give_3 (by decide) (fun c3 => ?_) (fun c3 => ?_)
  · refine aw_aload_n dX1_give_8 rfl ?_
    refine aw_iload_n dX1_give_9 rfl ?_
    refine aw_v1vp dX1_give_10 ml_X1_49 im_X1_leave se_X1_leave (c_X1_leave tr ht (by omega) 13) sh_232 (by decide) rfl rfl (Nat.le_of_ble_eq_true rfl) (Nat.le_of_ble_eq_true rfl) (Nat.le_of_ble_eq_true rfl) (Nat.le_of_ble_eq_true rfl) (Nat.le_of_ble_eq_true rfl) (fun μ2 hq => ?_)
    refine aw_iload_n dX1_give_13 rfl ?_
    refine aw_iconst (v := nI 1) dX1_give_14 rfl ?_
    refine aw_iadd dX1_give_15 ?_
    refine aw_top (nI_add _ _) ?_
    refine aw_istore dX1_give_16 (Nat.le_of_ble_eq_true rfl) ?_
    refine aw_iload_n dX1_give_18 rfl ?_
    refine aw_tableIn (tgt := 137) dX1_give_19 (by decide) (by decide) rfl (by decide) ?_
    obtain ⟨t2, f2⟩ := hq
    have hK2 : skyC μ2 27 K := hK.fr (fun b _ _ => f2 b (by omega))
    have g2 := hK2.2.2.2.2 o hoo
    refine aw_aload_n dX1_give_137 rfl ?_
    refine aw_bipush (v := nI 10) dX1_give_138 rfl ?_
    refine aw_iload_n dX1_give_140 rfl ?_
    refine aw_iload dX1_give_141 rfl ?_
    refine aw_v3ip dX1_give_143 ml_X1_25 im_X1_give se_X1_give (g_10 K hK2 ho o hoo _ t2 (by simp; omega) (dp + 1) (by omega)) sh_232 (by decide) rfl rfl (Nat.le_of_ble_eq_true rfl) (Nat.le_of_ble_eq_true rfl) (Nat.le_of_ble_eq_true rfl) (Nat.le_of_ble_eq_true rfl) (Nat.le_of_ble_eq_true rfl) (fun μ3 hq3 => ?_)
    obtain ⟨t3, f3⟩ := hq3
    have hK3 : skyC μ3 27 K := hK2.fr (fun b _ _ => f3 b (by omega))
    have g3 := hK3.2.2.2.2 o hoo
    refine aw_bipush (v := nI 100) dX1_give_146 rfl ?_
    refine aw_isub dX1_give_148 ?_
    refine aw_iret dX1_give_149 rfl rfl rfl rfl ?_
    exact ⟨rfl, rfl, by simpa using t3, (f2).tr (f3)⟩
  · exact absurd (nI_le (by omega) (by omega)) c3
set_option maxRecDepth 100000 in
set_option maxHeartbeats 4000000 in
theorem g_mk {G : am_G} {μ : am_M} (K : pK) (hK : skyC μ 27 K) (ho : pOK K) (o : Nat) (hoo : o < K 5) (hk : K (7 + o) = 1 ∨ K (7 + o) = 2 ∨ K (7 + o) = 3) (tr : List Nat) (ht : trcC μ tr) (hl : tr.length + 3 ≤ 16) (dp : Nat) (hdp : dp + 3 ≤ 20) : am_MA G yX1_give cX1_give 5 (some .int) 3 0 0 [.ref 232, .int (nI (pBody (K (7 + o)) 1)), .int (nI o), .int (nI dp)] am_SH μ (am_P (some (.int (pMk K o))) am_SH (fun μ9 => trcC μ9 (tr ++ pMkT (K (7 + o))) ∧ am_fr μ μ9 232 2)) := by
  rcases (show K (7 + o) = 1 ∨ K (7 + o) = 2 ∨ K (7 + o) = 3 by omega) with e | e | e
  · have e1 : pBody (K (7 + o)) 1 = 21 := by rw [e]; decide
    have e2 : pMk K o = nI o + nI (K (17 + o)) := by simp [pMk, e]
    have e3 : pMkT (K (7 + o)) = [21, 20] := by rw [e]; decide
    rw [e1, e2, e3]
    exact g_21d K hK ho o hoo tr ht (by omega) dp (by omega)
  · have e1 : pBody (K (7 + o)) 1 = 24 := by rw [e]; decide
    have e2 : pMk K o = (nI o + nI (K (17 + o))) * nI 2 := by simp [pMk, e]
    have e3 : pMkT (K (7 + o)) = [24, 21, 20] := by rw [e]; decide
    rw [e1, e2, e3]
    exact g_24 K hK ho o hoo tr ht (by omega) dp (by omega)
  · have e1 : pBody (K (7 + o)) 1 = 22 := by rw [e]; decide
    have e2 : pMk K o = nI o + nI (K (17 + o)) - nI 1000 := by simp [pMk, e]
    have e3 : pMkT (K (7 + o)) = [22, 21, 20] := by rw [e]; decide
    rw [e1, e2, e3]
    exact g_22 K hK ho o hoo tr ht (by omega) dp (by omega)
set_option maxRecDepth 100000 in
set_option maxHeartbeats 4000000 in
theorem g_sz {G : am_G} {μ : am_M} (K : pK) (hK : skyC μ 27 K) (ho : pOK K) (o : Nat) (hoo : o < K 5) (hk : K (7 + o) = 4 ∨ K (7 + o) = 5) (tr : List Nat) (ht : trcC μ tr) (hl : tr.length + 3 ≤ 16) (dp : Nat) (hdp : dp + 3 ≤ 20) : am_MA G yX1_give cX1_give 5 (some .int) 3 0 0 [.ref 232, .int (nI (pBody (K (7 + o)) 0)), .int (nI o), .int (nI dp)] am_SH μ (am_P (some (.int (pSz K o))) am_SH (fun μ9 => trcC μ9 (tr ++ pSzT (K (7 + o))) ∧ am_fr μ μ9 232 2)) := by
  rcases (show K (7 + o) = 4 ∨ K (7 + o) = 5 by omega) with e | e
  · have e1 : pBody (K (7 + o)) 0 = 13 := by rw [e]; decide
    have e2 : pSz K o = nI (K (22 + o)) - nI 100 := by simp [pSz, e]
    have e3 : pSzT (K (7 + o)) = [13, 10] := by rw [e]; decide
    rw [e1, e2, e3]
    exact g_13d K hK ho o hoo tr ht (by omega) dp (by omega)
  · have e1 : pBody (K (7 + o)) 0 = 14 := by rw [e]; decide
    have e2 : pSz K o = (nI (K (22 + o)) - nI 100) * nI 2 := by simp [pSz, e]
    have e3 : pSzT (K (7 + o)) = [14, 13, 10] := by rw [e]; decide
    rw [e1, e2, e3]
    exact g_14 K hK ho o hoo tr ht (by omega) dp (by omega)
set_option maxRecDepth 100000 in
set_option maxHeartbeats 4000000 in
theorem g_11 {G : am_G} {μ : am_M} (K : pK) (hK : skyC μ 27 K) (ho : pOK K) (o : Nat) (hoo : o < K 5) (tr : List Nat) (ht : trcC μ tr) (hl : tr.length + 5 ≤ 16) (dp : Nat) (hdp : dp + 4 ≤ 20) (hk : K (7 + o) = 1 ∨ K (7 + o) = 2 ∨ K (7 + o) = 3) : am_MA G yX1_give cX1_give 5 (some .int) 4 0 0 [.ref 232, .int (nI 11), .int (nI o), .int (nI dp)] am_SH μ (am_P (some (.int (nI (K (22 + o)) + pMk K o))) am_SH (fun μ9 => trcC μ9 (tr ++ ([11, 10] ++ pMkT (K (7 + o)))) ∧ am_fr μ μ9 232 2)) := by
  have g := hK.2.2.2.2 o hoo
  have h5 := ho.1
  have gk := ho.2.2.2.2 o hoo
  have hT : (pMkT (K (7 + o))).length ≤ 3 := by unfold pMkT; (repeat' split) <;> decide
  refine am_ofK (own := RX1) (nm := "give") (L := [some (.ref 232), some (.int (nI 11)), some (.int (nI o)), some (.int (nI dp)), none]) rfl rfl (by decide +kernel) (Nat.le_of_ble_eq_true rfl) rfl ?_
  refine aw_iload_n dX1_give_0 rfl ?_
  refine aw_bipush (v := nI 20) dX1_give_1 rfl ?_
  refine aw_icmp_le (tgt := 8) dX1_give_3 (by decide) (fun c3 => ?_) (fun c3 => ?_)
  · refine aw_aload_n dX1_give_8 rfl ?_
    refine aw_iload_n dX1_give_9 rfl ?_
    refine aw_v1vp dX1_give_10 ml_X1_49 im_X1_leave se_X1_leave (c_X1_leave tr ht (by omega) 11) sh_232 (by decide) rfl rfl (Nat.le_of_ble_eq_true rfl) (Nat.le_of_ble_eq_true rfl) (Nat.le_of_ble_eq_true rfl) (Nat.le_of_ble_eq_true rfl) (Nat.le_of_ble_eq_true rfl) (fun μ2 hq => ?_)
    refine aw_iload_n dX1_give_13 rfl ?_
    refine aw_iconst (v := nI 1) dX1_give_14 rfl ?_
    refine aw_iadd dX1_give_15 ?_
    refine aw_top (nI_add _ _) ?_
    refine aw_istore dX1_give_16 (Nat.le_of_ble_eq_true rfl) ?_
    refine aw_iload_n dX1_give_18 rfl ?_
    refine aw_tableIn (tgt := 102) dX1_give_19 (by decide) (by decide) rfl (by decide) ?_
    obtain ⟨t2, f2⟩ := hq
    have hK2 : skyC μ2 27 K := hK.fr (fun b _ _ => f2 b (by omega))
    have g2 := hK2.2.2.2.2 o hoo
    refine aw_aload_n dX1_give_102 rfl ?_
    refine aw_bipush (v := nI 10) dX1_give_103 rfl ?_
    refine aw_iload_n dX1_give_105 rfl ?_
    refine aw_iload dX1_give_106 rfl ?_
    refine aw_v3ip dX1_give_108 ml_X1_25 im_X1_give se_X1_give (g_10 K hK2 ho o hoo _ t2 (by simp; omega) (dp + 1) (by omega)) sh_232 (by decide) rfl rfl (Nat.le_of_ble_eq_true rfl) (Nat.le_of_ble_eq_true rfl) (Nat.le_of_ble_eq_true rfl) (Nat.le_of_ble_eq_true rfl) (Nat.le_of_ble_eq_true rfl) (fun μ3 hq3 => ?_)
    obtain ⟨t3, f3⟩ := hq3
    have hK3 : skyC μ3 27 K := hK2.fr (fun b _ _ => f3 b (by omega))
    have g3 := hK3.2.2.2.2 o hoo
    refine aw_aload_n dX1_give_111 rfl ?_
    refine aw_aload_n dX1_give_112 rfl ?_
    refine aw_iload_n dX1_give_113 rfl ?_
    refine aw_iconst (v := nI 1) dX1_give_114 rfl ?_
    refine aw_v2i dX1_give_115 ml_X1_21 im_X1_bodyFor se_X1_bodyFor (c_X1_bodyFor K hK3 ho o hoo 1 (by omega)) sh_232 (by decide) rfl rfl (Nat.le_of_ble_eq_true rfl) (Nat.le_of_ble_eq_true rfl) (Nat.le_of_ble_eq_true rfl) (Nat.le_of_ble_eq_true rfl) (Nat.le_of_ble_eq_true rfl) ?_
    refine aw_iload_n dX1_give_118 rfl ?_
    refine aw_iload dX1_give_119 rfl ?_
    refine aw_v3ip dX1_give_121 ml_X1_25 im_X1_give se_X1_give (g_mk K hK3 ho o hoo hk _ t3 (by simp; omega) (dp + 1) (by omega)) sh_232 (by decide) rfl rfl (Nat.le_of_ble_eq_true rfl) (Nat.le_of_ble_eq_true rfl) (Nat.le_of_ble_eq_true rfl) (Nat.le_of_ble_eq_true rfl) (Nat.le_of_ble_eq_true rfl) (fun μ4 hq4 => ?_)
    obtain ⟨t4, f4⟩ := hq4
    have hK4 : skyC μ4 27 K := hK3.fr (fun b _ _ => f4 b (by omega))
    have g4 := hK4.2.2.2.2 o hoo
    refine aw_iadd dX1_give_124 ?_
    refine aw_iret dX1_give_125 rfl rfl rfl rfl ?_
    exact ⟨rfl, rfl, by simpa using t4, ((f2).tr (f3)).tr (f4)⟩
  · exact absurd (nI_le (by omega) (by omega)) c3
set_option maxRecDepth 100000 in
set_option maxHeartbeats 4000000 in
theorem g_12 {G : am_G} {μ : am_M} (K : pK) (hK : skyC μ 27 K) (ho : pOK K) (o : Nat) (hoo : o < K 5) (tr : List Nat) (ht : trcC μ tr) (hl : tr.length + 6 ≤ 16) (dp : Nat) (hdp : dp + 5 ≤ 20) (hk : K (7 + o) = 1 ∨ K (7 + o) = 2 ∨ K (7 + o) = 3) : am_MA G yX1_give cX1_give 5 (some .int) 5 0 0 [.ref 232, .int (nI 12), .int (nI o), .int (nI dp)] am_SH μ (am_P (some (.int (-(nI (K (22 + o)) + pMk K o)))) am_SH (fun μ9 => trcC μ9 (tr ++ ([12, 11, 10] ++ pMkT (K (7 + o)))) ∧ am_fr μ μ9 232 2)) := by
  have g := hK.2.2.2.2 o hoo
  have h5 := ho.1
  have gk := ho.2.2.2.2 o hoo
  have hT : (pMkT (K (7 + o))).length ≤ 3 := by unfold pMkT; (repeat' split) <;> decide
  refine am_ofK (own := RX1) (nm := "give") (L := [some (.ref 232), some (.int (nI 12)), some (.int (nI o)), some (.int (nI dp)), none]) rfl rfl (by decide +kernel) (Nat.le_of_ble_eq_true rfl) rfl ?_
  refine aw_iload_n dX1_give_0 rfl ?_
  refine aw_bipush (v := nI 20) dX1_give_1 rfl ?_
  refine aw_icmp_le (tgt := 8) dX1_give_3 (by decide) (fun c3 => ?_) (fun c3 => ?_)
  · refine aw_aload_n dX1_give_8 rfl ?_
    refine aw_iload_n dX1_give_9 rfl ?_
    refine aw_v1vp dX1_give_10 ml_X1_49 im_X1_leave se_X1_leave (c_X1_leave tr ht (by omega) 12) sh_232 (by decide) rfl rfl (Nat.le_of_ble_eq_true rfl) (Nat.le_of_ble_eq_true rfl) (Nat.le_of_ble_eq_true rfl) (Nat.le_of_ble_eq_true rfl) (Nat.le_of_ble_eq_true rfl) (fun μ2 hq => ?_)
    refine aw_iload_n dX1_give_13 rfl ?_
    refine aw_iconst (v := nI 1) dX1_give_14 rfl ?_
    refine aw_iadd dX1_give_15 ?_
    refine aw_top (nI_add _ _) ?_
    refine aw_istore dX1_give_16 (Nat.le_of_ble_eq_true rfl) ?_
    refine aw_iload_n dX1_give_18 rfl ?_
    refine aw_tableIn (tgt := 126) dX1_give_19 (by decide) (by decide) rfl (by decide) ?_
    obtain ⟨t2, f2⟩ := hq
    have hK2 : skyC μ2 27 K := hK.fr (fun b _ _ => f2 b (by omega))
    have g2 := hK2.2.2.2.2 o hoo
    refine aw_aload_n dX1_give_126 rfl ?_
    refine aw_bipush (v := nI 11) dX1_give_127 rfl ?_
    refine aw_iload_n dX1_give_129 rfl ?_
    refine aw_iload dX1_give_130 rfl ?_
    refine aw_v3ip dX1_give_132 ml_X1_25 im_X1_give se_X1_give (g_11 K hK2 ho o hoo _ t2 (by simp; omega) (dp + 1) (by omega) hk) sh_232 (by decide) rfl rfl (Nat.le_of_ble_eq_true rfl) (Nat.le_of_ble_eq_true rfl) (Nat.le_of_ble_eq_true rfl) (Nat.le_of_ble_eq_true rfl) (Nat.le_of_ble_eq_true rfl) (fun μ3 hq3 => ?_)
    obtain ⟨t3, f3⟩ := hq3
    have hK3 : skyC μ3 27 K := hK2.fr (fun b _ _ => f3 b (by omega))
    have g3 := hK3.2.2.2.2 o hoo
    refine aw_ineg dX1_give_135 ?_
    refine aw_iret dX1_give_136 rfl rfl rfl rfl ?_
    exact ⟨rfl, rfl, by simpa using t3, (f2).tr (f3)⟩
  · exact absurd (nI_le (by omega) (by omega)) c3
set_option maxRecDepth 100000 in
set_option maxHeartbeats 4000000 in
theorem g_23 {G : am_G} {μ : am_M} (K : pK) (hK : skyC μ 27 K) (ho : pOK K) (o : Nat) (hoo : o < K 5) (tr : List Nat) (ht : trcC μ tr) (hl : tr.length + 5 ≤ 16) (dp : Nat) (hdp : dp + 4 ≤ 20) (hk : K (7 + o) = 4 ∨ K (7 + o) = 5) : am_MA G yX1_give cX1_give 5 (some .int) 4 0 0 [.ref 232, .int (nI 23), .int (nI o), .int (nI dp)] am_SH μ (am_P (some (.int (nI o - pSz K o))) am_SH (fun μ9 => trcC μ9 (tr ++ ([23, 20] ++ pSzT (K (7 + o)))) ∧ am_fr μ μ9 232 2)) := by
  have g := hK.2.2.2.2 o hoo
  have h5 := ho.1
  have gk := ho.2.2.2.2 o hoo
  have hT : (pSzT (K (7 + o))).length ≤ 3 := by unfold pSzT; (repeat' split) <;> decide
  refine am_ofK (own := RX1) (nm := "give") (L := [some (.ref 232), some (.int (nI 23)), some (.int (nI o)), some (.int (nI dp)), none]) rfl rfl (by decide +kernel) (Nat.le_of_ble_eq_true rfl) rfl ?_
  refine aw_iload_n dX1_give_0 rfl ?_
  refine aw_bipush (v := nI 20) dX1_give_1 rfl ?_
  refine aw_icmp_le (tgt := 8) dX1_give_3 (by decide) (fun c3 => ?_) (fun c3 => ?_)
  · refine aw_aload_n dX1_give_8 rfl ?_
    refine aw_iload_n dX1_give_9 rfl ?_
    refine aw_v1vp dX1_give_10 ml_X1_49 im_X1_leave se_X1_leave (c_X1_leave tr ht (by omega) 23) sh_232 (by decide) rfl rfl (Nat.le_of_ble_eq_true rfl) (Nat.le_of_ble_eq_true rfl) (Nat.le_of_ble_eq_true rfl) (Nat.le_of_ble_eq_true rfl) (Nat.le_of_ble_eq_true rfl) (fun μ2 hq => ?_)
    refine aw_iload_n dX1_give_13 rfl ?_
    refine aw_iconst (v := nI 1) dX1_give_14 rfl ?_
    refine aw_iadd dX1_give_15 ?_
    refine aw_top (nI_add _ _) ?_
    refine aw_istore dX1_give_16 (Nat.le_of_ble_eq_true rfl) ?_
    refine aw_iload_n dX1_give_18 rfl ?_
    refine aw_tableIn (tgt := 198) dX1_give_19 (by decide) (by decide) rfl (by decide) ?_
    obtain ⟨t2, f2⟩ := hq
    have hK2 : skyC μ2 27 K := hK.fr (fun b _ _ => f2 b (by omega))
    have g2 := hK2.2.2.2.2 o hoo
    refine aw_aload_n dX1_give_198 rfl ?_
    refine aw_bipush (v := nI 20) dX1_give_199 rfl ?_
    refine aw_iload_n dX1_give_201 rfl ?_
    refine aw_iload dX1_give_202 rfl ?_
    refine aw_v3ip dX1_give_204 ml_X1_25 im_X1_give se_X1_give (g_20 K hK2 ho o hoo _ t2 (by simp; omega) (dp + 1) (by omega)) sh_232 (by decide) rfl rfl (Nat.le_of_ble_eq_true rfl) (Nat.le_of_ble_eq_true rfl) (Nat.le_of_ble_eq_true rfl) (Nat.le_of_ble_eq_true rfl) (Nat.le_of_ble_eq_true rfl) (fun μ3 hq3 => ?_)
    obtain ⟨t3, f3⟩ := hq3
    have hK3 : skyC μ3 27 K := hK2.fr (fun b _ _ => f3 b (by omega))
    have g3 := hK3.2.2.2.2 o hoo
    refine aw_aload_n dX1_give_207 rfl ?_
    refine aw_aload_n dX1_give_208 rfl ?_
    refine aw_iload_n dX1_give_209 rfl ?_
    refine aw_iconst (v := nI 0) dX1_give_210 rfl ?_
    refine aw_v2i dX1_give_211 ml_X1_21 im_X1_bodyFor se_X1_bodyFor (c_X1_bodyFor K hK3 ho o hoo 0 (by omega)) sh_232 (by decide) rfl rfl (Nat.le_of_ble_eq_true rfl) (Nat.le_of_ble_eq_true rfl) (Nat.le_of_ble_eq_true rfl) (Nat.le_of_ble_eq_true rfl) (Nat.le_of_ble_eq_true rfl) ?_
    refine aw_iload_n dX1_give_214 rfl ?_
    refine aw_iload dX1_give_215 rfl ?_
    refine aw_v3ip dX1_give_217 ml_X1_25 im_X1_give se_X1_give (g_sz K hK3 ho o hoo hk _ t3 (by simp; omega) (dp + 1) (by omega)) sh_232 (by decide) rfl rfl (Nat.le_of_ble_eq_true rfl) (Nat.le_of_ble_eq_true rfl) (Nat.le_of_ble_eq_true rfl) (Nat.le_of_ble_eq_true rfl) (Nat.le_of_ble_eq_true rfl) (fun μ4 hq4 => ?_)
    obtain ⟨t4, f4⟩ := hq4
    have hK4 : skyC μ4 27 K := hK3.fr (fun b _ _ => f4 b (by omega))
    have g4 := hK4.2.2.2.2 o hoo
    refine aw_isub dX1_give_220 ?_
    refine aw_iret dX1_give_221 rfl rfl rfl rfl ?_
    exact ⟨rfl, rfl, by simpa using t4, ((f2).tr (f3)).tr (f4)⟩
  · exact absurd (nI_le (by omega) (by omega)) c3
/-- an ask of an office: what it gives, and the bodies that begin -/
def pAsk (K : pK) (o w : Nat) : Int32 := if K (7 + o) < 4 then (if w = 1 then pMk K o else if K (7 + o) = 2 then -(nI (K (22 + o)) + pMk K o) else nI (K (22 + o)) + pMk K o) else if w = 0 then pSz K o else nI o - pSz K o
def pAskT (k w : Nat) : List Nat := if k < 4 then (if w = 1 then pMkT k else if k = 2 then [12, 11, 10] ++ pMkT k else [11, 10] ++ pMkT k) else if w = 0 then pSzT k else [23, 20] ++ pSzT k
set_option maxRecDepth 100000 in
set_option maxHeartbeats 4000000 in
theorem c_X1_begin {G : am_G} {μ : am_M} (K : pK) (hK : skyC μ 27 K) (ho : pOK K) (o : Nat) (hoo : o < K 5) (w : Nat) (hw : w < 2) : am_MA G yX1_begin cX1_begin 3 (some .int) 6 0 0 [.ref 232, .int (nI o), .int (nI w)] am_SH μ (am_P (some (.int (pAsk K o w))) am_SH (fun μ9 => trcC μ9 (pAskT (K (7 + o)) w) ∧ am_fr μ μ9 232 2)) := by
  have gk := ho.2.2.2.2 o hoo
  refine am_ofK (own := RX1) (nm := "begin") (L := [some (.ref 232), some (.int (nI o)), some (.int (nI w))]) rfl rfl (by decide +kernel) (Nat.le_of_ble_eq_true rfl) rfl ?_
  rcases (show w = 0 ∨ w = 1 by omega) with rfl | rfl <;> rcases (show K (7 + o) = 1 ∨ K (7 + o) = 2 ∨ K (7 + o) = 3 ∨ K (7 + o) = 4 ∨ K (7 + o) = 5 by omega) with e | e | e | e | e
  · refine aw_aload_n dX1_begin_0 rfl ?_
    refine aw_iconst (v := nI 0) dX1_begin_1 rfl ?_
    refine aw_pi dX1_begin_2 pf_X1_17 rfl rfl sh_232 (by rfl) ?_
    have t1 : trcC (am_up μ 232 (upd (μ 232) 2 (nI 0))) [] := ⟨by rw [am_ups, pk_us]; rfl, by simp, fun i x hi => by simp at hi⟩
    have f1 : am_fr μ (am_up μ 232 (upd (μ 232) 2 (nI 0))) 232 2 := am_fr.rf.up (by omega) (by omega)
    generalize am_up μ 232 (upd (μ 232) 2 (nI 0)) = μ1 at t1 f1 ⊢
    have hK1 : skyC μ1 27 K := hK.fr (fun b _ _ => f1 b (by omega))
    refine aw_aload_n dX1_begin_5 rfl ?_
    refine aw_aload_n dX1_begin_6 rfl ?_
    refine aw_iload_n dX1_begin_7 rfl ?_
    refine aw_iload_n dX1_begin_8 rfl ?_
    refine aw_v2i dX1_begin_9 ml_X1_21 im_X1_bodyFor se_X1_bodyFor (c_X1_bodyFor K hK1 ho o hoo 0 (by omega)) sh_232 (by decide) rfl rfl (Nat.le_of_ble_eq_true rfl) (Nat.le_of_ble_eq_true rfl) (Nat.le_of_ble_eq_true rfl) (Nat.le_of_ble_eq_true rfl) (Nat.le_of_ble_eq_true rfl) ?_
    refine aw_top (show nI (pBody (K (7 + o)) 0) = nI 11 by rw [e]; decide) ?_
    refine aw_iload_n dX1_begin_12 rfl ?_
    refine aw_iconst (v := nI 0) dX1_begin_13 rfl ?_
    refine aw_v3ip dX1_begin_14 ml_X1_25 im_X1_give se_X1_give (g_11 K hK1 ho o hoo [] t1 (by simp) 0 (by omega) (by omega)) sh_232 (by decide) rfl rfl (Nat.le_of_ble_eq_true rfl) (Nat.le_of_ble_eq_true rfl) (Nat.le_of_ble_eq_true rfl) (Nat.le_of_ble_eq_true rfl) (Nat.le_of_ble_eq_true rfl) (fun μ2 hq => ?_)
    refine aw_iret dX1_begin_17 rfl rfl rfl rfl ?_
    have e2 : pAsk K o 0 = nI (K (22 + o)) + pMk K o := by simp [pAsk, pMk, pSz, e]
    have e3 : pAskT (K (7 + o)) 0 = [11, 10] ++ pMkT (K (7 + o)) := by rw [e]; rfl
    rw [e2, e3]
    exact ⟨rfl, rfl, by simpa using hq.1, f1.tr hq.2⟩
  · refine aw_aload_n dX1_begin_0 rfl ?_
    refine aw_iconst (v := nI 0) dX1_begin_1 rfl ?_
    refine aw_pi dX1_begin_2 pf_X1_17 rfl rfl sh_232 (by rfl) ?_
    have t1 : trcC (am_up μ 232 (upd (μ 232) 2 (nI 0))) [] := ⟨by rw [am_ups, pk_us]; rfl, by simp, fun i x hi => by simp at hi⟩
    have f1 : am_fr μ (am_up μ 232 (upd (μ 232) 2 (nI 0))) 232 2 := am_fr.rf.up (by omega) (by omega)
    generalize am_up μ 232 (upd (μ 232) 2 (nI 0)) = μ1 at t1 f1 ⊢
    have hK1 : skyC μ1 27 K := hK.fr (fun b _ _ => f1 b (by omega))
    refine aw_aload_n dX1_begin_5 rfl ?_
    refine aw_aload_n dX1_begin_6 rfl ?_
    refine aw_iload_n dX1_begin_7 rfl ?_
    refine aw_iload_n dX1_begin_8 rfl ?_
    refine aw_v2i dX1_begin_9 ml_X1_21 im_X1_bodyFor se_X1_bodyFor (c_X1_bodyFor K hK1 ho o hoo 0 (by omega)) sh_232 (by decide) rfl rfl (Nat.le_of_ble_eq_true rfl) (Nat.le_of_ble_eq_true rfl) (Nat.le_of_ble_eq_true rfl) (Nat.le_of_ble_eq_true rfl) (Nat.le_of_ble_eq_true rfl) ?_
    refine aw_top (show nI (pBody (K (7 + o)) 0) = nI 12 by rw [e]; decide) ?_
    refine aw_iload_n dX1_begin_12 rfl ?_
    refine aw_iconst (v := nI 0) dX1_begin_13 rfl ?_
    refine aw_v3ip dX1_begin_14 ml_X1_25 im_X1_give se_X1_give (g_12 K hK1 ho o hoo [] t1 (by simp) 0 (by omega) (by omega)) sh_232 (by decide) rfl rfl (Nat.le_of_ble_eq_true rfl) (Nat.le_of_ble_eq_true rfl) (Nat.le_of_ble_eq_true rfl) (Nat.le_of_ble_eq_true rfl) (Nat.le_of_ble_eq_true rfl) (fun μ2 hq => ?_)
    refine aw_iret dX1_begin_17 rfl rfl rfl rfl ?_
    have e2 : pAsk K o 0 = -(nI (K (22 + o)) + pMk K o) := by simp [pAsk, pMk, pSz, e]
    have e3 : pAskT (K (7 + o)) 0 = [12, 11, 10] ++ pMkT (K (7 + o)) := by rw [e]; rfl
    rw [e2, e3]
    exact ⟨rfl, rfl, by simpa using hq.1, f1.tr hq.2⟩
  · refine aw_aload_n dX1_begin_0 rfl ?_
    refine aw_iconst (v := nI 0) dX1_begin_1 rfl ?_
    refine aw_pi dX1_begin_2 pf_X1_17 rfl rfl sh_232 (by rfl) ?_
    have t1 : trcC (am_up μ 232 (upd (μ 232) 2 (nI 0))) [] := ⟨by rw [am_ups, pk_us]; rfl, by simp, fun i x hi => by simp at hi⟩
    have f1 : am_fr μ (am_up μ 232 (upd (μ 232) 2 (nI 0))) 232 2 := am_fr.rf.up (by omega) (by omega)
    generalize am_up μ 232 (upd (μ 232) 2 (nI 0)) = μ1 at t1 f1 ⊢
    have hK1 : skyC μ1 27 K := hK.fr (fun b _ _ => f1 b (by omega))
    refine aw_aload_n dX1_begin_5 rfl ?_
    refine aw_aload_n dX1_begin_6 rfl ?_
    refine aw_iload_n dX1_begin_7 rfl ?_
    refine aw_iload_n dX1_begin_8 rfl ?_
    refine aw_v2i dX1_begin_9 ml_X1_21 im_X1_bodyFor se_X1_bodyFor (c_X1_bodyFor K hK1 ho o hoo 0 (by omega)) sh_232 (by decide) rfl rfl (Nat.le_of_ble_eq_true rfl) (Nat.le_of_ble_eq_true rfl) (Nat.le_of_ble_eq_true rfl) (Nat.le_of_ble_eq_true rfl) (Nat.le_of_ble_eq_true rfl) ?_
    refine aw_top (show nI (pBody (K (7 + o)) 0) = nI 11 by rw [e]; decide) ?_
    refine aw_iload_n dX1_begin_12 rfl ?_
    refine aw_iconst (v := nI 0) dX1_begin_13 rfl ?_
    refine aw_v3ip dX1_begin_14 ml_X1_25 im_X1_give se_X1_give (g_11 K hK1 ho o hoo [] t1 (by simp) 0 (by omega) (by omega)) sh_232 (by decide) rfl rfl (Nat.le_of_ble_eq_true rfl) (Nat.le_of_ble_eq_true rfl) (Nat.le_of_ble_eq_true rfl) (Nat.le_of_ble_eq_true rfl) (Nat.le_of_ble_eq_true rfl) (fun μ2 hq => ?_)
    refine aw_iret dX1_begin_17 rfl rfl rfl rfl ?_
    have e2 : pAsk K o 0 = nI (K (22 + o)) + pMk K o := by simp [pAsk, pMk, pSz, e]
    have e3 : pAskT (K (7 + o)) 0 = [11, 10] ++ pMkT (K (7 + o)) := by rw [e]; rfl
    rw [e2, e3]
    exact ⟨rfl, rfl, by simpa using hq.1, f1.tr hq.2⟩
  · refine aw_aload_n dX1_begin_0 rfl ?_
    refine aw_iconst (v := nI 0) dX1_begin_1 rfl ?_
    refine aw_pi dX1_begin_2 pf_X1_17 rfl rfl sh_232 (by rfl) ?_
    have t1 : trcC (am_up μ 232 (upd (μ 232) 2 (nI 0))) [] := ⟨by rw [am_ups, pk_us]; rfl, by simp, fun i x hi => by simp at hi⟩
    have f1 : am_fr μ (am_up μ 232 (upd (μ 232) 2 (nI 0))) 232 2 := am_fr.rf.up (by omega) (by omega)
    generalize am_up μ 232 (upd (μ 232) 2 (nI 0)) = μ1 at t1 f1 ⊢
    have hK1 : skyC μ1 27 K := hK.fr (fun b _ _ => f1 b (by omega))
    refine aw_aload_n dX1_begin_5 rfl ?_
    refine aw_aload_n dX1_begin_6 rfl ?_
    refine aw_iload_n dX1_begin_7 rfl ?_
    refine aw_iload_n dX1_begin_8 rfl ?_
    refine aw_v2i dX1_begin_9 ml_X1_21 im_X1_bodyFor se_X1_bodyFor (c_X1_bodyFor K hK1 ho o hoo 0 (by omega)) sh_232 (by decide) rfl rfl (Nat.le_of_ble_eq_true rfl) (Nat.le_of_ble_eq_true rfl) (Nat.le_of_ble_eq_true rfl) (Nat.le_of_ble_eq_true rfl) (Nat.le_of_ble_eq_true rfl) ?_
    refine aw_top (show nI (pBody (K (7 + o)) 0) = nI 13 by rw [e]; decide) ?_
    refine aw_iload_n dX1_begin_12 rfl ?_
    refine aw_iconst (v := nI 0) dX1_begin_13 rfl ?_
    refine aw_v3ip dX1_begin_14 ml_X1_25 im_X1_give se_X1_give (g_13 K hK1 ho o hoo [] t1 (by simp) 0 (by omega)) sh_232 (by decide) rfl rfl (Nat.le_of_ble_eq_true rfl) (Nat.le_of_ble_eq_true rfl) (Nat.le_of_ble_eq_true rfl) (Nat.le_of_ble_eq_true rfl) (Nat.le_of_ble_eq_true rfl) (fun μ2 hq => ?_)
    refine aw_iret dX1_begin_17 rfl rfl rfl rfl ?_
    have e2 : pAsk K o 0 = nI (K (22 + o)) - nI 100 := by simp [pAsk, pMk, pSz, e]
    have e3 : pAskT (K (7 + o)) 0 = [13, 10] := by rw [e]; rfl
    rw [e2, e3]
    exact ⟨rfl, rfl, by simpa using hq.1, f1.tr hq.2⟩
  · refine aw_aload_n dX1_begin_0 rfl ?_
    refine aw_iconst (v := nI 0) dX1_begin_1 rfl ?_
    refine aw_pi dX1_begin_2 pf_X1_17 rfl rfl sh_232 (by rfl) ?_
    have t1 : trcC (am_up μ 232 (upd (μ 232) 2 (nI 0))) [] := ⟨by rw [am_ups, pk_us]; rfl, by simp, fun i x hi => by simp at hi⟩
    have f1 : am_fr μ (am_up μ 232 (upd (μ 232) 2 (nI 0))) 232 2 := am_fr.rf.up (by omega) (by omega)
    generalize am_up μ 232 (upd (μ 232) 2 (nI 0)) = μ1 at t1 f1 ⊢
    have hK1 : skyC μ1 27 K := hK.fr (fun b _ _ => f1 b (by omega))
    refine aw_aload_n dX1_begin_5 rfl ?_
    refine aw_aload_n dX1_begin_6 rfl ?_
    refine aw_iload_n dX1_begin_7 rfl ?_
    refine aw_iload_n dX1_begin_8 rfl ?_
    refine aw_v2i dX1_begin_9 ml_X1_21 im_X1_bodyFor se_X1_bodyFor (c_X1_bodyFor K hK1 ho o hoo 0 (by omega)) sh_232 (by decide) rfl rfl (Nat.le_of_ble_eq_true rfl) (Nat.le_of_ble_eq_true rfl) (Nat.le_of_ble_eq_true rfl) (Nat.le_of_ble_eq_true rfl) (Nat.le_of_ble_eq_true rfl) ?_
    refine aw_top (show nI (pBody (K (7 + o)) 0) = nI 14 by rw [e]; decide) ?_
    refine aw_iload_n dX1_begin_12 rfl ?_
    refine aw_iconst (v := nI 0) dX1_begin_13 rfl ?_
    refine aw_v3ip dX1_begin_14 ml_X1_25 im_X1_give se_X1_give (g_14 K hK1 ho o hoo [] t1 (by simp) 0 (by omega)) sh_232 (by decide) rfl rfl (Nat.le_of_ble_eq_true rfl) (Nat.le_of_ble_eq_true rfl) (Nat.le_of_ble_eq_true rfl) (Nat.le_of_ble_eq_true rfl) (Nat.le_of_ble_eq_true rfl) (fun μ2 hq => ?_)
    refine aw_iret dX1_begin_17 rfl rfl rfl rfl ?_
    have e2 : pAsk K o 0 = (nI (K (22 + o)) - nI 100) * nI 2 := by simp [pAsk, pMk, pSz, e]
    have e3 : pAskT (K (7 + o)) 0 = [14, 13, 10] := by rw [e]; rfl
    rw [e2, e3]
    exact ⟨rfl, rfl, by simpa using hq.1, f1.tr hq.2⟩
  · refine aw_aload_n dX1_begin_0 rfl ?_
    refine aw_iconst (v := nI 0) dX1_begin_1 rfl ?_
    refine aw_pi dX1_begin_2 pf_X1_17 rfl rfl sh_232 (by rfl) ?_
    have t1 : trcC (am_up μ 232 (upd (μ 232) 2 (nI 0))) [] := ⟨by rw [am_ups, pk_us]; rfl, by simp, fun i x hi => by simp at hi⟩
    have f1 : am_fr μ (am_up μ 232 (upd (μ 232) 2 (nI 0))) 232 2 := am_fr.rf.up (by omega) (by omega)
    generalize am_up μ 232 (upd (μ 232) 2 (nI 0)) = μ1 at t1 f1 ⊢
    have hK1 : skyC μ1 27 K := hK.fr (fun b _ _ => f1 b (by omega))
    refine aw_aload_n dX1_begin_5 rfl ?_
    refine aw_aload_n dX1_begin_6 rfl ?_
    refine aw_iload_n dX1_begin_7 rfl ?_
    refine aw_iload_n dX1_begin_8 rfl ?_
    refine aw_v2i dX1_begin_9 ml_X1_21 im_X1_bodyFor se_X1_bodyFor (c_X1_bodyFor K hK1 ho o hoo 1 (by omega)) sh_232 (by decide) rfl rfl (Nat.le_of_ble_eq_true rfl) (Nat.le_of_ble_eq_true rfl) (Nat.le_of_ble_eq_true rfl) (Nat.le_of_ble_eq_true rfl) (Nat.le_of_ble_eq_true rfl) ?_
    refine aw_top (show nI (pBody (K (7 + o)) 1) = nI 21 by rw [e]; decide) ?_
    refine aw_iload_n dX1_begin_12 rfl ?_
    refine aw_iconst (v := nI 0) dX1_begin_13 rfl ?_
    refine aw_v3ip dX1_begin_14 ml_X1_25 im_X1_give se_X1_give (g_21 K hK1 ho o hoo [] t1 (by simp) 0 (by omega)) sh_232 (by decide) rfl rfl (Nat.le_of_ble_eq_true rfl) (Nat.le_of_ble_eq_true rfl) (Nat.le_of_ble_eq_true rfl) (Nat.le_of_ble_eq_true rfl) (Nat.le_of_ble_eq_true rfl) (fun μ2 hq => ?_)
    refine aw_iret dX1_begin_17 rfl rfl rfl rfl ?_
    have e2 : pAsk K o 1 = nI o + nI (K (17 + o)) := by simp [pAsk, pMk, pSz, e]
    have e3 : pAskT (K (7 + o)) 1 = [21, 20] := by rw [e]; rfl
    rw [e2, e3]
    exact ⟨rfl, rfl, by simpa using hq.1, f1.tr hq.2⟩
  · refine aw_aload_n dX1_begin_0 rfl ?_
    refine aw_iconst (v := nI 0) dX1_begin_1 rfl ?_
    refine aw_pi dX1_begin_2 pf_X1_17 rfl rfl sh_232 (by rfl) ?_
    have t1 : trcC (am_up μ 232 (upd (μ 232) 2 (nI 0))) [] := ⟨by rw [am_ups, pk_us]; rfl, by simp, fun i x hi => by simp at hi⟩
    have f1 : am_fr μ (am_up μ 232 (upd (μ 232) 2 (nI 0))) 232 2 := am_fr.rf.up (by omega) (by omega)
    generalize am_up μ 232 (upd (μ 232) 2 (nI 0)) = μ1 at t1 f1 ⊢
    have hK1 : skyC μ1 27 K := hK.fr (fun b _ _ => f1 b (by omega))
    refine aw_aload_n dX1_begin_5 rfl ?_
    refine aw_aload_n dX1_begin_6 rfl ?_
    refine aw_iload_n dX1_begin_7 rfl ?_
    refine aw_iload_n dX1_begin_8 rfl ?_
    refine aw_v2i dX1_begin_9 ml_X1_21 im_X1_bodyFor se_X1_bodyFor (c_X1_bodyFor K hK1 ho o hoo 1 (by omega)) sh_232 (by decide) rfl rfl (Nat.le_of_ble_eq_true rfl) (Nat.le_of_ble_eq_true rfl) (Nat.le_of_ble_eq_true rfl) (Nat.le_of_ble_eq_true rfl) (Nat.le_of_ble_eq_true rfl) ?_
    refine aw_top (show nI (pBody (K (7 + o)) 1) = nI 24 by rw [e]; decide) ?_
    refine aw_iload_n dX1_begin_12 rfl ?_
    refine aw_iconst (v := nI 0) dX1_begin_13 rfl ?_
    refine aw_v3ip dX1_begin_14 ml_X1_25 im_X1_give se_X1_give (g_24 K hK1 ho o hoo [] t1 (by simp) 0 (by omega)) sh_232 (by decide) rfl rfl (Nat.le_of_ble_eq_true rfl) (Nat.le_of_ble_eq_true rfl) (Nat.le_of_ble_eq_true rfl) (Nat.le_of_ble_eq_true rfl) (Nat.le_of_ble_eq_true rfl) (fun μ2 hq => ?_)
    refine aw_iret dX1_begin_17 rfl rfl rfl rfl ?_
    have e2 : pAsk K o 1 = (nI o + nI (K (17 + o))) * nI 2 := by simp [pAsk, pMk, pSz, e]
    have e3 : pAskT (K (7 + o)) 1 = [24, 21, 20] := by rw [e]; rfl
    rw [e2, e3]
    exact ⟨rfl, rfl, by simpa using hq.1, f1.tr hq.2⟩
  · refine aw_aload_n dX1_begin_0 rfl ?_
    refine aw_iconst (v := nI 0) dX1_begin_1 rfl ?_
    refine aw_pi dX1_begin_2 pf_X1_17 rfl rfl sh_232 (by rfl) ?_
    have t1 : trcC (am_up μ 232 (upd (μ 232) 2 (nI 0))) [] := ⟨by rw [am_ups, pk_us]; rfl, by simp, fun i x hi => by simp at hi⟩
    have f1 : am_fr μ (am_up μ 232 (upd (μ 232) 2 (nI 0))) 232 2 := am_fr.rf.up (by omega) (by omega)
    generalize am_up μ 232 (upd (μ 232) 2 (nI 0)) = μ1 at t1 f1 ⊢
    have hK1 : skyC μ1 27 K := hK.fr (fun b _ _ => f1 b (by omega))
    refine aw_aload_n dX1_begin_5 rfl ?_
    refine aw_aload_n dX1_begin_6 rfl ?_
    refine aw_iload_n dX1_begin_7 rfl ?_
    refine aw_iload_n dX1_begin_8 rfl ?_
    refine aw_v2i dX1_begin_9 ml_X1_21 im_X1_bodyFor se_X1_bodyFor (c_X1_bodyFor K hK1 ho o hoo 1 (by omega)) sh_232 (by decide) rfl rfl (Nat.le_of_ble_eq_true rfl) (Nat.le_of_ble_eq_true rfl) (Nat.le_of_ble_eq_true rfl) (Nat.le_of_ble_eq_true rfl) (Nat.le_of_ble_eq_true rfl) ?_
    refine aw_top (show nI (pBody (K (7 + o)) 1) = nI 22 by rw [e]; decide) ?_
    refine aw_iload_n dX1_begin_12 rfl ?_
    refine aw_iconst (v := nI 0) dX1_begin_13 rfl ?_
    refine aw_v3ip dX1_begin_14 ml_X1_25 im_X1_give se_X1_give (g_22 K hK1 ho o hoo [] t1 (by simp) 0 (by omega)) sh_232 (by decide) rfl rfl (Nat.le_of_ble_eq_true rfl) (Nat.le_of_ble_eq_true rfl) (Nat.le_of_ble_eq_true rfl) (Nat.le_of_ble_eq_true rfl) (Nat.le_of_ble_eq_true rfl) (fun μ2 hq => ?_)
    refine aw_iret dX1_begin_17 rfl rfl rfl rfl ?_
    have e2 : pAsk K o 1 = nI o + nI (K (17 + o)) - nI 1000 := by simp [pAsk, pMk, pSz, e]
    have e3 : pAskT (K (7 + o)) 1 = [22, 21, 20] := by rw [e]; rfl
    rw [e2, e3]
    exact ⟨rfl, rfl, by simpa using hq.1, f1.tr hq.2⟩
  · refine aw_aload_n dX1_begin_0 rfl ?_
    refine aw_iconst (v := nI 0) dX1_begin_1 rfl ?_
    refine aw_pi dX1_begin_2 pf_X1_17 rfl rfl sh_232 (by rfl) ?_
    have t1 : trcC (am_up μ 232 (upd (μ 232) 2 (nI 0))) [] := ⟨by rw [am_ups, pk_us]; rfl, by simp, fun i x hi => by simp at hi⟩
    have f1 : am_fr μ (am_up μ 232 (upd (μ 232) 2 (nI 0))) 232 2 := am_fr.rf.up (by omega) (by omega)
    generalize am_up μ 232 (upd (μ 232) 2 (nI 0)) = μ1 at t1 f1 ⊢
    have hK1 : skyC μ1 27 K := hK.fr (fun b _ _ => f1 b (by omega))
    refine aw_aload_n dX1_begin_5 rfl ?_
    refine aw_aload_n dX1_begin_6 rfl ?_
    refine aw_iload_n dX1_begin_7 rfl ?_
    refine aw_iload_n dX1_begin_8 rfl ?_
    refine aw_v2i dX1_begin_9 ml_X1_21 im_X1_bodyFor se_X1_bodyFor (c_X1_bodyFor K hK1 ho o hoo 1 (by omega)) sh_232 (by decide) rfl rfl (Nat.le_of_ble_eq_true rfl) (Nat.le_of_ble_eq_true rfl) (Nat.le_of_ble_eq_true rfl) (Nat.le_of_ble_eq_true rfl) (Nat.le_of_ble_eq_true rfl) ?_
    refine aw_top (show nI (pBody (K (7 + o)) 1) = nI 23 by rw [e]; decide) ?_
    refine aw_iload_n dX1_begin_12 rfl ?_
    refine aw_iconst (v := nI 0) dX1_begin_13 rfl ?_
    refine aw_v3ip dX1_begin_14 ml_X1_25 im_X1_give se_X1_give (g_23 K hK1 ho o hoo [] t1 (by simp) 0 (by omega) (by omega)) sh_232 (by decide) rfl rfl (Nat.le_of_ble_eq_true rfl) (Nat.le_of_ble_eq_true rfl) (Nat.le_of_ble_eq_true rfl) (Nat.le_of_ble_eq_true rfl) (Nat.le_of_ble_eq_true rfl) (fun μ2 hq => ?_)
    refine aw_iret dX1_begin_17 rfl rfl rfl rfl ?_
    have e2 : pAsk K o 1 = nI o - pSz K o := by simp [pAsk, pMk, pSz, e]
    have e3 : pAskT (K (7 + o)) 1 = [23, 20] ++ pSzT (K (7 + o)) := by rw [e]; rfl
    rw [e2, e3]
    exact ⟨rfl, rfl, by simpa using hq.1, f1.tr hq.2⟩
  · refine aw_aload_n dX1_begin_0 rfl ?_
    refine aw_iconst (v := nI 0) dX1_begin_1 rfl ?_
    refine aw_pi dX1_begin_2 pf_X1_17 rfl rfl sh_232 (by rfl) ?_
    have t1 : trcC (am_up μ 232 (upd (μ 232) 2 (nI 0))) [] := ⟨by rw [am_ups, pk_us]; rfl, by simp, fun i x hi => by simp at hi⟩
    have f1 : am_fr μ (am_up μ 232 (upd (μ 232) 2 (nI 0))) 232 2 := am_fr.rf.up (by omega) (by omega)
    generalize am_up μ 232 (upd (μ 232) 2 (nI 0)) = μ1 at t1 f1 ⊢
    have hK1 : skyC μ1 27 K := hK.fr (fun b _ _ => f1 b (by omega))
    refine aw_aload_n dX1_begin_5 rfl ?_
    refine aw_aload_n dX1_begin_6 rfl ?_
    refine aw_iload_n dX1_begin_7 rfl ?_
    refine aw_iload_n dX1_begin_8 rfl ?_
    refine aw_v2i dX1_begin_9 ml_X1_21 im_X1_bodyFor se_X1_bodyFor (c_X1_bodyFor K hK1 ho o hoo 1 (by omega)) sh_232 (by decide) rfl rfl (Nat.le_of_ble_eq_true rfl) (Nat.le_of_ble_eq_true rfl) (Nat.le_of_ble_eq_true rfl) (Nat.le_of_ble_eq_true rfl) (Nat.le_of_ble_eq_true rfl) ?_
    refine aw_top (show nI (pBody (K (7 + o)) 1) = nI 23 by rw [e]; decide) ?_
    refine aw_iload_n dX1_begin_12 rfl ?_
    refine aw_iconst (v := nI 0) dX1_begin_13 rfl ?_
    refine aw_v3ip dX1_begin_14 ml_X1_25 im_X1_give se_X1_give (g_23 K hK1 ho o hoo [] t1 (by simp) 0 (by omega) (by omega)) sh_232 (by decide) rfl rfl (Nat.le_of_ble_eq_true rfl) (Nat.le_of_ble_eq_true rfl) (Nat.le_of_ble_eq_true rfl) (Nat.le_of_ble_eq_true rfl) (Nat.le_of_ble_eq_true rfl) (fun μ2 hq => ?_)
    refine aw_iret dX1_begin_17 rfl rfl rfl rfl ?_
    have e2 : pAsk K o 1 = nI o - pSz K o := by simp [pAsk, pMk, pSz, e]
    have e3 : pAskT (K (7 + o)) 1 = [23, 20] ++ pSzT (K (7 + o)) := by rw [e]; rfl
    rw [e2, e3]
    exact ⟨rfl, rfl, by simpa using hq.1, f1.tr hq.2⟩
