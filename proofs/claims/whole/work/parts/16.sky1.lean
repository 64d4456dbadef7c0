set_option maxRecDepth 100000 in
set_option maxHeartbeats 4000000 in
theorem c_X5_bandOf {G : am_G} {sh : List am_S} {μ : am_M} (h : Nat) (hh : h < 2 ^ 31) : am_MA G yX5_bandOf cX5_bandOf 1 (some .int) 0 0 0 [.int (nI h)] sh μ (am_E (some (.int (nI (pBand h)))) sh μ) := by
  refine am_ofK (own := RX5) (nm := "bandOf") (L := [some (.int (nI h))]) rfl rfl (by decide +kernel) (Nat.le_of_ble_eq_true rfl) rfl ?_
  refine aw_iload_n dX5_bandOf_0 rfl ?_
  refine aw_bipush (v := nI 6) dX5_bandOf_1 rfl ?_
  refine aw_icmp_ge (tgt := 8) dX5_bandOf_3 (by decide) (fun c3 => ?_) (fun c3 => ?_)
  · rw [nI_leI (by omega) (by omega)] at c3
    refine aw_iload_n dX5_bandOf_8 rfl ?_
    refine aw_bipush (v := nI 11) dX5_bandOf_9 rfl ?_
    refine aw_icmp_ge (tgt := 16) dX5_bandOf_11 (by decide) (fun c11 => ?_) (fun c11 => ?_)
    · rw [nI_leI (by omega) (by omega)] at c11
      refine aw_iload_n dX5_bandOf_16 rfl ?_
      refine aw_bipush (v := nI 16) dX5_bandOf_17 rfl ?_
      refine aw_icmp_ge (tgt := 26) dX5_bandOf_19 (by decide) (fun c19 => ?_) (fun c19 => ?_)
      · rw [nI_leI (by omega) (by omega)] at c19
        refine aw_iconst (v := nI 3) dX5_bandOf_26 rfl ?_
        refine aw_iret dX5_bandOf_27 rfl rfl rfl rfl ?_
        refine ⟨congrArg (fun z => some (Value.int (nI z))) ?_, rfl, rfl⟩
        unfold pBand; (repeat' split) <;> omega
      · rw [nI_leI (by omega) (by omega)] at c19
        refine aw_iconst (v := nI 2) dX5_bandOf_22 rfl ?_
        refine aw_goto (tgt := 27) dX5_bandOf_23 (by decide) ?_
        refine aw_iret dX5_bandOf_27 rfl rfl rfl rfl ?_
        refine ⟨congrArg (fun z => some (Value.int (nI z))) ?_, rfl, rfl⟩
        unfold pBand; (repeat' split) <;> omega
    · rw [nI_leI (by omega) (by omega)] at c11
      refine aw_iconst (v := nI 1) dX5_bandOf_14 rfl ?_
      refine aw_iret dX5_bandOf_15 rfl rfl rfl rfl ?_
      refine ⟨congrArg (fun z => some (Value.int (nI z))) ?_, rfl, rfl⟩
      unfold pBand; (repeat' split) <;> omega
  · rw [nI_leI (by omega) (by omega)] at c3
    refine aw_iconst (v := nI 0) dX5_bandOf_6 rfl ?_
    refine aw_iret dX5_bandOf_7 rfl rfl rfl rfl ?_
    refine ⟨congrArg (fun z => some (Value.int (nI z))) ?_, rfl, rfl⟩
    unfold pBand; (repeat' split) <;> omega
set_option maxRecDepth 100000 in
set_option maxHeartbeats 4000000 in
theorem c_X5_liftOf {G : am_G} {sh : List am_S} {μ : am_M} (kind h : Nat) (h1 : 1 ≤ kind) (h5 : kind ≤ 5) (hh : h < 2 ^ 31) : am_MA G yX5_liftOf cX5_liftOf 2 (some .int) 0 0 0 [.int (nI kind), .int (nI h)] sh μ (am_E (some (.int (nI (pLift kind h)))) sh μ) := by
  refine am_ofK (own := RX5) (nm := "liftOf") (L := [some (.int (nI kind)), some (.int (nI h))]) rfl rfl (by decide +kernel) (Nat.le_of_ble_eq_true rfl) rfl ?_
  refine aw_iload_n dX5_liftOf_0 rfl ?_
  rcases (show kind = 1 ∨ kind = 2 ∨ kind = 3 ∨ kind = 4 ∨ kind = 5 by omega) with rfl | rfl | rfl | rfl | rfl
  · refine aw_tableIn (tgt := 36) dX5_liftOf_1 (by decide) (by decide) rfl (by decide) ?_
    refine aw_iconst (v := nI 2) dX5_liftOf_36 rfl ?_
    refine aw_iret dX5_liftOf_37 rfl rfl rfl rfl ?_
    refine ⟨congrArg (fun z => some (Value.int (nI z))) ?_, rfl, rfl⟩
    unfold pLift; (repeat' split) <;> omega
  · refine aw_tableIn (tgt := 51) dX5_liftOf_1 (by decide) (by decide) rfl (by decide) ?_
    refine aw_iconst (v := nI 1) dX5_liftOf_51 rfl ?_
    refine aw_iret dX5_liftOf_52 rfl rfl rfl rfl ?_
    refine ⟨congrArg (fun z => some (Value.int (nI z))) ?_, rfl, rfl⟩
    unfold pLift; (repeat' split) <;> omega
  · refine aw_tableIn (tgt := 38) dX5_liftOf_1 (by decide) (by decide) rfl (by decide) ?_
    refine aw_iconst (v := nI 3) dX5_liftOf_38 rfl ?_
    refine aw_iret dX5_liftOf_39 rfl rfl rfl rfl ?_
    refine ⟨congrArg (fun z => some (Value.int (nI z))) ?_, rfl, rfl⟩
    unfold pLift; (repeat' split) <;> omega
  · refine aw_tableIn (tgt := 51) dX5_liftOf_1 (by decide) (by decide) rfl (by decide) ?_
    refine aw_iconst (v := nI 1) dX5_liftOf_51 rfl ?_
    refine aw_iret dX5_liftOf_52 rfl rfl rfl rfl ?_
    refine ⟨congrArg (fun z => some (Value.int (nI z))) ?_, rfl, rfl⟩
    unfold pLift; (repeat' split) <;> omega
  · refine aw_tableIn (tgt := 40) dX5_liftOf_1 (by decide) (by decide) rfl (by decide) ?_
    refine aw_iload_n dX5_liftOf_40 rfl ?_
    refine aw_iconst (v := nI 5) dX5_liftOf_41 rfl ?_
    refine aw_icmp_le (tgt := 49) dX5_liftOf_42 (by decide) (fun c42 => ?_) (fun c42 => ?_)
    · rw [nI_leI (by omega) (by omega)] at c42
      refine aw_iconst (v := nI 1) dX5_liftOf_49 rfl ?_
      refine aw_iret dX5_liftOf_50 rfl rfl rfl rfl ?_
      refine ⟨congrArg (fun z => some (Value.int (nI z))) ?_, rfl, rfl⟩
      unfold pLift; (repeat' split) <;> omega
    · rw [nI_leI (by omega) (by omega)] at c42
      refine aw_iconst (v := nI 0) dX5_liftOf_45 rfl ?_
      refine aw_goto (tgt := 50) dX5_liftOf_46 (by decide) ?_
      refine aw_iret dX5_liftOf_50 rfl rfl rfl rfl ?_
      refine ⟨congrArg (fun z => some (Value.int (nI z))) ?_, rfl, rfl⟩
      unfold pLift; (repeat' split) <;> omega
set_option maxRecDepth 100000 in
set_option maxHeartbeats 4000000 in
theorem c_X5_moved {G : am_G} {sh : List am_S} {μ : am_M} (l w : Nat) (hl : l ≤ 9) (hw : w ≤ 4) {by_ : Int32} (e : by_ = nI w - nI 2) : am_MA G yX5_moved cX5_moved 2 (some .int) 1 0 0 [.int (nI l), .int by_] sh μ (am_E (some (.int (nI (min 9 (l + w - 2))))) sh μ) := by
  subst e
  refine am_ofK (own := RX5) (nm := "moved") (L := [some (.int (nI l)), some (.int (nI w - nI 2))]) rfl rfl (by decide +kernel) (Nat.le_of_ble_eq_true rfl) rfl ?_
  refine aw_iconst (v := nI 0) dX5_moved_0 rfl ?_
  refine aw_bipush (v := nI 9) dX5_moved_1 rfl ?_
  refine aw_iload_n dX5_moved_3 rfl ?_
  refine aw_iload_n dX5_moved_4 rfl ?_
  refine aw_iadd dX5_moved_5 ?_
  refine aw_min dX5_moved_6 lk_X5_70 st_min iw_J9 cw_min (Nat.le_of_ble_eq_true rfl) (Nat.le_of_ble_eq_true rfl) (Nat.le_of_ble_eq_true rfl) (Nat.le_of_ble_eq_true rfl) (Nat.le_of_ble_eq_true rfl) ?_
  refine aw_max dX5_moved_9 lk_X5_56 st_max iw_J9 cw_max (Nat.le_of_ble_eq_true rfl) (Nat.le_of_ble_eq_true rfl) (Nat.le_of_ble_eq_true rfl) (Nat.le_of_ble_eq_true rfl) (Nat.le_of_ble_eq_true rfl) ?_
  refine aw_iret dX5_moved_12 rfl rfl rfl rfl ?_
  exact ⟨congrArg (fun z => some (Value.int z)) (pn_moved l (by omega) w (by omega)), rfl, rfl⟩
set_option maxRecDepth 100000 in
set_option maxHeartbeats 4000000 in
theorem l_X5_lifted {G : am_G} {sh : List am_S} {μ : am_M} {kind h0 n0 : Nat} (h1 : 1 ≤ kind) (h5 : kind ≤ 5) (hn : n0 < 2 ^ 31) : ∀ (r h i : Nat), h ≤ 20 → i + r = n0 → pLifted kind h r = pLifted kind h0 n0 → am_W (am_K G RX5 "lifted" 5 (some .int) 2 0 0 (am_E (some (.int (nI (pLifted kind h0 n0)))) sh μ)) cX5_lifted 5 [some (.int (nI kind)), some (.int (nI h0)), some (.int (nI n0)), some (.int (nI h)), some (.int (nI i))] [] sh μ 0 0 := by
  intro r
  induction r with
  | zero =>
    intro h i hh hi e
    refine aw_iload dX5_lifted_5 rfl ?_
    refine aw_iload_n dX5_lifted_7 rfl ?_
    refine aw_icmp_ge (tgt := 30) dX5_lifted_8 (by decide) (fun c8 => ?_) (fun c8 => ?_)
    · refine aw_iload_n dX5_lifted_30 rfl ?_
      refine aw_iret dX5_lifted_31 rfl rfl rfl rfl ?_
      rw [← e]
      exact ⟨rfl, rfl, rfl⟩
    · exact absurd (nI_le (by omega) (by omega)) c8
  | succ r ih =>
    intro h i hh hi e
    refine aw_iload dX5_lifted_5 rfl ?_
    refine aw_iload_n dX5_lifted_7 rfl ?_
    refine aw_icmp_ge (tgt := 30) dX5_lifted_8 (by decide) (fun c8 => ?_) (fun c8 => ?_)
    · exact absurd c8 (nI_ge (by omega) (by omega))
    · refine aw_bipush (v := nI 20) dX5_lifted_11 rfl ?_
      refine aw_iload_n dX5_lifted_13 rfl ?_
      refine aw_iload_n dX5_lifted_14 rfl ?_
      refine aw_iload_n dX5_lifted_15 rfl ?_
      refine aw_s2i dX5_lifted_16 ml_X5_73 st_X5_liftOf (c_X5_liftOf kind h h1 h5 (by omega)) (Nat.le_of_ble_eq_true rfl) (Nat.le_of_ble_eq_true rfl) (Nat.le_of_ble_eq_true rfl) (Nat.le_of_ble_eq_true rfl) (Nat.le_of_ble_eq_true rfl) ?_
      refine aw_iadd dX5_lifted_19 ?_
      refine aw_min dX5_lifted_20 lk_X5_70 st_min iw_J9 cw_min (Nat.le_of_ble_eq_true rfl) (Nat.le_of_ble_eq_true rfl) (Nat.le_of_ble_eq_true rfl) (Nat.le_of_ble_eq_true rfl) (Nat.le_of_ble_eq_true rfl) ?_
      refine aw_top (pn_lift h (by omega) (pLift kind h) (pLift_lt kind h)) ?_
      refine aw_istore_n dX5_lifted_23 (Nat.le_of_ble_eq_true rfl) ?_
      refine aw_iinc (v := nI (i + 1)) dX5_lifted_24 rfl (nI_1 i) (Nat.le_of_ble_eq_true rfl) ?_
      refine aw_goto (tgt := 5) dX5_lifted_27 (by decide) ?_
      exact ih (min 20 (h + pLift kind h)) (i + 1) (by omega) (by omega) e
set_option maxRecDepth 100000 in
set_option maxHeartbeats 4000000 in
theorem c_X5_lifted {G : am_G} {sh : List am_S} {μ : am_M} (kind h n : Nat) (h1 : 1 ≤ kind) (h5 : kind ≤ 5) (hh : h ≤ 20) (hn : n < 2 ^ 31) : am_MA G yX5_lifted cX5_lifted 5 (some .int) 2 0 0 [.int (nI kind), .int (nI h), .int (nI n)] sh μ (am_E (some (.int (nI (pLifted kind h n)))) sh μ) := by
  refine am_ofK (own := RX5) (nm := "lifted") (L := [some (.int (nI kind)), some (.int (nI h)), some (.int (nI n)), none, none]) rfl rfl (by decide +kernel) (Nat.le_of_ble_eq_true rfl) rfl ?_
  refine aw_iload_n dX5_lifted_0 rfl ?_
  refine aw_istore_n dX5_lifted_1 (Nat.le_of_ble_eq_true rfl) ?_
  refine aw_iconst (v := nI 0) dX5_lifted_2 rfl ?_
  refine aw_istore dX5_lifted_3 (Nat.le_of_ble_eq_true rfl) ?_
  exact l_X5_lifted h1 h5 hn n h 0 hh (by omega) rfl
set_option maxRecDepth 100000 in
set_option maxHeartbeats 4000000 in
theorem c_X5_sunk {G : am_G} {sh : List am_S} {μ : am_M} (a : Nat) (hs : am_sky sh a) (K : pK) (hK : skyC μ a K) (ho : pOK K) (h : Nat) (hh : h ≤ 20) : am_MA G yX5_sunk cX5_sunk 2 (some .int) 1 0 0 [.ref a, .int (nI h)] sh μ (am_E (some (.int (nI (h - K 4)))) sh μ) := by
  obtain ⟨s0, s1, s2, s3, s4, s5, s6⟩ := id hs
  obtain ⟨k0, k1, k2, k3, k4⟩ := id hK
  refine am_ofK (own := RX5) (nm := "sunk") (L := [some (.ref a), some (.int (nI h))]) rfl rfl (by decide +kernel) (Nat.le_of_ble_eq_true rfl) rfl ?_
  refine aw_iconst (v := nI 0) dX5_sunk_0 rfl ?_
  refine aw_iload_n dX5_sunk_1 rfl ?_
  refine aw_aload_n dX5_sunk_2 rfl ?_
  refine aw_gi dX5_sunk_3 gf_X5_32 (by assumption) (by rfl) ?_
  refine aw_top k1 ?_
  refine aw_isub dX5_sunk_6 ?_
  refine aw_max dX5_sunk_7 lk_X5_56 st_max iw_J9 cw_max (Nat.le_of_ble_eq_true rfl) (Nat.le_of_ble_eq_true rfl) (Nat.le_of_ble_eq_true rfl) (Nat.le_of_ble_eq_true rfl) (Nat.le_of_ble_eq_true rfl) ?_
  refine aw_iret dX5_sunk_10 rfl rfl rfl rfl ?_
  exact ⟨congrArg (fun z => some (Value.int z)) (pn_sunk h (by omega) (K 4) (by have := ho.2.1; omega)), rfl, rfl⟩
set_option maxRecDepth 100000 in
set_option maxHeartbeats 4000000 in
theorem c_X5_driftAt {G : am_G} {sh : List am_S} {μ : am_M} (a : Nat) (hs : am_sky sh a) (K : pK) (hK : skyC μ a K) (ho : pOK K) (h : Nat) (hh : h ≤ 20) : am_MA G yX5_driftAt cX5_driftAt 2 (some .int) 1 0 0 [.ref a, .int (nI h)] sh μ (am_E (some (.int (nI (pW K h) - nI 2))) sh μ) := by
  obtain ⟨s0, s1, s2, s3, s4, s5, s6⟩ := id hs
  obtain ⟨k0, k1, k2, k3, k4⟩ := id hK
  refine am_ofK (own := RX5) (nm := "driftAt") (L := [some (.ref a), some (.int (nI h))]) rfl rfl (by decide +kernel) (Nat.le_of_ble_eq_true rfl) rfl ?_
  refine aw_iload_n dX5_driftAt_0 rfl ?_
  refine aw_if_le (tgt := 18) dX5_driftAt_1 (by decide) (fun c1 => ?_) (fun c1 => ?_)
  · rw [z_le (by omega)] at c1
    refine aw_iconst (v := nI 0) dX5_driftAt_18 rfl ?_
    refine aw_iret dX5_driftAt_19 rfl rfl rfl rfl ?_
    exact ⟨by rw [pW, if_pos c1, ← pn_still], rfl, rfl⟩
  · rw [z_le (by omega)] at c1
    refine aw_aload_n dX5_driftAt_4 rfl ?_
    refine aw_gr dX5_driftAt_5 gf_X5_9 (by assumption) (by rfl) ?_
    refine aw_iload_n dX5_driftAt_8 rfl ?_
    refine aw_s1i dX5_driftAt_9 ml_X5_67 st_X5_bandOf (c_X5_bandOf h (by omega)) (Nat.le_of_ble_eq_true rfl) (Nat.le_of_ble_eq_true rfl) (Nat.le_of_ble_eq_true rfl) (Nat.le_of_ble_eq_true rfl) (Nat.le_of_ble_eq_true rfl) ?_
    refine aw_iald dX5_driftAt_12 (by assumption) rfl (pBand_lt h) (by decide) ?_
    refine aw_top (k3 _ (pBand_lt h)) ?_
    refine aw_iconst (v := nI 2) dX5_driftAt_13 rfl ?_
    refine aw_isub dX5_driftAt_14 ?_
    refine aw_goto (tgt := 19) dX5_driftAt_15 (by decide) ?_
    refine aw_iret dX5_driftAt_19 rfl rfl rfl rfl ?_
    exact ⟨by rw [pW, if_neg c1], rfl, rfl⟩
set_option maxRecDepth 100000 in
set_option maxHeartbeats 4000000 in
theorem c_X5_carried {G : am_G} {sh : List am_S} {μ : am_M} (a : Nat) (hs : am_sky sh a) (K : pK) (hK : skyC μ a K) (ho : pOK K) (l h : Nat) (hl : l ≤ 9) (hh : h ≤ 20) : am_MA G yX5_carried cX5_carried 3 (some .int) 2 0 0 [.ref a, .int (nI l), .int (nI h)] sh μ (am_E (some (.int (nI (pCar K l h)))) sh μ) := by
  obtain ⟨s0, s1, s2, s3, s4, s5, s6⟩ := id hs
  obtain ⟨k0, k1, k2, k3, k4⟩ := id hK
  have hw : pW K h ≤ 4 := by unfold pW; split; omega; exact ho.2.2.1 _ (pBand_lt h)
  refine am_ofK (own := RX5) (nm := "carried") (L := [some (.ref a), some (.int (nI l)), some (.int (nI h))]) rfl rfl (by decide +kernel) (Nat.le_of_ble_eq_true rfl) rfl ?_
  refine aw_iload_n dX5_carried_0 rfl ?_
  refine aw_aload_n dX5_carried_1 rfl ?_
  refine aw_iload_n dX5_carried_2 rfl ?_
  refine aw_v1i dX5_carried_3 ml_X5_61 im_X5_driftAt se_X5_driftAt (c_X5_driftAt a hs K hK ho h hh) (by assumption) (by decide) rfl rfl (Nat.le_of_ble_eq_true rfl) (Nat.le_of_ble_eq_true rfl) (Nat.le_of_ble_eq_true rfl) (Nat.le_of_ble_eq_true rfl) (Nat.le_of_ble_eq_true rfl) ?_
  refine aw_s2i dX5_carried_6 ml_X5_64 st_X5_moved (c_X5_moved l (pW K h) hl hw rfl) (Nat.le_of_ble_eq_true rfl) (Nat.le_of_ble_eq_true rfl) (Nat.le_of_ble_eq_true rfl) (Nat.le_of_ble_eq_true rfl) (Nat.le_of_ble_eq_true rfl) ?_
  refine aw_iret dX5_carried_9 rfl rfl rfl rfl ?_
  exact ⟨rfl, rfl, rfl⟩
