/-- a set of offices, as bits -/
def pSet (p : Nat → Bool) : Nat → Nat
  | 0 => 0
  | n + 1 => if p n then pSet p n + 2 ^ n else pSet p n
theorem pSet_lt (p : Nat → Bool) : ∀ n, pSet p n < 2 ^ n
  | 0 => by simp [pSet]
  | n + 1 => by
    have := pSet_lt p n
    unfold pSet
    rw [Nat.pow_succ]
    split <;> omega
theorem pn_or : ∀ o, o < 5 → ∀ v, v < 2 ^ o → nI v ||| (nI 1 <<< (nI o &&& 31)) = nI (v + 2 ^ o) := by decide +kernel
def pSum (K : pK) (b : Nat) : Nat → Nat
  | 0 => 0
  | n + 1 => pSum K b n + K (b + n)
def pCnt (v : Nat) : Nat := v % 2 + v / 2 % 2 + v / 4 % 2 + v / 8 % 2 + v / 16 % 2
def pAdd (K : pK) (kind land height files : Nat) : pK := fun j => if j = 5 then K 5 + 1 else if j = 7 + K 5 then kind else if j = 12 + K 5 then land else if j = 17 + K 5 then height else if j = 22 + K 5 then files else if j = 27 + K 5 then 0 else K j
set_option maxRecDepth 100000 in
set_option maxHeartbeats 4000000 in
theorem l_X5_officesIn {G : am_G} {sh : List am_S} {μ : am_M} (a : Nat) (hs : am_sky sh a) (K : pK) (hK : skyC μ a K) (ho : pOK K) (l : Nat) (hl : l ≤ 9) : ∀ (r i : Nat), i + r = K 5 → am_W (am_K G RX5 "officesIn" 4 (some .int) 0 0 0 (am_E (some (.int (nI (pSet (fun o => decide (K (12 + o) = l)) (K 5))))) sh μ)) cX5_officesIn 4 [some (.ref a), some (.int (nI l)), some (.int (nI (pSet (fun o => decide (K (12 + o) = l)) i))), some (.int (nI i))] [] sh μ 0 0 := by
  obtain ⟨s0, s1, s2, s3, s4, s5, s6⟩ := id hs
  obtain ⟨k0, k1, k2, k3, k4⟩ := id hK
  have h5 := ho.1
  intro r
  induction r with
  | zero =>
    intro i hi
    refine aw_iload_n dX5_officesIn_4 rfl ?_
    refine aw_aload_n dX5_officesIn_5 rfl ?_
    refine aw_gi dX5_officesIn_6 gf_X5_28 (by assumption) (by rfl) ?_
    refine aw_top k0 ?_
    refine aw_icmp_ge (tgt := 34) dX5_officesIn_9 (by decide) (fun c9 => ?_) (fun c9 => ?_)
    · refine aw_iload_n dX5_officesIn_34 rfl ?_
      refine aw_iret dX5_officesIn_35 rfl rfl rfl rfl ?_
      have e : i = K 5 := by omega
      subst e
      exact ⟨rfl, rfl, rfl⟩
    · exact absurd (nI_le (by omega) (by omega)) c9
  | succ r ih =>
    intro i hi
    have hi5 : i < K 5 := by omega
    have g := k4 i hi5
    have gk := ho.2.2.2.2 i hi5
    refine aw_iload_n dX5_officesIn_4 rfl ?_
    refine aw_aload_n dX5_officesIn_5 rfl ?_
    refine aw_gi dX5_officesIn_6 gf_X5_28 (by assumption) (by rfl) ?_
    refine aw_top k0 ?_
    refine aw_icmp_ge (tgt := 34) dX5_officesIn_9 (by decide) (fun c9 => ?_) (fun c9 => ?_)
    · exact absurd c9 (nI_ge (by omega) (by omega))
    · refine aw_aload_n dX5_officesIn_12 rfl ?_
      refine aw_gr dX5_officesIn_13 gf_X5_16 (by assumption) (by rfl) ?_
      refine aw_iload_n dX5_officesIn_16 rfl ?_
      refine aw_iald dX5_officesIn_17 (by assumption) rfl (by omega) (by decide) ?_
      refine aw_top g.2.1 ?_
      refine aw_iload_n dX5_officesIn_18 rfl ?_
      refine aw_icmp_ne (tgt := 28) dX5_officesIn_19 (by decide) (fun c19 => ?_) (fun c19 => ?_)
      · rw [nI_eq (by omega) (by omega)] at c19
        have e1 : pSet (fun o => decide (K (12 + o) = l)) (i + 1) = pSet (fun o => decide (K (12 + o) = l)) i := by show (if _ then _ else _) = _; rw [if_neg (by simpa using c19)]
        rw [← e1]
        refine aw_iinc (v := nI (i + 1)) dX5_officesIn_28 rfl (nI_1 i) (Nat.le_of_ble_eq_true rfl) ?_
        refine aw_goto (tgt := 4) dX5_officesIn_31 (by decide) ?_
        exact ih (i + 1) (by omega)
      · rw [nI_eq (by omega) (by omega)] at c19
        have e1 : pSet (fun o => decide (K (12 + o) = l)) (i + 1) = pSet (fun o => decide (K (12 + o) = l)) i + 2 ^ i := by show (if _ then _ else _) = _; rw [if_pos (by simpa using c19)]
        refine aw_iload_n dX5_officesIn_22 rfl ?_
        refine aw_iconst (v := nI 1) dX5_officesIn_23 rfl ?_
        refine aw_iload_n dX5_officesIn_24 rfl ?_
        refine aw_ishl dX5_officesIn_25 ?_
        refine aw_ior dX5_officesIn_26 ?_
        refine aw_top ((pn_or i (by omega) _ (pSet_lt _ i)).trans (congrArg nI e1.symm)) ?_
        refine aw_istore_n dX5_officesIn_27 (Nat.le_of_ble_eq_true rfl) ?_
        refine aw_iinc (v := nI (i + 1)) dX5_officesIn_28 rfl (nI_1 i) (Nat.le_of_ble_eq_true rfl) ?_
        refine aw_goto (tgt := 4) dX5_officesIn_31 (by decide) ?_
        exact ih (i + 1) (by omega)
set_option maxRecDepth 100000 in
set_option maxHeartbeats 4000000 in
theorem c_X5_officesIn {G : am_G} {sh : List am_S} {μ : am_M} (a : Nat) (hs : am_sky sh a) (K : pK) (hK : skyC μ a K) (ho : pOK K) (l : Nat) (hl : l ≤ 9) : am_MA G yX5_officesIn cX5_officesIn 4 (some .int) 0 0 0 [.ref a, .int (nI l)] sh μ (am_E (some (.int (nI (pSet (fun o => decide (K (12 + o) = l)) (K 5))))) sh μ) := by
  refine am_ofK (own := RX5) (nm := "officesIn") (L := [some (.ref a), some (.int (nI l)), none, none]) rfl rfl (by decide +kernel) (Nat.le_of_ble_eq_true rfl) rfl ?_
  refine aw_iconst (v := nI 0) dX5_officesIn_0 rfl ?_
  refine aw_istore_n dX5_officesIn_1 (Nat.le_of_ble_eq_true rfl) ?_
  refine aw_iconst (v := nI 0) dX5_officesIn_2 rfl ?_
  refine aw_istore_n dX5_officesIn_3 (Nat.le_of_ble_eq_true rfl) ?_
  exact l_X5_officesIn a hs K hK ho l hl (K 5) 0 (by omega)
set_option maxRecDepth 100000 in
set_option maxHeartbeats 4000000 in
theorem l_X5_floating {G : am_G} {sh : List am_S} {μ : am_M} (a : Nat) (hs : am_sky sh a) (K : pK) (hK : skyC μ a K) (ho : pOK K) : ∀ (r i : Nat), i + r = K 5 → am_W (am_K G RX5 "floating" 3 (some .int) 0 0 0 (am_E (some (.int (nI (pSet (fun o => decide (0 < K (17 + o))) (K 5))))) sh μ)) cX5_floating 4 [some (.ref a), some (.int (nI (pSet (fun o => decide (0 < K (17 + o))) i))), some (.int (nI i))] [] sh μ 0 0 := by
  obtain ⟨s0, s1, s2, s3, s4, s5, s6⟩ := id hs
  obtain ⟨k0, k1, k2, k3, k4⟩ := id hK
  have h5 := ho.1
  intro r
  induction r with
  | zero =>
    intro i hi
    refine aw_iload_n dX5_floating_4 rfl ?_
    refine aw_aload_n dX5_floating_5 rfl ?_
    refine aw_gi dX5_floating_6 gf_X5_28 (by assumption) (by rfl) ?_
    refine aw_top k0 ?_
    refine aw_icmp_ge (tgt := 33) dX5_floating_9 (by decide) (fun c9 => ?_) (fun c9 => ?_)
    · refine aw_iload_n dX5_floating_33 rfl ?_
      refine aw_iret dX5_floating_34 rfl rfl rfl rfl ?_
      have e : i = K 5 := by omega
      subst e
      exact ⟨rfl, rfl, rfl⟩
    · exact absurd (nI_le (by omega) (by omega)) c9
  | succ r ih =>
    intro i hi
    have hi5 : i < K 5 := by omega
    have g := k4 i hi5
    have gk := ho.2.2.2.2 i hi5
    refine aw_iload_n dX5_floating_4 rfl ?_
    refine aw_aload_n dX5_floating_5 rfl ?_
    refine aw_gi dX5_floating_6 gf_X5_28 (by assumption) (by rfl) ?_
    refine aw_top k0 ?_
    refine aw_icmp_ge (tgt := 33) dX5_floating_9 (by decide) (fun c9 => ?_) (fun c9 => ?_)
    · exact absurd c9 (nI_ge (by omega) (by omega))
    · refine aw_aload_n dX5_floating_12 rfl ?_
      refine aw_gr dX5_floating_13 gf_X5_19 (by assumption) (by rfl) ?_
      refine aw_iload_n dX5_floating_16 rfl ?_
      refine aw_iald dX5_floating_17 (by assumption) rfl (by omega) (by decide) ?_
      refine aw_top g.2.2.1 ?_
      refine aw_if_le (tgt := 27) dX5_floating_18 (by decide) (fun c18 => ?_) (fun c18 => ?_)
      · rw [z_le (by omega)] at c18
        have e1 : pSet (fun o => decide (0 < K (17 + o))) (i + 1) = pSet (fun o => decide (0 < K (17 + o))) i := by show (if _ then _ else _) = _; rw [if_neg (by simp; omega)]
        rw [← e1]
        refine aw_iinc (v := nI (i + 1)) dX5_floating_27 rfl (nI_1 i) (Nat.le_of_ble_eq_true rfl) ?_
        refine aw_goto (tgt := 4) dX5_floating_30 (by decide) ?_
        exact ih (i + 1) (by omega)
      · rw [z_le (by omega)] at c18
        have e1 : pSet (fun o => decide (0 < K (17 + o))) (i + 1) = pSet (fun o => decide (0 < K (17 + o))) i + 2 ^ i := by show (if _ then _ else _) = _; rw [if_pos (by simp; omega)]
        refine aw_iload_n dX5_floating_21 rfl ?_
        refine aw_iconst (v := nI 1) dX5_floating_22 rfl ?_
        refine aw_iload_n dX5_floating_23 rfl ?_
        refine aw_ishl dX5_floating_24 ?_
        refine aw_ior dX5_floating_25 ?_
        refine aw_top ((pn_or i (by omega) _ (pSet_lt _ i)).trans (congrArg nI e1.symm)) ?_
        refine aw_istore_n dX5_floating_26 (Nat.le_of_ble_eq_true rfl) ?_
        refine aw_iinc (v := nI (i + 1)) dX5_floating_27 rfl (nI_1 i) (Nat.le_of_ble_eq_true rfl) ?_
        refine aw_goto (tgt := 4) dX5_floating_30 (by decide) ?_
        exact ih (i + 1) (by omega)
set_option maxRecDepth 100000 in
set_option maxHeartbeats 4000000 in
theorem c_X5_floating {G : am_G} {sh : List am_S} {μ : am_M} (a : Nat) (hs : am_sky sh a) (K : pK) (hK : skyC μ a K) (ho : pOK K) : am_MA G yX5_floating cX5_floating 3 (some .int) 0 0 0 [.ref a] sh μ (am_E (some (.int (nI (pSet (fun o => decide (0 < K (17 + o))) (K 5))))) sh μ) := by
  refine am_ofK (own := RX5) (nm := "floating") (L := [some (.ref a), none, none]) rfl rfl (by decide +kernel) (Nat.le_of_ble_eq_true rfl) rfl ?_
  refine aw_iconst (v := nI 0) dX5_floating_0 rfl ?_
  refine aw_istore_n dX5_floating_1 (Nat.le_of_ble_eq_true rfl) ?_
  refine aw_iconst (v := nI 0) dX5_floating_2 rfl ?_
  refine aw_istore_n dX5_floating_3 (Nat.le_of_ble_eq_true rfl) ?_
  exact l_X5_floating a hs K hK ho (K 5) 0 (by omega)
set_option maxRecDepth 100000 in
set_option maxHeartbeats 4000000 in
theorem l_X5_allBurnt {G : am_G} {sh : List am_S} {μ : am_M} (a : Nat) (hs : am_sky sh a) (K : pK) (hK : skyC μ a K) (ho : pOK K) : ∀ (r i : Nat), i + r = K 5 → am_W (am_K G RX5 "allBurnt" 3 (some .int) 0 0 0 (am_E (some (.int (nI (pSum K 27 (K 5))))) sh μ)) cX5_allBurnt 4 [some (.ref a), some (.int (nI (pSum K 27 i))), some (.int (nI i))] [] sh μ 0 0 := by
  obtain ⟨s0, s1, s2, s3, s4, s5, s6⟩ := id hs
  obtain ⟨k0, k1, k2, k3, k4⟩ := id hK
  have h5 := ho.1
  intro r
  induction r with
  | zero =>
    intro i hi
    refine aw_iload_n dX5_allBurnt_4 rfl ?_
    refine aw_aload_n dX5_allBurnt_5 rfl ?_
    refine aw_gi dX5_allBurnt_6 gf_X5_28 (by assumption) (by rfl) ?_
    refine aw_top k0 ?_
    refine aw_icmp_ge (tgt := 27) dX5_allBurnt_9 (by decide) (fun c9 => ?_) (fun c9 => ?_)
    · refine aw_iload_n dX5_allBurnt_27 rfl ?_
      refine aw_iret dX5_allBurnt_28 rfl rfl rfl rfl ?_
      have e : i = K 5 := by omega
      subst e
      exact ⟨rfl, rfl, rfl⟩
    · exact absurd (nI_le (by omega) (by omega)) c9
  | succ r ih =>
    intro i hi
    have hi5 : i < K 5 := by omega
    have g := k4 i hi5
    refine aw_iload_n dX5_allBurnt_4 rfl ?_
    refine aw_aload_n dX5_allBurnt_5 rfl ?_
    refine aw_gi dX5_allBurnt_6 gf_X5_28 (by assumption) (by rfl) ?_
    refine aw_top k0 ?_
    refine aw_icmp_ge (tgt := 27) dX5_allBurnt_9 (by decide) (fun c9 => ?_) (fun c9 => ?_)
    · exact absurd c9 (nI_ge (by omega) (by omega))
    · refine aw_iload_n dX5_allBurnt_12 rfl ?_
      refine aw_aload_n dX5_allBurnt_13 rfl ?_
      refine aw_gr dX5_allBurnt_14 gf_X5_25 (by assumption) (by rfl) ?_
      refine aw_iload_n dX5_allBurnt_17 rfl ?_
      refine aw_iald dX5_allBurnt_18 (by assumption) rfl (by omega) (by decide) ?_
      refine aw_top g.2.2.2.2 ?_
      refine aw_iadd dX5_allBurnt_19 ?_
      refine aw_top (nI_add _ _) ?_
      refine aw_istore_n dX5_allBurnt_20 (Nat.le_of_ble_eq_true rfl) ?_
      refine aw_iinc (v := nI (i + 1)) dX5_allBurnt_21 rfl (nI_1 i) (Nat.le_of_ble_eq_true rfl) ?_
      refine aw_goto (tgt := 4) dX5_allBurnt_24 (by decide) ?_
      exact ih (i + 1) (by omega)
set_option maxRecDepth 100000 in
set_option maxHeartbeats 4000000 in
theorem c_X5_allBurnt {G : am_G} {sh : List am_S} {μ : am_M} (a : Nat) (hs : am_sky sh a) (K : pK) (hK : skyC μ a K) (ho : pOK K) : am_MA G yX5_allBurnt cX5_allBurnt 3 (some .int) 0 0 0 [.ref a] sh μ (am_E (some (.int (nI (pSum K 27 (K 5))))) sh μ) := by
  refine am_ofK (own := RX5) (nm := "allBurnt") (L := [some (.ref a), none, none]) rfl rfl (by decide +kernel) (Nat.le_of_ble_eq_true rfl) rfl ?_
  refine aw_iconst (v := nI 0) dX5_allBurnt_0 rfl ?_
  refine aw_istore_n dX5_allBurnt_1 (Nat.le_of_ble_eq_true rfl) ?_
  refine aw_iconst (v := nI 0) dX5_allBurnt_2 rfl ?_
  refine aw_istore_n dX5_allBurnt_3 (Nat.le_of_ble_eq_true rfl) ?_
  exact l_X5_allBurnt a hs K hK ho (K 5) 0 (by omega)
set_option maxRecDepth 100000 in
set_option maxHeartbeats 4000000 in
theorem l_X5_landsAdded {G : am_G} {sh : List am_S} {μ : am_M} (a : Nat) (hs : am_sky sh a) (K : pK) (hK : skyC μ a K) (ho : pOK K) : ∀ (r i : Nat), i + r = K 5 → am_W (am_K G RX5 "landsAdded" 3 (some .int) 0 0 0 (am_E (some (.int (nI (pSum K 12 (K 5))))) sh μ)) cX5_landsAdded 4 [some (.ref a), some (.int (nI (pSum K 12 i))), some (.int (nI i))] [] sh μ 0 0 := by
  obtain ⟨s0, s1, s2, s3, s4, s5, s6⟩ := id hs
  obtain ⟨k0, k1, k2, k3, k4⟩ := id hK
  have h5 := ho.1
  intro r
  induction r with
  | zero =>
    intro i hi
    refine aw_iload_n dX5_landsAdded_4 rfl ?_
    refine aw_aload_n dX5_landsAdded_5 rfl ?_
    refine aw_gi dX5_landsAdded_6 gf_X5_28 (by assumption) (by rfl) ?_
    refine aw_top k0 ?_
    refine aw_icmp_ge (tgt := 27) dX5_landsAdded_9 (by decide) (fun c9 => ?_) (fun c9 => ?_)
    · refine aw_iload_n dX5_landsAdded_27 rfl ?_
      refine aw_iret dX5_landsAdded_28 rfl rfl rfl rfl ?_
      have e : i = K 5 := by omega
      subst e
      exact ⟨rfl, rfl, rfl⟩
    · exact absurd (nI_le (by omega) (by omega)) c9
  | succ r ih =>
    intro i hi
    have hi5 : i < K 5 := by omega
    have g := k4 i hi5
    refine aw_iload_n dX5_landsAdded_4 rfl ?_
    refine aw_aload_n dX5_landsAdded_5 rfl ?_
    refine aw_gi dX5_landsAdded_6 gf_X5_28 (by assumption) (by rfl) ?_
    refine aw_top k0 ?_
    refine aw_icmp_ge (tgt := 27) dX5_landsAdded_9 (by decide) (fun c9 => ?_) (fun c9 => ?_)
    · exact absurd c9 (nI_ge (by omega) (by omega))
    · refine aw_iload_n dX5_landsAdded_12 rfl ?_
      refine aw_aload_n dX5_landsAdded_13 rfl ?_
      refine aw_gr dX5_landsAdded_14 gf_X5_16 (by assumption) (by rfl) ?_
      refine aw_iload_n dX5_landsAdded_17 rfl ?_
      refine aw_iald dX5_landsAdded_18 (by assumption) rfl (by omega) (by decide) ?_
      refine aw_top g.2.1 ?_
      refine aw_iadd dX5_landsAdded_19 ?_
      refine aw_top (nI_add _ _) ?_
      refine aw_istore_n dX5_landsAdded_20 (Nat.le_of_ble_eq_true rfl) ?_
      refine aw_iinc (v := nI (i + 1)) dX5_landsAdded_21 rfl (nI_1 i) (Nat.le_of_ble_eq_true rfl) ?_
      refine aw_goto (tgt := 4) dX5_landsAdded_24 (by decide) ?_
      exact ih (i + 1) (by omega)
set_option maxRecDepth 100000 in
set_option maxHeartbeats 4000000 in
theorem c_X5_landsAdded {G : am_G} {sh : List am_S} {μ : am_M} (a : Nat) (hs : am_sky sh a) (K : pK) (hK : skyC μ a K) (ho : pOK K) : am_MA G yX5_landsAdded cX5_landsAdded 3 (some .int) 0 0 0 [.ref a] sh μ (am_E (some (.int (nI (pSum K 12 (K 5))))) sh μ) := by
  refine am_ofK (own := RX5) (nm := "landsAdded") (L := [some (.ref a), none, none]) rfl rfl (by decide +kernel) (Nat.le_of_ble_eq_true rfl) rfl ?_
  refine aw_iconst (v := nI 0) dX5_landsAdded_0 rfl ?_
  refine aw_istore_n dX5_landsAdded_1 (Nat.le_of_ble_eq_true rfl) ?_
  refine aw_iconst (v := nI 0) dX5_landsAdded_2 rfl ?_
  refine aw_istore_n dX5_landsAdded_3 (Nat.le_of_ble_eq_true rfl) ?_
  exact l_X5_landsAdded a hs K hK ho (K 5) 0 (by omega)
set_option maxRecDepth 100000 in
set_option maxHeartbeats 4000000 in
theorem c_X5_begin {G : am_G} {sh : List am_S} {μ : am_M} (a : Nat) (hs : am_sky sh a) : am_MA G yX5_begin cX5_begin 1 none 0 0 0 [.ref a] sh μ (am_P none sh (fun μ9 => μ9 a 0 = nI 0 ∧ μ9 a 1 = nI 0 ∧ μ9 a 2 = nI 0 ∧ am_fr μ μ9 a 1)) := by
  obtain ⟨s0, s1, s2, s3, s4, s5, s6⟩ := id hs
  refine am_ofK (own := RX5) (nm := "begin") (L := [some (.ref a)]) rfl rfl (by decide +kernel) (Nat.le_of_ble_eq_true rfl) rfl ?_
  refine aw_aload_n dX5_begin_0 rfl ?_
  refine aw_iconst (v := nI 0) dX5_begin_1 rfl ?_
  refine aw_pi dX5_begin_2 pf_X5_28 rfl rfl (by assumption) (by rfl) ?_
  refine aw_aload_n dX5_begin_5 rfl ?_
  refine aw_iconst (v := nI 0) dX5_begin_6 rfl ?_
  refine aw_pi dX5_begin_7 pf_X5_32 rfl rfl (by assumption) (by rfl) ?_
  refine aw_aload_n dX5_begin_10 rfl ?_
  refine aw_iconst (v := nI 0) dX5_begin_11 rfl ?_
  refine aw_pi dX5_begin_12 pf_X5_35 rfl rfl (by assumption) (by rfl) ?_
  refine aw_vret dX5_begin_15 rfl rfl rfl ?_
  exact ⟨rfl, rfl, by rw [am_ups, pk_un (by decide), am_ups, pk_un (by decide), am_ups, pk_us], by rw [am_ups, pk_un (by decide), am_ups, pk_us], by rw [am_ups, pk_us], ((am_fr.rf.up (by omega) (by omega)).up (by omega) (by omega)).up (by omega) (by omega)⟩
set_option maxRecDepth 100000 in
set_option maxHeartbeats 4000000 in
theorem c_X5_addOffice {G : am_G} {sh : List am_S} {μ : am_M} (a : Nat) (hs : am_sky sh a) (K : pK) (hK : skyC μ a K) (h5 : K 5 < 5) (kind l h f : Nat) : am_MA G yX5_addOffice cX5_addOffice 5 none 0 0 0 [.ref a, .int (nI kind), .int (nI l), .int (nI h), .int (nI f)] sh μ (am_P none sh (fun μ9 => skyC μ9 a (pAdd K kind l h f) ∧ am_fr μ μ9 a 7)) := by
  obtain ⟨s0, s1, s2, s3, s4, s5, s6⟩ := id hs
  obtain ⟨k0, k1, k2, k3, k4⟩ := id hK
  refine am_ofK (own := RX5) (nm := "addOffice") (L := [some (.ref a), some (.int (nI kind)), some (.int (nI l)), some (.int (nI h)), some (.int (nI f))]) rfl rfl (by decide +kernel) (Nat.le_of_ble_eq_true rfl) rfl ?_
  refine aw_aload_n dX5_addOffice_0 rfl ?_
  refine aw_gi dX5_addOffice_1 gf_X5_28 (by assumption) (by rfl) ?_
  refine aw_top k0 ?_
  refine aw_iconst (v := nI 5) dX5_addOffice_4 rfl ?_
  refine aw_icmp_lt (tgt := 9) dX5_addOffice_5 (by decide) (fun c5 => ?_) (fun c5 => ?_)
  · refine aw_aload_n dX5_addOffice_9 rfl ?_
    refine aw_gr dX5_addOffice_10 gf_X5_13 (by assumption) (by rfl) ?_
    refine aw_aload_n dX5_addOffice_13 rfl ?_
    refine aw_gi dX5_addOffice_14 gf_X5_28 (by assumption) (by rfl) ?_
    refine aw_top k0 ?_
    refine aw_iload_n dX5_addOffice_17 rfl ?_
    refine aw_iast dX5_addOffice_18 (by assumption) rfl (by omega) (by decide) ?_
    refine aw_aload_n dX5_addOffice_19 rfl ?_
    refine aw_gr dX5_addOffice_20 gf_X5_16 (by assumption) (by rfl) ?_
    refine aw_aload_n dX5_addOffice_23 rfl ?_
    refine aw_gi dX5_addOffice_24 gf_X5_28 (by assumption) (by rfl) ?_
    refine aw_top (show _ = nI (K 5) by rw [am_upn (by omega)]; exact k0) ?_
    refine aw_iload_n dX5_addOffice_27 rfl ?_
    refine aw_iast dX5_addOffice_28 (by assumption) rfl (by omega) (by decide) ?_
    refine aw_aload_n dX5_addOffice_29 rfl ?_
    refine aw_gr dX5_addOffice_30 gf_X5_19 (by assumption) (by rfl) ?_
    refine aw_aload_n dX5_addOffice_33 rfl ?_
    refine aw_gi dX5_addOffice_34 gf_X5_28 (by assumption) (by rfl) ?_
    refine aw_top (show _ = nI (K 5) by rw [am_upn (by omega), am_upn (by omega)]; exact k0) ?_
    refine aw_iload_n dX5_addOffice_37 rfl ?_
    refine aw_iast dX5_addOffice_38 (by assumption) rfl (by omega) (by decide) ?_
    refine aw_aload_n dX5_addOffice_39 rfl ?_
    refine aw_gr dX5_addOffice_40 gf_X5_22 (by assumption) (by rfl) ?_
    refine aw_aload_n dX5_addOffice_43 rfl ?_
    refine aw_gi dX5_addOffice_44 gf_X5_28 (by assumption) (by rfl) ?_
    refine aw_top (show _ = nI (K 5) by rw [am_upn (by omega), am_upn (by omega), am_upn (by omega)]; exact k0) ?_
    refine aw_iload dX5_addOffice_47 rfl ?_
    refine aw_iast dX5_addOffice_49 (by assumption) rfl (by omega) (by decide) ?_
    refine aw_aload_n dX5_addOffice_50 rfl ?_
    refine aw_gr dX5_addOffice_51 gf_X5_25 (by assumption) (by rfl) ?_
    refine aw_aload_n dX5_addOffice_54 rfl ?_
    refine aw_gi dX5_addOffice_55 gf_X5_28 (by assumption) (by rfl) ?_
    refine aw_top (show _ = nI (K 5) by rw [am_upn (by omega), am_upn (by omega), am_upn (by omega), am_upn (by omega)]; exact k0) ?_
    refine aw_iconst (v := nI 0) dX5_addOffice_58 rfl ?_
    refine aw_iast dX5_addOffice_59 (by assumption) rfl (by omega) (by decide) ?_
    refine aw_aload_n dX5_addOffice_60 rfl ?_
    refine aw_dup dX5_addOffice_61 rfl ?_
    refine aw_gi dX5_addOffice_62 gf_X5_28 (by assumption) (by rfl) ?_
    refine aw_top (show _ = nI (K 5) by rw [am_upn (by omega), am_upn (by omega), am_upn (by omega), am_upn (by omega), am_upn (by omega)]; exact k0) ?_
    refine aw_iconst (v := nI 1) dX5_addOffice_65 rfl ?_
    refine aw_iadd dX5_addOffice_66 ?_
    refine aw_top (nI_add _ _) ?_
    refine aw_pi dX5_addOffice_67 pf_X5_28 rfl rfl (by assumption) (by rfl) ?_
    refine aw_vret dX5_addOffice_70 rfl rfl rfl ?_
    have e5 : pAdd K kind l h f 5 = K 5 + 1 := by unfold pAdd; rw [if_pos rfl]
    refine ⟨rfl, rfl, ⟨?_, ?_, ?_, ?_, ?_⟩, ?_⟩
    · rw [am_ups, pk_us, e5]
    · rw [am_ups, pk_un (by decide)]; simp only [am_upn (show a ≠ a + 2 by omega), am_upn (show a ≠ a + 3 by omega), am_upn (show a ≠ a + 4 by omega), am_upn (show a ≠ a + 5 by omega), am_upn (show a ≠ a + 6 by omega)]; rw [k1]; unfold pAdd; rw [if_neg (by omega), if_neg (by omega), if_neg (by omega), if_neg (by omega), if_neg (by omega), if_neg (by omega)]
    · rw [am_ups, pk_un (by decide)]; simp only [am_upn (show a ≠ a + 2 by omega), am_upn (show a ≠ a + 3 by omega), am_upn (show a ≠ a + 4 by omega), am_upn (show a ≠ a + 5 by omega), am_upn (show a ≠ a + 6 by omega)]; rw [k2]; unfold pAdd; rw [if_neg (by omega), if_neg (by omega), if_neg (by omega), if_neg (by omega), if_neg (by omega), if_neg (by omega)]
    · intro b hb; rw [am_upn (by omega)]; simp only [am_upn (show a + 1 ≠ a + 2 by omega), am_upn (show a + 1 ≠ a + 3 by omega), am_upn (show a + 1 ≠ a + 4 by omega), am_upn (show a + 1 ≠ a + 5 by omega), am_upn (show a + 1 ≠ a + 6 by omega)]; rw [k3 b hb]; unfold pAdd; rw [if_neg (by omega), if_neg (by omega), if_neg (by omega), if_neg (by omega), if_neg (by omega), if_neg (by omega)]
    · intro o ho
      rw [e5] at ho
      by_cases e : o = K 5
      · subst e
        refine ⟨?_, ?_, ?_, ?_, ?_⟩
        · rw [am_upn (by omega)]; simp only [am_upn (show a + 2 ≠ a + 1 by omega), am_upn (show a + 2 ≠ a + 3 by omega), am_upn (show a + 2 ≠ a + 4 by omega), am_upn (show a + 2 ≠ a + 5 by omega), am_upn (show a + 2 ≠ a + 6 by omega), am_ups, pk_us]; unfold pAdd; rw [if_neg (by omega), if_pos rfl]
        · rw [am_upn (by omega)]; simp only [am_upn (show a + 3 ≠ a + 1 by omega), am_upn (show a + 3 ≠ a + 2 by omega), am_upn (show a + 3 ≠ a + 4 by omega), am_upn (show a + 3 ≠ a + 5 by omega), am_upn (show a + 3 ≠ a + 6 by omega), am_ups, pk_us]; unfold pAdd; rw [if_neg (by omega), if_neg (by omega), if_pos rfl]
        · rw [am_upn (by omega)]; simp only [am_upn (show a + 4 ≠ a + 1 by omega), am_upn (show a + 4 ≠ a + 2 by omega), am_upn (show a + 4 ≠ a + 3 by omega), am_upn (show a + 4 ≠ a + 5 by omega), am_upn (show a + 4 ≠ a + 6 by omega), am_ups, pk_us]; unfold pAdd; rw [if_neg (by omega), if_neg (by omega), if_neg (by omega), if_pos rfl]
        · rw [am_upn (by omega)]; simp only [am_upn (show a + 5 ≠ a + 1 by omega), am_upn (show a + 5 ≠ a + 2 by omega), am_upn (show a + 5 ≠ a + 3 by omega), am_upn (show a + 5 ≠ a + 4 by omega), am_upn (show a + 5 ≠ a + 6 by omega), am_ups, pk_us]; unfold pAdd; rw [if_neg (by omega), if_neg (by omega), if_neg (by omega), if_neg (by omega), if_pos rfl]
        · rw [am_upn (by omega)]; simp only [am_upn (show a + 6 ≠ a + 1 by omega), am_upn (show a + 6 ≠ a + 2 by omega), am_upn (show a + 6 ≠ a + 3 by omega), am_upn (show a + 6 ≠ a + 4 by omega), am_upn (show a + 6 ≠ a + 5 by omega), am_ups, pk_us]; unfold pAdd; rw [if_neg (by omega), if_neg (by omega), if_neg (by omega), if_neg (by omega), if_neg (by omega), if_pos rfl]
      · obtain ⟨g0, g1, g2, g3, g4⟩ := k4 o (by omega)
        refine ⟨?_, ?_, ?_, ?_, ?_⟩
        · rw [am_upn (by omega)]; simp only [am_upn (show a + 2 ≠ a + 1 by omega), am_upn (show a + 2 ≠ a + 3 by omega), am_upn (show a + 2 ≠ a + 4 by omega), am_upn (show a + 2 ≠ a + 5 by omega), am_upn (show a + 2 ≠ a + 6 by omega), am_ups, pk_un e]; rw [g0]; unfold pAdd; rw [if_neg (by omega), if_neg (by omega), if_neg (by omega), if_neg (by omega), if_neg (by omega), if_neg (by omega)]
        · rw [am_upn (by omega)]; simp only [am_upn (show a + 3 ≠ a + 1 by omega), am_upn (show a + 3 ≠ a + 2 by omega), am_upn (show a + 3 ≠ a + 4 by omega), am_upn (show a + 3 ≠ a + 5 by omega), am_upn (show a + 3 ≠ a + 6 by omega), am_ups, pk_un e]; rw [g1]; unfold pAdd; rw [if_neg (by omega), if_neg (by omega), if_neg (by omega), if_neg (by omega), if_neg (by omega), if_neg (by omega)]
        · rw [am_upn (by omega)]; simp only [am_upn (show a + 4 ≠ a + 1 by omega), am_upn (show a + 4 ≠ a + 2 by omega), am_upn (show a + 4 ≠ a + 3 by omega), am_upn (show a + 4 ≠ a + 5 by omega), am_upn (show a + 4 ≠ a + 6 by omega), am_ups, pk_un e]; rw [g2]; unfold pAdd; rw [if_neg (by omega), if_neg (by omega), if_neg (by omega), if_neg (by omega), if_neg (by omega), if_neg (by omega)]
        · rw [am_upn (by omega)]; simp only [am_upn (show a + 5 ≠ a + 1 by omega), am_upn (show a + 5 ≠ a + 2 by omega), am_upn (show a + 5 ≠ a + 3 by omega), am_upn (show a + 5 ≠ a + 4 by omega), am_upn (show a + 5 ≠ a + 6 by omega), am_ups, pk_un e]; rw [g3]; unfold pAdd; rw [if_neg (by omega), if_neg (by omega), if_neg (by omega), if_neg (by omega), if_neg (by omega), if_neg (by omega)]
        · rw [am_upn (by omega)]; simp only [am_upn (show a + 6 ≠ a + 1 by omega), am_upn (show a + 6 ≠ a + 2 by omega), am_upn (show a + 6 ≠ a + 3 by omega), am_upn (show a + 6 ≠ a + 4 by omega), am_upn (show a + 6 ≠ a + 5 by omega), am_ups, pk_un e]; rw [g4]; unfold pAdd; rw [if_neg (by omega), if_neg (by omega), if_neg (by omega), if_neg (by omega), if_neg (by omega), if_neg (by omega)]
    · exact (((((am_fr.rf.up (by omega) (by omega)).up (by omega) (by omega)).up (by omega) (by omega)).up (by omega) (by omega)).up (by omega) (by omega)).up (by omega) (by omega)
  · exact absurd (nI_lt (by omega) (by omega)) c5
set_option maxRecDepth 100000 in
set_option maxHeartbeats 4000000 in
theorem c_J6_bitCount_0f7a4 {G : am_G} {sh : List am_S} {μ : am_M} (v : Nat) (hv : v < 32) : am_MA G yJ6_bitCount_0f7a4 cJ6_bitCount_0f7a4 1 (some .int) 0 0 0 [.int (nI v)] sh μ (am_E (some (.int (nI (pCnt v)))) sh μ) := by
  refine am_ofK (own := RJ6) (nm := "bitCount") (L := [some (.int (nI v))]) rfl rfl (by decide +kernel) (Nat.le_of_ble_eq_true rfl) rfl ?_
  refine aw_iload_n dJ6_bitCount_0f7a4_0 rfl ?_
  refine aw_iload_n dJ6_bitCount_0f7a4_1 rfl ?_
  refine aw_iconst (v := nI 1) dJ6_bitCount_0f7a4_2 rfl ?_
  refine aw_iushr dJ6_bitCount_0f7a4_3 ?_
  refine aw_ldcw dJ6_bitCount_0f7a4_4 kc_J6_265 ?_
  refine aw_iand dJ6_bitCount_0f7a4_7 ?_
  refine aw_isub dJ6_bitCount_0f7a4_8 ?_
  refine aw_istore_n dJ6_bitCount_0f7a4_9 (Nat.le_of_ble_eq_true rfl) ?_
  refine aw_iload_n dJ6_bitCount_0f7a4_10 rfl ?_
  refine aw_ldcw dJ6_bitCount_0f7a4_11 kc_J6_266 ?_
  refine aw_iand dJ6_bitCount_0f7a4_14 ?_
  refine aw_iload_n dJ6_bitCount_0f7a4_15 rfl ?_
  refine aw_iconst (v := nI 2) dJ6_bitCount_0f7a4_16 rfl ?_
  refine aw_iushr dJ6_bitCount_0f7a4_17 ?_
  refine aw_ldcw dJ6_bitCount_0f7a4_18 kc_J6_266 ?_
  refine aw_iand dJ6_bitCount_0f7a4_21 ?_
  refine aw_iadd dJ6_bitCount_0f7a4_22 ?_
  refine aw_istore_n dJ6_bitCount_0f7a4_23 (Nat.le_of_ble_eq_true rfl) ?_
  refine aw_iload_n dJ6_bitCount_0f7a4_24 rfl ?_
  refine aw_iload_n dJ6_bitCount_0f7a4_25 rfl ?_
  refine aw_iconst (v := nI 4) dJ6_bitCount_0f7a4_26 rfl ?_
  refine aw_iushr dJ6_bitCount_0f7a4_27 ?_
  refine aw_iadd dJ6_bitCount_0f7a4_28 ?_
  refine aw_ldcw dJ6_bitCount_0f7a4_29 kc_J6_267 ?_
  refine aw_iand dJ6_bitCount_0f7a4_32 ?_
  refine aw_istore_n dJ6_bitCount_0f7a4_33 (Nat.le_of_ble_eq_true rfl) ?_
  refine aw_iload_n dJ6_bitCount_0f7a4_34 rfl ?_
  refine aw_iload_n dJ6_bitCount_0f7a4_35 rfl ?_
  refine aw_bipush (v := nI 8) dJ6_bitCount_0f7a4_36 rfl ?_
  refine aw_iushr dJ6_bitCount_0f7a4_38 ?_
  refine aw_iadd dJ6_bitCount_0f7a4_39 ?_
  refine aw_istore_n dJ6_bitCount_0f7a4_40 (Nat.le_of_ble_eq_true rfl) ?_
  refine aw_iload_n dJ6_bitCount_0f7a4_41 rfl ?_
  refine aw_iload_n dJ6_bitCount_0f7a4_42 rfl ?_
  refine aw_bipush (v := nI 16) dJ6_bitCount_0f7a4_43 rfl ?_
  refine aw_iushr dJ6_bitCount_0f7a4_45 ?_
  refine aw_iadd dJ6_bitCount_0f7a4_46 ?_
  refine aw_istore_n dJ6_bitCount_0f7a4_47 (Nat.le_of_ble_eq_true rfl) ?_
  refine aw_iload_n dJ6_bitCount_0f7a4_48 rfl ?_
  refine aw_bipush (v := nI 63) dJ6_bitCount_0f7a4_49 rfl ?_
  refine aw_iand dJ6_bitCount_0f7a4_51 ?_
  refine aw_iret dJ6_bitCount_0f7a4_52 rfl rfl rfl rfl ?_
  refine ⟨congrArg (fun z => some (Value.int z)) ?_, rfl, rfl⟩
  revert hv; revert v; decide +kernel
set_option maxRecDepth 100000 in
set_option maxHeartbeats 4000000 in
theorem l_J7_fill_53178 {G : am_G} {sh : List am_S} {μ : am_M} {a N : Nat} {x : Int32} (hc : sh[a]? = some (100, N, [])) (hN : N < 100000) : ∀ (r i : Nat) (μ1 : am_M), i + r = N → (∀ j, j < i → μ1 a j = x) → am_fr μ μ1 a 1 → am_W (am_K G RJ7 "fill" 4 none 0 0 0 (am_P none sh (fun μ9 => (∀ j, j < N → μ9 a j = x) ∧ am_fr μ μ9 a 1))) cJ7_fill_53178 5 [some (.ref a), some (.int x), some (.int (nI i)), some (.int (nI N))] [] sh μ1 0 0 := by
  intro r
  induction r with
  | zero =>
    intro i μ1 hi hS hF
    refine aw_iload_n dJ7_fill_53178_5 rfl ?_
    refine aw_iload_n dJ7_fill_53178_6 rfl ?_
    refine aw_icmp_ge (tgt := 20) dJ7_fill_53178_7 (by decide) (fun c7 => ?_) (fun c7 => ?_)
    · refine aw_vret dJ7_fill_53178_20 rfl rfl rfl ?_
      exact ⟨rfl, rfl, fun j hj => hS j (by omega), hF⟩
    · exact absurd (nI_le (by omega) (by omega)) c7
  | succ r ih =>
    intro i μ1 hi hS hF
    refine aw_iload_n dJ7_fill_53178_5 rfl ?_
    refine aw_iload_n dJ7_fill_53178_6 rfl ?_
    refine aw_icmp_ge (tgt := 20) dJ7_fill_53178_7 (by decide) (fun c7 => ?_) (fun c7 => ?_)
    · exact absurd c7 (nI_ge (by omega) (by omega))
    · refine aw_aload_n dJ7_fill_53178_10 rfl ?_
      refine aw_iload_n dJ7_fill_53178_11 rfl ?_
      refine aw_iload_n dJ7_fill_53178_12 rfl ?_
      refine aw_iast dJ7_fill_53178_13 hc rfl (by omega) (by omega) ?_
      refine aw_iinc (v := nI (i + 1)) dJ7_fill_53178_14 rfl (nI_1 i) (Nat.le_of_ble_eq_true rfl) ?_
      refine aw_goto (tgt := 5) dJ7_fill_53178_17 (by decide) ?_
      refine ih (i + 1) _ (by omega) (fun j hj => ?_) (hF.up (by omega) (by omega))
      by_cases e : j = i
      · subst e; rw [am_ups, pk_us]
      · rw [am_ups, pk_un e]; exact hS j (by omega)
set_option maxRecDepth 100000 in
set_option maxHeartbeats 4000000 in
theorem c_J7_fill_53178 {G : am_G} {sh : List am_S} {μ : am_M} (a N : Nat) (x : Int32) (hc : sh[a]? = some (100, N, [])) (hN : N < 100000) : am_MA G yJ7_fill_53178 cJ7_fill_53178 4 none 0 0 0 [.ref a, .int x] sh μ (am_P none sh (fun μ9 => (∀ j, j < N → μ9 a j = x) ∧ am_fr μ μ9 a 1)) := by
  refine am_ofK (own := RJ7) (nm := "fill") (L := [some (.ref a), some (.int x), none, none]) rfl rfl (by decide +kernel) (Nat.le_of_ble_eq_true rfl) rfl ?_
  refine aw_iconst (v := nI 0) dJ7_fill_53178_0 rfl ?_
  refine aw_istore_n dJ7_fill_53178_1 (Nat.le_of_ble_eq_true rfl) ?_
  refine aw_aload_n dJ7_fill_53178_2 rfl ?_
  refine aw_alen (t := 0) dJ7_fill_53178_3 hc ?_
  refine aw_istore_n dJ7_fill_53178_4 (Nat.le_of_ble_eq_true rfl) ?_
  exact l_J7_fill_53178 hc hN N 0 μ (by omega) (fun j hj => by omega) am_fr.rf
