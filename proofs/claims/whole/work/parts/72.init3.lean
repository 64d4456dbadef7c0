/-! ===== the constructors of the class and of the model ===== -/
theorem am_up_zz {μ : am_M} {a j : Nat} (h : μ a = fun _ => 0) : am_up μ a (upd (μ a) j (nI 0)) = μ := by
  funext b i
  unfold am_up
  split
  · rename_i e
    rw [e, h]
    unfold upd
    split <;> rfl
  · rfl
def am_rwR (i : Nat) : List (Option Value) := (List.range 8).map (fun j => if j < i then some (.ref (2 + 2 * j)) else some .null)
def am_rwS : Nat → List am_S
  | 0 => []
  | i + 1 => am_rwS i ++ am_rwL (2 + 2 * i)
theorem am_rwS_len : ∀ i, (am_rwS i).length = 2 * i
  | 0 => rfl
  | i + 1 => by
    unfold am_rwS
    rw [List.length_append, am_rwS_len i]
    show 2 * i + 2 = _
    omega
theorem am_rwR_at {i : Nat} (h : i < 8) : (am_rwR i)[i]? = some (some .null) := by
  unfold am_rwR
  rw [List.getElem?_map, List.getElem?_range h]
  simp
theorem am_rwR_set {i : Nat} (h : i < 8) : (am_rwR i).set i (some (.ref (2 + 2 * i))) = am_rwR (i + 1) := by
  unfold am_rwR
  apply List.ext_getElem?
  intro j
  by_cases e : j = i
  · subst e
    rw [List.getElem?_set_self (by simpa using h), List.getElem?_map, List.getElem?_range h]
    simp
  · rw [List.getElem?_set_ne (Ne.symm e), List.getElem?_map, List.getElem?_map]
    by_cases hj : j < 8
    · rw [List.getElem?_range hj]
      simp only [Option.map_some]
      by_cases c : j < i
      · rw [if_pos c, if_pos (by omega)]
      · rw [if_neg c, if_neg (by omega)]
    · rw [List.getElem?_eq_none (by rw [List.length_range]; omega)]
      rfl
/-- the ints of a new class: i rows are missing -/
def am_mi (i : Nat) (μ : am_M) : Prop := (∀ j, j < i → μ (2 + 2 * j) 0 = nI 1) ∧ ∀ b, (∀ j, j < i → b ≠ 2 + 2 * j) → μ b = fun _ => 0
theorem am_mi.up {i : Nat} {μ : am_M} (h : am_mi i μ) : am_mi (i + 1) (am_up μ (2 + 2 * i) (upd (μ (2 + 2 * i)) 0 (nI 1))) := by
  refine ⟨fun j hj => ?_, fun b hb => ?_⟩
  · by_cases e : j = i
    · rw [e, am_ups, pk_us]
    · rw [am_upn (by omega)]; exact h.1 j (by omega)
  · rw [am_up_n (hb i (by omega))]
    exact h.2 b (fun j hj => hb j (by omega))
theorem am_mi.z {i : Nat} {μ : am_M} (h : am_mi i μ) {b : Nat} (hb : 2 + 2 * i ≤ b) : μ b = fun _ => 0 := h.2 b (fun j hj => by omega)
set_option maxRecDepth 100000 in
set_option maxHeartbeats 4000000 in
theorem l_X7_init {G : am_G} (kk : ∀ μ1, am_mi 8 μ1 → am_W (am_K G RX7 "<init>" 2 none 3 233 2063 (am_P none am_SC (am_mi 8))) cX7_init 40 [some (.ref 0), some (.int (nI 8))] [] ([] ++ ((6, 10, [some (.ref 1), some .null, some .null, some .null, some .null, some .null, some .null, some .null, none, none]) :: (102, 8, am_rwR 8) :: am_rwS 8)) μ1 17 360) : ∀ (r i : Nat) (μ1 : am_M), i + r = 8 → am_mi i μ1 → am_W (am_K G RX7 "<init>" 2 none 3 233 2063 (am_P none am_SC (am_mi 8))) cX7_init 15 [some (.ref 0), some (.int (nI i))] [] ([] ++ ((6, 10, [some (.ref 1), some .null, some .null, some .null, some .null, some .null, some .null, some .null, none, none]) :: (102, 8, am_rwR i) :: am_rwS i)) μ1 (1 + 2 * i) (8 + 44 * i) := by
  intro r
  induction r with
  | zero =>
    intro i μ1 hi hm
    have e : i = 8 := by omega
    subst e
    refine aw_iload_n dX7_init_15 rfl ?_
    refine aw_bipush (v := nI 8) dX7_init_16 rfl ?_
    refine aw_icmp_ge (tgt := 40) dX7_init_18 (by decide) (fun c18 => ?_) (fun c18 => ?_)
    · exact kk μ1 hm
    · exact absurd (nI_le (by omega) (by omega)) c18
  | succ r ih =>
    intro i μ1 hi hm
    have hl := am_rwS_len i
    refine aw_iload_n dX7_init_15 rfl ?_
    refine aw_bipush (v := nI 8) dX7_init_16 rfl ?_
    refine aw_icmp_ge (tgt := 40) dX7_init_18 (by decide) (fun c18 => ?_) (fun c18 => ?_)
    · exact absurd c18 (nI_ge (by omega) (by omega))
    · refine aw_aload_n dX7_init_21 rfl ?_
      refine aw_gr dX7_init_22 gf_X7_11 (ap_at (a := 0) (i := 0) rfl rfl rfl) (by rfl) ?_
      refine aw_iload_n dX7_init_25 rfl ?_
      refine ap_new (a := 0) (q := 2 + 2 * i) (l' := ((6, 10, [some (.ref 1), some .null, some .null, some .null, some .null, some .null, some .null, some .null, none, none]) :: (102, 8, am_rwR i) :: am_rwS i) ++ [(3, 4, [none, none, none, some .null])]) rfl (by simp only [List.length_cons]; omega) (hm.z (by omega)) dX7_init_26 nw_X7_9 (by show 1 + 2 * i + 1 ≤ 233; omega) (by show 8 + 44 * i + 4 ≤ 2063; omega) rfl ?_
      refine aw_dup dX7_init_29 rfl ?_
      refine aw_cn (As := []) dX7_init_30 (List.mem_of_getElem? (i := 0) rfl) im_X4_init iw_X4 cw_X4_init nm_X4_init (by decide) rfl (c_X4_initP [] ((6, 10, [some (.ref 1), some .null, some .null, some .null, some .null, some .null, some .null, some .null, none, none]) :: (102, 8, am_rwR i) :: am_rwS i) (2 + 2 * i) (by rw [List.nil_append]; simp only [List.length_cons]; omega) (fun b hb => hm.z (by omega))) rfl rfl (Nat.le_of_ble_eq_true rfl) (Nat.le_of_ble_eq_true rfl) (Nat.le_of_ble_eq_true rfl) (by show 1 + 2 * i + 1 + 1 ≤ 233 ∧ 8 + 44 * i + 4 + 40 ≤ 2063; omega) (fun v sh2 μ2 hq => ?_)
      obtain ⟨rfl, rfl, rfl⟩ := hq
      refine ap_aast (a := 0) (i := 1) (i2 := 2 + 2 * i) (t := 2) (l' := ((6, 10, [some (.ref 1), some .null, some .null, some .null, some .null, some .null, some .null, some .null, none, none]) :: (102, 8, am_rwR (i + 1)) :: am_rwS (i + 1))) rfl rfl (by omega) dX7_init_33 rfl (ci := 3) (r := (RX4, TX4, 4)) (by rw [List.getElem?_append_right (by simp only [List.length_cons]; omega)]; simp only [List.length_cons]; rw [show 2 + 2 * i - ((am_rwS i).length + 1 + 1) = 0 by omega]; rfl) (by decide) rfl (Or.inl ⟨rfl, rfl⟩) rfl (by omega) (by decide) (am_rwR_at (by omega)) (by show _ :: (102, 8, (am_rwR i).set i _) :: _ = _; rw [am_rwR_set (by omega)]; rfl) ?_
      refine aw_iinc (v := nI (i + 1)) dX7_init_34 rfl (nI_1 i) (Nat.le_of_ble_eq_true rfl) ?_
      refine aw_goto (tgt := 15) dX7_init_37 (by decide) ?_
      exact aw_kn (by omega) (by omega) (ih (i + 1) _ (by omega) hm.up)
set_option maxRecDepth 100000 in
set_option maxHeartbeats 4000000 in
theorem b_X7_init {G : am_G} (μ1 : am_M) (hm : am_mi 8 μ1) : am_W (am_K G RX7 "<init>" 2 none 3 233 2063 (am_P none am_SC (am_mi 8))) cX7_init 40 [some (.ref 0), some (.int (nI 8))] [] ([] ++ ((6, 10, [some (.ref 1), some .null, some .null, some .null, some .null, some .null, some .null, some .null, none, none]) :: (102, 8, am_rwR 8) :: am_rwS 8)) μ1 17 360 := by
  refine aw_aload_n dX7_init_40 rfl ?_
  refine ap_new (pre := []) (a := 0) (q := 18) (l' := ((6, 10, [some (.ref 1), some .null, some .null, some .null, some .null, some .null, some .null, some .null, none, none]) :: ((102, 8, am_rwR 8) :: am_rwS 8)) ++ [(5, 4, [some .null, none, none, none])]) rfl rfl (hm.z (by omega)) dX7_init_41 nw_X7_16 (Nat.le_of_ble_eq_true rfl) (Nat.le_of_ble_eq_true rfl) rfl ?_
  refine aw_dup dX7_init_44 rfl ?_
  refine aw_cn (As := []) dX7_init_45 (List.mem_of_getElem? (i := 1) rfl) im_X6_init iw_X6 cw_X6_init nm_X6_init (by decide) rfl (c_X6_initP [] ((6, 10, [some (.ref 1), some .null, some .null, some .null, some .null, some .null, some .null, some .null, none, none]) :: ((102, 8, am_rwR 8) :: am_rwS 8)) 18 rfl (fun b hb => hm.z (by omega))) rfl rfl (Nat.le_of_ble_eq_true rfl) (Nat.le_of_ble_eq_true rfl) (Nat.le_of_ble_eq_true rfl) (⟨Nat.le_of_ble_eq_true rfl, Nat.le_of_ble_eq_true rfl⟩) (fun v sh2 μ2 hq => ?_)
  obtain ⟨rfl, rfl, rfl⟩ := hq
  refine ap_pr (pre := []) (a := 0) (i := 0) (l' := (6, 10, [some (.ref 1), some (.ref 18), some .null, some .null, some .null, some .null, some .null, some .null, none, none]) :: (((102, 8, am_rwR 8) :: am_rwS 8) ++ am_tpL 18)) rfl rfl dX7_init_48 pf_X7_19 rfl (fun _ => rfl) (fun _ => rfl) rfl rfl rfl ?_
  refine aw_aload_n dX7_init_51 rfl ?_
  refine ap_new (pre := []) (a := 0) (q := 20) (l' := ((6, 10, [some (.ref 1), some (.ref 18), some .null, some .null, some .null, some .null, some .null, some .null, none, none]) :: (((102, 8, am_rwR 8) :: am_rwS 8) ++ am_tpL 18)) ++ [(4, 9, [none, none, none, some .null, some .null, some .null, some .null, some .null, some .null])]) rfl rfl (hm.z (by omega)) dX7_init_52 nw_X7_23 (Nat.le_of_ble_eq_true rfl) (Nat.le_of_ble_eq_true rfl) rfl ?_
  refine aw_dup dX7_init_55 rfl ?_
  refine aw_cn (As := []) dX7_init_56 (List.mem_of_getElem? (i := 2) rfl) im_X5_init iw_X5 cw_X5_init nm_X5_init (by decide) rfl (c_X5_initP [] ((6, 10, [some (.ref 1), some (.ref 18), some .null, some .null, some .null, some .null, some .null, some .null, none, none]) :: (((102, 8, am_rwR 8) :: am_rwS 8) ++ am_tpL 18)) 20 rfl (fun b hb => hm.z (by omega))) rfl rfl (Nat.le_of_ble_eq_true rfl) (Nat.le_of_ble_eq_true rfl) (Nat.le_of_ble_eq_true rfl) (⟨Nat.le_of_ble_eq_true rfl, Nat.le_of_ble_eq_true rfl⟩) (fun v sh2 μ2 hq => ?_)
  obtain ⟨rfl, rfl, rfl⟩ := hq
  refine ap_pr (pre := []) (a := 0) (i := 0) (l' := (6, 10, [some (.ref 1), some (.ref 18), some (.ref 20), some .null, some .null, some .null, some .null, some .null, none, none]) :: ((((102, 8, am_rwR 8) :: am_rwS 8) ++ am_tpL 18) ++ am_skL 20)) rfl rfl dX7_init_59 pf_X7_26 rfl (fun _ => rfl) (fun _ => rfl) rfl rfl rfl ?_
  refine aw_aload_n dX7_init_62 rfl ?_
  refine ap_new (pre := []) (a := 0) (q := 27) (l' := ((6, 10, [some (.ref 1), some (.ref 18), some (.ref 20), some .null, some .null, some .null, some .null, some .null, none, none]) :: ((((102, 8, am_rwR 8) :: am_rwS 8) ++ am_tpL 18) ++ am_skL 20)) ++ [(4, 9, [none, none, none, some .null, some .null, some .null, some .null, some .null, some .null])]) rfl rfl (hm.z (by omega)) dX7_init_63 nw_X7_23 (Nat.le_of_ble_eq_true rfl) (Nat.le_of_ble_eq_true rfl) rfl ?_
  refine aw_dup dX7_init_66 rfl ?_
  refine aw_cn (As := []) dX7_init_67 (List.mem_of_getElem? (i := 2) rfl) im_X5_init iw_X5 cw_X5_init nm_X5_init (by decide) rfl (c_X5_initP [] ((6, 10, [some (.ref 1), some (.ref 18), some (.ref 20), some .null, some .null, some .null, some .null, some .null, none, none]) :: ((((102, 8, am_rwR 8) :: am_rwS 8) ++ am_tpL 18) ++ am_skL 20)) 27 rfl (fun b hb => hm.z (by omega))) rfl rfl (Nat.le_of_ble_eq_true rfl) (Nat.le_of_ble_eq_true rfl) (Nat.le_of_ble_eq_true rfl) (⟨Nat.le_of_ble_eq_true rfl, Nat.le_of_ble_eq_true rfl⟩) (fun v sh2 μ2 hq => ?_)
  obtain ⟨rfl, rfl, rfl⟩ := hq
  refine ap_pr (pre := []) (a := 0) (i := 0) (l' := (6, 10, [some (.ref 1), some (.ref 18), some (.ref 20), some (.ref 27), some .null, some .null, some .null, some .null, none, none]) :: (((((102, 8, am_rwR 8) :: am_rwS 8) ++ am_tpL 18) ++ am_skL 20) ++ am_skL 27)) rfl rfl dX7_init_70 pf_X7_30 rfl (fun _ => rfl) (fun _ => rfl) rfl rfl rfl ?_
  refine aw_aload_n dX7_init_73 rfl ?_
  refine ap_new (pre := []) (a := 0) (q := 34) (l' := ((6, 10, [some (.ref 1), some (.ref 18), some (.ref 20), some (.ref 27), some .null, some .null, some .null, some .null, none, none]) :: (((((102, 8, am_rwR 8) :: am_rwS 8) ++ am_tpL 18) ++ am_skL 20) ++ am_skL 27)) ++ [(0, 3, [none, none, some .null])]) rfl rfl (hm.z (by omega)) dX7_init_74 nw_X7_33 (Nat.le_of_ble_eq_true rfl) (Nat.le_of_ble_eq_true rfl) rfl ?_
  refine aw_dup dX7_init_77 rfl ?_
  refine aw_ci (As := []) dX7_init_78 ml_X7_35 im_X0_init rfl (c_X0_initP [] ((6, 10, [some (.ref 1), some (.ref 18), some (.ref 20), some (.ref 27), some .null, some .null, some .null, some .null, none, none]) :: (((((102, 8, am_rwR 8) :: am_rwS 8) ++ am_tpL 18) ++ am_skL 20) ++ am_skL 27)) 34 rfl (fun b hb => hm.z (by omega))) rfl rfl (Nat.le_of_ble_eq_true rfl) (Nat.le_of_ble_eq_true rfl) (Nat.le_of_ble_eq_true rfl) ⟨Nat.le_of_ble_eq_true rfl, Nat.le_of_ble_eq_true rfl⟩ (fun v sh2 μ2 hq => ?_)
  obtain ⟨rfl, rfl, rfl⟩ := hq
  refine ap_pr (pre := []) (a := 0) (i := 0) (l' := (6, 10, [some (.ref 1), some (.ref 18), some (.ref 20), some (.ref 27), some (.ref 34), some .null, some .null, some .null, none, none]) :: ((((((102, 8, am_rwR 8) :: am_rwS 8) ++ am_tpL 18) ++ am_skL 20) ++ am_skL 27) ++ am_acL 34)) rfl rfl dX7_init_81 pf_X7_36 rfl (fun _ => rfl) (fun _ => rfl) rfl rfl rfl ?_
  refine aw_aload_n dX7_init_84 rfl ?_
  refine aw_iconst (v := nI 2) dX7_init_85 rfl ?_
  refine ap_newr (pre := []) 3 (a := 0) (q := 204) (l' := ((6, 10, [some (.ref 1), some (.ref 18), some (.ref 20), some (.ref 27), some (.ref 34), some .null, some .null, some .null, none, none]) :: ((((((102, 8, am_rwR 8) :: am_rwS 8) ++ am_tpL 18) ++ am_skL 20) ++ am_skL 27) ++ am_acL 34)) ++ [(103, 2, [some .null, some .null])]) rfl rfl (hm.z (by omega)) dX7_init_86 cl_X7_23 (Or.inr ⟨rfl, rfl⟩) rfl (by decide) (Nat.le_of_ble_eq_true rfl) (Nat.le_of_ble_eq_true rfl) rfl ?_
  refine ap_pr (pre := []) (a := 0) (i := 0) (l' := (6, 10, [some (.ref 1), some (.ref 18), some (.ref 20), some (.ref 27), some (.ref 34), some (.ref 204), some .null, some .null, none, none]) :: (((((((102, 8, am_rwR 8) :: am_rwS 8) ++ am_tpL 18) ++ am_skL 20) ++ am_skL 27) ++ am_acL 34) ++ [(103, 2, [some .null, some .null])])) rfl rfl dX7_init_89 pf_X7_40 rfl (fun _ => rfl) (fun _ => rfl) rfl rfl rfl ?_
  refine aw_iconst (v := nI 0) dX7_init_92 rfl ?_
  refine aw_istore_n dX7_init_93 (Nat.le_of_ble_eq_true rfl) ?_
  refine aw_shp (show _ = ((6, 10, [some (.ref 1), some (.ref 18), some (.ref 20), some (.ref 27), some (.ref 34), some (.ref 204), some .null, some .null, none, none]) :: ((((((102, 8, am_rwR 8) :: am_rwS 8) ++ am_tpL 18) ++ am_skL 20) ++ am_skL 27) ++ am_acL 34)) ++ [(103, 2, [some .null, some .null])] from rfl) ?_
  refine aw_iload_n dX7_init_94 rfl ?_
  refine aw_iconst (v := nI 2) dX7_init_95 rfl ?_
  refine aw_icmp_ge (tgt := 118) dX7_init_96 (by decide) (fun c => absurd c (by decide +kernel)) (fun c => ?_)
  refine aw_aload_n dX7_init_99 rfl ?_
  refine aw_gr dX7_init_100 gf_X7_40 (a := 0) rfl (by rfl) ?_
  refine aw_iload_n dX7_init_103 rfl ?_
  refine ap_new (pre := ((6, 10, [some (.ref 1), some (.ref 18), some (.ref 20), some (.ref 27), some (.ref 34), some (.ref 204), some .null, some .null, none, none]) :: ((((((102, 8, am_rwR 8) :: am_rwS 8) ++ am_tpL 18) ++ am_skL 20) ++ am_skL 27) ++ am_acL 34))) (a := 204) (q := 205) (l' := [(103, 2, [some .null, some .null])] ++ [(4, 9, [none, none, none, some .null, some .null, some .null, some .null, some .null, some .null])]) rfl rfl (hm.z (by omega)) dX7_init_104 nw_X7_23 (Nat.le_of_ble_eq_true rfl) (Nat.le_of_ble_eq_true rfl) rfl ?_
  refine aw_dup dX7_init_107 rfl ?_
  refine aw_cn (As := []) dX7_init_108 (List.mem_of_getElem? (i := 2) rfl) im_X5_init iw_X5 cw_X5_init nm_X5_init (by decide) rfl (c_X5_initP ((6, 10, [some (.ref 1), some (.ref 18), some (.ref 20), some (.ref 27), some (.ref 34), some (.ref 204), some .null, some .null, none, none]) :: ((((((102, 8, am_rwR 8) :: am_rwS 8) ++ am_tpL 18) ++ am_skL 20) ++ am_skL 27) ++ am_acL 34)) [(103, 2, [some .null, some .null])] 205 rfl (fun b hb => hm.z (by omega))) rfl rfl (Nat.le_of_ble_eq_true rfl) (Nat.le_of_ble_eq_true rfl) (Nat.le_of_ble_eq_true rfl) (⟨Nat.le_of_ble_eq_true rfl, Nat.le_of_ble_eq_true rfl⟩) (fun v sh2 μ2 hq => ?_)
  obtain ⟨rfl, rfl, rfl⟩ := hq
  refine ap_aast (pre := ((6, 10, [some (.ref 1), some (.ref 18), some (.ref 20), some (.ref 27), some (.ref 34), some (.ref 204), some .null, some .null, none, none]) :: ((((((102, 8, am_rwR 8) :: am_rwS 8) ++ am_tpL 18) ++ am_skL 20) ++ am_skL 27) ++ am_acL 34))) (a := 204) (i := 0) (i2 := 1) (t := 3) (l' := ((103, 2, [some (.ref 205), some .null]) :: am_skL 205)) rfl rfl rfl dX7_init_111 rfl (ci := 4) (r := (RX5, TX5, 9)) rfl (by decide) rfl (Or.inr ⟨rfl, rfl⟩) rfl (by decide) (by decide) rfl rfl ?_
  refine aw_iinc (v := nI 1) dX7_init_112 rfl rfl (Nat.le_of_ble_eq_true rfl) ?_
  refine aw_goto (tgt := 94) dX7_init_115 (by decide) ?_
  refine aw_iload_n dX7_init_94 rfl ?_
  refine aw_iconst (v := nI 2) dX7_init_95 rfl ?_
  refine aw_icmp_ge (tgt := 118) dX7_init_96 (by decide) (fun c => absurd c (by decide +kernel)) (fun c => ?_)
  refine aw_aload_n dX7_init_99 rfl ?_
  refine aw_gr dX7_init_100 gf_X7_40 (a := 0) rfl (by rfl) ?_
  refine aw_iload_n dX7_init_103 rfl ?_
  refine ap_new (pre := ((6, 10, [some (.ref 1), some (.ref 18), some (.ref 20), some (.ref 27), some (.ref 34), some (.ref 204), some .null, some .null, none, none]) :: ((((((102, 8, am_rwR 8) :: am_rwS 8) ++ am_tpL 18) ++ am_skL 20) ++ am_skL 27) ++ am_acL 34))) (a := 204) (q := 212) (l' := ((103, 2, [some (.ref 205), some .null]) :: am_skL 205) ++ [(4, 9, [none, none, none, some .null, some .null, some .null, some .null, some .null, some .null])]) rfl rfl (hm.z (by omega)) dX7_init_104 nw_X7_23 (Nat.le_of_ble_eq_true rfl) (Nat.le_of_ble_eq_true rfl) rfl ?_
  refine aw_dup dX7_init_107 rfl ?_
  refine aw_cn (As := []) dX7_init_108 (List.mem_of_getElem? (i := 2) rfl) im_X5_init iw_X5 cw_X5_init nm_X5_init (by decide) rfl (c_X5_initP ((6, 10, [some (.ref 1), some (.ref 18), some (.ref 20), some (.ref 27), some (.ref 34), some (.ref 204), some .null, some .null, none, none]) :: ((((((102, 8, am_rwR 8) :: am_rwS 8) ++ am_tpL 18) ++ am_skL 20) ++ am_skL 27) ++ am_acL 34)) ((103, 2, [some (.ref 205), some .null]) :: am_skL 205) 212 rfl (fun b hb => hm.z (by omega))) rfl rfl (Nat.le_of_ble_eq_true rfl) (Nat.le_of_ble_eq_true rfl) (Nat.le_of_ble_eq_true rfl) (⟨Nat.le_of_ble_eq_true rfl, Nat.le_of_ble_eq_true rfl⟩) (fun v sh2 μ2 hq => ?_)
  obtain ⟨rfl, rfl, rfl⟩ := hq
  refine ap_aast (pre := ((6, 10, [some (.ref 1), some (.ref 18), some (.ref 20), some (.ref 27), some (.ref 34), some (.ref 204), some .null, some .null, none, none]) :: ((((((102, 8, am_rwR 8) :: am_rwS 8) ++ am_tpL 18) ++ am_skL 20) ++ am_skL 27) ++ am_acL 34))) (a := 204) (i := 0) (i2 := 8) (t := 3) (l' := ((103, 2, [some (.ref 205), some (.ref 212)]) :: (am_skL 205 ++ am_skL 212))) rfl rfl rfl dX7_init_111 rfl (ci := 4) (r := (RX5, TX5, 9)) rfl (by decide) rfl (Or.inr ⟨rfl, rfl⟩) rfl (by decide) (by decide) rfl rfl ?_
  refine aw_iinc (v := nI 2) dX7_init_112 rfl rfl (Nat.le_of_ble_eq_true rfl) ?_
  refine aw_goto (tgt := 94) dX7_init_115 (by decide) ?_
  refine aw_iload_n dX7_init_94 rfl ?_
  refine aw_iconst (v := nI 2) dX7_init_95 rfl ?_
  refine aw_icmp_ge (tgt := 118) dX7_init_96 (by decide) (fun c => ?_) (fun c => absurd (by decide +kernel) c)
  refine aw_shp (show _ = [] ++ ((6, 10, [some (.ref 1), some (.ref 18), some (.ref 20), some (.ref 27), some (.ref 34), some (.ref 204), some .null, some .null, none, none]) :: (((((((102, 8, am_rwR 8) :: am_rwS 8) ++ am_tpL 18) ++ am_skL 20) ++ am_skL 27) ++ am_acL 34) ++ ((103, 2, [some (.ref 205), some (.ref 212)]) :: (am_skL 205 ++ am_skL 212)))) from rfl) ?_
  refine aw_aload_n dX7_init_118 rfl ?_
  refine ap_new (pre := []) (a := 0) (q := 219) (l' := ((6, 10, [some (.ref 1), some (.ref 18), some (.ref 20), some (.ref 27), some (.ref 34), some (.ref 204), some .null, some .null, none, none]) :: (((((((102, 8, am_rwR 8) :: am_rwS 8) ++ am_tpL 18) ++ am_skL 20) ++ am_skL 27) ++ am_acL 34) ++ ((103, 2, [some (.ref 205), some (.ref 212)]) :: (am_skL 205 ++ am_skL 212)))) ++ [(2, 5, [some .null, some .null, some .null, some .null, some .null])]) rfl rfl (hm.z (by omega)) dX7_init_119 nw_X7_44 (Nat.le_of_ble_eq_true rfl) (Nat.le_of_ble_eq_true rfl) rfl ?_
  refine aw_dup dX7_init_122 rfl ?_
  refine aw_aload_n dX7_init_123 rfl ?_
  refine aw_gr dX7_init_124 gf_X7_30 (ap_at (pre := []) (a := 0) (i := 0) rfl rfl rfl) (by rfl) ?_
  refine aw_ci (As := [.ref 27]) dX7_init_127 ml_X7_46 im_X2_init rfl (c_X2_initP [] ((6, 10, [some (.ref 1), some (.ref 18), some (.ref 20), some (.ref 27), some (.ref 34), some (.ref 204), some .null, some .null, none, none]) :: (((((((102, 8, am_rwR 8) :: am_rwS 8) ++ am_tpL 18) ++ am_skL 20) ++ am_skL 27) ++ am_acL 34) ++ ((103, 2, [some (.ref 205), some (.ref 212)]) :: (am_skL 205 ++ am_skL 212)))) 219 rfl (fun b hb => hm.z (by omega)) 27) rfl rfl (Nat.le_of_ble_eq_true rfl) (Nat.le_of_ble_eq_true rfl) (Nat.le_of_ble_eq_true rfl) ⟨Nat.le_of_ble_eq_true rfl, Nat.le_of_ble_eq_true rfl⟩ (fun v sh2 μ2 hq => ?_)
  obtain ⟨rfl, rfl, rfl⟩ := hq
  refine ap_pr (pre := []) (a := 0) (i := 0) (l' := (6, 10, [some (.ref 1), some (.ref 18), some (.ref 20), some (.ref 27), some (.ref 34), some (.ref 204), some (.ref 219), some .null, none, none]) :: ((((((((102, 8, am_rwR 8) :: am_rwS 8) ++ am_tpL 18) ++ am_skL 20) ++ am_skL 27) ++ am_acL 34) ++ ((103, 2, [some (.ref 205), some (.ref 212)]) :: (am_skL 205 ++ am_skL 212))) ++ am_ftL 27 219)) rfl rfl dX7_init_130 pf_X7_49 rfl (fun _ => rfl) (fun _ => rfl) rfl rfl rfl ?_
  refine aw_aload_n dX7_init_133 rfl ?_
  refine ap_new (pre := []) (a := 0) (q := 232) (l' := ((6, 10, [some (.ref 1), some (.ref 18), some (.ref 20), some (.ref 27), some (.ref 34), some (.ref 204), some (.ref 219), some .null, none, none]) :: ((((((((102, 8, am_rwR 8) :: am_rwS 8) ++ am_tpL 18) ++ am_skL 20) ++ am_skL 27) ++ am_acL 34) ++ ((103, 2, [some (.ref 205), some (.ref 212)]) :: (am_skL 205 ++ am_skL 212))) ++ am_ftL 27 219)) ++ [(1, 3, [some .null, some .null, none])]) rfl rfl (hm.z (by omega)) dX7_init_134 nw_X7_53 (Nat.le_of_ble_eq_true rfl) (Nat.le_of_ble_eq_true rfl) rfl ?_
  refine aw_dup dX7_init_137 rfl ?_
  refine aw_aload_n dX7_init_138 rfl ?_
  refine aw_gr dX7_init_139 gf_X7_30 (ap_at (pre := []) (a := 0) (i := 0) rfl rfl rfl) (by rfl) ?_
  refine aw_ci (As := [.ref 27]) dX7_init_142 ml_X7_55 im_X1_init rfl (c_X1_initP [] ((6, 10, [some (.ref 1), some (.ref 18), some (.ref 20), some (.ref 27), some (.ref 34), some (.ref 204), some (.ref 219), some .null, none, none]) :: ((((((((102, 8, am_rwR 8) :: am_rwS 8) ++ am_tpL 18) ++ am_skL 20) ++ am_skL 27) ++ am_acL 34) ++ ((103, 2, [some (.ref 205), some (.ref 212)]) :: (am_skL 205 ++ am_skL 212))) ++ am_ftL 27 219)) 232 rfl (fun b hb => hm.z (by omega)) 27) rfl rfl (Nat.le_of_ble_eq_true rfl) (Nat.le_of_ble_eq_true rfl) (Nat.le_of_ble_eq_true rfl) ⟨Nat.le_of_ble_eq_true rfl, Nat.le_of_ble_eq_true rfl⟩ (fun v sh2 μ2 hq => ?_)
  obtain ⟨rfl, rfl, rfl⟩ := hq
  refine ap_pr (pre := []) (a := 0) (i := 0) (l' := (6, 10, [some (.ref 1), some (.ref 18), some (.ref 20), some (.ref 27), some (.ref 34), some (.ref 204), some (.ref 219), some (.ref 232), none, none]) :: (((((((((102, 8, am_rwR 8) :: am_rwS 8) ++ am_tpL 18) ++ am_skL 20) ++ am_skL 27) ++ am_acL 34) ++ ((103, 2, [some (.ref 205), some (.ref 212)]) :: (am_skL 205 ++ am_skL 212))) ++ am_ftL 27 219) ++ am_akL 27 232)) rfl rfl dX7_init_145 pf_X7_56 rfl (fun _ => rfl) (fun _ => rfl) rfl rfl rfl ?_
  refine aw_aload_n dX7_init_148 rfl ?_
  refine aw_iconst (v := nI 0) dX7_init_149 rfl ?_
  refine aw_pi dX7_init_150 pf_X7_60 rfl rfl (ap_at (pre := []) (a := 0) (i := 0) rfl rfl rfl) (by rfl) ?_
  refine aw_mem (am_up_zz (hm.2 0 (fun j hj => by omega))) ?_
  refine aw_aload_n dX7_init_153 rfl ?_
  refine aw_iconst (v := nI 0) dX7_init_154 rfl ?_
  refine aw_pi dX7_init_155 pf_X7_64 rfl rfl (ap_at (pre := []) (a := 0) (i := 0) rfl rfl rfl) (by rfl) ?_
  refine aw_mem (am_up_zz (hm.2 0 (fun j hj => by omega))) ?_
  refine aw_vret dX7_init_158 rfl rfl rfl ?_
  exact ⟨rfl, rfl, hm⟩
set_option maxRecDepth 100000 in
set_option maxHeartbeats 4000000 in
theorem c_X7_init {G : am_G} {μ : am_M} (hz : ∀ b, μ b = fun _ => 0) : am_MA G yX7_init cX7_init 2 none 3 233 2063 [.ref 0] [(6, 10, [some .null, some .null, some .null, some .null, some .null, some .null, some .null, some .null, none, none])] μ (am_P none am_SC (am_mi 8)) := by
  refine am_ofK (own := RX7) (nm := "<init>") (L := [some (.ref 0), none]) rfl rfl (by decide +kernel) (Nat.le_of_ble_eq_true rfl) rfl ?_
  refine aw_shp (show _ = [] ++ [(6, 10, [some .null, some .null, some .null, some .null, some .null, some .null, some .null, some .null, none, none])] from rfl) ?_
  refine aw_aload_n dX7_init_0 rfl ?_
  refine aw_obj dX7_init_1 lk_X7_1 im_obj cw_obj (Nat.le_of_ble_eq_true rfl) (Nat.le_of_ble_eq_true rfl) (Nat.le_of_ble_eq_true rfl) ?_
  refine aw_aload_n dX7_init_4 rfl ?_
  refine aw_bipush (v := nI 8) dX7_init_5 rfl ?_
  refine ap_newr (pre := []) 2 (a := 0) (q := 1) (l' := [(6, 10, [some .null, some .null, some .null, some .null, some .null, some .null, some .null, some .null, none, none])] ++ [(102, 8, am_rwR 0)]) rfl rfl (hz 1) dX7_init_7 cl_X7_9 (Or.inl ⟨rfl, rfl⟩) rfl (by decide) (Nat.le_of_ble_eq_true rfl) (Nat.le_of_ble_eq_true rfl) rfl ?_
  refine ap_pr (pre := []) (a := 0) (i := 0) (l' := ((6, 10, [some (.ref 1), some .null, some .null, some .null, some .null, some .null, some .null, some .null, none, none]) :: (102, 8, am_rwR 0) :: am_rwS 0)) rfl rfl dX7_init_10 pf_X7_11 rfl (fun _ => rfl) (fun _ => rfl) rfl rfl rfl ?_
  refine aw_iconst (v := nI 0) dX7_init_13 rfl ?_
  refine aw_istore_n dX7_init_14 (Nat.le_of_ble_eq_true rfl) ?_
  exact l_X7_init (fun μ1 hm => b_X7_init μ1 hm) 8 0 μ rfl ⟨fun j hj => absurd hj (Nat.not_lt_zero j), fun b _ => hz b⟩
def am_mdL (a : Nat) : List am_S := [(7, 24, [some (.ref (a + 1)), some (.ref (a + 2)), some (.ref (a + 3)), none, some (.ref (a + 4)), none, none, none, some (.ref (a + 5)), none, some (.ref (a + 6)), some (.ref (a + 7)), some (.ref (a + 8)), none, some (.ref (a + 9)), none, none, none, none, none, some (.ref (a + 10)), some (.ref (a + 11)), some (.ref (a + 12)), some (.ref (a + 13))]), (100, 8, []), (100, 8, []), (100, 320, []), (100, 100, []), (100, 32, []), (100, 768, []), (100, 64, []), (101, 2, []), (100, 16, []), (100, 32, []), (100, 32, []), (100, 2730, []), (100, 10, [])]
set_option maxRecDepth 100000 in
set_option maxHeartbeats 4000000 in
theorem l_X8_init {G : am_G} {μ : am_M} (pre : List am_S) (a : Nat) (ha : pre.length = a) : ∀ (r i : Nat) (μ1 : am_M), i + r = 8 → (∀ j, j < i → μ1 (a + 2) j = -1) → (∀ b, b ≠ a + 2 → μ1 b = μ b) → am_W (am_K G RX8 "<init>" 2 none 1 13 4122 (am_P none (pre ++ am_mdL a) (fun μ9 => (∀ j, j < 8 → μ9 (a + 2) j = -1) ∧ ∀ b, b ≠ a + 2 → μ9 b = μ b))) cX8_init 112 [some (.ref a), some (.int (nI i))] [] (pre ++ am_mdL a) μ1 13 4122 := by
  intro r
  induction r with
  | zero =>
    intro i μ1 hi h1 h2
    have e : i = 8 := by omega
    subst e
    refine aw_iload_n dX8_init_112 rfl ?_
    refine aw_bipush (v := nI 8) dX8_init_113 rfl ?_
    refine aw_icmp_ge (tgt := 131) dX8_init_115 (by decide) (fun c115 => ?_) (fun c115 => ?_)
    · refine aw_vret dX8_init_131 rfl rfl rfl ?_
      exact ⟨rfl, rfl, h1, h2⟩
    · exact absurd (nI_le (by omega) (by omega)) c115
  | succ r ih =>
    intro i μ1 hi h1 h2
    refine aw_iload_n dX8_init_112 rfl ?_
    refine aw_bipush (v := nI 8) dX8_init_113 rfl ?_
    refine aw_icmp_ge (tgt := 131) dX8_init_115 (by decide) (fun c115 => ?_) (fun c115 => ?_)
    · exact absurd c115 (nI_ge (by omega) (by omega))
    · refine aw_aload_n dX8_init_118 rfl ?_
      refine aw_gr dX8_init_119 gf_X8_13 (ap_at (i := 0) ha rfl rfl) (by rfl) ?_
      refine aw_iload_n dX8_init_122 rfl ?_
      refine aw_iconst (v := (-1)) dX8_init_123 rfl ?_
      refine aw_iast dX8_init_124 (ap_at (x := a + 2) (i := 2) (c := (100, 8, [])) ha rfl rfl) rfl (by omega) (by decide) ?_
      refine aw_iinc (v := nI (i + 1)) dX8_init_125 rfl (nI_1 i) (Nat.le_of_ble_eq_true rfl) ?_
      refine aw_goto (tgt := 112) dX8_init_128 (by decide) ?_
      refine ih (i + 1) _ (by omega) (fun j hj => ?_) (fun b hb => by rw [am_up_n hb]; exact h2 b hb)
      rw [am_ups]
      by_cases e : j = i
      · rw [e, pk_us]
      · rw [pk_un e]; exact h1 j (by omega)
set_option maxRecDepth 100000 in
set_option maxHeartbeats 4000000 in
theorem c_X8_init {G : am_G} {μ : am_M} (pre : List am_S) (a : Nat) (ha : pre.length = a) (hz : ∀ b, a < b → μ b = fun _ => 0) : am_MA G yX8_init cX8_init 2 none 1 13 4122 [.ref a] (pre ++ [(7, 24, [some .null, some .null, some .null, none, some .null, none, none, none, some .null, none, some .null, some .null, some .null, none, some .null, none, none, none, none, none, some .null, some .null, some .null, some .null])]) μ (am_P none (pre ++ am_mdL a) (fun μ9 => (∀ j, j < 8 → μ9 (a + 2) j = -1) ∧ ∀ b, b ≠ a + 2 → μ9 b = μ b)) := by
  refine am_ofK (own := RX8) (nm := "<init>") (L := [some (.ref a), none]) rfl rfl (by decide +kernel) (Nat.le_of_ble_eq_true rfl) rfl ?_
  refine aw_aload_n dX8_init_0 rfl ?_
  refine aw_obj dX8_init_1 lk_X8_1 im_obj cw_obj (Nat.le_of_ble_eq_true rfl) (Nat.le_of_ble_eq_true rfl) (Nat.le_of_ble_eq_true rfl) ?_
  refine aw_aload_n dX8_init_4 rfl ?_
  refine aw_bipush (v := nI 8) dX8_init_5 rfl ?_
  refine ap_newi (q := (a + 1)) (l' := [(7, 24, [some .null, some .null, some .null, none, some .null, none, none, none, some .null, none, some .null, some .null, some .null, none, some .null, none, none, none, none, none, some .null, some .null, some .null, some .null]), (100, 8, [])]) ha rfl (hz _ (by omega)) dX8_init_7 rfl (by decide) (Nat.le_of_ble_eq_true rfl) (Nat.le_of_ble_eq_true rfl) rfl ?_
  refine ap_pr (i := 0) (l' := [(7, 24, [some (.ref (a + 1)), some .null, some .null, none, some .null, none, none, none, some .null, none, some .null, some .null, some .null, none, some .null, none, none, none, none, none, some .null, some .null, some .null, some .null]), (100, 8, [])]) ha rfl dX8_init_9 pf_X8_7 rfl (fun _ => rfl) (fun _ => rfl) rfl rfl rfl ?_
  refine aw_aload_n dX8_init_12 rfl ?_
  refine aw_bipush (v := nI 8) dX8_init_13 rfl ?_
  refine ap_newi (q := (a + 2)) (l' := [(7, 24, [some (.ref (a + 1)), some .null, some .null, none, some .null, none, none, none, some .null, none, some .null, some .null, some .null, none, some .null, none, none, none, none, none, some .null, some .null, some .null, some .null]), (100, 8, []), (100, 8, [])]) ha rfl (hz _ (by omega)) dX8_init_15 rfl (by decide) (Nat.le_of_ble_eq_true rfl) (Nat.le_of_ble_eq_true rfl) rfl ?_
  refine ap_pr (i := 0) (l' := [(7, 24, [some (.ref (a + 1)), some (.ref (a + 2)), some .null, none, some .null, none, none, none, some .null, none, some .null, some .null, some .null, none, some .null, none, none, none, none, none, some .null, some .null, some .null, some .null]), (100, 8, []), (100, 8, [])]) ha rfl dX8_init_17 pf_X8_13 rfl (fun _ => rfl) (fun _ => rfl) rfl rfl rfl ?_
  refine aw_aload_n dX8_init_20 rfl ?_
  refine aw_sipush (v := nI 320) dX8_init_21 rfl ?_
  refine ap_newi (q := (a + 3)) (l' := [(7, 24, [some (.ref (a + 1)), some (.ref (a + 2)), some .null, none, some .null, none, none, none, some .null, none, some .null, some .null, some .null, none, some .null, none, none, none, none, none, some .null, some .null, some .null, some .null]), (100, 8, []), (100, 8, []), (100, 320, [])]) ha rfl (hz _ (by omega)) dX8_init_24 rfl (by decide) (Nat.le_of_ble_eq_true rfl) (Nat.le_of_ble_eq_true rfl) rfl ?_
  refine ap_pr (i := 0) (l' := [(7, 24, [some (.ref (a + 1)), some (.ref (a + 2)), some (.ref (a + 3)), none, some .null, none, none, none, some .null, none, some .null, some .null, some .null, none, some .null, none, none, none, none, none, some .null, some .null, some .null, some .null]), (100, 8, []), (100, 8, []), (100, 320, [])]) ha rfl dX8_init_26 pf_X8_16 rfl (fun _ => rfl) (fun _ => rfl) rfl rfl rfl ?_
  refine aw_aload_n dX8_init_29 rfl ?_
  refine aw_bipush (v := nI 100) dX8_init_30 rfl ?_
  refine ap_newi (q := (a + 4)) (l' := [(7, 24, [some (.ref (a + 1)), some (.ref (a + 2)), some (.ref (a + 3)), none, some .null, none, none, none, some .null, none, some .null, some .null, some .null, none, some .null, none, none, none, none, none, some .null, some .null, some .null, some .null]), (100, 8, []), (100, 8, []), (100, 320, []), (100, 100, [])]) ha rfl (hz _ (by omega)) dX8_init_32 rfl (by decide) (Nat.le_of_ble_eq_true rfl) (Nat.le_of_ble_eq_true rfl) rfl ?_
  refine ap_pr (i := 0) (l' := [(7, 24, [some (.ref (a + 1)), some (.ref (a + 2)), some (.ref (a + 3)), none, some (.ref (a + 4)), none, none, none, some .null, none, some .null, some .null, some .null, none, some .null, none, none, none, none, none, some .null, some .null, some .null, some .null]), (100, 8, []), (100, 8, []), (100, 320, []), (100, 100, [])]) ha rfl dX8_init_34 pf_X8_19 rfl (fun _ => rfl) (fun _ => rfl) rfl rfl rfl ?_
  refine aw_aload_n dX8_init_37 rfl ?_
  refine aw_bipush (v := nI 32) dX8_init_38 rfl ?_
  refine ap_newi (q := (a + 5)) (l' := [(7, 24, [some (.ref (a + 1)), some (.ref (a + 2)), some (.ref (a + 3)), none, some (.ref (a + 4)), none, none, none, some .null, none, some .null, some .null, some .null, none, some .null, none, none, none, none, none, some .null, some .null, some .null, some .null]), (100, 8, []), (100, 8, []), (100, 320, []), (100, 100, []), (100, 32, [])]) ha rfl (hz _ (by omega)) dX8_init_40 rfl (by decide) (Nat.le_of_ble_eq_true rfl) (Nat.le_of_ble_eq_true rfl) rfl ?_
  refine ap_pr (i := 0) (l' := [(7, 24, [some (.ref (a + 1)), some (.ref (a + 2)), some (.ref (a + 3)), none, some (.ref (a + 4)), none, none, none, some (.ref (a + 5)), none, some .null, some .null, some .null, none, some .null, none, none, none, none, none, some .null, some .null, some .null, some .null]), (100, 8, []), (100, 8, []), (100, 320, []), (100, 100, []), (100, 32, [])]) ha rfl dX8_init_42 pf_X8_22 rfl (fun _ => rfl) (fun _ => rfl) rfl rfl rfl ?_
  refine aw_aload_n dX8_init_45 rfl ?_
  refine aw_sipush (v := nI 768) dX8_init_46 rfl ?_
  refine ap_newi (q := (a + 6)) (l' := [(7, 24, [some (.ref (a + 1)), some (.ref (a + 2)), some (.ref (a + 3)), none, some (.ref (a + 4)), none, none, none, some (.ref (a + 5)), none, some .null, some .null, some .null, none, some .null, none, none, none, none, none, some .null, some .null, some .null, some .null]), (100, 8, []), (100, 8, []), (100, 320, []), (100, 100, []), (100, 32, []), (100, 768, [])]) ha rfl (hz _ (by omega)) dX8_init_49 rfl (by decide) (Nat.le_of_ble_eq_true rfl) (Nat.le_of_ble_eq_true rfl) rfl ?_
  refine ap_pr (i := 0) (l' := [(7, 24, [some (.ref (a + 1)), some (.ref (a + 2)), some (.ref (a + 3)), none, some (.ref (a + 4)), none, none, none, some (.ref (a + 5)), none, some (.ref (a + 6)), some .null, some .null, none, some .null, none, none, none, none, none, some .null, some .null, some .null, some .null]), (100, 8, []), (100, 8, []), (100, 320, []), (100, 100, []), (100, 32, []), (100, 768, [])]) ha rfl dX8_init_51 pf_X8_25 rfl (fun _ => rfl) (fun _ => rfl) rfl rfl rfl ?_
  refine aw_aload_n dX8_init_54 rfl ?_
  refine aw_bipush (v := nI 64) dX8_init_55 rfl ?_
  refine ap_newi (q := (a + 7)) (l' := [(7, 24, [some (.ref (a + 1)), some (.ref (a + 2)), some (.ref (a + 3)), none, some (.ref (a + 4)), none, none, none, some (.ref (a + 5)), none, some (.ref (a + 6)), some .null, some .null, none, some .null, none, none, none, none, none, some .null, some .null, some .null, some .null]), (100, 8, []), (100, 8, []), (100, 320, []), (100, 100, []), (100, 32, []), (100, 768, []), (100, 64, [])]) ha rfl (hz _ (by omega)) dX8_init_57 rfl (by decide) (Nat.le_of_ble_eq_true rfl) (Nat.le_of_ble_eq_true rfl) rfl ?_
  refine ap_pr (i := 0) (l' := [(7, 24, [some (.ref (a + 1)), some (.ref (a + 2)), some (.ref (a + 3)), none, some (.ref (a + 4)), none, none, none, some (.ref (a + 5)), none, some (.ref (a + 6)), some (.ref (a + 7)), some .null, none, some .null, none, none, none, none, none, some .null, some .null, some .null, some .null]), (100, 8, []), (100, 8, []), (100, 320, []), (100, 100, []), (100, 32, []), (100, 768, []), (100, 64, [])]) ha rfl dX8_init_59 pf_X8_28 rfl (fun _ => rfl) (fun _ => rfl) rfl rfl rfl ?_
  refine aw_aload_n dX8_init_62 rfl ?_
  refine aw_iconst (v := nI 2) dX8_init_63 rfl ?_
  refine ap_newz (q := (a + 8)) (l' := [(7, 24, [some (.ref (a + 1)), some (.ref (a + 2)), some (.ref (a + 3)), none, some (.ref (a + 4)), none, none, none, some (.ref (a + 5)), none, some (.ref (a + 6)), some (.ref (a + 7)), some .null, none, some .null, none, none, none, none, none, some .null, some .null, some .null, some .null]), (100, 8, []), (100, 8, []), (100, 320, []), (100, 100, []), (100, 32, []), (100, 768, []), (100, 64, []), (101, 2, [])]) ha rfl (hz _ (by omega)) dX8_init_64 rfl (by decide) (Nat.le_of_ble_eq_true rfl) (Nat.le_of_ble_eq_true rfl) rfl ?_
  refine ap_pr (i := 0) (l' := [(7, 24, [some (.ref (a + 1)), some (.ref (a + 2)), some (.ref (a + 3)), none, some (.ref (a + 4)), none, none, none, some (.ref (a + 5)), none, some (.ref (a + 6)), some (.ref (a + 7)), some (.ref (a + 8)), none, some .null, none, none, none, none, none, some .null, some .null, some .null, some .null]), (100, 8, []), (100, 8, []), (100, 320, []), (100, 100, []), (100, 32, []), (100, 768, []), (100, 64, []), (101, 2, [])]) ha rfl dX8_init_66 pf_X8_31 rfl (fun _ => rfl) (fun _ => rfl) rfl rfl rfl ?_
  refine aw_aload_n dX8_init_69 rfl ?_
  refine aw_bipush (v := nI 16) dX8_init_70 rfl ?_
  refine ap_newi (q := (a + 9)) (l' := [(7, 24, [some (.ref (a + 1)), some (.ref (a + 2)), some (.ref (a + 3)), none, some (.ref (a + 4)), none, none, none, some (.ref (a + 5)), none, some (.ref (a + 6)), some (.ref (a + 7)), some (.ref (a + 8)), none, some .null, none, none, none, none, none, some .null, some .null, some .null, some .null]), (100, 8, []), (100, 8, []), (100, 320, []), (100, 100, []), (100, 32, []), (100, 768, []), (100, 64, []), (101, 2, []), (100, 16, [])]) ha rfl (hz _ (by omega)) dX8_init_72 rfl (by decide) (Nat.le_of_ble_eq_true rfl) (Nat.le_of_ble_eq_true rfl) rfl ?_
  refine ap_pr (i := 0) (l' := [(7, 24, [some (.ref (a + 1)), some (.ref (a + 2)), some (.ref (a + 3)), none, some (.ref (a + 4)), none, none, none, some (.ref (a + 5)), none, some (.ref (a + 6)), some (.ref (a + 7)), some (.ref (a + 8)), none, some (.ref (a + 9)), none, none, none, none, none, some .null, some .null, some .null, some .null]), (100, 8, []), (100, 8, []), (100, 320, []), (100, 100, []), (100, 32, []), (100, 768, []), (100, 64, []), (101, 2, []), (100, 16, [])]) ha rfl dX8_init_74 pf_X8_35 rfl (fun _ => rfl) (fun _ => rfl) rfl rfl rfl ?_
  refine aw_aload_n dX8_init_77 rfl ?_
  refine aw_bipush (v := nI 32) dX8_init_78 rfl ?_
  refine ap_newi (q := (a + 10)) (l' := [(7, 24, [some (.ref (a + 1)), some (.ref (a + 2)), some (.ref (a + 3)), none, some (.ref (a + 4)), none, none, none, some (.ref (a + 5)), none, some (.ref (a + 6)), some (.ref (a + 7)), some (.ref (a + 8)), none, some (.ref (a + 9)), none, none, none, none, none, some .null, some .null, some .null, some .null]), (100, 8, []), (100, 8, []), (100, 320, []), (100, 100, []), (100, 32, []), (100, 768, []), (100, 64, []), (101, 2, []), (100, 16, []), (100, 32, [])]) ha rfl (hz _ (by omega)) dX8_init_80 rfl (by decide) (Nat.le_of_ble_eq_true rfl) (Nat.le_of_ble_eq_true rfl) rfl ?_
  refine ap_pr (i := 0) (l' := [(7, 24, [some (.ref (a + 1)), some (.ref (a + 2)), some (.ref (a + 3)), none, some (.ref (a + 4)), none, none, none, some (.ref (a + 5)), none, some (.ref (a + 6)), some (.ref (a + 7)), some (.ref (a + 8)), none, some (.ref (a + 9)), none, none, none, none, none, some (.ref (a + 10)), some .null, some .null, some .null]), (100, 8, []), (100, 8, []), (100, 320, []), (100, 100, []), (100, 32, []), (100, 768, []), (100, 64, []), (101, 2, []), (100, 16, []), (100, 32, [])]) ha rfl dX8_init_82 pf_X8_38 rfl (fun _ => rfl) (fun _ => rfl) rfl rfl rfl ?_
  refine aw_aload_n dX8_init_85 rfl ?_
  refine aw_bipush (v := nI 32) dX8_init_86 rfl ?_
  refine ap_newi (q := (a + 11)) (l' := [(7, 24, [some (.ref (a + 1)), some (.ref (a + 2)), some (.ref (a + 3)), none, some (.ref (a + 4)), none, none, none, some (.ref (a + 5)), none, some (.ref (a + 6)), some (.ref (a + 7)), some (.ref (a + 8)), none, some (.ref (a + 9)), none, none, none, none, none, some (.ref (a + 10)), some .null, some .null, some .null]), (100, 8, []), (100, 8, []), (100, 320, []), (100, 100, []), (100, 32, []), (100, 768, []), (100, 64, []), (101, 2, []), (100, 16, []), (100, 32, []), (100, 32, [])]) ha rfl (hz _ (by omega)) dX8_init_88 rfl (by decide) (Nat.le_of_ble_eq_true rfl) (Nat.le_of_ble_eq_true rfl) rfl ?_
  refine ap_pr (i := 0) (l' := [(7, 24, [some (.ref (a + 1)), some (.ref (a + 2)), some (.ref (a + 3)), none, some (.ref (a + 4)), none, none, none, some (.ref (a + 5)), none, some (.ref (a + 6)), some (.ref (a + 7)), some (.ref (a + 8)), none, some (.ref (a + 9)), none, none, none, none, none, some (.ref (a + 10)), some (.ref (a + 11)), some .null, some .null]), (100, 8, []), (100, 8, []), (100, 320, []), (100, 100, []), (100, 32, []), (100, 768, []), (100, 64, []), (101, 2, []), (100, 16, []), (100, 32, []), (100, 32, [])]) ha rfl dX8_init_90 pf_X8_41 rfl (fun _ => rfl) (fun _ => rfl) rfl rfl rfl ?_
  refine aw_aload_n dX8_init_93 rfl ?_
  refine aw_sipush (v := nI 2730) dX8_init_94 rfl ?_
  refine ap_newi (q := (a + 12)) (l' := [(7, 24, [some (.ref (a + 1)), some (.ref (a + 2)), some (.ref (a + 3)), none, some (.ref (a + 4)), none, none, none, some (.ref (a + 5)), none, some (.ref (a + 6)), some (.ref (a + 7)), some (.ref (a + 8)), none, some (.ref (a + 9)), none, none, none, none, none, some (.ref (a + 10)), some (.ref (a + 11)), some .null, some .null]), (100, 8, []), (100, 8, []), (100, 320, []), (100, 100, []), (100, 32, []), (100, 768, []), (100, 64, []), (101, 2, []), (100, 16, []), (100, 32, []), (100, 32, []), (100, 2730, [])]) ha rfl (hz _ (by omega)) dX8_init_97 rfl (by decide) (Nat.le_of_ble_eq_true rfl) (Nat.le_of_ble_eq_true rfl) rfl ?_
  refine ap_pr (i := 0) (l' := [(7, 24, [some (.ref (a + 1)), some (.ref (a + 2)), some (.ref (a + 3)), none, some (.ref (a + 4)), none, none, none, some (.ref (a + 5)), none, some (.ref (a + 6)), some (.ref (a + 7)), some (.ref (a + 8)), none, some (.ref (a + 9)), none, none, none, none, none, some (.ref (a + 10)), some (.ref (a + 11)), some (.ref (a + 12)), some .null]), (100, 8, []), (100, 8, []), (100, 320, []), (100, 100, []), (100, 32, []), (100, 768, []), (100, 64, []), (101, 2, []), (100, 16, []), (100, 32, []), (100, 32, []), (100, 2730, [])]) ha rfl dX8_init_99 pf_X8_44 rfl (fun _ => rfl) (fun _ => rfl) rfl rfl rfl ?_
  refine aw_aload_n dX8_init_102 rfl ?_
  refine aw_bipush (v := nI 10) dX8_init_103 rfl ?_
  refine ap_newi (q := (a + 13)) (l' := [(7, 24, [some (.ref (a + 1)), some (.ref (a + 2)), some (.ref (a + 3)), none, some (.ref (a + 4)), none, none, none, some (.ref (a + 5)), none, some (.ref (a + 6)), some (.ref (a + 7)), some (.ref (a + 8)), none, some (.ref (a + 9)), none, none, none, none, none, some (.ref (a + 10)), some (.ref (a + 11)), some (.ref (a + 12)), some .null]), (100, 8, []), (100, 8, []), (100, 320, []), (100, 100, []), (100, 32, []), (100, 768, []), (100, 64, []), (101, 2, []), (100, 16, []), (100, 32, []), (100, 32, []), (100, 2730, []), (100, 10, [])]) ha rfl (hz _ (by omega)) dX8_init_105 rfl (by decide) (Nat.le_of_ble_eq_true rfl) (Nat.le_of_ble_eq_true rfl) rfl ?_
  refine ap_pr (i := 0) (l' := [(7, 24, [some (.ref (a + 1)), some (.ref (a + 2)), some (.ref (a + 3)), none, some (.ref (a + 4)), none, none, none, some (.ref (a + 5)), none, some (.ref (a + 6)), some (.ref (a + 7)), some (.ref (a + 8)), none, some (.ref (a + 9)), none, none, none, none, none, some (.ref (a + 10)), some (.ref (a + 11)), some (.ref (a + 12)), some (.ref (a + 13))]), (100, 8, []), (100, 8, []), (100, 320, []), (100, 100, []), (100, 32, []), (100, 768, []), (100, 64, []), (101, 2, []), (100, 16, []), (100, 32, []), (100, 32, []), (100, 2730, []), (100, 10, [])]) ha rfl dX8_init_107 pf_X8_47 rfl (fun _ => rfl) (fun _ => rfl) rfl rfl rfl ?_
  refine aw_iconst (v := nI 0) dX8_init_110 rfl ?_
  refine aw_istore_n dX8_init_111 (Nat.le_of_ble_eq_true rfl) ?_
  exact l_X8_init pre a ha 8 0 μ rfl (fun j hj => absurd hj (Nat.not_lt_zero j)) (fun b _ => rfl)
theorem am_mdL_eq : am_mdL 234 = am_SH5 := rfl
