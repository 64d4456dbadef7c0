/-! ===== constructors ===== -/
def am_skL (a : Nat) : List am_S := [(4, 9, [none, none, none, some (.ref (a + 1)), some (.ref (a + 2)), some (.ref (a + 3)), some (.ref (a + 4)), some (.ref (a + 5)), some (.ref (a + 6))]), (100, 4, []), (100, 5, []), (100, 5, []), (100, 5, []), (100, 5, []), (100, 5, [])]
set_option maxRecDepth 100000 in
set_option maxHeartbeats 4000000 in
theorem c_X5_init {G : am_G} {μ : am_M} (pre : List am_S) (a : Nat) (ha : pre.length = a) (hz : ∀ b, a < b → μ b = fun _ => 0) : am_MA G yX5_init cX5_init 1 none 1 6 29 [.ref a] (pre ++ [(4, 9, [none, none, none, some .null, some .null, some .null, some .null, some .null, some .null])]) μ (am_E none (pre ++ am_skL a) μ) := by
  refine am_ofK (own := RX5) (nm := "<init>") (L := [some (.ref a)]) rfl rfl (by decide +kernel) (Nat.le_of_ble_eq_true rfl) rfl ?_
  refine aw_aload_n dX5_init_0 rfl ?_
  refine aw_obj dX5_init_1 lk_X5_1 im_obj cw_obj (Nat.le_of_ble_eq_true rfl) (Nat.le_of_ble_eq_true rfl) (Nat.le_of_ble_eq_true rfl) ?_
  refine aw_aload_n dX5_init_4 rfl ?_
  refine aw_iconst (v := nI 4) dX5_init_5 rfl ?_
  refine ap_newi (q := (a + 1)) (l' := [(4, 9, [none, none, none, some .null, some .null, some .null, some .null, some .null, some .null]), (100, 4, [])]) ha rfl (hz _ (by omega)) dX5_init_6 rfl (by decide) (Nat.le_of_ble_eq_true rfl) (Nat.le_of_ble_eq_true rfl) rfl ?_
  refine ap_pr (i := 0) (l' := [(4, 9, [none, none, none, some (.ref (a + 1)), some .null, some .null, some .null, some .null, some .null]), (100, 4, [])]) ha rfl dX5_init_8 pf_X5_9 rfl (fun _ => rfl) (fun _ => rfl) rfl rfl rfl ?_
  refine aw_aload_n dX5_init_11 rfl ?_
  refine aw_iconst (v := nI 5) dX5_init_12 rfl ?_
  refine ap_newi (q := (a + 2)) (l' := [(4, 9, [none, none, none, some (.ref (a + 1)), some .null, some .null, some .null, some .null, some .null]), (100, 4, []), (100, 5, [])]) ha rfl (hz _ (by omega)) dX5_init_13 rfl (by decide) (Nat.le_of_ble_eq_true rfl) (Nat.le_of_ble_eq_true rfl) rfl ?_
  refine ap_pr (i := 0) (l' := [(4, 9, [none, none, none, some (.ref (a + 1)), some (.ref (a + 2)), some .null, some .null, some .null, some .null]), (100, 4, []), (100, 5, [])]) ha rfl dX5_init_15 pf_X5_13 rfl (fun _ => rfl) (fun _ => rfl) rfl rfl rfl ?_
  refine aw_aload_n dX5_init_18 rfl ?_
  refine aw_iconst (v := nI 5) dX5_init_19 rfl ?_
  refine ap_newi (q := (a + 3)) (l' := [(4, 9, [none, none, none, some (.ref (a + 1)), some (.ref (a + 2)), some .null, some .null, some .null, some .null]), (100, 4, []), (100, 5, []), (100, 5, [])]) ha rfl (hz _ (by omega)) dX5_init_20 rfl (by decide) (Nat.le_of_ble_eq_true rfl) (Nat.le_of_ble_eq_true rfl) rfl ?_
  refine ap_pr (i := 0) (l' := [(4, 9, [none, none, none, some (.ref (a + 1)), some (.ref (a + 2)), some (.ref (a + 3)), some .null, some .null, some .null]), (100, 4, []), (100, 5, []), (100, 5, [])]) ha rfl dX5_init_22 pf_X5_16 rfl (fun _ => rfl) (fun _ => rfl) rfl rfl rfl ?_
  refine aw_aload_n dX5_init_25 rfl ?_
  refine aw_iconst (v := nI 5) dX5_init_26 rfl ?_
  refine ap_newi (q := (a + 4)) (l' := [(4, 9, [none, none, none, some (.ref (a + 1)), some (.ref (a + 2)), some (.ref (a + 3)), some .null, some .null, some .null]), (100, 4, []), (100, 5, []), (100, 5, []), (100, 5, [])]) ha rfl (hz _ (by omega)) dX5_init_27 rfl (by decide) (Nat.le_of_ble_eq_true rfl) (Nat.le_of_ble_eq_true rfl) rfl ?_
  refine ap_pr (i := 0) (l' := [(4, 9, [none, none, none, some (.ref (a + 1)), some (.ref (a + 2)), some (.ref (a + 3)), some (.ref (a + 4)), some .null, some .null]), (100, 4, []), (100, 5, []), (100, 5, []), (100, 5, [])]) ha rfl dX5_init_29 pf_X5_19 rfl (fun _ => rfl) (fun _ => rfl) rfl rfl rfl ?_
  refine aw_aload_n dX5_init_32 rfl ?_
  refine aw_iconst (v := nI 5) dX5_init_33 rfl ?_
  refine ap_newi (q := (a + 5)) (l' := [(4, 9, [none, none, none, some (.ref (a + 1)), some (.ref (a + 2)), some (.ref (a + 3)), some (.ref (a + 4)), some .null, some .null]), (100, 4, []), (100, 5, []), (100, 5, []), (100, 5, []), (100, 5, [])]) ha rfl (hz _ (by omega)) dX5_init_34 rfl (by decide) (Nat.le_of_ble_eq_true rfl) (Nat.le_of_ble_eq_true rfl) rfl ?_
  refine ap_pr (i := 0) (l' := [(4, 9, [none, none, none, some (.ref (a + 1)), some (.ref (a + 2)), some (.ref (a + 3)), some (.ref (a + 4)), some (.ref (a + 5)), some .null]), (100, 4, []), (100, 5, []), (100, 5, []), (100, 5, []), (100, 5, [])]) ha rfl dX5_init_36 pf_X5_22 rfl (fun _ => rfl) (fun _ => rfl) rfl rfl rfl ?_
  refine aw_aload_n dX5_init_39 rfl ?_
  refine aw_iconst (v := nI 5) dX5_init_40 rfl ?_
  refine ap_newi (q := (a + 6)) (l' := [(4, 9, [none, none, none, some (.ref (a + 1)), some (.ref (a + 2)), some (.ref (a + 3)), some (.ref (a + 4)), some (.ref (a + 5)), some .null]), (100, 4, []), (100, 5, []), (100, 5, []), (100, 5, []), (100, 5, []), (100, 5, [])]) ha rfl (hz _ (by omega)) dX5_init_41 rfl (by decide) (Nat.le_of_ble_eq_true rfl) (Nat.le_of_ble_eq_true rfl) rfl ?_
  refine ap_pr (i := 0) (l' := [(4, 9, [none, none, none, some (.ref (a + 1)), some (.ref (a + 2)), some (.ref (a + 3)), some (.ref (a + 4)), some (.ref (a + 5)), some (.ref (a + 6))]), (100, 4, []), (100, 5, []), (100, 5, []), (100, 5, []), (100, 5, []), (100, 5, [])]) ha rfl dX5_init_43 pf_X5_25 rfl (fun _ => rfl) (fun _ => rfl) rfl rfl rfl ?_
  refine aw_vret dX5_init_46 rfl rfl rfl ?_
  exact ⟨rfl, rfl, rfl⟩
theorem c_X5_initP {G : am_G} {μ : am_M} (pre l : List am_S) (q : Nat) (hq : (pre ++ l).length = q) (hz : ∀ b, q < b → μ b = fun _ => 0) : am_MA G yX5_init cX5_init 1 none 1 6 29 [.ref q] (pre ++ (l ++ [(4, 9, [none, none, none, some .null, some .null, some .null, some .null, some .null, some .null])])) μ (am_E none (pre ++ (l ++ am_skL q)) (μ)) := by
  have h := c_X5_init (G := G) (μ := μ) (pre ++ l) q hq hz
  rw [List.append_assoc, List.append_assoc] at h
  exact h
def am_tpL (a : Nat) : List am_S := [(5, 4, [some (.ref (a + 1)), none, none, none]), (100, 100, [])]
set_option maxRecDepth 100000 in
set_option maxHeartbeats 4000000 in
theorem c_X6_init {G : am_G} {μ : am_M} (pre : List am_S) (a : Nat) (ha : pre.length = a) (hz : ∀ b, a < b → μ b = fun _ => 0) : am_MA G yX6_init cX6_init 1 none 1 1 100 [.ref a] (pre ++ [(5, 4, [some .null, none, none, none])]) μ (am_E none (pre ++ am_tpL a) μ) := by
  refine am_ofK (own := RX6) (nm := "<init>") (L := [some (.ref a)]) rfl rfl (by decide +kernel) (Nat.le_of_ble_eq_true rfl) rfl ?_
  refine aw_aload_n dX6_init_0 rfl ?_
  refine aw_obj dX6_init_1 lk_X6_3 im_obj cw_obj (Nat.le_of_ble_eq_true rfl) (Nat.le_of_ble_eq_true rfl) (Nat.le_of_ble_eq_true rfl) ?_
  refine aw_aload_n dX6_init_4 rfl ?_
  refine aw_bipush (v := nI 100) dX6_init_5 rfl ?_
  refine ap_newi (q := (a + 1)) (l' := [(5, 4, [some .null, none, none, none]), (100, 100, [])]) ha rfl (hz _ (by omega)) dX6_init_7 rfl (by decide) (Nat.le_of_ble_eq_true rfl) (Nat.le_of_ble_eq_true rfl) rfl ?_
  refine ap_pr (i := 0) (l' := [(5, 4, [some (.ref (a + 1)), none, none, none]), (100, 100, [])]) ha rfl dX6_init_9 pf_X6_11 rfl (fun _ => rfl) (fun _ => rfl) rfl rfl rfl ?_
  refine aw_vret dX6_init_12 rfl rfl rfl ?_
  exact ⟨rfl, rfl, rfl⟩
theorem c_X6_initP {G : am_G} {μ : am_M} (pre l : List am_S) (q : Nat) (hq : (pre ++ l).length = q) (hz : ∀ b, q < b → μ b = fun _ => 0) : am_MA G yX6_init cX6_init 1 none 1 1 100 [.ref q] (pre ++ (l ++ [(5, 4, [some .null, none, none, none])])) μ (am_E none (pre ++ (l ++ am_tpL q)) (μ)) := by
  have h := c_X6_init (G := G) (μ := μ) (pre ++ l) q hq hz
  rw [List.append_assoc, List.append_assoc] at h
  exact h
def am_akL (nw a : Nat) : List am_S := [(1, 3, [some (.ref nw), some (.ref (a + 1)), none]), (100, 16, [])]
set_option maxRecDepth 100000 in
set_option maxHeartbeats 4000000 in
theorem c_X1_init {G : am_G} {μ : am_M} (pre : List am_S) (a : Nat) (ha : pre.length = a) (hz : ∀ b, a < b → μ b = fun _ => 0) (nw : Nat) : am_MA G yX1_init cX1_init 2 none 1 1 16 [.ref a, .ref nw] (pre ++ [(1, 3, [some .null, some .null, none])]) μ (am_E none (pre ++ am_akL nw a) μ) := by
  refine am_ofK (own := RX1) (nm := "<init>") (L := [some (.ref a), some (.ref nw)]) rfl rfl (by decide +kernel) (Nat.le_of_ble_eq_true rfl) rfl ?_
  refine aw_aload_n dX1_init_0 rfl ?_
  refine aw_obj dX1_init_1 lk_X1_1 im_obj cw_obj (Nat.le_of_ble_eq_true rfl) (Nat.le_of_ble_eq_true rfl) (Nat.le_of_ble_eq_true rfl) ?_
  refine aw_aload_n dX1_init_4 rfl ?_
  refine aw_bipush (v := nI 16) dX1_init_5 rfl ?_
  refine ap_newi (q := (a + 1)) (l' := [(1, 3, [some .null, some .null, none]), (100, 16, [])]) ha rfl (hz _ (by omega)) dX1_init_7 rfl (by decide) (Nat.le_of_ble_eq_true rfl) (Nat.le_of_ble_eq_true rfl) rfl ?_
  refine ap_pr (i := 0) (l' := [(1, 3, [some .null, some (.ref (a + 1)), none]), (100, 16, [])]) ha rfl dX1_init_9 pf_X1_9 rfl (fun _ => rfl) (fun _ => rfl) rfl rfl rfl ?_
  refine aw_aload_n dX1_init_12 rfl ?_
  refine aw_aload_n dX1_init_13 rfl ?_
  refine ap_pr (i := 0) (l' := [(1, 3, [some (.ref nw), some (.ref (a + 1)), none]), (100, 16, [])]) ha rfl dX1_init_14 pf_X1_13 rfl (fun _ => rfl) (fun _ => rfl) rfl rfl rfl ?_
  refine aw_vret dX1_init_17 rfl rfl rfl ?_
  exact ⟨rfl, rfl, rfl⟩
theorem c_X1_initP {G : am_G} {μ : am_M} (pre l : List am_S) (q : Nat) (hq : (pre ++ l).length = q) (hz : ∀ b, q < b → μ b = fun _ => 0) (nw : Nat) : am_MA G yX1_init cX1_init 2 none 1 1 16 [.ref q, .ref nw] (pre ++ (l ++ [(1, 3, [some .null, some .null, none])])) μ (am_E none (pre ++ (l ++ am_akL nw q)) (μ)) := by
  have h := c_X1_init (G := G) (μ := μ) (pre ++ l) q hq hz nw
  rw [List.append_assoc, List.append_assoc] at h
  exact h
def am_rwL (a : Nat) : List am_S := [(3, 4, [none, none, none, some (.ref (a + 1))]), (100, 40, [])]
set_option maxRecDepth 100000 in
set_option maxHeartbeats 4000000 in
theorem c_X4_init {G : am_G} {μ : am_M} (pre : List am_S) (a : Nat) (ha : pre.length = a) (hz : ∀ b, a < b → μ b = fun _ => 0) : am_MA G yX4_init cX4_init 1 none 1 1 40 [.ref a] (pre ++ [(3, 4, [none, none, none, some .null])]) μ (am_E none (pre ++ am_rwL a) (am_up μ a (upd (μ a) 0 (nI 1)))) := by
  refine am_ofK (own := RX4) (nm := "<init>") (L := [some (.ref a)]) rfl rfl (by decide +kernel) (Nat.le_of_ble_eq_true rfl) rfl ?_
  refine aw_aload_n dX4_init_0 rfl ?_
  refine aw_obj dX4_init_1 lk_X4_3 im_obj cw_obj (Nat.le_of_ble_eq_true rfl) (Nat.le_of_ble_eq_true rfl) (Nat.le_of_ble_eq_true rfl) ?_
  refine aw_aload_n dX4_init_4 rfl ?_
  refine aw_iconst (v := nI 1) dX4_init_5 rfl ?_
  refine aw_pi dX4_init_6 pf_X4_9 rfl rfl (ap_at (i := 0) ha rfl rfl) (by rfl) ?_
  have hz2 : ∀ b, a < b → (am_up μ a (upd (μ a) 0 (nI 1))) b = fun _ => 0 := fun b hb => by rw [am_up_n (by omega)]; exact hz b hb
  refine aw_aload_n dX4_init_9 rfl ?_
  refine aw_bipush (v := nI 40) dX4_init_10 rfl ?_
  refine ap_newi (q := (a + 1)) (l' := [(3, 4, [none, none, none, some .null]), (100, 40, [])]) ha rfl (hz2 _ (by omega)) dX4_init_12 rfl (by decide) (Nat.le_of_ble_eq_true rfl) (Nat.le_of_ble_eq_true rfl) rfl ?_
  refine ap_pr (i := 0) (l' := [(3, 4, [none, none, none, some (.ref (a + 1))]), (100, 40, [])]) ha rfl dX4_init_14 pf_X4_15 rfl (fun _ => rfl) (fun _ => rfl) rfl rfl rfl ?_
  refine aw_vret dX4_init_17 rfl rfl rfl ?_
  exact ⟨rfl, rfl, rfl⟩
theorem c_X4_initP {G : am_G} {μ : am_M} (pre l : List am_S) (q : Nat) (hq : (pre ++ l).length = q) (hz : ∀ b, q < b → μ b = fun _ => 0) : am_MA G yX4_init cX4_init 1 none 1 1 40 [.ref q] (pre ++ (l ++ [(3, 4, [none, none, none, some .null])])) μ (am_E none (pre ++ (l ++ am_rwL q)) (am_up μ q (upd (μ q) 0 (nI 1)))) := by
  have h := c_X4_init (G := G) (μ := μ) (pre ++ l) q hq hz
  rw [List.append_assoc, List.append_assoc] at h
  exact h
def am_ftL (nw a : Nat) : List am_S := [(2, 5, [some (.ref nw), some (.ref (a + 1)), some (.ref (a + 8)), some (.ref (a + 9)), some (.ref (a + 10))]), (4, 9, [none, none, none, some (.ref (a + 2)), some (.ref (a + 3)), some (.ref (a + 4)), some (.ref (a + 5)), some (.ref (a + 6)), some (.ref (a + 7))]), (100, 4, []), (100, 5, []), (100, 5, []), (100, 5, []), (100, 5, []), (100, 5, []), (100, 12, []), (100, 10, []), (104, 2, [some (.ref (a + 11)), some (.ref (a + 12))]), (100, 210, []), (100, 210, [])]
set_option maxRecDepth 100000 in
set_option maxHeartbeats 4000000 in
theorem c_X2_init {G : am_G} {μ : am_M} (pre : List am_S) (a : Nat) (ha : pre.length = a) (hz : ∀ b, a < b → μ b = fun _ => 0) (nw : Nat) : am_MA G yX2_init cX2_init 2 none 2 12 482 [.ref a, .ref nw] (pre ++ [(2, 5, [some .null, some .null, some .null, some .null, some .null])]) μ (am_E none (pre ++ am_ftL nw a) μ) := by
  refine am_ofK (own := RX2) (nm := "<init>") (L := [some (.ref a), some (.ref nw)]) rfl rfl (by decide +kernel) (Nat.le_of_ble_eq_true rfl) rfl ?_
  refine aw_aload_n dX2_init_0 rfl ?_
  refine aw_obj dX2_init_1 lk_X2_7 im_obj cw_obj (Nat.le_of_ble_eq_true rfl) (Nat.le_of_ble_eq_true rfl) (Nat.le_of_ble_eq_true rfl) ?_
  refine aw_aload_n dX2_init_4 rfl ?_
  refine ap_new (q := a + 1) (l' := [(2, 5, [some .null, some .null, some .null, some .null, some .null]), (4, 9, [none, none, none, some .null, some .null, some .null, some .null, some .null, some .null])]) ha rfl (hz _ (by omega)) dX2_init_5 nw_X2_1 (Nat.le_of_ble_eq_true rfl) (Nat.le_of_ble_eq_true rfl) rfl ?_
  refine aw_dup dX2_init_8 rfl ?_
  refine aw_cn (As := []) dX2_init_9 (List.mem_of_getElem? (i := 4) rfl) im_X5_init iw_X5 cw_X5_init nm_X5_init (by decide) rfl (c_X5_initP pre [(2, 5, [some .null, some .null, some .null, some .null, some .null])] (a + 1) (by rw [List.length_append, ha]; rfl) (fun b hb => hz b (by omega))) rfl rfl (Nat.le_of_ble_eq_true rfl) (Nat.le_of_ble_eq_true rfl) (Nat.le_of_ble_eq_true rfl) (⟨Nat.le_of_ble_eq_true rfl, Nat.le_of_ble_eq_true rfl⟩) (fun v sh2 μ2 hq => ?_)
  obtain ⟨rfl, rfl, rfl⟩ := hq
  refine aw_shp (show _ = pre ++ [(2, 5, [some .null, some .null, some .null, some .null, some .null]), (4, 9, [none, none, none, some (.ref (a + 2)), some (.ref (a + 3)), some (.ref (a + 4)), some (.ref (a + 5)), some (.ref (a + 6)), some (.ref (a + 7))]), (100, 4, []), (100, 5, []), (100, 5, []), (100, 5, []), (100, 5, []), (100, 5, [])] from rfl) ?_
  refine ap_pr (i := 0) (l' := [(2, 5, [some .null, some (.ref (a + 1)), some .null, some .null, some .null]), (4, 9, [none, none, none, some (.ref (a + 2)), some (.ref (a + 3)), some (.ref (a + 4)), some (.ref (a + 5)), some (.ref (a + 6)), some (.ref (a + 7))]), (100, 4, []), (100, 5, []), (100, 5, []), (100, 5, []), (100, 5, []), (100, 5, [])]) ha rfl dX2_init_12 pf_X2_14 rfl (fun _ => rfl) (fun _ => rfl) rfl rfl rfl ?_
  refine aw_aload_n dX2_init_15 rfl ?_
  refine aw_bipush (v := nI 12) dX2_init_16 rfl ?_
  refine ap_newi (q := (a + 8)) (l' := [(2, 5, [some .null, some (.ref (a + 1)), some .null, some .null, some .null]), (4, 9, [none, none, none, some (.ref (a + 2)), some (.ref (a + 3)), some (.ref (a + 4)), some (.ref (a + 5)), some (.ref (a + 6)), some (.ref (a + 7))]), (100, 4, []), (100, 5, []), (100, 5, []), (100, 5, []), (100, 5, []), (100, 5, []), (100, 12, [])]) ha rfl (hz _ (by omega)) dX2_init_18 rfl (by decide) (Nat.le_of_ble_eq_true rfl) (Nat.le_of_ble_eq_true rfl) rfl ?_
  refine ap_pr (i := 0) (l' := [(2, 5, [some .null, some (.ref (a + 1)), some (.ref (a + 8)), some .null, some .null]), (4, 9, [none, none, none, some (.ref (a + 2)), some (.ref (a + 3)), some (.ref (a + 4)), some (.ref (a + 5)), some (.ref (a + 6)), some (.ref (a + 7))]), (100, 4, []), (100, 5, []), (100, 5, []), (100, 5, []), (100, 5, []), (100, 5, []), (100, 12, [])]) ha rfl dX2_init_20 pf_X2_18 rfl (fun _ => rfl) (fun _ => rfl) rfl rfl rfl ?_
  refine aw_aload_n dX2_init_23 rfl ?_
  refine aw_bipush (v := nI 10) dX2_init_24 rfl ?_
  refine ap_newi (q := (a + 9)) (l' := [(2, 5, [some .null, some (.ref (a + 1)), some (.ref (a + 8)), some .null, some .null]), (4, 9, [none, none, none, some (.ref (a + 2)), some (.ref (a + 3)), some (.ref (a + 4)), some (.ref (a + 5)), some (.ref (a + 6)), some (.ref (a + 7))]), (100, 4, []), (100, 5, []), (100, 5, []), (100, 5, []), (100, 5, []), (100, 5, []), (100, 12, []), (100, 10, [])]) ha rfl (hz _ (by omega)) dX2_init_26 rfl (by decide) (Nat.le_of_ble_eq_true rfl) (Nat.le_of_ble_eq_true rfl) rfl ?_
  refine ap_pr (i := 0) (l' := [(2, 5, [some .null, some (.ref (a + 1)), some (.ref (a + 8)), some (.ref (a + 9)), some .null]), (4, 9, [none, none, none, some (.ref (a + 2)), some (.ref (a + 3)), some (.ref (a + 4)), some (.ref (a + 5)), some (.ref (a + 6)), some (.ref (a + 7))]), (100, 4, []), (100, 5, []), (100, 5, []), (100, 5, []), (100, 5, []), (100, 5, []), (100, 12, []), (100, 10, [])]) ha rfl dX2_init_28 pf_X2_22 rfl (fun _ => rfl) (fun _ => rfl) rfl rfl rfl ?_
  refine aw_aload_n dX2_init_31 rfl ?_
  refine aw_iconst (v := nI 2) dX2_init_32 rfl ?_
  refine aw_sipush (v := nI 210) dX2_init_33 rfl ?_
  refine ap_mna (q := a + 10) (l' := [(2, 5, [some .null, some (.ref (a + 1)), some (.ref (a + 8)), some (.ref (a + 9)), some .null]), (4, 9, [none, none, none, some (.ref (a + 2)), some (.ref (a + 3)), some (.ref (a + 4)), some (.ref (a + 5)), some (.ref (a + 6)), some (.ref (a + 7))]), (100, 4, []), (100, 5, []), (100, 5, []), (100, 5, []), (100, 5, []), (100, 5, []), (100, 12, []), (100, 10, []), (104, 2, [some (.ref (a + 11)), some (.ref (a + 12))]), (100, 210, []), (100, 210, [])]) ha rfl (fun b hb => hz b (by omega)) dX2_init_36 cl_X2_25 (by decide) (Nat.le_of_ble_eq_true rfl) (Nat.le_of_ble_eq_true rfl) rfl ?_
  refine ap_pr (i := 0) (l' := [(2, 5, [some .null, some (.ref (a + 1)), some (.ref (a + 8)), some (.ref (a + 9)), some (.ref (a + 10))]), (4, 9, [none, none, none, some (.ref (a + 2)), some (.ref (a + 3)), some (.ref (a + 4)), some (.ref (a + 5)), some (.ref (a + 6)), some (.ref (a + 7))]), (100, 4, []), (100, 5, []), (100, 5, []), (100, 5, []), (100, 5, []), (100, 5, []), (100, 12, []), (100, 10, []), (104, 2, [some (.ref (a + 11)), some (.ref (a + 12))]), (100, 210, []), (100, 210, [])]) ha rfl dX2_init_40 pf_X2_27 rfl (fun _ => rfl) (fun _ => rfl) rfl rfl rfl ?_
  refine aw_aload_n dX2_init_43 rfl ?_
  refine aw_aload_n dX2_init_44 rfl ?_
  refine ap_pr (i := 0) (l' := [(2, 5, [some (.ref nw), some (.ref (a + 1)), some (.ref (a + 8)), some (.ref (a + 9)), some (.ref (a + 10))]), (4, 9, [none, none, none, some (.ref (a + 2)), some (.ref (a + 3)), some (.ref (a + 4)), some (.ref (a + 5)), some (.ref (a + 6)), some (.ref (a + 7))]), (100, 4, []), (100, 5, []), (100, 5, []), (100, 5, []), (100, 5, []), (100, 5, []), (100, 12, []), (100, 10, []), (104, 2, [some (.ref (a + 11)), some (.ref (a + 12))]), (100, 210, []), (100, 210, [])]) ha rfl dX2_init_45 pf_X2_30 rfl (fun _ => rfl) (fun _ => rfl) rfl rfl rfl ?_
  refine aw_vret dX2_init_48 rfl rfl rfl ?_
  exact ⟨rfl, rfl, rfl⟩
theorem c_X2_initP {G : am_G} {μ : am_M} (pre l : List am_S) (q : Nat) (hq : (pre ++ l).length = q) (hz : ∀ b, q < b → μ b = fun _ => 0) (nw : Nat) : am_MA G yX2_init cX2_init 2 none 2 12 482 [.ref q, .ref nw] (pre ++ (l ++ [(2, 5, [some .null, some .null, some .null, some .null, some .null])])) μ (am_E none (pre ++ (l ++ am_ftL nw q)) (μ)) := by
  have h := c_X2_init (G := G) (μ := μ) (pre ++ l) q hq hz nw
  rw [List.append_assoc, List.append_assoc] at h
  exact h
def am_acR (a i : Nat) : List (Option Value) := (List.range 24).map (fun j => if j < i then some (.ref (a + 7 * j)) else some .null)
def am_acS (a : Nat) : Nat → List am_S
  | 0 => []
  | i + 1 => am_acS a i ++ am_skL (a + 7 * i)
theorem am_acS_len (a : Nat) : ∀ i, (am_acS a i).length = 7 * i
  | 0 => rfl
  | i + 1 => by
    unfold am_acS
    rw [List.length_append, am_acS_len a i]
    show 7 * i + 7 = _
    omega
theorem am_acR_at {a i : Nat} (h : i < 24) : (am_acR a i)[i]? = some (some .null) := by
  unfold am_acR
  rw [List.getElem?_map, List.getElem?_range h]
  simp
theorem am_acR_set {a i : Nat} (h : i < 24) : (am_acR a i).set i (some (.ref (a + 7 * i))) = am_acR a (i + 1) := by
  unfold am_acR
  apply List.ext_getElem?
  intro j
  by_cases e : j = i
  · subst e
    rw [List.getElem?_set_self (by simpa using h), List.getElem?_map, List.getElem?_range h]
    simp
  · rw [List.getElem?_set_ne (Ne.symm e), List.getElem?_map, List.getElem?_map]
    by_cases hj : j < 24
    · rw [List.getElem?_range hj]
      simp only [Option.map_some]
      by_cases c : j < i
      · rw [if_pos c, if_pos (by omega)]
      · rw [if_neg c, if_neg (by omega)]
    · rw [List.getElem?_eq_none (by rw [List.length_range]; omega)]
      rfl
def am_acL (a : Nat) : List am_S := (0, 3, [none, none, some (.ref (a + 1))]) :: (103, 24, am_acR (a + 2) 24) :: am_acS (a + 2) 24
set_option maxRecDepth 100000 in
set_option maxHeartbeats 4000000 in
theorem l_X0_init {G : am_G} {μ : am_M} (pre : List am_S) (a : Nat) (ha : pre.length = a) (hz : ∀ b, a < b → μ b = fun _ => 0) : ∀ (r i : Nat), i + r = 24 → am_W (am_K G RX0 "<init>" 2 none 2 169 936 (am_E none (pre ++ am_acL a) μ)) cX0_init 15 [some (.ref a), some (.int (nI i))] [] (pre ++ ((0, 3, [none, none, some (.ref (a + 1))]) :: (103, 24, am_acR (a + 2) i) :: am_acS (a + 2) i)) μ (1 + 7 * i) (24 + 38 * i) := by
  intro r
  induction r with
  | zero =>
    intro i hi
    have e : i = 24 := by omega
    subst e
    refine aw_iload_n dX0_init_15 rfl ?_
    refine aw_bipush (v := nI 24) dX0_init_16 rfl ?_
    refine aw_icmp_ge (tgt := 40) dX0_init_18 (by decide) (fun c18 => ?_) (fun c18 => ?_)
    · refine aw_vret dX0_init_40 rfl rfl rfl ?_
      exact ⟨rfl, rfl, rfl⟩
    · exact absurd (nI_le (by omega) (by omega)) c18
  | succ r ih =>
    intro i hi
    have hl := am_acS_len (a + 2) i
    refine aw_iload_n dX0_init_15 rfl ?_
    refine aw_bipush (v := nI 24) dX0_init_16 rfl ?_
    refine aw_icmp_ge (tgt := 40) dX0_init_18 (by decide) (fun c18 => ?_) (fun c18 => ?_)
    · exact absurd c18 (nI_ge (by omega) (by omega))
    · refine aw_aload_n dX0_init_21 rfl ?_
      refine aw_gr dX0_init_22 gf_X0_11 (ap_at (i := 0) ha rfl rfl) (by rfl) ?_
      refine aw_iload_n dX0_init_25 rfl ?_
      refine ap_new (q := a + 2 + 7 * i) (l' := ((0, 3, [none, none, some (.ref (a + 1))]) :: (103, 24, am_acR (a + 2) i) :: am_acS (a + 2) i) ++ [(4, 9, [none, none, none, some .null, some .null, some .null, some .null, some .null, some .null])]) ha (by simp only [List.length_cons]; omega) (hz _ (by omega)) dX0_init_26 nw_X0_9 (by show 1 + 7 * i + 1 ≤ 169; omega) (by show 24 + 38 * i + 9 ≤ 936; omega) rfl ?_
      refine aw_dup dX0_init_29 rfl ?_
      refine aw_cn (As := []) dX0_init_30 (List.mem_of_getElem? (i := 3) rfl) im_X5_init iw_X5 cw_X5_init nm_X5_init (by decide) rfl (c_X5_initP pre ((0, 3, [none, none, some (.ref (a + 1))]) :: (103, 24, am_acR (a + 2) i) :: am_acS (a + 2) i) (a + 2 + 7 * i) (by rw [List.length_append, ha]; simp only [List.length_cons]; omega) (fun b hb => hz b (by omega))) rfl rfl (Nat.le_of_ble_eq_true rfl) (Nat.le_of_ble_eq_true rfl) (Nat.le_of_ble_eq_true rfl) (by show 1 + 7 * i + 1 + 6 ≤ 169 ∧ 24 + 38 * i + 9 + 29 ≤ 936; omega) (fun v sh2 μ2 hq => ?_)
      obtain ⟨rfl, rfl, rfl⟩ := hq
      refine ap_aast (i := 1) (i2 := 2 + 7 * i) (t := 3) (l' := ((0, 3, [none, none, some (.ref (a + 1))]) :: (103, 24, am_acR (a + 2) (i + 1)) :: am_acS (a + 2) (i + 1))) ha rfl (by omega) dX0_init_33 rfl (ci := 4) (r := (RX5, TX5, 9)) (by rw [List.getElem?_append_right (by simp only [List.length_cons]; omega)]; simp only [List.length_cons]; rw [show 2 + 7 * i - ((am_acS (a + 2) i).length + 1 + 1) = 0 by omega]; rfl) (by decide) rfl (Or.inr ⟨rfl, rfl⟩) rfl (by omega) (by decide) (am_acR_at (by omega)) (by show (0, 3, _) :: (103, 24, (am_acR (a + 2) i).set i _) :: _ = _; rw [am_acR_set (by omega)]; rfl) ?_
      refine aw_iinc (v := nI (i + 1)) dX0_init_34 rfl (nI_1 i) (Nat.le_of_ble_eq_true rfl) ?_
      refine aw_goto (tgt := 15) dX0_init_37 (by decide) ?_
      exact aw_kn (by omega) (by omega) (ih (i + 1) (by omega))
set_option maxRecDepth 100000 in
set_option maxHeartbeats 4000000 in
theorem c_X0_init {G : am_G} {μ : am_M} (pre : List am_S) (a : Nat) (ha : pre.length = a) (hz : ∀ b, a < b → μ b = fun _ => 0) : am_MA G yX0_init cX0_init 2 none 2 169 936 [.ref a] (pre ++ [(0, 3, [none, none, some .null])]) μ (am_E none (pre ++ am_acL a) μ) := by
  refine am_ofK (own := RX0) (nm := "<init>") (L := [some (.ref a), none]) rfl rfl (by decide +kernel) (Nat.le_of_ble_eq_true rfl) rfl ?_
  refine aw_aload_n dX0_init_0 rfl ?_
  refine aw_obj dX0_init_1 lk_X0_1 im_obj cw_obj (Nat.le_of_ble_eq_true rfl) (Nat.le_of_ble_eq_true rfl) (Nat.le_of_ble_eq_true rfl) ?_
  refine aw_aload_n dX0_init_4 rfl ?_
  refine aw_bipush (v := nI 24) dX0_init_5 rfl ?_
  refine ap_newr 3 (q := a + 1) (l' := [(0, 3, [none, none, some .null])] ++ [(103, 24, am_acR (a + 2) 0)]) ha rfl (hz _ (by omega)) dX0_init_7 cl_X0_9 (Or.inr ⟨rfl, rfl⟩) rfl (by decide) (Nat.le_of_ble_eq_true rfl) (Nat.le_of_ble_eq_true rfl) rfl ?_
  refine ap_pr (i := 0) (l' := ((0, 3, [none, none, some (.ref (a + 1))]) :: (103, 24, am_acR (a + 2) 0) :: am_acS (a + 2) 0)) ha rfl dX0_init_10 pf_X0_11 rfl (fun _ => rfl) (fun _ => rfl) rfl rfl rfl ?_
  refine aw_iconst (v := nI 0) dX0_init_13 rfl ?_
  refine aw_istore_n dX0_init_14 (Nat.le_of_ble_eq_true rfl) ?_
  exact l_X0_init pre a ha hz 24 0 rfl
theorem c_X0_initP {G : am_G} {μ : am_M} (pre l : List am_S) (q : Nat) (hq : (pre ++ l).length = q) (hz : ∀ b, q < b → μ b = fun _ => 0) : am_MA G yX0_init cX0_init 2 none 2 169 936 [.ref q] (pre ++ (l ++ [(0, 3, [none, none, some .null])])) μ (am_E none (pre ++ (l ++ am_acL q)) (μ)) := by
  have h := c_X0_init (G := G) (μ := μ) (pre ++ l) q hq hz
  rw [List.append_assoc, List.append_assoc] at h
  exact h
