/-! ===== the model's asks ===== -/
def mtr (μ : am_M) (tr : List Nat) : Prop := μ 234 13 = nI tr.length ∧ ∀ i x, tr[i]? = some x → μ 243 i = nI x
def lvF (μ μ9 : am_M) : Prop := (∀ j, j ≠ 13 → μ9 234 j = μ 234 j) ∧ ∀ b, b ≠ 234 → b ≠ 243 → μ9 b = μ b
theorem mtr.add {μ : am_M} {tr : List Nat} (h : mtr μ tr) (x : Nat) : mtr (am_up (am_up μ 243 (upd (μ 243) tr.length (nI x))) 234 (upd (am_up μ 243 (upd (μ 243) tr.length (nI x)) 234) 13 (nI (tr.length + 1)))) (tr ++ [x]) := by
  refine ⟨by rw [am_ups, pk_us, List.length_append]; rfl, fun i y hi => ?_⟩
  rw [am_upn (by decide), am_ups]
  by_cases e : i = tr.length
  · subst e
    rw [List.getElem?_append_right (Nat.le_refl _), Nat.sub_self] at hi
    have : x = y := by simpa using hi
    rw [pk_us, this]
  · rw [pk_un e]
    have hl : i < (tr ++ [x]).length := (List.getElem?_eq_some_iff.mp hi).1
    rw [List.length_append] at hl
    have hl2 : i < tr.length := by have : [x].length = 1 := rfl; omega
    rw [List.getElem?_append_left hl2] at hi
    exact h.2 i y hi
theorem lvF.rf {μ : am_M} : lvF μ μ := ⟨fun _ _ => rfl, fun _ _ _ => rfl⟩
theorem lvF.tr {μ μ1 μ2 : am_M} (h : lvF μ μ1) (g : lvF μ1 μ2) : lvF μ μ2 := ⟨fun j hj => (g.1 j hj).trans (h.1 j hj), fun b h1 h2 => (g.2 b h1 h2).trans (h.2 b h1 h2)⟩
theorem lvF.add {μ μ1 : am_M} {f : Nat → Int32} {v : Int32} (h : lvF μ μ1) : lvF μ (am_up (am_up μ1 243 f) 234 (upd (am_up μ1 243 f 234) 13 v)) :=
  ⟨fun j hj => by rw [am_ups, pk_un hj, am_upn (by decide)]; exact h.1 j hj, fun b h1 h2 => by rw [am_up_n h1, am_up_n h2]; exact h.2 b h1 h2⟩
theorem lvF.sk {μ μ1 : am_M} {K : pK} (h : lvF μ μ1) (g : mC μ 239 K) : mC μ1 239 K := g.fr (h.2 239 (by decide) (by decide))
set_option maxRecDepth 100000 in
set_option maxHeartbeats 4000000 in
theorem c_X8_leave2 {G : am_G} {μ : am_M} (tr : List Nat) (m0 : mtr μ tr) (hl : tr.length + 3 ≤ 16) (a b : Nat) (ha : 0 < a) (hb : b < 100) (haa : a < 100) : am_MA G yX8_leave cX8_leave 7 none 0 0 0 [.ref 234, .long (lN (a * 100 + b))] am_SH μ (am_P none am_SH (fun μ9 => mtr μ9 (tr ++ [a, b]) ∧ lvF μ μ9)) := by
  refine am_ofK (own := RX8) (nm := "leave") (L := [some (.ref 234), some (.long (lN (a * 100 + b))), none, none, none, none, none]) rfl rfl (by decide +kernel) (Nat.le_of_ble_eq_true rfl) rfl ?_
  refine aw_lconst (v := lN 1) dX8_leave_0 rfl ?_
  refine aw_lstore_n dX8_leave_1 (Nat.le_of_ble_eq_true rfl) ?_
  refine aw_lload_n dX8_leave_2 rfl ?_
  refine aw_ldc2 dX8_leave_3 kl_X8_260 ?_
  refine aw_lmul dX8_leave_6 ?_
  rw [lN_mul]
  refine aw_lload_n dX8_leave_7 rfl ?_
  refine aw_lcmp dX8_leave_8 ?_
  refine aw_if_gt (tgt := 21) dX8_leave_9 (by decide) (fun c9 => ?_) (fun c9 => ?_)
  · rw [lg_cmp_gt, pk_lLT (by omega) (by omega)] at c9
    omega
  · refine aw_lload_n dX8_leave_12 rfl ?_
    refine aw_ldc2 dX8_leave_13 kl_X8_260 ?_
    refine aw_lmul dX8_leave_16 ?_
    rw [lN_mul]
    refine aw_lstore_n dX8_leave_17 (Nat.le_of_ble_eq_true rfl) ?_
    refine aw_goto (tgt := 2) dX8_leave_18 (by decide) ?_
    refine aw_lload_n dX8_leave_2 rfl ?_
    refine aw_ldc2 dX8_leave_3 kl_X8_260 ?_
    refine aw_lmul dX8_leave_6 ?_
    rw [lN_mul]
    refine aw_lload_n dX8_leave_7 rfl ?_
    refine aw_lcmp dX8_leave_8 ?_
    refine aw_if_gt (tgt := 21) dX8_leave_9 (by decide) (fun c9 => ?_) (fun c9 => ?_)
    · refine aw_lload_n dX8_leave_21 rfl ?_
      refine aw_lstore dX8_leave_22 (Nat.le_of_ble_eq_true rfl) ?_
      refine aw_lload_n dX8_leave_24 rfl ?_
      refine aw_lconst (v := lN 0) dX8_leave_25 rfl ?_
      refine aw_lcmp dX8_leave_26 ?_
      refine aw_if_le (tgt := 69) dX8_leave_27 (by decide) (fun c27 => ?_) (fun c27 => ?_)
      · rw [lg_cmp_le, pk_lLE (by omega) (by omega)] at c27
        omega
      · refine aw_aload_n dX8_leave_30 rfl ?_
        refine aw_gr dX8_leave_31 gf_X8_35 sh_234 (by rfl) ?_
        refine aw_aload_n dX8_leave_34 rfl ?_
        refine aw_gi dX8_leave_35 gf_X8_262 sh_234 (by rfl) ?_
        refine aw_top m0.1 ?_
        refine aw_lload dX8_leave_38 rfl ?_
        refine aw_lload_n dX8_leave_40 rfl ?_
        refine aw_ldiv dX8_leave_41 (fun q => by rw [show (0 : Int64) = lN 0 from rfl, pk_lEQ (by omega) (by omega)] at q; omega) ?_
        rw [pk_lDiv (by omega) (by omega) (by omega)]
        refine aw_l2i dX8_leave_42 ?_
        rw [lN_i]
        refine aw_top (show _ = nI a from congrArg nI (by omega)) ?_
        refine aw_iast dX8_leave_43 sh_243 rfl (by first | omega | (simp only [List.length_append, List.length_cons, List.length_nil]; omega)) (by decide) ?_
        refine aw_lload dX8_leave_44 rfl ?_
        refine aw_lload_n dX8_leave_46 rfl ?_
        refine aw_lrem dX8_leave_47 (fun q => by rw [show (0 : Int64) = lN 0 from rfl, pk_lEQ (by omega) (by omega)] at q; omega) ?_
        rw [pk_lRem (by omega) (by omega) (by omega)]
        refine aw_lstore dX8_leave_48 (Nat.le_of_ble_eq_true rfl) ?_
        refine aw_aload_n dX8_leave_50 rfl ?_
        refine aw_dup dX8_leave_51 rfl ?_
        refine aw_gi dX8_leave_52 gf_X8_262 sh_234 (by rfl) ?_
        refine aw_top (show _ = nI _ by rw [am_upn (by decide)]; exact m0.1) ?_
        refine aw_iconst (v := nI 1) dX8_leave_55 rfl ?_
        refine aw_iadd dX8_leave_56 ?_
        refine aw_top (nI_add _ _) ?_
        refine aw_pi dX8_leave_57 pf_X8_262 rfl rfl sh_234 (by rfl) ?_
        have m1 := m0.add a
        refine aw_lload_n dX8_leave_60 rfl ?_
        refine aw_ldc2 dX8_leave_61 kl_X8_260 ?_
        refine aw_ldiv dX8_leave_64 (by decide) ?_
        rw [pk_lDiv (by omega) (by omega) (by omega)]
        refine aw_lstore_n dX8_leave_65 (Nat.le_of_ble_eq_true rfl) ?_
        refine aw_goto (tgt := 24) dX8_leave_66 (by decide) ?_
        refine aw_lload_n dX8_leave_24 rfl ?_
        refine aw_lconst (v := lN 0) dX8_leave_25 rfl ?_
        refine aw_lcmp dX8_leave_26 ?_
        refine aw_if_le (tgt := 69) dX8_leave_27 (by decide) (fun c27 => ?_) (fun c27 => ?_)
        · rw [lg_cmp_le, pk_lLE (by omega) (by omega)] at c27
          omega
        · refine aw_aload_n dX8_leave_30 rfl ?_
          refine aw_gr dX8_leave_31 gf_X8_35 sh_234 (by rfl) ?_
          refine aw_aload_n dX8_leave_34 rfl ?_
          refine aw_gi dX8_leave_35 gf_X8_262 sh_234 (by rfl) ?_
          refine aw_top m1.1 ?_
          refine aw_lload dX8_leave_38 rfl ?_
          refine aw_lload_n dX8_leave_40 rfl ?_
          refine aw_ldiv dX8_leave_41 (fun q => by rw [show (0 : Int64) = lN 0 from rfl, pk_lEQ (by omega) (by omega)] at q; omega) ?_
          rw [pk_lDiv (by omega) (by omega) (by omega)]
          refine aw_l2i dX8_leave_42 ?_
          rw [lN_i]
          refine aw_top (show _ = nI b from congrArg nI (by omega)) ?_
          refine aw_iast dX8_leave_43 sh_243 rfl (by first | omega | (simp only [List.length_append, List.length_cons, List.length_nil]; omega)) (by decide) ?_
          refine aw_lload dX8_leave_44 rfl ?_
          refine aw_lload_n dX8_leave_46 rfl ?_
          refine aw_lrem dX8_leave_47 (fun q => by rw [show (0 : Int64) = lN 0 from rfl, pk_lEQ (by omega) (by omega)] at q; omega) ?_
          rw [pk_lRem (by omega) (by omega) (by omega)]
          refine aw_lstore dX8_leave_48 (Nat.le_of_ble_eq_true rfl) ?_
          refine aw_aload_n dX8_leave_50 rfl ?_
          refine aw_dup dX8_leave_51 rfl ?_
          refine aw_gi dX8_leave_52 gf_X8_262 sh_234 (by rfl) ?_
          refine aw_top (show _ = nI _ by rw [am_upn (by decide)]; exact m1.1) ?_
          refine aw_iconst (v := nI 1) dX8_leave_55 rfl ?_
          refine aw_iadd dX8_leave_56 ?_
          refine aw_top (nI_add _ _) ?_
          refine aw_pi dX8_leave_57 pf_X8_262 rfl rfl sh_234 (by rfl) ?_
          have m2 := m1.add b
          refine aw_lload_n dX8_leave_60 rfl ?_
          refine aw_ldc2 dX8_leave_61 kl_X8_260 ?_
          refine aw_ldiv dX8_leave_64 (by decide) ?_
          rw [pk_lDiv (by omega) (by omega) (by omega)]
          refine aw_lstore_n dX8_leave_65 (Nat.le_of_ble_eq_true rfl) ?_
          refine aw_goto (tgt := 24) dX8_leave_66 (by decide) ?_
          refine aw_lload_n dX8_leave_24 rfl ?_
          refine aw_lconst (v := lN 0) dX8_leave_25 rfl ?_
          refine aw_lcmp dX8_leave_26 ?_
          refine aw_if_le (tgt := 69) dX8_leave_27 (by decide) (fun c27 => ?_) (fun c27 => ?_)
          · refine aw_vret dX8_leave_69 rfl rfl rfl ?_
            refine ⟨rfl, rfl, ?_, ⟨fun j hj => ?_, fun b h1 h2 => ?_⟩⟩
            · have e : tr ++ [a, b] = tr ++ [a] ++ [b] := by simp
              rw [e]
              exact m2
            · simp only [am_ups, am_upn (show (234 : Nat) ≠ 243 by decide), pk_un hj]
            · simp only [am_up_n h1, am_up_n h2]
          · rw [lg_cmp_le, pk_lLE (by omega) (by omega)] at c27
            omega
    · rw [lg_cmp_gt, pk_lLT (by omega) (by omega)] at c9
      omega
set_option maxRecDepth 100000 in
set_option maxHeartbeats 4000000 in
theorem c_X8_leave3 {G : am_G} {μ : am_M} (tr : List Nat) (m0 : mtr μ tr) (hl : tr.length + 3 ≤ 16) (a b c : Nat) (ha : 0 < a) (hb : b < 100) (hc : c < 100) (haa : a < 100) : am_MA G yX8_leave cX8_leave 7 none 0 0 0 [.ref 234, .long (lN (a * 10000 + b * 100 + c))] am_SH μ (am_P none am_SH (fun μ9 => mtr μ9 (tr ++ [a, b, c]) ∧ lvF μ μ9)) := by
  refine am_ofK (own := RX8) (nm := "leave") (L := [some (.ref 234), some (.long (lN (a * 10000 + b * 100 + c))), none, none, none, none, none]) rfl rfl (by decide +kernel) (Nat.le_of_ble_eq_true rfl) rfl ?_
  refine aw_lconst (v := lN 1) dX8_leave_0 rfl ?_
  refine aw_lstore_n dX8_leave_1 (Nat.le_of_ble_eq_true rfl) ?_
  refine aw_lload_n dX8_leave_2 rfl ?_
  refine aw_ldc2 dX8_leave_3 kl_X8_260 ?_
  refine aw_lmul dX8_leave_6 ?_
  rw [lN_mul]
  refine aw_lload_n dX8_leave_7 rfl ?_
  refine aw_lcmp dX8_leave_8 ?_
  refine aw_if_gt (tgt := 21) dX8_leave_9 (by decide) (fun c9 => ?_) (fun c9 => ?_)
  · rw [lg_cmp_gt, pk_lLT (by omega) (by omega)] at c9
    omega
  · refine aw_lload_n dX8_leave_12 rfl ?_
    refine aw_ldc2 dX8_leave_13 kl_X8_260 ?_
    refine aw_lmul dX8_leave_16 ?_
    rw [lN_mul]
    refine aw_lstore_n dX8_leave_17 (Nat.le_of_ble_eq_true rfl) ?_
    refine aw_goto (tgt := 2) dX8_leave_18 (by decide) ?_
    refine aw_lload_n dX8_leave_2 rfl ?_
    refine aw_ldc2 dX8_leave_3 kl_X8_260 ?_
    refine aw_lmul dX8_leave_6 ?_
    rw [lN_mul]
    refine aw_lload_n dX8_leave_7 rfl ?_
    refine aw_lcmp dX8_leave_8 ?_
    refine aw_if_gt (tgt := 21) dX8_leave_9 (by decide) (fun c9 => ?_) (fun c9 => ?_)
    · rw [lg_cmp_gt, pk_lLT (by omega) (by omega)] at c9
      omega
    · refine aw_lload_n dX8_leave_12 rfl ?_
      refine aw_ldc2 dX8_leave_13 kl_X8_260 ?_
      refine aw_lmul dX8_leave_16 ?_
      rw [lN_mul]
      refine aw_lstore_n dX8_leave_17 (Nat.le_of_ble_eq_true rfl) ?_
      refine aw_goto (tgt := 2) dX8_leave_18 (by decide) ?_
      refine aw_lload_n dX8_leave_2 rfl ?_
      refine aw_ldc2 dX8_leave_3 kl_X8_260 ?_
      refine aw_lmul dX8_leave_6 ?_
      rw [lN_mul]
      refine aw_lload_n dX8_leave_7 rfl ?_
      refine aw_lcmp dX8_leave_8 ?_
      refine aw_if_gt (tgt := 21) dX8_leave_9 (by decide) (fun c9 => ?_) (fun c9 => ?_)
      · refine aw_lload_n dX8_leave_21 rfl ?_
        refine aw_lstore dX8_leave_22 (Nat.le_of_ble_eq_true rfl) ?_
        refine aw_lload_n dX8_leave_24 rfl ?_
        refine aw_lconst (v := lN 0) dX8_leave_25 rfl ?_
        refine aw_lcmp dX8_leave_26 ?_
        refine aw_if_le (tgt := 69) dX8_leave_27 (by decide) (fun c27 => ?_) (fun c27 => ?_)
        · rw [lg_cmp_le, pk_lLE (by omega) (by omega)] at c27
          omega
        · refine aw_aload_n dX8_leave_30 rfl ?_
          refine aw_gr dX8_leave_31 gf_X8_35 sh_234 (by rfl) ?_
          refine aw_aload_n dX8_leave_34 rfl ?_
          refine aw_gi dX8_leave_35 gf_X8_262 sh_234 (by rfl) ?_
          refine aw_top m0.1 ?_
          refine aw_lload dX8_leave_38 rfl ?_
          refine aw_lload_n dX8_leave_40 rfl ?_
          refine aw_ldiv dX8_leave_41 (fun q => by rw [show (0 : Int64) = lN 0 from rfl, pk_lEQ (by omega) (by omega)] at q; omega) ?_
          rw [pk_lDiv (by omega) (by omega) (by omega)]
          refine aw_l2i dX8_leave_42 ?_
          rw [lN_i]
          refine aw_top (show _ = nI a from congrArg nI (by omega)) ?_
          refine aw_iast dX8_leave_43 sh_243 rfl (by first | omega | (simp only [List.length_append, List.length_cons, List.length_nil]; omega)) (by decide) ?_
          refine aw_lload dX8_leave_44 rfl ?_
          refine aw_lload_n dX8_leave_46 rfl ?_
          refine aw_lrem dX8_leave_47 (fun q => by rw [show (0 : Int64) = lN 0 from rfl, pk_lEQ (by omega) (by omega)] at q; omega) ?_
          rw [pk_lRem (by omega) (by omega) (by omega)]
          refine aw_lstore dX8_leave_48 (Nat.le_of_ble_eq_true rfl) ?_
          refine aw_aload_n dX8_leave_50 rfl ?_
          refine aw_dup dX8_leave_51 rfl ?_
          refine aw_gi dX8_leave_52 gf_X8_262 sh_234 (by rfl) ?_
          refine aw_top (show _ = nI _ by rw [am_upn (by decide)]; exact m0.1) ?_
          refine aw_iconst (v := nI 1) dX8_leave_55 rfl ?_
          refine aw_iadd dX8_leave_56 ?_
          refine aw_top (nI_add _ _) ?_
          refine aw_pi dX8_leave_57 pf_X8_262 rfl rfl sh_234 (by rfl) ?_
          have m1 := m0.add a
          refine aw_lload_n dX8_leave_60 rfl ?_
          refine aw_ldc2 dX8_leave_61 kl_X8_260 ?_
          refine aw_ldiv dX8_leave_64 (by decide) ?_
          rw [pk_lDiv (by omega) (by omega) (by omega)]
          refine aw_lstore_n dX8_leave_65 (Nat.le_of_ble_eq_true rfl) ?_
          refine aw_goto (tgt := 24) dX8_leave_66 (by decide) ?_
          refine aw_lload_n dX8_leave_24 rfl ?_
          refine aw_lconst (v := lN 0) dX8_leave_25 rfl ?_
          refine aw_lcmp dX8_leave_26 ?_
          refine aw_if_le (tgt := 69) dX8_leave_27 (by decide) (fun c27 => ?_) (fun c27 => ?_)
          · rw [lg_cmp_le, pk_lLE (by omega) (by omega)] at c27
            omega
          · refine aw_aload_n dX8_leave_30 rfl ?_
            refine aw_gr dX8_leave_31 gf_X8_35 sh_234 (by rfl) ?_
            refine aw_aload_n dX8_leave_34 rfl ?_
            refine aw_gi dX8_leave_35 gf_X8_262 sh_234 (by rfl) ?_
            refine aw_top m1.1 ?_
            refine aw_lload dX8_leave_38 rfl ?_
            refine aw_lload_n dX8_leave_40 rfl ?_
            refine aw_ldiv dX8_leave_41 (fun q => by rw [show (0 : Int64) = lN 0 from rfl, pk_lEQ (by omega) (by omega)] at q; omega) ?_
            rw [pk_lDiv (by omega) (by omega) (by omega)]
            refine aw_l2i dX8_leave_42 ?_
            rw [lN_i]
            refine aw_top (show _ = nI b from congrArg nI (by omega)) ?_
            refine aw_iast dX8_leave_43 sh_243 rfl (by first | omega | (simp only [List.length_append, List.length_cons, List.length_nil]; omega)) (by decide) ?_
            refine aw_lload dX8_leave_44 rfl ?_
            refine aw_lload_n dX8_leave_46 rfl ?_
            refine aw_lrem dX8_leave_47 (fun q => by rw [show (0 : Int64) = lN 0 from rfl, pk_lEQ (by omega) (by omega)] at q; omega) ?_
            rw [pk_lRem (by omega) (by omega) (by omega)]
            refine aw_lstore dX8_leave_48 (Nat.le_of_ble_eq_true rfl) ?_
            refine aw_aload_n dX8_leave_50 rfl ?_
            refine aw_dup dX8_leave_51 rfl ?_
            refine aw_gi dX8_leave_52 gf_X8_262 sh_234 (by rfl) ?_
            refine aw_top (show _ = nI _ by rw [am_upn (by decide)]; exact m1.1) ?_
            refine aw_iconst (v := nI 1) dX8_leave_55 rfl ?_
            refine aw_iadd dX8_leave_56 ?_
            refine aw_top (nI_add _ _) ?_
            refine aw_pi dX8_leave_57 pf_X8_262 rfl rfl sh_234 (by rfl) ?_
            have m2 := m1.add b
            refine aw_lload_n dX8_leave_60 rfl ?_
            refine aw_ldc2 dX8_leave_61 kl_X8_260 ?_
            refine aw_ldiv dX8_leave_64 (by decide) ?_
            rw [pk_lDiv (by omega) (by omega) (by omega)]
            refine aw_lstore_n dX8_leave_65 (Nat.le_of_ble_eq_true rfl) ?_
            refine aw_goto (tgt := 24) dX8_leave_66 (by decide) ?_
            refine aw_lload_n dX8_leave_24 rfl ?_
            refine aw_lconst (v := lN 0) dX8_leave_25 rfl ?_
            refine aw_lcmp dX8_leave_26 ?_
            refine aw_if_le (tgt := 69) dX8_leave_27 (by decide) (fun c27 => ?_) (fun c27 => ?_)
            · rw [lg_cmp_le, pk_lLE (by omega) (by omega)] at c27
              omega
            · refine aw_aload_n dX8_leave_30 rfl ?_
              refine aw_gr dX8_leave_31 gf_X8_35 sh_234 (by rfl) ?_
              refine aw_aload_n dX8_leave_34 rfl ?_
              refine aw_gi dX8_leave_35 gf_X8_262 sh_234 (by rfl) ?_
              refine aw_top m2.1 ?_
              refine aw_lload dX8_leave_38 rfl ?_
              refine aw_lload_n dX8_leave_40 rfl ?_
              refine aw_ldiv dX8_leave_41 (fun q => by rw [show (0 : Int64) = lN 0 from rfl, pk_lEQ (by omega) (by omega)] at q; omega) ?_
              rw [pk_lDiv (by omega) (by omega) (by omega)]
              refine aw_l2i dX8_leave_42 ?_
              rw [lN_i]
              refine aw_top (show _ = nI c from congrArg nI (by omega)) ?_
              refine aw_iast dX8_leave_43 sh_243 rfl (by first | omega | (simp only [List.length_append, List.length_cons, List.length_nil]; omega)) (by decide) ?_
              refine aw_lload dX8_leave_44 rfl ?_
              refine aw_lload_n dX8_leave_46 rfl ?_
              refine aw_lrem dX8_leave_47 (fun q => by rw [show (0 : Int64) = lN 0 from rfl, pk_lEQ (by omega) (by omega)] at q; omega) ?_
              rw [pk_lRem (by omega) (by omega) (by omega)]
              refine aw_lstore dX8_leave_48 (Nat.le_of_ble_eq_true rfl) ?_
              refine aw_aload_n dX8_leave_50 rfl ?_
              refine aw_dup dX8_leave_51 rfl ?_
              refine aw_gi dX8_leave_52 gf_X8_262 sh_234 (by rfl) ?_
              refine aw_top (show _ = nI _ by rw [am_upn (by decide)]; exact m2.1) ?_
              refine aw_iconst (v := nI 1) dX8_leave_55 rfl ?_
              refine aw_iadd dX8_leave_56 ?_
              refine aw_top (nI_add _ _) ?_
              refine aw_pi dX8_leave_57 pf_X8_262 rfl rfl sh_234 (by rfl) ?_
              have m3 := m2.add c
              refine aw_lload_n dX8_leave_60 rfl ?_
              refine aw_ldc2 dX8_leave_61 kl_X8_260 ?_
              refine aw_ldiv dX8_leave_64 (by decide) ?_
              rw [pk_lDiv (by omega) (by omega) (by omega)]
              refine aw_lstore_n dX8_leave_65 (Nat.le_of_ble_eq_true rfl) ?_
              refine aw_goto (tgt := 24) dX8_leave_66 (by decide) ?_
              refine aw_lload_n dX8_leave_24 rfl ?_
              refine aw_lconst (v := lN 0) dX8_leave_25 rfl ?_
              refine aw_lcmp dX8_leave_26 ?_
              refine aw_if_le (tgt := 69) dX8_leave_27 (by decide) (fun c27 => ?_) (fun c27 => ?_)
              · refine aw_vret dX8_leave_69 rfl rfl rfl ?_
                refine ⟨rfl, rfl, ?_, ⟨fun j hj => ?_, fun b h1 h2 => ?_⟩⟩
                · have e : tr ++ [a, b, c] = tr ++ [a] ++ [b] ++ [c] := by simp
                  rw [e]
                  exact m3
                · simp only [am_ups, am_upn (show (234 : Nat) ≠ 243 by decide), pk_un hj]
                · simp only [am_up_n h1, am_up_n h2]
              · rw [lg_cmp_le, pk_lLE (by omega) (by omega)] at c27
                omega
      · rw [lg_cmp_gt, pk_lLT (by omega) (by omega)] at c9
        omega
set_option maxRecDepth 100000 in
set_option maxHeartbeats 4000000 in
theorem c_X8_mark {G : am_G} {μ : am_M} (K : pK) (hK : mC μ 239 K) (ho : pOK K) (o : Nat) (hoo : o < K 5) (tr : List Nat) (hm : mtr μ tr) (hl : tr.length + 3 ≤ 16) : am_MA G yX8_mark cX8_mark 4 (some .int) 1 0 0 [.ref 234, .int (nI o)] am_SH μ (am_P (some (.int (pMk K o))) am_SH (fun μ9 => mtr μ9 (tr ++ pMkT (K (7 + o))) ∧ lvF μ μ9)) := by
  have h5 := ho.1
  have gk := ho.2.2.2.2 o hoo
  refine am_ofK (own := RX8) (nm := "mark") (L := [some (.ref 234), some (.int (nI o)), none, none]) rfl rfl (by decide +kernel) (Nat.le_of_ble_eq_true rfl) rfl ?_
  by_cases ek : K (7 + o) = 2
  · refine aw_aload_n dX8_mark_0 rfl ?_
    refine aw_gr dX8_mark_1 gf_X8_22 sh_234 (by rfl) ?_
    refine aw_bipush (v := nI 7) dX8_mark_4 rfl ?_
    refine aw_iload_n dX8_mark_6 rfl ?_
    refine aw_iadd dX8_mark_7 ?_
    refine aw_top (nI_add _ _) ?_
    refine aw_iald dX8_mark_8 sh_239 rfl (by omega) (by decide) ?_
    refine aw_top (hK (7 + o) (by omega)) ?_
    refine aw_istore_n dX8_mark_9 (Nat.le_of_ble_eq_true rfl) ?_
    refine aw_iload_n dX8_mark_10 rfl ?_
    refine aw_aload_n dX8_mark_11 rfl ?_
    refine aw_gr dX8_mark_12 gf_X8_22 sh_234 (by rfl) ?_
    refine aw_bipush (v := nI 17) dX8_mark_15 rfl ?_
    refine aw_iload_n dX8_mark_17 rfl ?_
    refine aw_iadd dX8_mark_18 ?_
    refine aw_top (nI_add _ _) ?_
    refine aw_iald dX8_mark_19 sh_239 rfl (by omega) (by decide) ?_
    refine aw_top (hK (17 + o) (by omega)) ?_
    refine aw_iadd dX8_mark_20 ?_
    refine aw_istore_n dX8_mark_21 (Nat.le_of_ble_eq_true rfl) ?_
    refine aw_aload_n dX8_mark_22 rfl ?_
    refine aw_iload_n dX8_mark_23 rfl ?_
    refine aw_iconst (v := nI 2) dX8_mark_24 rfl ?_
    refine aw_icmp_ne (tgt := 34) dX8_mark_25 (by decide) (fun c25 => ?_) (fun c25 => ?_)
    · rw [nI_eq (by omega) (by decide)] at c25
      exact absurd ek c25
    · refine aw_ldc2 dX8_mark_28 kl_X8_265 ?_
      refine aw_goto (tgt := 48) dX8_mark_31 (by decide) ?_
      refine aw_v1vp dX8_mark_48 ml_X8_271 im_X8_leave se_X8_leave (c_X8_leave3 tr hm hl 24 21 20 (by decide) (by decide) (by decide) (by decide)) sh_234 (by decide) rfl rfl (Nat.le_of_ble_eq_true rfl) (Nat.le_of_ble_eq_true rfl) (Nat.le_of_ble_eq_true rfl) (Nat.le_of_ble_eq_true rfl) (Nat.le_of_ble_eq_true rfl) (fun μ2 q2 => ?_)
      refine aw_iload_n dX8_mark_51 rfl ?_
      refine aw_iconst (v := nI 2) dX8_mark_52 rfl ?_
      refine aw_icmp_ne (tgt := 62) dX8_mark_53 (by decide) (fun c53 => ?_) (fun c53 => ?_)
      · rw [nI_eq (by omega) (by decide)] at c53
        exact absurd ek c53
      · refine aw_iconst (v := nI 2) dX8_mark_56 rfl ?_
        refine aw_iload_n dX8_mark_57 rfl ?_
        refine aw_imul dX8_mark_58 ?_
        refine aw_goto (tgt := 76) dX8_mark_59 (by decide) ?_
        refine aw_iret dX8_mark_76 rfl rfl rfl rfl ?_
        refine ⟨congrArg (fun z => some (Value.int z)) ?_, rfl, ?_, q2.2⟩
        · unfold pMk; rw [if_pos ek]; exact Int32.mul_comm _ _
        · unfold pMkT; rw [if_pos ek]; exact q2.1
  · by_cases ek3 : K (7 + o) = 3
    · refine aw_aload_n dX8_mark_0 rfl ?_
      refine aw_gr dX8_mark_1 gf_X8_22 sh_234 (by rfl) ?_
      refine aw_bipush (v := nI 7) dX8_mark_4 rfl ?_
      refine aw_iload_n dX8_mark_6 rfl ?_
      refine aw_iadd dX8_mark_7 ?_
      refine aw_top (nI_add _ _) ?_
      refine aw_iald dX8_mark_8 sh_239 rfl (by omega) (by decide) ?_
      refine aw_top (hK (7 + o) (by omega)) ?_
      refine aw_istore_n dX8_mark_9 (Nat.le_of_ble_eq_true rfl) ?_
      refine aw_iload_n dX8_mark_10 rfl ?_
      refine aw_aload_n dX8_mark_11 rfl ?_
      refine aw_gr dX8_mark_12 gf_X8_22 sh_234 (by rfl) ?_
      refine aw_bipush (v := nI 17) dX8_mark_15 rfl ?_
      refine aw_iload_n dX8_mark_17 rfl ?_
      refine aw_iadd dX8_mark_18 ?_
      refine aw_top (nI_add _ _) ?_
      refine aw_iald dX8_mark_19 sh_239 rfl (by omega) (by decide) ?_
      refine aw_top (hK (17 + o) (by omega)) ?_
      refine aw_iadd dX8_mark_20 ?_
      refine aw_istore_n dX8_mark_21 (Nat.le_of_ble_eq_true rfl) ?_
      refine aw_aload_n dX8_mark_22 rfl ?_
      refine aw_iload_n dX8_mark_23 rfl ?_
      refine aw_iconst (v := nI 2) dX8_mark_24 rfl ?_
      refine aw_icmp_ne (tgt := 34) dX8_mark_25 (by decide) (fun c25 => ?_) (fun c25 => ?_)
      · refine aw_iload_n dX8_mark_34 rfl ?_
        refine aw_iconst (v := nI 3) dX8_mark_35 rfl ?_
        refine aw_icmp_ne (tgt := 45) dX8_mark_36 (by decide) (fun c36 => ?_) (fun c36 => ?_)
        · rw [nI_eq (by omega) (by decide)] at c36
          exact absurd ek3 c36
        · refine aw_ldc2 dX8_mark_39 kl_X8_267 ?_
          refine aw_goto (tgt := 48) dX8_mark_42 (by decide) ?_
          refine aw_v1vp dX8_mark_48 ml_X8_271 im_X8_leave se_X8_leave (c_X8_leave3 tr hm hl 22 21 20 (by decide) (by decide) (by decide) (by decide)) sh_234 (by decide) rfl rfl (Nat.le_of_ble_eq_true rfl) (Nat.le_of_ble_eq_true rfl) (Nat.le_of_ble_eq_true rfl) (Nat.le_of_ble_eq_true rfl) (Nat.le_of_ble_eq_true rfl) (fun μ2 q2 => ?_)
          refine aw_iload_n dX8_mark_51 rfl ?_
          refine aw_iconst (v := nI 2) dX8_mark_52 rfl ?_
          refine aw_icmp_ne (tgt := 62) dX8_mark_53 (by decide) (fun c53 => ?_) (fun c53 => ?_)
          · refine aw_iload_n dX8_mark_62 rfl ?_
            refine aw_iconst (v := nI 3) dX8_mark_63 rfl ?_
            refine aw_icmp_ne (tgt := 75) dX8_mark_64 (by decide) (fun c64 => ?_) (fun c64 => ?_)
            · rw [nI_eq (by omega) (by decide)] at c64
              exact absurd ek3 c64
            · refine aw_iload_n dX8_mark_67 rfl ?_
              refine aw_sipush (v := nI 1000) dX8_mark_68 rfl ?_
              refine aw_isub dX8_mark_71 ?_
              refine aw_goto (tgt := 76) dX8_mark_72 (by decide) ?_
              refine aw_iret dX8_mark_76 rfl rfl rfl rfl ?_
              refine ⟨congrArg (fun z => some (Value.int z)) ?_, rfl, ?_, q2.2⟩
              · unfold pMk; rw [if_neg (by omega), if_pos ek3]
              · unfold pMkT; rw [if_neg (by omega), if_pos ek3]; exact q2.1
          · rw [nI_eq (by omega) (by decide)] at c53
            exact absurd c53 (by omega)
      · rw [nI_eq (by omega) (by decide)] at c25
        exact absurd c25 (by omega)
    · refine aw_aload_n dX8_mark_0 rfl ?_
      refine aw_gr dX8_mark_1 gf_X8_22 sh_234 (by rfl) ?_
      refine aw_bipush (v := nI 7) dX8_mark_4 rfl ?_
      refine aw_iload_n dX8_mark_6 rfl ?_
      refine aw_iadd dX8_mark_7 ?_
      refine aw_top (nI_add _ _) ?_
      refine aw_iald dX8_mark_8 sh_239 rfl (by omega) (by decide) ?_
      refine aw_top (hK (7 + o) (by omega)) ?_
      refine aw_istore_n dX8_mark_9 (Nat.le_of_ble_eq_true rfl) ?_
      refine aw_iload_n dX8_mark_10 rfl ?_
      refine aw_aload_n dX8_mark_11 rfl ?_
      refine aw_gr dX8_mark_12 gf_X8_22 sh_234 (by rfl) ?_
      refine aw_bipush (v := nI 17) dX8_mark_15 rfl ?_
      refine aw_iload_n dX8_mark_17 rfl ?_
      refine aw_iadd dX8_mark_18 ?_
      refine aw_top (nI_add _ _) ?_
      refine aw_iald dX8_mark_19 sh_239 rfl (by omega) (by decide) ?_
      refine aw_top (hK (17 + o) (by omega)) ?_
      refine aw_iadd dX8_mark_20 ?_
      refine aw_istore_n dX8_mark_21 (Nat.le_of_ble_eq_true rfl) ?_
      refine aw_aload_n dX8_mark_22 rfl ?_
      refine aw_iload_n dX8_mark_23 rfl ?_
      refine aw_iconst (v := nI 2) dX8_mark_24 rfl ?_
      refine aw_icmp_ne (tgt := 34) dX8_mark_25 (by decide) (fun c25 => ?_) (fun c25 => ?_)
      · refine aw_iload_n dX8_mark_34 rfl ?_
        refine aw_iconst (v := nI 3) dX8_mark_35 rfl ?_
        refine aw_icmp_ne (tgt := 45) dX8_mark_36 (by decide) (fun c36 => ?_) (fun c36 => ?_)
        · refine aw_ldc2 dX8_mark_45 kl_X8_269 ?_
          refine aw_v1vp dX8_mark_48 ml_X8_271 im_X8_leave se_X8_leave (c_X8_leave2 tr hm hl 21 20 (by decide) (by decide) (by decide)) sh_234 (by decide) rfl rfl (Nat.le_of_ble_eq_true rfl) (Nat.le_of_ble_eq_true rfl) (Nat.le_of_ble_eq_true rfl) (Nat.le_of_ble_eq_true rfl) (Nat.le_of_ble_eq_true rfl) (fun μ2 q2 => ?_)
          refine aw_iload_n dX8_mark_51 rfl ?_
          refine aw_iconst (v := nI 2) dX8_mark_52 rfl ?_
          refine aw_icmp_ne (tgt := 62) dX8_mark_53 (by decide) (fun c53 => ?_) (fun c53 => ?_)
          · refine aw_iload_n dX8_mark_62 rfl ?_
            refine aw_iconst (v := nI 3) dX8_mark_63 rfl ?_
            refine aw_icmp_ne (tgt := 75) dX8_mark_64 (by decide) (fun c64 => ?_) (fun c64 => ?_)
            · refine aw_iload_n dX8_mark_75 rfl ?_
              refine aw_iret dX8_mark_76 rfl rfl rfl rfl ?_
              refine ⟨congrArg (fun z => some (Value.int z)) ?_, rfl, ?_, q2.2⟩
              · unfold pMk; rw [if_neg (by omega), if_neg (by omega)]
              · unfold pMkT; rw [if_neg (by omega), if_neg (by omega)]; exact q2.1
            · rw [nI_eq (by omega) (by decide)] at c64
              exact absurd c64 (by omega)
          · rw [nI_eq (by omega) (by decide)] at c53
            exact absurd c53 (by omega)
        · rw [nI_eq (by omega) (by decide)] at c36
          exact absurd c36 (by omega)
      · rw [nI_eq (by omega) (by decide)] at c25
        exact absurd c25 (by omega)
set_option maxRecDepth 100000 in
set_option maxHeartbeats 4000000 in
theorem c_X8_sizeOf {G : am_G} {μ : am_M} (K : pK) (hK : mC μ 239 K) (ho : pOK K) (o : Nat) (hoo : o < K 5) (tr : List Nat) (hm : mtr μ tr) (hl : tr.length + 3 ≤ 16) : am_MA G yX8_sizeOf cX8_sizeOf 4 (some .int) 1 0 0 [.ref 234, .int (nI o)] am_SH μ (am_P (some (.int (pSz K o))) am_SH (fun μ9 => mtr μ9 (tr ++ pSzT (K (7 + o))) ∧ lvF μ μ9)) := by
  have h5 := ho.1
  have gk := ho.2.2.2.2 o hoo
  refine am_ofK (own := RX8) (nm := "sizeOf") (L := [some (.ref 234), some (.int (nI o)), none, none]) rfl rfl (by decide +kernel) (Nat.le_of_ble_eq_true rfl) rfl ?_
  by_cases ek : K (7 + o) = 5
  · refine aw_aload_n dX8_sizeOf_0 rfl ?_
    refine aw_gr dX8_sizeOf_1 gf_X8_22 sh_234 (by rfl) ?_
    refine aw_bipush (v := nI 22) dX8_sizeOf_4 rfl ?_
    refine aw_iload_n dX8_sizeOf_6 rfl ?_
    refine aw_iadd dX8_sizeOf_7 ?_
    refine aw_top (nI_add _ _) ?_
    refine aw_iald dX8_sizeOf_8 sh_239 rfl (by omega) (by decide) ?_
    refine aw_top (hK (22 + o) (by omega)) ?_
    refine aw_bipush (v := nI 100) dX8_sizeOf_9 rfl ?_
    refine aw_isub dX8_sizeOf_11 ?_
    refine aw_istore_n dX8_sizeOf_12 (Nat.le_of_ble_eq_true rfl) ?_
    refine aw_aload_n dX8_sizeOf_13 rfl ?_
    refine aw_gr dX8_sizeOf_14 gf_X8_22 sh_234 (by rfl) ?_
    refine aw_bipush (v := nI 7) dX8_sizeOf_17 rfl ?_
    refine aw_iload_n dX8_sizeOf_19 rfl ?_
    refine aw_iadd dX8_sizeOf_20 ?_
    refine aw_top (nI_add _ _) ?_
    refine aw_iald dX8_sizeOf_21 sh_239 rfl (by omega) (by decide) ?_
    refine aw_top (hK (7 + o) (by omega)) ?_
    refine aw_iconst (v := nI 5) dX8_sizeOf_22 rfl ?_
    refine aw_icmp_ne (tgt := 30) dX8_sizeOf_23 (by decide) (fun c23 => ?_) (fun c23 => ?_)
    · rw [nI_eq (by omega) (by decide)] at c23
      exact absurd ek c23
    · refine aw_iconst (v := nI 1) dX8_sizeOf_26 rfl ?_
      refine aw_goto (tgt := 31) dX8_sizeOf_27 (by decide) ?_
      refine aw_istore_n dX8_sizeOf_31 (Nat.le_of_ble_eq_true rfl) ?_
      refine aw_aload_n dX8_sizeOf_32 rfl ?_
      refine aw_iload_n dX8_sizeOf_33 rfl ?_
      refine aw_if_eq (tgt := 43) dX8_sizeOf_34 (by decide) (fun c34 => ?_) (fun c34 => ?_)
      · exact absurd c34 (by decide +kernel)
      · refine aw_ldc2 dX8_sizeOf_37 kl_X8_275 ?_
        refine aw_goto (tgt := 46) dX8_sizeOf_40 (by decide) ?_
        refine aw_v1vp dX8_sizeOf_46 ml_X8_271 im_X8_leave se_X8_leave (c_X8_leave3 tr hm hl 14 13 10 (by decide) (by decide) (by decide) (by decide)) sh_234 (by decide) rfl rfl (Nat.le_of_ble_eq_true rfl) (Nat.le_of_ble_eq_true rfl) (Nat.le_of_ble_eq_true rfl) (Nat.le_of_ble_eq_true rfl) (Nat.le_of_ble_eq_true rfl) (fun μ2 q2 => ?_)
        refine aw_iload_n dX8_sizeOf_49 rfl ?_
        refine aw_if_eq (tgt := 59) dX8_sizeOf_50 (by decide) (fun c50 => ?_) (fun c50 => ?_)
        · exact absurd c50 (by decide +kernel)
        · refine aw_iconst (v := nI 2) dX8_sizeOf_53 rfl ?_
          refine aw_iload_n dX8_sizeOf_54 rfl ?_
          refine aw_imul dX8_sizeOf_55 ?_
          refine aw_goto (tgt := 60) dX8_sizeOf_56 (by decide) ?_
          refine aw_iret dX8_sizeOf_60 rfl rfl rfl rfl ?_
          refine ⟨congrArg (fun z => some (Value.int z)) ?_, rfl, ?_, q2.2⟩
          · unfold pSz; rw [if_pos ek]; exact Int32.mul_comm _ _
          · unfold pSzT; rw [if_pos ek]; exact q2.1
  · refine aw_aload_n dX8_sizeOf_0 rfl ?_
    refine aw_gr dX8_sizeOf_1 gf_X8_22 sh_234 (by rfl) ?_
    refine aw_bipush (v := nI 22) dX8_sizeOf_4 rfl ?_
    refine aw_iload_n dX8_sizeOf_6 rfl ?_
    refine aw_iadd dX8_sizeOf_7 ?_
    refine aw_top (nI_add _ _) ?_
    refine aw_iald dX8_sizeOf_8 sh_239 rfl (by omega) (by decide) ?_
    refine aw_top (hK (22 + o) (by omega)) ?_
    refine aw_bipush (v := nI 100) dX8_sizeOf_9 rfl ?_
    refine aw_isub dX8_sizeOf_11 ?_
    refine aw_istore_n dX8_sizeOf_12 (Nat.le_of_ble_eq_true rfl) ?_
    refine aw_aload_n dX8_sizeOf_13 rfl ?_
    refine aw_gr dX8_sizeOf_14 gf_X8_22 sh_234 (by rfl) ?_
    refine aw_bipush (v := nI 7) dX8_sizeOf_17 rfl ?_
    refine aw_iload_n dX8_sizeOf_19 rfl ?_
    refine aw_iadd dX8_sizeOf_20 ?_
    refine aw_top (nI_add _ _) ?_
    refine aw_iald dX8_sizeOf_21 sh_239 rfl (by omega) (by decide) ?_
    refine aw_top (hK (7 + o) (by omega)) ?_
    refine aw_iconst (v := nI 5) dX8_sizeOf_22 rfl ?_
    refine aw_icmp_ne (tgt := 30) dX8_sizeOf_23 (by decide) (fun c23 => ?_) (fun c23 => ?_)
    · refine aw_iconst (v := nI 0) dX8_sizeOf_30 rfl ?_
      refine aw_istore_n dX8_sizeOf_31 (Nat.le_of_ble_eq_true rfl) ?_
      refine aw_aload_n dX8_sizeOf_32 rfl ?_
      refine aw_iload_n dX8_sizeOf_33 rfl ?_
      refine aw_if_eq (tgt := 43) dX8_sizeOf_34 (by decide) (fun c34 => ?_) (fun c34 => ?_)
      · refine aw_ldc2 dX8_sizeOf_43 kl_X8_277 ?_
        refine aw_v1vp dX8_sizeOf_46 ml_X8_271 im_X8_leave se_X8_leave (c_X8_leave2 tr hm hl 13 10 (by decide) (by decide) (by decide)) sh_234 (by decide) rfl rfl (Nat.le_of_ble_eq_true rfl) (Nat.le_of_ble_eq_true rfl) (Nat.le_of_ble_eq_true rfl) (Nat.le_of_ble_eq_true rfl) (Nat.le_of_ble_eq_true rfl) (fun μ2 q2 => ?_)
        refine aw_iload_n dX8_sizeOf_49 rfl ?_
        refine aw_if_eq (tgt := 59) dX8_sizeOf_50 (by decide) (fun c50 => ?_) (fun c50 => ?_)
        · refine aw_iload_n dX8_sizeOf_59 rfl ?_
          refine aw_iret dX8_sizeOf_60 rfl rfl rfl rfl ?_
          refine ⟨congrArg (fun z => some (Value.int z)) ?_, rfl, ?_, q2.2⟩
          · unfold pSz; rw [if_neg ek]
          · unfold pSzT; rw [if_neg ek]; exact q2.1
        · exact absurd (show nI 0 = 0 by decide +kernel) c50
      · exact absurd (show nI 0 = 0 by decide +kernel) c34
    · rw [nI_eq (by omega) (by decide)] at c23
      exact absurd c23 ek
