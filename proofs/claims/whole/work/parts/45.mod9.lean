set_option maxRecDepth 100000 in
set_option maxHeartbeats 4000000 in
theorem x_X8_lastsWith {G : am_G} {μ : am_M} (A : pA) (o files n left : Nat) (X : Option Value) (e : n = pUpH A.K o files 99) : am_W (am_K G RX8 "lastsWith" 7 (some .int) 2 0 0 (am_E (some (.int (nI (pUpH A.K o files 99)))) am_SH μ)) cX8_lastsWith 16 [some (.ref 234), some (.int (nI o)), some (.int (nI files)), some (.int (nI 0)), some (.int (nI left)), some (.int (nI n)), X] [] am_SH μ 0 0 := by
  refine aw_iload_n dX8_lastsWith_16 rfl ?_
  refine aw_if_le (tgt := 113) dX8_lastsWith_17 (by decide) (fun c17 => ?_) (fun c17 => ?_)
  · refine aw_iload dX8_lastsWith_113 rfl ?_
    refine aw_iret dX8_lastsWith_115 rfl rfl rfl rfl ?_
    exact ⟨congrArg (fun z => some (Value.int (nI z))) e, rfl, rfl⟩
  · exact absurd (show nI 0 ≤ 0 by decide +kernel) c17
set_option maxRecDepth 100000 in
set_option maxHeartbeats 4000000 in
theorem l_X8_lastsWith {G : am_G} {μ : am_M} (A : pA) (h0 : InvM μ A) (ok : okA A) (o files : Nat) (hoo : o < A.K 5) : ∀ (r n h left : Nat) (X : Option Value), n + r = 99 → h ≤ 20 → left ≤ 99 → (if h = 0 then n else n + pLs (A.K (7 + o)) (A.K 4) r h left) = pUpH A.K o files 99 → am_W (am_K G RX8 "lastsWith" 7 (some .int) 2 0 0 (am_E (some (.int (nI (pUpH A.K o files 99)))) am_SH μ)) cX8_lastsWith 16 [some (.ref 234), some (.int (nI o)), some (.int (nI files)), some (.int (nI h)), some (.int (nI left)), some (.int (nI n)), X] [] am_SH μ 0 0 := by
  have gk := ok.k.2.2.2.2 o hoo
  have h5 := ok.k.1
  intro r
  induction r with
  | zero =>
    intro n h left X hn hh hl e
    refine aw_iload_n dX8_lastsWith_16 rfl ?_
    refine aw_if_le (tgt := 113) dX8_lastsWith_17 (by decide) (fun c17 => ?_) (fun c17 => ?_)
    · rw [z_le (by omega)] at c17
      refine aw_iload dX8_lastsWith_113 rfl ?_
      refine aw_iret dX8_lastsWith_115 rfl rfl rfl rfl ?_
      rw [if_pos c17] at e
      exact ⟨congrArg (fun z => some (Value.int (nI z))) e, rfl, rfl⟩
    · rw [z_le (by omega)] at c17
      refine aw_iload dX8_lastsWith_20 rfl ?_
      refine aw_bipush (v := nI 99) dX8_lastsWith_22 rfl ?_
      refine aw_icmp_ge (tgt := 113) dX8_lastsWith_24 (by decide) (fun c24 => ?_) (fun c24 => ?_)
      · refine aw_iload dX8_lastsWith_113 rfl ?_
        refine aw_iret dX8_lastsWith_115 rfl rfl rfl rfl ?_
        rw [if_neg c17] at e
        exact ⟨congrArg (fun z => some (Value.int (nI z))) e, rfl, rfl⟩
      · exact absurd (nI_le (by omega) (by omega)) c24
  | succ r ih =>
    intro n h left X hn hh hl e
    refine aw_iload_n dX8_lastsWith_16 rfl ?_
    refine aw_if_le (tgt := 113) dX8_lastsWith_17 (by decide) (fun c17 => ?_) (fun c17 => ?_)
    · rw [z_le (by omega)] at c17
      refine aw_iload dX8_lastsWith_113 rfl ?_
      refine aw_iret dX8_lastsWith_115 rfl rfl rfl rfl ?_
      rw [if_pos c17] at e
      exact ⟨congrArg (fun z => some (Value.int (nI z))) e, rfl, rfl⟩
    · rw [z_le (by omega)] at c17
      refine aw_iload dX8_lastsWith_20 rfl ?_
      refine aw_bipush (v := nI 99) dX8_lastsWith_22 rfl ?_
      refine aw_icmp_ge (tgt := 113) dX8_lastsWith_24 (by decide) (fun c24 => ?_) (fun c24 => ?_)
      · exact absurd c24 (nI_ge (by omega) (by omega))
      · refine aw_aload_n dX8_lastsWith_27 rfl ?_
        refine aw_gr dX8_lastsWith_28 gf_X8_22 sh_234 (by rfl) ?_
        refine aw_iload_n dX8_lastsWith_31 rfl ?_
        refine aw_s2i dX8_lastsWith_32 ml_X8_157 st_X8_sunk (c_X8_sunk 239 sh_239 A.K h0.sk ok.k h hh) (Nat.le_of_ble_eq_true rfl) (Nat.le_of_ble_eq_true rfl) (Nat.le_of_ble_eq_true rfl) (Nat.le_of_ble_eq_true rfl) (Nat.le_of_ble_eq_true rfl) ?_
        refine aw_if_ne (tgt := 47) dX8_lastsWith_35 (by decide) (fun c35 => ?_) (fun c35 => ?_)
        · rw [z_eq (by omega)] at c35
          refine aw_iconst (v := nI 0) dX8_lastsWith_47 rfl ?_
          refine aw_istore dX8_lastsWith_48 (Nat.le_of_ble_eq_true rfl) ?_
          refine aw_iload dX8_lastsWith_50 rfl ?_
          refine aw_iload dX8_lastsWith_52 rfl ?_
          refine aw_if_eq (tgt := 61) dX8_lastsWith_54 (by decide) (fun c54 => ?_) (fun c54 => ?_)
          · refine aw_iconst (v := nI 0) dX8_lastsWith_61 rfl ?_
            refine aw_isub dX8_lastsWith_62 ?_
            refine aw_top (pk_sub (by omega)) ?_
            refine aw_istore dX8_lastsWith_63 (Nat.le_of_ble_eq_true rfl) ?_
            refine aw_aload_n dX8_lastsWith_65 rfl ?_
            refine aw_gr dX8_lastsWith_66 gf_X8_22 sh_234 (by rfl) ?_
            refine aw_aload_n dX8_lastsWith_69 rfl ?_
            refine aw_gr dX8_lastsWith_70 gf_X8_22 sh_234 (by rfl) ?_
            refine aw_bipush (v := nI 7) dX8_lastsWith_73 rfl ?_
            refine aw_iload_n dX8_lastsWith_75 rfl ?_
            refine aw_iadd dX8_lastsWith_76 ?_
            refine aw_top (nI_add _ _) ?_
            refine aw_iald dX8_lastsWith_77 sh_239 rfl (by omega) (by decide) ?_
            refine aw_top (h0.sk (7 + o) (by omega)) ?_
            refine aw_iload_n dX8_lastsWith_78 rfl ?_
            refine aw_iload dX8_lastsWith_79 rfl ?_
            refine aw_if_eq (tgt := 88) dX8_lastsWith_81 (by decide) (fun c81 => ?_) (fun c81 => ?_)
            · refine aw_iconst (v := nI 0) dX8_lastsWith_88 rfl ?_
              refine aw_s3i dX8_lastsWith_89 ml_X8_165 st_X8_lifted (c_X8_lifted (A.K (7 + o)) h _ gk.1.1 gk.1.2 hh (by decide)) (Nat.le_of_ble_eq_true rfl) (Nat.le_of_ble_eq_true rfl) (Nat.le_of_ble_eq_true rfl) (Nat.le_of_ble_eq_true rfl) (Nat.le_of_ble_eq_true rfl) ?_
              have hpl := pLifted_le (A.K (7 + o)) 1 h hh
              have hp0 := pLifted_le (A.K (7 + o)) 0 h hh
              refine aw_s2i dX8_lastsWith_92 ml_X8_157 st_X8_sunk (c_X8_sunk 239 sh_239 A.K h0.sk ok.k _ (by assumption)) (Nat.le_of_ble_eq_true rfl) (Nat.le_of_ble_eq_true rfl) (Nat.le_of_ble_eq_true rfl) (Nat.le_of_ble_eq_true rfl) (Nat.le_of_ble_eq_true rfl) ?_
              refine aw_istore_n dX8_lastsWith_95 (Nat.le_of_ble_eq_true rfl) ?_
              refine aw_iload dX8_lastsWith_96 rfl ?_
              refine aw_iload_n dX8_lastsWith_98 rfl ?_
              refine aw_if_le (tgt := 106) dX8_lastsWith_99 (by decide) (fun c99 => ?_) (fun c99 => ?_)
              · rw [z_le (by omega)] at c99
                refine aw_iconst (v := nI 0) dX8_lastsWith_106 rfl ?_
                refine aw_iadd dX8_lastsWith_107 ?_
                refine aw_top (nI_add _ _) ?_
                refine aw_istore dX8_lastsWith_108 (Nat.le_of_ble_eq_true rfl) ?_
                refine aw_goto (tgt := 16) dX8_lastsWith_110 (by decide) ?_
                have e1 : pLh (A.K (7 + o)) (A.K 4) h left = pLifted (A.K (7 + o)) h 0 - A.K 4 := by unfold pLh; rw [if_neg (fun q => c35 q.1)]; rfl
                have e2 : pLl (A.K 4) h left = left - 0 := by unfold pLl; rw [if_neg (fun q => c35 q.1)]; rfl
                rw [if_neg c17, pLs, e1, e2] at e
                rw [if_pos c99] at e
                rw [c99]
                exact x_X8_lastsWith A o files _ _ _ e
              · rw [z_le (by omega)] at c99
                refine aw_iconst (v := nI 1) dX8_lastsWith_102 rfl ?_
                refine aw_goto (tgt := 107) dX8_lastsWith_103 (by decide) ?_
                refine aw_iadd dX8_lastsWith_107 ?_
                refine aw_top (nI_add _ _) ?_
                refine aw_istore dX8_lastsWith_108 (Nat.le_of_ble_eq_true rfl) ?_
                refine aw_goto (tgt := 16) dX8_lastsWith_110 (by decide) ?_
                have e1 : pLh (A.K (7 + o)) (A.K 4) h left = pLifted (A.K (7 + o)) h 0 - A.K 4 := by unfold pLh; rw [if_neg (fun q => c35 q.1)]; rfl
                have e2 : pLl (A.K 4) h left = left - 0 := by unfold pLl; rw [if_neg (fun q => c35 q.1)]; rfl
                rw [if_neg c17, pLs, e1, e2] at e
                rw [if_neg c99] at e
                exact ih (n + 1) _ _ _ (by omega) (by omega) (by omega) (by rw [if_neg c99]; omega)
            · exact absurd (show nI 0 = 0 by decide +kernel) c81
          · exact absurd (show nI 0 = 0 by decide +kernel) c54
        · rw [z_eq (by omega)] at c35
          refine aw_iload dX8_lastsWith_38 rfl ?_
          refine aw_if_le (tgt := 47) dX8_lastsWith_40 (by decide) (fun c40 => ?_) (fun c40 => ?_)
          · rw [z_le (by omega)] at c40
            refine aw_iconst (v := nI 0) dX8_lastsWith_47 rfl ?_
            refine aw_istore dX8_lastsWith_48 (Nat.le_of_ble_eq_true rfl) ?_
            refine aw_iload dX8_lastsWith_50 rfl ?_
            refine aw_iload dX8_lastsWith_52 rfl ?_
            refine aw_if_eq (tgt := 61) dX8_lastsWith_54 (by decide) (fun c54 => ?_) (fun c54 => ?_)
            · refine aw_iconst (v := nI 0) dX8_lastsWith_61 rfl ?_
              refine aw_isub dX8_lastsWith_62 ?_
              refine aw_top (pk_sub (by omega)) ?_
              refine aw_istore dX8_lastsWith_63 (Nat.le_of_ble_eq_true rfl) ?_
              refine aw_aload_n dX8_lastsWith_65 rfl ?_
              refine aw_gr dX8_lastsWith_66 gf_X8_22 sh_234 (by rfl) ?_
              refine aw_aload_n dX8_lastsWith_69 rfl ?_
              refine aw_gr dX8_lastsWith_70 gf_X8_22 sh_234 (by rfl) ?_
              refine aw_bipush (v := nI 7) dX8_lastsWith_73 rfl ?_
              refine aw_iload_n dX8_lastsWith_75 rfl ?_
              refine aw_iadd dX8_lastsWith_76 ?_
              refine aw_top (nI_add _ _) ?_
              refine aw_iald dX8_lastsWith_77 sh_239 rfl (by omega) (by decide) ?_
              refine aw_top (h0.sk (7 + o) (by omega)) ?_
              refine aw_iload_n dX8_lastsWith_78 rfl ?_
              refine aw_iload dX8_lastsWith_79 rfl ?_
              refine aw_if_eq (tgt := 88) dX8_lastsWith_81 (by decide) (fun c81 => ?_) (fun c81 => ?_)
              · refine aw_iconst (v := nI 0) dX8_lastsWith_88 rfl ?_
                refine aw_s3i dX8_lastsWith_89 ml_X8_165 st_X8_lifted (c_X8_lifted (A.K (7 + o)) h _ gk.1.1 gk.1.2 hh (by decide)) (Nat.le_of_ble_eq_true rfl) (Nat.le_of_ble_eq_true rfl) (Nat.le_of_ble_eq_true rfl) (Nat.le_of_ble_eq_true rfl) (Nat.le_of_ble_eq_true rfl) ?_
                have hpl := pLifted_le (A.K (7 + o)) 1 h hh
                have hp0 := pLifted_le (A.K (7 + o)) 0 h hh
                refine aw_s2i dX8_lastsWith_92 ml_X8_157 st_X8_sunk (c_X8_sunk 239 sh_239 A.K h0.sk ok.k _ (by assumption)) (Nat.le_of_ble_eq_true rfl) (Nat.le_of_ble_eq_true rfl) (Nat.le_of_ble_eq_true rfl) (Nat.le_of_ble_eq_true rfl) (Nat.le_of_ble_eq_true rfl) ?_
                refine aw_istore_n dX8_lastsWith_95 (Nat.le_of_ble_eq_true rfl) ?_
                refine aw_iload dX8_lastsWith_96 rfl ?_
                refine aw_iload_n dX8_lastsWith_98 rfl ?_
                refine aw_if_le (tgt := 106) dX8_lastsWith_99 (by decide) (fun c99 => ?_) (fun c99 => ?_)
                · rw [z_le (by omega)] at c99
                  refine aw_iconst (v := nI 0) dX8_lastsWith_106 rfl ?_
                  refine aw_iadd dX8_lastsWith_107 ?_
                  refine aw_top (nI_add _ _) ?_
                  refine aw_istore dX8_lastsWith_108 (Nat.le_of_ble_eq_true rfl) ?_
                  refine aw_goto (tgt := 16) dX8_lastsWith_110 (by decide) ?_
                  have e1 : pLh (A.K (7 + o)) (A.K 4) h left = pLifted (A.K (7 + o)) h 0 - A.K 4 := by unfold pLh; rw [if_neg (fun q => by omega)]; rfl
                  have e2 : pLl (A.K 4) h left = left - 0 := by unfold pLl; rw [if_neg (fun q => by omega)]; rfl
                  rw [if_neg c17, pLs, e1, e2] at e
                  rw [if_pos c99] at e
                  rw [c99]
                  exact x_X8_lastsWith A o files _ _ _ e
                · rw [z_le (by omega)] at c99
                  refine aw_iconst (v := nI 1) dX8_lastsWith_102 rfl ?_
                  refine aw_goto (tgt := 107) dX8_lastsWith_103 (by decide) ?_
                  refine aw_iadd dX8_lastsWith_107 ?_
                  refine aw_top (nI_add _ _) ?_
                  refine aw_istore dX8_lastsWith_108 (Nat.le_of_ble_eq_true rfl) ?_
                  refine aw_goto (tgt := 16) dX8_lastsWith_110 (by decide) ?_
                  have e1 : pLh (A.K (7 + o)) (A.K 4) h left = pLifted (A.K (7 + o)) h 0 - A.K 4 := by unfold pLh; rw [if_neg (fun q => by omega)]; rfl
                  have e2 : pLl (A.K 4) h left = left - 0 := by unfold pLl; rw [if_neg (fun q => by omega)]; rfl
                  rw [if_neg c17, pLs, e1, e2] at e
                  rw [if_neg c99] at e
                  exact ih (n + 1) _ _ _ (by omega) (by omega) (by omega) (by rw [if_neg c99]; omega)
              · exact absurd (show nI 0 = 0 by decide +kernel) c81
            · exact absurd (show nI 0 = 0 by decide +kernel) c54
          · rw [z_le (by omega)] at c40
            refine aw_iconst (v := nI 1) dX8_lastsWith_43 rfl ?_
            refine aw_goto (tgt := 48) dX8_lastsWith_44 (by decide) ?_
            refine aw_istore dX8_lastsWith_48 (Nat.le_of_ble_eq_true rfl) ?_
            refine aw_iload dX8_lastsWith_50 rfl ?_
            refine aw_iload dX8_lastsWith_52 rfl ?_
            refine aw_if_eq (tgt := 61) dX8_lastsWith_54 (by decide) (fun c54 => ?_) (fun c54 => ?_)
            · exact absurd c54 (by decide +kernel)
            · refine aw_iconst (v := nI 1) dX8_lastsWith_57 rfl ?_
              refine aw_goto (tgt := 62) dX8_lastsWith_58 (by decide) ?_
              refine aw_isub dX8_lastsWith_62 ?_
              refine aw_top (pk_sub (by omega)) ?_
              refine aw_istore dX8_lastsWith_63 (Nat.le_of_ble_eq_true rfl) ?_
              refine aw_aload_n dX8_lastsWith_65 rfl ?_
              refine aw_gr dX8_lastsWith_66 gf_X8_22 sh_234 (by rfl) ?_
              refine aw_aload_n dX8_lastsWith_69 rfl ?_
              refine aw_gr dX8_lastsWith_70 gf_X8_22 sh_234 (by rfl) ?_
              refine aw_bipush (v := nI 7) dX8_lastsWith_73 rfl ?_
              refine aw_iload_n dX8_lastsWith_75 rfl ?_
              refine aw_iadd dX8_lastsWith_76 ?_
              refine aw_top (nI_add _ _) ?_
              refine aw_iald dX8_lastsWith_77 sh_239 rfl (by omega) (by decide) ?_
              refine aw_top (h0.sk (7 + o) (by omega)) ?_
              refine aw_iload_n dX8_lastsWith_78 rfl ?_
              refine aw_iload dX8_lastsWith_79 rfl ?_
              refine aw_if_eq (tgt := 88) dX8_lastsWith_81 (by decide) (fun c81 => ?_) (fun c81 => ?_)
              · exact absurd c81 (by decide +kernel)
              · refine aw_iconst (v := nI 1) dX8_lastsWith_84 rfl ?_
                refine aw_goto (tgt := 89) dX8_lastsWith_85 (by decide) ?_
                refine aw_s3i dX8_lastsWith_89 ml_X8_165 st_X8_lifted (c_X8_lifted (A.K (7 + o)) h _ gk.1.1 gk.1.2 hh (by decide)) (Nat.le_of_ble_eq_true rfl) (Nat.le_of_ble_eq_true rfl) (Nat.le_of_ble_eq_true rfl) (Nat.le_of_ble_eq_true rfl) (Nat.le_of_ble_eq_true rfl) ?_
                have hpl := pLifted_le (A.K (7 + o)) 1 h hh
                have hp0 := pLifted_le (A.K (7 + o)) 0 h hh
                refine aw_s2i dX8_lastsWith_92 ml_X8_157 st_X8_sunk (c_X8_sunk 239 sh_239 A.K h0.sk ok.k _ (by assumption)) (Nat.le_of_ble_eq_true rfl) (Nat.le_of_ble_eq_true rfl) (Nat.le_of_ble_eq_true rfl) (Nat.le_of_ble_eq_true rfl) (Nat.le_of_ble_eq_true rfl) ?_
                refine aw_istore_n dX8_lastsWith_95 (Nat.le_of_ble_eq_true rfl) ?_
                refine aw_iload dX8_lastsWith_96 rfl ?_
                refine aw_iload_n dX8_lastsWith_98 rfl ?_
                refine aw_if_le (tgt := 106) dX8_lastsWith_99 (by decide) (fun c99 => ?_) (fun c99 => ?_)
                · rw [z_le (by omega)] at c99
                  refine aw_iconst (v := nI 0) dX8_lastsWith_106 rfl ?_
                  refine aw_iadd dX8_lastsWith_107 ?_
                  refine aw_top (nI_add _ _) ?_
                  refine aw_istore dX8_lastsWith_108 (Nat.le_of_ble_eq_true rfl) ?_
                  refine aw_goto (tgt := 16) dX8_lastsWith_110 (by decide) ?_
                  have e1 : pLh (A.K (7 + o)) (A.K 4) h left = pLifted (A.K (7 + o)) h 1 - A.K 4 := by unfold pLh; rw [if_pos ⟨c35, by omega⟩]
                  have e2 : pLl (A.K 4) h left = left - 1 := by unfold pLl; rw [if_pos ⟨c35, by omega⟩]
                  rw [if_neg c17, pLs, e1, e2] at e
                  rw [if_pos c99] at e
                  rw [c99]
                  exact x_X8_lastsWith A o files _ _ _ e
                · rw [z_le (by omega)] at c99
                  refine aw_iconst (v := nI 1) dX8_lastsWith_102 rfl ?_
                  refine aw_goto (tgt := 107) dX8_lastsWith_103 (by decide) ?_
                  refine aw_iadd dX8_lastsWith_107 ?_
                  refine aw_top (nI_add _ _) ?_
                  refine aw_istore dX8_lastsWith_108 (Nat.le_of_ble_eq_true rfl) ?_
                  refine aw_goto (tgt := 16) dX8_lastsWith_110 (by decide) ?_
                  have e1 : pLh (A.K (7 + o)) (A.K 4) h left = pLifted (A.K (7 + o)) h 1 - A.K 4 := by unfold pLh; rw [if_pos ⟨c35, by omega⟩]
                  have e2 : pLl (A.K 4) h left = left - 1 := by unfold pLl; rw [if_pos ⟨c35, by omega⟩]
                  rw [if_neg c17, pLs, e1, e2] at e
                  rw [if_neg c99] at e
                  exact ih (n + 1) _ _ _ (by omega) (by omega) (by omega) (by rw [if_neg c99]; omega)
set_option maxRecDepth 100000 in
set_option maxHeartbeats 4000000 in
theorem c_X8_lastsWith {G : am_G} {μ : am_M} (A : pA) (h0 : InvM μ A) (ok : okA A) (o files : Nat) (hoo : o < A.K 5) (hf : files ≤ 99) : am_MA G yX8_lastsWith cX8_lastsWith 7 (some .int) 2 0 0 [.ref 234, .int (nI o), .int (nI files)] am_SH μ (am_E (some (.int (nI (pUpH A.K o files 99)))) am_SH μ) := by
  have h5 := ok.k.1
  refine am_ofK (own := RX8) (nm := "lastsWith") (L := [some (.ref 234), some (.int (nI o)), some (.int (nI files)), none, none, none, none]) rfl rfl (by decide +kernel) (Nat.le_of_ble_eq_true rfl) rfl ?_
  refine aw_aload_n dX8_lastsWith_0 rfl ?_
  refine aw_gr dX8_lastsWith_1 gf_X8_22 sh_234 (by rfl) ?_
  refine aw_bipush (v := nI 17) dX8_lastsWith_4 rfl ?_
  refine aw_iload_n dX8_lastsWith_6 rfl ?_
  refine aw_iadd dX8_lastsWith_7 ?_
  refine aw_top (nI_add _ _) ?_
  refine aw_iald dX8_lastsWith_8 sh_239 rfl (by omega) (by decide) ?_
  refine aw_top (h0.sk (17 + o) (by omega)) ?_
  refine aw_istore_n dX8_lastsWith_9 (Nat.le_of_ble_eq_true rfl) ?_
  refine aw_iload_n dX8_lastsWith_10 rfl ?_
  refine aw_istore dX8_lastsWith_11 (Nat.le_of_ble_eq_true rfl) ?_
  refine aw_iconst (v := nI 0) dX8_lastsWith_13 rfl ?_
  refine aw_istore dX8_lastsWith_14 (Nat.le_of_ble_eq_true rfl) ?_
  exact l_X8_lastsWith A h0 ok o files hoo 99 0 _ _ _ rfl (ok.k.2.2.2.2 o hoo).2.2.1 hf (by unfold pUpH; split <;> simp)
set_option maxRecDepth 100000 in
set_option maxHeartbeats 4000000 in
theorem c_X8_lasts {G : am_G} {μ : am_M} (A : pA) (h : InvM μ A) (ok : okA A) (x1 : Int32) : am_MA G yX8_lasts cX8_lasts 2 (some .int) 3 0 0 [.ref 234, .int x1] am_SH μ (am_P (some (.int (oLasts A x1).1)) am_SH (fun μ9 => InvM μ9 (oLasts A x1).2 ∧ am_fr μ μ9 234 14)) := by
  have h5 := ok.k.1
  refine am_ofK (own := RX8) (nm := "lasts") (L := [some (.ref 234), some (.int x1)]) rfl rfl (by decide +kernel) (Nat.le_of_ble_eq_true rfl) rfl ?_
  refine aw_aload_n dX8_lasts_0 rfl ?_
  refine aw_iload_n dX8_lasts_1 rfl ?_
  refine aw_v1i dX8_lasts_2 ml_X8_186 im_X8_isOffice se_X8_isOffice (c_X8_isOffice A h.sk ok.k _) sh_234 (by decide) rfl rfl (Nat.le_of_ble_eq_true rfl) (Nat.le_of_ble_eq_true rfl) (Nat.le_of_ble_eq_true rfl) (Nat.le_of_ble_eq_true rfl) (Nat.le_of_ble_eq_true rfl) ?_
  refine aw_pif_eq (tgt := 25) dX8_lasts_5 (by decide) (fun c5 => ?_) (fun c5 => ?_)
  · refine aw_ldc dX8_lasts_25 kc_X8_67 ?_
    refine aw_iret dX8_lasts_27 rfl rfl rfl rfl ?_
    exact pAnsM ((if_neg c5).trans rfl) h am_fr.rf
  · obtain ⟨k5, rfl, ha5, hb5, hz5⟩ := pIn_ex c5
    refine aw_aload_n dX8_lasts_8 rfl ?_
    refine aw_iload_n dX8_lasts_9 rfl ?_
    refine aw_aload_n dX8_lasts_10 rfl ?_
    refine aw_gr dX8_lasts_11 gf_X8_22 sh_234 (by rfl) ?_
    refine aw_bipush (v := nI 22) dX8_lasts_14 rfl ?_
    refine aw_iload_n dX8_lasts_16 rfl ?_
    refine aw_iadd dX8_lasts_17 ?_
    refine aw_top (nI_add _ _) ?_
    refine aw_iald dX8_lasts_18 sh_239 rfl (by omega) (by decide) ?_
    refine aw_top (h.sk (22 + k5) (by omega)) ?_
    refine aw_v2i dX8_lasts_19 ml_X8_242 im_X8_lastsWith se_X8_lastsWith (c_X8_lastsWith A h ok k5 (A.K (22 + k5)) hb5 (ok.k.2.2.2.2 k5 hb5).2.2.2) sh_234 (by decide) rfl rfl (Nat.le_of_ble_eq_true rfl) (Nat.le_of_ble_eq_true rfl) (Nat.le_of_ble_eq_true rfl) (Nat.le_of_ble_eq_true rfl) (Nat.le_of_ble_eq_true rfl) ?_
    refine aw_goto (tgt := 27) dX8_lasts_22 (by decide) ?_
    refine aw_iret dX8_lasts_27 rfl rfl rfl rfl ?_
    refine pAnsM ?_ h am_fr.rf
    rw [oLasts, if_pos c5, zN_nI hz5]
theorem pLs_min (k s : Nat) : ∀ m M h left, m ≤ M → pLs k s m h left = min m (pLs k s M h left)
  | 0, M, h, left, _ => by simp [pLs]
  | m + 1, 0, h, left, hm => absurd hm (by omega)
  | m + 1, M + 1, h, left, hm => by
    unfold pLs
    split
    · simp
    · rw [pLs_min k s m M _ _ (by omega)]; omega
theorem pUpH_min (K : pK) (o f n : Nat) (hn : n ≤ 99) : (n ≤ pUpH K o f n) ↔ n ≤ pUpH K o f 99 := by
  unfold pUpH
  split
  · exact Iff.rfl
  · rw [pLs_min _ _ n 99 _ _ hn]; omega
set_option maxRecDepth 100000 in
set_option maxHeartbeats 4000000 in
theorem l_X8_kept {G : am_G} {μ : am_M} (A : pA) (h : InvM μ A) (ok : okA A) (o n : Nat) (hoo : o < A.K 5) (hn : n ≤ 24) : ∀ (r f : Nat), f + r = 61 → pKp A.K o n r f = pKp A.K o n 61 0 → am_W (am_K G RX8 "kept" 4 (some .int) 3 0 0 (am_P (some (.int (pKp A.K o n 61 0))) am_SH (fun μ9 => InvM μ9 A ∧ am_fr μ μ9 234 14))) cX8_kept 25 [some (.ref 234), some (.int (nI o)), some (.int (nI n)), some (.int (nI f))] [] am_SH μ 0 0 := by
  intro r
  induction r with
  | zero =>
    intro f hf e
    refine aw_iload_n dX8_kept_25 rfl ?_
    refine aw_bipush (v := nI 60) dX8_kept_26 rfl ?_
    refine aw_icmp_gt (tgt := 49) dX8_kept_28 (by decide) (fun c28 => ?_) (fun c28 => ?_)
    · refine aw_ldc dX8_kept_49 kc_X8_216 ?_
      refine aw_iret dX8_kept_51 rfl rfl rfl rfl ?_
      exact ⟨congrArg (fun z => some (Value.int z)) e, rfl, h, am_fr.rf⟩
    · exact absurd (nI_lt (by omega) (by omega)) c28
  | succ r ih =>
    intro f hf e
    refine aw_iload_n dX8_kept_25 rfl ?_
    refine aw_bipush (v := nI 60) dX8_kept_26 rfl ?_
    refine aw_icmp_gt (tgt := 49) dX8_kept_28 (by decide) (fun c28 => ?_) (fun c28 => ?_)
    · exact absurd c28 (nI_nlt (by omega) (by omega))
    · refine aw_aload_n dX8_kept_31 rfl ?_
      refine aw_iload_n dX8_kept_32 rfl ?_
      refine aw_iload_n dX8_kept_33 rfl ?_
      refine aw_v2i dX8_kept_34 ml_X8_242 im_X8_lastsWith se_X8_lastsWith (c_X8_lastsWith A h ok o f hoo (by omega)) sh_234 (by decide) rfl rfl (Nat.le_of_ble_eq_true rfl) (Nat.le_of_ble_eq_true rfl) (Nat.le_of_ble_eq_true rfl) (Nat.le_of_ble_eq_true rfl) (Nat.le_of_ble_eq_true rfl) ?_
      have hu := pUpH_le A.K o f 99
      refine aw_iload_n dX8_kept_37 rfl ?_
      refine aw_icmp_lt (tgt := 43) dX8_kept_38 (by decide) (fun c38 => ?_) (fun c38 => ?_)
      · rw [nI_ltI (by omega) (by omega)] at c38
        refine aw_iinc (v := nI (f + 1)) dX8_kept_43 rfl (nI_1 f) (Nat.le_of_ble_eq_true rfl) ?_
        refine aw_goto (tgt := 25) dX8_kept_46 (by decide) ?_
        rw [pKp, if_neg (fun q => by have := (pUpH_min _ _ _ _ (by omega)).mp q; omega)] at e
        exact ih (f + 1) (by omega) e
      · rw [nI_ltI (by omega) (by omega)] at c38
        refine aw_iload_n dX8_kept_41 rfl ?_
        refine aw_iret dX8_kept_42 rfl rfl rfl rfl ?_
        rw [pKp, if_pos ((pUpH_min _ _ _ _ (by omega)).mpr (by omega))] at e
        exact ⟨congrArg (fun z => some (Value.int z)) e, rfl, h, am_fr.rf⟩
set_option maxRecDepth 100000 in
set_option maxHeartbeats 4000000 in
theorem c_X8_kept {G : am_G} {μ : am_M} (A : pA) (h : InvM μ A) (ok : okA A) (x1 x2 : Int32) : am_MA G yX8_kept cX8_kept 4 (some .int) 3 0 0 [.ref 234, .int x1, .int x2] am_SH μ (am_P (some (.int (oKept A x1 x2).1)) am_SH (fun μ9 => InvM μ9 (oKept A x1 x2).2 ∧ am_fr μ μ9 234 14)) := by
  refine am_ofK (own := RX8) (nm := "kept") (L := [some (.ref 234), some (.int x1), some (.int x2), none]) rfl rfl (by decide +kernel) (Nat.le_of_ble_eq_true rfl) rfl ?_
  refine aw_aload_n dX8_kept_0 rfl ?_
  refine aw_iload_n dX8_kept_1 rfl ?_
  refine aw_v1i dX8_kept_2 ml_X8_186 im_X8_isOffice se_X8_isOffice (c_X8_isOffice A h.sk ok.k _) sh_234 (by decide) rfl rfl (Nat.le_of_ble_eq_true rfl) (Nat.le_of_ble_eq_true rfl) (Nat.le_of_ble_eq_true rfl) (Nat.le_of_ble_eq_true rfl) (Nat.le_of_ble_eq_true rfl) ?_
  refine aw_pif_eq (tgt := 20) dX8_kept_5 (by decide) (fun c5 => ?_) (fun c5 => ?_)
  · refine aw_ldc dX8_kept_20 kc_X8_67 ?_
    refine aw_iret dX8_kept_22 rfl rfl rfl rfl ?_
    exact pAnsM ((if_neg c5).trans rfl) h am_fr.rf
  · obtain ⟨k5, rfl, ha5, hb5, hz5⟩ := pIn_ex c5
    refine aw_iload_n dX8_kept_8 rfl ?_
    refine aw_i2l dX8_kept_9 ?_
    refine aw_lconst (v := lN 1) dX8_kept_10 rfl ?_
    refine aw_ldc2 dX8_kept_11 kl_X8_170 ?_
    refine aw_s3i dX8_kept_14 ml_X8_57 st_X8_in (c_X8_in _ 1 25 (by decide +kernel) (by decide +kernel)) (Nat.le_of_ble_eq_true rfl) (Nat.le_of_ble_eq_true rfl) (Nat.le_of_ble_eq_true rfl) (Nat.le_of_ble_eq_true rfl) (Nat.le_of_ble_eq_true rfl) ?_
    refine aw_pif_ne (tgt := 23) dX8_kept_17 (by decide) (fun c17 => ?_) (fun c17 => ?_)
    · obtain ⟨k17, rfl, ha17, hb17, hz17⟩ := pIn_ex c17
      refine aw_iconst (v := nI 0) dX8_kept_23 rfl ?_
      refine aw_istore_n dX8_kept_24 (Nat.le_of_ble_eq_true rfl) ?_
      have e9 : oKept A (nI k5) (nI k17) = (pKp A.K k5 k17 61 0, A) := by rw [oKept, if_pos c5, if_pos c17, zN_nI hz5, zN_nI hz17]
      rw [e9]
      exact l_X8_kept A h ok k5 k17 hb5 (by omega) 61 0 rfl rfl
    · refine aw_ldc dX8_kept_20 kc_X8_67 ?_
      refine aw_iret dX8_kept_22 rfl rfl rfl rfl ?_
      exact pAnsM ((if_pos c5).trans ((if_neg c17).trans rfl)) h am_fr.rf
