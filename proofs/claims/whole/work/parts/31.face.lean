/-! ===== the class's own methods ===== -/
theorem pI_tr {P : Prop} [Decidable P] (h : P) : some (Value.int (nI 1)) = some (.int (pI P)) := by rw [pI_1 h]; rfl
theorem pI_fa {P : Prop} [Decidable P] (h : ¬ P) : some (Value.int (nI 0)) = some (.int (pI P)) := by rw [pI_n h]; rfl
theorem z_lt2 {x y : Int32} : x < y ↔ x.toInt < y.toInt := Int32.lt_iff_toInt_lt
theorem z_le2 {x y : Int32} : x ≤ y ↔ x.toInt ≤ y.toInt := Int32.le_iff_toInt_le
theorem pn_pred {n : Nat} (h : n < 2 ^ 31) : (nI n - nI 1).toInt = (n : Int) - 1 := by
  cases n with
  | zero => decide +kernel
  | succ n => rw [show nI (n + 1) - nI 1 = nI n from nI_pred n, nI_toInt (by omega)]; omega
theorem InvC.row {μ μ' : am_M} {A : pA} {r : Nat} {x : Option pRow} (h : InvC μ A) (q1 : rowC μ' (2 + 2 * r) x) (q2 : am_fr μ μ' (2 + 2 * r) 2) (hr : r < 8) : InvC (am_up μ' 0 (upd (μ' 0) 9 (nI 0))) (A.sW (wUp A.w r x)) :=
  ⟨fun q hq => by
    show rowC _ _ (wUp A.w r x q)
    by_cases e : q = r
    · subst e; rw [wUp_s]; exact q1.fr (fun b _ _ => am_up_n (by omega))
    · rw [wUp_n e]; exact (h.rows q hq).fr (fun b _ _ => by rw [am_up_n (by omega)]; exact q2 b (by omega)), by rw [am_ups, pk_un (by decide), q2 0 (by omega)]; exact h.fa, by rw [am_ups, pk_us]; rfl, h.tp.imp (fun s q => q.fr (fun b _ _ => by rw [am_up_n (by omega)]; exact q2 b (by omega))), h.sk.fr (fun b _ _ => by rw [am_up_n (by omega)]; exact q2 b (by omega)), h.ac.fr (fun b _ _ => by rw [am_up_n (by omega)]; exact q2 b (by omega)), fun k hk => (h.im k hk).fr (fun b _ _ => by rw [am_up_n (by omega)]; exact q2 b (by omega)), h.tr.fr (fun b _ _ => by rw [am_up_n (by omega)]; exact q2 b (by omega))⟩
theorem InvC.sky {μ μ' : am_M} {A : pA} {K : pK} {ac : List pK} (h : InvC μ A) (q1 : skyC μ' 27 K) (q2 : actC μ' ac) (e : ∀ b, b < 20 ∨ (204 ≤ b ∧ b < 220) ∨ (232 ≤ b ∧ b < 234) → μ' b = μ b) : InvC μ' (A.sK K ac) :=
  ⟨fun r hr => (h.rows r hr).fr (fun b _ _ => e b (by omega)), by rw [e 0 (by omega)]; exact h.fa, by rw [e 0 (by omega)]; exact h.fi, h.tp.imp (fun s q => q.fr (fun b _ _ => e b (by omega))), q1, q2, fun k hk => (h.im k hk).fr (fun b _ _ => e b (by omega)), h.tr.fr (fun b _ _ => e b (by omega))⟩
theorem InvC.tape {μ μ' : am_M} {A : pA} {tb : Nat → Nat} {tl : Nat} {s : Nat × Nat} (h : InvC μ A) (q1 : tpC μ' tb tl s) (e : ∀ b, b < 18 ∨ (27 ≤ b ∧ b < 220) ∨ (232 ≤ b ∧ b < 234) → μ' b = μ b) : InvC μ' (A.sT tb tl) :=
  ⟨fun r hr => (h.rows r hr).fr (fun b _ _ => e b (by omega)), by rw [e 0 (by omega)]; exact h.fa, by rw [e 0 (by omega)]; exact h.fi, ⟨s, q1⟩, h.sk.fr (fun b _ _ => e b (by omega)), h.ac.fr (fun b _ _ => e b (by omega)), fun k hk => (h.im k hk).fr (fun b _ _ => e b (by omega)), h.tr.fr (fun b _ _ => e b (by omega))⟩
theorem InvC.flt {μ : am_M} {A : pA} (h : InvC μ A) (f : Nat) (h0 : A.tl = 0) : InvC (am_up μ 0 (upd (μ 0) 8 (nI f))) (A.sA f) :=
  ⟨fun r hr => (h.rows r hr).fr (fun b _ _ => am_up_n (by omega)), by rw [am_ups, pk_us]; rfl, by rw [am_ups, pk_un (by decide)]; exact h.fi, by have := h.tp; rw [h0] at this; exact this.imp (fun s q => q.fr (fun b _ _ => am_up_n (by omega))), h.sk.up (by omega), h.ac.fr (fun b _ _ => am_up_n (by omega)), fun k hk => (h.im k hk).up (by omega), h.tr.fr (fun b _ _ => am_up_n (by omega))⟩
theorem InvC.img {μ μ' : am_M} {A : pA} {j : Nat} {K : pK} (h : InvC μ A) (hj : j < 2) (q1 : skyC μ' (205 + 7 * j) K) (q2 : am_fr μ μ' (205 + 7 * j) 7) : InvC μ' (A.sI (iUp A.im j K)) :=
  ⟨fun r hr => (h.rows r hr).fr (fun b _ _ => q2 b (by omega)), by rw [q2 0 (by omega)]; exact h.fa, by rw [q2 0 (by omega)]; exact h.fi, h.tp.imp (fun s q => q.fr (fun b _ _ => q2 b (by omega))), h.sk.fr (fun b _ _ => q2 b (by omega)), h.ac.fr (fun b _ _ => q2 b (by omega)), fun k hk => by
    show skyC _ _ (iUp A.im j K k)
    by_cases e : k = j
    · subst e; rw [iUp_s]; exact q1
    · rw [iUp_n e]; exact (h.im k hk).fr (fun b _ _ => q2 b (by omega)), h.tr.fr (fun b _ _ => q2 b (by omega))⟩
theorem InvC.trc {μ μ' : am_M} {A : pA} {tr : List Nat} (h : InvC μ A) (q1 : trcC μ' tr) (q2 : am_fr μ μ' 232 2) : InvC μ' (A.sR tr) :=
  ⟨fun r hr => (h.rows r hr).fr (fun b _ _ => q2 b (by omega)), by rw [q2 0 (by omega)]; exact h.fa, by rw [q2 0 (by omega)]; exact h.fi, h.tp.imp (fun s q => q.fr (fun b _ _ => q2 b (by omega))), h.sk.fr (fun b _ _ => q2 b (by omega)), h.ac.fr (fun b _ _ => q2 b (by omega)), fun k hk => (h.im k hk).fr (fun b _ _ => q2 b (by omega)), q1⟩
theorem pAnsL {μ μ9 : am_M} {A : pA} {x op : Int64} (e : op = x) (i : InvC μ9 A) (f : am_fr μ μ9 0 234) : am_P (some (.long op)) am_SH (fun μ9 => InvC μ9 A ∧ am_fr μ μ9 0 234) (some (.long x)) am_SH μ9 := by subst e; exact ⟨rfl, rfl, i, f⟩
set_option maxRecDepth 100000 in
set_option maxHeartbeats 4000000 in
theorem c_X7_within {G : am_G} {sh : List am_S} {μ : am_M} (v : Int32) (lo n : Nat) {a b : Int32} (ea : a = nI lo) (eb : b = nI n - nI 1) (hlo : lo < 2 ^ 31) (hn : n < 2 ^ 31) : am_MA G yX7_within cX7_within 3 (some .boolean) 0 0 0 [.int v, .int a, .int b] sh μ (am_E (some (.int (pI (pIn v lo n)))) sh μ) := by
  subst ea eb
  have t1 := nI_toInt hlo
  have t2 := pn_pred hn
  refine am_ofK (own := RX7) (nm := "within") (L := [some (.int v), some (.int (nI lo)), some (.int (nI n - nI 1))]) rfl rfl (by decide +kernel) (Nat.le_of_ble_eq_true rfl) rfl ?_
  refine aw_iload_n dX7_within_0 rfl ?_
  refine aw_iload_n dX7_within_1 rfl ?_
  refine aw_icmp_lt (tgt := 14) dX7_within_2 (by decide) (fun c2 => ?_) (fun c2 => ?_)
  · refine aw_iconst (v := nI 0) dX7_within_14 rfl ?_
    refine aw_iret dX7_within_15 rfl rfl rfl rfl ?_
    exact ⟨pI_fa (by rw [z_lt2] at c2; omega), rfl, rfl⟩
  · refine aw_iload_n dX7_within_5 rfl ?_
    refine aw_iload_n dX7_within_6 rfl ?_
    refine aw_icmp_gt (tgt := 14) dX7_within_7 (by decide) (fun c7 => ?_) (fun c7 => ?_)
    · refine aw_iconst (v := nI 0) dX7_within_14 rfl ?_
      refine aw_iret dX7_within_15 rfl rfl rfl rfl ?_
      exact ⟨pI_fa (by rw [z_lt2] at c7; omega), rfl, rfl⟩
    · refine aw_iconst (v := nI 1) dX7_within_10 rfl ?_
      refine aw_goto (tgt := 15) dX7_within_11 (by decide) ?_
      refine aw_iret dX7_within_15 rfl rfl rfl rfl ?_
      exact ⟨pI_tr (by rw [z_lt2] at c2 c7; omega), rfl, rfl⟩
set_option maxRecDepth 100000 in
set_option maxHeartbeats 4000000 in
theorem c_X7_isRow {G : am_G} {sh : List am_S} {μ : am_M} (v : Int32) : am_MA G yX7_isRow cX7_isRow 1 (some .boolean) 1 0 0 [.int v] sh μ (am_E (some (.int (pI (pIn v 0 8)))) sh μ) := by
  refine am_ofK (own := RX7) (nm := "isRow") (L := [some (.int v)]) rfl rfl (by decide +kernel) (Nat.le_of_ble_eq_true rfl) rfl ?_
  refine aw_iload_n dX7_isRow_0 rfl ?_
  refine aw_iconst (v := nI 0) dX7_isRow_1 rfl ?_
  refine aw_bipush (v := nI 7) dX7_isRow_2 rfl ?_
  refine aw_s3i dX7_isRow_4 ml_X7_71 st_X7_within (c_X7_within v 0 8 rfl (by decide +kernel) (by decide) (by decide)) (Nat.le_of_ble_eq_true rfl) (Nat.le_of_ble_eq_true rfl) (Nat.le_of_ble_eq_true rfl) (Nat.le_of_ble_eq_true rfl) (Nat.le_of_ble_eq_true rfl) ?_
  refine aw_iret dX7_isRow_7 rfl (pI_nar _) rfl rfl ?_
  exact ⟨rfl, rfl, rfl⟩
set_option maxRecDepth 100000 in
set_option maxHeartbeats 4000000 in
theorem c_X7_isLand {G : am_G} {sh : List am_S} {μ : am_M} (v : Int32) : am_MA G yX7_isLand cX7_isLand 1 (some .boolean) 1 0 0 [.int v] sh μ (am_E (some (.int (pI (pIn v 0 10)))) sh μ) := by
  refine am_ofK (own := RX7) (nm := "isLand") (L := [some (.int v)]) rfl rfl (by decide +kernel) (Nat.le_of_ble_eq_true rfl) rfl ?_
  refine aw_iload_n dX7_isLand_0 rfl ?_
  refine aw_iconst (v := nI 0) dX7_isLand_1 rfl ?_
  refine aw_bipush (v := nI 9) dX7_isLand_2 rfl ?_
  refine aw_s3i dX7_isLand_4 ml_X7_71 st_X7_within (c_X7_within v 0 10 rfl (by decide +kernel) (by decide) (by decide)) (Nat.le_of_ble_eq_true rfl) (Nat.le_of_ble_eq_true rfl) (Nat.le_of_ble_eq_true rfl) (Nat.le_of_ble_eq_true rfl) (Nat.le_of_ble_eq_true rfl) ?_
  refine aw_iret dX7_isLand_7 rfl (pI_nar _) rfl rfl ?_
  exact ⟨rfl, rfl, rfl⟩
set_option maxRecDepth 100000 in
set_option maxHeartbeats 4000000 in
theorem c_X7_isOneOfTwo {G : am_G} {sh : List am_S} {μ : am_M} (v : Int32) : am_MA G yX7_isOneOfTwo cX7_isOneOfTwo 1 (some .boolean) 1 0 0 [.int v] sh μ (am_E (some (.int (pI (pIn v 0 2)))) sh μ) := by
  refine am_ofK (own := RX7) (nm := "isOneOfTwo") (L := [some (.int v)]) rfl rfl (by decide +kernel) (Nat.le_of_ble_eq_true rfl) rfl ?_
  refine aw_iload_n dX7_isOneOfTwo_0 rfl ?_
  refine aw_iconst (v := nI 0) dX7_isOneOfTwo_1 rfl ?_
  refine aw_iconst (v := nI 1) dX7_isOneOfTwo_2 rfl ?_
  refine aw_s3i dX7_isOneOfTwo_3 ml_X7_71 st_X7_within (c_X7_within v 0 2 rfl (by decide +kernel) (by decide) (by decide)) (Nat.le_of_ble_eq_true rfl) (Nat.le_of_ble_eq_true rfl) (Nat.le_of_ble_eq_true rfl) (Nat.le_of_ble_eq_true rfl) (Nat.le_of_ble_eq_true rfl) ?_
  refine aw_iret dX7_isOneOfTwo_6 rfl (pI_nar _) rfl rfl ?_
  exact ⟨rfl, rfl, rfl⟩
set_option maxRecDepth 100000 in
set_option maxHeartbeats 4000000 in
theorem c_X7_isOffice {G : am_G} {μ : am_M} (A : pA) (hs : skyC μ 27 A.K) (hk : pOK A.K) (v : Int32) : am_MA G yX7_isOffice cX7_isOffice 2 (some .boolean) 1 0 0 [.ref 0, .int v] am_SH μ (am_E (some (.int (pI (pIn v 0 (A.K 5))))) am_SH μ) := by
  have h5 := hk.1
  refine am_ofK (own := RX7) (nm := "isOffice") (L := [some (.ref 0), some (.int v)]) rfl rfl (by decide +kernel) (Nat.le_of_ble_eq_true rfl) rfl ?_
  refine aw_iload_n dX7_isOffice_0 rfl ?_
  refine aw_iconst (v := nI 0) dX7_isOffice_1 rfl ?_
  refine aw_aload_n dX7_isOffice_2 rfl ?_
  refine aw_gr dX7_isOffice_3 gf_X7_30 sh_0 (by rfl) ?_
  refine aw_gi dX7_isOffice_6 gf_X7_135 sh_sky27.1 (by rfl) ?_
  refine aw_top hs.1 ?_
  refine aw_iconst (v := nI 1) dX7_isOffice_9 rfl ?_
  refine aw_isub dX7_isOffice_10 ?_
  refine aw_s3i dX7_isOffice_11 ml_X7_71 st_X7_within (c_X7_within v 0 (A.K 5) rfl rfl (by decide) (by omega)) (Nat.le_of_ble_eq_true rfl) (Nat.le_of_ble_eq_true rfl) (Nat.le_of_ble_eq_true rfl) (Nat.le_of_ble_eq_true rfl) (Nat.le_of_ble_eq_true rfl) ?_
  refine aw_iret dX7_isOffice_14 rfl (pI_nar _) rfl rfl ?_
  exact ⟨rfl, rfl, rfl⟩
set_option maxRecDepth 100000 in
set_option maxHeartbeats 4000000 in
theorem c_X7_noSky {G : am_G} {μ : am_M} (A : pA) (hs : skyC μ 27 A.K) (hk : pOK A.K) : am_MA G yX7_noSky cX7_noSky 1 (some .boolean) 0 0 0 [.ref 0] am_SH μ (am_E (some (.int (pI (A.K 5 = 0)))) am_SH μ) := by
  have h5 := hk.1
  refine am_ofK (own := RX7) (nm := "noSky") (L := [some (.ref 0)]) rfl rfl (by decide +kernel) (Nat.le_of_ble_eq_true rfl) rfl ?_
  refine aw_aload_n dX7_noSky_0 rfl ?_
  refine aw_gr dX7_noSky_1 gf_X7_30 sh_0 (by rfl) ?_
  refine aw_gi dX7_noSky_4 gf_X7_135 sh_sky27.1 (by rfl) ?_
  refine aw_top hs.1 ?_
  refine aw_if_ne (tgt := 14) dX7_noSky_7 (by decide) (fun c7 => ?_) (fun c7 => ?_)
  · rw [z_eq (by omega)] at c7
    refine aw_iconst (v := nI 0) dX7_noSky_14 rfl ?_
    refine aw_iret dX7_noSky_15 rfl rfl rfl rfl ?_
    exact ⟨pI_fa c7, rfl, rfl⟩
  · rw [z_eq (by omega)] at c7
    refine aw_iconst (v := nI 1) dX7_noSky_10 rfl ?_
    refine aw_goto (tgt := 15) dX7_noSky_11 (by decide) ?_
    refine aw_iret dX7_noSky_15 rfl rfl rfl rfl ?_
    exact ⟨pI_tr c7, rfl, rfl⟩
set_option maxRecDepth 100000 in
set_option maxHeartbeats 4000000 in
theorem c_X7_found {G : am_G} {μ : am_M} (f : Nat) : am_MA G yX7_found cX7_found 2 (some .int) 0 0 0 [.ref 0, .int (nI f)] am_SH μ (am_E (some (.int ((-1000010) - nI f))) am_SH (am_up μ 0 (upd (μ 0) 9 (nI f)))) := by
  refine am_ofK (own := RX7) (nm := "found") (L := [some (.ref 0), some (.int (nI f))]) rfl rfl (by decide +kernel) (Nat.le_of_ble_eq_true rfl) rfl ?_
  refine aw_aload_n dX7_found_0 rfl ?_
  refine aw_iload_n dX7_found_1 rfl ?_
  refine aw_pi dX7_found_2 pf_X7_64 rfl rfl sh_0 (by rfl) ?_
  refine aw_ldcw dX7_found_5 kc_X7_302 ?_
  refine aw_iload_n dX7_found_8 rfl ?_
  refine aw_isub dX7_found_9 ?_
  refine aw_iret dX7_found_10 rfl rfl rfl rfl ?_
  exact ⟨rfl, rfl, rfl⟩
set_option maxRecDepth 100000 in
set_option maxHeartbeats 4000000 in
theorem c_X7_foundNothing {G : am_G} {μ : am_M} (x : Int32) : am_MA G yX7_foundNothing cX7_foundNothing 2 (some .int) 0 0 0 [.ref 0, .int x] am_SH μ (am_E (some (.int (x))) am_SH (am_up μ 0 (upd (μ 0) 9 (nI 0)))) := by
  refine am_ofK (own := RX7) (nm := "foundNothing") (L := [some (.ref 0), some (.int (x))]) rfl rfl (by decide +kernel) (Nat.le_of_ble_eq_true rfl) rfl ?_
  refine aw_aload_n dX7_foundNothing_0 rfl ?_
  refine aw_iconst (v := nI 0) dX7_foundNothing_1 rfl ?_
  refine aw_pi dX7_foundNothing_2 pf_X7_64 rfl rfl sh_0 (by rfl) ?_
  refine aw_iload_n dX7_foundNothing_5 rfl ?_
  refine aw_iret dX7_foundNothing_6 rfl rfl rfl rfl ?_
  exact ⟨rfl, rfl, rfl⟩
theorem pAre_le (w : Nat → Option pRow) : ∀ r, pAre w r ≤ r
  | 0 => Nat.le_refl _
  | r + 1 => by have := pAre_le w r; unfold pAre; split <;> omega
theorem rowC_ms {μ : am_M} {a : Nat} {w : Option pRow} (h : rowC μ a w) : μ a 0 = pI (w = none) := by
  cases w with
  | none => rw [pI_1 rfl]; exact h
  | some q => rw [pI_n (by simp)]; exact h.1
set_option maxRecDepth 100000 in
set_option maxHeartbeats 4000000 in
theorem l_X7_rowsThatAre {G : am_G} {μ : am_M} (A : pA) (h : InvC μ A) : ∀ (r i : Nat), i + r = 8 → am_W (am_K G RX7 "rowsThatAre" 3 (some .int) 0 0 0 (am_E (some (.int (nI (pAre A.w 8)))) am_SH μ)) cX7_rowsThatAre 4 [some (.ref 0), some (.int (nI (pAre A.w i))), some (.int (nI i))] [] am_SH μ 0 0 := by
  intro r
  induction r with
  | zero =>
    intro i hi
    refine aw_iload_n dX7_rowsThatAre_4 rfl ?_
    refine aw_bipush (v := nI 8) dX7_rowsThatAre_5 rfl ?_
    refine aw_icmp_ge (tgt := 31) dX7_rowsThatAre_7 (by decide) (fun c7 => ?_) (fun c7 => ?_)
    · refine aw_iload_n dX7_rowsThatAre_31 rfl ?_
      refine aw_iret dX7_rowsThatAre_32 rfl rfl rfl rfl ?_
      have e : i = 8 := by omega
      subst e
      exact ⟨rfl, rfl, rfl⟩
    · exact absurd (nI_le (by omega) (by omega)) c7
  | succ r ih =>
    intro i hi
    have hl := pAre_le A.w i
    refine aw_iload_n dX7_rowsThatAre_4 rfl ?_
    refine aw_bipush (v := nI 8) dX7_rowsThatAre_5 rfl ?_
    refine aw_icmp_ge (tgt := 31) dX7_rowsThatAre_7 (by decide) (fun c7 => ?_) (fun c7 => ?_)
    · exact absurd c7 (nI_ge (by omega) (by omega))
    · refine aw_aload_n dX7_rowsThatAre_10 rfl ?_
      refine aw_gr dX7_rowsThatAre_11 gf_X7_11 sh_0 (by rfl) ?_
      refine aw_iload_n dX7_rowsThatAre_14 rfl ?_
      refine aw_aald (t := 2) dX7_rowsThatAre_15 sh_1 (by decide) rfl (by omega) (by decide) (sh_1r _ (by omega)) ?_
      refine aw_gi dX7_rowsThatAre_16 gf_X7_94 (sh_row i (by omega)).1 (by rfl) ?_
      refine aw_top (rowC_ms (h.rows i (by omega))) ?_
      refine aw_pif_ne (tgt := 25) dX7_rowsThatAre_19 (by decide) (fun c19 => ?_) (fun c19 => ?_)
      · have e1 : pAre A.w (i + 1) = pAre A.w i := by rw [pAre, c19]; rfl
        refine aw_iinc (v := nI (i + 1)) dX7_rowsThatAre_25 rfl (nI_1 i) (Nat.le_of_ble_eq_true rfl) ?_
        refine aw_goto (tgt := 4) dX7_rowsThatAre_28 (by decide) ?_
        have := ih (i + 1) (by omega)
        rw [e1] at this
        exact this
      · have e1 : pAre A.w (i + 1) = pAre A.w i + 1 := by rw [pAre, if_pos (Option.isSome_iff_ne_none.mpr c19)]
        refine aw_iinc (v := nI (pAre A.w i + 1)) dX7_rowsThatAre_22 rfl (nI_1 _) (Nat.le_of_ble_eq_true rfl) ?_
        refine aw_iinc (v := nI (i + 1)) dX7_rowsThatAre_25 rfl (nI_1 i) (Nat.le_of_ble_eq_true rfl) ?_
        refine aw_goto (tgt := 4) dX7_rowsThatAre_28 (by decide) ?_
        have := ih (i + 1) (by omega)
        rw [e1] at this
        exact this
set_option maxRecDepth 100000 in
set_option maxHeartbeats 4000000 in
theorem c_X7_rowsThatAre {G : am_G} {μ : am_M} (A : pA) (h : InvC μ A) : am_MA G yX7_rowsThatAre cX7_rowsThatAre 3 (some .int) 0 0 0 [.ref 0] am_SH μ (am_E (some (.int (nI (pAre A.w 8)))) am_SH μ) := by
  refine am_ofK (own := RX7) (nm := "rowsThatAre") (L := [some (.ref 0), none, none]) rfl rfl (by decide +kernel) (Nat.le_of_ble_eq_true rfl) rfl ?_
  refine aw_iconst (v := nI 0) dX7_rowsThatAre_0 rfl ?_
  refine aw_istore_n dX7_rowsThatAre_1 (Nat.le_of_ble_eq_true rfl) ?_
  refine aw_iconst (v := nI 0) dX7_rowsThatAre_2 rfl ?_
  refine aw_istore_n dX7_rowsThatAre_3 (Nat.le_of_ble_eq_true rfl) ?_
  exact l_X7_rowsThatAre A h 8 0 rfl
