/-! ===== the model's cells bear a state ===== -/
def mO (μ : am_M) (a o : Nat) (K : pK) : Prop := ∀ j, j < 32 → μ a (o + j) = nI (K j)
theorem mO.fr {μ μ' : am_M} {a o : Nat} {K : pK} (h : mO μ a o K) (e : μ' a = μ a) : mO μ' a o K := fun j hj => by rw [e]; exact h j hj
def mrow (μ : am_M) (r : Nat) (w : Option pRow) : Prop := match w with
  | none => μ 236 r = -1
  | some (l, n, f) => μ 235 r = nI l ∧ μ 236 r = nI n ∧ l ≤ 2 ∧ n ≤ 40 ∧ ∀ j, j < 40 → μ 237 (40 * r + j) = f j
theorem mrow.fr {μ μ' : am_M} {r : Nat} {w : Option pRow} (h : mrow μ r w) (e1 : μ' 235 = μ 235) (e2 : μ' 236 = μ 236) (e3 : μ' 237 = μ 237) : mrow μ' r w := by
  cases w with
  | none => show μ' 236 r = _; rw [e2]; exact h
  | some q =>
    obtain ⟨l, n, f⟩ := q
    obtain ⟨h0, h1, h2, h3, h4⟩ := h
    exact ⟨by rw [e1]; exact h0, by rw [e2]; exact h1, h2, h3, fun j hj => by rw [e3]; exact h4 j hj⟩
theorem mrow_ge {μ : am_M} {r : Nat} {w : Option pRow} (h : mrow μ r w) : 0 ≤ μ 236 r ↔ w ≠ none := by
  cases w with
  | none =>
    have : μ 236 r = -1 := h
    rw [this]
    constructor
    · intro q; exact absurd q (by decide +kernel)
    · intro q; exact absurd rfl q
  | some q =>
    obtain ⟨l, n, f⟩ := q
    rw [h.2.1]
    exact ⟨fun _ => by simp, fun _ => nI_pos' (by have := h.2.2.2.1; omega)⟩
def InvM (μ : am_M) (A : pA) : Prop := (∀ r, r < 8 → mrow μ r (A.w r)) ∧ (μ 234 3 = nI A.fi) ∧ (μ 234 5 = nI A.tl) ∧ (∀ j, j < A.tl → μ 238 j = nI (A.tb j)) ∧ (μ 234 6 = nI A.fa) ∧ (μ 234 7 = pI (¬ A.K 5 = 0)) ∧ (mC μ 239 A.K) ∧ (μ 234 9 = nI A.ac.length) ∧ (∀ i K, A.ac[i]? = some K → mO μ 240 (32 * (A.ac.length - 1 - i)) K) ∧ (∀ k, k < 2 → μ 242 k = pI (¬ A.im k 5 = 0)) ∧ (∀ k, k < 2 → ¬ A.im k 5 = 0 → mO μ 241 (32 * k) (A.im k)) ∧ (μ 234 13 = nI A.tr.length) ∧ (∀ i x, A.tr[i]? = some x → μ 243 i = nI x)
theorem InvM.rows {μ : am_M} {A : pA} (h : InvM μ A) : ∀ r, r < 8 → mrow μ r (A.w r) := h.1
theorem InvM.fi {μ : am_M} {A : pA} (h : InvM μ A) : μ 234 3 = nI A.fi := h.2.1
theorem InvM.tl {μ : am_M} {A : pA} (h : InvM μ A) : μ 234 5 = nI A.tl := h.2.2.1
theorem InvM.tp {μ : am_M} {A : pA} (h : InvM μ A) : ∀ j, j < A.tl → μ 238 j = nI (A.tb j) := h.2.2.2.1
theorem InvM.fa {μ : am_M} {A : pA} (h : InvM μ A) : μ 234 6 = nI A.fa := h.2.2.2.2.1
theorem InvM.is {μ : am_M} {A : pA} (h : InvM μ A) : μ 234 7 = pI (¬ A.K 5 = 0) := h.2.2.2.2.2.1
theorem InvM.sk {μ : am_M} {A : pA} (h : InvM μ A) : mC μ 239 A.K := h.2.2.2.2.2.2.1
theorem InvM.acn {μ : am_M} {A : pA} (h : InvM μ A) : μ 234 9 = nI A.ac.length := h.2.2.2.2.2.2.2.1
theorem InvM.ac {μ : am_M} {A : pA} (h : InvM μ A) : ∀ i K, A.ac[i]? = some K → mO μ 240 (32 * (A.ac.length - 1 - i)) K := h.2.2.2.2.2.2.2.2.1
theorem InvM.sv {μ : am_M} {A : pA} (h : InvM μ A) : ∀ k, k < 2 → μ 242 k = pI (¬ A.im k 5 = 0) := h.2.2.2.2.2.2.2.2.2.1
theorem InvM.im {μ : am_M} {A : pA} (h : InvM μ A) : ∀ k, k < 2 → ¬ A.im k 5 = 0 → mO μ 241 (32 * k) (A.im k) := h.2.2.2.2.2.2.2.2.2.2.1
theorem InvM.trn {μ : am_M} {A : pA} (h : InvM μ A) : μ 234 13 = nI A.tr.length := h.2.2.2.2.2.2.2.2.2.2.2.1
theorem InvM.tr {μ : am_M} {A : pA} (h : InvM μ A) : ∀ i x, A.tr[i]? = some x → μ 243 i = nI x := h.2.2.2.2.2.2.2.2.2.2.2.2

theorem InvM.fr {μ μ' : am_M} {A : pA} (h : InvM μ A) (e : ∀ b, 235 ≤ b ∧ b < 244 → μ' b = μ b) (e1 : ∀ j, j < 15 → μ' 234 j = μ 234 j) : InvM μ' A :=
  ⟨fun r hr => (h.rows r hr).fr (e 235 (by omega)) (e 236 (by omega)) (e 237 (by omega)), (e1 3 (by decide)).trans h.fi, (e1 5 (by decide)).trans h.tl, fun j hj => by rw [e 238 (by omega)]; exact h.tp j hj, (e1 6 (by decide)).trans h.fa, (e1 7 (by decide)).trans h.is, h.sk.fr (e 239 (by omega)), (e1 9 (by decide)).trans h.acn, fun i K hi => (h.ac i K hi).fr (e 240 (by omega)), fun k hk => by rw [e 242 (by omega)]; exact h.sv k hk, fun k hk h0 => (h.im k hk h0).fr (e 241 (by omega)), (e1 13 (by decide)).trans h.trn, fun i x hi => by rw [e 243 (by omega)]; exact h.tr i x hi⟩
theorem InvM.f2 {μ μ' : am_M} {A : pA} (h : InvM μ A) (e : ∀ b, 234 ≤ b ∧ b < 244 → μ' b = μ b) : InvM μ' A := h.fr (fun b hb => e b (by omega)) (fun j _ => by rw [e 234 (by omega)])
theorem InvM.fd {μ : am_M} {A : pA} (h : InvM μ A) (f : Nat) : InvM (am_up μ 234 (upd (μ 234) 3 (nI f))) (A.sF f) := by
  have e : ∀ b, b ≠ 234 → am_up μ 234 (upd (μ 234) 3 (nI f)) b = μ b := fun b hb => am_up_n hb
  have e1 : ∀ j, j ≠ 3 → am_up μ 234 (upd (μ 234) 3 (nI f)) 234 j = μ 234 j := fun j hj => by rw [am_ups, pk_un hj]
  exact ⟨fun r hr => (h.rows r hr).fr (e 235 (by omega)) (e 236 (by omega)) (e 237 (by omega)), by rw [am_ups, pk_us]; rfl, (e1 5 (by decide)).trans h.tl, fun j hj => by rw [e 238 (by omega)]; exact h.tp j hj, (e1 6 (by decide)).trans h.fa, (e1 7 (by decide)).trans h.is, h.sk.fr (e 239 (by omega)), (e1 9 (by decide)).trans h.acn, fun i K hi => (h.ac i K hi).fr (e 240 (by omega)), fun k hk => by rw [e 242 (by omega)]; exact h.sv k hk, fun k hk h0 => (h.im k hk h0).fr (e 241 (by omega)), (e1 13 (by decide)).trans h.trn, fun i x hi => by rw [e 243 (by omega)]; exact h.tr i x hi⟩
/-- a new sky and its acts -/
theorem InvM.sky {μ μ' : am_M} {A : pA} {K : pK} {ac : List pK} (h : InvM μ A) (e : ∀ b, 235 ≤ b ∧ b < 244 ∧ b ≠ 239 ∧ b ≠ 240 → μ' b = μ b) (e1 : ∀ j, j < 15 ∧ j ≠ 9 → μ' 234 j = μ 234 j) (hs : mC μ' 239 K) (h5 : K 5 = 0 ↔ A.K 5 = 0) (hn : μ' 234 9 = nI ac.length) (ha : ∀ i K, ac[i]? = some K → mO μ' 240 (32 * (ac.length - 1 - i)) K) : InvM μ' (A.sK K ac) :=
  ⟨fun r hr => (h.rows r hr).fr (e 235 (by omega)) (e 236 (by omega)) (e 237 (by omega)), (e1 3 (by decide)).trans h.fi, (e1 5 (by decide)).trans h.tl, fun j hj => by rw [e 238 (by omega)]; exact h.tp j hj, (e1 6 (by decide)).trans h.fa, (e1 7 (by decide)).trans (h.is.trans (pI_c (by rw [show (A.sK K ac).K 5 = K 5 from rfl, h5]))), hs, hn, ha, fun k hk => by rw [e 242 (by omega)]; exact h.sv k hk, fun k hk h0 => (h.im k hk h0).fr (e 241 (by omega)), (e1 13 (by decide)).trans h.trn, fun i x hi => by rw [e 243 (by omega)]; exact h.tr i x hi⟩
theorem pAnsM {μ μ9 : am_M} {A2 : pA} {x : Int32} {op : Int32 × pA} (e : op = (x, A2)) (i : InvM μ9 A2) (f : am_fr μ μ9 234 14) : am_P (some (.int op.1)) am_SH (fun μ9 => InvM μ9 op.2 ∧ am_fr μ μ9 234 14) (some (.int x)) am_SH μ9 := by subst e; exact ⟨rfl, rfl, i, f⟩
theorem pAnsML {μ μ9 : am_M} {A : pA} {x op : Int64} (e : op = x) (i : InvM μ9 A) (f : am_fr μ μ9 234 14) : am_P (some (.long op)) am_SH (fun μ9 => InvM μ9 A ∧ am_fr μ μ9 234 14) (some (.long x)) am_SH μ9 := by subst e; exact ⟨rfl, rfl, i, f⟩
set_option maxRecDepth 100000 in
set_option maxHeartbeats 4000000 in
theorem c_X8_fault {G : am_G} {μ : am_M} (A : pA) (h : InvM μ A) (ok : okA A) : am_MA G yX8_fault cX8_fault 1 (some .int) 0 0 0 [.ref 234] am_SH μ (am_P (some (.int (oFault A).1)) am_SH (fun μ9 => InvM μ9 (oFault A).2 ∧ am_fr μ μ9 234 14)) := by
  refine am_ofK (own := RX8) (nm := "fault") (L := [some (.ref 234)]) rfl rfl (by decide +kernel) (Nat.le_of_ble_eq_true rfl) rfl ?_
  refine aw_aload_n dX8_fault_0 rfl ?_
  refine aw_gi dX8_fault_1 gf_X8_107 sh_234 (by rfl) ?_
  refine aw_top h.fa ?_
  refine aw_iret dX8_fault_4 rfl rfl rfl rfl ?_
  exact pAnsM rfl h am_fr.rf
set_option maxRecDepth 100000 in
set_option maxHeartbeats 4000000 in
theorem c_X8_status {G : am_G} {μ : am_M} (A : pA) (h : InvM μ A) (ok : okA A) : am_MA G yX8_status cX8_status 1 (some .int) 0 0 0 [.ref 234] am_SH μ (am_P (some (.int (oStatus A).1)) am_SH (fun μ9 => InvM μ9 (oStatus A).2 ∧ am_fr μ μ9 234 14)) := by
  refine am_ofK (own := RX8) (nm := "status") (L := [some (.ref 234)]) rfl rfl (by decide +kernel) (Nat.le_of_ble_eq_true rfl) rfl ?_
  refine aw_aload_n dX8_status_0 rfl ?_
  refine aw_gi dX8_status_1 gf_X8_50 sh_234 (by rfl) ?_
  refine aw_top h.fi ?_
  refine aw_iret dX8_status_4 rfl rfl rfl rfl ?_
  exact pAnsM rfl h am_fr.rf
set_option maxRecDepth 100000 in
set_option maxHeartbeats 4000000 in
theorem c_X8_land {G : am_G} {μ : am_M} (A : pA) (h : InvM μ A) (ok : okA A) (x1 : Int32) : am_MA G yX8_land cX8_land 2 (some .int) 2 0 0 [.ref 234, .int x1] am_SH μ (am_P (some (.int (oLand A x1).1)) am_SH (fun μ9 => InvM μ9 (oLand A x1).2 ∧ am_fr μ μ9 234 14)) := by
  refine am_ofK (own := RX8) (nm := "land") (L := [some (.ref 234), some (.int x1)]) rfl rfl (by decide +kernel) (Nat.le_of_ble_eq_true rfl) rfl ?_
  refine aw_aload_n dX8_land_0 rfl ?_
  refine aw_gi dX8_land_1 gf_X8_137 sh_234 (by rfl) ?_
  refine aw_top h.is ?_
  refine aw_pif_ne (tgt := 10) dX8_land_4 (by decide) (fun s4 => ?_) (fun s4 => ?_)
  · refine aw_iload_n dX8_land_10 rfl ?_
    refine aw_s1i dX8_land_11 ml_X8_203 st_X8_isLand (c_X8_isLand _) (Nat.le_of_ble_eq_true rfl) (Nat.le_of_ble_eq_true rfl) (Nat.le_of_ble_eq_true rfl) (Nat.le_of_ble_eq_true rfl) (Nat.le_of_ble_eq_true rfl) ?_
    refine aw_pif_eq (tgt := 28) dX8_land_14 (by decide) (fun c14 => ?_) (fun c14 => ?_)
    · refine aw_ldc dX8_land_28 kc_X8_67 ?_
      refine aw_iret dX8_land_30 rfl rfl rfl rfl ?_
      exact pAnsM ((if_neg s4).trans ((if_neg c14).trans rfl)) h am_fr.rf
    · obtain ⟨k14, rfl, ha14, hb14, hz14⟩ := pIn_ex c14
      refine aw_aload_n dX8_land_17 rfl ?_
      refine aw_gr dX8_land_18 gf_X8_22 sh_234 (by rfl) ?_
      refine aw_iload_n dX8_land_21 rfl ?_
      refine aw_s2i dX8_land_22 ml_X8_206 st_X8_overOn (c_X8_overOn 239 sh_239 A.K h.sk ok.k k14 (by omega)) (Nat.le_of_ble_eq_true rfl) (Nat.le_of_ble_eq_true rfl) (Nat.le_of_ble_eq_true rfl) (Nat.le_of_ble_eq_true rfl) (Nat.le_of_ble_eq_true rfl) ?_
      refine aw_goto (tgt := 30) dX8_land_25 (by decide) ?_
      refine aw_iret dX8_land_30 rfl rfl rfl rfl ?_
      refine pAnsM ?_ h am_fr.rf
      rw [oLand, if_neg s4, if_pos c14, zN_nI hz14]
      rfl
  · replace s4 := Decidable.not_not.mp s4
    refine aw_ldc dX8_land_7 kc_X8_169 ?_
    refine aw_iret dX8_land_9 rfl rfl rfl rfl ?_
    exact pAnsM ((if_pos s4).trans rfl) h am_fr.rf
set_option maxRecDepth 100000 in
set_option maxHeartbeats 4000000 in
theorem c_X8_kind {G : am_G} {μ : am_M} (A : pA) (h : InvM μ A) (ok : okA A) (x1 : Int32) : am_MA G yX8_kind cX8_kind 2 (some .int) 2 0 0 [.ref 234, .int x1] am_SH μ (am_P (some (.int (oKind A x1).1)) am_SH (fun μ9 => InvM μ9 (oKind A x1).2 ∧ am_fr μ μ9 234 14)) := by
  have h5 := ok.k.1
  refine am_ofK (own := RX8) (nm := "kind") (L := [some (.ref 234), some (.int x1)]) rfl rfl (by decide +kernel) (Nat.le_of_ble_eq_true rfl) rfl ?_
  refine aw_aload_n dX8_kind_0 rfl ?_
  refine aw_iload_n dX8_kind_1 rfl ?_
  refine aw_v1i dX8_kind_2 ml_X8_186 im_X8_isOffice se_X8_isOffice (c_X8_isOffice A h.sk ok.k _) sh_234 (by decide) rfl rfl (Nat.le_of_ble_eq_true rfl) (Nat.le_of_ble_eq_true rfl) (Nat.le_of_ble_eq_true rfl) (Nat.le_of_ble_eq_true rfl) (Nat.le_of_ble_eq_true rfl) ?_
  refine aw_pif_eq (tgt := 20) dX8_kind_5 (by decide) (fun c5 => ?_) (fun c5 => ?_)
  · refine aw_ldc dX8_kind_20 kc_X8_67 ?_
    refine aw_iret dX8_kind_22 rfl rfl rfl rfl ?_
    exact pAnsM ((if_neg c5).trans rfl) h am_fr.rf
  · obtain ⟨k5, rfl, ha5, hb5, hz5⟩ := pIn_ex c5
    refine aw_aload_n dX8_kind_8 rfl ?_
    refine aw_gr dX8_kind_9 gf_X8_22 sh_234 (by rfl) ?_
    refine aw_bipush (v := nI 7) dX8_kind_12 rfl ?_
    refine aw_iload_n dX8_kind_14 rfl ?_
    refine aw_iadd dX8_kind_15 ?_
    refine aw_top (nI_add _ _) ?_
    refine aw_iald dX8_kind_16 sh_239 rfl (by omega) (by decide) ?_
    refine aw_top (h.sk (7 + k5) (by omega)) ?_
    refine aw_goto (tgt := 22) dX8_kind_17 (by decide) ?_
    refine aw_iret dX8_kind_22 rfl rfl rfl rfl ?_
    refine pAnsM ?_ h am_fr.rf
    rw [oKind, if_pos c5, zN_nI hz5]
set_option maxRecDepth 100000 in
set_option maxHeartbeats 4000000 in
theorem c_X8_office {G : am_G} {μ : am_M} (A : pA) (h : InvM μ A) (ok : okA A) (x1 x2 : Int32) : am_MA G yX8_office cX8_office 4 (some .int) 2 0 0 [.ref 234, .int x1, .int x2] am_SH μ (am_P (some (.int (oOffice A x1 x2).1)) am_SH (fun μ9 => InvM μ9 (oOffice A x1 x2).2 ∧ am_fr μ μ9 234 14)) := by
  have h5 := ok.k.1
  refine am_ofK (own := RX8) (nm := "office") (L := [some (.ref 234), some (.int x1), some (.int x2), none]) rfl rfl (by decide +kernel) (Nat.le_of_ble_eq_true rfl) rfl ?_
  refine aw_aload_n dX8_office_0 rfl ?_
  refine aw_iload_n dX8_office_1 rfl ?_
  refine aw_v1i dX8_office_2 ml_X8_186 im_X8_isOffice se_X8_isOffice (c_X8_isOffice A h.sk ok.k _) sh_234 (by decide) rfl rfl (Nat.le_of_ble_eq_true rfl) (Nat.le_of_ble_eq_true rfl) (Nat.le_of_ble_eq_true rfl) (Nat.le_of_ble_eq_true rfl) (Nat.le_of_ble_eq_true rfl) ?_
  refine aw_pif_eq (tgt := 20) dX8_office_5 (by decide) (fun c5 => ?_) (fun c5 => ?_)
  · refine aw_ldc dX8_office_20 kc_X8_67 ?_
    refine aw_iret dX8_office_22 rfl rfl rfl rfl ?_
    exact pAnsM ((if_neg c5).trans rfl) h am_fr.rf
  · obtain ⟨k5, rfl, ha5, hb5, hz5⟩ := pIn_ex c5
    refine aw_iload_n dX8_office_8 rfl ?_
    refine aw_i2l dX8_office_9 ?_
    refine aw_lconst (v := lN 0) dX8_office_10 rfl ?_
    refine aw_ldc2 dX8_office_11 kl_X8_201 ?_
    refine aw_s3i dX8_office_14 ml_X8_57 st_X8_in (c_X8_in _ 0 6 (by decide +kernel) (by decide +kernel)) (Nat.le_of_ble_eq_true rfl) (Nat.le_of_ble_eq_true rfl) (Nat.le_of_ble_eq_true rfl) (Nat.le_of_ble_eq_true rfl) (Nat.le_of_ble_eq_true rfl) ?_
    refine aw_pif_ne (tgt := 23) dX8_office_17 (by decide) (fun c17 => ?_) (fun c17 => ?_)
    · obtain ⟨k17, rfl, ha17, hb17, hz17⟩ := pIn_ex c17
      refine aw_aload_n dX8_office_23 rfl ?_
      refine aw_gr dX8_office_24 gf_X8_22 sh_234 (by rfl) ?_
      refine aw_bipush (v := nI 17) dX8_office_27 rfl ?_
      refine aw_iload_n dX8_office_29 rfl ?_
      refine aw_iadd dX8_office_30 ?_
      refine aw_top (nI_add _ _) ?_
      refine aw_iald dX8_office_31 sh_239 rfl (by omega) (by decide) ?_
      refine aw_top (h.sk (17 + k5) (by omega)) ?_
      refine aw_istore_n dX8_office_32 (Nat.le_of_ble_eq_true rfl) ?_
      refine aw_iload_n dX8_office_33 rfl ?_
      refine aw_iconst (v := nI 4) dX8_office_34 rfl ?_
      refine aw_icmp_ge (tgt := 54) dX8_office_35 (by decide) (fun c35 => ?_) (fun c35 => ?_)
      · rw [nI_leI (by decide) hz17] at c35
        refine aw_iload_n dX8_office_54 rfl ?_
        refine aw_iconst (v := nI 4) dX8_office_55 rfl ?_
        refine aw_icmp_ne (tgt := 66) dX8_office_56 (by decide) (fun c56 => ?_) (fun c56 => ?_)
        · rw [nI_eq hz17 (by decide)] at c56
          refine aw_aload_n dX8_office_66 rfl ?_
          refine aw_gr dX8_office_67 gf_X8_22 sh_234 (by rfl) ?_
          refine aw_bipush (v := nI 7) dX8_office_70 rfl ?_
          refine aw_iload_n dX8_office_72 rfl ?_
          refine aw_iadd dX8_office_73 ?_
          refine aw_top (nI_add _ _) ?_
          refine aw_iald dX8_office_74 sh_239 rfl (by omega) (by decide) ?_
          refine aw_top (h.sk (7 + k5) (by omega)) ?_
          refine aw_iload_n dX8_office_75 rfl ?_
          refine aw_s2i dX8_office_76 ml_X8_150 st_X8_liftOf (c_X8_liftOf (A.K (7 + k5)) (A.K (17 + k5)) (ok.k.2.2.2.2 k5 hb5).1.1 (ok.k.2.2.2.2 k5 hb5).1.2 (by have := (ok.k.2.2.2.2 k5 hb5).2.2.1; omega)) (Nat.le_of_ble_eq_true rfl) (Nat.le_of_ble_eq_true rfl) (Nat.le_of_ble_eq_true rfl) (Nat.le_of_ble_eq_true rfl) (Nat.le_of_ble_eq_true rfl) ?_
          refine aw_iret dX8_office_79 rfl rfl rfl rfl ?_
          refine pAnsM ?_ h am_fr.rf
          rw [oOffice, if_pos c5, if_pos c17, zN_nI hz5, zN_nI hz17]
          show (nI (pOfW A.K k5 k17), A) = _
          unfold pOfW
          rw [if_neg (by omega), if_neg c56]
        · rw [nI_eq hz17 (by decide)] at c56
          refine aw_iload_n dX8_office_59 rfl ?_
          refine aw_s1i dX8_office_60 ml_X8_154 st_X8_bandOf (c_X8_bandOf (A.K (17 + k5)) (by have := (ok.k.2.2.2.2 k5 hb5).2.2.1; omega)) (Nat.le_of_ble_eq_true rfl) (Nat.le_of_ble_eq_true rfl) (Nat.le_of_ble_eq_true rfl) (Nat.le_of_ble_eq_true rfl) (Nat.le_of_ble_eq_true rfl) ?_
          refine aw_goto (tgt := 79) dX8_office_63 (by decide) ?_
          refine aw_iret dX8_office_79 rfl rfl rfl rfl ?_
          refine pAnsM ?_ h am_fr.rf
          rw [oOffice, if_pos c5, if_pos c17, zN_nI hz5, zN_nI hz17]
          show (nI (pOfW A.K k5 k17), A) = _
          unfold pOfW
          rw [if_neg (by omega), if_pos c56]
      · rw [nI_leI (by decide) hz17] at c35
        refine aw_aload_n dX8_office_38 rfl ?_
        refine aw_gr dX8_office_39 gf_X8_22 sh_234 (by rfl) ?_
        refine aw_bipush (v := nI 12) dX8_office_42 rfl ?_
        refine aw_iconst (v := nI 5) dX8_office_44 rfl ?_
        refine aw_iload_n dX8_office_45 rfl ?_
        refine aw_imul dX8_office_46 ?_
        refine aw_top (pk_mul _ _) ?_
        refine aw_iadd dX8_office_47 ?_
        refine aw_top (nI_add _ _) ?_
        refine aw_iload_n dX8_office_48 rfl ?_
        refine aw_iadd dX8_office_49 ?_
        refine aw_top (nI_add _ _) ?_
        refine aw_iald dX8_office_50 sh_239 rfl (by omega) (by decide) ?_
        refine aw_top (h.sk (12 + 5 * k17 + k5) (by omega)) ?_
        refine aw_goto (tgt := 79) dX8_office_51 (by decide) ?_
        refine aw_iret dX8_office_79 rfl rfl rfl rfl ?_
        refine pAnsM ?_ h am_fr.rf
        rw [oOffice, if_pos c5, if_pos c17, zN_nI hz5, zN_nI hz17]
        show (nI (pOfW A.K k5 k17), A) = _
        unfold pOfW
        rw [if_pos (by omega)]
    · refine aw_ldc dX8_office_20 kc_X8_67 ?_
      refine aw_iret dX8_office_22 rfl rfl rfl rfl ?_
      exact pAnsM ((if_pos c5).trans ((if_neg c17).trans rfl)) h am_fr.rf
set_option maxRecDepth 100000 in
set_option maxHeartbeats 4000000 in
theorem c_X8_isOf {G : am_G} {sh : List am_S} {μ : am_M} (k w : Nat) (hk : k < 6) (hw : w < 6) : am_MA G yX8_isOf cX8_isOf 2 (some .boolean) 0 0 0 [.int (nI k), .int (nI w)] sh μ (am_E (some (.int (pI (pIs k w = true)))) sh μ) := by
  refine am_ofK (own := RX8) (nm := "isOf") (L := [some (.int (nI k)), some (.int (nI w))]) rfl rfl (by decide +kernel) (Nat.le_of_ble_eq_true rfl) rfl ?_
  refine aw_iload_n dX8_isOf_0 rfl ?_
  refine aw_if_eq (tgt := 34) dX8_isOf_1 (by decide) (fun c1 => ?_) (fun c1 => ?_)
  · rw [z_eq (by omega)] at c1
    refine aw_iconst (v := nI 1) dX8_isOf_34 rfl ?_
    refine aw_goto (tgt := 39) dX8_isOf_35 (by decide) ?_
    refine aw_iret dX8_isOf_39 rfl rfl rfl rfl ?_
    exact ⟨pI_tr (by unfold pIs; simp; omega), rfl, rfl⟩
  · rw [z_eq (by omega)] at c1
    refine aw_iload_n dX8_isOf_4 rfl ?_
    refine aw_iload_n dX8_isOf_5 rfl ?_
    refine aw_icmp_eq (tgt := 34) dX8_isOf_6 (by decide) (fun c6 => ?_) (fun c6 => ?_)
    · rw [nI_eq (by omega) (by omega)] at c6
      refine aw_iconst (v := nI 1) dX8_isOf_34 rfl ?_
      refine aw_goto (tgt := 39) dX8_isOf_35 (by decide) ?_
      refine aw_iret dX8_isOf_39 rfl rfl rfl rfl ?_
      exact ⟨pI_tr (by unfold pIs; simp; omega), rfl, rfl⟩
    · rw [nI_eq (by omega) (by omega)] at c6
      refine aw_iload_n dX8_isOf_9 rfl ?_
      refine aw_iconst (v := nI 1) dX8_isOf_10 rfl ?_
      refine aw_icmp_ne (tgt := 24) dX8_isOf_11 (by decide) (fun c11 => ?_) (fun c11 => ?_)
      · rw [nI_eq (by omega) (by omega)] at c11
        refine aw_iload_n dX8_isOf_24 rfl ?_
        refine aw_iconst (v := nI 4) dX8_isOf_25 rfl ?_
        refine aw_icmp_ne (tgt := 38) dX8_isOf_26 (by decide) (fun c26 => ?_) (fun c26 => ?_)
        · rw [nI_eq (by omega) (by omega)] at c26
          refine aw_iconst (v := nI 0) dX8_isOf_38 rfl ?_
          refine aw_iret dX8_isOf_39 rfl rfl rfl rfl ?_
          exact ⟨pI_fa (by unfold pIs; simp; omega), rfl, rfl⟩
        · rw [nI_eq (by omega) (by omega)] at c26
          refine aw_iload_n dX8_isOf_29 rfl ?_
          refine aw_iconst (v := nI 5) dX8_isOf_30 rfl ?_
          refine aw_icmp_ne (tgt := 38) dX8_isOf_31 (by decide) (fun c31 => ?_) (fun c31 => ?_)
          · rw [nI_eq (by omega) (by omega)] at c31
            refine aw_iconst (v := nI 0) dX8_isOf_38 rfl ?_
            refine aw_iret dX8_isOf_39 rfl rfl rfl rfl ?_
            exact ⟨pI_fa (by unfold pIs; simp; omega), rfl, rfl⟩
          · rw [nI_eq (by omega) (by omega)] at c31
            refine aw_iconst (v := nI 1) dX8_isOf_34 rfl ?_
            refine aw_goto (tgt := 39) dX8_isOf_35 (by decide) ?_
            refine aw_iret dX8_isOf_39 rfl rfl rfl rfl ?_
            exact ⟨pI_tr (by unfold pIs; simp; omega), rfl, rfl⟩
      · rw [nI_eq (by omega) (by omega)] at c11
        refine aw_iload_n dX8_isOf_14 rfl ?_
        refine aw_iconst (v := nI 2) dX8_isOf_15 rfl ?_
        refine aw_icmp_eq (tgt := 34) dX8_isOf_16 (by decide) (fun c16 => ?_) (fun c16 => ?_)
        · rw [nI_eq (by omega) (by omega)] at c16
          refine aw_iconst (v := nI 1) dX8_isOf_34 rfl ?_
          refine aw_goto (tgt := 39) dX8_isOf_35 (by decide) ?_
          refine aw_iret dX8_isOf_39 rfl rfl rfl rfl ?_
          exact ⟨pI_tr (by unfold pIs; simp; omega), rfl, rfl⟩
        · rw [nI_eq (by omega) (by omega)] at c16
          refine aw_iload_n dX8_isOf_19 rfl ?_
          refine aw_iconst (v := nI 3) dX8_isOf_20 rfl ?_
          refine aw_icmp_eq (tgt := 34) dX8_isOf_21 (by decide) (fun c21 => ?_) (fun c21 => ?_)
          · rw [nI_eq (by omega) (by omega)] at c21
            refine aw_iconst (v := nI 1) dX8_isOf_34 rfl ?_
            refine aw_goto (tgt := 39) dX8_isOf_35 (by decide) ?_
            refine aw_iret dX8_isOf_39 rfl rfl rfl rfl ?_
            exact ⟨pI_tr (by unfold pIs; simp; omega), rfl, rfl⟩
          · rw [nI_eq (by omega) (by omega)] at c21
            refine aw_iload_n dX8_isOf_24 rfl ?_
            refine aw_iconst (v := nI 4) dX8_isOf_25 rfl ?_
            refine aw_icmp_ne (tgt := 38) dX8_isOf_26 (by decide) (fun c26 => ?_) (fun c26 => ?_)
            · rw [nI_eq (by omega) (by omega)] at c26
              refine aw_iconst (v := nI 0) dX8_isOf_38 rfl ?_
              refine aw_iret dX8_isOf_39 rfl rfl rfl rfl ?_
              exact ⟨pI_fa (by unfold pIs; simp; omega), rfl, rfl⟩
            · rw [nI_eq (by omega) (by omega)] at c26
              refine aw_iload_n dX8_isOf_29 rfl ?_
              refine aw_iconst (v := nI 5) dX8_isOf_30 rfl ?_
              refine aw_icmp_ne (tgt := 38) dX8_isOf_31 (by decide) (fun c31 => ?_) (fun c31 => ?_)
              · rw [nI_eq (by omega) (by omega)] at c31
                refine aw_iconst (v := nI 0) dX8_isOf_38 rfl ?_
                refine aw_iret dX8_isOf_39 rfl rfl rfl rfl ?_
                exact ⟨pI_fa (by unfold pIs; simp; omega), rfl, rfl⟩
              · rw [nI_eq (by omega) (by omega)] at c31
                refine aw_iconst (v := nI 1) dX8_isOf_34 rfl ?_
                refine aw_goto (tgt := 39) dX8_isOf_35 (by decide) ?_
                refine aw_iret dX8_isOf_39 rfl rfl rfl rfl ?_
                exact ⟨pI_tr (by unfold pIs; simp; omega), rfl, rfl⟩
set_option maxRecDepth 100000 in
set_option maxHeartbeats 4000000 in
theorem c_X8_as {G : am_G} {μ : am_M} (A : pA) (h : InvM μ A) (ok : okA A) (x1 x2 : Int32) : am_MA G yX8_as cX8_as 3 (some .int) 2 0 0 [.ref 234, .int x1, .int x2] am_SH μ (am_P (some (.int (oAs A x1 x2).1)) am_SH (fun μ9 => InvM μ9 (oAs A x1 x2).2 ∧ am_fr μ μ9 234 14)) := by
  have h5 := ok.k.1
  refine am_ofK (own := RX8) (nm := "as") (L := [some (.ref 234), some (.int x1), some (.int x2)]) rfl rfl (by decide +kernel) (Nat.le_of_ble_eq_true rfl) rfl ?_
  refine aw_aload_n dX8_as_0 rfl ?_
  refine aw_iload_n dX8_as_1 rfl ?_
  refine aw_v1i dX8_as_2 ml_X8_186 im_X8_isOffice se_X8_isOffice (c_X8_isOffice A h.sk ok.k _) sh_234 (by decide) rfl rfl (Nat.le_of_ble_eq_true rfl) (Nat.le_of_ble_eq_true rfl) (Nat.le_of_ble_eq_true rfl) (Nat.le_of_ble_eq_true rfl) (Nat.le_of_ble_eq_true rfl) ?_
  refine aw_pif_eq (tgt := 20) dX8_as_5 (by decide) (fun c5 => ?_) (fun c5 => ?_)
  · refine aw_ldc dX8_as_20 kc_X8_67 ?_
    refine aw_iret dX8_as_22 rfl rfl rfl rfl ?_
    exact pAnsM ((if_neg c5).trans rfl) h am_fr.rf
  · obtain ⟨k5, rfl, ha5, hb5, hz5⟩ := pIn_ex c5
    refine aw_iload_n dX8_as_8 rfl ?_
    refine aw_i2l dX8_as_9 ?_
    refine aw_lconst (v := lN 0) dX8_as_10 rfl ?_
    refine aw_ldc2 dX8_as_11 kl_X8_201 ?_
    refine aw_s3i dX8_as_14 ml_X8_57 st_X8_in (c_X8_in _ 0 6 (by decide +kernel) (by decide +kernel)) (Nat.le_of_ble_eq_true rfl) (Nat.le_of_ble_eq_true rfl) (Nat.le_of_ble_eq_true rfl) (Nat.le_of_ble_eq_true rfl) (Nat.le_of_ble_eq_true rfl) ?_
    refine aw_pif_ne (tgt := 23) dX8_as_17 (by decide) (fun c17 => ?_) (fun c17 => ?_)
    · obtain ⟨k17, rfl, ha17, hb17, hz17⟩ := pIn_ex c17
      refine aw_aload_n dX8_as_23 rfl ?_
      refine aw_gr dX8_as_24 gf_X8_22 sh_234 (by rfl) ?_
      refine aw_bipush (v := nI 7) dX8_as_27 rfl ?_
      refine aw_iload_n dX8_as_29 rfl ?_
      refine aw_iadd dX8_as_30 ?_
      refine aw_top (nI_add _ _) ?_
      refine aw_iald dX8_as_31 sh_239 rfl (by omega) (by decide) ?_
      refine aw_top (h.sk (7 + k5) (by omega)) ?_
      have gk := (ok.k.2.2.2.2 k5 hb5).1
      refine aw_iload_n dX8_as_32 rfl ?_
      refine aw_s2i dX8_as_33 ml_X8_257 st_X8_isOf (c_X8_isOf (A.K (7 + k5)) k17 (by omega) (by omega)) (Nat.le_of_ble_eq_true rfl) (Nat.le_of_ble_eq_true rfl) (Nat.le_of_ble_eq_true rfl) (Nat.le_of_ble_eq_true rfl) (Nat.le_of_ble_eq_true rfl) ?_
      refine aw_pif_eq (tgt := 47) dX8_as_36 (by decide) (fun c36 => ?_) (fun c36 => ?_)
      · refine aw_aload_n dX8_as_47 rfl ?_
        refine aw_iconst (v := nI 3) dX8_as_48 rfl ?_
        refine aw_v1i dX8_as_49 ml_X8_68 im_X8_found se_X8_found (c_X8_found _) sh_234 (by decide) rfl rfl (Nat.le_of_ble_eq_true rfl) (Nat.le_of_ble_eq_true rfl) (Nat.le_of_ble_eq_true rfl) (Nat.le_of_ble_eq_true rfl) (Nat.le_of_ble_eq_true rfl) ?_
        refine aw_iret dX8_as_52 rfl rfl rfl rfl ?_
        refine pAnsM ?_ (h.fd _) (am_fr.rf.up (by omega) (by omega))
        rw [oAs, if_pos c5, if_pos c17, zN_nI hz5, zN_nI hz17, if_neg c36]
        rfl
      · refine aw_aload_n dX8_as_39 rfl ?_
        refine aw_iload_n dX8_as_40 rfl ?_
        refine aw_v1i dX8_as_41 ml_X8_72 im_X8_well se_X8_well (c_X8_well _) sh_234 (by decide) rfl rfl (Nat.le_of_ble_eq_true rfl) (Nat.le_of_ble_eq_true rfl) (Nat.le_of_ble_eq_true rfl) (Nat.le_of_ble_eq_true rfl) (Nat.le_of_ble_eq_true rfl) ?_
        refine aw_goto (tgt := 52) dX8_as_44 (by decide) ?_
        refine aw_iret dX8_as_52 rfl rfl rfl rfl ?_
        refine pAnsM ?_ (h.fd _) (am_fr.rf.up (by omega) (by omega))
        rw [oAs, if_pos c5, if_pos c17, zN_nI hz5, zN_nI hz17, if_pos c36]
        rfl
    · refine aw_ldc dX8_as_20 kc_X8_67 ?_
      refine aw_iret dX8_as_22 rfl rfl rfl rfl ?_
      exact pAnsM ((if_pos c5).trans ((if_neg c17).trans rfl)) h am_fr.rf
set_option maxRecDepth 100000 in
set_option maxHeartbeats 4000000 in
theorem c_X8_trace {G : am_G} {μ : am_M} (A : pA) (h : InvM μ A) (ok : okA A) (x1 : Int32) : am_MA G yX8_trace cX8_trace 2 (some .int) 1 0 0 [.ref 234, .int x1] am_SH μ (am_P (some (.int (oTrace A x1).1)) am_SH (fun μ9 => InvM μ9 (oTrace A x1).2 ∧ am_fr μ μ9 234 14)) := by
  have ht := ok.tr
  refine am_ofK (own := RX8) (nm := "trace") (L := [some (.ref 234), some (.int x1)]) rfl rfl (by decide +kernel) (Nat.le_of_ble_eq_true rfl) rfl ?_
  refine aw_iload_n dX8_trace_0 rfl ?_
  refine aw_i2l dX8_trace_1 ?_
  refine aw_lconst (v := lN 0) dX8_trace_2 rfl ?_
  refine aw_aload_n dX8_trace_3 rfl ?_
  refine aw_gi dX8_trace_4 gf_X8_262 sh_234 (by rfl) ?_
  refine aw_top h.trn ?_
  refine aw_iconst (v := nI 1) dX8_trace_7 rfl ?_
  refine aw_isub dX8_trace_8 ?_
  refine aw_i2l dX8_trace_9 ?_
  refine aw_s3i dX8_trace_10 ml_X8_57 st_X8_in (c_X8_in _ 0 A.tr.length (by decide +kernel) (by rw [l32]; exact pn_pred (by omega))) (Nat.le_of_ble_eq_true rfl) (Nat.le_of_ble_eq_true rfl) (Nat.le_of_ble_eq_true rfl) (Nat.le_of_ble_eq_true rfl) (Nat.le_of_ble_eq_true rfl) ?_
  refine aw_pif_eq (tgt := 25) dX8_trace_13 (by decide) (fun c13 => ?_) (fun c13 => ?_)
  · refine aw_ldc dX8_trace_25 kc_X8_216 ?_
    refine aw_iret dX8_trace_27 rfl rfl rfl rfl ?_
    exact pAnsM ((if_neg c13).trans rfl) h am_fr.rf
  · obtain ⟨k, rfl, _, hk, hz⟩ := pIn_ex c13
    refine aw_aload_n dX8_trace_16 rfl ?_
    refine aw_gr dX8_trace_17 gf_X8_35 sh_234 (by rfl) ?_
    refine aw_iload_n dX8_trace_20 rfl ?_
    refine aw_iald dX8_trace_21 sh_243 rfl (by omega) (by decide) ?_
    refine aw_top (h.tr k (A.tr.getD k 0) (by rw [List.getD_eq_getElem?_getD, List.getElem?_eq_getElem hk]; rfl)) ?_
    refine aw_goto (tgt := 27) dX8_trace_22 (by decide) ?_
    refine aw_iret dX8_trace_27 rfl rfl rfl rfl ?_
    refine pAnsM ?_ h am_fr.rf
    rw [oTrace, if_pos c13, zN_nI hz]
