theorem pFc_pos {k s h : Nat} {x : Int32} {c : Nat} (hc : c ≤ 3) (e : pFit k s h x c = true) : 0 < pFc k s h x 4 := by
  have g : ∀ m, 3 - c < m → m ≤ 4 → 0 < pFc k s h x m := by
    intro m
    induction m with
    | zero => intro q _; omega
    | succ m ih =>
      intro q1 q2
      unfold pFc
      by_cases e2 : m = 3 - c
      · rw [e2, show 3 - (3 - c) = c by omega, if_pos e]; omega
      · have := ih (by omega) (by omega)
        split <;> omega
  exact g 4 (by omega) (by omega)
theorem pHs_le20 {k s h : Nat} {f : Nat → Int32} {i : Nat} (hh : h ≤ 20) : ∀ j, pHs k s h f i j ≤ 20
  | 0 => hh
  | j + 1 => by
    have := pLifted_le k (pFq k s (pHs k s h f i j) (f (i + j)) 4) (pHs k s h f i j) (pHs_le20 hh j)
    unfold pHs
    omega
/-! ===== the model's ash: all codes ===== -/
/-- the code of n steps fits: its last figure and those ahead of it -/
def pOkc (k s h : Nat) (f : Nat → Int32) (i : Nat) : Nat → Nat → Bool
  | 0, _ => true
  | j + 1, c => pOkc k s h f i j (c / 4) && pFit k s (pHs k s h f i j) (f (i + j)) (c % 4)
theorem pOkc_pre {k s h i : Nat} {f : Nat → Int32} (c : Nat) : ∀ d j, pOkc k s h f i (j + d) c = true → pOkc k s h f i j (c / 4 ^ d) = true
  | 0, j, e => by rw [Nat.pow_zero, Nat.div_one]; exact e
  | d + 1, j, e => by
    have e1 := pOkc_pre c d (j + 1) (by rw [show j + 1 + d = j + (d + 1) by omega]; exact e)
    have e2 := ((Bool.and_eq_true _ _).mp (show (_ && _) = true from e1)).1
    rw [Nat.div_div_eq_div_mul, ← Nat.pow_succ] at e2
    exact e2
theorem nI_inj20 {a b : Nat} (ha : a ≤ 20) (hb : b ≤ 20) (e : nI a = nI b) : a = b := (nI_eq (by omega) (by omega)).mp e
/-- a fitting figure brings it where the least fitting one does -/
theorem pFit_hs {k s h : Nat} {f : Nat → Int32} {i j c : Nat} (hh : pHs k s h f i j ≤ 20) (hc : c ≤ 3) (e : pFit k s (pHs k s h f i j) (f (i + j)) c = true) : pLifted k (pHs k s h f i j) c - s = pHs k s h f i (j + 1) := by
  have h0 : 0 < pFc k s (pHs k s h f i j) (f (i + j)) 4 := pFc_pos hc e
  have h1 := (pFq_fit k s (pHs k s h f i j) (f (i + j)) 4 h0).1
  have e1 := of_decide_eq_true e
  have e2 := of_decide_eq_true h1
  have l1 := pLifted_le k c (pHs k s h f i j) hh
  have l2 := pLifted_le k (pFq k s (pHs k s h f i j) (f (i + j)) 4) (pHs k s h f i j) hh
  exact nI_inj20 (by omega) (show pLifted k (pHs k s h f i j) (pFq k s (pHs k s h f i j) (f (i + j)) 4) - s ≤ 20 by omega) (e1.trans e2.symm)
theorem p4_2 (m : Nat) : 2 ^ (2 * m) = 4 ^ m := by rw [Nat.pow_mul]
theorem pow4_6 {n : Nat} (h : n ≤ 6) : 4 ^ n ≤ 4096 := Nat.le_trans (Nat.pow_le_pow_right (by decide) h) (by decide)
set_option maxRecDepth 100000 in
set_option maxHeartbeats 4000000 in
theorem l_X8_comesSo {G : am_G} {μ : am_M} (A : pA) (h : InvM μ A) (ok : okA A) (o r i n code : Nat) (hoo : o < A.K 5) (hr : r < 8) (hin : i + n ≤ 40) (hn : n ≤ 6) (hc : code < 4 ^ n) (hit : ∀ j, j < 40 → μ 237 (40 * r + j) = pItm (A.w r) j) : ∀ (s j : Nat) (X : Option Value), j + s = n → pOkc (A.K (7 + o)) (A.K 4) (A.K (17 + o)) (pItm (A.w r)) i j (code / 4 ^ (n - j)) = true → am_W (am_K G RX8 "comesSo" 8 (some .boolean) 2 0 0 (am_E (some (.int (pI (pOkc (A.K (7 + o)) (A.K 4) (A.K (17 + o)) (pItm (A.w r)) i n code = true)))) am_SH μ)) cX8_comesSo 14 [some (.ref 234), some (.int (nI o)), some (.int (nI (40 * r + i))), some (.int (nI n)), some (.int (nI code)), some (.int (nI (pHs (A.K (7 + o)) (A.K 4) (A.K (17 + o)) (pItm (A.w r)) i j))), some (.int (nI j)), X] [] am_SH μ 0 0 := by
  have gk := ok.k.2.2.2.2 o hoo
  have h5 := ok.k.1
  have h46 := pow4_6 hn
  intro s
  induction s with
  | zero =>
    intro j X hj e
    refine aw_iload dX8_comesSo_14 rfl ?_
    refine aw_iload_n dX8_comesSo_16 rfl ?_
    refine aw_icmp_ge (tgt := 82) dX8_comesSo_17 (by decide) (fun c17 => ?_) (fun c17 => ?_)
    · refine aw_iconst (v := nI 1) dX8_comesSo_82 rfl ?_
      refine aw_iret dX8_comesSo_83 rfl rfl rfl rfl ?_
      have e1 : j = n := by omega
      subst e1
      rw [Nat.sub_self, Nat.pow_zero, Nat.div_one] at e
      exact ⟨pI_tr e, rfl, rfl⟩
    · exact absurd (nI_le (by omega) (by omega)) c17
  | succ s ih =>
    intro j X hj e
    have hj20 := pHs_le20 (k := A.K (7 + o)) (s := A.K 4) (f := pItm (A.w r)) (i := i) gk.2.2.1 j
    have hd4 : (code / 2 ^ (2 * (n - 1 - j)) % 4) < 4 := Nat.mod_lt _ (by decide)
    refine aw_iload dX8_comesSo_14 rfl ?_
    refine aw_iload_n dX8_comesSo_16 rfl ?_
    refine aw_icmp_ge (tgt := 82) dX8_comesSo_17 (by decide) (fun c17 => ?_) (fun c17 => ?_)
    · exact absurd c17 (nI_ge (by omega) (by omega))
    · refine aw_iload dX8_comesSo_20 rfl ?_
      refine aw_iconst (v := nI 2) dX8_comesSo_22 rfl ?_
      refine aw_iload_n dX8_comesSo_23 rfl ?_
      refine aw_iconst (v := nI 1) dX8_comesSo_24 rfl ?_
      refine aw_isub dX8_comesSo_25 ?_
      refine aw_top (pk_sub (by omega)) ?_
      refine aw_iload dX8_comesSo_26 rfl ?_
      refine aw_isub dX8_comesSo_28 ?_
      refine aw_top (pk_sub (by omega)) ?_
      refine aw_imul dX8_comesSo_29 ?_
      refine aw_top (pk_mul _ _) ?_
      refine aw_ishr dX8_comesSo_30 ?_
      refine aw_iconst (v := nI 3) dX8_comesSo_31 rfl ?_
      refine aw_iand dX8_comesSo_32 ?_
      refine aw_top (pn_sh (by omega) (by omega)) ?_
      refine aw_istore dX8_comesSo_33 (Nat.le_of_ble_eq_true rfl) ?_
      refine aw_aload_n dX8_comesSo_35 rfl ?_
      refine aw_gr dX8_comesSo_36 gf_X8_22 sh_234 (by rfl) ?_
      refine aw_aload_n dX8_comesSo_39 rfl ?_
      refine aw_gr dX8_comesSo_40 gf_X8_22 sh_234 (by rfl) ?_
      refine aw_bipush (v := nI 7) dX8_comesSo_43 rfl ?_
      refine aw_iload_n dX8_comesSo_45 rfl ?_
      refine aw_iadd dX8_comesSo_46 ?_
      refine aw_top (nI_add _ _) ?_
      refine aw_iald dX8_comesSo_47 sh_239 rfl (by omega) (by decide) ?_
      refine aw_top (h.sk (7 + o) (by omega)) ?_
      refine aw_iload dX8_comesSo_48 rfl ?_
      refine aw_iload dX8_comesSo_50 rfl ?_
      refine aw_s3i dX8_comesSo_52 ml_X8_165 st_X8_lifted (c_X8_lifted (A.K (7 + o)) (pHs (A.K (7 + o)) (A.K 4) (A.K (17 + o)) (pItm (A.w r)) i j) (code / 2 ^ (2 * (n - 1 - j)) % 4) gk.1.1 gk.1.2 hj20 (by omega)) (Nat.le_of_ble_eq_true rfl) (Nat.le_of_ble_eq_true rfl) (Nat.le_of_ble_eq_true rfl) (Nat.le_of_ble_eq_true rfl) (Nat.le_of_ble_eq_true rfl) ?_
      have hl20 := pLifted_le (A.K (7 + o)) (code / 2 ^ (2 * (n - 1 - j)) % 4) (pHs (A.K (7 + o)) (A.K 4) (A.K (17 + o)) (pItm (A.w r)) i j) hj20
      refine aw_s2i dX8_comesSo_55 ml_X8_157 st_X8_sunk (c_X8_sunk 239 sh_239 A.K h.sk ok.k _ hl20) (Nat.le_of_ble_eq_true rfl) (Nat.le_of_ble_eq_true rfl) (Nat.le_of_ble_eq_true rfl) (Nat.le_of_ble_eq_true rfl) (Nat.le_of_ble_eq_true rfl) ?_
      refine aw_istore dX8_comesSo_58 (Nat.le_of_ble_eq_true rfl) ?_
      refine aw_iload dX8_comesSo_60 rfl ?_
      refine aw_aload_n dX8_comesSo_62 rfl ?_
      refine aw_gr dX8_comesSo_63 gf_X8_16 sh_234 (by rfl) ?_
      refine aw_iload_n dX8_comesSo_66 rfl ?_
      refine aw_iload dX8_comesSo_67 rfl ?_
      refine aw_iadd dX8_comesSo_69 ?_
      refine aw_top (nI_add _ _) ?_
      refine aw_iald dX8_comesSo_70 sh_237 rfl (by omega) (by decide) ?_
      refine aw_top (show _ = pItm (A.w r) (i + j) by rw [show 40 * r + i + j = 40 * r + (i + j) by omega]; exact hit _ (by omega)) ?_
      refine aw_icmp_eq (tgt := 76) dX8_comesSo_71 (by decide) (fun c71 => ?_) (fun c71 => ?_)
      · refine aw_iinc (v := nI (j + 1)) dX8_comesSo_76 rfl (nI_1 j) (Nat.le_of_ble_eq_true rfl) ?_
        refine aw_goto (tgt := 14) dX8_comesSo_79 (by decide) ?_
        have es : pOkc (A.K (7 + o)) (A.K 4) (A.K (17 + o)) (pItm (A.w r)) i (j + 1) (code / 4 ^ (n - (j + 1))) = (pOkc (A.K (7 + o)) (A.K 4) (A.K (17 + o)) (pItm (A.w r)) i j (code / 4 ^ (n - j)) && pFit (A.K (7 + o)) (A.K 4) (pHs (A.K (7 + o)) (A.K 4) (A.K (17 + o)) (pItm (A.w r)) i j) (pItm (A.w r) (i + j)) (code / 2 ^ (2 * (n - 1 - j)) % 4)) := by
          show (pOkc _ _ _ _ _ _ _ && _) = _
          rw [Nat.div_div_eq_div_mul, ← Nat.pow_succ, show (n - (j + 1)).succ = n - j by omega, p4_2, show n - 1 - j = n - (j + 1) by omega]
        have ef : pFit (A.K (7 + o)) (A.K 4) (pHs (A.K (7 + o)) (A.K 4) (A.K (17 + o)) (pItm (A.w r)) i j) (pItm (A.w r) (i + j)) (code / 2 ^ (2 * (n - 1 - j)) % 4) = true := decide_eq_true c71
        have eh := pFit_hs hj20 (by omega) ef
        have g := ih (j + 1) (some (.int (nI (code / 2 ^ (2 * (n - 1 - j)) % 4)))) (by omega) (by rw [es, e, ef]; rfl)
        rw [← eh] at g
        exact g
      · refine aw_iconst (v := nI 0) dX8_comesSo_74 rfl ?_
        refine aw_iret dX8_comesSo_75 rfl rfl rfl rfl ?_
        have es : pOkc (A.K (7 + o)) (A.K 4) (A.K (17 + o)) (pItm (A.w r)) i (j + 1) (code / 4 ^ (n - (j + 1))) = (pOkc (A.K (7 + o)) (A.K 4) (A.K (17 + o)) (pItm (A.w r)) i j (code / 4 ^ (n - j)) && pFit (A.K (7 + o)) (A.K 4) (pHs (A.K (7 + o)) (A.K 4) (A.K (17 + o)) (pItm (A.w r)) i j) (pItm (A.w r) (i + j)) (code / 2 ^ (2 * (n - 1 - j)) % 4)) := by
          show (pOkc _ _ _ _ _ _ _ && _) = _
          rw [Nat.div_div_eq_div_mul, ← Nat.pow_succ, show (n - (j + 1)).succ = n - j by omega, p4_2, show n - 1 - j = n - (j + 1) by omega]
        refine ⟨pI_fa (fun q => ?_), rfl, rfl⟩
        have e2 := pOkc_pre code (n - (j + 1)) (j + 1) (by rw [show j + 1 + (n - (j + 1)) = n by omega]; exact q)
        rw [es, Bool.and_eq_true] at e2
        exact c71 (of_decide_eq_true e2.2)
set_option maxRecDepth 100000 in
set_option maxHeartbeats 4000000 in
theorem c_X8_comesSo {G : am_G} {μ : am_M} (A : pA) (h : InvM μ A) (ok : okA A) (o r i n code : Nat) (hoo : o < A.K 5) (hr : r < 8) (hin : i + n ≤ 40) (hn : n ≤ 6) (hc : code < 4 ^ n) (hit : ∀ j, j < 40 → μ 237 (40 * r + j) = pItm (A.w r) j) : am_MA G yX8_comesSo cX8_comesSo 8 (some .boolean) 2 0 0 [.ref 234, .int (nI o), .int (nI (40 * r + i)), .int (nI n), .int (nI code)] am_SH μ (am_E (some (.int (pI (pOkc (A.K (7 + o)) (A.K 4) (A.K (17 + o)) (pItm (A.w r)) i n code = true)))) am_SH μ) := by
  have h5 := ok.k.1
  refine am_ofK (own := RX8) (nm := "comesSo") (L := [some (.ref 234), some (.int (nI o)), some (.int (nI (40 * r + i))), some (.int (nI n)), some (.int (nI code)), none, none, none]) rfl rfl (by decide +kernel) (Nat.le_of_ble_eq_true rfl) rfl ?_
  refine aw_aload_n dX8_comesSo_0 rfl ?_
  refine aw_gr dX8_comesSo_1 gf_X8_22 sh_234 (by rfl) ?_
  refine aw_bipush (v := nI 17) dX8_comesSo_4 rfl ?_
  refine aw_iload_n dX8_comesSo_6 rfl ?_
  refine aw_iadd dX8_comesSo_7 ?_
  refine aw_top (nI_add _ _) ?_
  refine aw_iald dX8_comesSo_8 sh_239 rfl (by omega) (by decide) ?_
  refine aw_top (h.sk (17 + o) (by omega)) ?_
  refine aw_istore dX8_comesSo_9 (Nat.le_of_ble_eq_true rfl) ?_
  refine aw_iconst (v := nI 0) dX8_comesSo_11 rfl ?_
  refine aw_istore dX8_comesSo_12 (Nat.le_of_ble_eq_true rfl) ?_
  exact l_X8_comesSo A h ok o r i n code hoo hr hin hn hc hit n 0 _ (by omega) rfl
