/-! ===== rows ===== -/
abbrev pRow : Type := Nat × Nat × (Nat → Int32)
def am_row (sh : List am_S) (a : Nat) : Prop := sh[a]? = some (3, 4, [none, none, none, some (.ref (a + 1))]) ∧ sh[a + 1]? = some (100, 40, [])
def rowC (μ : am_M) (a : Nat) (w : Option pRow) : Prop := match w with
  | none => μ a 0 = nI 1
  | some (l, n, f) => μ a 0 = nI 0 ∧ μ a 1 = nI l ∧ μ a 2 = nI n ∧ l ≤ 2 ∧ n ≤ 40 ∧ ∀ j, j < 40 → μ (a + 1) j = f j
theorem rowC.fr {μ μ' : am_M} {a : Nat} {w : Option pRow} (h : rowC μ a w) (e : ∀ b, a ≤ b → b < a + 2 → μ' b = μ b) : rowC μ' a w := by
  cases w with
  | none => show μ' a 0 = _; rw [e a (by omega) (by omega)]; exact h
  | some q =>
    obtain ⟨l, n, f⟩ := q
    obtain ⟨h0, h1, h2, h3, h4, h5⟩ := h
    exact ⟨by rw [e a (by omega) (by omega)]; exact h0, by rw [e a (by omega) (by omega)]; exact h1, by rw [e a (by omega) (by omega)]; exact h2, h3, h4, fun j hj => by rw [e (a + 1) (by omega) (by omega)]; exact h5 j hj⟩
/-- n items from i on lie within len -/
def pSpan (len : Nat) (i n : Int32) : Prop := 0 ≤ i.toInt ∧ 0 ≤ n.toInt ∧ i.toInt + n.toInt ≤ len
theorem pSpan_dec (len : Nat) (i n : Int32) : pSpan len i n ∨ ¬ pSpan len i n := Classical.em _
theorem z_neg {x : Int32} : x < 0 ↔ x.toInt < 0 := Int32.lt_iff_toInt_lt
theorem pSpan_nI {len k j : Nat} (hk : k < 2 ^ 31) (hj : j < 2 ^ 31) : pSpan len (nI k) (nI j) ↔ k + j ≤ len := by
  unfold pSpan
  rw [nI_toInt hk, nI_toInt hj]
  omega
def pCut (l : Nat) (v : Int32) : Int32 := if l = 0 then v.toInt8.toInt32 else if l = 1 then v.toInt16.toInt32 else v
def pSpanB (len : Nat) (i n : Int32) : Bool := decide (0 ≤ i.toInt) && (decide (0 ≤ n.toInt) && decide (i.toInt + n.toInt ≤ len))
theorem pSpanB_iff {len : Nat} {i n : Int32} : pSpanB len i n = true ↔ pSpan len i n := by simp [pSpanB, pSpan]
/-- what is found of n items from i on: 1 no row, 2 no such place, 0 -/
def pFind (w : Option pRow) (i n : Int32) : Nat := match w with
  | none => 1
  | some (_, len, _) => if pSpanB len i n = true then 0 else 2
set_option maxRecDepth 100000 in
set_option maxHeartbeats 4000000 in
theorem c_X4_begin {G : am_G} {sh : List am_S} {μ : am_M} (a : Nat) (hs : am_row sh a) (l n : Nat) (hl : l ≤ 2) (hn : n ≤ 40) : am_MA G yX4_begin cX4_begin 3 none 1 0 0 [.ref a, .int (nI l), .int (nI n)] sh μ (am_P none sh (fun μ9 => rowC μ9 a (some (l, n, fun _ => nI 0)) ∧ am_fr μ μ9 a 2)) := by
  obtain ⟨s0, s1⟩ := id hs
  refine am_ofK (own := RX4) (nm := "begin") (L := [some (.ref a), some (.int (nI l)), some (.int (nI n))]) rfl rfl (by decide +kernel) (Nat.le_of_ble_eq_true rfl) rfl ?_
  refine aw_aload_n dX4_begin_0 rfl ?_
  refine aw_iconst (v := nI 0) dX4_begin_1 rfl ?_
  refine aw_pi dX4_begin_2 pf_X4_9 rfl rfl (by assumption) (by rfl) ?_
  refine aw_aload_n dX4_begin_5 rfl ?_
  refine aw_iload_n dX4_begin_6 rfl ?_
  refine aw_pi dX4_begin_7 pf_X4_19 rfl rfl (by assumption) (by rfl) ?_
  refine aw_aload_n dX4_begin_10 rfl ?_
  refine aw_iload_n dX4_begin_11 rfl ?_
  refine aw_pi dX4_begin_12 pf_X4_23 rfl rfl (by assumption) (by rfl) ?_
  refine aw_aload_n dX4_begin_15 rfl ?_
  refine aw_gr dX4_begin_16 gf_X4_15 (by assumption) (by rfl) ?_
  refine aw_iconst (v := nI 0) dX4_begin_19 rfl ?_
  refine aw_s2vp dX4_begin_20 ml_X4_26 st_J7_fill_53178 (c_J7_fill_53178 (a + 1) 40 (nI 0) s1 (by omega)) (Nat.le_of_ble_eq_true rfl) (Nat.le_of_ble_eq_true rfl) (Nat.le_of_ble_eq_true rfl) (Nat.le_of_ble_eq_true rfl) (Nat.le_of_ble_eq_true rfl) (fun μ9 hq => ?_)
  refine aw_vret dX4_begin_23 rfl rfl rfl ?_
  obtain ⟨q1, q2⟩ := hq
  have e : ∀ j, μ9 a j = upd (upd (upd (μ a) 0 (nI 0)) 1 (nI l)) 2 (nI n) j := fun j => by rw [q2 a (by omega)]; simp only [am_up_s]
  exact ⟨rfl, rfl, ⟨by rw [e, pk_un (by decide), pk_un (by decide), pk_us], by rw [e, pk_un (by decide), pk_us], by rw [e, pk_us], hl, hn, q1⟩, (((am_fr.rf.up (by omega) (by omega)).up (by omega) (by omega)).up (by omega) (by omega)).tr (q2.mono (by omega) (by omega))⟩
set_option maxRecDepth 100000 in
set_option maxHeartbeats 4000000 in
theorem c_X4_spans {G : am_G} {sh : List am_S} {μ : am_M} (a : Nat) (hs : am_row sh a) (len : Nat) (e2 : μ a 2 = nI len) (hlen : len ≤ 40) (i n : Int32) : am_MA G yX4_spans cX4_spans 3 (some .boolean) 0 0 0 [.ref a, .int i, .int n] sh μ (am_E (some (.int (if pSpanB len i n = true then nI 1 else nI 0))) sh μ) := by
  obtain ⟨s0, s1⟩ := id hs
  refine am_ofK (own := RX4) (nm := "spans") (L := [some (.ref a), some (.int i), some (.int n)]) rfl rfl (by decide +kernel) (Nat.le_of_ble_eq_true rfl) rfl ?_
  refine aw_iload_n dX4_spans_0 rfl ?_
  refine aw_if_lt (tgt := 30) dX4_spans_1 (by decide) (fun c1 => ?_) (fun c1 => ?_)
  · refine aw_iconst (v := nI 0) dX4_spans_30 rfl ?_
    refine aw_iret dX4_spans_31 rfl rfl rfl rfl ?_
    refine ⟨congrArg (fun z => some (Value.int z)) (if_neg ?_).symm, rfl, rfl⟩
    rw [pSpanB_iff]
    intro q
    exact absurd q.1 (by have := z_neg.mp c1; omega)
  · refine aw_iload_n dX4_spans_4 rfl ?_
    refine aw_if_lt (tgt := 30) dX4_spans_5 (by decide) (fun c5 => ?_) (fun c5 => ?_)
    · refine aw_iconst (v := nI 0) dX4_spans_30 rfl ?_
      refine aw_iret dX4_spans_31 rfl rfl rfl rfl ?_
      refine ⟨congrArg (fun z => some (Value.int z)) (if_neg ?_).symm, rfl, rfl⟩
      rw [pSpanB_iff]
      intro q
      exact absurd q.2.1 (by have := z_neg.mp c5; omega)
    · obtain ⟨k, hk, rfl⟩ := nI_of c1
      obtain ⟨j, hj, rfl⟩ := nI_of c5
      refine aw_iload_n dX4_spans_8 rfl ?_
      refine aw_aload_n dX4_spans_9 rfl ?_
      refine aw_gi dX4_spans_10 gf_X4_23 (by assumption) (by rfl) ?_
      refine aw_top e2 ?_
      refine aw_icmp_gt (tgt := 30) dX4_spans_13 (by decide) (fun c13 => ?_) (fun c13 => ?_)
      · rw [nI_ltI (by omega) (by omega)] at c13
        refine aw_iconst (v := nI 0) dX4_spans_30 rfl ?_
        refine aw_iret dX4_spans_31 rfl rfl rfl rfl ?_
        refine ⟨congrArg (fun z => some (Value.int z)) (if_neg ?_).symm, rfl, rfl⟩
        rw [pSpanB_iff]
        intro q
        rw [pSpan_nI hk hj] at q; omega
      · rw [nI_ltI (by omega) (by omega)] at c13
        refine aw_iload_n dX4_spans_16 rfl ?_
        refine aw_aload_n dX4_spans_17 rfl ?_
        refine aw_gi dX4_spans_18 gf_X4_23 (by assumption) (by rfl) ?_
        refine aw_top e2 ?_
        refine aw_iload_n dX4_spans_21 rfl ?_
        refine aw_isub dX4_spans_22 ?_
        refine aw_top (pk_sub (by omega)) ?_
        refine aw_icmp_gt (tgt := 30) dX4_spans_23 (by decide) (fun c23 => ?_) (fun c23 => ?_)
        · rw [nI_ltI (by omega) (by omega)] at c23
          refine aw_iconst (v := nI 0) dX4_spans_30 rfl ?_
          refine aw_iret dX4_spans_31 rfl rfl rfl rfl ?_
          refine ⟨congrArg (fun z => some (Value.int z)) (if_neg ?_).symm, rfl, rfl⟩
          rw [pSpanB_iff]
          intro q
          rw [pSpan_nI hk hj] at q; omega
        · rw [nI_ltI (by omega) (by omega)] at c23
          refine aw_iconst (v := nI 1) dX4_spans_26 rfl ?_
          refine aw_goto (tgt := 31) dX4_spans_27 (by decide) ?_
          refine aw_iret dX4_spans_31 rfl rfl rfl rfl ?_
          refine ⟨congrArg (fun z => some (Value.int z)) (if_pos ?_).symm, rfl, rfl⟩
          rw [pSpanB_iff, pSpan_nI hk hj]
          omega
set_option maxRecDepth 100000 in
set_option maxHeartbeats 4000000 in
theorem c_X4_findingOf {G : am_G} {sh : List am_S} {μ : am_M} (a : Nat) (hs : am_row sh a) (w : Option pRow) (hw : rowC μ a w) (i n : Int32) : am_MA G yX4_findingOf cX4_findingOf 3 (some .int) 1 0 0 [.ref a, .int i, .int n] sh μ (am_E (some (.int (nI (pFind w i n)))) sh μ) := by
  obtain ⟨s0, s1⟩ := id hs
  refine am_ofK (own := RX4) (nm := "findingOf") (L := [some (.ref a), some (.int i), some (.int n)]) rfl rfl (by decide +kernel) (Nat.le_of_ble_eq_true rfl) rfl ?_
  refine aw_aload_n dX4_findingOf_0 rfl ?_
  refine aw_gi dX4_findingOf_1 gf_X4_9 s0 (by rfl) ?_
  cases w with
  | none =>
    refine aw_top (show μ a 0 = nI 1 from hw) ?_
    refine aw_if_eq (tgt := 9) dX4_findingOf_4 (by decide) (fun c4 => ?_) (fun c4 => ?_)
    · exact absurd c4 (by decide)
    · refine aw_iconst (v := nI 1) dX4_findingOf_7 rfl ?_
      refine aw_iret dX4_findingOf_8 rfl rfl rfl rfl ?_
      exact ⟨rfl, rfl, rfl⟩
  | some q =>
    obtain ⟨l, len, f⟩ := q
    obtain ⟨g0, g1, g2, g3, g4, g5⟩ := hw
    refine aw_top g0 ?_
    refine aw_if_eq (tgt := 9) dX4_findingOf_4 (by decide) (fun c4 => ?_) (fun c4 => ?_)
    · refine aw_aload_n dX4_findingOf_9 rfl ?_
      refine aw_iload_n dX4_findingOf_10 rfl ?_
      refine aw_iload_n dX4_findingOf_11 rfl ?_
      refine aw_v2i dX4_findingOf_12 ml_X4_32 im_X4_spans se_X4_spans (c_X4_spans a hs len g2 g4 i n) (by assumption) (by decide) rfl rfl (Nat.le_of_ble_eq_true rfl) (Nat.le_of_ble_eq_true rfl) (Nat.le_of_ble_eq_true rfl) (Nat.le_of_ble_eq_true rfl) (Nat.le_of_ble_eq_true rfl) ?_
      refine aw_if_eq (tgt := 22) dX4_findingOf_15 (by decide) (fun c15 => ?_) (fun c15 => ?_)
      · have e : ¬ pSpanB len i n = true := fun q => absurd (c15.symm.trans (if_pos q)) (by decide)
        refine aw_iconst (v := nI 2) dX4_findingOf_22 rfl ?_
        refine aw_iret dX4_findingOf_23 rfl rfl rfl rfl ?_
        exact ⟨by show _ = some (Value.int (nI (if _ then _ else _))); rw [if_neg e], rfl, rfl⟩
      · have e : pSpanB len i n = true := Classical.not_not.mp fun q => c15 (if_neg q)
        refine aw_iconst (v := nI 0) dX4_findingOf_18 rfl ?_
        refine aw_goto (tgt := 23) dX4_findingOf_19 (by decide) ?_
        refine aw_iret dX4_findingOf_23 rfl rfl rfl rfl ?_
        exact ⟨by show _ = some (Value.int (nI (if _ then _ else _))); rw [if_pos e], rfl, rfl⟩
    · exact absurd (show nI 0 = 0 by decide) c4
set_option maxRecDepth 100000 in
set_option maxHeartbeats 4000000 in
theorem c_X4_cut {G : am_G} {sh : List am_S} {μ : am_M} (a : Nat) (hs : am_row sh a) (l : Nat) (e1 : μ a 1 = nI l) (hl : l ≤ 2) (v : Int32) : am_MA G yX4_cut cX4_cut 2 (some .int) 0 0 0 [.ref a, .int v] sh μ (am_E (some (.int (pCut l v))) sh μ) := by
  obtain ⟨s0, s1⟩ := id hs
  refine am_ofK (own := RX4) (nm := "cut") (L := [some (.ref a), some (.int v)]) rfl rfl (by decide +kernel) (Nat.le_of_ble_eq_true rfl) rfl ?_
  refine aw_aload_n dX4_cut_0 rfl ?_
  refine aw_gi dX4_cut_1 gf_X4_19 s0 (by rfl) ?_
  refine aw_top e1 ?_
  rcases (show l = 0 ∨ l = 1 ∨ l = 2 by omega) with rfl | rfl | rfl
  · refine aw_lookup (off := 28) (tgt := 32) dX4_cut_4 (by decide) (by decide +kernel) (by decide) ?_
    refine aw_iload_n dX4_cut_32 rfl ?_
    refine aw_i2b dX4_cut_33 ?_
    refine aw_iret dX4_cut_34 rfl rfl rfl rfl ?_
    exact ⟨rfl, rfl, rfl⟩
  · refine aw_lookup (off := 31) (tgt := 35) dX4_cut_4 (by decide) (by decide +kernel) (by decide) ?_
    refine aw_iload_n dX4_cut_35 rfl ?_
    refine aw_i2s dX4_cut_36 ?_
    refine aw_iret dX4_cut_37 rfl rfl rfl rfl ?_
    exact ⟨rfl, rfl, rfl⟩
  · refine aw_lookup (off := 34) (tgt := 38) dX4_cut_4 (by decide) (by decide +kernel) (by decide) ?_
    refine aw_iload_n dX4_cut_38 rfl ?_
    refine aw_iret dX4_cut_39 rfl rfl rfl rfl ?_
    exact ⟨rfl, rfl, rfl⟩
set_option maxRecDepth 100000 in
set_option maxHeartbeats 4000000 in
theorem c_X4_put {G : am_G} {sh : List am_S} {μ : am_M} (a : Nat) (hs : am_row sh a) (l n : Nat) (f : Nat → Int32) (hw : rowC μ a (some (l, n, f))) (k : Nat) (hk : k < n) (v : Int32) : am_MA G yX4_put cX4_put 3 (some .int) 1 0 0 [.ref a, .int (nI k), .int v] sh μ (am_P (some (.int (pCut l v))) sh (fun μ9 => rowC μ9 a (some (l, n, upd f k (pCut l v))) ∧ am_fr μ μ9 a 2)) := by
  obtain ⟨s0, s1⟩ := id hs
  obtain ⟨g0, g1, g2, g3, g4, g5⟩ := id hw
  refine am_ofK (own := RX4) (nm := "put") (L := [some (.ref a), some (.int (nI k)), some (.int v)]) rfl rfl (by decide +kernel) (Nat.le_of_ble_eq_true rfl) rfl ?_
  refine aw_aload_n dX4_put_0 rfl ?_
  refine aw_gr dX4_put_1 gf_X4_15 (by assumption) (by rfl) ?_
  refine aw_iload_n dX4_put_4 rfl ?_
  refine aw_aload_n dX4_put_5 rfl ?_
  refine aw_iload_n dX4_put_6 rfl ?_
  refine aw_v1i dX4_put_7 ml_X4_36 im_X4_cut se_X4_cut (c_X4_cut a hs l g1 g3 v) (by assumption) (by decide) rfl rfl (Nat.le_of_ble_eq_true rfl) (Nat.le_of_ble_eq_true rfl) (Nat.le_of_ble_eq_true rfl) (Nat.le_of_ble_eq_true rfl) (Nat.le_of_ble_eq_true rfl) ?_
  refine aw_iast dX4_put_10 s1 rfl (by omega) (by decide) ?_
  refine aw_aload_n dX4_put_11 rfl ?_
  refine aw_gr dX4_put_12 gf_X4_15 (by assumption) (by rfl) ?_
  refine aw_iload_n dX4_put_15 rfl ?_
  refine aw_iald dX4_put_16 s1 rfl (by omega) (by decide) ?_
  refine aw_top (show _ = pCut l v by rw [am_ups, pk_us]) ?_
  refine aw_iret dX4_put_17 rfl rfl rfl rfl ?_
  refine ⟨rfl, rfl, ⟨by rw [am_upn (by omega)]; exact g0, by rw [am_upn (by omega)]; exact g1, by rw [am_upn (by omega)]; exact g2, g3, g4, fun j hj => ?_⟩, am_fr.rf.up (by omega) (by omega)⟩
  by_cases e : j = k
  · subst e; rw [am_ups, pk_us, pk_us]
  · rw [am_ups, pk_un e, pk_un e]; exact g5 j hj
