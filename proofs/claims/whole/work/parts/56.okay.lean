/-! ===== every call leaves a good state ===== -/
/-- acts are kept, and images are, only where there is a sky -/
def okB (A : pA) : Prop := okA A ∧ (A.ac ≠ [] → ¬ A.K 5 = 0) ∧ ∀ k, k < 2 → ¬ A.im k 5 = 0 → ¬ A.K 5 = 0
theorem okA.sF {A : pA} (h : okA A) {f : Nat} (hf : f ≤ 5) : okA (A.sF f) := ⟨h.tp, h.k, h.k6, h.ac, h.acl, h.im, h.tr, hf, h.w⟩
theorem okB.sF {A : pA} (h : okB A) {f : Nat} (hf : f ≤ 5) : okB (A.sF f) := ⟨h.1.sF hf, h.2.1, h.2.2⟩
theorem okA.sW {A : pA} (h : okA A) {r l n : Nat} {f : Nat → Int32} (hl : l ≤ 2) (hn : n ≤ 40) : okA (A.sW (wUp A.w r (some (l, n, f)))) :=
  ⟨h.tp, h.k, h.k6, h.ac, h.acl, h.im, h.tr, Nat.zero_le 5, fun q l2 n2 f2 e => by
    replace e : wUp A.w r (some (l, n, f)) q = some (l2, n2, f2) := e
    by_cases eq : q = r
    · rw [eq, wUp_s] at e
      have e2 : (l, n, f) = (l2, n2, f2) := by simpa using e
      have e3 : l = l2 := congrArg Prod.fst e2
      have e4 : n = n2 := congrArg (fun z => z.2.1) e2
      exact ⟨e3 ▸ hl, e4 ▸ hn⟩
    · rw [wUp_n eq] at e; exact h.w q l2 n2 f2 e⟩
theorem okA.sW0 {A : pA} (h : okA A) {r : Nat} : okA (A.sW (wUp A.w r none)) :=
  ⟨h.tp, h.k, h.k6, h.ac, h.acl, h.im, h.tr, Nat.zero_le 5, fun q l2 n2 f2 e => by
    replace e : wUp A.w r none q = some (l2, n2, f2) := e
    by_cases eq : q = r
    · rw [eq, wUp_s] at e; exact absurd e (by simp)
    · rw [wUp_n eq] at e; exact h.w q l2 n2 f2 e⟩
theorem okB_act {A : pA} {K : pK} (h : okB A) (h5 : ¬ A.K 5 = 0) (hk : pOK K) (h6 : K 6 ≤ 999) (e5 : K 5 = A.K 5) : okB (A.act K) :=
  ⟨okA_act h.1 (by omega) hk h6, fun _ => by show ¬ K 5 = 0; rw [e5]; exact h5, fun k hk2 q => by show ¬ K 5 = 0; rw [e5]; exact h5⟩
theorem okB_fault {A : pA} (h : okB A) : okB (oFault A).2 := h
theorem okB_status {A : pA} (h : okB A) : okB (oStatus A).2 := h
theorem okB_oLand {A : pA} (h : okB A) (l : Int32) : okB (oLand A l).2 := by
  unfold oLand
  repeat' split
  all_goals exact h
theorem okB_oOffice {A : pA} (h : okB A) (o w : Int32) : okB (oOffice A o w).2 := by
  unfold oOffice
  repeat' split
  all_goals exact h
theorem okB_oAhead {A : pA} (h : okB A) (o n w : Int32) : okB (oAhead A o n w).2 := by
  unfold oAhead
  repeat' split
  all_goals exact h
theorem okB_oDown {A : pA} (h : okB A) (o : Int32) : okB (oDown A o).2 := by
  unfold oDown
  repeat' split
  all_goals exact h
theorem okB_oMeet {A : pA} (h : okB A) (o p : Int32) : okB (oMeet A o p).2 := by
  unfold oMeet
  repeat' split
  all_goals exact h
theorem okB_oOver {A : pA} (h : okB A) (l n : Int32) : okB (oOver A l n).2 := by
  unfold oOver
  repeat' split
  all_goals exact h
theorem okB_oAbove {A : pA} (h : okB A) (o l n h2 k : Int32) : okB (oAbove A o l n h2 k).2 := by
  unfold oAbove
  repeat' split
  all_goals exact h
theorem okB_oRule {A : pA} (h : okB A) (n w : Int32) : okB (oRule A n w).2 := by
  unfold oRule
  repeat' split
  all_goals exact h
theorem okB_oLasts {A : pA} (h : okB A) (o : Int32) : okB (oLasts A o).2 := by
  unfold oLasts
  repeat' split
  all_goals exact h
theorem okB_oKept {A : pA} (h : okB A) (o n : Int32) : okB (oKept A o n).2 := by
  unfold oKept
  repeat' split
  all_goals exact h
theorem okB_oDrawn {A : pA} (h : okB A) (n s w : Int32) : okB (oDrawn A n s w).2 := by
  unfold oDrawn
  repeat' split
  all_goals exact h
theorem okB_oKind {A : pA} (h : okB A) (o : Int32) : okB (oKind A o).2 := by
  unfold oKind
  repeat' split
  all_goals exact h
theorem okB_oTrace {A : pA} (h : okB A) (i : Int32) : okB (oTrace A i).2 := by
  unfold oTrace
  repeat' split
  all_goals exact h
theorem okB_oCount {A : pA} (h : okB A) (w : Int32) : okB (oCount A w).2 := by
  unfold oCount
  repeat' split
  all_goals exact h
theorem okB_oPet {A : pA} (h : okB A) (l r i n : Int32) : okB (oPet A l r i n).2 := by
  unfold oPet
  repeat' split
  all_goals first | exact h | exact h.sF (by decide) | exact h.sF (Nat.le_trans (pFind_lt _ _ _) (by decide))
theorem okB_oAsh {A : pA} (h : okB A) (o r i n k : Int32) : okB (oAsh A o r i n k).2 := by
  unfold oAsh
  repeat' split
  all_goals first | exact h | exact h.sF (by decide) | exact h.sF (Nat.le_trans (pFind_lt _ _ _) (by decide))
theorem okB_oWho {A : pA} (h : okB A) (o r i n s : Int32) : okB (oWho A o r i n s).2 := by
  unfold oWho
  repeat' split
  all_goals first | exact h | exact h.sF (by decide) | exact h.sF (Nat.le_trans (pFind_lt _ _ _) (by decide))
theorem okB_oAs {A : pA} (h : okB A) (o k : Int32) : okB (oAs A o k).2 := by
  unfold oAs
  repeat' split
  all_goals first | exact h | exact h.sF (by decide) | exact h.sF (Nat.le_trans (pFind_lt _ _ _) (by decide))
theorem okB_oRow {A : pA} (h : okB A) (a l n : Int32) : okB (oRow A a l n).2 := by
  unfold oRow
  split
  · split
    · rename_i c2
      split
      · rename_i c3
        split
        · rename_i c4
          obtain ⟨k, rfl, _, hb, hz⟩ := pIn_ex c2
          obtain ⟨j, hj, rfl⟩ := nI_of (x := n) (by rw [z_neg]; rw [z_le2] at c4; exact Int.not_lt.mpr c4)
          have c5 := (nI_leI hj (by decide)).mp c3
          rw [zN_nI hz, zN_nI hj]
          exact ⟨h.1.sW (by omega) c5, h.2.1, h.2.2⟩
        · exact h.sF (by decide)
      · exact h
    · exact h
  · exact h
theorem okB_oSet {A : pA} (h : okB A) (a i v : Int32) : okB (oSet A a i v).2 := by
  unfold oSet
  split
  · split
    · rename_i c2
      obtain ⟨l, n, f, k, ew, _, _, _⟩ := pFind_put c2
      rw [ew]
      have hw := h.1.w _ l n f ew
      exact ⟨h.1.sW hw.1 hw.2, h.2.1, h.2.2⟩
    · exact h.sF (Nat.le_trans (pFind_lt _ _ _) (by decide))
  · exact h
theorem okB_oCopy {A : pA} (h : okB A) (a i b j n : Int32) : okB (oCopy A a i b j n).2 := by
  unfold oCopy
  split
  · split
    · cases e1 : A.w (zN a) with
      | none => exact h.sF (by decide)
      | some p =>
        obtain ⟨l1, n1, f1⟩ := p
        cases e2 : A.w (zN b) with
        | none => exact h.sF (by decide)
        | some q =>
          obtain ⟨l2, n2, f2⟩ := q
          have hw := h.1.w _ l2 n2 f2 e2
          show okB (if l1 = l2 then if pSpanB n1 i n = true then if pSpanB n2 j n = true then (n, A.sW (wUp A.w (zN b) (some (l2, n2, pCp f1 f2 (zN i) (zN j) (zN n))))) else A.fd 2 else A.fd 2 else A.fd 5).2
          split
          · split
            · split
              · exact ⟨h.1.sW hw.1 hw.2, h.2.1, h.2.2⟩
              · exact h.sF (by decide)
            · exact h.sF (by decide)
          · exact h.sF (by decide)
    · exact h
  · exact h
theorem okB_oDrop {A : pA} (h : okB A) (a : Int32) : okB (oDrop A a).2 := by
  unfold oDrop
  split
  · cases e1 : A.w (zN a) with
    | none => exact h.sF (by decide)
    | some p =>
      obtain ⟨l1, n1, f1⟩ := p
      exact ⟨h.1.sW0, h.2.1, h.2.2⟩
  · exact h
theorem okB_oFeed {A : pA} (h : okB A) (v : Int32) : okB (oFeed A v).2 := by
  unfold oFeed
  split
  · rename_i c1
    obtain ⟨k, rfl, _, hb, hz⟩ := pIn_ex c1
    rw [zN_nI hz]
    split
    · rename_i c2
      refine ⟨⟨⟨show A.tl + 1 ≤ 100 by omega, fun j hj => ?_⟩, h.1.k, h.1.k6, h.1.ac, h.1.acl, h.1.im, h.1.tr, h.1.fi, h.1.w⟩, h.2.1, h.2.2⟩
      show pUp A.tb A.tl k j < 256
      replace hj : j < A.tl + 1 := hj
      by_cases e : j = A.tl
      · rw [e, pUp_s]; exact hb
      · rw [pUp_n e]; exact h.1.tp.2 j (by omega)
    · exact h
  · exact h
theorem okB_oUndo {A : pA} (h : okB A) : okB (oUndo A).2 := by
  unfold oUndo
  cases e : A.ac with
  | nil => exact h
  | cons K ac =>
    have hK := h.1.ac K (by rw [e]; exact List.mem_cons_self)
    have hl := h.1.acl
    rw [e] at hl
    exact ⟨⟨h.1.tp, hK.1, hK.2.1, fun L hL => h.1.ac L (by rw [e]; exact List.mem_cons_of_mem _ hL), by have : ac.length + 1 ≤ 24 := hl; show ac.length ≤ 24; omega, h.1.im, h.1.tr, h.1.fi, h.1.w⟩, fun _ => by show ¬ K 5 = 0; omega, fun k hk q => by show ¬ K 5 = 0; omega⟩
theorem okB_hrs : ∀ (n : Nat) (A : pA), okB A → ¬ A.K 5 = 0 → A.K 6 + n ≤ 999 → okB (pHrs n A)
  | 0, A, h, _, _ => h
  | n + 1, A, h, h5, h6 => by
    have e6 : pHour A.K 6 = A.K 6 + 1 := pHour_6
    have e5 : pHour A.K 5 = A.K 5 := pHour_lo (by decide) (by decide)
    exact okB_hrs n _ (okB_act h h5 (pHour_ok h.1.k (by omega)) (by omega) e5) (by show ¬ pHour A.K 5 = 0; rw [e5]; exact h5) (by show pHour A.K 6 + n ≤ 999; omega)
theorem okB_oHours {A : pA} (h : okB A) (n : Int32) : okB (oHours A n).2 := by
  unfold oHours
  split
  · exact h
  · rename_i c1
    split
    · split
      · rename_i c3; exact okB_hrs _ A h c1 c3
      · exact h
    · exact h
theorem okB_oImage {A : pA} (h : okB A) (k : Int32) : okB (oImage A k).2 := by
  unfold oImage
  split
  · split
    · exact h
    · rename_i c2
      refine ⟨⟨h.1.tp, h.1.k, h.1.k6, h.1.ac, h.1.acl, fun j => ?_, h.1.tr, h.1.fi, h.1.w⟩, h.2.1, fun j hj q => c2⟩
      show pOK (iUp A.im (zN k) A.K j) ∧ iUp A.im (zN k) A.K j 6 ≤ 999
      by_cases e : j = zN k
      · rw [e, iUp_s]; exact ⟨h.1.k, h.1.k6⟩
      · rw [iUp_n e]; exact h.1.im j
  · exact h
theorem okB_oRestore {A : pA} (h : okB A) (k : Int32) : okB (oRestore A k).2 := by
  unfold oRestore
  split
  · split
    · exact h
    · rename_i c2
      exact ⟨⟨h.1.tp, (h.1.im _).1, (h.1.im _).2, fun L hL => absurd hL (by simp [pA.sK, pA.ac]), Nat.zero_le 24, h.1.im, h.1.tr, h.1.fi, h.1.w⟩, fun _ => c2, fun _ _ _ => c2⟩
  · exact h
