/-! ===== every call leaves a good state ===== -/
/-- acts are kept, and images are, only where there is a sky -/
def okB (A : pA) : Prop := okA A ∧ (A.ac ≠ [] → ¬ A.K 5 = 0) ∧ ∀ k, k < 2 → ¬ A.im k 5 = 0 → ¬ A.K 5 = 0
theorem okA.sF {A : pA} (h : okA A) {f : Nat} (hf : f ≤ 5) : okA (A.sF f) := ⟨h.tp, h.k, h.k6, h.ac, h.acl, h.im, h.tr, hf, h.w⟩
theorem okB.sF {A : pA} (h : okB A) {f : Nat} (hf : f ≤ 5) : okB (A.sF f) := ⟨h.1.sF hf, h.2.1, h.2.2⟩
theorem okA.sW {A : pA} (h : okA A) {r l n : Nat} {f : Nat → Int32} (hl : l ≤ 2) (hn : n ≤ 40) : okA (A.sW (wUp A.w r (some (l, n, f)))) :=
  ⟨h.tp, h.k, h.k6, h.ac, h.acl, h.im, h.tr, by decide, fun q l2 n2 f2 e => by
    replace e : wUp A.w r (some (l, n, f)) q = some (l2, n2, f2) := e
    by_cases eq : q = r
    · rw [eq, wUp_s] at e
      have e2 : (l, n, f) = (l2, n2, f2) := by simpa using e
      have e3 : l = l2 := congrArg Prod.fst e2
      have e4 : n = n2 := congrArg (fun z => z.2.1) e2
      exact ⟨e3 ▸ hl, e4 ▸ hn⟩
    · rw [wUp_n eq] at e; exact h.w q l2 n2 f2 e⟩
theorem okA.sW0 {A : pA} (h : okA A) {r : Nat} : okA (A.sW (wUp A.w r none)) :=
  ⟨h.tp, h.k, h.k6, h.ac, h.acl, h.im, h.tr, by decide, fun q l2 n2 f2 e => by
    replace e : wUp A.w r none q = some (l2, n2, f2) := e
    by_cases eq : q = r
    · rw [eq, wUp_s] at e; exact absurd e (by simp)
    · rw [wUp_n eq] at e; exact h.w q l2 n2 f2 e⟩
theorem okB_act {A : pA} {K : pK} (h : okB A) (h5 : ¬ A.K 5 = 0) (hk : pOK K) (h6 : K 6 ≤ 999) (e5 : K 5 = A.K 5) : okB (A.act K) :=
  ⟨okA_act h.1 (by omega) hk h6, fun _ => by show ¬ K 5 = 0; rw [e5]; exact h5, fun k hk2 q => by show ¬ K 5 = 0; rw [e5]; exact h5⟩
theorem okB_fault {A : pA} (h : okB A) : okB (oFault A).2 := h
theorem okB_status {A : pA} (h : okB A) : okB (oStatus A).2 := h
theorem okB_oLand {A : pA} (h : okB A) (l : Int32) : okB (oLand A l).2 := by
  unfold oLand
  repeat' split
  all_goals exact h
theorem okB_oOffice {A : pA} (h : okB A) (o w : Int32) : okB (oOffice A o w).2 := by
  unfold oOffice
  repeat' split
  all_goals exact h
theorem okB_oAhead {A : pA} (h : okB A) (o n w : Int32) : okB (oAhead A o n w).2 := by
  unfold oAhead
  repeat' split
  all_goals exact h
theorem okB_oDown {A : pA} (h : okB A) (o : Int32) : okB (oDown A o).2 := by
  unfold oDown
  repeat' split
  all_goals exact h
theorem okB_oMeet {A : pA} (h : okB A) (o p : Int32) : okB (oMeet A o p).2 := by
  unfold oMeet
  repeat' split
  all_goals exact h
theorem okB_oOver {A : pA} (h : okB A) (l n : Int32) : okB (oOver A l n).2 := by
  unfold oOver
  repeat' split
  all_goals exact h
theorem okB_oAbove {A : pA} (h : okB A) (o l n h2 k : Int32) : okB (oAbove A o l n h2 k).2 := by
  unfold oAbove
  repeat' split
  all_goals exact h
theorem okB_oRule {A : pA} (h : okB A) (n w : Int32) : okB (oRule A n w).2 := by
  unfold oRule
  repeat' split
  all_goals exact h
theorem okB_oLasts {A : pA} (h : okB A) (o : Int32) : okB (oLasts A o).2 := by
  unfold oLasts
  repeat' split
  all_goals exact h
theorem okB_oKept {A : pA} (h : okB A) (o n : Int32) : okB (oKept A o n).2 := by
  unfold oKept
  repeat' split
  all_goals exact h
theorem okB_oDrawn {A : pA} (h : okB A) (n s w : Int32) : okB (oDrawn A n s w).2 := by
  unfold oDrawn
  repeat' split
  all_goals exact h
theorem okB_oKind {A : pA} (h : okB A) (o : Int32) : okB (oKind A o).2 := by
  unfold oKind
  repeat' split
  all_goals exact h
theorem okB_oTrace {A : pA} (h : okB A) (i : Int32) : okB (oTrace A i).2 := by
  unfold oTrace
  repeat' split
  all_goals exact h
theorem okB_oCount {A : pA} (h : okB A) (w : Int32) : okB (oCount A w).2 := by
  unfold oCount
  repeat' split
  all_goals exact h
theorem okB_oPet {A : pA} (h : okB A) (l r i n : Int32) : okB (oPet A l r i n).2 := by
  unfold oPet
  repeat' split
  all_goals first | exact h | exact h.sF (by decide) | exact h.sF (Nat.le_trans (pFind_lt _ _ _) (by decide))
theorem okB_oAsh {A : pA} (h : okB A) (o r i n k : Int32) : okB (oAsh A o r i n k).2 := by
  unfold oAsh
  repeat' split
  all_goals first | exact h | exact h.sF (by decide) | exact h.sF (Nat.le_trans (pFind_lt _ _ _) (by decide))
theorem okB_oWho {A : pA} (h : okB A) (o r i n s : Int32) : okB (oWho A o r i n s).2 := by
  unfold oWho
  repeat' split
  all_goals first | exact h | exact h.sF (by decide) | exact h.sF (Nat.le_trans (pFind_lt _ _ _) (by decide))
theorem okB_oAs {A : pA} (h : okB A) (o k : Int32) : okB (oAs A o k).2 := by
  unfold oAs
  repeat' split
  all_goals first | exact h | exact h.sF (by decide) | exact h.sF (Nat.le_trans (pFind_lt _ _ _) (by decide))
