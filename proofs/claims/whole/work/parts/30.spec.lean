/-! ===== the pure state, and what each call answers and leaves ===== -/
abbrev zBAD : Int32 := -1000001
abbrev zNONE : Int32 := -1000000
abbrev zSTATE : Int32 := -1000002
abbrev zFULL : Int32 := -1000003
def zN (v : Int32) : Nat := v.toInt.toNat
theorem zN_nI {k : Nat} (h : k < 2 ^ 31) : zN (nI k) = k := by unfold zN; rw [nI_toInt h]; simp
abbrev pIn (v : Int32) (lo n : Nat) : Prop := (lo : Int) ≤ v.toInt ∧ v.toInt < (n : Int)
theorem pIn_nI {k lo n : Nat} (h : k < 2 ^ 31) : pIn (nI k) lo n ↔ lo ≤ k ∧ k < n := by
  unfold pIn; rw [nI_toInt h]; omega
theorem pIn_ex {v : Int32} {lo n : Nat} (h : pIn v lo n) : ∃ k, v = nI k ∧ lo ≤ k ∧ k < n ∧ k < 2 ^ 31 := by
  obtain ⟨j, hj, rfl⟩ := nI_of (x := v) (by rw [z_neg]; have := h.1; omega)
  have := (pIn_nI hj).mp h
  exact ⟨j, rfl, this.1, this.2, hj⟩
abbrev pA : Type := (Nat → Option pRow) × (Nat) × (Nat → Nat) × (Nat) × (Nat) × (pK) × (List pK) × (Nat → pK) × (List Nat)
def pA.w (A : pA) : Nat → Option pRow := A.1
def pA.fi (A : pA) : Nat := A.2.1
def pA.tb (A : pA) : Nat → Nat := A.2.2.1
def pA.tl (A : pA) : Nat := A.2.2.2.1
def pA.fa (A : pA) : Nat := A.2.2.2.2.1
def pA.K (A : pA) : pK := A.2.2.2.2.2.1
def pA.ac (A : pA) : List pK := A.2.2.2.2.2.2.1
def pA.im (A : pA) : Nat → pK := A.2.2.2.2.2.2.2.1
def pA.tr (A : pA) : List Nat := A.2.2.2.2.2.2.2.2
def pA.sW (A : pA) (w : Nat → Option pRow) : pA := (w, 0, A.tb, A.tl, A.fa, A.K, A.ac, A.im, A.tr)
def pA.sF (A : pA) (f : Nat) : pA := (A.w, f, A.tb, A.tl, A.fa, A.K, A.ac, A.im, A.tr)
def pA.sT (A : pA) (tb : Nat → Nat) (tl : Nat) : pA := (A.w, A.fi, tb, tl, A.fa, A.K, A.ac, A.im, A.tr)
def pA.sA (A : pA) (fa : Nat) : pA := (A.w, A.fi, A.tb, 0, fa, A.K, A.ac, A.im, A.tr)
def pA.sS (A : pA) (K : pK) : pA := (A.w, A.fi, A.tb, 0, A.fa, K, [], A.im, A.tr)
def pA.sK (A : pA) (K : pK) (ac : List pK) : pA := (A.w, A.fi, A.tb, A.tl, A.fa, K, ac, A.im, A.tr)
def pA.sI (A : pA) (im : Nat → pK) : pA := (A.w, A.fi, A.tb, A.tl, A.fa, A.K, A.ac, im, A.tr)
def pA.sR (A : pA) (tr : List Nat) : pA := (A.w, A.fi, A.tb, A.tl, A.fa, A.K, A.ac, A.im, tr)
def wUp (w : Nat → Option pRow) (r : Nat) (x : Option pRow) : Nat → Option pRow := fun q => if q = r then x else w q
def iUp (im : Nat → pK) (r : Nat) (x : pK) : Nat → pK := fun q => if q = r then x else im q
theorem wUp_s {w : Nat → Option pRow} {r : Nat} {x : Option pRow} : wUp w r x r = x := if_pos rfl
theorem wUp_n {w : Nat → Option pRow} {r q : Nat} {x : Option pRow} (h : q ≠ r) : wUp w r x q = w q := if_neg h
theorem iUp_s {w : Nat → pK} {r : Nat} {x : pK} : iUp w r x r = x := if_pos rfl
theorem iUp_n {w : Nat → pK} {r q : Nat} {x : pK} (h : q ≠ r) : iUp w r x q = w q := if_neg h
def pA.fd (A : pA) (f : Nat) : Int32 × pA := (-1000010 - nI f, A.sF f)
def pA.ok (A : pA) (x : Int32) : Int32 × pA := (x, A.sF 0)
def pA.bad (A : pA) : Int32 × pA := (zBAD, A)
def pPut (w : Option pRow) (i : Nat) (v : Int32) : Option pRow × Int32 := match w with
  | none => (none, 0)
  | some (l, n, f) => (some (l, n, upd f i (pCut l v)), pCut l v)
def oRow (A : pA) (a l n : Int32) : Int32 × pA := if pIn a 0 8 then if pIn l 0 3 then if n ≤ nI 40 then if 0 ≤ n then (n, A.sW (wUp A.w (zN a) (some (zN l, zN n, fun _ => nI 0)))) else A.fd 4 else A.bad else A.bad else A.bad
def oSet (A : pA) (a i v : Int32) : Int32 × pA := if pIn a 0 8 then if pFind (A.w (zN a)) i (nI 1) = 0 then ((pPut (A.w (zN a)) (zN i) v).2, A.sW (wUp A.w (zN a) (pPut (A.w (zN a)) (zN i) v).1)) else A.fd (pFind (A.w (zN a)) i (nI 1)) else A.bad
def pCp (f g : Nat → Int32) (i j n : Nat) : Nat → Int32 := fun p => if j ≤ p ∧ p < j + n then f (i + (p - j)) else g p
def oCpR (A : pA) (b : Nat) (i j n : Int32) : Option pRow → Option pRow → Int32 × pA
  | some (l1, n1, f1), some (l2, n2, f2) => if l1 = l2 then if pSpanB n1 i n = true then if pSpanB n2 j n = true then (n, A.sW (wUp A.w b (some (l2, n2, pCp f1 f2 (zN i) (zN j) (zN n))))) else A.fd 2 else A.fd 2 else A.fd 5
  | _, _ => A.fd 1
def oCopy (A : pA) (a i b j n : Int32) : Int32 × pA := if pIn a 0 8 then if pIn b 0 8 then oCpR A (zN b) i j n (A.w (zN a)) (A.w (zN b)) else A.bad else A.bad
def oDrR (A : pA) (a : Nat) : Option pRow → Int32 × pA
  | none => A.fd 1
  | some (_, n, _) => (nI n, A.sW (wUp A.w a none))
def oDrop (A : pA) (a : Int32) : Int32 × pA := if pIn a 0 8 then oDrR A (zN a) (A.w (zN a)) else A.bad
def oFeed (A : pA) (v : Int32) : Int32 × pA := if pIn v 0 256 then if A.tl < 100 then (nI (A.tl + 1), A.sT (pUp A.tb A.tl (zN v)) (A.tl + 1)) else (zFULL, A) else A.bad
def oSky (A : pA) : Int32 × pA := if (pRead A.tb A.tl).1.1 = 0 then (nI ((pRead A.tb A.tl).2 5), A.sS (pRead A.tb A.tl).2) else (-1000100 - nI (pRead A.tb A.tl).1.2, A.sA (pRead A.tb A.tl).1.1)
def oFault (A : pA) : Int32 × pA := (nI A.fa, A)
def oUnR (A : pA) : List pK → Int32 × pA
  | [] => (zSTATE, A)
  | K :: ac => (nI ac.length, A.sK K ac)
def oUndo (A : pA) : Int32 × pA := oUnR A A.ac
/-- an act keeps the sky that was -/
def pA.act (A : pA) (K : pK) : pA := A.sK K ((A.K :: A.ac).take 24)
def pHrs : Nat → pA → pA
  | 0, A => A
  | n + 1, A => pHrs n (A.act (pHour A.K))
def pFly (K : pK) : Nat := pSet (fun o => decide (0 < K (17 + o))) (K 5)
def pIn2 (K : pK) (l : Nat) : Nat := pSet (fun o => decide (K (12 + o) = l)) (K 5)
def oHours (A : pA) (n : Int32) : Int32 × pA := if A.K 5 = 0 then (zSTATE, A) else if pIn n 1 25 then if A.K 6 + zN n ≤ 999 then (nI (pCnt (pFly (pHrs (zN n) A).K)), pHrs (zN n) A) else (zFULL, A) else A.bad
def oBurn (A : pA) (o n : Int32) : Int32 × pA := if pIn o 0 (A.K 5) then if pIn n 1 21 then if zN n ≤ A.K (22 + zN o) then (nI (pBurn A.K (zN o) (zN n) (17 + zN o)), A.act (pBurn A.K (zN o) (zN n))) else (zSTATE, A) else A.bad else A.bad
def pSend (K : pK) (a b n : Nat) : pK := pUp (pUp K (22 + a) (K (22 + a) - n)) (22 + b) (K (22 + b) + n)
def oSend (A : pA) (a b n : Int32) : Int32 × pA := if pIn a 0 (A.K 5) then if pIn b 0 (A.K 5) then if a = b then A.bad else if pIn n 1 61 then if A.K (12 + zN a) = A.K (12 + zN b) then if zN n ≤ A.K (22 + zN a) then if A.K (22 + zN b) + zN n ≤ 99 then (nI (A.K (22 + zN b) + zN n), A.act (pSend A.K (zN a) (zN b) (zN n))) else (zFULL, A) else (zSTATE, A) else (zSTATE, A) else A.bad else A.bad else A.bad
def oWind (A : pA) (b n : Int32) : Int32 × pA := if A.K 5 = 0 then (zSTATE, A) else if pIn b 0 4 then if pIn n 0 5 then (nI (A.K (zN b)), A.act (pUp A.K (zN b) (zN n))) else A.bad else A.bad
def pOfW (K : pK) (o w : Nat) : Nat := if w < 4 then K (12 + 5 * w + o) else if w = 4 then pBand (K (17 + o)) else pLift (K (7 + o)) (K (17 + o))
def oOffice (A : pA) (o w : Int32) : Int32 × pA := if pIn o 0 (A.K 5) then if pIn w 0 6 then (nI (pOfW A.K (zN o) (zN w)), A) else A.bad else A.bad
def oLand (A : pA) (l : Int32) : Int32 × pA := if A.K 5 = 0 then (zSTATE, A) else if pIn l 0 10 then (nI (pIn2 A.K (zN l)), A) else A.bad
def oAhead (A : pA) (o n w : Int32) : Int32 × pA := if pIn o 0 (A.K 5) then if pIn n 0 61 then if pIn w 0 2 then if w = 0 then (nI (pL1 A.K (zN n) (A.K (12 + zN o)) (A.K (17 + zN o))).1, A) else (nI (pL1 A.K (zN n) (A.K (12 + zN o)) (A.K (17 + zN o))).2, A) else A.bad else A.bad else A.bad
def oDown (A : pA) (o : Int32) : Int32 × pA := if pIn o 0 (A.K 5) then (pDn (A.K 4) 61 0 (A.K (17 + zN o)), A) else A.bad
def oMeet (A : pA) (o p : Int32) : Int32 × pA := if pIn o 0 (A.K 5) then if pIn p 0 (A.K 5) then if o = p then A.bad else (pMt (zN o) (zN p) 61 0 A.K, A) else A.bad else A.bad
def oOver (A : pA) (l n : Int32) : Int32 × pA := if A.K 5 = 0 then (zSTATE, A) else if pIn l 0 10 then if pIn n 0 61 then (nI (pCnt (pIn2 (pH (zN n) A.K) (zN l))), A) else A.bad else A.bad
def pAb (K : pK) (o l n h : Nat) : Nat := pMn (pFp K (K (7 + o)) (K (22 + o)) (K (12 + o), K (17 + o)) n) l h (21 - h)
def oAbove (A : pA) (o l n h k : Int32) : Int32 × pA := if pIn o 0 (A.K 5) then if pIn l 0 10 then if pIn n 1 13 then if pIn h 0 21 then if (-1) ≤ k then if pAb A.K (zN o) (zN l) (zN n) (zN h) = pINF then (zNONE, A) else if k < n then if k = (-1) then (nI (pAb A.K (zN o) (zN l) (zN n) (zN h) / 16777216), A) else (nI (pAb A.K (zN o) (zN l) (zN n) (zN h) / 2 ^ (2 * (zN n - 1 - zN k)) % 4), A) else (zNONE, A) else A.bad else A.bad else A.bad else A.bad else A.bad
def pItm (w : Option pRow) : Nat → Int32 := match w with
  | none => fun _ => 0
  | some (_, _, f) => f
def pAllO (k5 : Nat) (f : Nat → Int32) : Nat → Nat → Bool
  | 0, _ => true
  | r + 1, j => decide (pIn (f j) 0 k5) && pAllO k5 f r (j + 1)
def oPet (A : pA) (l r i n : Int32) : Int32 × pA := if A.K 5 = 0 then (zSTATE, A) else if pIn l 0 10 then if pIn r 0 8 then if pIn n 1 9 then if pFind (A.w (zN r)) i n = 0 then if pAllO (A.K 5) (pItm (A.w (zN r))) (zN n) (zN i) = true then A.ok (pPs (zN l) (fun d => zN (pItm (A.w (zN r)) (zN i + d))) (zN n) 61 0 A.K 0) else A.bad else A.fd (pFind (A.w (zN r)) i n) else A.bad else A.bad else A.bad
def pWy (A : pA) (o r i n : Nat) : Nat := pWs (A.K (7 + o)) (A.K 4) (A.K (17 + o)) (pItm (A.w r)) i n
def pWk (A : pA) (o r i j : Nat) : Nat := pFq (A.K (7 + o)) (A.K 4) (pHs (A.K (7 + o)) (A.K 4) (A.K (17 + o)) (pItm (A.w r)) i j) (pItm (A.w r) (i + j)) 4
def oAsh (A : pA) (o r i n k : Int32) : Int32 × pA := if pIn o 0 (A.K 5) then if pIn r 0 8 then if pIn n 1 7 then if (-1) ≤ k then if pFind (A.w (zN r)) i n = 0 then if k = (-1) then A.ok (nI (pWy A (zN o) (zN r) (zN i) (zN n))) else if pWy A (zN o) (zN r) (zN i) (zN n) = 0 then A.ok zNONE else if k < n then A.ok (nI (pWk A (zN o) (zN r) (zN i) (zN k))) else A.ok zNONE else A.fd (pFind (A.w (zN r)) i n) else A.bad else A.bad else A.bad else A.bad
def oWho (A : pA) (o r i n s : Int32) : Int32 × pA := if pIn o 0 (A.K 5) then if pIn r 0 8 then if pIn n 1 13 then if pIn s 0 21 then if pFind (A.w (zN r)) i n = 0 then A.ok (nI (pKs (A.K 4) (pItm (A.w (zN r))) (zN i) (zN n) (A.K (17 + zN o)) (zN s) 5)) else A.fd (pFind (A.w (zN r)) i n) else A.bad else A.bad else A.bad else A.bad
def pRlC (K : pK) (n : Nat) : Nat → Nat := pRl n K (fun _ => 0)
def oRule (A : pA) (n w : Int32) : Int32 × pA := if A.K 5 = 0 then (zSTATE, A) else if pIn n 1 61 then if pIn w 0 2 then if w = 0 then (nI (pBs (pRlC A.K (zN n)) 9), A) else (nI (pRlC A.K (zN n) (pBs (pRlC A.K (zN n)) 9)), A) else A.bad else A.bad
def oLasts (A : pA) (o : Int32) : Int32 × pA := if pIn o 0 (A.K 5) then (nI (pUpH A.K (zN o) (A.K (22 + zN o)) 99), A) else A.bad
def oKept (A : pA) (o n : Int32) : Int32 × pA := if pIn o 0 (A.K 5) then if pIn n 1 25 then (pKp A.K (zN o) (zN n) 61 0, A) else A.bad else A.bad
def oTurned (A : pA) (o l n p w : Int32) : Int64 := if pIn o 0 (A.K 5) then if pIn l 0 10 then if pIn n 1 13 then if pIn p 0 11 then if pIn w 0 2 then if w = 0 then lN (pCL A.K (zN o) (zN l) (zN n) (zN p) 16 / Nat.gcd 10000 (pCL A.K (zN o) (zN l) (zN n) (zN p) 16)) else lN (10000 / Nat.gcd 10000 (pCL A.K (zN o) (zN l) (zN n) (zN p) 16)) else -1000001 else -1000001 else -1000001 else -1000001 else -1000001
def oDrawn (A : pA) (n s w : Int32) : Int32 × pA := if A.K 5 = 0 then (zSTATE, A) else if pIn n 0 61 then if pIn s 1 1000000 then if pIn w 0 2 then if w = 0 then (nI (pDr (zN n) A.K (zN s) 0).2, A) else (nI (pSum (pDr (zN n) A.K (zN s) 0).1 12 ((pDr (zN n) A.K (zN s) 0).1 5)), A) else A.bad else A.bad else A.bad
def oImage (A : pA) (k : Int32) : Int32 × pA := if pIn k 0 2 then if A.K 5 = 0 then (zSTATE, A) else (nI 1, A.sI (iUp A.im (zN k) A.K)) else A.bad
def oRestore (A : pA) (k : Int32) : Int32 × pA := if pIn k 0 2 then if A.im (zN k) 5 = 0 then (zSTATE, A) else (nI 1, A.sK (A.im (zN k)) []) else A.bad
def oKind (A : pA) (o : Int32) : Int32 × pA := if pIn o 0 (A.K 5) then (nI (A.K (7 + zN o)), A) else A.bad
def oAs (A : pA) (o k : Int32) : Int32 × pA := if pIn o 0 (A.K 5) then if pIn k 0 6 then if pIs (A.K (7 + zN o)) (zN k) = true then A.ok o else A.fd 3 else A.bad else A.bad
def oAsk (A : pA) (o w : Int32) : Int32 × pA := if pIn o 0 (A.K 5) then if pIn w 0 2 then (pAsk A.K (zN o) (zN w), A.sR (pAskT (A.K (7 + zN o)) (zN w))) else A.bad else A.bad
def oTrace (A : pA) (i : Int32) : Int32 × pA := if pIn i 0 A.tr.length then (nI (A.tr.getD (zN i) 0), A) else (zNONE, A)
def pAre (w : Nat → Option pRow) : Nat → Nat
  | 0 => 0
  | r + 1 => pAre w r + (if (w r).isSome then 1 else 0)
def pCt (A : pA) (w : Nat) : Nat := if w = 0 then pAre A.w 8 else if w = 1 then A.K 5 else if w = 2 then A.K 4 else if w = 3 then A.K 6 else if w = 4 then pSum A.K 27 (A.K 5) else if w = 5 then pFly A.K else if w = 6 then A.ac.length else A.tl
def oCount (A : pA) (w : Int32) : Int32 × pA := if pIn w 0 8 then (nI (pCt A (zN w)), A) else A.bad
def oStatus (A : pA) : Int32 × pA := (nI A.fi, A)
/-- what holds of every state that is come to -/
def okA (A : pA) : Prop := (tpOK A.tb A.tl) ∧ (pOK A.K) ∧ (A.K 6 ≤ 999) ∧ (∀ K ∈ A.ac, pOK K ∧ K 6 ≤ 999 ∧ 0 < K 5) ∧ (A.ac.length ≤ 24) ∧ (∀ j, pOK (A.im j) ∧ A.im j 6 ≤ 999) ∧ (A.tr.length ≤ 16) ∧ (A.fi ≤ 5) ∧ (∀ r l n f, A.w r = some (l, n, f) → l ≤ 2 ∧ n ≤ 40)
theorem okA.tp {A : pA} (h : okA A) : tpOK A.tb A.tl := h.1
theorem okA.k {A : pA} (h : okA A) : pOK A.K := h.2.1
theorem okA.k6 {A : pA} (h : okA A) : A.K 6 ≤ 999 := h.2.2.1
theorem okA.ac {A : pA} (h : okA A) : ∀ K ∈ A.ac, pOK K ∧ K 6 ≤ 999 ∧ 0 < K 5 := h.2.2.2.1
theorem okA.acl {A : pA} (h : okA A) : A.ac.length ≤ 24 := h.2.2.2.2.1
theorem okA.im {A : pA} (h : okA A) : ∀ j, pOK (A.im j) ∧ A.im j 6 ≤ 999 := h.2.2.2.2.2.1
theorem okA.tr {A : pA} (h : okA A) : A.tr.length ≤ 16 := h.2.2.2.2.2.2.1
theorem okA.fi {A : pA} (h : okA A) : A.fi ≤ 5 := h.2.2.2.2.2.2.2.1
theorem okA.w {A : pA} (h : okA A) : ∀ r l n f, A.w r = some (l, n, f) → l ≤ 2 ∧ n ≤ 40 := h.2.2.2.2.2.2.2.2
/-- the class's cells bear a state -/
def InvC (μ : am_M) (A : pA) : Prop := (∀ r, r < 8 → rowC μ (2 + 2 * r) (A.w r)) ∧ (μ 0 8 = nI A.fa) ∧ (μ 0 9 = nI A.fi) ∧ (∃ s, tpC μ A.tb A.tl s) ∧ (skyC μ 27 A.K) ∧ (actC μ A.ac) ∧ (∀ k, k < 2 → skyC μ (205 + 7 * k) (A.im k)) ∧ (trcC μ A.tr)
theorem InvC.rows {μ : am_M} {A : pA} (h : InvC μ A) : ∀ r, r < 8 → rowC μ (2 + 2 * r) (A.w r) := h.1
theorem InvC.fa {μ : am_M} {A : pA} (h : InvC μ A) : μ 0 8 = nI A.fa := h.2.1
theorem InvC.fi {μ : am_M} {A : pA} (h : InvC μ A) : μ 0 9 = nI A.fi := h.2.2.1
theorem InvC.tp {μ : am_M} {A : pA} (h : InvC μ A) : ∃ s, tpC μ A.tb A.tl s := h.2.2.2.1
theorem InvC.sk {μ : am_M} {A : pA} (h : InvC μ A) : skyC μ 27 A.K := h.2.2.2.2.1
theorem InvC.ac {μ : am_M} {A : pA} (h : InvC μ A) : actC μ A.ac := h.2.2.2.2.2.1
theorem InvC.im {μ : am_M} {A : pA} (h : InvC μ A) : ∀ k, k < 2 → skyC μ (205 + 7 * k) (A.im k) := h.2.2.2.2.2.2.1
theorem InvC.tr {μ : am_M} {A : pA} (h : InvC μ A) : trcC μ A.tr := h.2.2.2.2.2.2.2
theorem InvC.fr {μ μ' : am_M} {A : pA} (h : InvC μ A) (e : ∀ b, b < 20 ∨ (27 ≤ b ∧ b < 220) ∨ (232 ≤ b ∧ b < 234) → μ' b = μ b) : InvC μ' A :=
  ⟨fun r hr => (h.rows r hr).fr (fun b _ _ => e b (by omega)), by rw [e 0 (by omega)]; exact h.fa, by rw [e 0 (by omega)]; exact h.fi, h.tp.imp (fun s q => q.fr (fun b _ _ => e b (by omega))), h.sk.fr (fun b _ _ => e b (by omega)), h.ac.fr (fun b _ _ => e b (by omega)), fun k hk => (h.im k hk).fr (fun b _ _ => e b (by omega)), h.tr.fr (fun b _ _ => e b (by omega))⟩
theorem InvC.fd {μ : am_M} {A : pA} (h : InvC μ A) (f : Nat) : InvC (am_up μ 0 (upd (μ 0) 9 (nI f))) (A.sF f) :=
  ⟨fun r hr => (h.rows r hr).fr (fun b _ _ => am_up_n (by omega)), by rw [am_ups, pk_un (by decide)]; exact h.fa, by rw [am_ups, pk_us]; rfl, h.tp.imp (fun s q => q.fr (fun b _ _ => am_up_n (by omega))), h.sk.up (by omega), h.ac.fr (fun b _ _ => am_up_n (by omega)), fun k hk => (h.im k hk).up (by omega), h.tr.fr (fun b _ _ => am_up_n (by omega))⟩
theorem pAns {μ μ9 : am_M} {A2 : pA} {x : Int32} {op : Int32 × pA} (e : op = (x, A2)) (i : InvC μ9 A2) (f : am_fr μ μ9 0 234) : am_P (some (.int op.1)) am_SH (fun μ9 => InvC μ9 op.2 ∧ am_fr μ μ9 0 234) (some (.int x)) am_SH μ9 := by subst e; exact ⟨rfl, rfl, i, f⟩
