/-! ===== numbers ===== -/
theorem z_le {n : Nat} (h : n < 2 ^ 31) : nI n ≤ 0 ↔ n = 0 := by rw [← nI_0, nI_leI h (by decide)]; omega
theorem z_lt {n : Nat} (h : n < 2 ^ 31) : nI n < 0 ↔ False := by rw [← nI_0, nI_ltI h (by decide)]; simp
theorem z_ge {n : Nat} (h : n < 2 ^ 31) : 0 ≤ nI n ↔ True := by rw [← nI_0, nI_leI (by decide) h]; simp
theorem z_gt {n : Nat} (h : n < 2 ^ 31) : 0 < nI n ↔ 0 < n := by rw [← nI_0, nI_ltI (by decide) h]
theorem z_eq {n : Nat} (h : n < 2 ^ 31) : nI n = 0 ↔ n = 0 := by rw [← nI_0, nI_eq h (by decide)]
/-! ===== what a sky is, by its numbers: 0 .. 3 winds, 4 sinks, 5 offices, 6 hour, 7 .. kinds, 12 .. lands, 17 .. heights, 22 .. files, 27 .. burnt ===== -/
abbrev pK : Type := Nat → Nat
def pBand (h : Nat) : Nat := if h < 6 then 0 else if h < 11 then 1 else if h < 16 then 2 else 3
def pLift (kind h : Nat) : Nat := if kind = 1 then 2 else if kind = 3 then 3 else if kind = 5 then (if 5 < h then 0 else 1) else 1
def pLifted (kind : Nat) : Nat → Nat → Nat
  | h, 0 => h
  | h, n + 1 => pLifted kind (min 20 (h + pLift kind h)) n
/-- the wind of a height, 2 more than the lands it carries -/
def pW (K : pK) (h : Nat) : Nat := if h = 0 then 2 else K (pBand h)
def pCar (K : pK) (land h : Nat) : Nat := min 9 (land + pW K h - 2)
def pHour (K : pK) : pK := fun j => if 17 ≤ j ∧ j < 17 + K 5 then K j - K 4 else if 12 ≤ j ∧ j < 12 + K 5 then pCar K (K j) (K (j + 5) - K 4) else if j = 6 then K 6 + 1 else K j
def pOK (K : pK) : Prop := K 5 ≤ 5 ∧ K 4 ≤ 3 ∧ (∀ b, b < 4 → K b ≤ 4) ∧ K 6 ≤ 1000000 ∧ ∀ o, o < K 5 → (1 ≤ K (7 + o) ∧ K (7 + o) ≤ 5) ∧ K (12 + o) ≤ 9 ∧ K (17 + o) ≤ 20 ∧ K (22 + o) ≤ 99
theorem pBand_lt (h : Nat) : pBand h < 4 := by unfold pBand; (repeat' split) <;> omega
theorem pn_sunk : ∀ h, h < 21 → ∀ s, s < 4 → (if nI 0 < nI h - nI s then nI h - nI s else nI 0) = nI (h - s) := by decide +kernel
theorem pn_moved : ∀ l, l < 10 → ∀ w, w < 5 → (if nI 0 < (if nI l + (nI w - nI 2) < nI 9 then nI l + (nI w - nI 2) else nI 9) then (if nI l + (nI w - nI 2) < nI 9 then nI l + (nI w - nI 2) else nI 9) else nI 0) = nI (min 9 (l + w - 2)) := by decide +kernel
theorem pn_still : nI 0 = nI 2 - nI 2 := by decide +kernel
theorem pn_lift : ∀ h, h < 21 → ∀ d, d < 4 → (if nI h + nI d < nI 20 then nI h + nI d else nI 20) = nI (min 20 (h + d)) := by decide +kernel
theorem pLift_lt (kind h : Nat) : pLift kind h < 4 := by unfold pLift; (repeat' split) <;> omega
/-- a sky of the class at a -/
def am_sky (sh : List am_S) (a : Nat) : Prop := sh[a]? = some (4, 9, [none, none, none, some (.ref (a + 1)), some (.ref (a + 2)), some (.ref (a + 3)), some (.ref (a + 4)), some (.ref (a + 5)), some (.ref (a + 6))]) ∧ sh[a + 1]? = some (100, 4, []) ∧ sh[a + 2]? = some (100, 5, []) ∧ sh[a + 3]? = some (100, 5, []) ∧ sh[a + 4]? = some (100, 5, []) ∧ sh[a + 5]? = some (100, 5, []) ∧ sh[a + 6]? = some (100, 5, [])
/-- its ints are those of K -/
def skyC (μ : am_M) (a : Nat) (K : pK) : Prop := μ a 0 = nI (K 5) ∧ μ a 1 = nI (K 4) ∧ μ a 2 = nI (K 6) ∧ (∀ b, b < 4 → μ (a + 1) b = nI (K b)) ∧ ∀ o, o < K 5 → μ (a + 2) o = nI (K (7 + o)) ∧ μ (a + 3) o = nI (K (12 + o)) ∧ μ (a + 4) o = nI (K (17 + o)) ∧ μ (a + 5) o = nI (K (22 + o)) ∧ μ (a + 6) o = nI (K (27 + o))
/-- nothing but the cells from a on, as many as n, has changed -/
def am_fr (μ μ' : am_M) (a n : Nat) : Prop := ∀ b, ¬ (a ≤ b ∧ b < a + n) → μ' b = μ b
