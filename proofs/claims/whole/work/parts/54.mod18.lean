/-! ===== ash: how many codes fit, the least of them ===== -/
def pMany (P : Nat → Bool) (M : Nat) : Nat → Nat
  | 0 => 0
  | m + 1 => pMany P M m + (if P (M - (m + 1)) = true then 1 else 0)
def pFst (P : Nat → Bool) (M : Nat) : Nat → Int32
  | 0 => zNONE
  | m + 1 => if P (M - (m + 1)) = true then nI (M - (m + 1)) else pFst P M m
def pCtN (P : Nat → Bool) : Nat → Nat
  | 0 => 0
  | M + 1 => pCtN P M + (if P M = true then 1 else 0)
theorem pMany_ct (P : Nat → Bool) (M : Nat) : ∀ m, m ≤ M → pMany P M m + pCtN P (M - m) = pCtN P M
  | 0, _ => by show 0 + pCtN P M = _; omega
  | m + 1, h => by
    have ih := pMany_ct P M m (by omega)
    rw [show M - m = M - (m + 1) + 1 by omega] at ih
    show pMany P M m + _ + _ = _
    have e : pCtN P (M - (m + 1) + 1) = pCtN P (M - (m + 1)) + (if P (M - (m + 1)) = true then 1 else 0) := rfl
    omega
theorem pFst_eq {P : Nat → Bool} {M x : Nat} (hP : P x = true) (hm : ∀ y, y < x → P y = false) (hx : x < M) : ∀ m, m ≤ M → M - m ≤ x → pFst P M m = nI x
  | 0, _, h => absurd h (by omega)
  | m + 1, h1, h2 => by
    unfold pFst
    by_cases e : M - (m + 1) = x
    · rw [e, if_pos hP]
    · rw [if_neg (by rw [hm _ (by omega)]; decide)]
      exact pFst_eq hP hm hx m (by omega) (by omega)
theorem pCtN_4 {P : Nat → Bool} {F : Nat → Bool} {R : Nat → Bool} (e : ∀ x, R x = (P (x / 4) && F (x % 4))) (c : Nat) (hc : c = (if F 0 = true then 1 else 0) + (if F 1 = true then 1 else 0) + (if F 2 = true then 1 else 0) + (if F 3 = true then 1 else 0)) : ∀ M, pCtN R (4 * M) = pCtN P M * c
  | 0 => by show 0 = 0 * c; omega
  | M + 1 => by
    have ih := pCtN_4 e c hc M
    have g : ∀ d, d < 4 → R (4 * M + d) = (P M && F d) := fun d hd => by
      rw [e, show (4 * M + d) / 4 = M by omega, show (4 * M + d) % 4 = d by omega]
    have g0 := g 0 (by decide)
    have g1 := g 1 (by decide)
    have g2 := g 2 (by decide)
    have g3 := g 3 (by decide)
    have u : pCtN R (4 * (M + 1)) = pCtN R (4 * M) + (if R (4 * M) = true then 1 else 0) + (if R (4 * M + 1) = true then 1 else 0) + (if R (4 * M + 2) = true then 1 else 0) + (if R (4 * M + 3) = true then 1 else 0) := rfl
    rw [u, ih, show pCtN P (M + 1) = pCtN P M + (if P M = true then 1 else 0) from rfl]
    rw [show R (4 * M) = (P M && F 0) from g0, show R (4 * M + 1) = (P M && F 1) from g1, show R (4 * M + 2) = (P M && F 2) from g2, show R (4 * M + 3) = (P M && F 3) from g3]
    cases hP : P M with
    | false => simp
    | true =>
      simp only [Bool.true_and, if_true]
      rw [Nat.add_mul, Nat.one_mul, hc]
      omega
theorem pFc_4 (k s h : Nat) (x : Int32) : pFc k s h x 4 = (if pFit k s h x 0 = true then 1 else 0) + (if pFit k s h x 1 = true then 1 else 0) + (if pFit k s h x 2 = true then 1 else 0) + (if pFit k s h x 3 = true then 1 else 0) := by
  unfold pFc pFc pFc pFc pFc
  simp only [Nat.sub_self, show 3 - 2 = 1 from rfl, show 3 - 1 = 2 from rfl, show 3 - 0 = 3 from rfl]
  by_cases e0 : pFit k s h x 0 = true <;> by_cases e1 : pFit k s h x 1 = true <;> by_cases e2 : pFit k s h x 2 = true <;> by_cases e3 : pFit k s h x 3 = true <;> simp [e0, e1, e2, e3]
theorem pWs_ct (k s h : Nat) (f : Nat → Int32) (i : Nat) : ∀ n, pCtN (pOkc k s h f i n) (4 ^ n) = pWs k s h f i n
  | 0 => rfl
  | n + 1 => by
    rw [Nat.pow_succ, Nat.mul_comm, pCtN_4 (R := pOkc k s h f i (n + 1)) (P := pOkc k s h f i n) (F := pFit k s (pHs k s h f i n) (f (i + n))) (fun x => rfl) _ (pFc_4 k s (pHs k s h f i n) (f (i + n))), pWs_ct k s h f i n]
    rfl
/-- the least code that fits -/
def pLc (k s h : Nat) (f : Nat → Int32) (i : Nat) : Nat → Nat
  | 0 => 0
  | j + 1 => pLc k s h f i j * 4 + pFq k s (pHs k s h f i j) (f (i + j)) 4
theorem pFq_min (k s h : Nat) (x : Int32) : ∀ c, c ≤ 3 → c < pFq k s h x 4 → pFit k s h x c = false := by
  intro c hc hq
  unfold pFq pFq pFq pFq pFq at hq
  simp only [Nat.sub_self, show 3 - 2 = 1 from rfl, show 3 - 1 = 2 from rfl, show 3 - 0 = 3 from rfl] at hq
  by_cases e0 : pFit k s h x 0 = true
  · rw [if_pos e0] at hq; omega
  · rw [if_neg e0] at hq
    by_cases e1 : pFit k s h x 1 = true
    · rw [if_pos e1] at hq
      have : c = 0 := by omega
      subst this; simpa using e0
    · rw [if_neg e1] at hq
      by_cases e2 : pFit k s h x 2 = true
      · rw [if_pos e2] at hq
        have : c = 0 ∨ c = 1 := by omega
        rcases this with q | q <;> subst q
        · simpa using e0
        · simpa using e1
      · rw [if_neg e2] at hq
        have : c = 0 ∨ c = 1 ∨ c = 2 ∨ c = 3 := by omega
        rcases this with q | q | q | q <;> subst q
        · simpa using e0
        · simpa using e1
        · simpa using e2
        · by_cases e3 : pFit k s h x 3 = true
          · rw [if_pos e3] at hq; omega
          · simpa using e3
theorem pLc_ok (k s h : Nat) (f : Nat → Int32) (i : Nat) : ∀ n, 0 < pWs k s h f i n → pOkc k s h f i n (pLc k s h f i n) = true ∧ pLc k s h f i n < 4 ^ n ∧ ∀ y, y < pLc k s h f i n → pOkc k s h f i n y = false
  | 0, _ => ⟨rfl, Nat.lt_succ_self 0, fun y hy => absurd hy (Nat.not_lt_zero y)⟩
  | n + 1, h0 => by
    have hw : 0 < pWs k s h f i n := Nat.pos_of_mul_pos_right (show 0 < pWs k s h f i n * pFc k s (pHs k s h f i n) (f (i + n)) 4 from h0)
    have hc : 0 < pFc k s (pHs k s h f i n) (f (i + n)) 4 := Nat.pos_of_mul_pos_left (show 0 < pWs k s h f i n * pFc k s (pHs k s h f i n) (f (i + n)) 4 from h0)
    obtain ⟨a1, a2, a3⟩ := pLc_ok k s h f i n hw
    obtain ⟨b1, b2⟩ := pFq_fit k s (pHs k s h f i n) (f (i + n)) 4 hc
    have hq := b2
    refine ⟨?_, ?_, fun y hy => ?_⟩
    · show (pOkc k s h f i n ((pLc k s h f i n * 4 + pFq k s (pHs k s h f i n) (f (i + n)) 4) / 4) && pFit k s (pHs k s h f i n) (f (i + n)) ((pLc k s h f i n * 4 + pFq k s (pHs k s h f i n) (f (i + n)) 4) % 4)) = true
      rw [show (pLc k s h f i n * 4 + pFq k s (pHs k s h f i n) (f (i + n)) 4) / 4 = pLc k s h f i n by omega, show (pLc k s h f i n * 4 + pFq k s (pHs k s h f i n) (f (i + n)) 4) % 4 = pFq k s (pHs k s h f i n) (f (i + n)) 4 by omega, a1, b1]
      rfl
    · show pLc k s h f i n * 4 + _ < _
      rw [Nat.pow_succ]
      omega
    · replace hy : y < pLc k s h f i n * 4 + pFq k s (pHs k s h f i n) (f (i + n)) 4 := hy
      show (pOkc k s h f i n (y / 4) && pFit k s (pHs k s h f i n) (f (i + n)) (y % 4)) = false
      by_cases e : y / 4 < pLc k s h f i n
      · rw [a3 _ e]; rfl
      · rw [pFq_min k s (pHs k s h f i n) (f (i + n)) (y % 4) (by omega) (by omega), Bool.and_false]
theorem pLc_dg (k s h : Nat) (f : Nat → Int32) (i : Nat) : ∀ n, 0 < pWs k s h f i n → ∀ j, j < n → pLc k s h f i n / 4 ^ (n - 1 - j) % 4 = pFq k s (pHs k s h f i j) (f (i + j)) 4
  | 0, _, j, hj => absurd hj (by omega)
  | n + 1, h0, j, hj => by
    have hw : 0 < pWs k s h f i n := Nat.pos_of_mul_pos_right (show 0 < pWs k s h f i n * pFc k s (pHs k s h f i n) (f (i + n)) 4 from h0)
    have hc : 0 < pFc k s (pHs k s h f i n) (f (i + n)) 4 := Nat.pos_of_mul_pos_left (show 0 < pWs k s h f i n * pFc k s (pHs k s h f i n) (f (i + n)) 4 from h0)
    have b2 := (pFq_fit k s (pHs k s h f i n) (f (i + n)) 4 hc).2
    show (pLc k s h f i n * 4 + pFq k s (pHs k s h f i n) (f (i + n)) 4) / 4 ^ (n + 1 - 1 - j) % 4 = _
    by_cases e : j = n
    · rw [e, show n + 1 - 1 - n = 0 by omega, Nat.pow_zero, Nat.div_one]; omega
    · rw [show n + 1 - 1 - j = (n - 1 - j) + 1 by omega, Nat.pow_succ, Nat.mul_comm (4 ^ (n - 1 - j)) 4, ← Nat.div_div_eq_div_mul, show (pLc k s h f i n * 4 + pFq k s (pHs k s h f i n) (f (i + n)) 4) / 4 = pLc k s h f i n by omega]
      exact pLc_dg k s h f i n hw j (by omega)
