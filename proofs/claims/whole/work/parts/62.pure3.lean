/-! ===== above: the least plan is that of the table, by the least figures ===== -/
theorem pEm_inf {g : Nat → Nat} : ∀ c, pE.pEm g c ≤ pINF
  | 0 => Nat.le_refl _
  | c + 1 => Nat.le_trans (Nat.min_le_left _ _) (pEm_inf c)
theorem pEm_lo {g : Nat → Nat} {v : Nat} (hv : v ≤ pINF) : ∀ c, (∀ s, s < c → v ≤ g s) → v ≤ pE.pEm g c
  | 0, _ => hv
  | c + 1, h => by
    have h1 := pEm_lo hv c (fun s hs => h s (by omega))
    have h2 := h c (by omega)
    show v ≤ min (pE.pEm g c) (g c)
    omega
theorem pEm_hi {g : Nat → Nat} {s : Nat} : ∀ c, s < c → pE.pEm g c ≤ g s
  | 0, h => absurd h (by omega)
  | c + 1, h => by
    show min (pE.pEm g c) (g c) ≤ g s
    by_cases e : s = c
    · rw [e]; omega
    · have := pEm_hi (g := g) c (show s < c by omega); omega
theorem pBc_hi {K : pK} {k : Nat} {G : Nat → Nat → Nat} {l h s : Nat} : ∀ c, s < c → pBc K k G l h c ≤ s + G (pSt K k (l, h) s).1 (pSt K k (l, h) s).2
  | 0, q => absurd q (by omega)
  | c + 1, q => by
    show min (pBc K k G l h c) (c + G (pSt K k (l, h) c).1 (pSt K k (l, h) c).2) ≤ _
    by_cases e : s = c
    · rw [e]; omega
    · have := pBc_hi (K := K) (k := k) (G := G) (l := l) (h := h) c (show s < c by omega); omega
theorem pBc_at {K : pK} {k : Nat} {G : Nat → Nat → Nat} {l h : Nat} : ∀ c, pBc K k G l h c = pFAR ∨ ∃ s, s < c ∧ s + G (pSt K k (l, h) s).1 (pSt K k (l, h) s).2 = pBc K k G l h c
  | 0 => Or.inl rfl
  | c + 1 => by
    have e : pBc K k G l h (c + 1) = min (pBc K k G l h c) (c + G (pSt K k (l, h) c).1 (pSt K k (l, h) c).2) := rfl
    by_cases q : pBc K k G l h c ≤ c + G (pSt K k (l, h) c).1 (pSt K k (l, h) c).2
    · rw [e, Nat.min_eq_left q]
      rcases pBc_at (K := K) (k := k) (G := G) (l := l) (h := h) c with h1 | ⟨s, h1, h2⟩
      · exact Or.inl h1
      · exact Or.inr ⟨s, by omega, h2⟩
    · rw [e, Nat.min_eq_right (by omega)]
      exact Or.inr ⟨c, by omega, rfl⟩
/-- the first of r from s on at which f is v -/
def pGf (f : Nat → Nat) (v : Nat) : Nat → Nat → Nat
  | 0, s => s
  | r + 1, s => if f s = v then s else pGf f v r (s + 1)
theorem pGf_sp {f : Nat → Nat} {v : Nat} : ∀ r s, (∃ t, s ≤ t ∧ t < s + r ∧ f t = v) → s ≤ pGf f v r s ∧ pGf f v r s < s + r ∧ f (pGf f v r s) = v ∧ ∀ t, s ≤ t → t < pGf f v r s → f t ≠ v
  | 0, s, h => by obtain ⟨t, h1, h2, _⟩ := h; omega
  | r + 1, s, h => by
    unfold pGf
    by_cases c : f s = v
    · rw [if_pos c]
      exact ⟨Nat.le_refl _, by omega, c, fun t h1 h2 => by omega⟩
    · rw [if_neg c]
      obtain ⟨t, h1, h2, h3⟩ := h
      have hne : t ≠ s := fun e => c (e ▸ h3)
      obtain ⟨g1, g2, g3, g4⟩ := pGf_sp r (s + 1) ⟨t, by omega, by omega, h3⟩
      refine ⟨by omega, by omega, g3, fun u h4 h5 => ?_⟩
      by_cases e : u = s
      · rw [e]; exact c
      · exact g4 u (by omega) h5
def pBs1 (K : pK) (k l0 h0 m : Nat) (q : Nat × Nat) (s : Nat) : Nat := s + pB K k l0 h0 m (pSt K k q s).1 (pSt K k q s).2
def pGs (K : pK) (k l0 h0 m : Nat) (q : Nat × Nat) : Nat := pGf (pBs1 K k l0 h0 m q) (pB K k l0 h0 (m + 1) q.1 q.2) 4 0
theorem pGs_sp {K : pK} {k l0 h0 m : Nat} {q : Nat × Nat} (h : pB K k l0 h0 (m + 1) q.1 q.2 < pFAR) : pGs K k l0 h0 m q < 4 ∧ pBs1 K k l0 h0 m q (pGs K k l0 h0 m q) = pB K k l0 h0 (m + 1) q.1 q.2 ∧ ∀ s, s < pGs K k l0 h0 m q → pBs1 K k l0 h0 m q s ≠ pB K k l0 h0 (m + 1) q.1 q.2 := by
  have e : ∃ t, 0 ≤ t ∧ t < 0 + 4 ∧ pBs1 K k l0 h0 m q t = pB K k l0 h0 (m + 1) q.1 q.2 := by
    rcases pBc_at (K := K) (k := k) (G := pB K k l0 h0 m) (l := q.1) (h := q.2) 4 with h1 | ⟨s, h1, h2⟩
    · exact absurd (show pB K k l0 h0 (m + 1) q.1 q.2 = pFAR from h1) (by omega)
    · exact ⟨s, by omega, by omega, h2⟩
  obtain ⟨g1, g2, g3, g4⟩ := pGf_sp 4 0 e
  exact ⟨by unfold pGs; omega, g3, fun s hs => g4 s (by omega) hs⟩
theorem pB_hi {K : pK} {k l0 h0 m s : Nat} {q : Nat × Nat} (hs : s < 4) : pB K k l0 h0 (m + 1) q.1 q.2 ≤ pBs1 K k l0 h0 m q s := pBc_hi (K := K) (k := k) (G := pB K k l0 h0 m) (l := q.1) (h := q.2) 4 hs
def pGk (K : pK) (k l0 h0 : Nat) : Nat → Nat × Nat → Nat
  | 0, _ => 0
  | m + 1, q => pGs K k l0 h0 m q * 4 ^ m + pGk K k l0 h0 m (pSt K k q (pGs K k l0 h0 m q))
theorem pGk_lt {K : pK} {k l0 h0 : Nat} : ∀ m q, pB K k l0 h0 m q.1 q.2 < pFAR → pGk K k l0 h0 m q < 4 ^ m
  | 0, q, _ => by show 0 < 1; decide
  | m + 1, q, h => by
    obtain ⟨g1, g2, g3⟩ := pGs_sp h
    have e : pB K k l0 h0 m (pSt K k q (pGs K k l0 h0 m q)).1 (pSt K k q (pGs K k l0 h0 m q)).2 < pFAR := by
      unfold pBs1 at g2; omega
    have ih := pGk_lt m _ e
    show pGs K k l0 h0 m q * 4 ^ m + pGk K k l0 h0 m (pSt K k q (pGs K k l0 h0 m q)) < 4 ^ (m + 1)
    have h2 : (pGs K k l0 h0 m q + 1) * 4 ^ m ≤ 4 * 4 ^ m := Nat.mul_le_mul_right _ (by omega)
    rw [Nat.succ_mul] at h2
    rw [Nat.pow_succ]
    omega
theorem pE_ar {P c s j : Nat} {a : Nat} (hc : c < a) (hP : a * (P * 4) ≤ 16777216) {g : Nat} (hs : s < 4) (hg : g < P) : c * (P * 4) + (s * P + g) < 16777216 := by
  have h1 : (c + 1) * (P * 4) ≤ a * (P * 4) := Nat.mul_le_mul_right _ hc
  have h2 : (s + 1) * P ≤ 4 * P := Nat.mul_le_mul_right _ hs
  rw [Nat.succ_mul] at h1 h2
  omega
set_option maxHeartbeats 1000000 in
theorem pE_eq {K : pK} {k fl l0 h0 : Nat} (hf : fl ≤ 99) : ∀ m j q p, j + m ≤ 12 → pVp fl j p → pE K k fl l0 h0 m q p = if p / 16777216 + pB K k l0 h0 m q.1 q.2 ≤ fl then (p / 16777216 + pB K k l0 h0 m q.1 q.2) * 16777216 + p % 16777216 * 4 ^ m + pGk K k l0 h0 m q else pINF
  | 0, j, q, p, hj, hv => by
    have h3 := hv.2.2
    have d := Nat.div_add_mod p 16777216
    show (if q.1 = l0 ∧ h0 ≤ q.2 then p else pINF) = if _ + (if q.1 = l0 ∧ h0 ≤ q.2 then 0 else pFAR) ≤ fl then (_ + (if q.1 = l0 ∧ h0 ≤ q.2 then 0 else pFAR)) * _ + _ * 1 + 0 else _
    by_cases c : q.1 = l0 ∧ h0 ≤ q.2
    · rw [if_pos c, if_pos c, if_pos (by omega)]; omega
    · rw [if_neg c, if_neg c, if_neg (by show ¬ _ + 1000000 ≤ fl; omega)]
  | m + 1, j, q, p, hj, hv => by
    have ih : ∀ s, s < min 3 (fl - p / 16777216) + 1 → pE K k fl l0 h0 m (pSt K k q s) (pLg p s) = if p / 16777216 + pBs1 K k l0 h0 m q s ≤ fl then (p / 16777216 + pBs1 K k l0 h0 m q s) * 16777216 + (p % 16777216 * (4 ^ m * 4) + (s * 4 ^ m + pGk K k l0 h0 m (pSt K k q s))) else pINF := by
      intro s hs
      have hv2 := pVp_lg (by omega) hv hs
      have e := pLg_ok (s := s) (show j ≤ 11 by omega) hv (by omega) (by omega)
      have h1 := pE_eq (K := K) (k := k) (l0 := l0) (h0 := h0) hf m (j + 1) (pSt K k q s) (pLg p s) (by omega) hv2
      rw [e.2.2.2.1, e.2.2.2.2, Nat.add_assoc (p / 16777216), Nat.add_mul (p % 16777216 * 4), Nat.mul_assoc (p % 16777216), Nat.mul_comm 4 (4 ^ m), Nat.add_assoc, Nat.add_assoc] at h1
      exact h1
    show pE.pEm (fun s => pE K k fl l0 h0 m (pSt K k q s) (pLg p s)) (min 3 (fl - p / 16777216) + 1) = _
    by_cases c : p / 16777216 + pB K k l0 h0 (m + 1) q.1 q.2 ≤ fl
    · rw [if_pos c]
      have hfar : pB K k l0 h0 (m + 1) q.1 q.2 < pFAR := by show _ < 1000000; omega
      obtain ⟨g1, g2, g3⟩ := pGs_sp hfar
      have e : pB K k l0 h0 m (pSt K k q (pGs K k l0 h0 m q)).1 (pSt K k q (pGs K k l0 h0 m q)).2 < pFAR := by
        unfold pBs1 at g2; omega
      have hg := pGk_lt m _ e
      have hle : pGs K k l0 h0 m q ≤ pB K k l0 h0 (m + 1) q.1 q.2 := by unfold pBs1 at g2; omega
      have hs0 : pGs K k l0 h0 m q < min 3 (fl - p / 16777216) + 1 := by omega
      have hP : 4 ^ j * (4 ^ m * 4) ≤ 16777216 := by
        rw [← Nat.pow_succ, ← Nat.pow_add]
        exact Nat.le_trans (pow4_le (show j + (m + 1) ≤ 12 by omega)) (by decide)
      have hb := pE_ar (j := j) hv.1 hP g1 hg
      have ev : (p / 16777216 + pB K k l0 h0 (m + 1) q.1 q.2) * 16777216 + p % 16777216 * 4 ^ (m + 1) + pGk K k l0 h0 (m + 1) q = (p / 16777216 + pB K k l0 h0 (m + 1) q.1 q.2) * 16777216 + (p % 16777216 * (4 ^ m * 4) + (pGs K k l0 h0 m q * 4 ^ m + pGk K k l0 h0 m (pSt K k q (pGs K k l0 h0 m q)))) := by
        rw [Nat.pow_succ, Nat.add_assoc]; rfl
      rw [ev]
      have hv3 := hv.2.1
      refine Nat.le_antisymm ?_ (pEm_lo ?_ _ ?_)
      · refine Nat.le_trans (pEm_hi _ hs0) ?_
        show pE K k fl l0 h0 m (pSt K k q (pGs K k l0 h0 m q)) (pLg p (pGs K k l0 h0 m q)) ≤ _
        rw [ih _ hs0, g2, if_pos c]
        exact Nat.le_refl _
      · show _ ≤ 2147483647
        omega
      · intro s hs
        show _ ≤ pE K k fl l0 h0 m (pSt K k q s) (pLg p s)
        rw [ih s hs]
        have hlo := pB_hi (K := K) (k := k) (l0 := l0) (h0 := h0) (m := m) (q := q) (show s < 4 by omega)
        by_cases c2 : p / 16777216 + pBs1 K k l0 h0 m q s ≤ fl
        · rw [if_pos c2]
          by_cases c3 : pBs1 K k l0 h0 m q s = pB K k l0 h0 (m + 1) q.1 q.2
          · rw [c3]
            have c4 : ¬ s < pGs K k l0 h0 m q := fun q => g3 s q c3
            by_cases c5 : s = pGs K k l0 h0 m q
            · rw [c5]; exact Nat.le_refl _
            · have h2 : (pGs K k l0 h0 m q + 1) * 4 ^ m ≤ s * 4 ^ m := Nat.mul_le_mul_right _ (by omega)
              rw [Nat.succ_mul] at h2
              omega
          · omega
        · rw [if_neg c2]
          show _ ≤ 2147483647
          omega
    · rw [if_neg c]
      refine Nat.le_antisymm (pEm_inf _) (pEm_lo (Nat.le_refl _) _ ?_)
      intro s hs
      show pINF ≤ pE K k fl l0 h0 m (pSt K k q s) (pLg p s)
      have hlo := pB_hi (K := K) (k := k) (l0 := l0) (h0 := h0) (m := m) (q := q) (show s < 4 by omega)
      rw [ih s hs, if_neg (by omega)]
      exact Nat.le_refl _
theorem pMn_le {F : Nat → Nat} {l h x : Nat} (hx : x < pINF) : ∀ c, pMn F l h c ≤ x ↔ ∃ i, i < c ∧ F (l * 21 + (h + i)) ≤ x
  | 0 => ⟨fun q => absurd q (by show ¬ pINF ≤ x; omega), fun ⟨i, q, _⟩ => absurd q (by omega)⟩
  | c + 1 => by
    show min (pMn F l h c) (F (l * 21 + (h + c))) ≤ x ↔ _
    rw [show min (pMn F l h c) (F (l * 21 + (h + c))) ≤ x ↔ pMn F l h c ≤ x ∨ F (l * 21 + (h + c)) ≤ x by omega, pMn_le hx c]
    constructor
    · rintro (⟨s, h1, h2⟩ | h)
      · exact ⟨s, by omega, h2⟩
      · exact ⟨c, by omega, h⟩
    · rintro ⟨s, h1, h2⟩
      by_cases e : s = c
      · exact Or.inr (e ▸ h2)
      · exact Or.inl ⟨s, by omega, h2⟩
theorem pMn_inf {F : Nat → Nat} {l h : Nat} : ∀ c, pMn F l h c ≤ pINF
  | 0 => Nat.le_refl _
  | c + 1 => Nat.le_trans (Nat.min_le_left _ _) (pMn_inf c)
theorem pR_0 {K : pK} {k fl l0 h0 x : Nat} {F : Nat → Nat} (hx : x < pINF) (hl : l0 ≤ 9) (hh : h0 ≤ 20) : pR K k fl l0 h0 0 F x ↔ pMn F l0 h0 (21 - h0) ≤ x := by
  rw [pMn_le hx]
  constructor
  · rintro ⟨j, hj, hne, h⟩
    unfold pE at h
    by_cases c : j / 21 = l0 ∧ h0 ≤ j % 21
    · rw [if_pos c] at h
      refine ⟨j % 21 - h0, by omega, ?_⟩
      rw [show l0 * 21 + (h0 + (j % 21 - h0)) = j by omega]
      exact h
    · rw [if_neg c] at h
      exact absurd h (by omega)
  · rintro ⟨i, hi, h⟩
    refine ⟨l0 * 21 + (h0 + i), by omega, by omega, ?_⟩
    unfold pE
    rw [if_pos ⟨show (l0 * 21 + (h0 + i)) / 21 = l0 by omega, show h0 ≤ (l0 * 21 + (h0 + i)) % 21 by omega⟩]
    exact h
theorem pR_n {K : pK} {k fl l0 h0 n x : Nat} {q : Nat × Nat} (hq1 : q.1 ≤ 9) (hq2 : q.2 ≤ 20) : pR K k fl l0 h0 n (pFp K k fl q 0) x ↔ pE K k fl l0 h0 n q 0 ≤ x := by
  constructor
  · rintro ⟨j, hj, hne, h⟩
    by_cases c : j = pIx q
    · rw [c, pIx_inv hq2, show pFp K k fl q 0 (pIx q) = 0 from pUp_s] at h
      exact h
    · exact absurd (show pFp K k fl q 0 j = pINF from pUp_n c) hne
  · intro h
    refine ⟨pIx q, pIx_lt hq1 hq2, ?_, ?_⟩
    · rw [show pFp K k fl q 0 (pIx q) = 0 from pUp_s]; decide
    · rw [pIx_inv hq2, show pFp K k fl q 0 (pIx q) = 0 from pUp_s]; exact h
theorem pE_inf {K : pK} {k fl l0 h0 : Nat} : ∀ m q p, p ≤ pINF → pE K k fl l0 h0 m q p ≤ pINF
  | 0, q, p, h => by unfold pE; split <;> omega
  | m + 1, q, p, h => by unfold pE; exact pEm_inf _
theorem pAb_eq {K : pK} {o l n h : Nat} (ok : pOK K) (ho : o < K 5) (hn : n ≤ 12) (hl : l ≤ 9) (hh : h ≤ 20) : pAb K o l n h = if pB K (K (7 + o)) l h n (K (12 + o)) (K (17 + o)) ≤ K (22 + o) then pB K (K (7 + o)) l h n (K (12 + o)) (K (17 + o)) * 16777216 + pGk K (K (7 + o)) l h n (K (12 + o), K (17 + o)) else pINF := by
  obtain ⟨_, _, _, _, h5⟩ := ok
  obtain ⟨_, b1, b2, b3⟩ := h5 o ho
  have e := pE_eq (K := K) (k := K (7 + o)) (fl := K (22 + o)) (l0 := l) (h0 := h) b3 n 0 (K (12 + o), K (17 + o)) 0 (by omega) ⟨by decide, by decide, by simp⟩
  have e2 : pAb K o l n h = pE K (K (7 + o)) (K (22 + o)) l h n (K (12 + o), K (17 + o)) 0 := by
    have key : ∀ x, x < pINF → (pAb K o l n h ≤ x ↔ pE K (K (7 + o)) (K (22 + o)) l h n (K (12 + o), K (17 + o)) 0 ≤ x) := by
      intro x hx
      rw [← pR_n (n := n) (x := x) (q := (K (12 + o), K (17 + o))) b1 b2, pR_all hx hn n 0 (by omega), pR_0 hx hl hh]
      exact Iff.rfl
    have i1 : pAb K o l n h ≤ pINF := pMn_inf _
    have i2 : pE K (K (7 + o)) (K (22 + o)) l h n (K (12 + o), K (17 + o)) 0 ≤ pINF := pE_inf _ _ _ (by decide)
    by_cases c1 : pAb K o l n h = pINF
    · by_cases c2 : pE K (K (7 + o)) (K (22 + o)) l h n (K (12 + o), K (17 + o)) 0 = pINF
      · rw [c1, c2]
      · have := (key (pE K (K (7 + o)) (K (22 + o)) l h n (K (12 + o), K (17 + o)) 0) (by omega)).mpr (Nat.le_refl _)
        omega
    · have h1 := (key (pAb K o l n h) (by omega)).mp (Nat.le_refl _)
      have h2 := (key (pE K (K (7 + o)) (K (22 + o)) l h n (K (12 + o), K (17 + o)) 0) (by omega)).mpr (Nat.le_refl _)
      omega
  rw [e2, e]
  simp
theorem p4_mul (x a d : Nat) : x * 4 ^ (a + 1 + d) = x * 4 ^ d * 4 * 4 ^ a := by
  rw [Nat.pow_add, Nat.pow_succ]
  simp only [Nat.mul_comm, Nat.mul_left_comm, Nat.mul_assoc]
/-- the k-th figure of the least row -/
def pDg (K : pK) (k l0 h0 : Nat) : Nat → Nat × Nat → Nat → Nat
  | 0, _, _ => 0
  | m + 1, q, 0 => pGs K k l0 h0 m q
  | m + 1, q, i + 1 => pDg K k l0 h0 m (pSt K k q (pGs K k l0 h0 m q)) i
theorem pDg_eq {K : pK} {k l0 h0 : Nat} : ∀ m q i, pB K k l0 h0 m q.1 q.2 < pFAR → i < m → pGk K k l0 h0 m q / 4 ^ (m - 1 - i) % 4 = pDg K k l0 h0 m q i
  | 0, q, i, _, h => absurd h (by omega)
  | m + 1, q, 0, hB, _ => by
    obtain ⟨g1, g2, g3⟩ := pGs_sp hB
    have e : pB K k l0 h0 m (pSt K k q (pGs K k l0 h0 m q)).1 (pSt K k q (pGs K k l0 h0 m q)).2 < pFAR := by
      unfold pBs1 at g2; omega
    have hg := pGk_lt m _ e
    show (pGs K k l0 h0 m q * 4 ^ m + pGk K k l0 h0 m (pSt K k q (pGs K k l0 h0 m q))) / 4 ^ (m + 1 - 1 - 0) % 4 = pGs K k l0 h0 m q
    rw [show m + 1 - 1 - 0 = m by omega, Nat.add_comm, Nat.add_mul_div_right _ _ (Nat.pow_pos (by decide)), Nat.div_eq_of_lt hg, Nat.zero_add]
    exact Nat.mod_eq_of_lt g1
  | m + 1, q, i + 1, hB, hi => by
    obtain ⟨g1, g2, g3⟩ := pGs_sp hB
    have e : pB K k l0 h0 m (pSt K k q (pGs K k l0 h0 m q)).1 (pSt K k q (pGs K k l0 h0 m q)).2 < pFAR := by
      unfold pBs1 at g2; omega
    have ih := pDg_eq m (pSt K k q (pGs K k l0 h0 m q)) i e (by omega)
    show (pGs K k l0 h0 m q * 4 ^ m + pGk K k l0 h0 m (pSt K k q (pGs K k l0 h0 m q))) / 4 ^ (m + 1 - 1 - (i + 1)) % 4 = pDg K k l0 h0 m (pSt K k q (pGs K k l0 h0 m q)) i
    rw [← ih, show m + 1 - 1 - (i + 1) = m - 1 - i by omega]
    obtain ⟨d, hd⟩ : ∃ d, m = (m - 1 - i) + 1 + d := ⟨i, by omega⟩
    have e2 : pGs K k l0 h0 m q * 4 ^ m = (pGs K k l0 h0 m q * 4 ^ d * 4) * 4 ^ (m - 1 - i) := by
      rw [show (4 : Nat) ^ m = 4 ^ ((m - 1 - i) + 1 + d) by rw [← hd]]; exact p4_mul _ _ _
    rw [e2, Nat.add_comm, Nat.add_mul_div_right _ _ (Nat.pow_pos (by decide)), Nat.add_mul_mod_self_right]
theorem pDg_all {K : pK} {k l0 h0 n i : Nat} {q : Nat × Nat} (b : Nat) (hn : n ≤ 12) (hB : pB K k l0 h0 n q.1 q.2 < pFAR) (hi : i < n) : (b * 16777216 + pGk K k l0 h0 n q) / 2 ^ (2 * (n - 1 - i)) % 4 = pDg K k l0 h0 n q i := by
  rw [← pDg_eq n q i hB hi, show (2 : Nat) ^ (2 * (n - 1 - i)) = 4 ^ (n - 1 - i) by rw [Nat.pow_mul]]
  obtain ⟨d, hd⟩ : ∃ d, 12 = (n - 1 - i) + 1 + d := ⟨12 - (n - 1 - i) - 1, by omega⟩
  have e2 : b * 16777216 = (b * 4 ^ d * 4) * 4 ^ (n - 1 - i) := by
    rw [show (16777216 : Nat) = 4 ^ ((n - 1 - i) + 1 + d) by rw [← hd]]; exact p4_mul _ _ _
  rw [e2, Nat.add_comm, Nat.add_mul_div_right _ _ (Nat.pow_pos (by decide)), Nat.add_mul_mod_self_right]
