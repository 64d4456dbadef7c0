theorem pSpr_le {K : pK} {k : Nat} {q : Nat × Nat} {p i y : Nat} : ∀ (c : Nat) (F : Nat → Nat), pSpr K k q p c F i ≤ y ↔ F i ≤ y ∨ ∃ s, s < c ∧ pIx (pSt K k q s) = i ∧ pLg p s ≤ y
  | 0, F => ⟨fun h => Or.inl h, fun h => h.elim id (fun ⟨s, h1, _⟩ => absurd h1 (by omega))⟩
  | c + 1, F => by
    have ih := pSpr_le (K := K) (k := k) (q := q) (p := p) (i := i) (y := y) c F
    show pUp _ _ _ i ≤ y ↔ _
    by_cases e : i = pIx (pSt K k q c)
    · rw [e, pUp_s, ← e]
      constructor
      · intro h
        by_cases e2 : pLg p c ≤ y
        · exact Or.inr ⟨c, by omega, e.symm, e2⟩
        · rcases ih.mp (by omega) with h | ⟨s, h1, h2, h3⟩
          · exact Or.inl h
          · exact Or.inr ⟨s, by omega, h2, h3⟩
      · rintro (h | ⟨s, h1, h2, h3⟩)
        · have := ih.mpr (Or.inl h); omega
        · by_cases e3 : s = c
          · rw [e3] at h3; omega
          · have := ih.mpr (Or.inr ⟨s, by omega, h2, h3⟩); omega
    · rw [pUp_n e, ih]
      constructor
      · rintro (h | ⟨s, h1, h2, h3⟩)
        · exact Or.inl h
        · exact Or.inr ⟨s, by omega, h2, h3⟩
      · rintro (h | ⟨s, h1, h2, h3⟩)
        · exact Or.inl h
        · by_cases e3 : s = c
          · rw [e3] at h2; exact absurd h2.symm e
          · exact Or.inr ⟨s, by omega, h2, h3⟩
theorem pSpA_le {K : pK} {k fl i y : Nat} {F : Nat → Nat} (hy : y < pINF) : ∀ j, pSpA K k fl F j i ≤ y ↔ ∃ j', j' < j ∧ F j' ≠ pINF ∧ ∃ s, s < min 3 (fl - F j' / 16777216) + 1 ∧ pIx (pSt K k (j' / 21, j' % 21) s) = i ∧ pLg (F j') s ≤ y
  | 0 => ⟨fun h => absurd h (by show ¬ pINF ≤ y; omega), fun ⟨j', h, _⟩ => absurd h (by omega)⟩
  | j + 1 => by
    have ih := pSpA_le (K := K) (k := k) (fl := fl) (i := i) (F := F) hy j
    unfold pSpA
    by_cases e : F j = pINF
    · rw [if_pos e, ih]
      constructor
      · rintro ⟨j', h1, h2, h3⟩; exact ⟨j', by omega, h2, h3⟩
      · rintro ⟨j', h1, h2, h3⟩
        by_cases e2 : j' = j
        · rw [e2] at h2; exact absurd e h2
        · exact ⟨j', by omega, h2, h3⟩
    · rw [if_neg e, pSpr_le, ih]
      constructor
      · rintro (⟨j', h1, h2, h3⟩ | ⟨s, h1, h2, h3⟩)
        · exact ⟨j', by omega, h2, h3⟩
        · exact ⟨j, by omega, e, s, h1, h2, h3⟩
      · rintro ⟨j', h1, h2, s, h3, h4, h5⟩
        by_cases e2 : j' = j
        · rw [e2] at h3 h4 h5; exact Or.inr ⟨s, h3, h4, h5⟩
        · exact Or.inl ⟨j', by omega, h2, s, h3, h4, h5⟩
def pR (K : pK) (k fl l0 h0 m : Nat) (F : Nat → Nat) (x : Nat) : Prop := ∃ j, j < 210 ∧ F j ≠ pINF ∧ pE K k fl l0 h0 m (j / 21, j % 21) (F j) ≤ x
theorem pIx_inv {q : Nat × Nat} (h : q.2 ≤ 20) : (pIx q / 21, pIx q % 21) = q := by
  obtain ⟨a, b⟩ := q
  replace h : b ≤ 20 := h
  unfold pIx
  show ((a * 21 + b) / 21, (a * 21 + b) % 21) = (a, b)
  rw [show (a * 21 + b) / 21 = a by omega, show (a * 21 + b) % 21 = b by omega]
theorem pR_step {K : pK} {k fl l0 h0 m d x : Nat} {F : Nat → Nat} (hx : x < pINF) (hd : d + (m + 1) ≤ 12) (hF : okF d fl F) : pR K k fl l0 h0 (m + 1) F x ↔ pR K k fl l0 h0 m (pSpA K k fl F 210) x := by
  have hA := pSpA_ok (K := K) (k := k) (show d ≤ 11 by omega) hF 210
  constructor
  · rintro ⟨j, hj, hne, h⟩
    unfold pE at h
    obtain ⟨s, hs, h2⟩ := (pEm_le hx _).mp h
    have hv : pVp fl d (F j) := (hF j).resolve_left hne
    have hv2 := pVp_lg (by omega) hv hs
    have hst := pSt_le (K := K) (k := k) (q := (j / 21, j % 21)) (s := s) (show j % 21 ≤ 20 by omega)
    have hle : pSpA K k fl F 210 (pIx (pSt K k (j / 21, j % 21) s)) ≤ pLg (F j) s := (pSpA_le (pVp_lt (by omega) hv2) 210).mpr ⟨j, hj, hne, s, hs, rfl, Nat.le_refl _⟩
    have hlt := pVp_lt (show d + 1 ≤ 12 by omega) hv2
    have hne2 : pSpA K k fl F 210 (pIx (pSt K k (j / 21, j % 21) s)) ≠ pINF := by omega
    refine ⟨pIx (pSt K k (j / 21, j % 21) s), pIx_lt hst.1 hst.2, hne2, ?_⟩
    rw [pIx_inv hst.2]
    exact pE_mono hx m (d + 1) _ _ _ (by omega) ((hA _).resolve_left hne2) hv2 hle h2
  · rintro ⟨i, hi, hne, h⟩
    have hv := (hA i).resolve_left hne
    obtain ⟨j, hj, hne2, s, hs, he, hl⟩ := (pSpA_le (K := K) (k := k) (fl := fl) (F := F) (i := i) (pVp_lt (show d + 1 ≤ 12 by omega) hv) 210).mp (Nat.le_refl _)
    have hv1 : pVp fl d (F j) := (hF j).resolve_left hne2
    have hst := pSt_le (K := K) (k := k) (q := (j / 21, j % 21)) (s := s) (show j % 21 ≤ 20 by omega)
    refine ⟨j, hj, hne2, ?_⟩
    unfold pE
    refine (pEm_le hx _).mpr ⟨s, hs, ?_⟩
    rw [← he, pIx_inv hst.2, he] at h
    exact pE_mono hx m (d + 1) _ _ _ (by omega) (pVp_lg (by omega) hv1 hs) hv hl h
theorem pR_all {K : pK} {k fl l0 h0 n x : Nat} {q : Nat × Nat} (hx : x < pINF) (hn : n ≤ 12) : ∀ m d, d + m = n → (pR K k fl l0 h0 m (pFp K k fl q d) x ↔ pR K k fl l0 h0 0 (pFp K k fl q n) x)
  | 0, d, h => by rw [show d = n by omega]
  | m + 1, d, h => by
    rw [pR_step hx (show d + (m + 1) ≤ 12 by omega) (pFp_ok d (by omega))]
    exact pR_all hx hn m (d + 1) (by omega)
