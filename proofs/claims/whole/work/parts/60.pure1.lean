/-! ===== above: the least plan is the greedy one ===== -/
/-- the least plan that goes on from p at q for m hours to the goal -/
def pE (K : pK) (k fl l0 h0 : Nat) : Nat → Nat × Nat → Nat → Nat
  | 0, q, p => if q.1 = l0 ∧ h0 ≤ q.2 then p else pINF
  | m + 1, q, p => pEm (fun s => pE K k fl l0 h0 m (pSt K k q s) (pLg p s)) (min 3 (fl - p / 16777216) + 1)
where pEm (g : Nat → Nat) : Nat → Nat
  | 0 => pINF
  | c + 1 => min (pEm g c) (g c)
theorem pEm_le {g : Nat → Nat} {x : Nat} (hx : x < pINF) : ∀ c, pE.pEm g c ≤ x ↔ ∃ s, s < c ∧ g s ≤ x
  | 0 => ⟨fun h => absurd h (by show ¬ pINF ≤ x; omega), fun ⟨s, h, _⟩ => absurd h (by omega)⟩
  | c + 1 => by
    show min (pE.pEm g c) (g c) ≤ x ↔ _
    rw [show min (pE.pEm g c) (g c) ≤ x ↔ pE.pEm g c ≤ x ∨ g c ≤ x by omega, pEm_le hx c]
    constructor
    · rintro (⟨s, h1, h2⟩ | h)
      · exact ⟨s, by omega, h2⟩
      · exact ⟨c, by omega, h⟩
    · rintro ⟨s, h1, h2⟩
      by_cases e : s = c
      · exact Or.inr (e ▸ h2)
      · exact Or.inl ⟨s, by omega, h2⟩
def pVp (fl j p : Nat) : Prop := p % 16777216 < 4 ^ j ∧ p / 16777216 ≤ 3 * j ∧ p / 16777216 ≤ fl
theorem pVp_lg {fl j p s : Nat} (hj : j ≤ 11) (h : pVp fl j p) (hs : s < min 3 (fl - p / 16777216) + 1) : pVp fl (j + 1) (pLg p s) := by
  have := pLg_ok (s := s) hj h (by omega) (by omega)
  exact ⟨this.1, this.2.1, this.2.2.1⟩
theorem pLg_mono {fl j p p' s : Nat} (hj : j ≤ 11) (h : pVp fl j p) (h' : pVp fl j p') (hp : p ≤ p') (hs : s < min 3 (fl - p' / 16777216) + 1) : pLg p s ≤ pLg p' s := by
  have e : 4 ^ j ≤ 4194304 := Nat.le_trans (pow4_le hj) (by decide)
  have h1 := h.1
  have h2 := h'.1
  have d1 := Nat.div_add_mod p 16777216
  have d2 := Nat.div_add_mod p' 16777216
  have d3 : p / 16777216 ≤ p' / 16777216 := Nat.div_le_div_right hp
  unfold pLg
  by_cases c : p / 16777216 = p' / 16777216
  · rw [c]; omega
  · omega
theorem pVp_lt {fl j p : Nat} (hj : j ≤ 12) (h : pVp fl j p) : p < pINF := by
  have e : 4 ^ j ≤ 16777216 := Nat.le_trans (pow4_le hj) (by decide)
  have h1 := h.1
  have h2 := h.2.1
  have d1 := Nat.div_add_mod p 16777216
  show p < 2147483647
  omega
theorem pE_mono {K : pK} {k fl l0 h0 x : Nat} (hx : x < pINF) : ∀ m j q p p', j + m ≤ 12 → pVp fl j p → pVp fl j p' → p ≤ p' → pE K k fl l0 h0 m q p' ≤ x → pE K k fl l0 h0 m q p ≤ x
  | 0, j, q, p, p', _, _, _, hp, h => by
    unfold pE at h ⊢
    split at h
    · rename_i c; rw [if_pos c]; omega
    · exact absurd h (by omega)
  | m + 1, j, q, p, p', hj, h1, h2, hp, h => by
    unfold pE at h ⊢
    obtain ⟨s, hs, h3⟩ := (pEm_le hx _).mp h
    have d3 : p / 16777216 ≤ p' / 16777216 := Nat.div_le_div_right hp
    have hs2 : s < min 3 (fl - p / 16777216) + 1 := by omega
    exact (pEm_le hx _).mpr ⟨s, hs2, pE_mono hx m (j + 1) _ _ _ (by omega) (pVp_lg (by omega) h1 hs2) (pVp_lg (by omega) h2 hs) (pLg_mono (by omega) h1 h2 hp hs) h3⟩
