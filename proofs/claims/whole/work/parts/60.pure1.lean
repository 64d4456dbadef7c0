/-! ===== above: the least plan is the greedy one ===== -/
/-- the least plan that goes on from p at q for m hours to the goal -/
def pE (K : pK) (k fl l0 h0 : Nat) : Nat → Nat × Nat → Nat → Nat
  | 0, q, p => if q.1 = l0 ∧ h0 ≤ q.2 then p else pINF
  | m + 1, q, p => pEm (fun s => pE K k fl l0 h0 m (pSt K k q s) (pLg p s)) (min 3 (fl - p / 16777216) + 1)
where pEm (g : Nat → Nat) : Nat → Nat
  | 0 => pINF
  | c + 1 => min (pEm g c) (g c)
theorem pEm_le {g : Nat → Nat} {x : Nat} (hx : x < pINF) : ∀ c, pE.pEm g c ≤ x ↔ ∃ s, s < c ∧ g s ≤ x
  | 0 => ⟨fun h => absurd h (by show ¬ pINF ≤ x; omega), fun ⟨s, h, _⟩ => absurd h (by omega)⟩
  | c + 1 => by
    show min (pE.pEm g c) (g c) ≤ x ↔ _
    rw [show min (pE.pEm g c) (g c) ≤ x ↔ pE.pEm g c ≤ x ∨ g c ≤ x by omega, pEm_le hx c]
    constructor
    · rintro (⟨s, h1, h2⟩ | h)
      · exact ⟨s, by omega, h2⟩
      · exact ⟨c, by omega, h⟩
    · rintro ⟨s, h1, h2⟩
      by_cases e : s = c
      · exact Or.inr (e ▸ h2)
      · exact Or.inl ⟨s, by omega, h2⟩
