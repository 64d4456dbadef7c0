/-! THE ABSTRACT MACHINE. A heap that begins at H0.size, cell k of it at the address H0.size + k; a cell's shape (kind, length, references) and its ints, by place. -/
abbrev am_S : Type := Nat × Nat × List (Option Value)
abbrev am_M : Type := Nat → Nat → Int32
abbrev am_L : Type := List (Option Value)
/-- classes' numbers and slots, array classes by kind, the heap at the law's start, the launch -/
abbrev am_G : Type := va_G × (Nat → ClassId) × Heap × Launch
def am_rv (b : Nat) : Value → Value
  | .ref a => .ref (b + a)
  | v => v
def am_vat (c : am_S) (row : Nat → Int32) (j : Nat) : Value := match c.2.2[j]? with
  | some (some v) => v
  | _ => .int (row j)
def am_up (μ : am_M) (a : Nat) (f : Nat → Int32) : am_M := fun b => if b = a then f else μ b
def am_tys (kA : Nat → ClassId) : List (ClassId × FieldType) := [(kA 100, .int), (kA 101, .boolean), (kA 102, .object RX4), (kA 103, .object RX5), (kA 104, .array .int)]
def am_cell (G : am_G) (q : Nat) (c : am_S) (V : Nat → Value) (H : Heap) : Prop :=
  (c.1 < 100 ∧ ∃ r : vw_C, vwCl[c.1]? = some r ∧ t_OB q (G.1.1 c.1) r.2.2 (G.1.2 c.1) H V) ∨ (100 ≤ c.1 ∧ H[q]? = some (arrV (G.2.1 c.1) c.2.1 V))
def am_R (G : am_G) (sh : List am_S) (μ : am_M) (H : Heap) : Prop :=
  H.size = G.2.2.1.size + sh.length ∧ (∀ q : Nat, q < G.2.2.1.size → H[q]? = G.2.2.1[q]?) ∧ ∀ (k : Nat) (c : am_S), sh[k]? = some c → am_cell G (G.2.2.1.size + k) c (fun j => am_rv G.2.2.1.size (am_vat c (μ k) j)) H
theorem am_cell.kept {G : am_G} {q : Nat} {c : am_S} {V : Nat → Value} {H H1 : Heap} (h : am_cell G q c V H) (hq : H1[q]? = H[q]?) : am_cell G q c V H1 := by
  rcases h with ⟨h1, r, h2, h3⟩ | ⟨h1, h2⟩
  · exact Or.inl ⟨h1, r, h2, h3.kept hq⟩
  · exact Or.inr ⟨h1, by rw [hq]; exact h2⟩
theorem am_up_s {μ : am_M} {a : Nat} {f : Nat → Int32} : am_up μ a f a = f := by simp [am_up]
theorem am_up_n {μ : am_M} {a b : Nat} {f : Nat → Int32} (h : b ≠ a) : am_up μ a f b = μ b := by simp [am_up, h]
/-- one cell is another one: its shape, its ints -/
theorem am_R.st {G : am_G} {sh : List am_S} {μ : am_M} {H H1 : Heap} {a : Nat} {c c' : am_S} {f : Nat → Int32} (h : am_R G sh μ H) (hc : sh[a]? = some c) (hz : H1.size = H.size) (ho : ∀ q : Nat, q ≠ G.2.2.1.size + a → H1[q]? = H[q]?)
    (hn : am_cell G (G.2.2.1.size + a) c' (fun j => am_rv G.2.2.1.size (am_vat c' (f) j)) H1) : am_R G (sh.set a c') (am_up μ a f) H1 := by
  obtain ⟨h1, h2, h3⟩ := h
  refine ⟨by rw [hz, List.length_set]; exact h1, fun q hq => by rw [ho q (by omega)]; exact h2 q hq, fun k d hd => ?_⟩
  by_cases hk : k = a
  · subst hk
    have hl : k < sh.length := (List.getElem?_eq_some_iff.mp hc).1
    rw [List.getElem?_set_self hl] at hd
    cases hd
    rw [am_up_s]
    exact hn
  · rw [List.getElem?_set_ne (Ne.symm hk)] at hd
    rw [am_up_n hk]
    exact (h3 k d hd).kept (ho _ (by omega))
theorem am_set_id {sh : List am_S} {a : Nat} {c : am_S} (hc : sh[a]? = some c) : sh.set a c = sh := by
  apply List.ext_getElem?
  intro k
  by_cases hk : k = a
  · subst hk
    have hl : k < sh.length := (List.getElem?_eq_some_iff.mp hc).1
    rw [List.getElem?_set_self hl, hc]
  · rw [List.getElem?_set_ne (Ne.symm hk)]
theorem am_R.sti {G : am_G} {sh : List am_S} {μ : am_M} {H H1 : Heap} {a : Nat} {c : am_S} {f : Nat → Int32} (h : am_R G sh μ H) (hc : sh[a]? = some c) (hz : H1.size = H.size) (ho : ∀ q : Nat, q ≠ G.2.2.1.size + a → H1[q]? = H[q]?)
    (hn : am_cell G (G.2.2.1.size + a) c (fun j => am_rv G.2.2.1.size (am_vat c (f) j)) H1) : am_R G sh (am_up μ a f) H1 := by
  have h1 := h.st hc hz ho hn
  rw [am_set_id hc] at h1
  exact h1
/-- a cell more -/
theorem am_R.push {G : am_G} {sh : List am_S} {μ : am_M} {H H1 : Heap} {c : am_S} {f : Nat → Int32} (h : am_R G sh μ H) (hz : H1.size = H.size + 1) (ho : ∀ q : Nat, q < H.size → H1[q]? = H[q]?)
    (hn : am_cell G H.size c (fun j => am_rv G.2.2.1.size (am_vat c f j)) H1) : am_R G (sh ++ [c]) (am_up μ sh.length f) H1 := by
  obtain ⟨h1, h2, h3⟩ := h
  refine ⟨by rw [hz, List.length_append, h1]; simp [Nat.add_assoc], fun q hq => by rw [ho q (by omega)]; exact h2 q hq, fun k d hd => ?_⟩
  by_cases hk : k < sh.length
  · rw [List.getElem?_append_left hk] at hd
    rw [am_up_n (Nat.ne_of_lt hk)]
    exact (h3 k d hd).kept (ho _ (by omega))
  · rw [List.getElem?_append_right (by omega)] at hd
    have hz : k - sh.length < 1 := (List.getElem?_eq_some_iff.mp hd).1
    have hk2 : k = sh.length := by omega
    subst hk2
    simp at hd
    subst hd
    rw [am_up_s, ← h1]
    exact hn
/-! ===== words: those that a call may hand on ===== -/
def am_kind : Cond → Bool
  | .code .. | .methodLink .. | .fieldLink .. | .classLink .. | .instantiable .. | .initialized .. | .instanceMethod .. | .static .. | .selects .. | .lays .. | .laysFinal .. | .constant .. | .constantLong .. | .arrayClass .. | .native .. => true
  | _ => false
def am_TB : List Cond := lw_tbl.filter am_kind
set_option maxRecDepth 100000 in
theorem am_good : am_TB.all goodWord = true := by decide +kernel
theorem am_goodIn {y : MethodName} {cc : ByteArray} {nL : Nat} {ret : Option FieldType} (h : Cond.code y cc nL ret ∈ am_TB) : GoodIn am_TB (Cond.code y cc nL ret :: am_TB) := by
  intro w hw
  have hm : w ∈ am_TB := by
    rcases List.mem_cons.mp hw with rfl | h1
    · exact h
    · exact h1
  exact ⟨hm, good_of_word (List.all_eq_true.mp am_good w hm)⟩
theorem am_in {w : Cond} (i : Nat) (h : lw_tbl[i]? = some w) (hk : am_kind w = true) : w ∈ am_TB := List.mem_filter.mpr ⟨List.mem_of_getElem? h, hk⟩
