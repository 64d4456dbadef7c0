def am_AA (U : State) : Prop := (Cond.arrayOver (.array .int)).before #[] U = true
theorem am_AA.moved {u U : State} (hvm : u.vm.Alike U.vm) (h : am_AA u) : am_AA U := by
  obtain ⟨comp, c, k, h1, h2, h3, h4, h5⟩ := arrayOverA_spec h
  obtain ⟨k', hk', he⟩ := hvm.2.2 _ _ h3
  have hi : (U.vm.classes.findIdx? fun x => match x.kind with | .array component _ => component == comp | _ => false) = some c := by
    rw [hvm.findIdx?_eq _ (fun _ => rfl)]; exact h2
  have hkind : k'.kind = .array comp (.array .int) := by rw [he]; exact h4
  have f1 : U.vm.findClass (FieldType.array .int).toString = some comp := by rw [hvm.findClass]; exact h1
  have f2 : U.vm.findClass ("[" ++ (FieldType.array .int).toString) = some c := by rw [hvm.findClass]; exact h5
  unfold am_AA Cond.before Cond.holds
  simp only [Cond.value, f1, Option.bind_some]
  refine (congrArg (fun o : Option Nat => (o.bind (fun c => (U.vm.classes[c]?).map fun (k : Class) => match k.kind with | .array _ ty => decide (ty = FieldType.array .int) && decide (U.vm.findClass ("[" ++ (FieldType.array .int).toString) = some c) | _ => false) == some true)) hi).trans ?_
  simp [hk', hkind, f2]
def am_nest : List (String × Nat × MethodName × String) := [(RX7, 15, yX4_init, RX7), (RX7, 18, yX6_init, RX7), (RX7, 25, yX5_init, RX7), (RX0, 15, yX5_init, RX7), (RX2, 13, yX5_init, RX7)]
def am_stat : List (String × String × List Int32) := [(RX3, "NEAREST", [0, 0, 1, 1, 0, 4]), (RX1, "SIZE_BODIES", [10, 11, 12, 0, 13, 14]), (RX1, "MARK_BODIES", [20, 21, 24, 22, 23, 0])]
/-- what the tables say: classes, arrays, nest mates, statics -/
def am_X (G : am_G) (U : State) : Prop :=
  va_K G.1 vwCl (am_tys G.2.1) U ∧ (∀ q ∈ am_nest, va_Nw (.methodLinkNest q.1 q.2.1 q.2.2.1 q.2.2.2) U) ∧ (va_AO RX4 U ∧ va_AO RX5 U ∧ am_AA U) ∧
  ∀ q ∈ am_stat, ∃ t : Nat, va_Z q.1 q.2.1 "[I" (.ref t) (fun a => G.2.2.1.size ≤ a) U G.2.2.1 ∧ va_T .int t 6 (fun j => .int (q.2.2.getD j 0)) (fun a => G.2.2.1.size ≤ a) U G.2.2.1
theorem am_X.warm {G : am_G} {s U : State} (hW : s.WarmedH U.vm) (h : am_X G s) : am_X G U := by
  obtain ⟨h1, h2, ⟨h3, h4, h5⟩, h6⟩ := h
  have hv := hW.alike
  refine ⟨va_K.moved hv h1, fun q hq => va_Nw.warmM hW (h2 q hq), ⟨h3.moved hv, h4.moved hv, h5.moved hv⟩, fun q hq => ?_⟩
  obtain ⟨t, a, b⟩ := h6 q hq
  exact ⟨t, a.moved hv, b.moved hv⟩
theorem am_X.same {G : am_G} {u U : State} (e : u.vm = U.vm) (h : am_X G u) : am_X G U := by
  obtain ⟨h1, h2, ⟨h3, h4, h5⟩, h6⟩ := h
  have hv : u.vm.Alike U.vm := by rw [e]; exact Vm.Alike.refl U.vm
  refine ⟨va_K.moved hv h1, fun q hq => va_Nw.same rfl e (h2 q hq), ⟨h3.moved hv, h4.moved hv, h5.moved hv⟩, fun q hq => ?_⟩
  obtain ⟨t, a, b⟩ := h6 q hq
  exact ⟨t, a.moved hv, b.moved hv⟩
/-! ===== locals ===== -/
def am_gl : am_L → Nat → Option Value
  | [], _ => none
  | a :: _, 0 => a
  | _ :: l, n + 1 => am_gl l n
def am_kl : Option Value → Option Value
  | some (.long _) => none
  | some (.double _) => none
  | a => a
def am_sl : am_L → Nat → Value → am_L
  | [], _, _ => []
  | _ :: l, 0, v => some v :: l
  | a :: l, 1, v => am_kl a :: am_sl l 0 v
  | a :: l, n + 2, v => a :: am_sl l (n + 1) v
def am_s2 : am_L → Nat → Value → am_L
  | [], _, _ => []
  | [_], 0, v => [some v]
  | _ :: _ :: l, 0, v => some v :: none :: l
  | a :: l, 1, v => am_kl a :: am_s2 l 0 v
  | a :: l, n + 2, v => a :: am_s2 l (n + 1) v
def am_pl (b : Nat) (L : am_L) : List (Nat × Value) := (List.range L.length).filterMap (fun i => (am_gl L i).map (fun v => (i, am_rv b v)))
theorem am_gl_lt : ∀ {L : am_L} {i : Nat} {v : Value}, am_gl L i = some v → i < L.length
  | [], i, v, h => by simp [am_gl] at h
  | a :: l, 0, v, h => by simp
  | a :: l, n + 1, v, h => by
    have := am_gl_lt (L := l) (i := n) (v := v) h
    simp; omega
theorem am_pl_mem {b : Nat} {L : am_L} {i : Nat} {v : Value} (h : am_gl L i = some v) : (i, am_rv b v) ∈ am_pl b L :=
  List.mem_filterMap.mpr ⟨i, List.mem_range.mpr (am_gl_lt h), by simp [h]⟩
theorem am_pl_of {b : Nat} {L : am_L} {q : Nat × Value} (h : q ∈ am_pl b L) : ∃ v, am_gl L q.1 = some v ∧ q.2 = am_rv b v := by
  obtain ⟨i, -, hi⟩ := List.mem_filterMap.mp h
  cases hg : am_gl L i with
  | none => simp [hg] at hi
  | some v =>
    rw [hg] at hi
    simp at hi
    subst hi
    exact ⟨v, hg, rfl⟩
theorem am_rv_cat (b : Nat) (v : Value) : (am_rv b v).category = v.category := by cases v <;> rfl
theorem am_kl_of {a : Option Value} {v : Value} (h : am_kl a = some v) : a = some v ∧ ¬ v.category = 2 := by
  cases a with
  | none => simp [am_kl] at h
  | some w => cases w <;> simp [am_kl] at h <;> subst h <;> simp [Value.category]
theorem am_sl_of : ∀ {L : am_L} {i j : Nat} {v w : Value}, am_gl (am_sl L i v) j = some w → (j = i ∧ w = v) ∨ (j ≠ i ∧ am_gl L j = some w ∧ ¬ (j + 1 = i ∧ w.category = 2))
  | [], i, j, v, w, h => by simp [am_sl, am_gl] at h
  | a :: l, 0, 0, v, w, h => by simp [am_sl, am_gl] at h; exact Or.inl ⟨rfl, h.symm⟩
  | a :: l, 0, j + 1, v, w, h => by
    simp [am_sl, am_gl] at h
    exact Or.inr ⟨by omega, h, by omega⟩
  | a :: l, 1, 0, v, w, h => by
    simp [am_sl, am_gl] at h
    obtain ⟨h1, h2⟩ := am_kl_of h
    exact Or.inr ⟨by omega, h1, fun q => h2 q.2⟩
  | a :: l, 1, j + 1, v, w, h => by
    simp only [am_sl, am_gl] at h
    rcases am_sl_of h with ⟨h1, h2⟩ | ⟨h1, h2, h3⟩
    · exact Or.inl ⟨by omega, h2⟩
    · exact Or.inr ⟨by omega, h2, fun q => h3 ⟨by omega, q.2⟩⟩
  | a :: l, n + 2, 0, v, w, h => by
    simp [am_sl, am_gl] at h
    exact Or.inr ⟨by omega, h, by omega⟩
  | a :: l, n + 2, j + 1, v, w, h => by
    simp only [am_sl, am_gl] at h
    rcases am_sl_of h with ⟨h1, h2⟩ | ⟨h1, h2, h3⟩
    · exact Or.inl ⟨by omega, h2⟩
    · exact Or.inr ⟨by omega, h2, fun q => h3 ⟨by omega, q.2⟩⟩
theorem am_s2_of : ∀ {L : am_L} {i j : Nat} {v w : Value}, am_gl (am_s2 L i v) j = some w → (j = i ∧ w = v) ∨ (j ≠ i ∧ am_gl L j = some w ∧ j ≠ i + 1 ∧ ¬ (j + 1 = i ∧ w.category = 2))
  | [], i, j, v, w, h => by simp [am_s2, am_gl] at h
  | [a], 0, 0, v, w, h => by simp [am_s2, am_gl] at h; exact Or.inl ⟨rfl, h.symm⟩
  | [a], 0, j + 1, v, w, h => by simp [am_s2, am_gl] at h
  | a :: a2 :: l, 0, 0, v, w, h => by simp [am_s2, am_gl] at h; exact Or.inl ⟨rfl, h.symm⟩
  | a :: a2 :: l, 0, 1, v, w, h => by simp [am_s2, am_gl] at h
  | a :: a2 :: l, 0, j + 2, v, w, h => by
    simp [am_s2, am_gl] at h
    exact Or.inr ⟨by omega, h, by omega, by omega⟩
  | a :: l, 1, 0, v, w, h => by
    simp [am_s2, am_gl] at h
    obtain ⟨h1, h2⟩ := am_kl_of h
    exact Or.inr ⟨by omega, h1, by omega, fun q => h2 q.2⟩
  | a :: l, 1, j + 1, v, w, h => by
    simp only [am_s2, am_gl] at h
    rcases am_s2_of h with ⟨h1, h2⟩ | ⟨h1, h2, h3, h4⟩
    · exact Or.inl ⟨by omega, h2⟩
    · exact Or.inr ⟨by omega, h2, by omega, fun q => h4 ⟨by omega, q.2⟩⟩
  | a :: l, n + 2, 0, v, w, h => by
    simp [am_s2, am_gl] at h
    exact Or.inr ⟨by omega, h, by omega, by omega⟩
  | a :: l, n + 2, j + 1, v, w, h => by
    simp only [am_s2, am_gl] at h
    rcases am_s2_of h with ⟨h1, h2⟩ | ⟨h1, h2, h3, h4⟩
    · exact Or.inl ⟨by omega, h2⟩
    · exact Or.inr ⟨by omega, h2, by omega, fun q => h4 ⟨by omega, q.2⟩⟩
theorem am_has1 {b nL i : Nat} {ls : Array Slot} {L : am_L} {v : Value} (h : lv_has ls nL ((i, am_rv b v) :: (am_pl b L).filter (fun q => !(q.1 == i) && !(q.1 + 1 == i && q.2.category == 2)))) : lv_has ls nL (am_pl b (am_sl L i v)) := by
  refine ⟨h.1, h.2.1, fun q hq => h.2.2 q ?_⟩
  obtain ⟨w, h1, h2⟩ := am_pl_of hq
  rcases am_sl_of h1 with ⟨h3, h4⟩ | ⟨h3, h4, h5⟩
  · have : q = (i, am_rv b v) := Prod.ext h3 (by rw [h2, h4])
    rw [this]; exact List.mem_cons_self
  · refine List.mem_cons_of_mem _ (List.mem_filter.mpr ⟨?_, ?_⟩)
    · have : q = (q.1, am_rv b w) := Prod.ext rfl h2
      rw [this]; exact am_pl_mem h4
    · rw [h2, am_rv_cat]
      simp [h3]
      omega
theorem am_has2 {b nL i : Nat} {ls : Array Slot} {L : am_L} {v : Value} (h : lv_has ls nL ((i, am_rv b v) :: (am_pl b L).filter (fun q => !(q.1 == i) && (!(q.1 == i + 1) && !(q.1 + 1 == i && q.2.category == 2))))) : lv_has ls nL (am_pl b (am_s2 L i v)) := by
  refine ⟨h.1, h.2.1, fun q hq => h.2.2 q ?_⟩
  obtain ⟨w, h1, h2⟩ := am_pl_of hq
  rcases am_s2_of h1 with ⟨h3, h4⟩ | ⟨h3, h4, h8, h5⟩
  · have : q = (i, am_rv b v) := Prod.ext h3 (by rw [h2, h4])
    rw [this]; exact List.mem_cons_self
  · refine List.mem_cons_of_mem _ (List.mem_filter.mpr ⟨?_, ?_⟩)
    · have : q = (q.1, am_rv b w) := Prod.ext rfl h2
      rw [this]; exact am_pl_mem h4
    · rw [h2, am_rv_cat]
      simp [h3, h8]
      omega
def am_ent : List Value → Nat → am_L
  | [], n => List.replicate n none
  | .long x :: vs, n => some (.long x) :: none :: am_ent vs (n - 2)
  | .double x :: vs, n => some (.double x) :: none :: am_ent vs (n - 2)
  | v :: vs, n => some v :: am_ent vs (n - 1)
theorem am_gl_rep : ∀ (n i : Nat), am_gl (List.replicate n none) i = none
  | 0, i => by simp [am_gl]
  | n + 1, 0 => by simp [List.replicate, am_gl]
  | n + 1, i + 1 => by simp only [List.replicate, am_gl]; exact am_gl_rep n i
theorem am_ent_of (b : Nat) : ∀ (vs : List Value) (n i k : Nat) (w : Value), am_gl (am_ent vs n) i = some w → (k + i, am_rv b w) ∈ lv_args k (vs.map (am_rv b))
  | [], n, i, k, w, h => by
    rw [am_ent, am_gl_rep] at h
    cases h
  | v :: vs, n, i, k, w, h => by
    have one : ∀ (m : Nat), v.category = 1 → am_gl (some v :: am_ent vs m) i = some w → (k + i, am_rv b w) ∈ lv_args k ((v :: vs).map (am_rv b)) := by
      intro m hc h
      cases i with
      | zero =>
        simp [am_gl] at h
        subst h
        simp [lv_args]
      | succ i =>
        simp only [am_gl] at h
        have := am_ent_of b vs m i (k + 1) w h
        simp only [List.map_cons, lv_args, am_rv_cat, hc]
        refine List.mem_cons_of_mem _ ?_
        have e : k + (i + 1) = k + 1 + i := by omega
        rw [e]
        simpa using this
    have two : ∀ (m : Nat), v.category = 2 → am_gl (some v :: none :: am_ent vs m) i = some w → (k + i, am_rv b w) ∈ lv_args k ((v :: vs).map (am_rv b)) := by
      intro m hc h
      cases i with
      | zero =>
        simp [am_gl] at h
        subst h
        simp [lv_args]
      | succ i =>
        cases i with
        | zero => simp [am_gl] at h
        | succ i =>
          simp only [am_gl] at h
          have := am_ent_of b vs m i (k + 2) w h
          simp only [List.map_cons, lv_args, am_rv_cat, hc]
          refine List.mem_cons_of_mem _ ?_
          have e : k + (i + 1 + 1) = k + 2 + i := by omega
          rw [e]
          simpa using this
    cases v with
    | long x => exact two _ rfl h
    | double x => exact two _ rfl h
    | _ => exact one _ rfl h
