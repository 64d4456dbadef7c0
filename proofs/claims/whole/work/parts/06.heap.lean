/-! ===== fields ===== -/
def am_gf (own : String) (idx ci j : Nat) : Prop := ∃ (Cn : String) (T : u_T) (N : Nat), vwCl[ci]? = some (Cn, T, N) ∧ ci < 100 ∧ j < N ∧ Cond.fieldLink own idx (T j).1 (T j).2.1 (T j).2.2.1 ∈ am_TB ∧ ∀ w ∈ u_ws Cn T N, w ∈ am_TB
def am_pf (own : String) (idx ci j : Nat) (fin : Bool) (ty : FieldType) : Prop := ∃ (Cn : String) (T : u_T) (N : Nat) (ty0 : Nat → FieldType), vwCl[ci]? = some (Cn, T, N) ∧ ci < 100 ∧ j < N ∧ Cond.fieldLink own idx (T j).1 (T j).2.1 (T j).2.2.1 ∈ am_TB ∧ (∀ w ∈ u_ws Cn T N, w ∈ am_TB) ∧
  (∀ k, k < N → parseFieldDescriptor (T k).2.2.1 = some (ty0 k)) ∧ (∀ a, a < N → ∀ b, b < N → a ≠ b → (T a).2.1 ≠ (T b).2.1) ∧ (T j).2.2.2 = fin ∧ ty0 j = ty ∧ (fin = true → (T j).1 = own)
theorem am_vat_i {c : am_S} {row : Nat → Int32} {j : Nat} (h : c.2.2[j]? = some none) : am_vat c row j = .int (row j) := by simp [am_vat, h]
theorem am_vat_o {c : am_S} {row : Nat → Int32} {j : Nat} (h : c.2.2[j]? = none) : am_vat c row j = .int (row j) := by simp [am_vat, h]
theorem am_vat_r {c : am_S} {row : Nat → Int32} {j : Nat} {v : Value} (h : c.2.2[j]? = some (some v)) : am_vat c row j = v := by simp [am_vat, h]
section AH
variable {C : am_C} {cc : ByteArray} {pc : Nat} {L : am_L} {S : List Value} {sh : List am_S} {μ : am_M} {k n : Nat}
theorem aw_get {idx ci j a N : Nat} {rs : List (Option Value)} {v : Value} (hd : decode cc pc = .ok (.getfield idx, 3)) (hg : am_gf C.2.1 idx ci j) (hc : sh[a]? = some (ci, N, rs)) (hv : am_vat (ci, N, rs) (μ a) j = v)
    (kk : am_W C cc (pc + 3) L (v :: S) sh μ k n) : am_W C cc pc L (.ref a :: S) sh μ k n := by
  intro p e s m args below meth c F H locs ls hR hl hL
  have kk := kk p e s m args below meth c F H locs ls hR hl hL
  obtain ⟨hx, hb, hml, hr, hlk, hown, hts, hX, hn⟩ := F
  obtain ⟨Cn, T, N', hcl, h100, hj, hlink, hin⟩ := hg
  rcases hR.2.2 a _ hc with ⟨-, r, hr', cell, q1, q2, q3, q4⟩ | ⟨hge, -⟩
  · have e : r = (Cn, T, N') := Option.some.inj (hr'.symm.trans hcl)
    subst e
    obtain ⟨hS, hfc, kC, hkC, hkind⟩ := hX.1.1 ci _ hcl
    obtain ⟨cf, kf, fi, f, hi, hsl⟩ := hS j hj
    refine W.getf hx hb hown (hts _ hlink) hi (u_facts hfc hkC (u_lays hts hin hj) hi).1 q1 (by rw [q3]; exact fun h => by cases h) (v := am_rv C.1.2.2.1.size v) ?_ rfl rfl hd kk
    rw [hsl, q4 j hj]
    subst hv
    rfl
  · exact absurd hge (by simp; omega)
/-- an int field -/
theorem aw_gi {idx ci j a N : Nat} {rs : List (Option Value)} (hd : decode cc pc = .ok (.getfield idx, 3)) (hg : am_gf C.2.1 idx ci j) (hc : sh[a]? = some (ci, N, rs)) (hv : rs[j]? = some none)
    (kk : am_W C cc (pc + 3) L (.int (μ a j) :: S) sh μ k n) : am_W C cc pc L (.ref a :: S) sh μ k n := aw_get hd hg hc (am_vat_i hv) kk
/-- a reference field -/
theorem aw_gr {idx ci j a N : Nat} {rs : List (Option Value)} {v : Value} (hd : decode cc pc = .ok (.getfield idx, 3)) (hg : am_gf C.2.1 idx ci j) (hc : sh[a]? = some (ci, N, rs)) (hv : rs[j]? = some (some v))
    (kk : am_W C cc (pc + 3) L (v :: S) sh μ k n) : am_W C cc pc L (.ref a :: S) sh μ k n := aw_get hd hg hc (am_vat_r hv) kk
/-- an int field is written -/
theorem aw_pi {idx ci j a N : Nat} {rs : List (Option Value)} {ty : FieldType} {x : Int32} (hd : decode cc pc = .ok (.putfield idx, 3)) (hg : am_pf C.2.1 idx ci j false ty) (hnar : narrow ty (.int x) = .int x) (hfit : fits ty (.int x) = true) (hc : sh[a]? = some (ci, N, rs)) (hv : rs[j]? = some none)
    (kk : am_W C cc (pc + 3) L S sh (am_up μ a (upd (μ a) j x)) k n) : am_W C cc pc L (.int x :: .ref a :: S) sh μ k n := by
  intro p e s m args below meth c F H locs ls hR hl hL
  have kk := fun H locs hR hl => kk p e s m args below meth c F H locs ls hR hl hL
  obtain ⟨hx, hb, hml, hr, hlk, hown, hts, hX, hn⟩ := F
  obtain ⟨Cn, T, N', ty0, hcl, h100, hj, hlink, hin, hty, hnm, hfin, hty2, -⟩ := hg
  rcases hR.2.2 a _ hc with ⟨-, r, hr', cell, q1, q2, q3, q4⟩ | ⟨hge, -⟩
  · have e : r = (Cn, T, N') := Option.some.inj (hr'.symm.trans hcl)
    subst e
    have hap := va_apart (D := C.1.1) (cl := vwCl) (tys := am_tys C.1.2.1) (own := C.2.1) hts hin ty0 hty hnm hX.1 hcl
    obtain ⟨hS, hfc, kC, hkC, hkind⟩ := hX.1.1 ci _ hcl
    obtain ⟨cf, kf, fi, f, hi, hsl⟩ := hS j hj
    have hlay := hts _ (hin _ (u_in_lay hj))
    unfold u_lay at hlay
    rw [if_neg (by rw [hfin]; decide)] at hlay
    have hst := (u_facts hfc hkC (u_lays hts hin hj) hi).1
    have h6 := u_store hfc hkC hkind hlay hi ((hty j hj).trans (by rw [hty2])) hnar hfit
    refine W.putK hx hb (f := f) ⟨hown, hts _ hlink, ⟨_, _, _, hi⟩, hst⟩ (by rw [q2]; exact h6) q1 q3 (by rw [hsl]; exact k2_hasslot (q4 j hj)) rfl rfl hd fun H' e1 e2 e3 => ?_
    rw [hsl] at e1 ⊢
    refine kk H' _ (hR.sti hc e2 e3 (Or.inl ⟨h100, _, hcl, ?_⟩)) ?_
    · refine t_OB.to (V := updV (fun j => am_rv C.1.2.2.1.size (am_vat (ci, N, rs) (μ a) j)) j (.int x)) ⟨_, e1, q2, q3, t_set q4 hap hj (.int x)⟩ (fun i _ => ?_)
      by_cases hij : i = j
      · subst hij
        simp [updV, am_vat_i (c := (ci, N, rs)) hv, upd, am_rv]
      · simp only [updV, hij, if_false]
        simp [am_vat, upd, hij]
    · intro q hq
      rcases List.mem_append.mp hq with h | h
      · exact hl q h
      · rw [List.mem_singleton.mp h]
        exact Nat.le_add_right _ _
  · exact absurd hge (by simp; omega)
/-- a final reference field, in its constructor -/
theorem aw_pr {idx ci j a N b : Nat} {rs : List (Option Value)} {ty : FieldType} {w : Value} (hd : decode cc pc = .ok (.putfield idx, 3)) (hg : am_pf C.2.1 idx ci j true ty) (hm : C.2.2.1 = "<init>") (hnar : ∀ z : Nat, narrow ty (.ref z) = .ref z) (hfit : ∀ z : Nat, fits ty (.ref z) = true) (hc : sh[a]? = some (ci, N, rs)) (hv : rs[j]? = some (some w))
    (kk : am_W C cc (pc + 3) L S (sh.set a (ci, N, rs.set j (some (.ref b)))) μ k n) : am_W C cc pc L (.ref b :: .ref a :: S) sh μ k n := by
  intro p e s m args below meth c F H locs ls hR hl hL
  have kk := fun H locs hR hl => kk p e s m args below meth c F H locs ls hR hl hL
  obtain ⟨hx, hb, hml, hr, hlk, hown, hts, hX, hn⟩ := F
  obtain ⟨Cn, T, N', ty0, hcl, h100, hj, hlink, hin, hty, hnm, hfin, hty2, hdecl⟩ := hg
  have hdecl := hdecl rfl
  rcases hR.2.2 a _ hc with ⟨-, r, hr', cell, q1, q2, q3, q4⟩ | ⟨hge, -⟩
  · have e : r = (Cn, T, N') := Option.some.inj (hr'.symm.trans hcl)
    subst e
    have hap := va_apart (D := C.1.1) (cl := vwCl) (tys := am_tys C.1.2.1) (own := C.2.1) hts hin ty0 hty hnm hX.1 hcl
    obtain ⟨hS, hfc, kC, hkC, hkind⟩ := hX.1.1 ci _ hcl
    obtain ⟨cf, kf, fi, f, hi, hsl⟩ := hS j hj
    have hlay := hts _ (hin _ (u_in_lay hj))
    unfold u_lay at hlay
    rw [if_pos hfin] at hlay
    have hst := (u_facts hfc hkC (u_lays hts hin hj) hi).1
    have hcf : m.cls = cf := by
      obtain ⟨_, _, c', _, _, _, -, -, hf', -, -, -, hown2, -⟩ := Cond.laysFinal_spec hlay
      have e1 : c' = cf := by have := hi.symm.trans hf'; simp at this; exact this.1.symm
      rw [hdecl] at hown2
      rw [← e1]; exact Option.some.inj (hown.symm.trans hown2)
    have h6 := u_fits hfc hkC hkind (Or.inr hlay) hi ((hty j hj).trans (by rw [hty2])) (hnar (C.1.2.2.1.size + b)) (hfit _)
    refine W.putFinK hx hb hown (hts _ hlink) hi hst hcf (hn.trans hm) (by rw [q2]; exact h6) q1 q3 (by rw [hsl]; exact k2_hasslot (q4 j hj)) rfl rfl hd fun H' e1 e2 e3 => ?_
    rw [hsl] at e1 ⊢
    have h7 := hR.st (f := μ a) (c' := (ci, N, rs.set j (some (.ref b)))) hc e2 e3 (Or.inl ⟨h100, _, hcl, ?_⟩)
    · have h8 : am_up μ a (μ a) = μ := by
        funext z
        by_cases hz : z = a
        · subst hz; rw [am_up_s]
        · rw [am_up_n hz]
      rw [h8] at h7
      refine kk H' _ h7 ?_
      intro q hq
      rcases List.mem_append.mp hq with h | h
      · exact hl q h
      · rw [List.mem_singleton.mp h]
        exact Nat.le_add_right _ _
    · refine t_OB.to (V := updV (fun j => am_rv C.1.2.2.1.size (am_vat (ci, N, rs) (μ a) j)) j (.ref (C.1.2.2.1.size + b))) ⟨_, e1, q2, q3, t_set q4 hap hj _⟩ (fun i _ => ?_)
      have hjl : j < rs.length := (List.getElem?_eq_some_iff.mp hv).1
      by_cases hij : i = j
      · subst hij
        simp [updV, am_vat, am_rv, hjl]
      · simp only [updV, hij, if_false]
        simp [am_vat, List.getElem?_set_ne (Ne.symm hij)]
  · exact absurd hge (by simp; omega)
/-! ===== arrays ===== -/
theorem am_ty (t : Nat) {ty : FieldType} {kA : Nat → ClassId} (h : (am_tys kA)[t]? = some (kA (100 + t), ty)) {G : am_G} {s : State} (e : G.2.1 = kA) (hX : am_X G s) : ArrOfT s (kA (100 + t)) ty ∧ va_RA s (kA (100 + t)) ty := by
  subst e
  exact hX.1.2 t _ h
theorem am_idx {i : Int32} {j N : Nat} (hi : i = nI j) (hj : j < N) (hN : N < 2 ^ 31) : ¬ (i < 0 ∨ N ≤ i.toNatClampNeg) ∧ i.toNatClampNeg = j := by
  subst hi
  exact ⟨nI_in hj hN, nI_clamp (by omega)⟩
theorem aw_iald {a N j : Nat} {i : Int32} (hd : decode cc pc = .ok (.iaload, 1)) (hc : sh[a]? = some (100, N, [])) (hi : i = nI j) (hj : j < N) (hN : N < 2 ^ 31)
    (kk : am_W C cc (pc + 1) L (.int (μ a j) :: S) sh μ k n) : am_W C cc pc L (.int i :: .ref a :: S) sh μ k n := by
  intro p e s m args below meth c F H locs ls hR hl hL
  have kk := kk p e s m args below meth c F H locs ls hR hl hL
  obtain ⟨hx, hb, hml, hr, hlk, hown, hts, hX, hn⟩ := F
  rcases hR.2.2 a _ hc with ⟨h1, -⟩ | ⟨-, h2⟩
  · exact absurd h1 (by simp)
  · obtain ⟨g1, g2⟩ := am_idx hi hj hN
    refine W.iald (v := .int (μ a j)) hx hb h2 ((am_ty 0 rfl rfl hX).1 _ _) (fun q => by cases q) (by show ¬ (i < 0 ∨ (arrV _ _ _).slots.size ≤ _); rw [arrV_size]; exact g1) ?_ rfl rfl hd kk
    rw [g2]
    show (arrV _ _ _).slots[_]? = _
    rw [arrV_read _ _ (show j < N from hj), am_vat_o rfl]
    rfl
theorem aw_zald {a N j : Nat} {i : Int32} (hd : decode cc pc = .ok (.baload, 1)) (hc : sh[a]? = some (101, N, [])) (hi : i = nI j) (hj : j < N) (hN : N < 2 ^ 31)
    (kk : am_W C cc (pc + 1) L (.int (μ a j) :: S) sh μ k n) : am_W C cc pc L (.int i :: .ref a :: S) sh μ k n := by
  intro p e s m args below meth c F H locs ls hR hl hL
  have kk := kk p e s m args below meth c F H locs ls hR hl hL
  obtain ⟨hx, hb, hml, hr, hlk, hown, hts, hX, hn⟩ := F
  rcases hR.2.2 a _ hc with ⟨h1, -⟩ | ⟨-, h2⟩
  · exact absurd h1 (by simp)
  · obtain ⟨g1, g2⟩ := am_idx hi hj hN
    refine W.zald (v := .int (μ a j)) hx hb h2 ((am_ty 1 rfl rfl hX).1 _ _) (fun q => by cases q) (by show ¬ (i < 0 ∨ (arrV _ _ _).slots.size ≤ _); rw [arrV_size]; exact g1) ?_ rfl rfl hd kk
    rw [g2]
    show (arrV _ _ _).slots[_]? = _
    rw [arrV_read _ _ (show j < N from hj), am_vat_o rfl]
    rfl
theorem aw_aald {a N j r t : Nat} {i : Int32} {rs : List (Option Value)} (hd : decode cc pc = .ok (.aaload, 1)) (hc : sh[a]? = some (100 + t, N, rs)) (ht : t = 2 ∨ t = 3 ∨ t = 4) (hi : i = nI j) (hj : j < N) (hN : N < 2 ^ 31) (hv : rs[j]? = some (some (.ref r)))
    (kk : am_W C cc (pc + 1) L (.ref r :: S) sh μ k n) : am_W C cc pc L (.int i :: .ref a :: S) sh μ k n := by
  intro p e s m args below meth c F H locs ls hR hl hL
  have kk := kk p e s m args below meth c F H locs ls hR hl hL
  obtain ⟨hx, hb, hml, hr, hlk, hown, hts, hX, hn⟩ := F
  rcases hR.2.2 a _ hc with ⟨h1, -⟩ | ⟨-, h2⟩
  · exact absurd h1 (by simp)
  · obtain ⟨g1, g2⟩ := am_idx hi hj hN
    have key : ∃ ty : FieldType, ty.isReference = true ∧ ArrOfT s (C.1.2.1 (100 + t)) ty := by
      rcases ht with rfl | rfl | rfl
      · exact ⟨_, rfl, (am_ty 2 rfl rfl hX).1⟩
      · exact ⟨_, rfl, (am_ty 3 rfl rfl hX).1⟩
      · exact ⟨_, rfl, (am_ty 4 rfl rfl hX).1⟩
    obtain ⟨ty, k1, k2⟩ := key
    refine W.aald (v := .ref (C.1.2.2.1.size + r)) hx hb h2 (k2 _ _) k1 (fun q => by cases q) (by show ¬ (i < 0 ∨ (arrV _ _ _).slots.size ≤ _); rw [arrV_size]; exact g1) ?_ rfl rfl hd kk
    rw [g2]
    show (arrV _ _ _).slots[_]? = _
    rw [arrV_read _ _ (show j < N from hj), am_vat_r hv]
    rfl
theorem aw_alen {a N t : Nat} (hd : decode cc pc = .ok (.arraylength, 1)) (hc : sh[a]? = some (100, N, []))
    (kk : am_W C cc (pc + 1) L (.int (nI N) :: S) sh μ k n) : am_W C cc pc L (.ref a :: S) sh μ k n := by
  intro p e s m args below meth c F H locs ls hR hl hL
  have kk := kk p e s m args below meth c F H locs ls hR hl hL
  obtain ⟨hx, hb, hml, hr, hlk, hown, hts, hX, hn⟩ := F
  rcases hR.2.2 a _ hc with ⟨h1, -⟩ | ⟨-, h2⟩
  · exact absurd h1 (by simp)
  · exact W.alen (n := nI N) hx hb h2 ((am_ty 0 rfl rfl hX).1 _ _) (by rw [arrV_size] <;> rfl) rfl rfl hd kk
theorem am_arr_up {ci N j : Nat} {base : Nat} {row : Nat → Int32} {x : Int32} {c : ClassId} : arrV c N (updV (fun i => am_rv base (am_vat (ci, N, []) row i)) j (.int x)) = arrV c N (fun i => am_rv base (am_vat (ci, N, []) (upd row j x) i)) := by
  congr 1
  funext i
  by_cases hij : i = j
  · subst hij
    simp [updV, am_vat, upd, am_rv]
  · simp [updV, am_vat, upd, hij]
theorem aw_iast {a N j : Nat} {i x : Int32} (hd : decode cc pc = .ok (.iastore, 1)) (hc : sh[a]? = some (100, N, [])) (hi : i = nI j) (hj : j < N) (hN : N < 2 ^ 31)
    (kk : am_W C cc (pc + 1) L S sh (am_up μ a (upd (μ a) j x)) k n) : am_W C cc pc L (.int x :: .int i :: .ref a :: S) sh μ k n := by
  intro p e s m args below meth c F H locs ls hR hl hL
  have kk := fun H locs hR hl => kk p e s m args below meth c F H locs ls hR hl hL
  obtain ⟨hx, hb, hml, hr, hlk, hown, hts, hX, hn⟩ := F
  rcases hR.2.2 a _ hc with ⟨h1, -⟩ | ⟨-, h2⟩
  · exact absurd h1 (by simp)
  · obtain ⟨g1, g2⟩ := am_idx hi hj hN
    refine W.iast hx hb h2 ((am_ty 0 rfl rfl hX).1 _ _) (fun q => by cases q) (by show ¬ (i < 0 ∨ (arrV _ _ _).slots.size ≤ _); rw [arrV_size]; exact g1) rfl rfl hd fun H1 e1 e2 e3 => ?_
    refine kk H1 _ (hR.sti hc e2 e3 (Or.inr ⟨Nat.le_refl _, ?_⟩)) ?_
    · rw [e1, g2]
      show some ((arrV _ _ _).setSlot _ _) = _
      rw [arrV_store, am_arr_up]
    · intro q hq
      rcases List.mem_append.mp hq with h | h
      · exact hl q h
      · rw [List.mem_singleton.mp h]
        exact Nat.le_add_right _ _
theorem aw_zast {a N j : Nat} {i x : Int32} (hd : decode cc pc = .ok (.bastore, 1)) (hc : sh[a]? = some (101, N, [])) (hi : i = nI j) (hj : j < N) (hN : N < 2 ^ 31) (hx1 : narrow .boolean (.int x) = .int x)
    (kk : am_W C cc (pc + 1) L S sh (am_up μ a (upd (μ a) j x)) k n) : am_W C cc pc L (.int x :: .int i :: .ref a :: S) sh μ k n := by
  intro p e s m args below meth c F H locs ls hR hl hL
  have kk := fun H locs hR hl => kk p e s m args below meth c F H locs ls hR hl hL
  obtain ⟨hx, hb, hml, hr, hlk, hown, hts, hX, hn⟩ := F
  rcases hR.2.2 a _ hc with ⟨h1, -⟩ | ⟨-, h2⟩
  · exact absurd h1 (by simp)
  · obtain ⟨g1, g2⟩ := am_idx hi hj hN
    refine W.zast hx hb h2 ((am_ty 1 rfl rfl hX).1 _ _) (fun q => by cases q) (by show ¬ (i < 0 ∨ (arrV _ _ _).slots.size ≤ _); rw [arrV_size]; exact g1) rfl rfl hd fun H1 e1 e2 e3 => ?_
    refine kk H1 _ (hR.sti hc e2 e3 (Or.inr ⟨Nat.le_succ _, ?_⟩)) ?_
    · rw [e1, g2, hx1]
      show some ((arrV _ _ _).setSlot _ _) = _
      rw [arrV_store, am_arr_up]
    · intro q hq
      rcases List.mem_append.mp hq with h | h
      · exact hl q h
      · rw [List.mem_singleton.mp h]
        exact Nat.le_add_right _ _
/-! ===== answers ===== -/
theorem aw_iret {ty : FieldType} {x : Int32} (hd : decode cc pc = .ok (.ireturn, 1)) (hr : C.2.2.2.2.1 = some ty) (hnar : narrow ty (.int x) = .int x) (hk : C.2.2.2.2.2.2.1 = k) (hn : C.2.2.2.2.2.2.2.1 = n) (hq : C.2.2.2.2.2.2.2.2 (some (.int x)) sh μ) : am_W C cc pc L [.int x] sh μ k n := by
  intro p e s m args below meth c F H locs ls hR hl hL
  obtain ⟨hx, hb, hml, hr2, hlk, hown, hts, hX, hnm⟩ := F
  subst hk
  subst hn
  exact W.zret hx hb (hr2.trans hr) hnar (fun t ht hW => ⟨some (.int x), sh, μ, rfl, hq, hX.warm hW, by rw [ht]; exact hR⟩) hl hd hlk
theorem aw_lret {x : Int64} (hd : decode cc pc = .ok (.lreturn, 1)) (hr : C.2.2.2.2.1 = some .long) (hk : C.2.2.2.2.2.2.1 = k) (hn : C.2.2.2.2.2.2.2.1 = n) (hq : C.2.2.2.2.2.2.2.2 (some (.long x)) sh μ) : am_W C cc pc L [.long x] sh μ k n := by
  intro p e s m args below meth c F H locs ls hR hl hL
  obtain ⟨hx, hb, hml, hr2, hlk, hown, hts, hX, hnm⟩ := F
  subst hk
  subst hn
  exact W.lret hx hb (hr2.trans hr) (fun t ht hW => ⟨some (.long x), sh, μ, rfl, hq, hX.warm hW, by rw [ht]; exact hR⟩) hl hd hlk
theorem aw_vret (hd : decode cc pc = .ok (.return_, 1)) (hr : C.2.2.2.2.1 = none) (hk : C.2.2.2.2.2.2.1 = k) (hn : C.2.2.2.2.2.2.2.1 = n) (hq : C.2.2.2.2.2.2.2.2 none sh μ) : am_W C cc pc L [] sh μ k n := by
  intro p e s m args below meth c F H locs ls hR hl hL
  obtain ⟨hx, hb, hml, hr2, hlk, hown, hts, hX, hnm⟩ := F
  subst hk
  subst hn
  exact W.vret hx hb (hr2.trans hr) (fun t ht hW => ⟨none, sh, μ, rfl, hq, hX.warm hW, by rw [ht]; exact hR⟩) hl hd hlk
end AH
