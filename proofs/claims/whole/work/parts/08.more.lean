section AD
variable {C : am_C} {cc : ByteArray} {pc : Nat} {L : am_L} {S : List Value} {sh : List am_S} {μ : am_M} {k n : Nat}
theorem aw_max {idx : Nat} {x y : Int32} (hd : decode cc pc = .ok (.invokestatic idx, 3)) (hl1 : Cond.methodLink C.2.1 idx Lib.Math.max.name ∈ am_TB) (hl2 : Cond.static Lib.Math.max.name ∈ am_TB) (hl3 : Cond.initialized "java/lang/Math" ∈ am_TB) (hl4 : Cond.code Lib.Math.max.name Lib.Math.max.code 2 (some .int) ∈ am_TB) (hfr : 1 ≤ C.2.2.2.2.2.1.frames) (hlo : 100 ≤ C.2.2.2.2.2.1.locals) (hw : (S.map fun v => v.category).sum ≤ 8) (hk : k ≤ C.2.2.2.2.2.1.cells) (hn : n ≤ C.2.2.2.2.2.1.slots)
    (kk : am_W C cc (pc + 3) L (.int (if x < y then y else x) :: S) sh μ k n) : am_W C cc pc L (.int y :: .int x :: S) sh μ k n := by
  intro p e s m args below meth c F H locs ls hR hl hL
  have kk := kk p e s m args below meth c F H locs ls hR hl hL
  obtain ⟨hx, hb, hml, hr, hlk, hown, hts, hX, hnm⟩ := F
  exact va_mmax hx hb (hml.trans hL.1.symm) hown (hts _ hl1) (hts _ hl2) (hts _ hl3) (hts _ hl4) hfr (by have := am_cat (b := C.1.2.2.1.size) hw; omega) hk hn hd kk
theorem aw_min {idx : Nat} {x y : Int32} (hd : decode cc pc = .ok (.invokestatic idx, 3)) (hl1 : Cond.methodLink C.2.1 idx Lib.Math.min.name ∈ am_TB) (hl2 : Cond.static Lib.Math.min.name ∈ am_TB) (hl3 : Cond.initialized "java/lang/Math" ∈ am_TB) (hl4 : Cond.code Lib.Math.min.name Lib.Math.min.code 2 (some .int) ∈ am_TB) (hfr : 1 ≤ C.2.2.2.2.2.1.frames) (hlo : 100 ≤ C.2.2.2.2.2.1.locals) (hw : (S.map fun v => v.category).sum ≤ 8) (hk : k ≤ C.2.2.2.2.2.1.cells) (hn : n ≤ C.2.2.2.2.2.1.slots)
    (kk : am_W C cc (pc + 3) L (.int (if y < x then y else x) :: S) sh μ k n) : am_W C cc pc L (.int y :: .int x :: S) sh μ k n := by
  intro p e s m args below meth c F H locs ls hR hl hL
  have kk := kk p e s m args below meth c F H locs ls hR hl hL
  obtain ⟨hx, hb, hml, hr, hlk, hown, hts, hX, hnm⟩ := F
  exact va_mmin hx hb (hml.trans hL.1.symm) hown (hts _ hl1) (hts _ hl2) (hts _ hl3) (hts _ hl4) hfr (by have := am_cat (b := C.1.2.2.1.size) hw; omega) hk hn hd kk
/-- System.arraycopy of ints -/
theorem aw_copy {idx a0 a1 n0 n1 sp dp N : Nat} {isp idp iN : Int32} (hd : decode cc pc = .ok (.invokestatic idx, 3)) (hl1 : Cond.methodLink C.2.1 idx arraycopyName ∈ am_TB) (hl2 : Cond.native arraycopyName ∈ am_TB) (hl3 : Cond.static arraycopyName ∈ am_TB) (hl4 : Cond.initialized "java/lang/System" ∈ am_TB) (hfr : 1 ≤ C.2.2.2.2.2.1.frames) (hlo : 100 ≤ C.2.2.2.2.2.1.locals) (hw : (S.map fun v => v.category).sum ≤ 8)
    (hc0 : sh[a0]? = some (100, n0, [])) (hc1 : sh[a1]? = some (100, n1, [])) (e1 : isp = nI sp) (e2 : idp = nI dp) (e3 : iN = nI N) (h0 : sp + N ≤ n0) (h1 : dp + N ≤ n1) (hn0 : n0 < 2 ^ 31) (hn1 : n1 < 2 ^ 31)
    (kk : am_W C cc (pc + 3) L S sh (am_up μ a1 (va_cpy (μ a0) (μ a1) sp dp N)) k n) : am_W C cc pc L (.int iN :: .int idp :: .ref a1 :: .int isp :: .ref a0 :: S) sh μ k n := by
  intro p e s m args below meth c F H locs ls hR hl hL
  have kk := fun H locs hR hl => kk p e s m args below meth c F H locs ls hR hl hL
  obtain ⟨hx, hb, hml, hr, hlk, hown, hts, hX, hnm⟩ := F
  subst e1; subst e2; subst e3
  have q0 : H[C.1.2.2.1.size + a0]? = some (arrV (C.1.2.1 100) n0 (fun j => .int (μ a0 j))) := by
    rcases hR.2.2 a0 _ hc0 with ⟨h1, -⟩ | ⟨-, h2⟩
    · exact absurd h1 (by simp)
    · exact h2
  have q1 : H[C.1.2.2.1.size + a1]? = some (arrV (C.1.2.1 100) n1 (fun j => .int (μ a1 j))) := by
    rcases hR.2.2 a1 _ hc1 with ⟨h1, -⟩ | ⟨-, h2⟩
    · exact absurd h1 (by simp)
    · exact h2
  have hAr := (am_ty 0 rfl rfl hX).1
  have csp : (nI sp).toNatClampNeg = sp := nI_clamp (by omega)
  have cdp : (nI dp).toNatClampNeg = dp := nI_clamp (by omega)
  have cN : (nI N).toNatClampNeg = N := nI_clamp (by omega)
  have h5 : nativeFrameWords "java/lang/System" "arraycopy" 5 ≤ 60 := by decide +kernel
  intro T hT X
  obtain ⟨-, k0, hk0, cm0, hkk0⟩ := hAr n0 (fun j => .int (μ a0 j))
  obtain ⟨-, k1, hk1, cm1, hkk1⟩ := hAr n1 (fun j => .int (μ a1 j))
  obtain ⟨vm', X', step⟩ := X.arraycopy hx hown (hts _ hl1) (hts _ hl2) (hts _ hl3) (hts _ hl4) (src := C.1.2.2.1.size + a0) (dst := C.1.2.2.1.size + a1) (cs := arrV (C.1.2.1 100) n0 (fun j => .int (μ a0 j))) (cd := arrV (C.1.2.1 100) n1 (fun j => .int (μ a1 j))) (srcPos := nI sp) (destPos := nI dp) (n := nI N) (by rw [hT]; exact q0) (by rw [hT]; exact q1)
    (fun _ h => by cases h) (fun _ h => by cases h) (fun h => by cases h) (fun h => by cases h) hk0 hk1 hkk0 hkk1 (by simp [refKind]) (nI_pos (by omega)) (nI_pos (by omega)) (nI_pos (by omega))
    (by rw [nI_toInt (by omega), nI_toInt (by omega), arrV_size]; omega)
    (by rw [nI_toInt (by omega), nI_toInt (by omega), arrV_size]; omega)
    (fun vm₁ _ i hi => by
      rw [cN] at hi
      have e : (arrV (C.1.2.1 100) n0 (fun j => .int (μ a0 j))).slots.getD ((nI sp).toNatClampNeg + i) .null = .int (μ a0 (sp + i)) := by
        rw [csp, Array.getD_eq_getD_getElem?, arrV_read _ _ (by omega)]
        rfl
      refine ⟨?_, ?_⟩
      · rw [e]
        rfl
      · rw [e]
        exact trivial)
    (g := F0 m pc ls (.int (nI N) :: .int (nI dp) :: .ref (C.1.2.2.1.size + a1) :: .int (nI sp) :: .ref (C.1.2.2.1.size + a0) :: S.map (am_rv C.1.2.2.1.size))) rfl (by rw [hml]; exact hL.1) (rest := S.map (am_rv C.1.2.2.1.size)) rfl (by rw [hb]; exact hd) hfr (by show 2 * 0 + _ + _ ≤ _; have := am_cat (b := C.1.2.2.1.size) hw; omega)
  have e1 : copied (arrV (C.1.2.1 100) n0 (fun j => .int (μ a0 j))) (arrV (C.1.2.1 100) n1 (fun j => .int (μ a1 j))) (nI sp) (nI dp) (nI N) = arrV (C.1.2.1 100) n1 (fun j => .int (va_cpy (μ a0) (μ a1) sp dp N j)) := by
    have := va_copied (fun z => Value.int z) (C.1.2.1 100) (C.1.2.1 100) (n0 := n0) (n1 := n1) (sp := (nI sp).toNatClampNeg) (dp := (nI dp).toNatClampNeg) (n := (nI N).toNatClampNeg) (μ a0) (μ a1) (by rw [csp, cN]; exact h0)
    rw [csp, cdp, cN] at this
    rw [← this]
    simp only [copied, csp, cdp, cN]
  rw [e1] at X' step
  have hlt : C.1.2.2.1.size + a1 < H.size := (Array.getElem?_eq_some_iff.mp q1).1
  obtain ⟨t, b1, b2⟩ := kk (H.setIfInBounds (C.1.2.2.1.size + a1) (arrV (C.1.2.1 100) n1 (fun j => .int (va_cpy (μ a0) (μ a1) sp dp N j)))) _ (hR.sti hc1 (by simp) (fun q hq => by simp [Array.getElem?_setIfInBounds, Ne.symm hq]) (Or.inr ⟨Nat.le_refl _, by simp [Array.getElem?_setIfInBounds, hlt]; rfl⟩)) (fun q hq => by
      rcases List.mem_append.mp hq with h | h
      · exact hl q h
      · obtain ⟨z, -, hz⟩ := List.mem_map.mp h
        rw [← hz]
        exact Nat.le_add_right _ _) _ (by rw [← hT]; rfl) X'
  exact ⟨t, step t b1, b2⟩
/-- an item of one of the class's constant rows -/
theorem aw_sta {idx j jl : Nat} {fk : Fin 4} {own nm : String} {vs : List Int32} {i : Int32} (d1 : decode cc pc = .ok (.getstatic idx, 3)) (d2 : decode cc (pc + 3) = .ok (.iload_n fk, 1)) (d3 : decode cc (pc + 3 + 1) = .ok (.iaload, 1)) (hq : (own, nm, vs) ∈ am_stat) (hlk : Cond.fieldLink C.2.1 idx own nm "[I" ∈ am_TB) (hfk : (fk : Nat) = jl) (hg : am_gl L jl = some (.int i)) (hi : i = nI j) (hj : j < 6)
    (kk : am_W C cc (pc + 3 + 1 + 1) L (.int (vs.getD j 0) :: S) sh μ k n) : am_W C cc pc L S sh μ k n := by
  intro p e s m args below meth c F H locs ls hR hl hL
  have kk := kk p e s m args below meth c F H locs ls hR hl hL
  obtain ⟨hx, hb, hml, hr, hlk2, hown, hts, hX, hnm⟩ := F
  obtain ⟨t, hZ, cell, g1, g2, g3, g4, g5, g6, g7⟩ := hX.2.2.2 _ hq
  obtain ⟨cf, kf, fi, f, a, cell2, z1, z2, z3, z4, z5, z6, z7, z8⟩ := hZ
  refine W.gets hx hb hown (hts _ hlk) z1 z2 z3 z4 (by rw [hR.2.1 a (by simpa using z8)]; exact z5) (fun e => by rw [e] at z6; cases z6) z7 rfl d1 ?_
  subst hfk
  refine lv_iload_n hx hb d2 rfl (hL.2.2 _ (am_pl_mem hg)) ?_
  obtain ⟨o1, o2⟩ := am_idx hi (show j < 6 from hj) (by omega)
  have ht : t < C.1.2.2.1.size := by simpa using g7
  refine W.iald (v := .int (vs.getD j 0)) hx hb (a := t) (by rw [hR.2.1 t ht]; exact g1) g2 g3 ?_ (by rw [o2]; exact g6 j hj) rfl rfl d3 kk
  intro q
  rcases q with q | q
  · exact o1 (Or.inl q)
  · rw [o2] at q
    omega
/-! ===== what constructors make ===== -/
theorem aw_newi {N : Nat} {i : Int32} (hd : decode cc pc = .ok (.newarray .int, 2)) (hw : Cond.arrayClass .int ∈ am_TB) (hi : i = nI N) (hN : N < 100000) (hk : k + 1 ≤ C.2.2.2.2.2.1.cells) (hn : n + N ≤ C.2.2.2.2.2.1.slots)
    (kk : am_W C cc (pc + 2) L (.ref sh.length :: S) (sh ++ [(100, N, [])]) (am_up μ sh.length (fun _ => 0)) (k + 1) (n + N)) : am_W C cc pc L (.int i :: S) sh μ k n := by
  intro p e s m args below meth c F H locs ls hR hl hL
  have kk := fun H hR => kk p e s m args below meth c F H locs ls hR hl hL
  obtain ⟨hx, hb, hml, hr, hlk, hown, hts, hX, hnm⟩ := F
  subst hi
  refine va_newaK hx hb (atype := .int) (hts _ hw) rfl hd rfl (nI_pos (by omega)) (nI_clamp (by omega)) (by show N * 4 ≤ _; omega) hk hn hR.1 fun H1 cA e1 z1 o1 hAr hNm => ?_
  have hc : cA = C.1.2.1 100 := Option.some.inj (hNm.symm.trans (am_ty 0 rfl rfl hX).2)
  subst hc
  exact kk H1 (hR.push (by rw [z1, hR.1]) (fun q hq => o1 q (by rw [← hR.1]; exact hq)) (Or.inr ⟨Nat.le_refl _, by rw [hR.1, e1]; rfl⟩))
theorem aw_newz {N : Nat} {i : Int32} (hd : decode cc pc = .ok (.newarray .boolean, 2)) (hw : Cond.arrayClass .boolean ∈ am_TB) (hi : i = nI N) (hN : N < 100000) (hk : k + 1 ≤ C.2.2.2.2.2.1.cells) (hn : n + N ≤ C.2.2.2.2.2.1.slots)
    (kk : am_W C cc (pc + 2) L (.ref sh.length :: S) (sh ++ [(101, N, [])]) (am_up μ sh.length (fun _ => 0)) (k + 1) (n + N)) : am_W C cc pc L (.int i :: S) sh μ k n := by
  intro p e s m args below meth c F H locs ls hR hl hL
  have kk := fun H hR => kk p e s m args below meth c F H locs ls hR hl hL
  obtain ⟨hx, hb, hml, hr, hlk, hown, hts, hX, hnm⟩ := F
  subst hi
  refine va_newaK hx hb (atype := .boolean) (hts _ hw) rfl hd rfl (nI_pos (by omega)) (nI_clamp (by omega)) (by show N * 1 ≤ _; omega) hk hn hR.1 fun H1 cA e1 z1 o1 hAr hNm => ?_
  have hc : cA = C.1.2.1 101 := Option.some.inj (hNm.symm.trans (am_ty 1 rfl rfl hX).2)
  subst hc
  exact kk H1 (hR.push (by rw [z1, hR.1]) (fun q hq => o1 q (by rw [← hR.1]; exact hq)) (Or.inr ⟨Nat.le_succ _, by rw [hR.1, e1]; rfl⟩))
/-- new T[N] of objects: all null -/
theorem aw_newr {N idx t : Nat} {i : Int32} {Cn : String} (hd : decode cc pc = .ok (.anewarray idx, 3)) (hcl : Cond.classLink C.2.1 idx Cn ∈ am_TB) (ht : (t = 2 ∧ Cn = RX4) ∨ (t = 3 ∧ Cn = RX5)) (hi : i = nI N) (hN : N < 100000) (hk : k + 1 ≤ C.2.2.2.2.2.1.cells) (hn : n + N ≤ C.2.2.2.2.2.1.slots)
    (kk : am_W C cc (pc + 3) L (.ref sh.length :: S) (sh ++ [(100 + t, N, List.replicate N (some .null))]) (am_up μ sh.length (fun _ => 0)) (k + 1) (n + N)) : am_W C cc pc L (.int i :: S) sh μ k n := by
  intro p e s m args below meth c F H locs ls hR hl hL
  have kk := fun H hR => kk p e s m args below meth c F H locs ls hR hl hL
  obtain ⟨hx, hb, hml, hr, hlk, hown, hts, hX, hnm⟩ := F
  subst hi
  have cN : (nI N).toNatClampNeg = N := nI_clamp (by omega)
  have hAO : va_AO Cn s := by
    rcases ht with ⟨-, rfl⟩ | ⟨-, rfl⟩
    · exact hX.2.2.1.1
    · exact hX.2.2.1.2.1
  refine W.anew hx hb hown (hts _ hcl) hAO.use rfl hd rfl (nI_pos (by omega)) (by rw [cN]; omega) hk (by rw [cN]; exact hn) fun cA kA comp f1 f2 f3 f4 => ?_
  have hc : cA = C.1.2.1 (100 + t) := by
    rcases ht with ⟨rfl, rfl⟩ | ⟨rfl, rfl⟩
    · obtain ⟨-, -, -, -, -, h5⟩ := (am_ty 2 rfl rfl hX).2
      exact Option.some.inj (f1.symm.trans h5)
    · obtain ⟨-, -, -, -, -, h5⟩ := (am_ty 3 rfl rfl hX).2
      exact Option.some.inj (f1.symm.trans h5)
  subst hc
  rw [cN]
  have h9 := kk (H.push { cls := C.1.2.1 (100 + t), slots := Array.replicate N .null, vm := .none }) (hR.push (by simp) (fun q hq => by rw [Array.getElem?_push, if_neg (Nat.ne_of_lt hq)]) (Or.inr ⟨Nat.le_add_right _ _, by
    rw [Array.getElem?_push, if_pos rfl, arrV_new]
    congr 1
    unfold arrV
    congr 1
    apply Array.ext
    · simp
    · intro q h1 h2
      simp at h1
      simp [am_vat, h1, am_rv]⟩))
  rw [hR.1]
  exact h9
/-- an object in an array of its class -/
theorem aw_aast {a b N j t ci N2 : Nat} {i : Int32} {rs rs2 : List (Option Value)} {r : vw_C} {w : Option Value} (hd : decode cc pc = .ok (.aastore, 1)) (hc : sh[a]? = some (100 + t, N, rs)) (hb2 : sh[b]? = some (ci, N2, rs2)) (h100 : ci < 100) (hcl : vwCl[ci]? = some r) (ht : (t = 2 ∧ r.1 = RX4) ∨ (t = 3 ∧ r.1 = RX5)) (hi : i = nI j) (hj : j < N) (hN : N < 2 ^ 31) (hv : rs[j]? = some w)
    (kk : am_W C cc (pc + 1) L S (sh.set a (100 + t, N, rs.set j (some (.ref b)))) μ k n) : am_W C cc pc L (.ref b :: .int i :: .ref a :: S) sh μ k n := by
  intro p e s m args below meth c F H locs ls hR hl hL
  have kk := fun H locs hR hl => kk p e s m args below meth c F H locs ls hR hl hL
  obtain ⟨hx, hb, hml, hr, hlk, hown, hts, hX, hnm⟩ := F
  obtain ⟨g1, g2⟩ := am_idx hi hj hN
  have hA : H[C.1.2.2.1.size + a]? = some (arrV (C.1.2.1 (100 + t)) N (fun j => am_rv C.1.2.2.1.size (am_vat (100 + t, N, rs) (μ a) j))) := by
    rcases hR.2.2 a _ hc with ⟨h1, -⟩ | ⟨-, h2⟩
    · exact absurd h1 (by simp)
    · exact h2
  rcases hR.2.2 b _ hb2 with ⟨-, r', hr', cell, q1, q2, q3, q4⟩ | ⟨hge, -⟩
  · have e : r' = r := Option.some.inj (hr'.symm.trans hcl)
    subst e
    have hcls := (hX.1.1 ci r' hcl).2
    have key : va_RA s (C.1.2.1 (100 + t)) (.object r'.1) := by
      rcases ht with ⟨rfl, h⟩ | ⟨rfl, h⟩
      · rw [h]; exact (am_ty 2 rfl rfl hX).2
      · rw [h]; exact (am_ty 3 rfl rfl hX).2
    obtain ⟨kA, comp, k1, k2, k3, -⟩ := key
    have hcomp : comp = C.1.1.1 ci := Option.some.inj (k3.symm.trans hcls.1)
    subst hcomp
    have hcls2 := hcls
    obtain ⟨kC, hkC, -⟩ := hcls.2
    refine W.aast hx hb hA (fun q h => by cases h) (fun h => by cases h) k1 k2 rfl hkC ⟨fun q => g1 (Or.inl q), by rw [g2, arrV_size]; exact hj⟩ q1 (fun q h => by rw [q3] at h; cases h) (by rw [q2]; exact hkC) (by rw [q2]; exact va_assign hcls2) rfl rfl hd fun H1 e1 e2 e3 => ?_
    have h7 := hR.st (f := μ a) (c' := (100 + t, N, rs.set j (some (.ref b)))) hc e2 e3 (Or.inr ⟨Nat.le_add_right _ _, ?_⟩)
    · have h8 : am_up μ a (μ a) = μ := by
        funext z
        by_cases hz : z = a
        · subst hz; rw [am_up_s]
        · rw [am_up_n hz]
      rw [h8] at h7
      refine kk H1 _ h7 ?_
      intro q hq
      rcases List.mem_append.mp hq with h | h
      · exact hl q h
      · rw [List.mem_singleton.mp h]
        exact Nat.le_add_right _ _
    · rw [e1, g2]
      show some ((arrV _ _ _).setSlot _ _) = _
      rw [arrV_store]
      congr 2
      funext q
      have hjl : j < rs.length := (List.getElem?_eq_some_iff.mp hv).1
      by_cases hq : q = j
      · subst hq
        simp [updV, am_vat, am_rv, hjl]
      · simp only [updV, hq, if_false]
        simp [am_vat, List.getElem?_set_ne (Ne.symm hq)]
  · exact absurd hge (by simp; omega)
/-- what 'new' of a class needs -/
def am_nw (own : String) (idx ci N : Nat) (rs : List (Option Value)) : Prop := ∃ (Cn : String) (T : u_T) (ty0 : Nat → FieldType), vwCl[ci]? = some (Cn, T, N) ∧ ci < 100 ∧ (∀ w ∈ u_ws Cn T N, w ∈ am_TB) ∧ (∀ k, k < N → parseFieldDescriptor (T k).2.2.1 = some (ty0 k)) ∧ Cond.classLink own idx Cn ∈ am_TB ∧ Cond.instantiable Cn N ∈ am_TB ∧ Cond.initialized Cn ∈ am_TB ∧ ∀ j, j < N → (rs[j]? = some none ∧ defaultValue (ty0 j) = .int 0) ∨ (rs[j]? = some (some .null) ∧ defaultValue (ty0 j) = .null)
theorem aw_new {idx ci N : Nat} {rs : List (Option Value)} (hd : decode cc pc = .ok (.new idx, 3)) (hw : am_nw C.2.1 idx ci N rs) (hk : k + 1 ≤ C.2.2.2.2.2.1.cells) (hn : n + N ≤ C.2.2.2.2.2.1.slots)
    (kk : am_W C cc (pc + 3) L (.ref sh.length :: S) (sh ++ [(ci, N, rs)]) (am_up μ sh.length (fun _ => 0)) (k + 1) (n + N)) : am_W C cc pc L S sh μ k n := by
  intro p e s m args below meth c F H locs ls hR hl hL
  have kk := fun H hR => kk p e s m args below meth c F H locs ls hR hl hL
  obtain ⟨hx, hb, hml, hr, hlk, hown, hts, hX, hnm⟩ := F
  obtain ⟨Cn, T, ty0, hcl, h100, hin, hty, h1, h2, h3, h4⟩ := hw
  have hKn := hX.1.1 ci _ hcl
  refine W.newcK hx hb hown (hts _ h1) (hts _ h2) (hts _ h3) rfl hd hk hn hKn.2.1 hR.1 fun H1 kC hkC e1 z1 o1 => ?_
  refine kk H1 (hR.push (by rw [z1, hR.1]) (fun q hq => o1 q (by rw [← hR.1]; exact hq)) (Or.inl ⟨h100, _, hcl, ?_⟩))
  rw [hR.1]
  refine (u_born ty0 hts hin hKn hkC e1 hty).to (fun j hj => ?_)
  rcases h4 j hj with ⟨g1, g2⟩ | ⟨g1, g2⟩
  · rw [g2, am_vat_i g1]; rfl
  · rw [g2, am_vat_r g1]; rfl
end AD
