/-! ===== calls ===== -/
/-- a method's link, its code, how many parameters -/
def am_ml (own : String) (idx : Nat) (y : MethodName) (cc : ByteArray) (nL : Nat) (ret : Option FieldType) (np : Nat) : Prop :=
  Cond.methodLink own idx y ∈ am_TB ∧ Cond.initialized y.cls ∈ am_TB ∧ Cond.code y cc nL ret ∈ am_TB ∧ y.cls ≠ "java/lang/invoke/MethodHandle" ∧ y.cls ≠ "java/lang/invoke/VarHandle" ∧ (parseMethodDescriptor y.desc).map (fun d => d.parameters.length) = some np ∧ nL ≤ 81
theorem am_blind {G : am_G} {As : List Value} {sh : List am_S} {μ : am_M} : FrameBlind (va_Pc As (fun U => am_X G U ∧ am_R G sh μ U.heap)) := fun a U g mk q => ⟨q.1, am_X.same (u := U) (U := U.calling g mk a) rfl q.2.1, q.2.2⟩
section AC
variable {C : am_C} {cc : ByteArray} {pc : Nat} {L : am_L} {S rest : List Value} {sh : List am_S} {μ : am_M} {k n : Nat}
/-- behind a call -/
theorem am_after {mc ms : Nat} {Q' : Option Value → List am_S → am_M → Prop} {p : Program} {e : Env} {s : State} {m : MethodId} {args a : Array Value} {below : List Frame} {meth : Method} {c : Code} (F : am_F C cc p s m args meth c) {H : Heap} {locs : List Loc} {ls : Array Slot} (hl : ∀ q ∈ locs, C.1.2.2.1.size ≤ q.base) (hL : lv_has ls C.2.2.2.1 (am_pl C.1.2.2.1.size L)) {st0 : List Value}
    (hrun : va_Run p C.1.2.2.2 e C.2.2.2.2.2.1 s m args below meth c H locs k n mc ms (F0 m pc ls st0) (rest.map (am_rv C.1.2.2.1.size)) (am_Q C.1 Q' a) (fun q => C.1.2.2.1.size ≤ q)) (kk : ∀ v sh' μ', Q' v sh' μ' → am_W C cc (pc + 3) L (v.toList ++ rest) sh' μ' (k + mc) (n + ms)) :
    W p C.1.2.2.2 e C.2.2.2.2.2.1 s m args below meth c H locs k n (MQ below (am_Q C.1 C.2.2.2.2.2.2.2.2) args s C.2.2.2.2.2.2.1 C.2.2.2.2.2.2.2.1 (fun q => C.1.2.2.1.size ≤ q)) (F0 m pc ls st0) := by
  intro T hT X
  obtain ⟨v, st₀, t, T', L', h0, X', hL', e1, e2, ⟨v0, sh', μ', hv, hq, hX', hR'⟩, st⟩ := hrun T hT X
  cases hv
  obtain ⟨t2, a1, b1⟩ := kk v0 sh' μ' hq p e s m args below meth c F T'.heap (locs ++ L') ls (by rw [e1]; exact hR') (fun q hq => (List.mem_append.mp hq).elim (hl q) (hL' q)) hL T' rfl X'
  refine ⟨t2, st t2 ?_, b1⟩
  cases v0 <;> exact a1
theorem am_rev {b : Nat} {As : List Value} (h : S = As.reverse ++ rest) : S.map (am_rv b) = (As.map (am_rv b)).reverse ++ rest.map (am_rv b) := by rw [h]; simp
theorem am_cat {b : Nat} (h : (rest.map fun v => v.category).sum ≤ 8) : ((rest.map (am_rv b)).map fun v => v.category).sum ≤ 8 := by
  have : (rest.map (am_rv b)).map (fun v => v.category) = rest.map fun v => v.category := by simp [Function.comp_def, am_rv_cat]
  rw [this]; exact h
theorem aw_cs {idx nL' np d' mc ms : Nat} {y : MethodName} {cc' : ByteArray} {ret' : Option FieldType} {As : List Value} {Q' : Option Value → List am_S → am_M → Prop} (hd : decode cc pc = .ok (.invokestatic idx, 3)) (hm : am_ml C.2.1 idx y cc' nL' ret' np) (hst : Cond.static y ∈ am_TB) (hM : am_MA C.1 y cc' nL' ret' d' mc ms As sh μ Q')
    (hS : S = As.reverse ++ rest) (hn : As.length = np) (hw : (rest.map fun v => v.category).sum ≤ 8) (hfr : d' + 1 ≤ C.2.2.2.2.2.1.frames) (hlo : 100 * d' + 100 ≤ C.2.2.2.2.2.1.locals) (hcl : k + mc ≤ C.2.2.2.2.2.1.cells ∧ n + ms ≤ C.2.2.2.2.2.1.slots)
    (kk : ∀ v sh' μ', Q' v sh' μ' → am_W C cc (pc + 3) L (v.toList ++ rest) sh' μ' (k + mc) (n + ms)) : am_W C cc pc L S sh μ k n := by
  intro p e s m args below meth c F H locs ls hR hl hL
  refine am_after F hl hL (a := (As.map (am_rv C.1.2.2.1.size)).toArray) ?_ kk
  obtain ⟨hx, hb, hml, hr, hlk, hown, hts, hX, hnm⟩ := F
  obtain ⟨m1, m2, m3, m4, m5, m6, m7⟩ := hm
  exact va_runS (As := As.map (am_rv C.1.2.2.1.size)) ⟨hx, hb, hml, hown, hts⟩ hM ⟨callB_of np hts (am_goodIn m3) rfl rfl rfl (hts _ m2) (hts _ m1) ⟨m4, m5, m6⟩ ⟨hfr, by show 8 + (nL' + 11) + 100 * d' ≤ _; omega⟩, hts _ hst⟩ ⟨am_blind, fun U hU hW => ⟨rfl, hX.warm hW, by rw [hU]; exact hR⟩⟩ rfl (by rw [List.length_map]; exact hn) hL.1 (am_rev hS) (by show 2 * 0 + _ ≤ 8; have := am_cat (b := C.1.2.2.1.size) hw; omega) hd hcl
/-- of an object: a method that its class has -/
theorem aw_cv {idx nL' np d' mc ms a ci N : Nat} {rs : List (Option Value)} {r : vw_C} {y : MethodName} {cc' : ByteArray} {ret' : Option FieldType} {As : List Value} {Q' : Option Value → List am_S → am_M → Prop} (hd : decode cc pc = .ok (.invokevirtual idx, 3)) (hm : am_ml C.2.1 idx y cc' nL' ret' np) (hin : Cond.instanceMethod y ∈ am_TB) (hse : Cond.selects y.cls y y ∈ am_TB) (hM : am_MA C.1 y cc' nL' ret' d' mc ms (.ref a :: As) sh μ Q')
    (hc : sh[a]? = some (ci, N, rs)) (h100 : ci < 100) (hcl2 : vwCl[ci]? = some r) (hcn : r.1 = y.cls)
    (hS : S = As.reverse ++ .ref a :: rest) (hn : As.length = np) (hw : (rest.map fun v => v.category).sum ≤ 8) (hfr : d' + 1 ≤ C.2.2.2.2.2.1.frames) (hlo : 100 * d' + 100 ≤ C.2.2.2.2.2.1.locals) (hcl : k + mc ≤ C.2.2.2.2.2.1.cells ∧ n + ms ≤ C.2.2.2.2.2.1.slots)
    (kk : ∀ v sh' μ', Q' v sh' μ' → am_W C cc (pc + 3) L (v.toList ++ rest) sh' μ' (k + mc) (n + ms)) : am_W C cc pc L S sh μ k n := by
  intro p e s m args below meth c F H locs ls hR hl hL
  refine am_after F hl hL (a := (Value.ref (C.1.2.2.1.size + a) :: As.map (am_rv C.1.2.2.1.size)).toArray) ?_ kk
  obtain ⟨hx, hb, hml, hr, hlk, hown, hts, hX, hnm⟩ := F
  obtain ⟨m1, m2, m3, m4, m5, m6, m7⟩ := hm
  have hrecv : ∃ cell : Cell, H[C.1.2.2.1.size + a]? = some cell ∧ cell.vm.isStatics = false ∧ s.vm.findClass y.cls = some cell.cls := by
    rcases hR.2.2 a _ hc with ⟨-, r', hr', cell, q1, q2, q3, q4⟩ | ⟨hge, -⟩
    · have e : r' = r := Option.some.inj (hr'.symm.trans hcl2)
      subst e
      exact ⟨cell, q1, by rw [q3]; rfl, by rw [q2, ← hcn]; exact (hX.1.1 ci r' hcl2).2.1⟩
    · exact absurd hge (by simp; omega)
  exact va_runV (C := y.cls) (b := C.1.2.2.1.size + a) (As := As.map (am_rv C.1.2.2.1.size)) ⟨hx, hb, hml, hown, hts⟩ hM ⟨callB_of np hts (am_goodIn m3) rfl rfl rfl (hts _ m2) (hts _ m1) ⟨m4, m5, m6⟩ ⟨hfr, by show 8 + (nL' + 11) + 100 * d' ≤ _; omega⟩, hts _ hin, hts _ hse⟩ ⟨am_blind, hrecv, fun U hU hW => ⟨rfl, hX.warm hW, by rw [hU]; exact hR⟩⟩ rfl (by rw [List.length_map]; exact hn) hL.1 (by show S.map _ = _; rw [hS]; simp [am_rv]) (by show 2 * 0 + _ ≤ 8; have := am_cat (b := C.1.2.2.1.size) hw; omega) hd hcl
/-- a constructor -/
theorem aw_ci {idx nL' np d' mc ms a : Nat} {y : MethodName} {cc' : ByteArray} {As : List Value} {Q' : Option Value → List am_S → am_M → Prop} (hd : decode cc pc = .ok (.invokespecial idx, 3)) (hm : am_ml C.2.1 idx y cc' nL' none np) (hin : Cond.instanceMethod y ∈ am_TB) (hy : y.name = "<init>") (hM : am_MA C.1 y cc' nL' none d' mc ms (.ref a :: As) sh μ Q')
    (hS : S = As.reverse ++ .ref a :: rest) (hn : As.length = np) (hw : (rest.map fun v => v.category).sum ≤ 8) (hfr : d' + 1 ≤ C.2.2.2.2.2.1.frames) (hlo : 100 * d' + 100 ≤ C.2.2.2.2.2.1.locals) (hcl : k + mc ≤ C.2.2.2.2.2.1.cells ∧ n + ms ≤ C.2.2.2.2.2.1.slots)
    (kk : ∀ v sh' μ', Q' v sh' μ' → am_W C cc (pc + 3) L (v.toList ++ rest) sh' μ' (k + mc) (n + ms)) : am_W C cc pc L S sh μ k n := by
  intro p e s m args below meth c F H locs ls hR hl hL
  refine am_after F hl hL (a := (Value.ref (C.1.2.2.1.size + a) :: As.map (am_rv C.1.2.2.1.size)).toArray) ?_ kk
  obtain ⟨hx, hb, hml, hr, hlk, hown, hts, hX, hnm⟩ := F
  obtain ⟨m1, m2, m3, m4, m5, m6, m7⟩ := hm
  exact va_runI (b := C.1.2.2.1.size + a) (As := As.map (am_rv C.1.2.2.1.size)) ⟨hx, hb, hml, hown, hts⟩ hM ⟨callB_of np hts (am_goodIn m3) rfl rfl rfl (hts _ m2) (hts _ m1) ⟨m4, m5, m6⟩ ⟨hfr, by show 8 + (nL' + 11) + 100 * d' ≤ _; omega⟩, hy, hts _ hin⟩ ⟨am_blind, fun U hU hW => ⟨rfl, hX.warm hW, by rw [hU]; exact hR⟩⟩ rfl (by rw [List.length_map]; exact hn) hL.1 (by show S.map _ = _; rw [hS]; simp [am_rv]) (by show 2 * 0 + _ ≤ 8; have := am_cat (b := C.1.2.2.1.size) hw; omega) hd hcl
/-- a nest mate's private constructor -/
theorem aw_cn {idx nL' np d' mc ms a : Nat} {host : String} {y : MethodName} {cc' : ByteArray} {As : List Value} {Q' : Option Value → List am_S → am_M → Prop} (hd : decode cc pc = .ok (.invokespecial idx, 3)) (hq : (C.2.1, idx, y, host) ∈ am_nest) (hin : Cond.instanceMethod y ∈ am_TB) (hini : Cond.initialized y.cls ∈ am_TB) (hcode : Cond.code y cc' nL' none ∈ am_TB) (hy1 : y.cls ≠ "java/lang/invoke/MethodHandle" ∧ y.cls ≠ "java/lang/invoke/VarHandle" ∧ (parseMethodDescriptor y.desc).map (fun d => d.parameters.length) = some np) (h81 : nL' ≤ 81) (hy : y.name = "<init>") (hM : am_MA C.1 y cc' nL' none d' mc ms (.ref a :: As) sh μ Q')
    (hS : S = As.reverse ++ .ref a :: rest) (hn : As.length = np) (hw : (rest.map fun v => v.category).sum ≤ 8) (hfr : d' + 1 ≤ C.2.2.2.2.2.1.frames) (hlo : 100 * d' + 100 ≤ C.2.2.2.2.2.1.locals) (hcl : k + mc ≤ C.2.2.2.2.2.1.cells ∧ n + ms ≤ C.2.2.2.2.2.1.slots)
    (kk : ∀ v sh' μ', Q' v sh' μ' → am_W C cc (pc + 3) L (v.toList ++ rest) sh' μ' (k + mc) (n + ms)) : am_W C cc pc L S sh μ k n := by
  intro p e s m args below meth c F H locs ls hR hl hL
  refine am_after F hl hL (a := (Value.ref (C.1.2.2.1.size + a) :: As.map (am_rv C.1.2.2.1.size)).toArray) ?_ kk
  obtain ⟨hx, hb, hml, hr, hlk, hown, hts, hX, hnm⟩ := F
  exact va_runIN (host := host) (b := C.1.2.2.1.size + a) (As := As.map (am_rv C.1.2.2.1.size)) ⟨hx, hb, hml, hown, hts⟩ hM ⟨va_cnB np hts (am_goodIn hcode) rfl rfl rfl (hX.2.1 _ hq) (hts _ hini) hy1 ⟨hfr, by show 8 + (nL' + 11) + 100 * d' ≤ _; omega⟩, hy, hts _ hin⟩ ⟨am_blind, fun U hU hW => ⟨rfl, hX.warm hW, by rw [hU]; exact hR⟩⟩ rfl (by rw [List.length_map]; exact hn) hL.1 (by show S.map _ = _; rw [hS]; simp [am_rv]) (by show 2 * 0 + _ ≤ 8; have := am_cat (b := C.1.2.2.1.size) hw; omega) hd hcl
/-- Object's own constructor -/
theorem aw_obj {a idx : Nat} (hd : decode cc pc = .ok (.invokespecial idx, 3)) (hl1 : Cond.methodLink C.2.1 idx objectInit ∈ am_TB) (hl2 : Cond.instanceMethod objectInit ∈ am_TB) (hl3 : Cond.code objectInit ⟨#[0xb1]⟩ 1 none ∈ am_TB) (hfr : 1 ≤ C.2.2.2.2.2.1.frames) (hlo : 100 ≤ C.2.2.2.2.2.1.locals) (hw : ((S.map (am_rv C.1.2.2.1.size)).map fun v => v.category).sum ≤ 8)
    (kk : am_W C cc (pc + 3) L S sh μ k n) : am_W C cc pc L (.ref a :: S) sh μ k n := by
  intro p e s m args below meth c F H locs ls hR hl hL
  have kk := kk p e s m args below meth c F H locs ls hR hl hL
  obtain ⟨hx, hb, hml, hr, hlk, hown, hts, hX, hnm⟩ := F
  exact W.objInit hx hb hown (hts _ hl1) (hts _ hl2) (hts _ hl3) rfl (hL.1.trans hml.symm) rfl hd hfr (by show 2 * 0 + _ + 12 ≤ _; omega) kk
end AC
