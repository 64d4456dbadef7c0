/-- a method's fixed things: the machine's; its class, its name, its locals, what it answers, its room, the cells and slots it makes, what it owes -/
abbrev am_C : Type := am_G × String × String × Nat × Option FieldType × Room × Nat × Nat × (Option Value → List am_S → am_M → Prop)
def am_F (C : am_C) (cc : ByteArray) (p : Program) (s : State) (m : MethodId) (args : Array Value) (meth : Method) (c : Code) : Prop :=
  p.tables.exec = Jvm.exec ∧ c.code = cc ∧ c.maxLocals = C.2.2.2.1 ∧ meth.sig.returnType = C.2.2.2.2.1 ∧ meth.locks = false ∧ s.vm.findClass C.2.1 = some m.cls ∧ (∀ w ∈ am_TB, w.before args s = true) ∧ am_X C.1 s ∧ meth.name = C.2.2.1
/-- what a method's end must be -/
def am_Q (G : am_G) (Q : Option Value → List am_S → am_M → Prop) : Array Value → State → Outcome → State → Prop := fun _ _ oc t =>
  ∃ (v : Option Value) (sh : List am_S) (μ : am_M), oc = .returned (v.map (am_rv G.2.2.1.size)) ∧ Q v sh μ ∧ am_X G t ∧ am_R G sh μ t.heap
def am_W (C : am_C) (cc : ByteArray) (pc : Nat) (L : am_L) (S : List Value) (sh : List am_S) (μ : am_M) (k n : Nat) : Prop :=
  ∀ (p : Program) (e : Env) (s : State) (m : MethodId) (args : Array Value) (below : List Frame) (meth : Method) (c : Code), am_F C cc p s m args meth c → ∀ (H : Heap) (locs : List Loc) (ls : Array Slot), am_R C.1 sh μ H → (∀ q ∈ locs, C.1.2.2.1.size ≤ q.base) → lv_has ls C.2.2.2.1 (am_pl C.1.2.2.1.size L) →
    W p C.1.2.2.2 e C.2.2.2.2.2.1 s m args below meth c H locs k n (MQ below (am_Q C.1 C.2.2.2.2.2.2.2.2) args s C.2.2.2.2.2.2.1 C.2.2.2.2.2.2.2.1 (fun q => C.1.2.2.1.size ≤ q)) (F0 m pc ls (S.map (am_rv C.1.2.2.1.size)))
/-- a contract: from these arguments, cells and ints the method returns, and Q holds of its answer, cells and ints -/
def am_MA (G : am_G) (y : MethodName) (cc : ByteArray) (nL : Nat) (ret : Option FieldType) (d mc ms : Nat) (As : List Value) (sh : List am_S) (μ : am_M) (Q : Option Value → List am_S → am_M → Prop) : Prop :=
  Met G.2.2.2 y (Cond.code y cc nL ret :: am_TB) { frames := d, cells := mc, slots := ms, locals := 100 * d } (va_Pc (As.map (am_rv G.2.2.1.size)) (fun U => am_X G U ∧ am_R G sh μ U.heap)) (am_Q G Q) mc ms (fun q => G.2.2.1.size ≤ q)
set_option maxHeartbeats 1000000 in
theorem am_of {G : am_G} {y : MethodName} {cc : ByteArray} {nL : Nat} {ret : Option FieldType} {d mc ms : Nat} {As : List Value} {sh : List am_S} {μ : am_M} {Q : Option Value → List am_S → am_M → Prop} (hy : plainName y.cls = true) (hn : (As.map fun v => v.category).sum ≤ nL)
    (h : am_W (G, y.cls, y.name, nL, ret, { frames := d, cells := mc, slots := ms, locals := 100 * d }, mc, ms, Q) cc 0 (am_ent As nL) [] sh μ 0 0) : am_MA G y cc nL ret d mc ms As sh μ Q := by
  refine Met.ofW (cc := cc) (maxL := nL) (ret := ret) hy rfl ?_
  intro p e s m args below meth c s₁ B hml hv
  obtain ⟨rfl, hX, hR⟩ := hv
  have hts := atoms_spec (ws := Cond.code y cc nL ret :: am_TB) B.pre
  have hlen : ∀ vs : List Value, (lg_sl (vs.map (am_rv G.2.2.1.size))).length = (vs.map fun v => v.category).sum := by
    intro vs
    induction vs with
    | nil => rfl
    | cons v vs ih =>
      have h1 : lg_sl ((v :: vs).map (am_rv G.2.2.1.size)) = (if (am_rv G.2.2.1.size v).category = 2 then [Slot.val (am_rv G.2.2.1.size v), .second] else [.val (am_rv G.2.2.1.size v)]) ++ lg_sl (vs.map (am_rv G.2.2.1.size)) := rfl
      rw [h1, List.length_append, ih, am_rv_cat]
      simp only [List.map_cons, List.sum_cons]
      rcases lv_cat v with hc | hc <;> simp [hc]
  have hl := lv_entry (As.map (am_rv G.2.2.1.size)) (n := nL) (by rw [hlen]; exact hn)
  rw [lg_entry_eq]
  generalize (lg_sl (As.map (am_rv G.2.2.1.size)) ++ List.replicate (nL - (lg_sl (As.map (am_rv G.2.2.1.size))).length) Slot.unset).toArray = ls at hl ⊢
  refine h p e s m _ below meth c ⟨B.exec, B.bytes, hml, B.returns, B.notSynchronized, findClass_of_methodNamed B.named, fun w hw => hts w (List.mem_cons_of_mem _ hw), hX, (name_of_methodNamed B.named B.method).1⟩ s.heap [] ls hR (fun q hq => by cases hq) ?_
  refine ⟨hl.1, hl.2.1, fun q hq => hl.2.2 q ?_⟩
  obtain ⟨w, h1, h2⟩ := am_pl_of hq
  have h3 := am_ent_of G.2.2.1.size As nL q.1 0 w h1
  rw [Nat.zero_add] at h3
  have : q = (q.1, am_rv G.2.2.1.size w) := Prod.ext rfl h2
  rw [this]
  exact h3
section AW
variable {C : am_C} {cc : ByteArray} {pc : Nat} {L : am_L} {S : List Value} {sh : List am_S} {μ : am_M} {k n : Nat}

theorem aw_iconst {z : Int} {v : Int32} (hd : decode cc pc = .ok (.iconst z, 1)) (hv : Int32.ofInt z = v) (kk : am_W C cc (pc + 1) L (.int v :: S) sh μ k n) : am_W C cc pc L (S) sh μ k n :=
  fun p e s m args below meth c F H locs ls hR hl hL => lv_iconst F.1 F.2.1 hd hv (kk p e s m args below meth c F H locs ls hR hl hL)
theorem aw_bipush {z : Int} {v : Int32} (hd : decode cc pc = .ok (.bipush z, 2)) (hv : (Int8.ofInt z).toInt32 = v) (kk : am_W C cc (pc + 2) L (.int v :: S) sh μ k n) : am_W C cc pc L (S) sh μ k n :=
  fun p e s m args below meth c F H locs ls hR hl hL => lv_bipush F.1 F.2.1 hd hv (kk p e s m args below meth c F H locs ls hR hl hL)
theorem aw_sipush {z : Int} {v : Int32} (hd : decode cc pc = .ok (.sipush z, 3)) (hv : (Int16.ofInt z).toInt32 = v) (kk : am_W C cc (pc + 3) L (.int v :: S) sh μ k n) : am_W C cc pc L (S) sh μ k n :=
  fun p e s m args below meth c F H locs ls hR hl hL => lv_sipush F.1 F.2.1 hd hv (kk p e s m args below meth c F H locs ls hR hl hL)
theorem aw_lconst {z : Fin 2} {v : Int64} (hd : decode cc pc = .ok (.lconst z, 1)) (hv : Int64.ofNat (z : Nat) = v) (kk : am_W C cc (pc + 1) L (.long v :: S) sh μ k n) : am_W C cc pc L (S) sh μ k n :=
  fun p e s m args below meth c F H locs ls hR hl hL => lv_lconst F.1 F.2.1 hd hv (kk p e s m args below meth c F H locs ls hR hl hL)
theorem aw_ldc {i : Nat} {v : Int32} (hd : decode cc pc = .ok (.ldc i, 2)) (hw : Cond.constant C.2.1 i v ∈ am_TB) (kk : am_W C cc (pc + 2) L (.int v :: S) sh μ k n) : am_W C cc pc L (S) sh μ k n :=
  fun p e s m args below meth c F H locs ls hR hl hL => lv_ldc F.1 F.2.1 F.2.2.2.2.2.1 (F.2.2.2.2.2.2.1 _ hw) hd (kk p e s m args below meth c F H locs ls hR hl hL)
theorem aw_ldcw {i : Nat} {v : Int32} (hd : decode cc pc = .ok (.ldc_w i, 3)) (hw : Cond.constant C.2.1 i v ∈ am_TB) (kk : am_W C cc (pc + 3) L (.int v :: S) sh μ k n) : am_W C cc pc L (S) sh μ k n :=
  fun p e s m args below meth c F H locs ls hR hl hL => lv_ldcw F.1 F.2.1 F.2.2.2.2.2.1 (F.2.2.2.2.2.2.1 _ hw) hd (kk p e s m args below meth c F H locs ls hR hl hL)
theorem aw_ldc2 {i : Nat} {v : Int64} (hd : decode cc pc = .ok (.ldc2_w i, 3)) (hw : Cond.constantLong C.2.1 i v ∈ am_TB) (kk : am_W C cc (pc + 3) L (.long v :: S) sh μ k n) : am_W C cc pc L (S) sh μ k n :=
  fun p e s m args below meth c F H locs ls hR hl hL => lv_ldc2 F.1 F.2.1 F.2.2.2.2.2.1 (F.2.2.2.2.2.2.1 _ hw) hd (kk p e s m args below meth c F H locs ls hR hl hL)
theorem aw_iload_n {j : Fin 4} {x : Int32} (hd : decode cc pc = .ok (.iload_n j, 1)) (hg : am_gl L j = some (.int x)) (kk : am_W C cc (pc + 1) L (.int x :: S) sh μ k n) : am_W C cc pc L (S) sh μ k n :=
  fun p e s m args below meth c F H locs ls hR hl hL => lv_iload_n F.1 F.2.1 hd rfl (hL.2.2 _ (am_pl_mem hg)) (kk p e s m args below meth c F H locs ls hR hl hL)
theorem aw_iload {j : Nat} {x : Int32} (hd : decode cc pc = .ok (.iload j, 2)) (hg : am_gl L j = some (.int x)) (kk : am_W C cc (pc + 2) L (.int x :: S) sh μ k n) : am_W C cc pc L (S) sh μ k n :=
  fun p e s m args below meth c F H locs ls hR hl hL => lv_iload F.1 F.2.1 hd (hL.2.2 _ (am_pl_mem hg)) (kk p e s m args below meth c F H locs ls hR hl hL)
theorem aw_istore_n {j : Fin 4} {x : Int32} (hd : decode cc pc = .ok (.istore_n j, 1)) (hj : (j : Nat) < C.2.2.2.1) (kk : am_W C cc (pc + 1) (am_sl L j (.int x)) (S) sh μ k n) : am_W C cc pc L (.int x :: S) sh μ k n :=
  fun p e s m args below meth c F H locs ls hR hl hL => lv_istore_n F.1 F.2.1 hd rfl hL hj rfl (fun ls' hl' => kk p e s m args below meth c F H locs ls' hR hl (am_has1 (v := .int x) hl'))
theorem aw_istore {j : Nat} {x : Int32} (hd : decode cc pc = .ok (.istore j, 2)) (hj : (j : Nat) < C.2.2.2.1) (kk : am_W C cc (pc + 2) (am_sl L j (.int x)) (S) sh μ k n) : am_W C cc pc L (.int x :: S) sh μ k n :=
  fun p e s m args below meth c F H locs ls hR hl hL => lv_istore F.1 F.2.1 hd hL hj rfl (fun ls' hl' => kk p e s m args below meth c F H locs ls' hR hl (am_has1 (v := .int x) hl'))
theorem aw_lload_n {j : Fin 4} {x : Int64} (hd : decode cc pc = .ok (.lload_n j, 1)) (hg : am_gl L j = some (.long x)) (kk : am_W C cc (pc + 1) L (.long x :: S) sh μ k n) : am_W C cc pc L (S) sh μ k n :=
  fun p e s m args below meth c F H locs ls hR hl hL => lv_lload_n F.1 F.2.1 hd rfl (hL.2.2 _ (am_pl_mem hg)) (kk p e s m args below meth c F H locs ls hR hl hL)
theorem aw_lload {j : Nat} {x : Int64} (hd : decode cc pc = .ok (.lload j, 2)) (hg : am_gl L j = some (.long x)) (kk : am_W C cc (pc + 2) L (.long x :: S) sh μ k n) : am_W C cc pc L (S) sh μ k n :=
  fun p e s m args below meth c F H locs ls hR hl hL => lv_lload F.1 F.2.1 hd (hL.2.2 _ (am_pl_mem hg)) (kk p e s m args below meth c F H locs ls hR hl hL)
theorem aw_lstore_n {j : Fin 4} {x : Int64} (hd : decode cc pc = .ok (.lstore_n j, 1)) (hj : (j : Nat) + 1 < C.2.2.2.1) (kk : am_W C cc (pc + 1) (am_s2 L j (.long x)) (S) sh μ k n) : am_W C cc pc L (.long x :: S) sh μ k n :=
  fun p e s m args below meth c F H locs ls hR hl hL => lv_lstore_n F.1 F.2.1 hd rfl hL hj rfl (fun ls' hl' => kk p e s m args below meth c F H locs ls' hR hl (am_has2 (v := .long x) hl'))
theorem aw_lstore {j : Nat} {x : Int64} (hd : decode cc pc = .ok (.lstore j, 2)) (hj : (j : Nat) + 1 < C.2.2.2.1) (kk : am_W C cc (pc + 2) (am_s2 L j (.long x)) (S) sh μ k n) : am_W C cc pc L (.long x :: S) sh μ k n :=
  fun p e s m args below meth c F H locs ls hR hl hL => lv_lstore F.1 F.2.1 hd hL hj rfl (fun ls' hl' => kk p e s m args below meth c F H locs ls' hR hl (am_has2 (v := .long x) hl'))
theorem aw_aload_n {j : Fin 4} {x : Nat} (hd : decode cc pc = .ok (.aload_n j, 1)) (hg : am_gl L j = some (.ref x)) (kk : am_W C cc (pc + 1) L (.ref x :: S) sh μ k n) : am_W C cc pc L (S) sh μ k n :=
  fun p e s m args below meth c F H locs ls hR hl hL => lv_aload_n F.1 F.2.1 hd rfl (hL.2.2 _ (am_pl_mem hg)) (kk p e s m args below meth c F H locs ls hR hl hL)
theorem aw_aload {j : Nat} {x : Nat} (hd : decode cc pc = .ok (.aload j, 2)) (hg : am_gl L j = some (.ref x)) (kk : am_W C cc (pc + 2) L (.ref x :: S) sh μ k n) : am_W C cc pc L (S) sh μ k n :=
  fun p e s m args below meth c F H locs ls hR hl hL => lv_aload F.1 F.2.1 hd (hL.2.2 _ (am_pl_mem hg)) (kk p e s m args below meth c F H locs ls hR hl hL)
theorem aw_astore_n {j : Fin 4} {x : Nat} (hd : decode cc pc = .ok (.astore_n j, 1)) (hj : (j : Nat) < C.2.2.2.1) (kk : am_W C cc (pc + 1) (am_sl L j (.ref x)) (S) sh μ k n) : am_W C cc pc L (.ref x :: S) sh μ k n :=
  fun p e s m args below meth c F H locs ls hR hl hL => lv_astore_n F.1 F.2.1 hd rfl hL hj rfl (fun ls' hl' => kk p e s m args below meth c F H locs ls' hR hl (am_has1 (v := .ref x) hl'))
theorem aw_astore {j : Nat} {x : Nat} (hd : decode cc pc = .ok (.astore j, 2)) (hj : (j : Nat) < C.2.2.2.1) (kk : am_W C cc (pc + 2) (am_sl L j (.ref x)) (S) sh μ k n) : am_W C cc pc L (.ref x :: S) sh μ k n :=
  fun p e s m args below meth c F H locs ls hR hl hL => lv_astore F.1 F.2.1 hd hL hj rfl (fun ls' hl' => kk p e s m args below meth c F H locs ls' hR hl (am_has1 (v := .ref x) hl'))
theorem aw_iadd {x y : Int32} (hd : decode cc pc = .ok (.iadd, 1)) (kk : am_W C cc (pc + 1) L (.int (x + y) :: S) sh μ k n) : am_W C cc pc L (.int y :: .int x :: S) sh μ k n :=
  fun p e s m args below meth c F H locs ls hR hl hL => lv_iadd F.1 F.2.1 hd (kk p e s m args below meth c F H locs ls hR hl hL)
theorem aw_isub {x y : Int32} (hd : decode cc pc = .ok (.isub, 1)) (kk : am_W C cc (pc + 1) L (.int (x - y) :: S) sh μ k n) : am_W C cc pc L (.int y :: .int x :: S) sh μ k n :=
  fun p e s m args below meth c F H locs ls hR hl hL => lv_isub F.1 F.2.1 hd (kk p e s m args below meth c F H locs ls hR hl hL)
theorem aw_imul {x y : Int32} (hd : decode cc pc = .ok (.imul, 1)) (kk : am_W C cc (pc + 1) L (.int (x * y) :: S) sh μ k n) : am_W C cc pc L (.int y :: .int x :: S) sh μ k n :=
  fun p e s m args below meth c F H locs ls hR hl hL => lv_imul F.1 F.2.1 hd (kk p e s m args below meth c F H locs ls hR hl hL)
theorem aw_iand {x y : Int32} (hd : decode cc pc = .ok (.iand, 1)) (kk : am_W C cc (pc + 1) L (.int (x &&& y) :: S) sh μ k n) : am_W C cc pc L (.int y :: .int x :: S) sh μ k n :=
  fun p e s m args below meth c F H locs ls hR hl hL => lv_iand F.1 F.2.1 hd (kk p e s m args below meth c F H locs ls hR hl hL)
theorem aw_ior {x y : Int32} (hd : decode cc pc = .ok (.ior, 1)) (kk : am_W C cc (pc + 1) L (.int (x ||| y) :: S) sh μ k n) : am_W C cc pc L (.int y :: .int x :: S) sh μ k n :=
  fun p e s m args below meth c F H locs ls hR hl hL => lv_ior F.1 F.2.1 hd (kk p e s m args below meth c F H locs ls hR hl hL)
theorem aw_idiv {x y : Int32} (hd : decode cc pc = .ok (.idiv, 1)) (h0 : ¬ y = 0) (kk : am_W C cc (pc + 1) L (.int (x / y) :: S) sh μ k n) : am_W C cc pc L (.int y :: .int x :: S) sh μ k n :=
  fun p e s m args below meth c F H locs ls hR hl hL => lv_idiv F.1 F.2.1 hd h0 (kk p e s m args below meth c F H locs ls hR hl hL)
theorem aw_irem {x y : Int32} (hd : decode cc pc = .ok (.irem, 1)) (h0 : ¬ y = 0) (kk : am_W C cc (pc + 1) L (.int (x - x / y * y) :: S) sh μ k n) : am_W C cc pc L (.int y :: .int x :: S) sh μ k n :=
  fun p e s m args below meth c F H locs ls hR hl hL => lv_irem F.1 F.2.1 hd h0 (kk p e s m args below meth c F H locs ls hR hl hL)
theorem aw_ineg {x : Int32} (hd : decode cc pc = .ok (.ineg, 1)) (kk : am_W C cc (pc + 1) L (.int (-x) :: S) sh μ k n) : am_W C cc pc L (.int x :: S) sh μ k n :=
  fun p e s m args below meth c F H locs ls hR hl hL => lv_ineg F.1 F.2.1 hd (kk p e s m args below meth c F H locs ls hR hl hL)
theorem aw_ishl {x y : Int32} (hd : decode cc pc = .ok (.ishl, 1)) (kk : am_W C cc (pc + 1) L (.int (x <<< (y &&& 31)) :: S) sh μ k n) : am_W C cc pc L (.int y :: .int x :: S) sh μ k n :=
  fun p e s m args below meth c F H locs ls hR hl hL => lv_ishl F.1 F.2.1 hd (kk p e s m args below meth c F H locs ls hR hl hL)
theorem aw_ishr {x y : Int32} (hd : decode cc pc = .ok (.ishr, 1)) (kk : am_W C cc (pc + 1) L (.int (x >>> (y &&& 31)) :: S) sh μ k n) : am_W C cc pc L (.int y :: .int x :: S) sh μ k n :=
  fun p e s m args below meth c F H locs ls hR hl hL => lv_ishr F.1 F.2.1 hd (kk p e s m args below meth c F H locs ls hR hl hL)
theorem aw_iushr {x y : Int32} (hd : decode cc pc = .ok (.iushr, 1)) (kk : am_W C cc (pc + 1) L (.int ((x.toUInt32 >>> (y.toUInt32 &&& Int32.toUInt32 31)).toInt32) :: S) sh μ k n) : am_W C cc pc L (.int y :: .int x :: S) sh μ k n :=
  fun p e s m args below meth c F H locs ls hR hl hL => lv_iushr F.1 F.2.1 hd rfl (kk p e s m args below meth c F H locs ls hR hl hL)
theorem aw_ladd {x y : Int64} (hd : decode cc pc = .ok (.ladd, 1)) (kk : am_W C cc (pc + 1) L (.long (x + y) :: S) sh μ k n) : am_W C cc pc L (.long y :: .long x :: S) sh μ k n :=
  fun p e s m args below meth c F H locs ls hR hl hL => lv_ladd F.1 F.2.1 hd (kk p e s m args below meth c F H locs ls hR hl hL)
theorem aw_lmul {x y : Int64} (hd : decode cc pc = .ok (.lmul, 1)) (kk : am_W C cc (pc + 1) L (.long (x * y) :: S) sh μ k n) : am_W C cc pc L (.long y :: .long x :: S) sh μ k n :=
  fun p e s m args below meth c F H locs ls hR hl hL => lv_lmul F.1 F.2.1 hd (kk p e s m args below meth c F H locs ls hR hl hL)
theorem aw_ldiv {x y : Int64} (hd : decode cc pc = .ok (.ldiv, 1)) (h0 : ¬ y = 0) (kk : am_W C cc (pc + 1) L (.long (x / y) :: S) sh μ k n) : am_W C cc pc L (.long y :: .long x :: S) sh μ k n :=
  fun p e s m args below meth c F H locs ls hR hl hL => lv_ldiv F.1 F.2.1 hd h0 (kk p e s m args below meth c F H locs ls hR hl hL)
theorem aw_lrem {x y : Int64} (hd : decode cc pc = .ok (.lrem, 1)) (h0 : ¬ y = 0) (kk : am_W C cc (pc + 1) L (.long (x - x / y * y) :: S) sh μ k n) : am_W C cc pc L (.long y :: .long x :: S) sh μ k n :=
  fun p e s m args below meth c F H locs ls hR hl hL => lv_lrem F.1 F.2.1 hd h0 (kk p e s m args below meth c F H locs ls hR hl hL)
theorem aw_lcmp {x y : Int64} (hd : decode cc pc = .ok (.lcmp, 1)) (kk : am_W C cc (pc + 1) L (.int (lg_cmp x y) :: S) sh μ k n) : am_W C cc pc L (.long y :: .long x :: S) sh μ k n :=
  fun p e s m args below meth c F H locs ls hR hl hL => W.lcmp F.1 F.2.1 hd (kk p e s m args below meth c F H locs ls hR hl hL)
theorem aw_i2l {x : Int32} (hd : decode cc pc = .ok (.i2l, 1)) (kk : am_W C cc (pc + 1) L (.long x.toInt64 :: S) sh μ k n) : am_W C cc pc L (.int x :: S) sh μ k n :=
  fun p e s m args below meth c F H locs ls hR hl hL => lv_i2l F.1 F.2.1 hd rfl (kk p e s m args below meth c F H locs ls hR hl hL)
theorem aw_l2i {x : Int64} (hd : decode cc pc = .ok (.l2i, 1)) (kk : am_W C cc (pc + 1) L (.int x.toInt32 :: S) sh μ k n) : am_W C cc pc L (.long x :: S) sh μ k n :=
  fun p e s m args below meth c F H locs ls hR hl hL => lv_l2i F.1 F.2.1 hd rfl (kk p e s m args below meth c F H locs ls hR hl hL)
theorem aw_i2b {x : Int32} (hd : decode cc pc = .ok (.i2b, 1)) (kk : am_W C cc (pc + 1) L (.int x.toInt8.toInt32 :: S) sh μ k n) : am_W C cc pc L (.int x :: S) sh μ k n :=
  fun p e s m args below meth c F H locs ls hR hl hL => lv_i2b F.1 F.2.1 hd rfl (kk p e s m args below meth c F H locs ls hR hl hL)
theorem aw_i2s {x : Int32} (hd : decode cc pc = .ok (.i2s, 1)) (kk : am_W C cc (pc + 1) L (.int x.toInt16.toInt32 :: S) sh μ k n) : am_W C cc pc L (.int x :: S) sh μ k n :=
  fun p e s m args below meth c F H locs ls hR hl hL => lv_i2s F.1 F.2.1 hd rfl (kk p e s m args below meth c F H locs ls hR hl hL)
theorem aw_dup {v : Value} (hd : decode cc pc = .ok (.dup, 1)) (h1 : v.category = 1) (kk : am_W C cc (pc + 1) L (v :: v :: S) sh μ k n) : am_W C cc pc L (v :: S) sh μ k n :=
  fun p e s m args below meth c F H locs ls hR hl hL => lv_dup F.1 F.2.1 hd ((am_rv_cat _ v).trans h1) (kk p e s m args below meth c F H locs ls hR hl hL)
theorem aw_dup2 {v w : Value} (hd : decode cc pc = .ok (.dup2, 1)) (h1 : v.category = 1) (h2 : w.category = 1) (kk : am_W C cc (pc + 1) L (v :: w :: v :: w :: S) sh μ k n) : am_W C cc pc L (v :: w :: S) sh μ k n :=
  fun p e s m args below meth c F H locs ls hR hl hL => lv_dup2_11 F.1 F.2.1 hd ((am_rv_cat _ v).trans h1) ((am_rv_cat _ w).trans h2) (kk p e s m args below meth c F H locs ls hR hl hL)
theorem aw_goto {off : Int} {tgt : Nat} (hd : decode cc pc = .ok (.goto off, 3)) (ht : (pc : Int) + off = (tgt : Int)) (kk : am_W C cc (tgt) L (S) sh μ k n) : am_W C cc pc L (S) sh μ k n :=
  fun p e s m args below meth c F H locs ls hR hl hL => lv_goto F.1 F.2.1 hd ht (kk p e s m args below meth c F H locs ls hR hl hL)
theorem aw_iinc {j : Nat} {z : Int} {x v : Int32} (hd : decode cc pc = .ok (.iinc j z, 3)) (hg : am_gl L j = some (.int x)) (hv : x + Int32.ofInt z = v) (hj : j < C.2.2.2.1) (kk : am_W C cc (pc + 3) (am_sl L j (.int v)) S sh μ k n) : am_W C cc pc L S sh μ k n := by
  intro p e s m args below meth c F H locs ls hR hl hL
  obtain ⟨i, hi⟩ := List.mem_iff_getElem?.mp (am_pl_mem (b := C.1.2.2.1.size) hg)
  exact lv_iinc F.1 F.2.1 hd hL hi hv hj rfl (fun ls' hl' => kk p e s m args below meth c F H locs ls' hR hl (am_has1 (v := .int v) hl'))
theorem aw_if_eq {x : Int32} {off : Int} {tgt : Nat} (hd : decode cc pc = .ok (.ifCond .eq off, 3)) (ht : (pc : Int) + off = (tgt : Int)) (kt : x = 0 → am_W C cc tgt L S sh μ k n) (kf : ¬ x = 0 → am_W C cc (pc + 3) L S sh μ k n) : am_W C cc pc L (.int x :: S) sh μ k n :=
  fun p e s m args below meth c F H locs ls hR hl hL => lv_if_eq F.1 F.2.1 hd ht (fun q => kt q p e s m args below meth c F H locs ls hR hl hL) (fun q => kf q p e s m args below meth c F H locs ls hR hl hL)
theorem aw_if_ne {x : Int32} {off : Int} {tgt : Nat} (hd : decode cc pc = .ok (.ifCond .ne off, 3)) (ht : (pc : Int) + off = (tgt : Int)) (kt : ¬ x = 0 → am_W C cc tgt L S sh μ k n) (kf : x = 0 → am_W C cc (pc + 3) L S sh μ k n) : am_W C cc pc L (.int x :: S) sh μ k n :=
  fun p e s m args below meth c F H locs ls hR hl hL => lv_if_ne F.1 F.2.1 hd ht (fun q => kt q p e s m args below meth c F H locs ls hR hl hL) (fun q => kf q p e s m args below meth c F H locs ls hR hl hL)
theorem aw_if_lt {x : Int32} {off : Int} {tgt : Nat} (hd : decode cc pc = .ok (.ifCond .lt off, 3)) (ht : (pc : Int) + off = (tgt : Int)) (kt : x < 0 → am_W C cc tgt L S sh μ k n) (kf : ¬ x < 0 → am_W C cc (pc + 3) L S sh μ k n) : am_W C cc pc L (.int x :: S) sh μ k n :=
  fun p e s m args below meth c F H locs ls hR hl hL => lv_if_lt F.1 F.2.1 hd ht (fun q => kt q p e s m args below meth c F H locs ls hR hl hL) (fun q => kf q p e s m args below meth c F H locs ls hR hl hL)
theorem aw_if_ge {x : Int32} {off : Int} {tgt : Nat} (hd : decode cc pc = .ok (.ifCond .ge off, 3)) (ht : (pc : Int) + off = (tgt : Int)) (kt : 0 ≤ x → am_W C cc tgt L S sh μ k n) (kf : ¬ 0 ≤ x → am_W C cc (pc + 3) L S sh μ k n) : am_W C cc pc L (.int x :: S) sh μ k n :=
  fun p e s m args below meth c F H locs ls hR hl hL => lv_if_ge F.1 F.2.1 hd ht (fun q => kt q p e s m args below meth c F H locs ls hR hl hL) (fun q => kf q p e s m args below meth c F H locs ls hR hl hL)
theorem aw_if_gt {x : Int32} {off : Int} {tgt : Nat} (hd : decode cc pc = .ok (.ifCond .gt off, 3)) (ht : (pc : Int) + off = (tgt : Int)) (kt : 0 < x → am_W C cc tgt L S sh μ k n) (kf : ¬ 0 < x → am_W C cc (pc + 3) L S sh μ k n) : am_W C cc pc L (.int x :: S) sh μ k n :=
  fun p e s m args below meth c F H locs ls hR hl hL => lv_if_gt F.1 F.2.1 hd ht (fun q => kt q p e s m args below meth c F H locs ls hR hl hL) (fun q => kf q p e s m args below meth c F H locs ls hR hl hL)
theorem aw_if_le {x : Int32} {off : Int} {tgt : Nat} (hd : decode cc pc = .ok (.ifCond .le off, 3)) (ht : (pc : Int) + off = (tgt : Int)) (kt : x ≤ 0 → am_W C cc tgt L S sh μ k n) (kf : ¬ x ≤ 0 → am_W C cc (pc + 3) L S sh μ k n) : am_W C cc pc L (.int x :: S) sh μ k n :=
  fun p e s m args below meth c F H locs ls hR hl hL => lv_if_le F.1 F.2.1 hd ht (fun q => kt q p e s m args below meth c F H locs ls hR hl hL) (fun q => kf q p e s m args below meth c F H locs ls hR hl hL)
theorem aw_icmp_eq {x y : Int32} {off : Int} {tgt : Nat} (hd : decode cc pc = .ok (.if_icmp .eq off, 3)) (ht : (pc : Int) + off = (tgt : Int)) (kt : x = y → am_W C cc tgt L S sh μ k n) (kf : ¬ x = y → am_W C cc (pc + 3) L S sh μ k n) : am_W C cc pc L (.int y :: .int x :: S) sh μ k n :=
  fun p e s m args below meth c F H locs ls hR hl hL => lv_icmp_eq F.1 F.2.1 hd ht (fun q => kt q p e s m args below meth c F H locs ls hR hl hL) (fun q => kf q p e s m args below meth c F H locs ls hR hl hL)
theorem aw_icmp_ne {x y : Int32} {off : Int} {tgt : Nat} (hd : decode cc pc = .ok (.if_icmp .ne off, 3)) (ht : (pc : Int) + off = (tgt : Int)) (kt : ¬ x = y → am_W C cc tgt L S sh μ k n) (kf : x = y → am_W C cc (pc + 3) L S sh μ k n) : am_W C cc pc L (.int y :: .int x :: S) sh μ k n :=
  fun p e s m args below meth c F H locs ls hR hl hL => lv_icmp_ne F.1 F.2.1 hd ht (fun q => kt q p e s m args below meth c F H locs ls hR hl hL) (fun q => kf q p e s m args below meth c F H locs ls hR hl hL)
theorem aw_icmp_lt {x y : Int32} {off : Int} {tgt : Nat} (hd : decode cc pc = .ok (.if_icmp .lt off, 3)) (ht : (pc : Int) + off = (tgt : Int)) (kt : x < y → am_W C cc tgt L S sh μ k n) (kf : ¬ x < y → am_W C cc (pc + 3) L S sh μ k n) : am_W C cc pc L (.int y :: .int x :: S) sh μ k n :=
  fun p e s m args below meth c F H locs ls hR hl hL => lv_icmp_lt F.1 F.2.1 hd ht (fun q => kt q p e s m args below meth c F H locs ls hR hl hL) (fun q => kf q p e s m args below meth c F H locs ls hR hl hL)
theorem aw_icmp_ge {x y : Int32} {off : Int} {tgt : Nat} (hd : decode cc pc = .ok (.if_icmp .ge off, 3)) (ht : (pc : Int) + off = (tgt : Int)) (kt : y ≤ x → am_W C cc tgt L S sh μ k n) (kf : ¬ y ≤ x → am_W C cc (pc + 3) L S sh μ k n) : am_W C cc pc L (.int y :: .int x :: S) sh μ k n :=
  fun p e s m args below meth c F H locs ls hR hl hL => lv_icmp_ge F.1 F.2.1 hd ht (fun q => kt q p e s m args below meth c F H locs ls hR hl hL) (fun q => kf q p e s m args below meth c F H locs ls hR hl hL)
theorem aw_icmp_gt {x y : Int32} {off : Int} {tgt : Nat} (hd : decode cc pc = .ok (.if_icmp .gt off, 3)) (ht : (pc : Int) + off = (tgt : Int)) (kt : y < x → am_W C cc tgt L S sh μ k n) (kf : ¬ y < x → am_W C cc (pc + 3) L S sh μ k n) : am_W C cc pc L (.int y :: .int x :: S) sh μ k n :=
  fun p e s m args below meth c F H locs ls hR hl hL => lv_icmp_gt F.1 F.2.1 hd ht (fun q => kt q p e s m args below meth c F H locs ls hR hl hL) (fun q => kf q p e s m args below meth c F H locs ls hR hl hL)
theorem aw_icmp_le {x y : Int32} {off : Int} {tgt : Nat} (hd : decode cc pc = .ok (.if_icmp .le off, 3)) (ht : (pc : Int) + off = (tgt : Int)) (kt : x ≤ y → am_W C cc tgt L S sh μ k n) (kf : ¬ x ≤ y → am_W C cc (pc + 3) L S sh μ k n) : am_W C cc pc L (.int y :: .int x :: S) sh μ k n :=
  fun p e s m args below meth c F H locs ls hR hl hL => lv_icmp_le F.1 F.2.1 hd ht (fun q => kt q p e s m args below meth c F H locs ls hR hl hL) (fun q => kf q p e s m args below meth c F H locs ls hR hl hL)
theorem aw_tableIn {dflt lo hi : Int} {offs : Array Int} {len : Nat} {x : Int32} {off : Int} {tgt : Nat} (hd : decode cc pc = .ok (.tableswitch dflt lo hi offs, len)) (h1 : ¬ x.toInt < lo) (h2 : ¬ hi < x.toInt) (ho : offs[(x.toInt - lo).toNat]? = some off) (ht : (pc : Int) + off = (tgt : Int)) (kk : am_W C cc tgt L S sh μ k n) : am_W C cc pc L (.int x :: S) sh μ k n :=
  fun p e s m args below meth c F H locs ls hR hl hL => lv_tableIn F.1 F.2.1 hd h1 h2 ho ht (kk p e s m args below meth c F H locs ls hR hl hL)
theorem aw_tableOut {dflt lo hi : Int} {offs : Array Int} {len : Nat} {x : Int32} {tgt : Nat} (hd : decode cc pc = .ok (.tableswitch dflt lo hi offs, len)) (h1 : x.toInt < lo ∨ hi < x.toInt) (ht : (pc : Int) + dflt = (tgt : Int)) (kk : am_W C cc tgt L S sh μ k n) : am_W C cc pc L (.int x :: S) sh μ k n :=
  fun p e s m args below meth c F H locs ls hR hl hL => lv_tableOut F.1 F.2.1 hd h1 ht (kk p e s m args below meth c F H locs ls hR hl hL)
theorem aw_lookup {dflt : Int} {ps : Array (Int × Int)} {len : Nat} {x : Int32} {off : Int} {tgt : Nat} (hd : decode cc pc = .ok (.lookupswitch dflt ps, len)) (hp : (ps.toList.zip (ps.toList.drop 1)).all (fun (a, next) => a.1 < next.1) = true) (ho : Op.lookupswitch.offset ps.toList dflt x.toInt = off) (ht : (pc : Int) + off = (tgt : Int)) (kk : am_W C cc tgt L S sh μ k n) : am_W C cc pc L (.int x :: S) sh μ k n :=
  fun p e s m args below meth c F H locs ls hR hl hL => lv_lookup F.1 F.2.1 hd hp ho ht (kk p e s m args below meth c F H locs ls hR hl hL)
end AW
