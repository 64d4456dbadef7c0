/-! ===== new int[2][M] ===== -/
def mn_O0 (cA : ClassId) : Cell := { cls := cA, slots := Array.replicate 2 .null }
def mn_O1 (cA : ClassId) (h0 : Nat) : Cell := (mn_O0 cA).setSlot 0 (.ref (h0 + 1))
def mn_O2 (cA : ClassId) (h0 : Nat) : Cell := (mn_O1 cA h0).setSlot 1 (.ref (h0 + 2))
def mn_I (cI : ClassId) (M : Nat) : Cell := { cls := cI, slots := Array.replicate M (.int 0) }
def mn_S0 (cA : ClassId) (s : State) : State := s.pushCell (mn_O0 cA)
def mn_S1 (cA cI : ClassId) (M : Nat) (s : State) : State := ((mn_S0 cA s).pushCell (mn_I cI M)).setCell s.heap.size (mn_O1 cA s.heap.size)
def mn_S2 (cA cI : ClassId) (M : Nat) (s : State) : State := ((mn_S1 cA cI M s).pushCell (mn_I cI M)).setCell s.heap.size (mn_O2 cA s.heap.size)
theorem mn_make1 {E : CtlPost} {e : Env} {d : Bool} {acts : List Action} {s : State} {cI c0 : ClassId} {kI : Class} {m : Int32} (hm : ¬ m < 0) (hki : s.vm.classes[cI]? = some kI) (hkindi : kI.kind = .array c0 .int) (hl2 : ¬ m.toNatClampNeg > e.platform.arrayLengthLimit) (hh2 : ¬ m.toNatClampNeg * componentBytes .int > e.platform.maxHeapBytes)
    (hc : s.heap.size < e.platform.maxCells) (hs : s.slotsUsed + m.toNatClampNeg ≤ e.platform.maxSlots) {Q : Addr → Pre} (hq : ∀ acts', Q s.heap.size d acts' (s.pushCell (mn_I cI m.toNatClampNeg))) : wp (Op.multianewarray.make cI [m]) Q E e d acts s := by
  rw [Op.multianewarray.make]
  simp only [wp_bind', W.ite, hm, if_false, wp_pure', W.theClass, hki, hkindi, Option.some.injEq, exists_eq_left']
  exact W.newArray_of hki hkindi hl2 hh2 hc hs rfl hq
theorem mn_O_facts (cA : ClassId) (h0 : Nat) : (mn_O0 cA).cls = cA ∧ (mn_O0 cA).vm = .none ∧ (mn_O0 cA).slots.size = 2 ∧ (mn_O1 cA h0).cls = cA ∧ (mn_O1 cA h0).vm = .none ∧ (mn_O1 cA h0).slots.size = 2 ∧ (mn_O2 cA h0).cls = cA ∧ (mn_O2 cA h0).vm = .none ∧ (mn_O2 cA h0).slots = #[.ref (h0 + 1), .ref (h0 + 2)] :=
  ⟨rfl, rfl, rfl, rfl, rfl, rfl, rfl, rfl, rfl⟩
theorem mn_S_facts (cA cI : ClassId) (M : Nat) (s : State) : ((mn_S0 cA s).heap.size = s.heap.size + 1 ∧ (mn_S0 cA s).heap[s.heap.size]? = some (mn_O0 cA) ∧ (mn_S0 cA s).vm = s.vm ∧ (mn_S0 cA s).slotsUsed = s.slotsUsed + 2) ∧ ((mn_S1 cA cI M s).heap.size = s.heap.size + 2 ∧ (mn_S1 cA cI M s).heap[s.heap.size]? = some (mn_O1 cA s.heap.size) ∧ (mn_S1 cA cI M s).vm = s.vm ∧ (mn_S1 cA cI M s).slotsUsed = s.slotsUsed + 2 + M) := by
  have a1 : (mn_S0 cA s).heap.size = s.heap.size + 1 := by simp [mn_S0]
  have a2 : (mn_S0 cA s).heap[s.heap.size]? = some (mn_O0 cA) := by simp [mn_S0]
  have a4 : (mn_S0 cA s).slotsUsed = s.slotsUsed + 2 := by simp [mn_S0, mn_O0]
  have hl : s.heap.size < (mn_S0 cA s).heap.size := by omega
  have b2 : ((mn_S0 cA s).pushCell (mn_I cI M)).heap[s.heap.size]? = some (mn_O0 cA) := by rw [State.heap_pushCell_of_lt (h := hl)]; exact a2
  refine ⟨⟨a1, a2, rfl, a4⟩, ?_, State.heap_setCell_self b2, rfl, ?_⟩
  · simp [mn_S1, State.setCell, a1]
  · simp [mn_S1, a4, mn_I]
set_option maxHeartbeats 4000000 in
theorem mn_make {E : CtlPost} {e : Env} {d : Bool} {acts : List Action} {s : State} {cA cI c0 : ClassId} {kA kI : Class} {m : Int32} (hm : ¬ m < 0) (hk : s.vm.classes[cA]? = some kA) (hkind : kA.kind = .array cI (.array .int)) (hki : s.vm.classes[cI]? = some kI) (hkindi : kI.kind = .array c0 .int)
    (hl1 : ¬ 2 > e.platform.arrayLengthLimit) (hh1 : ¬ 2 * componentBytes (.array .int) > e.platform.maxHeapBytes) (hl2 : ¬ m.toNatClampNeg > e.platform.arrayLengthLimit) (hh2 : ¬ m.toNatClampNeg * componentBytes .int > e.platform.maxHeapBytes)
    (hc : s.heap.size + 3 ≤ e.platform.maxCells) (hs : s.slotsUsed + (2 + 2 * m.toNatClampNeg) ≤ e.platform.maxSlots) {Q : Addr → Pre} (hq : ∀ d' acts', Q s.heap.size d' acts' (mn_S2 cA cI m.toNatClampNeg s)) : wp (Op.multianewarray.make cA [2, m]) Q E e d acts s := by
  rw [Op.multianewarray.make]
  simp only [wp_bind', W.ite, show ¬ (2 : Int32) < 0 by decide, if_false, wp_pure', W.theClass, hk, hkind, Option.some.injEq, exists_eq_left', show (2 : Int32).toNatClampNeg = 2 by decide]
  refine W.newArray_of hk hkind hl1 hh1 (by omega) (by omega) rfl (fun acts1 => ?_)
  rw [if_neg (by decide), wp_bind', Std.Legacy.Range.forIn_eq_forIn_range', show ([:2] : Std.Legacy.Range).size = 2 by decide, show List.range' ([:2] : Std.Legacy.Range).start 2 ([:2] : Std.Legacy.Range).step = [0, 1] by decide, List.forIn_cons]
  obtain ⟨⟨a1, a2, a3, a4⟩, b1, b2, b3, b4⟩ := mn_S_facts cA cI m.toNatClampNeg s
  have hl0 : s.heap.size < (mn_S0 cA s).heap.size := by omega
  have hl9 : s.heap.size < (mn_S1 cA cI m.toNatClampNeg s).heap.size := by omega
  simp only [wp_bind']
  refine mn_make1 (s := mn_S0 cA s) hm (by rw [a3]; exact hki) hkindi hl2 hh2 (by rw [a1]; omega) (by rw [a4]; omega) (fun acts2 => ?_)
  simp only [wp_bind', W.writeLoc, wp_pure']
  refine ⟨mn_O0 cA, by rw [State.heap_pushCell_of_lt (h := hl0)]; exact a2, by simp [mn_O0], by show 0 < 2; decide, by simp [State.fitsSlot, State.slotType?, mn_O0, a3, hk, hkind, fits], ?_⟩
  rw [a1]
  show wp (forIn [1] _ _) _ E e true _ (mn_S1 cA cI m.toNatClampNeg s)
  rw [List.forIn_cons]
  simp only [wp_bind']
  refine mn_make1 (s := mn_S1 cA cI m.toNatClampNeg s) hm (by rw [b3]; exact hki) hkindi hl2 hh2 (by rw [b1]; omega) (by rw [b4]; omega) (fun acts3 => ?_)
  simp only [wp_bind', W.writeLoc, wp_pure']
  refine ⟨mn_O1 cA s.heap.size, by rw [State.heap_pushCell_of_lt (h := hl9)]; exact b2, by simp [mn_O1, mn_O0, Cell.setSlot], by show 1 < 2; decide, by simp [State.fitsSlot, State.slotType?, mn_O1, mn_O0, Cell.setSlot, b3, hk, hkind, fits], ?_⟩
  rw [b1]
  exact hq _ _
section MN
variable {p : Program} {l : Launch} {e : Env} {R : Room} {s : State} {m : MethodId} {args : Array Value} {below : List Frame} {meth : Method} {c : Code} {H : Heap} {locs : List Loc} {cells slots : Nat} {Q : State → Prop}
set_option maxHeartbeats 4000000 in
theorem mn_W {cc : ByteArray} (hexec : p.tables.exec = Jvm.exec) (hb : c.code = cc) {own : String} {index : Nat} (hown : s.vm.findClass own = some m.cls) (hclink : (Cond.classLink own index "[[I").before args s = true) (hover : am_AA s) (harr : (Cond.arrayClass .int).before args s = true)
    {g : JFrame} (hg : g.method = m) (hdg : decode cc g.pc = .ok (.multianewarray index 2, 4)) {k : Int32} {rest : List Value} (hstack : g.stack = .int k :: .int 2 :: rest) (hk : ¬ k < 0) (hb2 : k.toNatClampNeg * 4 ≤ 536870912) (hcells : cells + 3 ≤ R.cells) (hslots : slots + (2 + 2 * k.toNatClampNeg) ≤ R.slots)
    (kk : ∀ (cA cI : ClassId) (H1 : Heap), s.vm.findClass "[[I" = some cA → s.vm.findClass "[I" = some cI → H1.size = H.size + 3 → (∀ q : Nat, q < H.size → H1[q]? = H[q]?) → H1[H.size]? = some (mn_O2 cA H.size) → H1[H.size + 1]? = some (mn_I cI k.toNatClampNeg) → H1[H.size + 2]? = some (mn_I cI k.toNatClampNeg) →
      W p l e R s m args below meth c H1 ((locs ++ [⟨H.size, 0⟩]) ++ [⟨H.size, 1⟩]) (cells + 1 + 1 + 1) (slots + 2 + k.toNatClampNeg + k.toNatClampNeg) Q { g with pc := g.pc + 4, stack := .ref H.size :: rest }) : W p l e R s m args below meth c H locs cells slots Q g := by
  intro T hT X
  subst hT; subst hb; subst hg
  have hpl : e.platform.magicAccessors = ({} : Platform).magicAccessors := by rw [X.admits.platform]
  obtain ⟨cI, cA, kA, hcomp, -, hkA, hkindA, hnameA⟩ := arrayOverA_spec hover
  obtain ⟨cI2, kC, c0, hcomp2, hkC, hkindC⟩ := Cond.arrayClass_spec harr
  have eI : cI2 = cI := Option.some.inj (hcomp2.symm.trans hcomp)
  subst eI
  obtain ⟨c1, hfc1, hcl⟩ := Cond.classLink_spec hown hclink e.platform hpl
  have eA : c1 = cA := Option.some.inj (hfc1.symm.trans hnameA)
  subst eA
  obtain ⟨hg1, hwarm, hready⟩ := State.classEntry (e := e) X.warmed hcl
  generalize T.vm.noted g.method.cls index (.cls c1) = vm1 at hg1 hwarm hready
  have hal : s.vm.Alike vm1 := hwarm.alike
  obtain ⟨kA1, hkA1, heA⟩ := hal.2.2 _ _ hkA
  obtain ⟨kC1, hkC1, heC⟩ := hal.2.2 _ _ hkC
  have hkindA1 : kA1.kind = .array cI2 (.array .int) := by rw [heA]; exact hkindA
  have hkindC1 : kC1.kind = .array c0 .int := by rw [heC]; exact hkindC
  have X1 := X.noted hwarm
  obtain ⟨hr1, hr2⟩ := X.roomAbove hcells hslots
  obtain ⟨⟨a1, a2, a3, a4⟩, b1, b2, b3, b4⟩ := mn_S_facts c1 cI2 k.toNatClampNeg (T.setVm vm1)
  have hsz : (T.setVm vm1).heap.size = T.heap.size := rfl
  rw [hsz] at a1 a2 b1 b2
  have hl0 : T.heap.size < (mn_S0 c1 (T.setVm vm1)).heap.size := by omega
  have hl9 : T.heap.size < (mn_S1 c1 cI2 k.toNatClampNeg (T.setVm vm1)).heap.size := by omega
  have X2 : Stand p l e R s g.method args below meth c (mn_S0 c1 (T.setVm vm1)) locs (cells + 1) (slots + 2) := X1.pushed (mn_O0 c1)
  have q2 : ((mn_S0 c1 (T.setVm vm1)).pushCell (mn_I cI2 k.toNatClampNeg)).heap[T.heap.size]? = some (mn_O0 c1) := by rw [State.heap_pushCell_of_lt (h := hl0)]; exact a2
  have eI9 : (mn_I cI2 k.toNatClampNeg).slots.size = k.toNatClampNeg := by simp [mn_I]
  have X3 : Stand p l e R s g.method args below meth c (mn_S1 c1 cI2 k.toNatClampNeg (T.setVm vm1)) (locs ++ [⟨T.heap.size, 0⟩]) (cells + 1 + 1) (slots + 2 + k.toNatClampNeg) := by
    have := (X2.pushed (mn_I cI2 k.toNatClampNeg)).stored q2 0 (.ref (T.heap.size + 1))
    rw [eI9] at this
    exact this
  have q3 : ((mn_S1 c1 cI2 k.toNatClampNeg (T.setVm vm1)).pushCell (mn_I cI2 k.toNatClampNeg)).heap[T.heap.size]? = some (mn_O1 c1 T.heap.size) := by rw [State.heap_pushCell_of_lt (h := hl9)]; exact b2
  have X4 : Stand p l e R s g.method args below meth c (mn_S2 c1 cI2 k.toNatClampNeg (T.setVm vm1)) ((locs ++ [⟨T.heap.size, 0⟩]) ++ [⟨T.heap.size, 1⟩]) (cells + 1 + 1 + 1) (slots + 2 + k.toNatClampNeg + k.toNatClampNeg) := by
    have := (X3.pushed (mn_I cI2 k.toNatClampNeg)).stored q3 1 (.ref (T.heap.size + 2))
    rw [eI9] at this
    exact this
  have h3 : (mn_S2 c1 cI2 k.toNatClampNeg (T.setVm vm1)).heap.size = T.heap.size + 3 := by
    simp [mn_S2, State.setCell, b1]
  have hself : (mn_S2 c1 cI2 k.toNatClampNeg (T.setVm vm1)).heap[T.heap.size]? = some (mn_O2 c1 T.heap.size) := State.heap_setCell_self q3
  have hoth : ∀ q : Nat, q ≠ T.heap.size → (mn_S2 c1 cI2 k.toNatClampNeg (T.setVm vm1)).heap[q]? = ((mn_S1 c1 cI2 k.toNatClampNeg (T.setVm vm1)).pushCell (mn_I cI2 k.toNatClampNeg)).heap[q]? := fun q hq => State.heap_setCell_other (Ne.symm hq)
  have hoth1 : ∀ q : Nat, q ≠ T.heap.size → (mn_S1 c1 cI2 k.toNatClampNeg (T.setVm vm1)).heap[q]? = ((mn_S0 c1 (T.setVm vm1)).pushCell (mn_I cI2 k.toNatClampNeg)).heap[q]? := fun q hq => State.heap_setCell_other (Ne.symm hq)
  have hold : ∀ q : Nat, q < T.heap.size → (mn_S2 c1 cI2 k.toNatClampNeg (T.setVm vm1)).heap[q]? = T.heap[q]? := fun q hq => by
    have g1 : q < (mn_S1 c1 cI2 k.toNatClampNeg (T.setVm vm1)).heap.size := by omega
    have g0 : q < (mn_S0 c1 (T.setVm vm1)).heap.size := by omega
    have gT : q < (T.setVm vm1).heap.size := hq
    rw [hoth q (by omega), State.heap_pushCell_of_lt (h := g1), hoth1 q (by omega), State.heap_pushCell_of_lt (h := g0)]
    show ((T.setVm vm1).pushCell (mn_O0 c1)).heap[q]? = _
    rw [State.heap_pushCell_of_lt (h := gT)]
    rfl
  have hi1 : (mn_S2 c1 cI2 k.toNatClampNeg (T.setVm vm1)).heap[T.heap.size + 1]? = some (mn_I cI2 k.toNatClampNeg) := by
    have g1 : T.heap.size + 1 < (mn_S1 c1 cI2 k.toNatClampNeg (T.setVm vm1)).heap.size := by omega
    rw [hoth _ (by omega), State.heap_pushCell_of_lt (h := g1), hoth1 _ (by omega), ← a1]
    exact State.heap_pushCell_size _ _
  have hi2 : (mn_S2 c1 cI2 k.toNatClampNeg (T.setVm vm1)).heap[T.heap.size + 2]? = some (mn_I cI2 k.toNatClampNeg) := by
    rw [hoth _ (by omega), ← b1]
    exact State.heap_pushCell_size _ _
  obtain ⟨t, u1, u2⟩ := kk c1 cI2 (mn_S2 c1 cI2 k.toNatClampNeg (T.setVm vm1)).heap hnameA hcomp h3 hold hself hi1 hi2 (mn_S2 c1 cI2 k.toNatClampNeg (T.setVm vm1)) rfl X4
  refine ⟨t, ?_, u2⟩
  have hl1 : ¬ 2 > e.platform.arrayLengthLimit := by rw [Launch.admits_arrayLengthLimit X.admits]; omega
  have hh1 : ¬ 2 * componentBytes (.array .int) > e.platform.maxHeapBytes := by
    rw [Launch.admits_maxHeapBytes X.admits]; show ¬ 2 * 4 > 536870912; omega
  have hl2 : ¬ k.toNatClampNeg > e.platform.arrayLengthLimit := by rw [Launch.admits_arrayLengthLimit X.admits]; omega
  have hh2 : ¬ k.toNatClampNeg * componentBytes .int > e.platform.maxHeapBytes := by rw [Launch.admits_maxHeapBytes X.admits]; show ¬ _ * 4 > _; omega
  jvm_step X.here [hexec, hdg]
  simp only [Op.multianewarray.sem, wp_bind', W.resolveClassAt_links (State.method?_setTop g X.here.top) hg1]
  rw [W.popN, if_neg (by decide)]
  refine ⟨g, State.topJava?_setTop' (s := T.setVm vm1) g X.here.top, [.int 2, .int k], rest, rfl, hstack, ?_⟩
  simp only [List.mapM_cons, List.mapM_nil, wp_bind', wp_pure']
  have eS : ((T.setTop g).setVm vm1).setTop { g with stack := rest } = (T.setVm vm1).setTop { g with stack := rest } := by
    show ((T.setVm vm1).setTop g).setTop _ = _
    rw [State.setTop_setTop]
  rw [eS]
  refine mn_make (kA := kA1) (kI := kC1) (cI := cI2) (c0 := c0) hk hkA1 hkindA1 hkC1 hkindC1 hl1 hh1 hl2 hh2 (by show T.heap.size + 3 ≤ _; omega) (by show T.slotsUsed + _ ≤ _; omega) (fun d' acts' => ?_)
  have eF : mn_S2 c1 cI2 k.toNatClampNeg ((T.setVm vm1).setTop { g with stack := rest }) = (mn_S2 c1 cI2 k.toNatClampNeg (T.setVm vm1)).setTop { g with stack := rest } := by
    simp only [mn_S2, mn_S1, mn_S0, State.heap_setTop, State.pushCell_setTop, State.setCell_setTop]
  rw [eF]
  simp only [wp_bind', W.mark, W.pushRef, State.topJava?_setTop' _ X4.here.top, Option.some.injEq, exists_eq_left', State.setTop_setTop, State.heap_setTop]
  intro acts9
  simp [jvm, X4.here.top]
  exact u1
end MN
