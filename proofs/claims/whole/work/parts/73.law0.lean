/-! ===== the law: the skeleton's words, and what holds at its start ===== -/
/-! THE CLAIM OUT OF ONE WALK OF THE LAW'S BODY. Your part is whole_start (and what it stands on); all else here is the same for every law, but numbers. -/
def R_law : String := "PaperSkyLaw"
def lw_P (b : Addr) (xs : List Int32) (args : Array Value) (s : State) : Prop := args = #[.ref b] ∧ s.IntsAt b xs ∧ xs.length ≤ 384 ∧ (Jvm.Cond.and given_1 narrow_1).before args s = true
def lw_Q (_ : Array Value) (s : State) (o : Outcome) (t : State) : Prop := o = .returned (some (.int 1)) ∧ Framed s o t [] 600000 7302250
def lw_Z (below : List Frame) (a : Array Value) (s : State) : State → Prop := fun t => ∃ o, t.status = .running ∧ Ended t below o ∧ lw_Q a s o t
/-- the law's own end, with 1 on the stack, nothing written that was there before, its room as the claim has it -/
theorem lw_ret {p : Program} {l : Launch} {e : Env} {s : State} {m : MethodId} {below : List Frame} {meth : Method} {c : Code} {b : Nat} (hx : p.tables.exec = Jvm.exec) (hb : c.code = code) (hr : meth.sig.returnType = ret) (hlocks : meth.locks = false) {pc : Nat} {H : Heap} {ls : Array Slot} (hdg : decode code pc = .ok (.ireturn, 1)) : W p l e room_1 s m #[Value.ref b] below meth c H [] 600000 7302250 (lw_Z below #[Value.ref b] s) (F0 m pc ls [.int 1]) := by
  intro T hT X
  obtain ⟨fs, hret, hrun, hended, hW, hframe⟩ := X.leave (v := some (.int 1)) (hlocks := hlocks) (fun h => by rw [hr] at h; cases h)
  have hmeth' : T.vm.method? m = some meth := X.method'
  refine ⟨T.setFrames fs, ?_, .returned (some (.int 1)), hrun, hended, rfl, ⟨_, rfl⟩, hW, hframe⟩
  jvm_step X.here [X.here.top, hx, hb, hdg, hmeth', hr, ret, narrow_b1]
  (try refine ⟨rfl, ?_⟩); (try refine ⟨rfl, ?_⟩)
  first | (intro acts; rw [hret _ acts rfl rfl rfl]) | rw [hret _ _ rfl rfl rfl]
  exact Steps.refl _
/-- what holds at the law's entry: the machine, the code, the tables' words (any of lw_tbl by 'hts w (by decide +kernel)'), the script of L ints xs at the cell b, what the Statement gives of the start (any of its parts by flat_of_before) -/
def lw_At (p : Program) (s : State) (m : MethodId) (meth : Method) (c : Code) (b L : Nat) (xs : Nat → Int32) : Prop :=
  p.tables.exec = Jvm.exec ∧ c.code = code ∧ meth.sig.returnType = ret ∧ c.maxLocals = 4 ∧ s.vm.findClass R_law = some m.cls ∧ (∀ w ∈ lw_tbl, w.before #[Value.ref b] s = true) ∧ va_X b L xs s s.heap ∧ b < s.heap.size ∧ meth.locks = false ∧ (Jvm.Cond.and given_1 narrow_1).before #[Value.ref b] s = true
set_option maxRecDepth 100000 in
set_option maxHeartbeats 4000000 in
theorem lw_amX {p : Program} {s : State} {m : MethodId} {meth : Method} {c : Code} {b L : Nat} {xs : Nat → Int32} (l : Launch) (C0 : lw_At p s m meth c b L xs) : ∃ G : am_G, G.2.2.1 = s.heap ∧ G.2.2.2 = l ∧ am_X G s := by
  obtain ⟨hx, hb, hr, hml, hown, hts, hXs, hbl, hlocks, hgv⟩ := C0
  have htb : ∀ w ∈ am_TB, w.before #[Value.ref b] s = true := fun w hw => hts w (List.mem_filter.mp hw).1
  obtain ⟨c0, i0, k0⟩ := u_known (C := RX0) (T := TX0) (N := 3) (n := 3) htb in_X0 (htb _ nb_X0)
  obtain ⟨c1, i1, k1⟩ := u_known (C := RX1) (T := TX1) (N := 3) (n := 3) htb in_X1 (htb _ nb_X1)
  obtain ⟨c2, i2, k2⟩ := u_known (C := RX2) (T := TX2) (N := 5) (n := 5) htb in_X2 (htb _ nb_X2)
  obtain ⟨c3, i3, k3⟩ := u_known (C := RX4) (T := TX4) (N := 4) (n := 4) htb in_X4 (htb _ nb_X4)
  obtain ⟨c4, i4, k4⟩ := u_known (C := RX5) (T := TX5) (N := 9) (n := 9) htb in_X5 (htb _ nb_X5)
  obtain ⟨c5, i5, k5⟩ := u_known (C := RX6) (T := TX6) (N := 4) (n := 4) htb in_X6 (htb _ nb_X6)
  obtain ⟨c6, i6, k6⟩ := u_known (C := RX7) (T := TX7) (N := 10) (n := 10) htb in_X7 (htb _ nb_X7)
  obtain ⟨c7, i7, k7⟩ := u_known (C := RX8) (T := TX8) (N := 24) (n := 24) htb in_X8 (htb _ nb_X8)
  obtain ⟨a0, ka0, cp0, f0, g0, h0⟩ := Cond.arrayClass_spec (htb _ ac_int)
  obtain ⟨a1, ka1, cp1, f1, g1, h1⟩ := Cond.arrayClass_spec (htb _ ac_boolean)
  have o2 : (Cond.arrayOver (.object RX4)).before #[Value.ref b] s = true := hts _ (List.mem_of_getElem? (i := 63) (by decide +kernel))
  have o3 : (Cond.arrayOver (.object RX5)).before #[Value.ref b] s = true := hts _ (List.mem_of_getElem? (i := 169) (by decide +kernel))
  have o4 : (Cond.arrayOver (.array .int)).before #[Value.ref b] s = true := hts _ (List.mem_of_getElem? (i := 191) (by decide +kernel))
  obtain ⟨cp2, a2, ka2, e2, -, g2, h2, f2⟩ := Cond.arrayOver_spec o2
  obtain ⟨cp3, a3, ka3, e3, -, g3, h3, f3⟩ := Cond.arrayOver_spec o3
  obtain ⟨cp4, a4, ka4, e4, -, g4, h4, f4⟩ := arrayOverA_spec o4
  have hA : ∀ a : Nat, a < s.heap.size → ¬ (fun q : Nat => s.heap.size ≤ q) a := fun a ha => Nat.not_le.mpr ha
  have flat := flat_of_before _ hgv
  have sa0 : (Cond.arrayOf (Term.static RX3 "NEAREST" "[I") .int).before #[Value.ref b] s = true := flat _ (by decide +kernel)
  have sl0 := va_eqt (flat (Cond.eq (.length (Term.static RX3 "NEAREST" "[I")) (.int 6)) (by decide +kernel))
  have se0 : ∀ j : Nat, j < 6 → (Term.elem (Term.static RX3 "NEAREST" "[I") (.int (Int32.ofNat j))).eval #[Value.ref b] s none [] s = some (.int (([0, 0, 1, 1, 0, 4] : List Int32).getD j 0)) := fun j hj => by
    have : j = 0 ∨ j = 1 ∨ j = 2 ∨ j = 3 ∨ j = 4 ∨ j = 5 := by omega
    rcases this with rfl | rfl | rfl | rfl | rfl | rfl
    · exact va_eqt (flat (Cond.eq (.elem (Term.static RX3 "NEAREST" "[I") (.int 0)) (.int 0)) (by decide +kernel))
    · exact va_eqt (flat (Cond.eq (.elem (Term.static RX3 "NEAREST" "[I") (.int 1)) (.int 0)) (by decide +kernel))
    · exact va_eqt (flat (Cond.eq (.elem (Term.static RX3 "NEAREST" "[I") (.int 2)) (.int 1)) (by decide +kernel))
    · exact va_eqt (flat (Cond.eq (.elem (Term.static RX3 "NEAREST" "[I") (.int 3)) (.int 1)) (by decide +kernel))
    · exact va_eqt (flat (Cond.eq (.elem (Term.static RX3 "NEAREST" "[I") (.int 4)) (.int 0)) (by decide +kernel))
    · exact va_eqt (flat (Cond.eq (.elem (Term.static RX3 "NEAREST" "[I") (.int 5)) (.int 4)) (by decide +kernel))
  obtain ⟨t0, u0, v0⟩ := va_Tof (N := 6) (f := fun j => .int (([0, 0, 1, 1, 0, 4] : List Int32).getD j 0)) (by decide) sa0 sl0 se0 hA
  have z0 : va_Z RX3 "NEAREST" "[I" (.ref t0) (fun q : Nat => s.heap.size ≤ q) s s.heap := va_Zof (hts (.laysStatic RX3 "NEAREST" "[I") (List.mem_of_getElem? (i := 691) (by decide +kernel))) (htb _ iw_X3) u0 hA
  have sa1 : (Cond.arrayOf (Term.static RX1 "SIZE_BODIES" "[I") .int).before #[Value.ref b] s = true := flat _ (by decide +kernel)
  have sl1 := va_eqt (flat (Cond.eq (.length (Term.static RX1 "SIZE_BODIES" "[I")) (.int 6)) (by decide +kernel))
  have se1 : ∀ j : Nat, j < 6 → (Term.elem (Term.static RX1 "SIZE_BODIES" "[I") (.int (Int32.ofNat j))).eval #[Value.ref b] s none [] s = some (.int (([10, 11, 12, 0, 13, 14] : List Int32).getD j 0)) := fun j hj => by
    have : j = 0 ∨ j = 1 ∨ j = 2 ∨ j = 3 ∨ j = 4 ∨ j = 5 := by omega
    rcases this with rfl | rfl | rfl | rfl | rfl | rfl
    · exact va_eqt (flat (Cond.eq (.elem (Term.static RX1 "SIZE_BODIES" "[I") (.int 0)) (.int 10)) (by decide +kernel))
    · exact va_eqt (flat (Cond.eq (.elem (Term.static RX1 "SIZE_BODIES" "[I") (.int 1)) (.int 11)) (by decide +kernel))
    · exact va_eqt (flat (Cond.eq (.elem (Term.static RX1 "SIZE_BODIES" "[I") (.int 2)) (.int 12)) (by decide +kernel))
    · exact va_eqt (flat (Cond.eq (.elem (Term.static RX1 "SIZE_BODIES" "[I") (.int 3)) (.int 0)) (by decide +kernel))
    · exact va_eqt (flat (Cond.eq (.elem (Term.static RX1 "SIZE_BODIES" "[I") (.int 4)) (.int 13)) (by decide +kernel))
    · exact va_eqt (flat (Cond.eq (.elem (Term.static RX1 "SIZE_BODIES" "[I") (.int 5)) (.int 14)) (by decide +kernel))
  obtain ⟨t1, u1, v1⟩ := va_Tof (N := 6) (f := fun j => .int (([10, 11, 12, 0, 13, 14] : List Int32).getD j 0)) (by decide) sa1 sl1 se1 hA
  have z1 : va_Z RX1 "SIZE_BODIES" "[I" (.ref t1) (fun q : Nat => s.heap.size ≤ q) s s.heap := va_Zof (hts (.laysStatic RX1 "SIZE_BODIES" "[I") (List.mem_of_getElem? (i := 708) (by decide +kernel))) (htb _ iw_X1) u1 hA
  have sa2 : (Cond.arrayOf (Term.static RX1 "MARK_BODIES" "[I") .int).before #[Value.ref b] s = true := flat _ (by decide +kernel)
  have sl2 := va_eqt (flat (Cond.eq (.length (Term.static RX1 "MARK_BODIES" "[I")) (.int 6)) (by decide +kernel))
  have se2 : ∀ j : Nat, j < 6 → (Term.elem (Term.static RX1 "MARK_BODIES" "[I") (.int (Int32.ofNat j))).eval #[Value.ref b] s none [] s = some (.int (([20, 21, 24, 22, 23, 0] : List Int32).getD j 0)) := fun j hj => by
    have : j = 0 ∨ j = 1 ∨ j = 2 ∨ j = 3 ∨ j = 4 ∨ j = 5 := by omega
    rcases this with rfl | rfl | rfl | rfl | rfl | rfl
    · exact va_eqt (flat (Cond.eq (.elem (Term.static RX1 "MARK_BODIES" "[I") (.int 0)) (.int 20)) (by decide +kernel))
    · exact va_eqt (flat (Cond.eq (.elem (Term.static RX1 "MARK_BODIES" "[I") (.int 1)) (.int 21)) (by decide +kernel))
    · exact va_eqt (flat (Cond.eq (.elem (Term.static RX1 "MARK_BODIES" "[I") (.int 2)) (.int 24)) (by decide +kernel))
    · exact va_eqt (flat (Cond.eq (.elem (Term.static RX1 "MARK_BODIES" "[I") (.int 3)) (.int 22)) (by decide +kernel))
    · exact va_eqt (flat (Cond.eq (.elem (Term.static RX1 "MARK_BODIES" "[I") (.int 4)) (.int 23)) (by decide +kernel))
    · exact va_eqt (flat (Cond.eq (.elem (Term.static RX1 "MARK_BODIES" "[I") (.int 5)) (.int 0)) (by decide +kernel))
  obtain ⟨t2, u2, v2⟩ := va_Tof (N := 6) (f := fun j => .int (([20, 21, 24, 22, 23, 0] : List Int32).getD j 0)) (by decide) sa2 sl2 se2 hA
  have z2 : va_Z RX1 "MARK_BODIES" "[I" (.ref t2) (fun q : Nat => s.heap.size ≤ q) s s.heap := va_Zof (hts (.laysStatic RX1 "MARK_BODIES" "[I") (List.mem_of_getElem? (i := 710) (by decide +kernel))) (htb _ iw_X1) u2 hA
  refine ⟨((fun k => if k = 0 then c0 else if k = 1 then c1 else if k = 2 then c2 else if k = 3 then c3 else if k = 4 then c4 else if k = 5 then c5 else if k = 6 then c6 else c7, fun k => if k = 0 then i0 else if k = 1 then i1 else if k = 2 then i2 else if k = 3 then i3 else if k = 4 then i4 else if k = 5 then i5 else if k = 6 then i6 else i7), (fun k => if k = 100 then a0 else if k = 101 then a1 else if k = 102 then a2 else if k = 103 then a3 else a4), s.heap, l), rfl, rfl, ⟨fun k q hq => ?_, fun k q hq => ?_⟩, ?_, ⟨va_AO.of o2, va_AO.of o3, o4⟩, ?_⟩
  · match k, hq with
    | 0, hq => cases hq; exact k0
    | 1, hq => cases hq; exact k1
    | 2, hq => cases hq; exact k2
    | 3, hq => cases hq; exact k3
    | 4, hq => cases hq; exact k4
    | 5, hq => cases hq; exact k5
    | 6, hq => cases hq; exact k6
    | 7, hq => cases hq; exact k7
    | k + 8, hq => simp [vwCl] at hq
  · match k, hq with
    | 0, hq =>
      cases hq
      exact ⟨fun n z => ⟨fun x => by simp [arrV], ka0, g0, cp0, h0⟩, f0⟩
    | 1, hq =>
      cases hq
      exact ⟨fun n z => ⟨fun x => by simp [arrV], ka1, g1, cp1, h1⟩, f1⟩
    | 2, hq =>
      cases hq
      exact ⟨fun n z => ⟨fun x => by simp [arrV], ka2, g2, cp2, h2⟩, ⟨ka2, cp2, g2, h2, e2, f2⟩⟩
    | 3, hq =>
      cases hq
      exact ⟨fun n z => ⟨fun x => by simp [arrV], ka3, g3, cp3, h3⟩, ⟨ka3, cp3, g3, h3, e3, f3⟩⟩
    | 4, hq =>
      cases hq
      exact ⟨fun n z => ⟨fun x => by simp [arrV], ka4, g4, cp4, h4⟩, f4⟩
    | k + 5, hq => simp [am_tys] at hq
  · exact List.forall_mem_cons.mpr ⟨va_Nw.of rfl (hts (.methodLinkNest RX7 15 yX4_init RX7) (List.mem_of_getElem? (i := 65) (by decide +kernel))), List.forall_mem_cons.mpr ⟨va_Nw.of rfl (hts (.methodLinkNest RX7 18 yX6_init RX7) (List.mem_of_getElem? (i := 89) (by decide +kernel))), List.forall_mem_cons.mpr ⟨va_Nw.of rfl (hts (.methodLinkNest RX7 25 yX5_init RX7) (List.mem_of_getElem? (i := 110) (by decide +kernel))), List.forall_mem_cons.mpr ⟨va_Nw.of rfl (hts (.methodLinkNest RX0 15 yX5_init RX7) (List.mem_of_getElem? (i := 170) (by decide +kernel))), List.forall_mem_cons.mpr ⟨va_Nw.of rfl (hts (.methodLinkNest RX2 13 yX5_init RX7) (List.mem_of_getElem? (i := 189) (by decide +kernel))), fun _ h => absurd h List.not_mem_nil⟩⟩⟩⟩⟩
  · exact List.forall_mem_cons.mpr ⟨⟨t0, z0, v0⟩, List.forall_mem_cons.mpr ⟨⟨t1, z1, v1⟩, List.forall_mem_cons.mpr ⟨⟨t2, z2, v2⟩, fun _ h => absurd h List.not_mem_nil⟩⟩⟩
