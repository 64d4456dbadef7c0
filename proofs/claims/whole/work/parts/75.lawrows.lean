/-! ===== the law's own rows: its locals raw (the script's cell is none of ours) ===== -/
/-- the law's frame: the machine, its code, its words, the script -/
def lw_C (G : am_G) (p : Program) (s : State) (m : MethodId) (meth : Method) (c : Code) (b Ln : Nat) (xs : Nat → Int32) : Prop :=
  p.tables.exec = Jvm.exec ∧ c.code = cL_law ∧ c.maxLocals = 4 ∧ s.vm.findClass RL = some m.cls ∧ (∀ w ∈ am_TB, w.before #[Value.ref b] s = true) ∧ am_X G s ∧ va_X b Ln xs s s.heap ∧ b < s.heap.size ∧ G.2.2.1 = s.heap
def lw_V (G : am_G) (p : Program) (e : Env) (s : State) (m : MethodId) (below : List Frame) (meth : Method) (c : Code) (b : Nat) (lv : List (Nat × Value)) (pc : Nat) (S : List Value) (sh : List am_S) (μ : am_M) (k n : Nat) : Prop :=
  ∀ (H : Heap) (locs : List Loc) (ls : Array Slot), am_R G sh μ H → (∀ q ∈ locs, G.2.2.1.size ≤ q.base) → lv_has ls 4 lv →
    W p G.2.2.2 e room_1 s m #[Value.ref b] below meth c H locs k n (lw_Z below #[Value.ref b] s) (F0 m pc ls (S.map (am_rv G.2.2.1.size)))
theorem nI_cmp6 {i Ln : Nat} (hi : i ≤ 400) (hL : Ln ≤ 384) : nI Ln - nI 6 < nI i ↔ Ln < i + 6 := by
  by_cases h : 6 ≤ Ln
  · rw [pk_sub h, nI_ltI (by omega) (by omega)]; omega
  · have ei : (nI i).toInt = (i : Int) := nI_toInt (by omega)
    rw [z_lt2, ei]
    have : Ln = 0 ∨ Ln = 1 ∨ Ln = 2 ∨ Ln = 3 ∨ Ln = 4 ∨ Ln = 5 := by omega
    rcases this with q | q | q | q | q | q <;> subst q
    · rw [show (nI 0 - nI 6).toInt = -6 by decide +kernel]; omega
    · rw [show (nI 1 - nI 6).toInt = -5 by decide +kernel]; omega
    · rw [show (nI 2 - nI 6).toInt = -4 by decide +kernel]; omega
    · rw [show (nI 3 - nI 6).toInt = -3 by decide +kernel]; omega
    · rw [show (nI 4 - nI 6).toInt = -2 by decide +kernel]; omega
    · rw [show (nI 5 - nI 6).toInt = -1 by decide +kernel]; omega
section LV
variable {G : am_G} {p : Program} {e : Env} {s : State} {m : MethodId} {below : List Frame} {meth : Method} {c : Code} {b Ln : Nat} {xs : Nat → Int32} {lv lv' : List (Nat × Value)} {pc : Nat} {S rest : List Value} {sh : List am_S} {μ : am_M} {k n : Nat}
theorem lw_S {locs : List Loc} {H : Heap} (F : lw_C G p s m meth c b Ln xs) (hR : am_R G sh μ H) (hl : ∀ q ∈ locs, G.2.2.1.size ≤ q.base) : va_S (fun q : Nat => G.2.2.1.size ≤ q) s.heap H locs := by
  have e9 := F.2.2.2.2.2.2.2.2
  refine ⟨by rw [← e9, hR.1]; omega, fun q hq _ => by rw [← e9]; exact hR.2.1 q (by rw [e9]; exact hq), hl⟩
theorem lw_bA (F : lw_C G p s m meth c b Ln xs) : ¬ (fun q : Nat => G.2.2.1.size ≤ q) b := by
  have := F.2.2.2.2.2.2.2.1
  rw [← F.2.2.2.2.2.2.2.2] at this
  exact Nat.not_le.mpr this
theorem lw_ref (F : lw_C G p s m meth c b Ln xs) {f : Fin 4} {i j a : Nat} (hd : decode cL_law pc = .ok (.aload_n f, 1)) (hf : (f : Nat) = i) (hk : lv[j]? = some (i, .ref (G.2.2.1.size + a))) (kk : lw_V G p e s m below meth c b lv (pc + 1) (.ref a :: S) sh μ k n) : lw_V G p e s m below meth c b lv pc S sh μ k n :=
  fun H locs ls hR hl hL => lv_aload_n F.1 F.2.1 hd hf (lv_at hL j hk) (kk H locs ls hR hl hL)
/-- script[i + c] -/
theorem lw_ldc (F : lw_C G p s m meth c b Ln xs) {i co j0 j3 : Nat} {ci : Int} (h0 : lv[j0]? = some (0, .ref b)) (h3 : lv[j3]? = some (3, .int (nI i))) (d1 : decode cL_law pc = .ok (.aload_n 0, 1)) (d2 : decode cL_law (pc + 1) = .ok (.iload_n 3, 1)) (d3 : decode cL_law (pc + 1 + 1) = .ok (.iconst ci, 1)) (d4 : decode cL_law (pc + 1 + 1 + 1) = .ok (.iadd, 1)) (d5 : decode cL_law (pc + 1 + 1 + 1 + 1) = .ok (.iaload, 1)) (hci : Int32.ofInt ci = nI co) (hlt : i + co < Ln) (hLn : Ln ≤ 384)
    (kk : lw_V G p e s m below meth c b lv (pc + 5) (.int (xs (i + co)) :: S) sh μ k n) : lw_V G p e s m below meth c b lv pc S sh μ k n := by
  intro H locs ls hR hl hL
  have kk := kk H locs ls hR hl hL
  have hi : (nI (i + co)).toNatClampNeg = i + co := nI_clamp (by omega)
  refine lv_aload_n F.1 F.2.1 d1 rfl (lv_at hL j0 h0) ?_
  refine lv_iload_n F.1 F.2.1 d2 rfl (lv_at hL j3 h3) ?_
  refine lv_iconst (v := nI co) F.1 F.2.1 d3 hci ?_
  refine lv_iadd F.1 F.2.1 d4 ?_
  rw [nI_add]
  refine va_sld F.1 F.2.1 F.2.2.2.2.2.2.1 F.2.2.2.2.2.2.2.1 (lw_bA F) (lw_S F hR hl) (fun q => ?_) d5 ?_
  · rw [hi] at q
    exact q.elim (nI_pos (by omega)) (by omega)
  · rw [hi]; exact kk
/-- script[i] -/
theorem lw_ld (F : lw_C G p s m meth c b Ln xs) {i j0 j3 : Nat} (h0 : lv[j0]? = some (0, .ref b)) (h3 : lv[j3]? = some (3, .int (nI i))) (d1 : decode cL_law pc = .ok (.aload_n 0, 1)) (d2 : decode cL_law (pc + 1) = .ok (.iload_n 3, 1)) (d5 : decode cL_law (pc + 1 + 1) = .ok (.iaload, 1)) (hlt : i < Ln) (hLn : Ln ≤ 384)
    (kk : lw_V G p e s m below meth c b lv (pc + 3) (.int (xs i) :: S) sh μ k n) : lw_V G p e s m below meth c b lv pc S sh μ k n := by
  intro H locs ls hR hl hL
  have kk := kk H locs ls hR hl hL
  have hi : (nI i).toNatClampNeg = i := nI_clamp (by omega)
  refine lv_aload_n F.1 F.2.1 d1 rfl (lv_at hL j0 h0) ?_
  refine lv_iload_n F.1 F.2.1 d2 rfl (lv_at hL j3 h3) ?_
  refine va_sld F.1 F.2.1 F.2.2.2.2.2.2.1 F.2.2.2.2.2.2.2.1 (lw_bA F) (lw_S F hR hl) (fun q => ?_) d5 ?_
  · rw [hi] at q
    exact q.elim (nI_pos (by omega)) (by omega)
  · rw [hi]; exact kk
/-- the loop's head -/
theorem lw_head (F : lw_C G p s m meth c b Ln xs) {i j0 j3 : Nat} (h0 : lv[j0]? = some (0, .ref b)) (h3 : lv[j3]? = some (3, .int (nI i))) (hi : i ≤ 400) (hLn : Ln ≤ 384)
    (kt : Ln < i + 6 → lw_V G p e s m below meth c b lv 1380 S sh μ k n) (kf : i + 6 ≤ Ln → lw_V G p e s m below meth c b lv 27 S sh μ k n) : lw_V G p e s m below meth c b lv 18 S sh μ k n := by
  intro H locs ls hR hl hL
  have hc := nI_cmp6 hi hLn
  refine lv_iload_n F.1 F.2.1 dL_law_18 rfl (lv_at hL j3 h3) ?_
  refine lv_aload_n F.1 F.2.1 dL_law_19 rfl (lv_at hL j0 h0) ?_
  refine va_slen F.1 F.2.1 F.2.2.2.2.2.2.1 F.2.2.2.2.2.2.2.1 (lw_bA F) (lw_S F hR hl) dL_law_20 ?_
  refine lv_bipush (v := nI 6) F.1 F.2.1 dL_law_21 rfl ?_
  refine lv_isub F.1 F.2.1 dL_law_23 ?_
  refine lv_icmp_gt (tgt := 1380) F.1 F.2.1 dL_law_24 (by decide) (fun q => ?_) (fun q => ?_)
  · exact kt (hc.mp q) H locs ls hR hl hL
  · have q2 : ¬ Ln < i + 6 := fun z => q (hc.mpr z)
    exact kf (by omega) H locs ls hR hl hL
theorem lw_and (F : lw_C G p s m meth c b Ln xs) {x : Int32} (kk : lw_V G p e s m below meth c b lv 33 (.int (x &&& nI 63) :: S) sh μ k n) : lw_V G p e s m below meth c b lv 30 (.int x :: S) sh μ k n := by
  intro H locs ls hR hl hL
  refine lv_bipush (v := nI 63) F.1 F.2.1 dL_law_30 rfl ?_
  exact lv_iand F.1 F.2.1 dL_law_32 (kk H locs ls hR hl hL)
theorem lw_tin (F : lw_C G p s m meth c b Ln xs) {dflt lo hi : Int} {offs : Array Int} {len : Nat} {x : Int32} {off : Int} {tgt : Nat} (hd : decode cL_law pc = .ok (.tableswitch dflt lo hi offs, len)) (h1 : ¬ x.toInt < lo) (h2 : ¬ hi < x.toInt) (ho : offs[(x.toInt - lo).toNat]? = some off) (ht : (pc : Int) + off = (tgt : Int)) (kk : lw_V G p e s m below meth c b lv tgt S sh μ k n) : lw_V G p e s m below meth c b lv pc (.int x :: S) sh μ k n :=
  fun H locs ls hR hl hL => lv_tableIn F.1 F.2.1 hd h1 h2 ho ht (kk H locs ls hR hl hL)
theorem lw_tout (F : lw_C G p s m meth c b Ln xs) {dflt lo hi : Int} {offs : Array Int} {len : Nat} {x : Int32} {tgt : Nat} (hd : decode cL_law pc = .ok (.tableswitch dflt lo hi offs, len)) (h1 : x.toInt < lo ∨ hi < x.toInt) (ht : (pc : Int) + dflt = (tgt : Int)) (kk : lw_V G p e s m below meth c b lv tgt S sh μ k n) : lw_V G p e s m below meth c b lv pc (.int x :: S) sh μ k n :=
  fun H locs ls hR hl hL => lv_tableOut F.1 F.2.1 hd h1 ht (kk H locs ls hR hl hL)
theorem lw_eq (F : lw_C G p s m meth c b Ln xs) {x : Int32} {off : Int} {tgt : Nat} (hd : decode cL_law pc = .ok (.if_icmp .eq off, 3)) (ht : (pc : Int) + off = (tgt : Int)) (kt : lw_V G p e s m below meth c b lv tgt S sh μ k n) : lw_V G p e s m below meth c b lv pc (.int x :: .int x :: S) sh μ k n :=
  fun H locs ls hR hl hL => lv_icmp_eq F.1 F.2.1 hd ht (fun _ => kt H locs ls hR hl hL) (fun q => absurd rfl q)
theorem lw_leq (F : lw_C G p s m meth c b Ln xs) {x : Int64} {off : Int} {tgt : Nat} (hd : decode cL_law pc = .ok (.lcmp, 1)) (hd2 : decode cL_law (pc + 1) = .ok (.ifCond .eq off, 3)) (ht : ((pc + 1 : Nat) : Int) + off = (tgt : Int)) (kt : lw_V G p e s m below meth c b lv tgt S sh μ k n) : lw_V G p e s m below meth c b lv pc (.long x :: .long x :: S) sh μ k n := by
  intro H locs ls hR hl hL
  refine W.lcmp F.1 F.2.1 hd ?_
  refine lv_if_eq F.1 F.2.1 hd2 ht (fun _ => kt H locs ls hR hl hL) (fun q => absurd ?_ q)
  unfold lg_cmp
  simp
theorem lw_ist (F : lw_C G p s m meth c b Ln xs) {f : Fin 4} {i : Nat} {x : Int32} (hd : decode cL_law pc = .ok (.istore_n f, 1)) (hf : (f : Nat) = i) (hn : i < 4) (hv : (i, Value.int x) :: lv.filter (fun q => !(q.1 == i) && !(q.1 + 1 == i && q.2.category == 2)) = lv') (kk : lw_V G p e s m below meth c b lv' (pc + 1) S sh μ k n) : lw_V G p e s m below meth c b lv pc (.int x :: S) sh μ k n :=
  fun H locs ls hR hl hL => lv_istore_n F.1 F.2.1 hd hf hL hn hv (fun ls' hL' => kk H locs ls' hR hl hL')
theorem lw_ast (F : lw_C G p s m meth c b Ln xs) {f : Fin 4} {i a : Nat} (hd : decode cL_law pc = .ok (.astore_n f, 1)) (hf : (f : Nat) = i) (hn : i < 4) (hv : (i, Value.ref (G.2.2.1.size + a)) :: lv.filter (fun q => !(q.1 == i) && !(q.1 + 1 == i && q.2.category == 2)) = lv') (kk : lw_V G p e s m below meth c b lv' (pc + 1) S sh μ k n) : lw_V G p e s m below meth c b lv pc (.ref a :: S) sh μ k n :=
  fun H locs ls hR hl hL => lv_astore_n F.1 F.2.1 hd hf hL hn hv (fun ls' hL' => kk H locs ls' hR hl hL')
theorem lw_inc (F : lw_C G p s m meth c b Ln xs) {i j : Nat} {z : Int} {x v : Int32} (hd : decode cL_law pc = .ok (.iinc i z, 3)) (hk : lv[j]? = some (i, .int x)) (hx : x + Int32.ofInt z = v) (hn : i < 4) (hv : (i, Value.int v) :: lv.filter (fun q => !(q.1 == i) && !(q.1 + 1 == i && q.2.category == 2)) = lv') (kk : lw_V G p e s m below meth c b lv' (pc + 3) S sh μ k n) : lw_V G p e s m below meth c b lv pc S sh μ k n :=
  fun H locs ls hR hl hL => lv_iinc F.1 F.2.1 hd hL hk hx hn hv (fun ls' hL' => kk H locs ls' hR hl hL')
theorem lw_goto (F : lw_C G p s m meth c b Ln xs) {off : Int} {tgt : Nat} (hd : decode cL_law pc = .ok (.goto off, 3)) (ht : (pc : Int) + off = (tgt : Int)) (kk : lw_V G p e s m below meth c b lv tgt S sh μ k n) : lw_V G p e s m below meth c b lv pc S sh μ k n :=
  fun H locs ls hR hl hL => lv_goto F.1 F.2.1 hd ht (kk H locs ls hR hl hL)
theorem lw_ic (F : lw_C G p s m meth c b Ln xs) {z : Int} {v : Int32} (hd : decode cL_law pc = .ok (.iconst z, 1)) (hv : Int32.ofInt z = v) (kk : lw_V G p e s m below meth c b lv (pc + 1) (.int v :: S) sh μ k n) : lw_V G p e s m below meth c b lv pc S sh μ k n :=
  fun H locs ls hR hl hL => lv_iconst F.1 F.2.1 hd hv (kk H locs ls hR hl hL)
theorem lw_dup (F : lw_C G p s m meth c b Ln xs) {v : Value} (hd : decode cL_law pc = .ok (.dup, 1)) (h1 : v.category = 1) (kk : lw_V G p e s m below meth c b lv (pc + 1) (v :: v :: S) sh μ k n) : lw_V G p e s m below meth c b lv pc (v :: S) sh μ k n :=
  fun H locs ls hR hl hL => lv_dup F.1 F.2.1 hd ((am_rv_cat _ v).trans h1) (kk H locs ls hR hl hL)
theorem lw_shp {sh' : List am_S} (e9 : sh = sh') (kk : lw_V G p e s m below meth c b lv pc S sh' μ k n) : lw_V G p e s m below meth c b lv pc S sh μ k n := by rw [e9]; exact kk
theorem lw_new (F : lw_C G p s m meth c b Ln xs) {idx ci N q : Nat} {rs : List (Option Value)} (hd : decode cL_law pc = .ok (.new idx, 3)) (hw : am_nw RL idx ci N rs) (hk : k + 1 ≤ room_1.cells) (hn : n + N ≤ room_1.slots) (hq : sh.length = q) (hz : μ q = fun _ => 0)
    (kk : lw_V G p e s m below meth c b lv (pc + 3) (.ref q :: S) (sh ++ [(ci, N, rs)]) μ (k + 1) (n + N)) : lw_V G p e s m below meth c b lv pc S sh μ k n := by
  subst hq
  intro H locs ls hR hl hL
  have kk := fun H hR => kk H locs ls hR hl hL
  obtain ⟨hx, hb, hml, hown, hts, hX, hXs, hbl, e9⟩ := F
  obtain ⟨Cn, T, ty0, hcl, h100, hin, hty, h1, h2, h3, h4⟩ := hw
  have hKn := hX.1.1 ci _ hcl
  refine W.newcK hx hb hown (hts _ h1) (hts _ h2) (hts _ h3) rfl hd hk hn hKn.2.1 hR.1 fun H1 kC hkC e1 z1 o1 => ?_
  refine kk H1 ?_
  have hp := hR.push (c := (ci, N, rs)) (f := fun _ => 0) (H1 := H1) (by rw [z1, hR.1]) (fun q hq => o1 q (by rw [← hR.1]; exact hq)) (Or.inl ⟨h100, _, hcl, by
    rw [hR.1]
    refine (u_born ty0 hts hin hKn hkC e1 hty).to (fun j hj => ?_)
    rcases h4 j hj with ⟨g1, g2⟩ | ⟨g1, g2⟩
    · rw [g2, am_vat_i g1]; rfl
    · rw [g2, am_vat_r g1]; rfl⟩)
  rw [am_up_z hz] at hp
  exact hp
theorem lw_after (F : lw_C G p s m meth c b Ln xs) {mc ms : Nat} {Q' : Option Value → List am_S → am_M → Prop} {a : Array Value} {H : Heap} {locs : List Loc} {ls : Array Slot} (hl : ∀ q ∈ locs, G.2.2.1.size ≤ q.base) (hL : lv_has ls 4 lv) {st0 : List Value}
    (hrun : va_Run p G.2.2.2 e room_1 s m #[Value.ref b] below meth c H locs k n mc ms (F0 m pc ls st0) (rest.map (am_rv G.2.2.1.size)) (am_Q G Q' a) (fun q => G.2.2.1.size ≤ q)) (kk : ∀ v sh' μ', Q' v sh' μ' → lw_V G p e s m below meth c b lv (pc + 3) (v.toList ++ rest) sh' μ' (k + mc) (n + ms)) :
    W p G.2.2.2 e room_1 s m #[Value.ref b] below meth c H locs k n (lw_Z below #[Value.ref b] s) (F0 m pc ls st0) := by
  intro T hT X
  obtain ⟨v, st₀, t, T', L', h0, X', hL', e1, e2, ⟨v0, sh', μ', hv, hq, hX', hR'⟩, st⟩ := hrun T hT X
  cases hv
  obtain ⟨t2, a1, b1⟩ := kk v0 sh' μ' hq T'.heap (locs ++ L') ls (by rw [e1]; exact hR') (fun q hq => (List.mem_append.mp hq).elim (hl q) (hL' q)) hL T' rfl X'
  refine ⟨t2, st t2 ?_, b1⟩
  cases v0 <;> exact a1
theorem lw_cv (F : lw_C G p s m meth c b Ln xs) {idx nL' np d' a ci N : Nat} {rs : List (Option Value)} {r : vw_C} {y : MethodName} {cc' : ByteArray} {ret' : Option FieldType} (As : List Value) {Q' : Option Value → List am_S → am_M → Prop} (hd : decode cL_law pc = .ok (.invokevirtual idx, 3)) (hm : am_ml RL idx y cc' nL' ret' np) (hin : Cond.instanceMethod y ∈ am_TB) (hse : Cond.selects y.cls y y ∈ am_TB) (hM : am_MA G y cc' nL' ret' d' 0 0 (.ref a :: As) sh μ Q')
    (hc : sh[a]? = some (ci, N, rs)) (h100 : ci < 100) (hcl2 : vwCl[ci]? = some r) (hcn : r.1 = y.cls)
    (hS : S = As.reverse ++ .ref a :: rest) (hn : As.length = np) (hw : (rest.map fun v => v.category).sum ≤ 8) (hfr : d' + 1 ≤ 2048) (hlo : 100 * d' + 100 ≤ 84000) (hcl : k ≤ 600000 ∧ n ≤ 7302250)
    (kk : ∀ v sh' μ', Q' v sh' μ' → lw_V G p e s m below meth c b lv (pc + 3) (v.toList ++ rest) sh' μ' k n) : lw_V G p e s m below meth c b lv pc S sh μ k n := by
  intro H locs ls hR hl hL
  refine lw_after F hl hL (a := (Value.ref (G.2.2.1.size + a) :: As.map (am_rv G.2.2.1.size)).toArray) (mc := 0) (ms := 0) ?_ kk
  obtain ⟨hx, hb, hml, hown, hts, hX, hXs, hbl, e9⟩ := F
  obtain ⟨m1, m2, m3, m4, m5, m6, m7⟩ := hm
  have hrecv : ∃ cell : Cell, H[G.2.2.1.size + a]? = some cell ∧ cell.vm.isStatics = false ∧ s.vm.findClass y.cls = some cell.cls := by
    rcases hR.2.2 a _ hc with ⟨-, r', hr', cell, q1, q2, q3, q4⟩ | ⟨hge, -⟩
    · have e : r' = r := Option.some.inj (hr'.symm.trans hcl2)
      subst e
      exact ⟨cell, q1, by rw [q3]; rfl, by rw [q2, ← hcn]; exact (hX.1.1 ci r' hcl2).2.1⟩
    · exact absurd hge (by simp; omega)
  exact va_runV (C := y.cls) (b := G.2.2.1.size + a) (As := As.map (am_rv G.2.2.1.size)) ⟨hx, hb, hml, hown, hts⟩ hM ⟨callB_of np hts (am_goodIn m3) rfl rfl rfl (hts _ m2) (hts _ m1) ⟨m4, m5, m6⟩ ⟨hfr, by show 8 + (nL' + 11) + 100 * d' ≤ 84000; omega⟩, hts _ hin, hts _ hse⟩ ⟨am_blind, hrecv, fun U hU hW => ⟨rfl, hX.warm hW, by rw [hU]; exact hR⟩⟩ rfl (by rw [List.length_map]; exact hn) hL.1 (by show S.map _ = _; rw [hS]; simp [am_rv]) (by show 2 * 0 + _ ≤ 8; have := am_cat (b := G.2.2.1.size) hw; omega) hd hcl
theorem lw_ci (F : lw_C G p s m meth c b Ln xs) {idx nL' d' mc ms a : Nat} {y : MethodName} {cc' : ByteArray} {Q' : Option Value → List am_S → am_M → Prop} (hd : decode cL_law pc = .ok (.invokespecial idx, 3)) (hm : am_ml RL idx y cc' nL' none 0) (hin : Cond.instanceMethod y ∈ am_TB) (hy : y.name = "<init>") (hM : am_MA G y cc' nL' none d' mc ms [.ref a] sh μ Q')
    (hw : (rest.map fun v => v.category).sum ≤ 8) (hfr : d' + 1 ≤ 2048) (hlo : 100 * d' + 100 ≤ 84000) (hcl : k + mc ≤ 600000 ∧ n + ms ≤ 7302250)
    (kk : ∀ v sh' μ', Q' v sh' μ' → lw_V G p e s m below meth c b lv (pc + 3) (v.toList ++ rest) sh' μ' (k + mc) (n + ms)) : lw_V G p e s m below meth c b lv pc (.ref a :: rest) sh μ k n := by
  intro H locs ls hR hl hL
  refine lw_after F hl hL (a := #[Value.ref (G.2.2.1.size + a)]) ?_ kk
  obtain ⟨hx, hb, hml, hown, hts, hX, hXs, hbl, e9⟩ := F
  obtain ⟨m1, m2, m3, m4, m5, m6, m7⟩ := hm
  exact va_runI (b := G.2.2.1.size + a) (As := []) ⟨hx, hb, hml, hown, hts⟩ hM ⟨callB_of 0 hts (am_goodIn m3) rfl rfl rfl (hts _ m2) (hts _ m1) ⟨m4, m5, m6⟩ ⟨hfr, by show 8 + (nL' + 11) + 100 * d' ≤ 84000; omega⟩, hy, hts _ hin⟩ ⟨am_blind, fun U hU hW => ⟨rfl, hX.warm hW, by rw [hU]; exact hR⟩⟩ rfl rfl hL.1 rfl (by show 2 * 0 + _ ≤ 8; have := am_cat (b := G.2.2.1.size) hw; omega) hd hcl
/-- the end: true -/
theorem lw_end (F : lw_C G p s m meth c b Ln xs) (hr : meth.sig.returnType = ret) (hlk : meth.locks = false) (hk : k ≤ 600000) (hn : n ≤ 7302250) : lw_V G p e s m below meth c b lv 1380 [] sh μ k n := by
  intro H locs ls hR hl hL
  have e9 := F.2.2.2.2.2.2.2.2
  refine lv_iconst (v := 1) F.1 F.2.1 dL_law_1380 rfl ?_
  refine va_forget (fun q hq => by rw [← e9]; exact hl q hq) ?_
  refine W.widen hk hn ?_
  exact lw_ret F.1 F.2.1 hr hlk dL_law_1381
end LV
