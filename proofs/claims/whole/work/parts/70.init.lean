/-! ===== constructors: rows ===== -/
theorem am_up_z {μ : am_M} {a : Nat} (h : μ a = fun _ => 0) : am_up μ a (fun _ => 0) = μ := by
  funext b
  unfold am_up
  split
  · rename_i e; rw [e, h]
  · rfl
theorem ap_at {pre l : List am_S} {a i x : Nat} {c : am_S} (ha : pre.length = a) (hx : a + i = x) (h : l[i]? = some c) : (pre ++ l)[x]? = some c := by
  subst ha hx
  rw [List.getElem?_append_right (Nat.le_add_right _ _), Nat.add_sub_cancel_left]
  exact h
theorem ap_set {pre l : List am_S} {a i x : Nat} {c : am_S} (ha : pre.length = a) (hx : a + i = x) : (pre ++ l).set x c = pre ++ l.set i c := by
  subst ha hx
  rw [List.set_append_right _ _ (Nat.le_add_right _ _), Nat.add_sub_cancel_left]
theorem am_R.app {G : am_G} {sh cs : List am_S} {μ : am_M} {H H1 : Heap} (h : am_R G sh μ H) (hz : H1.size = H.size + cs.length) (ho : ∀ q : Nat, q < H.size → H1[q]? = H[q]?)
    (hn : ∀ (j : Nat) (c : am_S), cs[j]? = some c → am_cell G (H.size + j) c (fun i => am_rv G.2.2.1.size (am_vat c (μ (sh.length + j)) i)) H1) : am_R G (sh ++ cs) μ H1 := by
  obtain ⟨h1, h2, h3⟩ := h
  refine ⟨by rw [hz, List.length_append, h1, Nat.add_assoc], fun q hq => by rw [ho q (by omega)]; exact h2 q hq, fun k d hd => ?_⟩
  by_cases hk : k < sh.length
  · rw [List.getElem?_append_left hk] at hd
    exact (h3 k d hd).kept (ho _ (by omega))
  · rw [List.getElem?_append_right (by omega)] at hd
    have := hn (k - sh.length) d hd
    rw [h1, show G.2.2.1.size + sh.length + (k - sh.length) = G.2.2.1.size + k by omega, show sh.length + (k - sh.length) = k by omega] at this
    exact this
section AI
variable {C : am_C} {cc : ByteArray} {pc : Nat} {L : am_L} {S rest : List Value} {sh pre l l' : List am_S} {μ : am_M} {k n a q : Nat}
theorem aw_shp {sh' : List am_S} (e : sh = sh') (kk : am_W C cc pc L S sh' μ k n) : am_W C cc pc L S sh μ k n := by rw [e]; exact kk
theorem aw_kn {k' n' : Nat} (e1 : k = k') (e2 : n = n') (kk : am_W C cc pc L S sh μ k' n') : am_W C cc pc L S sh μ k n := by rw [e1, e2]; exact kk
theorem ap_newi (ha : pre.length = a) (hq : a + l.length = q) (hz : μ q = fun _ => 0) {N : Nat} {i : Int32} (hd : decode cc pc = .ok (.newarray .int, 2)) (hi : i = nI N) (hN : N < 100000) (hk : k + 1 ≤ C.2.2.2.2.2.1.cells) (hn : n + N ≤ C.2.2.2.2.2.1.slots) (hl : l ++ [(100, N, [])] = l')
    (kk : am_W C cc (pc + 2) L (.ref q :: S) (pre ++ l') μ (k + 1) (n + N)) : am_W C cc pc L (.int i :: S) (pre ++ l) μ k n := by
  have e : (pre ++ l).length = q := by rw [List.length_append, ha]; exact hq
  refine aw_newi hd ac_int hi hN hk hn ?_
  rw [e, am_up_z hz, List.append_assoc, hl]
  exact kk
theorem ap_newz (ha : pre.length = a) (hq : a + l.length = q) (hz : μ q = fun _ => 0) {N : Nat} {i : Int32} (hd : decode cc pc = .ok (.newarray .boolean, 2)) (hi : i = nI N) (hN : N < 100000) (hk : k + 1 ≤ C.2.2.2.2.2.1.cells) (hn : n + N ≤ C.2.2.2.2.2.1.slots) (hl : l ++ [(101, N, [])] = l')
    (kk : am_W C cc (pc + 2) L (.ref q :: S) (pre ++ l') μ (k + 1) (n + N)) : am_W C cc pc L (.int i :: S) (pre ++ l) μ k n := by
  have e : (pre ++ l).length = q := by rw [List.length_append, ha]; exact hq
  refine aw_newz hd ac_boolean hi hN hk hn ?_
  rw [e, am_up_z hz, List.append_assoc, hl]
  exact kk
theorem ap_newr (t : Nat) (ha : pre.length = a) (hq : a + l.length = q) (hz : μ q = fun _ => 0) {N idx : Nat} {i : Int32} {Cn : String} (hd : decode cc pc = .ok (.anewarray idx, 3)) (hcl : Cond.classLink C.2.1 idx Cn ∈ am_TB) (ht : (t = 2 ∧ Cn = RX4) ∨ (t = 3 ∧ Cn = RX5)) (hi : i = nI N) (hN : N < 100000) (hk : k + 1 ≤ C.2.2.2.2.2.1.cells) (hn : n + N ≤ C.2.2.2.2.2.1.slots) (hl : l ++ [(100 + t, N, List.replicate N (some .null))] = l')
    (kk : am_W C cc (pc + 3) L (.ref q :: S) (pre ++ l') μ (k + 1) (n + N)) : am_W C cc pc L (.int i :: S) (pre ++ l) μ k n := by
  have e : (pre ++ l).length = q := by rw [List.length_append, ha]; exact hq
  refine aw_newr hd hcl ht hi hN hk hn ?_
  rw [e, am_up_z hz, List.append_assoc, hl]
  exact kk
theorem ap_new (ha : pre.length = a) (hq : a + l.length = q) (hz : μ q = fun _ => 0) {idx ci N : Nat} {rs : List (Option Value)} (hd : decode cc pc = .ok (.new idx, 3)) (hw : am_nw C.2.1 idx ci N rs) (hk : k + 1 ≤ C.2.2.2.2.2.1.cells) (hn : n + N ≤ C.2.2.2.2.2.1.slots) (hl : l ++ [(ci, N, rs)] = l')
    (kk : am_W C cc (pc + 3) L (.ref q :: S) (pre ++ l') μ (k + 1) (n + N)) : am_W C cc pc L S (pre ++ l) μ k n := by
  have e : (pre ++ l).length = q := by rw [List.length_append, ha]; exact hq
  refine aw_new hd hw hk hn ?_
  rw [e, am_up_z hz, List.append_assoc, hl]
  exact kk
theorem ap_pr {i x : Nat} (ha : pre.length = a) (hx : a + i = x) {idx ci j N b : Nat} {rs : List (Option Value)} {ty : FieldType} {w : Value} (hd : decode cc pc = .ok (.putfield idx, 3)) (hg : am_pf C.2.1 idx ci j true ty) (hm : C.2.2.1 = "<init>") (hnar : ∀ z : Nat, narrow ty (.ref z) = .ref z) (hfit : ∀ z : Nat, fits ty (.ref z) = true) (hc : l[i]? = some (ci, N, rs)) (hv : rs[j]? = some (some w)) (hl : l.set i (ci, N, rs.set j (some (.ref b))) = l')
    (kk : am_W C cc (pc + 3) L S (pre ++ l') μ k n) : am_W C cc pc L (.ref b :: .ref x :: S) (pre ++ l) μ k n := by
  refine aw_pr hd hg hm hnar hfit (ap_at ha hx hc) hv ?_
  rw [ap_set ha hx, hl]
  exact kk
theorem ap_aast {i x i2 b : Nat} (ha : pre.length = a) (hx : a + i = x) (hb : a + i2 = b) {N j t ci N2 : Nat} {iv : Int32} {rs rs2 : List (Option Value)} {r : vw_C} {w : Option Value} (hd : decode cc pc = .ok (.aastore, 1)) (hc : l[i]? = some (100 + t, N, rs)) (hb2 : l[i2]? = some (ci, N2, rs2)) (h100 : ci < 100) (hcl : vwCl[ci]? = some r) (ht : (t = 2 ∧ r.1 = RX4) ∨ (t = 3 ∧ r.1 = RX5)) (hi : iv = nI j) (hj : j < N) (hN : N < 2 ^ 31) (hv : rs[j]? = some w) (hl : l.set i (100 + t, N, rs.set j (some (.ref b))) = l')
    (kk : am_W C cc (pc + 1) L S (pre ++ l') μ k n) : am_W C cc pc L (.ref b :: .int iv :: .ref x :: S) (pre ++ l) μ k n := by
  refine aw_aast hd (ap_at ha hx hc) (ap_at ha hb hb2) h100 hcl ht hi hj hN hv ?_
  rw [ap_set ha hx, hl]
  exact kk
theorem ap_mna (ha : pre.length = a) (hq : a + l.length = q) (hz : ∀ b, q ≤ b → μ b = fun _ => 0) {M idx : Nat} (hd : decode cc pc = .ok (.multianewarray idx 2, 4)) (hcl : Cond.classLink C.2.1 idx "[[I" ∈ am_TB) (hM : M < 100000) (hk : k + 3 ≤ C.2.2.2.2.2.1.cells) (hn : n + (2 + 2 * M) ≤ C.2.2.2.2.2.1.slots) (hl : l ++ [(104, 2, [some (.ref (q + 1)), some (.ref (q + 2))]), (100, M, []), (100, M, [])] = l')
    (kk : am_W C cc (pc + 4) L (.ref q :: S) (pre ++ l') μ (k + 1 + 1 + 1) (n + 2 + M + M)) : am_W C cc pc L (.int (nI M) :: .int (nI 2) :: S) (pre ++ l) μ k n := by
  have e : (pre ++ l).length = q := by rw [List.length_append, ha]; exact hq
  intro p e9 s m args below meth c F H locs ls hR hls hL
  have kk := fun H locs hR hl => kk p e9 s m args below meth c F H locs ls hR hl hL
  obtain ⟨hx, hb, hml, hr, hlk, hown, hts, hX, hnm⟩ := F
  have cM : (nI M).toNatClampNeg = M := nI_clamp (by omega)
  have hRs := hR.1
  rw [e] at hRs
  refine mn_W (k := nI M) (rest := S.map (am_rv C.1.2.2.1.size)) hx hb hown (hts _ hcl) hX.2.2.1.2.2 (hts _ ac_int) rfl hd rfl (nI_pos (by omega)) (by rw [cM]; omega) hk (by rw [cM]; exact hn) fun cA cI H1 f1 f2 z1 o1 w0 w1 w2 => ?_
  rw [cM] at w1 w2 ⊢
  have hA : cA = C.1.2.1 104 := Option.some.inj (f1.symm.trans (am_ty 4 rfl rfl hX).2)
  have hI : cI = C.1.2.1 100 := Option.some.inj (f2.symm.trans (am_ty 0 rfl rfl hX).2)
  subst hA hI
  have h9 := kk H1 ((locs ++ [⟨H.size, 0⟩]) ++ [⟨H.size, 1⟩]) (by
    rw [← hl, ← List.append_assoc]
    refine hR.app z1 o1 (fun j d hj => ?_)
    have hj3 : j < 3 := (List.getElem?_eq_some_iff.mp hj).1
    have hj4 : j = 0 ∨ j = 1 ∨ j = 2 := by omega
    have zr : ∀ i, (μ ((pre ++ l).length + j)) i = 0 := fun i => by rw [e, hz _ (by omega)]
    rcases hj4 with rfl | rfl | rfl
    · have ed : d = (104, 2, [some (.ref (q + 1)), some (.ref (q + 2))]) := by simpa using hj.symm
      subst ed
      refine Or.inr ⟨by show 100 ≤ 104; decide, ?_⟩
      rw [show H.size + 0 = H.size from rfl, w0]
      congr 1
      unfold arrV mn_O2 mn_O1 mn_O0
      simp only [Cell.setSlot]
      congr 1
      apply Array.ext
      · simp
      · intro i h1 h2
        simp at h1
        have h1' : i = 0 ∨ i = 1 := by omega
        rcases h1' with rfl | rfl
        · simp [am_vat, am_rv, hRs, Nat.add_assoc]
        · simp [am_vat, am_rv, hRs, Nat.add_assoc]
    · have ed : d = (100, M, []) := by simpa using hj.symm
      subst ed
      refine Or.inr ⟨Nat.le_refl _, ?_⟩
      rw [w1]
      show some ({ cls := _, slots := Array.replicate M (.int 0), vm := .none } : Cell) = _
      rw [arrV_new]
      congr 2
      funext i
      rw [am_vat_o rfl, zr]
      rfl
    · have ed : d = (100, M, []) := by simpa using hj.symm
      subst ed
      refine Or.inr ⟨Nat.le_refl _, ?_⟩
      rw [w2]
      show some ({ cls := _, slots := Array.replicate M (.int 0), vm := .none } : Cell) = _
      rw [arrV_new]
      congr 2
      funext i
      rw [am_vat_o rfl, zr]
      rfl) (fun x hx2 => by
    rcases List.mem_append.mp hx2 with h | h
    · rcases List.mem_append.mp h with h | h
      · exact hls x h
      · have : x = ⟨H.size, 0⟩ := by simpa using h
        rw [this]; show _ ≤ H.size; rw [hRs]; omega
    · have : x = ⟨H.size, 1⟩ := by simpa using h
      rw [this]; show _ ≤ H.size; rw [hRs]; omega)
  rw [show Value.ref H.size = am_rv C.1.2.2.1.size (.ref q) by rw [hRs]; rfl]
  exact h9
end AI
theorem nw_L_7 : am_nw RL 7 6 10 [some .null, some .null, some .null, some .null, some .null, some .null, some .null, some .null, none, none] := ⟨RX7, TX7, tyX7, rfl, by decide, in_X7, tyX7_ok, cl_L_7, nb_X7, iw_X7, fun j hj => by
  have : j = 0 ∨ j = 1 ∨ j = 2 ∨ j = 3 ∨ j = 4 ∨ j = 5 ∨ j = 6 ∨ j = 7 ∨ j = 8 ∨ j = 9 := by omega
  rcases this with rfl | rfl | rfl | rfl | rfl | rfl | rfl | rfl | rfl | rfl
  · exact Or.inr ⟨rfl, rfl⟩
  · exact Or.inr ⟨rfl, rfl⟩
  · exact Or.inr ⟨rfl, rfl⟩
  · exact Or.inr ⟨rfl, rfl⟩
  · exact Or.inr ⟨rfl, rfl⟩
  · exact Or.inr ⟨rfl, rfl⟩
  · exact Or.inr ⟨rfl, rfl⟩
  · exact Or.inr ⟨rfl, rfl⟩
  · exact Or.inl ⟨rfl, rfl⟩
  · exact Or.inl ⟨rfl, rfl⟩⟩
theorem nw_L_10 : am_nw RL 10 7 24 [some .null, some .null, some .null, none, some .null, none, none, none, some .null, none, some .null, some .null, some .null, none, some .null, none, none, none, none, none, some .null, some .null, some .null, some .null] := ⟨RX8, TX8, tyX8, rfl, by decide, in_X8, tyX8_ok, cl_L_10, nb_X8, iw_X8, fun j hj => by
  have : j = 0 ∨ j = 1 ∨ j = 2 ∨ j = 3 ∨ j = 4 ∨ j = 5 ∨ j = 6 ∨ j = 7 ∨ j = 8 ∨ j = 9 ∨ j = 10 ∨ j = 11 ∨ j = 12 ∨ j = 13 ∨ j = 14 ∨ j = 15 ∨ j = 16 ∨ j = 17 ∨ j = 18 ∨ j = 19 ∨ j = 20 ∨ j = 21 ∨ j = 22 ∨ j = 23 := by omega
  rcases this with rfl | rfl | rfl | rfl | rfl | rfl | rfl | rfl | rfl | rfl | rfl | rfl | rfl | rfl | rfl | rfl | rfl | rfl | rfl | rfl | rfl | rfl | rfl | rfl
  · exact Or.inr ⟨rfl, rfl⟩
  · exact Or.inr ⟨rfl, rfl⟩
  · exact Or.inr ⟨rfl, rfl⟩
  · exact Or.inl ⟨rfl, rfl⟩
  · exact Or.inr ⟨rfl, rfl⟩
  · exact Or.inl ⟨rfl, rfl⟩
  · exact Or.inl ⟨rfl, rfl⟩
  · exact Or.inl ⟨rfl, rfl⟩
  · exact Or.inr ⟨rfl, rfl⟩
  · exact Or.inl ⟨rfl, rfl⟩
  · exact Or.inr ⟨rfl, rfl⟩
  · exact Or.inr ⟨rfl, rfl⟩
  · exact Or.inr ⟨rfl, rfl⟩
  · exact Or.inl ⟨rfl, rfl⟩
  · exact Or.inr ⟨rfl, rfl⟩
  · exact Or.inl ⟨rfl, rfl⟩
  · exact Or.inl ⟨rfl, rfl⟩
  · exact Or.inl ⟨rfl, rfl⟩
  · exact Or.inl ⟨rfl, rfl⟩
  · exact Or.inl ⟨rfl, rfl⟩
  · exact Or.inr ⟨rfl, rfl⟩
  · exact Or.inr ⟨rfl, rfl⟩
  · exact Or.inr ⟨rfl, rfl⟩
  · exact Or.inr ⟨rfl, rfl⟩⟩
theorem nw_X0_9 : am_nw RX0 9 4 9 [none, none, none, some .null, some .null, some .null, some .null, some .null, some .null] := ⟨RX5, TX5, tyX5, rfl, by decide, in_X5, tyX5_ok, cl_X0_9, nb_X5, iw_X5, fun j hj => by
  have : j = 0 ∨ j = 1 ∨ j = 2 ∨ j = 3 ∨ j = 4 ∨ j = 5 ∨ j = 6 ∨ j = 7 ∨ j = 8 := by omega
  rcases this with rfl | rfl | rfl | rfl | rfl | rfl | rfl | rfl | rfl
  · exact Or.inl ⟨rfl, rfl⟩
  · exact Or.inl ⟨rfl, rfl⟩
  · exact Or.inl ⟨rfl, rfl⟩
  · exact Or.inr ⟨rfl, rfl⟩
  · exact Or.inr ⟨rfl, rfl⟩
  · exact Or.inr ⟨rfl, rfl⟩
  · exact Or.inr ⟨rfl, rfl⟩
  · exact Or.inr ⟨rfl, rfl⟩
  · exact Or.inr ⟨rfl, rfl⟩⟩
theorem nw_X2_1 : am_nw RX2 1 4 9 [none, none, none, some .null, some .null, some .null, some .null, some .null, some .null] := ⟨RX5, TX5, tyX5, rfl, by decide, in_X5, tyX5_ok, cl_X2_1, nb_X5, iw_X5, fun j hj => by
  have : j = 0 ∨ j = 1 ∨ j = 2 ∨ j = 3 ∨ j = 4 ∨ j = 5 ∨ j = 6 ∨ j = 7 ∨ j = 8 := by omega
  rcases this with rfl | rfl | rfl | rfl | rfl | rfl | rfl | rfl | rfl
  · exact Or.inl ⟨rfl, rfl⟩
  · exact Or.inl ⟨rfl, rfl⟩
  · exact Or.inl ⟨rfl, rfl⟩
  · exact Or.inr ⟨rfl, rfl⟩
  · exact Or.inr ⟨rfl, rfl⟩
  · exact Or.inr ⟨rfl, rfl⟩
  · exact Or.inr ⟨rfl, rfl⟩
  · exact Or.inr ⟨rfl, rfl⟩
  · exact Or.inr ⟨rfl, rfl⟩⟩
theorem nw_X7_9 : am_nw RX7 9 3 4 [none, none, none, some .null] := ⟨RX4, TX4, tyX4, rfl, by decide, in_X4, tyX4_ok, cl_X7_9, nb_X4, iw_X4, fun j hj => by
  have : j = 0 ∨ j = 1 ∨ j = 2 ∨ j = 3 := by omega
  rcases this with rfl | rfl | rfl | rfl
  · exact Or.inl ⟨rfl, rfl⟩
  · exact Or.inl ⟨rfl, rfl⟩
  · exact Or.inl ⟨rfl, rfl⟩
  · exact Or.inr ⟨rfl, rfl⟩⟩
theorem nw_X7_16 : am_nw RX7 16 5 4 [some .null, none, none, none] := ⟨RX6, TX6, tyX6, rfl, by decide, in_X6, tyX6_ok, cl_X7_16, nb_X6, iw_X6, fun j hj => by
  have : j = 0 ∨ j = 1 ∨ j = 2 ∨ j = 3 := by omega
  rcases this with rfl | rfl | rfl | rfl
  · exact Or.inr ⟨rfl, rfl⟩
  · exact Or.inl ⟨rfl, rfl⟩
  · exact Or.inl ⟨rfl, rfl⟩
  · exact Or.inl ⟨rfl, rfl⟩⟩
theorem nw_X7_23 : am_nw RX7 23 4 9 [none, none, none, some .null, some .null, some .null, some .null, some .null, some .null] := ⟨RX5, TX5, tyX5, rfl, by decide, in_X5, tyX5_ok, cl_X7_23, nb_X5, iw_X5, fun j hj => by
  have : j = 0 ∨ j = 1 ∨ j = 2 ∨ j = 3 ∨ j = 4 ∨ j = 5 ∨ j = 6 ∨ j = 7 ∨ j = 8 := by omega
  rcases this with rfl | rfl | rfl | rfl | rfl | rfl | rfl | rfl | rfl
  · exact Or.inl ⟨rfl, rfl⟩
  · exact Or.inl ⟨rfl, rfl⟩
  · exact Or.inl ⟨rfl, rfl⟩
  · exact Or.inr ⟨rfl, rfl⟩
  · exact Or.inr ⟨rfl, rfl⟩
  · exact Or.inr ⟨rfl, rfl⟩
  · exact Or.inr ⟨rfl, rfl⟩
  · exact Or.inr ⟨rfl, rfl⟩
  · exact Or.inr ⟨rfl, rfl⟩⟩
theorem nw_X7_33 : am_nw RX7 33 0 3 [none, none, some .null] := ⟨RX0, TX0, tyX0, rfl, by decide, in_X0, tyX0_ok, cl_X7_33, nb_X0, iw_X0, fun j hj => by
  have : j = 0 ∨ j = 1 ∨ j = 2 := by omega
  rcases this with rfl | rfl | rfl
  · exact Or.inl ⟨rfl, rfl⟩
  · exact Or.inl ⟨rfl, rfl⟩
  · exact Or.inr ⟨rfl, rfl⟩⟩
theorem nw_X7_44 : am_nw RX7 44 2 5 [some .null, some .null, some .null, some .null, some .null] := ⟨RX2, TX2, tyX2, rfl, by decide, in_X2, tyX2_ok, cl_X7_44, nb_X2, iw_X2, fun j hj => by
  have : j = 0 ∨ j = 1 ∨ j = 2 ∨ j = 3 ∨ j = 4 := by omega
  rcases this with rfl | rfl | rfl | rfl | rfl
  · exact Or.inr ⟨rfl, rfl⟩
  · exact Or.inr ⟨rfl, rfl⟩
  · exact Or.inr ⟨rfl, rfl⟩
  · exact Or.inr ⟨rfl, rfl⟩
  · exact Or.inr ⟨rfl, rfl⟩⟩
theorem nw_X7_53 : am_nw RX7 53 1 3 [some .null, some .null, none] := ⟨RX1, TX1, tyX1, rfl, by decide, in_X1, tyX1_ok, cl_X7_53, nb_X1, iw_X1, fun j hj => by
  have : j = 0 ∨ j = 1 ∨ j = 2 := by omega
  rcases this with rfl | rfl | rfl
  · exact Or.inr ⟨rfl, rfl⟩
  · exact Or.inr ⟨rfl, rfl⟩
  · exact Or.inl ⟨rfl, rfl⟩⟩
