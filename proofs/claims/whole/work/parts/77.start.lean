/-! ===== the law's start ===== -/
def lw_A0 : pA := (fun _ => none, 0, fun _ => 0, 0, 0, fun _ => 0, [], fun _ _ => 0, [])
theorem lw_okB : okB lw_A0 := by
  have k0 : pOK (fun _ => 0) := ⟨by decide, by decide, fun _ _ => Nat.zero_le _, by decide, fun o ho => absurd ho (Nat.not_lt_zero o)⟩
  refine ⟨⟨⟨Nat.zero_le _, fun j hj => absurd hj (Nat.not_lt_zero j)⟩, k0, Nat.zero_le _, fun K hK => absurd hK (by show ¬ K ∈ ([] : List pK); simp), Nat.zero_le _, fun j => ⟨k0, Nat.zero_le _⟩, Nat.zero_le _, Nat.zero_le _, fun r l n f e => ?_⟩, fun q => absurd rfl q, fun k _ q => absurd rfl q⟩
  exact absurd e (by show ¬ (none : Option pRow) = some (l, n, f); simp)
theorem lw_InvC {μ : am_M} (h1 : ∀ j, j < 8 → μ (2 + 2 * j) 0 = nI 1) (h2 : ∀ b, b < 234 → (∀ j, j < 8 → b ≠ 2 + 2 * j) → μ b = fun _ => 0) : InvC μ lw_A0 := by
  have z : ∀ b, b < 234 → 18 ≤ b ∨ b = 0 → ∀ j, μ b j = nI 0 := fun b hb hb2 j => by rw [h2 b hb (fun j hj => by omega)]; rfl
  have sk : ∀ a, 18 ≤ a → a + 7 ≤ 234 → skyC μ a (fun _ => 0) := fun a h3 h4 => ⟨z a (by omega) (by omega) 0, z a (by omega) (by omega) 1, z a (by omega) (by omega) 2, fun b _ => z (a + 1) (by omega) (by omega) b, fun o ho => absurd ho (Nat.not_lt_zero o)⟩
  refine ⟨fun r hr => h1 r hr, z 0 (by decide) (by decide) 8, z 0 (by decide) (by decide) 9, ⟨(0, 0), z 18 (by decide) (by decide) 1, z 18 (by decide) (by decide) 2, z 18 (by decide) (by decide) 3, fun j hj => absurd hj (Nat.not_lt_zero j)⟩, sk 27 (by decide) (by decide), ⟨z 34 (by decide) (by decide) 0, Nat.zero_le _, 0, by decide, z 34 (by decide) (by decide) 1, fun i K hi => absurd hi (by show ¬ ([] : List pK)[i]? = some K; simp)⟩, fun k hk => sk (205 + 7 * k) (by omega) (by omega), ⟨z 232 (by decide) (by decide) 2, Nat.zero_le _, fun i x hi => absurd hi (by show ¬ ([] : List Nat)[i]? = some x; simp)⟩⟩
theorem lw_InvM {μ : am_M} (h1 : ∀ j, j < 8 → μ 236 j = -1) (h2 : ∀ b, 234 ≤ b → b ≠ 236 → μ b = fun _ => 0) : InvM μ lw_A0 := by
  have z : ∀ b, 234 ≤ b → b ≠ 236 → ∀ j, μ b j = nI 0 := fun b hb hb2 j => by rw [h2 b hb hb2]; rfl
  have pz : nI 0 = pI (¬ (0 : Nat) = 0) := by rw [pI_n (by simp)]; rfl
  exact ⟨fun r hr => h1 r hr, z 234 (by decide) (by decide) 3, z 234 (by decide) (by decide) 5, fun j hj => absurd hj (Nat.not_lt_zero j), z 234 (by decide) (by decide) 6, (z 234 (by decide) (by decide) 7).trans pz, fun j _ => z 239 (by decide) (by decide) j, z 234 (by decide) (by decide) 9, fun i K hi => absurd hi (by show ¬ ([] : List pK)[i]? = some K; simp), fun k _ => (z 242 (by decide) (by decide) k).trans pz, fun k _ q => absurd rfl q, z 234 (by decide) (by decide) 13, fun i x hi => absurd hi (by show ¬ ([] : List Nat)[i]? = some x; simp)⟩
set_option maxRecDepth 100000 in
set_option maxHeartbeats 4000000 in
theorem lw_V0 {G : am_G} {p : Program} {e : Env} {s : State} {m : MethodId} {below : List Frame} {meth : Method} {c : Code} {b Ln : Nat} {xs : Nat → Int32} (F : lw_C G p s m meth c b Ln xs) (hr : meth.sig.returnType = ret) (hlk : meth.locks = false) (hLn : Ln ≤ 384) : lw_V G p e s m below meth c b [(0, .ref b)] 0 [] [] (fun _ _ => 0) 0 0 := by
  refine lw_new F (q := 0) dL_law_0 nw_L_7 (Nat.le_of_ble_eq_true rfl) (Nat.le_of_ble_eq_true rfl) rfl rfl ?_
  refine lw_shp (show _ = [(6, 10, [some .null, some .null, some .null, some .null, some .null, some .null, some .null, some .null, none, none])] from rfl) ?_
  refine lw_dup F dL_law_3 rfl ?_
  refine lw_ci F dL_law_4 ml_L_9 im_X7_init rfl (c_X7_init (fun _ => rfl)) (Nat.le_of_ble_eq_true rfl) (Nat.le_of_ble_eq_true rfl) (Nat.le_of_ble_eq_true rfl) ⟨Nat.le_of_ble_eq_true rfl, Nat.le_of_ble_eq_true rfl⟩ (fun v sh2 μ1 hq => ?_)
  obtain ⟨rfl, rfl, hm⟩ := hq
  refine lw_ast F (i := 1) (a := 0) (lv' := [(1, .ref (G.2.2.1.size + 0)), (0, .ref b)]) dL_law_7 rfl (by decide) rfl ?_
  refine lw_new F (q := 234) dL_law_8 nw_L_10 (Nat.le_of_ble_eq_true rfl) (Nat.le_of_ble_eq_true rfl) rfl (hm.z (by decide)) ?_
  refine lw_dup F dL_law_11 rfl ?_
  refine lw_ci F dL_law_12 ml_L_12 im_X8_init rfl (c_X8_init am_SC 234 rfl (fun b hb => hm.z (by omega))) (Nat.le_of_ble_eq_true rfl) (Nat.le_of_ble_eq_true rfl) (Nat.le_of_ble_eq_true rfl) ⟨Nat.le_of_ble_eq_true rfl, Nat.le_of_ble_eq_true rfl⟩ (fun v sh2 μ2 hq => ?_)
  obtain ⟨rfl, rfl, h1, h2⟩ := hq
  refine lw_shp (show _ = am_SH by rw [am_mdL_eq]; rfl) ?_
  refine lw_ast F (i := 2) (a := 234) (lv' := [(2, .ref (G.2.2.1.size + 234)), (1, .ref (G.2.2.1.size + 0)), (0, .ref b)]) dL_law_15 rfl (by decide) rfl ?_
  refine lw_ic F (v := nI 0) dL_law_16 rfl ?_
  refine lw_ist F (i := 3) (lv' := lw_L G b 0) dL_law_17 rfl (by decide) rfl ?_
  refine lw_loop F hr hlk hLn (Nat.le_of_ble_eq_true rfl) (Nat.le_of_ble_eq_true rfl) Ln 0 μ2 lw_A0 (by omega) (by omega) (lw_InvC (fun j hj => ?_) (fun q hq1 hq2 => ?_)) (lw_InvM h1 (fun q hq1 hq2 => ?_)) lw_okB
  · rw [h2 _ (by omega)]; exact hm.1 j hj
  · rw [h2 _ (by omega)]; exact hm.2 q hq2
  · rw [h2 _ hq2]; exact hm.z (by omega)
theorem whole_start {p : Program} {e : Env} {s : State} {m : MethodId} {below : List Frame} {meth : Method} {c : Code} (l : Launch) {b L : Nat} {xs : Nat → Int32} (hL : L ≤ 384) (C0 : lw_At p s m meth c b L xs) : W p l e room_1 s m #[Value.ref b] below meth c s.heap [] 0 0 (lw_Z below #[Value.ref b] s) (entryFrame m ([Value.ref b] : List Value).toArray 4) := by
  obtain ⟨G, eG, el, hX⟩ := lw_amX l C0
  obtain ⟨hx, hb, hr, hml, hown, hts, hXs, hbl, hlocks, hgv⟩ := id C0
  have F : lw_C G p s m meth c b L xs := ⟨hx, hb, hml, hown, fun w hw => hts w (List.mem_filter.mp hw).1, hX, hXs, hbl, eG⟩
  have hl := lv_entry ([.ref b]) (n := 4) (Nat.le_of_ble_eq_true rfl)
  rw [lg_entry_eq]
  generalize (lg_sl ([.ref b]) ++ List.replicate (4 - (lg_sl ([.ref b])).length) Slot.unset).toArray = ls at hl ⊢
  have hl : lv_has ls 4 [(0, .ref b)] := hl
  have h0 := lw_V0 (e := e) (below := below) F hr hlocks hL s.heap [] ls ⟨by rw [eG]; rfl, fun q _ => by rw [eG], fun k d hd => absurd hd (by simp)⟩ (fun q hq => absurd hq (by simp)) hl
  rw [el] at h0
  exact h0
