theorem okB_oBurn {A : pA} (h : okB A) (o n : Int32) : okB (oBurn A o n).2 := by
  unfold oBurn
  split
  · rename_i c1
    obtain ⟨k, rfl, _, hb, hz⟩ := pIn_ex c1
    rw [zN_nI hz]
    split
    · split
      · exact okB_act h (by omega) (pBurn_ok h.1.k hb) (by rw [pBurn_lo (by decide)]; exact h.1.k6) (pBurn_lo (by decide))
      · exact h
    · exact h
  · exact h
theorem pUp_ok_w {K : pK} {b x : Nat} (h : pOK K) (hb : b < 4) (hx : x ≤ 4) : pOK (pUp K b x) := by
  refine ⟨by rw [pUp_n (by omega)]; exact h.1, by rw [pUp_n (by omega)]; exact h.2.1, fun c hc => ?_, by rw [pUp_n (by omega)]; exact h.2.2.2.1, fun o ho => ?_⟩
  · by_cases e : c = b
    · rw [e, pUp_s]; exact hx
    · rw [pUp_n e]; exact h.2.2.1 c hc
  · rw [pUp_n (by omega)] at ho
    rw [pUp_n (by omega), pUp_n (by omega), pUp_n (by omega), pUp_n (by omega)]
    exact h.2.2.2.2 o ho
theorem pUp_ok_f {K : pK} {a x : Nat} (h : pOK K) (hx : x ≤ 99) (ha : a < 5) : pOK (pUp K (22 + a) x) := by
  refine ⟨by rw [pUp_n (by omega)]; exact h.1, by rw [pUp_n (by omega)]; exact h.2.1, fun c hc => by rw [pUp_n (by omega)]; exact h.2.2.1 c hc, by rw [pUp_n (by omega)]; exact h.2.2.2.1, fun o ho => ?_⟩
  rw [pUp_n (by omega)] at ho
  have h5 := h.1
  have g := h.2.2.2.2 o ho
  refine ⟨by rw [pUp_n (by omega)]; exact g.1, by rw [pUp_n (by omega)]; exact g.2.1, by rw [pUp_n (by omega)]; exact g.2.2.1, ?_⟩
  by_cases e : o = a
  · rw [e, pUp_s]; exact hx
  · rw [pUp_n (by omega)]; exact g.2.2.2
theorem okB_oWind {A : pA} (h : okB A) (b n : Int32) : okB (oWind A b n).2 := by
  unfold oWind
  split
  · exact h
  · rename_i c0
    split
    · rename_i c1
      obtain ⟨k, rfl, _, hb, hz⟩ := pIn_ex c1
      rw [zN_nI hz]
      split
      · rename_i c2
        obtain ⟨j, rfl, _, hj, hzj⟩ := pIn_ex c2
        rw [zN_nI hzj]
        exact okB_act h c0 (pUp_ok_w h.1.k hb (by omega)) (by rw [pUp_n (by omega)]; exact h.1.k6) (pUp_n (by omega))
      · exact h
    · exact h
theorem okB_oSend {A : pA} (h : okB A) (a b n : Int32) : okB (oSend A a b n).2 := by
  unfold oSend
  split
  · rename_i c1
    obtain ⟨k, rfl, _, hb, hz⟩ := pIn_ex c1
    rw [zN_nI hz]
    split
    · rename_i c2
      obtain ⟨j, rfl, _, hj, hzj⟩ := pIn_ex c2
      rw [zN_nI hzj]
      have h5 := h.1.k.1
      have g := (h.1.k.2.2.2.2 k hb).2.2.2
      split
      · exact h
      · split
        · split
          · split
            · split
              · rename_i c7
                exact okB_act h (by omega) (pUp_ok_f (pUp_ok_f h.1.k (by omega) (by omega)) c7 (by omega)) (by show pUp _ _ _ 6 ≤ 999; rw [pUp_n (by omega), pUp_n (by omega)]; exact h.1.k6) (by show pUp _ _ _ 5 = _; rw [pUp_n (by omega), pUp_n (by omega)])
              · exact h
            · exact h
          · exact h
        · exact h
    · exact h
  · exact h
theorem pAskT_le : ∀ k, k < 6 → ∀ w, w < 2 → (pAskT k w).length ≤ 16 := by decide +kernel
theorem okB_oAsk {A : pA} (h : okB A) (o w : Int32) : okB (oAsk A o w).2 := by
  unfold oAsk
  split
  · rename_i c1
    obtain ⟨k, rfl, _, hb, hz⟩ := pIn_ex c1
    rw [zN_nI hz]
    split
    · rename_i c2
      obtain ⟨j, rfl, _, hj, hzj⟩ := pIn_ex c2
      rw [zN_nI hzj]
      exact ⟨⟨h.1.tp, h.1.k, h.1.k6, h.1.ac, h.1.acl, h.1.im, pAskT_le _ (by have := (h.1.k.2.2.2.2 k hb).1.2; omega) _ hj, h.1.fi, h.1.w⟩, h.2.1, h.2.2⟩
    · exact h
  · exact h
