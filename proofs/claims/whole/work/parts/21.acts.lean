def am_SH1 : List am_S := [(6, 10, [some (.ref 1), some (.ref 18), some (.ref 20), some (.ref 27), some (.ref 34), some (.ref 204), some (.ref 219), some (.ref 232), none, none]), (102, 8, [some (.ref 2), some (.ref 4), some (.ref 6), some (.ref 8), some (.ref 10), some (.ref 12), some (.ref 14), some (.ref 16)]), (3, 4, [none, none, none, some (.ref 3)]), (100, 40, []), (3, 4, [none, none, none, some (.ref 5)]), (100, 40, []), (3, 4, [none, none, none, some (.ref 7)]), (100, 40, []), (3, 4, [none, none, none, some (.ref 9)]), (100, 40, []), (3, 4, [none, none, none, some (.ref 11)]), (100, 40, []), (3, 4, [none, none, none, some (.ref 13)]), (100, 40, []), (3, 4, [none, none, none, some (.ref 15)]), (100, 40, []), (3, 4, [none, none, none, some (.ref 17)]), (100, 40, []), (5, 4, [some (.ref 19), none, none, none]), (100, 100, []), (4, 9, [none, none, none, some (.ref 21), some (.ref 22), some (.ref 23), some (.ref 24), some (.ref 25), some (.ref 26)]), (100, 4, []), (100, 5, []), (100, 5, []), (100, 5, []), (100, 5, []), (100, 5, []), (4, 9, [none, none, none, some (.ref 28), some (.ref 29), some (.ref 30), some (.ref 31), some (.ref 32), some (.ref 33)]), (100, 4, []), (100, 5, []), (100, 5, []), (100, 5, []), (100, 5, []), (100, 5, [])]
def am_SH2 : List am_S := [(0, 3, [none, none, some (.ref 35)]), (103, 24, [some (.ref 36), some (.ref 43), some (.ref 50), some (.ref 57), some (.ref 64), some (.ref 71), some (.ref 78), some (.ref 85), some (.ref 92), some (.ref 99), some (.ref 106), some (.ref 113), some (.ref 120), some (.ref 127), some (.ref 134), some (.ref 141), some (.ref 148), some (.ref 155), some (.ref 162), some (.ref 169), some (.ref 176), some (.ref 183), some (.ref 190), some (.ref 197)]), (4, 9, [none, none, none, some (.ref 37), some (.ref 38), some (.ref 39), some (.ref 40), some (.ref 41), some (.ref 42)]), (100, 4, []), (100, 5, []), (100, 5, []), (100, 5, []), (100, 5, []), (100, 5, []), (4, 9, [none, none, none, some (.ref 44), some (.ref 45), some (.ref 46), some (.ref 47), some (.ref 48), some (.ref 49)]), (100, 4, []), (100, 5, []), (100, 5, []), (100, 5, []), (100, 5, []), (100, 5, []), (4, 9, [none, none, none, some (.ref 51), some (.ref 52), some (.ref 53), some (.ref 54), some (.ref 55), some (.ref 56)]), (100, 4, []), (100, 5, []), (100, 5, []), (100, 5, []), (100, 5, []), (100, 5, []), (4, 9, [none, none, none, some (.ref 58), some (.ref 59), some (.ref 60), some (.ref 61), some (.ref 62), some (.ref 63)]), (100, 4, []), (100, 5, []), (100, 5, []), (100, 5, []), (100, 5, []), (100, 5, []), (4, 9, [none, none, none, some (.ref 65), some (.ref 66), some (.ref 67), some (.ref 68), some (.ref 69), some (.ref 70)]), (100, 4, []), (100, 5, []), (100, 5, []), (100, 5, []), (100, 5, []), (100, 5, []), (4, 9, [none, none, none, some (.ref 72), some (.ref 73), some (.ref 74), some (.ref 75), some (.ref 76), some (.ref 77)]), (100, 4, []), (100, 5, []), (100, 5, []), (100, 5, []), (100, 5, []), (100, 5, []), (4, 9, [none, none, none, some (.ref 79), some (.ref 80), some (.ref 81), some (.ref 82), some (.ref 83), some (.ref 84)]), (100, 4, []), (100, 5, []), (100, 5, []), (100, 5, []), (100, 5, []), (100, 5, []), (4, 9, [none, none, none, some (.ref 86), some (.ref 87), some (.ref 88), some (.ref 89), some (.ref 90), some (.ref 91)]), (100, 4, []), (100, 5, []), (100, 5, []), (100, 5, []), (100, 5, []), (100, 5, []), (4, 9, [none, none, none, some (.ref 93), some (.ref 94), some (.ref 95), some (.ref 96), some (.ref 97), some (.ref 98)]), (100, 4, []), (100, 5, []), (100, 5, []), (100, 5, []), (100, 5, []), (100, 5, []), (4, 9, [none, none, none, some (.ref 100), some (.ref 101), some (.ref 102), some (.ref 103), some (.ref 104), some (.ref 105)]), (100, 4, []), (100, 5, []), (100, 5, []), (100, 5, []), (100, 5, []), (100, 5, []), (4, 9, [none, none, none, some (.ref 107), some (.ref 108), some (.ref 109), some (.ref 110), some (.ref 111), some (.ref 112)]), (100, 4, []), (100, 5, []), (100, 5, []), (100, 5, []), (100, 5, []), (100, 5, []), (4, 9, [none, none, none, some (.ref 114), some (.ref 115), some (.ref 116), some (.ref 117), some (.ref 118), some (.ref 119)]), (100, 4, []), (100, 5, []), (100, 5, []), (100, 5, []), (100, 5, []), (100, 5, [])]
def am_SH3 : List am_S := [(4, 9, [none, none, none, some (.ref 121), some (.ref 122), some (.ref 123), some (.ref 124), some (.ref 125), some (.ref 126)]), (100, 4, []), (100, 5, []), (100, 5, []), (100, 5, []), (100, 5, []), (100, 5, []), (4, 9, [none, none, none, some (.ref 128), some (.ref 129), some (.ref 130), some (.ref 131), some (.ref 132), some (.ref 133)]), (100, 4, []), (100, 5, []), (100, 5, []), (100, 5, []), (100, 5, []), (100, 5, []), (4, 9, [none, none, none, some (.ref 135), some (.ref 136), some (.ref 137), some (.ref 138), some (.ref 139), some (.ref 140)]), (100, 4, []), (100, 5, []), (100, 5, []), (100, 5, []), (100, 5, []), (100, 5, []), (4, 9, [none, none, none, some (.ref 142), some (.ref 143), some (.ref 144), some (.ref 145), some (.ref 146), some (.ref 147)]), (100, 4, []), (100, 5, []), (100, 5, []), (100, 5, []), (100, 5, []), (100, 5, []), (4, 9, [none, none, none, some (.ref 149), some (.ref 150), some (.ref 151), some (.ref 152), some (.ref 153), some (.ref 154)]), (100, 4, []), (100, 5, []), (100, 5, []), (100, 5, []), (100, 5, []), (100, 5, []), (4, 9, [none, none, none, some (.ref 156), some (.ref 157), some (.ref 158), some (.ref 159), some (.ref 160), some (.ref 161)]), (100, 4, []), (100, 5, []), (100, 5, []), (100, 5, []), (100, 5, []), (100, 5, []), (4, 9, [none, none, none, some (.ref 163), some (.ref 164), some (.ref 165), some (.ref 166), some (.ref 167), some (.ref 168)]), (100, 4, []), (100, 5, []), (100, 5, []), (100, 5, []), (100, 5, []), (100, 5, []), (4, 9, [none, none, none, some (.ref 170), some (.ref 171), some (.ref 172), some (.ref 173), some (.ref 174), some (.ref 175)]), (100, 4, []), (100, 5, []), (100, 5, []), (100, 5, []), (100, 5, []), (100, 5, []), (4, 9, [none, none, none, some (.ref 177), some (.ref 178), some (.ref 179), some (.ref 180), some (.ref 181), some (.ref 182)]), (100, 4, []), (100, 5, []), (100, 5, []), (100, 5, []), (100, 5, []), (100, 5, []), (4, 9, [none, none, none, some (.ref 184), some (.ref 185), some (.ref 186), some (.ref 187), some (.ref 188), some (.ref 189)]), (100, 4, []), (100, 5, []), (100, 5, []), (100, 5, []), (100, 5, []), (100, 5, []), (4, 9, [none, none, none, some (.ref 191), some (.ref 192), some (.ref 193), some (.ref 194), some (.ref 195), some (.ref 196)]), (100, 4, []), (100, 5, []), (100, 5, []), (100, 5, []), (100, 5, []), (100, 5, []), (4, 9, [none, none, none, some (.ref 198), some (.ref 199), some (.ref 200), some (.ref 201), some (.ref 202), some (.ref 203)]), (100, 4, []), (100, 5, []), (100, 5, []), (100, 5, []), (100, 5, []), (100, 5, [])]
def am_SH4 : List am_S := [(103, 2, [some (.ref 205), some (.ref 212)]), (4, 9, [none, none, none, some (.ref 206), some (.ref 207), some (.ref 208), some (.ref 209), some (.ref 210), some (.ref 211)]), (100, 4, []), (100, 5, []), (100, 5, []), (100, 5, []), (100, 5, []), (100, 5, []), (4, 9, [none, none, none, some (.ref 213), some (.ref 214), some (.ref 215), some (.ref 216), some (.ref 217), some (.ref 218)]), (100, 4, []), (100, 5, []), (100, 5, []), (100, 5, []), (100, 5, []), (100, 5, []), (2, 5, [some (.ref 27), some (.ref 220), some (.ref 227), some (.ref 228), some (.ref 229)]), (4, 9, [none, none, none, some (.ref 221), some (.ref 222), some (.ref 223), some (.ref 224), some (.ref 225), some (.ref 226)]), (100, 4, []), (100, 5, []), (100, 5, []), (100, 5, []), (100, 5, []), (100, 5, []), (100, 12, []), (100, 10, []), (104, 2, [some (.ref 230), some (.ref 231)]), (100, 210, []), (100, 210, []), (1, 3, [some (.ref 27), some (.ref 233), none]), (100, 16, [])]
def am_SH5 : List am_S := [(7, 24, [some (.ref 235), some (.ref 236), some (.ref 237), none, some (.ref 238), none, none, none, some (.ref 239), none, some (.ref 240), some (.ref 241), some (.ref 242), none, some (.ref 243), none, none, none, none, none, some (.ref 244), some (.ref 245), some (.ref 246), some (.ref 247)]), (100, 8, []), (100, 8, []), (100, 320, []), (100, 100, []), (100, 32, []), (100, 768, []), (100, 64, []), (101, 2, []), (100, 16, []), (100, 32, []), (100, 32, []), (100, 2730, []), (100, 10, [])]
def am_SC : List am_S := am_SH1 ++ (am_SH2 ++ (am_SH3 ++ am_SH4))
def am_SH : List am_S := am_SC ++ am_SH5
theorem sh_0 : am_SH[0]? = some (6, 10, [some (.ref 1), some (.ref 18), some (.ref 20), some (.ref 27), some (.ref 34), some (.ref 204), some (.ref 219), some (.ref 232), none, none]) := rfl
theorem sh_1 : am_SH[1]? = some (102, 8, [some (.ref 2), some (.ref 4), some (.ref 6), some (.ref 8), some (.ref 10), some (.ref 12), some (.ref 14), some (.ref 16)]) := rfl
theorem sh_18 : am_SH[18]? = some (5, 4, [some (.ref 19), none, none, none]) := rfl
theorem sh_19 : am_SH[19]? = some (100, 100, []) := rfl
theorem sh_34 : am_SH[34]? = some (0, 3, [none, none, some (.ref 35)]) := rfl
theorem sh_35 : am_SH[35]? = some (103, 24, [some (.ref 36), some (.ref 43), some (.ref 50), some (.ref 57), some (.ref 64), some (.ref 71), some (.ref 78), some (.ref 85), some (.ref 92), some (.ref 99), some (.ref 106), some (.ref 113), some (.ref 120), some (.ref 127), some (.ref 134), some (.ref 141), some (.ref 148), some (.ref 155), some (.ref 162), some (.ref 169), some (.ref 176), some (.ref 183), some (.ref 190), some (.ref 197)]) := rfl
theorem sh_204 : am_SH[204]? = some (103, 2, [some (.ref 205), some (.ref 212)]) := rfl
theorem sh_219 : am_SH[219]? = some (2, 5, [some (.ref 27), some (.ref 220), some (.ref 227), some (.ref 228), some (.ref 229)]) := rfl
theorem sh_227 : am_SH[227]? = some (100, 12, []) := rfl
theorem sh_228 : am_SH[228]? = some (100, 10, []) := rfl
theorem sh_229 : am_SH[229]? = some (104, 2, [some (.ref 230), some (.ref 231)]) := rfl
theorem sh_230 : am_SH[230]? = some (100, 210, []) := rfl
theorem sh_231 : am_SH[231]? = some (100, 210, []) := rfl
theorem sh_232 : am_SH[232]? = some (1, 3, [some (.ref 27), some (.ref 233), none]) := rfl
theorem sh_233 : am_SH[233]? = some (100, 16, []) := rfl
theorem sh_234 : am_SH[234]? = some (7, 24, [some (.ref 235), some (.ref 236), some (.ref 237), none, some (.ref 238), none, none, none, some (.ref 239), none, some (.ref 240), some (.ref 241), some (.ref 242), none, some (.ref 243), none, none, none, none, none, some (.ref 244), some (.ref 245), some (.ref 246), some (.ref 247)]) := rfl
theorem sh_235 : am_SH[235]? = some (100, 8, []) := rfl
theorem sh_236 : am_SH[236]? = some (100, 8, []) := rfl
theorem sh_237 : am_SH[237]? = some (100, 320, []) := rfl
theorem sh_238 : am_SH[238]? = some (100, 100, []) := rfl
theorem sh_239 : am_SH[239]? = some (100, 32, []) := rfl
theorem sh_240 : am_SH[240]? = some (100, 768, []) := rfl
theorem sh_241 : am_SH[241]? = some (100, 64, []) := rfl
theorem sh_242 : am_SH[242]? = some (101, 2, []) := rfl
theorem sh_243 : am_SH[243]? = some (100, 16, []) := rfl
theorem sh_244 : am_SH[244]? = some (100, 32, []) := rfl
theorem sh_245 : am_SH[245]? = some (100, 32, []) := rfl
theorem sh_246 : am_SH[246]? = some (100, 2730, []) := rfl
theorem sh_247 : am_SH[247]? = some (100, 10, []) := rfl
theorem sh_row : ∀ r, r < 8 → am_row am_SH (2 + 2 * r)
  | 0, _ => ⟨rfl, rfl⟩
  | 1, _ => ⟨rfl, rfl⟩
  | 2, _ => ⟨rfl, rfl⟩
  | 3, _ => ⟨rfl, rfl⟩
  | 4, _ => ⟨rfl, rfl⟩
  | 5, _ => ⟨rfl, rfl⟩
  | 6, _ => ⟨rfl, rfl⟩
  | 7, _ => ⟨rfl, rfl⟩
  | r + 8, h => absurd h (by omega)
theorem sh_bef : ∀ j, j < 24 → am_sky am_SH (36 + 7 * j)
  | 0, _ => ⟨rfl, rfl, rfl, rfl, rfl, rfl, rfl⟩
  | 1, _ => ⟨rfl, rfl, rfl, rfl, rfl, rfl, rfl⟩
  | 2, _ => ⟨rfl, rfl, rfl, rfl, rfl, rfl, rfl⟩
  | 3, _ => ⟨rfl, rfl, rfl, rfl, rfl, rfl, rfl⟩
  | 4, _ => ⟨rfl, rfl, rfl, rfl, rfl, rfl, rfl⟩
  | 5, _ => ⟨rfl, rfl, rfl, rfl, rfl, rfl, rfl⟩
  | 6, _ => ⟨rfl, rfl, rfl, rfl, rfl, rfl, rfl⟩
  | 7, _ => ⟨rfl, rfl, rfl, rfl, rfl, rfl, rfl⟩
  | 8, _ => ⟨rfl, rfl, rfl, rfl, rfl, rfl, rfl⟩
  | 9, _ => ⟨rfl, rfl, rfl, rfl, rfl, rfl, rfl⟩
  | 10, _ => ⟨rfl, rfl, rfl, rfl, rfl, rfl, rfl⟩
  | 11, _ => ⟨rfl, rfl, rfl, rfl, rfl, rfl, rfl⟩
  | 12, _ => ⟨rfl, rfl, rfl, rfl, rfl, rfl, rfl⟩
  | 13, _ => ⟨rfl, rfl, rfl, rfl, rfl, rfl, rfl⟩
  | 14, _ => ⟨rfl, rfl, rfl, rfl, rfl, rfl, rfl⟩
  | 15, _ => ⟨rfl, rfl, rfl, rfl, rfl, rfl, rfl⟩
  | 16, _ => ⟨rfl, rfl, rfl, rfl, rfl, rfl, rfl⟩
  | 17, _ => ⟨rfl, rfl, rfl, rfl, rfl, rfl, rfl⟩
  | 18, _ => ⟨rfl, rfl, rfl, rfl, rfl, rfl, rfl⟩
  | 19, _ => ⟨rfl, rfl, rfl, rfl, rfl, rfl, rfl⟩
  | 20, _ => ⟨rfl, rfl, rfl, rfl, rfl, rfl, rfl⟩
  | 21, _ => ⟨rfl, rfl, rfl, rfl, rfl, rfl, rfl⟩
  | 22, _ => ⟨rfl, rfl, rfl, rfl, rfl, rfl, rfl⟩
  | 23, _ => ⟨rfl, rfl, rfl, rfl, rfl, rfl, rfl⟩
  | r + 24, h => absurd h (by omega)
theorem sh_sky20 : am_sky am_SH 20 := ⟨rfl, rfl, rfl, rfl, rfl, rfl, rfl⟩
theorem sh_sky27 : am_sky am_SH 27 := ⟨rfl, rfl, rfl, rfl, rfl, rfl, rfl⟩
theorem sh_sky205 : am_sky am_SH 205 := ⟨rfl, rfl, rfl, rfl, rfl, rfl, rfl⟩
theorem sh_sky212 : am_sky am_SH 212 := ⟨rfl, rfl, rfl, rfl, rfl, rfl, rfl⟩
theorem sh_sky220 : am_sky am_SH 220 := ⟨rfl, rfl, rfl, rfl, rfl, rfl, rfl⟩
theorem sh_img : ∀ k, k < 2 → am_sky am_SH (205 + 7 * k)
  | 0, _ => sh_sky205
  | 1, _ => sh_sky212
  | k + 2, h => absurd h (by omega)
theorem sh_35r : ∀ j, j < 24 → ([some (.ref 36), some (.ref 43), some (.ref 50), some (.ref 57), some (.ref 64), some (.ref 71), some (.ref 78), some (.ref 85), some (.ref 92), some (.ref 99), some (.ref 106), some (.ref 113), some (.ref 120), some (.ref 127), some (.ref 134), some (.ref 141), some (.ref 148), some (.ref 155), some (.ref 162), some (.ref 169), some (.ref 176), some (.ref 183), some (.ref 190), some (.ref 197)] : List (Option Value))[j]? = some (some (.ref (36 + 7 * j)))
  | 0, _ => rfl
  | 1, _ => rfl
  | 2, _ => rfl
  | 3, _ => rfl
  | 4, _ => rfl
  | 5, _ => rfl
  | 6, _ => rfl
  | 7, _ => rfl
  | 8, _ => rfl
  | 9, _ => rfl
  | 10, _ => rfl
  | 11, _ => rfl
  | 12, _ => rfl
  | 13, _ => rfl
  | 14, _ => rfl
  | 15, _ => rfl
  | 16, _ => rfl
  | 17, _ => rfl
  | 18, _ => rfl
  | 19, _ => rfl
  | 20, _ => rfl
  | 21, _ => rfl
  | 22, _ => rfl
  | 23, _ => rfl
  | r + 24, h => absurd h (by omega)
theorem sh_1r : ∀ j, j < 8 → ([some (.ref 2), some (.ref 4), some (.ref 6), some (.ref 8), some (.ref 10), some (.ref 12), some (.ref 14), some (.ref 16)] : List (Option Value))[j]? = some (some (.ref (2 + 2 * j)))
  | 0, _ => rfl
  | 1, _ => rfl
  | 2, _ => rfl
  | 3, _ => rfl
  | 4, _ => rfl
  | 5, _ => rfl
  | 6, _ => rfl
  | 7, _ => rfl
  | r + 8, h => absurd h (by omega)
theorem sh_204r : ∀ j, j < 2 → ([some (.ref 205), some (.ref 212)] : List (Option Value))[j]? = some (some (.ref (205 + 7 * j)))
  | 0, _ => rfl
  | 1, _ => rfl
  | r + 2, h => absurd h (by omega)
/-! ===== acts ===== -/
def pRg (lt i : Nat) : Nat := (lt + 24 - i) % 24
theorem pRg_lt (lt i : Nat) : pRg lt i < 24 := Nat.mod_lt _ (by decide)
def actC (μ : am_M) (ac : List pK) : Prop := μ 34 0 = nI ac.length ∧ ac.length ≤ 24 ∧ ∃ lt, lt < 24 ∧ μ 34 1 = nI lt ∧ ∀ i K, ac[i]? = some K → skyC μ (36 + 7 * pRg lt i) K ∧ pOK K
theorem actC.fr {μ μ' : am_M} {ac : List pK} (h : actC μ ac) (e : ∀ b, 34 ≤ b → b < 204 → μ' b = μ b) : actC μ' ac := by
  obtain ⟨h0, h1, lt, h2, h3, h4⟩ := h
  refine ⟨by rw [e 34 (by omega) (by omega)]; exact h0, h1, lt, h2, by rw [e 34 (by omega) (by omega)]; exact h3, fun i K hi => ⟨(h4 i K hi).1.fr (fun b hb1 hb2 => e b (by omega) (by have := pRg_lt lt i; omega)), (h4 i K hi).2⟩⟩
set_option maxRecDepth 100000 in
set_option maxHeartbeats 4000000 in
theorem c_X0_forget {G : am_G} {μ : am_M} (ac : List pK) (ha : actC μ ac) : am_MA G yX0_forget cX0_forget 1 none 0 0 0 [.ref 34] am_SH μ (am_P none am_SH (fun μ9 => actC μ9 [] ∧ am_fr μ μ9 34 1)) := by
  obtain ⟨h0, h1, lt, h2, h3, h4⟩ := ha
  have s0 := sh_34
  refine am_ofK (own := RX0) (nm := "forget") (L := [some (.ref 34)]) rfl rfl (by decide +kernel) (Nat.le_of_ble_eq_true rfl) rfl ?_
  refine aw_aload_n dX0_forget_0 rfl ?_
  refine aw_iconst (v := nI 0) dX0_forget_1 rfl ?_
  refine aw_pi dX0_forget_2 pf_X0_16 rfl rfl (by assumption) (by rfl) ?_
  refine aw_vret dX0_forget_5 rfl rfl rfl ?_
  exact ⟨rfl, rfl, ⟨by rw [am_ups, pk_us]; rfl, by simp, lt, h2, by rw [am_ups, pk_un (by decide)]; exact h3, fun i K hi => by simp at hi⟩, am_fr.rf.up (by omega) (by omega)⟩
theorem pn_min24 : ∀ n, n ≤ 24 → (if nI (n + 1) < nI 24 then nI (n + 1) else nI 24) = nI (min 24 (n + 1)) := by
  intro n hn
  by_cases h : n + 1 < 24
  · rw [if_pos (nI_lt h (by omega))]; congr 1; omega
  · rw [if_neg (nI_nlt (by omega) (by omega))]; congr 1; omega
theorem x_X0_keep {μ μ2 μ9 : am_M} {ac : List pK} {lt LT : Nat} {K : pK} (h1 : ac.length ≤ 24) (h4 : ∀ i K, ac[i]? = some K → skyC μ (36 + 7 * pRg lt i) K ∧ pOK K) (h2 : lt < 24) (hL : (lt < 23 ∧ LT = lt + 1) ∨ (lt = 23 ∧ LT = 0))
    (hS : skyC μ2 (36 + 7 * LT) K) (ho : pOK K) (e0 : μ9 34 0 = nI (min 24 (ac.length + 1))) (e1 : μ9 34 1 = nI LT) (ef : ∀ b, 34 < b → b < 204 → ¬ (36 + 7 * LT ≤ b ∧ b < 36 + 7 * LT + 7) → μ9 b = μ b) (eg : ∀ b, 36 ≤ b → b < 204 → μ9 b = μ2 b) : actC μ9 ((K :: ac).take 24) := by
  refine ⟨by rw [e0]; congr 1; simp; omega, by simp; omega, LT, by omega, e1, fun i K' hi => ?_⟩
  rw [List.getElem?_take] at hi
  split at hi
  · rename_i h24
    cases i with
    | zero =>
      simp at hi
      subst hi
      have e : pRg LT 0 = LT := by unfold pRg; omega
      rw [e]
      exact ⟨hS.fr (fun b hb1 hb2 => eg b (by omega) (by omega)), ho⟩
    | succ i =>
      simp at hi
      have e : pRg LT (i + 1) = pRg lt i := by unfold pRg; omega
      have hne : pRg lt i ≠ LT := by unfold pRg; omega
      rw [e]
      have := pRg_lt lt i
      exact ⟨(h4 i K' hi).1.fr (fun b hb1 hb2 => ef b (by omega) (by omega) (by omega)), (h4 i K' hi).2⟩
  · cases hi
set_option maxRecDepth 100000 in
set_option maxHeartbeats 4000000 in
theorem c_X0_keep {G : am_G} {μ : am_M} (ac : List pK) (ha : actC μ ac) (K : pK) (hK : skyC μ 27 K) (ho : pOK K) : am_MA G yX0_keep cX0_keep 2 none 2 0 0 [.ref 34, .ref 27] am_SH μ (am_P none am_SH (fun μ9 => actC μ9 ((K :: ac).take 24) ∧ am_fr μ μ9 34 170)) := by
  obtain ⟨h0, h1, lt, h2, h3, h4⟩ := ha
  have s0 := sh_34
  have s1 := sh_35
  refine am_ofK (own := RX0) (nm := "keep") (L := [some (.ref 34), some (.ref 27)]) rfl rfl (by decide +kernel) (Nat.le_of_ble_eq_true rfl) rfl ?_
  refine aw_aload_n dX0_keep_0 rfl ?_
  refine aw_aload_n dX0_keep_1 rfl ?_
  refine aw_gi dX0_keep_2 gf_X0_20 s0 (by rfl) ?_
  refine aw_top h3 ?_
  refine aw_bipush (v := nI 23) dX0_keep_5 rfl ?_
  refine aw_icmp_ge (tgt := 19) dX0_keep_7 (by decide) (fun c7 => ?_) (fun c7 => ?_)
  · rw [nI_leI (by omega) (by omega)] at c7
    refine aw_iconst (v := nI 0) dX0_keep_19 rfl ?_
    refine aw_pi dX0_keep_20 pf_X0_20 rfl rfl s0 (by rfl) ?_
    refine aw_aload_n dX0_keep_23 rfl ?_
    refine aw_gr dX0_keep_24 gf_X0_11 s0 (by rfl) ?_
    refine aw_aload_n dX0_keep_27 rfl ?_
    refine aw_gi dX0_keep_28 gf_X0_20 s0 (by rfl) ?_
    refine aw_top (show _ = nI 0 by rw [am_ups, pk_us]) ?_
    refine aw_aald (t := 3) dX0_keep_31 s1 (by decide) rfl (by omega) (by decide) (sh_35r _ (by omega)) ?_
    refine aw_aload_n dX0_keep_32 rfl ?_
    refine aw_v1vp dX0_keep_33 ml_X0_23 im_X5_become se_X5_become (c_X5_become (36 + 7 * 0) 27 (sh_bef _ (by omega)) sh_sky27 (by omega) K (hK.fr (fun b hb1 hb2 => am_up_n (by omega))) ho.1) (sh_bef _ (by omega)).1 (by decide) rfl rfl (Nat.le_of_ble_eq_true rfl) (Nat.le_of_ble_eq_true rfl) (Nat.le_of_ble_eq_true rfl) (Nat.le_of_ble_eq_true rfl) (Nat.le_of_ble_eq_true rfl) (fun μ2 hq => ?_)
    refine aw_aload_n dX0_keep_36 rfl ?_
    refine aw_bipush (v := nI 24) dX0_keep_37 rfl ?_
    refine aw_aload_n dX0_keep_39 rfl ?_
    refine aw_gi dX0_keep_40 gf_X0_16 s0 (by rfl) ?_
    refine aw_top (show _ = nI ac.length by rw [hq.2 34 (by omega), am_ups, pk_un (by decide)]; exact h0) ?_
    refine aw_iconst (v := nI 1) dX0_keep_43 rfl ?_
    refine aw_iadd dX0_keep_44 ?_
    refine aw_top (nI_add _ _) ?_
    refine aw_min dX0_keep_45 lk_X0_27 st_min iw_J9 cw_min (Nat.le_of_ble_eq_true rfl) (Nat.le_of_ble_eq_true rfl) (Nat.le_of_ble_eq_true rfl) (Nat.le_of_ble_eq_true rfl) (Nat.le_of_ble_eq_true rfl) ?_
    refine aw_top (pn_min24 ac.length h1) ?_
    refine aw_pi dX0_keep_48 pf_X0_16 rfl rfl (by assumption) (by rfl) ?_
    refine aw_vret dX0_keep_51 rfl rfl rfl ?_
    exact ⟨rfl, rfl, x_X0_keep (LT := 0) h1 h4 h2 (by omega) hq.1 ho (by rw [am_ups, pk_us]) (by rw [am_ups, pk_un (by decide), hq.2 34 (by omega), am_ups, pk_us]) (fun b hb1 hb2 hb3 => by rw [am_up_n (by omega), hq.2 b (by omega), am_up_n (by omega)]) (fun b hb1 hb2 => by rw [am_up_n (by omega)]), fun b hb => by rw [am_up_n (by omega), hq.2 b (by omega), am_up_n (by omega)]⟩
  · rw [nI_leI (by omega) (by omega)] at c7
    refine aw_aload_n dX0_keep_10 rfl ?_
    refine aw_gi dX0_keep_11 gf_X0_20 s0 (by rfl) ?_
    refine aw_top h3 ?_
    refine aw_iconst (v := nI 1) dX0_keep_14 rfl ?_
    refine aw_iadd dX0_keep_15 ?_
    refine aw_top (nI_add _ _) ?_
    refine aw_goto (tgt := 20) dX0_keep_16 (by decide) ?_
    refine aw_pi dX0_keep_20 pf_X0_20 rfl rfl s0 (by rfl) ?_
    refine aw_aload_n dX0_keep_23 rfl ?_
    refine aw_gr dX0_keep_24 gf_X0_11 s0 (by rfl) ?_
    refine aw_aload_n dX0_keep_27 rfl ?_
    refine aw_gi dX0_keep_28 gf_X0_20 s0 (by rfl) ?_
    refine aw_top (show _ = nI (lt + 1) by rw [am_ups, pk_us]) ?_
    refine aw_aald (t := 3) dX0_keep_31 s1 (by decide) rfl (by omega) (by decide) (sh_35r _ (by omega)) ?_
    refine aw_aload_n dX0_keep_32 rfl ?_
    refine aw_v1vp dX0_keep_33 ml_X0_23 im_X5_become se_X5_become (c_X5_become (36 + 7 * (lt + 1)) 27 (sh_bef _ (by omega)) sh_sky27 (by omega) K (hK.fr (fun b hb1 hb2 => am_up_n (by omega))) ho.1) (sh_bef _ (by omega)).1 (by decide) rfl rfl (Nat.le_of_ble_eq_true rfl) (Nat.le_of_ble_eq_true rfl) (Nat.le_of_ble_eq_true rfl) (Nat.le_of_ble_eq_true rfl) (Nat.le_of_ble_eq_true rfl) (fun μ2 hq => ?_)
    refine aw_aload_n dX0_keep_36 rfl ?_
    refine aw_bipush (v := nI 24) dX0_keep_37 rfl ?_
    refine aw_aload_n dX0_keep_39 rfl ?_
    refine aw_gi dX0_keep_40 gf_X0_16 s0 (by rfl) ?_
    refine aw_top (show _ = nI ac.length by rw [hq.2 34 (by omega), am_ups, pk_un (by decide)]; exact h0) ?_
    refine aw_iconst (v := nI 1) dX0_keep_43 rfl ?_
    refine aw_iadd dX0_keep_44 ?_
    refine aw_top (nI_add _ _) ?_
    refine aw_min dX0_keep_45 lk_X0_27 st_min iw_J9 cw_min (Nat.le_of_ble_eq_true rfl) (Nat.le_of_ble_eq_true rfl) (Nat.le_of_ble_eq_true rfl) (Nat.le_of_ble_eq_true rfl) (Nat.le_of_ble_eq_true rfl) ?_
    refine aw_top (pn_min24 ac.length h1) ?_
    refine aw_pi dX0_keep_48 pf_X0_16 rfl rfl (by assumption) (by rfl) ?_
    refine aw_vret dX0_keep_51 rfl rfl rfl ?_
    exact ⟨rfl, rfl, x_X0_keep (LT := (lt + 1)) h1 h4 h2 (by omega) hq.1 ho (by rw [am_ups, pk_us]) (by rw [am_ups, pk_un (by decide), hq.2 34 (by omega), am_ups, pk_us]) (fun b hb1 hb2 hb3 => by rw [am_up_n (by omega), hq.2 b (by omega), am_up_n (by omega)]) (fun b hb1 hb2 => by rw [am_up_n (by omega)]), fun b hb => by rw [am_up_n (by omega), hq.2 b (by omega), am_up_n (by omega)]⟩
theorem x_X0_takeBack {μ μ9 : am_M} {ac : List pK} {K : pK} {lt LT : Nat} (h1 : (K :: ac).length ≤ 24) (h4 : ∀ i K', (K :: ac)[i]? = some K' → skyC μ (36 + 7 * pRg lt i) K' ∧ pOK K') (h2 : lt < 24) (hL : (0 < lt ∧ LT = lt - 1) ∨ (lt = 0 ∧ LT = 23))
    (e0 : μ9 34 0 = nI ac.length) (e1 : μ9 34 1 = nI LT) (ef : ∀ b, 34 < b → b < 204 → μ9 b = μ b) : actC μ9 ac := by
  simp at h1
  refine ⟨e0, by omega, LT, by omega, e1, fun i K' hi => ?_⟩
  have hil : i < ac.length := (List.getElem?_eq_some_iff.mp hi).1
  have := h4 (i + 1) K' (by simpa using hi)
  have e : pRg lt (i + 1) = pRg LT i := by unfold pRg; omega
  rw [e] at this
  have hr := pRg_lt LT i
  exact ⟨this.1.fr (fun b hb1 hb2 => ef b (by omega) (by omega)), this.2⟩
set_option maxRecDepth 100000 in
set_option maxHeartbeats 4000000 in
theorem c_X0_takeBack {G : am_G} {μ : am_M} (K : pK) (ac : List pK) (ha : actC μ (K :: ac)) : am_MA G yX0_takeBack cX0_takeBack 2 (some .int) 2 0 0 [.ref 34, .ref 27] am_SH μ (am_P (some (.int (nI ac.length))) am_SH (fun μ9 => actC μ9 ac ∧ skyC μ9 27 K ∧ am_fr μ μ9 27 177)) := by
  obtain ⟨h0, h1, lt, h2, h3, h4⟩ := ha
  have s0 := sh_34
  have s1 := sh_35
  have hK0 := h4 0 K rfl
  have er : pRg lt 0 = lt := by unfold pRg; omega
  rw [er] at hK0
  have hlen : (K :: ac).length = ac.length + 1 := rfl
  refine am_ofK (own := RX0) (nm := "takeBack") (L := [some (.ref 34), some (.ref 27)]) rfl rfl (by decide +kernel) (Nat.le_of_ble_eq_true rfl) rfl ?_
  refine aw_aload_n dX0_takeBack_0 rfl ?_
  refine aw_aload_n dX0_takeBack_1 rfl ?_
  refine aw_gr dX0_takeBack_2 gf_X0_11 s0 (by rfl) ?_
  refine aw_aload_n dX0_takeBack_5 rfl ?_
  refine aw_gi dX0_takeBack_6 gf_X0_20 s0 (by rfl) ?_
  refine aw_top h3 ?_
  refine aw_aald (t := 3) dX0_takeBack_9 s1 (by decide) rfl (by omega) (by decide) (sh_35r _ (by omega)) ?_
  refine aw_v1vp dX0_takeBack_10 ml_X0_23 im_X5_become se_X5_become (c_X5_become 27 (36 + 7 * lt) sh_sky27 (sh_bef _ (by omega)) (by omega) K hK0.1 hK0.2.1) sh_sky27.1 (by decide) rfl rfl (Nat.le_of_ble_eq_true rfl) (Nat.le_of_ble_eq_true rfl) (Nat.le_of_ble_eq_true rfl) (Nat.le_of_ble_eq_true rfl) (Nat.le_of_ble_eq_true rfl) (fun μ2 hq => ?_)
  refine aw_aload_n dX0_takeBack_13 rfl ?_
  refine aw_aload_n dX0_takeBack_14 rfl ?_
  refine aw_gi dX0_takeBack_15 gf_X0_20 s0 (by rfl) ?_
  refine aw_top (show _ = nI lt by rw [hq.2 34 (by omega)]; exact h3) ?_
  refine aw_if_le (tgt := 30) dX0_takeBack_18 (by decide) (fun c18 => ?_) (fun c18 => ?_)
  · rw [z_le (by omega)] at c18
    refine aw_bipush (v := nI 23) dX0_takeBack_30 rfl ?_
    refine aw_pi dX0_takeBack_32 pf_X0_20 rfl rfl s0 (by rfl) ?_
    refine aw_aload_n dX0_takeBack_35 rfl ?_
    refine aw_dup dX0_takeBack_36 rfl ?_
    refine aw_gi dX0_takeBack_37 gf_X0_16 s0 (by rfl) ?_
    refine aw_top (show _ = nI (ac.length + 1) by rw [am_ups, pk_un (by decide), hq.2 34 (by omega)]; exact h0) ?_
    refine aw_iconst (v := nI 1) dX0_takeBack_40 rfl ?_
    refine aw_isub dX0_takeBack_41 ?_
    refine aw_top (show _ = nI ac.length from (pk_sub (by omega)).trans (by congr 1)) ?_
    refine aw_pi dX0_takeBack_42 pf_X0_16 rfl rfl s0 (by rfl) ?_
    refine aw_aload_n dX0_takeBack_45 rfl ?_
    refine aw_gi dX0_takeBack_46 gf_X0_16 s0 (by rfl) ?_
    refine aw_top (show _ = nI ac.length by rw [am_ups, pk_us]) ?_
    refine aw_iret dX0_takeBack_49 rfl rfl rfl rfl ?_
    exact ⟨rfl, rfl, x_X0_takeBack (LT := 23) h1 h4 h2 (by omega) (by rw [am_ups, pk_us]) (by rw [am_ups, pk_un (by decide), am_ups, pk_us]) (fun b hb1 hb2 => by rw [am_up_n (by omega), am_up_n (by omega), hq.2 b (by omega)]), (hq.1.fr (fun b hb1 hb2 => by rw [am_up_n (by omega), am_up_n (by omega)])), fun b hb => by rw [am_up_n (by omega), am_up_n (by omega), hq.2 b (by omega)]⟩
  · rw [z_le (by omega)] at c18
    refine aw_aload_n dX0_takeBack_21 rfl ?_
    refine aw_gi dX0_takeBack_22 gf_X0_20 s0 (by rfl) ?_
    refine aw_top (show _ = nI lt by rw [hq.2 34 (by omega)]; exact h3) ?_
    refine aw_iconst (v := nI 1) dX0_takeBack_25 rfl ?_
    refine aw_isub dX0_takeBack_26 ?_
    refine aw_top (pk_sub (by omega)) ?_
    refine aw_goto (tgt := 32) dX0_takeBack_27 (by decide) ?_
    refine aw_pi dX0_takeBack_32 pf_X0_20 rfl rfl s0 (by rfl) ?_
    refine aw_aload_n dX0_takeBack_35 rfl ?_
    refine aw_dup dX0_takeBack_36 rfl ?_
    refine aw_gi dX0_takeBack_37 gf_X0_16 s0 (by rfl) ?_
    refine aw_top (show _ = nI (ac.length + 1) by rw [am_ups, pk_un (by decide), hq.2 34 (by omega)]; exact h0) ?_
    refine aw_iconst (v := nI 1) dX0_takeBack_40 rfl ?_
    refine aw_isub dX0_takeBack_41 ?_
    refine aw_top (show _ = nI ac.length from (pk_sub (by omega)).trans (by congr 1)) ?_
    refine aw_pi dX0_takeBack_42 pf_X0_16 rfl rfl s0 (by rfl) ?_
    refine aw_aload_n dX0_takeBack_45 rfl ?_
    refine aw_gi dX0_takeBack_46 gf_X0_16 s0 (by rfl) ?_
    refine aw_top (show _ = nI ac.length by rw [am_ups, pk_us]) ?_
    refine aw_iret dX0_takeBack_49 rfl rfl rfl rfl ?_
    exact ⟨rfl, rfl, x_X0_takeBack (LT := (lt - 1)) h1 h4 h2 (by omega) (by rw [am_ups, pk_us]) (by rw [am_ups, pk_un (by decide), am_ups, pk_us]) (fun b hb1 hb2 => by rw [am_up_n (by omega), am_up_n (by omega), hq.2 b (by omega)]), (hq.1.fr (fun b hb1 hb2 => by rw [am_up_n (by omega), am_up_n (by omega)])), fun b hb => by rw [am_up_n (by omega), am_up_n (by omega), hq.2 b (by omega)]⟩
