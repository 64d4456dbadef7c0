section
-- ===== PART A: goes FIRST, ahead of the names: the tables' words, and 'selects' of the private methods out of them =====
/-- a private method of a class that the tables say can be made, by its rows of tables_1 -/
def lw_okq (q : MethodName × Nat) : Prop := (q.1.cls ≠ "java/lang/invoke/MethodHandle" ∧ q.1.cls ≠ "java/lang/invoke/VarHandle") ∧ Cond.instantiable q.1.cls q.2 ∈ tables_1 ∧ Cond.privateMethod q.1 ∈ tables_1 ∧ Cond.instanceMethod q.1 ∈ tables_1
theorem lw_p0 : lw_okq (⟨"PaperSky", "found", "(I)I"⟩, 10) := ⟨⟨by decide +kernel, by decide +kernel⟩, List.mem_of_getElem? (i := 15) (by decide +kernel), List.mem_of_getElem? (i := 232) (by decide +kernel), List.mem_of_getElem? (i := 233) (by decide +kernel)⟩
theorem lw_p1 : lw_okq (⟨"PaperSky", "foundNothing", "(I)I"⟩, 10) := ⟨⟨by decide +kernel, by decide +kernel⟩, List.mem_of_getElem? (i := 15) (by decide +kernel), List.mem_of_getElem? (i := 244) (by decide +kernel), List.mem_of_getElem? (i := 245) (by decide +kernel)⟩
theorem lw_p2 : lw_okq (⟨"PaperSky$Row", "cut", "(I)I"⟩, 4) := ⟨⟨by decide +kernel, by decide +kernel⟩, List.mem_of_getElem? (i := 24) (by decide +kernel), List.mem_of_getElem? (i := 264) (by decide +kernel), List.mem_of_getElem? (i := 265) (by decide +kernel)⟩
theorem lw_p3 : lw_okq (⟨"PaperSky$Tape", "readLaw", "(LPaperSky$Sky;)V"⟩, 4) := ⟨⟨by decide +kernel, by decide +kernel⟩, List.mem_of_getElem? (i := 48) (by decide +kernel), List.mem_of_getElem? (i := 301) (by decide +kernel), List.mem_of_getElem? (i := 302) (by decide +kernel)⟩
theorem lw_p4 : lw_okq (⟨"PaperSky$Tape", "takeByte", "(I)V"⟩, 4) := ⟨⟨by decide +kernel, by decide +kernel⟩, List.mem_of_getElem? (i := 48) (by decide +kernel), List.mem_of_getElem? (i := 305) (by decide +kernel), List.mem_of_getElem? (i := 306) (by decide +kernel)⟩
theorem lw_p5 : lw_okq (⟨"PaperSky$Tape", "takeNumber", "(I)I"⟩, 4) := ⟨⟨by decide +kernel, by decide +kernel⟩, List.mem_of_getElem? (i := 48) (by decide +kernel), List.mem_of_getElem? (i := 309) (by decide +kernel), List.mem_of_getElem? (i := 310) (by decide +kernel)⟩
theorem lw_p6 : lw_okq (⟨"PaperSky$Tape", "figuresHere", "()I"⟩, 4) := ⟨⟨by decide +kernel, by decide +kernel⟩, List.mem_of_getElem? (i := 48) (by decide +kernel), List.mem_of_getElem? (i := 313) (by decide +kernel), List.mem_of_getElem? (i := 314) (by decide +kernel)⟩
theorem lw_p7 : lw_okq (⟨"PaperSky$Tape", "readOffice", "(LPaperSky$Sky;)V"⟩, 4) := ⟨⟨by decide +kernel, by decide +kernel⟩, List.mem_of_getElem? (i := 48) (by decide +kernel), List.mem_of_getElem? (i := 320) (by decide +kernel), List.mem_of_getElem? (i := 321) (by decide +kernel)⟩
theorem lw_p8 : lw_okq (⟨"PaperSky$Tape", "takeSort", "(I)I"⟩, 4) := ⟨⟨by decide +kernel, by decide +kernel⟩, List.mem_of_getElem? (i := 48) (by decide +kernel), List.mem_of_getElem? (i := 324) (by decide +kernel), List.mem_of_getElem? (i := 325) (by decide +kernel)⟩
theorem lw_p9 : lw_okq (⟨"PaperSky", "noSky", "()Z"⟩, 10) := ⟨⟨by decide +kernel, by decide +kernel⟩, List.mem_of_getElem? (i := 15) (by decide +kernel), List.mem_of_getElem? (i := 363) (by decide +kernel), List.mem_of_getElem? (i := 364) (by decide +kernel)⟩
theorem lw_p10 : lw_okq (⟨"PaperSky", "isOffice", "(I)Z"⟩, 10) := ⟨⟨by decide +kernel, by decide +kernel⟩, List.mem_of_getElem? (i := 15) (by decide +kernel), List.mem_of_getElem? (i := 415) (by decide +kernel), List.mem_of_getElem? (i := 416) (by decide +kernel)⟩
theorem lw_p11 : lw_okq (⟨"PaperSky$Foretold", "spreadAll", "(I[I[I)V"⟩, 5) := ⟨⟨by decide +kernel, by decide +kernel⟩, List.mem_of_getElem? (i := 143) (by decide +kernel), List.mem_of_getElem? (i := 510) (by decide +kernel), List.mem_of_getElem? (i := 511) (by decide +kernel)⟩
theorem lw_p12 : lw_okq (⟨"PaperSky$Foretold", "spread", "(IIII[I)V"⟩, 5) := ⟨⟨by decide +kernel, by decide +kernel⟩, List.mem_of_getElem? (i := 143) (by decide +kernel), List.mem_of_getElem? (i := 514) (by decide +kernel), List.mem_of_getElem? (i := 515) (by decide +kernel)⟩
theorem lw_p13 : lw_okq (⟨"PaperSky$Foretold", "reads", "(II)Z"⟩, 5) := ⟨⟨by decide +kernel, by decide +kernel⟩, List.mem_of_getElem? (i := 143) (by decide +kernel), List.mem_of_getElem? (i := 541) (by decide +kernel), List.mem_of_getElem? (i := 542) (by decide +kernel)⟩
theorem lw_p14 : lw_okq (⟨"PaperSky$Foretold", "comesSo", "(I[III)Z"⟩, 5) := ⟨⟨by decide +kernel, by decide +kernel⟩, List.mem_of_getElem? (i := 143) (by decide +kernel), List.mem_of_getElem? (i := 562) (by decide +kernel), List.mem_of_getElem? (i := 563) (by decide +kernel)⟩
theorem lw_p15 : lw_okq (⟨"PaperSky$Foretold", "landIfTurned", "(III)I"⟩, 5) := ⟨⟨by decide +kernel, by decide +kernel⟩, List.mem_of_getElem? (i := 143) (by decide +kernel), List.mem_of_getElem? (i := 600) (by decide +kernel), List.mem_of_getElem? (i := 601) (by decide +kernel)⟩
def lw_privs_1 : List (MethodName × Nat) := [(⟨"PaperSky", "found", "(I)I"⟩, 10), (⟨"PaperSky", "foundNothing", "(I)I"⟩, 10), (⟨"PaperSky$Row", "cut", "(I)I"⟩, 4), (⟨"PaperSky$Tape", "readLaw", "(LPaperSky$Sky;)V"⟩, 4), (⟨"PaperSky$Tape", "takeByte", "(I)V"⟩, 4), (⟨"PaperSky$Tape", "takeNumber", "(I)I"⟩, 4), (⟨"PaperSky$Tape", "figuresHere", "()I"⟩, 4), (⟨"PaperSky$Tape", "readOffice", "(LPaperSky$Sky;)V"⟩, 4), (⟨"PaperSky$Tape", "takeSort", "(I)I"⟩, 4), (⟨"PaperSky", "noSky", "()Z"⟩, 10), (⟨"PaperSky", "isOffice", "(I)Z"⟩, 10), (⟨"PaperSky$Foretold", "spreadAll", "(I[I[I)V"⟩, 5), (⟨"PaperSky$Foretold", "spread", "(IIII[I)V"⟩, 5), (⟨"PaperSky$Foretold", "reads", "(II)Z"⟩, 5), (⟨"PaperSky$Foretold", "comesSo", "(I[III)Z"⟩, 5), (⟨"PaperSky$Foretold", "landIfTurned", "(III)I"⟩, 5)]
theorem lw_r1 : ∀ q ∈ lw_privs_1, lw_okq q := List.forall_mem_cons.mpr ⟨lw_p0, List.forall_mem_cons.mpr ⟨lw_p1, List.forall_mem_cons.mpr ⟨lw_p2, List.forall_mem_cons.mpr ⟨lw_p3, List.forall_mem_cons.mpr ⟨lw_p4, List.forall_mem_cons.mpr ⟨lw_p5, List.forall_mem_cons.mpr ⟨lw_p6, List.forall_mem_cons.mpr ⟨lw_p7, List.forall_mem_cons.mpr ⟨lw_p8, List.forall_mem_cons.mpr ⟨lw_p9, List.forall_mem_cons.mpr ⟨lw_p10, List.forall_mem_cons.mpr ⟨lw_p11, List.forall_mem_cons.mpr ⟨lw_p12, List.forall_mem_cons.mpr ⟨lw_p13, List.forall_mem_cons.mpr ⟨lw_p14, List.forall_mem_cons.mpr ⟨lw_p15, fun _ h => absurd h List.not_mem_nil⟩⟩⟩⟩⟩⟩⟩⟩⟩⟩⟩⟩⟩⟩⟩⟩
theorem lw_p16 : lw_okq (⟨"PaperSky$Asks", "bodyFor", "(II)I"⟩, 3) := ⟨⟨by decide +kernel, by decide +kernel⟩, List.mem_of_getElem? (i := 172) (by decide +kernel), List.mem_of_getElem? (i := 661) (by decide +kernel), List.mem_of_getElem? (i := 662) (by decide +kernel)⟩
theorem lw_p17 : lw_okq (⟨"PaperSky$Asks", "give", "(III)I"⟩, 3) := ⟨⟨by decide +kernel, by decide +kernel⟩, List.mem_of_getElem? (i := 172) (by decide +kernel), List.mem_of_getElem? (i := 673) (by decide +kernel), List.mem_of_getElem? (i := 674) (by decide +kernel)⟩
theorem lw_p18 : lw_okq (⟨"PaperSky$Asks", "leave", "(I)V"⟩, 3) := ⟨⟨by decide +kernel, by decide +kernel⟩, List.mem_of_getElem? (i := 172) (by decide +kernel), List.mem_of_getElem? (i := 677) (by decide +kernel), List.mem_of_getElem? (i := 678) (by decide +kernel)⟩
theorem lw_p19 : lw_okq (⟨"PaperSky", "rowsThatAre", "()I"⟩, 10) := ⟨⟨by decide +kernel, by decide +kernel⟩, List.mem_of_getElem? (i := 15) (by decide +kernel), List.mem_of_getElem? (i := 689) (by decide +kernel), List.mem_of_getElem? (i := 690) (by decide +kernel)⟩
theorem lw_p20 : lw_okq (⟨"PaperSkyModel", "found", "(I)I"⟩, 24) := ⟨⟨by decide +kernel, by decide +kernel⟩, List.mem_of_getElem? (i := 701) (by decide +kernel), List.mem_of_getElem? (i := 794) (by decide +kernel), List.mem_of_getElem? (i := 795) (by decide +kernel)⟩
theorem lw_p21 : lw_okq (⟨"PaperSkyModel", "well", "(I)I"⟩, 24) := ⟨⟨by decide +kernel, by decide +kernel⟩, List.mem_of_getElem? (i := 701) (by decide +kernel), List.mem_of_getElem? (i := 799) (by decide +kernel), List.mem_of_getElem? (i := 800) (by decide +kernel)⟩
theorem lw_p22 : lw_okq (⟨"PaperSkyModel", "reads", "()Z"⟩, 24) := ⟨⟨by decide +kernel, by decide +kernel⟩, List.mem_of_getElem? (i := 701) (by decide +kernel), List.mem_of_getElem? (i := 825) (by decide +kernel), List.mem_of_getElem? (i := 826) (by decide +kernel)⟩
theorem lw_p23 : lw_okq (⟨"PaperSkyModel", "readsLaw", "()Z"⟩, 24) := ⟨⟨by decide +kernel, by decide +kernel⟩, List.mem_of_getElem? (i := 701) (by decide +kernel), List.mem_of_getElem? (i := 829) (by decide +kernel), List.mem_of_getElem? (i := 830) (by decide +kernel)⟩
theorem lw_p24 : lw_okq (⟨"PaperSkyModel", "next", "()V"⟩, 24) := ⟨⟨by decide +kernel, by decide +kernel⟩, List.mem_of_getElem? (i := 701) (by decide +kernel), List.mem_of_getElem? (i := 833) (by decide +kernel), List.mem_of_getElem? (i := 834) (by decide +kernel)⟩
theorem lw_p25 : lw_okq (⟨"PaperSkyModel", "fails", "(I)Z"⟩, 24) := ⟨⟨by decide +kernel, by decide +kernel⟩, List.mem_of_getElem? (i := 701) (by decide +kernel), List.mem_of_getElem? (i := 844) (by decide +kernel), List.mem_of_getElem? (i := 845) (by decide +kernel)⟩
theorem lw_p26 : lw_okq (⟨"PaperSkyModel", "number", "(II)Z"⟩, 24) := ⟨⟨by decide +kernel, by decide +kernel⟩, List.mem_of_getElem? (i := 701) (by decide +kernel), List.mem_of_getElem? (i := 848) (by decide +kernel), List.mem_of_getElem? (i := 849) (by decide +kernel)⟩
theorem lw_p27 : lw_okq (⟨"PaperSkyModel", "sign", "(I)Z"⟩, 24) := ⟨⟨by decide +kernel, by decide +kernel⟩, List.mem_of_getElem? (i := 701) (by decide +kernel), List.mem_of_getElem? (i := 852) (by decide +kernel), List.mem_of_getElem? (i := 853) (by decide +kernel)⟩
theorem lw_p28 : lw_okq (⟨"PaperSkyModel", "readsOffice", "()Z"⟩, 24) := ⟨⟨by decide +kernel, by decide +kernel⟩, List.mem_of_getElem? (i := 701) (by decide +kernel), List.mem_of_getElem? (i := 856) (by decide +kernel), List.mem_of_getElem? (i := 857) (by decide +kernel)⟩
theorem lw_p29 : lw_okq (⟨"PaperSkyModel", "remember", "()V"⟩, 24) := ⟨⟨by decide +kernel, by decide +kernel⟩, List.mem_of_getElem? (i := 701) (by decide +kernel), List.mem_of_getElem? (i := 881) (by decide +kernel), List.mem_of_getElem? (i := 882) (by decide +kernel)⟩
theorem lw_p30 : lw_okq (⟨"PaperSkyModel", "isOffice", "(I)Z"⟩, 24) := ⟨⟨by decide +kernel, by decide +kernel⟩, List.mem_of_getElem? (i := 701) (by decide +kernel), List.mem_of_getElem? (i := 907) (by decide +kernel), List.mem_of_getElem? (i := 908) (by decide +kernel)⟩
theorem lw_p31 : lw_okq (⟨"PaperSkyModel", "goAside", "(I)V"⟩, 24) := ⟨⟨by decide +kernel, by decide +kernel⟩, List.mem_of_getElem? (i := 701) (by decide +kernel), List.mem_of_getElem? (i := 955) (by decide +kernel), List.mem_of_getElem? (i := 956) (by decide +kernel)⟩
def lw_privs_2 : List (MethodName × Nat) := [(⟨"PaperSky$Asks", "bodyFor", "(II)I"⟩, 3), (⟨"PaperSky$Asks", "give", "(III)I"⟩, 3), (⟨"PaperSky$Asks", "leave", "(I)V"⟩, 3), (⟨"PaperSky", "rowsThatAre", "()I"⟩, 10), (⟨"PaperSkyModel", "found", "(I)I"⟩, 24), (⟨"PaperSkyModel", "well", "(I)I"⟩, 24), (⟨"PaperSkyModel", "reads", "()Z"⟩, 24), (⟨"PaperSkyModel", "readsLaw", "()Z"⟩, 24), (⟨"PaperSkyModel", "next", "()V"⟩, 24), (⟨"PaperSkyModel", "fails", "(I)Z"⟩, 24), (⟨"PaperSkyModel", "number", "(II)Z"⟩, 24), (⟨"PaperSkyModel", "sign", "(I)Z"⟩, 24), (⟨"PaperSkyModel", "readsOffice", "()Z"⟩, 24), (⟨"PaperSkyModel", "remember", "()V"⟩, 24), (⟨"PaperSkyModel", "isOffice", "(I)Z"⟩, 24), (⟨"PaperSkyModel", "goAside", "(I)V"⟩, 24)]
theorem lw_r2 : ∀ q ∈ lw_privs_2, lw_okq q := List.forall_mem_cons.mpr ⟨lw_p16, List.forall_mem_cons.mpr ⟨lw_p17, List.forall_mem_cons.mpr ⟨lw_p18, List.forall_mem_cons.mpr ⟨lw_p19, List.forall_mem_cons.mpr ⟨lw_p20, List.forall_mem_cons.mpr ⟨lw_p21, List.forall_mem_cons.mpr ⟨lw_p22, List.forall_mem_cons.mpr ⟨lw_p23, List.forall_mem_cons.mpr ⟨lw_p24, List.forall_mem_cons.mpr ⟨lw_p25, List.forall_mem_cons.mpr ⟨lw_p26, List.forall_mem_cons.mpr ⟨lw_p27, List.forall_mem_cons.mpr ⟨lw_p28, List.forall_mem_cons.mpr ⟨lw_p29, List.forall_mem_cons.mpr ⟨lw_p30, List.forall_mem_cons.mpr ⟨lw_p31, fun _ h => absurd h List.not_mem_nil⟩⟩⟩⟩⟩⟩⟩⟩⟩⟩⟩⟩⟩⟩⟩⟩
theorem lw_p32 : lw_okq (⟨"PaperSkyModel", "layFewest", "(IIII)V"⟩, 24) := ⟨⟨by decide +kernel, by decide +kernel⟩, List.mem_of_getElem? (i := 701) (by decide +kernel), List.mem_of_getElem? (i := 977) (by decide +kernel), List.mem_of_getElem? (i := 978) (by decide +kernel)⟩
theorem lw_p33 : lw_okq (⟨"PaperSkyModel", "fewestBy", "(IIIII)I"⟩, 24) := ⟨⟨by decide +kernel, by decide +kernel⟩, List.mem_of_getElem? (i := 701) (by decide +kernel), List.mem_of_getElem? (i := 982) (by decide +kernel), List.mem_of_getElem? (i := 983) (by decide +kernel)⟩
theorem lw_p34 : lw_okq (⟨"PaperSkyModel", "lies", "(III)I"⟩, 24) := ⟨⟨by decide +kernel, by decide +kernel⟩, List.mem_of_getElem? (i := 701) (by decide +kernel), List.mem_of_getElem? (i := 994) (by decide +kernel), List.mem_of_getElem? (i := 995) (by decide +kernel)⟩
theorem lw_p35 : lw_okq (⟨"PaperSkyModel", "comesSo", "(IIII)Z"⟩, 24) := ⟨⟨by decide +kernel, by decide +kernel⟩, List.mem_of_getElem? (i := 701) (by decide +kernel), List.mem_of_getElem? (i := 1003) (by decide +kernel), List.mem_of_getElem? (i := 1004) (by decide +kernel)⟩
theorem lw_p36 : lw_okq (⟨"PaperSkyModel", "lastsWith", "(II)I"⟩, 24) := ⟨⟨by decide +kernel, by decide +kernel⟩, List.mem_of_getElem? (i := 701) (by decide +kernel), List.mem_of_getElem? (i := 1019) (by decide +kernel), List.mem_of_getElem? (i := 1020) (by decide +kernel)⟩
theorem lw_p37 : lw_okq (⟨"PaperSkyModel", "mark", "(I)I"⟩, 24) := ⟨⟨by decide +kernel, by decide +kernel⟩, List.mem_of_getElem? (i := 701) (by decide +kernel), List.mem_of_getElem? (i := 1064) (by decide +kernel), List.mem_of_getElem? (i := 1065) (by decide +kernel)⟩
theorem lw_p38 : lw_okq (⟨"PaperSkyModel", "leave", "(J)V"⟩, 24) := ⟨⟨by decide +kernel, by decide +kernel⟩, List.mem_of_getElem? (i := 701) (by decide +kernel), List.mem_of_getElem? (i := 1071) (by decide +kernel), List.mem_of_getElem? (i := 1072) (by decide +kernel)⟩
theorem lw_p39 : lw_okq (⟨"PaperSkyModel", "sizeOf", "(I)I"⟩, 24) := ⟨⟨by decide +kernel, by decide +kernel⟩, List.mem_of_getElem? (i := 701) (by decide +kernel), List.mem_of_getElem? (i := 1078) (by decide +kernel), List.mem_of_getElem? (i := 1079) (by decide +kernel)⟩
def lw_privs_3 : List (MethodName × Nat) := [(⟨"PaperSkyModel", "layFewest", "(IIII)V"⟩, 24), (⟨"PaperSkyModel", "fewestBy", "(IIIII)I"⟩, 24), (⟨"PaperSkyModel", "lies", "(III)I"⟩, 24), (⟨"PaperSkyModel", "comesSo", "(IIII)Z"⟩, 24), (⟨"PaperSkyModel", "lastsWith", "(II)I"⟩, 24), (⟨"PaperSkyModel", "mark", "(I)I"⟩, 24), (⟨"PaperSkyModel", "leave", "(J)V"⟩, 24), (⟨"PaperSkyModel", "sizeOf", "(I)I"⟩, 24)]
theorem lw_r3 : ∀ q ∈ lw_privs_3, lw_okq q := List.forall_mem_cons.mpr ⟨lw_p32, List.forall_mem_cons.mpr ⟨lw_p33, List.forall_mem_cons.mpr ⟨lw_p34, List.forall_mem_cons.mpr ⟨lw_p35, List.forall_mem_cons.mpr ⟨lw_p36, List.forall_mem_cons.mpr ⟨lw_p37, List.forall_mem_cons.mpr ⟨lw_p38, List.forall_mem_cons.mpr ⟨lw_p39, fun _ h => absurd h List.not_mem_nil⟩⟩⟩⟩⟩⟩⟩⟩
def lw_privs : List (MethodName × Nat) := lw_privs_1 ++ (lw_privs_2 ++ (lw_privs_3))
def lw_tbl : List Cond := k2_sels lw_privs ++ tables_1
theorem lw_privs_ok : ∀ q ∈ lw_privs, lw_okq q := by
  show ∀ q ∈ lw_privs_1 ++ (lw_privs_2 ++ (lw_privs_3)), lw_okq q
  exact List.forall_mem_append.mpr ⟨lw_r1, List.forall_mem_append.mpr ⟨lw_r2, lw_r3⟩⟩
end
section
def RX0 : String := "PaperSky$Acts"
def TX0 : u_T := fun k => match k with
  | 0 => ("PaperSky$Acts", "kept", "I", false)
  | 1 => ("PaperSky$Acts", "latest", "I", false)
  | _ => ("PaperSky$Acts", "before", "[LPaperSky$Sky;", true)
def tyX0 : Nat → FieldType := fun k => match k with
  | 0 => .int
  | 1 => .int
  | _ => .array (.object "PaperSky$Sky")
abbrev wsX00 : List Cond := u_ws RX0 TX0 3
theorem nmX0 : ∀ a, a < 3 → ∀ b, b < 3 → a ≠ b → (TX0 a).2.1 ≠ (TX0 b).2.1 := by decide +kernel
theorem tyX0_ok : ∀ k, k < 3 → parseFieldDescriptor (TX0 k).2.2.1 = some (tyX0 k) := by decide +kernel
abbrev cX0_init : ByteArray := prog_2_method_1_code
def yX0_init : MethodName := ⟨RX0, "<init>", "()V"⟩
abbrev cX0_forget : ByteArray := prog_2_method_2_code
def yX0_forget : MethodName := ⟨RX0, "forget", "()V"⟩
abbrev cX0_keep : ByteArray := prog_2_method_3_code
def yX0_keep : MethodName := ⟨RX0, "keep", "(LPaperSky$Sky;)V"⟩
abbrev cX0_takeBack : ByteArray := prog_2_method_4_code
def yX0_takeBack : MethodName := ⟨RX0, "takeBack", "(LPaperSky$Sky;)I"⟩
def RX1 : String := "PaperSky$Asks"
def TX1 : u_T := fun k => match k with
  | 0 => ("PaperSky$Asks", "now", "LPaperSky$Sky;", true)
  | 1 => ("PaperSky$Asks", "numbers", "[I", true)
  | _ => ("PaperSky$Asks", "left", "I", false)
def tyX1 : Nat → FieldType := fun k => match k with
  | 0 => .object "PaperSky$Sky"
  | 1 => .array .int
  | _ => .int
abbrev wsX10 : List Cond := u_ws RX1 TX1 3
theorem nmX1 : ∀ a, a < 3 → ∀ b, b < 3 → a ≠ b → (TX1 a).2.1 ≠ (TX1 b).2.1 := by decide +kernel
theorem tyX1_ok : ∀ k, k < 3 → parseFieldDescriptor (TX1 k).2.2.1 = some (tyX1 k) := by decide +kernel
abbrev cX1_init : ByteArray := prog_3_method_1_code
def yX1_init : MethodName := ⟨RX1, "<init>", "(LPaperSky$Sky;)V"⟩
abbrev cX1_begin : ByteArray := prog_3_method_2_code
def yX1_begin : MethodName := ⟨RX1, "begin", "(II)I"⟩
abbrev cX1_bodyFor : ByteArray := prog_3_method_3_code
def yX1_bodyFor : MethodName := ⟨RX1, "bodyFor", "(II)I"⟩
abbrev cX1_toldBody : ByteArray := prog_3_method_4_code
def yX1_toldBody : MethodName := ⟨RX1, "toldBody", "(II)I"⟩
abbrev cX1_give : ByteArray := prog_3_method_5_code
def yX1_give : MethodName := ⟨RX1, "give", "(III)I"⟩
abbrev cX1_leave : ByteArray := prog_3_method_6_code
def yX1_leave : MethodName := ⟨RX1, "leave", "(I)V"⟩
def RX2 : String := "PaperSky$Foretold"
def TX2 : u_T := fun k => match k with
  | 0 => ("PaperSky$Foretold", "now", "LPaperSky$Sky;", true)
  | 1 => ("PaperSky$Foretold", "later", "LPaperSky$Sky;", true)
  | 2 => ("PaperSky$Foretold", "firstWay", "[I", true)
  | 3 => ("PaperSky$Foretold", "stays", "[I", true)
  | _ => ("PaperSky$Foretold", "plans", "[[I", true)
def tyX2 : Nat → FieldType := fun k => match k with
  | 0 => .object "PaperSky$Sky"
  | 1 => .object "PaperSky$Sky"
  | 2 => .array .int
  | 3 => .array .int
  | _ => .array (.array .int)
abbrev wsX20 : List Cond := u_ws RX2 TX2 5
theorem nmX2 : ∀ a, a < 5 → ∀ b, b < 5 → a ≠ b → (TX2 a).2.1 ≠ (TX2 b).2.1 := by decide +kernel
theorem tyX2_ok : ∀ k, k < 5 → parseFieldDescriptor (TX2 k).2.2.1 = some (tyX2 k) := by decide +kernel
abbrev cX2_init : ByteArray := prog_4_method_1_code
def yX2_init : MethodName := ⟨RX2, "<init>", "(LPaperSky$Sky;)V"⟩
abbrev cX2_landBehind : ByteArray := prog_4_method_2_code
def yX2_landBehind : MethodName := ⟨RX2, "landBehind", "(II)I"⟩
abbrev cX2_heightBehind : ByteArray := prog_4_method_3_code
def yX2_heightBehind : MethodName := ⟨RX2, "heightBehind", "(II)I"⟩
abbrev cX2_hoursToGround : ByteArray := prog_4_method_4_code
def yX2_hoursToGround : MethodName := ⟨RX2, "hoursToGround", "(I)I"⟩
abbrev cX2_hoursToMeeting : ByteArray := prog_4_method_5_code
def yX2_hoursToMeeting : MethodName := ⟨RX2, "hoursToMeeting", "(II)I"⟩
abbrev cX2_officesBehind : ByteArray := prog_4_method_6_code
def yX2_officesBehind : MethodName := ⟨RX2, "officesBehind", "(II)I"⟩
abbrev cX2_fewestPlan : ByteArray := prog_4_method_7_code
def yX2_fewestPlan : MethodName := ⟨RX2, "fewestPlan", "(IIII)I"⟩
abbrev cX2_spreadAll : ByteArray := prog_4_method_8_code
def yX2_spreadAll : MethodName := ⟨RX2, "spreadAll", "(I[I[I)V"⟩
abbrev cX2_spread : ByteArray := prog_4_method_9_code
def yX2_spread : MethodName := ⟨RX2, "spread", "(IIII[I)V"⟩
abbrev cX2_longer : ByteArray := prog_4_method_10_code
def yX2_longer : MethodName := ⟨RX2, "longer", "(II)I"⟩
abbrev cX2_sheetsOf : ByteArray := prog_4_method_11_code
def yX2_sheetsOf : MethodName := ⟨RX2, "sheetsOf", "(I)I"⟩
abbrev cX2_sheetsAhead : ByteArray := prog_4_method_12_code
def yX2_sheetsAhead : MethodName := ⟨RX2, "sheetsAhead", "(III)I"⟩
abbrev cX2_hoursToPass : ByteArray := prog_4_method_13_code
def yX2_hoursToPass : MethodName := ⟨RX2, "hoursToPass", "(I[III)I"⟩
abbrev cX2_reads : ByteArray := prog_4_method_14_code
def yX2_reads : MethodName := ⟨RX2, "reads", "(II)Z"⟩
abbrev cX2_waysToBurn : ByteArray := prog_4_method_15_code
def yX2_waysToBurn : MethodName := ⟨RX2, "waysToBurn", "(I[III)I"⟩
abbrev cX2_kindsThatFit : ByteArray := prog_4_method_16_code
def yX2_kindsThatFit : MethodName := ⟨RX2, "kindsThatFit", "(I[IIII)I"⟩
abbrev cX2_comesSo : ByteArray := prog_4_method_17_code
def yX2_comesSo : MethodName := ⟨RX2, "comesSo", "(I[III)Z"⟩
abbrev cX2_landRuled : ByteArray := prog_4_method_18_code
def yX2_landRuled : MethodName := ⟨RX2, "landRuled", "(I)I"⟩
abbrev cX2_hoursUp : ByteArray := prog_4_method_19_code
def yX2_hoursUp : MethodName := ⟨RX2, "hoursUp", "(III)I"⟩
abbrev cX2_fewestFiles : ByteArray := prog_4_method_20_code
def yX2_fewestFiles : MethodName := ⟨RX2, "fewestFiles", "(II)I"⟩
abbrev cX2_casesInLand : ByteArray := prog_4_method_21_code
def yX2_casesInLand : MethodName := ⟨RX2, "casesInLand", "(IIII)I"⟩
abbrev cX2_landIfTurned : ByteArray := prog_4_method_22_code
def yX2_landIfTurned : MethodName := ⟨RX2, "landIfTurned", "(III)I"⟩
abbrev cX2_casesOf : ByteArray := prog_4_method_23_code
def yX2_casesOf : MethodName := ⟨RX2, "casesOf", "(II)I"⟩
abbrev cX2_commonDivisor : ByteArray := prog_4_method_24_code
def yX2_commonDivisor : MethodName := ⟨RX2, "commonDivisor", "(II)I"⟩
abbrev cX2_sheetsByDraws : ByteArray := prog_4_method_25_code
def yX2_sheetsByDraws : MethodName := ⟨RX2, "sheetsByDraws", "(II)I"⟩
def RX3 : String := "PaperSky$Kinds"
def TX3 : u_T := fun k => match k with
  | _ => ("", "", "", false)
def tyX3 : Nat → FieldType := fun k => match k with
  | _ => .int
abbrev wsX30 : List Cond := u_ws RX3 TX3 0
theorem nmX3 : ∀ a, a < 0 → ∀ b, b < 0 → a ≠ b → (TX3 a).2.1 ≠ (TX3 b).2.1 := by decide +kernel
theorem tyX3_ok : ∀ k, k < 0 → parseFieldDescriptor (TX3 k).2.2.1 = some (tyX3 k) := by decide +kernel
abbrev cX3_ofLetter : ByteArray := prog_5_method_2_code
def yX3_ofLetter : MethodName := ⟨RX3, "ofLetter", "(I)I"⟩
abbrev cX3_nearest : ByteArray := prog_5_method_3_code
def yX3_nearest : MethodName := ⟨RX3, "nearest", "(I)I"⟩
abbrev cX3_isSuch : ByteArray := prog_5_method_4_code
def yX3_isSuch : MethodName := ⟨RX3, "isSuch", "(II)Z"⟩
def RX4 : String := "PaperSky$Row"
def TX4 : u_T := fun k => match k with
  | 0 => ("PaperSky$Row", "missing", "Z", false)
  | 1 => ("PaperSky$Row", "lane", "I", false)
  | 2 => ("PaperSky$Row", "length", "I", false)
  | _ => ("PaperSky$Row", "items", "[I", true)
def tyX4 : Nat → FieldType := fun k => match k with
  | 0 => .boolean
  | 1 => .int
  | 2 => .int
  | _ => .array .int
abbrev wsX40 : List Cond := u_ws RX4 TX4 4
theorem nmX4 : ∀ a, a < 4 → ∀ b, b < 4 → a ≠ b → (TX4 a).2.1 ≠ (TX4 b).2.1 := by decide +kernel
theorem tyX4_ok : ∀ k, k < 4 → parseFieldDescriptor (TX4 k).2.2.1 = some (tyX4 k) := by decide +kernel
abbrev cX4_init : ByteArray := prog_6_method_1_code
def yX4_init : MethodName := ⟨RX4, "<init>", "()V"⟩
abbrev cX4_begin : ByteArray := prog_6_method_2_code
def yX4_begin : MethodName := ⟨RX4, "begin", "(II)V"⟩
abbrev cX4_findingOf : ByteArray := prog_6_method_3_code
def yX4_findingOf : MethodName := ⟨RX4, "findingOf", "(II)I"⟩
abbrev cX4_spans : ByteArray := prog_6_method_4_code
def yX4_spans : MethodName := ⟨RX4, "spans", "(II)Z"⟩
abbrev cX4_put : ByteArray := prog_6_method_5_code
def yX4_put : MethodName := ⟨RX4, "put", "(II)I"⟩
abbrev cX4_cut : ByteArray := prog_6_method_6_code
def yX4_cut : MethodName := ⟨RX4, "cut", "(I)I"⟩
def RX5 : String := "PaperSky$Sky"
def TX5 : u_T := fun k => match k with
  | 0 => ("PaperSky$Sky", "offices", "I", false)
  | 1 => ("PaperSky$Sky", "sinks", "I", false)
  | 2 => ("PaperSky$Sky", "hour", "I", false)
  | 3 => ("PaperSky$Sky", "winds", "[I", true)
  | 4 => ("PaperSky$Sky", "kinds", "[I", true)
  | 5 => ("PaperSky$Sky", "lands", "[I", true)
  | 6 => ("PaperSky$Sky", "heights", "[I", true)
  | 7 => ("PaperSky$Sky", "files", "[I", true)
  | _ => ("PaperSky$Sky", "burnt", "[I", true)
def tyX5 : Nat → FieldType := fun k => match k with
  | 0 => .int
  | 1 => .int
  | 2 => .int
  | 3 => .array .int
  | 4 => .array .int
  | 5 => .array .int
  | 6 => .array .int
  | 7 => .array .int
  | _ => .array .int
abbrev wsX50 : List Cond := u_ws RX5 TX5 9
theorem nmX5 : ∀ a, a < 9 → ∀ b, b < 9 → a ≠ b → (TX5 a).2.1 ≠ (TX5 b).2.1 := by decide +kernel
theorem tyX5_ok : ∀ k, k < 9 → parseFieldDescriptor (TX5 k).2.2.1 = some (tyX5 k) := by decide +kernel
abbrev cX5_init : ByteArray := prog_7_method_1_code
def yX5_init : MethodName := ⟨RX5, "<init>", "()V"⟩
abbrev cX5_begin : ByteArray := prog_7_method_2_code
def yX5_begin : MethodName := ⟨RX5, "begin", "()V"⟩
abbrev cX5_addOffice : ByteArray := prog_7_method_3_code
def yX5_addOffice : MethodName := ⟨RX5, "addOffice", "(IIII)V"⟩
abbrev cX5_become : ByteArray := prog_7_method_4_code
def yX5_become : MethodName := ⟨RX5, "become", "(LPaperSky$Sky;)V"⟩
abbrev cX5_passHour : ByteArray := prog_7_method_5_code
def yX5_passHour : MethodName := ⟨RX5, "passHour", "()V"⟩
abbrev cX5_useSheets : ByteArray := prog_7_method_6_code
def yX5_useSheets : MethodName := ⟨RX5, "useSheets", "(II)V"⟩
abbrev cX5_sunk : ByteArray := prog_7_method_7_code
def yX5_sunk : MethodName := ⟨RX5, "sunk", "(I)I"⟩
abbrev cX5_carried : ByteArray := prog_7_method_8_code
def yX5_carried : MethodName := ⟨RX5, "carried", "(II)I"⟩
abbrev cX5_driftAt : ByteArray := prog_7_method_9_code
def yX5_driftAt : MethodName := ⟨RX5, "driftAt", "(I)I"⟩
abbrev cX5_moved : ByteArray := prog_7_method_10_code
def yX5_moved : MethodName := ⟨RX5, "moved", "(II)I"⟩
abbrev cX5_bandOf : ByteArray := prog_7_method_11_code
def yX5_bandOf : MethodName := ⟨RX5, "bandOf", "(I)I"⟩
abbrev cX5_liftOf : ByteArray := prog_7_method_12_code
def yX5_liftOf : MethodName := ⟨RX5, "liftOf", "(II)I"⟩
abbrev cX5_lifted : ByteArray := prog_7_method_13_code
def yX5_lifted : MethodName := ⟨RX5, "lifted", "(III)I"⟩
abbrev cX5_officesIn : ByteArray := prog_7_method_14_code
def yX5_officesIn : MethodName := ⟨RX5, "officesIn", "(I)I"⟩
abbrev cX5_floating : ByteArray := prog_7_method_15_code
def yX5_floating : MethodName := ⟨RX5, "floating", "()I"⟩
abbrev cX5_allBurnt : ByteArray := prog_7_method_16_code
def yX5_allBurnt : MethodName := ⟨RX5, "allBurnt", "()I"⟩
abbrev cX5_landsAdded : ByteArray := prog_7_method_17_code
def yX5_landsAdded : MethodName := ⟨RX5, "landsAdded", "()I"⟩
def RX6 : String := "PaperSky$Tape"
def TX6 : u_T := fun k => match k with
  | 0 => ("PaperSky$Tape", "bytes", "[I", true)
  | 1 => ("PaperSky$Tape", "length", "I", false)
  | 2 => ("PaperSky$Tape", "place", "I", false)
  | _ => ("PaperSky$Tape", "fault", "I", false)
def tyX6 : Nat → FieldType := fun k => match k with
  | 0 => .array .int
  | 1 => .int
  | 2 => .int
  | _ => .int
abbrev wsX60 : List Cond := u_ws RX6 TX6 4
theorem nmX6 : ∀ a, a < 4 → ∀ b, b < 4 → a ≠ b → (TX6 a).2.1 ≠ (TX6 b).2.1 := by decide +kernel
theorem tyX6_ok : ∀ k, k < 4 → parseFieldDescriptor (TX6 k).2.2.1 = some (tyX6 k) := by decide +kernel
abbrev cX6_init : ByteArray := prog_8_method_1_code
def yX6_init : MethodName := ⟨RX6, "<init>", "()V"⟩
abbrev cX6_add : ByteArray := prog_8_method_2_code
def yX6_add : MethodName := ⟨RX6, "add", "(I)I"⟩
abbrev cX6_readInto : ByteArray := prog_8_method_3_code
def yX6_readInto : MethodName := ⟨RX6, "readInto", "(LPaperSky$Sky;)I"⟩
abbrev cX6_readLaw : ByteArray := prog_8_method_4_code
def yX6_readLaw : MethodName := ⟨RX6, "readLaw", "(LPaperSky$Sky;)V"⟩
abbrev cX6_readOffice : ByteArray := prog_8_method_5_code
def yX6_readOffice : MethodName := ⟨RX6, "readOffice", "(LPaperSky$Sky;)V"⟩
abbrev cX6_takeSort : ByteArray := prog_8_method_6_code
def yX6_takeSort : MethodName := ⟨RX6, "takeSort", "(I)I"⟩
abbrev cX6_takeByte : ByteArray := prog_8_method_7_code
def yX6_takeByte : MethodName := ⟨RX6, "takeByte", "(I)V"⟩
abbrev cX6_takeNumber : ByteArray := prog_8_method_8_code
def yX6_takeNumber : MethodName := ⟨RX6, "takeNumber", "(I)I"⟩
abbrev cX6_figuresHere : ByteArray := prog_8_method_9_code
def yX6_figuresHere : MethodName := ⟨RX6, "figuresHere", "()I"⟩
abbrev cX6_isFigure : ByteArray := prog_8_method_10_code
def yX6_isFigure : MethodName := ⟨RX6, "isFigure", "(I)Z"⟩
def RX7 : String := "PaperSky"
def TX7 : u_T := fun k => match k with
  | 0 => ("PaperSky", "rows", "[LPaperSky$Row;", true)
  | 1 => ("PaperSky", "tape", "LPaperSky$Tape;", true)
  | 2 => ("PaperSky", "told", "LPaperSky$Sky;", true)
  | 3 => ("PaperSky", "now", "LPaperSky$Sky;", true)
  | 4 => ("PaperSky", "acts", "LPaperSky$Acts;", true)
  | 5 => ("PaperSky", "images", "[LPaperSky$Sky;", true)
  | 6 => ("PaperSky", "foretold", "LPaperSky$Foretold;", true)
  | 7 => ("PaperSky", "asks", "LPaperSky$Asks;", true)
  | 8 => ("PaperSky", "latestFault", "I", false)
  | _ => ("PaperSky", "latestFinding", "I", false)
def tyX7 : Nat → FieldType := fun k => match k with
  | 0 => .array (.object "PaperSky$Row")
  | 1 => .object "PaperSky$Tape"
  | 2 => .object "PaperSky$Sky"
  | 3 => .object "PaperSky$Sky"
  | 4 => .object "PaperSky$Acts"
  | 5 => .array (.object "PaperSky$Sky")
  | 6 => .object "PaperSky$Foretold"
  | 7 => .object "PaperSky$Asks"
  | 8 => .int
  | _ => .int
abbrev wsX70 : List Cond := u_ws RX7 TX7 10
theorem nmX7 : ∀ a, a < 10 → ∀ b, b < 10 → a ≠ b → (TX7 a).2.1 ≠ (TX7 b).2.1 := by decide +kernel
theorem tyX7_ok : ∀ k, k < 10 → parseFieldDescriptor (TX7 k).2.2.1 = some (tyX7 k) := by decide +kernel
abbrev cX7_init : ByteArray := prog_1_method_1_code
def yX7_init : MethodName := ⟨RX7, "<init>", "()V"⟩
abbrev cX7_row : ByteArray := prog_1_method_2_code
def yX7_row : MethodName := ⟨RX7, "row", "(III)I"⟩
abbrev cX7_set : ByteArray := prog_1_method_3_code
def yX7_set : MethodName := ⟨RX7, "set", "(III)I"⟩
abbrev cX7_copy : ByteArray := prog_1_method_4_code
def yX7_copy : MethodName := ⟨RX7, "copy", "(IIIII)I"⟩
abbrev cX7_drop : ByteArray := prog_1_method_5_code
def yX7_drop : MethodName := ⟨RX7, "drop", "(I)I"⟩
abbrev cX7_feed : ByteArray := prog_1_method_6_code
def yX7_feed : MethodName := ⟨RX7, "feed", "(I)I"⟩
abbrev cX7_sky : ByteArray := prog_1_method_7_code
def yX7_sky : MethodName := ⟨RX7, "sky", "()I"⟩
abbrev cX7_fault : ByteArray := prog_1_method_8_code
def yX7_fault : MethodName := ⟨RX7, "fault", "()I"⟩
abbrev cX7_undo : ByteArray := prog_1_method_9_code
def yX7_undo : MethodName := ⟨RX7, "undo", "()I"⟩
abbrev cX7_hours : ByteArray := prog_1_method_10_code
def yX7_hours : MethodName := ⟨RX7, "hours", "(I)I"⟩
abbrev cX7_burn : ByteArray := prog_1_method_11_code
def yX7_burn : MethodName := ⟨RX7, "burn", "(II)I"⟩
abbrev cX7_send : ByteArray := prog_1_method_12_code
def yX7_send : MethodName := ⟨RX7, "send", "(III)I"⟩
abbrev cX7_wind : ByteArray := prog_1_method_13_code
def yX7_wind : MethodName := ⟨RX7, "wind", "(II)I"⟩
abbrev cX7_office : ByteArray := prog_1_method_14_code
def yX7_office : MethodName := ⟨RX7, "office", "(II)I"⟩
abbrev cX7_land : ByteArray := prog_1_method_15_code
def yX7_land : MethodName := ⟨RX7, "land", "(I)I"⟩
abbrev cX7_ahead : ByteArray := prog_1_method_16_code
def yX7_ahead : MethodName := ⟨RX7, "ahead", "(III)I"⟩
abbrev cX7_down : ByteArray := prog_1_method_17_code
def yX7_down : MethodName := ⟨RX7, "down", "(I)I"⟩
abbrev cX7_meet : ByteArray := prog_1_method_18_code
def yX7_meet : MethodName := ⟨RX7, "meet", "(II)I"⟩
abbrev cX7_over : ByteArray := prog_1_method_19_code
def yX7_over : MethodName := ⟨RX7, "over", "(II)I"⟩
abbrev cX7_above : ByteArray := prog_1_method_20_code
def yX7_above : MethodName := ⟨RX7, "above", "(IIIII)I"⟩
abbrev cX7_petition : ByteArray := prog_1_method_21_code
def yX7_petition : MethodName := ⟨RX7, "petition", "(IIII)I"⟩
abbrev cX7_ash : ByteArray := prog_1_method_22_code
def yX7_ash : MethodName := ⟨RX7, "ash", "(IIIII)I"⟩
abbrev cX7_who : ByteArray := prog_1_method_23_code
def yX7_who : MethodName := ⟨RX7, "who", "(IIIII)I"⟩
abbrev cX7_rule : ByteArray := prog_1_method_24_code
def yX7_rule : MethodName := ⟨RX7, "rule", "(II)I"⟩
abbrev cX7_lasts : ByteArray := prog_1_method_25_code
def yX7_lasts : MethodName := ⟨RX7, "lasts", "(I)I"⟩
abbrev cX7_kept : ByteArray := prog_1_method_26_code
def yX7_kept : MethodName := ⟨RX7, "kept", "(II)I"⟩
abbrev cX7_turned : ByteArray := prog_1_method_27_code
def yX7_turned : MethodName := ⟨RX7, "turned", "(IIIII)J"⟩
abbrev cX7_drawn : ByteArray := prog_1_method_28_code
def yX7_drawn : MethodName := ⟨RX7, "drawn", "(III)I"⟩
abbrev cX7_image : ByteArray := prog_1_method_29_code
def yX7_image : MethodName := ⟨RX7, "image", "(I)I"⟩
abbrev cX7_restore : ByteArray := prog_1_method_30_code
def yX7_restore : MethodName := ⟨RX7, "restore", "(I)I"⟩
abbrev cX7_kind : ByteArray := prog_1_method_31_code
def yX7_kind : MethodName := ⟨RX7, "kind", "(I)I"⟩
abbrev cX7_as : ByteArray := prog_1_method_32_code
def yX7_as : MethodName := ⟨RX7, "as", "(II)I"⟩
abbrev cX7_ask : ByteArray := prog_1_method_33_code
def yX7_ask : MethodName := ⟨RX7, "ask", "(II)I"⟩
abbrev cX7_trace : ByteArray := prog_1_method_34_code
def yX7_trace : MethodName := ⟨RX7, "trace", "(I)I"⟩
abbrev cX7_count : ByteArray := prog_1_method_35_code
def yX7_count : MethodName := ⟨RX7, "count", "(I)I"⟩
abbrev cX7_status : ByteArray := prog_1_method_36_code
def yX7_status : MethodName := ⟨RX7, "status", "()I"⟩
abbrev cX7_within : ByteArray := prog_1_method_37_code
def yX7_within : MethodName := ⟨RX7, "within", "(III)Z"⟩
abbrev cX7_isRow : ByteArray := prog_1_method_38_code
def yX7_isRow : MethodName := ⟨RX7, "isRow", "(I)Z"⟩
abbrev cX7_isLand : ByteArray := prog_1_method_39_code
def yX7_isLand : MethodName := ⟨RX7, "isLand", "(I)Z"⟩
abbrev cX7_isOneOfTwo : ByteArray := prog_1_method_40_code
def yX7_isOneOfTwo : MethodName := ⟨RX7, "isOneOfTwo", "(I)Z"⟩
abbrev cX7_isOffice : ByteArray := prog_1_method_41_code
def yX7_isOffice : MethodName := ⟨RX7, "isOffice", "(I)Z"⟩
abbrev cX7_noSky : ByteArray := prog_1_method_42_code
def yX7_noSky : MethodName := ⟨RX7, "noSky", "()Z"⟩
abbrev cX7_found : ByteArray := prog_1_method_43_code
def yX7_found : MethodName := ⟨RX7, "found", "(I)I"⟩
abbrev cX7_foundNothing : ByteArray := prog_1_method_44_code
def yX7_foundNothing : MethodName := ⟨RX7, "foundNothing", "(I)I"⟩
abbrev cX7_rowsThatAre : ByteArray := prog_1_method_45_code
def yX7_rowsThatAre : MethodName := ⟨RX7, "rowsThatAre", "()I"⟩
def RX8 : String := "PaperSkyModel"
def TX8 : u_T := fun k => match k with
  | 0 => ("PaperSkyModel", "lanes", "[I", true)
  | 1 => ("PaperSkyModel", "sizes", "[I", true)
  | 2 => ("PaperSkyModel", "items", "[I", true)
  | 3 => ("PaperSkyModel", "status", "I", false)
  | 4 => ("PaperSkyModel", "tape", "[I", true)
  | 5 => ("PaperSkyModel", "taped", "I", false)
  | 6 => ("PaperSkyModel", "fault", "I", false)
  | 7 => ("PaperSkyModel", "isSky", "Z", false)
  | 8 => ("PaperSkyModel", "now", "[I", true)
  | 9 => ("PaperSkyModel", "acts", "I", false)
  | 10 => ("PaperSkyModel", "before", "[I", true)
  | 11 => ("PaperSkyModel", "images", "[I", true)
  | 12 => ("PaperSkyModel", "saved", "[Z", true)
  | 13 => ("PaperSkyModel", "traced", "I", false)
  | 14 => ("PaperSkyModel", "trace", "[I", true)
  | 15 => ("PaperSkyModel", "at", "I", false)
  | 16 => ("PaperSkyModel", "begin", "I", false)
  | 17 => ("PaperSkyModel", "token", "I", false)
  | 18 => ("PaperSkyModel", "value", "I", false)
  | 19 => ("PaperSkyModel", "size", "I", false)
  | 20 => ("PaperSkyModel", "read", "[I", true)
  | 21 => ("PaperSkyModel", "aside", "[I", true)
  | 22 => ("PaperSkyModel", "fewest", "[I", true)
  | _ => ("PaperSkyModel", "counts", "[I", true)
def tyX8 : Nat → FieldType := fun k => match k with
  | 0 => .array .int
  | 1 => .array .int
  | 2 => .array .int
  | 3 => .int
  | 4 => .array .int
  | 5 => .int
  | 6 => .int
  | 7 => .boolean
  | 8 => .array .int
  | 9 => .int
  | 10 => .array .int
  | 11 => .array .int
  | 12 => .array .boolean
  | 13 => .int
  | 14 => .array .int
  | 15 => .int
  | 16 => .int
  | 17 => .int
  | 18 => .int
  | 19 => .int
  | 20 => .array .int
  | 21 => .array .int
  | 22 => .array .int
  | _ => .array .int
abbrev wsX80 : List Cond := u_ws RX8 TX8 24
theorem nmX8 : ∀ a, a < 24 → ∀ b, b < 24 → a ≠ b → (TX8 a).2.1 ≠ (TX8 b).2.1 := by decide +kernel
theorem tyX8_ok : ∀ k, k < 24 → parseFieldDescriptor (TX8 k).2.2.1 = some (tyX8 k) := by decide +kernel
abbrev cX8_init : ByteArray := prog_10_method_1_code
def yX8_init : MethodName := ⟨RX8, "<init>", "()V"⟩
abbrev cX8_in : ByteArray := prog_10_method_3_code
def yX8_in : MethodName := ⟨RX8, "in", "(JJJ)Z"⟩
abbrev cX8_found : ByteArray := prog_10_method_4_code
def yX8_found : MethodName := ⟨RX8, "found", "(I)I"⟩
abbrev cX8_well : ByteArray := prog_10_method_5_code
def yX8_well : MethodName := ⟨RX8, "well", "(I)I"⟩
abbrev cX8_isRow : ByteArray := prog_10_method_6_code
def yX8_isRow : MethodName := ⟨RX8, "isRow", "(I)Z"⟩
abbrev cX8_row : ByteArray := prog_10_method_7_code
def yX8_row : MethodName := ⟨RX8, "row", "(III)I"⟩
abbrev cX8_set : ByteArray := prog_10_method_8_code
def yX8_set : MethodName := ⟨RX8, "set", "(III)I"⟩
abbrev cX8_copy : ByteArray := prog_10_method_9_code
def yX8_copy : MethodName := ⟨RX8, "copy", "(IIIII)I"⟩
abbrev cX8_drop : ByteArray := prog_10_method_10_code
def yX8_drop : MethodName := ⟨RX8, "drop", "(I)I"⟩
abbrev cX8_feed : ByteArray := prog_10_method_11_code
def yX8_feed : MethodName := ⟨RX8, "feed", "(I)I"⟩
abbrev cX8_isFigure : ByteArray := prog_10_method_12_code
def yX8_isFigure : MethodName := ⟨RX8, "isFigure", "(I)Z"⟩
abbrev cX8_next : ByteArray := prog_10_method_13_code
def yX8_next : MethodName := ⟨RX8, "next", "()V"⟩
abbrev cX8_fails : ByteArray := prog_10_method_14_code
def yX8_fails : MethodName := ⟨RX8, "fails", "(I)Z"⟩
abbrev cX8_number : ByteArray := prog_10_method_15_code
def yX8_number : MethodName := ⟨RX8, "number", "(II)Z"⟩
abbrev cX8_sign : ByteArray := prog_10_method_16_code
def yX8_sign : MethodName := ⟨RX8, "sign", "(I)Z"⟩
abbrev cX8_readsLaw : ByteArray := prog_10_method_17_code
def yX8_readsLaw : MethodName := ⟨RX8, "readsLaw", "()Z"⟩
abbrev cX8_sortOf : ByteArray := prog_10_method_18_code
def yX8_sortOf : MethodName := ⟨RX8, "sortOf", "(I)I"⟩
abbrev cX8_readsOffice : ByteArray := prog_10_method_19_code
def yX8_readsOffice : MethodName := ⟨RX8, "readsOffice", "()Z"⟩
abbrev cX8_reads : ByteArray := prog_10_method_20_code
def yX8_reads : MethodName := ⟨RX8, "reads", "()Z"⟩
abbrev cX8_sky : ByteArray := prog_10_method_21_code
def yX8_sky : MethodName := ⟨RX8, "sky", "()I"⟩
abbrev cX8_fault : ByteArray := prog_10_method_22_code
def yX8_fault : MethodName := ⟨RX8, "fault", "()I"⟩
abbrev cX8_copies : ByteArray := prog_10_method_23_code
def yX8_copies : MethodName := ⟨RX8, "copies", "([II[II)V"⟩
abbrev cX8_isOffice : ByteArray := prog_10_method_24_code
def yX8_isOffice : MethodName := ⟨RX8, "isOffice", "(I)Z"⟩
abbrev cX8_isLand : ByteArray := prog_10_method_25_code
def yX8_isLand : MethodName := ⟨RX8, "isLand", "(I)Z"⟩
abbrev cX8_isTwo : ByteArray := prog_10_method_26_code
def yX8_isTwo : MethodName := ⟨RX8, "isTwo", "(I)Z"⟩
abbrev cX8_bandOf : ByteArray := prog_10_method_27_code
def yX8_bandOf : MethodName := ⟨RX8, "bandOf", "(I)I"⟩
abbrev cX8_liftOf : ByteArray := prog_10_method_28_code
def yX8_liftOf : MethodName := ⟨RX8, "liftOf", "(II)I"⟩
abbrev cX8_lifted : ByteArray := prog_10_method_29_code
def yX8_lifted : MethodName := ⟨RX8, "lifted", "(III)I"⟩
abbrev cX8_sunk : ByteArray := prog_10_method_30_code
def yX8_sunk : MethodName := ⟨RX8, "sunk", "([II)I"⟩
abbrev cX8_carried : ByteArray := prog_10_method_31_code
def yX8_carried : MethodName := ⟨RX8, "carried", "([III)I"⟩
abbrev cX8_hourGoes : ByteArray := prog_10_method_32_code
def yX8_hourGoes : MethodName := ⟨RX8, "hourGoes", "([I)V"⟩
abbrev cX8_burns : ByteArray := prog_10_method_33_code
def yX8_burns : MethodName := ⟨RX8, "burns", "([III)V"⟩
abbrev cX8_flying : ByteArray := prog_10_method_34_code
def yX8_flying : MethodName := ⟨RX8, "flying", "([I)I"⟩
abbrev cX8_bits : ByteArray := prog_10_method_35_code
def yX8_bits : MethodName := ⟨RX8, "bits", "(I)I"⟩
abbrev cX8_remember : ByteArray := prog_10_method_36_code
def yX8_remember : MethodName := ⟨RX8, "remember", "()V"⟩
abbrev cX8_undo : ByteArray := prog_10_method_37_code
def yX8_undo : MethodName := ⟨RX8, "undo", "()I"⟩
abbrev cX8_hours : ByteArray := prog_10_method_38_code
def yX8_hours : MethodName := ⟨RX8, "hours", "(I)I"⟩
abbrev cX8_burn : ByteArray := prog_10_method_39_code
def yX8_burn : MethodName := ⟨RX8, "burn", "(II)I"⟩
abbrev cX8_send : ByteArray := prog_10_method_40_code
def yX8_send : MethodName := ⟨RX8, "send", "(III)I"⟩
abbrev cX8_wind : ByteArray := prog_10_method_41_code
def yX8_wind : MethodName := ⟨RX8, "wind", "(II)I"⟩
abbrev cX8_office : ByteArray := prog_10_method_42_code
def yX8_office : MethodName := ⟨RX8, "office", "(II)I"⟩
abbrev cX8_overOn : ByteArray := prog_10_method_43_code
def yX8_overOn : MethodName := ⟨RX8, "overOn", "([II)I"⟩
abbrev cX8_land : ByteArray := prog_10_method_44_code
def yX8_land : MethodName := ⟨RX8, "land", "(I)I"⟩
abbrev cX8_goAside : ByteArray := prog_10_method_45_code
def yX8_goAside : MethodName := ⟨RX8, "goAside", "(I)V"⟩
abbrev cX8_ahead : ByteArray := prog_10_method_46_code
def yX8_ahead : MethodName := ⟨RX8, "ahead", "(III)I"⟩
abbrev cX8_down : ByteArray := prog_10_method_47_code
def yX8_down : MethodName := ⟨RX8, "down", "(I)I"⟩
abbrev cX8_meet : ByteArray := prog_10_method_48_code
def yX8_meet : MethodName := ⟨RX8, "meet", "(II)I"⟩
abbrev cX8_over : ByteArray := prog_10_method_49_code
def yX8_over : MethodName := ⟨RX8, "over", "(II)I"⟩
abbrev cX8_cell : ByteArray := prog_10_method_50_code
def yX8_cell : MethodName := ⟨RX8, "cell", "(III)I"⟩
abbrev cX8_fewestBy : ByteArray := prog_10_method_51_code
def yX8_fewestBy : MethodName := ⟨RX8, "fewestBy", "(IIIII)I"⟩
abbrev cX8_layFewest : ByteArray := prog_10_method_52_code
def yX8_layFewest : MethodName := ⟨RX8, "layFewest", "(IIII)V"⟩
abbrev cX8_above : ByteArray := prog_10_method_53_code
def yX8_above : MethodName := ⟨RX8, "above", "(IIIII)I"⟩
abbrev cX8_lies : ByteArray := prog_10_method_54_code
def yX8_lies : MethodName := ⟨RX8, "lies", "(III)I"⟩
abbrev cX8_petition : ByteArray := prog_10_method_55_code
def yX8_petition : MethodName := ⟨RX8, "petition", "(IIII)I"⟩
abbrev cX8_comesSo : ByteArray := prog_10_method_56_code
def yX8_comesSo : MethodName := ⟨RX8, "comesSo", "(IIII)Z"⟩
abbrev cX8_ash : ByteArray := prog_10_method_57_code
def yX8_ash : MethodName := ⟨RX8, "ash", "(IIIII)I"⟩
abbrev cX8_who : ByteArray := prog_10_method_58_code
def yX8_who : MethodName := ⟨RX8, "who", "(IIIII)I"⟩
abbrev cX8_rule : ByteArray := prog_10_method_59_code
def yX8_rule : MethodName := ⟨RX8, "rule", "(II)I"⟩
abbrev cX8_lastsWith : ByteArray := prog_10_method_60_code
def yX8_lastsWith : MethodName := ⟨RX8, "lastsWith", "(II)I"⟩
abbrev cX8_lasts : ByteArray := prog_10_method_61_code
def yX8_lasts : MethodName := ⟨RX8, "lasts", "(I)I"⟩
abbrev cX8_kept : ByteArray := prog_10_method_62_code
def yX8_kept : MethodName := ⟨RX8, "kept", "(II)I"⟩
abbrev cX8_turned : ByteArray := prog_10_method_63_code
def yX8_turned : MethodName := ⟨RX8, "turned", "(IIIII)J"⟩
abbrev cX8_drawn : ByteArray := prog_10_method_64_code
def yX8_drawn : MethodName := ⟨RX8, "drawn", "(III)I"⟩
abbrev cX8_image : ByteArray := prog_10_method_65_code
def yX8_image : MethodName := ⟨RX8, "image", "(I)I"⟩
abbrev cX8_restore : ByteArray := prog_10_method_66_code
def yX8_restore : MethodName := ⟨RX8, "restore", "(I)I"⟩
abbrev cX8_kind : ByteArray := prog_10_method_67_code
def yX8_kind : MethodName := ⟨RX8, "kind", "(I)I"⟩
abbrev cX8_isOf : ByteArray := prog_10_method_68_code
def yX8_isOf : MethodName := ⟨RX8, "isOf", "(II)Z"⟩
abbrev cX8_as : ByteArray := prog_10_method_69_code
def yX8_as : MethodName := ⟨RX8, "as", "(II)I"⟩
abbrev cX8_leave : ByteArray := prog_10_method_70_code
def yX8_leave : MethodName := ⟨RX8, "leave", "(J)V"⟩
abbrev cX8_mark : ByteArray := prog_10_method_71_code
def yX8_mark : MethodName := ⟨RX8, "mark", "(I)I"⟩
abbrev cX8_sizeOf : ByteArray := prog_10_method_72_code
def yX8_sizeOf : MethodName := ⟨RX8, "sizeOf", "(I)I"⟩
abbrev cX8_ask : ByteArray := prog_10_method_73_code
def yX8_ask : MethodName := ⟨RX8, "ask", "(II)I"⟩
abbrev cX8_trace : ByteArray := prog_10_method_74_code
def yX8_trace : MethodName := ⟨RX8, "trace", "(I)I"⟩
abbrev cX8_count : ByteArray := prog_10_method_75_code
def yX8_count : MethodName := ⟨RX8, "count", "(I)I"⟩
abbrev cX8_status : ByteArray := prog_10_method_76_code
def yX8_status : MethodName := ⟨RX8, "status", "()I"⟩
def RJ6 : String := "java/lang/Integer"
def TJ6 : u_T := fun k => match k with
  | _ => ("", "", "", false)
def tyJ6 : Nat → FieldType := fun k => match k with
  | _ => .int
abbrev wsJ60 : List Cond := u_ws RJ6 TJ6 0
theorem nmJ6 : ∀ a, a < 0 → ∀ b, b < 0 → a ≠ b → (TJ6 a).2.1 ≠ (TJ6 b).2.1 := by decide +kernel
theorem tyJ6_ok : ∀ k, k < 0 → parseFieldDescriptor (TJ6 k).2.2.1 = some (tyJ6 k) := by decide +kernel
abbrev cJ6_bitCount_0f7a4 : ByteArray := prog_11_method_49_code
def yJ6_bitCount_0f7a4 : MethodName := ⟨RJ6, "bitCount", "(I)I"⟩
def RJ9 : String := "java/lang/Math"
def TJ9 : u_T := fun k => match k with
  | _ => ("", "", "", false)
def tyJ9 : Nat → FieldType := fun k => match k with
  | _ => .int
abbrev wsJ90 : List Cond := u_ws RJ9 TJ9 0
theorem nmJ9 : ∀ a, a < 0 → ∀ b, b < 0 → a ≠ b → (TJ9 a).2.1 ≠ (TJ9 b).2.1 := by decide +kernel
theorem tyJ9_ok : ∀ k, k < 0 → parseFieldDescriptor (TJ9 k).2.2.1 = some (tyJ9 k) := by decide +kernel
abbrev cJ9_max_7cf53 : ByteArray := prog_12_method_65_code
def yJ9_max_7cf53 : MethodName := ⟨RJ9, "max", "(II)I"⟩
abbrev cJ9_min_7cf53 : ByteArray := prog_12_method_69_code
def yJ9_min_7cf53 : MethodName := ⟨RJ9, "min", "(II)I"⟩
def RJ10 : String := "java/lang/System"
def TJ10 : u_T := fun k => match k with
  | _ => ("", "", "", false)
def tyJ10 : Nat → FieldType := fun k => match k with
  | _ => .int
abbrev wsJ100 : List Cond := u_ws RJ10 TJ10 0
theorem nmJ10 : ∀ a, a < 0 → ∀ b, b < 0 → a ≠ b → (TJ10 a).2.1 ≠ (TJ10 b).2.1 := by decide +kernel
theorem tyJ10_ok : ∀ k, k < 0 → parseFieldDescriptor (TJ10 k).2.2.1 = some (tyJ10 k) := by decide +kernel
def RJ7 : String := "java/util/Arrays"
def TJ7 : u_T := fun k => match k with
  | _ => ("", "", "", false)
def tyJ7 : Nat → FieldType := fun k => match k with
  | _ => .int
abbrev wsJ70 : List Cond := u_ws RJ7 TJ7 0
theorem nmJ7 : ∀ a, a < 0 → ∀ b, b < 0 → a ≠ b → (TJ7 a).2.1 ≠ (TJ7 b).2.1 := by decide +kernel
theorem tyJ7_ok : ∀ k, k < 0 → parseFieldDescriptor (TJ7 k).2.2.1 = some (tyJ7 k) := by decide +kernel
abbrev cJ7_fill_53178 : ByteArray := prog_14_method_103_code
def yJ7_fill_53178 : MethodName := ⟨RJ7, "fill", "([II)V"⟩
def RL : String := "PaperSkyLaw"
abbrev cL_law : ByteArray := code
def yL_law : MethodName := ⟨RL, "law", "([I)Z"⟩
abbrev vwCl : List vw_C := [(RX0, TX0, 3), (RX1, TX1, 3), (RX2, TX2, 5), (RX4, TX4, 4), (RX5, TX5, 9), (RX6, TX6, 4), (RX7, TX7, 10), (RX8, TX8, 24)]
end
section
/-! THE ABSTRACT MACHINE. A heap that begins at H0.size, cell k of it at the address H0.size + k; a cell's shape (kind, length, references) and its ints, by place. -/
abbrev am_S : Type := Nat × Nat × List (Option Value)
abbrev am_M : Type := Nat → Nat → Int32
abbrev am_L : Type := List (Option Value)
/-- classes' numbers and slots, array classes by kind, the heap at the law's start, the launch -/
abbrev am_G : Type := va_G × (Nat → ClassId) × Heap × Launch
def am_rv (b : Nat) : Value → Value
  | .ref a => .ref (b + a)
  | v => v
def am_vat (c : am_S) (row : Nat → Int32) (j : Nat) : Value := match c.2.2[j]? with
  | some (some v) => v
  | _ => .int (row j)
def am_up (μ : am_M) (a : Nat) (f : Nat → Int32) : am_M := fun b => if b = a then f else μ b
def am_tys (kA : Nat → ClassId) : List (ClassId × FieldType) := [(kA 100, .int), (kA 101, .boolean), (kA 102, .object RX4), (kA 103, .object RX5), (kA 104, .array .int)]
def am_cell (G : am_G) (q : Nat) (c : am_S) (V : Nat → Value) (H : Heap) : Prop :=
  (c.1 < 100 ∧ ∃ r : vw_C, vwCl[c.1]? = some r ∧ t_OB q (G.1.1 c.1) r.2.2 (G.1.2 c.1) H V) ∨ (100 ≤ c.1 ∧ H[q]? = some (arrV (G.2.1 c.1) c.2.1 V))
def am_R (G : am_G) (sh : List am_S) (μ : am_M) (H : Heap) : Prop :=
  H.size = G.2.2.1.size + sh.length ∧ (∀ q : Nat, q < G.2.2.1.size → H[q]? = G.2.2.1[q]?) ∧ ∀ (k : Nat) (c : am_S), sh[k]? = some c → am_cell G (G.2.2.1.size + k) c (fun j => am_rv G.2.2.1.size (am_vat c (μ k) j)) H
theorem am_cell.kept {G : am_G} {q : Nat} {c : am_S} {V : Nat → Value} {H H1 : Heap} (h : am_cell G q c V H) (hq : H1[q]? = H[q]?) : am_cell G q c V H1 := by
  rcases h with ⟨h1, r, h2, h3⟩ | ⟨h1, h2⟩
  · exact Or.inl ⟨h1, r, h2, h3.kept hq⟩
  · exact Or.inr ⟨h1, by rw [hq]; exact h2⟩
theorem am_up_s {μ : am_M} {a : Nat} {f : Nat → Int32} : am_up μ a f a = f := by simp [am_up]
theorem am_up_n {μ : am_M} {a b : Nat} {f : Nat → Int32} (h : b ≠ a) : am_up μ a f b = μ b := by simp [am_up, h]
/-- one cell is another one: its shape, its ints -/
theorem am_R.st {G : am_G} {sh : List am_S} {μ : am_M} {H H1 : Heap} {a : Nat} {c c' : am_S} {f : Nat → Int32} (h : am_R G sh μ H) (hc : sh[a]? = some c) (hz : H1.size = H.size) (ho : ∀ q : Nat, q ≠ G.2.2.1.size + a → H1[q]? = H[q]?)
    (hn : am_cell G (G.2.2.1.size + a) c' (fun j => am_rv G.2.2.1.size (am_vat c' (f) j)) H1) : am_R G (sh.set a c') (am_up μ a f) H1 := by
  obtain ⟨h1, h2, h3⟩ := h
  refine ⟨by rw [hz, List.length_set]; exact h1, fun q hq => by rw [ho q (by omega)]; exact h2 q hq, fun k d hd => ?_⟩
  by_cases hk : k = a
  · subst hk
    have hl : k < sh.length := (List.getElem?_eq_some_iff.mp hc).1
    rw [List.getElem?_set_self hl] at hd
    cases hd
    rw [am_up_s]
    exact hn
  · rw [List.getElem?_set_ne (Ne.symm hk)] at hd
    rw [am_up_n hk]
    exact (h3 k d hd).kept (ho _ (by omega))
theorem am_set_id {sh : List am_S} {a : Nat} {c : am_S} (hc : sh[a]? = some c) : sh.set a c = sh := by
  apply List.ext_getElem?
  intro k
  by_cases hk : k = a
  · subst hk
    have hl : k < sh.length := (List.getElem?_eq_some_iff.mp hc).1
    rw [List.getElem?_set_self hl, hc]
  · rw [List.getElem?_set_ne (Ne.symm hk)]
theorem am_R.sti {G : am_G} {sh : List am_S} {μ : am_M} {H H1 : Heap} {a : Nat} {c : am_S} {f : Nat → Int32} (h : am_R G sh μ H) (hc : sh[a]? = some c) (hz : H1.size = H.size) (ho : ∀ q : Nat, q ≠ G.2.2.1.size + a → H1[q]? = H[q]?)
    (hn : am_cell G (G.2.2.1.size + a) c (fun j => am_rv G.2.2.1.size (am_vat c (f) j)) H1) : am_R G sh (am_up μ a f) H1 := by
  have h1 := h.st hc hz ho hn
  rw [am_set_id hc] at h1
  exact h1
/-- a cell more -/
theorem am_R.push {G : am_G} {sh : List am_S} {μ : am_M} {H H1 : Heap} {c : am_S} {f : Nat → Int32} (h : am_R G sh μ H) (hz : H1.size = H.size + 1) (ho : ∀ q : Nat, q < H.size → H1[q]? = H[q]?)
    (hn : am_cell G H.size c (fun j => am_rv G.2.2.1.size (am_vat c f j)) H1) : am_R G (sh ++ [c]) (am_up μ sh.length f) H1 := by
  obtain ⟨h1, h2, h3⟩ := h
  refine ⟨by rw [hz, List.length_append, h1]; simp [Nat.add_assoc], fun q hq => by rw [ho q (by omega)]; exact h2 q hq, fun k d hd => ?_⟩
  by_cases hk : k < sh.length
  · rw [List.getElem?_append_left hk] at hd
    rw [am_up_n (Nat.ne_of_lt hk)]
    exact (h3 k d hd).kept (ho _ (by omega))
  · rw [List.getElem?_append_right (by omega)] at hd
    have hz : k - sh.length < 1 := (List.getElem?_eq_some_iff.mp hd).1
    have hk2 : k = sh.length := by omega
    subst hk2
    simp at hd
    subst hd
    rw [am_up_s, ← h1]
    exact hn
/-! ===== words: those that a call may hand on ===== -/
def am_kind : Cond → Bool
  | .code .. | .methodLink .. | .fieldLink .. | .classLink .. | .instantiable .. | .initialized .. | .instanceMethod .. | .static .. | .selects .. | .lays .. | .laysFinal .. | .constant .. | .constantLong .. | .arrayClass .. | .native .. => true
  | _ => false
def am_TB : List Cond := lw_tbl.filter am_kind
set_option maxRecDepth 100000 in
theorem am_good : am_TB.all goodWord = true := by decide +kernel
theorem am_goodIn {y : MethodName} {cc : ByteArray} {nL : Nat} {ret : Option FieldType} (h : Cond.code y cc nL ret ∈ am_TB) : GoodIn am_TB (Cond.code y cc nL ret :: am_TB) := by
  intro w hw
  have hm : w ∈ am_TB := by
    rcases List.mem_cons.mp hw with rfl | h1
    · exact h
    · exact h1
  exact ⟨hm, good_of_word (List.all_eq_true.mp am_good w hm)⟩
theorem am_in {w : Cond} (i : Nat) (h : lw_tbl[i]? = some w) (hk : am_kind w = true) : w ∈ am_TB := List.mem_filter.mpr ⟨List.mem_of_getElem? h, hk⟩
end
section
def am_AA (U : State) : Prop := (Cond.arrayOver (.array .int)).before #[] U = true
theorem am_AA.moved {u U : State} (hvm : u.vm.Alike U.vm) (h : am_AA u) : am_AA U := by
  obtain ⟨comp, c, k, h1, h2, h3, h4, h5⟩ := arrayOverA_spec h
  obtain ⟨k', hk', he⟩ := hvm.2.2 _ _ h3
  have hi : (U.vm.classes.findIdx? fun x => match x.kind with | .array component _ => component == comp | _ => false) = some c := by
    rw [hvm.findIdx?_eq _ (fun _ => rfl)]; exact h2
  have hkind : k'.kind = .array comp (.array .int) := by rw [he]; exact h4
  have f1 : U.vm.findClass (FieldType.array .int).toString = some comp := by rw [hvm.findClass]; exact h1
  have f2 : U.vm.findClass ("[" ++ (FieldType.array .int).toString) = some c := by rw [hvm.findClass]; exact h5
  unfold am_AA Cond.before Cond.holds
  simp only [Cond.value, f1, Option.bind_some]
  refine (congrArg (fun o : Option Nat => (o.bind (fun c => (U.vm.classes[c]?).map fun (k : Class) => match k.kind with | .array _ ty => decide (ty = FieldType.array .int) && decide (U.vm.findClass ("[" ++ (FieldType.array .int).toString) = some c) | _ => false) == some true)) hi).trans ?_
  simp [hk', hkind, f2]
def am_nest : List (String × Nat × MethodName × String) := [(RX7, 15, yX4_init, RX7), (RX7, 18, yX6_init, RX7), (RX7, 25, yX5_init, RX7), (RX0, 15, yX5_init, RX7), (RX2, 13, yX5_init, RX7)]
def am_stat : List (String × String × List Int32) := [(RX3, "NEAREST", [0, 0, 1, 1, 0, 4]), (RX1, "SIZE_BODIES", [10, 11, 12, 0, 13, 14]), (RX1, "MARK_BODIES", [20, 21, 24, 22, 23, 0])]
/-- what the tables say: classes, arrays, nest mates, statics -/
def am_X (G : am_G) (U : State) : Prop :=
  va_K G.1 vwCl (am_tys G.2.1) U ∧ (∀ q ∈ am_nest, va_Nw (.methodLinkNest q.1 q.2.1 q.2.2.1 q.2.2.2) U) ∧ (va_AO RX4 U ∧ va_AO RX5 U ∧ am_AA U) ∧
  ∀ q ∈ am_stat, ∃ t : Nat, va_Z q.1 q.2.1 "[I" (.ref t) (fun a => G.2.2.1.size ≤ a) U G.2.2.1 ∧ va_T .int t 6 (fun j => .int (q.2.2.getD j 0)) (fun a => G.2.2.1.size ≤ a) U G.2.2.1
theorem am_X.warm {G : am_G} {s U : State} (hW : s.WarmedH U.vm) (h : am_X G s) : am_X G U := by
  obtain ⟨h1, h2, ⟨h3, h4, h5⟩, h6⟩ := h
  have hv := hW.alike
  refine ⟨va_K.moved hv h1, fun q hq => va_Nw.warmM hW (h2 q hq), ⟨h3.moved hv, h4.moved hv, h5.moved hv⟩, fun q hq => ?_⟩
  obtain ⟨t, a, b⟩ := h6 q hq
  exact ⟨t, a.moved hv, b.moved hv⟩
theorem am_X.same {G : am_G} {u U : State} (e : u.vm = U.vm) (h : am_X G u) : am_X G U := by
  obtain ⟨h1, h2, ⟨h3, h4, h5⟩, h6⟩ := h
  have hv : u.vm.Alike U.vm := by rw [e]; exact Vm.Alike.refl U.vm
  refine ⟨va_K.moved hv h1, fun q hq => va_Nw.same rfl e (h2 q hq), ⟨h3.moved hv, h4.moved hv, h5.moved hv⟩, fun q hq => ?_⟩
  obtain ⟨t, a, b⟩ := h6 q hq
  exact ⟨t, a.moved hv, b.moved hv⟩
/-! ===== locals ===== -/
def am_gl : am_L → Nat → Option Value
  | [], _ => none
  | a :: _, 0 => a
  | _ :: l, n + 1 => am_gl l n
def am_kl : Option Value → Option Value
  | some (.long _) => none
  | some (.double _) => none
  | a => a
def am_sl : am_L → Nat → Value → am_L
  | [], _, _ => []
  | _ :: l, 0, v => some v :: l
  | a :: l, 1, v => am_kl a :: am_sl l 0 v
  | a :: l, n + 2, v => a :: am_sl l (n + 1) v
def am_s2 : am_L → Nat → Value → am_L
  | [], _, _ => []
  | [_], 0, v => [some v]
  | _ :: _ :: l, 0, v => some v :: none :: l
  | a :: l, 1, v => am_kl a :: am_s2 l 0 v
  | a :: l, n + 2, v => a :: am_s2 l (n + 1) v
def am_pl (b : Nat) (L : am_L) : List (Nat × Value) := (List.range L.length).filterMap (fun i => (am_gl L i).map (fun v => (i, am_rv b v)))
theorem am_gl_lt : ∀ {L : am_L} {i : Nat} {v : Value}, am_gl L i = some v → i < L.length
  | [], i, v, h => by simp [am_gl] at h
  | a :: l, 0, v, h => by simp
  | a :: l, n + 1, v, h => by
    have := am_gl_lt (L := l) (i := n) (v := v) h
    simp; omega
theorem am_pl_mem {b : Nat} {L : am_L} {i : Nat} {v : Value} (h : am_gl L i = some v) : (i, am_rv b v) ∈ am_pl b L :=
  List.mem_filterMap.mpr ⟨i, List.mem_range.mpr (am_gl_lt h), by simp [h]⟩
theorem am_pl_of {b : Nat} {L : am_L} {q : Nat × Value} (h : q ∈ am_pl b L) : ∃ v, am_gl L q.1 = some v ∧ q.2 = am_rv b v := by
  obtain ⟨i, -, hi⟩ := List.mem_filterMap.mp h
  cases hg : am_gl L i with
  | none => simp [hg] at hi
  | some v =>
    rw [hg] at hi
    simp at hi
    subst hi
    exact ⟨v, hg, rfl⟩
theorem am_rv_cat (b : Nat) (v : Value) : (am_rv b v).category = v.category := by cases v <;> rfl
theorem am_kl_of {a : Option Value} {v : Value} (h : am_kl a = some v) : a = some v ∧ ¬ v.category = 2 := by
  cases a with
  | none => simp [am_kl] at h
  | some w => cases w <;> simp [am_kl] at h <;> subst h <;> simp [Value.category]
theorem am_sl_of : ∀ {L : am_L} {i j : Nat} {v w : Value}, am_gl (am_sl L i v) j = some w → (j = i ∧ w = v) ∨ (j ≠ i ∧ am_gl L j = some w ∧ ¬ (j + 1 = i ∧ w.category = 2))
  | [], i, j, v, w, h => by simp [am_sl, am_gl] at h
  | a :: l, 0, 0, v, w, h => by simp [am_sl, am_gl] at h; exact Or.inl ⟨rfl, h.symm⟩
  | a :: l, 0, j + 1, v, w, h => by
    simp [am_sl, am_gl] at h
    exact Or.inr ⟨by omega, h, by omega⟩
  | a :: l, 1, 0, v, w, h => by
    simp [am_sl, am_gl] at h
    obtain ⟨h1, h2⟩ := am_kl_of h
    exact Or.inr ⟨by omega, h1, fun q => h2 q.2⟩
  | a :: l, 1, j + 1, v, w, h => by
    simp only [am_sl, am_gl] at h
    rcases am_sl_of h with ⟨h1, h2⟩ | ⟨h1, h2, h3⟩
    · exact Or.inl ⟨by omega, h2⟩
    · exact Or.inr ⟨by omega, h2, fun q => h3 ⟨by omega, q.2⟩⟩
  | a :: l, n + 2, 0, v, w, h => by
    simp [am_sl, am_gl] at h
    exact Or.inr ⟨by omega, h, by omega⟩
  | a :: l, n + 2, j + 1, v, w, h => by
    simp only [am_sl, am_gl] at h
    rcases am_sl_of h with ⟨h1, h2⟩ | ⟨h1, h2, h3⟩
    · exact Or.inl ⟨by omega, h2⟩
    · exact Or.inr ⟨by omega, h2, fun q => h3 ⟨by omega, q.2⟩⟩
theorem am_s2_of : ∀ {L : am_L} {i j : Nat} {v w : Value}, am_gl (am_s2 L i v) j = some w → (j = i ∧ w = v) ∨ (j ≠ i ∧ am_gl L j = some w ∧ j ≠ i + 1 ∧ ¬ (j + 1 = i ∧ w.category = 2))
  | [], i, j, v, w, h => by simp [am_s2, am_gl] at h
  | [a], 0, 0, v, w, h => by simp [am_s2, am_gl] at h; exact Or.inl ⟨rfl, h.symm⟩
  | [a], 0, j + 1, v, w, h => by simp [am_s2, am_gl] at h
  | a :: a2 :: l, 0, 0, v, w, h => by simp [am_s2, am_gl] at h; exact Or.inl ⟨rfl, h.symm⟩
  | a :: a2 :: l, 0, 1, v, w, h => by simp [am_s2, am_gl] at h
  | a :: a2 :: l, 0, j + 2, v, w, h => by
    simp [am_s2, am_gl] at h
    exact Or.inr ⟨by omega, h, by omega, by omega⟩
  | a :: l, 1, 0, v, w, h => by
    simp [am_s2, am_gl] at h
    obtain ⟨h1, h2⟩ := am_kl_of h
    exact Or.inr ⟨by omega, h1, by omega, fun q => h2 q.2⟩
  | a :: l, 1, j + 1, v, w, h => by
    simp only [am_s2, am_gl] at h
    rcases am_s2_of h with ⟨h1, h2⟩ | ⟨h1, h2, h3, h4⟩
    · exact Or.inl ⟨by omega, h2⟩
    · exact Or.inr ⟨by omega, h2, by omega, fun q => h4 ⟨by omega, q.2⟩⟩
  | a :: l, n + 2, 0, v, w, h => by
    simp [am_s2, am_gl] at h
    exact Or.inr ⟨by omega, h, by omega, by omega⟩
  | a :: l, n + 2, j + 1, v, w, h => by
    simp only [am_s2, am_gl] at h
    rcases am_s2_of h with ⟨h1, h2⟩ | ⟨h1, h2, h3, h4⟩
    · exact Or.inl ⟨by omega, h2⟩
    · exact Or.inr ⟨by omega, h2, by omega, fun q => h4 ⟨by omega, q.2⟩⟩
theorem am_has1 {b nL i : Nat} {ls : Array Slot} {L : am_L} {v : Value} (h : lv_has ls nL ((i, am_rv b v) :: (am_pl b L).filter (fun q => !(q.1 == i) && !(q.1 + 1 == i && q.2.category == 2)))) : lv_has ls nL (am_pl b (am_sl L i v)) := by
  refine ⟨h.1, h.2.1, fun q hq => h.2.2 q ?_⟩
  obtain ⟨w, h1, h2⟩ := am_pl_of hq
  rcases am_sl_of h1 with ⟨h3, h4⟩ | ⟨h3, h4, h5⟩
  · have : q = (i, am_rv b v) := Prod.ext h3 (by rw [h2, h4])
    rw [this]; exact List.mem_cons_self
  · refine List.mem_cons_of_mem _ (List.mem_filter.mpr ⟨?_, ?_⟩)
    · have : q = (q.1, am_rv b w) := Prod.ext rfl h2
      rw [this]; exact am_pl_mem h4
    · rw [h2, am_rv_cat]
      simp [h3]
      omega
theorem am_has2 {b nL i : Nat} {ls : Array Slot} {L : am_L} {v : Value} (h : lv_has ls nL ((i, am_rv b v) :: (am_pl b L).filter (fun q => !(q.1 == i) && (!(q.1 == i + 1) && !(q.1 + 1 == i && q.2.category == 2))))) : lv_has ls nL (am_pl b (am_s2 L i v)) := by
  refine ⟨h.1, h.2.1, fun q hq => h.2.2 q ?_⟩
  obtain ⟨w, h1, h2⟩ := am_pl_of hq
  rcases am_s2_of h1 with ⟨h3, h4⟩ | ⟨h3, h4, h8, h5⟩
  · have : q = (i, am_rv b v) := Prod.ext h3 (by rw [h2, h4])
    rw [this]; exact List.mem_cons_self
  · refine List.mem_cons_of_mem _ (List.mem_filter.mpr ⟨?_, ?_⟩)
    · have : q = (q.1, am_rv b w) := Prod.ext rfl h2
      rw [this]; exact am_pl_mem h4
    · rw [h2, am_rv_cat]
      simp [h3, h8]
      omega
def am_ent : List Value → Nat → am_L
  | [], n => List.replicate n none
  | .long x :: vs, n => some (.long x) :: none :: am_ent vs (n - 2)
  | .double x :: vs, n => some (.double x) :: none :: am_ent vs (n - 2)
  | v :: vs, n => some v :: am_ent vs (n - 1)
theorem am_gl_rep : ∀ (n i : Nat), am_gl (List.replicate n none) i = none
  | 0, i => by simp [am_gl]
  | n + 1, 0 => by simp [List.replicate, am_gl]
  | n + 1, i + 1 => by simp only [List.replicate, am_gl]; exact am_gl_rep n i
theorem am_ent_of (b : Nat) : ∀ (vs : List Value) (n i k : Nat) (w : Value), am_gl (am_ent vs n) i = some w → (k + i, am_rv b w) ∈ lv_args k (vs.map (am_rv b))
  | [], n, i, k, w, h => by
    rw [am_ent, am_gl_rep] at h
    cases h
  | v :: vs, n, i, k, w, h => by
    have one : ∀ (m : Nat), v.category = 1 → am_gl (some v :: am_ent vs m) i = some w → (k + i, am_rv b w) ∈ lv_args k ((v :: vs).map (am_rv b)) := by
      intro m hc h
      cases i with
      | zero =>
        simp [am_gl] at h
        subst h
        simp [lv_args]
      | succ i =>
        simp only [am_gl] at h
        have := am_ent_of b vs m i (k + 1) w h
        simp only [List.map_cons, lv_args, am_rv_cat, hc]
        refine List.mem_cons_of_mem _ ?_
        have e : k + (i + 1) = k + 1 + i := by omega
        rw [e]
        simpa using this
    have two : ∀ (m : Nat), v.category = 2 → am_gl (some v :: none :: am_ent vs m) i = some w → (k + i, am_rv b w) ∈ lv_args k ((v :: vs).map (am_rv b)) := by
      intro m hc h
      cases i with
      | zero =>
        simp [am_gl] at h
        subst h
        simp [lv_args]
      | succ i =>
        cases i with
        | zero => simp [am_gl] at h
        | succ i =>
          simp only [am_gl] at h
          have := am_ent_of b vs m i (k + 2) w h
          simp only [List.map_cons, lv_args, am_rv_cat, hc]
          refine List.mem_cons_of_mem _ ?_
          have e : k + (i + 1 + 1) = k + 2 + i := by omega
          rw [e]
          simpa using this
    cases v with
    | long x => exact two _ rfl h
    | double x => exact two _ rfl h
    | _ => exact one _ rfl h
end
section
/-- a method's fixed things: the machine's; its class, its name, its locals, what it answers, its room, the cells and slots it makes, what it owes -/
abbrev am_C : Type := am_G × String × String × Nat × Option FieldType × Room × Nat × Nat × (Option Value → List am_S → am_M → Prop)
def am_F (C : am_C) (cc : ByteArray) (p : Program) (s : State) (m : MethodId) (args : Array Value) (meth : Method) (c : Code) : Prop :=
  p.tables.exec = Jvm.exec ∧ c.code = cc ∧ c.maxLocals = C.2.2.2.1 ∧ meth.sig.returnType = C.2.2.2.2.1 ∧ meth.locks = false ∧ s.vm.findClass C.2.1 = some m.cls ∧ (∀ w ∈ am_TB, w.before args s = true) ∧ am_X C.1 s ∧ meth.name = C.2.2.1
/-- what a method's end must be -/
def am_Q (G : am_G) (Q : Option Value → List am_S → am_M → Prop) : Array Value → State → Outcome → State → Prop := fun _ _ oc t =>
  ∃ (v : Option Value) (sh : List am_S) (μ : am_M), oc = .returned (v.map (am_rv G.2.2.1.size)) ∧ Q v sh μ ∧ am_X G t ∧ am_R G sh μ t.heap
def am_W (C : am_C) (cc : ByteArray) (pc : Nat) (L : am_L) (S : List Value) (sh : List am_S) (μ : am_M) (k n : Nat) : Prop :=
  ∀ (p : Program) (e : Env) (s : State) (m : MethodId) (args : Array Value) (below : List Frame) (meth : Method) (c : Code), am_F C cc p s m args meth c → ∀ (H : Heap) (locs : List Loc) (ls : Array Slot), am_R C.1 sh μ H → (∀ q ∈ locs, C.1.2.2.1.size ≤ q.base) → lv_has ls C.2.2.2.1 (am_pl C.1.2.2.1.size L) →
    W p C.1.2.2.2 e C.2.2.2.2.2.1 s m args below meth c H locs k n (MQ below (am_Q C.1 C.2.2.2.2.2.2.2.2) args s C.2.2.2.2.2.2.1 C.2.2.2.2.2.2.2.1 (fun q => C.1.2.2.1.size ≤ q)) (F0 m pc ls (S.map (am_rv C.1.2.2.1.size)))
/-- a contract: from these arguments, cells and ints the method returns, and Q holds of its answer, cells and ints -/
def am_MA (G : am_G) (y : MethodName) (cc : ByteArray) (nL : Nat) (ret : Option FieldType) (d mc ms : Nat) (As : List Value) (sh : List am_S) (μ : am_M) (Q : Option Value → List am_S → am_M → Prop) : Prop :=
  Met G.2.2.2 y (Cond.code y cc nL ret :: am_TB) { frames := d, cells := mc, slots := ms, locals := 100 * d } (va_Pc (As.map (am_rv G.2.2.1.size)) (fun U => am_X G U ∧ am_R G sh μ U.heap)) (am_Q G Q) mc ms (fun q => G.2.2.1.size ≤ q)
set_option maxHeartbeats 1000000 in
theorem am_of {G : am_G} {y : MethodName} {cc : ByteArray} {nL : Nat} {ret : Option FieldType} {d mc ms : Nat} {As : List Value} {sh : List am_S} {μ : am_M} {Q : Option Value → List am_S → am_M → Prop} (hy : plainName y.cls = true) (hn : (As.map fun v => v.category).sum ≤ nL)
    (h : am_W (G, y.cls, y.name, nL, ret, { frames := d, cells := mc, slots := ms, locals := 100 * d }, mc, ms, Q) cc 0 (am_ent As nL) [] sh μ 0 0) : am_MA G y cc nL ret d mc ms As sh μ Q := by
  refine Met.ofW (cc := cc) (maxL := nL) (ret := ret) hy rfl ?_
  intro p e s m args below meth c s₁ B hml hv
  obtain ⟨rfl, hX, hR⟩ := hv
  have hts := atoms_spec (ws := Cond.code y cc nL ret :: am_TB) B.pre
  have hlen : ∀ vs : List Value, (lg_sl (vs.map (am_rv G.2.2.1.size))).length = (vs.map fun v => v.category).sum := by
    intro vs
    induction vs with
    | nil => rfl
    | cons v vs ih =>
      have h1 : lg_sl ((v :: vs).map (am_rv G.2.2.1.size)) = (if (am_rv G.2.2.1.size v).category = 2 then [Slot.val (am_rv G.2.2.1.size v), .second] else [.val (am_rv G.2.2.1.size v)]) ++ lg_sl (vs.map (am_rv G.2.2.1.size)) := rfl
      rw [h1, List.length_append, ih, am_rv_cat]
      simp only [List.map_cons, List.sum_cons]
      rcases lv_cat v with hc | hc <;> simp [hc]
  have hl := lv_entry (As.map (am_rv G.2.2.1.size)) (n := nL) (by rw [hlen]; exact hn)
  rw [lg_entry_eq]
  generalize (lg_sl (As.map (am_rv G.2.2.1.size)) ++ List.replicate (nL - (lg_sl (As.map (am_rv G.2.2.1.size))).length) Slot.unset).toArray = ls at hl ⊢
  refine h p e s m _ below meth c ⟨B.exec, B.bytes, hml, B.returns, B.notSynchronized, findClass_of_methodNamed B.named, fun w hw => hts w (List.mem_cons_of_mem _ hw), hX, (name_of_methodNamed B.named B.method).1⟩ s.heap [] ls hR (fun q hq => by cases hq) ?_
  refine ⟨hl.1, hl.2.1, fun q hq => hl.2.2 q ?_⟩
  obtain ⟨w, h1, h2⟩ := am_pl_of hq
  have h3 := am_ent_of G.2.2.1.size As nL q.1 0 w h1
  rw [Nat.zero_add] at h3
  have : q = (q.1, am_rv G.2.2.1.size w) := Prod.ext rfl h2
  rw [this]
  exact h3
section AW
variable {C : am_C} {cc : ByteArray} {pc : Nat} {L : am_L} {S : List Value} {sh : List am_S} {μ : am_M} {k n : Nat}

theorem aw_iconst {z : Int} {v : Int32} (hd : decode cc pc = .ok (.iconst z, 1)) (hv : Int32.ofInt z = v) (kk : am_W C cc (pc + 1) L (.int v :: S) sh μ k n) : am_W C cc pc L (S) sh μ k n :=
  fun p e s m args below meth c F H locs ls hR hl hL => lv_iconst F.1 F.2.1 hd hv (kk p e s m args below meth c F H locs ls hR hl hL)
theorem aw_bipush {z : Int} {v : Int32} (hd : decode cc pc = .ok (.bipush z, 2)) (hv : (Int8.ofInt z).toInt32 = v) (kk : am_W C cc (pc + 2) L (.int v :: S) sh μ k n) : am_W C cc pc L (S) sh μ k n :=
  fun p e s m args below meth c F H locs ls hR hl hL => lv_bipush F.1 F.2.1 hd hv (kk p e s m args below meth c F H locs ls hR hl hL)
theorem aw_sipush {z : Int} {v : Int32} (hd : decode cc pc = .ok (.sipush z, 3)) (hv : (Int16.ofInt z).toInt32 = v) (kk : am_W C cc (pc + 3) L (.int v :: S) sh μ k n) : am_W C cc pc L (S) sh μ k n :=
  fun p e s m args below meth c F H locs ls hR hl hL => lv_sipush F.1 F.2.1 hd hv (kk p e s m args below meth c F H locs ls hR hl hL)
theorem aw_lconst {z : Fin 2} {v : Int64} (hd : decode cc pc = .ok (.lconst z, 1)) (hv : Int64.ofNat (z : Nat) = v) (kk : am_W C cc (pc + 1) L (.long v :: S) sh μ k n) : am_W C cc pc L (S) sh μ k n :=
  fun p e s m args below meth c F H locs ls hR hl hL => lv_lconst F.1 F.2.1 hd hv (kk p e s m args below meth c F H locs ls hR hl hL)
theorem aw_ldc {i : Nat} {v : Int32} (hd : decode cc pc = .ok (.ldc i, 2)) (hw : Cond.constant C.2.1 i v ∈ am_TB) (kk : am_W C cc (pc + 2) L (.int v :: S) sh μ k n) : am_W C cc pc L (S) sh μ k n :=
  fun p e s m args below meth c F H locs ls hR hl hL => lv_ldc F.1 F.2.1 F.2.2.2.2.2.1 (F.2.2.2.2.2.2.1 _ hw) hd (kk p e s m args below meth c F H locs ls hR hl hL)
theorem aw_ldcw {i : Nat} {v : Int32} (hd : decode cc pc = .ok (.ldc_w i, 3)) (hw : Cond.constant C.2.1 i v ∈ am_TB) (kk : am_W C cc (pc + 3) L (.int v :: S) sh μ k n) : am_W C cc pc L (S) sh μ k n :=
  fun p e s m args below meth c F H locs ls hR hl hL => lv_ldcw F.1 F.2.1 F.2.2.2.2.2.1 (F.2.2.2.2.2.2.1 _ hw) hd (kk p e s m args below meth c F H locs ls hR hl hL)
theorem aw_ldc2 {i : Nat} {v : Int64} (hd : decode cc pc = .ok (.ldc2_w i, 3)) (hw : Cond.constantLong C.2.1 i v ∈ am_TB) (kk : am_W C cc (pc + 3) L (.long v :: S) sh μ k n) : am_W C cc pc L (S) sh μ k n :=
  fun p e s m args below meth c F H locs ls hR hl hL => lv_ldc2 F.1 F.2.1 F.2.2.2.2.2.1 (F.2.2.2.2.2.2.1 _ hw) hd (kk p e s m args below meth c F H locs ls hR hl hL)
theorem aw_iload_n {j : Fin 4} {x : Int32} (hd : decode cc pc = .ok (.iload_n j, 1)) (hg : am_gl L j = some (.int x)) (kk : am_W C cc (pc + 1) L (.int x :: S) sh μ k n) : am_W C cc pc L (S) sh μ k n :=
  fun p e s m args below meth c F H locs ls hR hl hL => lv_iload_n F.1 F.2.1 hd rfl (hL.2.2 _ (am_pl_mem hg)) (kk p e s m args below meth c F H locs ls hR hl hL)
theorem aw_iload {j : Nat} {x : Int32} (hd : decode cc pc = .ok (.iload j, 2)) (hg : am_gl L j = some (.int x)) (kk : am_W C cc (pc + 2) L (.int x :: S) sh μ k n) : am_W C cc pc L (S) sh μ k n :=
  fun p e s m args below meth c F H locs ls hR hl hL => lv_iload F.1 F.2.1 hd (hL.2.2 _ (am_pl_mem hg)) (kk p e s m args below meth c F H locs ls hR hl hL)
theorem aw_istore_n {j : Fin 4} {x : Int32} (hd : decode cc pc = .ok (.istore_n j, 1)) (hj : (j : Nat) < C.2.2.2.1) (kk : am_W C cc (pc + 1) (am_sl L j (.int x)) (S) sh μ k n) : am_W C cc pc L (.int x :: S) sh μ k n :=
  fun p e s m args below meth c F H locs ls hR hl hL => lv_istore_n F.1 F.2.1 hd rfl hL hj rfl (fun ls' hl' => kk p e s m args below meth c F H locs ls' hR hl (am_has1 (v := .int x) hl'))
theorem aw_istore {j : Nat} {x : Int32} (hd : decode cc pc = .ok (.istore j, 2)) (hj : (j : Nat) < C.2.2.2.1) (kk : am_W C cc (pc + 2) (am_sl L j (.int x)) (S) sh μ k n) : am_W C cc pc L (.int x :: S) sh μ k n :=
  fun p e s m args below meth c F H locs ls hR hl hL => lv_istore F.1 F.2.1 hd hL hj rfl (fun ls' hl' => kk p e s m args below meth c F H locs ls' hR hl (am_has1 (v := .int x) hl'))
theorem aw_lload_n {j : Fin 4} {x : Int64} (hd : decode cc pc = .ok (.lload_n j, 1)) (hg : am_gl L j = some (.long x)) (kk : am_W C cc (pc + 1) L (.long x :: S) sh μ k n) : am_W C cc pc L (S) sh μ k n :=
  fun p e s m args below meth c F H locs ls hR hl hL => lv_lload_n F.1 F.2.1 hd rfl (hL.2.2 _ (am_pl_mem hg)) (kk p e s m args below meth c F H locs ls hR hl hL)
theorem aw_lload {j : Nat} {x : Int64} (hd : decode cc pc = .ok (.lload j, 2)) (hg : am_gl L j = some (.long x)) (kk : am_W C cc (pc + 2) L (.long x :: S) sh μ k n) : am_W C cc pc L (S) sh μ k n :=
  fun p e s m args below meth c F H locs ls hR hl hL => lv_lload F.1 F.2.1 hd (hL.2.2 _ (am_pl_mem hg)) (kk p e s m args below meth c F H locs ls hR hl hL)
theorem aw_lstore_n {j : Fin 4} {x : Int64} (hd : decode cc pc = .ok (.lstore_n j, 1)) (hj : (j : Nat) + 1 < C.2.2.2.1) (kk : am_W C cc (pc + 1) (am_s2 L j (.long x)) (S) sh μ k n) : am_W C cc pc L (.long x :: S) sh μ k n :=
  fun p e s m args below meth c F H locs ls hR hl hL => lv_lstore_n F.1 F.2.1 hd rfl hL hj rfl (fun ls' hl' => kk p e s m args below meth c F H locs ls' hR hl (am_has2 (v := .long x) hl'))
theorem aw_lstore {j : Nat} {x : Int64} (hd : decode cc pc = .ok (.lstore j, 2)) (hj : (j : Nat) + 1 < C.2.2.2.1) (kk : am_W C cc (pc + 2) (am_s2 L j (.long x)) (S) sh μ k n) : am_W C cc pc L (.long x :: S) sh μ k n :=
  fun p e s m args below meth c F H locs ls hR hl hL => lv_lstore F.1 F.2.1 hd hL hj rfl (fun ls' hl' => kk p e s m args below meth c F H locs ls' hR hl (am_has2 (v := .long x) hl'))
theorem aw_aload_n {j : Fin 4} {x : Nat} (hd : decode cc pc = .ok (.aload_n j, 1)) (hg : am_gl L j = some (.ref x)) (kk : am_W C cc (pc + 1) L (.ref x :: S) sh μ k n) : am_W C cc pc L (S) sh μ k n :=
  fun p e s m args below meth c F H locs ls hR hl hL => lv_aload_n F.1 F.2.1 hd rfl (hL.2.2 _ (am_pl_mem hg)) (kk p e s m args below meth c F H locs ls hR hl hL)
theorem aw_aload {j : Nat} {x : Nat} (hd : decode cc pc = .ok (.aload j, 2)) (hg : am_gl L j = some (.ref x)) (kk : am_W C cc (pc + 2) L (.ref x :: S) sh μ k n) : am_W C cc pc L (S) sh μ k n :=
  fun p e s m args below meth c F H locs ls hR hl hL => lv_aload F.1 F.2.1 hd (hL.2.2 _ (am_pl_mem hg)) (kk p e s m args below meth c F H locs ls hR hl hL)
theorem aw_astore_n {j : Fin 4} {x : Nat} (hd : decode cc pc = .ok (.astore_n j, 1)) (hj : (j : Nat) < C.2.2.2.1) (kk : am_W C cc (pc + 1) (am_sl L j (.ref x)) (S) sh μ k n) : am_W C cc pc L (.ref x :: S) sh μ k n :=
  fun p e s m args below meth c F H locs ls hR hl hL => lv_astore_n F.1 F.2.1 hd rfl hL hj rfl (fun ls' hl' => kk p e s m args below meth c F H locs ls' hR hl (am_has1 (v := .ref x) hl'))
theorem aw_astore {j : Nat} {x : Nat} (hd : decode cc pc = .ok (.astore j, 2)) (hj : (j : Nat) < C.2.2.2.1) (kk : am_W C cc (pc + 2) (am_sl L j (.ref x)) (S) sh μ k n) : am_W C cc pc L (.ref x :: S) sh μ k n :=
  fun p e s m args below meth c F H locs ls hR hl hL => lv_astore F.1 F.2.1 hd hL hj rfl (fun ls' hl' => kk p e s m args below meth c F H locs ls' hR hl (am_has1 (v := .ref x) hl'))
theorem aw_iadd {x y : Int32} (hd : decode cc pc = .ok (.iadd, 1)) (kk : am_W C cc (pc + 1) L (.int (x + y) :: S) sh μ k n) : am_W C cc pc L (.int y :: .int x :: S) sh μ k n :=
  fun p e s m args below meth c F H locs ls hR hl hL => lv_iadd F.1 F.2.1 hd (kk p e s m args below meth c F H locs ls hR hl hL)
theorem aw_isub {x y : Int32} (hd : decode cc pc = .ok (.isub, 1)) (kk : am_W C cc (pc + 1) L (.int (x - y) :: S) sh μ k n) : am_W C cc pc L (.int y :: .int x :: S) sh μ k n :=
  fun p e s m args below meth c F H locs ls hR hl hL => lv_isub F.1 F.2.1 hd (kk p e s m args below meth c F H locs ls hR hl hL)
theorem aw_imul {x y : Int32} (hd : decode cc pc = .ok (.imul, 1)) (kk : am_W C cc (pc + 1) L (.int (x * y) :: S) sh μ k n) : am_W C cc pc L (.int y :: .int x :: S) sh μ k n :=
  fun p e s m args below meth c F H locs ls hR hl hL => lv_imul F.1 F.2.1 hd (kk p e s m args below meth c F H locs ls hR hl hL)
theorem aw_iand {x y : Int32} (hd : decode cc pc = .ok (.iand, 1)) (kk : am_W C cc (pc + 1) L (.int (x &&& y) :: S) sh μ k n) : am_W C cc pc L (.int y :: .int x :: S) sh μ k n :=
  fun p e s m args below meth c F H locs ls hR hl hL => lv_iand F.1 F.2.1 hd (kk p e s m args below meth c F H locs ls hR hl hL)
theorem aw_ior {x y : Int32} (hd : decode cc pc = .ok (.ior, 1)) (kk : am_W C cc (pc + 1) L (.int (x ||| y) :: S) sh μ k n) : am_W C cc pc L (.int y :: .int x :: S) sh μ k n :=
  fun p e s m args below meth c F H locs ls hR hl hL => lv_ior F.1 F.2.1 hd (kk p e s m args below meth c F H locs ls hR hl hL)
theorem aw_idiv {x y : Int32} (hd : decode cc pc = .ok (.idiv, 1)) (h0 : ¬ y = 0) (kk : am_W C cc (pc + 1) L (.int (x / y) :: S) sh μ k n) : am_W C cc pc L (.int y :: .int x :: S) sh μ k n :=
  fun p e s m args below meth c F H locs ls hR hl hL => lv_idiv F.1 F.2.1 hd h0 (kk p e s m args below meth c F H locs ls hR hl hL)
theorem aw_irem {x y : Int32} (hd : decode cc pc = .ok (.irem, 1)) (h0 : ¬ y = 0) (kk : am_W C cc (pc + 1) L (.int (x - x / y * y) :: S) sh μ k n) : am_W C cc pc L (.int y :: .int x :: S) sh μ k n :=
  fun p e s m args below meth c F H locs ls hR hl hL => lv_irem F.1 F.2.1 hd h0 (kk p e s m args below meth c F H locs ls hR hl hL)
theorem aw_ineg {x : Int32} (hd : decode cc pc = .ok (.ineg, 1)) (kk : am_W C cc (pc + 1) L (.int (-x) :: S) sh μ k n) : am_W C cc pc L (.int x :: S) sh μ k n :=
  fun p e s m args below meth c F H locs ls hR hl hL => lv_ineg F.1 F.2.1 hd (kk p e s m args below meth c F H locs ls hR hl hL)
theorem aw_ishl {x y : Int32} (hd : decode cc pc = .ok (.ishl, 1)) (kk : am_W C cc (pc + 1) L (.int (x <<< (y &&& 31)) :: S) sh μ k n) : am_W C cc pc L (.int y :: .int x :: S) sh μ k n :=
  fun p e s m args below meth c F H locs ls hR hl hL => lv_ishl F.1 F.2.1 hd (kk p e s m args below meth c F H locs ls hR hl hL)
theorem aw_ishr {x y : Int32} (hd : decode cc pc = .ok (.ishr, 1)) (kk : am_W C cc (pc + 1) L (.int (x >>> (y &&& 31)) :: S) sh μ k n) : am_W C cc pc L (.int y :: .int x :: S) sh μ k n :=
  fun p e s m args below meth c F H locs ls hR hl hL => lv_ishr F.1 F.2.1 hd (kk p e s m args below meth c F H locs ls hR hl hL)
theorem aw_iushr {x y : Int32} (hd : decode cc pc = .ok (.iushr, 1)) (kk : am_W C cc (pc + 1) L (.int ((x.toUInt32 >>> (y.toUInt32 &&& Int32.toUInt32 31)).toInt32) :: S) sh μ k n) : am_W C cc pc L (.int y :: .int x :: S) sh μ k n :=
  fun p e s m args below meth c F H locs ls hR hl hL => lv_iushr F.1 F.2.1 hd rfl (kk p e s m args below meth c F H locs ls hR hl hL)
theorem aw_ladd {x y : Int64} (hd : decode cc pc = .ok (.ladd, 1)) (kk : am_W C cc (pc + 1) L (.long (x + y) :: S) sh μ k n) : am_W C cc pc L (.long y :: .long x :: S) sh μ k n :=
  fun p e s m args below meth c F H locs ls hR hl hL => lv_ladd F.1 F.2.1 hd (kk p e s m args below meth c F H locs ls hR hl hL)
theorem aw_lmul {x y : Int64} (hd : decode cc pc = .ok (.lmul, 1)) (kk : am_W C cc (pc + 1) L (.long (x * y) :: S) sh μ k n) : am_W C cc pc L (.long y :: .long x :: S) sh μ k n :=
  fun p e s m args below meth c F H locs ls hR hl hL => lv_lmul F.1 F.2.1 hd (kk p e s m args below meth c F H locs ls hR hl hL)
theorem aw_ldiv {x y : Int64} (hd : decode cc pc = .ok (.ldiv, 1)) (h0 : ¬ y = 0) (kk : am_W C cc (pc + 1) L (.long (x / y) :: S) sh μ k n) : am_W C cc pc L (.long y :: .long x :: S) sh μ k n :=
  fun p e s m args below meth c F H locs ls hR hl hL => lv_ldiv F.1 F.2.1 hd h0 (kk p e s m args below meth c F H locs ls hR hl hL)
theorem aw_lrem {x y : Int64} (hd : decode cc pc = .ok (.lrem, 1)) (h0 : ¬ y = 0) (kk : am_W C cc (pc + 1) L (.long (x - x / y * y) :: S) sh μ k n) : am_W C cc pc L (.long y :: .long x :: S) sh μ k n :=
  fun p e s m args below meth c F H locs ls hR hl hL => lv_lrem F.1 F.2.1 hd h0 (kk p e s m args below meth c F H locs ls hR hl hL)
theorem aw_lcmp {x y : Int64} (hd : decode cc pc = .ok (.lcmp, 1)) (kk : am_W C cc (pc + 1) L (.int (lg_cmp x y) :: S) sh μ k n) : am_W C cc pc L (.long y :: .long x :: S) sh μ k n :=
  fun p e s m args below meth c F H locs ls hR hl hL => W.lcmp F.1 F.2.1 hd (kk p e s m args below meth c F H locs ls hR hl hL)
theorem aw_i2l {x : Int32} (hd : decode cc pc = .ok (.i2l, 1)) (kk : am_W C cc (pc + 1) L (.long x.toInt64 :: S) sh μ k n) : am_W C cc pc L (.int x :: S) sh μ k n :=
  fun p e s m args below meth c F H locs ls hR hl hL => lv_i2l F.1 F.2.1 hd rfl (kk p e s m args below meth c F H locs ls hR hl hL)
theorem aw_l2i {x : Int64} (hd : decode cc pc = .ok (.l2i, 1)) (kk : am_W C cc (pc + 1) L (.int x.toInt32 :: S) sh μ k n) : am_W C cc pc L (.long x :: S) sh μ k n :=
  fun p e s m args below meth c F H locs ls hR hl hL => lv_l2i F.1 F.2.1 hd rfl (kk p e s m args below meth c F H locs ls hR hl hL)
theorem aw_i2b {x : Int32} (hd : decode cc pc = .ok (.i2b, 1)) (kk : am_W C cc (pc + 1) L (.int x.toInt8.toInt32 :: S) sh μ k n) : am_W C cc pc L (.int x :: S) sh μ k n :=
  fun p e s m args below meth c F H locs ls hR hl hL => lv_i2b F.1 F.2.1 hd rfl (kk p e s m args below meth c F H locs ls hR hl hL)
theorem aw_i2s {x : Int32} (hd : decode cc pc = .ok (.i2s, 1)) (kk : am_W C cc (pc + 1) L (.int x.toInt16.toInt32 :: S) sh μ k n) : am_W C cc pc L (.int x :: S) sh μ k n :=
  fun p e s m args below meth c F H locs ls hR hl hL => lv_i2s F.1 F.2.1 hd rfl (kk p e s m args below meth c F H locs ls hR hl hL)
theorem aw_dup {v : Value} (hd : decode cc pc = .ok (.dup, 1)) (h1 : v.category = 1) (kk : am_W C cc (pc + 1) L (v :: v :: S) sh μ k n) : am_W C cc pc L (v :: S) sh μ k n :=
  fun p e s m args below meth c F H locs ls hR hl hL => lv_dup F.1 F.2.1 hd ((am_rv_cat _ v).trans h1) (kk p e s m args below meth c F H locs ls hR hl hL)
theorem aw_dup2 {v w : Value} (hd : decode cc pc = .ok (.dup2, 1)) (h1 : v.category = 1) (h2 : w.category = 1) (kk : am_W C cc (pc + 1) L (v :: w :: v :: w :: S) sh μ k n) : am_W C cc pc L (v :: w :: S) sh μ k n :=
  fun p e s m args below meth c F H locs ls hR hl hL => lv_dup2_11 F.1 F.2.1 hd ((am_rv_cat _ v).trans h1) ((am_rv_cat _ w).trans h2) (kk p e s m args below meth c F H locs ls hR hl hL)
theorem aw_goto {off : Int} {tgt : Nat} (hd : decode cc pc = .ok (.goto off, 3)) (ht : (pc : Int) + off = (tgt : Int)) (kk : am_W C cc (tgt) L (S) sh μ k n) : am_W C cc pc L (S) sh μ k n :=
  fun p e s m args below meth c F H locs ls hR hl hL => lv_goto F.1 F.2.1 hd ht (kk p e s m args below meth c F H locs ls hR hl hL)
theorem aw_iinc {j : Nat} {z : Int} {x v : Int32} (hd : decode cc pc = .ok (.iinc j z, 3)) (hg : am_gl L j = some (.int x)) (hv : x + Int32.ofInt z = v) (hj : j < C.2.2.2.1) (kk : am_W C cc (pc + 3) (am_sl L j (.int v)) S sh μ k n) : am_W C cc pc L S sh μ k n := by
  intro p e s m args below meth c F H locs ls hR hl hL
  obtain ⟨i, hi⟩ := List.mem_iff_getElem?.mp (am_pl_mem (b := C.1.2.2.1.size) hg)
  exact lv_iinc F.1 F.2.1 hd hL hi hv hj rfl (fun ls' hl' => kk p e s m args below meth c F H locs ls' hR hl (am_has1 (v := .int v) hl'))
theorem aw_if_eq {x : Int32} {off : Int} {tgt : Nat} (hd : decode cc pc = .ok (.ifCond .eq off, 3)) (ht : (pc : Int) + off = (tgt : Int)) (kt : x = 0 → am_W C cc tgt L S sh μ k n) (kf : ¬ x = 0 → am_W C cc (pc + 3) L S sh μ k n) : am_W C cc pc L (.int x :: S) sh μ k n :=
  fun p e s m args below meth c F H locs ls hR hl hL => lv_if_eq F.1 F.2.1 hd ht (fun q => kt q p e s m args below meth c F H locs ls hR hl hL) (fun q => kf q p e s m args below meth c F H locs ls hR hl hL)
theorem aw_if_ne {x : Int32} {off : Int} {tgt : Nat} (hd : decode cc pc = .ok (.ifCond .ne off, 3)) (ht : (pc : Int) + off = (tgt : Int)) (kt : ¬ x = 0 → am_W C cc tgt L S sh μ k n) (kf : x = 0 → am_W C cc (pc + 3) L S sh μ k n) : am_W C cc pc L (.int x :: S) sh μ k n :=
  fun p e s m args below meth c F H locs ls hR hl hL => lv_if_ne F.1 F.2.1 hd ht (fun q => kt q p e s m args below meth c F H locs ls hR hl hL) (fun q => kf q p e s m args below meth c F H locs ls hR hl hL)
theorem aw_if_lt {x : Int32} {off : Int} {tgt : Nat} (hd : decode cc pc = .ok (.ifCond .lt off, 3)) (ht : (pc : Int) + off = (tgt : Int)) (kt : x < 0 → am_W C cc tgt L S sh μ k n) (kf : ¬ x < 0 → am_W C cc (pc + 3) L S sh μ k n) : am_W C cc pc L (.int x :: S) sh μ k n :=
  fun p e s m args below meth c F H locs ls hR hl hL => lv_if_lt F.1 F.2.1 hd ht (fun q => kt q p e s m args below meth c F H locs ls hR hl hL) (fun q => kf q p e s m args below meth c F H locs ls hR hl hL)
theorem aw_if_ge {x : Int32} {off : Int} {tgt : Nat} (hd : decode cc pc = .ok (.ifCond .ge off, 3)) (ht : (pc : Int) + off = (tgt : Int)) (kt : 0 ≤ x → am_W C cc tgt L S sh μ k n) (kf : ¬ 0 ≤ x → am_W C cc (pc + 3) L S sh μ k n) : am_W C cc pc L (.int x :: S) sh μ k n :=
  fun p e s m args below meth c F H locs ls hR hl hL => lv_if_ge F.1 F.2.1 hd ht (fun q => kt q p e s m args below meth c F H locs ls hR hl hL) (fun q => kf q p e s m args below meth c F H locs ls hR hl hL)
theorem aw_if_gt {x : Int32} {off : Int} {tgt : Nat} (hd : decode cc pc = .ok (.ifCond .gt off, 3)) (ht : (pc : Int) + off = (tgt : Int)) (kt : 0 < x → am_W C cc tgt L S sh μ k n) (kf : ¬ 0 < x → am_W C cc (pc + 3) L S sh μ k n) : am_W C cc pc L (.int x :: S) sh μ k n :=
  fun p e s m args below meth c F H locs ls hR hl hL => lv_if_gt F.1 F.2.1 hd ht (fun q => kt q p e s m args below meth c F H locs ls hR hl hL) (fun q => kf q p e s m args below meth c F H locs ls hR hl hL)
theorem aw_if_le {x : Int32} {off : Int} {tgt : Nat} (hd : decode cc pc = .ok (.ifCond .le off, 3)) (ht : (pc : Int) + off = (tgt : Int)) (kt : x ≤ 0 → am_W C cc tgt L S sh μ k n) (kf : ¬ x ≤ 0 → am_W C cc (pc + 3) L S sh μ k n) : am_W C cc pc L (.int x :: S) sh μ k n :=
  fun p e s m args below meth c F H locs ls hR hl hL => lv_if_le F.1 F.2.1 hd ht (fun q => kt q p e s m args below meth c F H locs ls hR hl hL) (fun q => kf q p e s m args below meth c F H locs ls hR hl hL)
theorem aw_icmp_eq {x y : Int32} {off : Int} {tgt : Nat} (hd : decode cc pc = .ok (.if_icmp .eq off, 3)) (ht : (pc : Int) + off = (tgt : Int)) (kt : x = y → am_W C cc tgt L S sh μ k n) (kf : ¬ x = y → am_W C cc (pc + 3) L S sh μ k n) : am_W C cc pc L (.int y :: .int x :: S) sh μ k n :=
  fun p e s m args below meth c F H locs ls hR hl hL => lv_icmp_eq F.1 F.2.1 hd ht (fun q => kt q p e s m args below meth c F H locs ls hR hl hL) (fun q => kf q p e s m args below meth c F H locs ls hR hl hL)
theorem aw_icmp_ne {x y : Int32} {off : Int} {tgt : Nat} (hd : decode cc pc = .ok (.if_icmp .ne off, 3)) (ht : (pc : Int) + off = (tgt : Int)) (kt : ¬ x = y → am_W C cc tgt L S sh μ k n) (kf : x = y → am_W C cc (pc + 3) L S sh μ k n) : am_W C cc pc L (.int y :: .int x :: S) sh μ k n :=
  fun p e s m args below meth c F H locs ls hR hl hL => lv_icmp_ne F.1 F.2.1 hd ht (fun q => kt q p e s m args below meth c F H locs ls hR hl hL) (fun q => kf q p e s m args below meth c F H locs ls hR hl hL)
theorem aw_icmp_lt {x y : Int32} {off : Int} {tgt : Nat} (hd : decode cc pc = .ok (.if_icmp .lt off, 3)) (ht : (pc : Int) + off = (tgt : Int)) (kt : x < y → am_W C cc tgt L S sh μ k n) (kf : ¬ x < y → am_W C cc (pc + 3) L S sh μ k n) : am_W C cc pc L (.int y :: .int x :: S) sh μ k n :=
  fun p e s m args below meth c F H locs ls hR hl hL => lv_icmp_lt F.1 F.2.1 hd ht (fun q => kt q p e s m args below meth c F H locs ls hR hl hL) (fun q => kf q p e s m args below meth c F H locs ls hR hl hL)
theorem aw_icmp_ge {x y : Int32} {off : Int} {tgt : Nat} (hd : decode cc pc = .ok (.if_icmp .ge off, 3)) (ht : (pc : Int) + off = (tgt : Int)) (kt : y ≤ x → am_W C cc tgt L S sh μ k n) (kf : ¬ y ≤ x → am_W C cc (pc + 3) L S sh μ k n) : am_W C cc pc L (.int y :: .int x :: S) sh μ k n :=
  fun p e s m args below meth c F H locs ls hR hl hL => lv_icmp_ge F.1 F.2.1 hd ht (fun q => kt q p e s m args below meth c F H locs ls hR hl hL) (fun q => kf q p e s m args below meth c F H locs ls hR hl hL)
theorem aw_icmp_gt {x y : Int32} {off : Int} {tgt : Nat} (hd : decode cc pc = .ok (.if_icmp .gt off, 3)) (ht : (pc : Int) + off = (tgt : Int)) (kt : y < x → am_W C cc tgt L S sh μ k n) (kf : ¬ y < x → am_W C cc (pc + 3) L S sh μ k n) : am_W C cc pc L (.int y :: .int x :: S) sh μ k n :=
  fun p e s m args below meth c F H locs ls hR hl hL => lv_icmp_gt F.1 F.2.1 hd ht (fun q => kt q p e s m args below meth c F H locs ls hR hl hL) (fun q => kf q p e s m args below meth c F H locs ls hR hl hL)
theorem aw_icmp_le {x y : Int32} {off : Int} {tgt : Nat} (hd : decode cc pc = .ok (.if_icmp .le off, 3)) (ht : (pc : Int) + off = (tgt : Int)) (kt : x ≤ y → am_W C cc tgt L S sh μ k n) (kf : ¬ x ≤ y → am_W C cc (pc + 3) L S sh μ k n) : am_W C cc pc L (.int y :: .int x :: S) sh μ k n :=
  fun p e s m args below meth c F H locs ls hR hl hL => lv_icmp_le F.1 F.2.1 hd ht (fun q => kt q p e s m args below meth c F H locs ls hR hl hL) (fun q => kf q p e s m args below meth c F H locs ls hR hl hL)
theorem aw_tableIn {dflt lo hi : Int} {offs : Array Int} {len : Nat} {x : Int32} {off : Int} {tgt : Nat} (hd : decode cc pc = .ok (.tableswitch dflt lo hi offs, len)) (h1 : ¬ x.toInt < lo) (h2 : ¬ hi < x.toInt) (ho : offs[(x.toInt - lo).toNat]? = some off) (ht : (pc : Int) + off = (tgt : Int)) (kk : am_W C cc tgt L S sh μ k n) : am_W C cc pc L (.int x :: S) sh μ k n :=
  fun p e s m args below meth c F H locs ls hR hl hL => lv_tableIn F.1 F.2.1 hd h1 h2 ho ht (kk p e s m args below meth c F H locs ls hR hl hL)
theorem aw_tableOut {dflt lo hi : Int} {offs : Array Int} {len : Nat} {x : Int32} {tgt : Nat} (hd : decode cc pc = .ok (.tableswitch dflt lo hi offs, len)) (h1 : x.toInt < lo ∨ hi < x.toInt) (ht : (pc : Int) + dflt = (tgt : Int)) (kk : am_W C cc tgt L S sh μ k n) : am_W C cc pc L (.int x :: S) sh μ k n :=
  fun p e s m args below meth c F H locs ls hR hl hL => lv_tableOut F.1 F.2.1 hd h1 ht (kk p e s m args below meth c F H locs ls hR hl hL)
theorem aw_lookup {dflt : Int} {ps : Array (Int × Int)} {len : Nat} {x : Int32} {off : Int} {tgt : Nat} (hd : decode cc pc = .ok (.lookupswitch dflt ps, len)) (hp : (ps.toList.zip (ps.toList.drop 1)).all (fun (a, next) => a.1 < next.1) = true) (ho : Op.lookupswitch.offset ps.toList dflt x.toInt = off) (ht : (pc : Int) + off = (tgt : Int)) (kk : am_W C cc tgt L S sh μ k n) : am_W C cc pc L (.int x :: S) sh μ k n :=
  fun p e s m args below meth c F H locs ls hR hl hL => lv_lookup F.1 F.2.1 hd hp ho ht (kk p e s m args below meth c F H locs ls hR hl hL)
end AW
end
section
/-! ===== fields ===== -/
def am_gf (own : String) (idx ci j : Nat) : Prop := ∃ (Cn : String) (T : u_T) (N : Nat), vwCl[ci]? = some (Cn, T, N) ∧ ci < 100 ∧ j < N ∧ Cond.fieldLink own idx (T j).1 (T j).2.1 (T j).2.2.1 ∈ am_TB ∧ ∀ w ∈ u_ws Cn T N, w ∈ am_TB
def am_pf (own : String) (idx ci j : Nat) (fin : Bool) (ty : FieldType) : Prop := ∃ (Cn : String) (T : u_T) (N : Nat) (ty0 : Nat → FieldType), vwCl[ci]? = some (Cn, T, N) ∧ ci < 100 ∧ j < N ∧ Cond.fieldLink own idx (T j).1 (T j).2.1 (T j).2.2.1 ∈ am_TB ∧ (∀ w ∈ u_ws Cn T N, w ∈ am_TB) ∧
  (∀ k, k < N → parseFieldDescriptor (T k).2.2.1 = some (ty0 k)) ∧ (∀ a, a < N → ∀ b, b < N → a ≠ b → (T a).2.1 ≠ (T b).2.1) ∧ (T j).2.2.2 = fin ∧ ty0 j = ty ∧ (fin = true → (T j).1 = own)
theorem am_vat_i {c : am_S} {row : Nat → Int32} {j : Nat} (h : c.2.2[j]? = some none) : am_vat c row j = .int (row j) := by simp [am_vat, h]
theorem am_vat_o {c : am_S} {row : Nat → Int32} {j : Nat} (h : c.2.2[j]? = none) : am_vat c row j = .int (row j) := by simp [am_vat, h]
theorem am_vat_r {c : am_S} {row : Nat → Int32} {j : Nat} {v : Value} (h : c.2.2[j]? = some (some v)) : am_vat c row j = v := by simp [am_vat, h]
section AH
variable {C : am_C} {cc : ByteArray} {pc : Nat} {L : am_L} {S : List Value} {sh : List am_S} {μ : am_M} {k n : Nat}
theorem aw_get {idx ci j a N : Nat} {rs : List (Option Value)} {v : Value} (hd : decode cc pc = .ok (.getfield idx, 3)) (hg : am_gf C.2.1 idx ci j) (hc : sh[a]? = some (ci, N, rs)) (hv : am_vat (ci, N, rs) (μ a) j = v)
    (kk : am_W C cc (pc + 3) L (v :: S) sh μ k n) : am_W C cc pc L (.ref a :: S) sh μ k n := by
  intro p e s m args below meth c F H locs ls hR hl hL
  have kk := kk p e s m args below meth c F H locs ls hR hl hL
  obtain ⟨hx, hb, hml, hr, hlk, hown, hts, hX, hn⟩ := F
  obtain ⟨Cn, T, N', hcl, h100, hj, hlink, hin⟩ := hg
  rcases hR.2.2 a _ hc with ⟨-, r, hr', cell, q1, q2, q3, q4⟩ | ⟨hge, -⟩
  · have e : r = (Cn, T, N') := Option.some.inj (hr'.symm.trans hcl)
    subst e
    obtain ⟨hS, hfc, kC, hkC, hkind⟩ := hX.1.1 ci _ hcl
    obtain ⟨cf, kf, fi, f, hi, hsl⟩ := hS j hj
    refine W.getf hx hb hown (hts _ hlink) hi (u_facts hfc hkC (u_lays hts hin hj) hi).1 q1 (by rw [q3]; exact fun h => by cases h) (v := am_rv C.1.2.2.1.size v) ?_ rfl rfl hd kk
    rw [hsl, q4 j hj]
    subst hv
    rfl
  · exact absurd hge (by simp; omega)
/-- an int field -/
theorem aw_gi {idx ci j a N : Nat} {rs : List (Option Value)} (hd : decode cc pc = .ok (.getfield idx, 3)) (hg : am_gf C.2.1 idx ci j) (hc : sh[a]? = some (ci, N, rs)) (hv : rs[j]? = some none)
    (kk : am_W C cc (pc + 3) L (.int (μ a j) :: S) sh μ k n) : am_W C cc pc L (.ref a :: S) sh μ k n := aw_get hd hg hc (am_vat_i hv) kk
/-- a reference field -/
theorem aw_gr {idx ci j a N : Nat} {rs : List (Option Value)} {v : Value} (hd : decode cc pc = .ok (.getfield idx, 3)) (hg : am_gf C.2.1 idx ci j) (hc : sh[a]? = some (ci, N, rs)) (hv : rs[j]? = some (some v))
    (kk : am_W C cc (pc + 3) L (v :: S) sh μ k n) : am_W C cc pc L (.ref a :: S) sh μ k n := aw_get hd hg hc (am_vat_r hv) kk
/-- an int field is written -/
theorem aw_pi {idx ci j a N : Nat} {rs : List (Option Value)} {ty : FieldType} {x : Int32} (hd : decode cc pc = .ok (.putfield idx, 3)) (hg : am_pf C.2.1 idx ci j false ty) (hnar : narrow ty (.int x) = .int x) (hfit : fits ty (.int x) = true) (hc : sh[a]? = some (ci, N, rs)) (hv : rs[j]? = some none)
    (kk : am_W C cc (pc + 3) L S sh (am_up μ a (upd (μ a) j x)) k n) : am_W C cc pc L (.int x :: .ref a :: S) sh μ k n := by
  intro p e s m args below meth c F H locs ls hR hl hL
  have kk := fun H locs hR hl => kk p e s m args below meth c F H locs ls hR hl hL
  obtain ⟨hx, hb, hml, hr, hlk, hown, hts, hX, hn⟩ := F
  obtain ⟨Cn, T, N', ty0, hcl, h100, hj, hlink, hin, hty, hnm, hfin, hty2, -⟩ := hg
  rcases hR.2.2 a _ hc with ⟨-, r, hr', cell, q1, q2, q3, q4⟩ | ⟨hge, -⟩
  · have e : r = (Cn, T, N') := Option.some.inj (hr'.symm.trans hcl)
    subst e
    have hap := va_apart (D := C.1.1) (cl := vwCl) (tys := am_tys C.1.2.1) (own := C.2.1) hts hin ty0 hty hnm hX.1 hcl
    obtain ⟨hS, hfc, kC, hkC, hkind⟩ := hX.1.1 ci _ hcl
    obtain ⟨cf, kf, fi, f, hi, hsl⟩ := hS j hj
    have hlay := hts _ (hin _ (u_in_lay hj))
    unfold u_lay at hlay
    rw [if_neg (by rw [hfin]; decide)] at hlay
    have hst := (u_facts hfc hkC (u_lays hts hin hj) hi).1
    have h6 := u_store hfc hkC hkind hlay hi ((hty j hj).trans (by rw [hty2])) hnar hfit
    refine W.putK hx hb (f := f) ⟨hown, hts _ hlink, ⟨_, _, _, hi⟩, hst⟩ (by rw [q2]; exact h6) q1 q3 (by rw [hsl]; exact k2_hasslot (q4 j hj)) rfl rfl hd fun H' e1 e2 e3 => ?_
    rw [hsl] at e1 ⊢
    refine kk H' _ (hR.sti hc e2 e3 (Or.inl ⟨h100, _, hcl, ?_⟩)) ?_
    · refine t_OB.to (V := updV (fun j => am_rv C.1.2.2.1.size (am_vat (ci, N, rs) (μ a) j)) j (.int x)) ⟨_, e1, q2, q3, t_set q4 hap hj (.int x)⟩ (fun i _ => ?_)
      by_cases hij : i = j
      · subst hij
        simp [updV, am_vat_i (c := (ci, N, rs)) hv, upd, am_rv]
      · simp only [updV, hij, if_false]
        simp [am_vat, upd, hij]
    · intro q hq
      rcases List.mem_append.mp hq with h | h
      · exact hl q h
      · rw [List.mem_singleton.mp h]
        exact Nat.le_add_right _ _
  · exact absurd hge (by simp; omega)
/-- a final reference field, in its constructor -/
theorem aw_pr {idx ci j a N b : Nat} {rs : List (Option Value)} {ty : FieldType} {w : Value} (hd : decode cc pc = .ok (.putfield idx, 3)) (hg : am_pf C.2.1 idx ci j true ty) (hm : C.2.2.1 = "<init>") (hnar : ∀ z : Nat, narrow ty (.ref z) = .ref z) (hfit : ∀ z : Nat, fits ty (.ref z) = true) (hc : sh[a]? = some (ci, N, rs)) (hv : rs[j]? = some (some w))
    (kk : am_W C cc (pc + 3) L S (sh.set a (ci, N, rs.set j (some (.ref b)))) μ k n) : am_W C cc pc L (.ref b :: .ref a :: S) sh μ k n := by
  intro p e s m args below meth c F H locs ls hR hl hL
  have kk := fun H locs hR hl => kk p e s m args below meth c F H locs ls hR hl hL
  obtain ⟨hx, hb, hml, hr, hlk, hown, hts, hX, hn⟩ := F
  obtain ⟨Cn, T, N', ty0, hcl, h100, hj, hlink, hin, hty, hnm, hfin, hty2, hdecl⟩ := hg
  have hdecl := hdecl rfl
  rcases hR.2.2 a _ hc with ⟨-, r, hr', cell, q1, q2, q3, q4⟩ | ⟨hge, -⟩
  · have e : r = (Cn, T, N') := Option.some.inj (hr'.symm.trans hcl)
    subst e
    have hap := va_apart (D := C.1.1) (cl := vwCl) (tys := am_tys C.1.2.1) (own := C.2.1) hts hin ty0 hty hnm hX.1 hcl
    obtain ⟨hS, hfc, kC, hkC, hkind⟩ := hX.1.1 ci _ hcl
    obtain ⟨cf, kf, fi, f, hi, hsl⟩ := hS j hj
    have hlay := hts _ (hin _ (u_in_lay hj))
    unfold u_lay at hlay
    rw [if_pos hfin] at hlay
    have hst := (u_facts hfc hkC (u_lays hts hin hj) hi).1
    have hcf : m.cls = cf := by
      obtain ⟨_, _, c', _, _, _, -, -, hf', -, -, -, hown2, -⟩ := Cond.laysFinal_spec hlay
      have e1 : c' = cf := by have := hi.symm.trans hf'; simp at this; exact this.1.symm
      rw [hdecl] at hown2
      rw [← e1]; exact Option.some.inj (hown.symm.trans hown2)
    have h6 := u_fits hfc hkC hkind (Or.inr hlay) hi ((hty j hj).trans (by rw [hty2])) (hnar (C.1.2.2.1.size + b)) (hfit _)
    refine W.putFinK hx hb hown (hts _ hlink) hi hst hcf (hn.trans hm) (by rw [q2]; exact h6) q1 q3 (by rw [hsl]; exact k2_hasslot (q4 j hj)) rfl rfl hd fun H' e1 e2 e3 => ?_
    rw [hsl] at e1 ⊢
    have h7 := hR.st (f := μ a) (c' := (ci, N, rs.set j (some (.ref b)))) hc e2 e3 (Or.inl ⟨h100, _, hcl, ?_⟩)
    · have h8 : am_up μ a (μ a) = μ := by
        funext z
        by_cases hz : z = a
        · subst hz; rw [am_up_s]
        · rw [am_up_n hz]
      rw [h8] at h7
      refine kk H' _ h7 ?_
      intro q hq
      rcases List.mem_append.mp hq with h | h
      · exact hl q h
      · rw [List.mem_singleton.mp h]
        exact Nat.le_add_right _ _
    · refine t_OB.to (V := updV (fun j => am_rv C.1.2.2.1.size (am_vat (ci, N, rs) (μ a) j)) j (.ref (C.1.2.2.1.size + b))) ⟨_, e1, q2, q3, t_set q4 hap hj _⟩ (fun i _ => ?_)
      have hjl : j < rs.length := (List.getElem?_eq_some_iff.mp hv).1
      by_cases hij : i = j
      · subst hij
        simp [updV, am_vat, am_rv, hjl]
      · simp only [updV, hij, if_false]
        simp [am_vat, List.getElem?_set_ne (Ne.symm hij)]
  · exact absurd hge (by simp; omega)
/-! ===== arrays ===== -/
theorem am_ty (t : Nat) {ty : FieldType} {kA : Nat → ClassId} (h : (am_tys kA)[t]? = some (kA (100 + t), ty)) {G : am_G} {s : State} (e : G.2.1 = kA) (hX : am_X G s) : ArrOfT s (kA (100 + t)) ty ∧ va_RA s (kA (100 + t)) ty := by
  subst e
  exact hX.1.2 t _ h
theorem am_idx {i : Int32} {j N : Nat} (hi : i = nI j) (hj : j < N) (hN : N < 2 ^ 31) : ¬ (i < 0 ∨ N ≤ i.toNatClampNeg) ∧ i.toNatClampNeg = j := by
  subst hi
  exact ⟨nI_in hj hN, nI_clamp (by omega)⟩
theorem aw_iald {a N j : Nat} {i : Int32} (hd : decode cc pc = .ok (.iaload, 1)) (hc : sh[a]? = some (100, N, [])) (hi : i = nI j) (hj : j < N) (hN : N < 2 ^ 31)
    (kk : am_W C cc (pc + 1) L (.int (μ a j) :: S) sh μ k n) : am_W C cc pc L (.int i :: .ref a :: S) sh μ k n := by
  intro p e s m args below meth c F H locs ls hR hl hL
  have kk := kk p e s m args below meth c F H locs ls hR hl hL
  obtain ⟨hx, hb, hml, hr, hlk, hown, hts, hX, hn⟩ := F
  rcases hR.2.2 a _ hc with ⟨h1, -⟩ | ⟨-, h2⟩
  · exact absurd h1 (by simp)
  · obtain ⟨g1, g2⟩ := am_idx hi hj hN
    refine W.iald (v := .int (μ a j)) hx hb h2 ((am_ty 0 rfl rfl hX).1 _ _) (fun q => by cases q) (by show ¬ (i < 0 ∨ (arrV _ _ _).slots.size ≤ _); rw [arrV_size]; exact g1) ?_ rfl rfl hd kk
    rw [g2]
    show (arrV _ _ _).slots[_]? = _
    rw [arrV_read _ _ (show j < N from hj), am_vat_o rfl]
    rfl
theorem aw_zald {a N j : Nat} {i : Int32} (hd : decode cc pc = .ok (.baload, 1)) (hc : sh[a]? = some (101, N, [])) (hi : i = nI j) (hj : j < N) (hN : N < 2 ^ 31)
    (kk : am_W C cc (pc + 1) L (.int (μ a j) :: S) sh μ k n) : am_W C cc pc L (.int i :: .ref a :: S) sh μ k n := by
  intro p e s m args below meth c F H locs ls hR hl hL
  have kk := kk p e s m args below meth c F H locs ls hR hl hL
  obtain ⟨hx, hb, hml, hr, hlk, hown, hts, hX, hn⟩ := F
  rcases hR.2.2 a _ hc with ⟨h1, -⟩ | ⟨-, h2⟩
  · exact absurd h1 (by simp)
  · obtain ⟨g1, g2⟩ := am_idx hi hj hN
    refine W.zald (v := .int (μ a j)) hx hb h2 ((am_ty 1 rfl rfl hX).1 _ _) (fun q => by cases q) (by show ¬ (i < 0 ∨ (arrV _ _ _).slots.size ≤ _); rw [arrV_size]; exact g1) ?_ rfl rfl hd kk
    rw [g2]
    show (arrV _ _ _).slots[_]? = _
    rw [arrV_read _ _ (show j < N from hj), am_vat_o rfl]
    rfl
theorem aw_aald {a N j r t : Nat} {i : Int32} {rs : List (Option Value)} (hd : decode cc pc = .ok (.aaload, 1)) (hc : sh[a]? = some (100 + t, N, rs)) (ht : t = 2 ∨ t = 3 ∨ t = 4) (hi : i = nI j) (hj : j < N) (hN : N < 2 ^ 31) (hv : rs[j]? = some (some (.ref r)))
    (kk : am_W C cc (pc + 1) L (.ref r :: S) sh μ k n) : am_W C cc pc L (.int i :: .ref a :: S) sh μ k n := by
  intro p e s m args below meth c F H locs ls hR hl hL
  have kk := kk p e s m args below meth c F H locs ls hR hl hL
  obtain ⟨hx, hb, hml, hr, hlk, hown, hts, hX, hn⟩ := F
  rcases hR.2.2 a _ hc with ⟨h1, -⟩ | ⟨-, h2⟩
  · exact absurd h1 (by simp)
  · obtain ⟨g1, g2⟩ := am_idx hi hj hN
    have key : ∃ ty : FieldType, ty.isReference = true ∧ ArrOfT s (C.1.2.1 (100 + t)) ty := by
      rcases ht with rfl | rfl | rfl
      · exact ⟨_, rfl, (am_ty 2 rfl rfl hX).1⟩
      · exact ⟨_, rfl, (am_ty 3 rfl rfl hX).1⟩
      · exact ⟨_, rfl, (am_ty 4 rfl rfl hX).1⟩
    obtain ⟨ty, k1, k2⟩ := key
    refine W.aald (v := .ref (C.1.2.2.1.size + r)) hx hb h2 (k2 _ _) k1 (fun q => by cases q) (by show ¬ (i < 0 ∨ (arrV _ _ _).slots.size ≤ _); rw [arrV_size]; exact g1) ?_ rfl rfl hd kk
    rw [g2]
    show (arrV _ _ _).slots[_]? = _
    rw [arrV_read _ _ (show j < N from hj), am_vat_r hv]
    rfl
theorem aw_alen {a N t : Nat} (hd : decode cc pc = .ok (.arraylength, 1)) (hc : sh[a]? = some (100, N, []))
    (kk : am_W C cc (pc + 1) L (.int (nI N) :: S) sh μ k n) : am_W C cc pc L (.ref a :: S) sh μ k n := by
  intro p e s m args below meth c F H locs ls hR hl hL
  have kk := kk p e s m args below meth c F H locs ls hR hl hL
  obtain ⟨hx, hb, hml, hr, hlk, hown, hts, hX, hn⟩ := F
  rcases hR.2.2 a _ hc with ⟨h1, -⟩ | ⟨-, h2⟩
  · exact absurd h1 (by simp)
  · exact W.alen (n := nI N) hx hb h2 ((am_ty 0 rfl rfl hX).1 _ _) (by rw [arrV_size] <;> rfl) rfl rfl hd kk
theorem am_arr_up {ci N j : Nat} {base : Nat} {row : Nat → Int32} {x : Int32} {c : ClassId} : arrV c N (updV (fun i => am_rv base (am_vat (ci, N, []) row i)) j (.int x)) = arrV c N (fun i => am_rv base (am_vat (ci, N, []) (upd row j x) i)) := by
  congr 1
  funext i
  by_cases hij : i = j
  · subst hij
    simp [updV, am_vat, upd, am_rv]
  · simp [updV, am_vat, upd, hij]
theorem aw_iast {a N j : Nat} {i x : Int32} (hd : decode cc pc = .ok (.iastore, 1)) (hc : sh[a]? = some (100, N, [])) (hi : i = nI j) (hj : j < N) (hN : N < 2 ^ 31)
    (kk : am_W C cc (pc + 1) L S sh (am_up μ a (upd (μ a) j x)) k n) : am_W C cc pc L (.int x :: .int i :: .ref a :: S) sh μ k n := by
  intro p e s m args below meth c F H locs ls hR hl hL
  have kk := fun H locs hR hl => kk p e s m args below meth c F H locs ls hR hl hL
  obtain ⟨hx, hb, hml, hr, hlk, hown, hts, hX, hn⟩ := F
  rcases hR.2.2 a _ hc with ⟨h1, -⟩ | ⟨-, h2⟩
  · exact absurd h1 (by simp)
  · obtain ⟨g1, g2⟩ := am_idx hi hj hN
    refine W.iast hx hb h2 ((am_ty 0 rfl rfl hX).1 _ _) (fun q => by cases q) (by show ¬ (i < 0 ∨ (arrV _ _ _).slots.size ≤ _); rw [arrV_size]; exact g1) rfl rfl hd fun H1 e1 e2 e3 => ?_
    refine kk H1 _ (hR.sti hc e2 e3 (Or.inr ⟨Nat.le_refl _, ?_⟩)) ?_
    · rw [e1, g2]
      show some ((arrV _ _ _).setSlot _ _) = _
      rw [arrV_store, am_arr_up]
    · intro q hq
      rcases List.mem_append.mp hq with h | h
      · exact hl q h
      · rw [List.mem_singleton.mp h]
        exact Nat.le_add_right _ _
theorem aw_zast {a N j : Nat} {i x : Int32} (hd : decode cc pc = .ok (.bastore, 1)) (hc : sh[a]? = some (101, N, [])) (hi : i = nI j) (hj : j < N) (hN : N < 2 ^ 31) (hx1 : narrow .boolean (.int x) = .int x)
    (kk : am_W C cc (pc + 1) L S sh (am_up μ a (upd (μ a) j x)) k n) : am_W C cc pc L (.int x :: .int i :: .ref a :: S) sh μ k n := by
  intro p e s m args below meth c F H locs ls hR hl hL
  have kk := fun H locs hR hl => kk p e s m args below meth c F H locs ls hR hl hL
  obtain ⟨hx, hb, hml, hr, hlk, hown, hts, hX, hn⟩ := F
  rcases hR.2.2 a _ hc with ⟨h1, -⟩ | ⟨-, h2⟩
  · exact absurd h1 (by simp)
  · obtain ⟨g1, g2⟩ := am_idx hi hj hN
    refine W.zast hx hb h2 ((am_ty 1 rfl rfl hX).1 _ _) (fun q => by cases q) (by show ¬ (i < 0 ∨ (arrV _ _ _).slots.size ≤ _); rw [arrV_size]; exact g1) rfl rfl hd fun H1 e1 e2 e3 => ?_
    refine kk H1 _ (hR.sti hc e2 e3 (Or.inr ⟨Nat.le_succ _, ?_⟩)) ?_
    · rw [e1, g2, hx1]
      show some ((arrV _ _ _).setSlot _ _) = _
      rw [arrV_store, am_arr_up]
    · intro q hq
      rcases List.mem_append.mp hq with h | h
      · exact hl q h
      · rw [List.mem_singleton.mp h]
        exact Nat.le_add_right _ _
/-! ===== answers ===== -/
theorem aw_iret {ty : FieldType} {x : Int32} (hd : decode cc pc = .ok (.ireturn, 1)) (hr : C.2.2.2.2.1 = some ty) (hnar : narrow ty (.int x) = .int x) (hk : C.2.2.2.2.2.2.1 = k) (hn : C.2.2.2.2.2.2.2.1 = n) (hq : C.2.2.2.2.2.2.2.2 (some (.int x)) sh μ) : am_W C cc pc L [.int x] sh μ k n := by
  intro p e s m args below meth c F H locs ls hR hl hL
  obtain ⟨hx, hb, hml, hr2, hlk, hown, hts, hX, hnm⟩ := F
  subst hk
  subst hn
  exact W.zret hx hb (hr2.trans hr) hnar (fun t ht hW => ⟨some (.int x), sh, μ, rfl, hq, hX.warm hW, by rw [ht]; exact hR⟩) hl hd hlk
theorem aw_lret {x : Int64} (hd : decode cc pc = .ok (.lreturn, 1)) (hr : C.2.2.2.2.1 = some .long) (hk : C.2.2.2.2.2.2.1 = k) (hn : C.2.2.2.2.2.2.2.1 = n) (hq : C.2.2.2.2.2.2.2.2 (some (.long x)) sh μ) : am_W C cc pc L [.long x] sh μ k n := by
  intro p e s m args below meth c F H locs ls hR hl hL
  obtain ⟨hx, hb, hml, hr2, hlk, hown, hts, hX, hnm⟩ := F
  subst hk
  subst hn
  exact W.lret hx hb (hr2.trans hr) (fun t ht hW => ⟨some (.long x), sh, μ, rfl, hq, hX.warm hW, by rw [ht]; exact hR⟩) hl hd hlk
theorem aw_vret (hd : decode cc pc = .ok (.return_, 1)) (hr : C.2.2.2.2.1 = none) (hk : C.2.2.2.2.2.2.1 = k) (hn : C.2.2.2.2.2.2.2.1 = n) (hq : C.2.2.2.2.2.2.2.2 none sh μ) : am_W C cc pc L [] sh μ k n := by
  intro p e s m args below meth c F H locs ls hR hl hL
  obtain ⟨hx, hb, hml, hr2, hlk, hown, hts, hX, hnm⟩ := F
  subst hk
  subst hn
  exact W.vret hx hb (hr2.trans hr) (fun t ht hW => ⟨none, sh, μ, rfl, hq, hX.warm hW, by rw [ht]; exact hR⟩) hl hd hlk
end AH
end
section
/-! ===== calls ===== -/
/-- a method's link, its code, how many parameters -/
def am_ml (own : String) (idx : Nat) (y : MethodName) (cc : ByteArray) (nL : Nat) (ret : Option FieldType) (np : Nat) : Prop :=
  Cond.methodLink own idx y ∈ am_TB ∧ Cond.initialized y.cls ∈ am_TB ∧ Cond.code y cc nL ret ∈ am_TB ∧ y.cls ≠ "java/lang/invoke/MethodHandle" ∧ y.cls ≠ "java/lang/invoke/VarHandle" ∧ (parseMethodDescriptor y.desc).map (fun d => d.parameters.length) = some np ∧ nL ≤ 81
theorem am_blind {G : am_G} {As : List Value} {sh : List am_S} {μ : am_M} : FrameBlind (va_Pc As (fun U => am_X G U ∧ am_R G sh μ U.heap)) := fun a U g mk q => ⟨q.1, am_X.same (u := U) (U := U.calling g mk a) rfl q.2.1, q.2.2⟩
section AC
variable {C : am_C} {cc : ByteArray} {pc : Nat} {L : am_L} {S rest : List Value} {sh : List am_S} {μ : am_M} {k n : Nat}
/-- behind a call -/
theorem am_after {mc ms : Nat} {Q' : Option Value → List am_S → am_M → Prop} {p : Program} {e : Env} {s : State} {m : MethodId} {args a : Array Value} {below : List Frame} {meth : Method} {c : Code} (F : am_F C cc p s m args meth c) {H : Heap} {locs : List Loc} {ls : Array Slot} (hl : ∀ q ∈ locs, C.1.2.2.1.size ≤ q.base) (hL : lv_has ls C.2.2.2.1 (am_pl C.1.2.2.1.size L)) {st0 : List Value}
    (hrun : va_Run p C.1.2.2.2 e C.2.2.2.2.2.1 s m args below meth c H locs k n mc ms (F0 m pc ls st0) (rest.map (am_rv C.1.2.2.1.size)) (am_Q C.1 Q' a) (fun q => C.1.2.2.1.size ≤ q)) (kk : ∀ v sh' μ', Q' v sh' μ' → am_W C cc (pc + 3) L (v.toList ++ rest) sh' μ' (k + mc) (n + ms)) :
    W p C.1.2.2.2 e C.2.2.2.2.2.1 s m args below meth c H locs k n (MQ below (am_Q C.1 C.2.2.2.2.2.2.2.2) args s C.2.2.2.2.2.2.1 C.2.2.2.2.2.2.2.1 (fun q => C.1.2.2.1.size ≤ q)) (F0 m pc ls st0) := by
  intro T hT X
  obtain ⟨v, st₀, t, T', L', h0, X', hL', e1, e2, ⟨v0, sh', μ', hv, hq, hX', hR'⟩, st⟩ := hrun T hT X
  cases hv
  obtain ⟨t2, a1, b1⟩ := kk v0 sh' μ' hq p e s m args below meth c F T'.heap (locs ++ L') ls (by rw [e1]; exact hR') (fun q hq => (List.mem_append.mp hq).elim (hl q) (hL' q)) hL T' rfl X'
  refine ⟨t2, st t2 ?_, b1⟩
  cases v0 <;> exact a1
theorem am_rev {b : Nat} {As : List Value} (h : S = As.reverse ++ rest) : S.map (am_rv b) = (As.map (am_rv b)).reverse ++ rest.map (am_rv b) := by rw [h]; simp
theorem am_cat {b : Nat} (h : (rest.map fun v => v.category).sum ≤ 8) : ((rest.map (am_rv b)).map fun v => v.category).sum ≤ 8 := by
  have : (rest.map (am_rv b)).map (fun v => v.category) = rest.map fun v => v.category := by simp [Function.comp_def, am_rv_cat]
  rw [this]; exact h
theorem aw_cs {idx nL' np d' mc ms : Nat} {y : MethodName} {cc' : ByteArray} {ret' : Option FieldType} {As : List Value} {Q' : Option Value → List am_S → am_M → Prop} (hd : decode cc pc = .ok (.invokestatic idx, 3)) (hm : am_ml C.2.1 idx y cc' nL' ret' np) (hst : Cond.static y ∈ am_TB) (hM : am_MA C.1 y cc' nL' ret' d' mc ms As sh μ Q')
    (hS : S = As.reverse ++ rest) (hn : As.length = np) (hw : (rest.map fun v => v.category).sum ≤ 8) (hfr : d' + 1 ≤ C.2.2.2.2.2.1.frames) (hlo : 100 * d' + 100 ≤ C.2.2.2.2.2.1.locals) (hcl : k + mc ≤ C.2.2.2.2.2.1.cells ∧ n + ms ≤ C.2.2.2.2.2.1.slots)
    (kk : ∀ v sh' μ', Q' v sh' μ' → am_W C cc (pc + 3) L (v.toList ++ rest) sh' μ' (k + mc) (n + ms)) : am_W C cc pc L S sh μ k n := by
  intro p e s m args below meth c F H locs ls hR hl hL
  refine am_after F hl hL (a := (As.map (am_rv C.1.2.2.1.size)).toArray) ?_ kk
  obtain ⟨hx, hb, hml, hr, hlk, hown, hts, hX, hnm⟩ := F
  obtain ⟨m1, m2, m3, m4, m5, m6, m7⟩ := hm
  exact va_runS (As := As.map (am_rv C.1.2.2.1.size)) ⟨hx, hb, hml, hown, hts⟩ hM ⟨callB_of np hts (am_goodIn m3) rfl rfl rfl (hts _ m2) (hts _ m1) ⟨m4, m5, m6⟩ ⟨hfr, by show 8 + (nL' + 11) + 100 * d' ≤ _; omega⟩, hts _ hst⟩ ⟨am_blind, fun U hU hW => ⟨rfl, hX.warm hW, by rw [hU]; exact hR⟩⟩ rfl (by rw [List.length_map]; exact hn) hL.1 (am_rev hS) (by show 2 * 0 + _ ≤ 8; have := am_cat (b := C.1.2.2.1.size) hw; omega) hd hcl
/-- of an object: a method that its class has -/
theorem aw_cv {idx nL' np d' mc ms a ci N : Nat} {rs : List (Option Value)} {r : vw_C} {y : MethodName} {cc' : ByteArray} {ret' : Option FieldType} {As : List Value} {Q' : Option Value → List am_S → am_M → Prop} (hd : decode cc pc = .ok (.invokevirtual idx, 3)) (hm : am_ml C.2.1 idx y cc' nL' ret' np) (hin : Cond.instanceMethod y ∈ am_TB) (hse : Cond.selects y.cls y y ∈ am_TB) (hM : am_MA C.1 y cc' nL' ret' d' mc ms (.ref a :: As) sh μ Q')
    (hc : sh[a]? = some (ci, N, rs)) (h100 : ci < 100) (hcl2 : vwCl[ci]? = some r) (hcn : r.1 = y.cls)
    (hS : S = As.reverse ++ .ref a :: rest) (hn : As.length = np) (hw : (rest.map fun v => v.category).sum ≤ 8) (hfr : d' + 1 ≤ C.2.2.2.2.2.1.frames) (hlo : 100 * d' + 100 ≤ C.2.2.2.2.2.1.locals) (hcl : k + mc ≤ C.2.2.2.2.2.1.cells ∧ n + ms ≤ C.2.2.2.2.2.1.slots)
    (kk : ∀ v sh' μ', Q' v sh' μ' → am_W C cc (pc + 3) L (v.toList ++ rest) sh' μ' (k + mc) (n + ms)) : am_W C cc pc L S sh μ k n := by
  intro p e s m args below meth c F H locs ls hR hl hL
  refine am_after F hl hL (a := (Value.ref (C.1.2.2.1.size + a) :: As.map (am_rv C.1.2.2.1.size)).toArray) ?_ kk
  obtain ⟨hx, hb, hml, hr, hlk, hown, hts, hX, hnm⟩ := F
  obtain ⟨m1, m2, m3, m4, m5, m6, m7⟩ := hm
  have hrecv : ∃ cell : Cell, H[C.1.2.2.1.size + a]? = some cell ∧ cell.vm.isStatics = false ∧ s.vm.findClass y.cls = some cell.cls := by
    rcases hR.2.2 a _ hc with ⟨-, r', hr', cell, q1, q2, q3, q4⟩ | ⟨hge, -⟩
    · have e : r' = r := Option.some.inj (hr'.symm.trans hcl2)
      subst e
      exact ⟨cell, q1, by rw [q3]; rfl, by rw [q2, ← hcn]; exact (hX.1.1 ci r' hcl2).2.1⟩
    · exact absurd hge (by simp; omega)
  exact va_runV (C := y.cls) (b := C.1.2.2.1.size + a) (As := As.map (am_rv C.1.2.2.1.size)) ⟨hx, hb, hml, hown, hts⟩ hM ⟨callB_of np hts (am_goodIn m3) rfl rfl rfl (hts _ m2) (hts _ m1) ⟨m4, m5, m6⟩ ⟨hfr, by show 8 + (nL' + 11) + 100 * d' ≤ _; omega⟩, hts _ hin, hts _ hse⟩ ⟨am_blind, hrecv, fun U hU hW => ⟨rfl, hX.warm hW, by rw [hU]; exact hR⟩⟩ rfl (by rw [List.length_map]; exact hn) hL.1 (by show S.map _ = _; rw [hS]; simp [am_rv]) (by show 2 * 0 + _ ≤ 8; have := am_cat (b := C.1.2.2.1.size) hw; omega) hd hcl
/-- a constructor -/
theorem aw_ci {idx nL' np d' mc ms a : Nat} {y : MethodName} {cc' : ByteArray} {As : List Value} {Q' : Option Value → List am_S → am_M → Prop} (hd : decode cc pc = .ok (.invokespecial idx, 3)) (hm : am_ml C.2.1 idx y cc' nL' none np) (hin : Cond.instanceMethod y ∈ am_TB) (hy : y.name = "<init>") (hM : am_MA C.1 y cc' nL' none d' mc ms (.ref a :: As) sh μ Q')
    (hS : S = As.reverse ++ .ref a :: rest) (hn : As.length = np) (hw : (rest.map fun v => v.category).sum ≤ 8) (hfr : d' + 1 ≤ C.2.2.2.2.2.1.frames) (hlo : 100 * d' + 100 ≤ C.2.2.2.2.2.1.locals) (hcl : k + mc ≤ C.2.2.2.2.2.1.cells ∧ n + ms ≤ C.2.2.2.2.2.1.slots)
    (kk : ∀ v sh' μ', Q' v sh' μ' → am_W C cc (pc + 3) L (v.toList ++ rest) sh' μ' (k + mc) (n + ms)) : am_W C cc pc L S sh μ k n := by
  intro p e s m args below meth c F H locs ls hR hl hL
  refine am_after F hl hL (a := (Value.ref (C.1.2.2.1.size + a) :: As.map (am_rv C.1.2.2.1.size)).toArray) ?_ kk
  obtain ⟨hx, hb, hml, hr, hlk, hown, hts, hX, hnm⟩ := F
  obtain ⟨m1, m2, m3, m4, m5, m6, m7⟩ := hm
  exact va_runI (b := C.1.2.2.1.size + a) (As := As.map (am_rv C.1.2.2.1.size)) ⟨hx, hb, hml, hown, hts⟩ hM ⟨callB_of np hts (am_goodIn m3) rfl rfl rfl (hts _ m2) (hts _ m1) ⟨m4, m5, m6⟩ ⟨hfr, by show 8 + (nL' + 11) + 100 * d' ≤ _; omega⟩, hy, hts _ hin⟩ ⟨am_blind, fun U hU hW => ⟨rfl, hX.warm hW, by rw [hU]; exact hR⟩⟩ rfl (by rw [List.length_map]; exact hn) hL.1 (by show S.map _ = _; rw [hS]; simp [am_rv]) (by show 2 * 0 + _ ≤ 8; have := am_cat (b := C.1.2.2.1.size) hw; omega) hd hcl
/-- a nest mate's private constructor -/
theorem aw_cn {idx nL' np d' mc ms a : Nat} {host : String} {y : MethodName} {cc' : ByteArray} {As : List Value} {Q' : Option Value → List am_S → am_M → Prop} (hd : decode cc pc = .ok (.invokespecial idx, 3)) (hq : (C.2.1, idx, y, host) ∈ am_nest) (hin : Cond.instanceMethod y ∈ am_TB) (hini : Cond.initialized y.cls ∈ am_TB) (hcode : Cond.code y cc' nL' none ∈ am_TB) (hy1 : y.cls ≠ "java/lang/invoke/MethodHandle" ∧ y.cls ≠ "java/lang/invoke/VarHandle" ∧ (parseMethodDescriptor y.desc).map (fun d => d.parameters.length) = some np) (h81 : nL' ≤ 81) (hy : y.name = "<init>") (hM : am_MA C.1 y cc' nL' none d' mc ms (.ref a :: As) sh μ Q')
    (hS : S = As.reverse ++ .ref a :: rest) (hn : As.length = np) (hw : (rest.map fun v => v.category).sum ≤ 8) (hfr : d' + 1 ≤ C.2.2.2.2.2.1.frames) (hlo : 100 * d' + 100 ≤ C.2.2.2.2.2.1.locals) (hcl : k + mc ≤ C.2.2.2.2.2.1.cells ∧ n + ms ≤ C.2.2.2.2.2.1.slots)
    (kk : ∀ v sh' μ', Q' v sh' μ' → am_W C cc (pc + 3) L (v.toList ++ rest) sh' μ' (k + mc) (n + ms)) : am_W C cc pc L S sh μ k n := by
  intro p e s m args below meth c F H locs ls hR hl hL
  refine am_after F hl hL (a := (Value.ref (C.1.2.2.1.size + a) :: As.map (am_rv C.1.2.2.1.size)).toArray) ?_ kk
  obtain ⟨hx, hb, hml, hr, hlk, hown, hts, hX, hnm⟩ := F
  exact va_runIN (host := host) (b := C.1.2.2.1.size + a) (As := As.map (am_rv C.1.2.2.1.size)) ⟨hx, hb, hml, hown, hts⟩ hM ⟨va_cnB np hts (am_goodIn hcode) rfl rfl rfl (hX.2.1 _ hq) (hts _ hini) hy1 ⟨hfr, by show 8 + (nL' + 11) + 100 * d' ≤ _; omega⟩, hy, hts _ hin⟩ ⟨am_blind, fun U hU hW => ⟨rfl, hX.warm hW, by rw [hU]; exact hR⟩⟩ rfl (by rw [List.length_map]; exact hn) hL.1 (by show S.map _ = _; rw [hS]; simp [am_rv]) (by show 2 * 0 + _ ≤ 8; have := am_cat (b := C.1.2.2.1.size) hw; omega) hd hcl
/-- Object's own constructor -/
theorem aw_obj {a idx : Nat} (hd : decode cc pc = .ok (.invokespecial idx, 3)) (hl1 : Cond.methodLink C.2.1 idx objectInit ∈ am_TB) (hl2 : Cond.instanceMethod objectInit ∈ am_TB) (hl3 : Cond.code objectInit ⟨#[0xb1]⟩ 1 none ∈ am_TB) (hfr : 1 ≤ C.2.2.2.2.2.1.frames) (hlo : 100 ≤ C.2.2.2.2.2.1.locals) (hw : ((S.map (am_rv C.1.2.2.1.size)).map fun v => v.category).sum ≤ 8)
    (kk : am_W C cc (pc + 3) L S sh μ k n) : am_W C cc pc L (.ref a :: S) sh μ k n := by
  intro p e s m args below meth c F H locs ls hR hl hL
  have kk := kk p e s m args below meth c F H locs ls hR hl hL
  obtain ⟨hx, hb, hml, hr, hlk, hown, hts, hX, hnm⟩ := F
  exact W.objInit hx hb hown (hts _ hl1) (hts _ hl2) (hts _ hl3) rfl (hL.1.trans hml.symm) rfl hd hfr (by show 2 * 0 + _ + 12 ≤ _; omega) kk
end AC
end
section
section AD
variable {C : am_C} {cc : ByteArray} {pc : Nat} {L : am_L} {S : List Value} {sh : List am_S} {μ : am_M} {k n : Nat}
theorem aw_max {idx : Nat} {x y : Int32} (hd : decode cc pc = .ok (.invokestatic idx, 3)) (hl1 : Cond.methodLink C.2.1 idx Lib.Math.max.name ∈ am_TB) (hl2 : Cond.static Lib.Math.max.name ∈ am_TB) (hl3 : Cond.initialized "java/lang/Math" ∈ am_TB) (hl4 : Cond.code Lib.Math.max.name Lib.Math.max.code 2 (some .int) ∈ am_TB) (hfr : 1 ≤ C.2.2.2.2.2.1.frames) (hlo : 100 ≤ C.2.2.2.2.2.1.locals) (hw : (S.map fun v => v.category).sum ≤ 8) (hk : k ≤ C.2.2.2.2.2.1.cells) (hn : n ≤ C.2.2.2.2.2.1.slots)
    (kk : am_W C cc (pc + 3) L (.int (if x < y then y else x) :: S) sh μ k n) : am_W C cc pc L (.int y :: .int x :: S) sh μ k n := by
  intro p e s m args below meth c F H locs ls hR hl hL
  have kk := kk p e s m args below meth c F H locs ls hR hl hL
  obtain ⟨hx, hb, hml, hr, hlk, hown, hts, hX, hnm⟩ := F
  exact va_mmax hx hb (hml.trans hL.1.symm) hown (hts _ hl1) (hts _ hl2) (hts _ hl3) (hts _ hl4) hfr (by have := am_cat (b := C.1.2.2.1.size) hw; omega) hk hn hd kk
theorem aw_min {idx : Nat} {x y : Int32} (hd : decode cc pc = .ok (.invokestatic idx, 3)) (hl1 : Cond.methodLink C.2.1 idx Lib.Math.min.name ∈ am_TB) (hl2 : Cond.static Lib.Math.min.name ∈ am_TB) (hl3 : Cond.initialized "java/lang/Math" ∈ am_TB) (hl4 : Cond.code Lib.Math.min.name Lib.Math.min.code 2 (some .int) ∈ am_TB) (hfr : 1 ≤ C.2.2.2.2.2.1.frames) (hlo : 100 ≤ C.2.2.2.2.2.1.locals) (hw : (S.map fun v => v.category).sum ≤ 8) (hk : k ≤ C.2.2.2.2.2.1.cells) (hn : n ≤ C.2.2.2.2.2.1.slots)
    (kk : am_W C cc (pc + 3) L (.int (if y < x then y else x) :: S) sh μ k n) : am_W C cc pc L (.int y :: .int x :: S) sh μ k n := by
  intro p e s m args below meth c F H locs ls hR hl hL
  have kk := kk p e s m args below meth c F H locs ls hR hl hL
  obtain ⟨hx, hb, hml, hr, hlk, hown, hts, hX, hnm⟩ := F
  exact va_mmin hx hb (hml.trans hL.1.symm) hown (hts _ hl1) (hts _ hl2) (hts _ hl3) (hts _ hl4) hfr (by have := am_cat (b := C.1.2.2.1.size) hw; omega) hk hn hd kk
/-- System.arraycopy of ints -/
theorem aw_copy {idx a0 a1 n0 n1 sp dp N : Nat} {isp idp iN : Int32} (hd : decode cc pc = .ok (.invokestatic idx, 3)) (hl1 : Cond.methodLink C.2.1 idx arraycopyName ∈ am_TB) (hl2 : Cond.native arraycopyName ∈ am_TB) (hl3 : Cond.static arraycopyName ∈ am_TB) (hl4 : Cond.initialized "java/lang/System" ∈ am_TB) (hfr : 1 ≤ C.2.2.2.2.2.1.frames) (hlo : 100 ≤ C.2.2.2.2.2.1.locals) (hw : (S.map fun v => v.category).sum ≤ 8)
    (hc0 : sh[a0]? = some (100, n0, [])) (hc1 : sh[a1]? = some (100, n1, [])) (e1 : isp = nI sp) (e2 : idp = nI dp) (e3 : iN = nI N) (h0 : sp + N ≤ n0) (h1 : dp + N ≤ n1) (hn0 : n0 < 2 ^ 31) (hn1 : n1 < 2 ^ 31)
    (kk : am_W C cc (pc + 3) L S sh (am_up μ a1 (va_cpy (μ a0) (μ a1) sp dp N)) k n) : am_W C cc pc L (.int iN :: .int idp :: .ref a1 :: .int isp :: .ref a0 :: S) sh μ k n := by
  intro p e s m args below meth c F H locs ls hR hl hL
  have kk := fun H locs hR hl => kk p e s m args below meth c F H locs ls hR hl hL
  obtain ⟨hx, hb, hml, hr, hlk, hown, hts, hX, hnm⟩ := F
  subst e1; subst e2; subst e3
  have q0 : H[C.1.2.2.1.size + a0]? = some (arrV (C.1.2.1 100) n0 (fun j => .int (μ a0 j))) := by
    rcases hR.2.2 a0 _ hc0 with ⟨h1, -⟩ | ⟨-, h2⟩
    · exact absurd h1 (by simp)
    · exact h2
  have q1 : H[C.1.2.2.1.size + a1]? = some (arrV (C.1.2.1 100) n1 (fun j => .int (μ a1 j))) := by
    rcases hR.2.2 a1 _ hc1 with ⟨h1, -⟩ | ⟨-, h2⟩
    · exact absurd h1 (by simp)
    · exact h2
  have hAr := (am_ty 0 rfl rfl hX).1
  have csp : (nI sp).toNatClampNeg = sp := nI_clamp (by omega)
  have cdp : (nI dp).toNatClampNeg = dp := nI_clamp (by omega)
  have cN : (nI N).toNatClampNeg = N := nI_clamp (by omega)
  have h5 : nativeFrameWords "java/lang/System" "arraycopy" 5 ≤ 60 := by decide +kernel
  intro T hT X
  obtain ⟨-, k0, hk0, cm0, hkk0⟩ := hAr n0 (fun j => .int (μ a0 j))
  obtain ⟨-, k1, hk1, cm1, hkk1⟩ := hAr n1 (fun j => .int (μ a1 j))
  obtain ⟨vm', X', step⟩ := X.arraycopy hx hown (hts _ hl1) (hts _ hl2) (hts _ hl3) (hts _ hl4) (src := C.1.2.2.1.size + a0) (dst := C.1.2.2.1.size + a1) (cs := arrV (C.1.2.1 100) n0 (fun j => .int (μ a0 j))) (cd := arrV (C.1.2.1 100) n1 (fun j => .int (μ a1 j))) (srcPos := nI sp) (destPos := nI dp) (n := nI N) (by rw [hT]; exact q0) (by rw [hT]; exact q1)
    (fun _ h => by cases h) (fun _ h => by cases h) (fun h => by cases h) (fun h => by cases h) hk0 hk1 hkk0 hkk1 (by simp [refKind]) (nI_pos (by omega)) (nI_pos (by omega)) (nI_pos (by omega))
    (by rw [nI_toInt (by omega), nI_toInt (by omega), arrV_size]; omega)
    (by rw [nI_toInt (by omega), nI_toInt (by omega), arrV_size]; omega)
    (fun vm₁ _ i hi => by
      rw [cN] at hi
      have e : (arrV (C.1.2.1 100) n0 (fun j => .int (μ a0 j))).slots.getD ((nI sp).toNatClampNeg + i) .null = .int (μ a0 (sp + i)) := by
        rw [csp, Array.getD_eq_getD_getElem?, arrV_read _ _ (by omega)]
        rfl
      refine ⟨?_, ?_⟩
      · rw [e]
        rfl
      · rw [e]
        exact trivial)
    (g := F0 m pc ls (.int (nI N) :: .int (nI dp) :: .ref (C.1.2.2.1.size + a1) :: .int (nI sp) :: .ref (C.1.2.2.1.size + a0) :: S.map (am_rv C.1.2.2.1.size))) rfl (by rw [hml]; exact hL.1) (rest := S.map (am_rv C.1.2.2.1.size)) rfl (by rw [hb]; exact hd) hfr (by show 2 * 0 + _ + _ ≤ _; have := am_cat (b := C.1.2.2.1.size) hw; omega)
  have e1 : copied (arrV (C.1.2.1 100) n0 (fun j => .int (μ a0 j))) (arrV (C.1.2.1 100) n1 (fun j => .int (μ a1 j))) (nI sp) (nI dp) (nI N) = arrV (C.1.2.1 100) n1 (fun j => .int (va_cpy (μ a0) (μ a1) sp dp N j)) := by
    have := va_copied (fun z => Value.int z) (C.1.2.1 100) (C.1.2.1 100) (n0 := n0) (n1 := n1) (sp := (nI sp).toNatClampNeg) (dp := (nI dp).toNatClampNeg) (n := (nI N).toNatClampNeg) (μ a0) (μ a1) (by rw [csp, cN]; exact h0)
    rw [csp, cdp, cN] at this
    rw [← this]
    simp only [copied, csp, cdp, cN]
  rw [e1] at X' step
  have hlt : C.1.2.2.1.size + a1 < H.size := (Array.getElem?_eq_some_iff.mp q1).1
  obtain ⟨t, b1, b2⟩ := kk (H.setIfInBounds (C.1.2.2.1.size + a1) (arrV (C.1.2.1 100) n1 (fun j => .int (va_cpy (μ a0) (μ a1) sp dp N j)))) _ (hR.sti hc1 (by simp) (fun q hq => by simp [Array.getElem?_setIfInBounds, Ne.symm hq]) (Or.inr ⟨Nat.le_refl _, by simp [Array.getElem?_setIfInBounds, hlt]; rfl⟩)) (fun q hq => by
      rcases List.mem_append.mp hq with h | h
      · exact hl q h
      · obtain ⟨z, -, hz⟩ := List.mem_map.mp h
        rw [← hz]
        exact Nat.le_add_right _ _) _ (by rw [← hT]; rfl) X'
  exact ⟨t, step t b1, b2⟩
/-- an item of one of the class's constant rows -/
theorem aw_sta {idx j jl : Nat} {fk : Fin 4} {own nm : String} {vs : List Int32} {i : Int32} (d1 : decode cc pc = .ok (.getstatic idx, 3)) (d2 : decode cc (pc + 3) = .ok (.iload_n fk, 1)) (d3 : decode cc (pc + 3 + 1) = .ok (.iaload, 1)) (hq : (own, nm, vs) ∈ am_stat) (hlk : Cond.fieldLink C.2.1 idx own nm "[I" ∈ am_TB) (hfk : (fk : Nat) = jl) (hg : am_gl L jl = some (.int i)) (hi : i = nI j) (hj : j < 6)
    (kk : am_W C cc (pc + 3 + 1 + 1) L (.int (vs.getD j 0) :: S) sh μ k n) : am_W C cc pc L S sh μ k n := by
  intro p e s m args below meth c F H locs ls hR hl hL
  have kk := kk p e s m args below meth c F H locs ls hR hl hL
  obtain ⟨hx, hb, hml, hr, hlk2, hown, hts, hX, hnm⟩ := F
  obtain ⟨t, hZ, cell, g1, g2, g3, g4, g5, g6, g7⟩ := hX.2.2.2 _ hq
  obtain ⟨cf, kf, fi, f, a, cell2, z1, z2, z3, z4, z5, z6, z7, z8⟩ := hZ
  refine W.gets hx hb hown (hts _ hlk) z1 z2 z3 z4 (by rw [hR.2.1 a (by simpa using z8)]; exact z5) (fun e => by rw [e] at z6; cases z6) z7 rfl d1 ?_
  subst hfk
  refine lv_iload_n hx hb d2 rfl (hL.2.2 _ (am_pl_mem hg)) ?_
  obtain ⟨o1, o2⟩ := am_idx hi (show j < 6 from hj) (by omega)
  have ht : t < C.1.2.2.1.size := by simpa using g7
  refine W.iald (v := .int (vs.getD j 0)) hx hb (a := t) (by rw [hR.2.1 t ht]; exact g1) g2 g3 ?_ (by rw [o2]; exact g6 j hj) rfl rfl d3 kk
  intro q
  rcases q with q | q
  · exact o1 (Or.inl q)
  · rw [o2] at q
    omega
/-! ===== what constructors make ===== -/
theorem aw_newi {N : Nat} {i : Int32} (hd : decode cc pc = .ok (.newarray .int, 2)) (hw : Cond.arrayClass .int ∈ am_TB) (hi : i = nI N) (hN : N < 100000) (hk : k + 1 ≤ C.2.2.2.2.2.1.cells) (hn : n + N ≤ C.2.2.2.2.2.1.slots)
    (kk : am_W C cc (pc + 2) L (.ref sh.length :: S) (sh ++ [(100, N, [])]) (am_up μ sh.length (fun _ => 0)) (k + 1) (n + N)) : am_W C cc pc L (.int i :: S) sh μ k n := by
  intro p e s m args below meth c F H locs ls hR hl hL
  have kk := fun H hR => kk p e s m args below meth c F H locs ls hR hl hL
  obtain ⟨hx, hb, hml, hr, hlk, hown, hts, hX, hnm⟩ := F
  subst hi
  refine va_newaK hx hb (atype := .int) (hts _ hw) rfl hd rfl (nI_pos (by omega)) (nI_clamp (by omega)) (by show N * 4 ≤ _; omega) hk hn hR.1 fun H1 cA e1 z1 o1 hAr hNm => ?_
  have hc : cA = C.1.2.1 100 := Option.some.inj (hNm.symm.trans (am_ty 0 rfl rfl hX).2)
  subst hc
  exact kk H1 (hR.push (by rw [z1, hR.1]) (fun q hq => o1 q (by rw [← hR.1]; exact hq)) (Or.inr ⟨Nat.le_refl _, by rw [hR.1, e1]; rfl⟩))
theorem aw_newz {N : Nat} {i : Int32} (hd : decode cc pc = .ok (.newarray .boolean, 2)) (hw : Cond.arrayClass .boolean ∈ am_TB) (hi : i = nI N) (hN : N < 100000) (hk : k + 1 ≤ C.2.2.2.2.2.1.cells) (hn : n + N ≤ C.2.2.2.2.2.1.slots)
    (kk : am_W C cc (pc + 2) L (.ref sh.length :: S) (sh ++ [(101, N, [])]) (am_up μ sh.length (fun _ => 0)) (k + 1) (n + N)) : am_W C cc pc L (.int i :: S) sh μ k n := by
  intro p e s m args below meth c F H locs ls hR hl hL
  have kk := fun H hR => kk p e s m args below meth c F H locs ls hR hl hL
  obtain ⟨hx, hb, hml, hr, hlk, hown, hts, hX, hnm⟩ := F
  subst hi
  refine va_newaK hx hb (atype := .boolean) (hts _ hw) rfl hd rfl (nI_pos (by omega)) (nI_clamp (by omega)) (by show N * 1 ≤ _; omega) hk hn hR.1 fun H1 cA e1 z1 o1 hAr hNm => ?_
  have hc : cA = C.1.2.1 101 := Option.some.inj (hNm.symm.trans (am_ty 1 rfl rfl hX).2)
  subst hc
  exact kk H1 (hR.push (by rw [z1, hR.1]) (fun q hq => o1 q (by rw [← hR.1]; exact hq)) (Or.inr ⟨Nat.le_succ _, by rw [hR.1, e1]; rfl⟩))
/-- new T[N] of objects: all null -/
theorem aw_newr {N idx t : Nat} {i : Int32} {Cn : String} (hd : decode cc pc = .ok (.anewarray idx, 3)) (hcl : Cond.classLink C.2.1 idx Cn ∈ am_TB) (ht : (t = 2 ∧ Cn = RX4) ∨ (t = 3 ∧ Cn = RX5)) (hi : i = nI N) (hN : N < 100000) (hk : k + 1 ≤ C.2.2.2.2.2.1.cells) (hn : n + N ≤ C.2.2.2.2.2.1.slots)
    (kk : am_W C cc (pc + 3) L (.ref sh.length :: S) (sh ++ [(100 + t, N, List.replicate N (some .null))]) (am_up μ sh.length (fun _ => 0)) (k + 1) (n + N)) : am_W C cc pc L (.int i :: S) sh μ k n := by
  intro p e s m args below meth c F H locs ls hR hl hL
  have kk := fun H hR => kk p e s m args below meth c F H locs ls hR hl hL
  obtain ⟨hx, hb, hml, hr, hlk, hown, hts, hX, hnm⟩ := F
  subst hi
  have cN : (nI N).toNatClampNeg = N := nI_clamp (by omega)
  have hAO : va_AO Cn s := by
    rcases ht with ⟨-, rfl⟩ | ⟨-, rfl⟩
    · exact hX.2.2.1.1
    · exact hX.2.2.1.2.1
  refine W.anew hx hb hown (hts _ hcl) hAO.use rfl hd rfl (nI_pos (by omega)) (by rw [cN]; omega) hk (by rw [cN]; exact hn) fun cA kA comp f1 f2 f3 f4 => ?_
  have hc : cA = C.1.2.1 (100 + t) := by
    rcases ht with ⟨rfl, rfl⟩ | ⟨rfl, rfl⟩
    · obtain ⟨-, -, -, -, -, h5⟩ := (am_ty 2 rfl rfl hX).2
      exact Option.some.inj (f1.symm.trans h5)
    · obtain ⟨-, -, -, -, -, h5⟩ := (am_ty 3 rfl rfl hX).2
      exact Option.some.inj (f1.symm.trans h5)
  subst hc
  rw [cN]
  have h9 := kk (H.push { cls := C.1.2.1 (100 + t), slots := Array.replicate N .null, vm := .none }) (hR.push (by simp) (fun q hq => by rw [Array.getElem?_push, if_neg (Nat.ne_of_lt hq)]) (Or.inr ⟨Nat.le_add_right _ _, by
    rw [Array.getElem?_push, if_pos rfl, arrV_new]
    congr 1
    unfold arrV
    congr 1
    apply Array.ext
    · simp
    · intro q h1 h2
      simp at h1
      simp [am_vat, h1, am_rv]⟩))
  rw [hR.1]
  exact h9
/-- an object in an array of its class -/
theorem aw_aast {a b N j t ci N2 : Nat} {i : Int32} {rs rs2 : List (Option Value)} {r : vw_C} {w : Option Value} (hd : decode cc pc = .ok (.aastore, 1)) (hc : sh[a]? = some (100 + t, N, rs)) (hb2 : sh[b]? = some (ci, N2, rs2)) (h100 : ci < 100) (hcl : vwCl[ci]? = some r) (ht : (t = 2 ∧ r.1 = RX4) ∨ (t = 3 ∧ r.1 = RX5)) (hi : i = nI j) (hj : j < N) (hN : N < 2 ^ 31) (hv : rs[j]? = some w)
    (kk : am_W C cc (pc + 1) L S (sh.set a (100 + t, N, rs.set j (some (.ref b)))) μ k n) : am_W C cc pc L (.ref b :: .int i :: .ref a :: S) sh μ k n := by
  intro p e s m args below meth c F H locs ls hR hl hL
  have kk := fun H locs hR hl => kk p e s m args below meth c F H locs ls hR hl hL
  obtain ⟨hx, hb, hml, hr, hlk, hown, hts, hX, hnm⟩ := F
  obtain ⟨g1, g2⟩ := am_idx hi hj hN
  have hA : H[C.1.2.2.1.size + a]? = some (arrV (C.1.2.1 (100 + t)) N (fun j => am_rv C.1.2.2.1.size (am_vat (100 + t, N, rs) (μ a) j))) := by
    rcases hR.2.2 a _ hc with ⟨h1, -⟩ | ⟨-, h2⟩
    · exact absurd h1 (by simp)
    · exact h2
  rcases hR.2.2 b _ hb2 with ⟨-, r', hr', cell, q1, q2, q3, q4⟩ | ⟨hge, -⟩
  · have e : r' = r := Option.some.inj (hr'.symm.trans hcl)
    subst e
    have hcls := (hX.1.1 ci r' hcl).2
    have key : va_RA s (C.1.2.1 (100 + t)) (.object r'.1) := by
      rcases ht with ⟨rfl, h⟩ | ⟨rfl, h⟩
      · rw [h]; exact (am_ty 2 rfl rfl hX).2
      · rw [h]; exact (am_ty 3 rfl rfl hX).2
    obtain ⟨kA, comp, k1, k2, k3, -⟩ := key
    have hcomp : comp = C.1.1.1 ci := Option.some.inj (k3.symm.trans hcls.1)
    subst hcomp
    have hcls2 := hcls
    obtain ⟨kC, hkC, -⟩ := hcls.2
    refine W.aast hx hb hA (fun q h => by cases h) (fun h => by cases h) k1 k2 rfl hkC ⟨fun q => g1 (Or.inl q), by rw [g2, arrV_size]; exact hj⟩ q1 (fun q h => by rw [q3] at h; cases h) (by rw [q2]; exact hkC) (by rw [q2]; exact va_assign hcls2) rfl rfl hd fun H1 e1 e2 e3 => ?_
    have h7 := hR.st (f := μ a) (c' := (100 + t, N, rs.set j (some (.ref b)))) hc e2 e3 (Or.inr ⟨Nat.le_add_right _ _, ?_⟩)
    · have h8 : am_up μ a (μ a) = μ := by
        funext z
        by_cases hz : z = a
        · subst hz; rw [am_up_s]
        · rw [am_up_n hz]
      rw [h8] at h7
      refine kk H1 _ h7 ?_
      intro q hq
      rcases List.mem_append.mp hq with h | h
      · exact hl q h
      · rw [List.mem_singleton.mp h]
        exact Nat.le_add_right _ _
    · rw [e1, g2]
      show some ((arrV _ _ _).setSlot _ _) = _
      rw [arrV_store]
      congr 2
      funext q
      have hjl : j < rs.length := (List.getElem?_eq_some_iff.mp hv).1
      by_cases hq : q = j
      · subst hq
        simp [updV, am_vat, am_rv, hjl]
      · simp only [updV, hq, if_false]
        simp [am_vat, List.getElem?_set_ne (Ne.symm hq)]
  · exact absurd hge (by simp; omega)
/-- what 'new' of a class needs -/
def am_nw (own : String) (idx ci N : Nat) (rs : List (Option Value)) : Prop := ∃ (Cn : String) (T : u_T) (ty0 : Nat → FieldType), vwCl[ci]? = some (Cn, T, N) ∧ ci < 100 ∧ (∀ w ∈ u_ws Cn T N, w ∈ am_TB) ∧ (∀ k, k < N → parseFieldDescriptor (T k).2.2.1 = some (ty0 k)) ∧ Cond.classLink own idx Cn ∈ am_TB ∧ Cond.instantiable Cn N ∈ am_TB ∧ Cond.initialized Cn ∈ am_TB ∧ ∀ j, j < N → (rs[j]? = some none ∧ defaultValue (ty0 j) = .int 0) ∨ (rs[j]? = some (some .null) ∧ defaultValue (ty0 j) = .null)
theorem aw_new {idx ci N : Nat} {rs : List (Option Value)} (hd : decode cc pc = .ok (.new idx, 3)) (hw : am_nw C.2.1 idx ci N rs) (hk : k + 1 ≤ C.2.2.2.2.2.1.cells) (hn : n + N ≤ C.2.2.2.2.2.1.slots)
    (kk : am_W C cc (pc + 3) L (.ref sh.length :: S) (sh ++ [(ci, N, rs)]) (am_up μ sh.length (fun _ => 0)) (k + 1) (n + N)) : am_W C cc pc L S sh μ k n := by
  intro p e s m args below meth c F H locs ls hR hl hL
  have kk := fun H hR => kk p e s m args below meth c F H locs ls hR hl hL
  obtain ⟨hx, hb, hml, hr, hlk, hown, hts, hX, hnm⟩ := F
  obtain ⟨Cn, T, ty0, hcl, h100, hin, hty, h1, h2, h3, h4⟩ := hw
  have hKn := hX.1.1 ci _ hcl
  refine W.newcK hx hb hown (hts _ h1) (hts _ h2) (hts _ h3) rfl hd hk hn hKn.2.1 hR.1 fun H1 kC hkC e1 z1 o1 => ?_
  refine kk H1 (hR.push (by rw [z1, hR.1]) (fun q hq => o1 q (by rw [← hR.1]; exact hq)) (Or.inl ⟨h100, _, hcl, ?_⟩))
  rw [hR.1]
  refine (u_born ty0 hts hin hKn hkC e1 hty).to (fun j hj => ?_)
  rcases h4 j hj with ⟨g1, g2⟩ | ⟨g1, g2⟩
  · rw [g2, am_vat_i g1]; rfl
  · rw [g2, am_vat_r g1]; rfl
end AD
end
section
set_option maxRecDepth 20000 in
theorem in_X0 : ∀ w ∈ u_ws RX0 TX0 3, w ∈ am_TB := by decide +kernel
set_option maxRecDepth 20000 in
theorem in_X1 : ∀ w ∈ u_ws RX1 TX1 3, w ∈ am_TB := by decide +kernel
set_option maxRecDepth 20000 in
theorem in_X2 : ∀ w ∈ u_ws RX2 TX2 5, w ∈ am_TB := by decide +kernel
set_option maxRecDepth 20000 in
theorem in_X4 : ∀ w ∈ u_ws RX4 TX4 4, w ∈ am_TB := by decide +kernel
set_option maxRecDepth 20000 in
theorem in_X5 : ∀ w ∈ u_ws RX5 TX5 9, w ∈ am_TB := by decide +kernel
set_option maxRecDepth 20000 in
theorem in_X6 : ∀ w ∈ u_ws RX6 TX6 4, w ∈ am_TB := by decide +kernel
set_option maxRecDepth 20000 in
theorem in_X7 : ∀ w ∈ u_ws RX7 TX7 10, w ∈ am_TB := by decide +kernel
set_option maxRecDepth 20000 in
theorem in_X8 : ∀ w ∈ u_ws RX8 TX8 24, w ∈ am_TB := by decide +kernel
set_option maxRecDepth 20000 in
theorem iw_X7 : Cond.initialized RX7 ∈ am_TB := am_in 41 (by decide +kernel) rfl
set_option maxRecDepth 20000 in
theorem iw_X0 : Cond.initialized RX0 ∈ am_TB := am_in 45 (by decide +kernel) rfl
set_option maxRecDepth 20000 in
theorem iw_X1 : Cond.initialized RX1 ∈ am_TB := am_in 47 (by decide +kernel) rfl
set_option maxRecDepth 20000 in
theorem iw_X2 : Cond.initialized RX2 ∈ am_TB := am_in 46 (by decide +kernel) rfl
set_option maxRecDepth 20000 in
theorem iw_X3 : Cond.initialized RX3 ∈ am_TB := am_in 51 (by decide +kernel) rfl
set_option maxRecDepth 20000 in
theorem iw_X4 : Cond.initialized RX4 ∈ am_TB := am_in 42 (by decide +kernel) rfl
set_option maxRecDepth 20000 in
theorem iw_X5 : Cond.initialized RX5 ∈ am_TB := am_in 44 (by decide +kernel) rfl
set_option maxRecDepth 20000 in
theorem iw_X6 : Cond.initialized RX6 ∈ am_TB := am_in 43 (by decide +kernel) rfl
set_option maxRecDepth 20000 in
theorem iw_L : Cond.initialized RL ∈ am_TB := am_in 40 (by decide +kernel) rfl
set_option maxRecDepth 20000 in
theorem iw_X8 : Cond.initialized RX8 ∈ am_TB := am_in 48 (by decide +kernel) rfl
set_option maxRecDepth 20000 in
theorem iw_J6 : Cond.initialized RJ6 ∈ am_TB := am_in 53 (by decide +kernel) rfl
set_option maxRecDepth 20000 in
theorem iw_J9 : Cond.initialized RJ9 ∈ am_TB := am_in 52 (by decide +kernel) rfl
set_option maxRecDepth 20000 in
theorem iw_J10 : Cond.initialized RJ10 ∈ am_TB := am_in 50 (by decide +kernel) rfl
set_option maxRecDepth 20000 in
theorem iw_J7 : Cond.initialized RJ7 ∈ am_TB := am_in 49 (by decide +kernel) rfl
set_option maxRecDepth 20000 in
theorem fw_X0_11 : Cond.fieldLink RX0 11 (TX0 2).1 (TX0 2).2.1 (TX0 2).2.2.1 ∈ am_TB := am_in 174 (by decide +kernel) rfl
set_option maxRecDepth 20000 in
theorem gf_X0_11 : am_gf RX0 11 0 2 := ⟨RX0, TX0, 3, rfl, by decide, by decide, fw_X0_11, in_X0⟩
set_option maxRecDepth 20000 in
theorem pf_X0_11 : am_pf RX0 11 0 2 true (tyX0 2) := ⟨RX0, TX0, 3, tyX0, rfl, by decide, by decide, fw_X0_11, in_X0, tyX0_ok, nmX0, rfl, rfl, fun _ => rfl⟩
set_option maxRecDepth 20000 in
theorem fw_X0_16 : Cond.fieldLink RX0 16 (TX0 0).1 (TX0 0).2.1 (TX0 0).2.2.1 ∈ am_TB := am_in 171 (by decide +kernel) rfl
set_option maxRecDepth 20000 in
theorem gf_X0_16 : am_gf RX0 16 0 0 := ⟨RX0, TX0, 3, rfl, by decide, by decide, fw_X0_16, in_X0⟩
set_option maxRecDepth 20000 in
theorem pf_X0_16 : am_pf RX0 16 0 0 false .int := ⟨RX0, TX0, 3, tyX0, rfl, by decide, by decide, fw_X0_16, in_X0, tyX0_ok, nmX0, rfl, rfl, fun h => by cases h⟩
set_option maxRecDepth 20000 in
theorem fw_X0_20 : Cond.fieldLink RX0 20 (TX0 1).1 (TX0 1).2.1 (TX0 1).2.2.1 ∈ am_TB := am_in 173 (by decide +kernel) rfl
set_option maxRecDepth 20000 in
theorem gf_X0_20 : am_gf RX0 20 0 1 := ⟨RX0, TX0, 3, rfl, by decide, by decide, fw_X0_20, in_X0⟩
set_option maxRecDepth 20000 in
theorem pf_X0_20 : am_pf RX0 20 0 1 false .int := ⟨RX0, TX0, 3, tyX0, rfl, by decide, by decide, fw_X0_20, in_X0, tyX0_ok, nmX0, rfl, rfl, fun h => by cases h⟩
set_option maxRecDepth 20000 in
theorem fw_X1_9 : Cond.fieldLink RX1 9 (TX1 1).1 (TX1 1).2.1 (TX1 1).2.2.1 ∈ am_TB := am_in 218 (by decide +kernel) rfl
set_option maxRecDepth 20000 in
theorem gf_X1_9 : am_gf RX1 9 1 1 := ⟨RX1, TX1, 3, rfl, by decide, by decide, fw_X1_9, in_X1⟩
set_option maxRecDepth 20000 in
theorem pf_X1_9 : am_pf RX1 9 1 1 true (tyX1 1) := ⟨RX1, TX1, 3, tyX1, rfl, by decide, by decide, fw_X1_9, in_X1, tyX1_ok, nmX1, rfl, rfl, fun _ => rfl⟩
set_option maxRecDepth 20000 in
theorem fw_X1_13 : Cond.fieldLink RX1 13 (TX1 0).1 (TX1 0).2.1 (TX1 0).2.2.1 ∈ am_TB := am_in 217 (by decide +kernel) rfl
set_option maxRecDepth 20000 in
theorem gf_X1_13 : am_gf RX1 13 1 0 := ⟨RX1, TX1, 3, rfl, by decide, by decide, fw_X1_13, in_X1⟩
set_option maxRecDepth 20000 in
theorem pf_X1_13 : am_pf RX1 13 1 0 true (tyX1 0) := ⟨RX1, TX1, 3, tyX1, rfl, by decide, by decide, fw_X1_13, in_X1, tyX1_ok, nmX1, rfl, rfl, fun _ => rfl⟩
set_option maxRecDepth 20000 in
theorem fw_X1_17 : Cond.fieldLink RX1 17 (TX1 2).1 (TX1 2).2.1 (TX1 2).2.2.1 ∈ am_TB := am_in 220 (by decide +kernel) rfl
set_option maxRecDepth 20000 in
theorem gf_X1_17 : am_gf RX1 17 1 2 := ⟨RX1, TX1, 3, rfl, by decide, by decide, fw_X1_17, in_X1⟩
set_option maxRecDepth 20000 in
theorem pf_X1_17 : am_pf RX1 17 1 2 false .int := ⟨RX1, TX1, 3, tyX1, rfl, by decide, by decide, fw_X1_17, in_X1, tyX1_ok, nmX1, rfl, rfl, fun h => by cases h⟩
set_option maxRecDepth 20000 in
theorem fw_X1_29 : Cond.fieldLink RX1 29 (TX5 4).1 (TX5 4).2.1 (TX5 4).2.2.1 ∈ am_TB := am_in 127 (by decide +kernel) rfl
set_option maxRecDepth 20000 in
theorem gf_X1_29 : am_gf RX1 29 4 4 := ⟨RX5, TX5, 9, rfl, by decide, by decide, fw_X1_29, in_X5⟩
set_option maxRecDepth 20000 in
theorem fs_X1_43 : Cond.fieldLink RX1 43 RX1 "SIZE_BODIES" "[I" ∈ am_TB := am_in 707 (by decide +kernel) rfl
set_option maxRecDepth 20000 in
theorem fs_X1_46 : Cond.fieldLink RX1 46 RX1 "MARK_BODIES" "[I" ∈ am_TB := am_in 709 (by decide +kernel) rfl
set_option maxRecDepth 20000 in
theorem fw_X1_53 : Cond.fieldLink RX1 53 (TX5 7).1 (TX5 7).2.1 (TX5 7).2.2.1 ∈ am_TB := am_in 138 (by decide +kernel) rfl
set_option maxRecDepth 20000 in
theorem gf_X1_53 : am_gf RX1 53 4 7 := ⟨RX5, TX5, 9, rfl, by decide, by decide, fw_X1_53, in_X5⟩
set_option maxRecDepth 20000 in
theorem fw_X1_56 : Cond.fieldLink RX1 56 (TX5 6).1 (TX5 6).2.1 (TX5 6).2.2.1 ∈ am_TB := am_in 135 (by decide +kernel) rfl
set_option maxRecDepth 20000 in
theorem gf_X1_56 : am_gf RX1 56 4 6 := ⟨RX5, TX5, 9, rfl, by decide, by decide, fw_X1_56, in_X5⟩
set_option maxRecDepth 20000 in
theorem fw_X2_14 : Cond.fieldLink RX2 14 (TX2 1).1 (TX2 1).2.1 (TX2 1).2.2.1 ∈ am_TB := am_in 193 (by decide +kernel) rfl
set_option maxRecDepth 20000 in
theorem gf_X2_14 : am_gf RX2 14 2 1 := ⟨RX2, TX2, 5, rfl, by decide, by decide, fw_X2_14, in_X2⟩
set_option maxRecDepth 20000 in
theorem pf_X2_14 : am_pf RX2 14 2 1 true (tyX2 1) := ⟨RX2, TX2, 5, tyX2, rfl, by decide, by decide, fw_X2_14, in_X2, tyX2_ok, nmX2, rfl, rfl, fun _ => rfl⟩
set_option maxRecDepth 20000 in
theorem fw_X2_18 : Cond.fieldLink RX2 18 (TX2 2).1 (TX2 2).2.1 (TX2 2).2.2.1 ∈ am_TB := am_in 195 (by decide +kernel) rfl
set_option maxRecDepth 20000 in
theorem gf_X2_18 : am_gf RX2 18 2 2 := ⟨RX2, TX2, 5, rfl, by decide, by decide, fw_X2_18, in_X2⟩
set_option maxRecDepth 20000 in
theorem pf_X2_18 : am_pf RX2 18 2 2 true (tyX2 2) := ⟨RX2, TX2, 5, tyX2, rfl, by decide, by decide, fw_X2_18, in_X2, tyX2_ok, nmX2, rfl, rfl, fun _ => rfl⟩
set_option maxRecDepth 20000 in
theorem fw_X2_22 : Cond.fieldLink RX2 22 (TX2 3).1 (TX2 3).2.1 (TX2 3).2.2.1 ∈ am_TB := am_in 197 (by decide +kernel) rfl
set_option maxRecDepth 20000 in
theorem gf_X2_22 : am_gf RX2 22 2 3 := ⟨RX2, TX2, 5, rfl, by decide, by decide, fw_X2_22, in_X2⟩
set_option maxRecDepth 20000 in
theorem pf_X2_22 : am_pf RX2 22 2 3 true (tyX2 3) := ⟨RX2, TX2, 5, tyX2, rfl, by decide, by decide, fw_X2_22, in_X2, tyX2_ok, nmX2, rfl, rfl, fun _ => rfl⟩
set_option maxRecDepth 20000 in
theorem fw_X2_27 : Cond.fieldLink RX2 27 (TX2 4).1 (TX2 4).2.1 (TX2 4).2.2.1 ∈ am_TB := am_in 199 (by decide +kernel) rfl
set_option maxRecDepth 20000 in
theorem gf_X2_27 : am_gf RX2 27 2 4 := ⟨RX2, TX2, 5, rfl, by decide, by decide, fw_X2_27, in_X2⟩
set_option maxRecDepth 20000 in
theorem pf_X2_27 : am_pf RX2 27 2 4 true (tyX2 4) := ⟨RX2, TX2, 5, tyX2, rfl, by decide, by decide, fw_X2_27, in_X2, tyX2_ok, nmX2, rfl, rfl, fun _ => rfl⟩
set_option maxRecDepth 20000 in
theorem fw_X2_30 : Cond.fieldLink RX2 30 (TX2 0).1 (TX2 0).2.1 (TX2 0).2.2.1 ∈ am_TB := am_in 192 (by decide +kernel) rfl
set_option maxRecDepth 20000 in
theorem gf_X2_30 : am_gf RX2 30 2 0 := ⟨RX2, TX2, 5, rfl, by decide, by decide, fw_X2_30, in_X2⟩
set_option maxRecDepth 20000 in
theorem pf_X2_30 : am_pf RX2 30 2 0 true (tyX2 0) := ⟨RX2, TX2, 5, tyX2, rfl, by decide, by decide, fw_X2_30, in_X2, tyX2_ok, nmX2, rfl, rfl, fun _ => rfl⟩
set_option maxRecDepth 20000 in
theorem fw_X2_33 : Cond.fieldLink RX2 33 (TX5 5).1 (TX5 5).2.1 (TX5 5).2.2.1 ∈ am_TB := am_in 131 (by decide +kernel) rfl
set_option maxRecDepth 20000 in
theorem gf_X2_33 : am_gf RX2 33 4 5 := ⟨RX5, TX5, 9, rfl, by decide, by decide, fw_X2_33, in_X5⟩
set_option maxRecDepth 20000 in
theorem fw_X2_36 : Cond.fieldLink RX2 36 (TX5 6).1 (TX5 6).2.1 (TX5 6).2.2.1 ∈ am_TB := am_in 134 (by decide +kernel) rfl
set_option maxRecDepth 20000 in
theorem gf_X2_36 : am_gf RX2 36 4 6 := ⟨RX5, TX5, 9, rfl, by decide, by decide, fw_X2_36, in_X5⟩
set_option maxRecDepth 20000 in
theorem fw_X2_83 : Cond.fieldLink RX2 83 (TX5 7).1 (TX5 7).2.1 (TX5 7).2.2.1 ∈ am_TB := am_in 139 (by decide +kernel) rfl
set_option maxRecDepth 20000 in
theorem gf_X2_83 : am_gf RX2 83 4 7 := ⟨RX5, TX5, 9, rfl, by decide, by decide, fw_X2_83, in_X5⟩
set_option maxRecDepth 20000 in
theorem fw_X2_92 : Cond.fieldLink RX2 92 (TX5 4).1 (TX5 4).2.1 (TX5 4).2.2.1 ∈ am_TB := am_in 128 (by decide +kernel) rfl
set_option maxRecDepth 20000 in
theorem gf_X2_92 : am_gf RX2 92 4 4 := ⟨RX5, TX5, 9, rfl, by decide, by decide, fw_X2_92, in_X5⟩
set_option maxRecDepth 20000 in
theorem fw_X2_113 : Cond.fieldLink RX2 113 (TX5 0).1 (TX5 0).2.1 (TX5 0).2.2.1 ∈ am_TB := am_in 117 (by decide +kernel) rfl
set_option maxRecDepth 20000 in
theorem gf_X2_113 : am_gf RX2 113 4 0 := ⟨RX5, TX5, 9, rfl, by decide, by decide, fw_X2_113, in_X5⟩
set_option maxRecDepth 20000 in
theorem fs_X3_9 : Cond.fieldLink RX3 9 RX3 "NEAREST" "[I" ∈ am_TB := am_in 690 (by decide +kernel) rfl
set_option maxRecDepth 20000 in
theorem fw_X4_9 : Cond.fieldLink RX4 9 (TX4 0).1 (TX4 0).2.1 (TX4 0).2.2.1 ∈ am_TB := am_in 69 (by decide +kernel) rfl
set_option maxRecDepth 20000 in
theorem gf_X4_9 : am_gf RX4 9 3 0 := ⟨RX4, TX4, 4, rfl, by decide, by decide, fw_X4_9, in_X4⟩
set_option maxRecDepth 20000 in
theorem pf_X4_9 : am_pf RX4 9 3 0 false .boolean := ⟨RX4, TX4, 4, tyX4, rfl, by decide, by decide, fw_X4_9, in_X4, tyX4_ok, nmX4, rfl, rfl, fun h => by cases h⟩
set_option maxRecDepth 20000 in
theorem fw_X4_15 : Cond.fieldLink RX4 15 (TX4 3).1 (TX4 3).2.1 (TX4 3).2.2.1 ∈ am_TB := am_in 75 (by decide +kernel) rfl
set_option maxRecDepth 20000 in
theorem gf_X4_15 : am_gf RX4 15 3 3 := ⟨RX4, TX4, 4, rfl, by decide, by decide, fw_X4_15, in_X4⟩
set_option maxRecDepth 20000 in
theorem pf_X4_15 : am_pf RX4 15 3 3 true (tyX4 3) := ⟨RX4, TX4, 4, tyX4, rfl, by decide, by decide, fw_X4_15, in_X4, tyX4_ok, nmX4, rfl, rfl, fun _ => rfl⟩
set_option maxRecDepth 20000 in
theorem fw_X4_19 : Cond.fieldLink RX4 19 (TX4 1).1 (TX4 1).2.1 (TX4 1).2.2.1 ∈ am_TB := am_in 71 (by decide +kernel) rfl
set_option maxRecDepth 20000 in
theorem gf_X4_19 : am_gf RX4 19 3 1 := ⟨RX4, TX4, 4, rfl, by decide, by decide, fw_X4_19, in_X4⟩
set_option maxRecDepth 20000 in
theorem pf_X4_19 : am_pf RX4 19 3 1 false .int := ⟨RX4, TX4, 4, tyX4, rfl, by decide, by decide, fw_X4_19, in_X4, tyX4_ok, nmX4, rfl, rfl, fun h => by cases h⟩
set_option maxRecDepth 20000 in
theorem fw_X4_23 : Cond.fieldLink RX4 23 (TX4 2).1 (TX4 2).2.1 (TX4 2).2.2.1 ∈ am_TB := am_in 73 (by decide +kernel) rfl
set_option maxRecDepth 20000 in
theorem gf_X4_23 : am_gf RX4 23 3 2 := ⟨RX4, TX4, 4, rfl, by decide, by decide, fw_X4_23, in_X4⟩
set_option maxRecDepth 20000 in
theorem pf_X4_23 : am_pf RX4 23 3 2 false .int := ⟨RX4, TX4, 4, tyX4, rfl, by decide, by decide, fw_X4_23, in_X4, tyX4_ok, nmX4, rfl, rfl, fun h => by cases h⟩
set_option maxRecDepth 20000 in
theorem fw_X5_9 : Cond.fieldLink RX5 9 (TX5 3).1 (TX5 3).2.1 (TX5 3).2.2.1 ∈ am_TB := am_in 123 (by decide +kernel) rfl
set_option maxRecDepth 20000 in
theorem gf_X5_9 : am_gf RX5 9 4 3 := ⟨RX5, TX5, 9, rfl, by decide, by decide, fw_X5_9, in_X5⟩
set_option maxRecDepth 20000 in
theorem pf_X5_9 : am_pf RX5 9 4 3 true (tyX5 3) := ⟨RX5, TX5, 9, tyX5, rfl, by decide, by decide, fw_X5_9, in_X5, tyX5_ok, nmX5, rfl, rfl, fun _ => rfl⟩
set_option maxRecDepth 20000 in
theorem fw_X5_13 : Cond.fieldLink RX5 13 (TX5 4).1 (TX5 4).2.1 (TX5 4).2.2.1 ∈ am_TB := am_in 126 (by decide +kernel) rfl
set_option maxRecDepth 20000 in
theorem gf_X5_13 : am_gf RX5 13 4 4 := ⟨RX5, TX5, 9, rfl, by decide, by decide, fw_X5_13, in_X5⟩
set_option maxRecDepth 20000 in
theorem pf_X5_13 : am_pf RX5 13 4 4 true (tyX5 4) := ⟨RX5, TX5, 9, tyX5, rfl, by decide, by decide, fw_X5_13, in_X5, tyX5_ok, nmX5, rfl, rfl, fun _ => rfl⟩
set_option maxRecDepth 20000 in
theorem fw_X5_16 : Cond.fieldLink RX5 16 (TX5 5).1 (TX5 5).2.1 (TX5 5).2.2.1 ∈ am_TB := am_in 130 (by decide +kernel) rfl
set_option maxRecDepth 20000 in
theorem gf_X5_16 : am_gf RX5 16 4 5 := ⟨RX5, TX5, 9, rfl, by decide, by decide, fw_X5_16, in_X5⟩
set_option maxRecDepth 20000 in
theorem pf_X5_16 : am_pf RX5 16 4 5 true (tyX5 5) := ⟨RX5, TX5, 9, tyX5, rfl, by decide, by decide, fw_X5_16, in_X5, tyX5_ok, nmX5, rfl, rfl, fun _ => rfl⟩
set_option maxRecDepth 20000 in
theorem fw_X5_19 : Cond.fieldLink RX5 19 (TX5 6).1 (TX5 6).2.1 (TX5 6).2.2.1 ∈ am_TB := am_in 133 (by decide +kernel) rfl
set_option maxRecDepth 20000 in
theorem gf_X5_19 : am_gf RX5 19 4 6 := ⟨RX5, TX5, 9, rfl, by decide, by decide, fw_X5_19, in_X5⟩
set_option maxRecDepth 20000 in
theorem pf_X5_19 : am_pf RX5 19 4 6 true (tyX5 6) := ⟨RX5, TX5, 9, tyX5, rfl, by decide, by decide, fw_X5_19, in_X5, tyX5_ok, nmX5, rfl, rfl, fun _ => rfl⟩
set_option maxRecDepth 20000 in
theorem fw_X5_22 : Cond.fieldLink RX5 22 (TX5 7).1 (TX5 7).2.1 (TX5 7).2.2.1 ∈ am_TB := am_in 137 (by decide +kernel) rfl
set_option maxRecDepth 20000 in
theorem gf_X5_22 : am_gf RX5 22 4 7 := ⟨RX5, TX5, 9, rfl, by decide, by decide, fw_X5_22, in_X5⟩
set_option maxRecDepth 20000 in
theorem pf_X5_22 : am_pf RX5 22 4 7 true (tyX5 7) := ⟨RX5, TX5, 9, tyX5, rfl, by decide, by decide, fw_X5_22, in_X5, tyX5_ok, nmX5, rfl, rfl, fun _ => rfl⟩
set_option maxRecDepth 20000 in
theorem fw_X5_25 : Cond.fieldLink RX5 25 (TX5 8).1 (TX5 8).2.1 (TX5 8).2.2.1 ∈ am_TB := am_in 141 (by decide +kernel) rfl
set_option maxRecDepth 20000 in
theorem gf_X5_25 : am_gf RX5 25 4 8 := ⟨RX5, TX5, 9, rfl, by decide, by decide, fw_X5_25, in_X5⟩
set_option maxRecDepth 20000 in
theorem pf_X5_25 : am_pf RX5 25 4 8 true (tyX5 8) := ⟨RX5, TX5, 9, tyX5, rfl, by decide, by decide, fw_X5_25, in_X5, tyX5_ok, nmX5, rfl, rfl, fun _ => rfl⟩
set_option maxRecDepth 20000 in
theorem fw_X5_28 : Cond.fieldLink RX5 28 (TX5 0).1 (TX5 0).2.1 (TX5 0).2.2.1 ∈ am_TB := am_in 114 (by decide +kernel) rfl
set_option maxRecDepth 20000 in
theorem gf_X5_28 : am_gf RX5 28 4 0 := ⟨RX5, TX5, 9, rfl, by decide, by decide, fw_X5_28, in_X5⟩
set_option maxRecDepth 20000 in
theorem pf_X5_28 : am_pf RX5 28 4 0 false .int := ⟨RX5, TX5, 9, tyX5, rfl, by decide, by decide, fw_X5_28, in_X5, tyX5_ok, nmX5, rfl, rfl, fun h => by cases h⟩
set_option maxRecDepth 20000 in
theorem fw_X5_32 : Cond.fieldLink RX5 32 (TX5 1).1 (TX5 1).2.1 (TX5 1).2.2.1 ∈ am_TB := am_in 118 (by decide +kernel) rfl
set_option maxRecDepth 20000 in
theorem gf_X5_32 : am_gf RX5 32 4 1 := ⟨RX5, TX5, 9, rfl, by decide, by decide, fw_X5_32, in_X5⟩
set_option maxRecDepth 20000 in
theorem pf_X5_32 : am_pf RX5 32 4 1 false .int := ⟨RX5, TX5, 9, tyX5, rfl, by decide, by decide, fw_X5_32, in_X5, tyX5_ok, nmX5, rfl, rfl, fun h => by cases h⟩
set_option maxRecDepth 20000 in
theorem fw_X5_35 : Cond.fieldLink RX5 35 (TX5 2).1 (TX5 2).2.1 (TX5 2).2.2.1 ∈ am_TB := am_in 121 (by decide +kernel) rfl
set_option maxRecDepth 20000 in
theorem gf_X5_35 : am_gf RX5 35 4 2 := ⟨RX5, TX5, 9, rfl, by decide, by decide, fw_X5_35, in_X5⟩
set_option maxRecDepth 20000 in
theorem pf_X5_35 : am_pf RX5 35 4 2 false .int := ⟨RX5, TX5, 9, tyX5, rfl, by decide, by decide, fw_X5_35, in_X5, tyX5_ok, nmX5, rfl, rfl, fun h => by cases h⟩
set_option maxRecDepth 20000 in
theorem fw_X6_11 : Cond.fieldLink RX6 11 (TX6 0).1 (TX6 0).2.1 (TX6 0).2.2.1 ∈ am_TB := am_in 93 (by decide +kernel) rfl
set_option maxRecDepth 20000 in
theorem gf_X6_11 : am_gf RX6 11 5 0 := ⟨RX6, TX6, 4, rfl, by decide, by decide, fw_X6_11, in_X6⟩
set_option maxRecDepth 20000 in
theorem pf_X6_11 : am_pf RX6 11 5 0 true (tyX6 0) := ⟨RX6, TX6, 4, tyX6, rfl, by decide, by decide, fw_X6_11, in_X6, tyX6_ok, nmX6, rfl, rfl, fun _ => rfl⟩
set_option maxRecDepth 20000 in
theorem fw_X6_15 : Cond.fieldLink RX6 15 (TX6 1).1 (TX6 1).2.1 (TX6 1).2.2.1 ∈ am_TB := am_in 94 (by decide +kernel) rfl
set_option maxRecDepth 20000 in
theorem gf_X6_15 : am_gf RX6 15 5 1 := ⟨RX6, TX6, 4, rfl, by decide, by decide, fw_X6_15, in_X6⟩
set_option maxRecDepth 20000 in
theorem pf_X6_15 : am_pf RX6 15 5 1 false .int := ⟨RX6, TX6, 4, tyX6, rfl, by decide, by decide, fw_X6_15, in_X6, tyX6_ok, nmX6, rfl, rfl, fun h => by cases h⟩
set_option maxRecDepth 20000 in
theorem fw_X6_20 : Cond.fieldLink RX6 20 (TX6 2).1 (TX6 2).2.1 (TX6 2).2.2.1 ∈ am_TB := am_in 96 (by decide +kernel) rfl
set_option maxRecDepth 20000 in
theorem gf_X6_20 : am_gf RX6 20 5 2 := ⟨RX6, TX6, 4, rfl, by decide, by decide, fw_X6_20, in_X6⟩
set_option maxRecDepth 20000 in
theorem pf_X6_20 : am_pf RX6 20 5 2 false .int := ⟨RX6, TX6, 4, tyX6, rfl, by decide, by decide, fw_X6_20, in_X6, tyX6_ok, nmX6, rfl, rfl, fun h => by cases h⟩
set_option maxRecDepth 20000 in
theorem fw_X6_23 : Cond.fieldLink RX6 23 (TX6 3).1 (TX6 3).2.1 (TX6 3).2.2.1 ∈ am_TB := am_in 98 (by decide +kernel) rfl
set_option maxRecDepth 20000 in
theorem gf_X6_23 : am_gf RX6 23 5 3 := ⟨RX6, TX6, 4, rfl, by decide, by decide, fw_X6_23, in_X6⟩
set_option maxRecDepth 20000 in
theorem pf_X6_23 : am_pf RX6 23 5 3 false .int := ⟨RX6, TX6, 4, tyX6, rfl, by decide, by decide, fw_X6_23, in_X6, tyX6_ok, nmX6, rfl, rfl, fun h => by cases h⟩
set_option maxRecDepth 20000 in
theorem fw_X6_42 : Cond.fieldLink RX6 42 (TX5 3).1 (TX5 3).2.1 (TX5 3).2.2.1 ∈ am_TB := am_in 124 (by decide +kernel) rfl
set_option maxRecDepth 20000 in
theorem gf_X6_42 : am_gf RX6 42 4 3 := ⟨RX5, TX5, 9, rfl, by decide, by decide, fw_X6_42, in_X5⟩
set_option maxRecDepth 20000 in
theorem fw_X6_49 : Cond.fieldLink RX6 49 (TX5 1).1 (TX5 1).2.1 (TX5 1).2.2.1 ∈ am_TB := am_in 119 (by decide +kernel) rfl
set_option maxRecDepth 20000 in
theorem gf_X6_49 : am_gf RX6 49 4 1 := ⟨RX5, TX5, 9, rfl, by decide, by decide, fw_X6_49, in_X5⟩
set_option maxRecDepth 20000 in
theorem pf_X6_49 : am_pf RX6 49 4 1 false .int := ⟨RX5, TX5, 9, tyX5, rfl, by decide, by decide, fw_X6_49, in_X5, tyX5_ok, nmX5, rfl, rfl, fun h => by cases h⟩
set_option maxRecDepth 20000 in
theorem fw_X6_52 : Cond.fieldLink RX6 52 (TX5 0).1 (TX5 0).2.1 (TX5 0).2.2.1 ∈ am_TB := am_in 115 (by decide +kernel) rfl
set_option maxRecDepth 20000 in
theorem gf_X6_52 : am_gf RX6 52 4 0 := ⟨RX5, TX5, 9, rfl, by decide, by decide, fw_X6_52, in_X5⟩
set_option maxRecDepth 20000 in
theorem fw_X7_11 : Cond.fieldLink RX7 11 (TX7 0).1 (TX7 0).2.1 (TX7 0).2.2.1 ∈ am_TB := am_in 229 (by decide +kernel) rfl
set_option maxRecDepth 20000 in
theorem gf_X7_11 : am_gf RX7 11 6 0 := ⟨RX7, TX7, 10, rfl, by decide, by decide, fw_X7_11, in_X7⟩
set_option maxRecDepth 20000 in
theorem pf_X7_11 : am_pf RX7 11 6 0 true (tyX7 0) := ⟨RX7, TX7, 10, tyX7, rfl, by decide, by decide, fw_X7_11, in_X7, tyX7_ok, nmX7, rfl, rfl, fun _ => rfl⟩
set_option maxRecDepth 20000 in
theorem fw_X7_19 : Cond.fieldLink RX7 19 (TX7 1).1 (TX7 1).2.1 (TX7 1).2.2.1 ∈ am_TB := am_in 230 (by decide +kernel) rfl
set_option maxRecDepth 20000 in
theorem gf_X7_19 : am_gf RX7 19 6 1 := ⟨RX7, TX7, 10, rfl, by decide, by decide, fw_X7_19, in_X7⟩
set_option maxRecDepth 20000 in
theorem pf_X7_19 : am_pf RX7 19 6 1 true (tyX7 1) := ⟨RX7, TX7, 10, tyX7, rfl, by decide, by decide, fw_X7_19, in_X7, tyX7_ok, nmX7, rfl, rfl, fun _ => rfl⟩
set_option maxRecDepth 20000 in
theorem fw_X7_26 : Cond.fieldLink RX7 26 (TX7 2).1 (TX7 2).2.1 (TX7 2).2.2.1 ∈ am_TB := am_in 231 (by decide +kernel) rfl
set_option maxRecDepth 20000 in
theorem gf_X7_26 : am_gf RX7 26 6 2 := ⟨RX7, TX7, 10, rfl, by decide, by decide, fw_X7_26, in_X7⟩
set_option maxRecDepth 20000 in
theorem pf_X7_26 : am_pf RX7 26 6 2 true (tyX7 2) := ⟨RX7, TX7, 10, tyX7, rfl, by decide, by decide, fw_X7_26, in_X7, tyX7_ok, nmX7, rfl, rfl, fun _ => rfl⟩
set_option maxRecDepth 20000 in
theorem fw_X7_30 : Cond.fieldLink RX7 30 (TX7 3).1 (TX7 3).2.1 (TX7 3).2.2.1 ∈ am_TB := am_in 232 (by decide +kernel) rfl
set_option maxRecDepth 20000 in
theorem gf_X7_30 : am_gf RX7 30 6 3 := ⟨RX7, TX7, 10, rfl, by decide, by decide, fw_X7_30, in_X7⟩
set_option maxRecDepth 20000 in
theorem pf_X7_30 : am_pf RX7 30 6 3 true (tyX7 3) := ⟨RX7, TX7, 10, tyX7, rfl, by decide, by decide, fw_X7_30, in_X7, tyX7_ok, nmX7, rfl, rfl, fun _ => rfl⟩
set_option maxRecDepth 20000 in
theorem fw_X7_36 : Cond.fieldLink RX7 36 (TX7 4).1 (TX7 4).2.1 (TX7 4).2.2.1 ∈ am_TB := am_in 233 (by decide +kernel) rfl
set_option maxRecDepth 20000 in
theorem gf_X7_36 : am_gf RX7 36 6 4 := ⟨RX7, TX7, 10, rfl, by decide, by decide, fw_X7_36, in_X7⟩
set_option maxRecDepth 20000 in
theorem pf_X7_36 : am_pf RX7 36 6 4 true (tyX7 4) := ⟨RX7, TX7, 10, tyX7, rfl, by decide, by decide, fw_X7_36, in_X7, tyX7_ok, nmX7, rfl, rfl, fun _ => rfl⟩
set_option maxRecDepth 20000 in
theorem fw_X7_40 : Cond.fieldLink RX7 40 (TX7 5).1 (TX7 5).2.1 (TX7 5).2.2.1 ∈ am_TB := am_in 234 (by decide +kernel) rfl
set_option maxRecDepth 20000 in
theorem gf_X7_40 : am_gf RX7 40 6 5 := ⟨RX7, TX7, 10, rfl, by decide, by decide, fw_X7_40, in_X7⟩
set_option maxRecDepth 20000 in
theorem pf_X7_40 : am_pf RX7 40 6 5 true (tyX7 5) := ⟨RX7, TX7, 10, tyX7, rfl, by decide, by decide, fw_X7_40, in_X7, tyX7_ok, nmX7, rfl, rfl, fun _ => rfl⟩
set_option maxRecDepth 20000 in
theorem fw_X7_49 : Cond.fieldLink RX7 49 (TX7 6).1 (TX7 6).2.1 (TX7 6).2.2.1 ∈ am_TB := am_in 235 (by decide +kernel) rfl
set_option maxRecDepth 20000 in
theorem gf_X7_49 : am_gf RX7 49 6 6 := ⟨RX7, TX7, 10, rfl, by decide, by decide, fw_X7_49, in_X7⟩
set_option maxRecDepth 20000 in
theorem pf_X7_49 : am_pf RX7 49 6 6 true (tyX7 6) := ⟨RX7, TX7, 10, tyX7, rfl, by decide, by decide, fw_X7_49, in_X7, tyX7_ok, nmX7, rfl, rfl, fun _ => rfl⟩
set_option maxRecDepth 20000 in
theorem fw_X7_56 : Cond.fieldLink RX7 56 (TX7 7).1 (TX7 7).2.1 (TX7 7).2.2.1 ∈ am_TB := am_in 236 (by decide +kernel) rfl
set_option maxRecDepth 20000 in
theorem gf_X7_56 : am_gf RX7 56 6 7 := ⟨RX7, TX7, 10, rfl, by decide, by decide, fw_X7_56, in_X7⟩
set_option maxRecDepth 20000 in
theorem pf_X7_56 : am_pf RX7 56 6 7 true (tyX7 7) := ⟨RX7, TX7, 10, tyX7, rfl, by decide, by decide, fw_X7_56, in_X7, tyX7_ok, nmX7, rfl, rfl, fun _ => rfl⟩
set_option maxRecDepth 20000 in
theorem fw_X7_60 : Cond.fieldLink RX7 60 (TX7 8).1 (TX7 8).2.1 (TX7 8).2.2.1 ∈ am_TB := am_in 237 (by decide +kernel) rfl
set_option maxRecDepth 20000 in
theorem gf_X7_60 : am_gf RX7 60 6 8 := ⟨RX7, TX7, 10, rfl, by decide, by decide, fw_X7_60, in_X7⟩
set_option maxRecDepth 20000 in
theorem pf_X7_60 : am_pf RX7 60 6 8 false .int := ⟨RX7, TX7, 10, tyX7, rfl, by decide, by decide, fw_X7_60, in_X7, tyX7_ok, nmX7, rfl, rfl, fun h => by cases h⟩
set_option maxRecDepth 20000 in
theorem fw_X7_64 : Cond.fieldLink RX7 64 (TX7 9).1 (TX7 9).2.1 (TX7 9).2.2.1 ∈ am_TB := am_in 238 (by decide +kernel) rfl
set_option maxRecDepth 20000 in
theorem gf_X7_64 : am_gf RX7 64 6 9 := ⟨RX7, TX7, 10, rfl, by decide, by decide, fw_X7_64, in_X7⟩
set_option maxRecDepth 20000 in
theorem pf_X7_64 : am_pf RX7 64 6 9 false .int := ⟨RX7, TX7, 10, tyX7, rfl, by decide, by decide, fw_X7_64, in_X7, tyX7_ok, nmX7, rfl, rfl, fun h => by cases h⟩
set_option maxRecDepth 20000 in
theorem fw_X7_94 : Cond.fieldLink RX7 94 (TX4 0).1 (TX4 0).2.1 (TX4 0).2.2.1 ∈ am_TB := am_in 70 (by decide +kernel) rfl
set_option maxRecDepth 20000 in
theorem gf_X7_94 : am_gf RX7 94 3 0 := ⟨RX4, TX4, 4, rfl, by decide, by decide, fw_X7_94, in_X4⟩
set_option maxRecDepth 20000 in
theorem pf_X7_94 : am_pf RX7 94 3 0 false .boolean := ⟨RX4, TX4, 4, tyX4, rfl, by decide, by decide, fw_X7_94, in_X4, tyX4_ok, nmX4, rfl, rfl, fun h => by cases h⟩
set_option maxRecDepth 20000 in
theorem fw_X7_98 : Cond.fieldLink RX7 98 (TX4 1).1 (TX4 1).2.1 (TX4 1).2.2.1 ∈ am_TB := am_in 72 (by decide +kernel) rfl
set_option maxRecDepth 20000 in
theorem gf_X7_98 : am_gf RX7 98 3 1 := ⟨RX4, TX4, 4, rfl, by decide, by decide, fw_X7_98, in_X4⟩
set_option maxRecDepth 20000 in
theorem fw_X7_105 : Cond.fieldLink RX7 105 (TX4 3).1 (TX4 3).2.1 (TX4 3).2.2.1 ∈ am_TB := am_in 76 (by decide +kernel) rfl
set_option maxRecDepth 20000 in
theorem gf_X7_105 : am_gf RX7 105 3 3 := ⟨RX4, TX4, 4, rfl, by decide, by decide, fw_X7_105, in_X4⟩
set_option maxRecDepth 20000 in
theorem fw_X7_115 : Cond.fieldLink RX7 115 (TX4 2).1 (TX4 2).2.1 (TX4 2).2.2.1 ∈ am_TB := am_in 74 (by decide +kernel) rfl
set_option maxRecDepth 20000 in
theorem gf_X7_115 : am_gf RX7 115 3 2 := ⟨RX4, TX4, 4, rfl, by decide, by decide, fw_X7_115, in_X4⟩
set_option maxRecDepth 20000 in
theorem fw_X7_126 : Cond.fieldLink RX7 126 (TX6 2).1 (TX6 2).2.1 (TX6 2).2.2.1 ∈ am_TB := am_in 97 (by decide +kernel) rfl
set_option maxRecDepth 20000 in
theorem gf_X7_126 : am_gf RX7 126 5 2 := ⟨RX6, TX6, 4, rfl, by decide, by decide, fw_X7_126, in_X6⟩
set_option maxRecDepth 20000 in
theorem fw_X7_135 : Cond.fieldLink RX7 135 (TX5 0).1 (TX5 0).2.1 (TX5 0).2.2.1 ∈ am_TB := am_in 116 (by decide +kernel) rfl
set_option maxRecDepth 20000 in
theorem gf_X7_135 : am_gf RX7 135 4 0 := ⟨RX5, TX5, 9, rfl, by decide, by decide, fw_X7_135, in_X5⟩
set_option maxRecDepth 20000 in
theorem fw_X7_138 : Cond.fieldLink RX7 138 (TX0 0).1 (TX0 0).2.1 (TX0 0).2.2.1 ∈ am_TB := am_in 172 (by decide +kernel) rfl
set_option maxRecDepth 20000 in
theorem gf_X7_138 : am_gf RX7 138 0 0 := ⟨RX0, TX0, 3, rfl, by decide, by decide, fw_X7_138, in_X0⟩
set_option maxRecDepth 20000 in
theorem fw_X7_149 : Cond.fieldLink RX7 149 (TX5 2).1 (TX5 2).2.1 (TX5 2).2.2.1 ∈ am_TB := am_in 122 (by decide +kernel) rfl
set_option maxRecDepth 20000 in
theorem gf_X7_149 : am_gf RX7 149 4 2 := ⟨RX5, TX5, 9, rfl, by decide, by decide, fw_X7_149, in_X5⟩
set_option maxRecDepth 20000 in
theorem fw_X7_171 : Cond.fieldLink RX7 171 (TX5 7).1 (TX5 7).2.1 (TX5 7).2.2.1 ∈ am_TB := am_in 140 (by decide +kernel) rfl
set_option maxRecDepth 20000 in
theorem gf_X7_171 : am_gf RX7 171 4 7 := ⟨RX5, TX5, 9, rfl, by decide, by decide, fw_X7_171, in_X5⟩
set_option maxRecDepth 20000 in
theorem fw_X7_177 : Cond.fieldLink RX7 177 (TX5 6).1 (TX5 6).2.1 (TX5 6).2.2.1 ∈ am_TB := am_in 136 (by decide +kernel) rfl
set_option maxRecDepth 20000 in
theorem gf_X7_177 : am_gf RX7 177 4 6 := ⟨RX5, TX5, 9, rfl, by decide, by decide, fw_X7_177, in_X5⟩
set_option maxRecDepth 20000 in
theorem fw_X7_180 : Cond.fieldLink RX7 180 (TX5 5).1 (TX5 5).2.1 (TX5 5).2.2.1 ∈ am_TB := am_in 132 (by decide +kernel) rfl
set_option maxRecDepth 20000 in
theorem gf_X7_180 : am_gf RX7 180 4 5 := ⟨RX5, TX5, 9, rfl, by decide, by decide, fw_X7_180, in_X5⟩
set_option maxRecDepth 20000 in
theorem fw_X7_183 : Cond.fieldLink RX7 183 (TX5 3).1 (TX5 3).2.1 (TX5 3).2.2.1 ∈ am_TB := am_in 125 (by decide +kernel) rfl
set_option maxRecDepth 20000 in
theorem gf_X7_183 : am_gf RX7 183 4 3 := ⟨RX5, TX5, 9, rfl, by decide, by decide, fw_X7_183, in_X5⟩
set_option maxRecDepth 20000 in
theorem fw_X7_186 : Cond.fieldLink RX7 186 (TX5 8).1 (TX5 8).2.1 (TX5 8).2.2.1 ∈ am_TB := am_in 142 (by decide +kernel) rfl
set_option maxRecDepth 20000 in
theorem gf_X7_186 : am_gf RX7 186 4 8 := ⟨RX5, TX5, 9, rfl, by decide, by decide, fw_X7_186, in_X5⟩
set_option maxRecDepth 20000 in
theorem fw_X7_192 : Cond.fieldLink RX7 192 (TX5 4).1 (TX5 4).2.1 (TX5 4).2.2.1 ∈ am_TB := am_in 129 (by decide +kernel) rfl
set_option maxRecDepth 20000 in
theorem gf_X7_192 : am_gf RX7 192 4 4 := ⟨RX5, TX5, 9, rfl, by decide, by decide, fw_X7_192, in_X5⟩
set_option maxRecDepth 20000 in
theorem fw_X7_242 : Cond.fieldLink RX7 242 (TX2 2).1 (TX2 2).2.1 (TX2 2).2.2.1 ∈ am_TB := am_in 196 (by decide +kernel) rfl
set_option maxRecDepth 20000 in
theorem gf_X7_242 : am_gf RX7 242 2 2 := ⟨RX2, TX2, 5, rfl, by decide, by decide, fw_X7_242, in_X2⟩
set_option maxRecDepth 20000 in
theorem fw_X7_252 : Cond.fieldLink RX7 252 (TX2 3).1 (TX2 3).2.1 (TX2 3).2.2.1 ∈ am_TB := am_in 198 (by decide +kernel) rfl
set_option maxRecDepth 20000 in
theorem gf_X7_252 : am_gf RX7 252 2 3 := ⟨RX2, TX2, 5, rfl, by decide, by decide, fw_X7_252, in_X2⟩
set_option maxRecDepth 20000 in
theorem fw_X7_273 : Cond.fieldLink RX7 273 (TX2 1).1 (TX2 1).2.1 (TX2 1).2.2.1 ∈ am_TB := am_in 194 (by decide +kernel) rfl
set_option maxRecDepth 20000 in
theorem gf_X7_273 : am_gf RX7 273 2 1 := ⟨RX2, TX2, 5, rfl, by decide, by decide, fw_X7_273, in_X2⟩
set_option maxRecDepth 20000 in
theorem fw_X7_286 : Cond.fieldLink RX7 286 (TX1 2).1 (TX1 2).2.1 (TX1 2).2.2.1 ∈ am_TB := am_in 221 (by decide +kernel) rfl
set_option maxRecDepth 20000 in
theorem gf_X7_286 : am_gf RX7 286 1 2 := ⟨RX1, TX1, 3, rfl, by decide, by decide, fw_X7_286, in_X1⟩
set_option maxRecDepth 20000 in
theorem fw_X7_289 : Cond.fieldLink RX7 289 (TX1 1).1 (TX1 1).2.1 (TX1 1).2.2.1 ∈ am_TB := am_in 219 (by decide +kernel) rfl
set_option maxRecDepth 20000 in
theorem gf_X7_289 : am_gf RX7 289 1 1 := ⟨RX1, TX1, 3, rfl, by decide, by decide, fw_X7_289, in_X1⟩
set_option maxRecDepth 20000 in
theorem fw_X7_295 : Cond.fieldLink RX7 295 (TX5 1).1 (TX5 1).2.1 (TX5 1).2.2.1 ∈ am_TB := am_in 120 (by decide +kernel) rfl
set_option maxRecDepth 20000 in
theorem gf_X7_295 : am_gf RX7 295 4 1 := ⟨RX5, TX5, 9, rfl, by decide, by decide, fw_X7_295, in_X5⟩
set_option maxRecDepth 20000 in
theorem fw_X7_301 : Cond.fieldLink RX7 301 (TX6 1).1 (TX6 1).2.1 (TX6 1).2.2.1 ∈ am_TB := am_in 95 (by decide +kernel) rfl
set_option maxRecDepth 20000 in
theorem gf_X7_301 : am_gf RX7 301 5 1 := ⟨RX6, TX6, 4, rfl, by decide, by decide, fw_X7_301, in_X6⟩
set_option maxRecDepth 20000 in
theorem fw_X8_7 : Cond.fieldLink RX8 7 (TX8 0).1 (TX8 0).2.1 (TX8 0).2.2.1 ∈ am_TB := am_in 746 (by decide +kernel) rfl
set_option maxRecDepth 20000 in
theorem gf_X8_7 : am_gf RX8 7 7 0 := ⟨RX8, TX8, 24, rfl, by decide, by decide, fw_X8_7, in_X8⟩
set_option maxRecDepth 20000 in
theorem pf_X8_7 : am_pf RX8 7 7 0 true (tyX8 0) := ⟨RX8, TX8, 24, tyX8, rfl, by decide, by decide, fw_X8_7, in_X8, tyX8_ok, nmX8, rfl, rfl, fun _ => rfl⟩
set_option maxRecDepth 20000 in
theorem fw_X8_13 : Cond.fieldLink RX8 13 (TX8 1).1 (TX8 1).2.1 (TX8 1).2.2.1 ∈ am_TB := am_in 747 (by decide +kernel) rfl
set_option maxRecDepth 20000 in
theorem gf_X8_13 : am_gf RX8 13 7 1 := ⟨RX8, TX8, 24, rfl, by decide, by decide, fw_X8_13, in_X8⟩
set_option maxRecDepth 20000 in
theorem pf_X8_13 : am_pf RX8 13 7 1 true (tyX8 1) := ⟨RX8, TX8, 24, tyX8, rfl, by decide, by decide, fw_X8_13, in_X8, tyX8_ok, nmX8, rfl, rfl, fun _ => rfl⟩
set_option maxRecDepth 20000 in
theorem fw_X8_16 : Cond.fieldLink RX8 16 (TX8 2).1 (TX8 2).2.1 (TX8 2).2.2.1 ∈ am_TB := am_in 748 (by decide +kernel) rfl
set_option maxRecDepth 20000 in
theorem gf_X8_16 : am_gf RX8 16 7 2 := ⟨RX8, TX8, 24, rfl, by decide, by decide, fw_X8_16, in_X8⟩
set_option maxRecDepth 20000 in
theorem pf_X8_16 : am_pf RX8 16 7 2 true (tyX8 2) := ⟨RX8, TX8, 24, tyX8, rfl, by decide, by decide, fw_X8_16, in_X8, tyX8_ok, nmX8, rfl, rfl, fun _ => rfl⟩
set_option maxRecDepth 20000 in
theorem fw_X8_19 : Cond.fieldLink RX8 19 (TX8 4).1 (TX8 4).2.1 (TX8 4).2.2.1 ∈ am_TB := am_in 750 (by decide +kernel) rfl
set_option maxRecDepth 20000 in
theorem gf_X8_19 : am_gf RX8 19 7 4 := ⟨RX8, TX8, 24, rfl, by decide, by decide, fw_X8_19, in_X8⟩
set_option maxRecDepth 20000 in
theorem pf_X8_19 : am_pf RX8 19 7 4 true (tyX8 4) := ⟨RX8, TX8, 24, tyX8, rfl, by decide, by decide, fw_X8_19, in_X8, tyX8_ok, nmX8, rfl, rfl, fun _ => rfl⟩
set_option maxRecDepth 20000 in
theorem fw_X8_22 : Cond.fieldLink RX8 22 (TX8 8).1 (TX8 8).2.1 (TX8 8).2.2.1 ∈ am_TB := am_in 754 (by decide +kernel) rfl
set_option maxRecDepth 20000 in
theorem gf_X8_22 : am_gf RX8 22 7 8 := ⟨RX8, TX8, 24, rfl, by decide, by decide, fw_X8_22, in_X8⟩
set_option maxRecDepth 20000 in
theorem pf_X8_22 : am_pf RX8 22 7 8 true (tyX8 8) := ⟨RX8, TX8, 24, tyX8, rfl, by decide, by decide, fw_X8_22, in_X8, tyX8_ok, nmX8, rfl, rfl, fun _ => rfl⟩
set_option maxRecDepth 20000 in
theorem fw_X8_25 : Cond.fieldLink RX8 25 (TX8 10).1 (TX8 10).2.1 (TX8 10).2.2.1 ∈ am_TB := am_in 756 (by decide +kernel) rfl
set_option maxRecDepth 20000 in
theorem gf_X8_25 : am_gf RX8 25 7 10 := ⟨RX8, TX8, 24, rfl, by decide, by decide, fw_X8_25, in_X8⟩
set_option maxRecDepth 20000 in
theorem pf_X8_25 : am_pf RX8 25 7 10 true (tyX8 10) := ⟨RX8, TX8, 24, tyX8, rfl, by decide, by decide, fw_X8_25, in_X8, tyX8_ok, nmX8, rfl, rfl, fun _ => rfl⟩
set_option maxRecDepth 20000 in
theorem fw_X8_28 : Cond.fieldLink RX8 28 (TX8 11).1 (TX8 11).2.1 (TX8 11).2.2.1 ∈ am_TB := am_in 757 (by decide +kernel) rfl
set_option maxRecDepth 20000 in
theorem gf_X8_28 : am_gf RX8 28 7 11 := ⟨RX8, TX8, 24, rfl, by decide, by decide, fw_X8_28, in_X8⟩
set_option maxRecDepth 20000 in
theorem pf_X8_28 : am_pf RX8 28 7 11 true (tyX8 11) := ⟨RX8, TX8, 24, tyX8, rfl, by decide, by decide, fw_X8_28, in_X8, tyX8_ok, nmX8, rfl, rfl, fun _ => rfl⟩
set_option maxRecDepth 20000 in
theorem fw_X8_31 : Cond.fieldLink RX8 31 (TX8 12).1 (TX8 12).2.1 (TX8 12).2.2.1 ∈ am_TB := am_in 758 (by decide +kernel) rfl
set_option maxRecDepth 20000 in
theorem gf_X8_31 : am_gf RX8 31 7 12 := ⟨RX8, TX8, 24, rfl, by decide, by decide, fw_X8_31, in_X8⟩
set_option maxRecDepth 20000 in
theorem pf_X8_31 : am_pf RX8 31 7 12 true (tyX8 12) := ⟨RX8, TX8, 24, tyX8, rfl, by decide, by decide, fw_X8_31, in_X8, tyX8_ok, nmX8, rfl, rfl, fun _ => rfl⟩
set_option maxRecDepth 20000 in
theorem fw_X8_35 : Cond.fieldLink RX8 35 (TX8 14).1 (TX8 14).2.1 (TX8 14).2.2.1 ∈ am_TB := am_in 760 (by decide +kernel) rfl
set_option maxRecDepth 20000 in
theorem gf_X8_35 : am_gf RX8 35 7 14 := ⟨RX8, TX8, 24, rfl, by decide, by decide, fw_X8_35, in_X8⟩
set_option maxRecDepth 20000 in
theorem pf_X8_35 : am_pf RX8 35 7 14 true (tyX8 14) := ⟨RX8, TX8, 24, tyX8, rfl, by decide, by decide, fw_X8_35, in_X8, tyX8_ok, nmX8, rfl, rfl, fun _ => rfl⟩
set_option maxRecDepth 20000 in
theorem fw_X8_38 : Cond.fieldLink RX8 38 (TX8 20).1 (TX8 20).2.1 (TX8 20).2.2.1 ∈ am_TB := am_in 766 (by decide +kernel) rfl
set_option maxRecDepth 20000 in
theorem gf_X8_38 : am_gf RX8 38 7 20 := ⟨RX8, TX8, 24, rfl, by decide, by decide, fw_X8_38, in_X8⟩
set_option maxRecDepth 20000 in
theorem pf_X8_38 : am_pf RX8 38 7 20 true (tyX8 20) := ⟨RX8, TX8, 24, tyX8, rfl, by decide, by decide, fw_X8_38, in_X8, tyX8_ok, nmX8, rfl, rfl, fun _ => rfl⟩
set_option maxRecDepth 20000 in
theorem fw_X8_41 : Cond.fieldLink RX8 41 (TX8 21).1 (TX8 21).2.1 (TX8 21).2.2.1 ∈ am_TB := am_in 767 (by decide +kernel) rfl
set_option maxRecDepth 20000 in
theorem gf_X8_41 : am_gf RX8 41 7 21 := ⟨RX8, TX8, 24, rfl, by decide, by decide, fw_X8_41, in_X8⟩
set_option maxRecDepth 20000 in
theorem pf_X8_41 : am_pf RX8 41 7 21 true (tyX8 21) := ⟨RX8, TX8, 24, tyX8, rfl, by decide, by decide, fw_X8_41, in_X8, tyX8_ok, nmX8, rfl, rfl, fun _ => rfl⟩
set_option maxRecDepth 20000 in
theorem fw_X8_44 : Cond.fieldLink RX8 44 (TX8 22).1 (TX8 22).2.1 (TX8 22).2.2.1 ∈ am_TB := am_in 768 (by decide +kernel) rfl
set_option maxRecDepth 20000 in
theorem gf_X8_44 : am_gf RX8 44 7 22 := ⟨RX8, TX8, 24, rfl, by decide, by decide, fw_X8_44, in_X8⟩
set_option maxRecDepth 20000 in
theorem pf_X8_44 : am_pf RX8 44 7 22 true (tyX8 22) := ⟨RX8, TX8, 24, tyX8, rfl, by decide, by decide, fw_X8_44, in_X8, tyX8_ok, nmX8, rfl, rfl, fun _ => rfl⟩
set_option maxRecDepth 20000 in
theorem fw_X8_47 : Cond.fieldLink RX8 47 (TX8 23).1 (TX8 23).2.1 (TX8 23).2.2.1 ∈ am_TB := am_in 769 (by decide +kernel) rfl
set_option maxRecDepth 20000 in
theorem gf_X8_47 : am_gf RX8 47 7 23 := ⟨RX8, TX8, 24, rfl, by decide, by decide, fw_X8_47, in_X8⟩
set_option maxRecDepth 20000 in
theorem pf_X8_47 : am_pf RX8 47 7 23 true (tyX8 23) := ⟨RX8, TX8, 24, tyX8, rfl, by decide, by decide, fw_X8_47, in_X8, tyX8_ok, nmX8, rfl, rfl, fun _ => rfl⟩
set_option maxRecDepth 20000 in
theorem fw_X8_50 : Cond.fieldLink RX8 50 (TX8 3).1 (TX8 3).2.1 (TX8 3).2.2.1 ∈ am_TB := am_in 749 (by decide +kernel) rfl
set_option maxRecDepth 20000 in
theorem gf_X8_50 : am_gf RX8 50 7 3 := ⟨RX8, TX8, 24, rfl, by decide, by decide, fw_X8_50, in_X8⟩
set_option maxRecDepth 20000 in
theorem pf_X8_50 : am_pf RX8 50 7 3 false .int := ⟨RX8, TX8, 24, tyX8, rfl, by decide, by decide, fw_X8_50, in_X8, tyX8_ok, nmX8, rfl, rfl, fun h => by cases h⟩
set_option maxRecDepth 20000 in
theorem fw_X8_77 : Cond.fieldLink RX8 77 (TX8 5).1 (TX8 5).2.1 (TX8 5).2.2.1 ∈ am_TB := am_in 751 (by decide +kernel) rfl
set_option maxRecDepth 20000 in
theorem gf_X8_77 : am_gf RX8 77 7 5 := ⟨RX8, TX8, 24, rfl, by decide, by decide, fw_X8_77, in_X8⟩
set_option maxRecDepth 20000 in
theorem pf_X8_77 : am_pf RX8 77 7 5 false .int := ⟨RX8, TX8, 24, tyX8, rfl, by decide, by decide, fw_X8_77, in_X8, tyX8_ok, nmX8, rfl, rfl, fun h => by cases h⟩
set_option maxRecDepth 20000 in
theorem fw_X8_85 : Cond.fieldLink RX8 85 (TX8 15).1 (TX8 15).2.1 (TX8 15).2.2.1 ∈ am_TB := am_in 761 (by decide +kernel) rfl
set_option maxRecDepth 20000 in
theorem gf_X8_85 : am_gf RX8 85 7 15 := ⟨RX8, TX8, 24, rfl, by decide, by decide, fw_X8_85, in_X8⟩
set_option maxRecDepth 20000 in
theorem pf_X8_85 : am_pf RX8 85 7 15 false .int := ⟨RX8, TX8, 24, tyX8, rfl, by decide, by decide, fw_X8_85, in_X8, tyX8_ok, nmX8, rfl, rfl, fun h => by cases h⟩
set_option maxRecDepth 20000 in
theorem fw_X8_88 : Cond.fieldLink RX8 88 (TX8 16).1 (TX8 16).2.1 (TX8 16).2.2.1 ∈ am_TB := am_in 762 (by decide +kernel) rfl
set_option maxRecDepth 20000 in
theorem gf_X8_88 : am_gf RX8 88 7 16 := ⟨RX8, TX8, 24, rfl, by decide, by decide, fw_X8_88, in_X8⟩
set_option maxRecDepth 20000 in
theorem pf_X8_88 : am_pf RX8 88 7 16 false .int := ⟨RX8, TX8, 24, tyX8, rfl, by decide, by decide, fw_X8_88, in_X8, tyX8_ok, nmX8, rfl, rfl, fun h => by cases h⟩
set_option maxRecDepth 20000 in
theorem fw_X8_91 : Cond.fieldLink RX8 91 (TX8 19).1 (TX8 19).2.1 (TX8 19).2.2.1 ∈ am_TB := am_in 765 (by decide +kernel) rfl
set_option maxRecDepth 20000 in
theorem gf_X8_91 : am_gf RX8 91 7 19 := ⟨RX8, TX8, 24, rfl, by decide, by decide, fw_X8_91, in_X8⟩
set_option maxRecDepth 20000 in
theorem pf_X8_91 : am_pf RX8 91 7 19 false .int := ⟨RX8, TX8, 24, tyX8, rfl, by decide, by decide, fw_X8_91, in_X8, tyX8_ok, nmX8, rfl, rfl, fun h => by cases h⟩
set_option maxRecDepth 20000 in
theorem fw_X8_101 : Cond.fieldLink RX8 101 (TX8 17).1 (TX8 17).2.1 (TX8 17).2.2.1 ∈ am_TB := am_in 763 (by decide +kernel) rfl
set_option maxRecDepth 20000 in
theorem gf_X8_101 : am_gf RX8 101 7 17 := ⟨RX8, TX8, 24, rfl, by decide, by decide, fw_X8_101, in_X8⟩
set_option maxRecDepth 20000 in
theorem pf_X8_101 : am_pf RX8 101 7 17 false .int := ⟨RX8, TX8, 24, tyX8, rfl, by decide, by decide, fw_X8_101, in_X8, tyX8_ok, nmX8, rfl, rfl, fun h => by cases h⟩
set_option maxRecDepth 20000 in
theorem fw_X8_104 : Cond.fieldLink RX8 104 (TX8 18).1 (TX8 18).2.1 (TX8 18).2.2.1 ∈ am_TB := am_in 764 (by decide +kernel) rfl
set_option maxRecDepth 20000 in
theorem gf_X8_104 : am_gf RX8 104 7 18 := ⟨RX8, TX8, 24, rfl, by decide, by decide, fw_X8_104, in_X8⟩
set_option maxRecDepth 20000 in
theorem pf_X8_104 : am_pf RX8 104 7 18 false .int := ⟨RX8, TX8, 24, tyX8, rfl, by decide, by decide, fw_X8_104, in_X8, tyX8_ok, nmX8, rfl, rfl, fun h => by cases h⟩
set_option maxRecDepth 20000 in
theorem fw_X8_107 : Cond.fieldLink RX8 107 (TX8 6).1 (TX8 6).2.1 (TX8 6).2.2.1 ∈ am_TB := am_in 752 (by decide +kernel) rfl
set_option maxRecDepth 20000 in
theorem gf_X8_107 : am_gf RX8 107 7 6 := ⟨RX8, TX8, 24, rfl, by decide, by decide, fw_X8_107, in_X8⟩
set_option maxRecDepth 20000 in
theorem pf_X8_107 : am_pf RX8 107 7 6 false .int := ⟨RX8, TX8, 24, tyX8, rfl, by decide, by decide, fw_X8_107, in_X8, tyX8_ok, nmX8, rfl, rfl, fun h => by cases h⟩
set_option maxRecDepth 20000 in
theorem fw_X8_137 : Cond.fieldLink RX8 137 (TX8 7).1 (TX8 7).2.1 (TX8 7).2.2.1 ∈ am_TB := am_in 753 (by decide +kernel) rfl
set_option maxRecDepth 20000 in
theorem gf_X8_137 : am_gf RX8 137 7 7 := ⟨RX8, TX8, 24, rfl, by decide, by decide, fw_X8_137, in_X8⟩
set_option maxRecDepth 20000 in
theorem pf_X8_137 : am_pf RX8 137 7 7 false .boolean := ⟨RX8, TX8, 24, tyX8, rfl, by decide, by decide, fw_X8_137, in_X8, tyX8_ok, nmX8, rfl, rfl, fun h => by cases h⟩
set_option maxRecDepth 20000 in
theorem fw_X8_141 : Cond.fieldLink RX8 141 (TX8 9).1 (TX8 9).2.1 (TX8 9).2.2.1 ∈ am_TB := am_in 755 (by decide +kernel) rfl
set_option maxRecDepth 20000 in
theorem gf_X8_141 : am_gf RX8 141 7 9 := ⟨RX8, TX8, 24, rfl, by decide, by decide, fw_X8_141, in_X8⟩
set_option maxRecDepth 20000 in
theorem pf_X8_141 : am_pf RX8 141 7 9 false .int := ⟨RX8, TX8, 24, tyX8, rfl, by decide, by decide, fw_X8_141, in_X8, tyX8_ok, nmX8, rfl, rfl, fun h => by cases h⟩
set_option maxRecDepth 20000 in
theorem fw_X8_262 : Cond.fieldLink RX8 262 (TX8 13).1 (TX8 13).2.1 (TX8 13).2.2.1 ∈ am_TB := am_in 759 (by decide +kernel) rfl
set_option maxRecDepth 20000 in
theorem gf_X8_262 : am_gf RX8 262 7 13 := ⟨RX8, TX8, 24, rfl, by decide, by decide, fw_X8_262, in_X8⟩
set_option maxRecDepth 20000 in
theorem pf_X8_262 : am_pf RX8 262 7 13 false .int := ⟨RX8, TX8, 24, tyX8, rfl, by decide, by decide, fw_X8_262, in_X8, tyX8_ok, nmX8, rfl, rfl, fun h => by cases h⟩
set_option maxRecDepth 20000 in
theorem cw_X7_init : Cond.code yX7_init cX7_init 2 none ∈ am_TB := am_in 58 (by decide +kernel) rfl
set_option maxRecDepth 20000 in
theorem im_X7_init : Cond.instanceMethod yX7_init ∈ am_TB := am_in 57 (by decide +kernel) rfl
set_option maxRecDepth 20000 in
theorem nm_X7_init : yX7_init.cls ≠ "java/lang/invoke/MethodHandle" ∧ yX7_init.cls ≠ "java/lang/invoke/VarHandle" ∧ (parseMethodDescriptor yX7_init.desc).map (fun d => d.parameters.length) = some 0 := by decide +kernel
set_option maxRecDepth 20000 in
theorem ml_L_9 : am_ml RL 9 yX7_init cX7_init 2 none 0 := ⟨am_in 56 (by decide +kernel) rfl, iw_X7, cw_X7_init, nm_X7_init.1, nm_X7_init.2.1, nm_X7_init.2.2, by decide⟩
set_option maxRecDepth 20000 in
theorem cw_X8_init : Cond.code yX8_init cX8_init 2 none ∈ am_TB := am_in 744 (by decide +kernel) rfl
set_option maxRecDepth 20000 in
theorem im_X8_init : Cond.instanceMethod yX8_init ∈ am_TB := am_in 743 (by decide +kernel) rfl
set_option maxRecDepth 20000 in
theorem nm_X8_init : yX8_init.cls ≠ "java/lang/invoke/MethodHandle" ∧ yX8_init.cls ≠ "java/lang/invoke/VarHandle" ∧ (parseMethodDescriptor yX8_init.desc).map (fun d => d.parameters.length) = some 0 := by decide +kernel
set_option maxRecDepth 20000 in
theorem ml_L_12 : am_ml RL 12 yX8_init cX8_init 2 none 0 := ⟨am_in 742 (by decide +kernel) rfl, iw_X8, cw_X8_init, nm_X8_init.1, nm_X8_init.2.1, nm_X8_init.2.2, by decide⟩
set_option maxRecDepth 20000 in
theorem cw_X7_row : Cond.code yX7_row cX7_row 4 (some .int) ∈ am_TB := am_in 263 (by decide +kernel) rfl
set_option maxRecDepth 20000 in
theorem im_X7_row : Cond.instanceMethod yX7_row ∈ am_TB := am_in 261 (by decide +kernel) rfl
set_option maxRecDepth 20000 in
theorem se_X7_row : Cond.selects yX7_row.cls yX7_row yX7_row ∈ am_TB := am_in 262 (by decide +kernel) rfl
set_option maxRecDepth 20000 in
theorem nm_X7_row : yX7_row.cls ≠ "java/lang/invoke/MethodHandle" ∧ yX7_row.cls ≠ "java/lang/invoke/VarHandle" ∧ (parseMethodDescriptor yX7_row.desc).map (fun d => d.parameters.length) = some 3 := by decide +kernel
set_option maxRecDepth 20000 in
theorem ml_L_13 : am_ml RL 13 yX7_row cX7_row 4 (some .int) 3 := ⟨am_in 260 (by decide +kernel) rfl, iw_X7, cw_X7_row, nm_X7_row.1, nm_X7_row.2.1, nm_X7_row.2.2, by decide⟩
set_option maxRecDepth 20000 in
theorem cw_X8_row : Cond.code yX8_row cX8_row 5 (some .int) ∈ am_TB := am_in 823 (by decide +kernel) rfl
set_option maxRecDepth 20000 in
theorem im_X8_row : Cond.instanceMethod yX8_row ∈ am_TB := am_in 821 (by decide +kernel) rfl
set_option maxRecDepth 20000 in
theorem se_X8_row : Cond.selects yX8_row.cls yX8_row yX8_row ∈ am_TB := am_in 822 (by decide +kernel) rfl
set_option maxRecDepth 20000 in
theorem nm_X8_row : yX8_row.cls ≠ "java/lang/invoke/MethodHandle" ∧ yX8_row.cls ≠ "java/lang/invoke/VarHandle" ∧ (parseMethodDescriptor yX8_row.desc).map (fun d => d.parameters.length) = some 3 := by decide +kernel
set_option maxRecDepth 20000 in
theorem ml_L_17 : am_ml RL 17 yX8_row cX8_row 5 (some .int) 3 := ⟨am_in 820 (by decide +kernel) rfl, iw_X8, cw_X8_row, nm_X8_row.1, nm_X8_row.2.1, nm_X8_row.2.2, by decide⟩
set_option maxRecDepth 20000 in
theorem cw_X7_set : Cond.code yX7_set cX7_set 5 (some .int) ∈ am_TB := am_in 290 (by decide +kernel) rfl
set_option maxRecDepth 20000 in
theorem im_X7_set : Cond.instanceMethod yX7_set ∈ am_TB := am_in 288 (by decide +kernel) rfl
set_option maxRecDepth 20000 in
theorem se_X7_set : Cond.selects yX7_set.cls yX7_set yX7_set ∈ am_TB := am_in 289 (by decide +kernel) rfl
set_option maxRecDepth 20000 in
theorem nm_X7_set : yX7_set.cls ≠ "java/lang/invoke/MethodHandle" ∧ yX7_set.cls ≠ "java/lang/invoke/VarHandle" ∧ (parseMethodDescriptor yX7_set.desc).map (fun d => d.parameters.length) = some 3 := by decide +kernel
set_option maxRecDepth 20000 in
theorem ml_L_18 : am_ml RL 18 yX7_set cX7_set 5 (some .int) 3 := ⟨am_in 287 (by decide +kernel) rfl, iw_X7, cw_X7_set, nm_X7_set.1, nm_X7_set.2.1, nm_X7_set.2.2, by decide⟩
set_option maxRecDepth 20000 in
theorem cw_X8_set : Cond.code yX8_set cX8_set 4 (some .int) ∈ am_TB := am_in 845 (by decide +kernel) rfl
set_option maxRecDepth 20000 in
theorem im_X8_set : Cond.instanceMethod yX8_set ∈ am_TB := am_in 843 (by decide +kernel) rfl
set_option maxRecDepth 20000 in
theorem se_X8_set : Cond.selects yX8_set.cls yX8_set yX8_set ∈ am_TB := am_in 844 (by decide +kernel) rfl
set_option maxRecDepth 20000 in
theorem nm_X8_set : yX8_set.cls ≠ "java/lang/invoke/MethodHandle" ∧ yX8_set.cls ≠ "java/lang/invoke/VarHandle" ∧ (parseMethodDescriptor yX8_set.desc).map (fun d => d.parameters.length) = some 3 := by decide +kernel
set_option maxRecDepth 20000 in
theorem ml_L_21 : am_ml RL 21 yX8_set cX8_set 4 (some .int) 3 := ⟨am_in 842 (by decide +kernel) rfl, iw_X8, cw_X8_set, nm_X8_set.1, nm_X8_set.2.1, nm_X8_set.2.2, by decide⟩
set_option maxRecDepth 20000 in
theorem cw_X7_copy : Cond.code yX7_copy cX7_copy 8 (some .int) ∈ am_TB := am_in 310 (by decide +kernel) rfl
set_option maxRecDepth 20000 in
theorem im_X7_copy : Cond.instanceMethod yX7_copy ∈ am_TB := am_in 308 (by decide +kernel) rfl
set_option maxRecDepth 20000 in
theorem se_X7_copy : Cond.selects yX7_copy.cls yX7_copy yX7_copy ∈ am_TB := am_in 309 (by decide +kernel) rfl
set_option maxRecDepth 20000 in
theorem nm_X7_copy : yX7_copy.cls ≠ "java/lang/invoke/MethodHandle" ∧ yX7_copy.cls ≠ "java/lang/invoke/VarHandle" ∧ (parseMethodDescriptor yX7_copy.desc).map (fun d => d.parameters.length) = some 5 := by decide +kernel
set_option maxRecDepth 20000 in
theorem ml_L_22 : am_ml RL 22 yX7_copy cX7_copy 8 (some .int) 5 := ⟨am_in 307 (by decide +kernel) rfl, iw_X7, cw_X7_copy, nm_X7_copy.1, nm_X7_copy.2.1, nm_X7_copy.2.2, by decide⟩
set_option maxRecDepth 20000 in
theorem cw_X8_copy : Cond.code yX8_copy cX8_copy 8 (some .int) ∈ am_TB := am_in 849 (by decide +kernel) rfl
set_option maxRecDepth 20000 in
theorem im_X8_copy : Cond.instanceMethod yX8_copy ∈ am_TB := am_in 847 (by decide +kernel) rfl
set_option maxRecDepth 20000 in
theorem se_X8_copy : Cond.selects yX8_copy.cls yX8_copy yX8_copy ∈ am_TB := am_in 848 (by decide +kernel) rfl
set_option maxRecDepth 20000 in
theorem nm_X8_copy : yX8_copy.cls ≠ "java/lang/invoke/MethodHandle" ∧ yX8_copy.cls ≠ "java/lang/invoke/VarHandle" ∧ (parseMethodDescriptor yX8_copy.desc).map (fun d => d.parameters.length) = some 5 := by decide +kernel
set_option maxRecDepth 20000 in
theorem ml_L_26 : am_ml RL 26 yX8_copy cX8_copy 8 (some .int) 5 := ⟨am_in 846 (by decide +kernel) rfl, iw_X8, cw_X8_copy, nm_X8_copy.1, nm_X8_copy.2.1, nm_X8_copy.2.2, by decide⟩
set_option maxRecDepth 20000 in
theorem cw_X7_drop : Cond.code yX7_drop cX7_drop 2 (some .int) ∈ am_TB := am_in 318 (by decide +kernel) rfl
set_option maxRecDepth 20000 in
theorem im_X7_drop : Cond.instanceMethod yX7_drop ∈ am_TB := am_in 316 (by decide +kernel) rfl
set_option maxRecDepth 20000 in
theorem se_X7_drop : Cond.selects yX7_drop.cls yX7_drop yX7_drop ∈ am_TB := am_in 317 (by decide +kernel) rfl
set_option maxRecDepth 20000 in
theorem nm_X7_drop : yX7_drop.cls ≠ "java/lang/invoke/MethodHandle" ∧ yX7_drop.cls ≠ "java/lang/invoke/VarHandle" ∧ (parseMethodDescriptor yX7_drop.desc).map (fun d => d.parameters.length) = some 1 := by decide +kernel
set_option maxRecDepth 20000 in
theorem ml_L_27 : am_ml RL 27 yX7_drop cX7_drop 2 (some .int) 1 := ⟨am_in 315 (by decide +kernel) rfl, iw_X7, cw_X7_drop, nm_X7_drop.1, nm_X7_drop.2.1, nm_X7_drop.2.2, by decide⟩
set_option maxRecDepth 20000 in
theorem cw_X8_drop : Cond.code yX8_drop cX8_drop 3 (some .int) ∈ am_TB := am_in 853 (by decide +kernel) rfl
set_option maxRecDepth 20000 in
theorem im_X8_drop : Cond.instanceMethod yX8_drop ∈ am_TB := am_in 851 (by decide +kernel) rfl
set_option maxRecDepth 20000 in
theorem se_X8_drop : Cond.selects yX8_drop.cls yX8_drop yX8_drop ∈ am_TB := am_in 852 (by decide +kernel) rfl
set_option maxRecDepth 20000 in
theorem nm_X8_drop : yX8_drop.cls ≠ "java/lang/invoke/MethodHandle" ∧ yX8_drop.cls ≠ "java/lang/invoke/VarHandle" ∧ (parseMethodDescriptor yX8_drop.desc).map (fun d => d.parameters.length) = some 1 := by decide +kernel
set_option maxRecDepth 20000 in
theorem ml_L_31 : am_ml RL 31 yX8_drop cX8_drop 3 (some .int) 1 := ⟨am_in 850 (by decide +kernel) rfl, iw_X8, cw_X8_drop, nm_X8_drop.1, nm_X8_drop.2.1, nm_X8_drop.2.2, by decide⟩
set_option maxRecDepth 20000 in
theorem cw_X7_feed : Cond.code yX7_feed cX7_feed 2 (some .int) ∈ am_TB := am_in 322 (by decide +kernel) rfl
set_option maxRecDepth 20000 in
theorem im_X7_feed : Cond.instanceMethod yX7_feed ∈ am_TB := am_in 320 (by decide +kernel) rfl
set_option maxRecDepth 20000 in
theorem se_X7_feed : Cond.selects yX7_feed.cls yX7_feed yX7_feed ∈ am_TB := am_in 321 (by decide +kernel) rfl
set_option maxRecDepth 20000 in
theorem nm_X7_feed : yX7_feed.cls ≠ "java/lang/invoke/MethodHandle" ∧ yX7_feed.cls ≠ "java/lang/invoke/VarHandle" ∧ (parseMethodDescriptor yX7_feed.desc).map (fun d => d.parameters.length) = some 1 := by decide +kernel
set_option maxRecDepth 20000 in
theorem ml_L_32 : am_ml RL 32 yX7_feed cX7_feed 2 (some .int) 1 := ⟨am_in 319 (by decide +kernel) rfl, iw_X7, cw_X7_feed, nm_X7_feed.1, nm_X7_feed.2.1, nm_X7_feed.2.2, by decide⟩
set_option maxRecDepth 20000 in
theorem cw_X8_feed : Cond.code yX8_feed cX8_feed 2 (some .int) ∈ am_TB := am_in 857 (by decide +kernel) rfl
set_option maxRecDepth 20000 in
theorem im_X8_feed : Cond.instanceMethod yX8_feed ∈ am_TB := am_in 855 (by decide +kernel) rfl
set_option maxRecDepth 20000 in
theorem se_X8_feed : Cond.selects yX8_feed.cls yX8_feed yX8_feed ∈ am_TB := am_in 856 (by decide +kernel) rfl
set_option maxRecDepth 20000 in
theorem nm_X8_feed : yX8_feed.cls ≠ "java/lang/invoke/MethodHandle" ∧ yX8_feed.cls ≠ "java/lang/invoke/VarHandle" ∧ (parseMethodDescriptor yX8_feed.desc).map (fun d => d.parameters.length) = some 1 := by decide +kernel
set_option maxRecDepth 20000 in
theorem ml_L_35 : am_ml RL 35 yX8_feed cX8_feed 2 (some .int) 1 := ⟨am_in 854 (by decide +kernel) rfl, iw_X8, cw_X8_feed, nm_X8_feed.1, nm_X8_feed.2.1, nm_X8_feed.2.2, by decide⟩
set_option maxRecDepth 20000 in
theorem cw_X7_sky : Cond.code yX7_sky cX7_sky 2 (some .int) ∈ am_TB := am_in 331 (by decide +kernel) rfl
set_option maxRecDepth 20000 in
theorem im_X7_sky : Cond.instanceMethod yX7_sky ∈ am_TB := am_in 329 (by decide +kernel) rfl
set_option maxRecDepth 20000 in
theorem se_X7_sky : Cond.selects yX7_sky.cls yX7_sky yX7_sky ∈ am_TB := am_in 330 (by decide +kernel) rfl
set_option maxRecDepth 20000 in
theorem nm_X7_sky : yX7_sky.cls ≠ "java/lang/invoke/MethodHandle" ∧ yX7_sky.cls ≠ "java/lang/invoke/VarHandle" ∧ (parseMethodDescriptor yX7_sky.desc).map (fun d => d.parameters.length) = some 0 := by decide +kernel
set_option maxRecDepth 20000 in
theorem ml_L_36 : am_ml RL 36 yX7_sky cX7_sky 2 (some .int) 0 := ⟨am_in 328 (by decide +kernel) rfl, iw_X7, cw_X7_sky, nm_X7_sky.1, nm_X7_sky.2.1, nm_X7_sky.2.2, by decide⟩
set_option maxRecDepth 20000 in
theorem cw_X8_sky : Cond.code yX8_sky cX8_sky 1 (some .int) ∈ am_TB := am_in 863 (by decide +kernel) rfl
set_option maxRecDepth 20000 in
theorem im_X8_sky : Cond.instanceMethod yX8_sky ∈ am_TB := am_in 861 (by decide +kernel) rfl
set_option maxRecDepth 20000 in
theorem se_X8_sky : Cond.selects yX8_sky.cls yX8_sky yX8_sky ∈ am_TB := am_in 862 (by decide +kernel) rfl
set_option maxRecDepth 20000 in
theorem nm_X8_sky : yX8_sky.cls ≠ "java/lang/invoke/MethodHandle" ∧ yX8_sky.cls ≠ "java/lang/invoke/VarHandle" ∧ (parseMethodDescriptor yX8_sky.desc).map (fun d => d.parameters.length) = some 0 := by decide +kernel
set_option maxRecDepth 20000 in
theorem ml_L_40 : am_ml RL 40 yX8_sky cX8_sky 1 (some .int) 0 := ⟨am_in 860 (by decide +kernel) rfl, iw_X8, cw_X8_sky, nm_X8_sky.1, nm_X8_sky.2.1, nm_X8_sky.2.2, by decide⟩
set_option maxRecDepth 20000 in
theorem cw_X7_fault : Cond.code yX7_fault cX7_fault 1 (some .int) ∈ am_TB := am_in 387 (by decide +kernel) rfl
set_option maxRecDepth 20000 in
theorem im_X7_fault : Cond.instanceMethod yX7_fault ∈ am_TB := am_in 385 (by decide +kernel) rfl
set_option maxRecDepth 20000 in
theorem se_X7_fault : Cond.selects yX7_fault.cls yX7_fault yX7_fault ∈ am_TB := am_in 386 (by decide +kernel) rfl
set_option maxRecDepth 20000 in
theorem nm_X7_fault : yX7_fault.cls ≠ "java/lang/invoke/MethodHandle" ∧ yX7_fault.cls ≠ "java/lang/invoke/VarHandle" ∧ (parseMethodDescriptor yX7_fault.desc).map (fun d => d.parameters.length) = some 0 := by decide +kernel
set_option maxRecDepth 20000 in
theorem ml_L_41 : am_ml RL 41 yX7_fault cX7_fault 1 (some .int) 0 := ⟨am_in 384 (by decide +kernel) rfl, iw_X7, cw_X7_fault, nm_X7_fault.1, nm_X7_fault.2.1, nm_X7_fault.2.2, by decide⟩
set_option maxRecDepth 20000 in
theorem cw_X8_fault : Cond.code yX8_fault cX8_fault 1 (some .int) ∈ am_TB := am_in 909 (by decide +kernel) rfl
set_option maxRecDepth 20000 in
theorem im_X8_fault : Cond.instanceMethod yX8_fault ∈ am_TB := am_in 907 (by decide +kernel) rfl
set_option maxRecDepth 20000 in
theorem se_X8_fault : Cond.selects yX8_fault.cls yX8_fault yX8_fault ∈ am_TB := am_in 908 (by decide +kernel) rfl
set_option maxRecDepth 20000 in
theorem nm_X8_fault : yX8_fault.cls ≠ "java/lang/invoke/MethodHandle" ∧ yX8_fault.cls ≠ "java/lang/invoke/VarHandle" ∧ (parseMethodDescriptor yX8_fault.desc).map (fun d => d.parameters.length) = some 0 := by decide +kernel
set_option maxRecDepth 20000 in
theorem ml_L_44 : am_ml RL 44 yX8_fault cX8_fault 1 (some .int) 0 := ⟨am_in 906 (by decide +kernel) rfl, iw_X8, cw_X8_fault, nm_X8_fault.1, nm_X8_fault.2.1, nm_X8_fault.2.2, by decide⟩
set_option maxRecDepth 20000 in
theorem cw_X7_undo : Cond.code yX7_undo cX7_undo 1 (some .int) ∈ am_TB := am_in 391 (by decide +kernel) rfl
set_option maxRecDepth 20000 in
theorem im_X7_undo : Cond.instanceMethod yX7_undo ∈ am_TB := am_in 389 (by decide +kernel) rfl
set_option maxRecDepth 20000 in
theorem se_X7_undo : Cond.selects yX7_undo.cls yX7_undo yX7_undo ∈ am_TB := am_in 390 (by decide +kernel) rfl
set_option maxRecDepth 20000 in
theorem nm_X7_undo : yX7_undo.cls ≠ "java/lang/invoke/MethodHandle" ∧ yX7_undo.cls ≠ "java/lang/invoke/VarHandle" ∧ (parseMethodDescriptor yX7_undo.desc).map (fun d => d.parameters.length) = some 0 := by decide +kernel
set_option maxRecDepth 20000 in
theorem ml_L_45 : am_ml RL 45 yX7_undo cX7_undo 1 (some .int) 0 := ⟨am_in 388 (by decide +kernel) rfl, iw_X7, cw_X7_undo, nm_X7_undo.1, nm_X7_undo.2.1, nm_X7_undo.2.2, by decide⟩
set_option maxRecDepth 20000 in
theorem cw_X8_undo : Cond.code yX8_undo cX8_undo 1 (some .int) ∈ am_TB := am_in 913 (by decide +kernel) rfl
set_option maxRecDepth 20000 in
theorem im_X8_undo : Cond.instanceMethod yX8_undo ∈ am_TB := am_in 911 (by decide +kernel) rfl
set_option maxRecDepth 20000 in
theorem se_X8_undo : Cond.selects yX8_undo.cls yX8_undo yX8_undo ∈ am_TB := am_in 912 (by decide +kernel) rfl
set_option maxRecDepth 20000 in
theorem nm_X8_undo : yX8_undo.cls ≠ "java/lang/invoke/MethodHandle" ∧ yX8_undo.cls ≠ "java/lang/invoke/VarHandle" ∧ (parseMethodDescriptor yX8_undo.desc).map (fun d => d.parameters.length) = some 0 := by decide +kernel
set_option maxRecDepth 20000 in
theorem ml_L_48 : am_ml RL 48 yX8_undo cX8_undo 1 (some .int) 0 := ⟨am_in 910 (by decide +kernel) rfl, iw_X8, cw_X8_undo, nm_X8_undo.1, nm_X8_undo.2.1, nm_X8_undo.2.2, by decide⟩
set_option maxRecDepth 20000 in
theorem cw_X7_hours : Cond.code yX7_hours cX7_hours 3 (some .int) ∈ am_TB := am_in 401 (by decide +kernel) rfl
set_option maxRecDepth 20000 in
theorem im_X7_hours : Cond.instanceMethod yX7_hours ∈ am_TB := am_in 399 (by decide +kernel) rfl
set_option maxRecDepth 20000 in
theorem se_X7_hours : Cond.selects yX7_hours.cls yX7_hours yX7_hours ∈ am_TB := am_in 400 (by decide +kernel) rfl
set_option maxRecDepth 20000 in
theorem nm_X7_hours : yX7_hours.cls ≠ "java/lang/invoke/MethodHandle" ∧ yX7_hours.cls ≠ "java/lang/invoke/VarHandle" ∧ (parseMethodDescriptor yX7_hours.desc).map (fun d => d.parameters.length) = some 1 := by decide +kernel
set_option maxRecDepth 20000 in
theorem ml_L_49 : am_ml RL 49 yX7_hours cX7_hours 3 (some .int) 1 := ⟨am_in 398 (by decide +kernel) rfl, iw_X7, cw_X7_hours, nm_X7_hours.1, nm_X7_hours.2.1, nm_X7_hours.2.2, by decide⟩
set_option maxRecDepth 20000 in
theorem cw_X8_hours : Cond.code yX8_hours cX8_hours 3 (some .int) ∈ am_TB := am_in 918 (by decide +kernel) rfl
set_option maxRecDepth 20000 in
theorem im_X8_hours : Cond.instanceMethod yX8_hours ∈ am_TB := am_in 916 (by decide +kernel) rfl
set_option maxRecDepth 20000 in
theorem se_X8_hours : Cond.selects yX8_hours.cls yX8_hours yX8_hours ∈ am_TB := am_in 917 (by decide +kernel) rfl
set_option maxRecDepth 20000 in
theorem nm_X8_hours : yX8_hours.cls ≠ "java/lang/invoke/MethodHandle" ∧ yX8_hours.cls ≠ "java/lang/invoke/VarHandle" ∧ (parseMethodDescriptor yX8_hours.desc).map (fun d => d.parameters.length) = some 1 := by decide +kernel
set_option maxRecDepth 20000 in
theorem ml_L_52 : am_ml RL 52 yX8_hours cX8_hours 3 (some .int) 1 := ⟨am_in 915 (by decide +kernel) rfl, iw_X8, cw_X8_hours, nm_X8_hours.1, nm_X8_hours.2.1, nm_X8_hours.2.2, by decide⟩
set_option maxRecDepth 20000 in
theorem cw_X7_burn : Cond.code yX7_burn cX7_burn 3 (some .int) ∈ am_TB := am_in 453 (by decide +kernel) rfl
set_option maxRecDepth 20000 in
theorem im_X7_burn : Cond.instanceMethod yX7_burn ∈ am_TB := am_in 451 (by decide +kernel) rfl
set_option maxRecDepth 20000 in
theorem se_X7_burn : Cond.selects yX7_burn.cls yX7_burn yX7_burn ∈ am_TB := am_in 452 (by decide +kernel) rfl
set_option maxRecDepth 20000 in
theorem nm_X7_burn : yX7_burn.cls ≠ "java/lang/invoke/MethodHandle" ∧ yX7_burn.cls ≠ "java/lang/invoke/VarHandle" ∧ (parseMethodDescriptor yX7_burn.desc).map (fun d => d.parameters.length) = some 2 := by decide +kernel
set_option maxRecDepth 20000 in
theorem ml_L_53 : am_ml RL 53 yX7_burn cX7_burn 3 (some .int) 2 := ⟨am_in 450 (by decide +kernel) rfl, iw_X7, cw_X7_burn, nm_X7_burn.1, nm_X7_burn.2.1, nm_X7_burn.2.2, by decide⟩
set_option maxRecDepth 20000 in
theorem cw_X8_burn : Cond.code yX8_burn cX8_burn 3 (some .int) ∈ am_TB := am_in 945 (by decide +kernel) rfl
set_option maxRecDepth 20000 in
theorem im_X8_burn : Cond.instanceMethod yX8_burn ∈ am_TB := am_in 943 (by decide +kernel) rfl
set_option maxRecDepth 20000 in
theorem se_X8_burn : Cond.selects yX8_burn.cls yX8_burn yX8_burn ∈ am_TB := am_in 944 (by decide +kernel) rfl
set_option maxRecDepth 20000 in
theorem nm_X8_burn : yX8_burn.cls ≠ "java/lang/invoke/MethodHandle" ∧ yX8_burn.cls ≠ "java/lang/invoke/VarHandle" ∧ (parseMethodDescriptor yX8_burn.desc).map (fun d => d.parameters.length) = some 2 := by decide +kernel
set_option maxRecDepth 20000 in
theorem ml_L_57 : am_ml RL 57 yX8_burn cX8_burn 3 (some .int) 2 := ⟨am_in 942 (by decide +kernel) rfl, iw_X8, cw_X8_burn, nm_X8_burn.1, nm_X8_burn.2.1, nm_X8_burn.2.2, by decide⟩
set_option maxRecDepth 20000 in
theorem cw_X7_send : Cond.code yX7_send cX7_send 4 (some .int) ∈ am_TB := am_in 471 (by decide +kernel) rfl
set_option maxRecDepth 20000 in
theorem im_X7_send : Cond.instanceMethod yX7_send ∈ am_TB := am_in 469 (by decide +kernel) rfl
set_option maxRecDepth 20000 in
theorem se_X7_send : Cond.selects yX7_send.cls yX7_send yX7_send ∈ am_TB := am_in 470 (by decide +kernel) rfl
set_option maxRecDepth 20000 in
theorem nm_X7_send : yX7_send.cls ≠ "java/lang/invoke/MethodHandle" ∧ yX7_send.cls ≠ "java/lang/invoke/VarHandle" ∧ (parseMethodDescriptor yX7_send.desc).map (fun d => d.parameters.length) = some 3 := by decide +kernel
set_option maxRecDepth 20000 in
theorem ml_L_58 : am_ml RL 58 yX7_send cX7_send 4 (some .int) 3 := ⟨am_in 468 (by decide +kernel) rfl, iw_X7, cw_X7_send, nm_X7_send.1, nm_X7_send.2.1, nm_X7_send.2.2, by decide⟩
set_option maxRecDepth 20000 in
theorem cw_X8_send : Cond.code yX8_send cX8_send 4 (some .int) ∈ am_TB := am_in 963 (by decide +kernel) rfl
set_option maxRecDepth 20000 in
theorem im_X8_send : Cond.instanceMethod yX8_send ∈ am_TB := am_in 961 (by decide +kernel) rfl
set_option maxRecDepth 20000 in
theorem se_X8_send : Cond.selects yX8_send.cls yX8_send yX8_send ∈ am_TB := am_in 962 (by decide +kernel) rfl
set_option maxRecDepth 20000 in
theorem nm_X8_send : yX8_send.cls ≠ "java/lang/invoke/MethodHandle" ∧ yX8_send.cls ≠ "java/lang/invoke/VarHandle" ∧ (parseMethodDescriptor yX8_send.desc).map (fun d => d.parameters.length) = some 3 := by decide +kernel
set_option maxRecDepth 20000 in
theorem ml_L_61 : am_ml RL 61 yX8_send cX8_send 4 (some .int) 3 := ⟨am_in 960 (by decide +kernel) rfl, iw_X8, cw_X8_send, nm_X8_send.1, nm_X8_send.2.1, nm_X8_send.2.2, by decide⟩
set_option maxRecDepth 20000 in
theorem cw_X7_wind : Cond.code yX7_wind cX7_wind 4 (some .int) ∈ am_TB := am_in 475 (by decide +kernel) rfl
set_option maxRecDepth 20000 in
theorem im_X7_wind : Cond.instanceMethod yX7_wind ∈ am_TB := am_in 473 (by decide +kernel) rfl
set_option maxRecDepth 20000 in
theorem se_X7_wind : Cond.selects yX7_wind.cls yX7_wind yX7_wind ∈ am_TB := am_in 474 (by decide +kernel) rfl
set_option maxRecDepth 20000 in
theorem nm_X7_wind : yX7_wind.cls ≠ "java/lang/invoke/MethodHandle" ∧ yX7_wind.cls ≠ "java/lang/invoke/VarHandle" ∧ (parseMethodDescriptor yX7_wind.desc).map (fun d => d.parameters.length) = some 2 := by decide +kernel
set_option maxRecDepth 20000 in
theorem ml_L_62 : am_ml RL 62 yX7_wind cX7_wind 4 (some .int) 2 := ⟨am_in 472 (by decide +kernel) rfl, iw_X7, cw_X7_wind, nm_X7_wind.1, nm_X7_wind.2.1, nm_X7_wind.2.2, by decide⟩
set_option maxRecDepth 20000 in
theorem cw_X8_wind : Cond.code yX8_wind cX8_wind 4 (some .int) ∈ am_TB := am_in 968 (by decide +kernel) rfl
set_option maxRecDepth 20000 in
theorem im_X8_wind : Cond.instanceMethod yX8_wind ∈ am_TB := am_in 966 (by decide +kernel) rfl
set_option maxRecDepth 20000 in
theorem se_X8_wind : Cond.selects yX8_wind.cls yX8_wind yX8_wind ∈ am_TB := am_in 967 (by decide +kernel) rfl
set_option maxRecDepth 20000 in
theorem nm_X8_wind : yX8_wind.cls ≠ "java/lang/invoke/MethodHandle" ∧ yX8_wind.cls ≠ "java/lang/invoke/VarHandle" ∧ (parseMethodDescriptor yX8_wind.desc).map (fun d => d.parameters.length) = some 2 := by decide +kernel
set_option maxRecDepth 20000 in
theorem ml_L_65 : am_ml RL 65 yX8_wind cX8_wind 4 (some .int) 2 := ⟨am_in 965 (by decide +kernel) rfl, iw_X8, cw_X8_wind, nm_X8_wind.1, nm_X8_wind.2.1, nm_X8_wind.2.2, by decide⟩
set_option maxRecDepth 20000 in
theorem cw_X7_office : Cond.code yX7_office cX7_office 3 (some .int) ∈ am_TB := am_in 479 (by decide +kernel) rfl
set_option maxRecDepth 20000 in
theorem im_X7_office : Cond.instanceMethod yX7_office ∈ am_TB := am_in 477 (by decide +kernel) rfl
set_option maxRecDepth 20000 in
theorem se_X7_office : Cond.selects yX7_office.cls yX7_office yX7_office ∈ am_TB := am_in 478 (by decide +kernel) rfl
set_option maxRecDepth 20000 in
theorem nm_X7_office : yX7_office.cls ≠ "java/lang/invoke/MethodHandle" ∧ yX7_office.cls ≠ "java/lang/invoke/VarHandle" ∧ (parseMethodDescriptor yX7_office.desc).map (fun d => d.parameters.length) = some 2 := by decide +kernel
set_option maxRecDepth 20000 in
theorem ml_L_66 : am_ml RL 66 yX7_office cX7_office 3 (some .int) 2 := ⟨am_in 476 (by decide +kernel) rfl, iw_X7, cw_X7_office, nm_X7_office.1, nm_X7_office.2.1, nm_X7_office.2.2, by decide⟩
set_option maxRecDepth 20000 in
theorem cw_X8_office : Cond.code yX8_office cX8_office 4 (some .int) ∈ am_TB := am_in 974 (by decide +kernel) rfl
set_option maxRecDepth 20000 in
theorem im_X8_office : Cond.instanceMethod yX8_office ∈ am_TB := am_in 972 (by decide +kernel) rfl
set_option maxRecDepth 20000 in
theorem se_X8_office : Cond.selects yX8_office.cls yX8_office yX8_office ∈ am_TB := am_in 973 (by decide +kernel) rfl
set_option maxRecDepth 20000 in
theorem nm_X8_office : yX8_office.cls ≠ "java/lang/invoke/MethodHandle" ∧ yX8_office.cls ≠ "java/lang/invoke/VarHandle" ∧ (parseMethodDescriptor yX8_office.desc).map (fun d => d.parameters.length) = some 2 := by decide +kernel
set_option maxRecDepth 20000 in
theorem ml_L_69 : am_ml RL 69 yX8_office cX8_office 4 (some .int) 2 := ⟨am_in 971 (by decide +kernel) rfl, iw_X8, cw_X8_office, nm_X8_office.1, nm_X8_office.2.1, nm_X8_office.2.2, by decide⟩
set_option maxRecDepth 20000 in
theorem cw_X7_land : Cond.code yX7_land cX7_land 2 (some .int) ∈ am_TB := am_in 485 (by decide +kernel) rfl
set_option maxRecDepth 20000 in
theorem im_X7_land : Cond.instanceMethod yX7_land ∈ am_TB := am_in 483 (by decide +kernel) rfl
set_option maxRecDepth 20000 in
theorem se_X7_land : Cond.selects yX7_land.cls yX7_land yX7_land ∈ am_TB := am_in 484 (by decide +kernel) rfl
set_option maxRecDepth 20000 in
theorem nm_X7_land : yX7_land.cls ≠ "java/lang/invoke/MethodHandle" ∧ yX7_land.cls ≠ "java/lang/invoke/VarHandle" ∧ (parseMethodDescriptor yX7_land.desc).map (fun d => d.parameters.length) = some 1 := by decide +kernel
set_option maxRecDepth 20000 in
theorem ml_L_70 : am_ml RL 70 yX7_land cX7_land 2 (some .int) 1 := ⟨am_in 482 (by decide +kernel) rfl, iw_X7, cw_X7_land, nm_X7_land.1, nm_X7_land.2.1, nm_X7_land.2.2, by decide⟩
set_option maxRecDepth 20000 in
theorem cw_X8_land : Cond.code yX8_land cX8_land 2 (some .int) ∈ am_TB := am_in 979 (by decide +kernel) rfl
set_option maxRecDepth 20000 in
theorem im_X8_land : Cond.instanceMethod yX8_land ∈ am_TB := am_in 977 (by decide +kernel) rfl
set_option maxRecDepth 20000 in
theorem se_X8_land : Cond.selects yX8_land.cls yX8_land yX8_land ∈ am_TB := am_in 978 (by decide +kernel) rfl
set_option maxRecDepth 20000 in
theorem nm_X8_land : yX8_land.cls ≠ "java/lang/invoke/MethodHandle" ∧ yX8_land.cls ≠ "java/lang/invoke/VarHandle" ∧ (parseMethodDescriptor yX8_land.desc).map (fun d => d.parameters.length) = some 1 := by decide +kernel
set_option maxRecDepth 20000 in
theorem ml_L_73 : am_ml RL 73 yX8_land cX8_land 2 (some .int) 1 := ⟨am_in 976 (by decide +kernel) rfl, iw_X8, cw_X8_land, nm_X8_land.1, nm_X8_land.2.1, nm_X8_land.2.2, by decide⟩
set_option maxRecDepth 20000 in
theorem cw_X7_ahead : Cond.code yX7_ahead cX7_ahead 4 (some .int) ∈ am_TB := am_in 496 (by decide +kernel) rfl
set_option maxRecDepth 20000 in
theorem im_X7_ahead : Cond.instanceMethod yX7_ahead ∈ am_TB := am_in 494 (by decide +kernel) rfl
set_option maxRecDepth 20000 in
theorem se_X7_ahead : Cond.selects yX7_ahead.cls yX7_ahead yX7_ahead ∈ am_TB := am_in 495 (by decide +kernel) rfl
set_option maxRecDepth 20000 in
theorem nm_X7_ahead : yX7_ahead.cls ≠ "java/lang/invoke/MethodHandle" ∧ yX7_ahead.cls ≠ "java/lang/invoke/VarHandle" ∧ (parseMethodDescriptor yX7_ahead.desc).map (fun d => d.parameters.length) = some 3 := by decide +kernel
set_option maxRecDepth 20000 in
theorem ml_L_74 : am_ml RL 74 yX7_ahead cX7_ahead 4 (some .int) 3 := ⟨am_in 493 (by decide +kernel) rfl, iw_X7, cw_X7_ahead, nm_X7_ahead.1, nm_X7_ahead.2.1, nm_X7_ahead.2.2, by decide⟩
set_option maxRecDepth 20000 in
theorem cw_X8_ahead : Cond.code yX8_ahead cX8_ahead 4 (some .int) ∈ am_TB := am_in 990 (by decide +kernel) rfl
set_option maxRecDepth 20000 in
theorem im_X8_ahead : Cond.instanceMethod yX8_ahead ∈ am_TB := am_in 988 (by decide +kernel) rfl
set_option maxRecDepth 20000 in
theorem se_X8_ahead : Cond.selects yX8_ahead.cls yX8_ahead yX8_ahead ∈ am_TB := am_in 989 (by decide +kernel) rfl
set_option maxRecDepth 20000 in
theorem nm_X8_ahead : yX8_ahead.cls ≠ "java/lang/invoke/MethodHandle" ∧ yX8_ahead.cls ≠ "java/lang/invoke/VarHandle" ∧ (parseMethodDescriptor yX8_ahead.desc).map (fun d => d.parameters.length) = some 3 := by decide +kernel
set_option maxRecDepth 20000 in
theorem ml_L_77 : am_ml RL 77 yX8_ahead cX8_ahead 4 (some .int) 3 := ⟨am_in 987 (by decide +kernel) rfl, iw_X8, cw_X8_ahead, nm_X8_ahead.1, nm_X8_ahead.2.1, nm_X8_ahead.2.2, by decide⟩
set_option maxRecDepth 20000 in
theorem cw_X7_down : Cond.code yX7_down cX7_down 2 (some .int) ∈ am_TB := am_in 513 (by decide +kernel) rfl
set_option maxRecDepth 20000 in
theorem im_X7_down : Cond.instanceMethod yX7_down ∈ am_TB := am_in 511 (by decide +kernel) rfl
set_option maxRecDepth 20000 in
theorem se_X7_down : Cond.selects yX7_down.cls yX7_down yX7_down ∈ am_TB := am_in 512 (by decide +kernel) rfl
set_option maxRecDepth 20000 in
theorem nm_X7_down : yX7_down.cls ≠ "java/lang/invoke/MethodHandle" ∧ yX7_down.cls ≠ "java/lang/invoke/VarHandle" ∧ (parseMethodDescriptor yX7_down.desc).map (fun d => d.parameters.length) = some 1 := by decide +kernel
set_option maxRecDepth 20000 in
theorem ml_L_78 : am_ml RL 78 yX7_down cX7_down 2 (some .int) 1 := ⟨am_in 510 (by decide +kernel) rfl, iw_X7, cw_X7_down, nm_X7_down.1, nm_X7_down.2.1, nm_X7_down.2.2, by decide⟩
set_option maxRecDepth 20000 in
theorem cw_X8_down : Cond.code yX8_down cX8_down 3 (some .int) ∈ am_TB := am_in 1001 (by decide +kernel) rfl
set_option maxRecDepth 20000 in
theorem im_X8_down : Cond.instanceMethod yX8_down ∈ am_TB := am_in 999 (by decide +kernel) rfl
set_option maxRecDepth 20000 in
theorem se_X8_down : Cond.selects yX8_down.cls yX8_down yX8_down ∈ am_TB := am_in 1000 (by decide +kernel) rfl
set_option maxRecDepth 20000 in
theorem nm_X8_down : yX8_down.cls ≠ "java/lang/invoke/MethodHandle" ∧ yX8_down.cls ≠ "java/lang/invoke/VarHandle" ∧ (parseMethodDescriptor yX8_down.desc).map (fun d => d.parameters.length) = some 1 := by decide +kernel
set_option maxRecDepth 20000 in
theorem ml_L_81 : am_ml RL 81 yX8_down cX8_down 3 (some .int) 1 := ⟨am_in 998 (by decide +kernel) rfl, iw_X8, cw_X8_down, nm_X8_down.1, nm_X8_down.2.1, nm_X8_down.2.2, by decide⟩
set_option maxRecDepth 20000 in
theorem cw_X7_meet : Cond.code yX7_meet cX7_meet 3 (some .int) ∈ am_TB := am_in 522 (by decide +kernel) rfl
set_option maxRecDepth 20000 in
theorem im_X7_meet : Cond.instanceMethod yX7_meet ∈ am_TB := am_in 520 (by decide +kernel) rfl
set_option maxRecDepth 20000 in
theorem se_X7_meet : Cond.selects yX7_meet.cls yX7_meet yX7_meet ∈ am_TB := am_in 521 (by decide +kernel) rfl
set_option maxRecDepth 20000 in
theorem nm_X7_meet : yX7_meet.cls ≠ "java/lang/invoke/MethodHandle" ∧ yX7_meet.cls ≠ "java/lang/invoke/VarHandle" ∧ (parseMethodDescriptor yX7_meet.desc).map (fun d => d.parameters.length) = some 2 := by decide +kernel
set_option maxRecDepth 20000 in
theorem ml_L_82 : am_ml RL 82 yX7_meet cX7_meet 3 (some .int) 2 := ⟨am_in 519 (by decide +kernel) rfl, iw_X7, cw_X7_meet, nm_X7_meet.1, nm_X7_meet.2.1, nm_X7_meet.2.2, by decide⟩
set_option maxRecDepth 20000 in
theorem cw_X8_meet : Cond.code yX8_meet cX8_meet 4 (some .int) ∈ am_TB := am_in 1006 (by decide +kernel) rfl
set_option maxRecDepth 20000 in
theorem im_X8_meet : Cond.instanceMethod yX8_meet ∈ am_TB := am_in 1004 (by decide +kernel) rfl
set_option maxRecDepth 20000 in
theorem se_X8_meet : Cond.selects yX8_meet.cls yX8_meet yX8_meet ∈ am_TB := am_in 1005 (by decide +kernel) rfl
set_option maxRecDepth 20000 in
theorem nm_X8_meet : yX8_meet.cls ≠ "java/lang/invoke/MethodHandle" ∧ yX8_meet.cls ≠ "java/lang/invoke/VarHandle" ∧ (parseMethodDescriptor yX8_meet.desc).map (fun d => d.parameters.length) = some 2 := by decide +kernel
set_option maxRecDepth 20000 in
theorem ml_L_85 : am_ml RL 85 yX8_meet cX8_meet 4 (some .int) 2 := ⟨am_in 1003 (by decide +kernel) rfl, iw_X8, cw_X8_meet, nm_X8_meet.1, nm_X8_meet.2.1, nm_X8_meet.2.2, by decide⟩
set_option maxRecDepth 20000 in
theorem cw_X7_over : Cond.code yX7_over cX7_over 3 (some .int) ∈ am_TB := am_in 532 (by decide +kernel) rfl
set_option maxRecDepth 20000 in
theorem im_X7_over : Cond.instanceMethod yX7_over ∈ am_TB := am_in 530 (by decide +kernel) rfl
set_option maxRecDepth 20000 in
theorem se_X7_over : Cond.selects yX7_over.cls yX7_over yX7_over ∈ am_TB := am_in 531 (by decide +kernel) rfl
set_option maxRecDepth 20000 in
theorem nm_X7_over : yX7_over.cls ≠ "java/lang/invoke/MethodHandle" ∧ yX7_over.cls ≠ "java/lang/invoke/VarHandle" ∧ (parseMethodDescriptor yX7_over.desc).map (fun d => d.parameters.length) = some 2 := by decide +kernel
set_option maxRecDepth 20000 in
theorem ml_L_86 : am_ml RL 86 yX7_over cX7_over 3 (some .int) 2 := ⟨am_in 529 (by decide +kernel) rfl, iw_X7, cw_X7_over, nm_X7_over.1, nm_X7_over.2.1, nm_X7_over.2.2, by decide⟩
set_option maxRecDepth 20000 in
theorem cw_X8_over : Cond.code yX8_over cX8_over 3 (some .int) ∈ am_TB := am_in 1010 (by decide +kernel) rfl
set_option maxRecDepth 20000 in
theorem im_X8_over : Cond.instanceMethod yX8_over ∈ am_TB := am_in 1008 (by decide +kernel) rfl
set_option maxRecDepth 20000 in
theorem se_X8_over : Cond.selects yX8_over.cls yX8_over yX8_over ∈ am_TB := am_in 1009 (by decide +kernel) rfl
set_option maxRecDepth 20000 in
theorem nm_X8_over : yX8_over.cls ≠ "java/lang/invoke/MethodHandle" ∧ yX8_over.cls ≠ "java/lang/invoke/VarHandle" ∧ (parseMethodDescriptor yX8_over.desc).map (fun d => d.parameters.length) = some 2 := by decide +kernel
set_option maxRecDepth 20000 in
theorem ml_L_89 : am_ml RL 89 yX8_over cX8_over 3 (some .int) 2 := ⟨am_in 1007 (by decide +kernel) rfl, iw_X8, cw_X8_over, nm_X8_over.1, nm_X8_over.2.1, nm_X8_over.2.2, by decide⟩
set_option maxRecDepth 20000 in
theorem cw_X7_above : Cond.code yX7_above cX7_above 7 (some .int) ∈ am_TB := am_in 542 (by decide +kernel) rfl
set_option maxRecDepth 20000 in
theorem im_X7_above : Cond.instanceMethod yX7_above ∈ am_TB := am_in 540 (by decide +kernel) rfl
set_option maxRecDepth 20000 in
theorem se_X7_above : Cond.selects yX7_above.cls yX7_above yX7_above ∈ am_TB := am_in 541 (by decide +kernel) rfl
set_option maxRecDepth 20000 in
theorem nm_X7_above : yX7_above.cls ≠ "java/lang/invoke/MethodHandle" ∧ yX7_above.cls ≠ "java/lang/invoke/VarHandle" ∧ (parseMethodDescriptor yX7_above.desc).map (fun d => d.parameters.length) = some 5 := by decide +kernel
set_option maxRecDepth 20000 in
theorem ml_L_90 : am_ml RL 90 yX7_above cX7_above 7 (some .int) 5 := ⟨am_in 539 (by decide +kernel) rfl, iw_X7, cw_X7_above, nm_X7_above.1, nm_X7_above.2.1, nm_X7_above.2.2, by decide⟩
set_option maxRecDepth 20000 in
theorem cw_X8_above : Cond.code yX8_above cX8_above 13 (some .int) ∈ am_TB := am_in 1014 (by decide +kernel) rfl
set_option maxRecDepth 20000 in
theorem im_X8_above : Cond.instanceMethod yX8_above ∈ am_TB := am_in 1012 (by decide +kernel) rfl
set_option maxRecDepth 20000 in
theorem se_X8_above : Cond.selects yX8_above.cls yX8_above yX8_above ∈ am_TB := am_in 1013 (by decide +kernel) rfl
set_option maxRecDepth 20000 in
theorem nm_X8_above : yX8_above.cls ≠ "java/lang/invoke/MethodHandle" ∧ yX8_above.cls ≠ "java/lang/invoke/VarHandle" ∧ (parseMethodDescriptor yX8_above.desc).map (fun d => d.parameters.length) = some 5 := by decide +kernel
set_option maxRecDepth 20000 in
theorem ml_L_93 : am_ml RL 93 yX8_above cX8_above 13 (some .int) 5 := ⟨am_in 1011 (by decide +kernel) rfl, iw_X8, cw_X8_above, nm_X8_above.1, nm_X8_above.2.1, nm_X8_above.2.2, by decide⟩
set_option maxRecDepth 20000 in
theorem cw_X7_petition : Cond.code yX7_petition cX7_petition 7 (some .int) ∈ am_TB := am_in 575 (by decide +kernel) rfl
set_option maxRecDepth 20000 in
theorem im_X7_petition : Cond.instanceMethod yX7_petition ∈ am_TB := am_in 573 (by decide +kernel) rfl
set_option maxRecDepth 20000 in
theorem se_X7_petition : Cond.selects yX7_petition.cls yX7_petition yX7_petition ∈ am_TB := am_in 574 (by decide +kernel) rfl
set_option maxRecDepth 20000 in
theorem nm_X7_petition : yX7_petition.cls ≠ "java/lang/invoke/MethodHandle" ∧ yX7_petition.cls ≠ "java/lang/invoke/VarHandle" ∧ (parseMethodDescriptor yX7_petition.desc).map (fun d => d.parameters.length) = some 4 := by decide +kernel
set_option maxRecDepth 20000 in
theorem ml_L_94 : am_ml RL 94 yX7_petition cX7_petition 7 (some .int) 4 := ⟨am_in 572 (by decide +kernel) rfl, iw_X7, cw_X7_petition, nm_X7_petition.1, nm_X7_petition.2.1, nm_X7_petition.2.2, by decide⟩
set_option maxRecDepth 20000 in
theorem cw_X8_petition : Cond.code yX8_petition cX8_petition 10 (some .int) ∈ am_TB := am_in 1031 (by decide +kernel) rfl
set_option maxRecDepth 20000 in
theorem im_X8_petition : Cond.instanceMethod yX8_petition ∈ am_TB := am_in 1029 (by decide +kernel) rfl
set_option maxRecDepth 20000 in
theorem se_X8_petition : Cond.selects yX8_petition.cls yX8_petition yX8_petition ∈ am_TB := am_in 1030 (by decide +kernel) rfl
set_option maxRecDepth 20000 in
theorem nm_X8_petition : yX8_petition.cls ≠ "java/lang/invoke/MethodHandle" ∧ yX8_petition.cls ≠ "java/lang/invoke/VarHandle" ∧ (parseMethodDescriptor yX8_petition.desc).map (fun d => d.parameters.length) = some 4 := by decide +kernel
set_option maxRecDepth 20000 in
theorem ml_L_98 : am_ml RL 98 yX8_petition cX8_petition 10 (some .int) 4 := ⟨am_in 1028 (by decide +kernel) rfl, iw_X8, cw_X8_petition, nm_X8_petition.1, nm_X8_petition.2.1, nm_X8_petition.2.2, by decide⟩
set_option maxRecDepth 20000 in
theorem cw_X7_ash : Cond.code yX7_ash cX7_ash 8 (some .int) ∈ am_TB := am_in 588 (by decide +kernel) rfl
set_option maxRecDepth 20000 in
theorem im_X7_ash : Cond.instanceMethod yX7_ash ∈ am_TB := am_in 586 (by decide +kernel) rfl
set_option maxRecDepth 20000 in
theorem se_X7_ash : Cond.selects yX7_ash.cls yX7_ash yX7_ash ∈ am_TB := am_in 587 (by decide +kernel) rfl
set_option maxRecDepth 20000 in
theorem nm_X7_ash : yX7_ash.cls ≠ "java/lang/invoke/MethodHandle" ∧ yX7_ash.cls ≠ "java/lang/invoke/VarHandle" ∧ (parseMethodDescriptor yX7_ash.desc).map (fun d => d.parameters.length) = some 5 := by decide +kernel
set_option maxRecDepth 20000 in
theorem ml_L_99 : am_ml RL 99 yX7_ash cX7_ash 8 (some .int) 5 := ⟨am_in 585 (by decide +kernel) rfl, iw_X7, cw_X7_ash, nm_X7_ash.1, nm_X7_ash.2.1, nm_X7_ash.2.2, by decide⟩
set_option maxRecDepth 20000 in
theorem cw_X8_ash : Cond.code yX8_ash cX8_ash 11 (some .int) ∈ am_TB := am_in 1040 (by decide +kernel) rfl
set_option maxRecDepth 20000 in
theorem im_X8_ash : Cond.instanceMethod yX8_ash ∈ am_TB := am_in 1038 (by decide +kernel) rfl
set_option maxRecDepth 20000 in
theorem se_X8_ash : Cond.selects yX8_ash.cls yX8_ash yX8_ash ∈ am_TB := am_in 1039 (by decide +kernel) rfl
set_option maxRecDepth 20000 in
theorem nm_X8_ash : yX8_ash.cls ≠ "java/lang/invoke/MethodHandle" ∧ yX8_ash.cls ≠ "java/lang/invoke/VarHandle" ∧ (parseMethodDescriptor yX8_ash.desc).map (fun d => d.parameters.length) = some 5 := by decide +kernel
set_option maxRecDepth 20000 in
theorem ml_L_102 : am_ml RL 102 yX8_ash cX8_ash 11 (some .int) 5 := ⟨am_in 1037 (by decide +kernel) rfl, iw_X8, cw_X8_ash, nm_X8_ash.1, nm_X8_ash.2.1, nm_X8_ash.2.2, by decide⟩
set_option maxRecDepth 20000 in
theorem cw_X7_who : Cond.code yX7_who cX7_who 7 (some .int) ∈ am_TB := am_in 596 (by decide +kernel) rfl
set_option maxRecDepth 20000 in
theorem im_X7_who : Cond.instanceMethod yX7_who ∈ am_TB := am_in 594 (by decide +kernel) rfl
set_option maxRecDepth 20000 in
theorem se_X7_who : Cond.selects yX7_who.cls yX7_who yX7_who ∈ am_TB := am_in 595 (by decide +kernel) rfl
set_option maxRecDepth 20000 in
theorem nm_X7_who : yX7_who.cls ≠ "java/lang/invoke/MethodHandle" ∧ yX7_who.cls ≠ "java/lang/invoke/VarHandle" ∧ (parseMethodDescriptor yX7_who.desc).map (fun d => d.parameters.length) = some 5 := by decide +kernel
set_option maxRecDepth 20000 in
theorem ml_L_103 : am_ml RL 103 yX7_who cX7_who 7 (some .int) 5 := ⟨am_in 593 (by decide +kernel) rfl, iw_X7, cw_X7_who, nm_X7_who.1, nm_X7_who.2.1, nm_X7_who.2.2, by decide⟩
set_option maxRecDepth 20000 in
theorem cw_X8_who : Cond.code yX8_who cX8_who 12 (some .int) ∈ am_TB := am_in 1049 (by decide +kernel) rfl
set_option maxRecDepth 20000 in
theorem im_X8_who : Cond.instanceMethod yX8_who ∈ am_TB := am_in 1047 (by decide +kernel) rfl
set_option maxRecDepth 20000 in
theorem se_X8_who : Cond.selects yX8_who.cls yX8_who yX8_who ∈ am_TB := am_in 1048 (by decide +kernel) rfl
set_option maxRecDepth 20000 in
theorem nm_X8_who : yX8_who.cls ≠ "java/lang/invoke/MethodHandle" ∧ yX8_who.cls ≠ "java/lang/invoke/VarHandle" ∧ (parseMethodDescriptor yX8_who.desc).map (fun d => d.parameters.length) = some 5 := by decide +kernel
set_option maxRecDepth 20000 in
theorem ml_L_106 : am_ml RL 106 yX8_who cX8_who 12 (some .int) 5 := ⟨am_in 1046 (by decide +kernel) rfl, iw_X8, cw_X8_who, nm_X8_who.1, nm_X8_who.2.1, nm_X8_who.2.2, by decide⟩
set_option maxRecDepth 20000 in
theorem cw_X7_rule : Cond.code yX7_rule cX7_rule 4 (some .int) ∈ am_TB := am_in 608 (by decide +kernel) rfl
set_option maxRecDepth 20000 in
theorem im_X7_rule : Cond.instanceMethod yX7_rule ∈ am_TB := am_in 606 (by decide +kernel) rfl
set_option maxRecDepth 20000 in
theorem se_X7_rule : Cond.selects yX7_rule.cls yX7_rule yX7_rule ∈ am_TB := am_in 607 (by decide +kernel) rfl
set_option maxRecDepth 20000 in
theorem nm_X7_rule : yX7_rule.cls ≠ "java/lang/invoke/MethodHandle" ∧ yX7_rule.cls ≠ "java/lang/invoke/VarHandle" ∧ (parseMethodDescriptor yX7_rule.desc).map (fun d => d.parameters.length) = some 2 := by decide +kernel
set_option maxRecDepth 20000 in
theorem ml_L_107 : am_ml RL 107 yX7_rule cX7_rule 4 (some .int) 2 := ⟨am_in 605 (by decide +kernel) rfl, iw_X7, cw_X7_rule, nm_X7_rule.1, nm_X7_rule.2.1, nm_X7_rule.2.2, by decide⟩
set_option maxRecDepth 20000 in
theorem cw_X8_rule : Cond.code yX8_rule cX8_rule 5 (some .int) ∈ am_TB := am_in 1053 (by decide +kernel) rfl
set_option maxRecDepth 20000 in
theorem im_X8_rule : Cond.instanceMethod yX8_rule ∈ am_TB := am_in 1051 (by decide +kernel) rfl
set_option maxRecDepth 20000 in
theorem se_X8_rule : Cond.selects yX8_rule.cls yX8_rule yX8_rule ∈ am_TB := am_in 1052 (by decide +kernel) rfl
set_option maxRecDepth 20000 in
theorem nm_X8_rule : yX8_rule.cls ≠ "java/lang/invoke/MethodHandle" ∧ yX8_rule.cls ≠ "java/lang/invoke/VarHandle" ∧ (parseMethodDescriptor yX8_rule.desc).map (fun d => d.parameters.length) = some 2 := by decide +kernel
set_option maxRecDepth 20000 in
theorem ml_L_110 : am_ml RL 110 yX8_rule cX8_rule 5 (some .int) 2 := ⟨am_in 1050 (by decide +kernel) rfl, iw_X8, cw_X8_rule, nm_X8_rule.1, nm_X8_rule.2.1, nm_X8_rule.2.2, by decide⟩
set_option maxRecDepth 20000 in
theorem cw_X7_lasts : Cond.code yX7_lasts cX7_lasts 2 (some .int) ∈ am_TB := am_in 616 (by decide +kernel) rfl
set_option maxRecDepth 20000 in
theorem im_X7_lasts : Cond.instanceMethod yX7_lasts ∈ am_TB := am_in 614 (by decide +kernel) rfl
set_option maxRecDepth 20000 in
theorem se_X7_lasts : Cond.selects yX7_lasts.cls yX7_lasts yX7_lasts ∈ am_TB := am_in 615 (by decide +kernel) rfl
set_option maxRecDepth 20000 in
theorem nm_X7_lasts : yX7_lasts.cls ≠ "java/lang/invoke/MethodHandle" ∧ yX7_lasts.cls ≠ "java/lang/invoke/VarHandle" ∧ (parseMethodDescriptor yX7_lasts.desc).map (fun d => d.parameters.length) = some 1 := by decide +kernel
set_option maxRecDepth 20000 in
theorem ml_L_111 : am_ml RL 111 yX7_lasts cX7_lasts 2 (some .int) 1 := ⟨am_in 613 (by decide +kernel) rfl, iw_X7, cw_X7_lasts, nm_X7_lasts.1, nm_X7_lasts.2.1, nm_X7_lasts.2.2, by decide⟩
set_option maxRecDepth 20000 in
theorem cw_X8_lasts : Cond.code yX8_lasts cX8_lasts 2 (some .int) ∈ am_TB := am_in 1057 (by decide +kernel) rfl
set_option maxRecDepth 20000 in
theorem im_X8_lasts : Cond.instanceMethod yX8_lasts ∈ am_TB := am_in 1055 (by decide +kernel) rfl
set_option maxRecDepth 20000 in
theorem se_X8_lasts : Cond.selects yX8_lasts.cls yX8_lasts yX8_lasts ∈ am_TB := am_in 1056 (by decide +kernel) rfl
set_option maxRecDepth 20000 in
theorem nm_X8_lasts : yX8_lasts.cls ≠ "java/lang/invoke/MethodHandle" ∧ yX8_lasts.cls ≠ "java/lang/invoke/VarHandle" ∧ (parseMethodDescriptor yX8_lasts.desc).map (fun d => d.parameters.length) = some 1 := by decide +kernel
set_option maxRecDepth 20000 in
theorem ml_L_114 : am_ml RL 114 yX8_lasts cX8_lasts 2 (some .int) 1 := ⟨am_in 1054 (by decide +kernel) rfl, iw_X8, cw_X8_lasts, nm_X8_lasts.1, nm_X8_lasts.2.1, nm_X8_lasts.2.2, by decide⟩
set_option maxRecDepth 20000 in
theorem cw_X7_kept : Cond.code yX7_kept cX7_kept 3 (some .int) ∈ am_TB := am_in 624 (by decide +kernel) rfl
set_option maxRecDepth 20000 in
theorem im_X7_kept : Cond.instanceMethod yX7_kept ∈ am_TB := am_in 622 (by decide +kernel) rfl
set_option maxRecDepth 20000 in
theorem se_X7_kept : Cond.selects yX7_kept.cls yX7_kept yX7_kept ∈ am_TB := am_in 623 (by decide +kernel) rfl
set_option maxRecDepth 20000 in
theorem nm_X7_kept : yX7_kept.cls ≠ "java/lang/invoke/MethodHandle" ∧ yX7_kept.cls ≠ "java/lang/invoke/VarHandle" ∧ (parseMethodDescriptor yX7_kept.desc).map (fun d => d.parameters.length) = some 2 := by decide +kernel
set_option maxRecDepth 20000 in
theorem ml_L_115 : am_ml RL 115 yX7_kept cX7_kept 3 (some .int) 2 := ⟨am_in 621 (by decide +kernel) rfl, iw_X7, cw_X7_kept, nm_X7_kept.1, nm_X7_kept.2.1, nm_X7_kept.2.2, by decide⟩
set_option maxRecDepth 20000 in
theorem cw_X8_kept : Cond.code yX8_kept cX8_kept 4 (some .int) ∈ am_TB := am_in 1065 (by decide +kernel) rfl
set_option maxRecDepth 20000 in
theorem im_X8_kept : Cond.instanceMethod yX8_kept ∈ am_TB := am_in 1063 (by decide +kernel) rfl
set_option maxRecDepth 20000 in
theorem se_X8_kept : Cond.selects yX8_kept.cls yX8_kept yX8_kept ∈ am_TB := am_in 1064 (by decide +kernel) rfl
set_option maxRecDepth 20000 in
theorem nm_X8_kept : yX8_kept.cls ≠ "java/lang/invoke/MethodHandle" ∧ yX8_kept.cls ≠ "java/lang/invoke/VarHandle" ∧ (parseMethodDescriptor yX8_kept.desc).map (fun d => d.parameters.length) = some 2 := by decide +kernel
set_option maxRecDepth 20000 in
theorem ml_L_118 : am_ml RL 118 yX8_kept cX8_kept 4 (some .int) 2 := ⟨am_in 1062 (by decide +kernel) rfl, iw_X8, cw_X8_kept, nm_X8_kept.1, nm_X8_kept.2.1, nm_X8_kept.2.2, by decide⟩
set_option maxRecDepth 20000 in
theorem cw_X7_turned : Cond.code yX7_turned cX7_turned 8 (some .long) ∈ am_TB := am_in 633 (by decide +kernel) rfl
set_option maxRecDepth 20000 in
theorem im_X7_turned : Cond.instanceMethod yX7_turned ∈ am_TB := am_in 631 (by decide +kernel) rfl
set_option maxRecDepth 20000 in
theorem se_X7_turned : Cond.selects yX7_turned.cls yX7_turned yX7_turned ∈ am_TB := am_in 632 (by decide +kernel) rfl
set_option maxRecDepth 20000 in
theorem nm_X7_turned : yX7_turned.cls ≠ "java/lang/invoke/MethodHandle" ∧ yX7_turned.cls ≠ "java/lang/invoke/VarHandle" ∧ (parseMethodDescriptor yX7_turned.desc).map (fun d => d.parameters.length) = some 5 := by decide +kernel
set_option maxRecDepth 20000 in
theorem ml_L_119 : am_ml RL 119 yX7_turned cX7_turned 8 (some .long) 5 := ⟨am_in 630 (by decide +kernel) rfl, iw_X7, cw_X7_turned, nm_X7_turned.1, nm_X7_turned.2.1, nm_X7_turned.2.2, by decide⟩
set_option maxRecDepth 20000 in
theorem cw_X8_turned : Cond.code yX8_turned cX8_turned 16 (some .long) ∈ am_TB := am_in 1069 (by decide +kernel) rfl
set_option maxRecDepth 20000 in
theorem im_X8_turned : Cond.instanceMethod yX8_turned ∈ am_TB := am_in 1067 (by decide +kernel) rfl
set_option maxRecDepth 20000 in
theorem se_X8_turned : Cond.selects yX8_turned.cls yX8_turned yX8_turned ∈ am_TB := am_in 1068 (by decide +kernel) rfl
set_option maxRecDepth 20000 in
theorem nm_X8_turned : yX8_turned.cls ≠ "java/lang/invoke/MethodHandle" ∧ yX8_turned.cls ≠ "java/lang/invoke/VarHandle" ∧ (parseMethodDescriptor yX8_turned.desc).map (fun d => d.parameters.length) = some 5 := by decide +kernel
set_option maxRecDepth 20000 in
theorem ml_L_123 : am_ml RL 123 yX8_turned cX8_turned 16 (some .long) 5 := ⟨am_in 1066 (by decide +kernel) rfl, iw_X8, cw_X8_turned, nm_X8_turned.1, nm_X8_turned.2.1, nm_X8_turned.2.2, by decide⟩
set_option maxRecDepth 20000 in
theorem cw_X7_drawn : Cond.code yX7_drawn cX7_drawn 5 (some .int) ∈ am_TB := am_in 654 (by decide +kernel) rfl
set_option maxRecDepth 20000 in
theorem im_X7_drawn : Cond.instanceMethod yX7_drawn ∈ am_TB := am_in 652 (by decide +kernel) rfl
set_option maxRecDepth 20000 in
theorem se_X7_drawn : Cond.selects yX7_drawn.cls yX7_drawn yX7_drawn ∈ am_TB := am_in 653 (by decide +kernel) rfl
set_option maxRecDepth 20000 in
theorem nm_X7_drawn : yX7_drawn.cls ≠ "java/lang/invoke/MethodHandle" ∧ yX7_drawn.cls ≠ "java/lang/invoke/VarHandle" ∧ (parseMethodDescriptor yX7_drawn.desc).map (fun d => d.parameters.length) = some 3 := by decide +kernel
set_option maxRecDepth 20000 in
theorem ml_L_124 : am_ml RL 124 yX7_drawn cX7_drawn 5 (some .int) 3 := ⟨am_in 651 (by decide +kernel) rfl, iw_X7, cw_X7_drawn, nm_X7_drawn.1, nm_X7_drawn.2.1, nm_X7_drawn.2.2, by decide⟩
set_option maxRecDepth 20000 in
theorem cw_X8_drawn : Cond.code yX8_drawn cX8_drawn 10 (some .int) ∈ am_TB := am_in 1076 (by decide +kernel) rfl
set_option maxRecDepth 20000 in
theorem im_X8_drawn : Cond.instanceMethod yX8_drawn ∈ am_TB := am_in 1074 (by decide +kernel) rfl
set_option maxRecDepth 20000 in
theorem se_X8_drawn : Cond.selects yX8_drawn.cls yX8_drawn yX8_drawn ∈ am_TB := am_in 1075 (by decide +kernel) rfl
set_option maxRecDepth 20000 in
theorem nm_X8_drawn : yX8_drawn.cls ≠ "java/lang/invoke/MethodHandle" ∧ yX8_drawn.cls ≠ "java/lang/invoke/VarHandle" ∧ (parseMethodDescriptor yX8_drawn.desc).map (fun d => d.parameters.length) = some 3 := by decide +kernel
set_option maxRecDepth 20000 in
theorem ml_L_127 : am_ml RL 127 yX8_drawn cX8_drawn 10 (some .int) 3 := ⟨am_in 1073 (by decide +kernel) rfl, iw_X8, cw_X8_drawn, nm_X8_drawn.1, nm_X8_drawn.2.1, nm_X8_drawn.2.2, by decide⟩
set_option maxRecDepth 20000 in
theorem cw_X7_image : Cond.code yX7_image cX7_image 2 (some .int) ∈ am_TB := am_in 671 (by decide +kernel) rfl
set_option maxRecDepth 20000 in
theorem im_X7_image : Cond.instanceMethod yX7_image ∈ am_TB := am_in 669 (by decide +kernel) rfl
set_option maxRecDepth 20000 in
theorem se_X7_image : Cond.selects yX7_image.cls yX7_image yX7_image ∈ am_TB := am_in 670 (by decide +kernel) rfl
set_option maxRecDepth 20000 in
theorem nm_X7_image : yX7_image.cls ≠ "java/lang/invoke/MethodHandle" ∧ yX7_image.cls ≠ "java/lang/invoke/VarHandle" ∧ (parseMethodDescriptor yX7_image.desc).map (fun d => d.parameters.length) = some 1 := by decide +kernel
set_option maxRecDepth 20000 in
theorem ml_L_128 : am_ml RL 128 yX7_image cX7_image 2 (some .int) 1 := ⟨am_in 668 (by decide +kernel) rfl, iw_X7, cw_X7_image, nm_X7_image.1, nm_X7_image.2.1, nm_X7_image.2.2, by decide⟩
set_option maxRecDepth 20000 in
theorem cw_X8_image : Cond.code yX8_image cX8_image 2 (some .int) ∈ am_TB := am_in 1083 (by decide +kernel) rfl
set_option maxRecDepth 20000 in
theorem im_X8_image : Cond.instanceMethod yX8_image ∈ am_TB := am_in 1081 (by decide +kernel) rfl
set_option maxRecDepth 20000 in
theorem se_X8_image : Cond.selects yX8_image.cls yX8_image yX8_image ∈ am_TB := am_in 1082 (by decide +kernel) rfl
set_option maxRecDepth 20000 in
theorem nm_X8_image : yX8_image.cls ≠ "java/lang/invoke/MethodHandle" ∧ yX8_image.cls ≠ "java/lang/invoke/VarHandle" ∧ (parseMethodDescriptor yX8_image.desc).map (fun d => d.parameters.length) = some 1 := by decide +kernel
set_option maxRecDepth 20000 in
theorem ml_L_131 : am_ml RL 131 yX8_image cX8_image 2 (some .int) 1 := ⟨am_in 1080 (by decide +kernel) rfl, iw_X8, cw_X8_image, nm_X8_image.1, nm_X8_image.2.1, nm_X8_image.2.2, by decide⟩
set_option maxRecDepth 20000 in
theorem cw_X7_restore : Cond.code yX7_restore cX7_restore 2 (some .int) ∈ am_TB := am_in 675 (by decide +kernel) rfl
set_option maxRecDepth 20000 in
theorem im_X7_restore : Cond.instanceMethod yX7_restore ∈ am_TB := am_in 673 (by decide +kernel) rfl
set_option maxRecDepth 20000 in
theorem se_X7_restore : Cond.selects yX7_restore.cls yX7_restore yX7_restore ∈ am_TB := am_in 674 (by decide +kernel) rfl
set_option maxRecDepth 20000 in
theorem nm_X7_restore : yX7_restore.cls ≠ "java/lang/invoke/MethodHandle" ∧ yX7_restore.cls ≠ "java/lang/invoke/VarHandle" ∧ (parseMethodDescriptor yX7_restore.desc).map (fun d => d.parameters.length) = some 1 := by decide +kernel
set_option maxRecDepth 20000 in
theorem ml_L_132 : am_ml RL 132 yX7_restore cX7_restore 2 (some .int) 1 := ⟨am_in 672 (by decide +kernel) rfl, iw_X7, cw_X7_restore, nm_X7_restore.1, nm_X7_restore.2.1, nm_X7_restore.2.2, by decide⟩
set_option maxRecDepth 20000 in
theorem cw_X8_restore : Cond.code yX8_restore cX8_restore 2 (some .int) ∈ am_TB := am_in 1087 (by decide +kernel) rfl
set_option maxRecDepth 20000 in
theorem im_X8_restore : Cond.instanceMethod yX8_restore ∈ am_TB := am_in 1085 (by decide +kernel) rfl
set_option maxRecDepth 20000 in
theorem se_X8_restore : Cond.selects yX8_restore.cls yX8_restore yX8_restore ∈ am_TB := am_in 1086 (by decide +kernel) rfl
set_option maxRecDepth 20000 in
theorem nm_X8_restore : yX8_restore.cls ≠ "java/lang/invoke/MethodHandle" ∧ yX8_restore.cls ≠ "java/lang/invoke/VarHandle" ∧ (parseMethodDescriptor yX8_restore.desc).map (fun d => d.parameters.length) = some 1 := by decide +kernel
set_option maxRecDepth 20000 in
theorem ml_L_135 : am_ml RL 135 yX8_restore cX8_restore 2 (some .int) 1 := ⟨am_in 1084 (by decide +kernel) rfl, iw_X8, cw_X8_restore, nm_X8_restore.1, nm_X8_restore.2.1, nm_X8_restore.2.2, by decide⟩
set_option maxRecDepth 20000 in
theorem cw_X7_kind : Cond.code yX7_kind cX7_kind 2 (some .int) ∈ am_TB := am_in 679 (by decide +kernel) rfl
set_option maxRecDepth 20000 in
theorem im_X7_kind : Cond.instanceMethod yX7_kind ∈ am_TB := am_in 677 (by decide +kernel) rfl
set_option maxRecDepth 20000 in
theorem se_X7_kind : Cond.selects yX7_kind.cls yX7_kind yX7_kind ∈ am_TB := am_in 678 (by decide +kernel) rfl
set_option maxRecDepth 20000 in
theorem nm_X7_kind : yX7_kind.cls ≠ "java/lang/invoke/MethodHandle" ∧ yX7_kind.cls ≠ "java/lang/invoke/VarHandle" ∧ (parseMethodDescriptor yX7_kind.desc).map (fun d => d.parameters.length) = some 1 := by decide +kernel
set_option maxRecDepth 20000 in
theorem ml_L_136 : am_ml RL 136 yX7_kind cX7_kind 2 (some .int) 1 := ⟨am_in 676 (by decide +kernel) rfl, iw_X7, cw_X7_kind, nm_X7_kind.1, nm_X7_kind.2.1, nm_X7_kind.2.2, by decide⟩
set_option maxRecDepth 20000 in
theorem cw_X8_kind : Cond.code yX8_kind cX8_kind 2 (some .int) ∈ am_TB := am_in 1091 (by decide +kernel) rfl
set_option maxRecDepth 20000 in
theorem im_X8_kind : Cond.instanceMethod yX8_kind ∈ am_TB := am_in 1089 (by decide +kernel) rfl
set_option maxRecDepth 20000 in
theorem se_X8_kind : Cond.selects yX8_kind.cls yX8_kind yX8_kind ∈ am_TB := am_in 1090 (by decide +kernel) rfl
set_option maxRecDepth 20000 in
theorem nm_X8_kind : yX8_kind.cls ≠ "java/lang/invoke/MethodHandle" ∧ yX8_kind.cls ≠ "java/lang/invoke/VarHandle" ∧ (parseMethodDescriptor yX8_kind.desc).map (fun d => d.parameters.length) = some 1 := by decide +kernel
set_option maxRecDepth 20000 in
theorem ml_L_139 : am_ml RL 139 yX8_kind cX8_kind 2 (some .int) 1 := ⟨am_in 1088 (by decide +kernel) rfl, iw_X8, cw_X8_kind, nm_X8_kind.1, nm_X8_kind.2.1, nm_X8_kind.2.2, by decide⟩
set_option maxRecDepth 20000 in
theorem cw_X7_as : Cond.code yX7_as cX7_as 3 (some .int) ∈ am_TB := am_in 683 (by decide +kernel) rfl
set_option maxRecDepth 20000 in
theorem im_X7_as : Cond.instanceMethod yX7_as ∈ am_TB := am_in 681 (by decide +kernel) rfl
set_option maxRecDepth 20000 in
theorem se_X7_as : Cond.selects yX7_as.cls yX7_as yX7_as ∈ am_TB := am_in 682 (by decide +kernel) rfl
set_option maxRecDepth 20000 in
theorem nm_X7_as : yX7_as.cls ≠ "java/lang/invoke/MethodHandle" ∧ yX7_as.cls ≠ "java/lang/invoke/VarHandle" ∧ (parseMethodDescriptor yX7_as.desc).map (fun d => d.parameters.length) = some 2 := by decide +kernel
set_option maxRecDepth 20000 in
theorem ml_L_140 : am_ml RL 140 yX7_as cX7_as 3 (some .int) 2 := ⟨am_in 680 (by decide +kernel) rfl, iw_X7, cw_X7_as, nm_X7_as.1, nm_X7_as.2.1, nm_X7_as.2.2, by decide⟩
set_option maxRecDepth 20000 in
theorem cw_X8_as : Cond.code yX8_as cX8_as 3 (some .int) ∈ am_TB := am_in 1095 (by decide +kernel) rfl
set_option maxRecDepth 20000 in
theorem im_X8_as : Cond.instanceMethod yX8_as ∈ am_TB := am_in 1093 (by decide +kernel) rfl
set_option maxRecDepth 20000 in
theorem se_X8_as : Cond.selects yX8_as.cls yX8_as yX8_as ∈ am_TB := am_in 1094 (by decide +kernel) rfl
set_option maxRecDepth 20000 in
theorem nm_X8_as : yX8_as.cls ≠ "java/lang/invoke/MethodHandle" ∧ yX8_as.cls ≠ "java/lang/invoke/VarHandle" ∧ (parseMethodDescriptor yX8_as.desc).map (fun d => d.parameters.length) = some 2 := by decide +kernel
set_option maxRecDepth 20000 in
theorem ml_L_143 : am_ml RL 143 yX8_as cX8_as 3 (some .int) 2 := ⟨am_in 1092 (by decide +kernel) rfl, iw_X8, cw_X8_as, nm_X8_as.1, nm_X8_as.2.1, nm_X8_as.2.2, by decide⟩
set_option maxRecDepth 20000 in
theorem cw_X7_ask : Cond.code yX7_ask cX7_ask 3 (some .int) ∈ am_TB := am_in 695 (by decide +kernel) rfl
set_option maxRecDepth 20000 in
theorem im_X7_ask : Cond.instanceMethod yX7_ask ∈ am_TB := am_in 693 (by decide +kernel) rfl
set_option maxRecDepth 20000 in
theorem se_X7_ask : Cond.selects yX7_ask.cls yX7_ask yX7_ask ∈ am_TB := am_in 694 (by decide +kernel) rfl
set_option maxRecDepth 20000 in
theorem nm_X7_ask : yX7_ask.cls ≠ "java/lang/invoke/MethodHandle" ∧ yX7_ask.cls ≠ "java/lang/invoke/VarHandle" ∧ (parseMethodDescriptor yX7_ask.desc).map (fun d => d.parameters.length) = some 2 := by decide +kernel
set_option maxRecDepth 20000 in
theorem ml_L_144 : am_ml RL 144 yX7_ask cX7_ask 3 (some .int) 2 := ⟨am_in 692 (by decide +kernel) rfl, iw_X7, cw_X7_ask, nm_X7_ask.1, nm_X7_ask.2.1, nm_X7_ask.2.2, by decide⟩
set_option maxRecDepth 20000 in
theorem cw_X8_ask : Cond.code yX8_ask cX8_ask 5 (some .int) ∈ am_TB := am_in 1102 (by decide +kernel) rfl
set_option maxRecDepth 20000 in
theorem im_X8_ask : Cond.instanceMethod yX8_ask ∈ am_TB := am_in 1100 (by decide +kernel) rfl
set_option maxRecDepth 20000 in
theorem se_X8_ask : Cond.selects yX8_ask.cls yX8_ask yX8_ask ∈ am_TB := am_in 1101 (by decide +kernel) rfl
set_option maxRecDepth 20000 in
theorem nm_X8_ask : yX8_ask.cls ≠ "java/lang/invoke/MethodHandle" ∧ yX8_ask.cls ≠ "java/lang/invoke/VarHandle" ∧ (parseMethodDescriptor yX8_ask.desc).map (fun d => d.parameters.length) = some 2 := by decide +kernel
set_option maxRecDepth 20000 in
theorem ml_L_147 : am_ml RL 147 yX8_ask cX8_ask 5 (some .int) 2 := ⟨am_in 1099 (by decide +kernel) rfl, iw_X8, cw_X8_ask, nm_X8_ask.1, nm_X8_ask.2.1, nm_X8_ask.2.2, by decide⟩
set_option maxRecDepth 20000 in
theorem cw_X7_trace : Cond.code yX7_trace cX7_trace 2 (some .int) ∈ am_TB := am_in 723 (by decide +kernel) rfl
set_option maxRecDepth 20000 in
theorem im_X7_trace : Cond.instanceMethod yX7_trace ∈ am_TB := am_in 721 (by decide +kernel) rfl
set_option maxRecDepth 20000 in
theorem se_X7_trace : Cond.selects yX7_trace.cls yX7_trace yX7_trace ∈ am_TB := am_in 722 (by decide +kernel) rfl
set_option maxRecDepth 20000 in
theorem nm_X7_trace : yX7_trace.cls ≠ "java/lang/invoke/MethodHandle" ∧ yX7_trace.cls ≠ "java/lang/invoke/VarHandle" ∧ (parseMethodDescriptor yX7_trace.desc).map (fun d => d.parameters.length) = some 1 := by decide +kernel
set_option maxRecDepth 20000 in
theorem ml_L_148 : am_ml RL 148 yX7_trace cX7_trace 2 (some .int) 1 := ⟨am_in 720 (by decide +kernel) rfl, iw_X7, cw_X7_trace, nm_X7_trace.1, nm_X7_trace.2.1, nm_X7_trace.2.2, by decide⟩
set_option maxRecDepth 20000 in
theorem cw_X8_trace : Cond.code yX8_trace cX8_trace 2 (some .int) ∈ am_TB := am_in 1127 (by decide +kernel) rfl
set_option maxRecDepth 20000 in
theorem im_X8_trace : Cond.instanceMethod yX8_trace ∈ am_TB := am_in 1125 (by decide +kernel) rfl
set_option maxRecDepth 20000 in
theorem se_X8_trace : Cond.selects yX8_trace.cls yX8_trace yX8_trace ∈ am_TB := am_in 1126 (by decide +kernel) rfl
set_option maxRecDepth 20000 in
theorem nm_X8_trace : yX8_trace.cls ≠ "java/lang/invoke/MethodHandle" ∧ yX8_trace.cls ≠ "java/lang/invoke/VarHandle" ∧ (parseMethodDescriptor yX8_trace.desc).map (fun d => d.parameters.length) = some 1 := by decide +kernel
set_option maxRecDepth 20000 in
theorem ml_L_151 : am_ml RL 151 yX8_trace cX8_trace 2 (some .int) 1 := ⟨am_in 1124 (by decide +kernel) rfl, iw_X8, cw_X8_trace, nm_X8_trace.1, nm_X8_trace.2.1, nm_X8_trace.2.2, by decide⟩
set_option maxRecDepth 20000 in
theorem cw_X7_count : Cond.code yX7_count cX7_count 2 (some .int) ∈ am_TB := am_in 727 (by decide +kernel) rfl
set_option maxRecDepth 20000 in
theorem im_X7_count : Cond.instanceMethod yX7_count ∈ am_TB := am_in 725 (by decide +kernel) rfl
set_option maxRecDepth 20000 in
theorem se_X7_count : Cond.selects yX7_count.cls yX7_count yX7_count ∈ am_TB := am_in 726 (by decide +kernel) rfl
set_option maxRecDepth 20000 in
theorem nm_X7_count : yX7_count.cls ≠ "java/lang/invoke/MethodHandle" ∧ yX7_count.cls ≠ "java/lang/invoke/VarHandle" ∧ (parseMethodDescriptor yX7_count.desc).map (fun d => d.parameters.length) = some 1 := by decide +kernel
set_option maxRecDepth 20000 in
theorem ml_L_152 : am_ml RL 152 yX7_count cX7_count 2 (some .int) 1 := ⟨am_in 724 (by decide +kernel) rfl, iw_X7, cw_X7_count, nm_X7_count.1, nm_X7_count.2.1, nm_X7_count.2.2, by decide⟩
set_option maxRecDepth 20000 in
theorem cw_X8_count : Cond.code yX8_count cX8_count 5 (some .int) ∈ am_TB := am_in 1131 (by decide +kernel) rfl
set_option maxRecDepth 20000 in
theorem im_X8_count : Cond.instanceMethod yX8_count ∈ am_TB := am_in 1129 (by decide +kernel) rfl
set_option maxRecDepth 20000 in
theorem se_X8_count : Cond.selects yX8_count.cls yX8_count yX8_count ∈ am_TB := am_in 1130 (by decide +kernel) rfl
set_option maxRecDepth 20000 in
theorem nm_X8_count : yX8_count.cls ≠ "java/lang/invoke/MethodHandle" ∧ yX8_count.cls ≠ "java/lang/invoke/VarHandle" ∧ (parseMethodDescriptor yX8_count.desc).map (fun d => d.parameters.length) = some 1 := by decide +kernel
set_option maxRecDepth 20000 in
theorem ml_L_155 : am_ml RL 155 yX8_count cX8_count 5 (some .int) 1 := ⟨am_in 1128 (by decide +kernel) rfl, iw_X8, cw_X8_count, nm_X8_count.1, nm_X8_count.2.1, nm_X8_count.2.2, by decide⟩
set_option maxRecDepth 20000 in
theorem cw_X7_status : Cond.code yX7_status cX7_status 1 (some .int) ∈ am_TB := am_in 739 (by decide +kernel) rfl
set_option maxRecDepth 20000 in
theorem im_X7_status : Cond.instanceMethod yX7_status ∈ am_TB := am_in 737 (by decide +kernel) rfl
set_option maxRecDepth 20000 in
theorem se_X7_status : Cond.selects yX7_status.cls yX7_status yX7_status ∈ am_TB := am_in 738 (by decide +kernel) rfl
set_option maxRecDepth 20000 in
theorem nm_X7_status : yX7_status.cls ≠ "java/lang/invoke/MethodHandle" ∧ yX7_status.cls ≠ "java/lang/invoke/VarHandle" ∧ (parseMethodDescriptor yX7_status.desc).map (fun d => d.parameters.length) = some 0 := by decide +kernel
set_option maxRecDepth 20000 in
theorem ml_L_156 : am_ml RL 156 yX7_status cX7_status 1 (some .int) 0 := ⟨am_in 736 (by decide +kernel) rfl, iw_X7, cw_X7_status, nm_X7_status.1, nm_X7_status.2.1, nm_X7_status.2.2, by decide⟩
set_option maxRecDepth 20000 in
theorem cw_X8_status : Cond.code yX8_status cX8_status 1 (some .int) ∈ am_TB := am_in 1135 (by decide +kernel) rfl
set_option maxRecDepth 20000 in
theorem im_X8_status : Cond.instanceMethod yX8_status ∈ am_TB := am_in 1133 (by decide +kernel) rfl
set_option maxRecDepth 20000 in
theorem se_X8_status : Cond.selects yX8_status.cls yX8_status yX8_status ∈ am_TB := am_in 1134 (by decide +kernel) rfl
set_option maxRecDepth 20000 in
theorem nm_X8_status : yX8_status.cls ≠ "java/lang/invoke/MethodHandle" ∧ yX8_status.cls ≠ "java/lang/invoke/VarHandle" ∧ (parseMethodDescriptor yX8_status.desc).map (fun d => d.parameters.length) = some 0 := by decide +kernel
set_option maxRecDepth 20000 in
theorem ml_L_159 : am_ml RL 159 yX8_status cX8_status 1 (some .int) 0 := ⟨am_in 1132 (by decide +kernel) rfl, iw_X8, cw_X8_status, nm_X8_status.1, nm_X8_status.2.1, nm_X8_status.2.2, by decide⟩
set_option maxRecDepth 20000 in
theorem lk_X0_1 : Cond.methodLink RX0 1 objectInit ∈ am_TB := am_in 167 (by decide +kernel) rfl
set_option maxRecDepth 20000 in
theorem cw_X5_become : Cond.code yX5_become cX5_become 2 none ∈ am_TB := am_in 378 (by decide +kernel) rfl
set_option maxRecDepth 20000 in
theorem im_X5_become : Cond.instanceMethod yX5_become ∈ am_TB := am_in 376 (by decide +kernel) rfl
set_option maxRecDepth 20000 in
theorem se_X5_become : Cond.selects yX5_become.cls yX5_become yX5_become ∈ am_TB := am_in 377 (by decide +kernel) rfl
set_option maxRecDepth 20000 in
theorem nm_X5_become : yX5_become.cls ≠ "java/lang/invoke/MethodHandle" ∧ yX5_become.cls ≠ "java/lang/invoke/VarHandle" ∧ (parseMethodDescriptor yX5_become.desc).map (fun d => d.parameters.length) = some 1 := by decide +kernel
set_option maxRecDepth 20000 in
theorem ml_X0_23 : am_ml RX0 23 yX5_become cX5_become 2 none 1 := ⟨am_in 397 (by decide +kernel) rfl, iw_X5, cw_X5_become, nm_X5_become.1, nm_X5_become.2.1, nm_X5_become.2.2, by decide⟩
set_option maxRecDepth 20000 in
theorem lk_X0_27 : Cond.methodLink RX0 27 Lib.Math.min.name ∈ am_TB := am_in 411 (by decide +kernel) rfl
set_option maxRecDepth 20000 in
theorem lk_X1_1 : Cond.methodLink RX1 1 objectInit ∈ am_TB := am_in 216 (by decide +kernel) rfl
set_option maxRecDepth 20000 in
theorem cw_X1_bodyFor : Cond.code yX1_bodyFor cX1_bodyFor 5 (some .int) ∈ am_TB := am_in 703 (by decide +kernel) rfl
set_option maxRecDepth 20000 in
theorem im_X1_bodyFor : Cond.instanceMethod yX1_bodyFor ∈ am_TB := am_in 702 (by decide +kernel) rfl
set_option maxRecDepth 20000 in
theorem se_X1_bodyFor : Cond.selects yX1_bodyFor.cls yX1_bodyFor yX1_bodyFor ∈ am_TB := am_in 16 (by decide +kernel) rfl
set_option maxRecDepth 20000 in
theorem nm_X1_bodyFor : yX1_bodyFor.cls ≠ "java/lang/invoke/MethodHandle" ∧ yX1_bodyFor.cls ≠ "java/lang/invoke/VarHandle" ∧ (parseMethodDescriptor yX1_bodyFor.desc).map (fun d => d.parameters.length) = some 2 := by decide +kernel
set_option maxRecDepth 20000 in
theorem ml_X1_21 : am_ml RX1 21 yX1_bodyFor cX1_bodyFor 5 (some .int) 2 := ⟨am_in 700 (by decide +kernel) rfl, iw_X1, cw_X1_bodyFor, nm_X1_bodyFor.1, nm_X1_bodyFor.2.1, nm_X1_bodyFor.2.2, by decide⟩
set_option maxRecDepth 20000 in
theorem cw_X1_give : Cond.code yX1_give cX1_give 5 (some .int) ∈ am_TB := am_in 715 (by decide +kernel) rfl
set_option maxRecDepth 20000 in
theorem im_X1_give : Cond.instanceMethod yX1_give ∈ am_TB := am_in 714 (by decide +kernel) rfl
set_option maxRecDepth 20000 in
theorem se_X1_give : Cond.selects yX1_give.cls yX1_give yX1_give ∈ am_TB := am_in 17 (by decide +kernel) rfl
set_option maxRecDepth 20000 in
theorem nm_X1_give : yX1_give.cls ≠ "java/lang/invoke/MethodHandle" ∧ yX1_give.cls ≠ "java/lang/invoke/VarHandle" ∧ (parseMethodDescriptor yX1_give.desc).map (fun d => d.parameters.length) = some 3 := by decide +kernel
set_option maxRecDepth 20000 in
theorem ml_X1_25 : am_ml RX1 25 yX1_give cX1_give 5 (some .int) 3 := ⟨am_in 712 (by decide +kernel) rfl, iw_X1, cw_X1_give, nm_X1_give.1, nm_X1_give.2.1, nm_X1_give.2.2, by decide⟩
set_option maxRecDepth 20000 in
theorem cw_X1_toldBody : Cond.code yX1_toldBody cX1_toldBody 2 (some .int) ∈ am_TB := am_in 706 (by decide +kernel) rfl
set_option maxRecDepth 20000 in
theorem st_X1_toldBody : Cond.static yX1_toldBody ∈ am_TB := am_in 705 (by decide +kernel) rfl
set_option maxRecDepth 20000 in
theorem nm_X1_toldBody : yX1_toldBody.cls ≠ "java/lang/invoke/MethodHandle" ∧ yX1_toldBody.cls ≠ "java/lang/invoke/VarHandle" ∧ (parseMethodDescriptor yX1_toldBody.desc).map (fun d => d.parameters.length) = some 2 := by decide +kernel
set_option maxRecDepth 20000 in
theorem ml_X1_36 : am_ml RX1 36 yX1_toldBody cX1_toldBody 2 (some .int) 2 := ⟨am_in 704 (by decide +kernel) rfl, iw_X1, cw_X1_toldBody, nm_X1_toldBody.1, nm_X1_toldBody.2.1, nm_X1_toldBody.2.2, by decide⟩
set_option maxRecDepth 20000 in
theorem cw_X3_nearest : Cond.code yX3_nearest cX3_nearest 1 (some .int) ∈ am_TB := am_in 689 (by decide +kernel) rfl
set_option maxRecDepth 20000 in
theorem st_X3_nearest : Cond.static yX3_nearest ∈ am_TB := am_in 688 (by decide +kernel) rfl
set_option maxRecDepth 20000 in
theorem nm_X3_nearest : yX3_nearest.cls ≠ "java/lang/invoke/MethodHandle" ∧ yX3_nearest.cls ≠ "java/lang/invoke/VarHandle" ∧ (parseMethodDescriptor yX3_nearest.desc).map (fun d => d.parameters.length) = some 1 := by decide +kernel
set_option maxRecDepth 20000 in
theorem ml_X1_39 : am_ml RX1 39 yX3_nearest cX3_nearest 1 (some .int) 1 := ⟨am_in 711 (by decide +kernel) rfl, iw_X3, cw_X3_nearest, nm_X3_nearest.1, nm_X3_nearest.2.1, nm_X3_nearest.2.2, by decide⟩
set_option maxRecDepth 20000 in
theorem cw_X1_leave : Cond.code yX1_leave cX1_leave 2 none ∈ am_TB := am_in 719 (by decide +kernel) rfl
set_option maxRecDepth 20000 in
theorem im_X1_leave : Cond.instanceMethod yX1_leave ∈ am_TB := am_in 718 (by decide +kernel) rfl
set_option maxRecDepth 20000 in
theorem se_X1_leave : Cond.selects yX1_leave.cls yX1_leave yX1_leave ∈ am_TB := am_in 18 (by decide +kernel) rfl
set_option maxRecDepth 20000 in
theorem nm_X1_leave : yX1_leave.cls ≠ "java/lang/invoke/MethodHandle" ∧ yX1_leave.cls ≠ "java/lang/invoke/VarHandle" ∧ (parseMethodDescriptor yX1_leave.desc).map (fun d => d.parameters.length) = some 1 := by decide +kernel
set_option maxRecDepth 20000 in
theorem ml_X1_49 : am_ml RX1 49 yX1_leave cX1_leave 2 none 1 := ⟨am_in 716 (by decide +kernel) rfl, iw_X1, cw_X1_leave, nm_X1_leave.1, nm_X1_leave.2.1, nm_X1_leave.2.2, by decide⟩
set_option maxRecDepth 20000 in
theorem lk_X2_7 : Cond.methodLink RX2 7 objectInit ∈ am_TB := am_in 187 (by decide +kernel) rfl
set_option maxRecDepth 20000 in
theorem cw_X5_sunk : Cond.code yX5_sunk cX5_sunk 2 (some .int) ∈ am_TB := am_in 421 (by decide +kernel) rfl
set_option maxRecDepth 20000 in
theorem im_X5_sunk : Cond.instanceMethod yX5_sunk ∈ am_TB := am_in 419 (by decide +kernel) rfl
set_option maxRecDepth 20000 in
theorem se_X5_sunk : Cond.selects yX5_sunk.cls yX5_sunk yX5_sunk ∈ am_TB := am_in 420 (by decide +kernel) rfl
set_option maxRecDepth 20000 in
theorem nm_X5_sunk : yX5_sunk.cls ≠ "java/lang/invoke/MethodHandle" ∧ yX5_sunk.cls ≠ "java/lang/invoke/VarHandle" ∧ (parseMethodDescriptor yX5_sunk.desc).map (fun d => d.parameters.length) = some 1 := by decide +kernel
set_option maxRecDepth 20000 in
theorem ml_X2_39 : am_ml RX2 39 yX5_sunk cX5_sunk 2 (some .int) 1 := ⟨am_in 504 (by decide +kernel) rfl, iw_X5, cw_X5_sunk, nm_X5_sunk.1, nm_X5_sunk.2.1, nm_X5_sunk.2.2, by decide⟩
set_option maxRecDepth 20000 in
theorem cw_X5_carried : Cond.code yX5_carried cX5_carried 3 (some .int) ∈ am_TB := am_in 428 (by decide +kernel) rfl
set_option maxRecDepth 20000 in
theorem im_X5_carried : Cond.instanceMethod yX5_carried ∈ am_TB := am_in 426 (by decide +kernel) rfl
set_option maxRecDepth 20000 in
theorem se_X5_carried : Cond.selects yX5_carried.cls yX5_carried yX5_carried ∈ am_TB := am_in 427 (by decide +kernel) rfl
set_option maxRecDepth 20000 in
theorem nm_X5_carried : yX5_carried.cls ≠ "java/lang/invoke/MethodHandle" ∧ yX5_carried.cls ≠ "java/lang/invoke/VarHandle" ∧ (parseMethodDescriptor yX5_carried.desc).map (fun d => d.parameters.length) = some 2 := by decide +kernel
set_option maxRecDepth 20000 in
theorem ml_X2_43 : am_ml RX2 43 yX5_carried cX5_carried 3 (some .int) 2 := ⟨am_in 505 (by decide +kernel) rfl, iw_X5, cw_X5_carried, nm_X5_carried.1, nm_X5_carried.2.1, nm_X5_carried.2.2, by decide⟩
set_option maxRecDepth 20000 in
theorem ml_X2_48 : am_ml RX2 48 yX5_become cX5_become 2 none 1 := ⟨am_in 527 (by decide +kernel) rfl, iw_X5, cw_X5_become, nm_X5_become.1, nm_X5_become.2.1, nm_X5_become.2.2, by decide⟩
set_option maxRecDepth 20000 in
theorem cw_X5_passHour : Cond.code yX5_passHour cX5_passHour 2 none ∈ am_TB := am_in 417 (by decide +kernel) rfl
set_option maxRecDepth 20000 in
theorem im_X5_passHour : Cond.instanceMethod yX5_passHour ∈ am_TB := am_in 415 (by decide +kernel) rfl
set_option maxRecDepth 20000 in
theorem se_X5_passHour : Cond.selects yX5_passHour.cls yX5_passHour yX5_passHour ∈ am_TB := am_in 416 (by decide +kernel) rfl
set_option maxRecDepth 20000 in
theorem nm_X5_passHour : yX5_passHour.cls ≠ "java/lang/invoke/MethodHandle" ∧ yX5_passHour.cls ≠ "java/lang/invoke/VarHandle" ∧ (parseMethodDescriptor yX5_passHour.desc).map (fun d => d.parameters.length) = some 0 := by decide +kernel
set_option maxRecDepth 20000 in
theorem ml_X2_52 : am_ml RX2 52 yX5_passHour cX5_passHour 2 none 0 := ⟨am_in 528 (by decide +kernel) rfl, iw_X5, cw_X5_passHour, nm_X5_passHour.1, nm_X5_passHour.2.1, nm_X5_passHour.2.2, by decide⟩
set_option maxRecDepth 20000 in
theorem cw_X5_officesIn : Cond.code yX5_officesIn cX5_officesIn 4 (some .int) ∈ am_TB := am_in 492 (by decide +kernel) rfl
set_option maxRecDepth 20000 in
theorem im_X5_officesIn : Cond.instanceMethod yX5_officesIn ∈ am_TB := am_in 490 (by decide +kernel) rfl
set_option maxRecDepth 20000 in
theorem se_X5_officesIn : Cond.selects yX5_officesIn.cls yX5_officesIn yX5_officesIn ∈ am_TB := am_in 491 (by decide +kernel) rfl
set_option maxRecDepth 20000 in
theorem nm_X5_officesIn : yX5_officesIn.cls ≠ "java/lang/invoke/MethodHandle" ∧ yX5_officesIn.cls ≠ "java/lang/invoke/VarHandle" ∧ (parseMethodDescriptor yX5_officesIn.desc).map (fun d => d.parameters.length) = some 1 := by decide +kernel
set_option maxRecDepth 20000 in
theorem ml_X2_55 : am_ml RX2 55 yX5_officesIn cX5_officesIn 4 (some .int) 1 := ⟨am_in 537 (by decide +kernel) rfl, iw_X5, cw_X5_officesIn, nm_X5_officesIn.1, nm_X5_officesIn.2.1, nm_X5_officesIn.2.2, by decide⟩
set_option maxRecDepth 20000 in
theorem cw_J6_bitCount_0f7a4 : Cond.code yJ6_bitCount_0f7a4 cJ6_bitCount_0f7a4 1 (some .int) ∈ am_TB := am_in 446 (by decide +kernel) rfl
set_option maxRecDepth 20000 in
theorem st_J6_bitCount_0f7a4 : Cond.static yJ6_bitCount_0f7a4 ∈ am_TB := am_in 445 (by decide +kernel) rfl
set_option maxRecDepth 20000 in
theorem nm_J6_bitCount_0f7a4 : yJ6_bitCount_0f7a4.cls ≠ "java/lang/invoke/MethodHandle" ∧ yJ6_bitCount_0f7a4.cls ≠ "java/lang/invoke/VarHandle" ∧ (parseMethodDescriptor yJ6_bitCount_0f7a4.desc).map (fun d => d.parameters.length) = some 1 := by decide +kernel
set_option maxRecDepth 20000 in
theorem ml_X2_58 : am_ml RX2 58 yJ6_bitCount_0f7a4 cJ6_bitCount_0f7a4 1 (some .int) 1 := ⟨am_in 538 (by decide +kernel) rfl, iw_J6, cw_J6_bitCount_0f7a4, nm_J6_bitCount_0f7a4.1, nm_J6_bitCount_0f7a4.2.1, nm_J6_bitCount_0f7a4.2.2, by decide⟩
set_option maxRecDepth 20000 in
theorem cw_J7_fill_53178 : Cond.code yJ7_fill_53178 cJ7_fill_53178 4 none ∈ am_TB := am_in 282 (by decide +kernel) rfl
set_option maxRecDepth 20000 in
theorem st_J7_fill_53178 : Cond.static yJ7_fill_53178 ∈ am_TB := am_in 281 (by decide +kernel) rfl
set_option maxRecDepth 20000 in
theorem nm_J7_fill_53178 : yJ7_fill_53178.cls ≠ "java/lang/invoke/MethodHandle" ∧ yJ7_fill_53178.cls ≠ "java/lang/invoke/VarHandle" ∧ (parseMethodDescriptor yJ7_fill_53178.desc).map (fun d => d.parameters.length) = some 2 := by decide +kernel
set_option maxRecDepth 20000 in
theorem ml_X2_64 : am_ml RX2 64 yJ7_fill_53178 cJ7_fill_53178 4 none 2 := ⟨am_in 548 (by decide +kernel) rfl, iw_J7, cw_J7_fill_53178, nm_J7_fill_53178.1, nm_J7_fill_53178.2.1, nm_J7_fill_53178.2.2, by decide⟩
set_option maxRecDepth 20000 in
theorem cw_X2_spreadAll : Cond.code yX2_spreadAll cX2_spreadAll 7 none ∈ am_TB := am_in 552 (by decide +kernel) rfl
set_option maxRecDepth 20000 in
theorem im_X2_spreadAll : Cond.instanceMethod yX2_spreadAll ∈ am_TB := am_in 551 (by decide +kernel) rfl
set_option maxRecDepth 20000 in
theorem se_X2_spreadAll : Cond.selects yX2_spreadAll.cls yX2_spreadAll yX2_spreadAll ∈ am_TB := am_in 11 (by decide +kernel) rfl
set_option maxRecDepth 20000 in
theorem nm_X2_spreadAll : yX2_spreadAll.cls ≠ "java/lang/invoke/MethodHandle" ∧ yX2_spreadAll.cls ≠ "java/lang/invoke/VarHandle" ∧ (parseMethodDescriptor yX2_spreadAll.desc).map (fun d => d.parameters.length) = some 3 := by decide +kernel
set_option maxRecDepth 20000 in
theorem ml_X2_70 : am_ml RX2 70 yX2_spreadAll cX2_spreadAll 7 none 3 := ⟨am_in 549 (by decide +kernel) rfl, iw_X2, cw_X2_spreadAll, nm_X2_spreadAll.1, nm_X2_spreadAll.2.1, nm_X2_spreadAll.2.2, by decide⟩
set_option maxRecDepth 20000 in
theorem lk_X2_74 : Cond.methodLink RX2 74 Lib.Math.min.name ∈ am_TB := am_in 561 (by decide +kernel) rfl
set_option maxRecDepth 20000 in
theorem cw_X2_spread : Cond.code yX2_spread cX2_spread 11 none ∈ am_TB := am_in 556 (by decide +kernel) rfl
set_option maxRecDepth 20000 in
theorem im_X2_spread : Cond.instanceMethod yX2_spread ∈ am_TB := am_in 555 (by decide +kernel) rfl
set_option maxRecDepth 20000 in
theorem se_X2_spread : Cond.selects yX2_spread.cls yX2_spread yX2_spread ∈ am_TB := am_in 12 (by decide +kernel) rfl
set_option maxRecDepth 20000 in
theorem nm_X2_spread : yX2_spread.cls ≠ "java/lang/invoke/MethodHandle" ∧ yX2_spread.cls ≠ "java/lang/invoke/VarHandle" ∧ (parseMethodDescriptor yX2_spread.desc).map (fun d => d.parameters.length) = some 5 := by decide +kernel
set_option maxRecDepth 20000 in
theorem ml_X2_79 : am_ml RX2 79 yX2_spread cX2_spread 11 none 5 := ⟨am_in 553 (by decide +kernel) rfl, iw_X2, cw_X2_spread, nm_X2_spread.1, nm_X2_spread.2.1, nm_X2_spread.2.2, by decide⟩
set_option maxRecDepth 20000 in
theorem cw_X2_sheetsOf : Cond.code yX2_sheetsOf cX2_sheetsOf 1 (some .int) ∈ am_TB := am_in 559 (by decide +kernel) rfl
set_option maxRecDepth 20000 in
theorem st_X2_sheetsOf : Cond.static yX2_sheetsOf ∈ am_TB := am_in 558 (by decide +kernel) rfl
set_option maxRecDepth 20000 in
theorem nm_X2_sheetsOf : yX2_sheetsOf.cls ≠ "java/lang/invoke/MethodHandle" ∧ yX2_sheetsOf.cls ≠ "java/lang/invoke/VarHandle" ∧ (parseMethodDescriptor yX2_sheetsOf.desc).map (fun d => d.parameters.length) = some 1 := by decide +kernel
set_option maxRecDepth 20000 in
theorem ml_X2_86 : am_ml RX2 86 yX2_sheetsOf cX2_sheetsOf 1 (some .int) 1 := ⟨am_in 557 (by decide +kernel) rfl, iw_X2, cw_X2_sheetsOf, nm_X2_sheetsOf.1, nm_X2_sheetsOf.2.1, nm_X2_sheetsOf.2.2, by decide⟩
set_option maxRecDepth 20000 in
theorem cw_X2_longer : Cond.code yX2_longer cX2_longer 3 (some .int) ∈ am_TB := am_in 564 (by decide +kernel) rfl
set_option maxRecDepth 20000 in
theorem st_X2_longer : Cond.static yX2_longer ∈ am_TB := am_in 563 (by decide +kernel) rfl
set_option maxRecDepth 20000 in
theorem nm_X2_longer : yX2_longer.cls ≠ "java/lang/invoke/MethodHandle" ∧ yX2_longer.cls ≠ "java/lang/invoke/VarHandle" ∧ (parseMethodDescriptor yX2_longer.desc).map (fun d => d.parameters.length) = some 2 := by decide +kernel
set_option maxRecDepth 20000 in
theorem ml_X2_89 : am_ml RX2 89 yX2_longer cX2_longer 3 (some .int) 2 := ⟨am_in 562 (by decide +kernel) rfl, iw_X2, cw_X2_longer, nm_X2_longer.1, nm_X2_longer.2.1, nm_X2_longer.2.2, by decide⟩
set_option maxRecDepth 20000 in
theorem cw_X5_lifted : Cond.code yX5_lifted cX5_lifted 5 (some .int) ∈ am_TB := am_in 464 (by decide +kernel) rfl
set_option maxRecDepth 20000 in
theorem st_X5_lifted : Cond.static yX5_lifted ∈ am_TB := am_in 463 (by decide +kernel) rfl
set_option maxRecDepth 20000 in
theorem nm_X5_lifted : yX5_lifted.cls ≠ "java/lang/invoke/MethodHandle" ∧ yX5_lifted.cls ≠ "java/lang/invoke/VarHandle" ∧ (parseMethodDescriptor yX5_lifted.desc).map (fun d => d.parameters.length) = some 3 := by decide +kernel
set_option maxRecDepth 20000 in
theorem ml_X2_95 : am_ml RX2 95 yX5_lifted cX5_lifted 5 (some .int) 3 := ⟨am_in 565 (by decide +kernel) rfl, iw_X5, cw_X5_lifted, nm_X5_lifted.1, nm_X5_lifted.2.1, nm_X5_lifted.2.2, by decide⟩
set_option maxRecDepth 20000 in
theorem cw_X2_reads : Cond.code yX2_reads cX2_reads 3 (some .boolean) ∈ am_TB := am_in 583 (by decide +kernel) rfl
set_option maxRecDepth 20000 in
theorem im_X2_reads : Cond.instanceMethod yX2_reads ∈ am_TB := am_in 582 (by decide +kernel) rfl
set_option maxRecDepth 20000 in
theorem se_X2_reads : Cond.selects yX2_reads.cls yX2_reads yX2_reads ∈ am_TB := am_in 13 (by decide +kernel) rfl
set_option maxRecDepth 20000 in
theorem nm_X2_reads : yX2_reads.cls ≠ "java/lang/invoke/MethodHandle" ∧ yX2_reads.cls ≠ "java/lang/invoke/VarHandle" ∧ (parseMethodDescriptor yX2_reads.desc).map (fun d => d.parameters.length) = some 2 := by decide +kernel
set_option maxRecDepth 20000 in
theorem ml_X2_100 : am_ml RX2 100 yX2_reads cX2_reads 3 (some .boolean) 2 := ⟨am_in 580 (by decide +kernel) rfl, iw_X2, cw_X2_reads, nm_X2_reads.1, nm_X2_reads.2.1, nm_X2_reads.2.2, by decide⟩
set_option maxRecDepth 20000 in
theorem cw_X5_bandOf : Cond.code yX5_bandOf cX5_bandOf 1 (some .int) ∈ am_TB := am_in 435 (by decide +kernel) rfl
set_option maxRecDepth 20000 in
theorem st_X5_bandOf : Cond.static yX5_bandOf ∈ am_TB := am_in 434 (by decide +kernel) rfl
set_option maxRecDepth 20000 in
theorem nm_X5_bandOf : yX5_bandOf.cls ≠ "java/lang/invoke/MethodHandle" ∧ yX5_bandOf.cls ≠ "java/lang/invoke/VarHandle" ∧ (parseMethodDescriptor yX5_bandOf.desc).map (fun d => d.parameters.length) = some 1 := by decide +kernel
set_option maxRecDepth 20000 in
theorem ml_X2_104 : am_ml RX2 104 yX5_bandOf cX5_bandOf 1 (some .int) 1 := ⟨am_in 584 (by decide +kernel) rfl, iw_X5, cw_X5_bandOf, nm_X5_bandOf.1, nm_X5_bandOf.2.1, nm_X5_bandOf.2.2, by decide⟩
set_option maxRecDepth 20000 in
theorem cw_X2_comesSo : Cond.code yX2_comesSo cX2_comesSo 7 (some .boolean) ∈ am_TB := am_in 604 (by decide +kernel) rfl
set_option maxRecDepth 20000 in
theorem im_X2_comesSo : Cond.instanceMethod yX2_comesSo ∈ am_TB := am_in 603 (by decide +kernel) rfl
set_option maxRecDepth 20000 in
theorem se_X2_comesSo : Cond.selects yX2_comesSo.cls yX2_comesSo yX2_comesSo ∈ am_TB := am_in 14 (by decide +kernel) rfl
set_option maxRecDepth 20000 in
theorem nm_X2_comesSo : yX2_comesSo.cls ≠ "java/lang/invoke/MethodHandle" ∧ yX2_comesSo.cls ≠ "java/lang/invoke/VarHandle" ∧ (parseMethodDescriptor yX2_comesSo.desc).map (fun d => d.parameters.length) = some 4 := by decide +kernel
set_option maxRecDepth 20000 in
theorem ml_X2_109 : am_ml RX2 109 yX2_comesSo cX2_comesSo 7 (some .boolean) 4 := ⟨am_in 601 (by decide +kernel) rfl, iw_X2, cw_X2_comesSo, nm_X2_comesSo.1, nm_X2_comesSo.2.1, nm_X2_comesSo.2.2, by decide⟩
set_option maxRecDepth 20000 in
theorem cw_X2_hoursUp : Cond.code yX2_hoursUp cX2_hoursUp 7 (some .int) ∈ am_TB := am_in 620 (by decide +kernel) rfl
set_option maxRecDepth 20000 in
theorem im_X2_hoursUp : Cond.instanceMethod yX2_hoursUp ∈ am_TB := am_in 618 (by decide +kernel) rfl
set_option maxRecDepth 20000 in
theorem se_X2_hoursUp : Cond.selects yX2_hoursUp.cls yX2_hoursUp yX2_hoursUp ∈ am_TB := am_in 619 (by decide +kernel) rfl
set_option maxRecDepth 20000 in
theorem nm_X2_hoursUp : yX2_hoursUp.cls ≠ "java/lang/invoke/MethodHandle" ∧ yX2_hoursUp.cls ≠ "java/lang/invoke/VarHandle" ∧ (parseMethodDescriptor yX2_hoursUp.desc).map (fun d => d.parameters.length) = some 3 := by decide +kernel
set_option maxRecDepth 20000 in
theorem ml_X2_117 : am_ml RX2 117 yX2_hoursUp cX2_hoursUp 7 (some .int) 3 := ⟨am_in 629 (by decide +kernel) rfl, iw_X2, cw_X2_hoursUp, nm_X2_hoursUp.1, nm_X2_hoursUp.2.1, nm_X2_hoursUp.2.2, by decide⟩
set_option maxRecDepth 20000 in
theorem cw_X2_landIfTurned : Cond.code yX2_landIfTurned cX2_landIfTurned 9 (some .int) ∈ am_TB := am_in 642 (by decide +kernel) rfl
set_option maxRecDepth 20000 in
theorem im_X2_landIfTurned : Cond.instanceMethod yX2_landIfTurned ∈ am_TB := am_in 641 (by decide +kernel) rfl
set_option maxRecDepth 20000 in
theorem se_X2_landIfTurned : Cond.selects yX2_landIfTurned.cls yX2_landIfTurned yX2_landIfTurned ∈ am_TB := am_in 15 (by decide +kernel) rfl
set_option maxRecDepth 20000 in
theorem nm_X2_landIfTurned : yX2_landIfTurned.cls ≠ "java/lang/invoke/MethodHandle" ∧ yX2_landIfTurned.cls ≠ "java/lang/invoke/VarHandle" ∧ (parseMethodDescriptor yX2_landIfTurned.desc).map (fun d => d.parameters.length) = some 3 := by decide +kernel
set_option maxRecDepth 20000 in
theorem ml_X2_120 : am_ml RX2 120 yX2_landIfTurned cX2_landIfTurned 9 (some .int) 3 := ⟨am_in 639 (by decide +kernel) rfl, iw_X2, cw_X2_landIfTurned, nm_X2_landIfTurned.1, nm_X2_landIfTurned.2.1, nm_X2_landIfTurned.2.2, by decide⟩
set_option maxRecDepth 20000 in
theorem cw_X2_casesOf : Cond.code yX2_casesOf cX2_casesOf 4 (some .int) ∈ am_TB := am_in 647 (by decide +kernel) rfl
set_option maxRecDepth 20000 in
theorem st_X2_casesOf : Cond.static yX2_casesOf ∈ am_TB := am_in 646 (by decide +kernel) rfl
set_option maxRecDepth 20000 in
theorem nm_X2_casesOf : yX2_casesOf.cls ≠ "java/lang/invoke/MethodHandle" ∧ yX2_casesOf.cls ≠ "java/lang/invoke/VarHandle" ∧ (parseMethodDescriptor yX2_casesOf.desc).map (fun d => d.parameters.length) = some 2 := by decide +kernel
set_option maxRecDepth 20000 in
theorem ml_X2_123 : am_ml RX2 123 yX2_casesOf cX2_casesOf 4 (some .int) 2 := ⟨am_in 645 (by decide +kernel) rfl, iw_X2, cw_X2_casesOf, nm_X2_casesOf.1, nm_X2_casesOf.2.1, nm_X2_casesOf.2.2, by decide⟩
set_option maxRecDepth 20000 in
theorem cw_X5_driftAt : Cond.code yX5_driftAt cX5_driftAt 2 (some .int) ∈ am_TB := am_in 432 (by decide +kernel) rfl
set_option maxRecDepth 20000 in
theorem im_X5_driftAt : Cond.instanceMethod yX5_driftAt ∈ am_TB := am_in 430 (by decide +kernel) rfl
set_option maxRecDepth 20000 in
theorem se_X5_driftAt : Cond.selects yX5_driftAt.cls yX5_driftAt yX5_driftAt ∈ am_TB := am_in 431 (by decide +kernel) rfl
set_option maxRecDepth 20000 in
theorem nm_X5_driftAt : yX5_driftAt.cls ≠ "java/lang/invoke/MethodHandle" ∧ yX5_driftAt.cls ≠ "java/lang/invoke/VarHandle" ∧ (parseMethodDescriptor yX5_driftAt.desc).map (fun d => d.parameters.length) = some 1 := by decide +kernel
set_option maxRecDepth 20000 in
theorem ml_X2_126 : am_ml RX2 126 yX5_driftAt cX5_driftAt 2 (some .int) 1 := ⟨am_in 643 (by decide +kernel) rfl, iw_X5, cw_X5_driftAt, nm_X5_driftAt.1, nm_X5_driftAt.2.1, nm_X5_driftAt.2.2, by decide⟩
set_option maxRecDepth 20000 in
theorem cw_X5_moved : Cond.code yX5_moved cX5_moved 2 (some .int) ∈ am_TB := am_in 438 (by decide +kernel) rfl
set_option maxRecDepth 20000 in
theorem st_X5_moved : Cond.static yX5_moved ∈ am_TB := am_in 437 (by decide +kernel) rfl
set_option maxRecDepth 20000 in
theorem nm_X5_moved : yX5_moved.cls ≠ "java/lang/invoke/MethodHandle" ∧ yX5_moved.cls ≠ "java/lang/invoke/VarHandle" ∧ (parseMethodDescriptor yX5_moved.desc).map (fun d => d.parameters.length) = some 2 := by decide +kernel
set_option maxRecDepth 20000 in
theorem ml_X2_129 : am_ml RX2 129 yX5_moved cX5_moved 2 (some .int) 2 := ⟨am_in 644 (by decide +kernel) rfl, iw_X5, cw_X5_moved, nm_X5_moved.1, nm_X5_moved.2.1, nm_X5_moved.2.2, by decide⟩
set_option maxRecDepth 20000 in
theorem cw_X5_useSheets : Cond.code yX5_useSheets cX5_useSheets 3 none ∈ am_TB := am_in 461 (by decide +kernel) rfl
set_option maxRecDepth 20000 in
theorem im_X5_useSheets : Cond.instanceMethod yX5_useSheets ∈ am_TB := am_in 459 (by decide +kernel) rfl
set_option maxRecDepth 20000 in
theorem se_X5_useSheets : Cond.selects yX5_useSheets.cls yX5_useSheets yX5_useSheets ∈ am_TB := am_in 460 (by decide +kernel) rfl
set_option maxRecDepth 20000 in
theorem nm_X5_useSheets : yX5_useSheets.cls ≠ "java/lang/invoke/MethodHandle" ∧ yX5_useSheets.cls ≠ "java/lang/invoke/VarHandle" ∧ (parseMethodDescriptor yX5_useSheets.desc).map (fun d => d.parameters.length) = some 2 := by decide +kernel
set_option maxRecDepth 20000 in
theorem ml_X2_138 : am_ml RX2 138 yX5_useSheets cX5_useSheets 3 none 2 := ⟨am_in 663 (by decide +kernel) rfl, iw_X5, cw_X5_useSheets, nm_X5_useSheets.1, nm_X5_useSheets.2.1, nm_X5_useSheets.2.2, by decide⟩
set_option maxRecDepth 20000 in
theorem ml_X3_13 : am_ml RX3 13 yX3_nearest cX3_nearest 1 (some .int) 1 := ⟨am_in 687 (by decide +kernel) rfl, iw_X3, cw_X3_nearest, nm_X3_nearest.1, nm_X3_nearest.2.1, nm_X3_nearest.2.2, by decide⟩
set_option maxRecDepth 20000 in
theorem lk_X4_3 : Cond.methodLink RX4 3 objectInit ∈ am_TB := am_in 68 (by decide +kernel) rfl
set_option maxRecDepth 20000 in
theorem ml_X4_26 : am_ml RX4 26 yJ7_fill_53178 cJ7_fill_53178 4 none 2 := ⟨am_in 280 (by decide +kernel) rfl, iw_J7, cw_J7_fill_53178, nm_J7_fill_53178.1, nm_J7_fill_53178.2.1, nm_J7_fill_53178.2.2, by decide⟩
set_option maxRecDepth 20000 in
theorem cw_X4_spans : Cond.code yX4_spans cX4_spans 3 (some .boolean) ∈ am_TB := am_in 298 (by decide +kernel) rfl
set_option maxRecDepth 20000 in
theorem im_X4_spans : Cond.instanceMethod yX4_spans ∈ am_TB := am_in 296 (by decide +kernel) rfl
set_option maxRecDepth 20000 in
theorem se_X4_spans : Cond.selects yX4_spans.cls yX4_spans yX4_spans ∈ am_TB := am_in 297 (by decide +kernel) rfl
set_option maxRecDepth 20000 in
theorem nm_X4_spans : yX4_spans.cls ≠ "java/lang/invoke/MethodHandle" ∧ yX4_spans.cls ≠ "java/lang/invoke/VarHandle" ∧ (parseMethodDescriptor yX4_spans.desc).map (fun d => d.parameters.length) = some 2 := by decide +kernel
set_option maxRecDepth 20000 in
theorem ml_X4_32 : am_ml RX4 32 yX4_spans cX4_spans 3 (some .boolean) 2 := ⟨am_in 295 (by decide +kernel) rfl, iw_X4, cw_X4_spans, nm_X4_spans.1, nm_X4_spans.2.1, nm_X4_spans.2.2, by decide⟩
set_option maxRecDepth 20000 in
theorem cw_X4_cut : Cond.code yX4_cut cX4_cut 2 (some .int) ∈ am_TB := am_in 306 (by decide +kernel) rfl
set_option maxRecDepth 20000 in
theorem im_X4_cut : Cond.instanceMethod yX4_cut ∈ am_TB := am_in 305 (by decide +kernel) rfl
set_option maxRecDepth 20000 in
theorem se_X4_cut : Cond.selects yX4_cut.cls yX4_cut yX4_cut ∈ am_TB := am_in 2 (by decide +kernel) rfl
set_option maxRecDepth 20000 in
theorem nm_X4_cut : yX4_cut.cls ≠ "java/lang/invoke/MethodHandle" ∧ yX4_cut.cls ≠ "java/lang/invoke/VarHandle" ∧ (parseMethodDescriptor yX4_cut.desc).map (fun d => d.parameters.length) = some 1 := by decide +kernel
set_option maxRecDepth 20000 in
theorem ml_X4_36 : am_ml RX4 36 yX4_cut cX4_cut 2 (some .int) 1 := ⟨am_in 303 (by decide +kernel) rfl, iw_X4, cw_X4_cut, nm_X4_cut.1, nm_X4_cut.2.1, nm_X4_cut.2.2, by decide⟩
set_option maxRecDepth 20000 in
theorem lk_X5_1 : Cond.methodLink RX5 1 objectInit ∈ am_TB := am_in 113 (by decide +kernel) rfl
set_option maxRecDepth 20000 in
theorem lk_X5_38 : Cond.methodLink RX5 38 arraycopyName ∈ am_TB := am_in 379 (by decide +kernel) rfl
set_option maxRecDepth 20000 in
theorem ml_X5_44 : am_ml RX5 44 yX5_sunk cX5_sunk 2 (some .int) 1 := ⟨am_in 418 (by decide +kernel) rfl, iw_X5, cw_X5_sunk, nm_X5_sunk.1, nm_X5_sunk.2.1, nm_X5_sunk.2.2, by decide⟩
set_option maxRecDepth 20000 in
theorem ml_X5_48 : am_ml RX5 48 yX5_carried cX5_carried 3 (some .int) 2 := ⟨am_in 425 (by decide +kernel) rfl, iw_X5, cw_X5_carried, nm_X5_carried.1, nm_X5_carried.2.1, nm_X5_carried.2.2, by decide⟩
set_option maxRecDepth 20000 in
theorem ml_X5_52 : am_ml RX5 52 yX5_lifted cX5_lifted 5 (some .int) 3 := ⟨am_in 462 (by decide +kernel) rfl, iw_X5, cw_X5_lifted, nm_X5_lifted.1, nm_X5_lifted.2.1, nm_X5_lifted.2.2, by decide⟩
set_option maxRecDepth 20000 in
theorem lk_X5_56 : Cond.methodLink RX5 56 Lib.Math.max.name ∈ am_TB := am_in 422 (by decide +kernel) rfl
set_option maxRecDepth 20000 in
theorem ml_X5_61 : am_ml RX5 61 yX5_driftAt cX5_driftAt 2 (some .int) 1 := ⟨am_in 429 (by decide +kernel) rfl, iw_X5, cw_X5_driftAt, nm_X5_driftAt.1, nm_X5_driftAt.2.1, nm_X5_driftAt.2.2, by decide⟩
set_option maxRecDepth 20000 in
theorem ml_X5_64 : am_ml RX5 64 yX5_moved cX5_moved 2 (some .int) 2 := ⟨am_in 436 (by decide +kernel) rfl, iw_X5, cw_X5_moved, nm_X5_moved.1, nm_X5_moved.2.1, nm_X5_moved.2.2, by decide⟩
set_option maxRecDepth 20000 in
theorem ml_X5_67 : am_ml RX5 67 yX5_bandOf cX5_bandOf 1 (some .int) 1 := ⟨am_in 433 (by decide +kernel) rfl, iw_X5, cw_X5_bandOf, nm_X5_bandOf.1, nm_X5_bandOf.2.1, nm_X5_bandOf.2.2, by decide⟩
set_option maxRecDepth 20000 in
theorem lk_X5_70 : Cond.methodLink RX5 70 Lib.Math.min.name ∈ am_TB := am_in 439 (by decide +kernel) rfl
set_option maxRecDepth 20000 in
theorem cw_X5_liftOf : Cond.code yX5_liftOf cX5_liftOf 2 (some .int) ∈ am_TB := am_in 467 (by decide +kernel) rfl
set_option maxRecDepth 20000 in
theorem st_X5_liftOf : Cond.static yX5_liftOf ∈ am_TB := am_in 466 (by decide +kernel) rfl
set_option maxRecDepth 20000 in
theorem nm_X5_liftOf : yX5_liftOf.cls ≠ "java/lang/invoke/MethodHandle" ∧ yX5_liftOf.cls ≠ "java/lang/invoke/VarHandle" ∧ (parseMethodDescriptor yX5_liftOf.desc).map (fun d => d.parameters.length) = some 2 := by decide +kernel
set_option maxRecDepth 20000 in
theorem ml_X5_73 : am_ml RX5 73 yX5_liftOf cX5_liftOf 2 (some .int) 2 := ⟨am_in 465 (by decide +kernel) rfl, iw_X5, cw_X5_liftOf, nm_X5_liftOf.1, nm_X5_liftOf.2.1, nm_X5_liftOf.2.2, by decide⟩
set_option maxRecDepth 20000 in
theorem lk_X6_3 : Cond.methodLink RX6 3 objectInit ∈ am_TB := am_in 92 (by decide +kernel) rfl
set_option maxRecDepth 20000 in
theorem cw_X5_begin : Cond.code yX5_begin cX5_begin 1 none ∈ am_TB := am_in 339 (by decide +kernel) rfl
set_option maxRecDepth 20000 in
theorem im_X5_begin : Cond.instanceMethod yX5_begin ∈ am_TB := am_in 337 (by decide +kernel) rfl
set_option maxRecDepth 20000 in
theorem se_X5_begin : Cond.selects yX5_begin.cls yX5_begin yX5_begin ∈ am_TB := am_in 338 (by decide +kernel) rfl
set_option maxRecDepth 20000 in
theorem nm_X5_begin : yX5_begin.cls ≠ "java/lang/invoke/MethodHandle" ∧ yX5_begin.cls ≠ "java/lang/invoke/VarHandle" ∧ (parseMethodDescriptor yX5_begin.desc).map (fun d => d.parameters.length) = some 0 := by decide +kernel
set_option maxRecDepth 20000 in
theorem ml_X6_26 : am_ml RX6 26 yX5_begin cX5_begin 1 none 0 := ⟨am_in 336 (by decide +kernel) rfl, iw_X5, cw_X5_begin, nm_X5_begin.1, nm_X5_begin.2.1, nm_X5_begin.2.2, by decide⟩
set_option maxRecDepth 20000 in
theorem cw_X6_readLaw : Cond.code yX6_readLaw cX6_readLaw 3 none ∈ am_TB := am_in 343 (by decide +kernel) rfl
set_option maxRecDepth 20000 in
theorem im_X6_readLaw : Cond.instanceMethod yX6_readLaw ∈ am_TB := am_in 342 (by decide +kernel) rfl
set_option maxRecDepth 20000 in
theorem se_X6_readLaw : Cond.selects yX6_readLaw.cls yX6_readLaw yX6_readLaw ∈ am_TB := am_in 3 (by decide +kernel) rfl
set_option maxRecDepth 20000 in
theorem nm_X6_readLaw : yX6_readLaw.cls ≠ "java/lang/invoke/MethodHandle" ∧ yX6_readLaw.cls ≠ "java/lang/invoke/VarHandle" ∧ (parseMethodDescriptor yX6_readLaw.desc).map (fun d => d.parameters.length) = some 1 := by decide +kernel
set_option maxRecDepth 20000 in
theorem ml_X6_31 : am_ml RX6 31 yX6_readLaw cX6_readLaw 3 none 1 := ⟨am_in 340 (by decide +kernel) rfl, iw_X6, cw_X6_readLaw, nm_X6_readLaw.1, nm_X6_readLaw.2.1, nm_X6_readLaw.2.2, by decide⟩
set_option maxRecDepth 20000 in
theorem cw_X6_readOffice : Cond.code yX6_readOffice cX6_readOffice 6 none ∈ am_TB := am_in 362 (by decide +kernel) rfl
set_option maxRecDepth 20000 in
theorem im_X6_readOffice : Cond.instanceMethod yX6_readOffice ∈ am_TB := am_in 361 (by decide +kernel) rfl
set_option maxRecDepth 20000 in
theorem se_X6_readOffice : Cond.selects yX6_readOffice.cls yX6_readOffice yX6_readOffice ∈ am_TB := am_in 7 (by decide +kernel) rfl
set_option maxRecDepth 20000 in
theorem nm_X6_readOffice : yX6_readOffice.cls ≠ "java/lang/invoke/MethodHandle" ∧ yX6_readOffice.cls ≠ "java/lang/invoke/VarHandle" ∧ (parseMethodDescriptor yX6_readOffice.desc).map (fun d => d.parameters.length) = some 1 := by decide +kernel
set_option maxRecDepth 20000 in
theorem ml_X6_35 : am_ml RX6 35 yX6_readOffice cX6_readOffice 6 none 1 := ⟨am_in 359 (by decide +kernel) rfl, iw_X6, cw_X6_readOffice, nm_X6_readOffice.1, nm_X6_readOffice.2.1, nm_X6_readOffice.2.2, by decide⟩
set_option maxRecDepth 20000 in
theorem cw_X6_takeByte : Cond.code yX6_takeByte cX6_takeByte 2 none ∈ am_TB := am_in 347 (by decide +kernel) rfl
set_option maxRecDepth 20000 in
theorem im_X6_takeByte : Cond.instanceMethod yX6_takeByte ∈ am_TB := am_in 346 (by decide +kernel) rfl
set_option maxRecDepth 20000 in
theorem se_X6_takeByte : Cond.selects yX6_takeByte.cls yX6_takeByte yX6_takeByte ∈ am_TB := am_in 4 (by decide +kernel) rfl
set_option maxRecDepth 20000 in
theorem nm_X6_takeByte : yX6_takeByte.cls ≠ "java/lang/invoke/MethodHandle" ∧ yX6_takeByte.cls ≠ "java/lang/invoke/VarHandle" ∧ (parseMethodDescriptor yX6_takeByte.desc).map (fun d => d.parameters.length) = some 1 := by decide +kernel
set_option maxRecDepth 20000 in
theorem ml_X6_38 : am_ml RX6 38 yX6_takeByte cX6_takeByte 2 none 1 := ⟨am_in 344 (by decide +kernel) rfl, iw_X6, cw_X6_takeByte, nm_X6_takeByte.1, nm_X6_takeByte.2.1, nm_X6_takeByte.2.2, by decide⟩
set_option maxRecDepth 20000 in
theorem cw_X6_takeNumber : Cond.code yX6_takeNumber cX6_takeNumber 5 (some .int) ∈ am_TB := am_in 351 (by decide +kernel) rfl
set_option maxRecDepth 20000 in
theorem im_X6_takeNumber : Cond.instanceMethod yX6_takeNumber ∈ am_TB := am_in 350 (by decide +kernel) rfl
set_option maxRecDepth 20000 in
theorem se_X6_takeNumber : Cond.selects yX6_takeNumber.cls yX6_takeNumber yX6_takeNumber ∈ am_TB := am_in 5 (by decide +kernel) rfl
set_option maxRecDepth 20000 in
theorem nm_X6_takeNumber : yX6_takeNumber.cls ≠ "java/lang/invoke/MethodHandle" ∧ yX6_takeNumber.cls ≠ "java/lang/invoke/VarHandle" ∧ (parseMethodDescriptor yX6_takeNumber.desc).map (fun d => d.parameters.length) = some 1 := by decide +kernel
set_option maxRecDepth 20000 in
theorem ml_X6_45 : am_ml RX6 45 yX6_takeNumber cX6_takeNumber 5 (some .int) 1 := ⟨am_in 348 (by decide +kernel) rfl, iw_X6, cw_X6_takeNumber, nm_X6_takeNumber.1, nm_X6_takeNumber.2.1, nm_X6_takeNumber.2.2, by decide⟩
set_option maxRecDepth 20000 in
theorem cw_X6_takeSort : Cond.code yX6_takeSort cX6_takeSort 3 (some .int) ∈ am_TB := am_in 366 (by decide +kernel) rfl
set_option maxRecDepth 20000 in
theorem im_X6_takeSort : Cond.instanceMethod yX6_takeSort ∈ am_TB := am_in 365 (by decide +kernel) rfl
set_option maxRecDepth 20000 in
theorem se_X6_takeSort : Cond.selects yX6_takeSort.cls yX6_takeSort yX6_takeSort ∈ am_TB := am_in 8 (by decide +kernel) rfl
set_option maxRecDepth 20000 in
theorem nm_X6_takeSort : yX6_takeSort.cls ≠ "java/lang/invoke/MethodHandle" ∧ yX6_takeSort.cls ≠ "java/lang/invoke/VarHandle" ∧ (parseMethodDescriptor yX6_takeSort.desc).map (fun d => d.parameters.length) = some 1 := by decide +kernel
set_option maxRecDepth 20000 in
theorem ml_X6_55 : am_ml RX6 55 yX6_takeSort cX6_takeSort 3 (some .int) 1 := ⟨am_in 363 (by decide +kernel) rfl, iw_X6, cw_X6_takeSort, nm_X6_takeSort.1, nm_X6_takeSort.2.1, nm_X6_takeSort.2.2, by decide⟩
set_option maxRecDepth 20000 in
theorem cw_X5_addOffice : Cond.code yX5_addOffice cX5_addOffice 5 none ∈ am_TB := am_in 373 (by decide +kernel) rfl
set_option maxRecDepth 20000 in
theorem im_X5_addOffice : Cond.instanceMethod yX5_addOffice ∈ am_TB := am_in 371 (by decide +kernel) rfl
set_option maxRecDepth 20000 in
theorem se_X5_addOffice : Cond.selects yX5_addOffice.cls yX5_addOffice yX5_addOffice ∈ am_TB := am_in 372 (by decide +kernel) rfl
set_option maxRecDepth 20000 in
theorem nm_X5_addOffice : yX5_addOffice.cls ≠ "java/lang/invoke/MethodHandle" ∧ yX5_addOffice.cls ≠ "java/lang/invoke/VarHandle" ∧ (parseMethodDescriptor yX5_addOffice.desc).map (fun d => d.parameters.length) = some 4 := by decide +kernel
set_option maxRecDepth 20000 in
theorem ml_X6_58 : am_ml RX6 58 yX5_addOffice cX5_addOffice 5 none 4 := ⟨am_in 370 (by decide +kernel) rfl, iw_X5, cw_X5_addOffice, nm_X5_addOffice.1, nm_X5_addOffice.2.1, nm_X5_addOffice.2.2, by decide⟩
set_option maxRecDepth 20000 in
theorem cw_X3_ofLetter : Cond.code yX3_ofLetter cX3_ofLetter 1 (some .int) ∈ am_TB := am_in 369 (by decide +kernel) rfl
set_option maxRecDepth 20000 in
theorem st_X3_ofLetter : Cond.static yX3_ofLetter ∈ am_TB := am_in 368 (by decide +kernel) rfl
set_option maxRecDepth 20000 in
theorem nm_X3_ofLetter : yX3_ofLetter.cls ≠ "java/lang/invoke/MethodHandle" ∧ yX3_ofLetter.cls ≠ "java/lang/invoke/VarHandle" ∧ (parseMethodDescriptor yX3_ofLetter.desc).map (fun d => d.parameters.length) = some 1 := by decide +kernel
set_option maxRecDepth 20000 in
theorem ml_X6_64 : am_ml RX6 64 yX3_ofLetter cX3_ofLetter 1 (some .int) 1 := ⟨am_in 367 (by decide +kernel) rfl, iw_X3, cw_X3_ofLetter, nm_X3_ofLetter.1, nm_X3_ofLetter.2.1, nm_X3_ofLetter.2.2, by decide⟩
set_option maxRecDepth 20000 in
theorem cw_X6_figuresHere : Cond.code yX6_figuresHere cX6_figuresHere 2 (some .int) ∈ am_TB := am_in 355 (by decide +kernel) rfl
set_option maxRecDepth 20000 in
theorem im_X6_figuresHere : Cond.instanceMethod yX6_figuresHere ∈ am_TB := am_in 354 (by decide +kernel) rfl
set_option maxRecDepth 20000 in
theorem se_X6_figuresHere : Cond.selects yX6_figuresHere.cls yX6_figuresHere yX6_figuresHere ∈ am_TB := am_in 6 (by decide +kernel) rfl
set_option maxRecDepth 20000 in
theorem nm_X6_figuresHere : yX6_figuresHere.cls ≠ "java/lang/invoke/MethodHandle" ∧ yX6_figuresHere.cls ≠ "java/lang/invoke/VarHandle" ∧ (parseMethodDescriptor yX6_figuresHere.desc).map (fun d => d.parameters.length) = some 0 := by decide +kernel
set_option maxRecDepth 20000 in
theorem ml_X6_67 : am_ml RX6 67 yX6_figuresHere cX6_figuresHere 2 (some .int) 0 := ⟨am_in 352 (by decide +kernel) rfl, iw_X6, cw_X6_figuresHere, nm_X6_figuresHere.1, nm_X6_figuresHere.2.1, nm_X6_figuresHere.2.2, by decide⟩
set_option maxRecDepth 20000 in
theorem cw_X6_isFigure : Cond.code yX6_isFigure cX6_isFigure 1 (some .boolean) ∈ am_TB := am_in 358 (by decide +kernel) rfl
set_option maxRecDepth 20000 in
theorem st_X6_isFigure : Cond.static yX6_isFigure ∈ am_TB := am_in 357 (by decide +kernel) rfl
set_option maxRecDepth 20000 in
theorem nm_X6_isFigure : yX6_isFigure.cls ≠ "java/lang/invoke/MethodHandle" ∧ yX6_isFigure.cls ≠ "java/lang/invoke/VarHandle" ∧ (parseMethodDescriptor yX6_isFigure.desc).map (fun d => d.parameters.length) = some 1 := by decide +kernel
set_option maxRecDepth 20000 in
theorem ml_X6_71 : am_ml RX6 71 yX6_isFigure cX6_isFigure 1 (some .boolean) 1 := ⟨am_in 356 (by decide +kernel) rfl, iw_X6, cw_X6_isFigure, nm_X6_isFigure.1, nm_X6_isFigure.2.1, nm_X6_isFigure.2.2, by decide⟩
set_option maxRecDepth 20000 in
theorem lk_X7_1 : Cond.methodLink RX7 1 objectInit ∈ am_TB := am_in 59 (by decide +kernel) rfl
set_option maxRecDepth 20000 in
theorem cw_X0_init : Cond.code yX0_init cX0_init 2 none ∈ am_TB := am_in 166 (by decide +kernel) rfl
set_option maxRecDepth 20000 in
theorem im_X0_init : Cond.instanceMethod yX0_init ∈ am_TB := am_in 165 (by decide +kernel) rfl
set_option maxRecDepth 20000 in
theorem nm_X0_init : yX0_init.cls ≠ "java/lang/invoke/MethodHandle" ∧ yX0_init.cls ≠ "java/lang/invoke/VarHandle" ∧ (parseMethodDescriptor yX0_init.desc).map (fun d => d.parameters.length) = some 0 := by decide +kernel
set_option maxRecDepth 20000 in
theorem ml_X7_35 : am_ml RX7 35 yX0_init cX0_init 2 none 0 := ⟨am_in 164 (by decide +kernel) rfl, iw_X0, cw_X0_init, nm_X0_init.1, nm_X0_init.2.1, nm_X0_init.2.2, by decide⟩
set_option maxRecDepth 20000 in
theorem cw_X2_init : Cond.code yX2_init cX2_init 2 none ∈ am_TB := am_in 186 (by decide +kernel) rfl
set_option maxRecDepth 20000 in
theorem im_X2_init : Cond.instanceMethod yX2_init ∈ am_TB := am_in 185 (by decide +kernel) rfl
set_option maxRecDepth 20000 in
theorem nm_X2_init : yX2_init.cls ≠ "java/lang/invoke/MethodHandle" ∧ yX2_init.cls ≠ "java/lang/invoke/VarHandle" ∧ (parseMethodDescriptor yX2_init.desc).map (fun d => d.parameters.length) = some 1 := by decide +kernel
set_option maxRecDepth 20000 in
theorem ml_X7_46 : am_ml RX7 46 yX2_init cX2_init 2 none 1 := ⟨am_in 184 (by decide +kernel) rfl, iw_X2, cw_X2_init, nm_X2_init.1, nm_X2_init.2.1, nm_X2_init.2.2, by decide⟩
set_option maxRecDepth 20000 in
theorem cw_X1_init : Cond.code yX1_init cX1_init 2 none ∈ am_TB := am_in 215 (by decide +kernel) rfl
set_option maxRecDepth 20000 in
theorem im_X1_init : Cond.instanceMethod yX1_init ∈ am_TB := am_in 214 (by decide +kernel) rfl
set_option maxRecDepth 20000 in
theorem nm_X1_init : yX1_init.cls ≠ "java/lang/invoke/MethodHandle" ∧ yX1_init.cls ≠ "java/lang/invoke/VarHandle" ∧ (parseMethodDescriptor yX1_init.desc).map (fun d => d.parameters.length) = some 1 := by decide +kernel
set_option maxRecDepth 20000 in
theorem ml_X7_55 : am_ml RX7 55 yX1_init cX1_init 2 none 1 := ⟨am_in 213 (by decide +kernel) rfl, iw_X1, cw_X1_init, nm_X1_init.1, nm_X1_init.2.1, nm_X1_init.2.2, by decide⟩
set_option maxRecDepth 20000 in
theorem cw_X7_isRow : Cond.code yX7_isRow cX7_isRow 1 (some .boolean) ∈ am_TB := am_in 266 (by decide +kernel) rfl
set_option maxRecDepth 20000 in
theorem st_X7_isRow : Cond.static yX7_isRow ∈ am_TB := am_in 265 (by decide +kernel) rfl
set_option maxRecDepth 20000 in
theorem nm_X7_isRow : yX7_isRow.cls ≠ "java/lang/invoke/MethodHandle" ∧ yX7_isRow.cls ≠ "java/lang/invoke/VarHandle" ∧ (parseMethodDescriptor yX7_isRow.desc).map (fun d => d.parameters.length) = some 1 := by decide +kernel
set_option maxRecDepth 20000 in
theorem ml_X7_67 : am_ml RX7 67 yX7_isRow cX7_isRow 1 (some .boolean) 1 := ⟨am_in 264 (by decide +kernel) rfl, iw_X7, cw_X7_isRow, nm_X7_isRow.1, nm_X7_isRow.2.1, nm_X7_isRow.2.2, by decide⟩
set_option maxRecDepth 20000 in
theorem cw_X7_within : Cond.code yX7_within cX7_within 3 (some .boolean) ∈ am_TB := am_in 269 (by decide +kernel) rfl
set_option maxRecDepth 20000 in
theorem st_X7_within : Cond.static yX7_within ∈ am_TB := am_in 268 (by decide +kernel) rfl
set_option maxRecDepth 20000 in
theorem nm_X7_within : yX7_within.cls ≠ "java/lang/invoke/MethodHandle" ∧ yX7_within.cls ≠ "java/lang/invoke/VarHandle" ∧ (parseMethodDescriptor yX7_within.desc).map (fun d => d.parameters.length) = some 3 := by decide +kernel
set_option maxRecDepth 20000 in
theorem ml_X7_71 : am_ml RX7 71 yX7_within cX7_within 3 (some .boolean) 3 := ⟨am_in 267 (by decide +kernel) rfl, iw_X7, cw_X7_within, nm_X7_within.1, nm_X7_within.2.1, nm_X7_within.2.2, by decide⟩
set_option maxRecDepth 20000 in
theorem cw_X7_found : Cond.code yX7_found cX7_found 2 (some .int) ∈ am_TB := am_in 274 (by decide +kernel) rfl
set_option maxRecDepth 20000 in
theorem im_X7_found : Cond.instanceMethod yX7_found ∈ am_TB := am_in 273 (by decide +kernel) rfl
set_option maxRecDepth 20000 in
theorem se_X7_found : Cond.selects yX7_found.cls yX7_found yX7_found ∈ am_TB := am_in 0 (by decide +kernel) rfl
set_option maxRecDepth 20000 in
theorem nm_X7_found : yX7_found.cls ≠ "java/lang/invoke/MethodHandle" ∧ yX7_found.cls ≠ "java/lang/invoke/VarHandle" ∧ (parseMethodDescriptor yX7_found.desc).map (fun d => d.parameters.length) = some 1 := by decide +kernel
set_option maxRecDepth 20000 in
theorem ml_X7_76 : am_ml RX7 76 yX7_found cX7_found 2 (some .int) 1 := ⟨am_in 271 (by decide +kernel) rfl, iw_X7, cw_X7_found, nm_X7_found.1, nm_X7_found.2.1, nm_X7_found.2.2, by decide⟩
set_option maxRecDepth 20000 in
theorem cw_X4_begin : Cond.code yX4_begin cX4_begin 3 none ∈ am_TB := am_in 279 (by decide +kernel) rfl
set_option maxRecDepth 20000 in
theorem im_X4_begin : Cond.instanceMethod yX4_begin ∈ am_TB := am_in 277 (by decide +kernel) rfl
set_option maxRecDepth 20000 in
theorem se_X4_begin : Cond.selects yX4_begin.cls yX4_begin yX4_begin ∈ am_TB := am_in 278 (by decide +kernel) rfl
set_option maxRecDepth 20000 in
theorem nm_X4_begin : yX4_begin.cls ≠ "java/lang/invoke/MethodHandle" ∧ yX4_begin.cls ≠ "java/lang/invoke/VarHandle" ∧ (parseMethodDescriptor yX4_begin.desc).map (fun d => d.parameters.length) = some 2 := by decide +kernel
set_option maxRecDepth 20000 in
theorem ml_X7_80 : am_ml RX7 80 yX4_begin cX4_begin 3 none 2 := ⟨am_in 276 (by decide +kernel) rfl, iw_X4, cw_X4_begin, nm_X4_begin.1, nm_X4_begin.2.1, nm_X4_begin.2.2, by decide⟩
set_option maxRecDepth 20000 in
theorem cw_X7_foundNothing : Cond.code yX7_foundNothing cX7_foundNothing 2 (some .int) ∈ am_TB := am_in 286 (by decide +kernel) rfl
set_option maxRecDepth 20000 in
theorem im_X7_foundNothing : Cond.instanceMethod yX7_foundNothing ∈ am_TB := am_in 285 (by decide +kernel) rfl
set_option maxRecDepth 20000 in
theorem se_X7_foundNothing : Cond.selects yX7_foundNothing.cls yX7_foundNothing yX7_foundNothing ∈ am_TB := am_in 1 (by decide +kernel) rfl
set_option maxRecDepth 20000 in
theorem nm_X7_foundNothing : yX7_foundNothing.cls ≠ "java/lang/invoke/MethodHandle" ∧ yX7_foundNothing.cls ≠ "java/lang/invoke/VarHandle" ∧ (parseMethodDescriptor yX7_foundNothing.desc).map (fun d => d.parameters.length) = some 1 := by decide +kernel
set_option maxRecDepth 20000 in
theorem ml_X7_84 : am_ml RX7 84 yX7_foundNothing cX7_foundNothing 2 (some .int) 1 := ⟨am_in 283 (by decide +kernel) rfl, iw_X7, cw_X7_foundNothing, nm_X7_foundNothing.1, nm_X7_foundNothing.2.1, nm_X7_foundNothing.2.2, by decide⟩
set_option maxRecDepth 20000 in
theorem cw_X4_findingOf : Cond.code yX4_findingOf cX4_findingOf 3 (some .int) ∈ am_TB := am_in 294 (by decide +kernel) rfl
set_option maxRecDepth 20000 in
theorem im_X4_findingOf : Cond.instanceMethod yX4_findingOf ∈ am_TB := am_in 292 (by decide +kernel) rfl
set_option maxRecDepth 20000 in
theorem se_X4_findingOf : Cond.selects yX4_findingOf.cls yX4_findingOf yX4_findingOf ∈ am_TB := am_in 293 (by decide +kernel) rfl
set_option maxRecDepth 20000 in
theorem nm_X4_findingOf : yX4_findingOf.cls ≠ "java/lang/invoke/MethodHandle" ∧ yX4_findingOf.cls ≠ "java/lang/invoke/VarHandle" ∧ (parseMethodDescriptor yX4_findingOf.desc).map (fun d => d.parameters.length) = some 2 := by decide +kernel
set_option maxRecDepth 20000 in
theorem ml_X7_87 : am_ml RX7 87 yX4_findingOf cX4_findingOf 3 (some .int) 2 := ⟨am_in 291 (by decide +kernel) rfl, iw_X4, cw_X4_findingOf, nm_X4_findingOf.1, nm_X4_findingOf.2.1, nm_X4_findingOf.2.2, by decide⟩
set_option maxRecDepth 20000 in
theorem cw_X4_put : Cond.code yX4_put cX4_put 3 (some .int) ∈ am_TB := am_in 302 (by decide +kernel) rfl
set_option maxRecDepth 20000 in
theorem im_X4_put : Cond.instanceMethod yX4_put ∈ am_TB := am_in 300 (by decide +kernel) rfl
set_option maxRecDepth 20000 in
theorem se_X4_put : Cond.selects yX4_put.cls yX4_put yX4_put ∈ am_TB := am_in 301 (by decide +kernel) rfl
set_option maxRecDepth 20000 in
theorem nm_X4_put : yX4_put.cls ≠ "java/lang/invoke/MethodHandle" ∧ yX4_put.cls ≠ "java/lang/invoke/VarHandle" ∧ (parseMethodDescriptor yX4_put.desc).map (fun d => d.parameters.length) = some 2 := by decide +kernel
set_option maxRecDepth 20000 in
theorem ml_X7_91 : am_ml RX7 91 yX4_put cX4_put 3 (some .int) 2 := ⟨am_in 299 (by decide +kernel) rfl, iw_X4, cw_X4_put, nm_X4_put.1, nm_X4_put.2.1, nm_X4_put.2.2, by decide⟩
set_option maxRecDepth 20000 in
theorem ml_X7_101 : am_ml RX7 101 yX4_spans cX4_spans 3 (some .boolean) 2 := ⟨am_in 311 (by decide +kernel) rfl, iw_X4, cw_X4_spans, nm_X4_spans.1, nm_X4_spans.2.1, nm_X4_spans.2.2, by decide⟩
set_option maxRecDepth 20000 in
theorem lk_X7_109 : Cond.methodLink RX7 109 arraycopyName ∈ am_TB := am_in 312 (by decide +kernel) rfl
set_option maxRecDepth 20000 in
theorem cw_X6_add : Cond.code yX6_add cX6_add 2 (some .int) ∈ am_TB := am_in 326 (by decide +kernel) rfl
set_option maxRecDepth 20000 in
theorem im_X6_add : Cond.instanceMethod yX6_add ∈ am_TB := am_in 324 (by decide +kernel) rfl
set_option maxRecDepth 20000 in
theorem se_X6_add : Cond.selects yX6_add.cls yX6_add yX6_add ∈ am_TB := am_in 325 (by decide +kernel) rfl
set_option maxRecDepth 20000 in
theorem nm_X6_add : yX6_add.cls ≠ "java/lang/invoke/MethodHandle" ∧ yX6_add.cls ≠ "java/lang/invoke/VarHandle" ∧ (parseMethodDescriptor yX6_add.desc).map (fun d => d.parameters.length) = some 1 := by decide +kernel
set_option maxRecDepth 20000 in
theorem ml_X7_118 : am_ml RX7 118 yX6_add cX6_add 2 (some .int) 1 := ⟨am_in 323 (by decide +kernel) rfl, iw_X6, cw_X6_add, nm_X6_add.1, nm_X6_add.2.1, nm_X6_add.2.2, by decide⟩
set_option maxRecDepth 20000 in
theorem cw_X6_readInto : Cond.code yX6_readInto cX6_readInto 3 (some .int) ∈ am_TB := am_in 335 (by decide +kernel) rfl
set_option maxRecDepth 20000 in
theorem im_X6_readInto : Cond.instanceMethod yX6_readInto ∈ am_TB := am_in 333 (by decide +kernel) rfl
set_option maxRecDepth 20000 in
theorem se_X6_readInto : Cond.selects yX6_readInto.cls yX6_readInto yX6_readInto ∈ am_TB := am_in 334 (by decide +kernel) rfl
set_option maxRecDepth 20000 in
theorem nm_X6_readInto : yX6_readInto.cls ≠ "java/lang/invoke/MethodHandle" ∧ yX6_readInto.cls ≠ "java/lang/invoke/VarHandle" ∧ (parseMethodDescriptor yX6_readInto.desc).map (fun d => d.parameters.length) = some 1 := by decide +kernel
set_option maxRecDepth 20000 in
theorem ml_X7_121 : am_ml RX7 121 yX6_readInto cX6_readInto 3 (some .int) 1 := ⟨am_in 332 (by decide +kernel) rfl, iw_X6, cw_X6_readInto, nm_X6_readInto.1, nm_X6_readInto.2.1, nm_X6_readInto.2.2, by decide⟩
set_option maxRecDepth 20000 in
theorem ml_X7_129 : am_ml RX7 129 yX5_become cX5_become 2 none 1 := ⟨am_in 375 (by decide +kernel) rfl, iw_X5, cw_X5_become, nm_X5_become.1, nm_X5_become.2.1, nm_X5_become.2.2, by decide⟩
set_option maxRecDepth 20000 in
theorem cw_X0_forget : Cond.code yX0_forget cX0_forget 1 none ∈ am_TB := am_in 383 (by decide +kernel) rfl
set_option maxRecDepth 20000 in
theorem im_X0_forget : Cond.instanceMethod yX0_forget ∈ am_TB := am_in 381 (by decide +kernel) rfl
set_option maxRecDepth 20000 in
theorem se_X0_forget : Cond.selects yX0_forget.cls yX0_forget yX0_forget ∈ am_TB := am_in 382 (by decide +kernel) rfl
set_option maxRecDepth 20000 in
theorem nm_X0_forget : yX0_forget.cls ≠ "java/lang/invoke/MethodHandle" ∧ yX0_forget.cls ≠ "java/lang/invoke/VarHandle" ∧ (parseMethodDescriptor yX0_forget.desc).map (fun d => d.parameters.length) = some 0 := by decide +kernel
set_option maxRecDepth 20000 in
theorem ml_X7_132 : am_ml RX7 132 yX0_forget cX0_forget 1 none 0 := ⟨am_in 380 (by decide +kernel) rfl, iw_X0, cw_X0_forget, nm_X0_forget.1, nm_X0_forget.2.1, nm_X0_forget.2.2, by decide⟩
set_option maxRecDepth 20000 in
theorem cw_X0_takeBack : Cond.code yX0_takeBack cX0_takeBack 2 (some .int) ∈ am_TB := am_in 396 (by decide +kernel) rfl
set_option maxRecDepth 20000 in
theorem im_X0_takeBack : Cond.instanceMethod yX0_takeBack ∈ am_TB := am_in 394 (by decide +kernel) rfl
set_option maxRecDepth 20000 in
theorem se_X0_takeBack : Cond.selects yX0_takeBack.cls yX0_takeBack yX0_takeBack ∈ am_TB := am_in 395 (by decide +kernel) rfl
set_option maxRecDepth 20000 in
theorem nm_X0_takeBack : yX0_takeBack.cls ≠ "java/lang/invoke/MethodHandle" ∧ yX0_takeBack.cls ≠ "java/lang/invoke/VarHandle" ∧ (parseMethodDescriptor yX0_takeBack.desc).map (fun d => d.parameters.length) = some 1 := by decide +kernel
set_option maxRecDepth 20000 in
theorem ml_X7_142 : am_ml RX7 142 yX0_takeBack cX0_takeBack 2 (some .int) 1 := ⟨am_in 393 (by decide +kernel) rfl, iw_X0, cw_X0_takeBack, nm_X0_takeBack.1, nm_X0_takeBack.2.1, nm_X0_takeBack.2.2, by decide⟩
set_option maxRecDepth 20000 in
theorem cw_X7_noSky : Cond.code yX7_noSky cX7_noSky 1 (some .boolean) ∈ am_TB := am_in 405 (by decide +kernel) rfl
set_option maxRecDepth 20000 in
theorem im_X7_noSky : Cond.instanceMethod yX7_noSky ∈ am_TB := am_in 404 (by decide +kernel) rfl
set_option maxRecDepth 20000 in
theorem se_X7_noSky : Cond.selects yX7_noSky.cls yX7_noSky yX7_noSky ∈ am_TB := am_in 9 (by decide +kernel) rfl
set_option maxRecDepth 20000 in
theorem nm_X7_noSky : yX7_noSky.cls ≠ "java/lang/invoke/MethodHandle" ∧ yX7_noSky.cls ≠ "java/lang/invoke/VarHandle" ∧ (parseMethodDescriptor yX7_noSky.desc).map (fun d => d.parameters.length) = some 0 := by decide +kernel
set_option maxRecDepth 20000 in
theorem ml_X7_145 : am_ml RX7 145 yX7_noSky cX7_noSky 1 (some .boolean) 0 := ⟨am_in 402 (by decide +kernel) rfl, iw_X7, cw_X7_noSky, nm_X7_noSky.1, nm_X7_noSky.2.1, nm_X7_noSky.2.2, by decide⟩
set_option maxRecDepth 20000 in
theorem cw_X0_keep : Cond.code yX0_keep cX0_keep 2 none ∈ am_TB := am_in 410 (by decide +kernel) rfl
set_option maxRecDepth 20000 in
theorem im_X0_keep : Cond.instanceMethod yX0_keep ∈ am_TB := am_in 408 (by decide +kernel) rfl
set_option maxRecDepth 20000 in
theorem se_X0_keep : Cond.selects yX0_keep.cls yX0_keep yX0_keep ∈ am_TB := am_in 409 (by decide +kernel) rfl
set_option maxRecDepth 20000 in
theorem nm_X0_keep : yX0_keep.cls ≠ "java/lang/invoke/MethodHandle" ∧ yX0_keep.cls ≠ "java/lang/invoke/VarHandle" ∧ (parseMethodDescriptor yX0_keep.desc).map (fun d => d.parameters.length) = some 1 := by decide +kernel
set_option maxRecDepth 20000 in
theorem ml_X7_153 : am_ml RX7 153 yX0_keep cX0_keep 2 none 1 := ⟨am_in 407 (by decide +kernel) rfl, iw_X0, cw_X0_keep, nm_X0_keep.1, nm_X0_keep.2.1, nm_X0_keep.2.2, by decide⟩
set_option maxRecDepth 20000 in
theorem ml_X7_156 : am_ml RX7 156 yX5_passHour cX5_passHour 2 none 0 := ⟨am_in 414 (by decide +kernel) rfl, iw_X5, cw_X5_passHour, nm_X5_passHour.1, nm_X5_passHour.2.1, nm_X5_passHour.2.2, by decide⟩
set_option maxRecDepth 20000 in
theorem cw_X5_floating : Cond.code yX5_floating cX5_floating 3 (some .int) ∈ am_TB := am_in 443 (by decide +kernel) rfl
set_option maxRecDepth 20000 in
theorem im_X5_floating : Cond.instanceMethod yX5_floating ∈ am_TB := am_in 441 (by decide +kernel) rfl
set_option maxRecDepth 20000 in
theorem se_X5_floating : Cond.selects yX5_floating.cls yX5_floating yX5_floating ∈ am_TB := am_in 442 (by decide +kernel) rfl
set_option maxRecDepth 20000 in
theorem nm_X5_floating : yX5_floating.cls ≠ "java/lang/invoke/MethodHandle" ∧ yX5_floating.cls ≠ "java/lang/invoke/VarHandle" ∧ (parseMethodDescriptor yX5_floating.desc).map (fun d => d.parameters.length) = some 0 := by decide +kernel
set_option maxRecDepth 20000 in
theorem ml_X7_159 : am_ml RX7 159 yX5_floating cX5_floating 3 (some .int) 0 := ⟨am_in 440 (by decide +kernel) rfl, iw_X5, cw_X5_floating, nm_X5_floating.1, nm_X5_floating.2.1, nm_X5_floating.2.2, by decide⟩
set_option maxRecDepth 20000 in
theorem ml_X7_163 : am_ml RX7 163 yJ6_bitCount_0f7a4 cJ6_bitCount_0f7a4 1 (some .int) 1 := ⟨am_in 444 (by decide +kernel) rfl, iw_J6, cw_J6_bitCount_0f7a4, nm_J6_bitCount_0f7a4.1, nm_J6_bitCount_0f7a4.2.1, nm_J6_bitCount_0f7a4.2.2, by decide⟩
set_option maxRecDepth 20000 in
theorem cw_X7_isOffice : Cond.code yX7_isOffice cX7_isOffice 2 (some .boolean) ∈ am_TB := am_in 457 (by decide +kernel) rfl
set_option maxRecDepth 20000 in
theorem im_X7_isOffice : Cond.instanceMethod yX7_isOffice ∈ am_TB := am_in 456 (by decide +kernel) rfl
set_option maxRecDepth 20000 in
theorem se_X7_isOffice : Cond.selects yX7_isOffice.cls yX7_isOffice yX7_isOffice ∈ am_TB := am_in 10 (by decide +kernel) rfl
set_option maxRecDepth 20000 in
theorem nm_X7_isOffice : yX7_isOffice.cls ≠ "java/lang/invoke/MethodHandle" ∧ yX7_isOffice.cls ≠ "java/lang/invoke/VarHandle" ∧ (parseMethodDescriptor yX7_isOffice.desc).map (fun d => d.parameters.length) = some 1 := by decide +kernel
set_option maxRecDepth 20000 in
theorem ml_X7_168 : am_ml RX7 168 yX7_isOffice cX7_isOffice 2 (some .boolean) 1 := ⟨am_in 454 (by decide +kernel) rfl, iw_X7, cw_X7_isOffice, nm_X7_isOffice.1, nm_X7_isOffice.2.1, nm_X7_isOffice.2.2, by decide⟩
set_option maxRecDepth 20000 in
theorem ml_X7_174 : am_ml RX7 174 yX5_useSheets cX5_useSheets 3 none 2 := ⟨am_in 458 (by decide +kernel) rfl, iw_X5, cw_X5_useSheets, nm_X5_useSheets.1, nm_X5_useSheets.2.1, nm_X5_useSheets.2.2, by decide⟩
set_option maxRecDepth 20000 in
theorem ml_X7_189 : am_ml RX7 189 yX5_bandOf cX5_bandOf 1 (some .int) 1 := ⟨am_in 480 (by decide +kernel) rfl, iw_X5, cw_X5_bandOf, nm_X5_bandOf.1, nm_X5_bandOf.2.1, nm_X5_bandOf.2.2, by decide⟩
set_option maxRecDepth 20000 in
theorem ml_X7_195 : am_ml RX7 195 yX5_liftOf cX5_liftOf 2 (some .int) 2 := ⟨am_in 481 (by decide +kernel) rfl, iw_X5, cw_X5_liftOf, nm_X5_liftOf.1, nm_X5_liftOf.2.1, nm_X5_liftOf.2.2, by decide⟩
set_option maxRecDepth 20000 in
theorem cw_X7_isLand : Cond.code yX7_isLand cX7_isLand 1 (some .boolean) ∈ am_TB := am_in 488 (by decide +kernel) rfl
set_option maxRecDepth 20000 in
theorem st_X7_isLand : Cond.static yX7_isLand ∈ am_TB := am_in 487 (by decide +kernel) rfl
set_option maxRecDepth 20000 in
theorem nm_X7_isLand : yX7_isLand.cls ≠ "java/lang/invoke/MethodHandle" ∧ yX7_isLand.cls ≠ "java/lang/invoke/VarHandle" ∧ (parseMethodDescriptor yX7_isLand.desc).map (fun d => d.parameters.length) = some 1 := by decide +kernel
set_option maxRecDepth 20000 in
theorem ml_X7_198 : am_ml RX7 198 yX7_isLand cX7_isLand 1 (some .boolean) 1 := ⟨am_in 486 (by decide +kernel) rfl, iw_X7, cw_X7_isLand, nm_X7_isLand.1, nm_X7_isLand.2.1, nm_X7_isLand.2.2, by decide⟩
set_option maxRecDepth 20000 in
theorem ml_X7_201 : am_ml RX7 201 yX5_officesIn cX5_officesIn 4 (some .int) 1 := ⟨am_in 489 (by decide +kernel) rfl, iw_X5, cw_X5_officesIn, nm_X5_officesIn.1, nm_X5_officesIn.2.1, nm_X5_officesIn.2.2, by decide⟩
set_option maxRecDepth 20000 in
theorem cw_X7_isOneOfTwo : Cond.code yX7_isOneOfTwo cX7_isOneOfTwo 1 (some .boolean) ∈ am_TB := am_in 499 (by decide +kernel) rfl
set_option maxRecDepth 20000 in
theorem st_X7_isOneOfTwo : Cond.static yX7_isOneOfTwo ∈ am_TB := am_in 498 (by decide +kernel) rfl
set_option maxRecDepth 20000 in
theorem nm_X7_isOneOfTwo : yX7_isOneOfTwo.cls ≠ "java/lang/invoke/MethodHandle" ∧ yX7_isOneOfTwo.cls ≠ "java/lang/invoke/VarHandle" ∧ (parseMethodDescriptor yX7_isOneOfTwo.desc).map (fun d => d.parameters.length) = some 1 := by decide +kernel
set_option maxRecDepth 20000 in
theorem ml_X7_204 : am_ml RX7 204 yX7_isOneOfTwo cX7_isOneOfTwo 1 (some .boolean) 1 := ⟨am_in 497 (by decide +kernel) rfl, iw_X7, cw_X7_isOneOfTwo, nm_X7_isOneOfTwo.1, nm_X7_isOneOfTwo.2.1, nm_X7_isOneOfTwo.2.2, by decide⟩
set_option maxRecDepth 20000 in
theorem cw_X2_landBehind : Cond.code yX2_landBehind cX2_landBehind 6 (some .int) ∈ am_TB := am_in 503 (by decide +kernel) rfl
set_option maxRecDepth 20000 in
theorem im_X2_landBehind : Cond.instanceMethod yX2_landBehind ∈ am_TB := am_in 501 (by decide +kernel) rfl
set_option maxRecDepth 20000 in
theorem se_X2_landBehind : Cond.selects yX2_landBehind.cls yX2_landBehind yX2_landBehind ∈ am_TB := am_in 502 (by decide +kernel) rfl
set_option maxRecDepth 20000 in
theorem nm_X2_landBehind : yX2_landBehind.cls ≠ "java/lang/invoke/MethodHandle" ∧ yX2_landBehind.cls ≠ "java/lang/invoke/VarHandle" ∧ (parseMethodDescriptor yX2_landBehind.desc).map (fun d => d.parameters.length) = some 2 := by decide +kernel
set_option maxRecDepth 20000 in
theorem ml_X7_207 : am_ml RX7 207 yX2_landBehind cX2_landBehind 6 (some .int) 2 := ⟨am_in 500 (by decide +kernel) rfl, iw_X2, cw_X2_landBehind, nm_X2_landBehind.1, nm_X2_landBehind.2.1, nm_X2_landBehind.2.2, by decide⟩
set_option maxRecDepth 20000 in
theorem cw_X2_heightBehind : Cond.code yX2_heightBehind cX2_heightBehind 5 (some .int) ∈ am_TB := am_in 509 (by decide +kernel) rfl
set_option maxRecDepth 20000 in
theorem im_X2_heightBehind : Cond.instanceMethod yX2_heightBehind ∈ am_TB := am_in 507 (by decide +kernel) rfl
set_option maxRecDepth 20000 in
theorem se_X2_heightBehind : Cond.selects yX2_heightBehind.cls yX2_heightBehind yX2_heightBehind ∈ am_TB := am_in 508 (by decide +kernel) rfl
set_option maxRecDepth 20000 in
theorem nm_X2_heightBehind : yX2_heightBehind.cls ≠ "java/lang/invoke/MethodHandle" ∧ yX2_heightBehind.cls ≠ "java/lang/invoke/VarHandle" ∧ (parseMethodDescriptor yX2_heightBehind.desc).map (fun d => d.parameters.length) = some 2 := by decide +kernel
set_option maxRecDepth 20000 in
theorem ml_X7_210 : am_ml RX7 210 yX2_heightBehind cX2_heightBehind 5 (some .int) 2 := ⟨am_in 506 (by decide +kernel) rfl, iw_X2, cw_X2_heightBehind, nm_X2_heightBehind.1, nm_X2_heightBehind.2.1, nm_X2_heightBehind.2.2, by decide⟩
set_option maxRecDepth 20000 in
theorem cw_X2_hoursToGround : Cond.code yX2_hoursToGround cX2_hoursToGround 4 (some .int) ∈ am_TB := am_in 517 (by decide +kernel) rfl
set_option maxRecDepth 20000 in
theorem im_X2_hoursToGround : Cond.instanceMethod yX2_hoursToGround ∈ am_TB := am_in 515 (by decide +kernel) rfl
set_option maxRecDepth 20000 in
theorem se_X2_hoursToGround : Cond.selects yX2_hoursToGround.cls yX2_hoursToGround yX2_hoursToGround ∈ am_TB := am_in 516 (by decide +kernel) rfl
set_option maxRecDepth 20000 in
theorem nm_X2_hoursToGround : yX2_hoursToGround.cls ≠ "java/lang/invoke/MethodHandle" ∧ yX2_hoursToGround.cls ≠ "java/lang/invoke/VarHandle" ∧ (parseMethodDescriptor yX2_hoursToGround.desc).map (fun d => d.parameters.length) = some 1 := by decide +kernel
set_option maxRecDepth 20000 in
theorem ml_X7_213 : am_ml RX7 213 yX2_hoursToGround cX2_hoursToGround 4 (some .int) 1 := ⟨am_in 514 (by decide +kernel) rfl, iw_X2, cw_X2_hoursToGround, nm_X2_hoursToGround.1, nm_X2_hoursToGround.2.1, nm_X2_hoursToGround.2.2, by decide⟩
set_option maxRecDepth 20000 in
theorem cw_X2_hoursToMeeting : Cond.code yX2_hoursToMeeting cX2_hoursToMeeting 4 (some .int) ∈ am_TB := am_in 526 (by decide +kernel) rfl
set_option maxRecDepth 20000 in
theorem im_X2_hoursToMeeting : Cond.instanceMethod yX2_hoursToMeeting ∈ am_TB := am_in 524 (by decide +kernel) rfl
set_option maxRecDepth 20000 in
theorem se_X2_hoursToMeeting : Cond.selects yX2_hoursToMeeting.cls yX2_hoursToMeeting yX2_hoursToMeeting ∈ am_TB := am_in 525 (by decide +kernel) rfl
set_option maxRecDepth 20000 in
theorem nm_X2_hoursToMeeting : yX2_hoursToMeeting.cls ≠ "java/lang/invoke/MethodHandle" ∧ yX2_hoursToMeeting.cls ≠ "java/lang/invoke/VarHandle" ∧ (parseMethodDescriptor yX2_hoursToMeeting.desc).map (fun d => d.parameters.length) = some 2 := by decide +kernel
set_option maxRecDepth 20000 in
theorem ml_X7_216 : am_ml RX7 216 yX2_hoursToMeeting cX2_hoursToMeeting 4 (some .int) 2 := ⟨am_in 523 (by decide +kernel) rfl, iw_X2, cw_X2_hoursToMeeting, nm_X2_hoursToMeeting.1, nm_X2_hoursToMeeting.2.1, nm_X2_hoursToMeeting.2.2, by decide⟩
set_option maxRecDepth 20000 in
theorem cw_X2_officesBehind : Cond.code yX2_officesBehind cX2_officesBehind 4 (some .int) ∈ am_TB := am_in 536 (by decide +kernel) rfl
set_option maxRecDepth 20000 in
theorem im_X2_officesBehind : Cond.instanceMethod yX2_officesBehind ∈ am_TB := am_in 534 (by decide +kernel) rfl
set_option maxRecDepth 20000 in
theorem se_X2_officesBehind : Cond.selects yX2_officesBehind.cls yX2_officesBehind yX2_officesBehind ∈ am_TB := am_in 535 (by decide +kernel) rfl
set_option maxRecDepth 20000 in
theorem nm_X2_officesBehind : yX2_officesBehind.cls ≠ "java/lang/invoke/MethodHandle" ∧ yX2_officesBehind.cls ≠ "java/lang/invoke/VarHandle" ∧ (parseMethodDescriptor yX2_officesBehind.desc).map (fun d => d.parameters.length) = some 2 := by decide +kernel
set_option maxRecDepth 20000 in
theorem ml_X7_219 : am_ml RX7 219 yX2_officesBehind cX2_officesBehind 4 (some .int) 2 := ⟨am_in 533 (by decide +kernel) rfl, iw_X2, cw_X2_officesBehind, nm_X2_officesBehind.1, nm_X2_officesBehind.2.1, nm_X2_officesBehind.2.2, by decide⟩
set_option maxRecDepth 20000 in
theorem cw_X2_fewestPlan : Cond.code yX2_fewestPlan cX2_fewestPlan 7 (some .int) ∈ am_TB := am_in 546 (by decide +kernel) rfl
set_option maxRecDepth 20000 in
theorem im_X2_fewestPlan : Cond.instanceMethod yX2_fewestPlan ∈ am_TB := am_in 544 (by decide +kernel) rfl
set_option maxRecDepth 20000 in
theorem se_X2_fewestPlan : Cond.selects yX2_fewestPlan.cls yX2_fewestPlan yX2_fewestPlan ∈ am_TB := am_in 545 (by decide +kernel) rfl
set_option maxRecDepth 20000 in
theorem nm_X2_fewestPlan : yX2_fewestPlan.cls ≠ "java/lang/invoke/MethodHandle" ∧ yX2_fewestPlan.cls ≠ "java/lang/invoke/VarHandle" ∧ (parseMethodDescriptor yX2_fewestPlan.desc).map (fun d => d.parameters.length) = some 4 := by decide +kernel
set_option maxRecDepth 20000 in
theorem ml_X7_222 : am_ml RX7 222 yX2_fewestPlan cX2_fewestPlan 7 (some .int) 4 := ⟨am_in 543 (by decide +kernel) rfl, iw_X2, cw_X2_fewestPlan, nm_X2_fewestPlan.1, nm_X2_fewestPlan.2.1, nm_X2_fewestPlan.2.2, by decide⟩
set_option maxRecDepth 20000 in
theorem ml_X7_228 : am_ml RX7 228 yX2_sheetsOf cX2_sheetsOf 1 (some .int) 1 := ⟨am_in 568 (by decide +kernel) rfl, iw_X2, cw_X2_sheetsOf, nm_X2_sheetsOf.1, nm_X2_sheetsOf.2.1, nm_X2_sheetsOf.2.2, by decide⟩
set_option maxRecDepth 20000 in
theorem cw_X2_sheetsAhead : Cond.code yX2_sheetsAhead cX2_sheetsAhead 3 (some .int) ∈ am_TB := am_in 571 (by decide +kernel) rfl
set_option maxRecDepth 20000 in
theorem st_X2_sheetsAhead : Cond.static yX2_sheetsAhead ∈ am_TB := am_in 570 (by decide +kernel) rfl
set_option maxRecDepth 20000 in
theorem nm_X2_sheetsAhead : yX2_sheetsAhead.cls ≠ "java/lang/invoke/MethodHandle" ∧ yX2_sheetsAhead.cls ≠ "java/lang/invoke/VarHandle" ∧ (parseMethodDescriptor yX2_sheetsAhead.desc).map (fun d => d.parameters.length) = some 3 := by decide +kernel
set_option maxRecDepth 20000 in
theorem ml_X7_231 : am_ml RX7 231 yX2_sheetsAhead cX2_sheetsAhead 3 (some .int) 3 := ⟨am_in 569 (by decide +kernel) rfl, iw_X2, cw_X2_sheetsAhead, nm_X2_sheetsAhead.1, nm_X2_sheetsAhead.2.1, nm_X2_sheetsAhead.2.2, by decide⟩
set_option maxRecDepth 20000 in
theorem cw_X2_hoursToPass : Cond.code yX2_hoursToPass cX2_hoursToPass 7 (some .int) ∈ am_TB := am_in 579 (by decide +kernel) rfl
set_option maxRecDepth 20000 in
theorem im_X2_hoursToPass : Cond.instanceMethod yX2_hoursToPass ∈ am_TB := am_in 577 (by decide +kernel) rfl
set_option maxRecDepth 20000 in
theorem se_X2_hoursToPass : Cond.selects yX2_hoursToPass.cls yX2_hoursToPass yX2_hoursToPass ∈ am_TB := am_in 578 (by decide +kernel) rfl
set_option maxRecDepth 20000 in
theorem nm_X2_hoursToPass : yX2_hoursToPass.cls ≠ "java/lang/invoke/MethodHandle" ∧ yX2_hoursToPass.cls ≠ "java/lang/invoke/VarHandle" ∧ (parseMethodDescriptor yX2_hoursToPass.desc).map (fun d => d.parameters.length) = some 4 := by decide +kernel
set_option maxRecDepth 20000 in
theorem ml_X7_235 : am_ml RX7 235 yX2_hoursToPass cX2_hoursToPass 7 (some .int) 4 := ⟨am_in 576 (by decide +kernel) rfl, iw_X2, cw_X2_hoursToPass, nm_X2_hoursToPass.1, nm_X2_hoursToPass.2.1, nm_X2_hoursToPass.2.2, by decide⟩
set_option maxRecDepth 20000 in
theorem cw_X2_waysToBurn : Cond.code yX2_waysToBurn cX2_waysToBurn 11 (some .int) ∈ am_TB := am_in 592 (by decide +kernel) rfl
set_option maxRecDepth 20000 in
theorem im_X2_waysToBurn : Cond.instanceMethod yX2_waysToBurn ∈ am_TB := am_in 590 (by decide +kernel) rfl
set_option maxRecDepth 20000 in
theorem se_X2_waysToBurn : Cond.selects yX2_waysToBurn.cls yX2_waysToBurn yX2_waysToBurn ∈ am_TB := am_in 591 (by decide +kernel) rfl
set_option maxRecDepth 20000 in
theorem nm_X2_waysToBurn : yX2_waysToBurn.cls ≠ "java/lang/invoke/MethodHandle" ∧ yX2_waysToBurn.cls ≠ "java/lang/invoke/VarHandle" ∧ (parseMethodDescriptor yX2_waysToBurn.desc).map (fun d => d.parameters.length) = some 4 := by decide +kernel
set_option maxRecDepth 20000 in
theorem ml_X7_239 : am_ml RX7 239 yX2_waysToBurn cX2_waysToBurn 11 (some .int) 4 := ⟨am_in 589 (by decide +kernel) rfl, iw_X2, cw_X2_waysToBurn, nm_X2_waysToBurn.1, nm_X2_waysToBurn.2.1, nm_X2_waysToBurn.2.2, by decide⟩
set_option maxRecDepth 20000 in
theorem cw_X2_kindsThatFit : Cond.code yX2_kindsThatFit cX2_kindsThatFit 8 (some .int) ∈ am_TB := am_in 600 (by decide +kernel) rfl
set_option maxRecDepth 20000 in
theorem im_X2_kindsThatFit : Cond.instanceMethod yX2_kindsThatFit ∈ am_TB := am_in 598 (by decide +kernel) rfl
set_option maxRecDepth 20000 in
theorem se_X2_kindsThatFit : Cond.selects yX2_kindsThatFit.cls yX2_kindsThatFit yX2_kindsThatFit ∈ am_TB := am_in 599 (by decide +kernel) rfl
set_option maxRecDepth 20000 in
theorem nm_X2_kindsThatFit : yX2_kindsThatFit.cls ≠ "java/lang/invoke/MethodHandle" ∧ yX2_kindsThatFit.cls ≠ "java/lang/invoke/VarHandle" ∧ (parseMethodDescriptor yX2_kindsThatFit.desc).map (fun d => d.parameters.length) = some 5 := by decide +kernel
set_option maxRecDepth 20000 in
theorem ml_X7_245 : am_ml RX7 245 yX2_kindsThatFit cX2_kindsThatFit 8 (some .int) 5 := ⟨am_in 597 (by decide +kernel) rfl, iw_X2, cw_X2_kindsThatFit, nm_X2_kindsThatFit.1, nm_X2_kindsThatFit.2.1, nm_X2_kindsThatFit.2.2, by decide⟩
set_option maxRecDepth 20000 in
theorem cw_X2_landRuled : Cond.code yX2_landRuled cX2_landRuled 4 (some .int) ∈ am_TB := am_in 612 (by decide +kernel) rfl
set_option maxRecDepth 20000 in
theorem im_X2_landRuled : Cond.instanceMethod yX2_landRuled ∈ am_TB := am_in 610 (by decide +kernel) rfl
set_option maxRecDepth 20000 in
theorem se_X2_landRuled : Cond.selects yX2_landRuled.cls yX2_landRuled yX2_landRuled ∈ am_TB := am_in 611 (by decide +kernel) rfl
set_option maxRecDepth 20000 in
theorem nm_X2_landRuled : yX2_landRuled.cls ≠ "java/lang/invoke/MethodHandle" ∧ yX2_landRuled.cls ≠ "java/lang/invoke/VarHandle" ∧ (parseMethodDescriptor yX2_landRuled.desc).map (fun d => d.parameters.length) = some 1 := by decide +kernel
set_option maxRecDepth 20000 in
theorem ml_X7_249 : am_ml RX7 249 yX2_landRuled cX2_landRuled 4 (some .int) 1 := ⟨am_in 609 (by decide +kernel) rfl, iw_X2, cw_X2_landRuled, nm_X2_landRuled.1, nm_X2_landRuled.2.1, nm_X2_landRuled.2.2, by decide⟩
set_option maxRecDepth 20000 in
theorem ml_X7_255 : am_ml RX7 255 yX2_hoursUp cX2_hoursUp 7 (some .int) 3 := ⟨am_in 617 (by decide +kernel) rfl, iw_X2, cw_X2_hoursUp, nm_X2_hoursUp.1, nm_X2_hoursUp.2.1, nm_X2_hoursUp.2.2, by decide⟩
set_option maxRecDepth 20000 in
theorem cw_X2_fewestFiles : Cond.code yX2_fewestFiles cX2_fewestFiles 4 (some .int) ∈ am_TB := am_in 628 (by decide +kernel) rfl
set_option maxRecDepth 20000 in
theorem im_X2_fewestFiles : Cond.instanceMethod yX2_fewestFiles ∈ am_TB := am_in 626 (by decide +kernel) rfl
set_option maxRecDepth 20000 in
theorem se_X2_fewestFiles : Cond.selects yX2_fewestFiles.cls yX2_fewestFiles yX2_fewestFiles ∈ am_TB := am_in 627 (by decide +kernel) rfl
set_option maxRecDepth 20000 in
theorem nm_X2_fewestFiles : yX2_fewestFiles.cls ≠ "java/lang/invoke/MethodHandle" ∧ yX2_fewestFiles.cls ≠ "java/lang/invoke/VarHandle" ∧ (parseMethodDescriptor yX2_fewestFiles.desc).map (fun d => d.parameters.length) = some 2 := by decide +kernel
set_option maxRecDepth 20000 in
theorem ml_X7_258 : am_ml RX7 258 yX2_fewestFiles cX2_fewestFiles 4 (some .int) 2 := ⟨am_in 625 (by decide +kernel) rfl, iw_X2, cw_X2_fewestFiles, nm_X2_fewestFiles.1, nm_X2_fewestFiles.2.1, nm_X2_fewestFiles.2.2, by decide⟩
set_option maxRecDepth 20000 in
theorem cw_X2_casesInLand : Cond.code yX2_casesInLand cX2_casesInLand 7 (some .int) ∈ am_TB := am_in 638 (by decide +kernel) rfl
set_option maxRecDepth 20000 in
theorem im_X2_casesInLand : Cond.instanceMethod yX2_casesInLand ∈ am_TB := am_in 636 (by decide +kernel) rfl
set_option maxRecDepth 20000 in
theorem se_X2_casesInLand : Cond.selects yX2_casesInLand.cls yX2_casesInLand yX2_casesInLand ∈ am_TB := am_in 637 (by decide +kernel) rfl
set_option maxRecDepth 20000 in
theorem nm_X2_casesInLand : yX2_casesInLand.cls ≠ "java/lang/invoke/MethodHandle" ∧ yX2_casesInLand.cls ≠ "java/lang/invoke/VarHandle" ∧ (parseMethodDescriptor yX2_casesInLand.desc).map (fun d => d.parameters.length) = some 4 := by decide +kernel
set_option maxRecDepth 20000 in
theorem ml_X7_263 : am_ml RX7 263 yX2_casesInLand cX2_casesInLand 7 (some .int) 4 := ⟨am_in 635 (by decide +kernel) rfl, iw_X2, cw_X2_casesInLand, nm_X2_casesInLand.1, nm_X2_casesInLand.2.1, nm_X2_casesInLand.2.2, by decide⟩
set_option maxRecDepth 20000 in
theorem cw_X2_commonDivisor : Cond.code yX2_commonDivisor cX2_commonDivisor 6 (some .int) ∈ am_TB := am_in 650 (by decide +kernel) rfl
set_option maxRecDepth 20000 in
theorem st_X2_commonDivisor : Cond.static yX2_commonDivisor ∈ am_TB := am_in 649 (by decide +kernel) rfl
set_option maxRecDepth 20000 in
theorem nm_X2_commonDivisor : yX2_commonDivisor.cls ≠ "java/lang/invoke/MethodHandle" ∧ yX2_commonDivisor.cls ≠ "java/lang/invoke/VarHandle" ∧ (parseMethodDescriptor yX2_commonDivisor.desc).map (fun d => d.parameters.length) = some 2 := by decide +kernel
set_option maxRecDepth 20000 in
theorem ml_X7_266 : am_ml RX7 266 yX2_commonDivisor cX2_commonDivisor 6 (some .int) 2 := ⟨am_in 648 (by decide +kernel) rfl, iw_X2, cw_X2_commonDivisor, nm_X2_commonDivisor.1, nm_X2_commonDivisor.2.1, nm_X2_commonDivisor.2.2, by decide⟩
set_option maxRecDepth 20000 in
theorem cw_X2_sheetsByDraws : Cond.code yX2_sheetsByDraws cX2_sheetsByDraws 9 (some .int) ∈ am_TB := am_in 659 (by decide +kernel) rfl
set_option maxRecDepth 20000 in
theorem im_X2_sheetsByDraws : Cond.instanceMethod yX2_sheetsByDraws ∈ am_TB := am_in 657 (by decide +kernel) rfl
set_option maxRecDepth 20000 in
theorem se_X2_sheetsByDraws : Cond.selects yX2_sheetsByDraws.cls yX2_sheetsByDraws yX2_sheetsByDraws ∈ am_TB := am_in 658 (by decide +kernel) rfl
set_option maxRecDepth 20000 in
theorem nm_X2_sheetsByDraws : yX2_sheetsByDraws.cls ≠ "java/lang/invoke/MethodHandle" ∧ yX2_sheetsByDraws.cls ≠ "java/lang/invoke/VarHandle" ∧ (parseMethodDescriptor yX2_sheetsByDraws.desc).map (fun d => d.parameters.length) = some 2 := by decide +kernel
set_option maxRecDepth 20000 in
theorem ml_X7_270 : am_ml RX7 270 yX2_sheetsByDraws cX2_sheetsByDraws 9 (some .int) 2 := ⟨am_in 656 (by decide +kernel) rfl, iw_X2, cw_X2_sheetsByDraws, nm_X2_sheetsByDraws.1, nm_X2_sheetsByDraws.2.1, nm_X2_sheetsByDraws.2.2, by decide⟩
set_option maxRecDepth 20000 in
theorem cw_X5_landsAdded : Cond.code yX5_landsAdded cX5_landsAdded 3 (some .int) ∈ am_TB := am_in 667 (by decide +kernel) rfl
set_option maxRecDepth 20000 in
theorem im_X5_landsAdded : Cond.instanceMethod yX5_landsAdded ∈ am_TB := am_in 665 (by decide +kernel) rfl
set_option maxRecDepth 20000 in
theorem se_X5_landsAdded : Cond.selects yX5_landsAdded.cls yX5_landsAdded yX5_landsAdded ∈ am_TB := am_in 666 (by decide +kernel) rfl
set_option maxRecDepth 20000 in
theorem nm_X5_landsAdded : yX5_landsAdded.cls ≠ "java/lang/invoke/MethodHandle" ∧ yX5_landsAdded.cls ≠ "java/lang/invoke/VarHandle" ∧ (parseMethodDescriptor yX5_landsAdded.desc).map (fun d => d.parameters.length) = some 0 := by decide +kernel
set_option maxRecDepth 20000 in
theorem ml_X7_276 : am_ml RX7 276 yX5_landsAdded cX5_landsAdded 3 (some .int) 0 := ⟨am_in 664 (by decide +kernel) rfl, iw_X5, cw_X5_landsAdded, nm_X5_landsAdded.1, nm_X5_landsAdded.2.1, nm_X5_landsAdded.2.2, by decide⟩
set_option maxRecDepth 20000 in
theorem cw_X3_isSuch : Cond.code yX3_isSuch cX3_isSuch 4 (some .boolean) ∈ am_TB := am_in 686 (by decide +kernel) rfl
set_option maxRecDepth 20000 in
theorem st_X3_isSuch : Cond.static yX3_isSuch ∈ am_TB := am_in 685 (by decide +kernel) rfl
set_option maxRecDepth 20000 in
theorem nm_X3_isSuch : yX3_isSuch.cls ≠ "java/lang/invoke/MethodHandle" ∧ yX3_isSuch.cls ≠ "java/lang/invoke/VarHandle" ∧ (parseMethodDescriptor yX3_isSuch.desc).map (fun d => d.parameters.length) = some 2 := by decide +kernel
set_option maxRecDepth 20000 in
theorem ml_X7_281 : am_ml RX7 281 yX3_isSuch cX3_isSuch 4 (some .boolean) 2 := ⟨am_in 684 (by decide +kernel) rfl, iw_X3, cw_X3_isSuch, nm_X3_isSuch.1, nm_X3_isSuch.2.1, nm_X3_isSuch.2.2, by decide⟩
set_option maxRecDepth 20000 in
theorem cw_X1_begin : Cond.code yX1_begin cX1_begin 3 (some .int) ∈ am_TB := am_in 699 (by decide +kernel) rfl
set_option maxRecDepth 20000 in
theorem im_X1_begin : Cond.instanceMethod yX1_begin ∈ am_TB := am_in 697 (by decide +kernel) rfl
set_option maxRecDepth 20000 in
theorem se_X1_begin : Cond.selects yX1_begin.cls yX1_begin yX1_begin ∈ am_TB := am_in 698 (by decide +kernel) rfl
set_option maxRecDepth 20000 in
theorem nm_X1_begin : yX1_begin.cls ≠ "java/lang/invoke/MethodHandle" ∧ yX1_begin.cls ≠ "java/lang/invoke/VarHandle" ∧ (parseMethodDescriptor yX1_begin.desc).map (fun d => d.parameters.length) = some 2 := by decide +kernel
set_option maxRecDepth 20000 in
theorem ml_X7_284 : am_ml RX7 284 yX1_begin cX1_begin 3 (some .int) 2 := ⟨am_in 696 (by decide +kernel) rfl, iw_X1, cw_X1_begin, nm_X1_begin.1, nm_X1_begin.2.1, nm_X1_begin.2.2, by decide⟩
set_option maxRecDepth 20000 in
theorem cw_X7_rowsThatAre : Cond.code yX7_rowsThatAre cX7_rowsThatAre 3 (some .int) ∈ am_TB := am_in 731 (by decide +kernel) rfl
set_option maxRecDepth 20000 in
theorem im_X7_rowsThatAre : Cond.instanceMethod yX7_rowsThatAre ∈ am_TB := am_in 730 (by decide +kernel) rfl
set_option maxRecDepth 20000 in
theorem se_X7_rowsThatAre : Cond.selects yX7_rowsThatAre.cls yX7_rowsThatAre yX7_rowsThatAre ∈ am_TB := am_in 19 (by decide +kernel) rfl
set_option maxRecDepth 20000 in
theorem nm_X7_rowsThatAre : yX7_rowsThatAre.cls ≠ "java/lang/invoke/MethodHandle" ∧ yX7_rowsThatAre.cls ≠ "java/lang/invoke/VarHandle" ∧ (parseMethodDescriptor yX7_rowsThatAre.desc).map (fun d => d.parameters.length) = some 0 := by decide +kernel
set_option maxRecDepth 20000 in
theorem ml_X7_292 : am_ml RX7 292 yX7_rowsThatAre cX7_rowsThatAre 3 (some .int) 0 := ⟨am_in 728 (by decide +kernel) rfl, iw_X7, cw_X7_rowsThatAre, nm_X7_rowsThatAre.1, nm_X7_rowsThatAre.2.1, nm_X7_rowsThatAre.2.2, by decide⟩
set_option maxRecDepth 20000 in
theorem cw_X5_allBurnt : Cond.code yX5_allBurnt cX5_allBurnt 3 (some .int) ∈ am_TB := am_in 735 (by decide +kernel) rfl
set_option maxRecDepth 20000 in
theorem im_X5_allBurnt : Cond.instanceMethod yX5_allBurnt ∈ am_TB := am_in 733 (by decide +kernel) rfl
set_option maxRecDepth 20000 in
theorem se_X5_allBurnt : Cond.selects yX5_allBurnt.cls yX5_allBurnt yX5_allBurnt ∈ am_TB := am_in 734 (by decide +kernel) rfl
set_option maxRecDepth 20000 in
theorem nm_X5_allBurnt : yX5_allBurnt.cls ≠ "java/lang/invoke/MethodHandle" ∧ yX5_allBurnt.cls ≠ "java/lang/invoke/VarHandle" ∧ (parseMethodDescriptor yX5_allBurnt.desc).map (fun d => d.parameters.length) = some 0 := by decide +kernel
set_option maxRecDepth 20000 in
theorem ml_X7_298 : am_ml RX7 298 yX5_allBurnt cX5_allBurnt 3 (some .int) 0 := ⟨am_in 732 (by decide +kernel) rfl, iw_X5, cw_X5_allBurnt, nm_X5_allBurnt.1, nm_X5_allBurnt.2.1, nm_X5_allBurnt.2.2, by decide⟩
set_option maxRecDepth 20000 in
theorem lk_X8_1 : Cond.methodLink RX8 1 objectInit ∈ am_TB := am_in 745 (by decide +kernel) rfl
set_option maxRecDepth 20000 in
theorem cw_X8_in : Cond.code yX8_in cX8_in 6 (some .boolean) ∈ am_TB := am_in 830 (by decide +kernel) rfl
set_option maxRecDepth 20000 in
theorem st_X8_in : Cond.static yX8_in ∈ am_TB := am_in 829 (by decide +kernel) rfl
set_option maxRecDepth 20000 in
theorem nm_X8_in : yX8_in.cls ≠ "java/lang/invoke/MethodHandle" ∧ yX8_in.cls ≠ "java/lang/invoke/VarHandle" ∧ (parseMethodDescriptor yX8_in.desc).map (fun d => d.parameters.length) = some 3 := by decide +kernel
set_option maxRecDepth 20000 in
theorem ml_X8_57 : am_ml RX8 57 yX8_in cX8_in 6 (some .boolean) 3 := ⟨am_in 828 (by decide +kernel) rfl, iw_X8, cw_X8_in, nm_X8_in.1, nm_X8_in.2.1, nm_X8_in.2.2, by decide⟩
set_option maxRecDepth 20000 in
theorem cw_X8_isRow : Cond.code yX8_isRow cX8_isRow 1 (some .boolean) ∈ am_TB := am_in 826 (by decide +kernel) rfl
set_option maxRecDepth 20000 in
theorem st_X8_isRow : Cond.static yX8_isRow ∈ am_TB := am_in 825 (by decide +kernel) rfl
set_option maxRecDepth 20000 in
theorem nm_X8_isRow : yX8_isRow.cls ≠ "java/lang/invoke/MethodHandle" ∧ yX8_isRow.cls ≠ "java/lang/invoke/VarHandle" ∧ (parseMethodDescriptor yX8_isRow.desc).map (fun d => d.parameters.length) = some 1 := by decide +kernel
set_option maxRecDepth 20000 in
theorem ml_X8_61 : am_ml RX8 61 yX8_isRow cX8_isRow 1 (some .boolean) 1 := ⟨am_in 824 (by decide +kernel) rfl, iw_X8, cw_X8_isRow, nm_X8_isRow.1, nm_X8_isRow.2.1, nm_X8_isRow.2.2, by decide⟩
set_option maxRecDepth 20000 in
theorem cw_X8_found : Cond.code yX8_found cX8_found 2 (some .int) ∈ am_TB := am_in 836 (by decide +kernel) rfl
set_option maxRecDepth 20000 in
theorem im_X8_found : Cond.instanceMethod yX8_found ∈ am_TB := am_in 835 (by decide +kernel) rfl
set_option maxRecDepth 20000 in
theorem se_X8_found : Cond.selects yX8_found.cls yX8_found yX8_found ∈ am_TB := am_in 20 (by decide +kernel) rfl
set_option maxRecDepth 20000 in
theorem nm_X8_found : yX8_found.cls ≠ "java/lang/invoke/MethodHandle" ∧ yX8_found.cls ≠ "java/lang/invoke/VarHandle" ∧ (parseMethodDescriptor yX8_found.desc).map (fun d => d.parameters.length) = some 1 := by decide +kernel
set_option maxRecDepth 20000 in
theorem ml_X8_68 : am_ml RX8 68 yX8_found cX8_found 2 (some .int) 1 := ⟨am_in 833 (by decide +kernel) rfl, iw_X8, cw_X8_found, nm_X8_found.1, nm_X8_found.2.1, nm_X8_found.2.2, by decide⟩
set_option maxRecDepth 20000 in
theorem cw_X8_well : Cond.code yX8_well cX8_well 2 (some .int) ∈ am_TB := am_in 841 (by decide +kernel) rfl
set_option maxRecDepth 20000 in
theorem im_X8_well : Cond.instanceMethod yX8_well ∈ am_TB := am_in 840 (by decide +kernel) rfl
set_option maxRecDepth 20000 in
theorem se_X8_well : Cond.selects yX8_well.cls yX8_well yX8_well ∈ am_TB := am_in 21 (by decide +kernel) rfl
set_option maxRecDepth 20000 in
theorem nm_X8_well : yX8_well.cls ≠ "java/lang/invoke/MethodHandle" ∧ yX8_well.cls ≠ "java/lang/invoke/VarHandle" ∧ (parseMethodDescriptor yX8_well.desc).map (fun d => d.parameters.length) = some 1 := by decide +kernel
set_option maxRecDepth 20000 in
theorem ml_X8_72 : am_ml RX8 72 yX8_well cX8_well 2 (some .int) 1 := ⟨am_in 838 (by decide +kernel) rfl, iw_X8, cw_X8_well, nm_X8_well.1, nm_X8_well.2.1, nm_X8_well.2.2, by decide⟩
set_option maxRecDepth 20000 in
theorem cw_X8_isFigure : Cond.code yX8_isFigure cX8_isFigure 1 (some .boolean) ∈ am_TB := am_in 880 (by decide +kernel) rfl
set_option maxRecDepth 20000 in
theorem st_X8_isFigure : Cond.static yX8_isFigure ∈ am_TB := am_in 879 (by decide +kernel) rfl
set_option maxRecDepth 20000 in
theorem nm_X8_isFigure : yX8_isFigure.cls ≠ "java/lang/invoke/MethodHandle" ∧ yX8_isFigure.cls ≠ "java/lang/invoke/VarHandle" ∧ (parseMethodDescriptor yX8_isFigure.desc).map (fun d => d.parameters.length) = some 1 := by decide +kernel
set_option maxRecDepth 20000 in
theorem ml_X8_98 : am_ml RX8 98 yX8_isFigure cX8_isFigure 1 (some .boolean) 1 := ⟨am_in 878 (by decide +kernel) rfl, iw_X8, cw_X8_isFigure, nm_X8_isFigure.1, nm_X8_isFigure.2.1, nm_X8_isFigure.2.2, by decide⟩
set_option maxRecDepth 20000 in
theorem cw_X8_next : Cond.code yX8_next cX8_next 2 none ∈ am_TB := am_in 875 (by decide +kernel) rfl
set_option maxRecDepth 20000 in
theorem im_X8_next : Cond.instanceMethod yX8_next ∈ am_TB := am_in 874 (by decide +kernel) rfl
set_option maxRecDepth 20000 in
theorem se_X8_next : Cond.selects yX8_next.cls yX8_next yX8_next ∈ am_TB := am_in 24 (by decide +kernel) rfl
set_option maxRecDepth 20000 in
theorem nm_X8_next : yX8_next.cls ≠ "java/lang/invoke/MethodHandle" ∧ yX8_next.cls ≠ "java/lang/invoke/VarHandle" ∧ (parseMethodDescriptor yX8_next.desc).map (fun d => d.parameters.length) = some 0 := by decide +kernel
set_option maxRecDepth 20000 in
theorem ml_X8_110 : am_ml RX8 110 yX8_next cX8_next 2 none 0 := ⟨am_in 872 (by decide +kernel) rfl, iw_X8, cw_X8_next, nm_X8_next.1, nm_X8_next.2.1, nm_X8_next.2.2, by decide⟩
set_option maxRecDepth 20000 in
theorem cw_X8_fails : Cond.code yX8_fails cX8_fails 2 (some .boolean) ∈ am_TB := am_in 886 (by decide +kernel) rfl
set_option maxRecDepth 20000 in
theorem im_X8_fails : Cond.instanceMethod yX8_fails ∈ am_TB := am_in 885 (by decide +kernel) rfl
set_option maxRecDepth 20000 in
theorem se_X8_fails : Cond.selects yX8_fails.cls yX8_fails yX8_fails ∈ am_TB := am_in 25 (by decide +kernel) rfl
set_option maxRecDepth 20000 in
theorem nm_X8_fails : yX8_fails.cls ≠ "java/lang/invoke/MethodHandle" ∧ yX8_fails.cls ≠ "java/lang/invoke/VarHandle" ∧ (parseMethodDescriptor yX8_fails.desc).map (fun d => d.parameters.length) = some 1 := by decide +kernel
set_option maxRecDepth 20000 in
theorem ml_X8_113 : am_ml RX8 113 yX8_fails cX8_fails 2 (some .boolean) 1 := ⟨am_in 883 (by decide +kernel) rfl, iw_X8, cw_X8_fails, nm_X8_fails.1, nm_X8_fails.2.1, nm_X8_fails.2.2, by decide⟩
set_option maxRecDepth 20000 in
theorem cw_X8_number : Cond.code yX8_number cX8_number 3 (some .boolean) ∈ am_TB := am_in 890 (by decide +kernel) rfl
set_option maxRecDepth 20000 in
theorem im_X8_number : Cond.instanceMethod yX8_number ∈ am_TB := am_in 889 (by decide +kernel) rfl
set_option maxRecDepth 20000 in
theorem se_X8_number : Cond.selects yX8_number.cls yX8_number yX8_number ∈ am_TB := am_in 26 (by decide +kernel) rfl
set_option maxRecDepth 20000 in
theorem nm_X8_number : yX8_number.cls ≠ "java/lang/invoke/MethodHandle" ∧ yX8_number.cls ≠ "java/lang/invoke/VarHandle" ∧ (parseMethodDescriptor yX8_number.desc).map (fun d => d.parameters.length) = some 2 := by decide +kernel
set_option maxRecDepth 20000 in
theorem ml_X8_116 : am_ml RX8 116 yX8_number cX8_number 3 (some .boolean) 2 := ⟨am_in 887 (by decide +kernel) rfl, iw_X8, cw_X8_number, nm_X8_number.1, nm_X8_number.2.1, nm_X8_number.2.2, by decide⟩
set_option maxRecDepth 20000 in
theorem cw_X8_sign : Cond.code yX8_sign cX8_sign 2 (some .boolean) ∈ am_TB := am_in 894 (by decide +kernel) rfl
set_option maxRecDepth 20000 in
theorem im_X8_sign : Cond.instanceMethod yX8_sign ∈ am_TB := am_in 893 (by decide +kernel) rfl
set_option maxRecDepth 20000 in
theorem se_X8_sign : Cond.selects yX8_sign.cls yX8_sign yX8_sign ∈ am_TB := am_in 27 (by decide +kernel) rfl
set_option maxRecDepth 20000 in
theorem nm_X8_sign : yX8_sign.cls ≠ "java/lang/invoke/MethodHandle" ∧ yX8_sign.cls ≠ "java/lang/invoke/VarHandle" ∧ (parseMethodDescriptor yX8_sign.desc).map (fun d => d.parameters.length) = some 1 := by decide +kernel
set_option maxRecDepth 20000 in
theorem ml_X8_120 : am_ml RX8 120 yX8_sign cX8_sign 2 (some .boolean) 1 := ⟨am_in 891 (by decide +kernel) rfl, iw_X8, cw_X8_sign, nm_X8_sign.1, nm_X8_sign.2.1, nm_X8_sign.2.2, by decide⟩
set_option maxRecDepth 20000 in
theorem cw_X8_sortOf : Cond.code yX8_sortOf cX8_sortOf 1 (some .int) ∈ am_TB := am_in 901 (by decide +kernel) rfl
set_option maxRecDepth 20000 in
theorem st_X8_sortOf : Cond.static yX8_sortOf ∈ am_TB := am_in 900 (by decide +kernel) rfl
set_option maxRecDepth 20000 in
theorem nm_X8_sortOf : yX8_sortOf.cls ≠ "java/lang/invoke/MethodHandle" ∧ yX8_sortOf.cls ≠ "java/lang/invoke/VarHandle" ∧ (parseMethodDescriptor yX8_sortOf.desc).map (fun d => d.parameters.length) = some 1 := by decide +kernel
set_option maxRecDepth 20000 in
theorem ml_X8_123 : am_ml RX8 123 yX8_sortOf cX8_sortOf 1 (some .int) 1 := ⟨am_in 899 (by decide +kernel) rfl, iw_X8, cw_X8_sortOf, nm_X8_sortOf.1, nm_X8_sortOf.2.1, nm_X8_sortOf.2.2, by decide⟩
set_option maxRecDepth 20000 in
theorem cw_X8_readsLaw : Cond.code yX8_readsLaw cX8_readsLaw 2 (some .boolean) ∈ am_TB := am_in 871 (by decide +kernel) rfl
set_option maxRecDepth 20000 in
theorem im_X8_readsLaw : Cond.instanceMethod yX8_readsLaw ∈ am_TB := am_in 870 (by decide +kernel) rfl
set_option maxRecDepth 20000 in
theorem se_X8_readsLaw : Cond.selects yX8_readsLaw.cls yX8_readsLaw yX8_readsLaw ∈ am_TB := am_in 23 (by decide +kernel) rfl
set_option maxRecDepth 20000 in
theorem nm_X8_readsLaw : yX8_readsLaw.cls ≠ "java/lang/invoke/MethodHandle" ∧ yX8_readsLaw.cls ≠ "java/lang/invoke/VarHandle" ∧ (parseMethodDescriptor yX8_readsLaw.desc).map (fun d => d.parameters.length) = some 0 := by decide +kernel
set_option maxRecDepth 20000 in
theorem ml_X8_126 : am_ml RX8 126 yX8_readsLaw cX8_readsLaw 2 (some .boolean) 0 := ⟨am_in 868 (by decide +kernel) rfl, iw_X8, cw_X8_readsLaw, nm_X8_readsLaw.1, nm_X8_readsLaw.2.1, nm_X8_readsLaw.2.2, by decide⟩
set_option maxRecDepth 20000 in
theorem cw_X8_readsOffice : Cond.code yX8_readsOffice cX8_readsOffice 3 (some .boolean) ∈ am_TB := am_in 898 (by decide +kernel) rfl
set_option maxRecDepth 20000 in
theorem im_X8_readsOffice : Cond.instanceMethod yX8_readsOffice ∈ am_TB := am_in 897 (by decide +kernel) rfl
set_option maxRecDepth 20000 in
theorem se_X8_readsOffice : Cond.selects yX8_readsOffice.cls yX8_readsOffice yX8_readsOffice ∈ am_TB := am_in 28 (by decide +kernel) rfl
set_option maxRecDepth 20000 in
theorem nm_X8_readsOffice : yX8_readsOffice.cls ≠ "java/lang/invoke/MethodHandle" ∧ yX8_readsOffice.cls ≠ "java/lang/invoke/VarHandle" ∧ (parseMethodDescriptor yX8_readsOffice.desc).map (fun d => d.parameters.length) = some 0 := by decide +kernel
set_option maxRecDepth 20000 in
theorem ml_X8_130 : am_ml RX8 130 yX8_readsOffice cX8_readsOffice 3 (some .boolean) 0 := ⟨am_in 895 (by decide +kernel) rfl, iw_X8, cw_X8_readsOffice, nm_X8_readsOffice.1, nm_X8_readsOffice.2.1, nm_X8_readsOffice.2.2, by decide⟩
set_option maxRecDepth 20000 in
theorem cw_X8_reads : Cond.code yX8_reads cX8_reads 2 (some .boolean) ∈ am_TB := am_in 867 (by decide +kernel) rfl
set_option maxRecDepth 20000 in
theorem im_X8_reads : Cond.instanceMethod yX8_reads ∈ am_TB := am_in 866 (by decide +kernel) rfl
set_option maxRecDepth 20000 in
theorem se_X8_reads : Cond.selects yX8_reads.cls yX8_reads yX8_reads ∈ am_TB := am_in 22 (by decide +kernel) rfl
set_option maxRecDepth 20000 in
theorem nm_X8_reads : yX8_reads.cls ≠ "java/lang/invoke/MethodHandle" ∧ yX8_reads.cls ≠ "java/lang/invoke/VarHandle" ∧ (parseMethodDescriptor yX8_reads.desc).map (fun d => d.parameters.length) = some 0 := by decide +kernel
set_option maxRecDepth 20000 in
theorem ml_X8_133 : am_ml RX8 133 yX8_reads cX8_reads 2 (some .boolean) 0 := ⟨am_in 864 (by decide +kernel) rfl, iw_X8, cw_X8_reads, nm_X8_reads.1, nm_X8_reads.2.1, nm_X8_reads.2.2, by decide⟩
set_option maxRecDepth 20000 in
theorem cw_X8_copies : Cond.code yX8_copies cX8_copies 5 none ∈ am_TB := am_in 905 (by decide +kernel) rfl
set_option maxRecDepth 20000 in
theorem st_X8_copies : Cond.static yX8_copies ∈ am_TB := am_in 904 (by decide +kernel) rfl
set_option maxRecDepth 20000 in
theorem nm_X8_copies : yX8_copies.cls ≠ "java/lang/invoke/MethodHandle" ∧ yX8_copies.cls ≠ "java/lang/invoke/VarHandle" ∧ (parseMethodDescriptor yX8_copies.desc).map (fun d => d.parameters.length) = some 4 := by decide +kernel
set_option maxRecDepth 20000 in
theorem ml_X8_144 : am_ml RX8 144 yX8_copies cX8_copies 5 none 4 := ⟨am_in 903 (by decide +kernel) rfl, iw_X8, cw_X8_copies, nm_X8_copies.1, nm_X8_copies.2.1, nm_X8_copies.2.2, by decide⟩
set_option maxRecDepth 20000 in
theorem cw_X8_liftOf : Cond.code yX8_liftOf cX8_liftOf 2 (some .int) ∈ am_TB := am_in 959 (by decide +kernel) rfl
set_option maxRecDepth 20000 in
theorem st_X8_liftOf : Cond.static yX8_liftOf ∈ am_TB := am_in 958 (by decide +kernel) rfl
set_option maxRecDepth 20000 in
theorem nm_X8_liftOf : yX8_liftOf.cls ≠ "java/lang/invoke/MethodHandle" ∧ yX8_liftOf.cls ≠ "java/lang/invoke/VarHandle" ∧ (parseMethodDescriptor yX8_liftOf.desc).map (fun d => d.parameters.length) = some 2 := by decide +kernel
set_option maxRecDepth 20000 in
theorem ml_X8_150 : am_ml RX8 150 yX8_liftOf cX8_liftOf 2 (some .int) 2 := ⟨am_in 957 (by decide +kernel) rfl, iw_X8, cw_X8_liftOf, nm_X8_liftOf.1, nm_X8_liftOf.2.1, nm_X8_liftOf.2.2, by decide⟩
set_option maxRecDepth 20000 in
theorem cw_X8_bandOf : Cond.code yX8_bandOf cX8_bandOf 1 (some .int) ∈ am_TB := am_in 935 (by decide +kernel) rfl
set_option maxRecDepth 20000 in
theorem st_X8_bandOf : Cond.static yX8_bandOf ∈ am_TB := am_in 934 (by decide +kernel) rfl
set_option maxRecDepth 20000 in
theorem nm_X8_bandOf : yX8_bandOf.cls ≠ "java/lang/invoke/MethodHandle" ∧ yX8_bandOf.cls ≠ "java/lang/invoke/VarHandle" ∧ (parseMethodDescriptor yX8_bandOf.desc).map (fun d => d.parameters.length) = some 1 := by decide +kernel
set_option maxRecDepth 20000 in
theorem ml_X8_154 : am_ml RX8 154 yX8_bandOf cX8_bandOf 1 (some .int) 1 := ⟨am_in 933 (by decide +kernel) rfl, iw_X8, cw_X8_bandOf, nm_X8_bandOf.1, nm_X8_bandOf.2.1, nm_X8_bandOf.2.2, by decide⟩
set_option maxRecDepth 20000 in
theorem cw_X8_sunk : Cond.code yX8_sunk cX8_sunk 2 (some .int) ∈ am_TB := am_in 929 (by decide +kernel) rfl
set_option maxRecDepth 20000 in
theorem st_X8_sunk : Cond.static yX8_sunk ∈ am_TB := am_in 928 (by decide +kernel) rfl
set_option maxRecDepth 20000 in
theorem nm_X8_sunk : yX8_sunk.cls ≠ "java/lang/invoke/MethodHandle" ∧ yX8_sunk.cls ≠ "java/lang/invoke/VarHandle" ∧ (parseMethodDescriptor yX8_sunk.desc).map (fun d => d.parameters.length) = some 2 := by decide +kernel
set_option maxRecDepth 20000 in
theorem ml_X8_157 : am_ml RX8 157 yX8_sunk cX8_sunk 2 (some .int) 2 := ⟨am_in 927 (by decide +kernel) rfl, iw_X8, cw_X8_sunk, nm_X8_sunk.1, nm_X8_sunk.2.1, nm_X8_sunk.2.2, by decide⟩
set_option maxRecDepth 20000 in
theorem cw_X8_carried : Cond.code yX8_carried cX8_carried 4 (some .int) ∈ am_TB := am_in 932 (by decide +kernel) rfl
set_option maxRecDepth 20000 in
theorem st_X8_carried : Cond.static yX8_carried ∈ am_TB := am_in 931 (by decide +kernel) rfl
set_option maxRecDepth 20000 in
theorem nm_X8_carried : yX8_carried.cls ≠ "java/lang/invoke/MethodHandle" ∧ yX8_carried.cls ≠ "java/lang/invoke/VarHandle" ∧ (parseMethodDescriptor yX8_carried.desc).map (fun d => d.parameters.length) = some 3 := by decide +kernel
set_option maxRecDepth 20000 in
theorem ml_X8_161 : am_ml RX8 161 yX8_carried cX8_carried 4 (some .int) 3 := ⟨am_in 930 (by decide +kernel) rfl, iw_X8, cw_X8_carried, nm_X8_carried.1, nm_X8_carried.2.1, nm_X8_carried.2.2, by decide⟩
set_option maxRecDepth 20000 in
theorem cw_X8_lifted : Cond.code yX8_lifted cX8_lifted 5 (some .int) ∈ am_TB := am_in 956 (by decide +kernel) rfl
set_option maxRecDepth 20000 in
theorem st_X8_lifted : Cond.static yX8_lifted ∈ am_TB := am_in 955 (by decide +kernel) rfl
set_option maxRecDepth 20000 in
theorem nm_X8_lifted : yX8_lifted.cls ≠ "java/lang/invoke/MethodHandle" ∧ yX8_lifted.cls ≠ "java/lang/invoke/VarHandle" ∧ (parseMethodDescriptor yX8_lifted.desc).map (fun d => d.parameters.length) = some 3 := by decide +kernel
set_option maxRecDepth 20000 in
theorem ml_X8_165 : am_ml RX8 165 yX8_lifted cX8_lifted 5 (some .int) 3 := ⟨am_in 954 (by decide +kernel) rfl, iw_X8, cw_X8_lifted, nm_X8_lifted.1, nm_X8_lifted.2.1, nm_X8_lifted.2.2, by decide⟩
set_option maxRecDepth 20000 in
theorem cw_X8_remember : Cond.code yX8_remember cX8_remember 2 none ∈ am_TB := am_in 923 (by decide +kernel) rfl
set_option maxRecDepth 20000 in
theorem im_X8_remember : Cond.instanceMethod yX8_remember ∈ am_TB := am_in 922 (by decide +kernel) rfl
set_option maxRecDepth 20000 in
theorem se_X8_remember : Cond.selects yX8_remember.cls yX8_remember yX8_remember ∈ am_TB := am_in 29 (by decide +kernel) rfl
set_option maxRecDepth 20000 in
theorem nm_X8_remember : yX8_remember.cls ≠ "java/lang/invoke/MethodHandle" ∧ yX8_remember.cls ≠ "java/lang/invoke/VarHandle" ∧ (parseMethodDescriptor yX8_remember.desc).map (fun d => d.parameters.length) = some 0 := by decide +kernel
set_option maxRecDepth 20000 in
theorem ml_X8_172 : am_ml RX8 172 yX8_remember cX8_remember 2 none 0 := ⟨am_in 920 (by decide +kernel) rfl, iw_X8, cw_X8_remember, nm_X8_remember.1, nm_X8_remember.2.1, nm_X8_remember.2.2, by decide⟩
set_option maxRecDepth 20000 in
theorem cw_X8_hourGoes : Cond.code yX8_hourGoes cX8_hourGoes 2 none ∈ am_TB := am_in 926 (by decide +kernel) rfl
set_option maxRecDepth 20000 in
theorem st_X8_hourGoes : Cond.static yX8_hourGoes ∈ am_TB := am_in 925 (by decide +kernel) rfl
set_option maxRecDepth 20000 in
theorem nm_X8_hourGoes : yX8_hourGoes.cls ≠ "java/lang/invoke/MethodHandle" ∧ yX8_hourGoes.cls ≠ "java/lang/invoke/VarHandle" ∧ (parseMethodDescriptor yX8_hourGoes.desc).map (fun d => d.parameters.length) = some 1 := by decide +kernel
set_option maxRecDepth 20000 in
theorem ml_X8_175 : am_ml RX8 175 yX8_hourGoes cX8_hourGoes 2 none 1 := ⟨am_in 924 (by decide +kernel) rfl, iw_X8, cw_X8_hourGoes, nm_X8_hourGoes.1, nm_X8_hourGoes.2.1, nm_X8_hourGoes.2.2, by decide⟩
set_option maxRecDepth 20000 in
theorem cw_X8_flying : Cond.code yX8_flying cX8_flying 3 (some .int) ∈ am_TB := am_in 938 (by decide +kernel) rfl
set_option maxRecDepth 20000 in
theorem st_X8_flying : Cond.static yX8_flying ∈ am_TB := am_in 937 (by decide +kernel) rfl
set_option maxRecDepth 20000 in
theorem nm_X8_flying : yX8_flying.cls ≠ "java/lang/invoke/MethodHandle" ∧ yX8_flying.cls ≠ "java/lang/invoke/VarHandle" ∧ (parseMethodDescriptor yX8_flying.desc).map (fun d => d.parameters.length) = some 1 := by decide +kernel
set_option maxRecDepth 20000 in
theorem ml_X8_179 : am_ml RX8 179 yX8_flying cX8_flying 3 (some .int) 1 := ⟨am_in 936 (by decide +kernel) rfl, iw_X8, cw_X8_flying, nm_X8_flying.1, nm_X8_flying.2.1, nm_X8_flying.2.2, by decide⟩
set_option maxRecDepth 20000 in
theorem cw_X8_bits : Cond.code yX8_bits cX8_bits 3 (some .int) ∈ am_TB := am_in 941 (by decide +kernel) rfl
set_option maxRecDepth 20000 in
theorem st_X8_bits : Cond.static yX8_bits ∈ am_TB := am_in 940 (by decide +kernel) rfl
set_option maxRecDepth 20000 in
theorem nm_X8_bits : yX8_bits.cls ≠ "java/lang/invoke/MethodHandle" ∧ yX8_bits.cls ≠ "java/lang/invoke/VarHandle" ∧ (parseMethodDescriptor yX8_bits.desc).map (fun d => d.parameters.length) = some 1 := by decide +kernel
set_option maxRecDepth 20000 in
theorem ml_X8_183 : am_ml RX8 183 yX8_bits cX8_bits 3 (some .int) 1 := ⟨am_in 939 (by decide +kernel) rfl, iw_X8, cw_X8_bits, nm_X8_bits.1, nm_X8_bits.2.1, nm_X8_bits.2.2, by decide⟩
set_option maxRecDepth 20000 in
theorem cw_X8_isOffice : Cond.code yX8_isOffice cX8_isOffice 2 (some .boolean) ∈ am_TB := am_in 949 (by decide +kernel) rfl
set_option maxRecDepth 20000 in
theorem im_X8_isOffice : Cond.instanceMethod yX8_isOffice ∈ am_TB := am_in 948 (by decide +kernel) rfl
set_option maxRecDepth 20000 in
theorem se_X8_isOffice : Cond.selects yX8_isOffice.cls yX8_isOffice yX8_isOffice ∈ am_TB := am_in 30 (by decide +kernel) rfl
set_option maxRecDepth 20000 in
theorem nm_X8_isOffice : yX8_isOffice.cls ≠ "java/lang/invoke/MethodHandle" ∧ yX8_isOffice.cls ≠ "java/lang/invoke/VarHandle" ∧ (parseMethodDescriptor yX8_isOffice.desc).map (fun d => d.parameters.length) = some 1 := by decide +kernel
set_option maxRecDepth 20000 in
theorem ml_X8_186 : am_ml RX8 186 yX8_isOffice cX8_isOffice 2 (some .boolean) 1 := ⟨am_in 946 (by decide +kernel) rfl, iw_X8, cw_X8_isOffice, nm_X8_isOffice.1, nm_X8_isOffice.2.1, nm_X8_isOffice.2.2, by decide⟩
set_option maxRecDepth 20000 in
theorem cw_X8_burns : Cond.code yX8_burns cX8_burns 3 none ∈ am_TB := am_in 953 (by decide +kernel) rfl
set_option maxRecDepth 20000 in
theorem st_X8_burns : Cond.static yX8_burns ∈ am_TB := am_in 952 (by decide +kernel) rfl
set_option maxRecDepth 20000 in
theorem nm_X8_burns : yX8_burns.cls ≠ "java/lang/invoke/MethodHandle" ∧ yX8_burns.cls ≠ "java/lang/invoke/VarHandle" ∧ (parseMethodDescriptor yX8_burns.desc).map (fun d => d.parameters.length) = some 3 := by decide +kernel
set_option maxRecDepth 20000 in
theorem ml_X8_191 : am_ml RX8 191 yX8_burns cX8_burns 3 none 3 := ⟨am_in 951 (by decide +kernel) rfl, iw_X8, cw_X8_burns, nm_X8_burns.1, nm_X8_burns.2.1, nm_X8_burns.2.2, by decide⟩
set_option maxRecDepth 20000 in
theorem cw_X8_isLand : Cond.code yX8_isLand cX8_isLand 1 (some .boolean) ∈ am_TB := am_in 982 (by decide +kernel) rfl
set_option maxRecDepth 20000 in
theorem st_X8_isLand : Cond.static yX8_isLand ∈ am_TB := am_in 981 (by decide +kernel) rfl
set_option maxRecDepth 20000 in
theorem nm_X8_isLand : yX8_isLand.cls ≠ "java/lang/invoke/MethodHandle" ∧ yX8_isLand.cls ≠ "java/lang/invoke/VarHandle" ∧ (parseMethodDescriptor yX8_isLand.desc).map (fun d => d.parameters.length) = some 1 := by decide +kernel
set_option maxRecDepth 20000 in
theorem ml_X8_203 : am_ml RX8 203 yX8_isLand cX8_isLand 1 (some .boolean) 1 := ⟨am_in 980 (by decide +kernel) rfl, iw_X8, cw_X8_isLand, nm_X8_isLand.1, nm_X8_isLand.2.1, nm_X8_isLand.2.2, by decide⟩
set_option maxRecDepth 20000 in
theorem cw_X8_overOn : Cond.code yX8_overOn cX8_overOn 4 (some .int) ∈ am_TB := am_in 986 (by decide +kernel) rfl
set_option maxRecDepth 20000 in
theorem st_X8_overOn : Cond.static yX8_overOn ∈ am_TB := am_in 985 (by decide +kernel) rfl
set_option maxRecDepth 20000 in
theorem nm_X8_overOn : yX8_overOn.cls ≠ "java/lang/invoke/MethodHandle" ∧ yX8_overOn.cls ≠ "java/lang/invoke/VarHandle" ∧ (parseMethodDescriptor yX8_overOn.desc).map (fun d => d.parameters.length) = some 2 := by decide +kernel
set_option maxRecDepth 20000 in
theorem ml_X8_206 : am_ml RX8 206 yX8_overOn cX8_overOn 4 (some .int) 2 := ⟨am_in 984 (by decide +kernel) rfl, iw_X8, cw_X8_overOn, nm_X8_overOn.1, nm_X8_overOn.2.1, nm_X8_overOn.2.2, by decide⟩
set_option maxRecDepth 20000 in
theorem cw_X8_isTwo : Cond.code yX8_isTwo cX8_isTwo 1 (some .boolean) ∈ am_TB := am_in 993 (by decide +kernel) rfl
set_option maxRecDepth 20000 in
theorem st_X8_isTwo : Cond.static yX8_isTwo ∈ am_TB := am_in 992 (by decide +kernel) rfl
set_option maxRecDepth 20000 in
theorem nm_X8_isTwo : yX8_isTwo.cls ≠ "java/lang/invoke/MethodHandle" ∧ yX8_isTwo.cls ≠ "java/lang/invoke/VarHandle" ∧ (parseMethodDescriptor yX8_isTwo.desc).map (fun d => d.parameters.length) = some 1 := by decide +kernel
set_option maxRecDepth 20000 in
theorem ml_X8_209 : am_ml RX8 209 yX8_isTwo cX8_isTwo 1 (some .boolean) 1 := ⟨am_in 991 (by decide +kernel) rfl, iw_X8, cw_X8_isTwo, nm_X8_isTwo.1, nm_X8_isTwo.2.1, nm_X8_isTwo.2.2, by decide⟩
set_option maxRecDepth 20000 in
theorem cw_X8_goAside : Cond.code yX8_goAside cX8_goAside 3 none ∈ am_TB := am_in 997 (by decide +kernel) rfl
set_option maxRecDepth 20000 in
theorem im_X8_goAside : Cond.instanceMethod yX8_goAside ∈ am_TB := am_in 996 (by decide +kernel) rfl
set_option maxRecDepth 20000 in
theorem se_X8_goAside : Cond.selects yX8_goAside.cls yX8_goAside yX8_goAside ∈ am_TB := am_in 31 (by decide +kernel) rfl
set_option maxRecDepth 20000 in
theorem nm_X8_goAside : yX8_goAside.cls ≠ "java/lang/invoke/MethodHandle" ∧ yX8_goAside.cls ≠ "java/lang/invoke/VarHandle" ∧ (parseMethodDescriptor yX8_goAside.desc).map (fun d => d.parameters.length) = some 1 := by decide +kernel
set_option maxRecDepth 20000 in
theorem ml_X8_212 : am_ml RX8 212 yX8_goAside cX8_goAside 3 none 1 := ⟨am_in 994 (by decide +kernel) rfl, iw_X8, cw_X8_goAside, nm_X8_goAside.1, nm_X8_goAside.2.1, nm_X8_goAside.2.2, by decide⟩
set_option maxRecDepth 20000 in
theorem cw_X8_cell : Cond.code yX8_cell cX8_cell 3 (some .int) ∈ am_TB := am_in 1027 (by decide +kernel) rfl
set_option maxRecDepth 20000 in
theorem st_X8_cell : Cond.static yX8_cell ∈ am_TB := am_in 1026 (by decide +kernel) rfl
set_option maxRecDepth 20000 in
theorem nm_X8_cell : yX8_cell.cls ≠ "java/lang/invoke/MethodHandle" ∧ yX8_cell.cls ≠ "java/lang/invoke/VarHandle" ∧ (parseMethodDescriptor yX8_cell.desc).map (fun d => d.parameters.length) = some 3 := by decide +kernel
set_option maxRecDepth 20000 in
theorem ml_X8_217 : am_ml RX8 217 yX8_cell cX8_cell 3 (some .int) 3 := ⟨am_in 1025 (by decide +kernel) rfl, iw_X8, cw_X8_cell, nm_X8_cell.1, nm_X8_cell.2.1, nm_X8_cell.2.2, by decide⟩
set_option maxRecDepth 20000 in
theorem cw_X8_fewestBy : Cond.code yX8_fewestBy cX8_fewestBy 7 (some .int) ∈ am_TB := am_in 1024 (by decide +kernel) rfl
set_option maxRecDepth 20000 in
theorem im_X8_fewestBy : Cond.instanceMethod yX8_fewestBy ∈ am_TB := am_in 1023 (by decide +kernel) rfl
set_option maxRecDepth 20000 in
theorem se_X8_fewestBy : Cond.selects yX8_fewestBy.cls yX8_fewestBy yX8_fewestBy ∈ am_TB := am_in 33 (by decide +kernel) rfl
set_option maxRecDepth 20000 in
theorem nm_X8_fewestBy : yX8_fewestBy.cls ≠ "java/lang/invoke/MethodHandle" ∧ yX8_fewestBy.cls ≠ "java/lang/invoke/VarHandle" ∧ (parseMethodDescriptor yX8_fewestBy.desc).map (fun d => d.parameters.length) = some 5 := by decide +kernel
set_option maxRecDepth 20000 in
theorem ml_X8_221 : am_ml RX8 221 yX8_fewestBy cX8_fewestBy 7 (some .int) 5 := ⟨am_in 1021 (by decide +kernel) rfl, iw_X8, cw_X8_fewestBy, nm_X8_fewestBy.1, nm_X8_fewestBy.2.1, nm_X8_fewestBy.2.2, by decide⟩
set_option maxRecDepth 20000 in
theorem cw_X8_layFewest : Cond.code yX8_layFewest cX8_layFewest 11 none ∈ am_TB := am_in 1019 (by decide +kernel) rfl
set_option maxRecDepth 20000 in
theorem im_X8_layFewest : Cond.instanceMethod yX8_layFewest ∈ am_TB := am_in 1018 (by decide +kernel) rfl
set_option maxRecDepth 20000 in
theorem se_X8_layFewest : Cond.selects yX8_layFewest.cls yX8_layFewest yX8_layFewest ∈ am_TB := am_in 32 (by decide +kernel) rfl
set_option maxRecDepth 20000 in
theorem nm_X8_layFewest : yX8_layFewest.cls ≠ "java/lang/invoke/MethodHandle" ∧ yX8_layFewest.cls ≠ "java/lang/invoke/VarHandle" ∧ (parseMethodDescriptor yX8_layFewest.desc).map (fun d => d.parameters.length) = some 4 := by decide +kernel
set_option maxRecDepth 20000 in
theorem ml_X8_227 : am_ml RX8 227 yX8_layFewest cX8_layFewest 11 none 4 := ⟨am_in 1016 (by decide +kernel) rfl, iw_X8, cw_X8_layFewest, nm_X8_layFewest.1, nm_X8_layFewest.2.1, nm_X8_layFewest.2.2, by decide⟩
set_option maxRecDepth 20000 in
theorem cw_X8_lies : Cond.code yX8_lies cX8_lies 4 (some .int) ∈ am_TB := am_in 1036 (by decide +kernel) rfl
set_option maxRecDepth 20000 in
theorem im_X8_lies : Cond.instanceMethod yX8_lies ∈ am_TB := am_in 1035 (by decide +kernel) rfl
set_option maxRecDepth 20000 in
theorem se_X8_lies : Cond.selects yX8_lies.cls yX8_lies yX8_lies ∈ am_TB := am_in 34 (by decide +kernel) rfl
set_option maxRecDepth 20000 in
theorem nm_X8_lies : yX8_lies.cls ≠ "java/lang/invoke/MethodHandle" ∧ yX8_lies.cls ≠ "java/lang/invoke/VarHandle" ∧ (parseMethodDescriptor yX8_lies.desc).map (fun d => d.parameters.length) = some 3 := by decide +kernel
set_option maxRecDepth 20000 in
theorem ml_X8_233 : am_ml RX8 233 yX8_lies cX8_lies 4 (some .int) 3 := ⟨am_in 1033 (by decide +kernel) rfl, iw_X8, cw_X8_lies, nm_X8_lies.1, nm_X8_lies.2.1, nm_X8_lies.2.2, by decide⟩
set_option maxRecDepth 20000 in
theorem cw_X8_comesSo : Cond.code yX8_comesSo cX8_comesSo 8 (some .boolean) ∈ am_TB := am_in 1045 (by decide +kernel) rfl
set_option maxRecDepth 20000 in
theorem im_X8_comesSo : Cond.instanceMethod yX8_comesSo ∈ am_TB := am_in 1044 (by decide +kernel) rfl
set_option maxRecDepth 20000 in
theorem se_X8_comesSo : Cond.selects yX8_comesSo.cls yX8_comesSo yX8_comesSo ∈ am_TB := am_in 35 (by decide +kernel) rfl
set_option maxRecDepth 20000 in
theorem nm_X8_comesSo : yX8_comesSo.cls ≠ "java/lang/invoke/MethodHandle" ∧ yX8_comesSo.cls ≠ "java/lang/invoke/VarHandle" ∧ (parseMethodDescriptor yX8_comesSo.desc).map (fun d => d.parameters.length) = some 4 := by decide +kernel
set_option maxRecDepth 20000 in
theorem ml_X8_238 : am_ml RX8 238 yX8_comesSo cX8_comesSo 8 (some .boolean) 4 := ⟨am_in 1042 (by decide +kernel) rfl, iw_X8, cw_X8_comesSo, nm_X8_comesSo.1, nm_X8_comesSo.2.1, nm_X8_comesSo.2.2, by decide⟩
set_option maxRecDepth 20000 in
theorem cw_X8_lastsWith : Cond.code yX8_lastsWith cX8_lastsWith 7 (some .int) ∈ am_TB := am_in 1061 (by decide +kernel) rfl
set_option maxRecDepth 20000 in
theorem im_X8_lastsWith : Cond.instanceMethod yX8_lastsWith ∈ am_TB := am_in 1060 (by decide +kernel) rfl
set_option maxRecDepth 20000 in
theorem se_X8_lastsWith : Cond.selects yX8_lastsWith.cls yX8_lastsWith yX8_lastsWith ∈ am_TB := am_in 36 (by decide +kernel) rfl
set_option maxRecDepth 20000 in
theorem nm_X8_lastsWith : yX8_lastsWith.cls ≠ "java/lang/invoke/MethodHandle" ∧ yX8_lastsWith.cls ≠ "java/lang/invoke/VarHandle" ∧ (parseMethodDescriptor yX8_lastsWith.desc).map (fun d => d.parameters.length) = some 2 := by decide +kernel
set_option maxRecDepth 20000 in
theorem ml_X8_242 : am_ml RX8 242 yX8_lastsWith cX8_lastsWith 7 (some .int) 2 := ⟨am_in 1058 (by decide +kernel) rfl, iw_X8, cw_X8_lastsWith, nm_X8_lastsWith.1, nm_X8_lastsWith.2.1, nm_X8_lastsWith.2.2, by decide⟩
set_option maxRecDepth 20000 in
theorem cw_X8_isOf : Cond.code yX8_isOf cX8_isOf 2 (some .boolean) ∈ am_TB := am_in 1098 (by decide +kernel) rfl
set_option maxRecDepth 20000 in
theorem st_X8_isOf : Cond.static yX8_isOf ∈ am_TB := am_in 1097 (by decide +kernel) rfl
set_option maxRecDepth 20000 in
theorem nm_X8_isOf : yX8_isOf.cls ≠ "java/lang/invoke/MethodHandle" ∧ yX8_isOf.cls ≠ "java/lang/invoke/VarHandle" ∧ (parseMethodDescriptor yX8_isOf.desc).map (fun d => d.parameters.length) = some 2 := by decide +kernel
set_option maxRecDepth 20000 in
theorem ml_X8_257 : am_ml RX8 257 yX8_isOf cX8_isOf 2 (some .boolean) 2 := ⟨am_in 1096 (by decide +kernel) rfl, iw_X8, cw_X8_isOf, nm_X8_isOf.1, nm_X8_isOf.2.1, nm_X8_isOf.2.2, by decide⟩
set_option maxRecDepth 20000 in
theorem cw_X8_leave : Cond.code yX8_leave cX8_leave 7 none ∈ am_TB := am_in 1113 (by decide +kernel) rfl
set_option maxRecDepth 20000 in
theorem im_X8_leave : Cond.instanceMethod yX8_leave ∈ am_TB := am_in 1112 (by decide +kernel) rfl
set_option maxRecDepth 20000 in
theorem se_X8_leave : Cond.selects yX8_leave.cls yX8_leave yX8_leave ∈ am_TB := am_in 38 (by decide +kernel) rfl
set_option maxRecDepth 20000 in
theorem nm_X8_leave : yX8_leave.cls ≠ "java/lang/invoke/MethodHandle" ∧ yX8_leave.cls ≠ "java/lang/invoke/VarHandle" ∧ (parseMethodDescriptor yX8_leave.desc).map (fun d => d.parameters.length) = some 1 := by decide +kernel
set_option maxRecDepth 20000 in
theorem ml_X8_271 : am_ml RX8 271 yX8_leave cX8_leave 7 none 1 := ⟨am_in 1110 (by decide +kernel) rfl, iw_X8, cw_X8_leave, nm_X8_leave.1, nm_X8_leave.2.1, nm_X8_leave.2.2, by decide⟩
set_option maxRecDepth 20000 in
theorem cw_X8_mark : Cond.code yX8_mark cX8_mark 4 (some .int) ∈ am_TB := am_in 1106 (by decide +kernel) rfl
set_option maxRecDepth 20000 in
theorem im_X8_mark : Cond.instanceMethod yX8_mark ∈ am_TB := am_in 1105 (by decide +kernel) rfl
set_option maxRecDepth 20000 in
theorem se_X8_mark : Cond.selects yX8_mark.cls yX8_mark yX8_mark ∈ am_TB := am_in 37 (by decide +kernel) rfl
set_option maxRecDepth 20000 in
theorem nm_X8_mark : yX8_mark.cls ≠ "java/lang/invoke/MethodHandle" ∧ yX8_mark.cls ≠ "java/lang/invoke/VarHandle" ∧ (parseMethodDescriptor yX8_mark.desc).map (fun d => d.parameters.length) = some 1 := by decide +kernel
set_option maxRecDepth 20000 in
theorem ml_X8_279 : am_ml RX8 279 yX8_mark cX8_mark 4 (some .int) 1 := ⟨am_in 1103 (by decide +kernel) rfl, iw_X8, cw_X8_mark, nm_X8_mark.1, nm_X8_mark.2.1, nm_X8_mark.2.2, by decide⟩
set_option maxRecDepth 20000 in
theorem cw_X8_sizeOf : Cond.code yX8_sizeOf cX8_sizeOf 4 (some .int) ∈ am_TB := am_in 1120 (by decide +kernel) rfl
set_option maxRecDepth 20000 in
theorem im_X8_sizeOf : Cond.instanceMethod yX8_sizeOf ∈ am_TB := am_in 1119 (by decide +kernel) rfl
set_option maxRecDepth 20000 in
theorem se_X8_sizeOf : Cond.selects yX8_sizeOf.cls yX8_sizeOf yX8_sizeOf ∈ am_TB := am_in 39 (by decide +kernel) rfl
set_option maxRecDepth 20000 in
theorem nm_X8_sizeOf : yX8_sizeOf.cls ≠ "java/lang/invoke/MethodHandle" ∧ yX8_sizeOf.cls ≠ "java/lang/invoke/VarHandle" ∧ (parseMethodDescriptor yX8_sizeOf.desc).map (fun d => d.parameters.length) = some 1 := by decide +kernel
set_option maxRecDepth 20000 in
theorem ml_X8_286 : am_ml RX8 286 yX8_sizeOf cX8_sizeOf 4 (some .int) 1 := ⟨am_in 1117 (by decide +kernel) rfl, iw_X8, cw_X8_sizeOf, nm_X8_sizeOf.1, nm_X8_sizeOf.2.1, nm_X8_sizeOf.2.2, by decide⟩
set_option maxRecDepth 20000 in
theorem cw_X4_init : Cond.code yX4_init cX4_init 1 none ∈ am_TB := am_in 67 (by decide +kernel) rfl
set_option maxRecDepth 20000 in
theorem im_X4_init : Cond.instanceMethod yX4_init ∈ am_TB := am_in 66 (by decide +kernel) rfl
set_option maxRecDepth 20000 in
theorem nm_X4_init : yX4_init.cls ≠ "java/lang/invoke/MethodHandle" ∧ yX4_init.cls ≠ "java/lang/invoke/VarHandle" ∧ (parseMethodDescriptor yX4_init.desc).map (fun d => d.parameters.length) = some 0 := by decide +kernel
set_option maxRecDepth 20000 in
theorem cw_X6_init : Cond.code yX6_init cX6_init 1 none ∈ am_TB := am_in 91 (by decide +kernel) rfl
set_option maxRecDepth 20000 in
theorem im_X6_init : Cond.instanceMethod yX6_init ∈ am_TB := am_in 90 (by decide +kernel) rfl
set_option maxRecDepth 20000 in
theorem nm_X6_init : yX6_init.cls ≠ "java/lang/invoke/MethodHandle" ∧ yX6_init.cls ≠ "java/lang/invoke/VarHandle" ∧ (parseMethodDescriptor yX6_init.desc).map (fun d => d.parameters.length) = some 0 := by decide +kernel
set_option maxRecDepth 20000 in
theorem cw_X5_init : Cond.code yX5_init cX5_init 1 none ∈ am_TB := am_in 112 (by decide +kernel) rfl
set_option maxRecDepth 20000 in
theorem im_X5_init : Cond.instanceMethod yX5_init ∈ am_TB := am_in 111 (by decide +kernel) rfl
set_option maxRecDepth 20000 in
theorem nm_X5_init : yX5_init.cls ≠ "java/lang/invoke/MethodHandle" ∧ yX5_init.cls ≠ "java/lang/invoke/VarHandle" ∧ (parseMethodDescriptor yX5_init.desc).map (fun d => d.parameters.length) = some 0 := by decide +kernel
set_option maxRecDepth 20000 in
theorem st_max : Cond.static Lib.Math.max.name ∈ am_TB := am_in 423 (by decide +kernel) rfl
set_option maxRecDepth 20000 in
theorem cw_max : Cond.code Lib.Math.max.name Lib.Math.max.code 2 (some .int) ∈ am_TB := am_in 424 (by decide +kernel) rfl
set_option maxRecDepth 20000 in
theorem st_min : Cond.static Lib.Math.min.name ∈ am_TB := am_in 412 (by decide +kernel) rfl
set_option maxRecDepth 20000 in
theorem cw_min : Cond.code Lib.Math.min.name Lib.Math.min.code 2 (some .int) ∈ am_TB := am_in 413 (by decide +kernel) rfl
set_option maxRecDepth 20000 in
theorem st_copy : Cond.static arraycopyName ∈ am_TB := am_in 313 (by decide +kernel) rfl
set_option maxRecDepth 20000 in
theorem nt_copy : Cond.native arraycopyName ∈ am_TB := am_in 314 (by decide +kernel) rfl
set_option maxRecDepth 20000 in
theorem im_obj : Cond.instanceMethod objectInit ∈ am_TB := am_in 60 (by decide +kernel) rfl
set_option maxRecDepth 20000 in
theorem cw_obj : Cond.code objectInit ⟨#[0xb1]⟩ 1 none ∈ am_TB := am_in 61 (by decide +kernel) rfl
set_option maxRecDepth 20000 in
theorem kc_J6_265 : Cond.constant RJ6 265 (nI 1431655765) ∈ am_TB := am_in 447 (by decide +kernel) rfl
set_option maxRecDepth 20000 in
theorem kc_J6_266 : Cond.constant RJ6 266 (nI 858993459) ∈ am_TB := am_in 448 (by decide +kernel) rfl
set_option maxRecDepth 20000 in
theorem kc_J6_267 : Cond.constant RJ6 267 (nI 252645135) ∈ am_TB := am_in 449 (by decide +kernel) rfl
set_option maxRecDepth 20000 in
theorem kc_X2_47 : Cond.constant RX2 47 (-1000000) ∈ am_TB := am_in 518 (by decide +kernel) rfl
set_option maxRecDepth 20000 in
theorem kc_X2_63 : Cond.constant RX2 63 (nI 2147483647) ∈ am_TB := am_in 547 (by decide +kernel) rfl
set_option maxRecDepth 20000 in
theorem kc_X2_99 : Cond.constant RX2 99 (nI 16777216) ∈ am_TB := am_in 560 (by decide +kernel) rfl
set_option maxRecDepth 20000 in
theorem kc_X6_19 : Cond.constant RX6 19 (-1000003) ∈ am_TB := am_in 327 (by decide +kernel) rfl
set_option maxRecDepth 20000 in
theorem kc_X7_75 : Cond.constant RX7 75 (-1000001) ∈ am_TB := am_in 270 (by decide +kernel) rfl
set_option maxRecDepth 20000 in
theorem kc_X7_125 : Cond.constant RX7 125 (-1000100) ∈ am_TB := am_in 374 (by decide +kernel) rfl
set_option maxRecDepth 20000 in
theorem kc_X7_141 : Cond.constant RX7 141 (-1000002) ∈ am_TB := am_in 392 (by decide +kernel) rfl
set_option maxRecDepth 20000 in
theorem kc_X7_152 : Cond.constant RX7 152 (-1000003) ∈ am_TB := am_in 406 (by decide +kernel) rfl
set_option maxRecDepth 20000 in
theorem kc_X7_226 : Cond.constant RX7 226 (nI 2147483647) ∈ am_TB := am_in 566 (by decide +kernel) rfl
set_option maxRecDepth 20000 in
theorem kc_X7_227 : Cond.constant RX7 227 (-1000000) ∈ am_TB := am_in 567 (by decide +kernel) rfl
set_option maxRecDepth 20000 in
theorem kc_X7_269 : Cond.constant RX7 269 (nI 999999) ∈ am_TB := am_in 655 (by decide +kernel) rfl
set_option maxRecDepth 20000 in
theorem kc_X7_302 : Cond.constant RX7 302 (-1000010) ∈ am_TB := am_in 275 (by decide +kernel) rfl
set_option maxRecDepth 20000 in
theorem kc_X8_54 : Cond.constant RX8 54 (-1000010) ∈ am_TB := am_in 837 (by decide +kernel) rfl
set_option maxRecDepth 20000 in
theorem kc_X8_67 : Cond.constant RX8 67 (-1000001) ∈ am_TB := am_in 832 (by decide +kernel) rfl
set_option maxRecDepth 20000 in
theorem kc_X8_80 : Cond.constant RX8 80 (-1000003) ∈ am_TB := am_in 859 (by decide +kernel) rfl
set_option maxRecDepth 20000 in
theorem kc_X8_136 : Cond.constant RX8 136 (-1000100) ∈ am_TB := am_in 902 (by decide +kernel) rfl
set_option maxRecDepth 20000 in
theorem kc_X8_169 : Cond.constant RX8 169 (-1000002) ∈ am_TB := am_in 914 (by decide +kernel) rfl
set_option maxRecDepth 20000 in
theorem kc_X8_216 : Cond.constant RX8 216 (-1000000) ∈ am_TB := am_in 1002 (by decide +kernel) rfl
set_option maxRecDepth 20000 in
theorem kc_X8_220 : Cond.constant RX8 220 (nI 1000000) ∈ am_TB := am_in 1020 (by decide +kernel) rfl
set_option maxRecDepth 20000 in
theorem kl_X2_132 : Cond.constantLong RX2 132 (lN 16807) ∈ am_TB := am_in 660 (by decide +kernel) rfl
set_option maxRecDepth 20000 in
theorem kl_X2_134 : Cond.constantLong RX2 134 (lN 2147483647) ∈ am_TB := am_in 661 (by decide +kernel) rfl
set_option maxRecDepth 20000 in
theorem kl_X2_136 : Cond.constantLong RX2 136 (lN 4) ∈ am_TB := am_in 662 (by decide +kernel) rfl
set_option maxRecDepth 20000 in
theorem kl_X7_261 : Cond.constantLong RX7 261 (-1000001) ∈ am_TB := am_in 634 (by decide +kernel) rfl
set_option maxRecDepth 20000 in
theorem kl_X8_55 : Cond.constantLong RX8 55 (lN 7) ∈ am_TB := am_in 827 (by decide +kernel) rfl
set_option maxRecDepth 20000 in
theorem kl_X8_65 : Cond.constantLong RX8 65 (lN 2) ∈ am_TB := am_in 831 (by decide +kernel) rfl
set_option maxRecDepth 20000 in
theorem kl_X8_75 : Cond.constantLong RX8 75 (lN 255) ∈ am_TB := am_in 858 (by decide +kernel) rfl
set_option maxRecDepth 20000 in
theorem kl_X8_81 : Cond.constantLong RX8 81 (lN 48) ∈ am_TB := am_in 881 (by decide +kernel) rfl
set_option maxRecDepth 20000 in
theorem kl_X8_83 : Cond.constantLong RX8 83 (lN 57) ∈ am_TB := am_in 882 (by decide +kernel) rfl
set_option maxRecDepth 20000 in
theorem kl_X8_94 : Cond.constantLong RX8 94 (lN 97) ∈ am_TB := am_in 876 (by decide +kernel) rfl
set_option maxRecDepth 20000 in
theorem kl_X8_96 : Cond.constantLong RX8 96 (lN 122) ∈ am_TB := am_in 877 (by decide +kernel) rfl
set_option maxRecDepth 20000 in
theorem kl_X8_148 : Cond.constantLong RX8 148 (lN 9) ∈ am_TB := am_in 983 (by decide +kernel) rfl
set_option maxRecDepth 20000 in
theorem kl_X8_170 : Cond.constantLong RX8 170 (lN 24) ∈ am_TB := am_in 919 (by decide +kernel) rfl
set_option maxRecDepth 20000 in
theorem kl_X8_189 : Cond.constantLong RX8 189 (lN 20) ∈ am_TB := am_in 950 (by decide +kernel) rfl
set_option maxRecDepth 20000 in
theorem kl_X8_195 : Cond.constantLong RX8 195 (lN 60) ∈ am_TB := am_in 964 (by decide +kernel) rfl
set_option maxRecDepth 20000 in
theorem kl_X8_197 : Cond.constantLong RX8 197 (lN 3) ∈ am_TB := am_in 969 (by decide +kernel) rfl
set_option maxRecDepth 20000 in
theorem kl_X8_199 : Cond.constantLong RX8 199 (lN 4) ∈ am_TB := am_in 970 (by decide +kernel) rfl
set_option maxRecDepth 20000 in
theorem kl_X8_201 : Cond.constantLong RX8 201 (lN 5) ∈ am_TB := am_in 975 (by decide +kernel) rfl
set_option maxRecDepth 20000 in
theorem kl_X8_225 : Cond.constantLong RX8 225 (lN 12) ∈ am_TB := am_in 1015 (by decide +kernel) rfl
set_option maxRecDepth 20000 in
theorem kl_X8_231 : Cond.constantLong RX8 231 (lN 8) ∈ am_TB := am_in 1032 (by decide +kernel) rfl
set_option maxRecDepth 20000 in
theorem kl_X8_236 : Cond.constantLong RX8 236 (lN 6) ∈ am_TB := am_in 1041 (by decide +kernel) rfl
set_option maxRecDepth 20000 in
theorem kl_X8_245 : Cond.constantLong RX8 245 (lN 10) ∈ am_TB := am_in 1070 (by decide +kernel) rfl
set_option maxRecDepth 20000 in
theorem kl_X8_247 : Cond.constantLong RX8 247 (-1000001) ∈ am_TB := am_in 1071 (by decide +kernel) rfl
set_option maxRecDepth 20000 in
theorem kl_X8_249 : Cond.constantLong RX8 249 (lN 10000) ∈ am_TB := am_in 1072 (by decide +kernel) rfl
set_option maxRecDepth 20000 in
theorem kl_X8_251 : Cond.constantLong RX8 251 (lN 999999) ∈ am_TB := am_in 1077 (by decide +kernel) rfl
set_option maxRecDepth 20000 in
theorem kl_X8_253 : Cond.constantLong RX8 253 (lN 16807) ∈ am_TB := am_in 1078 (by decide +kernel) rfl
set_option maxRecDepth 20000 in
theorem kl_X8_255 : Cond.constantLong RX8 255 (lN 2147483647) ∈ am_TB := am_in 1079 (by decide +kernel) rfl
set_option maxRecDepth 20000 in
theorem kl_X8_260 : Cond.constantLong RX8 260 (lN 100) ∈ am_TB := am_in 1114 (by decide +kernel) rfl
set_option maxRecDepth 20000 in
theorem kl_X8_265 : Cond.constantLong RX8 265 (lN 242120) ∈ am_TB := am_in 1107 (by decide +kernel) rfl
set_option maxRecDepth 20000 in
theorem kl_X8_267 : Cond.constantLong RX8 267 (lN 222120) ∈ am_TB := am_in 1108 (by decide +kernel) rfl
set_option maxRecDepth 20000 in
theorem kl_X8_269 : Cond.constantLong RX8 269 (lN 2120) ∈ am_TB := am_in 1109 (by decide +kernel) rfl
set_option maxRecDepth 20000 in
theorem kl_X8_275 : Cond.constantLong RX8 275 (lN 141310) ∈ am_TB := am_in 1121 (by decide +kernel) rfl
set_option maxRecDepth 20000 in
theorem kl_X8_277 : Cond.constantLong RX8 277 (lN 1310) ∈ am_TB := am_in 1122 (by decide +kernel) rfl
set_option maxRecDepth 20000 in
theorem kl_X8_282 : Cond.constantLong RX8 282 (lN 121110) ∈ am_TB := am_in 1115 (by decide +kernel) rfl
set_option maxRecDepth 20000 in
theorem kl_X8_284 : Cond.constantLong RX8 284 (lN 1110) ∈ am_TB := am_in 1116 (by decide +kernel) rfl
set_option maxRecDepth 20000 in
theorem kl_X8_289 : Cond.constantLong RX8 289 (lN 2320) ∈ am_TB := am_in 1123 (by decide +kernel) rfl
set_option maxRecDepth 20000 in
theorem cl_L_7 : Cond.classLink RL 7 RX7 ∈ am_TB := am_in 54 (by decide +kernel) rfl
set_option maxRecDepth 20000 in
theorem cl_L_10 : Cond.classLink RL 10 RX8 ∈ am_TB := am_in 740 (by decide +kernel) rfl
set_option maxRecDepth 20000 in
theorem cl_X0_9 : Cond.classLink RX0 9 RX5 ∈ am_TB := am_in 168 (by decide +kernel) rfl
set_option maxRecDepth 20000 in
theorem cl_X2_1 : Cond.classLink RX2 1 RX5 ∈ am_TB := am_in 188 (by decide +kernel) rfl
set_option maxRecDepth 20000 in
theorem cl_X2_25 : Cond.classLink RX2 25 "[[I" ∈ am_TB := am_in 190 (by decide +kernel) rfl
set_option maxRecDepth 20000 in
theorem cl_X7_9 : Cond.classLink RX7 9 RX4 ∈ am_TB := am_in 62 (by decide +kernel) rfl
set_option maxRecDepth 20000 in
theorem cl_X7_16 : Cond.classLink RX7 16 RX6 ∈ am_TB := am_in 87 (by decide +kernel) rfl
set_option maxRecDepth 20000 in
theorem cl_X7_23 : Cond.classLink RX7 23 RX5 ∈ am_TB := am_in 108 (by decide +kernel) rfl
set_option maxRecDepth 20000 in
theorem cl_X7_33 : Cond.classLink RX7 33 RX0 ∈ am_TB := am_in 162 (by decide +kernel) rfl
set_option maxRecDepth 20000 in
theorem cl_X7_44 : Cond.classLink RX7 44 RX2 ∈ am_TB := am_in 182 (by decide +kernel) rfl
set_option maxRecDepth 20000 in
theorem cl_X7_53 : Cond.classLink RX7 53 RX1 ∈ am_TB := am_in 211 (by decide +kernel) rfl
set_option maxRecDepth 20000 in
theorem ac_int : Cond.arrayClass .int ∈ am_TB := am_in 86 (by decide +kernel) rfl
set_option maxRecDepth 20000 in
theorem ac_boolean : Cond.arrayClass .boolean ∈ am_TB := am_in 819 (by decide +kernel) rfl
set_option maxRecDepth 20000 in
theorem nb_X7 : Cond.instantiable RX7 10 ∈ am_TB := am_in 55 (by decide +kernel) rfl
set_option maxRecDepth 20000 in
theorem nb_X4 : Cond.instantiable RX4 4 ∈ am_TB := am_in 64 (by decide +kernel) rfl
set_option maxRecDepth 20000 in
theorem nb_X6 : Cond.instantiable RX6 4 ∈ am_TB := am_in 88 (by decide +kernel) rfl
set_option maxRecDepth 20000 in
theorem nb_X5 : Cond.instantiable RX5 9 ∈ am_TB := am_in 109 (by decide +kernel) rfl
set_option maxRecDepth 20000 in
theorem nb_X0 : Cond.instantiable RX0 3 ∈ am_TB := am_in 163 (by decide +kernel) rfl
set_option maxRecDepth 20000 in
theorem nb_X2 : Cond.instantiable RX2 5 ∈ am_TB := am_in 183 (by decide +kernel) rfl
set_option maxRecDepth 20000 in
theorem nb_X1 : Cond.instantiable RX1 3 ∈ am_TB := am_in 212 (by decide +kernel) rfl
set_option maxRecDepth 20000 in
theorem nb_X8 : Cond.instantiable RX8 24 ∈ am_TB := am_in 741 (by decide +kernel) rfl
end
section
theorem dX0_init_0 : decode cX0_init 0 = .ok (.aload_n 0, 1) := by decide +kernel
theorem dX0_init_1 : decode cX0_init 1 = .ok (.invokespecial 1, 3) := by decide +kernel
theorem dX0_init_4 : decode cX0_init 4 = .ok (.aload_n 0, 1) := by decide +kernel
theorem dX0_init_5 : decode cX0_init 5 = .ok (.bipush 24, 2) := by decide +kernel
theorem dX0_init_7 : decode cX0_init 7 = .ok (.anewarray 9, 3) := by decide +kernel
theorem dX0_init_10 : decode cX0_init 10 = .ok (.putfield 11, 3) := by decide +kernel
theorem dX0_init_13 : decode cX0_init 13 = .ok (.iconst 0, 1) := by decide +kernel
theorem dX0_init_14 : decode cX0_init 14 = .ok (.istore_n 1, 1) := by decide +kernel
theorem dX0_init_15 : decode cX0_init 15 = .ok (.iload_n 1, 1) := by decide +kernel
theorem dX0_init_16 : decode cX0_init 16 = .ok (.bipush 24, 2) := by decide +kernel
theorem dX0_init_18 : decode cX0_init 18 = .ok (.if_icmp .ge 22, 3) := by decide +kernel
theorem dX0_init_21 : decode cX0_init 21 = .ok (.aload_n 0, 1) := by decide +kernel
theorem dX0_init_22 : decode cX0_init 22 = .ok (.getfield 11, 3) := by decide +kernel
theorem dX0_init_25 : decode cX0_init 25 = .ok (.iload_n 1, 1) := by decide +kernel
theorem dX0_init_26 : decode cX0_init 26 = .ok (.new 9, 3) := by decide +kernel
theorem dX0_init_29 : decode cX0_init 29 = .ok (.dup, 1) := by decide +kernel
theorem dX0_init_30 : decode cX0_init 30 = .ok (.invokespecial 15, 3) := by decide +kernel
theorem dX0_init_33 : decode cX0_init 33 = .ok (.aastore, 1) := by decide +kernel
theorem dX0_init_34 : decode cX0_init 34 = .ok (.iinc 1 1, 3) := by decide +kernel
theorem dX0_init_37 : decode cX0_init 37 = .ok (.goto (-22), 3) := by decide +kernel
theorem dX0_init_40 : decode cX0_init 40 = .ok (.return_, 1) := by decide +kernel
theorem dX0_forget_0 : decode cX0_forget 0 = .ok (.aload_n 0, 1) := by decide +kernel
theorem dX0_forget_1 : decode cX0_forget 1 = .ok (.iconst 0, 1) := by decide +kernel
theorem dX0_forget_2 : decode cX0_forget 2 = .ok (.putfield 16, 3) := by decide +kernel
theorem dX0_forget_5 : decode cX0_forget 5 = .ok (.return_, 1) := by decide +kernel
theorem dX0_keep_0 : decode cX0_keep 0 = .ok (.aload_n 0, 1) := by decide +kernel
theorem dX0_keep_1 : decode cX0_keep 1 = .ok (.aload_n 0, 1) := by decide +kernel
theorem dX0_keep_2 : decode cX0_keep 2 = .ok (.getfield 20, 3) := by decide +kernel
theorem dX0_keep_5 : decode cX0_keep 5 = .ok (.bipush 23, 2) := by decide +kernel
theorem dX0_keep_7 : decode cX0_keep 7 = .ok (.if_icmp .ge 12, 3) := by decide +kernel
theorem dX0_keep_10 : decode cX0_keep 10 = .ok (.aload_n 0, 1) := by decide +kernel
theorem dX0_keep_11 : decode cX0_keep 11 = .ok (.getfield 20, 3) := by decide +kernel
theorem dX0_keep_14 : decode cX0_keep 14 = .ok (.iconst 1, 1) := by decide +kernel
theorem dX0_keep_15 : decode cX0_keep 15 = .ok (.iadd, 1) := by decide +kernel
theorem dX0_keep_16 : decode cX0_keep 16 = .ok (.goto 4, 3) := by decide +kernel
theorem dX0_keep_19 : decode cX0_keep 19 = .ok (.iconst 0, 1) := by decide +kernel
theorem dX0_keep_20 : decode cX0_keep 20 = .ok (.putfield 20, 3) := by decide +kernel
theorem dX0_keep_23 : decode cX0_keep 23 = .ok (.aload_n 0, 1) := by decide +kernel
theorem dX0_keep_24 : decode cX0_keep 24 = .ok (.getfield 11, 3) := by decide +kernel
theorem dX0_keep_27 : decode cX0_keep 27 = .ok (.aload_n 0, 1) := by decide +kernel
theorem dX0_keep_28 : decode cX0_keep 28 = .ok (.getfield 20, 3) := by decide +kernel
theorem dX0_keep_31 : decode cX0_keep 31 = .ok (.aaload, 1) := by decide +kernel
theorem dX0_keep_32 : decode cX0_keep 32 = .ok (.aload_n 1, 1) := by decide +kernel
theorem dX0_keep_33 : decode cX0_keep 33 = .ok (.invokevirtual 23, 3) := by decide +kernel
theorem dX0_keep_36 : decode cX0_keep 36 = .ok (.aload_n 0, 1) := by decide +kernel
theorem dX0_keep_37 : decode cX0_keep 37 = .ok (.bipush 24, 2) := by decide +kernel
theorem dX0_keep_39 : decode cX0_keep 39 = .ok (.aload_n 0, 1) := by decide +kernel
theorem dX0_keep_40 : decode cX0_keep 40 = .ok (.getfield 16, 3) := by decide +kernel
theorem dX0_keep_43 : decode cX0_keep 43 = .ok (.iconst 1, 1) := by decide +kernel
theorem dX0_keep_44 : decode cX0_keep 44 = .ok (.iadd, 1) := by decide +kernel
theorem dX0_keep_45 : decode cX0_keep 45 = .ok (.invokestatic 27, 3) := by decide +kernel
theorem dX0_keep_48 : decode cX0_keep 48 = .ok (.putfield 16, 3) := by decide +kernel
theorem dX0_keep_51 : decode cX0_keep 51 = .ok (.return_, 1) := by decide +kernel
theorem dX0_takeBack_0 : decode cX0_takeBack 0 = .ok (.aload_n 1, 1) := by decide +kernel
theorem dX0_takeBack_1 : decode cX0_takeBack 1 = .ok (.aload_n 0, 1) := by decide +kernel
theorem dX0_takeBack_2 : decode cX0_takeBack 2 = .ok (.getfield 11, 3) := by decide +kernel
theorem dX0_takeBack_5 : decode cX0_takeBack 5 = .ok (.aload_n 0, 1) := by decide +kernel
theorem dX0_takeBack_6 : decode cX0_takeBack 6 = .ok (.getfield 20, 3) := by decide +kernel
theorem dX0_takeBack_9 : decode cX0_takeBack 9 = .ok (.aaload, 1) := by decide +kernel
theorem dX0_takeBack_10 : decode cX0_takeBack 10 = .ok (.invokevirtual 23, 3) := by decide +kernel
theorem dX0_takeBack_13 : decode cX0_takeBack 13 = .ok (.aload_n 0, 1) := by decide +kernel
theorem dX0_takeBack_14 : decode cX0_takeBack 14 = .ok (.aload_n 0, 1) := by decide +kernel
theorem dX0_takeBack_15 : decode cX0_takeBack 15 = .ok (.getfield 20, 3) := by decide +kernel
theorem dX0_takeBack_18 : decode cX0_takeBack 18 = .ok (.ifCond .le 12, 3) := by decide +kernel
theorem dX0_takeBack_21 : decode cX0_takeBack 21 = .ok (.aload_n 0, 1) := by decide +kernel
theorem dX0_takeBack_22 : decode cX0_takeBack 22 = .ok (.getfield 20, 3) := by decide +kernel
theorem dX0_takeBack_25 : decode cX0_takeBack 25 = .ok (.iconst 1, 1) := by decide +kernel
theorem dX0_takeBack_26 : decode cX0_takeBack 26 = .ok (.isub, 1) := by decide +kernel
theorem dX0_takeBack_27 : decode cX0_takeBack 27 = .ok (.goto 5, 3) := by decide +kernel
theorem dX0_takeBack_30 : decode cX0_takeBack 30 = .ok (.bipush 23, 2) := by decide +kernel
theorem dX0_takeBack_32 : decode cX0_takeBack 32 = .ok (.putfield 20, 3) := by decide +kernel
theorem dX0_takeBack_35 : decode cX0_takeBack 35 = .ok (.aload_n 0, 1) := by decide +kernel
theorem dX0_takeBack_36 : decode cX0_takeBack 36 = .ok (.dup, 1) := by decide +kernel
theorem dX0_takeBack_37 : decode cX0_takeBack 37 = .ok (.getfield 16, 3) := by decide +kernel
theorem dX0_takeBack_40 : decode cX0_takeBack 40 = .ok (.iconst 1, 1) := by decide +kernel
theorem dX0_takeBack_41 : decode cX0_takeBack 41 = .ok (.isub, 1) := by decide +kernel
theorem dX0_takeBack_42 : decode cX0_takeBack 42 = .ok (.putfield 16, 3) := by decide +kernel
theorem dX0_takeBack_45 : decode cX0_takeBack 45 = .ok (.aload_n 0, 1) := by decide +kernel
theorem dX0_takeBack_46 : decode cX0_takeBack 46 = .ok (.getfield 16, 3) := by decide +kernel
theorem dX0_takeBack_49 : decode cX0_takeBack 49 = .ok (.ireturn, 1) := by decide +kernel
theorem dX1_init_0 : decode cX1_init 0 = .ok (.aload_n 0, 1) := by decide +kernel
theorem dX1_init_1 : decode cX1_init 1 = .ok (.invokespecial 1, 3) := by decide +kernel
theorem dX1_init_4 : decode cX1_init 4 = .ok (.aload_n 0, 1) := by decide +kernel
theorem dX1_init_5 : decode cX1_init 5 = .ok (.bipush 16, 2) := by decide +kernel
theorem dX1_init_7 : decode cX1_init 7 = .ok (.newarray .int, 2) := by decide +kernel
theorem dX1_init_9 : decode cX1_init 9 = .ok (.putfield 9, 3) := by decide +kernel
theorem dX1_init_12 : decode cX1_init 12 = .ok (.aload_n 0, 1) := by decide +kernel
theorem dX1_init_13 : decode cX1_init 13 = .ok (.aload_n 1, 1) := by decide +kernel
theorem dX1_init_14 : decode cX1_init 14 = .ok (.putfield 13, 3) := by decide +kernel
theorem dX1_init_17 : decode cX1_init 17 = .ok (.return_, 1) := by decide +kernel
theorem dX1_begin_0 : decode cX1_begin 0 = .ok (.aload_n 0, 1) := by decide +kernel
theorem dX1_begin_1 : decode cX1_begin 1 = .ok (.iconst 0, 1) := by decide +kernel
theorem dX1_begin_2 : decode cX1_begin 2 = .ok (.putfield 17, 3) := by decide +kernel
theorem dX1_begin_5 : decode cX1_begin 5 = .ok (.aload_n 0, 1) := by decide +kernel
theorem dX1_begin_6 : decode cX1_begin 6 = .ok (.aload_n 0, 1) := by decide +kernel
theorem dX1_begin_7 : decode cX1_begin 7 = .ok (.iload_n 1, 1) := by decide +kernel
theorem dX1_begin_8 : decode cX1_begin 8 = .ok (.iload_n 2, 1) := by decide +kernel
theorem dX1_begin_9 : decode cX1_begin 9 = .ok (.invokevirtual 21, 3) := by decide +kernel
theorem dX1_begin_12 : decode cX1_begin 12 = .ok (.iload_n 1, 1) := by decide +kernel
theorem dX1_begin_13 : decode cX1_begin 13 = .ok (.iconst 0, 1) := by decide +kernel
theorem dX1_begin_14 : decode cX1_begin 14 = .ok (.invokevirtual 25, 3) := by decide +kernel
theorem dX1_begin_17 : decode cX1_begin 17 = .ok (.ireturn, 1) := by decide +kernel
theorem dX1_bodyFor_0 : decode cX1_bodyFor 0 = .ok (.aload_n 0, 1) := by decide +kernel
theorem dX1_bodyFor_1 : decode cX1_bodyFor 1 = .ok (.getfield 13, 3) := by decide +kernel
theorem dX1_bodyFor_4 : decode cX1_bodyFor 4 = .ok (.getfield 29, 3) := by decide +kernel
theorem dX1_bodyFor_7 : decode cX1_bodyFor 7 = .ok (.iload_n 1, 1) := by decide +kernel
theorem dX1_bodyFor_8 : decode cX1_bodyFor 8 = .ok (.iaload, 1) := by decide +kernel
theorem dX1_bodyFor_9 : decode cX1_bodyFor 9 = .ok (.istore_n 3, 1) := by decide +kernel
theorem dX1_bodyFor_10 : decode cX1_bodyFor 10 = .ok (.iconst 0, 1) := by decide +kernel
theorem dX1_bodyFor_11 : decode cX1_bodyFor 11 = .ok (.istore 4, 2) := by decide +kernel
theorem dX1_bodyFor_13 : decode cX1_bodyFor 13 = .ok (.iload 4, 2) := by decide +kernel
theorem dX1_bodyFor_15 : decode cX1_bodyFor 15 = .ok (.bipush 6, 2) := by decide +kernel
theorem dX1_bodyFor_17 : decode cX1_bodyFor 17 = .ok (.if_icmp .ge 22, 3) := by decide +kernel
theorem dX1_bodyFor_20 : decode cX1_bodyFor 20 = .ok (.iload_n 3, 1) := by decide +kernel
theorem dX1_bodyFor_21 : decode cX1_bodyFor 21 = .ok (.iload_n 2, 1) := by decide +kernel
theorem dX1_bodyFor_22 : decode cX1_bodyFor 22 = .ok (.invokestatic 36, 3) := by decide +kernel
theorem dX1_bodyFor_25 : decode cX1_bodyFor 25 = .ok (.ifCond .ne 14, 3) := by decide +kernel
theorem dX1_bodyFor_28 : decode cX1_bodyFor 28 = .ok (.iload_n 3, 1) := by decide +kernel
theorem dX1_bodyFor_29 : decode cX1_bodyFor 29 = .ok (.invokestatic 39, 3) := by decide +kernel
theorem dX1_bodyFor_32 : decode cX1_bodyFor 32 = .ok (.istore_n 3, 1) := by decide +kernel
theorem dX1_bodyFor_33 : decode cX1_bodyFor 33 = .ok (.iinc 4 1, 3) := by decide +kernel
theorem dX1_bodyFor_36 : decode cX1_bodyFor 36 = .ok (.goto (-23), 3) := by decide +kernel
theorem dX1_bodyFor_39 : decode cX1_bodyFor 39 = .ok (.iload_n 3, 1) := by decide +kernel
theorem dX1_bodyFor_40 : decode cX1_bodyFor 40 = .ok (.iload_n 2, 1) := by decide +kernel
theorem dX1_bodyFor_41 : decode cX1_bodyFor 41 = .ok (.invokestatic 36, 3) := by decide +kernel
theorem dX1_bodyFor_44 : decode cX1_bodyFor 44 = .ok (.ireturn, 1) := by decide +kernel
theorem dX1_toldBody_0 : decode cX1_toldBody 0 = .ok (.iload_n 0, 1) := by decide +kernel
theorem dX1_toldBody_1 : decode cX1_toldBody 1 = .ok (.ifCond .lt 9, 3) := by decide +kernel
theorem dX1_toldBody_4 : decode cX1_toldBody 4 = .ok (.iload_n 0, 1) := by decide +kernel
theorem dX1_toldBody_5 : decode cX1_toldBody 5 = .ok (.bipush 6, 2) := by decide +kernel
theorem dX1_toldBody_7 : decode cX1_toldBody 7 = .ok (.if_icmp .lt 5, 3) := by decide +kernel
theorem dX1_toldBody_10 : decode cX1_toldBody 10 = .ok (.iconst 0, 1) := by decide +kernel
theorem dX1_toldBody_11 : decode cX1_toldBody 11 = .ok (.ireturn, 1) := by decide +kernel
theorem dX1_toldBody_12 : decode cX1_toldBody 12 = .ok (.iload_n 1, 1) := by decide +kernel
theorem dX1_toldBody_13 : decode cX1_toldBody 13 = .ok (.ifCond .ne 11, 3) := by decide +kernel
theorem dX1_toldBody_16 : decode cX1_toldBody 16 = .ok (.getstatic 43, 3) := by decide +kernel
theorem dX1_toldBody_19 : decode cX1_toldBody 19 = .ok (.iload_n 0, 1) := by decide +kernel
theorem dX1_toldBody_20 : decode cX1_toldBody 20 = .ok (.iaload, 1) := by decide +kernel
theorem dX1_toldBody_21 : decode cX1_toldBody 21 = .ok (.goto 8, 3) := by decide +kernel
theorem dX1_toldBody_24 : decode cX1_toldBody 24 = .ok (.getstatic 46, 3) := by decide +kernel
theorem dX1_toldBody_27 : decode cX1_toldBody 27 = .ok (.iload_n 0, 1) := by decide +kernel
theorem dX1_toldBody_28 : decode cX1_toldBody 28 = .ok (.iaload, 1) := by decide +kernel
theorem dX1_toldBody_29 : decode cX1_toldBody 29 = .ok (.ireturn, 1) := by decide +kernel
theorem dX1_give_0 : decode cX1_give 0 = .ok (.iload_n 3, 1) := by decide +kernel
theorem dX1_give_1 : decode cX1_give 1 = .ok (.bipush 20, 2) := by decide +kernel
theorem dX1_give_3 : decode cX1_give 3 = .ok (.if_icmp .le 5, 3) := by decide +kernel
theorem dX1_give_6 : decode cX1_give 6 = .ok (.iconst 0, 1) := by decide +kernel
theorem dX1_give_7 : decode cX1_give 7 = .ok (.ireturn, 1) := by decide +kernel
theorem dX1_give_8 : decode cX1_give 8 = .ok (.aload_n 0, 1) := by decide +kernel
theorem dX1_give_9 : decode cX1_give 9 = .ok (.iload_n 1, 1) := by decide +kernel
theorem dX1_give_10 : decode cX1_give 10 = .ok (.invokevirtual 49, 3) := by decide +kernel
theorem dX1_give_13 : decode cX1_give 13 = .ok (.iload_n 3, 1) := by decide +kernel
theorem dX1_give_14 : decode cX1_give 14 = .ok (.iconst 1, 1) := by decide +kernel
theorem dX1_give_15 : decode cX1_give 15 = .ok (.iadd, 1) := by decide +kernel
theorem dX1_give_16 : decode cX1_give 16 = .ok (.istore 4, 2) := by decide +kernel
theorem dX1_give_18 : decode cX1_give 18 = .ok (.iload_n 1, 1) := by decide +kernel
theorem dX1_give_19 : decode cX1_give 19 = .ok (.tableswitch 215 10 24 #[73, 83, 107, 118, 131, 215, 215, 215, 215, 215, 143, 145, 165, 179, 203], 73) := by decide +kernel
theorem dX1_give_92 : decode cX1_give 92 = .ok (.aload_n 0, 1) := by decide +kernel
theorem dX1_give_93 : decode cX1_give 93 = .ok (.getfield 13, 3) := by decide +kernel
theorem dX1_give_96 : decode cX1_give 96 = .ok (.getfield 53, 3) := by decide +kernel
theorem dX1_give_99 : decode cX1_give 99 = .ok (.iload_n 2, 1) := by decide +kernel
theorem dX1_give_100 : decode cX1_give 100 = .ok (.iaload, 1) := by decide +kernel
theorem dX1_give_101 : decode cX1_give 101 = .ok (.ireturn, 1) := by decide +kernel
theorem dX1_give_102 : decode cX1_give 102 = .ok (.aload_n 0, 1) := by decide +kernel
theorem dX1_give_103 : decode cX1_give 103 = .ok (.bipush 10, 2) := by decide +kernel
theorem dX1_give_105 : decode cX1_give 105 = .ok (.iload_n 2, 1) := by decide +kernel
theorem dX1_give_106 : decode cX1_give 106 = .ok (.iload 4, 2) := by decide +kernel
theorem dX1_give_108 : decode cX1_give 108 = .ok (.invokevirtual 25, 3) := by decide +kernel
theorem dX1_give_111 : decode cX1_give 111 = .ok (.aload_n 0, 1) := by decide +kernel
theorem dX1_give_112 : decode cX1_give 112 = .ok (.aload_n 0, 1) := by decide +kernel
theorem dX1_give_113 : decode cX1_give 113 = .ok (.iload_n 2, 1) := by decide +kernel
theorem dX1_give_114 : decode cX1_give 114 = .ok (.iconst 1, 1) := by decide +kernel
theorem dX1_give_115 : decode cX1_give 115 = .ok (.invokevirtual 21, 3) := by decide +kernel
theorem dX1_give_118 : decode cX1_give 118 = .ok (.iload_n 2, 1) := by decide +kernel
theorem dX1_give_119 : decode cX1_give 119 = .ok (.iload 4, 2) := by decide +kernel
theorem dX1_give_121 : decode cX1_give 121 = .ok (.invokevirtual 25, 3) := by decide +kernel
theorem dX1_give_124 : decode cX1_give 124 = .ok (.iadd, 1) := by decide +kernel
theorem dX1_give_125 : decode cX1_give 125 = .ok (.ireturn, 1) := by decide +kernel
theorem dX1_give_126 : decode cX1_give 126 = .ok (.aload_n 0, 1) := by decide +kernel
theorem dX1_give_127 : decode cX1_give 127 = .ok (.bipush 11, 2) := by decide +kernel
theorem dX1_give_129 : decode cX1_give 129 = .ok (.iload_n 2, 1) := by decide +kernel
theorem dX1_give_130 : decode cX1_give 130 = .ok (.iload 4, 2) := by decide +kernel
theorem dX1_give_132 : decode cX1_give 132 = .ok (.invokevirtual 25, 3) := by decide +kernel
theorem dX1_give_135 : decode cX1_give 135 = .ok (.ineg, 1) := by decide +kernel
theorem dX1_give_136 : decode cX1_give 136 = .ok (.ireturn, 1) := by decide +kernel
theorem dX1_give_137 : decode cX1_give 137 = .ok (.aload_n 0, 1) := by decide +kernel
theorem dX1_give_138 : decode cX1_give 138 = .ok (.bipush 10, 2) := by decide +kernel
theorem dX1_give_140 : decode cX1_give 140 = .ok (.iload_n 2, 1) := by decide +kernel
theorem dX1_give_141 : decode cX1_give 141 = .ok (.iload 4, 2) := by decide +kernel
theorem dX1_give_143 : decode cX1_give 143 = .ok (.invokevirtual 25, 3) := by decide +kernel
theorem dX1_give_146 : decode cX1_give 146 = .ok (.bipush 100, 2) := by decide +kernel
theorem dX1_give_148 : decode cX1_give 148 = .ok (.isub, 1) := by decide +kernel
theorem dX1_give_149 : decode cX1_give 149 = .ok (.ireturn, 1) := by decide +kernel
theorem dX1_give_150 : decode cX1_give 150 = .ok (.aload_n 0, 1) := by decide +kernel
theorem dX1_give_151 : decode cX1_give 151 = .ok (.bipush 13, 2) := by decide +kernel
theorem dX1_give_153 : decode cX1_give 153 = .ok (.iload_n 2, 1) := by decide +kernel
theorem dX1_give_154 : decode cX1_give 154 = .ok (.iload 4, 2) := by decide +kernel
theorem dX1_give_156 : decode cX1_give 156 = .ok (.invokevirtual 25, 3) := by decide +kernel
theorem dX1_give_159 : decode cX1_give 159 = .ok (.iconst 2, 1) := by decide +kernel
theorem dX1_give_160 : decode cX1_give 160 = .ok (.imul, 1) := by decide +kernel
theorem dX1_give_161 : decode cX1_give 161 = .ok (.ireturn, 1) := by decide +kernel
theorem dX1_give_162 : decode cX1_give 162 = .ok (.iload_n 2, 1) := by decide +kernel
theorem dX1_give_163 : decode cX1_give 163 = .ok (.ireturn, 1) := by decide +kernel
theorem dX1_give_164 : decode cX1_give 164 = .ok (.aload_n 0, 1) := by decide +kernel
theorem dX1_give_165 : decode cX1_give 165 = .ok (.bipush 20, 2) := by decide +kernel
theorem dX1_give_167 : decode cX1_give 167 = .ok (.iload_n 2, 1) := by decide +kernel
theorem dX1_give_168 : decode cX1_give 168 = .ok (.iload 4, 2) := by decide +kernel
theorem dX1_give_170 : decode cX1_give 170 = .ok (.invokevirtual 25, 3) := by decide +kernel
theorem dX1_give_173 : decode cX1_give 173 = .ok (.aload_n 0, 1) := by decide +kernel
theorem dX1_give_174 : decode cX1_give 174 = .ok (.getfield 13, 3) := by decide +kernel
theorem dX1_give_177 : decode cX1_give 177 = .ok (.getfield 56, 3) := by decide +kernel
theorem dX1_give_180 : decode cX1_give 180 = .ok (.iload_n 2, 1) := by decide +kernel
theorem dX1_give_181 : decode cX1_give 181 = .ok (.iaload, 1) := by decide +kernel
theorem dX1_give_182 : decode cX1_give 182 = .ok (.iadd, 1) := by decide +kernel
theorem dX1_give_183 : decode cX1_give 183 = .ok (.ireturn, 1) := by decide +kernel
theorem dX1_give_184 : decode cX1_give 184 = .ok (.aload_n 0, 1) := by decide +kernel
theorem dX1_give_185 : decode cX1_give 185 = .ok (.bipush 21, 2) := by decide +kernel
theorem dX1_give_187 : decode cX1_give 187 = .ok (.iload_n 2, 1) := by decide +kernel
theorem dX1_give_188 : decode cX1_give 188 = .ok (.iload 4, 2) := by decide +kernel
theorem dX1_give_190 : decode cX1_give 190 = .ok (.invokevirtual 25, 3) := by decide +kernel
theorem dX1_give_193 : decode cX1_give 193 = .ok (.sipush 1000, 3) := by decide +kernel
theorem dX1_give_196 : decode cX1_give 196 = .ok (.isub, 1) := by decide +kernel
theorem dX1_give_197 : decode cX1_give 197 = .ok (.ireturn, 1) := by decide +kernel
theorem dX1_give_198 : decode cX1_give 198 = .ok (.aload_n 0, 1) := by decide +kernel
theorem dX1_give_199 : decode cX1_give 199 = .ok (.bipush 20, 2) := by decide +kernel
theorem dX1_give_201 : decode cX1_give 201 = .ok (.iload_n 2, 1) := by decide +kernel
theorem dX1_give_202 : decode cX1_give 202 = .ok (.iload 4, 2) := by decide +kernel
theorem dX1_give_204 : decode cX1_give 204 = .ok (.invokevirtual 25, 3) := by decide +kernel
theorem dX1_give_207 : decode cX1_give 207 = .ok (.aload_n 0, 1) := by decide +kernel
theorem dX1_give_208 : decode cX1_give 208 = .ok (.aload_n 0, 1) := by decide +kernel
theorem dX1_give_209 : decode cX1_give 209 = .ok (.iload_n 2, 1) := by decide +kernel
theorem dX1_give_210 : decode cX1_give 210 = .ok (.iconst 0, 1) := by decide +kernel
theorem dX1_give_211 : decode cX1_give 211 = .ok (.invokevirtual 21, 3) := by decide +kernel
theorem dX1_give_214 : decode cX1_give 214 = .ok (.iload_n 2, 1) := by decide +kernel
theorem dX1_give_215 : decode cX1_give 215 = .ok (.iload 4, 2) := by decide +kernel
theorem dX1_give_217 : decode cX1_give 217 = .ok (.invokevirtual 25, 3) := by decide +kernel
theorem dX1_give_220 : decode cX1_give 220 = .ok (.isub, 1) := by decide +kernel
theorem dX1_give_221 : decode cX1_give 221 = .ok (.ireturn, 1) := by decide +kernel
theorem dX1_give_222 : decode cX1_give 222 = .ok (.aload_n 0, 1) := by decide +kernel
theorem dX1_give_223 : decode cX1_give 223 = .ok (.bipush 21, 2) := by decide +kernel
theorem dX1_give_225 : decode cX1_give 225 = .ok (.iload_n 2, 1) := by decide +kernel
theorem dX1_give_226 : decode cX1_give 226 = .ok (.iload 4, 2) := by decide +kernel
theorem dX1_give_228 : decode cX1_give 228 = .ok (.invokevirtual 25, 3) := by decide +kernel
theorem dX1_give_231 : decode cX1_give 231 = .ok (.iconst 2, 1) := by decide +kernel
theorem dX1_give_232 : decode cX1_give 232 = .ok (.imul, 1) := by decide +kernel
theorem dX1_give_233 : decode cX1_give 233 = .ok (.ireturn, 1) := by decide +kernel
theorem dX1_give_234 : decode cX1_give 234 = .ok (.iconst 0, 1) := by decide +kernel
theorem dX1_give_235 : decode cX1_give 235 = .ok (.ireturn, 1) := by decide +kernel
theorem dX1_leave_0 : decode cX1_leave 0 = .ok (.aload_n 0, 1) := by decide +kernel
theorem dX1_leave_1 : decode cX1_leave 1 = .ok (.getfield 17, 3) := by decide +kernel
theorem dX1_leave_4 : decode cX1_leave 4 = .ok (.bipush 16, 2) := by decide +kernel
theorem dX1_leave_6 : decode cX1_leave 6 = .ok (.if_icmp .ge 23, 3) := by decide +kernel
theorem dX1_leave_9 : decode cX1_leave 9 = .ok (.aload_n 0, 1) := by decide +kernel
theorem dX1_leave_10 : decode cX1_leave 10 = .ok (.getfield 9, 3) := by decide +kernel
theorem dX1_leave_13 : decode cX1_leave 13 = .ok (.aload_n 0, 1) := by decide +kernel
theorem dX1_leave_14 : decode cX1_leave 14 = .ok (.getfield 17, 3) := by decide +kernel
theorem dX1_leave_17 : decode cX1_leave 17 = .ok (.iload_n 1, 1) := by decide +kernel
theorem dX1_leave_18 : decode cX1_leave 18 = .ok (.iastore, 1) := by decide +kernel
theorem dX1_leave_19 : decode cX1_leave 19 = .ok (.aload_n 0, 1) := by decide +kernel
theorem dX1_leave_20 : decode cX1_leave 20 = .ok (.dup, 1) := by decide +kernel
theorem dX1_leave_21 : decode cX1_leave 21 = .ok (.getfield 17, 3) := by decide +kernel
theorem dX1_leave_24 : decode cX1_leave 24 = .ok (.iconst 1, 1) := by decide +kernel
theorem dX1_leave_25 : decode cX1_leave 25 = .ok (.iadd, 1) := by decide +kernel
theorem dX1_leave_26 : decode cX1_leave 26 = .ok (.putfield 17, 3) := by decide +kernel
theorem dX1_leave_29 : decode cX1_leave 29 = .ok (.return_, 1) := by decide +kernel
theorem dX2_init_0 : decode cX2_init 0 = .ok (.aload_n 0, 1) := by decide +kernel
theorem dX2_init_1 : decode cX2_init 1 = .ok (.invokespecial 7, 3) := by decide +kernel
theorem dX2_init_4 : decode cX2_init 4 = .ok (.aload_n 0, 1) := by decide +kernel
theorem dX2_init_5 : decode cX2_init 5 = .ok (.new 1, 3) := by decide +kernel
theorem dX2_init_8 : decode cX2_init 8 = .ok (.dup, 1) := by decide +kernel
theorem dX2_init_9 : decode cX2_init 9 = .ok (.invokespecial 13, 3) := by decide +kernel
theorem dX2_init_12 : decode cX2_init 12 = .ok (.putfield 14, 3) := by decide +kernel
theorem dX2_init_15 : decode cX2_init 15 = .ok (.aload_n 0, 1) := by decide +kernel
theorem dX2_init_16 : decode cX2_init 16 = .ok (.bipush 12, 2) := by decide +kernel
theorem dX2_init_18 : decode cX2_init 18 = .ok (.newarray .int, 2) := by decide +kernel
theorem dX2_init_20 : decode cX2_init 20 = .ok (.putfield 18, 3) := by decide +kernel
theorem dX2_init_23 : decode cX2_init 23 = .ok (.aload_n 0, 1) := by decide +kernel
theorem dX2_init_24 : decode cX2_init 24 = .ok (.bipush 10, 2) := by decide +kernel
theorem dX2_init_26 : decode cX2_init 26 = .ok (.newarray .int, 2) := by decide +kernel
theorem dX2_init_28 : decode cX2_init 28 = .ok (.putfield 22, 3) := by decide +kernel
theorem dX2_init_31 : decode cX2_init 31 = .ok (.aload_n 0, 1) := by decide +kernel
theorem dX2_init_32 : decode cX2_init 32 = .ok (.iconst 2, 1) := by decide +kernel
theorem dX2_init_33 : decode cX2_init 33 = .ok (.sipush 210, 3) := by decide +kernel
theorem dX2_init_36 : decode cX2_init 36 = .ok (.multianewarray 25 2, 4) := by decide +kernel
theorem dX2_init_40 : decode cX2_init 40 = .ok (.putfield 27, 3) := by decide +kernel
theorem dX2_init_43 : decode cX2_init 43 = .ok (.aload_n 0, 1) := by decide +kernel
theorem dX2_init_44 : decode cX2_init 44 = .ok (.aload_n 1, 1) := by decide +kernel
theorem dX2_init_45 : decode cX2_init 45 = .ok (.putfield 30, 3) := by decide +kernel
theorem dX2_init_48 : decode cX2_init 48 = .ok (.return_, 1) := by decide +kernel
theorem dX2_landBehind_0 : decode cX2_landBehind 0 = .ok (.aload_n 0, 1) := by decide +kernel
theorem dX2_landBehind_1 : decode cX2_landBehind 1 = .ok (.getfield 30, 3) := by decide +kernel
theorem dX2_landBehind_4 : decode cX2_landBehind 4 = .ok (.getfield 33, 3) := by decide +kernel
theorem dX2_landBehind_7 : decode cX2_landBehind 7 = .ok (.iload_n 1, 1) := by decide +kernel
theorem dX2_landBehind_8 : decode cX2_landBehind 8 = .ok (.iaload, 1) := by decide +kernel
theorem dX2_landBehind_9 : decode cX2_landBehind 9 = .ok (.istore_n 3, 1) := by decide +kernel
theorem dX2_landBehind_10 : decode cX2_landBehind 10 = .ok (.aload_n 0, 1) := by decide +kernel
theorem dX2_landBehind_11 : decode cX2_landBehind 11 = .ok (.getfield 30, 3) := by decide +kernel
theorem dX2_landBehind_14 : decode cX2_landBehind 14 = .ok (.getfield 36, 3) := by decide +kernel
theorem dX2_landBehind_17 : decode cX2_landBehind 17 = .ok (.iload_n 1, 1) := by decide +kernel
theorem dX2_landBehind_18 : decode cX2_landBehind 18 = .ok (.iaload, 1) := by decide +kernel
theorem dX2_landBehind_19 : decode cX2_landBehind 19 = .ok (.istore 4, 2) := by decide +kernel
theorem dX2_landBehind_21 : decode cX2_landBehind 21 = .ok (.iconst 0, 1) := by decide +kernel
theorem dX2_landBehind_22 : decode cX2_landBehind 22 = .ok (.istore 5, 2) := by decide +kernel
theorem dX2_landBehind_24 : decode cX2_landBehind 24 = .ok (.iload 5, 2) := by decide +kernel
theorem dX2_landBehind_26 : decode cX2_landBehind 26 = .ok (.iload_n 2, 1) := by decide +kernel
theorem dX2_landBehind_27 : decode cX2_landBehind 27 = .ok (.if_icmp .ge 31, 3) := by decide +kernel
theorem dX2_landBehind_30 : decode cX2_landBehind 30 = .ok (.aload_n 0, 1) := by decide +kernel
theorem dX2_landBehind_31 : decode cX2_landBehind 31 = .ok (.getfield 30, 3) := by decide +kernel
theorem dX2_landBehind_34 : decode cX2_landBehind 34 = .ok (.iload 4, 2) := by decide +kernel
theorem dX2_landBehind_36 : decode cX2_landBehind 36 = .ok (.invokevirtual 39, 3) := by decide +kernel
theorem dX2_landBehind_39 : decode cX2_landBehind 39 = .ok (.istore 4, 2) := by decide +kernel
theorem dX2_landBehind_41 : decode cX2_landBehind 41 = .ok (.aload_n 0, 1) := by decide +kernel
theorem dX2_landBehind_42 : decode cX2_landBehind 42 = .ok (.getfield 30, 3) := by decide +kernel
theorem dX2_landBehind_45 : decode cX2_landBehind 45 = .ok (.iload_n 3, 1) := by decide +kernel
theorem dX2_landBehind_46 : decode cX2_landBehind 46 = .ok (.iload 4, 2) := by decide +kernel
theorem dX2_landBehind_48 : decode cX2_landBehind 48 = .ok (.invokevirtual 43, 3) := by decide +kernel
theorem dX2_landBehind_51 : decode cX2_landBehind 51 = .ok (.istore_n 3, 1) := by decide +kernel
theorem dX2_landBehind_52 : decode cX2_landBehind 52 = .ok (.iinc 5 1, 3) := by decide +kernel
theorem dX2_landBehind_55 : decode cX2_landBehind 55 = .ok (.goto (-31), 3) := by decide +kernel
theorem dX2_landBehind_58 : decode cX2_landBehind 58 = .ok (.iload_n 3, 1) := by decide +kernel
theorem dX2_landBehind_59 : decode cX2_landBehind 59 = .ok (.ireturn, 1) := by decide +kernel
theorem dX2_heightBehind_0 : decode cX2_heightBehind 0 = .ok (.aload_n 0, 1) := by decide +kernel
theorem dX2_heightBehind_1 : decode cX2_heightBehind 1 = .ok (.getfield 30, 3) := by decide +kernel
theorem dX2_heightBehind_4 : decode cX2_heightBehind 4 = .ok (.getfield 36, 3) := by decide +kernel
theorem dX2_heightBehind_7 : decode cX2_heightBehind 7 = .ok (.iload_n 1, 1) := by decide +kernel
theorem dX2_heightBehind_8 : decode cX2_heightBehind 8 = .ok (.iaload, 1) := by decide +kernel
theorem dX2_heightBehind_9 : decode cX2_heightBehind 9 = .ok (.istore_n 3, 1) := by decide +kernel
theorem dX2_heightBehind_10 : decode cX2_heightBehind 10 = .ok (.iconst 0, 1) := by decide +kernel
theorem dX2_heightBehind_11 : decode cX2_heightBehind 11 = .ok (.istore 4, 2) := by decide +kernel
theorem dX2_heightBehind_13 : decode cX2_heightBehind 13 = .ok (.iload 4, 2) := by decide +kernel
theorem dX2_heightBehind_15 : decode cX2_heightBehind 15 = .ok (.iload_n 2, 1) := by decide +kernel
theorem dX2_heightBehind_16 : decode cX2_heightBehind 16 = .ok (.if_icmp .ge 18, 3) := by decide +kernel
theorem dX2_heightBehind_19 : decode cX2_heightBehind 19 = .ok (.aload_n 0, 1) := by decide +kernel
theorem dX2_heightBehind_20 : decode cX2_heightBehind 20 = .ok (.getfield 30, 3) := by decide +kernel
theorem dX2_heightBehind_23 : decode cX2_heightBehind 23 = .ok (.iload_n 3, 1) := by decide +kernel
theorem dX2_heightBehind_24 : decode cX2_heightBehind 24 = .ok (.invokevirtual 39, 3) := by decide +kernel
theorem dX2_heightBehind_27 : decode cX2_heightBehind 27 = .ok (.istore_n 3, 1) := by decide +kernel
theorem dX2_heightBehind_28 : decode cX2_heightBehind 28 = .ok (.iinc 4 1, 3) := by decide +kernel
theorem dX2_heightBehind_31 : decode cX2_heightBehind 31 = .ok (.goto (-18), 3) := by decide +kernel
theorem dX2_heightBehind_34 : decode cX2_heightBehind 34 = .ok (.iload_n 3, 1) := by decide +kernel
theorem dX2_heightBehind_35 : decode cX2_heightBehind 35 = .ok (.ireturn, 1) := by decide +kernel
theorem dX2_hoursToGround_0 : decode cX2_hoursToGround 0 = .ok (.aload_n 0, 1) := by decide +kernel
theorem dX2_hoursToGround_1 : decode cX2_hoursToGround 1 = .ok (.getfield 30, 3) := by decide +kernel
theorem dX2_hoursToGround_4 : decode cX2_hoursToGround 4 = .ok (.getfield 36, 3) := by decide +kernel
theorem dX2_hoursToGround_7 : decode cX2_hoursToGround 7 = .ok (.iload_n 1, 1) := by decide +kernel
theorem dX2_hoursToGround_8 : decode cX2_hoursToGround 8 = .ok (.iaload, 1) := by decide +kernel
theorem dX2_hoursToGround_9 : decode cX2_hoursToGround 9 = .ok (.istore_n 2, 1) := by decide +kernel
theorem dX2_hoursToGround_10 : decode cX2_hoursToGround 10 = .ok (.iconst 0, 1) := by decide +kernel
theorem dX2_hoursToGround_11 : decode cX2_hoursToGround 11 = .ok (.istore_n 3, 1) := by decide +kernel
theorem dX2_hoursToGround_12 : decode cX2_hoursToGround 12 = .ok (.iload_n 3, 1) := by decide +kernel
theorem dX2_hoursToGround_13 : decode cX2_hoursToGround 13 = .ok (.bipush 60, 2) := by decide +kernel
theorem dX2_hoursToGround_15 : decode cX2_hoursToGround 15 = .ok (.if_icmp .gt 24, 3) := by decide +kernel
theorem dX2_hoursToGround_18 : decode cX2_hoursToGround 18 = .ok (.iload_n 2, 1) := by decide +kernel
theorem dX2_hoursToGround_19 : decode cX2_hoursToGround 19 = .ok (.ifCond .ne 5, 3) := by decide +kernel
theorem dX2_hoursToGround_22 : decode cX2_hoursToGround 22 = .ok (.iload_n 3, 1) := by decide +kernel
theorem dX2_hoursToGround_23 : decode cX2_hoursToGround 23 = .ok (.ireturn, 1) := by decide +kernel
theorem dX2_hoursToGround_24 : decode cX2_hoursToGround 24 = .ok (.aload_n 0, 1) := by decide +kernel
theorem dX2_hoursToGround_25 : decode cX2_hoursToGround 25 = .ok (.getfield 30, 3) := by decide +kernel
theorem dX2_hoursToGround_28 : decode cX2_hoursToGround 28 = .ok (.iload_n 2, 1) := by decide +kernel
theorem dX2_hoursToGround_29 : decode cX2_hoursToGround 29 = .ok (.invokevirtual 39, 3) := by decide +kernel
theorem dX2_hoursToGround_32 : decode cX2_hoursToGround 32 = .ok (.istore_n 2, 1) := by decide +kernel
theorem dX2_hoursToGround_33 : decode cX2_hoursToGround 33 = .ok (.iinc 3 1, 3) := by decide +kernel
theorem dX2_hoursToGround_36 : decode cX2_hoursToGround 36 = .ok (.goto (-24), 3) := by decide +kernel
theorem dX2_hoursToGround_39 : decode cX2_hoursToGround 39 = .ok (.ldc 47, 2) := by decide +kernel
theorem dX2_hoursToGround_41 : decode cX2_hoursToGround 41 = .ok (.ireturn, 1) := by decide +kernel
theorem dX2_hoursToMeeting_0 : decode cX2_hoursToMeeting 0 = .ok (.aload_n 0, 1) := by decide +kernel
theorem dX2_hoursToMeeting_1 : decode cX2_hoursToMeeting 1 = .ok (.getfield 14, 3) := by decide +kernel
theorem dX2_hoursToMeeting_4 : decode cX2_hoursToMeeting 4 = .ok (.aload_n 0, 1) := by decide +kernel
theorem dX2_hoursToMeeting_5 : decode cX2_hoursToMeeting 5 = .ok (.getfield 30, 3) := by decide +kernel
theorem dX2_hoursToMeeting_8 : decode cX2_hoursToMeeting 8 = .ok (.invokevirtual 48, 3) := by decide +kernel
theorem dX2_hoursToMeeting_11 : decode cX2_hoursToMeeting 11 = .ok (.iconst 0, 1) := by decide +kernel
theorem dX2_hoursToMeeting_12 : decode cX2_hoursToMeeting 12 = .ok (.istore_n 3, 1) := by decide +kernel
theorem dX2_hoursToMeeting_13 : decode cX2_hoursToMeeting 13 = .ok (.iload_n 3, 1) := by decide +kernel
theorem dX2_hoursToMeeting_14 : decode cX2_hoursToMeeting 14 = .ok (.bipush 60, 2) := by decide +kernel
theorem dX2_hoursToMeeting_16 : decode cX2_hoursToMeeting 16 = .ok (.if_icmp .gt 60, 3) := by decide +kernel
theorem dX2_hoursToMeeting_19 : decode cX2_hoursToMeeting 19 = .ok (.aload_n 0, 1) := by decide +kernel
theorem dX2_hoursToMeeting_20 : decode cX2_hoursToMeeting 20 = .ok (.getfield 14, 3) := by decide +kernel
theorem dX2_hoursToMeeting_23 : decode cX2_hoursToMeeting 23 = .ok (.getfield 33, 3) := by decide +kernel
theorem dX2_hoursToMeeting_26 : decode cX2_hoursToMeeting 26 = .ok (.iload_n 1, 1) := by decide +kernel
theorem dX2_hoursToMeeting_27 : decode cX2_hoursToMeeting 27 = .ok (.iaload, 1) := by decide +kernel
theorem dX2_hoursToMeeting_28 : decode cX2_hoursToMeeting 28 = .ok (.aload_n 0, 1) := by decide +kernel
theorem dX2_hoursToMeeting_29 : decode cX2_hoursToMeeting 29 = .ok (.getfield 14, 3) := by decide +kernel
theorem dX2_hoursToMeeting_32 : decode cX2_hoursToMeeting 32 = .ok (.getfield 33, 3) := by decide +kernel
theorem dX2_hoursToMeeting_35 : decode cX2_hoursToMeeting 35 = .ok (.iload_n 2, 1) := by decide +kernel
theorem dX2_hoursToMeeting_36 : decode cX2_hoursToMeeting 36 = .ok (.iaload, 1) := by decide +kernel
theorem dX2_hoursToMeeting_37 : decode cX2_hoursToMeeting 37 = .ok (.if_icmp .ne 26, 3) := by decide +kernel
theorem dX2_hoursToMeeting_40 : decode cX2_hoursToMeeting 40 = .ok (.aload_n 0, 1) := by decide +kernel
theorem dX2_hoursToMeeting_41 : decode cX2_hoursToMeeting 41 = .ok (.getfield 14, 3) := by decide +kernel
theorem dX2_hoursToMeeting_44 : decode cX2_hoursToMeeting 44 = .ok (.getfield 36, 3) := by decide +kernel
theorem dX2_hoursToMeeting_47 : decode cX2_hoursToMeeting 47 = .ok (.iload_n 1, 1) := by decide +kernel
theorem dX2_hoursToMeeting_48 : decode cX2_hoursToMeeting 48 = .ok (.iaload, 1) := by decide +kernel
theorem dX2_hoursToMeeting_49 : decode cX2_hoursToMeeting 49 = .ok (.aload_n 0, 1) := by decide +kernel
theorem dX2_hoursToMeeting_50 : decode cX2_hoursToMeeting 50 = .ok (.getfield 14, 3) := by decide +kernel
theorem dX2_hoursToMeeting_53 : decode cX2_hoursToMeeting 53 = .ok (.getfield 36, 3) := by decide +kernel
theorem dX2_hoursToMeeting_56 : decode cX2_hoursToMeeting 56 = .ok (.iload_n 2, 1) := by decide +kernel
theorem dX2_hoursToMeeting_57 : decode cX2_hoursToMeeting 57 = .ok (.iaload, 1) := by decide +kernel
theorem dX2_hoursToMeeting_58 : decode cX2_hoursToMeeting 58 = .ok (.if_icmp .ne 5, 3) := by decide +kernel
theorem dX2_hoursToMeeting_61 : decode cX2_hoursToMeeting 61 = .ok (.iload_n 3, 1) := by decide +kernel
theorem dX2_hoursToMeeting_62 : decode cX2_hoursToMeeting 62 = .ok (.ireturn, 1) := by decide +kernel
theorem dX2_hoursToMeeting_63 : decode cX2_hoursToMeeting 63 = .ok (.aload_n 0, 1) := by decide +kernel
theorem dX2_hoursToMeeting_64 : decode cX2_hoursToMeeting 64 = .ok (.getfield 14, 3) := by decide +kernel
theorem dX2_hoursToMeeting_67 : decode cX2_hoursToMeeting 67 = .ok (.invokevirtual 52, 3) := by decide +kernel
theorem dX2_hoursToMeeting_70 : decode cX2_hoursToMeeting 70 = .ok (.iinc 3 1, 3) := by decide +kernel
theorem dX2_hoursToMeeting_73 : decode cX2_hoursToMeeting 73 = .ok (.goto (-60), 3) := by decide +kernel
theorem dX2_hoursToMeeting_76 : decode cX2_hoursToMeeting 76 = .ok (.ldc 47, 2) := by decide +kernel
theorem dX2_hoursToMeeting_78 : decode cX2_hoursToMeeting 78 = .ok (.ireturn, 1) := by decide +kernel
theorem dX2_officesBehind_0 : decode cX2_officesBehind 0 = .ok (.aload_n 0, 1) := by decide +kernel
theorem dX2_officesBehind_1 : decode cX2_officesBehind 1 = .ok (.getfield 14, 3) := by decide +kernel
theorem dX2_officesBehind_4 : decode cX2_officesBehind 4 = .ok (.aload_n 0, 1) := by decide +kernel
theorem dX2_officesBehind_5 : decode cX2_officesBehind 5 = .ok (.getfield 30, 3) := by decide +kernel
theorem dX2_officesBehind_8 : decode cX2_officesBehind 8 = .ok (.invokevirtual 48, 3) := by decide +kernel
theorem dX2_officesBehind_11 : decode cX2_officesBehind 11 = .ok (.iconst 0, 1) := by decide +kernel
theorem dX2_officesBehind_12 : decode cX2_officesBehind 12 = .ok (.istore_n 3, 1) := by decide +kernel
theorem dX2_officesBehind_13 : decode cX2_officesBehind 13 = .ok (.iload_n 3, 1) := by decide +kernel
theorem dX2_officesBehind_14 : decode cX2_officesBehind 14 = .ok (.iload_n 2, 1) := by decide +kernel
theorem dX2_officesBehind_15 : decode cX2_officesBehind 15 = .ok (.if_icmp .ge 16, 3) := by decide +kernel
theorem dX2_officesBehind_18 : decode cX2_officesBehind 18 = .ok (.aload_n 0, 1) := by decide +kernel
theorem dX2_officesBehind_19 : decode cX2_officesBehind 19 = .ok (.getfield 14, 3) := by decide +kernel
theorem dX2_officesBehind_22 : decode cX2_officesBehind 22 = .ok (.invokevirtual 52, 3) := by decide +kernel
theorem dX2_officesBehind_25 : decode cX2_officesBehind 25 = .ok (.iinc 3 1, 3) := by decide +kernel
theorem dX2_officesBehind_28 : decode cX2_officesBehind 28 = .ok (.goto (-15), 3) := by decide +kernel
theorem dX2_officesBehind_31 : decode cX2_officesBehind 31 = .ok (.aload_n 0, 1) := by decide +kernel
theorem dX2_officesBehind_32 : decode cX2_officesBehind 32 = .ok (.getfield 14, 3) := by decide +kernel
theorem dX2_officesBehind_35 : decode cX2_officesBehind 35 = .ok (.iload_n 1, 1) := by decide +kernel
theorem dX2_officesBehind_36 : decode cX2_officesBehind 36 = .ok (.invokevirtual 55, 3) := by decide +kernel
theorem dX2_officesBehind_39 : decode cX2_officesBehind 39 = .ok (.invokestatic 58, 3) := by decide +kernel
theorem dX2_officesBehind_42 : decode cX2_officesBehind 42 = .ok (.ireturn, 1) := by decide +kernel
theorem dX2_fewestPlan_0 : decode cX2_fewestPlan 0 = .ok (.aload_n 0, 1) := by decide +kernel
theorem dX2_fewestPlan_1 : decode cX2_fewestPlan 1 = .ok (.getfield 27, 3) := by decide +kernel
theorem dX2_fewestPlan_4 : decode cX2_fewestPlan 4 = .ok (.iconst 0, 1) := by decide +kernel
theorem dX2_fewestPlan_5 : decode cX2_fewestPlan 5 = .ok (.aaload, 1) := by decide +kernel
theorem dX2_fewestPlan_6 : decode cX2_fewestPlan 6 = .ok (.ldc 63, 2) := by decide +kernel
theorem dX2_fewestPlan_8 : decode cX2_fewestPlan 8 = .ok (.invokestatic 64, 3) := by decide +kernel
theorem dX2_fewestPlan_11 : decode cX2_fewestPlan 11 = .ok (.aload_n 0, 1) := by decide +kernel
theorem dX2_fewestPlan_12 : decode cX2_fewestPlan 12 = .ok (.getfield 27, 3) := by decide +kernel
theorem dX2_fewestPlan_15 : decode cX2_fewestPlan 15 = .ok (.iconst 0, 1) := by decide +kernel
theorem dX2_fewestPlan_16 : decode cX2_fewestPlan 16 = .ok (.aaload, 1) := by decide +kernel
theorem dX2_fewestPlan_17 : decode cX2_fewestPlan 17 = .ok (.aload_n 0, 1) := by decide +kernel
theorem dX2_fewestPlan_18 : decode cX2_fewestPlan 18 = .ok (.getfield 30, 3) := by decide +kernel
theorem dX2_fewestPlan_21 : decode cX2_fewestPlan 21 = .ok (.getfield 33, 3) := by decide +kernel
theorem dX2_fewestPlan_24 : decode cX2_fewestPlan 24 = .ok (.iload_n 1, 1) := by decide +kernel
theorem dX2_fewestPlan_25 : decode cX2_fewestPlan 25 = .ok (.iaload, 1) := by decide +kernel
theorem dX2_fewestPlan_26 : decode cX2_fewestPlan 26 = .ok (.bipush 21, 2) := by decide +kernel
theorem dX2_fewestPlan_28 : decode cX2_fewestPlan 28 = .ok (.imul, 1) := by decide +kernel
theorem dX2_fewestPlan_29 : decode cX2_fewestPlan 29 = .ok (.aload_n 0, 1) := by decide +kernel
theorem dX2_fewestPlan_30 : decode cX2_fewestPlan 30 = .ok (.getfield 30, 3) := by decide +kernel
theorem dX2_fewestPlan_33 : decode cX2_fewestPlan 33 = .ok (.getfield 36, 3) := by decide +kernel
theorem dX2_fewestPlan_36 : decode cX2_fewestPlan 36 = .ok (.iload_n 1, 1) := by decide +kernel
theorem dX2_fewestPlan_37 : decode cX2_fewestPlan 37 = .ok (.iaload, 1) := by decide +kernel
theorem dX2_fewestPlan_38 : decode cX2_fewestPlan 38 = .ok (.iadd, 1) := by decide +kernel
theorem dX2_fewestPlan_39 : decode cX2_fewestPlan 39 = .ok (.iconst 0, 1) := by decide +kernel
theorem dX2_fewestPlan_40 : decode cX2_fewestPlan 40 = .ok (.iastore, 1) := by decide +kernel
theorem dX2_fewestPlan_41 : decode cX2_fewestPlan 41 = .ok (.iconst 0, 1) := by decide +kernel
theorem dX2_fewestPlan_42 : decode cX2_fewestPlan 42 = .ok (.istore 5, 2) := by decide +kernel
theorem dX2_fewestPlan_44 : decode cX2_fewestPlan 44 = .ok (.iload 5, 2) := by decide +kernel
theorem dX2_fewestPlan_46 : decode cX2_fewestPlan 46 = .ok (.iload_n 3, 1) := by decide +kernel
theorem dX2_fewestPlan_47 : decode cX2_fewestPlan 47 = .ok (.if_icmp .ge 34, 3) := by decide +kernel
theorem dX2_fewestPlan_50 : decode cX2_fewestPlan 50 = .ok (.aload_n 0, 1) := by decide +kernel
theorem dX2_fewestPlan_51 : decode cX2_fewestPlan 51 = .ok (.iload_n 1, 1) := by decide +kernel
theorem dX2_fewestPlan_52 : decode cX2_fewestPlan 52 = .ok (.aload_n 0, 1) := by decide +kernel
theorem dX2_fewestPlan_53 : decode cX2_fewestPlan 53 = .ok (.getfield 27, 3) := by decide +kernel
theorem dX2_fewestPlan_56 : decode cX2_fewestPlan 56 = .ok (.iload 5, 2) := by decide +kernel
theorem dX2_fewestPlan_58 : decode cX2_fewestPlan 58 = .ok (.iconst 1, 1) := by decide +kernel
theorem dX2_fewestPlan_59 : decode cX2_fewestPlan 59 = .ok (.iand, 1) := by decide +kernel
theorem dX2_fewestPlan_60 : decode cX2_fewestPlan 60 = .ok (.aaload, 1) := by decide +kernel
theorem dX2_fewestPlan_61 : decode cX2_fewestPlan 61 = .ok (.aload_n 0, 1) := by decide +kernel
theorem dX2_fewestPlan_62 : decode cX2_fewestPlan 62 = .ok (.getfield 27, 3) := by decide +kernel
theorem dX2_fewestPlan_65 : decode cX2_fewestPlan 65 = .ok (.iload 5, 2) := by decide +kernel
theorem dX2_fewestPlan_67 : decode cX2_fewestPlan 67 = .ok (.iconst 1, 1) := by decide +kernel
theorem dX2_fewestPlan_68 : decode cX2_fewestPlan 68 = .ok (.iadd, 1) := by decide +kernel
theorem dX2_fewestPlan_69 : decode cX2_fewestPlan 69 = .ok (.iconst 1, 1) := by decide +kernel
theorem dX2_fewestPlan_70 : decode cX2_fewestPlan 70 = .ok (.iand, 1) := by decide +kernel
theorem dX2_fewestPlan_71 : decode cX2_fewestPlan 71 = .ok (.aaload, 1) := by decide +kernel
theorem dX2_fewestPlan_72 : decode cX2_fewestPlan 72 = .ok (.invokevirtual 70, 3) := by decide +kernel
theorem dX2_fewestPlan_75 : decode cX2_fewestPlan 75 = .ok (.iinc 5 1, 3) := by decide +kernel
theorem dX2_fewestPlan_78 : decode cX2_fewestPlan 78 = .ok (.goto (-34), 3) := by decide +kernel
theorem dX2_fewestPlan_81 : decode cX2_fewestPlan 81 = .ok (.ldc 63, 2) := by decide +kernel
theorem dX2_fewestPlan_83 : decode cX2_fewestPlan 83 = .ok (.istore 5, 2) := by decide +kernel
theorem dX2_fewestPlan_85 : decode cX2_fewestPlan 85 = .ok (.iload 4, 2) := by decide +kernel
theorem dX2_fewestPlan_87 : decode cX2_fewestPlan 87 = .ok (.istore 6, 2) := by decide +kernel
theorem dX2_fewestPlan_89 : decode cX2_fewestPlan 89 = .ok (.iload 6, 2) := by decide +kernel
theorem dX2_fewestPlan_91 : decode cX2_fewestPlan 91 = .ok (.bipush 21, 2) := by decide +kernel
theorem dX2_fewestPlan_93 : decode cX2_fewestPlan 93 = .ok (.if_icmp .ge 32, 3) := by decide +kernel
theorem dX2_fewestPlan_96 : decode cX2_fewestPlan 96 = .ok (.iload 5, 2) := by decide +kernel
theorem dX2_fewestPlan_98 : decode cX2_fewestPlan 98 = .ok (.aload_n 0, 1) := by decide +kernel
theorem dX2_fewestPlan_99 : decode cX2_fewestPlan 99 = .ok (.getfield 27, 3) := by decide +kernel
theorem dX2_fewestPlan_102 : decode cX2_fewestPlan 102 = .ok (.iload_n 3, 1) := by decide +kernel
theorem dX2_fewestPlan_103 : decode cX2_fewestPlan 103 = .ok (.iconst 1, 1) := by decide +kernel
theorem dX2_fewestPlan_104 : decode cX2_fewestPlan 104 = .ok (.iand, 1) := by decide +kernel
theorem dX2_fewestPlan_105 : decode cX2_fewestPlan 105 = .ok (.aaload, 1) := by decide +kernel
theorem dX2_fewestPlan_106 : decode cX2_fewestPlan 106 = .ok (.iload_n 2, 1) := by decide +kernel
theorem dX2_fewestPlan_107 : decode cX2_fewestPlan 107 = .ok (.bipush 21, 2) := by decide +kernel
theorem dX2_fewestPlan_109 : decode cX2_fewestPlan 109 = .ok (.imul, 1) := by decide +kernel
theorem dX2_fewestPlan_110 : decode cX2_fewestPlan 110 = .ok (.iload 6, 2) := by decide +kernel
theorem dX2_fewestPlan_112 : decode cX2_fewestPlan 112 = .ok (.iadd, 1) := by decide +kernel
theorem dX2_fewestPlan_113 : decode cX2_fewestPlan 113 = .ok (.iaload, 1) := by decide +kernel
theorem dX2_fewestPlan_114 : decode cX2_fewestPlan 114 = .ok (.invokestatic 74, 3) := by decide +kernel
theorem dX2_fewestPlan_117 : decode cX2_fewestPlan 117 = .ok (.istore 5, 2) := by decide +kernel
theorem dX2_fewestPlan_119 : decode cX2_fewestPlan 119 = .ok (.iinc 6 1, 3) := by decide +kernel
theorem dX2_fewestPlan_122 : decode cX2_fewestPlan 122 = .ok (.goto (-33), 3) := by decide +kernel
theorem dX2_fewestPlan_125 : decode cX2_fewestPlan 125 = .ok (.iload 5, 2) := by decide +kernel
theorem dX2_fewestPlan_127 : decode cX2_fewestPlan 127 = .ok (.ireturn, 1) := by decide +kernel
theorem dX2_spreadAll_0 : decode cX2_spreadAll 0 = .ok (.aload_n 3, 1) := by decide +kernel
theorem dX2_spreadAll_1 : decode cX2_spreadAll 1 = .ok (.ldc 63, 2) := by decide +kernel
theorem dX2_spreadAll_3 : decode cX2_spreadAll 3 = .ok (.invokestatic 64, 3) := by decide +kernel
theorem dX2_spreadAll_6 : decode cX2_spreadAll 6 = .ok (.iconst 0, 1) := by decide +kernel
theorem dX2_spreadAll_7 : decode cX2_spreadAll 7 = .ok (.istore 4, 2) := by decide +kernel
theorem dX2_spreadAll_9 : decode cX2_spreadAll 9 = .ok (.iload 4, 2) := by decide +kernel
theorem dX2_spreadAll_11 : decode cX2_spreadAll 11 = .ok (.bipush 10, 2) := by decide +kernel
theorem dX2_spreadAll_13 : decode cX2_spreadAll 13 = .ok (.if_icmp .ge 56, 3) := by decide +kernel
theorem dX2_spreadAll_16 : decode cX2_spreadAll 16 = .ok (.iconst 0, 1) := by decide +kernel
theorem dX2_spreadAll_17 : decode cX2_spreadAll 17 = .ok (.istore 5, 2) := by decide +kernel
theorem dX2_spreadAll_19 : decode cX2_spreadAll 19 = .ok (.iload 5, 2) := by decide +kernel
theorem dX2_spreadAll_21 : decode cX2_spreadAll 21 = .ok (.bipush 21, 2) := by decide +kernel
theorem dX2_spreadAll_23 : decode cX2_spreadAll 23 = .ok (.if_icmp .ge 40, 3) := by decide +kernel
theorem dX2_spreadAll_26 : decode cX2_spreadAll 26 = .ok (.aload_n 2, 1) := by decide +kernel
theorem dX2_spreadAll_27 : decode cX2_spreadAll 27 = .ok (.iload 4, 2) := by decide +kernel
theorem dX2_spreadAll_29 : decode cX2_spreadAll 29 = .ok (.bipush 21, 2) := by decide +kernel
theorem dX2_spreadAll_31 : decode cX2_spreadAll 31 = .ok (.imul, 1) := by decide +kernel
theorem dX2_spreadAll_32 : decode cX2_spreadAll 32 = .ok (.iload 5, 2) := by decide +kernel
theorem dX2_spreadAll_34 : decode cX2_spreadAll 34 = .ok (.iadd, 1) := by decide +kernel
theorem dX2_spreadAll_35 : decode cX2_spreadAll 35 = .ok (.iaload, 1) := by decide +kernel
theorem dX2_spreadAll_36 : decode cX2_spreadAll 36 = .ok (.istore 6, 2) := by decide +kernel
theorem dX2_spreadAll_38 : decode cX2_spreadAll 38 = .ok (.iload 6, 2) := by decide +kernel
theorem dX2_spreadAll_40 : decode cX2_spreadAll 40 = .ok (.ldc 63, 2) := by decide +kernel
theorem dX2_spreadAll_42 : decode cX2_spreadAll 42 = .ok (.if_icmp .eq 15, 3) := by decide +kernel
theorem dX2_spreadAll_45 : decode cX2_spreadAll 45 = .ok (.aload_n 0, 1) := by decide +kernel
theorem dX2_spreadAll_46 : decode cX2_spreadAll 46 = .ok (.iload_n 1, 1) := by decide +kernel
theorem dX2_spreadAll_47 : decode cX2_spreadAll 47 = .ok (.iload 4, 2) := by decide +kernel
theorem dX2_spreadAll_49 : decode cX2_spreadAll 49 = .ok (.iload 5, 2) := by decide +kernel
theorem dX2_spreadAll_51 : decode cX2_spreadAll 51 = .ok (.iload 6, 2) := by decide +kernel
theorem dX2_spreadAll_53 : decode cX2_spreadAll 53 = .ok (.aload_n 3, 1) := by decide +kernel
theorem dX2_spreadAll_54 : decode cX2_spreadAll 54 = .ok (.invokevirtual 79, 3) := by decide +kernel
theorem dX2_spreadAll_57 : decode cX2_spreadAll 57 = .ok (.iinc 5 1, 3) := by decide +kernel
theorem dX2_spreadAll_60 : decode cX2_spreadAll 60 = .ok (.goto (-41), 3) := by decide +kernel
theorem dX2_spreadAll_63 : decode cX2_spreadAll 63 = .ok (.iinc 4 1, 3) := by decide +kernel
theorem dX2_spreadAll_66 : decode cX2_spreadAll 66 = .ok (.goto (-57), 3) := by decide +kernel
theorem dX2_spreadAll_69 : decode cX2_spreadAll 69 = .ok (.return_, 1) := by decide +kernel
theorem dX2_spread_0 : decode cX2_spread 0 = .ok (.iconst 3, 1) := by decide +kernel
theorem dX2_spread_1 : decode cX2_spread 1 = .ok (.aload_n 0, 1) := by decide +kernel
theorem dX2_spread_2 : decode cX2_spread 2 = .ok (.getfield 30, 3) := by decide +kernel
theorem dX2_spread_5 : decode cX2_spread 5 = .ok (.getfield 83, 3) := by decide +kernel
theorem dX2_spread_8 : decode cX2_spread 8 = .ok (.iload_n 1, 1) := by decide +kernel
theorem dX2_spread_9 : decode cX2_spread 9 = .ok (.iaload, 1) := by decide +kernel
theorem dX2_spread_10 : decode cX2_spread 10 = .ok (.iload 4, 2) := by decide +kernel
theorem dX2_spread_12 : decode cX2_spread 12 = .ok (.invokestatic 86, 3) := by decide +kernel
theorem dX2_spread_15 : decode cX2_spread 15 = .ok (.isub, 1) := by decide +kernel
theorem dX2_spread_16 : decode cX2_spread 16 = .ok (.invokestatic 74, 3) := by decide +kernel
theorem dX2_spread_19 : decode cX2_spread 19 = .ok (.istore 6, 2) := by decide +kernel
theorem dX2_spread_21 : decode cX2_spread 21 = .ok (.iload_n 3, 1) := by decide +kernel
theorem dX2_spread_22 : decode cX2_spread 22 = .ok (.istore 7, 2) := by decide +kernel
theorem dX2_spread_24 : decode cX2_spread 24 = .ok (.iconst 0, 1) := by decide +kernel
theorem dX2_spread_25 : decode cX2_spread 25 = .ok (.istore 8, 2) := by decide +kernel
theorem dX2_spread_27 : decode cX2_spread 27 = .ok (.iload 8, 2) := by decide +kernel
theorem dX2_spread_29 : decode cX2_spread 29 = .ok (.iload 6, 2) := by decide +kernel
theorem dX2_spread_31 : decode cX2_spread 31 = .ok (.if_icmp .gt 75, 3) := by decide +kernel
theorem dX2_spread_34 : decode cX2_spread 34 = .ok (.aload_n 0, 1) := by decide +kernel
theorem dX2_spread_35 : decode cX2_spread 35 = .ok (.getfield 30, 3) := by decide +kernel
theorem dX2_spread_38 : decode cX2_spread 38 = .ok (.iload 7, 2) := by decide +kernel
theorem dX2_spread_40 : decode cX2_spread 40 = .ok (.invokevirtual 39, 3) := by decide +kernel
theorem dX2_spread_43 : decode cX2_spread 43 = .ok (.istore 9, 2) := by decide +kernel
theorem dX2_spread_45 : decode cX2_spread 45 = .ok (.aload_n 0, 1) := by decide +kernel
theorem dX2_spread_46 : decode cX2_spread 46 = .ok (.getfield 30, 3) := by decide +kernel
theorem dX2_spread_49 : decode cX2_spread 49 = .ok (.iload_n 2, 1) := by decide +kernel
theorem dX2_spread_50 : decode cX2_spread 50 = .ok (.iload 9, 2) := by decide +kernel
theorem dX2_spread_52 : decode cX2_spread 52 = .ok (.invokevirtual 43, 3) := by decide +kernel
theorem dX2_spread_55 : decode cX2_spread 55 = .ok (.bipush 21, 2) := by decide +kernel
theorem dX2_spread_57 : decode cX2_spread 57 = .ok (.imul, 1) := by decide +kernel
theorem dX2_spread_58 : decode cX2_spread 58 = .ok (.iload 9, 2) := by decide +kernel
theorem dX2_spread_60 : decode cX2_spread 60 = .ok (.iadd, 1) := by decide +kernel
theorem dX2_spread_61 : decode cX2_spread 61 = .ok (.istore 10, 2) := by decide +kernel
theorem dX2_spread_63 : decode cX2_spread 63 = .ok (.aload 5, 2) := by decide +kernel
theorem dX2_spread_65 : decode cX2_spread 65 = .ok (.iload 10, 2) := by decide +kernel
theorem dX2_spread_67 : decode cX2_spread 67 = .ok (.aload 5, 2) := by decide +kernel
theorem dX2_spread_69 : decode cX2_spread 69 = .ok (.iload 10, 2) := by decide +kernel
theorem dX2_spread_71 : decode cX2_spread 71 = .ok (.iaload, 1) := by decide +kernel
theorem dX2_spread_72 : decode cX2_spread 72 = .ok (.iload 4, 2) := by decide +kernel
theorem dX2_spread_74 : decode cX2_spread 74 = .ok (.iload 8, 2) := by decide +kernel
theorem dX2_spread_76 : decode cX2_spread 76 = .ok (.invokestatic 89, 3) := by decide +kernel
theorem dX2_spread_79 : decode cX2_spread 79 = .ok (.invokestatic 74, 3) := by decide +kernel
theorem dX2_spread_82 : decode cX2_spread 82 = .ok (.iastore, 1) := by decide +kernel
theorem dX2_spread_83 : decode cX2_spread 83 = .ok (.aload_n 0, 1) := by decide +kernel
theorem dX2_spread_84 : decode cX2_spread 84 = .ok (.getfield 30, 3) := by decide +kernel
theorem dX2_spread_87 : decode cX2_spread 87 = .ok (.getfield 92, 3) := by decide +kernel
theorem dX2_spread_90 : decode cX2_spread 90 = .ok (.iload_n 1, 1) := by decide +kernel
theorem dX2_spread_91 : decode cX2_spread 91 = .ok (.iaload, 1) := by decide +kernel
theorem dX2_spread_92 : decode cX2_spread 92 = .ok (.iload 7, 2) := by decide +kernel
theorem dX2_spread_94 : decode cX2_spread 94 = .ok (.iconst 1, 1) := by decide +kernel
theorem dX2_spread_95 : decode cX2_spread 95 = .ok (.invokestatic 95, 3) := by decide +kernel
theorem dX2_spread_98 : decode cX2_spread 98 = .ok (.istore 7, 2) := by decide +kernel
theorem dX2_spread_100 : decode cX2_spread 100 = .ok (.iinc 8 1, 3) := by decide +kernel
theorem dX2_spread_103 : decode cX2_spread 103 = .ok (.goto (-76), 3) := by decide +kernel
theorem dX2_spread_106 : decode cX2_spread 106 = .ok (.return_, 1) := by decide +kernel
theorem dX2_longer_0 : decode cX2_longer 0 = .ok (.iload_n 0, 1) := by decide +kernel
theorem dX2_longer_1 : decode cX2_longer 1 = .ok (.ldc 99, 2) := by decide +kernel
theorem dX2_longer_3 : decode cX2_longer 3 = .ok (.irem, 1) := by decide +kernel
theorem dX2_longer_4 : decode cX2_longer 4 = .ok (.istore_n 2, 1) := by decide +kernel
theorem dX2_longer_5 : decode cX2_longer 5 = .ok (.iload_n 0, 1) := by decide +kernel
theorem dX2_longer_6 : decode cX2_longer 6 = .ok (.invokestatic 86, 3) := by decide +kernel
theorem dX2_longer_9 : decode cX2_longer 9 = .ok (.iload_n 1, 1) := by decide +kernel
theorem dX2_longer_10 : decode cX2_longer 10 = .ok (.iadd, 1) := by decide +kernel
theorem dX2_longer_11 : decode cX2_longer 11 = .ok (.ldc 99, 2) := by decide +kernel
theorem dX2_longer_13 : decode cX2_longer 13 = .ok (.imul, 1) := by decide +kernel
theorem dX2_longer_14 : decode cX2_longer 14 = .ok (.iload_n 2, 1) := by decide +kernel
theorem dX2_longer_15 : decode cX2_longer 15 = .ok (.iconst 4, 1) := by decide +kernel
theorem dX2_longer_16 : decode cX2_longer 16 = .ok (.imul, 1) := by decide +kernel
theorem dX2_longer_17 : decode cX2_longer 17 = .ok (.iadd, 1) := by decide +kernel
theorem dX2_longer_18 : decode cX2_longer 18 = .ok (.iload_n 1, 1) := by decide +kernel
theorem dX2_longer_19 : decode cX2_longer 19 = .ok (.iadd, 1) := by decide +kernel
theorem dX2_longer_20 : decode cX2_longer 20 = .ok (.ireturn, 1) := by decide +kernel
theorem dX2_sheetsOf_0 : decode cX2_sheetsOf 0 = .ok (.iload_n 0, 1) := by decide +kernel
theorem dX2_sheetsOf_1 : decode cX2_sheetsOf 1 = .ok (.ldc 99, 2) := by decide +kernel
theorem dX2_sheetsOf_3 : decode cX2_sheetsOf 3 = .ok (.idiv, 1) := by decide +kernel
theorem dX2_sheetsOf_4 : decode cX2_sheetsOf 4 = .ok (.ireturn, 1) := by decide +kernel
theorem dX2_sheetsAhead_0 : decode cX2_sheetsAhead 0 = .ok (.iload_n 0, 1) := by decide +kernel
theorem dX2_sheetsAhead_1 : decode cX2_sheetsAhead 1 = .ok (.iconst 2, 1) := by decide +kernel
theorem dX2_sheetsAhead_2 : decode cX2_sheetsAhead 2 = .ok (.iload_n 1, 1) := by decide +kernel
theorem dX2_sheetsAhead_3 : decode cX2_sheetsAhead 3 = .ok (.iconst 1, 1) := by decide +kernel
theorem dX2_sheetsAhead_4 : decode cX2_sheetsAhead 4 = .ok (.isub, 1) := by decide +kernel
theorem dX2_sheetsAhead_5 : decode cX2_sheetsAhead 5 = .ok (.iload_n 2, 1) := by decide +kernel
theorem dX2_sheetsAhead_6 : decode cX2_sheetsAhead 6 = .ok (.isub, 1) := by decide +kernel
theorem dX2_sheetsAhead_7 : decode cX2_sheetsAhead 7 = .ok (.imul, 1) := by decide +kernel
theorem dX2_sheetsAhead_8 : decode cX2_sheetsAhead 8 = .ok (.ishr, 1) := by decide +kernel
theorem dX2_sheetsAhead_9 : decode cX2_sheetsAhead 9 = .ok (.iconst 3, 1) := by decide +kernel
theorem dX2_sheetsAhead_10 : decode cX2_sheetsAhead 10 = .ok (.iand, 1) := by decide +kernel
theorem dX2_sheetsAhead_11 : decode cX2_sheetsAhead 11 = .ok (.ireturn, 1) := by decide +kernel
theorem dX2_hoursToPass_0 : decode cX2_hoursToPass 0 = .ok (.aload_n 0, 1) := by decide +kernel
theorem dX2_hoursToPass_1 : decode cX2_hoursToPass 1 = .ok (.getfield 14, 3) := by decide +kernel
theorem dX2_hoursToPass_4 : decode cX2_hoursToPass 4 = .ok (.aload_n 0, 1) := by decide +kernel
theorem dX2_hoursToPass_5 : decode cX2_hoursToPass 5 = .ok (.getfield 30, 3) := by decide +kernel
theorem dX2_hoursToPass_8 : decode cX2_hoursToPass 8 = .ok (.invokevirtual 48, 3) := by decide +kernel
theorem dX2_hoursToPass_11 : decode cX2_hoursToPass 11 = .ok (.iload_n 3, 1) := by decide +kernel
theorem dX2_hoursToPass_12 : decode cX2_hoursToPass 12 = .ok (.istore 5, 2) := by decide +kernel
theorem dX2_hoursToPass_14 : decode cX2_hoursToPass 14 = .ok (.iconst 0, 1) := by decide +kernel
theorem dX2_hoursToPass_15 : decode cX2_hoursToPass 15 = .ok (.istore 6, 2) := by decide +kernel
theorem dX2_hoursToPass_17 : decode cX2_hoursToPass 17 = .ok (.iload 6, 2) := by decide +kernel
theorem dX2_hoursToPass_19 : decode cX2_hoursToPass 19 = .ok (.bipush 60, 2) := by decide +kernel
theorem dX2_hoursToPass_21 : decode cX2_hoursToPass 21 = .ok (.if_icmp .gt 55, 3) := by decide +kernel
theorem dX2_hoursToPass_24 : decode cX2_hoursToPass 24 = .ok (.iload 5, 2) := by decide +kernel
theorem dX2_hoursToPass_26 : decode cX2_hoursToPass 26 = .ok (.iload_n 3, 1) := by decide +kernel
theorem dX2_hoursToPass_27 : decode cX2_hoursToPass 27 = .ok (.iload 4, 2) := by decide +kernel
theorem dX2_hoursToPass_29 : decode cX2_hoursToPass 29 = .ok (.iadd, 1) := by decide +kernel
theorem dX2_hoursToPass_30 : decode cX2_hoursToPass 30 = .ok (.if_icmp .ge 21, 3) := by decide +kernel
theorem dX2_hoursToPass_33 : decode cX2_hoursToPass 33 = .ok (.aload_n 0, 1) := by decide +kernel
theorem dX2_hoursToPass_34 : decode cX2_hoursToPass 34 = .ok (.aload_n 2, 1) := by decide +kernel
theorem dX2_hoursToPass_35 : decode cX2_hoursToPass 35 = .ok (.iload 5, 2) := by decide +kernel
theorem dX2_hoursToPass_37 : decode cX2_hoursToPass 37 = .ok (.iaload, 1) := by decide +kernel
theorem dX2_hoursToPass_38 : decode cX2_hoursToPass 38 = .ok (.iload_n 1, 1) := by decide +kernel
theorem dX2_hoursToPass_39 : decode cX2_hoursToPass 39 = .ok (.invokevirtual 100, 3) := by decide +kernel
theorem dX2_hoursToPass_42 : decode cX2_hoursToPass 42 = .ok (.ifCond .eq 9, 3) := by decide +kernel
theorem dX2_hoursToPass_45 : decode cX2_hoursToPass 45 = .ok (.iinc 5 1, 3) := by decide +kernel
theorem dX2_hoursToPass_48 : decode cX2_hoursToPass 48 = .ok (.goto (-24), 3) := by decide +kernel
theorem dX2_hoursToPass_51 : decode cX2_hoursToPass 51 = .ok (.iload 5, 2) := by decide +kernel
theorem dX2_hoursToPass_53 : decode cX2_hoursToPass 53 = .ok (.iload_n 3, 1) := by decide +kernel
theorem dX2_hoursToPass_54 : decode cX2_hoursToPass 54 = .ok (.iload 4, 2) := by decide +kernel
theorem dX2_hoursToPass_56 : decode cX2_hoursToPass 56 = .ok (.iadd, 1) := by decide +kernel
theorem dX2_hoursToPass_57 : decode cX2_hoursToPass 57 = .ok (.if_icmp .ne 6, 3) := by decide +kernel
theorem dX2_hoursToPass_60 : decode cX2_hoursToPass 60 = .ok (.iload 6, 2) := by decide +kernel
theorem dX2_hoursToPass_62 : decode cX2_hoursToPass 62 = .ok (.ireturn, 1) := by decide +kernel
theorem dX2_hoursToPass_63 : decode cX2_hoursToPass 63 = .ok (.aload_n 0, 1) := by decide +kernel
theorem dX2_hoursToPass_64 : decode cX2_hoursToPass 64 = .ok (.getfield 14, 3) := by decide +kernel
theorem dX2_hoursToPass_67 : decode cX2_hoursToPass 67 = .ok (.invokevirtual 52, 3) := by decide +kernel
theorem dX2_hoursToPass_70 : decode cX2_hoursToPass 70 = .ok (.iinc 6 1, 3) := by decide +kernel
theorem dX2_hoursToPass_73 : decode cX2_hoursToPass 73 = .ok (.goto (-56), 3) := by decide +kernel
theorem dX2_hoursToPass_76 : decode cX2_hoursToPass 76 = .ok (.ldc 47, 2) := by decide +kernel
theorem dX2_hoursToPass_78 : decode cX2_hoursToPass 78 = .ok (.ireturn, 1) := by decide +kernel
theorem dX2_reads_0 : decode cX2_reads 0 = .ok (.aload_n 0, 1) := by decide +kernel
theorem dX2_reads_1 : decode cX2_reads 1 = .ok (.getfield 14, 3) := by decide +kernel
theorem dX2_reads_4 : decode cX2_reads 4 = .ok (.getfield 33, 3) := by decide +kernel
theorem dX2_reads_7 : decode cX2_reads 7 = .ok (.iload_n 1, 1) := by decide +kernel
theorem dX2_reads_8 : decode cX2_reads 8 = .ok (.iaload, 1) := by decide +kernel
theorem dX2_reads_9 : decode cX2_reads 9 = .ok (.iload_n 2, 1) := by decide +kernel
theorem dX2_reads_10 : decode cX2_reads 10 = .ok (.if_icmp .ne 22, 3) := by decide +kernel
theorem dX2_reads_13 : decode cX2_reads 13 = .ok (.aload_n 0, 1) := by decide +kernel
theorem dX2_reads_14 : decode cX2_reads 14 = .ok (.getfield 14, 3) := by decide +kernel
theorem dX2_reads_17 : decode cX2_reads 17 = .ok (.getfield 36, 3) := by decide +kernel
theorem dX2_reads_20 : decode cX2_reads 20 = .ok (.iload_n 1, 1) := by decide +kernel
theorem dX2_reads_21 : decode cX2_reads 21 = .ok (.iaload, 1) := by decide +kernel
theorem dX2_reads_22 : decode cX2_reads 22 = .ok (.invokestatic 104, 3) := by decide +kernel
theorem dX2_reads_25 : decode cX2_reads 25 = .ok (.ifCond .ne 7, 3) := by decide +kernel
theorem dX2_reads_28 : decode cX2_reads 28 = .ok (.iconst 1, 1) := by decide +kernel
theorem dX2_reads_29 : decode cX2_reads 29 = .ok (.goto 4, 3) := by decide +kernel
theorem dX2_reads_32 : decode cX2_reads 32 = .ok (.iconst 0, 1) := by decide +kernel
theorem dX2_reads_33 : decode cX2_reads 33 = .ok (.ireturn, 1) := by decide +kernel
theorem dX2_waysToBurn_0 : decode cX2_waysToBurn 0 = .ok (.aload_n 0, 1) := by decide +kernel
theorem dX2_waysToBurn_1 : decode cX2_waysToBurn 1 = .ok (.getfield 30, 3) := by decide +kernel
theorem dX2_waysToBurn_4 : decode cX2_waysToBurn 4 = .ok (.getfield 92, 3) := by decide +kernel
theorem dX2_waysToBurn_7 : decode cX2_waysToBurn 7 = .ok (.iload_n 1, 1) := by decide +kernel
theorem dX2_waysToBurn_8 : decode cX2_waysToBurn 8 = .ok (.iaload, 1) := by decide +kernel
theorem dX2_waysToBurn_9 : decode cX2_waysToBurn 9 = .ok (.istore 5, 2) := by decide +kernel
theorem dX2_waysToBurn_11 : decode cX2_waysToBurn 11 = .ok (.aload_n 0, 1) := by decide +kernel
theorem dX2_waysToBurn_12 : decode cX2_waysToBurn 12 = .ok (.getfield 30, 3) := by decide +kernel
theorem dX2_waysToBurn_15 : decode cX2_waysToBurn 15 = .ok (.getfield 36, 3) := by decide +kernel
theorem dX2_waysToBurn_18 : decode cX2_waysToBurn 18 = .ok (.iload_n 1, 1) := by decide +kernel
theorem dX2_waysToBurn_19 : decode cX2_waysToBurn 19 = .ok (.iaload, 1) := by decide +kernel
theorem dX2_waysToBurn_20 : decode cX2_waysToBurn 20 = .ok (.istore 6, 2) := by decide +kernel
theorem dX2_waysToBurn_22 : decode cX2_waysToBurn 22 = .ok (.iconst 1, 1) := by decide +kernel
theorem dX2_waysToBurn_23 : decode cX2_waysToBurn 23 = .ok (.istore 7, 2) := by decide +kernel
theorem dX2_waysToBurn_25 : decode cX2_waysToBurn 25 = .ok (.iconst 0, 1) := by decide +kernel
theorem dX2_waysToBurn_26 : decode cX2_waysToBurn 26 = .ok (.istore 8, 2) := by decide +kernel
theorem dX2_waysToBurn_28 : decode cX2_waysToBurn 28 = .ok (.iload 8, 2) := by decide +kernel
theorem dX2_waysToBurn_30 : decode cX2_waysToBurn 30 = .ok (.iload 4, 2) := by decide +kernel
theorem dX2_waysToBurn_32 : decode cX2_waysToBurn 32 = .ok (.if_icmp .ge 85, 3) := by decide +kernel
theorem dX2_waysToBurn_35 : decode cX2_waysToBurn 35 = .ok (.iconst 0, 1) := by decide +kernel
theorem dX2_waysToBurn_36 : decode cX2_waysToBurn 36 = .ok (.istore 9, 2) := by decide +kernel
theorem dX2_waysToBurn_38 : decode cX2_waysToBurn 38 = .ok (.iconst 3, 1) := by decide +kernel
theorem dX2_waysToBurn_39 : decode cX2_waysToBurn 39 = .ok (.istore 10, 2) := by decide +kernel
theorem dX2_waysToBurn_41 : decode cX2_waysToBurn 41 = .ok (.iload 10, 2) := by decide +kernel
theorem dX2_waysToBurn_43 : decode cX2_waysToBurn 43 = .ok (.ifCond .lt 46, 3) := by decide +kernel
theorem dX2_waysToBurn_46 : decode cX2_waysToBurn 46 = .ok (.aload_n 0, 1) := by decide +kernel
theorem dX2_waysToBurn_47 : decode cX2_waysToBurn 47 = .ok (.getfield 30, 3) := by decide +kernel
theorem dX2_waysToBurn_50 : decode cX2_waysToBurn 50 = .ok (.iload 5, 2) := by decide +kernel
theorem dX2_waysToBurn_52 : decode cX2_waysToBurn 52 = .ok (.iload 6, 2) := by decide +kernel
theorem dX2_waysToBurn_54 : decode cX2_waysToBurn 54 = .ok (.iload 10, 2) := by decide +kernel
theorem dX2_waysToBurn_56 : decode cX2_waysToBurn 56 = .ok (.invokestatic 95, 3) := by decide +kernel
theorem dX2_waysToBurn_59 : decode cX2_waysToBurn 59 = .ok (.invokevirtual 39, 3) := by decide +kernel
theorem dX2_waysToBurn_62 : decode cX2_waysToBurn 62 = .ok (.aload_n 2, 1) := by decide +kernel
theorem dX2_waysToBurn_63 : decode cX2_waysToBurn 63 = .ok (.iload_n 3, 1) := by decide +kernel
theorem dX2_waysToBurn_64 : decode cX2_waysToBurn 64 = .ok (.iload 8, 2) := by decide +kernel
theorem dX2_waysToBurn_66 : decode cX2_waysToBurn 66 = .ok (.iadd, 1) := by decide +kernel
theorem dX2_waysToBurn_67 : decode cX2_waysToBurn 67 = .ok (.iaload, 1) := by decide +kernel
theorem dX2_waysToBurn_68 : decode cX2_waysToBurn 68 = .ok (.if_icmp .ne 15, 3) := by decide +kernel
theorem dX2_waysToBurn_71 : decode cX2_waysToBurn 71 = .ok (.iinc 9 1, 3) := by decide +kernel
theorem dX2_waysToBurn_74 : decode cX2_waysToBurn 74 = .ok (.aload_n 0, 1) := by decide +kernel
theorem dX2_waysToBurn_75 : decode cX2_waysToBurn 75 = .ok (.getfield 18, 3) := by decide +kernel
theorem dX2_waysToBurn_78 : decode cX2_waysToBurn 78 = .ok (.iload 8, 2) := by decide +kernel
theorem dX2_waysToBurn_80 : decode cX2_waysToBurn 80 = .ok (.iload 10, 2) := by decide +kernel
theorem dX2_waysToBurn_82 : decode cX2_waysToBurn 82 = .ok (.iastore, 1) := by decide +kernel
theorem dX2_waysToBurn_83 : decode cX2_waysToBurn 83 = .ok (.iinc 10 (-1), 3) := by decide +kernel
theorem dX2_waysToBurn_86 : decode cX2_waysToBurn 86 = .ok (.goto (-45), 3) := by decide +kernel
theorem dX2_waysToBurn_89 : decode cX2_waysToBurn 89 = .ok (.iload 9, 2) := by decide +kernel
theorem dX2_waysToBurn_91 : decode cX2_waysToBurn 91 = .ok (.ifCond .ne 5, 3) := by decide +kernel
theorem dX2_waysToBurn_94 : decode cX2_waysToBurn 94 = .ok (.iconst 0, 1) := by decide +kernel
theorem dX2_waysToBurn_95 : decode cX2_waysToBurn 95 = .ok (.ireturn, 1) := by decide +kernel
theorem dX2_waysToBurn_96 : decode cX2_waysToBurn 96 = .ok (.iload 7, 2) := by decide +kernel
theorem dX2_waysToBurn_98 : decode cX2_waysToBurn 98 = .ok (.iload 9, 2) := by decide +kernel
theorem dX2_waysToBurn_100 : decode cX2_waysToBurn 100 = .ok (.imul, 1) := by decide +kernel
theorem dX2_waysToBurn_101 : decode cX2_waysToBurn 101 = .ok (.istore 7, 2) := by decide +kernel
theorem dX2_waysToBurn_103 : decode cX2_waysToBurn 103 = .ok (.aload_n 2, 1) := by decide +kernel
theorem dX2_waysToBurn_104 : decode cX2_waysToBurn 104 = .ok (.iload_n 3, 1) := by decide +kernel
theorem dX2_waysToBurn_105 : decode cX2_waysToBurn 105 = .ok (.iload 8, 2) := by decide +kernel
theorem dX2_waysToBurn_107 : decode cX2_waysToBurn 107 = .ok (.iadd, 1) := by decide +kernel
theorem dX2_waysToBurn_108 : decode cX2_waysToBurn 108 = .ok (.iaload, 1) := by decide +kernel
theorem dX2_waysToBurn_109 : decode cX2_waysToBurn 109 = .ok (.istore 6, 2) := by decide +kernel
theorem dX2_waysToBurn_111 : decode cX2_waysToBurn 111 = .ok (.iinc 8 1, 3) := by decide +kernel
theorem dX2_waysToBurn_114 : decode cX2_waysToBurn 114 = .ok (.goto (-86), 3) := by decide +kernel
theorem dX2_waysToBurn_117 : decode cX2_waysToBurn 117 = .ok (.iload 7, 2) := by decide +kernel
theorem dX2_waysToBurn_119 : decode cX2_waysToBurn 119 = .ok (.ireturn, 1) := by decide +kernel
theorem dX2_kindsThatFit_0 : decode cX2_kindsThatFit 0 = .ok (.iconst 0, 1) := by decide +kernel
theorem dX2_kindsThatFit_1 : decode cX2_kindsThatFit 1 = .ok (.istore 6, 2) := by decide +kernel
theorem dX2_kindsThatFit_3 : decode cX2_kindsThatFit 3 = .ok (.iconst 1, 1) := by decide +kernel
theorem dX2_kindsThatFit_4 : decode cX2_kindsThatFit 4 = .ok (.istore 7, 2) := by decide +kernel
theorem dX2_kindsThatFit_6 : decode cX2_kindsThatFit 6 = .ok (.iload 7, 2) := by decide +kernel
theorem dX2_kindsThatFit_8 : decode cX2_kindsThatFit 8 = .ok (.iconst 5, 1) := by decide +kernel
theorem dX2_kindsThatFit_9 : decode cX2_kindsThatFit 9 = .ok (.if_icmp .gt 37, 3) := by decide +kernel
theorem dX2_kindsThatFit_12 : decode cX2_kindsThatFit 12 = .ok (.aload_n 0, 1) := by decide +kernel
theorem dX2_kindsThatFit_13 : decode cX2_kindsThatFit 13 = .ok (.iload 7, 2) := by decide +kernel
theorem dX2_kindsThatFit_15 : decode cX2_kindsThatFit 15 = .ok (.iload_n 1, 1) := by decide +kernel
theorem dX2_kindsThatFit_16 : decode cX2_kindsThatFit 16 = .ok (.iload 5, 2) := by decide +kernel
theorem dX2_kindsThatFit_18 : decode cX2_kindsThatFit 18 = .ok (.invokestatic 95, 3) := by decide +kernel
theorem dX2_kindsThatFit_21 : decode cX2_kindsThatFit 21 = .ok (.aload_n 2, 1) := by decide +kernel
theorem dX2_kindsThatFit_22 : decode cX2_kindsThatFit 22 = .ok (.iload_n 3, 1) := by decide +kernel
theorem dX2_kindsThatFit_23 : decode cX2_kindsThatFit 23 = .ok (.iload 4, 2) := by decide +kernel
theorem dX2_kindsThatFit_25 : decode cX2_kindsThatFit 25 = .ok (.invokevirtual 109, 3) := by decide +kernel
theorem dX2_kindsThatFit_28 : decode cX2_kindsThatFit 28 = .ok (.ifCond .eq 12, 3) := by decide +kernel
theorem dX2_kindsThatFit_31 : decode cX2_kindsThatFit 31 = .ok (.iload 6, 2) := by decide +kernel
theorem dX2_kindsThatFit_33 : decode cX2_kindsThatFit 33 = .ok (.iconst 1, 1) := by decide +kernel
theorem dX2_kindsThatFit_34 : decode cX2_kindsThatFit 34 = .ok (.iload 7, 2) := by decide +kernel
theorem dX2_kindsThatFit_36 : decode cX2_kindsThatFit 36 = .ok (.ishl, 1) := by decide +kernel
theorem dX2_kindsThatFit_37 : decode cX2_kindsThatFit 37 = .ok (.ior, 1) := by decide +kernel
theorem dX2_kindsThatFit_38 : decode cX2_kindsThatFit 38 = .ok (.istore 6, 2) := by decide +kernel
theorem dX2_kindsThatFit_40 : decode cX2_kindsThatFit 40 = .ok (.iinc 7 1, 3) := by decide +kernel
theorem dX2_kindsThatFit_43 : decode cX2_kindsThatFit 43 = .ok (.goto (-37), 3) := by decide +kernel
theorem dX2_kindsThatFit_46 : decode cX2_kindsThatFit 46 = .ok (.iload 6, 2) := by decide +kernel
theorem dX2_kindsThatFit_48 : decode cX2_kindsThatFit 48 = .ok (.ireturn, 1) := by decide +kernel
theorem dX2_comesSo_0 : decode cX2_comesSo 0 = .ok (.iload_n 1, 1) := by decide +kernel
theorem dX2_comesSo_1 : decode cX2_comesSo 1 = .ok (.istore 5, 2) := by decide +kernel
theorem dX2_comesSo_3 : decode cX2_comesSo 3 = .ok (.iload_n 3, 1) := by decide +kernel
theorem dX2_comesSo_4 : decode cX2_comesSo 4 = .ok (.istore 6, 2) := by decide +kernel
theorem dX2_comesSo_6 : decode cX2_comesSo 6 = .ok (.iload 6, 2) := by decide +kernel
theorem dX2_comesSo_8 : decode cX2_comesSo 8 = .ok (.iload_n 3, 1) := by decide +kernel
theorem dX2_comesSo_9 : decode cX2_comesSo 9 = .ok (.iload 4, 2) := by decide +kernel
theorem dX2_comesSo_11 : decode cX2_comesSo 11 = .ok (.iadd, 1) := by decide +kernel
theorem dX2_comesSo_12 : decode cX2_comesSo 12 = .ok (.if_icmp .ge 31, 3) := by decide +kernel
theorem dX2_comesSo_15 : decode cX2_comesSo 15 = .ok (.aload_n 0, 1) := by decide +kernel
theorem dX2_comesSo_16 : decode cX2_comesSo 16 = .ok (.getfield 30, 3) := by decide +kernel
theorem dX2_comesSo_19 : decode cX2_comesSo 19 = .ok (.iload 5, 2) := by decide +kernel
theorem dX2_comesSo_21 : decode cX2_comesSo 21 = .ok (.invokevirtual 39, 3) := by decide +kernel
theorem dX2_comesSo_24 : decode cX2_comesSo 24 = .ok (.istore 5, 2) := by decide +kernel
theorem dX2_comesSo_26 : decode cX2_comesSo 26 = .ok (.iload 5, 2) := by decide +kernel
theorem dX2_comesSo_28 : decode cX2_comesSo 28 = .ok (.aload_n 2, 1) := by decide +kernel
theorem dX2_comesSo_29 : decode cX2_comesSo 29 = .ok (.iload 6, 2) := by decide +kernel
theorem dX2_comesSo_31 : decode cX2_comesSo 31 = .ok (.iaload, 1) := by decide +kernel
theorem dX2_comesSo_32 : decode cX2_comesSo 32 = .ok (.if_icmp .eq 5, 3) := by decide +kernel
theorem dX2_comesSo_35 : decode cX2_comesSo 35 = .ok (.iconst 0, 1) := by decide +kernel
theorem dX2_comesSo_36 : decode cX2_comesSo 36 = .ok (.ireturn, 1) := by decide +kernel
theorem dX2_comesSo_37 : decode cX2_comesSo 37 = .ok (.iinc 6 1, 3) := by decide +kernel
theorem dX2_comesSo_40 : decode cX2_comesSo 40 = .ok (.goto (-34), 3) := by decide +kernel
theorem dX2_comesSo_43 : decode cX2_comesSo 43 = .ok (.iconst 1, 1) := by decide +kernel
theorem dX2_comesSo_44 : decode cX2_comesSo 44 = .ok (.ireturn, 1) := by decide +kernel
theorem dX2_landRuled_0 : decode cX2_landRuled 0 = .ok (.aload_n 0, 1) := by decide +kernel
theorem dX2_landRuled_1 : decode cX2_landRuled 1 = .ok (.getfield 22, 3) := by decide +kernel
theorem dX2_landRuled_4 : decode cX2_landRuled 4 = .ok (.iconst 0, 1) := by decide +kernel
theorem dX2_landRuled_5 : decode cX2_landRuled 5 = .ok (.invokestatic 64, 3) := by decide +kernel
theorem dX2_landRuled_8 : decode cX2_landRuled 8 = .ok (.aload_n 0, 1) := by decide +kernel
theorem dX2_landRuled_9 : decode cX2_landRuled 9 = .ok (.getfield 14, 3) := by decide +kernel
theorem dX2_landRuled_12 : decode cX2_landRuled 12 = .ok (.aload_n 0, 1) := by decide +kernel
theorem dX2_landRuled_13 : decode cX2_landRuled 13 = .ok (.getfield 30, 3) := by decide +kernel
theorem dX2_landRuled_16 : decode cX2_landRuled 16 = .ok (.invokevirtual 48, 3) := by decide +kernel
theorem dX2_landRuled_19 : decode cX2_landRuled 19 = .ok (.iconst 0, 1) := by decide +kernel
theorem dX2_landRuled_20 : decode cX2_landRuled 20 = .ok (.istore_n 2, 1) := by decide +kernel
theorem dX2_landRuled_21 : decode cX2_landRuled 21 = .ok (.iload_n 2, 1) := by decide +kernel
theorem dX2_landRuled_22 : decode cX2_landRuled 22 = .ok (.iload_n 1, 1) := by decide +kernel
theorem dX2_landRuled_23 : decode cX2_landRuled 23 = .ok (.if_icmp .ge 53, 3) := by decide +kernel
theorem dX2_landRuled_26 : decode cX2_landRuled 26 = .ok (.aload_n 0, 1) := by decide +kernel
theorem dX2_landRuled_27 : decode cX2_landRuled 27 = .ok (.getfield 14, 3) := by decide +kernel
theorem dX2_landRuled_30 : decode cX2_landRuled 30 = .ok (.invokevirtual 52, 3) := by decide +kernel
theorem dX2_landRuled_33 : decode cX2_landRuled 33 = .ok (.iconst 0, 1) := by decide +kernel
theorem dX2_landRuled_34 : decode cX2_landRuled 34 = .ok (.istore_n 3, 1) := by decide +kernel
theorem dX2_landRuled_35 : decode cX2_landRuled 35 = .ok (.iload_n 3, 1) := by decide +kernel
theorem dX2_landRuled_36 : decode cX2_landRuled 36 = .ok (.aload_n 0, 1) := by decide +kernel
theorem dX2_landRuled_37 : decode cX2_landRuled 37 = .ok (.getfield 14, 3) := by decide +kernel
theorem dX2_landRuled_40 : decode cX2_landRuled 40 = .ok (.getfield 113, 3) := by decide +kernel
theorem dX2_landRuled_43 : decode cX2_landRuled 43 = .ok (.if_icmp .ge 27, 3) := by decide +kernel
theorem dX2_landRuled_46 : decode cX2_landRuled 46 = .ok (.aload_n 0, 1) := by decide +kernel
theorem dX2_landRuled_47 : decode cX2_landRuled 47 = .ok (.getfield 22, 3) := by decide +kernel
theorem dX2_landRuled_50 : decode cX2_landRuled 50 = .ok (.aload_n 0, 1) := by decide +kernel
theorem dX2_landRuled_51 : decode cX2_landRuled 51 = .ok (.getfield 14, 3) := by decide +kernel
theorem dX2_landRuled_54 : decode cX2_landRuled 54 = .ok (.getfield 33, 3) := by decide +kernel
theorem dX2_landRuled_57 : decode cX2_landRuled 57 = .ok (.iload_n 3, 1) := by decide +kernel
theorem dX2_landRuled_58 : decode cX2_landRuled 58 = .ok (.iaload, 1) := by decide +kernel
theorem dX2_landRuled_59 : decode cX2_landRuled 59 = .ok (.dup2, 1) := by decide +kernel
theorem dX2_landRuled_60 : decode cX2_landRuled 60 = .ok (.iaload, 1) := by decide +kernel
theorem dX2_landRuled_61 : decode cX2_landRuled 61 = .ok (.iconst 1, 1) := by decide +kernel
theorem dX2_landRuled_62 : decode cX2_landRuled 62 = .ok (.iadd, 1) := by decide +kernel
theorem dX2_landRuled_63 : decode cX2_landRuled 63 = .ok (.iastore, 1) := by decide +kernel
theorem dX2_landRuled_64 : decode cX2_landRuled 64 = .ok (.iinc 3 1, 3) := by decide +kernel
theorem dX2_landRuled_67 : decode cX2_landRuled 67 = .ok (.goto (-32), 3) := by decide +kernel
theorem dX2_landRuled_70 : decode cX2_landRuled 70 = .ok (.iinc 2 1, 3) := by decide +kernel
theorem dX2_landRuled_73 : decode cX2_landRuled 73 = .ok (.goto (-52), 3) := by decide +kernel
theorem dX2_landRuled_76 : decode cX2_landRuled 76 = .ok (.iconst 0, 1) := by decide +kernel
theorem dX2_landRuled_77 : decode cX2_landRuled 77 = .ok (.istore_n 2, 1) := by decide +kernel
theorem dX2_landRuled_78 : decode cX2_landRuled 78 = .ok (.iconst 1, 1) := by decide +kernel
theorem dX2_landRuled_79 : decode cX2_landRuled 79 = .ok (.istore_n 3, 1) := by decide +kernel
theorem dX2_landRuled_80 : decode cX2_landRuled 80 = .ok (.iload_n 3, 1) := by decide +kernel
theorem dX2_landRuled_81 : decode cX2_landRuled 81 = .ok (.bipush 10, 2) := by decide +kernel
theorem dX2_landRuled_83 : decode cX2_landRuled 83 = .ok (.if_icmp .ge 26, 3) := by decide +kernel
theorem dX2_landRuled_86 : decode cX2_landRuled 86 = .ok (.aload_n 0, 1) := by decide +kernel
theorem dX2_landRuled_87 : decode cX2_landRuled 87 = .ok (.getfield 22, 3) := by decide +kernel
theorem dX2_landRuled_90 : decode cX2_landRuled 90 = .ok (.iload_n 3, 1) := by decide +kernel
theorem dX2_landRuled_91 : decode cX2_landRuled 91 = .ok (.iaload, 1) := by decide +kernel
theorem dX2_landRuled_92 : decode cX2_landRuled 92 = .ok (.aload_n 0, 1) := by decide +kernel
theorem dX2_landRuled_93 : decode cX2_landRuled 93 = .ok (.getfield 22, 3) := by decide +kernel
theorem dX2_landRuled_96 : decode cX2_landRuled 96 = .ok (.iload_n 2, 1) := by decide +kernel
theorem dX2_landRuled_97 : decode cX2_landRuled 97 = .ok (.iaload, 1) := by decide +kernel
theorem dX2_landRuled_98 : decode cX2_landRuled 98 = .ok (.if_icmp .le 5, 3) := by decide +kernel
theorem dX2_landRuled_101 : decode cX2_landRuled 101 = .ok (.iload_n 3, 1) := by decide +kernel
theorem dX2_landRuled_102 : decode cX2_landRuled 102 = .ok (.istore_n 2, 1) := by decide +kernel
theorem dX2_landRuled_103 : decode cX2_landRuled 103 = .ok (.iinc 3 1, 3) := by decide +kernel
theorem dX2_landRuled_106 : decode cX2_landRuled 106 = .ok (.goto (-26), 3) := by decide +kernel
theorem dX2_landRuled_109 : decode cX2_landRuled 109 = .ok (.iload_n 2, 1) := by decide +kernel
theorem dX2_landRuled_110 : decode cX2_landRuled 110 = .ok (.ireturn, 1) := by decide +kernel
theorem dX2_hoursUp_0 : decode cX2_hoursUp 0 = .ok (.aload_n 0, 1) := by decide +kernel
theorem dX2_hoursUp_1 : decode cX2_hoursUp 1 = .ok (.getfield 30, 3) := by decide +kernel
theorem dX2_hoursUp_4 : decode cX2_hoursUp 4 = .ok (.getfield 36, 3) := by decide +kernel
theorem dX2_hoursUp_7 : decode cX2_hoursUp 7 = .ok (.iload_n 1, 1) := by decide +kernel
theorem dX2_hoursUp_8 : decode cX2_hoursUp 8 = .ok (.iaload, 1) := by decide +kernel
theorem dX2_hoursUp_9 : decode cX2_hoursUp 9 = .ok (.istore 4, 2) := by decide +kernel
theorem dX2_hoursUp_11 : decode cX2_hoursUp 11 = .ok (.iload_n 2, 1) := by decide +kernel
theorem dX2_hoursUp_12 : decode cX2_hoursUp 12 = .ok (.istore 5, 2) := by decide +kernel
theorem dX2_hoursUp_14 : decode cX2_hoursUp 14 = .ok (.iload 4, 2) := by decide +kernel
theorem dX2_hoursUp_16 : decode cX2_hoursUp 16 = .ok (.ifCond .ne 5, 3) := by decide +kernel
theorem dX2_hoursUp_19 : decode cX2_hoursUp 19 = .ok (.iconst 0, 1) := by decide +kernel
theorem dX2_hoursUp_20 : decode cX2_hoursUp 20 = .ok (.ireturn, 1) := by decide +kernel
theorem dX2_hoursUp_21 : decode cX2_hoursUp 21 = .ok (.iconst 0, 1) := by decide +kernel
theorem dX2_hoursUp_22 : decode cX2_hoursUp 22 = .ok (.istore 6, 2) := by decide +kernel
theorem dX2_hoursUp_24 : decode cX2_hoursUp 24 = .ok (.iload 6, 2) := by decide +kernel
theorem dX2_hoursUp_26 : decode cX2_hoursUp 26 = .ok (.iload_n 3, 1) := by decide +kernel
theorem dX2_hoursUp_27 : decode cX2_hoursUp 27 = .ok (.if_icmp .ge 65, 3) := by decide +kernel
theorem dX2_hoursUp_30 : decode cX2_hoursUp 30 = .ok (.aload_n 0, 1) := by decide +kernel
theorem dX2_hoursUp_31 : decode cX2_hoursUp 31 = .ok (.getfield 30, 3) := by decide +kernel
theorem dX2_hoursUp_34 : decode cX2_hoursUp 34 = .ok (.iload 4, 2) := by decide +kernel
theorem dX2_hoursUp_36 : decode cX2_hoursUp 36 = .ok (.invokevirtual 39, 3) := by decide +kernel
theorem dX2_hoursUp_39 : decode cX2_hoursUp 39 = .ok (.ifCond .ne 28, 3) := by decide +kernel
theorem dX2_hoursUp_42 : decode cX2_hoursUp 42 = .ok (.iload 5, 2) := by decide +kernel
theorem dX2_hoursUp_44 : decode cX2_hoursUp 44 = .ok (.ifCond .le 23, 3) := by decide +kernel
theorem dX2_hoursUp_47 : decode cX2_hoursUp 47 = .ok (.aload_n 0, 1) := by decide +kernel
theorem dX2_hoursUp_48 : decode cX2_hoursUp 48 = .ok (.getfield 30, 3) := by decide +kernel
theorem dX2_hoursUp_51 : decode cX2_hoursUp 51 = .ok (.getfield 92, 3) := by decide +kernel
theorem dX2_hoursUp_54 : decode cX2_hoursUp 54 = .ok (.iload_n 1, 1) := by decide +kernel
theorem dX2_hoursUp_55 : decode cX2_hoursUp 55 = .ok (.iaload, 1) := by decide +kernel
theorem dX2_hoursUp_56 : decode cX2_hoursUp 56 = .ok (.iload 4, 2) := by decide +kernel
theorem dX2_hoursUp_58 : decode cX2_hoursUp 58 = .ok (.iconst 1, 1) := by decide +kernel
theorem dX2_hoursUp_59 : decode cX2_hoursUp 59 = .ok (.invokestatic 95, 3) := by decide +kernel
theorem dX2_hoursUp_62 : decode cX2_hoursUp 62 = .ok (.istore 4, 2) := by decide +kernel
theorem dX2_hoursUp_64 : decode cX2_hoursUp 64 = .ok (.iinc 5 (-1), 3) := by decide +kernel
theorem dX2_hoursUp_67 : decode cX2_hoursUp 67 = .ok (.aload_n 0, 1) := by decide +kernel
theorem dX2_hoursUp_68 : decode cX2_hoursUp 68 = .ok (.getfield 30, 3) := by decide +kernel
theorem dX2_hoursUp_71 : decode cX2_hoursUp 71 = .ok (.iload 4, 2) := by decide +kernel
theorem dX2_hoursUp_73 : decode cX2_hoursUp 73 = .ok (.invokevirtual 39, 3) := by decide +kernel
theorem dX2_hoursUp_76 : decode cX2_hoursUp 76 = .ok (.istore 4, 2) := by decide +kernel
theorem dX2_hoursUp_78 : decode cX2_hoursUp 78 = .ok (.iload 4, 2) := by decide +kernel
theorem dX2_hoursUp_80 : decode cX2_hoursUp 80 = .ok (.ifCond .ne 6, 3) := by decide +kernel
theorem dX2_hoursUp_83 : decode cX2_hoursUp 83 = .ok (.iload 6, 2) := by decide +kernel
theorem dX2_hoursUp_85 : decode cX2_hoursUp 85 = .ok (.ireturn, 1) := by decide +kernel
theorem dX2_hoursUp_86 : decode cX2_hoursUp 86 = .ok (.iinc 6 1, 3) := by decide +kernel
theorem dX2_hoursUp_89 : decode cX2_hoursUp 89 = .ok (.goto (-65), 3) := by decide +kernel
theorem dX2_hoursUp_92 : decode cX2_hoursUp 92 = .ok (.iload_n 3, 1) := by decide +kernel
theorem dX2_hoursUp_93 : decode cX2_hoursUp 93 = .ok (.ireturn, 1) := by decide +kernel
theorem dX2_fewestFiles_0 : decode cX2_fewestFiles 0 = .ok (.iconst 0, 1) := by decide +kernel
theorem dX2_fewestFiles_1 : decode cX2_fewestFiles 1 = .ok (.istore_n 3, 1) := by decide +kernel
theorem dX2_fewestFiles_2 : decode cX2_fewestFiles 2 = .ok (.iload_n 3, 1) := by decide +kernel
theorem dX2_fewestFiles_3 : decode cX2_fewestFiles 3 = .ok (.bipush 60, 2) := by decide +kernel
theorem dX2_fewestFiles_5 : decode cX2_fewestFiles 5 = .ok (.if_icmp .gt 22, 3) := by decide +kernel
theorem dX2_fewestFiles_8 : decode cX2_fewestFiles 8 = .ok (.aload_n 0, 1) := by decide +kernel
theorem dX2_fewestFiles_9 : decode cX2_fewestFiles 9 = .ok (.iload_n 1, 1) := by decide +kernel
theorem dX2_fewestFiles_10 : decode cX2_fewestFiles 10 = .ok (.iload_n 3, 1) := by decide +kernel
theorem dX2_fewestFiles_11 : decode cX2_fewestFiles 11 = .ok (.iload_n 2, 1) := by decide +kernel
theorem dX2_fewestFiles_12 : decode cX2_fewestFiles 12 = .ok (.invokevirtual 117, 3) := by decide +kernel
theorem dX2_fewestFiles_15 : decode cX2_fewestFiles 15 = .ok (.iload_n 2, 1) := by decide +kernel
theorem dX2_fewestFiles_16 : decode cX2_fewestFiles 16 = .ok (.if_icmp .lt 5, 3) := by decide +kernel
theorem dX2_fewestFiles_19 : decode cX2_fewestFiles 19 = .ok (.iload_n 3, 1) := by decide +kernel
theorem dX2_fewestFiles_20 : decode cX2_fewestFiles 20 = .ok (.ireturn, 1) := by decide +kernel
theorem dX2_fewestFiles_21 : decode cX2_fewestFiles 21 = .ok (.iinc 3 1, 3) := by decide +kernel
theorem dX2_fewestFiles_24 : decode cX2_fewestFiles 24 = .ok (.goto (-22), 3) := by decide +kernel
theorem dX2_fewestFiles_27 : decode cX2_fewestFiles 27 = .ok (.ldc 47, 2) := by decide +kernel
theorem dX2_fewestFiles_29 : decode cX2_fewestFiles 29 = .ok (.ireturn, 1) := by decide +kernel
theorem dX2_casesInLand_0 : decode cX2_casesInLand 0 = .ok (.iconst 0, 1) := by decide +kernel
theorem dX2_casesInLand_1 : decode cX2_casesInLand 1 = .ok (.istore 5, 2) := by decide +kernel
theorem dX2_casesInLand_3 : decode cX2_casesInLand 3 = .ok (.iconst 0, 1) := by decide +kernel
theorem dX2_casesInLand_4 : decode cX2_casesInLand 4 = .ok (.istore 6, 2) := by decide +kernel
theorem dX2_casesInLand_6 : decode cX2_casesInLand 6 = .ok (.iload 6, 2) := by decide +kernel
theorem dX2_casesInLand_8 : decode cX2_casesInLand 8 = .ok (.bipush 16, 2) := by decide +kernel
theorem dX2_casesInLand_10 : decode cX2_casesInLand 10 = .ok (.if_icmp .ge 33, 3) := by decide +kernel
theorem dX2_casesInLand_13 : decode cX2_casesInLand 13 = .ok (.aload_n 0, 1) := by decide +kernel
theorem dX2_casesInLand_14 : decode cX2_casesInLand 14 = .ok (.iload_n 1, 1) := by decide +kernel
theorem dX2_casesInLand_15 : decode cX2_casesInLand 15 = .ok (.iload_n 3, 1) := by decide +kernel
theorem dX2_casesInLand_16 : decode cX2_casesInLand 16 = .ok (.iload 6, 2) := by decide +kernel
theorem dX2_casesInLand_18 : decode cX2_casesInLand 18 = .ok (.invokevirtual 120, 3) := by decide +kernel
theorem dX2_casesInLand_21 : decode cX2_casesInLand 21 = .ok (.iload_n 2, 1) := by decide +kernel
theorem dX2_casesInLand_22 : decode cX2_casesInLand 22 = .ok (.if_icmp .ne 15, 3) := by decide +kernel
theorem dX2_casesInLand_25 : decode cX2_casesInLand 25 = .ok (.iload 5, 2) := by decide +kernel
theorem dX2_casesInLand_27 : decode cX2_casesInLand 27 = .ok (.iload 6, 2) := by decide +kernel
theorem dX2_casesInLand_29 : decode cX2_casesInLand 29 = .ok (.iload 4, 2) := by decide +kernel
theorem dX2_casesInLand_31 : decode cX2_casesInLand 31 = .ok (.invokestatic 123, 3) := by decide +kernel
theorem dX2_casesInLand_34 : decode cX2_casesInLand 34 = .ok (.iadd, 1) := by decide +kernel
theorem dX2_casesInLand_35 : decode cX2_casesInLand 35 = .ok (.istore 5, 2) := by decide +kernel
theorem dX2_casesInLand_37 : decode cX2_casesInLand 37 = .ok (.iinc 6 1, 3) := by decide +kernel
theorem dX2_casesInLand_40 : decode cX2_casesInLand 40 = .ok (.goto (-34), 3) := by decide +kernel
theorem dX2_casesInLand_43 : decode cX2_casesInLand 43 = .ok (.iload 5, 2) := by decide +kernel
theorem dX2_casesInLand_45 : decode cX2_casesInLand 45 = .ok (.ireturn, 1) := by decide +kernel
theorem dX2_landIfTurned_0 : decode cX2_landIfTurned 0 = .ok (.aload_n 0, 1) := by decide +kernel
theorem dX2_landIfTurned_1 : decode cX2_landIfTurned 1 = .ok (.getfield 30, 3) := by decide +kernel
theorem dX2_landIfTurned_4 : decode cX2_landIfTurned 4 = .ok (.getfield 33, 3) := by decide +kernel
theorem dX2_landIfTurned_7 : decode cX2_landIfTurned 7 = .ok (.iload_n 1, 1) := by decide +kernel
theorem dX2_landIfTurned_8 : decode cX2_landIfTurned 8 = .ok (.iaload, 1) := by decide +kernel
theorem dX2_landIfTurned_9 : decode cX2_landIfTurned 9 = .ok (.istore 4, 2) := by decide +kernel
theorem dX2_landIfTurned_11 : decode cX2_landIfTurned 11 = .ok (.aload_n 0, 1) := by decide +kernel
theorem dX2_landIfTurned_12 : decode cX2_landIfTurned 12 = .ok (.getfield 30, 3) := by decide +kernel
theorem dX2_landIfTurned_15 : decode cX2_landIfTurned 15 = .ok (.getfield 36, 3) := by decide +kernel
theorem dX2_landIfTurned_18 : decode cX2_landIfTurned 18 = .ok (.iload_n 1, 1) := by decide +kernel
theorem dX2_landIfTurned_19 : decode cX2_landIfTurned 19 = .ok (.iaload, 1) := by decide +kernel
theorem dX2_landIfTurned_20 : decode cX2_landIfTurned 20 = .ok (.istore 5, 2) := by decide +kernel
theorem dX2_landIfTurned_22 : decode cX2_landIfTurned 22 = .ok (.iconst 0, 1) := by decide +kernel
theorem dX2_landIfTurned_23 : decode cX2_landIfTurned 23 = .ok (.istore 6, 2) := by decide +kernel
theorem dX2_landIfTurned_25 : decode cX2_landIfTurned 25 = .ok (.iload 6, 2) := by decide +kernel
theorem dX2_landIfTurned_27 : decode cX2_landIfTurned 27 = .ok (.iload_n 2, 1) := by decide +kernel
theorem dX2_landIfTurned_28 : decode cX2_landIfTurned 28 = .ok (.if_icmp .ge 71, 3) := by decide +kernel
theorem dX2_landIfTurned_31 : decode cX2_landIfTurned 31 = .ok (.aload_n 0, 1) := by decide +kernel
theorem dX2_landIfTurned_32 : decode cX2_landIfTurned 32 = .ok (.getfield 30, 3) := by decide +kernel
theorem dX2_landIfTurned_35 : decode cX2_landIfTurned 35 = .ok (.iload 5, 2) := by decide +kernel
theorem dX2_landIfTurned_37 : decode cX2_landIfTurned 37 = .ok (.invokevirtual 39, 3) := by decide +kernel
theorem dX2_landIfTurned_40 : decode cX2_landIfTurned 40 = .ok (.istore 5, 2) := by decide +kernel
theorem dX2_landIfTurned_42 : decode cX2_landIfTurned 42 = .ok (.aload_n 0, 1) := by decide +kernel
theorem dX2_landIfTurned_43 : decode cX2_landIfTurned 43 = .ok (.getfield 30, 3) := by decide +kernel
theorem dX2_landIfTurned_46 : decode cX2_landIfTurned 46 = .ok (.iload 5, 2) := by decide +kernel
theorem dX2_landIfTurned_48 : decode cX2_landIfTurned 48 = .ok (.invokevirtual 126, 3) := by decide +kernel
theorem dX2_landIfTurned_51 : decode cX2_landIfTurned 51 = .ok (.istore 7, 2) := by decide +kernel
theorem dX2_landIfTurned_53 : decode cX2_landIfTurned 53 = .ok (.iload_n 3, 1) := by decide +kernel
theorem dX2_landIfTurned_54 : decode cX2_landIfTurned 54 = .ok (.iload 5, 2) := by decide +kernel
theorem dX2_landIfTurned_56 : decode cX2_landIfTurned 56 = .ok (.invokestatic 104, 3) := by decide +kernel
theorem dX2_landIfTurned_59 : decode cX2_landIfTurned 59 = .ok (.ishr, 1) := by decide +kernel
theorem dX2_landIfTurned_60 : decode cX2_landIfTurned 60 = .ok (.iconst 1, 1) := by decide +kernel
theorem dX2_landIfTurned_61 : decode cX2_landIfTurned 61 = .ok (.iand, 1) := by decide +kernel
theorem dX2_landIfTurned_62 : decode cX2_landIfTurned 62 = .ok (.iconst 1, 1) := by decide +kernel
theorem dX2_landIfTurned_63 : decode cX2_landIfTurned 63 = .ok (.if_icmp .ne 7, 3) := by decide +kernel
theorem dX2_landIfTurned_66 : decode cX2_landIfTurned 66 = .ok (.iconst 1, 1) := by decide +kernel
theorem dX2_landIfTurned_67 : decode cX2_landIfTurned 67 = .ok (.goto 4, 3) := by decide +kernel
theorem dX2_landIfTurned_70 : decode cX2_landIfTurned 70 = .ok (.iconst 0, 1) := by decide +kernel
theorem dX2_landIfTurned_71 : decode cX2_landIfTurned 71 = .ok (.istore 8, 2) := by decide +kernel
theorem dX2_landIfTurned_73 : decode cX2_landIfTurned 73 = .ok (.iload 4, 2) := by decide +kernel
theorem dX2_landIfTurned_75 : decode cX2_landIfTurned 75 = .ok (.iload 8, 2) := by decide +kernel
theorem dX2_landIfTurned_77 : decode cX2_landIfTurned 77 = .ok (.ifCond .eq 9, 3) := by decide +kernel
theorem dX2_landIfTurned_80 : decode cX2_landIfTurned 80 = .ok (.iload 7, 2) := by decide +kernel
theorem dX2_landIfTurned_82 : decode cX2_landIfTurned 82 = .ok (.ineg, 1) := by decide +kernel
theorem dX2_landIfTurned_83 : decode cX2_landIfTurned 83 = .ok (.goto 5, 3) := by decide +kernel
theorem dX2_landIfTurned_86 : decode cX2_landIfTurned 86 = .ok (.iload 7, 2) := by decide +kernel
theorem dX2_landIfTurned_88 : decode cX2_landIfTurned 88 = .ok (.invokestatic 129, 3) := by decide +kernel
theorem dX2_landIfTurned_91 : decode cX2_landIfTurned 91 = .ok (.istore 4, 2) := by decide +kernel
theorem dX2_landIfTurned_93 : decode cX2_landIfTurned 93 = .ok (.iinc 6 1, 3) := by decide +kernel
theorem dX2_landIfTurned_96 : decode cX2_landIfTurned 96 = .ok (.goto (-71), 3) := by decide +kernel
theorem dX2_landIfTurned_99 : decode cX2_landIfTurned 99 = .ok (.iload 4, 2) := by decide +kernel
theorem dX2_landIfTurned_101 : decode cX2_landIfTurned 101 = .ok (.ireturn, 1) := by decide +kernel
theorem dX2_casesOf_0 : decode cX2_casesOf 0 = .ok (.iconst 1, 1) := by decide +kernel
theorem dX2_casesOf_1 : decode cX2_casesOf 1 = .ok (.istore_n 2, 1) := by decide +kernel
theorem dX2_casesOf_2 : decode cX2_casesOf 2 = .ok (.iconst 0, 1) := by decide +kernel
theorem dX2_casesOf_3 : decode cX2_casesOf 3 = .ok (.istore_n 3, 1) := by decide +kernel
theorem dX2_casesOf_4 : decode cX2_casesOf 4 = .ok (.iload_n 3, 1) := by decide +kernel
theorem dX2_casesOf_5 : decode cX2_casesOf 5 = .ok (.iconst 4, 1) := by decide +kernel
theorem dX2_casesOf_6 : decode cX2_casesOf 6 = .ok (.if_icmp .ge 29, 3) := by decide +kernel
theorem dX2_casesOf_9 : decode cX2_casesOf 9 = .ok (.iload_n 2, 1) := by decide +kernel
theorem dX2_casesOf_10 : decode cX2_casesOf 10 = .ok (.iload_n 0, 1) := by decide +kernel
theorem dX2_casesOf_11 : decode cX2_casesOf 11 = .ok (.iload_n 3, 1) := by decide +kernel
theorem dX2_casesOf_12 : decode cX2_casesOf 12 = .ok (.ishr, 1) := by decide +kernel
theorem dX2_casesOf_13 : decode cX2_casesOf 13 = .ok (.iconst 1, 1) := by decide +kernel
theorem dX2_casesOf_14 : decode cX2_casesOf 14 = .ok (.iand, 1) := by decide +kernel
theorem dX2_casesOf_15 : decode cX2_casesOf 15 = .ok (.iconst 1, 1) := by decide +kernel
theorem dX2_casesOf_16 : decode cX2_casesOf 16 = .ok (.if_icmp .ne 7, 3) := by decide +kernel
theorem dX2_casesOf_19 : decode cX2_casesOf 19 = .ok (.iload_n 1, 1) := by decide +kernel
theorem dX2_casesOf_20 : decode cX2_casesOf 20 = .ok (.goto 7, 3) := by decide +kernel
theorem dX2_casesOf_23 : decode cX2_casesOf 23 = .ok (.bipush 10, 2) := by decide +kernel
theorem dX2_casesOf_25 : decode cX2_casesOf 25 = .ok (.iload_n 1, 1) := by decide +kernel
theorem dX2_casesOf_26 : decode cX2_casesOf 26 = .ok (.isub, 1) := by decide +kernel
theorem dX2_casesOf_27 : decode cX2_casesOf 27 = .ok (.imul, 1) := by decide +kernel
theorem dX2_casesOf_28 : decode cX2_casesOf 28 = .ok (.istore_n 2, 1) := by decide +kernel
theorem dX2_casesOf_29 : decode cX2_casesOf 29 = .ok (.iinc 3 1, 3) := by decide +kernel
theorem dX2_casesOf_32 : decode cX2_casesOf 32 = .ok (.goto (-28), 3) := by decide +kernel
theorem dX2_casesOf_35 : decode cX2_casesOf 35 = .ok (.iload_n 2, 1) := by decide +kernel
theorem dX2_casesOf_36 : decode cX2_casesOf 36 = .ok (.ireturn, 1) := by decide +kernel
theorem dX2_commonDivisor_0 : decode cX2_commonDivisor 0 = .ok (.iload_n 0, 1) := by decide +kernel
theorem dX2_commonDivisor_1 : decode cX2_commonDivisor 1 = .ok (.istore_n 2, 1) := by decide +kernel
theorem dX2_commonDivisor_2 : decode cX2_commonDivisor 2 = .ok (.iload_n 1, 1) := by decide +kernel
theorem dX2_commonDivisor_3 : decode cX2_commonDivisor 3 = .ok (.istore_n 3, 1) := by decide +kernel
theorem dX2_commonDivisor_4 : decode cX2_commonDivisor 4 = .ok (.iconst 0, 1) := by decide +kernel
theorem dX2_commonDivisor_5 : decode cX2_commonDivisor 5 = .ok (.istore 4, 2) := by decide +kernel
theorem dX2_commonDivisor_7 : decode cX2_commonDivisor 7 = .ok (.iload 4, 2) := by decide +kernel
theorem dX2_commonDivisor_9 : decode cX2_commonDivisor 9 = .ok (.bipush 100, 2) := by decide +kernel
theorem dX2_commonDivisor_11 : decode cX2_commonDivisor 11 = .ok (.if_icmp .ge 23, 3) := by decide +kernel
theorem dX2_commonDivisor_14 : decode cX2_commonDivisor 14 = .ok (.iload_n 3, 1) := by decide +kernel
theorem dX2_commonDivisor_15 : decode cX2_commonDivisor 15 = .ok (.ifCond .eq 19, 3) := by decide +kernel
theorem dX2_commonDivisor_18 : decode cX2_commonDivisor 18 = .ok (.iload_n 2, 1) := by decide +kernel
theorem dX2_commonDivisor_19 : decode cX2_commonDivisor 19 = .ok (.iload_n 3, 1) := by decide +kernel
theorem dX2_commonDivisor_20 : decode cX2_commonDivisor 20 = .ok (.irem, 1) := by decide +kernel
theorem dX2_commonDivisor_21 : decode cX2_commonDivisor 21 = .ok (.istore 5, 2) := by decide +kernel
theorem dX2_commonDivisor_23 : decode cX2_commonDivisor 23 = .ok (.iload_n 3, 1) := by decide +kernel
theorem dX2_commonDivisor_24 : decode cX2_commonDivisor 24 = .ok (.istore_n 2, 1) := by decide +kernel
theorem dX2_commonDivisor_25 : decode cX2_commonDivisor 25 = .ok (.iload 5, 2) := by decide +kernel
theorem dX2_commonDivisor_27 : decode cX2_commonDivisor 27 = .ok (.istore_n 3, 1) := by decide +kernel
theorem dX2_commonDivisor_28 : decode cX2_commonDivisor 28 = .ok (.iinc 4 1, 3) := by decide +kernel
theorem dX2_commonDivisor_31 : decode cX2_commonDivisor 31 = .ok (.goto (-24), 3) := by decide +kernel
theorem dX2_commonDivisor_34 : decode cX2_commonDivisor 34 = .ok (.iload_n 2, 1) := by decide +kernel
theorem dX2_commonDivisor_35 : decode cX2_commonDivisor 35 = .ok (.ireturn, 1) := by decide +kernel
theorem dX2_sheetsByDraws_0 : decode cX2_sheetsByDraws 0 = .ok (.aload_n 0, 1) := by decide +kernel
theorem dX2_sheetsByDraws_1 : decode cX2_sheetsByDraws 1 = .ok (.getfield 14, 3) := by decide +kernel
theorem dX2_sheetsByDraws_4 : decode cX2_sheetsByDraws 4 = .ok (.aload_n 0, 1) := by decide +kernel
theorem dX2_sheetsByDraws_5 : decode cX2_sheetsByDraws 5 = .ok (.getfield 30, 3) := by decide +kernel
theorem dX2_sheetsByDraws_8 : decode cX2_sheetsByDraws 8 = .ok (.invokevirtual 48, 3) := by decide +kernel
theorem dX2_sheetsByDraws_11 : decode cX2_sheetsByDraws 11 = .ok (.iconst 0, 1) := by decide +kernel
theorem dX2_sheetsByDraws_12 : decode cX2_sheetsByDraws 12 = .ok (.istore_n 3, 1) := by decide +kernel
theorem dX2_sheetsByDraws_13 : decode cX2_sheetsByDraws 13 = .ok (.iload_n 2, 1) := by decide +kernel
theorem dX2_sheetsByDraws_14 : decode cX2_sheetsByDraws 14 = .ok (.i2l, 1) := by decide +kernel
theorem dX2_sheetsByDraws_15 : decode cX2_sheetsByDraws 15 = .ok (.lstore 4, 2) := by decide +kernel
theorem dX2_sheetsByDraws_17 : decode cX2_sheetsByDraws 17 = .ok (.iconst 0, 1) := by decide +kernel
theorem dX2_sheetsByDraws_18 : decode cX2_sheetsByDraws 18 = .ok (.istore 6, 2) := by decide +kernel
theorem dX2_sheetsByDraws_20 : decode cX2_sheetsByDraws 20 = .ok (.iload 6, 2) := by decide +kernel
theorem dX2_sheetsByDraws_22 : decode cX2_sheetsByDraws 22 = .ok (.iload_n 1, 1) := by decide +kernel
theorem dX2_sheetsByDraws_23 : decode cX2_sheetsByDraws 23 = .ok (.if_icmp .ge 90, 3) := by decide +kernel
theorem dX2_sheetsByDraws_26 : decode cX2_sheetsByDraws 26 = .ok (.aload_n 0, 1) := by decide +kernel
theorem dX2_sheetsByDraws_27 : decode cX2_sheetsByDraws 27 = .ok (.getfield 14, 3) := by decide +kernel
theorem dX2_sheetsByDraws_30 : decode cX2_sheetsByDraws 30 = .ok (.getfield 113, 3) := by decide +kernel
theorem dX2_sheetsByDraws_33 : decode cX2_sheetsByDraws 33 = .ok (.ifCond .le 80, 3) := by decide +kernel
theorem dX2_sheetsByDraws_36 : decode cX2_sheetsByDraws 36 = .ok (.lload 4, 2) := by decide +kernel
theorem dX2_sheetsByDraws_38 : decode cX2_sheetsByDraws 38 = .ok (.ldc2_w 132, 3) := by decide +kernel
theorem dX2_sheetsByDraws_41 : decode cX2_sheetsByDraws 41 = .ok (.lmul, 1) := by decide +kernel
theorem dX2_sheetsByDraws_42 : decode cX2_sheetsByDraws 42 = .ok (.ldc2_w 134, 3) := by decide +kernel
theorem dX2_sheetsByDraws_45 : decode cX2_sheetsByDraws 45 = .ok (.lrem, 1) := by decide +kernel
theorem dX2_sheetsByDraws_46 : decode cX2_sheetsByDraws 46 = .ok (.lstore 4, 2) := by decide +kernel
theorem dX2_sheetsByDraws_48 : decode cX2_sheetsByDraws 48 = .ok (.lload 4, 2) := by decide +kernel
theorem dX2_sheetsByDraws_50 : decode cX2_sheetsByDraws 50 = .ok (.aload_n 0, 1) := by decide +kernel
theorem dX2_sheetsByDraws_51 : decode cX2_sheetsByDraws 51 = .ok (.getfield 14, 3) := by decide +kernel
theorem dX2_sheetsByDraws_54 : decode cX2_sheetsByDraws 54 = .ok (.getfield 113, 3) := by decide +kernel
theorem dX2_sheetsByDraws_57 : decode cX2_sheetsByDraws 57 = .ok (.i2l, 1) := by decide +kernel
theorem dX2_sheetsByDraws_58 : decode cX2_sheetsByDraws 58 = .ok (.lrem, 1) := by decide +kernel
theorem dX2_sheetsByDraws_59 : decode cX2_sheetsByDraws 59 = .ok (.l2i, 1) := by decide +kernel
theorem dX2_sheetsByDraws_60 : decode cX2_sheetsByDraws 60 = .ok (.istore 7, 2) := by decide +kernel
theorem dX2_sheetsByDraws_62 : decode cX2_sheetsByDraws 62 = .ok (.lload 4, 2) := by decide +kernel
theorem dX2_sheetsByDraws_64 : decode cX2_sheetsByDraws 64 = .ok (.ldc2_w 136, 3) := by decide +kernel
theorem dX2_sheetsByDraws_67 : decode cX2_sheetsByDraws 67 = .ok (.lrem, 1) := by decide +kernel
theorem dX2_sheetsByDraws_68 : decode cX2_sheetsByDraws 68 = .ok (.l2i, 1) := by decide +kernel
theorem dX2_sheetsByDraws_69 : decode cX2_sheetsByDraws 69 = .ok (.aload_n 0, 1) := by decide +kernel
theorem dX2_sheetsByDraws_70 : decode cX2_sheetsByDraws 70 = .ok (.getfield 14, 3) := by decide +kernel
theorem dX2_sheetsByDraws_73 : decode cX2_sheetsByDraws 73 = .ok (.getfield 83, 3) := by decide +kernel
theorem dX2_sheetsByDraws_76 : decode cX2_sheetsByDraws 76 = .ok (.iload 7, 2) := by decide +kernel
theorem dX2_sheetsByDraws_78 : decode cX2_sheetsByDraws 78 = .ok (.iaload, 1) := by decide +kernel
theorem dX2_sheetsByDraws_79 : decode cX2_sheetsByDraws 79 = .ok (.invokestatic 74, 3) := by decide +kernel
theorem dX2_sheetsByDraws_82 : decode cX2_sheetsByDraws 82 = .ok (.istore 8, 2) := by decide +kernel
theorem dX2_sheetsByDraws_84 : decode cX2_sheetsByDraws 84 = .ok (.aload_n 0, 1) := by decide +kernel
theorem dX2_sheetsByDraws_85 : decode cX2_sheetsByDraws 85 = .ok (.getfield 14, 3) := by decide +kernel
theorem dX2_sheetsByDraws_88 : decode cX2_sheetsByDraws 88 = .ok (.iload 7, 2) := by decide +kernel
theorem dX2_sheetsByDraws_90 : decode cX2_sheetsByDraws 90 = .ok (.iload 8, 2) := by decide +kernel
theorem dX2_sheetsByDraws_92 : decode cX2_sheetsByDraws 92 = .ok (.invokevirtual 138, 3) := by decide +kernel
theorem dX2_sheetsByDraws_95 : decode cX2_sheetsByDraws 95 = .ok (.iload_n 3, 1) := by decide +kernel
theorem dX2_sheetsByDraws_96 : decode cX2_sheetsByDraws 96 = .ok (.iload 8, 2) := by decide +kernel
theorem dX2_sheetsByDraws_98 : decode cX2_sheetsByDraws 98 = .ok (.iadd, 1) := by decide +kernel
theorem dX2_sheetsByDraws_99 : decode cX2_sheetsByDraws 99 = .ok (.istore_n 3, 1) := by decide +kernel
theorem dX2_sheetsByDraws_100 : decode cX2_sheetsByDraws 100 = .ok (.aload_n 0, 1) := by decide +kernel
theorem dX2_sheetsByDraws_101 : decode cX2_sheetsByDraws 101 = .ok (.getfield 14, 3) := by decide +kernel
theorem dX2_sheetsByDraws_104 : decode cX2_sheetsByDraws 104 = .ok (.invokevirtual 52, 3) := by decide +kernel
theorem dX2_sheetsByDraws_107 : decode cX2_sheetsByDraws 107 = .ok (.iinc 6 1, 3) := by decide +kernel
theorem dX2_sheetsByDraws_110 : decode cX2_sheetsByDraws 110 = .ok (.goto (-90), 3) := by decide +kernel
theorem dX2_sheetsByDraws_113 : decode cX2_sheetsByDraws 113 = .ok (.iload_n 3, 1) := by decide +kernel
theorem dX2_sheetsByDraws_114 : decode cX2_sheetsByDraws 114 = .ok (.ireturn, 1) := by decide +kernel
theorem dX3_ofLetter_0 : decode cX3_ofLetter 0 = .ok (.iload_n 0, 1) := by decide +kernel
theorem dX3_ofLetter_1 : decode cX3_ofLetter 1 = .ok (.tableswitch 73 97 108 #[71, 63, 73, 69, 73, 65, 73, 73, 73, 73, 73, 67], 63) := by decide +kernel
theorem dX3_ofLetter_64 : decode cX3_ofLetter 64 = .ok (.iconst 1, 1) := by decide +kernel
theorem dX3_ofLetter_65 : decode cX3_ofLetter 65 = .ok (.ireturn, 1) := by decide +kernel
theorem dX3_ofLetter_66 : decode cX3_ofLetter 66 = .ok (.iconst 2, 1) := by decide +kernel
theorem dX3_ofLetter_67 : decode cX3_ofLetter 67 = .ok (.ireturn, 1) := by decide +kernel
theorem dX3_ofLetter_68 : decode cX3_ofLetter 68 = .ok (.iconst 3, 1) := by decide +kernel
theorem dX3_ofLetter_69 : decode cX3_ofLetter 69 = .ok (.ireturn, 1) := by decide +kernel
theorem dX3_ofLetter_70 : decode cX3_ofLetter 70 = .ok (.iconst 4, 1) := by decide +kernel
theorem dX3_ofLetter_71 : decode cX3_ofLetter 71 = .ok (.ireturn, 1) := by decide +kernel
theorem dX3_ofLetter_72 : decode cX3_ofLetter 72 = .ok (.iconst 5, 1) := by decide +kernel
theorem dX3_ofLetter_73 : decode cX3_ofLetter 73 = .ok (.ireturn, 1) := by decide +kernel
theorem dX3_ofLetter_74 : decode cX3_ofLetter 74 = .ok (.iconst 0, 1) := by decide +kernel
theorem dX3_ofLetter_75 : decode cX3_ofLetter 75 = .ok (.ireturn, 1) := by decide +kernel
theorem dX3_nearest_0 : decode cX3_nearest 0 = .ok (.iload_n 0, 1) := by decide +kernel
theorem dX3_nearest_1 : decode cX3_nearest 1 = .ok (.ifCond .lt 17, 3) := by decide +kernel
theorem dX3_nearest_4 : decode cX3_nearest 4 = .ok (.iload_n 0, 1) := by decide +kernel
theorem dX3_nearest_5 : decode cX3_nearest 5 = .ok (.bipush 6, 2) := by decide +kernel
theorem dX3_nearest_7 : decode cX3_nearest 7 = .ok (.if_icmp .ge 11, 3) := by decide +kernel
theorem dX3_nearest_10 : decode cX3_nearest 10 = .ok (.getstatic 9, 3) := by decide +kernel
theorem dX3_nearest_13 : decode cX3_nearest 13 = .ok (.iload_n 0, 1) := by decide +kernel
theorem dX3_nearest_14 : decode cX3_nearest 14 = .ok (.iaload, 1) := by decide +kernel
theorem dX3_nearest_15 : decode cX3_nearest 15 = .ok (.goto 4, 3) := by decide +kernel
theorem dX3_nearest_18 : decode cX3_nearest 18 = .ok (.iconst 0, 1) := by decide +kernel
theorem dX3_nearest_19 : decode cX3_nearest 19 = .ok (.ireturn, 1) := by decide +kernel
theorem dX3_isSuch_0 : decode cX3_isSuch 0 = .ok (.iload_n 0, 1) := by decide +kernel
theorem dX3_isSuch_1 : decode cX3_isSuch 1 = .ok (.istore_n 2, 1) := by decide +kernel
theorem dX3_isSuch_2 : decode cX3_isSuch 2 = .ok (.iconst 0, 1) := by decide +kernel
theorem dX3_isSuch_3 : decode cX3_isSuch 3 = .ok (.istore_n 3, 1) := by decide +kernel
theorem dX3_isSuch_4 : decode cX3_isSuch 4 = .ok (.iload_n 3, 1) := by decide +kernel
theorem dX3_isSuch_5 : decode cX3_isSuch 5 = .ok (.bipush 6, 2) := by decide +kernel
theorem dX3_isSuch_7 : decode cX3_isSuch 7 = .ok (.if_icmp .ge 23, 3) := by decide +kernel
theorem dX3_isSuch_10 : decode cX3_isSuch 10 = .ok (.iload_n 2, 1) := by decide +kernel
theorem dX3_isSuch_11 : decode cX3_isSuch 11 = .ok (.iload_n 1, 1) := by decide +kernel
theorem dX3_isSuch_12 : decode cX3_isSuch 12 = .ok (.if_icmp .eq 18, 3) := by decide +kernel
theorem dX3_isSuch_15 : decode cX3_isSuch 15 = .ok (.iload_n 2, 1) := by decide +kernel
theorem dX3_isSuch_16 : decode cX3_isSuch 16 = .ok (.ifCond .eq 14, 3) := by decide +kernel
theorem dX3_isSuch_19 : decode cX3_isSuch 19 = .ok (.iload_n 2, 1) := by decide +kernel
theorem dX3_isSuch_20 : decode cX3_isSuch 20 = .ok (.invokestatic 13, 3) := by decide +kernel
theorem dX3_isSuch_23 : decode cX3_isSuch 23 = .ok (.istore_n 2, 1) := by decide +kernel
theorem dX3_isSuch_24 : decode cX3_isSuch 24 = .ok (.iinc 3 1, 3) := by decide +kernel
theorem dX3_isSuch_27 : decode cX3_isSuch 27 = .ok (.goto (-23), 3) := by decide +kernel
theorem dX3_isSuch_30 : decode cX3_isSuch 30 = .ok (.iload_n 2, 1) := by decide +kernel
theorem dX3_isSuch_31 : decode cX3_isSuch 31 = .ok (.iload_n 1, 1) := by decide +kernel
theorem dX3_isSuch_32 : decode cX3_isSuch 32 = .ok (.if_icmp .ne 7, 3) := by decide +kernel
theorem dX3_isSuch_35 : decode cX3_isSuch 35 = .ok (.iconst 1, 1) := by decide +kernel
theorem dX3_isSuch_36 : decode cX3_isSuch 36 = .ok (.goto 4, 3) := by decide +kernel
theorem dX3_isSuch_39 : decode cX3_isSuch 39 = .ok (.iconst 0, 1) := by decide +kernel
theorem dX3_isSuch_40 : decode cX3_isSuch 40 = .ok (.ireturn, 1) := by decide +kernel
theorem dX4_init_0 : decode cX4_init 0 = .ok (.aload_n 0, 1) := by decide +kernel
theorem dX4_init_1 : decode cX4_init 1 = .ok (.invokespecial 3, 3) := by decide +kernel
theorem dX4_init_4 : decode cX4_init 4 = .ok (.aload_n 0, 1) := by decide +kernel
theorem dX4_init_5 : decode cX4_init 5 = .ok (.iconst 1, 1) := by decide +kernel
theorem dX4_init_6 : decode cX4_init 6 = .ok (.putfield 9, 3) := by decide +kernel
theorem dX4_init_9 : decode cX4_init 9 = .ok (.aload_n 0, 1) := by decide +kernel
theorem dX4_init_10 : decode cX4_init 10 = .ok (.bipush 40, 2) := by decide +kernel
theorem dX4_init_12 : decode cX4_init 12 = .ok (.newarray .int, 2) := by decide +kernel
theorem dX4_init_14 : decode cX4_init 14 = .ok (.putfield 15, 3) := by decide +kernel
theorem dX4_init_17 : decode cX4_init 17 = .ok (.return_, 1) := by decide +kernel
theorem dX4_begin_0 : decode cX4_begin 0 = .ok (.aload_n 0, 1) := by decide +kernel
theorem dX4_begin_1 : decode cX4_begin 1 = .ok (.iconst 0, 1) := by decide +kernel
theorem dX4_begin_2 : decode cX4_begin 2 = .ok (.putfield 9, 3) := by decide +kernel
theorem dX4_begin_5 : decode cX4_begin 5 = .ok (.aload_n 0, 1) := by decide +kernel
theorem dX4_begin_6 : decode cX4_begin 6 = .ok (.iload_n 1, 1) := by decide +kernel
theorem dX4_begin_7 : decode cX4_begin 7 = .ok (.putfield 19, 3) := by decide +kernel
theorem dX4_begin_10 : decode cX4_begin 10 = .ok (.aload_n 0, 1) := by decide +kernel
theorem dX4_begin_11 : decode cX4_begin 11 = .ok (.iload_n 2, 1) := by decide +kernel
theorem dX4_begin_12 : decode cX4_begin 12 = .ok (.putfield 23, 3) := by decide +kernel
theorem dX4_begin_15 : decode cX4_begin 15 = .ok (.aload_n 0, 1) := by decide +kernel
theorem dX4_begin_16 : decode cX4_begin 16 = .ok (.getfield 15, 3) := by decide +kernel
theorem dX4_begin_19 : decode cX4_begin 19 = .ok (.iconst 0, 1) := by decide +kernel
theorem dX4_begin_20 : decode cX4_begin 20 = .ok (.invokestatic 26, 3) := by decide +kernel
theorem dX4_begin_23 : decode cX4_begin 23 = .ok (.return_, 1) := by decide +kernel
theorem dX4_findingOf_0 : decode cX4_findingOf 0 = .ok (.aload_n 0, 1) := by decide +kernel
theorem dX4_findingOf_1 : decode cX4_findingOf 1 = .ok (.getfield 9, 3) := by decide +kernel
theorem dX4_findingOf_4 : decode cX4_findingOf 4 = .ok (.ifCond .eq 5, 3) := by decide +kernel
theorem dX4_findingOf_7 : decode cX4_findingOf 7 = .ok (.iconst 1, 1) := by decide +kernel
theorem dX4_findingOf_8 : decode cX4_findingOf 8 = .ok (.ireturn, 1) := by decide +kernel
theorem dX4_findingOf_9 : decode cX4_findingOf 9 = .ok (.aload_n 0, 1) := by decide +kernel
theorem dX4_findingOf_10 : decode cX4_findingOf 10 = .ok (.iload_n 1, 1) := by decide +kernel
theorem dX4_findingOf_11 : decode cX4_findingOf 11 = .ok (.iload_n 2, 1) := by decide +kernel
theorem dX4_findingOf_12 : decode cX4_findingOf 12 = .ok (.invokevirtual 32, 3) := by decide +kernel
theorem dX4_findingOf_15 : decode cX4_findingOf 15 = .ok (.ifCond .eq 7, 3) := by decide +kernel
theorem dX4_findingOf_18 : decode cX4_findingOf 18 = .ok (.iconst 0, 1) := by decide +kernel
theorem dX4_findingOf_19 : decode cX4_findingOf 19 = .ok (.goto 4, 3) := by decide +kernel
theorem dX4_findingOf_22 : decode cX4_findingOf 22 = .ok (.iconst 2, 1) := by decide +kernel
theorem dX4_findingOf_23 : decode cX4_findingOf 23 = .ok (.ireturn, 1) := by decide +kernel
theorem dX4_spans_0 : decode cX4_spans 0 = .ok (.iload_n 1, 1) := by decide +kernel
theorem dX4_spans_1 : decode cX4_spans 1 = .ok (.ifCond .lt 29, 3) := by decide +kernel
theorem dX4_spans_4 : decode cX4_spans 4 = .ok (.iload_n 2, 1) := by decide +kernel
theorem dX4_spans_5 : decode cX4_spans 5 = .ok (.ifCond .lt 25, 3) := by decide +kernel
theorem dX4_spans_8 : decode cX4_spans 8 = .ok (.iload_n 2, 1) := by decide +kernel
theorem dX4_spans_9 : decode cX4_spans 9 = .ok (.aload_n 0, 1) := by decide +kernel
theorem dX4_spans_10 : decode cX4_spans 10 = .ok (.getfield 23, 3) := by decide +kernel
theorem dX4_spans_13 : decode cX4_spans 13 = .ok (.if_icmp .gt 17, 3) := by decide +kernel
theorem dX4_spans_16 : decode cX4_spans 16 = .ok (.iload_n 1, 1) := by decide +kernel
theorem dX4_spans_17 : decode cX4_spans 17 = .ok (.aload_n 0, 1) := by decide +kernel
theorem dX4_spans_18 : decode cX4_spans 18 = .ok (.getfield 23, 3) := by decide +kernel
theorem dX4_spans_21 : decode cX4_spans 21 = .ok (.iload_n 2, 1) := by decide +kernel
theorem dX4_spans_22 : decode cX4_spans 22 = .ok (.isub, 1) := by decide +kernel
theorem dX4_spans_23 : decode cX4_spans 23 = .ok (.if_icmp .gt 7, 3) := by decide +kernel
theorem dX4_spans_26 : decode cX4_spans 26 = .ok (.iconst 1, 1) := by decide +kernel
theorem dX4_spans_27 : decode cX4_spans 27 = .ok (.goto 4, 3) := by decide +kernel
theorem dX4_spans_30 : decode cX4_spans 30 = .ok (.iconst 0, 1) := by decide +kernel
theorem dX4_spans_31 : decode cX4_spans 31 = .ok (.ireturn, 1) := by decide +kernel
theorem dX4_put_0 : decode cX4_put 0 = .ok (.aload_n 0, 1) := by decide +kernel
theorem dX4_put_1 : decode cX4_put 1 = .ok (.getfield 15, 3) := by decide +kernel
theorem dX4_put_4 : decode cX4_put 4 = .ok (.iload_n 1, 1) := by decide +kernel
theorem dX4_put_5 : decode cX4_put 5 = .ok (.aload_n 0, 1) := by decide +kernel
theorem dX4_put_6 : decode cX4_put 6 = .ok (.iload_n 2, 1) := by decide +kernel
theorem dX4_put_7 : decode cX4_put 7 = .ok (.invokevirtual 36, 3) := by decide +kernel
theorem dX4_put_10 : decode cX4_put 10 = .ok (.iastore, 1) := by decide +kernel
theorem dX4_put_11 : decode cX4_put 11 = .ok (.aload_n 0, 1) := by decide +kernel
theorem dX4_put_12 : decode cX4_put 12 = .ok (.getfield 15, 3) := by decide +kernel
theorem dX4_put_15 : decode cX4_put 15 = .ok (.iload_n 1, 1) := by decide +kernel
theorem dX4_put_16 : decode cX4_put 16 = .ok (.iaload, 1) := by decide +kernel
theorem dX4_put_17 : decode cX4_put 17 = .ok (.ireturn, 1) := by decide +kernel
theorem dX4_cut_0 : decode cX4_cut 0 = .ok (.aload_n 0, 1) := by decide +kernel
theorem dX4_cut_1 : decode cX4_cut 1 = .ok (.getfield 19, 3) := by decide +kernel
theorem dX4_cut_4 : decode cX4_cut 4 = .ok (.lookupswitch 34 #[(0, 28), (1, 31)], 28) := by decide +kernel
theorem dX4_cut_32 : decode cX4_cut 32 = .ok (.iload_n 1, 1) := by decide +kernel
theorem dX4_cut_33 : decode cX4_cut 33 = .ok (.i2b, 1) := by decide +kernel
theorem dX4_cut_34 : decode cX4_cut 34 = .ok (.ireturn, 1) := by decide +kernel
theorem dX4_cut_35 : decode cX4_cut 35 = .ok (.iload_n 1, 1) := by decide +kernel
theorem dX4_cut_36 : decode cX4_cut 36 = .ok (.i2s, 1) := by decide +kernel
theorem dX4_cut_37 : decode cX4_cut 37 = .ok (.ireturn, 1) := by decide +kernel
theorem dX4_cut_38 : decode cX4_cut 38 = .ok (.iload_n 1, 1) := by decide +kernel
theorem dX4_cut_39 : decode cX4_cut 39 = .ok (.ireturn, 1) := by decide +kernel
theorem dX6_init_0 : decode cX6_init 0 = .ok (.aload_n 0, 1) := by decide +kernel
theorem dX6_init_1 : decode cX6_init 1 = .ok (.invokespecial 3, 3) := by decide +kernel
theorem dX6_init_4 : decode cX6_init 4 = .ok (.aload_n 0, 1) := by decide +kernel
theorem dX6_init_5 : decode cX6_init 5 = .ok (.bipush 100, 2) := by decide +kernel
theorem dX6_init_7 : decode cX6_init 7 = .ok (.newarray .int, 2) := by decide +kernel
theorem dX6_init_9 : decode cX6_init 9 = .ok (.putfield 11, 3) := by decide +kernel
theorem dX6_init_12 : decode cX6_init 12 = .ok (.return_, 1) := by decide +kernel
theorem dX6_add_0 : decode cX6_add 0 = .ok (.aload_n 0, 1) := by decide +kernel
theorem dX6_add_1 : decode cX6_add 1 = .ok (.getfield 15, 3) := by decide +kernel
theorem dX6_add_4 : decode cX6_add 4 = .ok (.bipush 100, 2) := by decide +kernel
theorem dX6_add_6 : decode cX6_add 6 = .ok (.if_icmp .lt 6, 3) := by decide +kernel
theorem dX6_add_9 : decode cX6_add 9 = .ok (.ldc 19, 2) := by decide +kernel
theorem dX6_add_11 : decode cX6_add 11 = .ok (.ireturn, 1) := by decide +kernel
theorem dX6_add_12 : decode cX6_add 12 = .ok (.aload_n 0, 1) := by decide +kernel
theorem dX6_add_13 : decode cX6_add 13 = .ok (.getfield 11, 3) := by decide +kernel
theorem dX6_add_16 : decode cX6_add 16 = .ok (.aload_n 0, 1) := by decide +kernel
theorem dX6_add_17 : decode cX6_add 17 = .ok (.getfield 15, 3) := by decide +kernel
theorem dX6_add_20 : decode cX6_add 20 = .ok (.iload_n 1, 1) := by decide +kernel
theorem dX6_add_21 : decode cX6_add 21 = .ok (.iastore, 1) := by decide +kernel
theorem dX6_add_22 : decode cX6_add 22 = .ok (.aload_n 0, 1) := by decide +kernel
theorem dX6_add_23 : decode cX6_add 23 = .ok (.dup, 1) := by decide +kernel
theorem dX6_add_24 : decode cX6_add 24 = .ok (.getfield 15, 3) := by decide +kernel
theorem dX6_add_27 : decode cX6_add 27 = .ok (.iconst 1, 1) := by decide +kernel
theorem dX6_add_28 : decode cX6_add 28 = .ok (.iadd, 1) := by decide +kernel
theorem dX6_add_29 : decode cX6_add 29 = .ok (.putfield 15, 3) := by decide +kernel
theorem dX6_add_32 : decode cX6_add 32 = .ok (.aload_n 0, 1) := by decide +kernel
theorem dX6_add_33 : decode cX6_add 33 = .ok (.getfield 15, 3) := by decide +kernel
theorem dX6_add_36 : decode cX6_add 36 = .ok (.ireturn, 1) := by decide +kernel
theorem dX6_readInto_0 : decode cX6_readInto 0 = .ok (.aload_n 0, 1) := by decide +kernel
theorem dX6_readInto_1 : decode cX6_readInto 1 = .ok (.iconst 0, 1) := by decide +kernel
theorem dX6_readInto_2 : decode cX6_readInto 2 = .ok (.putfield 20, 3) := by decide +kernel
theorem dX6_readInto_5 : decode cX6_readInto 5 = .ok (.aload_n 0, 1) := by decide +kernel
theorem dX6_readInto_6 : decode cX6_readInto 6 = .ok (.iconst 0, 1) := by decide +kernel
theorem dX6_readInto_7 : decode cX6_readInto 7 = .ok (.putfield 23, 3) := by decide +kernel
theorem dX6_readInto_10 : decode cX6_readInto 10 = .ok (.aload_n 1, 1) := by decide +kernel
theorem dX6_readInto_11 : decode cX6_readInto 11 = .ok (.invokevirtual 26, 3) := by decide +kernel
theorem dX6_readInto_14 : decode cX6_readInto 14 = .ok (.aload_n 0, 1) := by decide +kernel
theorem dX6_readInto_15 : decode cX6_readInto 15 = .ok (.aload_n 1, 1) := by decide +kernel
theorem dX6_readInto_16 : decode cX6_readInto 16 = .ok (.invokevirtual 31, 3) := by decide +kernel
theorem dX6_readInto_19 : decode cX6_readInto 19 = .ok (.aload_n 0, 1) := by decide +kernel
theorem dX6_readInto_20 : decode cX6_readInto 20 = .ok (.aload_n 1, 1) := by decide +kernel
theorem dX6_readInto_21 : decode cX6_readInto 21 = .ok (.invokevirtual 35, 3) := by decide +kernel
theorem dX6_readInto_24 : decode cX6_readInto 24 = .ok (.iconst 0, 1) := by decide +kernel
theorem dX6_readInto_25 : decode cX6_readInto 25 = .ok (.istore_n 2, 1) := by decide +kernel
theorem dX6_readInto_26 : decode cX6_readInto 26 = .ok (.iload_n 2, 1) := by decide +kernel
theorem dX6_readInto_27 : decode cX6_readInto 27 = .ok (.iconst 5, 1) := by decide +kernel
theorem dX6_readInto_28 : decode cX6_readInto 28 = .ok (.if_icmp .ge 32, 3) := by decide +kernel
theorem dX6_readInto_31 : decode cX6_readInto 31 = .ok (.aload_n 0, 1) := by decide +kernel
theorem dX6_readInto_32 : decode cX6_readInto 32 = .ok (.getfield 23, 3) := by decide +kernel
theorem dX6_readInto_35 : decode cX6_readInto 35 = .ok (.ifCond .ne 25, 3) := by decide +kernel
theorem dX6_readInto_38 : decode cX6_readInto 38 = .ok (.aload_n 0, 1) := by decide +kernel
theorem dX6_readInto_39 : decode cX6_readInto 39 = .ok (.getfield 20, 3) := by decide +kernel
theorem dX6_readInto_42 : decode cX6_readInto 42 = .ok (.aload_n 0, 1) := by decide +kernel
theorem dX6_readInto_43 : decode cX6_readInto 43 = .ok (.getfield 15, 3) := by decide +kernel
theorem dX6_readInto_46 : decode cX6_readInto 46 = .ok (.if_icmp .ge 14, 3) := by decide +kernel
theorem dX6_readInto_49 : decode cX6_readInto 49 = .ok (.aload_n 0, 1) := by decide +kernel
theorem dX6_readInto_50 : decode cX6_readInto 50 = .ok (.aload_n 1, 1) := by decide +kernel
theorem dX6_readInto_51 : decode cX6_readInto 51 = .ok (.invokevirtual 35, 3) := by decide +kernel
theorem dX6_readInto_54 : decode cX6_readInto 54 = .ok (.iinc 2 1, 3) := by decide +kernel
theorem dX6_readInto_57 : decode cX6_readInto 57 = .ok (.goto (-31), 3) := by decide +kernel
theorem dX6_readInto_60 : decode cX6_readInto 60 = .ok (.aload_n 0, 1) := by decide +kernel
theorem dX6_readInto_61 : decode cX6_readInto 61 = .ok (.iconst 0, 1) := by decide +kernel
theorem dX6_readInto_62 : decode cX6_readInto 62 = .ok (.putfield 15, 3) := by decide +kernel
theorem dX6_readInto_65 : decode cX6_readInto 65 = .ok (.aload_n 0, 1) := by decide +kernel
theorem dX6_readInto_66 : decode cX6_readInto 66 = .ok (.getfield 23, 3) := by decide +kernel
theorem dX6_readInto_69 : decode cX6_readInto 69 = .ok (.ireturn, 1) := by decide +kernel
theorem dX6_readLaw_0 : decode cX6_readLaw 0 = .ok (.aload_n 0, 1) := by decide +kernel
theorem dX6_readLaw_1 : decode cX6_readLaw 1 = .ok (.bipush 119, 2) := by decide +kernel
theorem dX6_readLaw_3 : decode cX6_readLaw 3 = .ok (.invokevirtual 38, 3) := by decide +kernel
theorem dX6_readLaw_6 : decode cX6_readLaw 6 = .ok (.iconst 0, 1) := by decide +kernel
theorem dX6_readLaw_7 : decode cX6_readLaw 7 = .ok (.istore_n 2, 1) := by decide +kernel
theorem dX6_readLaw_8 : decode cX6_readLaw 8 = .ok (.iload_n 2, 1) := by decide +kernel
theorem dX6_readLaw_9 : decode cX6_readLaw 9 = .ok (.iconst 4, 1) := by decide +kernel
theorem dX6_readLaw_10 : decode cX6_readLaw 10 = .ok (.if_icmp .ge 26, 3) := by decide +kernel
theorem dX6_readLaw_13 : decode cX6_readLaw 13 = .ok (.aload_n 1, 1) := by decide +kernel
theorem dX6_readLaw_14 : decode cX6_readLaw 14 = .ok (.getfield 42, 3) := by decide +kernel
theorem dX6_readLaw_17 : decode cX6_readLaw 17 = .ok (.iload_n 2, 1) := by decide +kernel
theorem dX6_readLaw_18 : decode cX6_readLaw 18 = .ok (.aload_n 0, 1) := by decide +kernel
theorem dX6_readLaw_19 : decode cX6_readLaw 19 = .ok (.iconst 4, 1) := by decide +kernel
theorem dX6_readLaw_20 : decode cX6_readLaw 20 = .ok (.invokevirtual 45, 3) := by decide +kernel
theorem dX6_readLaw_23 : decode cX6_readLaw 23 = .ok (.iastore, 1) := by decide +kernel
theorem dX6_readLaw_24 : decode cX6_readLaw 24 = .ok (.aload_n 0, 1) := by decide +kernel
theorem dX6_readLaw_25 : decode cX6_readLaw 25 = .ok (.bipush 44, 2) := by decide +kernel
theorem dX6_readLaw_27 : decode cX6_readLaw 27 = .ok (.invokevirtual 38, 3) := by decide +kernel
theorem dX6_readLaw_30 : decode cX6_readLaw 30 = .ok (.iinc 2 1, 3) := by decide +kernel
theorem dX6_readLaw_33 : decode cX6_readLaw 33 = .ok (.goto (-25), 3) := by decide +kernel
theorem dX6_readLaw_36 : decode cX6_readLaw 36 = .ok (.aload_n 1, 1) := by decide +kernel
theorem dX6_readLaw_37 : decode cX6_readLaw 37 = .ok (.aload_n 0, 1) := by decide +kernel
theorem dX6_readLaw_38 : decode cX6_readLaw 38 = .ok (.iconst 3, 1) := by decide +kernel
theorem dX6_readLaw_39 : decode cX6_readLaw 39 = .ok (.invokevirtual 45, 3) := by decide +kernel
theorem dX6_readLaw_42 : decode cX6_readLaw 42 = .ok (.putfield 49, 3) := by decide +kernel
theorem dX6_readLaw_45 : decode cX6_readLaw 45 = .ok (.aload_n 0, 1) := by decide +kernel
theorem dX6_readLaw_46 : decode cX6_readLaw 46 = .ok (.bipush 59, 2) := by decide +kernel
theorem dX6_readLaw_48 : decode cX6_readLaw 48 = .ok (.invokevirtual 38, 3) := by decide +kernel
theorem dX6_readLaw_51 : decode cX6_readLaw 51 = .ok (.return_, 1) := by decide +kernel
theorem dX6_readOffice_0 : decode cX6_readOffice 0 = .ok (.aload_n 0, 1) := by decide +kernel
theorem dX6_readOffice_1 : decode cX6_readOffice 1 = .ok (.aload_n 1, 1) := by decide +kernel
theorem dX6_readOffice_2 : decode cX6_readOffice 2 = .ok (.getfield 52, 3) := by decide +kernel
theorem dX6_readOffice_5 : decode cX6_readOffice 5 = .ok (.invokevirtual 55, 3) := by decide +kernel
theorem dX6_readOffice_8 : decode cX6_readOffice 8 = .ok (.istore_n 2, 1) := by decide +kernel
theorem dX6_readOffice_9 : decode cX6_readOffice 9 = .ok (.aload_n 0, 1) := by decide +kernel
theorem dX6_readOffice_10 : decode cX6_readOffice 10 = .ok (.bipush 9, 2) := by decide +kernel
theorem dX6_readOffice_12 : decode cX6_readOffice 12 = .ok (.invokevirtual 45, 3) := by decide +kernel
theorem dX6_readOffice_15 : decode cX6_readOffice 15 = .ok (.istore_n 3, 1) := by decide +kernel
theorem dX6_readOffice_16 : decode cX6_readOffice 16 = .ok (.aload_n 0, 1) := by decide +kernel
theorem dX6_readOffice_17 : decode cX6_readOffice 17 = .ok (.bipush 44, 2) := by decide +kernel
theorem dX6_readOffice_19 : decode cX6_readOffice 19 = .ok (.invokevirtual 38, 3) := by decide +kernel
theorem dX6_readOffice_22 : decode cX6_readOffice 22 = .ok (.aload_n 0, 1) := by decide +kernel
theorem dX6_readOffice_23 : decode cX6_readOffice 23 = .ok (.bipush 20, 2) := by decide +kernel
theorem dX6_readOffice_25 : decode cX6_readOffice 25 = .ok (.invokevirtual 45, 3) := by decide +kernel
theorem dX6_readOffice_28 : decode cX6_readOffice 28 = .ok (.istore 4, 2) := by decide +kernel
theorem dX6_readOffice_30 : decode cX6_readOffice 30 = .ok (.aload_n 0, 1) := by decide +kernel
theorem dX6_readOffice_31 : decode cX6_readOffice 31 = .ok (.bipush 44, 2) := by decide +kernel
theorem dX6_readOffice_33 : decode cX6_readOffice 33 = .ok (.invokevirtual 38, 3) := by decide +kernel
theorem dX6_readOffice_36 : decode cX6_readOffice 36 = .ok (.aload_n 0, 1) := by decide +kernel
theorem dX6_readOffice_37 : decode cX6_readOffice 37 = .ok (.bipush 60, 2) := by decide +kernel
theorem dX6_readOffice_39 : decode cX6_readOffice 39 = .ok (.invokevirtual 45, 3) := by decide +kernel
theorem dX6_readOffice_42 : decode cX6_readOffice 42 = .ok (.istore 5, 2) := by decide +kernel
theorem dX6_readOffice_44 : decode cX6_readOffice 44 = .ok (.aload_n 0, 1) := by decide +kernel
theorem dX6_readOffice_45 : decode cX6_readOffice 45 = .ok (.bipush 59, 2) := by decide +kernel
theorem dX6_readOffice_47 : decode cX6_readOffice 47 = .ok (.invokevirtual 38, 3) := by decide +kernel
theorem dX6_readOffice_50 : decode cX6_readOffice 50 = .ok (.aload_n 0, 1) := by decide +kernel
theorem dX6_readOffice_51 : decode cX6_readOffice 51 = .ok (.getfield 23, 3) := by decide +kernel
theorem dX6_readOffice_54 : decode cX6_readOffice 54 = .ok (.ifCond .ne 13, 3) := by decide +kernel
theorem dX6_readOffice_57 : decode cX6_readOffice 57 = .ok (.aload_n 1, 1) := by decide +kernel
theorem dX6_readOffice_58 : decode cX6_readOffice 58 = .ok (.iload_n 2, 1) := by decide +kernel
theorem dX6_readOffice_59 : decode cX6_readOffice 59 = .ok (.iload_n 3, 1) := by decide +kernel
theorem dX6_readOffice_60 : decode cX6_readOffice 60 = .ok (.iload 4, 2) := by decide +kernel
theorem dX6_readOffice_62 : decode cX6_readOffice 62 = .ok (.iload 5, 2) := by decide +kernel
theorem dX6_readOffice_64 : decode cX6_readOffice 64 = .ok (.invokevirtual 58, 3) := by decide +kernel
theorem dX6_readOffice_67 : decode cX6_readOffice 67 = .ok (.return_, 1) := by decide +kernel
theorem dX6_takeSort_0 : decode cX6_takeSort 0 = .ok (.aload_n 0, 1) := by decide +kernel
theorem dX6_takeSort_1 : decode cX6_takeSort 1 = .ok (.getfield 23, 3) := by decide +kernel
theorem dX6_takeSort_4 : decode cX6_takeSort 4 = .ok (.ifCond .eq 5, 3) := by decide +kernel
theorem dX6_takeSort_7 : decode cX6_takeSort 7 = .ok (.iconst 0, 1) := by decide +kernel
theorem dX6_takeSort_8 : decode cX6_takeSort 8 = .ok (.ireturn, 1) := by decide +kernel
theorem dX6_takeSort_9 : decode cX6_takeSort 9 = .ok (.aload_n 0, 1) := by decide +kernel
theorem dX6_takeSort_10 : decode cX6_takeSort 10 = .ok (.getfield 20, 3) := by decide +kernel
theorem dX6_takeSort_13 : decode cX6_takeSort 13 = .ok (.aload_n 0, 1) := by decide +kernel
theorem dX6_takeSort_14 : decode cX6_takeSort 14 = .ok (.getfield 15, 3) := by decide +kernel
theorem dX6_takeSort_17 : decode cX6_takeSort 17 = .ok (.if_icmp .ge 18, 3) := by decide +kernel
theorem dX6_takeSort_20 : decode cX6_takeSort 20 = .ok (.aload_n 0, 1) := by decide +kernel
theorem dX6_takeSort_21 : decode cX6_takeSort 21 = .ok (.getfield 11, 3) := by decide +kernel
theorem dX6_takeSort_24 : decode cX6_takeSort 24 = .ok (.aload_n 0, 1) := by decide +kernel
theorem dX6_takeSort_25 : decode cX6_takeSort 25 = .ok (.getfield 20, 3) := by decide +kernel
theorem dX6_takeSort_28 : decode cX6_takeSort 28 = .ok (.iaload, 1) := by decide +kernel
theorem dX6_takeSort_29 : decode cX6_takeSort 29 = .ok (.invokestatic 64, 3) := by decide +kernel
theorem dX6_takeSort_32 : decode cX6_takeSort 32 = .ok (.goto 4, 3) := by decide +kernel
theorem dX6_takeSort_35 : decode cX6_takeSort 35 = .ok (.iconst 0, 1) := by decide +kernel
theorem dX6_takeSort_36 : decode cX6_takeSort 36 = .ok (.istore_n 2, 1) := by decide +kernel
theorem dX6_takeSort_37 : decode cX6_takeSort 37 = .ok (.iload_n 2, 1) := by decide +kernel
theorem dX6_takeSort_38 : decode cX6_takeSort 38 = .ok (.ifCond .ne 11, 3) := by decide +kernel
theorem dX6_takeSort_41 : decode cX6_takeSort 41 = .ok (.aload_n 0, 1) := by decide +kernel
theorem dX6_takeSort_42 : decode cX6_takeSort 42 = .ok (.iconst 1, 1) := by decide +kernel
theorem dX6_takeSort_43 : decode cX6_takeSort 43 = .ok (.putfield 23, 3) := by decide +kernel
theorem dX6_takeSort_46 : decode cX6_takeSort 46 = .ok (.goto 26, 3) := by decide +kernel
theorem dX6_takeSort_49 : decode cX6_takeSort 49 = .ok (.iload_n 1, 1) := by decide +kernel
theorem dX6_takeSort_50 : decode cX6_takeSort 50 = .ok (.iconst 5, 1) := by decide +kernel
theorem dX6_takeSort_51 : decode cX6_takeSort 51 = .ok (.if_icmp .lt 11, 3) := by decide +kernel
theorem dX6_takeSort_54 : decode cX6_takeSort 54 = .ok (.aload_n 0, 1) := by decide +kernel
theorem dX6_takeSort_55 : decode cX6_takeSort 55 = .ok (.iconst 3, 1) := by decide +kernel
theorem dX6_takeSort_56 : decode cX6_takeSort 56 = .ok (.putfield 23, 3) := by decide +kernel
theorem dX6_takeSort_59 : decode cX6_takeSort 59 = .ok (.goto 13, 3) := by decide +kernel
theorem dX6_takeSort_62 : decode cX6_takeSort 62 = .ok (.aload_n 0, 1) := by decide +kernel
theorem dX6_takeSort_63 : decode cX6_takeSort 63 = .ok (.dup, 1) := by decide +kernel
theorem dX6_takeSort_64 : decode cX6_takeSort 64 = .ok (.getfield 20, 3) := by decide +kernel
theorem dX6_takeSort_67 : decode cX6_takeSort 67 = .ok (.iconst 1, 1) := by decide +kernel
theorem dX6_takeSort_68 : decode cX6_takeSort 68 = .ok (.iadd, 1) := by decide +kernel
theorem dX6_takeSort_69 : decode cX6_takeSort 69 = .ok (.putfield 20, 3) := by decide +kernel
theorem dX6_takeSort_72 : decode cX6_takeSort 72 = .ok (.iload_n 2, 1) := by decide +kernel
theorem dX6_takeSort_73 : decode cX6_takeSort 73 = .ok (.ireturn, 1) := by decide +kernel
theorem dX6_takeByte_0 : decode cX6_takeByte 0 = .ok (.aload_n 0, 1) := by decide +kernel
theorem dX6_takeByte_1 : decode cX6_takeByte 1 = .ok (.getfield 23, 3) := by decide +kernel
theorem dX6_takeByte_4 : decode cX6_takeByte 4 = .ok (.ifCond .eq 4, 3) := by decide +kernel
theorem dX6_takeByte_7 : decode cX6_takeByte 7 = .ok (.return_, 1) := by decide +kernel
theorem dX6_takeByte_8 : decode cX6_takeByte 8 = .ok (.aload_n 0, 1) := by decide +kernel
theorem dX6_takeByte_9 : decode cX6_takeByte 9 = .ok (.getfield 20, 3) := by decide +kernel
theorem dX6_takeByte_12 : decode cX6_takeByte 12 = .ok (.aload_n 0, 1) := by decide +kernel
theorem dX6_takeByte_13 : decode cX6_takeByte 13 = .ok (.getfield 15, 3) := by decide +kernel
theorem dX6_takeByte_16 : decode cX6_takeByte 16 = .ok (.if_icmp .ge 29, 3) := by decide +kernel
theorem dX6_takeByte_19 : decode cX6_takeByte 19 = .ok (.aload_n 0, 1) := by decide +kernel
theorem dX6_takeByte_20 : decode cX6_takeByte 20 = .ok (.getfield 11, 3) := by decide +kernel
theorem dX6_takeByte_23 : decode cX6_takeByte 23 = .ok (.aload_n 0, 1) := by decide +kernel
theorem dX6_takeByte_24 : decode cX6_takeByte 24 = .ok (.getfield 20, 3) := by decide +kernel
theorem dX6_takeByte_27 : decode cX6_takeByte 27 = .ok (.iaload, 1) := by decide +kernel
theorem dX6_takeByte_28 : decode cX6_takeByte 28 = .ok (.iload_n 1, 1) := by decide +kernel
theorem dX6_takeByte_29 : decode cX6_takeByte 29 = .ok (.if_icmp .ne 16, 3) := by decide +kernel
theorem dX6_takeByte_32 : decode cX6_takeByte 32 = .ok (.aload_n 0, 1) := by decide +kernel
theorem dX6_takeByte_33 : decode cX6_takeByte 33 = .ok (.dup, 1) := by decide +kernel
theorem dX6_takeByte_34 : decode cX6_takeByte 34 = .ok (.getfield 20, 3) := by decide +kernel
theorem dX6_takeByte_37 : decode cX6_takeByte 37 = .ok (.iconst 1, 1) := by decide +kernel
theorem dX6_takeByte_38 : decode cX6_takeByte 38 = .ok (.iadd, 1) := by decide +kernel
theorem dX6_takeByte_39 : decode cX6_takeByte 39 = .ok (.putfield 20, 3) := by decide +kernel
theorem dX6_takeByte_42 : decode cX6_takeByte 42 = .ok (.goto 8, 3) := by decide +kernel
theorem dX6_takeByte_45 : decode cX6_takeByte 45 = .ok (.aload_n 0, 1) := by decide +kernel
theorem dX6_takeByte_46 : decode cX6_takeByte 46 = .ok (.iconst 1, 1) := by decide +kernel
theorem dX6_takeByte_47 : decode cX6_takeByte 47 = .ok (.putfield 23, 3) := by decide +kernel
theorem dX6_takeByte_50 : decode cX6_takeByte 50 = .ok (.return_, 1) := by decide +kernel
theorem dX6_takeNumber_0 : decode cX6_takeNumber 0 = .ok (.aload_n 0, 1) := by decide +kernel
theorem dX6_takeNumber_1 : decode cX6_takeNumber 1 = .ok (.getfield 23, 3) := by decide +kernel
theorem dX6_takeNumber_4 : decode cX6_takeNumber 4 = .ok (.ifCond .eq 5, 3) := by decide +kernel
theorem dX6_takeNumber_7 : decode cX6_takeNumber 7 = .ok (.iconst 0, 1) := by decide +kernel
theorem dX6_takeNumber_8 : decode cX6_takeNumber 8 = .ok (.ireturn, 1) := by decide +kernel
theorem dX6_takeNumber_9 : decode cX6_takeNumber 9 = .ok (.aload_n 0, 1) := by decide +kernel
theorem dX6_takeNumber_10 : decode cX6_takeNumber 10 = .ok (.invokevirtual 67, 3) := by decide +kernel
theorem dX6_takeNumber_13 : decode cX6_takeNumber 13 = .ok (.istore_n 2, 1) := by decide +kernel
theorem dX6_takeNumber_14 : decode cX6_takeNumber 14 = .ok (.iload_n 2, 1) := by decide +kernel
theorem dX6_takeNumber_15 : decode cX6_takeNumber 15 = .ok (.ifCond .eq 8, 3) := by decide +kernel
theorem dX6_takeNumber_18 : decode cX6_takeNumber 18 = .ok (.iload_n 2, 1) := by decide +kernel
theorem dX6_takeNumber_19 : decode cX6_takeNumber 19 = .ok (.iconst 2, 1) := by decide +kernel
theorem dX6_takeNumber_20 : decode cX6_takeNumber 20 = .ok (.if_icmp .le 10, 3) := by decide +kernel
theorem dX6_takeNumber_23 : decode cX6_takeNumber 23 = .ok (.aload_n 0, 1) := by decide +kernel
theorem dX6_takeNumber_24 : decode cX6_takeNumber 24 = .ok (.iconst 1, 1) := by decide +kernel
theorem dX6_takeNumber_25 : decode cX6_takeNumber 25 = .ok (.putfield 23, 3) := by decide +kernel
theorem dX6_takeNumber_28 : decode cX6_takeNumber 28 = .ok (.iconst 0, 1) := by decide +kernel
theorem dX6_takeNumber_29 : decode cX6_takeNumber 29 = .ok (.ireturn, 1) := by decide +kernel
theorem dX6_takeNumber_30 : decode cX6_takeNumber 30 = .ok (.iconst 0, 1) := by decide +kernel
theorem dX6_takeNumber_31 : decode cX6_takeNumber 31 = .ok (.istore_n 3, 1) := by decide +kernel
theorem dX6_takeNumber_32 : decode cX6_takeNumber 32 = .ok (.aload_n 0, 1) := by decide +kernel
theorem dX6_takeNumber_33 : decode cX6_takeNumber 33 = .ok (.getfield 20, 3) := by decide +kernel
theorem dX6_takeNumber_36 : decode cX6_takeNumber 36 = .ok (.istore 4, 2) := by decide +kernel
theorem dX6_takeNumber_38 : decode cX6_takeNumber 38 = .ok (.iload 4, 2) := by decide +kernel
theorem dX6_takeNumber_40 : decode cX6_takeNumber 40 = .ok (.aload_n 0, 1) := by decide +kernel
theorem dX6_takeNumber_41 : decode cX6_takeNumber 41 = .ok (.getfield 20, 3) := by decide +kernel
theorem dX6_takeNumber_44 : decode cX6_takeNumber 44 = .ok (.iload_n 2, 1) := by decide +kernel
theorem dX6_takeNumber_45 : decode cX6_takeNumber 45 = .ok (.iadd, 1) := by decide +kernel
theorem dX6_takeNumber_46 : decode cX6_takeNumber 46 = .ok (.if_icmp .ge 25, 3) := by decide +kernel
theorem dX6_takeNumber_49 : decode cX6_takeNumber 49 = .ok (.iload_n 3, 1) := by decide +kernel
theorem dX6_takeNumber_50 : decode cX6_takeNumber 50 = .ok (.bipush 10, 2) := by decide +kernel
theorem dX6_takeNumber_52 : decode cX6_takeNumber 52 = .ok (.imul, 1) := by decide +kernel
theorem dX6_takeNumber_53 : decode cX6_takeNumber 53 = .ok (.aload_n 0, 1) := by decide +kernel
theorem dX6_takeNumber_54 : decode cX6_takeNumber 54 = .ok (.getfield 11, 3) := by decide +kernel
theorem dX6_takeNumber_57 : decode cX6_takeNumber 57 = .ok (.iload 4, 2) := by decide +kernel
theorem dX6_takeNumber_59 : decode cX6_takeNumber 59 = .ok (.iaload, 1) := by decide +kernel
theorem dX6_takeNumber_60 : decode cX6_takeNumber 60 = .ok (.iadd, 1) := by decide +kernel
theorem dX6_takeNumber_61 : decode cX6_takeNumber 61 = .ok (.bipush 48, 2) := by decide +kernel
theorem dX6_takeNumber_63 : decode cX6_takeNumber 63 = .ok (.isub, 1) := by decide +kernel
theorem dX6_takeNumber_64 : decode cX6_takeNumber 64 = .ok (.istore_n 3, 1) := by decide +kernel
theorem dX6_takeNumber_65 : decode cX6_takeNumber 65 = .ok (.iinc 4 1, 3) := by decide +kernel
theorem dX6_takeNumber_68 : decode cX6_takeNumber 68 = .ok (.goto (-30), 3) := by decide +kernel
theorem dX6_takeNumber_71 : decode cX6_takeNumber 71 = .ok (.iload_n 3, 1) := by decide +kernel
theorem dX6_takeNumber_72 : decode cX6_takeNumber 72 = .ok (.iload_n 1, 1) := by decide +kernel
theorem dX6_takeNumber_73 : decode cX6_takeNumber 73 = .ok (.if_icmp .le 10, 3) := by decide +kernel
theorem dX6_takeNumber_76 : decode cX6_takeNumber 76 = .ok (.aload_n 0, 1) := by decide +kernel
theorem dX6_takeNumber_77 : decode cX6_takeNumber 77 = .ok (.iconst 2, 1) := by decide +kernel
theorem dX6_takeNumber_78 : decode cX6_takeNumber 78 = .ok (.putfield 23, 3) := by decide +kernel
theorem dX6_takeNumber_81 : decode cX6_takeNumber 81 = .ok (.iconst 0, 1) := by decide +kernel
theorem dX6_takeNumber_82 : decode cX6_takeNumber 82 = .ok (.ireturn, 1) := by decide +kernel
theorem dX6_takeNumber_83 : decode cX6_takeNumber 83 = .ok (.aload_n 0, 1) := by decide +kernel
theorem dX6_takeNumber_84 : decode cX6_takeNumber 84 = .ok (.dup, 1) := by decide +kernel
theorem dX6_takeNumber_85 : decode cX6_takeNumber 85 = .ok (.getfield 20, 3) := by decide +kernel
theorem dX6_takeNumber_88 : decode cX6_takeNumber 88 = .ok (.iload_n 2, 1) := by decide +kernel
theorem dX6_takeNumber_89 : decode cX6_takeNumber 89 = .ok (.iadd, 1) := by decide +kernel
theorem dX6_takeNumber_90 : decode cX6_takeNumber 90 = .ok (.putfield 20, 3) := by decide +kernel
theorem dX6_takeNumber_93 : decode cX6_takeNumber 93 = .ok (.iload_n 3, 1) := by decide +kernel
theorem dX6_takeNumber_94 : decode cX6_takeNumber 94 = .ok (.ireturn, 1) := by decide +kernel
theorem dX6_figuresHere_0 : decode cX6_figuresHere 0 = .ok (.iconst 0, 1) := by decide +kernel
theorem dX6_figuresHere_1 : decode cX6_figuresHere 1 = .ok (.istore_n 1, 1) := by decide +kernel
theorem dX6_figuresHere_2 : decode cX6_figuresHere 2 = .ok (.iload_n 1, 1) := by decide +kernel
theorem dX6_figuresHere_3 : decode cX6_figuresHere 3 = .ok (.iconst 3, 1) := by decide +kernel
theorem dX6_figuresHere_4 : decode cX6_figuresHere 4 = .ok (.if_icmp .ge 39, 3) := by decide +kernel
theorem dX6_figuresHere_7 : decode cX6_figuresHere 7 = .ok (.aload_n 0, 1) := by decide +kernel
theorem dX6_figuresHere_8 : decode cX6_figuresHere 8 = .ok (.getfield 20, 3) := by decide +kernel
theorem dX6_figuresHere_11 : decode cX6_figuresHere 11 = .ok (.iload_n 1, 1) := by decide +kernel
theorem dX6_figuresHere_12 : decode cX6_figuresHere 12 = .ok (.iadd, 1) := by decide +kernel
theorem dX6_figuresHere_13 : decode cX6_figuresHere 13 = .ok (.aload_n 0, 1) := by decide +kernel
theorem dX6_figuresHere_14 : decode cX6_figuresHere 14 = .ok (.getfield 15, 3) := by decide +kernel
theorem dX6_figuresHere_17 : decode cX6_figuresHere 17 = .ok (.if_icmp .ge 26, 3) := by decide +kernel
theorem dX6_figuresHere_20 : decode cX6_figuresHere 20 = .ok (.aload_n 0, 1) := by decide +kernel
theorem dX6_figuresHere_21 : decode cX6_figuresHere 21 = .ok (.getfield 11, 3) := by decide +kernel
theorem dX6_figuresHere_24 : decode cX6_figuresHere 24 = .ok (.aload_n 0, 1) := by decide +kernel
theorem dX6_figuresHere_25 : decode cX6_figuresHere 25 = .ok (.getfield 20, 3) := by decide +kernel
theorem dX6_figuresHere_28 : decode cX6_figuresHere 28 = .ok (.iload_n 1, 1) := by decide +kernel
theorem dX6_figuresHere_29 : decode cX6_figuresHere 29 = .ok (.iadd, 1) := by decide +kernel
theorem dX6_figuresHere_30 : decode cX6_figuresHere 30 = .ok (.iaload, 1) := by decide +kernel
theorem dX6_figuresHere_31 : decode cX6_figuresHere 31 = .ok (.invokestatic 71, 3) := by decide +kernel
theorem dX6_figuresHere_34 : decode cX6_figuresHere 34 = .ok (.ifCond .eq 9, 3) := by decide +kernel
theorem dX6_figuresHere_37 : decode cX6_figuresHere 37 = .ok (.iinc 1 1, 3) := by decide +kernel
theorem dX6_figuresHere_40 : decode cX6_figuresHere 40 = .ok (.goto (-38), 3) := by decide +kernel
theorem dX6_figuresHere_43 : decode cX6_figuresHere 43 = .ok (.iload_n 1, 1) := by decide +kernel
theorem dX6_figuresHere_44 : decode cX6_figuresHere 44 = .ok (.ireturn, 1) := by decide +kernel
theorem dX6_isFigure_0 : decode cX6_isFigure 0 = .ok (.iload_n 0, 1) := by decide +kernel
theorem dX6_isFigure_1 : decode cX6_isFigure 1 = .ok (.bipush 48, 2) := by decide +kernel
theorem dX6_isFigure_3 : decode cX6_isFigure 3 = .ok (.if_icmp .lt 13, 3) := by decide +kernel
theorem dX6_isFigure_6 : decode cX6_isFigure 6 = .ok (.iload_n 0, 1) := by decide +kernel
theorem dX6_isFigure_7 : decode cX6_isFigure 7 = .ok (.bipush 57, 2) := by decide +kernel
theorem dX6_isFigure_9 : decode cX6_isFigure 9 = .ok (.if_icmp .gt 7, 3) := by decide +kernel
theorem dX6_isFigure_12 : decode cX6_isFigure 12 = .ok (.iconst 1, 1) := by decide +kernel
theorem dX6_isFigure_13 : decode cX6_isFigure 13 = .ok (.goto 4, 3) := by decide +kernel
theorem dX6_isFigure_16 : decode cX6_isFigure 16 = .ok (.iconst 0, 1) := by decide +kernel
theorem dX6_isFigure_17 : decode cX6_isFigure 17 = .ok (.ireturn, 1) := by decide +kernel
theorem dJ6_bitCount_0f7a4_0 : decode cJ6_bitCount_0f7a4 0 = .ok (.iload_n 0, 1) := by decide +kernel
theorem dJ6_bitCount_0f7a4_1 : decode cJ6_bitCount_0f7a4 1 = .ok (.iload_n 0, 1) := by decide +kernel
theorem dJ6_bitCount_0f7a4_2 : decode cJ6_bitCount_0f7a4 2 = .ok (.iconst 1, 1) := by decide +kernel
theorem dJ6_bitCount_0f7a4_3 : decode cJ6_bitCount_0f7a4 3 = .ok (.iushr, 1) := by decide +kernel
theorem dJ6_bitCount_0f7a4_4 : decode cJ6_bitCount_0f7a4 4 = .ok (.ldc_w 265, 3) := by decide +kernel
theorem dJ6_bitCount_0f7a4_7 : decode cJ6_bitCount_0f7a4 7 = .ok (.iand, 1) := by decide +kernel
theorem dJ6_bitCount_0f7a4_8 : decode cJ6_bitCount_0f7a4 8 = .ok (.isub, 1) := by decide +kernel
theorem dJ6_bitCount_0f7a4_9 : decode cJ6_bitCount_0f7a4 9 = .ok (.istore_n 0, 1) := by decide +kernel
theorem dJ6_bitCount_0f7a4_10 : decode cJ6_bitCount_0f7a4 10 = .ok (.iload_n 0, 1) := by decide +kernel
theorem dJ6_bitCount_0f7a4_11 : decode cJ6_bitCount_0f7a4 11 = .ok (.ldc_w 266, 3) := by decide +kernel
theorem dJ6_bitCount_0f7a4_14 : decode cJ6_bitCount_0f7a4 14 = .ok (.iand, 1) := by decide +kernel
theorem dJ6_bitCount_0f7a4_15 : decode cJ6_bitCount_0f7a4 15 = .ok (.iload_n 0, 1) := by decide +kernel
theorem dJ6_bitCount_0f7a4_16 : decode cJ6_bitCount_0f7a4 16 = .ok (.iconst 2, 1) := by decide +kernel
theorem dJ6_bitCount_0f7a4_17 : decode cJ6_bitCount_0f7a4 17 = .ok (.iushr, 1) := by decide +kernel
theorem dJ6_bitCount_0f7a4_18 : decode cJ6_bitCount_0f7a4 18 = .ok (.ldc_w 266, 3) := by decide +kernel
theorem dJ6_bitCount_0f7a4_21 : decode cJ6_bitCount_0f7a4 21 = .ok (.iand, 1) := by decide +kernel
theorem dJ6_bitCount_0f7a4_22 : decode cJ6_bitCount_0f7a4 22 = .ok (.iadd, 1) := by decide +kernel
theorem dJ6_bitCount_0f7a4_23 : decode cJ6_bitCount_0f7a4 23 = .ok (.istore_n 0, 1) := by decide +kernel
theorem dJ6_bitCount_0f7a4_24 : decode cJ6_bitCount_0f7a4 24 = .ok (.iload_n 0, 1) := by decide +kernel
theorem dJ6_bitCount_0f7a4_25 : decode cJ6_bitCount_0f7a4 25 = .ok (.iload_n 0, 1) := by decide +kernel
theorem dJ6_bitCount_0f7a4_26 : decode cJ6_bitCount_0f7a4 26 = .ok (.iconst 4, 1) := by decide +kernel
theorem dJ6_bitCount_0f7a4_27 : decode cJ6_bitCount_0f7a4 27 = .ok (.iushr, 1) := by decide +kernel
theorem dJ6_bitCount_0f7a4_28 : decode cJ6_bitCount_0f7a4 28 = .ok (.iadd, 1) := by decide +kernel
theorem dJ6_bitCount_0f7a4_29 : decode cJ6_bitCount_0f7a4 29 = .ok (.ldc_w 267, 3) := by decide +kernel
theorem dJ6_bitCount_0f7a4_32 : decode cJ6_bitCount_0f7a4 32 = .ok (.iand, 1) := by decide +kernel
theorem dJ6_bitCount_0f7a4_33 : decode cJ6_bitCount_0f7a4 33 = .ok (.istore_n 0, 1) := by decide +kernel
theorem dJ6_bitCount_0f7a4_34 : decode cJ6_bitCount_0f7a4 34 = .ok (.iload_n 0, 1) := by decide +kernel
theorem dJ6_bitCount_0f7a4_35 : decode cJ6_bitCount_0f7a4 35 = .ok (.iload_n 0, 1) := by decide +kernel
theorem dJ6_bitCount_0f7a4_36 : decode cJ6_bitCount_0f7a4 36 = .ok (.bipush 8, 2) := by decide +kernel
theorem dJ6_bitCount_0f7a4_38 : decode cJ6_bitCount_0f7a4 38 = .ok (.iushr, 1) := by decide +kernel
theorem dJ6_bitCount_0f7a4_39 : decode cJ6_bitCount_0f7a4 39 = .ok (.iadd, 1) := by decide +kernel
theorem dJ6_bitCount_0f7a4_40 : decode cJ6_bitCount_0f7a4 40 = .ok (.istore_n 0, 1) := by decide +kernel
theorem dJ6_bitCount_0f7a4_41 : decode cJ6_bitCount_0f7a4 41 = .ok (.iload_n 0, 1) := by decide +kernel
theorem dJ6_bitCount_0f7a4_42 : decode cJ6_bitCount_0f7a4 42 = .ok (.iload_n 0, 1) := by decide +kernel
theorem dJ6_bitCount_0f7a4_43 : decode cJ6_bitCount_0f7a4 43 = .ok (.bipush 16, 2) := by decide +kernel
theorem dJ6_bitCount_0f7a4_45 : decode cJ6_bitCount_0f7a4 45 = .ok (.iushr, 1) := by decide +kernel
theorem dJ6_bitCount_0f7a4_46 : decode cJ6_bitCount_0f7a4 46 = .ok (.iadd, 1) := by decide +kernel
theorem dJ6_bitCount_0f7a4_47 : decode cJ6_bitCount_0f7a4 47 = .ok (.istore_n 0, 1) := by decide +kernel
theorem dJ6_bitCount_0f7a4_48 : decode cJ6_bitCount_0f7a4 48 = .ok (.iload_n 0, 1) := by decide +kernel
theorem dJ6_bitCount_0f7a4_49 : decode cJ6_bitCount_0f7a4 49 = .ok (.bipush 63, 2) := by decide +kernel
theorem dJ6_bitCount_0f7a4_51 : decode cJ6_bitCount_0f7a4 51 = .ok (.iand, 1) := by decide +kernel
theorem dJ6_bitCount_0f7a4_52 : decode cJ6_bitCount_0f7a4 52 = .ok (.ireturn, 1) := by decide +kernel
theorem dJ7_fill_53178_0 : decode cJ7_fill_53178 0 = .ok (.iconst 0, 1) := by decide +kernel
theorem dJ7_fill_53178_1 : decode cJ7_fill_53178 1 = .ok (.istore_n 2, 1) := by decide +kernel
theorem dJ7_fill_53178_2 : decode cJ7_fill_53178 2 = .ok (.aload_n 0, 1) := by decide +kernel
theorem dJ7_fill_53178_3 : decode cJ7_fill_53178 3 = .ok (.arraylength, 1) := by decide +kernel
theorem dJ7_fill_53178_4 : decode cJ7_fill_53178 4 = .ok (.istore_n 3, 1) := by decide +kernel
theorem dJ7_fill_53178_5 : decode cJ7_fill_53178 5 = .ok (.iload_n 2, 1) := by decide +kernel
theorem dJ7_fill_53178_6 : decode cJ7_fill_53178 6 = .ok (.iload_n 3, 1) := by decide +kernel
theorem dJ7_fill_53178_7 : decode cJ7_fill_53178 7 = .ok (.if_icmp .ge 13, 3) := by decide +kernel
theorem dJ7_fill_53178_10 : decode cJ7_fill_53178 10 = .ok (.aload_n 0, 1) := by decide +kernel
theorem dJ7_fill_53178_11 : decode cJ7_fill_53178 11 = .ok (.iload_n 2, 1) := by decide +kernel
theorem dJ7_fill_53178_12 : decode cJ7_fill_53178 12 = .ok (.iload_n 1, 1) := by decide +kernel
theorem dJ7_fill_53178_13 : decode cJ7_fill_53178 13 = .ok (.iastore, 1) := by decide +kernel
theorem dJ7_fill_53178_14 : decode cJ7_fill_53178 14 = .ok (.iinc 2 1, 3) := by decide +kernel
theorem dJ7_fill_53178_17 : decode cJ7_fill_53178 17 = .ok (.goto (-12), 3) := by decide +kernel
theorem dJ7_fill_53178_20 : decode cJ7_fill_53178 20 = .ok (.return_, 1) := by decide +kernel
theorem dJ9_max_7cf53_0 : decode cJ9_max_7cf53 0 = .ok (.iload_n 0, 1) := by decide +kernel
theorem dJ9_max_7cf53_1 : decode cJ9_max_7cf53 1 = .ok (.iload_n 1, 1) := by decide +kernel
theorem dJ9_max_7cf53_2 : decode cJ9_max_7cf53 2 = .ok (.if_icmp .lt 7, 3) := by decide +kernel
theorem dJ9_max_7cf53_5 : decode cJ9_max_7cf53 5 = .ok (.iload_n 0, 1) := by decide +kernel
theorem dJ9_max_7cf53_6 : decode cJ9_max_7cf53 6 = .ok (.goto 4, 3) := by decide +kernel
theorem dJ9_max_7cf53_9 : decode cJ9_max_7cf53 9 = .ok (.iload_n 1, 1) := by decide +kernel
theorem dJ9_max_7cf53_10 : decode cJ9_max_7cf53 10 = .ok (.ireturn, 1) := by decide +kernel
theorem dJ9_min_7cf53_0 : decode cJ9_min_7cf53 0 = .ok (.iload_n 0, 1) := by decide +kernel
theorem dJ9_min_7cf53_1 : decode cJ9_min_7cf53 1 = .ok (.iload_n 1, 1) := by decide +kernel
theorem dJ9_min_7cf53_2 : decode cJ9_min_7cf53 2 = .ok (.if_icmp .gt 7, 3) := by decide +kernel
theorem dJ9_min_7cf53_5 : decode cJ9_min_7cf53 5 = .ok (.iload_n 0, 1) := by decide +kernel
theorem dJ9_min_7cf53_6 : decode cJ9_min_7cf53 6 = .ok (.goto 4, 3) := by decide +kernel
theorem dJ9_min_7cf53_9 : decode cJ9_min_7cf53 9 = .ok (.iload_n 1, 1) := by decide +kernel
theorem dJ9_min_7cf53_10 : decode cJ9_min_7cf53 10 = .ok (.ireturn, 1) := by decide +kernel
end
section
theorem dX5_init_0 : decode cX5_init 0 = .ok (.aload_n 0, 1) := by decide +kernel
theorem dX5_init_1 : decode cX5_init 1 = .ok (.invokespecial 1, 3) := by decide +kernel
theorem dX5_init_4 : decode cX5_init 4 = .ok (.aload_n 0, 1) := by decide +kernel
theorem dX5_init_5 : decode cX5_init 5 = .ok (.iconst 4, 1) := by decide +kernel
theorem dX5_init_6 : decode cX5_init 6 = .ok (.newarray .int, 2) := by decide +kernel
theorem dX5_init_8 : decode cX5_init 8 = .ok (.putfield 9, 3) := by decide +kernel
theorem dX5_init_11 : decode cX5_init 11 = .ok (.aload_n 0, 1) := by decide +kernel
theorem dX5_init_12 : decode cX5_init 12 = .ok (.iconst 5, 1) := by decide +kernel
theorem dX5_init_13 : decode cX5_init 13 = .ok (.newarray .int, 2) := by decide +kernel
theorem dX5_init_15 : decode cX5_init 15 = .ok (.putfield 13, 3) := by decide +kernel
theorem dX5_init_18 : decode cX5_init 18 = .ok (.aload_n 0, 1) := by decide +kernel
theorem dX5_init_19 : decode cX5_init 19 = .ok (.iconst 5, 1) := by decide +kernel
theorem dX5_init_20 : decode cX5_init 20 = .ok (.newarray .int, 2) := by decide +kernel
theorem dX5_init_22 : decode cX5_init 22 = .ok (.putfield 16, 3) := by decide +kernel
theorem dX5_init_25 : decode cX5_init 25 = .ok (.aload_n 0, 1) := by decide +kernel
theorem dX5_init_26 : decode cX5_init 26 = .ok (.iconst 5, 1) := by decide +kernel
theorem dX5_init_27 : decode cX5_init 27 = .ok (.newarray .int, 2) := by decide +kernel
theorem dX5_init_29 : decode cX5_init 29 = .ok (.putfield 19, 3) := by decide +kernel
theorem dX5_init_32 : decode cX5_init 32 = .ok (.aload_n 0, 1) := by decide +kernel
theorem dX5_init_33 : decode cX5_init 33 = .ok (.iconst 5, 1) := by decide +kernel
theorem dX5_init_34 : decode cX5_init 34 = .ok (.newarray .int, 2) := by decide +kernel
theorem dX5_init_36 : decode cX5_init 36 = .ok (.putfield 22, 3) := by decide +kernel
theorem dX5_init_39 : decode cX5_init 39 = .ok (.aload_n 0, 1) := by decide +kernel
theorem dX5_init_40 : decode cX5_init 40 = .ok (.iconst 5, 1) := by decide +kernel
theorem dX5_init_41 : decode cX5_init 41 = .ok (.newarray .int, 2) := by decide +kernel
theorem dX5_init_43 : decode cX5_init 43 = .ok (.putfield 25, 3) := by decide +kernel
theorem dX5_init_46 : decode cX5_init 46 = .ok (.return_, 1) := by decide +kernel
theorem dX5_begin_0 : decode cX5_begin 0 = .ok (.aload_n 0, 1) := by decide +kernel
theorem dX5_begin_1 : decode cX5_begin 1 = .ok (.iconst 0, 1) := by decide +kernel
theorem dX5_begin_2 : decode cX5_begin 2 = .ok (.putfield 28, 3) := by decide +kernel
theorem dX5_begin_5 : decode cX5_begin 5 = .ok (.aload_n 0, 1) := by decide +kernel
theorem dX5_begin_6 : decode cX5_begin 6 = .ok (.iconst 0, 1) := by decide +kernel
theorem dX5_begin_7 : decode cX5_begin 7 = .ok (.putfield 32, 3) := by decide +kernel
theorem dX5_begin_10 : decode cX5_begin 10 = .ok (.aload_n 0, 1) := by decide +kernel
theorem dX5_begin_11 : decode cX5_begin 11 = .ok (.iconst 0, 1) := by decide +kernel
theorem dX5_begin_12 : decode cX5_begin 12 = .ok (.putfield 35, 3) := by decide +kernel
theorem dX5_begin_15 : decode cX5_begin 15 = .ok (.return_, 1) := by decide +kernel
theorem dX5_addOffice_0 : decode cX5_addOffice 0 = .ok (.aload_n 0, 1) := by decide +kernel
theorem dX5_addOffice_1 : decode cX5_addOffice 1 = .ok (.getfield 28, 3) := by decide +kernel
theorem dX5_addOffice_4 : decode cX5_addOffice 4 = .ok (.iconst 5, 1) := by decide +kernel
theorem dX5_addOffice_5 : decode cX5_addOffice 5 = .ok (.if_icmp .lt 4, 3) := by decide +kernel
theorem dX5_addOffice_8 : decode cX5_addOffice 8 = .ok (.return_, 1) := by decide +kernel
theorem dX5_addOffice_9 : decode cX5_addOffice 9 = .ok (.aload_n 0, 1) := by decide +kernel
theorem dX5_addOffice_10 : decode cX5_addOffice 10 = .ok (.getfield 13, 3) := by decide +kernel
theorem dX5_addOffice_13 : decode cX5_addOffice 13 = .ok (.aload_n 0, 1) := by decide +kernel
theorem dX5_addOffice_14 : decode cX5_addOffice 14 = .ok (.getfield 28, 3) := by decide +kernel
theorem dX5_addOffice_17 : decode cX5_addOffice 17 = .ok (.iload_n 1, 1) := by decide +kernel
theorem dX5_addOffice_18 : decode cX5_addOffice 18 = .ok (.iastore, 1) := by decide +kernel
theorem dX5_addOffice_19 : decode cX5_addOffice 19 = .ok (.aload_n 0, 1) := by decide +kernel
theorem dX5_addOffice_20 : decode cX5_addOffice 20 = .ok (.getfield 16, 3) := by decide +kernel
theorem dX5_addOffice_23 : decode cX5_addOffice 23 = .ok (.aload_n 0, 1) := by decide +kernel
theorem dX5_addOffice_24 : decode cX5_addOffice 24 = .ok (.getfield 28, 3) := by decide +kernel
theorem dX5_addOffice_27 : decode cX5_addOffice 27 = .ok (.iload_n 2, 1) := by decide +kernel
theorem dX5_addOffice_28 : decode cX5_addOffice 28 = .ok (.iastore, 1) := by decide +kernel
theorem dX5_addOffice_29 : decode cX5_addOffice 29 = .ok (.aload_n 0, 1) := by decide +kernel
theorem dX5_addOffice_30 : decode cX5_addOffice 30 = .ok (.getfield 19, 3) := by decide +kernel
theorem dX5_addOffice_33 : decode cX5_addOffice 33 = .ok (.aload_n 0, 1) := by decide +kernel
theorem dX5_addOffice_34 : decode cX5_addOffice 34 = .ok (.getfield 28, 3) := by decide +kernel
theorem dX5_addOffice_37 : decode cX5_addOffice 37 = .ok (.iload_n 3, 1) := by decide +kernel
theorem dX5_addOffice_38 : decode cX5_addOffice 38 = .ok (.iastore, 1) := by decide +kernel
theorem dX5_addOffice_39 : decode cX5_addOffice 39 = .ok (.aload_n 0, 1) := by decide +kernel
theorem dX5_addOffice_40 : decode cX5_addOffice 40 = .ok (.getfield 22, 3) := by decide +kernel
theorem dX5_addOffice_43 : decode cX5_addOffice 43 = .ok (.aload_n 0, 1) := by decide +kernel
theorem dX5_addOffice_44 : decode cX5_addOffice 44 = .ok (.getfield 28, 3) := by decide +kernel
theorem dX5_addOffice_47 : decode cX5_addOffice 47 = .ok (.iload 4, 2) := by decide +kernel
theorem dX5_addOffice_49 : decode cX5_addOffice 49 = .ok (.iastore, 1) := by decide +kernel
theorem dX5_addOffice_50 : decode cX5_addOffice 50 = .ok (.aload_n 0, 1) := by decide +kernel
theorem dX5_addOffice_51 : decode cX5_addOffice 51 = .ok (.getfield 25, 3) := by decide +kernel
theorem dX5_addOffice_54 : decode cX5_addOffice 54 = .ok (.aload_n 0, 1) := by decide +kernel
theorem dX5_addOffice_55 : decode cX5_addOffice 55 = .ok (.getfield 28, 3) := by decide +kernel
theorem dX5_addOffice_58 : decode cX5_addOffice 58 = .ok (.iconst 0, 1) := by decide +kernel
theorem dX5_addOffice_59 : decode cX5_addOffice 59 = .ok (.iastore, 1) := by decide +kernel
theorem dX5_addOffice_60 : decode cX5_addOffice 60 = .ok (.aload_n 0, 1) := by decide +kernel
theorem dX5_addOffice_61 : decode cX5_addOffice 61 = .ok (.dup, 1) := by decide +kernel
theorem dX5_addOffice_62 : decode cX5_addOffice 62 = .ok (.getfield 28, 3) := by decide +kernel
theorem dX5_addOffice_65 : decode cX5_addOffice 65 = .ok (.iconst 1, 1) := by decide +kernel
theorem dX5_addOffice_66 : decode cX5_addOffice 66 = .ok (.iadd, 1) := by decide +kernel
theorem dX5_addOffice_67 : decode cX5_addOffice 67 = .ok (.putfield 28, 3) := by decide +kernel
theorem dX5_addOffice_70 : decode cX5_addOffice 70 = .ok (.return_, 1) := by decide +kernel
theorem dX5_become_0 : decode cX5_become 0 = .ok (.aload_n 0, 1) := by decide +kernel
theorem dX5_become_1 : decode cX5_become 1 = .ok (.aload_n 1, 1) := by decide +kernel
theorem dX5_become_2 : decode cX5_become 2 = .ok (.getfield 28, 3) := by decide +kernel
theorem dX5_become_5 : decode cX5_become 5 = .ok (.putfield 28, 3) := by decide +kernel
theorem dX5_become_8 : decode cX5_become 8 = .ok (.aload_n 0, 1) := by decide +kernel
theorem dX5_become_9 : decode cX5_become 9 = .ok (.aload_n 1, 1) := by decide +kernel
theorem dX5_become_10 : decode cX5_become 10 = .ok (.getfield 32, 3) := by decide +kernel
theorem dX5_become_13 : decode cX5_become 13 = .ok (.putfield 32, 3) := by decide +kernel
theorem dX5_become_16 : decode cX5_become 16 = .ok (.aload_n 0, 1) := by decide +kernel
theorem dX5_become_17 : decode cX5_become 17 = .ok (.aload_n 1, 1) := by decide +kernel
theorem dX5_become_18 : decode cX5_become 18 = .ok (.getfield 35, 3) := by decide +kernel
theorem dX5_become_21 : decode cX5_become 21 = .ok (.putfield 35, 3) := by decide +kernel
theorem dX5_become_24 : decode cX5_become 24 = .ok (.aload_n 1, 1) := by decide +kernel
theorem dX5_become_25 : decode cX5_become 25 = .ok (.getfield 9, 3) := by decide +kernel
theorem dX5_become_28 : decode cX5_become 28 = .ok (.iconst 0, 1) := by decide +kernel
theorem dX5_become_29 : decode cX5_become 29 = .ok (.aload_n 0, 1) := by decide +kernel
theorem dX5_become_30 : decode cX5_become 30 = .ok (.getfield 9, 3) := by decide +kernel
theorem dX5_become_33 : decode cX5_become 33 = .ok (.iconst 0, 1) := by decide +kernel
theorem dX5_become_34 : decode cX5_become 34 = .ok (.iconst 4, 1) := by decide +kernel
theorem dX5_become_35 : decode cX5_become 35 = .ok (.invokestatic 38, 3) := by decide +kernel
theorem dX5_become_38 : decode cX5_become 38 = .ok (.aload_n 1, 1) := by decide +kernel
theorem dX5_become_39 : decode cX5_become 39 = .ok (.getfield 13, 3) := by decide +kernel
theorem dX5_become_42 : decode cX5_become 42 = .ok (.iconst 0, 1) := by decide +kernel
theorem dX5_become_43 : decode cX5_become 43 = .ok (.aload_n 0, 1) := by decide +kernel
theorem dX5_become_44 : decode cX5_become 44 = .ok (.getfield 13, 3) := by decide +kernel
theorem dX5_become_47 : decode cX5_become 47 = .ok (.iconst 0, 1) := by decide +kernel
theorem dX5_become_48 : decode cX5_become 48 = .ok (.iconst 5, 1) := by decide +kernel
theorem dX5_become_49 : decode cX5_become 49 = .ok (.invokestatic 38, 3) := by decide +kernel
theorem dX5_become_52 : decode cX5_become 52 = .ok (.aload_n 1, 1) := by decide +kernel
theorem dX5_become_53 : decode cX5_become 53 = .ok (.getfield 16, 3) := by decide +kernel
theorem dX5_become_56 : decode cX5_become 56 = .ok (.iconst 0, 1) := by decide +kernel
theorem dX5_become_57 : decode cX5_become 57 = .ok (.aload_n 0, 1) := by decide +kernel
theorem dX5_become_58 : decode cX5_become 58 = .ok (.getfield 16, 3) := by decide +kernel
theorem dX5_become_61 : decode cX5_become 61 = .ok (.iconst 0, 1) := by decide +kernel
theorem dX5_become_62 : decode cX5_become 62 = .ok (.iconst 5, 1) := by decide +kernel
theorem dX5_become_63 : decode cX5_become 63 = .ok (.invokestatic 38, 3) := by decide +kernel
theorem dX5_become_66 : decode cX5_become 66 = .ok (.aload_n 1, 1) := by decide +kernel
theorem dX5_become_67 : decode cX5_become 67 = .ok (.getfield 19, 3) := by decide +kernel
theorem dX5_become_70 : decode cX5_become 70 = .ok (.iconst 0, 1) := by decide +kernel
theorem dX5_become_71 : decode cX5_become 71 = .ok (.aload_n 0, 1) := by decide +kernel
theorem dX5_become_72 : decode cX5_become 72 = .ok (.getfield 19, 3) := by decide +kernel
theorem dX5_become_75 : decode cX5_become 75 = .ok (.iconst 0, 1) := by decide +kernel
theorem dX5_become_76 : decode cX5_become 76 = .ok (.iconst 5, 1) := by decide +kernel
theorem dX5_become_77 : decode cX5_become 77 = .ok (.invokestatic 38, 3) := by decide +kernel
theorem dX5_become_80 : decode cX5_become 80 = .ok (.aload_n 1, 1) := by decide +kernel
theorem dX5_become_81 : decode cX5_become 81 = .ok (.getfield 22, 3) := by decide +kernel
theorem dX5_become_84 : decode cX5_become 84 = .ok (.iconst 0, 1) := by decide +kernel
theorem dX5_become_85 : decode cX5_become 85 = .ok (.aload_n 0, 1) := by decide +kernel
theorem dX5_become_86 : decode cX5_become 86 = .ok (.getfield 22, 3) := by decide +kernel
theorem dX5_become_89 : decode cX5_become 89 = .ok (.iconst 0, 1) := by decide +kernel
theorem dX5_become_90 : decode cX5_become 90 = .ok (.iconst 5, 1) := by decide +kernel
theorem dX5_become_91 : decode cX5_become 91 = .ok (.invokestatic 38, 3) := by decide +kernel
theorem dX5_become_94 : decode cX5_become 94 = .ok (.aload_n 1, 1) := by decide +kernel
theorem dX5_become_95 : decode cX5_become 95 = .ok (.getfield 25, 3) := by decide +kernel
theorem dX5_become_98 : decode cX5_become 98 = .ok (.iconst 0, 1) := by decide +kernel
theorem dX5_become_99 : decode cX5_become 99 = .ok (.aload_n 0, 1) := by decide +kernel
theorem dX5_become_100 : decode cX5_become 100 = .ok (.getfield 25, 3) := by decide +kernel
theorem dX5_become_103 : decode cX5_become 103 = .ok (.iconst 0, 1) := by decide +kernel
theorem dX5_become_104 : decode cX5_become 104 = .ok (.iconst 5, 1) := by decide +kernel
theorem dX5_become_105 : decode cX5_become 105 = .ok (.invokestatic 38, 3) := by decide +kernel
theorem dX5_become_108 : decode cX5_become 108 = .ok (.return_, 1) := by decide +kernel
theorem dX5_passHour_0 : decode cX5_passHour 0 = .ok (.iconst 0, 1) := by decide +kernel
theorem dX5_passHour_1 : decode cX5_passHour 1 = .ok (.istore_n 1, 1) := by decide +kernel
theorem dX5_passHour_2 : decode cX5_passHour 2 = .ok (.iload_n 1, 1) := by decide +kernel
theorem dX5_passHour_3 : decode cX5_passHour 3 = .ok (.aload_n 0, 1) := by decide +kernel
theorem dX5_passHour_4 : decode cX5_passHour 4 = .ok (.getfield 28, 3) := by decide +kernel
theorem dX5_passHour_7 : decode cX5_passHour 7 = .ok (.if_icmp .ge 47, 3) := by decide +kernel
theorem dX5_passHour_10 : decode cX5_passHour 10 = .ok (.aload_n 0, 1) := by decide +kernel
theorem dX5_passHour_11 : decode cX5_passHour 11 = .ok (.getfield 19, 3) := by decide +kernel
theorem dX5_passHour_14 : decode cX5_passHour 14 = .ok (.iload_n 1, 1) := by decide +kernel
theorem dX5_passHour_15 : decode cX5_passHour 15 = .ok (.aload_n 0, 1) := by decide +kernel
theorem dX5_passHour_16 : decode cX5_passHour 16 = .ok (.aload_n 0, 1) := by decide +kernel
theorem dX5_passHour_17 : decode cX5_passHour 17 = .ok (.getfield 19, 3) := by decide +kernel
theorem dX5_passHour_20 : decode cX5_passHour 20 = .ok (.iload_n 1, 1) := by decide +kernel
theorem dX5_passHour_21 : decode cX5_passHour 21 = .ok (.iaload, 1) := by decide +kernel
theorem dX5_passHour_22 : decode cX5_passHour 22 = .ok (.invokevirtual 44, 3) := by decide +kernel
theorem dX5_passHour_25 : decode cX5_passHour 25 = .ok (.iastore, 1) := by decide +kernel
theorem dX5_passHour_26 : decode cX5_passHour 26 = .ok (.aload_n 0, 1) := by decide +kernel
theorem dX5_passHour_27 : decode cX5_passHour 27 = .ok (.getfield 16, 3) := by decide +kernel
theorem dX5_passHour_30 : decode cX5_passHour 30 = .ok (.iload_n 1, 1) := by decide +kernel
theorem dX5_passHour_31 : decode cX5_passHour 31 = .ok (.aload_n 0, 1) := by decide +kernel
theorem dX5_passHour_32 : decode cX5_passHour 32 = .ok (.aload_n 0, 1) := by decide +kernel
theorem dX5_passHour_33 : decode cX5_passHour 33 = .ok (.getfield 16, 3) := by decide +kernel
theorem dX5_passHour_36 : decode cX5_passHour 36 = .ok (.iload_n 1, 1) := by decide +kernel
theorem dX5_passHour_37 : decode cX5_passHour 37 = .ok (.iaload, 1) := by decide +kernel
theorem dX5_passHour_38 : decode cX5_passHour 38 = .ok (.aload_n 0, 1) := by decide +kernel
theorem dX5_passHour_39 : decode cX5_passHour 39 = .ok (.getfield 19, 3) := by decide +kernel
theorem dX5_passHour_42 : decode cX5_passHour 42 = .ok (.iload_n 1, 1) := by decide +kernel
theorem dX5_passHour_43 : decode cX5_passHour 43 = .ok (.iaload, 1) := by decide +kernel
theorem dX5_passHour_44 : decode cX5_passHour 44 = .ok (.invokevirtual 48, 3) := by decide +kernel
theorem dX5_passHour_47 : decode cX5_passHour 47 = .ok (.iastore, 1) := by decide +kernel
theorem dX5_passHour_48 : decode cX5_passHour 48 = .ok (.iinc 1 1, 3) := by decide +kernel
theorem dX5_passHour_51 : decode cX5_passHour 51 = .ok (.goto (-49), 3) := by decide +kernel
theorem dX5_passHour_54 : decode cX5_passHour 54 = .ok (.aload_n 0, 1) := by decide +kernel
theorem dX5_passHour_55 : decode cX5_passHour 55 = .ok (.dup, 1) := by decide +kernel
theorem dX5_passHour_56 : decode cX5_passHour 56 = .ok (.getfield 35, 3) := by decide +kernel
theorem dX5_passHour_59 : decode cX5_passHour 59 = .ok (.iconst 1, 1) := by decide +kernel
theorem dX5_passHour_60 : decode cX5_passHour 60 = .ok (.iadd, 1) := by decide +kernel
theorem dX5_passHour_61 : decode cX5_passHour 61 = .ok (.putfield 35, 3) := by decide +kernel
theorem dX5_passHour_64 : decode cX5_passHour 64 = .ok (.return_, 1) := by decide +kernel
theorem dX5_useSheets_0 : decode cX5_useSheets 0 = .ok (.aload_n 0, 1) := by decide +kernel
theorem dX5_useSheets_1 : decode cX5_useSheets 1 = .ok (.getfield 22, 3) := by decide +kernel
theorem dX5_useSheets_4 : decode cX5_useSheets 4 = .ok (.iload_n 1, 1) := by decide +kernel
theorem dX5_useSheets_5 : decode cX5_useSheets 5 = .ok (.dup2, 1) := by decide +kernel
theorem dX5_useSheets_6 : decode cX5_useSheets 6 = .ok (.iaload, 1) := by decide +kernel
theorem dX5_useSheets_7 : decode cX5_useSheets 7 = .ok (.iload_n 2, 1) := by decide +kernel
theorem dX5_useSheets_8 : decode cX5_useSheets 8 = .ok (.isub, 1) := by decide +kernel
theorem dX5_useSheets_9 : decode cX5_useSheets 9 = .ok (.iastore, 1) := by decide +kernel
theorem dX5_useSheets_10 : decode cX5_useSheets 10 = .ok (.aload_n 0, 1) := by decide +kernel
theorem dX5_useSheets_11 : decode cX5_useSheets 11 = .ok (.getfield 25, 3) := by decide +kernel
theorem dX5_useSheets_14 : decode cX5_useSheets 14 = .ok (.iload_n 1, 1) := by decide +kernel
theorem dX5_useSheets_15 : decode cX5_useSheets 15 = .ok (.dup2, 1) := by decide +kernel
theorem dX5_useSheets_16 : decode cX5_useSheets 16 = .ok (.iaload, 1) := by decide +kernel
theorem dX5_useSheets_17 : decode cX5_useSheets 17 = .ok (.iload_n 2, 1) := by decide +kernel
theorem dX5_useSheets_18 : decode cX5_useSheets 18 = .ok (.iadd, 1) := by decide +kernel
theorem dX5_useSheets_19 : decode cX5_useSheets 19 = .ok (.iastore, 1) := by decide +kernel
theorem dX5_useSheets_20 : decode cX5_useSheets 20 = .ok (.aload_n 0, 1) := by decide +kernel
theorem dX5_useSheets_21 : decode cX5_useSheets 21 = .ok (.getfield 19, 3) := by decide +kernel
theorem dX5_useSheets_24 : decode cX5_useSheets 24 = .ok (.iload_n 1, 1) := by decide +kernel
theorem dX5_useSheets_25 : decode cX5_useSheets 25 = .ok (.aload_n 0, 1) := by decide +kernel
theorem dX5_useSheets_26 : decode cX5_useSheets 26 = .ok (.getfield 13, 3) := by decide +kernel
theorem dX5_useSheets_29 : decode cX5_useSheets 29 = .ok (.iload_n 1, 1) := by decide +kernel
theorem dX5_useSheets_30 : decode cX5_useSheets 30 = .ok (.iaload, 1) := by decide +kernel
theorem dX5_useSheets_31 : decode cX5_useSheets 31 = .ok (.aload_n 0, 1) := by decide +kernel
theorem dX5_useSheets_32 : decode cX5_useSheets 32 = .ok (.getfield 19, 3) := by decide +kernel
theorem dX5_useSheets_35 : decode cX5_useSheets 35 = .ok (.iload_n 1, 1) := by decide +kernel
theorem dX5_useSheets_36 : decode cX5_useSheets 36 = .ok (.iaload, 1) := by decide +kernel
theorem dX5_useSheets_37 : decode cX5_useSheets 37 = .ok (.iload_n 2, 1) := by decide +kernel
theorem dX5_useSheets_38 : decode cX5_useSheets 38 = .ok (.invokestatic 52, 3) := by decide +kernel
theorem dX5_useSheets_41 : decode cX5_useSheets 41 = .ok (.iastore, 1) := by decide +kernel
theorem dX5_useSheets_42 : decode cX5_useSheets 42 = .ok (.return_, 1) := by decide +kernel
theorem dX5_sunk_0 : decode cX5_sunk 0 = .ok (.iconst 0, 1) := by decide +kernel
theorem dX5_sunk_1 : decode cX5_sunk 1 = .ok (.iload_n 1, 1) := by decide +kernel
theorem dX5_sunk_2 : decode cX5_sunk 2 = .ok (.aload_n 0, 1) := by decide +kernel
theorem dX5_sunk_3 : decode cX5_sunk 3 = .ok (.getfield 32, 3) := by decide +kernel
theorem dX5_sunk_6 : decode cX5_sunk 6 = .ok (.isub, 1) := by decide +kernel
theorem dX5_sunk_7 : decode cX5_sunk 7 = .ok (.invokestatic 56, 3) := by decide +kernel
theorem dX5_sunk_10 : decode cX5_sunk 10 = .ok (.ireturn, 1) := by decide +kernel
theorem dX5_carried_0 : decode cX5_carried 0 = .ok (.iload_n 1, 1) := by decide +kernel
theorem dX5_carried_1 : decode cX5_carried 1 = .ok (.aload_n 0, 1) := by decide +kernel
theorem dX5_carried_2 : decode cX5_carried 2 = .ok (.iload_n 2, 1) := by decide +kernel
theorem dX5_carried_3 : decode cX5_carried 3 = .ok (.invokevirtual 61, 3) := by decide +kernel
theorem dX5_carried_6 : decode cX5_carried 6 = .ok (.invokestatic 64, 3) := by decide +kernel
theorem dX5_carried_9 : decode cX5_carried 9 = .ok (.ireturn, 1) := by decide +kernel
theorem dX5_driftAt_0 : decode cX5_driftAt 0 = .ok (.iload_n 1, 1) := by decide +kernel
theorem dX5_driftAt_1 : decode cX5_driftAt 1 = .ok (.ifCond .le 17, 3) := by decide +kernel
theorem dX5_driftAt_4 : decode cX5_driftAt 4 = .ok (.aload_n 0, 1) := by decide +kernel
theorem dX5_driftAt_5 : decode cX5_driftAt 5 = .ok (.getfield 9, 3) := by decide +kernel
theorem dX5_driftAt_8 : decode cX5_driftAt 8 = .ok (.iload_n 1, 1) := by decide +kernel
theorem dX5_driftAt_9 : decode cX5_driftAt 9 = .ok (.invokestatic 67, 3) := by decide +kernel
theorem dX5_driftAt_12 : decode cX5_driftAt 12 = .ok (.iaload, 1) := by decide +kernel
theorem dX5_driftAt_13 : decode cX5_driftAt 13 = .ok (.iconst 2, 1) := by decide +kernel
theorem dX5_driftAt_14 : decode cX5_driftAt 14 = .ok (.isub, 1) := by decide +kernel
theorem dX5_driftAt_15 : decode cX5_driftAt 15 = .ok (.goto 4, 3) := by decide +kernel
theorem dX5_driftAt_18 : decode cX5_driftAt 18 = .ok (.iconst 0, 1) := by decide +kernel
theorem dX5_driftAt_19 : decode cX5_driftAt 19 = .ok (.ireturn, 1) := by decide +kernel
theorem dX5_moved_0 : decode cX5_moved 0 = .ok (.iconst 0, 1) := by decide +kernel
theorem dX5_moved_1 : decode cX5_moved 1 = .ok (.bipush 9, 2) := by decide +kernel
theorem dX5_moved_3 : decode cX5_moved 3 = .ok (.iload_n 0, 1) := by decide +kernel
theorem dX5_moved_4 : decode cX5_moved 4 = .ok (.iload_n 1, 1) := by decide +kernel
theorem dX5_moved_5 : decode cX5_moved 5 = .ok (.iadd, 1) := by decide +kernel
theorem dX5_moved_6 : decode cX5_moved 6 = .ok (.invokestatic 70, 3) := by decide +kernel
theorem dX5_moved_9 : decode cX5_moved 9 = .ok (.invokestatic 56, 3) := by decide +kernel
theorem dX5_moved_12 : decode cX5_moved 12 = .ok (.ireturn, 1) := by decide +kernel
theorem dX5_bandOf_0 : decode cX5_bandOf 0 = .ok (.iload_n 0, 1) := by decide +kernel
theorem dX5_bandOf_1 : decode cX5_bandOf 1 = .ok (.bipush 6, 2) := by decide +kernel
theorem dX5_bandOf_3 : decode cX5_bandOf 3 = .ok (.if_icmp .ge 5, 3) := by decide +kernel
theorem dX5_bandOf_6 : decode cX5_bandOf 6 = .ok (.iconst 0, 1) := by decide +kernel
theorem dX5_bandOf_7 : decode cX5_bandOf 7 = .ok (.ireturn, 1) := by decide +kernel
theorem dX5_bandOf_8 : decode cX5_bandOf 8 = .ok (.iload_n 0, 1) := by decide +kernel
theorem dX5_bandOf_9 : decode cX5_bandOf 9 = .ok (.bipush 11, 2) := by decide +kernel
theorem dX5_bandOf_11 : decode cX5_bandOf 11 = .ok (.if_icmp .ge 5, 3) := by decide +kernel
theorem dX5_bandOf_14 : decode cX5_bandOf 14 = .ok (.iconst 1, 1) := by decide +kernel
theorem dX5_bandOf_15 : decode cX5_bandOf 15 = .ok (.ireturn, 1) := by decide +kernel
theorem dX5_bandOf_16 : decode cX5_bandOf 16 = .ok (.iload_n 0, 1) := by decide +kernel
theorem dX5_bandOf_17 : decode cX5_bandOf 17 = .ok (.bipush 16, 2) := by decide +kernel
theorem dX5_bandOf_19 : decode cX5_bandOf 19 = .ok (.if_icmp .ge 7, 3) := by decide +kernel
theorem dX5_bandOf_22 : decode cX5_bandOf 22 = .ok (.iconst 2, 1) := by decide +kernel
theorem dX5_bandOf_23 : decode cX5_bandOf 23 = .ok (.goto 4, 3) := by decide +kernel
theorem dX5_bandOf_26 : decode cX5_bandOf 26 = .ok (.iconst 3, 1) := by decide +kernel
theorem dX5_bandOf_27 : decode cX5_bandOf 27 = .ok (.ireturn, 1) := by decide +kernel
theorem dX5_liftOf_0 : decode cX5_liftOf 0 = .ok (.iload_n 0, 1) := by decide +kernel
theorem dX5_liftOf_1 : decode cX5_liftOf 1 = .ok (.tableswitch 50 1 5 #[35, 50, 37, 50, 39], 35) := by decide +kernel
theorem dX5_liftOf_36 : decode cX5_liftOf 36 = .ok (.iconst 2, 1) := by decide +kernel
theorem dX5_liftOf_37 : decode cX5_liftOf 37 = .ok (.ireturn, 1) := by decide +kernel
theorem dX5_liftOf_38 : decode cX5_liftOf 38 = .ok (.iconst 3, 1) := by decide +kernel
theorem dX5_liftOf_39 : decode cX5_liftOf 39 = .ok (.ireturn, 1) := by decide +kernel
theorem dX5_liftOf_40 : decode cX5_liftOf 40 = .ok (.iload_n 1, 1) := by decide +kernel
theorem dX5_liftOf_41 : decode cX5_liftOf 41 = .ok (.iconst 5, 1) := by decide +kernel
theorem dX5_liftOf_42 : decode cX5_liftOf 42 = .ok (.if_icmp .le 7, 3) := by decide +kernel
theorem dX5_liftOf_45 : decode cX5_liftOf 45 = .ok (.iconst 0, 1) := by decide +kernel
theorem dX5_liftOf_46 : decode cX5_liftOf 46 = .ok (.goto 4, 3) := by decide +kernel
theorem dX5_liftOf_49 : decode cX5_liftOf 49 = .ok (.iconst 1, 1) := by decide +kernel
theorem dX5_liftOf_50 : decode cX5_liftOf 50 = .ok (.ireturn, 1) := by decide +kernel
theorem dX5_liftOf_51 : decode cX5_liftOf 51 = .ok (.iconst 1, 1) := by decide +kernel
theorem dX5_liftOf_52 : decode cX5_liftOf 52 = .ok (.ireturn, 1) := by decide +kernel
theorem dX5_lifted_0 : decode cX5_lifted 0 = .ok (.iload_n 1, 1) := by decide +kernel
theorem dX5_lifted_1 : decode cX5_lifted 1 = .ok (.istore_n 3, 1) := by decide +kernel
theorem dX5_lifted_2 : decode cX5_lifted 2 = .ok (.iconst 0, 1) := by decide +kernel
theorem dX5_lifted_3 : decode cX5_lifted 3 = .ok (.istore 4, 2) := by decide +kernel
theorem dX5_lifted_5 : decode cX5_lifted 5 = .ok (.iload 4, 2) := by decide +kernel
theorem dX5_lifted_7 : decode cX5_lifted 7 = .ok (.iload_n 2, 1) := by decide +kernel
theorem dX5_lifted_8 : decode cX5_lifted 8 = .ok (.if_icmp .ge 22, 3) := by decide +kernel
theorem dX5_lifted_11 : decode cX5_lifted 11 = .ok (.bipush 20, 2) := by decide +kernel
theorem dX5_lifted_13 : decode cX5_lifted 13 = .ok (.iload_n 3, 1) := by decide +kernel
theorem dX5_lifted_14 : decode cX5_lifted 14 = .ok (.iload_n 0, 1) := by decide +kernel
theorem dX5_lifted_15 : decode cX5_lifted 15 = .ok (.iload_n 3, 1) := by decide +kernel
theorem dX5_lifted_16 : decode cX5_lifted 16 = .ok (.invokestatic 73, 3) := by decide +kernel
theorem dX5_lifted_19 : decode cX5_lifted 19 = .ok (.iadd, 1) := by decide +kernel
theorem dX5_lifted_20 : decode cX5_lifted 20 = .ok (.invokestatic 70, 3) := by decide +kernel
theorem dX5_lifted_23 : decode cX5_lifted 23 = .ok (.istore_n 3, 1) := by decide +kernel
theorem dX5_lifted_24 : decode cX5_lifted 24 = .ok (.iinc 4 1, 3) := by decide +kernel
theorem dX5_lifted_27 : decode cX5_lifted 27 = .ok (.goto (-22), 3) := by decide +kernel
theorem dX5_lifted_30 : decode cX5_lifted 30 = .ok (.iload_n 3, 1) := by decide +kernel
theorem dX5_lifted_31 : decode cX5_lifted 31 = .ok (.ireturn, 1) := by decide +kernel
theorem dX5_officesIn_0 : decode cX5_officesIn 0 = .ok (.iconst 0, 1) := by decide +kernel
theorem dX5_officesIn_1 : decode cX5_officesIn 1 = .ok (.istore_n 2, 1) := by decide +kernel
theorem dX5_officesIn_2 : decode cX5_officesIn 2 = .ok (.iconst 0, 1) := by decide +kernel
theorem dX5_officesIn_3 : decode cX5_officesIn 3 = .ok (.istore_n 3, 1) := by decide +kernel
theorem dX5_officesIn_4 : decode cX5_officesIn 4 = .ok (.iload_n 3, 1) := by decide +kernel
theorem dX5_officesIn_5 : decode cX5_officesIn 5 = .ok (.aload_n 0, 1) := by decide +kernel
theorem dX5_officesIn_6 : decode cX5_officesIn 6 = .ok (.getfield 28, 3) := by decide +kernel
theorem dX5_officesIn_9 : decode cX5_officesIn 9 = .ok (.if_icmp .ge 25, 3) := by decide +kernel
theorem dX5_officesIn_12 : decode cX5_officesIn 12 = .ok (.aload_n 0, 1) := by decide +kernel
theorem dX5_officesIn_13 : decode cX5_officesIn 13 = .ok (.getfield 16, 3) := by decide +kernel
theorem dX5_officesIn_16 : decode cX5_officesIn 16 = .ok (.iload_n 3, 1) := by decide +kernel
theorem dX5_officesIn_17 : decode cX5_officesIn 17 = .ok (.iaload, 1) := by decide +kernel
theorem dX5_officesIn_18 : decode cX5_officesIn 18 = .ok (.iload_n 1, 1) := by decide +kernel
theorem dX5_officesIn_19 : decode cX5_officesIn 19 = .ok (.if_icmp .ne 9, 3) := by decide +kernel
theorem dX5_officesIn_22 : decode cX5_officesIn 22 = .ok (.iload_n 2, 1) := by decide +kernel
theorem dX5_officesIn_23 : decode cX5_officesIn 23 = .ok (.iconst 1, 1) := by decide +kernel
theorem dX5_officesIn_24 : decode cX5_officesIn 24 = .ok (.iload_n 3, 1) := by decide +kernel
theorem dX5_officesIn_25 : decode cX5_officesIn 25 = .ok (.ishl, 1) := by decide +kernel
theorem dX5_officesIn_26 : decode cX5_officesIn 26 = .ok (.ior, 1) := by decide +kernel
theorem dX5_officesIn_27 : decode cX5_officesIn 27 = .ok (.istore_n 2, 1) := by decide +kernel
theorem dX5_officesIn_28 : decode cX5_officesIn 28 = .ok (.iinc 3 1, 3) := by decide +kernel
theorem dX5_officesIn_31 : decode cX5_officesIn 31 = .ok (.goto (-27), 3) := by decide +kernel
theorem dX5_officesIn_34 : decode cX5_officesIn 34 = .ok (.iload_n 2, 1) := by decide +kernel
theorem dX5_officesIn_35 : decode cX5_officesIn 35 = .ok (.ireturn, 1) := by decide +kernel
theorem dX5_floating_0 : decode cX5_floating 0 = .ok (.iconst 0, 1) := by decide +kernel
theorem dX5_floating_1 : decode cX5_floating 1 = .ok (.istore_n 1, 1) := by decide +kernel
theorem dX5_floating_2 : decode cX5_floating 2 = .ok (.iconst 0, 1) := by decide +kernel
theorem dX5_floating_3 : decode cX5_floating 3 = .ok (.istore_n 2, 1) := by decide +kernel
theorem dX5_floating_4 : decode cX5_floating 4 = .ok (.iload_n 2, 1) := by decide +kernel
theorem dX5_floating_5 : decode cX5_floating 5 = .ok (.aload_n 0, 1) := by decide +kernel
theorem dX5_floating_6 : decode cX5_floating 6 = .ok (.getfield 28, 3) := by decide +kernel
theorem dX5_floating_9 : decode cX5_floating 9 = .ok (.if_icmp .ge 24, 3) := by decide +kernel
theorem dX5_floating_12 : decode cX5_floating 12 = .ok (.aload_n 0, 1) := by decide +kernel
theorem dX5_floating_13 : decode cX5_floating 13 = .ok (.getfield 19, 3) := by decide +kernel
theorem dX5_floating_16 : decode cX5_floating 16 = .ok (.iload_n 2, 1) := by decide +kernel
theorem dX5_floating_17 : decode cX5_floating 17 = .ok (.iaload, 1) := by decide +kernel
theorem dX5_floating_18 : decode cX5_floating 18 = .ok (.ifCond .le 9, 3) := by decide +kernel
theorem dX5_floating_21 : decode cX5_floating 21 = .ok (.iload_n 1, 1) := by decide +kernel
theorem dX5_floating_22 : decode cX5_floating 22 = .ok (.iconst 1, 1) := by decide +kernel
theorem dX5_floating_23 : decode cX5_floating 23 = .ok (.iload_n 2, 1) := by decide +kernel
theorem dX5_floating_24 : decode cX5_floating 24 = .ok (.ishl, 1) := by decide +kernel
theorem dX5_floating_25 : decode cX5_floating 25 = .ok (.ior, 1) := by decide +kernel
theorem dX5_floating_26 : decode cX5_floating 26 = .ok (.istore_n 1, 1) := by decide +kernel
theorem dX5_floating_27 : decode cX5_floating 27 = .ok (.iinc 2 1, 3) := by decide +kernel
theorem dX5_floating_30 : decode cX5_floating 30 = .ok (.goto (-26), 3) := by decide +kernel
theorem dX5_floating_33 : decode cX5_floating 33 = .ok (.iload_n 1, 1) := by decide +kernel
theorem dX5_floating_34 : decode cX5_floating 34 = .ok (.ireturn, 1) := by decide +kernel
theorem dX5_allBurnt_0 : decode cX5_allBurnt 0 = .ok (.iconst 0, 1) := by decide +kernel
theorem dX5_allBurnt_1 : decode cX5_allBurnt 1 = .ok (.istore_n 1, 1) := by decide +kernel
theorem dX5_allBurnt_2 : decode cX5_allBurnt 2 = .ok (.iconst 0, 1) := by decide +kernel
theorem dX5_allBurnt_3 : decode cX5_allBurnt 3 = .ok (.istore_n 2, 1) := by decide +kernel
theorem dX5_allBurnt_4 : decode cX5_allBurnt 4 = .ok (.iload_n 2, 1) := by decide +kernel
theorem dX5_allBurnt_5 : decode cX5_allBurnt 5 = .ok (.aload_n 0, 1) := by decide +kernel
theorem dX5_allBurnt_6 : decode cX5_allBurnt 6 = .ok (.getfield 28, 3) := by decide +kernel
theorem dX5_allBurnt_9 : decode cX5_allBurnt 9 = .ok (.if_icmp .ge 18, 3) := by decide +kernel
theorem dX5_allBurnt_12 : decode cX5_allBurnt 12 = .ok (.iload_n 1, 1) := by decide +kernel
theorem dX5_allBurnt_13 : decode cX5_allBurnt 13 = .ok (.aload_n 0, 1) := by decide +kernel
theorem dX5_allBurnt_14 : decode cX5_allBurnt 14 = .ok (.getfield 25, 3) := by decide +kernel
theorem dX5_allBurnt_17 : decode cX5_allBurnt 17 = .ok (.iload_n 2, 1) := by decide +kernel
theorem dX5_allBurnt_18 : decode cX5_allBurnt 18 = .ok (.iaload, 1) := by decide +kernel
theorem dX5_allBurnt_19 : decode cX5_allBurnt 19 = .ok (.iadd, 1) := by decide +kernel
theorem dX5_allBurnt_20 : decode cX5_allBurnt 20 = .ok (.istore_n 1, 1) := by decide +kernel
theorem dX5_allBurnt_21 : decode cX5_allBurnt 21 = .ok (.iinc 2 1, 3) := by decide +kernel
theorem dX5_allBurnt_24 : decode cX5_allBurnt 24 = .ok (.goto (-20), 3) := by decide +kernel
theorem dX5_allBurnt_27 : decode cX5_allBurnt 27 = .ok (.iload_n 1, 1) := by decide +kernel
theorem dX5_allBurnt_28 : decode cX5_allBurnt 28 = .ok (.ireturn, 1) := by decide +kernel
theorem dX5_landsAdded_0 : decode cX5_landsAdded 0 = .ok (.iconst 0, 1) := by decide +kernel
theorem dX5_landsAdded_1 : decode cX5_landsAdded 1 = .ok (.istore_n 1, 1) := by decide +kernel
theorem dX5_landsAdded_2 : decode cX5_landsAdded 2 = .ok (.iconst 0, 1) := by decide +kernel
theorem dX5_landsAdded_3 : decode cX5_landsAdded 3 = .ok (.istore_n 2, 1) := by decide +kernel
theorem dX5_landsAdded_4 : decode cX5_landsAdded 4 = .ok (.iload_n 2, 1) := by decide +kernel
theorem dX5_landsAdded_5 : decode cX5_landsAdded 5 = .ok (.aload_n 0, 1) := by decide +kernel
theorem dX5_landsAdded_6 : decode cX5_landsAdded 6 = .ok (.getfield 28, 3) := by decide +kernel
theorem dX5_landsAdded_9 : decode cX5_landsAdded 9 = .ok (.if_icmp .ge 18, 3) := by decide +kernel
theorem dX5_landsAdded_12 : decode cX5_landsAdded 12 = .ok (.iload_n 1, 1) := by decide +kernel
theorem dX5_landsAdded_13 : decode cX5_landsAdded 13 = .ok (.aload_n 0, 1) := by decide +kernel
theorem dX5_landsAdded_14 : decode cX5_landsAdded 14 = .ok (.getfield 16, 3) := by decide +kernel
theorem dX5_landsAdded_17 : decode cX5_landsAdded 17 = .ok (.iload_n 2, 1) := by decide +kernel
theorem dX5_landsAdded_18 : decode cX5_landsAdded 18 = .ok (.iaload, 1) := by decide +kernel
theorem dX5_landsAdded_19 : decode cX5_landsAdded 19 = .ok (.iadd, 1) := by decide +kernel
theorem dX5_landsAdded_20 : decode cX5_landsAdded 20 = .ok (.istore_n 1, 1) := by decide +kernel
theorem dX5_landsAdded_21 : decode cX5_landsAdded 21 = .ok (.iinc 2 1, 3) := by decide +kernel
theorem dX5_landsAdded_24 : decode cX5_landsAdded 24 = .ok (.goto (-20), 3) := by decide +kernel
theorem dX5_landsAdded_27 : decode cX5_landsAdded 27 = .ok (.iload_n 1, 1) := by decide +kernel
theorem dX5_landsAdded_28 : decode cX5_landsAdded 28 = .ok (.ireturn, 1) := by decide +kernel
end
section
theorem dX7_init_0 : decode cX7_init 0 = .ok (.aload_n 0, 1) := by decide +kernel
theorem dX7_init_1 : decode cX7_init 1 = .ok (.invokespecial 1, 3) := by decide +kernel
theorem dX7_init_4 : decode cX7_init 4 = .ok (.aload_n 0, 1) := by decide +kernel
theorem dX7_init_5 : decode cX7_init 5 = .ok (.bipush 8, 2) := by decide +kernel
theorem dX7_init_7 : decode cX7_init 7 = .ok (.anewarray 9, 3) := by decide +kernel
theorem dX7_init_10 : decode cX7_init 10 = .ok (.putfield 11, 3) := by decide +kernel
theorem dX7_init_13 : decode cX7_init 13 = .ok (.iconst 0, 1) := by decide +kernel
theorem dX7_init_14 : decode cX7_init 14 = .ok (.istore_n 1, 1) := by decide +kernel
theorem dX7_init_15 : decode cX7_init 15 = .ok (.iload_n 1, 1) := by decide +kernel
theorem dX7_init_16 : decode cX7_init 16 = .ok (.bipush 8, 2) := by decide +kernel
theorem dX7_init_18 : decode cX7_init 18 = .ok (.if_icmp .ge 22, 3) := by decide +kernel
theorem dX7_init_21 : decode cX7_init 21 = .ok (.aload_n 0, 1) := by decide +kernel
theorem dX7_init_22 : decode cX7_init 22 = .ok (.getfield 11, 3) := by decide +kernel
theorem dX7_init_25 : decode cX7_init 25 = .ok (.iload_n 1, 1) := by decide +kernel
theorem dX7_init_26 : decode cX7_init 26 = .ok (.new 9, 3) := by decide +kernel
theorem dX7_init_29 : decode cX7_init 29 = .ok (.dup, 1) := by decide +kernel
theorem dX7_init_30 : decode cX7_init 30 = .ok (.invokespecial 15, 3) := by decide +kernel
theorem dX7_init_33 : decode cX7_init 33 = .ok (.aastore, 1) := by decide +kernel
theorem dX7_init_34 : decode cX7_init 34 = .ok (.iinc 1 1, 3) := by decide +kernel
theorem dX7_init_37 : decode cX7_init 37 = .ok (.goto (-22), 3) := by decide +kernel
theorem dX7_init_40 : decode cX7_init 40 = .ok (.aload_n 0, 1) := by decide +kernel
theorem dX7_init_41 : decode cX7_init 41 = .ok (.new 16, 3) := by decide +kernel
theorem dX7_init_44 : decode cX7_init 44 = .ok (.dup, 1) := by decide +kernel
theorem dX7_init_45 : decode cX7_init 45 = .ok (.invokespecial 18, 3) := by decide +kernel
theorem dX7_init_48 : decode cX7_init 48 = .ok (.putfield 19, 3) := by decide +kernel
theorem dX7_init_51 : decode cX7_init 51 = .ok (.aload_n 0, 1) := by decide +kernel
theorem dX7_init_52 : decode cX7_init 52 = .ok (.new 23, 3) := by decide +kernel
theorem dX7_init_55 : decode cX7_init 55 = .ok (.dup, 1) := by decide +kernel
theorem dX7_init_56 : decode cX7_init 56 = .ok (.invokespecial 25, 3) := by decide +kernel
theorem dX7_init_59 : decode cX7_init 59 = .ok (.putfield 26, 3) := by decide +kernel
theorem dX7_init_62 : decode cX7_init 62 = .ok (.aload_n 0, 1) := by decide +kernel
theorem dX7_init_63 : decode cX7_init 63 = .ok (.new 23, 3) := by decide +kernel
theorem dX7_init_66 : decode cX7_init 66 = .ok (.dup, 1) := by decide +kernel
theorem dX7_init_67 : decode cX7_init 67 = .ok (.invokespecial 25, 3) := by decide +kernel
theorem dX7_init_70 : decode cX7_init 70 = .ok (.putfield 30, 3) := by decide +kernel
theorem dX7_init_73 : decode cX7_init 73 = .ok (.aload_n 0, 1) := by decide +kernel
theorem dX7_init_74 : decode cX7_init 74 = .ok (.new 33, 3) := by decide +kernel
theorem dX7_init_77 : decode cX7_init 77 = .ok (.dup, 1) := by decide +kernel
theorem dX7_init_78 : decode cX7_init 78 = .ok (.invokespecial 35, 3) := by decide +kernel
theorem dX7_init_81 : decode cX7_init 81 = .ok (.putfield 36, 3) := by decide +kernel
theorem dX7_init_84 : decode cX7_init 84 = .ok (.aload_n 0, 1) := by decide +kernel
theorem dX7_init_85 : decode cX7_init 85 = .ok (.iconst 2, 1) := by decide +kernel
theorem dX7_init_86 : decode cX7_init 86 = .ok (.anewarray 23, 3) := by decide +kernel
theorem dX7_init_89 : decode cX7_init 89 = .ok (.putfield 40, 3) := by decide +kernel
theorem dX7_init_92 : decode cX7_init 92 = .ok (.iconst 0, 1) := by decide +kernel
theorem dX7_init_93 : decode cX7_init 93 = .ok (.istore_n 1, 1) := by decide +kernel
theorem dX7_init_94 : decode cX7_init 94 = .ok (.iload_n 1, 1) := by decide +kernel
theorem dX7_init_95 : decode cX7_init 95 = .ok (.iconst 2, 1) := by decide +kernel
theorem dX7_init_96 : decode cX7_init 96 = .ok (.if_icmp .ge 22, 3) := by decide +kernel
theorem dX7_init_99 : decode cX7_init 99 = .ok (.aload_n 0, 1) := by decide +kernel
theorem dX7_init_100 : decode cX7_init 100 = .ok (.getfield 40, 3) := by decide +kernel
theorem dX7_init_103 : decode cX7_init 103 = .ok (.iload_n 1, 1) := by decide +kernel
theorem dX7_init_104 : decode cX7_init 104 = .ok (.new 23, 3) := by decide +kernel
theorem dX7_init_107 : decode cX7_init 107 = .ok (.dup, 1) := by decide +kernel
theorem dX7_init_108 : decode cX7_init 108 = .ok (.invokespecial 25, 3) := by decide +kernel
theorem dX7_init_111 : decode cX7_init 111 = .ok (.aastore, 1) := by decide +kernel
theorem dX7_init_112 : decode cX7_init 112 = .ok (.iinc 1 1, 3) := by decide +kernel
theorem dX7_init_115 : decode cX7_init 115 = .ok (.goto (-21), 3) := by decide +kernel
theorem dX7_init_118 : decode cX7_init 118 = .ok (.aload_n 0, 1) := by decide +kernel
theorem dX7_init_119 : decode cX7_init 119 = .ok (.new 44, 3) := by decide +kernel
theorem dX7_init_122 : decode cX7_init 122 = .ok (.dup, 1) := by decide +kernel
theorem dX7_init_123 : decode cX7_init 123 = .ok (.aload_n 0, 1) := by decide +kernel
theorem dX7_init_124 : decode cX7_init 124 = .ok (.getfield 30, 3) := by decide +kernel
theorem dX7_init_127 : decode cX7_init 127 = .ok (.invokespecial 46, 3) := by decide +kernel
theorem dX7_init_130 : decode cX7_init 130 = .ok (.putfield 49, 3) := by decide +kernel
theorem dX7_init_133 : decode cX7_init 133 = .ok (.aload_n 0, 1) := by decide +kernel
theorem dX7_init_134 : decode cX7_init 134 = .ok (.new 53, 3) := by decide +kernel
theorem dX7_init_137 : decode cX7_init 137 = .ok (.dup, 1) := by decide +kernel
theorem dX7_init_138 : decode cX7_init 138 = .ok (.aload_n 0, 1) := by decide +kernel
theorem dX7_init_139 : decode cX7_init 139 = .ok (.getfield 30, 3) := by decide +kernel
theorem dX7_init_142 : decode cX7_init 142 = .ok (.invokespecial 55, 3) := by decide +kernel
theorem dX7_init_145 : decode cX7_init 145 = .ok (.putfield 56, 3) := by decide +kernel
theorem dX7_init_148 : decode cX7_init 148 = .ok (.aload_n 0, 1) := by decide +kernel
theorem dX7_init_149 : decode cX7_init 149 = .ok (.iconst 0, 1) := by decide +kernel
theorem dX7_init_150 : decode cX7_init 150 = .ok (.putfield 60, 3) := by decide +kernel
theorem dX7_init_153 : decode cX7_init 153 = .ok (.aload_n 0, 1) := by decide +kernel
theorem dX7_init_154 : decode cX7_init 154 = .ok (.iconst 0, 1) := by decide +kernel
theorem dX7_init_155 : decode cX7_init 155 = .ok (.putfield 64, 3) := by decide +kernel
theorem dX7_init_158 : decode cX7_init 158 = .ok (.return_, 1) := by decide +kernel
theorem dX7_row_0 : decode cX7_row 0 = .ok (.iload_n 1, 1) := by decide +kernel
theorem dX7_row_1 : decode cX7_row 1 = .ok (.invokestatic 67, 3) := by decide +kernel
theorem dX7_row_4 : decode cX7_row 4 = .ok (.ifCond .eq 18, 3) := by decide +kernel
theorem dX7_row_7 : decode cX7_row 7 = .ok (.iload_n 2, 1) := by decide +kernel
theorem dX7_row_8 : decode cX7_row 8 = .ok (.iconst 0, 1) := by decide +kernel
theorem dX7_row_9 : decode cX7_row 9 = .ok (.iconst 2, 1) := by decide +kernel
theorem dX7_row_10 : decode cX7_row 10 = .ok (.invokestatic 71, 3) := by decide +kernel
theorem dX7_row_13 : decode cX7_row 13 = .ok (.ifCond .eq 9, 3) := by decide +kernel
theorem dX7_row_16 : decode cX7_row 16 = .ok (.iload_n 3, 1) := by decide +kernel
theorem dX7_row_17 : decode cX7_row 17 = .ok (.bipush 40, 2) := by decide +kernel
theorem dX7_row_19 : decode cX7_row 19 = .ok (.if_icmp .le 6, 3) := by decide +kernel
theorem dX7_row_22 : decode cX7_row 22 = .ok (.ldc 75, 2) := by decide +kernel
theorem dX7_row_24 : decode cX7_row 24 = .ok (.ireturn, 1) := by decide +kernel
theorem dX7_row_25 : decode cX7_row 25 = .ok (.iload_n 3, 1) := by decide +kernel
theorem dX7_row_26 : decode cX7_row 26 = .ok (.ifCond .ge 9, 3) := by decide +kernel
theorem dX7_row_29 : decode cX7_row 29 = .ok (.aload_n 0, 1) := by decide +kernel
theorem dX7_row_30 : decode cX7_row 30 = .ok (.iconst 4, 1) := by decide +kernel
theorem dX7_row_31 : decode cX7_row 31 = .ok (.invokevirtual 76, 3) := by decide +kernel
theorem dX7_row_34 : decode cX7_row 34 = .ok (.ireturn, 1) := by decide +kernel
theorem dX7_row_35 : decode cX7_row 35 = .ok (.aload_n 0, 1) := by decide +kernel
theorem dX7_row_36 : decode cX7_row 36 = .ok (.getfield 11, 3) := by decide +kernel
theorem dX7_row_39 : decode cX7_row 39 = .ok (.iload_n 1, 1) := by decide +kernel
theorem dX7_row_40 : decode cX7_row 40 = .ok (.aaload, 1) := by decide +kernel
theorem dX7_row_41 : decode cX7_row 41 = .ok (.iload_n 2, 1) := by decide +kernel
theorem dX7_row_42 : decode cX7_row 42 = .ok (.iload_n 3, 1) := by decide +kernel
theorem dX7_row_43 : decode cX7_row 43 = .ok (.invokevirtual 80, 3) := by decide +kernel
theorem dX7_row_46 : decode cX7_row 46 = .ok (.aload_n 0, 1) := by decide +kernel
theorem dX7_row_47 : decode cX7_row 47 = .ok (.iload_n 3, 1) := by decide +kernel
theorem dX7_row_48 : decode cX7_row 48 = .ok (.invokevirtual 84, 3) := by decide +kernel
theorem dX7_row_51 : decode cX7_row 51 = .ok (.ireturn, 1) := by decide +kernel
theorem dX7_set_0 : decode cX7_set 0 = .ok (.iload_n 1, 1) := by decide +kernel
theorem dX7_set_1 : decode cX7_set 1 = .ok (.invokestatic 67, 3) := by decide +kernel
theorem dX7_set_4 : decode cX7_set 4 = .ok (.ifCond .ne 6, 3) := by decide +kernel
theorem dX7_set_7 : decode cX7_set 7 = .ok (.ldc 75, 2) := by decide +kernel
theorem dX7_set_9 : decode cX7_set 9 = .ok (.ireturn, 1) := by decide +kernel
theorem dX7_set_10 : decode cX7_set 10 = .ok (.aload_n 0, 1) := by decide +kernel
theorem dX7_set_11 : decode cX7_set 11 = .ok (.getfield 11, 3) := by decide +kernel
theorem dX7_set_14 : decode cX7_set 14 = .ok (.iload_n 1, 1) := by decide +kernel
theorem dX7_set_15 : decode cX7_set 15 = .ok (.aaload, 1) := by decide +kernel
theorem dX7_set_16 : decode cX7_set 16 = .ok (.iload_n 2, 1) := by decide +kernel
theorem dX7_set_17 : decode cX7_set 17 = .ok (.iconst 1, 1) := by decide +kernel
theorem dX7_set_18 : decode cX7_set 18 = .ok (.invokevirtual 87, 3) := by decide +kernel
theorem dX7_set_21 : decode cX7_set 21 = .ok (.istore 4, 2) := by decide +kernel
theorem dX7_set_23 : decode cX7_set 23 = .ok (.iload 4, 2) := by decide +kernel
theorem dX7_set_25 : decode cX7_set 25 = .ok (.ifCond .eq 10, 3) := by decide +kernel
theorem dX7_set_28 : decode cX7_set 28 = .ok (.aload_n 0, 1) := by decide +kernel
theorem dX7_set_29 : decode cX7_set 29 = .ok (.iload 4, 2) := by decide +kernel
theorem dX7_set_31 : decode cX7_set 31 = .ok (.invokevirtual 76, 3) := by decide +kernel
theorem dX7_set_34 : decode cX7_set 34 = .ok (.ireturn, 1) := by decide +kernel
theorem dX7_set_35 : decode cX7_set 35 = .ok (.aload_n 0, 1) := by decide +kernel
theorem dX7_set_36 : decode cX7_set 36 = .ok (.aload_n 0, 1) := by decide +kernel
theorem dX7_set_37 : decode cX7_set 37 = .ok (.getfield 11, 3) := by decide +kernel
theorem dX7_set_40 : decode cX7_set 40 = .ok (.iload_n 1, 1) := by decide +kernel
theorem dX7_set_41 : decode cX7_set 41 = .ok (.aaload, 1) := by decide +kernel
theorem dX7_set_42 : decode cX7_set 42 = .ok (.iload_n 2, 1) := by decide +kernel
theorem dX7_set_43 : decode cX7_set 43 = .ok (.iload_n 3, 1) := by decide +kernel
theorem dX7_set_44 : decode cX7_set 44 = .ok (.invokevirtual 91, 3) := by decide +kernel
theorem dX7_set_47 : decode cX7_set 47 = .ok (.invokevirtual 84, 3) := by decide +kernel
theorem dX7_set_50 : decode cX7_set 50 = .ok (.ireturn, 1) := by decide +kernel
theorem dX7_copy_0 : decode cX7_copy 0 = .ok (.iload_n 1, 1) := by decide +kernel
theorem dX7_copy_1 : decode cX7_copy 1 = .ok (.invokestatic 67, 3) := by decide +kernel
theorem dX7_copy_4 : decode cX7_copy 4 = .ok (.ifCond .eq 10, 3) := by decide +kernel
theorem dX7_copy_7 : decode cX7_copy 7 = .ok (.iload_n 3, 1) := by decide +kernel
theorem dX7_copy_8 : decode cX7_copy 8 = .ok (.invokestatic 67, 3) := by decide +kernel
theorem dX7_copy_11 : decode cX7_copy 11 = .ok (.ifCond .ne 6, 3) := by decide +kernel
theorem dX7_copy_14 : decode cX7_copy 14 = .ok (.ldc 75, 2) := by decide +kernel
theorem dX7_copy_16 : decode cX7_copy 16 = .ok (.ireturn, 1) := by decide +kernel
theorem dX7_copy_17 : decode cX7_copy 17 = .ok (.aload_n 0, 1) := by decide +kernel
theorem dX7_copy_18 : decode cX7_copy 18 = .ok (.getfield 11, 3) := by decide +kernel
theorem dX7_copy_21 : decode cX7_copy 21 = .ok (.iload_n 1, 1) := by decide +kernel
theorem dX7_copy_22 : decode cX7_copy 22 = .ok (.aaload, 1) := by decide +kernel
theorem dX7_copy_23 : decode cX7_copy 23 = .ok (.astore 6, 2) := by decide +kernel
theorem dX7_copy_25 : decode cX7_copy 25 = .ok (.aload_n 0, 1) := by decide +kernel
theorem dX7_copy_26 : decode cX7_copy 26 = .ok (.getfield 11, 3) := by decide +kernel
theorem dX7_copy_29 : decode cX7_copy 29 = .ok (.iload_n 3, 1) := by decide +kernel
theorem dX7_copy_30 : decode cX7_copy 30 = .ok (.aaload, 1) := by decide +kernel
theorem dX7_copy_31 : decode cX7_copy 31 = .ok (.astore 7, 2) := by decide +kernel
theorem dX7_copy_33 : decode cX7_copy 33 = .ok (.aload 6, 2) := by decide +kernel
theorem dX7_copy_35 : decode cX7_copy 35 = .ok (.getfield 94, 3) := by decide +kernel
theorem dX7_copy_38 : decode cX7_copy 38 = .ok (.ifCond .ne 11, 3) := by decide +kernel
theorem dX7_copy_41 : decode cX7_copy 41 = .ok (.aload 7, 2) := by decide +kernel
theorem dX7_copy_43 : decode cX7_copy 43 = .ok (.getfield 94, 3) := by decide +kernel
theorem dX7_copy_46 : decode cX7_copy 46 = .ok (.ifCond .eq 9, 3) := by decide +kernel
theorem dX7_copy_49 : decode cX7_copy 49 = .ok (.aload_n 0, 1) := by decide +kernel
theorem dX7_copy_50 : decode cX7_copy 50 = .ok (.iconst 1, 1) := by decide +kernel
theorem dX7_copy_51 : decode cX7_copy 51 = .ok (.invokevirtual 76, 3) := by decide +kernel
theorem dX7_copy_54 : decode cX7_copy 54 = .ok (.ireturn, 1) := by decide +kernel
theorem dX7_copy_55 : decode cX7_copy 55 = .ok (.aload 6, 2) := by decide +kernel
theorem dX7_copy_57 : decode cX7_copy 57 = .ok (.getfield 98, 3) := by decide +kernel
theorem dX7_copy_60 : decode cX7_copy 60 = .ok (.aload 7, 2) := by decide +kernel
theorem dX7_copy_62 : decode cX7_copy 62 = .ok (.getfield 98, 3) := by decide +kernel
theorem dX7_copy_65 : decode cX7_copy 65 = .ok (.if_icmp .eq 9, 3) := by decide +kernel
theorem dX7_copy_68 : decode cX7_copy 68 = .ok (.aload_n 0, 1) := by decide +kernel
theorem dX7_copy_69 : decode cX7_copy 69 = .ok (.iconst 5, 1) := by decide +kernel
theorem dX7_copy_70 : decode cX7_copy 70 = .ok (.invokevirtual 76, 3) := by decide +kernel
theorem dX7_copy_73 : decode cX7_copy 73 = .ok (.ireturn, 1) := by decide +kernel
theorem dX7_copy_74 : decode cX7_copy 74 = .ok (.aload 6, 2) := by decide +kernel
theorem dX7_copy_76 : decode cX7_copy 76 = .ok (.iload_n 2, 1) := by decide +kernel
theorem dX7_copy_77 : decode cX7_copy 77 = .ok (.iload 5, 2) := by decide +kernel
theorem dX7_copy_79 : decode cX7_copy 79 = .ok (.invokevirtual 101, 3) := by decide +kernel
theorem dX7_copy_82 : decode cX7_copy 82 = .ok (.ifCond .eq 15, 3) := by decide +kernel
theorem dX7_copy_85 : decode cX7_copy 85 = .ok (.aload 7, 2) := by decide +kernel
theorem dX7_copy_87 : decode cX7_copy 87 = .ok (.iload 4, 2) := by decide +kernel
theorem dX7_copy_89 : decode cX7_copy 89 = .ok (.iload 5, 2) := by decide +kernel
theorem dX7_copy_91 : decode cX7_copy 91 = .ok (.invokevirtual 101, 3) := by decide +kernel
theorem dX7_copy_94 : decode cX7_copy 94 = .ok (.ifCond .ne 9, 3) := by decide +kernel
theorem dX7_copy_97 : decode cX7_copy 97 = .ok (.aload_n 0, 1) := by decide +kernel
theorem dX7_copy_98 : decode cX7_copy 98 = .ok (.iconst 2, 1) := by decide +kernel
theorem dX7_copy_99 : decode cX7_copy 99 = .ok (.invokevirtual 76, 3) := by decide +kernel
theorem dX7_copy_102 : decode cX7_copy 102 = .ok (.ireturn, 1) := by decide +kernel
theorem dX7_copy_103 : decode cX7_copy 103 = .ok (.aload 6, 2) := by decide +kernel
theorem dX7_copy_105 : decode cX7_copy 105 = .ok (.getfield 105, 3) := by decide +kernel
theorem dX7_copy_108 : decode cX7_copy 108 = .ok (.iload_n 2, 1) := by decide +kernel
theorem dX7_copy_109 : decode cX7_copy 109 = .ok (.aload 7, 2) := by decide +kernel
theorem dX7_copy_111 : decode cX7_copy 111 = .ok (.getfield 105, 3) := by decide +kernel
theorem dX7_copy_114 : decode cX7_copy 114 = .ok (.iload 4, 2) := by decide +kernel
theorem dX7_copy_116 : decode cX7_copy 116 = .ok (.iload 5, 2) := by decide +kernel
theorem dX7_copy_118 : decode cX7_copy 118 = .ok (.invokestatic 109, 3) := by decide +kernel
theorem dX7_copy_121 : decode cX7_copy 121 = .ok (.aload_n 0, 1) := by decide +kernel
theorem dX7_copy_122 : decode cX7_copy 122 = .ok (.iload 5, 2) := by decide +kernel
theorem dX7_copy_124 : decode cX7_copy 124 = .ok (.invokevirtual 84, 3) := by decide +kernel
theorem dX7_copy_127 : decode cX7_copy 127 = .ok (.ireturn, 1) := by decide +kernel
theorem dX7_drop_0 : decode cX7_drop 0 = .ok (.iload_n 1, 1) := by decide +kernel
theorem dX7_drop_1 : decode cX7_drop 1 = .ok (.invokestatic 67, 3) := by decide +kernel
theorem dX7_drop_4 : decode cX7_drop 4 = .ok (.ifCond .ne 6, 3) := by decide +kernel
theorem dX7_drop_7 : decode cX7_drop 7 = .ok (.ldc 75, 2) := by decide +kernel
theorem dX7_drop_9 : decode cX7_drop 9 = .ok (.ireturn, 1) := by decide +kernel
theorem dX7_drop_10 : decode cX7_drop 10 = .ok (.aload_n 0, 1) := by decide +kernel
theorem dX7_drop_11 : decode cX7_drop 11 = .ok (.getfield 11, 3) := by decide +kernel
theorem dX7_drop_14 : decode cX7_drop 14 = .ok (.iload_n 1, 1) := by decide +kernel
theorem dX7_drop_15 : decode cX7_drop 15 = .ok (.aaload, 1) := by decide +kernel
theorem dX7_drop_16 : decode cX7_drop 16 = .ok (.getfield 94, 3) := by decide +kernel
theorem dX7_drop_19 : decode cX7_drop 19 = .ok (.ifCond .eq 9, 3) := by decide +kernel
theorem dX7_drop_22 : decode cX7_drop 22 = .ok (.aload_n 0, 1) := by decide +kernel
theorem dX7_drop_23 : decode cX7_drop 23 = .ok (.iconst 1, 1) := by decide +kernel
theorem dX7_drop_24 : decode cX7_drop 24 = .ok (.invokevirtual 76, 3) := by decide +kernel
theorem dX7_drop_27 : decode cX7_drop 27 = .ok (.ireturn, 1) := by decide +kernel
theorem dX7_drop_28 : decode cX7_drop 28 = .ok (.aload_n 0, 1) := by decide +kernel
theorem dX7_drop_29 : decode cX7_drop 29 = .ok (.getfield 11, 3) := by decide +kernel
theorem dX7_drop_32 : decode cX7_drop 32 = .ok (.iload_n 1, 1) := by decide +kernel
theorem dX7_drop_33 : decode cX7_drop 33 = .ok (.aaload, 1) := by decide +kernel
theorem dX7_drop_34 : decode cX7_drop 34 = .ok (.iconst 1, 1) := by decide +kernel
theorem dX7_drop_35 : decode cX7_drop 35 = .ok (.putfield 94, 3) := by decide +kernel
theorem dX7_drop_38 : decode cX7_drop 38 = .ok (.aload_n 0, 1) := by decide +kernel
theorem dX7_drop_39 : decode cX7_drop 39 = .ok (.aload_n 0, 1) := by decide +kernel
theorem dX7_drop_40 : decode cX7_drop 40 = .ok (.getfield 11, 3) := by decide +kernel
theorem dX7_drop_43 : decode cX7_drop 43 = .ok (.iload_n 1, 1) := by decide +kernel
theorem dX7_drop_44 : decode cX7_drop 44 = .ok (.aaload, 1) := by decide +kernel
theorem dX7_drop_45 : decode cX7_drop 45 = .ok (.getfield 115, 3) := by decide +kernel
theorem dX7_drop_48 : decode cX7_drop 48 = .ok (.invokevirtual 84, 3) := by decide +kernel
theorem dX7_drop_51 : decode cX7_drop 51 = .ok (.ireturn, 1) := by decide +kernel
theorem dX7_feed_0 : decode cX7_feed 0 = .ok (.iload_n 1, 1) := by decide +kernel
theorem dX7_feed_1 : decode cX7_feed 1 = .ok (.iconst 0, 1) := by decide +kernel
theorem dX7_feed_2 : decode cX7_feed 2 = .ok (.sipush 255, 3) := by decide +kernel
theorem dX7_feed_5 : decode cX7_feed 5 = .ok (.invokestatic 71, 3) := by decide +kernel
theorem dX7_feed_8 : decode cX7_feed 8 = .ok (.ifCond .ne 6, 3) := by decide +kernel
theorem dX7_feed_11 : decode cX7_feed 11 = .ok (.ldc 75, 2) := by decide +kernel
theorem dX7_feed_13 : decode cX7_feed 13 = .ok (.ireturn, 1) := by decide +kernel
theorem dX7_feed_14 : decode cX7_feed 14 = .ok (.aload_n 0, 1) := by decide +kernel
theorem dX7_feed_15 : decode cX7_feed 15 = .ok (.getfield 19, 3) := by decide +kernel
theorem dX7_feed_18 : decode cX7_feed 18 = .ok (.iload_n 1, 1) := by decide +kernel
theorem dX7_feed_19 : decode cX7_feed 19 = .ok (.invokevirtual 118, 3) := by decide +kernel
theorem dX7_feed_22 : decode cX7_feed 22 = .ok (.ireturn, 1) := by decide +kernel
theorem dX7_sky_0 : decode cX7_sky 0 = .ok (.aload_n 0, 1) := by decide +kernel
theorem dX7_sky_1 : decode cX7_sky 1 = .ok (.getfield 19, 3) := by decide +kernel
theorem dX7_sky_4 : decode cX7_sky 4 = .ok (.aload_n 0, 1) := by decide +kernel
theorem dX7_sky_5 : decode cX7_sky 5 = .ok (.getfield 26, 3) := by decide +kernel
theorem dX7_sky_8 : decode cX7_sky 8 = .ok (.invokevirtual 121, 3) := by decide +kernel
theorem dX7_sky_11 : decode cX7_sky 11 = .ok (.istore_n 1, 1) := by decide +kernel
theorem dX7_sky_12 : decode cX7_sky 12 = .ok (.iload_n 1, 1) := by decide +kernel
theorem dX7_sky_13 : decode cX7_sky 13 = .ok (.ifCond .eq 19, 3) := by decide +kernel
theorem dX7_sky_16 : decode cX7_sky 16 = .ok (.aload_n 0, 1) := by decide +kernel
theorem dX7_sky_17 : decode cX7_sky 17 = .ok (.iload_n 1, 1) := by decide +kernel
theorem dX7_sky_18 : decode cX7_sky 18 = .ok (.putfield 60, 3) := by decide +kernel
theorem dX7_sky_21 : decode cX7_sky 21 = .ok (.ldc 125, 2) := by decide +kernel
theorem dX7_sky_23 : decode cX7_sky 23 = .ok (.aload_n 0, 1) := by decide +kernel
theorem dX7_sky_24 : decode cX7_sky 24 = .ok (.getfield 19, 3) := by decide +kernel
theorem dX7_sky_27 : decode cX7_sky 27 = .ok (.getfield 126, 3) := by decide +kernel
theorem dX7_sky_30 : decode cX7_sky 30 = .ok (.isub, 1) := by decide +kernel
theorem dX7_sky_31 : decode cX7_sky 31 = .ok (.ireturn, 1) := by decide +kernel
theorem dX7_sky_32 : decode cX7_sky 32 = .ok (.aload_n 0, 1) := by decide +kernel
theorem dX7_sky_33 : decode cX7_sky 33 = .ok (.getfield 30, 3) := by decide +kernel
theorem dX7_sky_36 : decode cX7_sky 36 = .ok (.aload_n 0, 1) := by decide +kernel
theorem dX7_sky_37 : decode cX7_sky 37 = .ok (.getfield 26, 3) := by decide +kernel
theorem dX7_sky_40 : decode cX7_sky 40 = .ok (.invokevirtual 129, 3) := by decide +kernel
theorem dX7_sky_43 : decode cX7_sky 43 = .ok (.aload_n 0, 1) := by decide +kernel
theorem dX7_sky_44 : decode cX7_sky 44 = .ok (.getfield 36, 3) := by decide +kernel
theorem dX7_sky_47 : decode cX7_sky 47 = .ok (.invokevirtual 132, 3) := by decide +kernel
theorem dX7_sky_50 : decode cX7_sky 50 = .ok (.aload_n 0, 1) := by decide +kernel
theorem dX7_sky_51 : decode cX7_sky 51 = .ok (.getfield 30, 3) := by decide +kernel
theorem dX7_sky_54 : decode cX7_sky 54 = .ok (.getfield 135, 3) := by decide +kernel
theorem dX7_sky_57 : decode cX7_sky 57 = .ok (.ireturn, 1) := by decide +kernel
theorem dX7_fault_0 : decode cX7_fault 0 = .ok (.aload_n 0, 1) := by decide +kernel
theorem dX7_fault_1 : decode cX7_fault 1 = .ok (.getfield 60, 3) := by decide +kernel
theorem dX7_fault_4 : decode cX7_fault 4 = .ok (.ireturn, 1) := by decide +kernel
theorem dX7_undo_0 : decode cX7_undo 0 = .ok (.aload_n 0, 1) := by decide +kernel
theorem dX7_undo_1 : decode cX7_undo 1 = .ok (.getfield 36, 3) := by decide +kernel
theorem dX7_undo_4 : decode cX7_undo 4 = .ok (.getfield 138, 3) := by decide +kernel
theorem dX7_undo_7 : decode cX7_undo 7 = .ok (.ifCond .ne 6, 3) := by decide +kernel
theorem dX7_undo_10 : decode cX7_undo 10 = .ok (.ldc 141, 2) := by decide +kernel
theorem dX7_undo_12 : decode cX7_undo 12 = .ok (.ireturn, 1) := by decide +kernel
theorem dX7_undo_13 : decode cX7_undo 13 = .ok (.aload_n 0, 1) := by decide +kernel
theorem dX7_undo_14 : decode cX7_undo 14 = .ok (.getfield 36, 3) := by decide +kernel
theorem dX7_undo_17 : decode cX7_undo 17 = .ok (.aload_n 0, 1) := by decide +kernel
theorem dX7_undo_18 : decode cX7_undo 18 = .ok (.getfield 30, 3) := by decide +kernel
theorem dX7_undo_21 : decode cX7_undo 21 = .ok (.invokevirtual 142, 3) := by decide +kernel
theorem dX7_undo_24 : decode cX7_undo 24 = .ok (.ireturn, 1) := by decide +kernel
theorem dX7_hours_0 : decode cX7_hours 0 = .ok (.aload_n 0, 1) := by decide +kernel
theorem dX7_hours_1 : decode cX7_hours 1 = .ok (.invokevirtual 145, 3) := by decide +kernel
theorem dX7_hours_4 : decode cX7_hours 4 = .ok (.ifCond .eq 6, 3) := by decide +kernel
theorem dX7_hours_7 : decode cX7_hours 7 = .ok (.ldc 141, 2) := by decide +kernel
theorem dX7_hours_9 : decode cX7_hours 9 = .ok (.ireturn, 1) := by decide +kernel
theorem dX7_hours_10 : decode cX7_hours 10 = .ok (.iload_n 1, 1) := by decide +kernel
theorem dX7_hours_11 : decode cX7_hours 11 = .ok (.iconst 1, 1) := by decide +kernel
theorem dX7_hours_12 : decode cX7_hours 12 = .ok (.bipush 24, 2) := by decide +kernel
theorem dX7_hours_14 : decode cX7_hours 14 = .ok (.invokestatic 71, 3) := by decide +kernel
theorem dX7_hours_17 : decode cX7_hours 17 = .ok (.ifCond .ne 6, 3) := by decide +kernel
theorem dX7_hours_20 : decode cX7_hours 20 = .ok (.ldc 75, 2) := by decide +kernel
theorem dX7_hours_22 : decode cX7_hours 22 = .ok (.ireturn, 1) := by decide +kernel
theorem dX7_hours_23 : decode cX7_hours 23 = .ok (.aload_n 0, 1) := by decide +kernel
theorem dX7_hours_24 : decode cX7_hours 24 = .ok (.getfield 30, 3) := by decide +kernel
theorem dX7_hours_27 : decode cX7_hours 27 = .ok (.getfield 149, 3) := by decide +kernel
theorem dX7_hours_30 : decode cX7_hours 30 = .ok (.iload_n 1, 1) := by decide +kernel
theorem dX7_hours_31 : decode cX7_hours 31 = .ok (.iadd, 1) := by decide +kernel
theorem dX7_hours_32 : decode cX7_hours 32 = .ok (.sipush 999, 3) := by decide +kernel
theorem dX7_hours_35 : decode cX7_hours 35 = .ok (.if_icmp .le 6, 3) := by decide +kernel
theorem dX7_hours_38 : decode cX7_hours 38 = .ok (.ldc 152, 2) := by decide +kernel
theorem dX7_hours_40 : decode cX7_hours 40 = .ok (.ireturn, 1) := by decide +kernel
theorem dX7_hours_41 : decode cX7_hours 41 = .ok (.iconst 0, 1) := by decide +kernel
theorem dX7_hours_42 : decode cX7_hours 42 = .ok (.istore_n 2, 1) := by decide +kernel
theorem dX7_hours_43 : decode cX7_hours 43 = .ok (.iload_n 2, 1) := by decide +kernel
theorem dX7_hours_44 : decode cX7_hours 44 = .ok (.iload_n 1, 1) := by decide +kernel
theorem dX7_hours_45 : decode cX7_hours 45 = .ok (.if_icmp .ge 27, 3) := by decide +kernel
theorem dX7_hours_48 : decode cX7_hours 48 = .ok (.aload_n 0, 1) := by decide +kernel
theorem dX7_hours_49 : decode cX7_hours 49 = .ok (.getfield 36, 3) := by decide +kernel
theorem dX7_hours_52 : decode cX7_hours 52 = .ok (.aload_n 0, 1) := by decide +kernel
theorem dX7_hours_53 : decode cX7_hours 53 = .ok (.getfield 30, 3) := by decide +kernel
theorem dX7_hours_56 : decode cX7_hours 56 = .ok (.invokevirtual 153, 3) := by decide +kernel
theorem dX7_hours_59 : decode cX7_hours 59 = .ok (.aload_n 0, 1) := by decide +kernel
theorem dX7_hours_60 : decode cX7_hours 60 = .ok (.getfield 30, 3) := by decide +kernel
theorem dX7_hours_63 : decode cX7_hours 63 = .ok (.invokevirtual 156, 3) := by decide +kernel
theorem dX7_hours_66 : decode cX7_hours 66 = .ok (.iinc 2 1, 3) := by decide +kernel
theorem dX7_hours_69 : decode cX7_hours 69 = .ok (.goto (-26), 3) := by decide +kernel
theorem dX7_hours_72 : decode cX7_hours 72 = .ok (.aload_n 0, 1) := by decide +kernel
theorem dX7_hours_73 : decode cX7_hours 73 = .ok (.getfield 30, 3) := by decide +kernel
theorem dX7_hours_76 : decode cX7_hours 76 = .ok (.invokevirtual 159, 3) := by decide +kernel
theorem dX7_hours_79 : decode cX7_hours 79 = .ok (.invokestatic 163, 3) := by decide +kernel
theorem dX7_hours_82 : decode cX7_hours 82 = .ok (.ireturn, 1) := by decide +kernel
theorem dX7_burn_0 : decode cX7_burn 0 = .ok (.aload_n 0, 1) := by decide +kernel
theorem dX7_burn_1 : decode cX7_burn 1 = .ok (.iload_n 1, 1) := by decide +kernel
theorem dX7_burn_2 : decode cX7_burn 2 = .ok (.invokevirtual 168, 3) := by decide +kernel
theorem dX7_burn_5 : decode cX7_burn 5 = .ok (.ifCond .eq 13, 3) := by decide +kernel
theorem dX7_burn_8 : decode cX7_burn 8 = .ok (.iload_n 2, 1) := by decide +kernel
theorem dX7_burn_9 : decode cX7_burn 9 = .ok (.iconst 1, 1) := by decide +kernel
theorem dX7_burn_10 : decode cX7_burn 10 = .ok (.bipush 20, 2) := by decide +kernel
theorem dX7_burn_12 : decode cX7_burn 12 = .ok (.invokestatic 71, 3) := by decide +kernel
theorem dX7_burn_15 : decode cX7_burn 15 = .ok (.ifCond .ne 6, 3) := by decide +kernel
theorem dX7_burn_18 : decode cX7_burn 18 = .ok (.ldc 75, 2) := by decide +kernel
theorem dX7_burn_20 : decode cX7_burn 20 = .ok (.ireturn, 1) := by decide +kernel
theorem dX7_burn_21 : decode cX7_burn 21 = .ok (.aload_n 0, 1) := by decide +kernel
theorem dX7_burn_22 : decode cX7_burn 22 = .ok (.getfield 30, 3) := by decide +kernel
theorem dX7_burn_25 : decode cX7_burn 25 = .ok (.getfield 171, 3) := by decide +kernel
theorem dX7_burn_28 : decode cX7_burn 28 = .ok (.iload_n 1, 1) := by decide +kernel
theorem dX7_burn_29 : decode cX7_burn 29 = .ok (.iaload, 1) := by decide +kernel
theorem dX7_burn_30 : decode cX7_burn 30 = .ok (.iload_n 2, 1) := by decide +kernel
theorem dX7_burn_31 : decode cX7_burn 31 = .ok (.if_icmp .ge 6, 3) := by decide +kernel
theorem dX7_burn_34 : decode cX7_burn 34 = .ok (.ldc 141, 2) := by decide +kernel
theorem dX7_burn_36 : decode cX7_burn 36 = .ok (.ireturn, 1) := by decide +kernel
theorem dX7_burn_37 : decode cX7_burn 37 = .ok (.aload_n 0, 1) := by decide +kernel
theorem dX7_burn_38 : decode cX7_burn 38 = .ok (.getfield 36, 3) := by decide +kernel
theorem dX7_burn_41 : decode cX7_burn 41 = .ok (.aload_n 0, 1) := by decide +kernel
theorem dX7_burn_42 : decode cX7_burn 42 = .ok (.getfield 30, 3) := by decide +kernel
theorem dX7_burn_45 : decode cX7_burn 45 = .ok (.invokevirtual 153, 3) := by decide +kernel
theorem dX7_burn_48 : decode cX7_burn 48 = .ok (.aload_n 0, 1) := by decide +kernel
theorem dX7_burn_49 : decode cX7_burn 49 = .ok (.getfield 30, 3) := by decide +kernel
theorem dX7_burn_52 : decode cX7_burn 52 = .ok (.iload_n 1, 1) := by decide +kernel
theorem dX7_burn_53 : decode cX7_burn 53 = .ok (.iload_n 2, 1) := by decide +kernel
theorem dX7_burn_54 : decode cX7_burn 54 = .ok (.invokevirtual 174, 3) := by decide +kernel
theorem dX7_burn_57 : decode cX7_burn 57 = .ok (.aload_n 0, 1) := by decide +kernel
theorem dX7_burn_58 : decode cX7_burn 58 = .ok (.getfield 30, 3) := by decide +kernel
theorem dX7_burn_61 : decode cX7_burn 61 = .ok (.getfield 177, 3) := by decide +kernel
theorem dX7_burn_64 : decode cX7_burn 64 = .ok (.iload_n 1, 1) := by decide +kernel
theorem dX7_burn_65 : decode cX7_burn 65 = .ok (.iaload, 1) := by decide +kernel
theorem dX7_burn_66 : decode cX7_burn 66 = .ok (.ireturn, 1) := by decide +kernel
theorem dX7_send_0 : decode cX7_send 0 = .ok (.aload_n 0, 1) := by decide +kernel
theorem dX7_send_1 : decode cX7_send 1 = .ok (.iload_n 1, 1) := by decide +kernel
theorem dX7_send_2 : decode cX7_send 2 = .ok (.invokevirtual 168, 3) := by decide +kernel
theorem dX7_send_5 : decode cX7_send 5 = .ok (.ifCond .eq 26, 3) := by decide +kernel
theorem dX7_send_8 : decode cX7_send 8 = .ok (.aload_n 0, 1) := by decide +kernel
theorem dX7_send_9 : decode cX7_send 9 = .ok (.iload_n 2, 1) := by decide +kernel
theorem dX7_send_10 : decode cX7_send 10 = .ok (.invokevirtual 168, 3) := by decide +kernel
theorem dX7_send_13 : decode cX7_send 13 = .ok (.ifCond .eq 18, 3) := by decide +kernel
theorem dX7_send_16 : decode cX7_send 16 = .ok (.iload_n 1, 1) := by decide +kernel
theorem dX7_send_17 : decode cX7_send 17 = .ok (.iload_n 2, 1) := by decide +kernel
theorem dX7_send_18 : decode cX7_send 18 = .ok (.if_icmp .eq 13, 3) := by decide +kernel
theorem dX7_send_21 : decode cX7_send 21 = .ok (.iload_n 3, 1) := by decide +kernel
theorem dX7_send_22 : decode cX7_send 22 = .ok (.iconst 1, 1) := by decide +kernel
theorem dX7_send_23 : decode cX7_send 23 = .ok (.bipush 60, 2) := by decide +kernel
theorem dX7_send_25 : decode cX7_send 25 = .ok (.invokestatic 71, 3) := by decide +kernel
theorem dX7_send_28 : decode cX7_send 28 = .ok (.ifCond .ne 6, 3) := by decide +kernel
theorem dX7_send_31 : decode cX7_send 31 = .ok (.ldc 75, 2) := by decide +kernel
theorem dX7_send_33 : decode cX7_send 33 = .ok (.ireturn, 1) := by decide +kernel
theorem dX7_send_34 : decode cX7_send 34 = .ok (.aload_n 0, 1) := by decide +kernel
theorem dX7_send_35 : decode cX7_send 35 = .ok (.getfield 30, 3) := by decide +kernel
theorem dX7_send_38 : decode cX7_send 38 = .ok (.getfield 180, 3) := by decide +kernel
theorem dX7_send_41 : decode cX7_send 41 = .ok (.iload_n 1, 1) := by decide +kernel
theorem dX7_send_42 : decode cX7_send 42 = .ok (.iaload, 1) := by decide +kernel
theorem dX7_send_43 : decode cX7_send 43 = .ok (.aload_n 0, 1) := by decide +kernel
theorem dX7_send_44 : decode cX7_send 44 = .ok (.getfield 30, 3) := by decide +kernel
theorem dX7_send_47 : decode cX7_send 47 = .ok (.getfield 180, 3) := by decide +kernel
theorem dX7_send_50 : decode cX7_send 50 = .ok (.iload_n 2, 1) := by decide +kernel
theorem dX7_send_51 : decode cX7_send 51 = .ok (.iaload, 1) := by decide +kernel
theorem dX7_send_52 : decode cX7_send 52 = .ok (.if_icmp .ne 16, 3) := by decide +kernel
theorem dX7_send_55 : decode cX7_send 55 = .ok (.aload_n 0, 1) := by decide +kernel
theorem dX7_send_56 : decode cX7_send 56 = .ok (.getfield 30, 3) := by decide +kernel
theorem dX7_send_59 : decode cX7_send 59 = .ok (.getfield 171, 3) := by decide +kernel
theorem dX7_send_62 : decode cX7_send 62 = .ok (.iload_n 1, 1) := by decide +kernel
theorem dX7_send_63 : decode cX7_send 63 = .ok (.iaload, 1) := by decide +kernel
theorem dX7_send_64 : decode cX7_send 64 = .ok (.iload_n 3, 1) := by decide +kernel
theorem dX7_send_65 : decode cX7_send 65 = .ok (.if_icmp .ge 6, 3) := by decide +kernel
theorem dX7_send_68 : decode cX7_send 68 = .ok (.ldc 141, 2) := by decide +kernel
theorem dX7_send_70 : decode cX7_send 70 = .ok (.ireturn, 1) := by decide +kernel
theorem dX7_send_71 : decode cX7_send 71 = .ok (.aload_n 0, 1) := by decide +kernel
theorem dX7_send_72 : decode cX7_send 72 = .ok (.getfield 30, 3) := by decide +kernel
theorem dX7_send_75 : decode cX7_send 75 = .ok (.getfield 171, 3) := by decide +kernel
theorem dX7_send_78 : decode cX7_send 78 = .ok (.iload_n 2, 1) := by decide +kernel
theorem dX7_send_79 : decode cX7_send 79 = .ok (.iaload, 1) := by decide +kernel
theorem dX7_send_80 : decode cX7_send 80 = .ok (.iload_n 3, 1) := by decide +kernel
theorem dX7_send_81 : decode cX7_send 81 = .ok (.iadd, 1) := by decide +kernel
theorem dX7_send_82 : decode cX7_send 82 = .ok (.bipush 99, 2) := by decide +kernel
theorem dX7_send_84 : decode cX7_send 84 = .ok (.if_icmp .le 6, 3) := by decide +kernel
theorem dX7_send_87 : decode cX7_send 87 = .ok (.ldc 152, 2) := by decide +kernel
theorem dX7_send_89 : decode cX7_send 89 = .ok (.ireturn, 1) := by decide +kernel
theorem dX7_send_90 : decode cX7_send 90 = .ok (.aload_n 0, 1) := by decide +kernel
theorem dX7_send_91 : decode cX7_send 91 = .ok (.getfield 36, 3) := by decide +kernel
theorem dX7_send_94 : decode cX7_send 94 = .ok (.aload_n 0, 1) := by decide +kernel
theorem dX7_send_95 : decode cX7_send 95 = .ok (.getfield 30, 3) := by decide +kernel
theorem dX7_send_98 : decode cX7_send 98 = .ok (.invokevirtual 153, 3) := by decide +kernel
theorem dX7_send_101 : decode cX7_send 101 = .ok (.aload_n 0, 1) := by decide +kernel
theorem dX7_send_102 : decode cX7_send 102 = .ok (.getfield 30, 3) := by decide +kernel
theorem dX7_send_105 : decode cX7_send 105 = .ok (.getfield 171, 3) := by decide +kernel
theorem dX7_send_108 : decode cX7_send 108 = .ok (.iload_n 1, 1) := by decide +kernel
theorem dX7_send_109 : decode cX7_send 109 = .ok (.dup2, 1) := by decide +kernel
theorem dX7_send_110 : decode cX7_send 110 = .ok (.iaload, 1) := by decide +kernel
theorem dX7_send_111 : decode cX7_send 111 = .ok (.iload_n 3, 1) := by decide +kernel
theorem dX7_send_112 : decode cX7_send 112 = .ok (.isub, 1) := by decide +kernel
theorem dX7_send_113 : decode cX7_send 113 = .ok (.iastore, 1) := by decide +kernel
theorem dX7_send_114 : decode cX7_send 114 = .ok (.aload_n 0, 1) := by decide +kernel
theorem dX7_send_115 : decode cX7_send 115 = .ok (.getfield 30, 3) := by decide +kernel
theorem dX7_send_118 : decode cX7_send 118 = .ok (.getfield 171, 3) := by decide +kernel
theorem dX7_send_121 : decode cX7_send 121 = .ok (.iload_n 2, 1) := by decide +kernel
theorem dX7_send_122 : decode cX7_send 122 = .ok (.dup2, 1) := by decide +kernel
theorem dX7_send_123 : decode cX7_send 123 = .ok (.iaload, 1) := by decide +kernel
theorem dX7_send_124 : decode cX7_send 124 = .ok (.iload_n 3, 1) := by decide +kernel
theorem dX7_send_125 : decode cX7_send 125 = .ok (.iadd, 1) := by decide +kernel
theorem dX7_send_126 : decode cX7_send 126 = .ok (.iastore, 1) := by decide +kernel
theorem dX7_send_127 : decode cX7_send 127 = .ok (.aload_n 0, 1) := by decide +kernel
theorem dX7_send_128 : decode cX7_send 128 = .ok (.getfield 30, 3) := by decide +kernel
theorem dX7_send_131 : decode cX7_send 131 = .ok (.getfield 171, 3) := by decide +kernel
theorem dX7_send_134 : decode cX7_send 134 = .ok (.iload_n 2, 1) := by decide +kernel
theorem dX7_send_135 : decode cX7_send 135 = .ok (.iaload, 1) := by decide +kernel
theorem dX7_send_136 : decode cX7_send 136 = .ok (.ireturn, 1) := by decide +kernel
theorem dX7_wind_0 : decode cX7_wind 0 = .ok (.aload_n 0, 1) := by decide +kernel
theorem dX7_wind_1 : decode cX7_wind 1 = .ok (.invokevirtual 145, 3) := by decide +kernel
theorem dX7_wind_4 : decode cX7_wind 4 = .ok (.ifCond .eq 6, 3) := by decide +kernel
theorem dX7_wind_7 : decode cX7_wind 7 = .ok (.ldc 141, 2) := by decide +kernel
theorem dX7_wind_9 : decode cX7_wind 9 = .ok (.ireturn, 1) := by decide +kernel
theorem dX7_wind_10 : decode cX7_wind 10 = .ok (.iload_n 1, 1) := by decide +kernel
theorem dX7_wind_11 : decode cX7_wind 11 = .ok (.iconst 0, 1) := by decide +kernel
theorem dX7_wind_12 : decode cX7_wind 12 = .ok (.iconst 3, 1) := by decide +kernel
theorem dX7_wind_13 : decode cX7_wind 13 = .ok (.invokestatic 71, 3) := by decide +kernel
theorem dX7_wind_16 : decode cX7_wind 16 = .ok (.ifCond .eq 12, 3) := by decide +kernel
theorem dX7_wind_19 : decode cX7_wind 19 = .ok (.iload_n 2, 1) := by decide +kernel
theorem dX7_wind_20 : decode cX7_wind 20 = .ok (.iconst 0, 1) := by decide +kernel
theorem dX7_wind_21 : decode cX7_wind 21 = .ok (.iconst 4, 1) := by decide +kernel
theorem dX7_wind_22 : decode cX7_wind 22 = .ok (.invokestatic 71, 3) := by decide +kernel
theorem dX7_wind_25 : decode cX7_wind 25 = .ok (.ifCond .ne 6, 3) := by decide +kernel
theorem dX7_wind_28 : decode cX7_wind 28 = .ok (.ldc 75, 2) := by decide +kernel
theorem dX7_wind_30 : decode cX7_wind 30 = .ok (.ireturn, 1) := by decide +kernel
theorem dX7_wind_31 : decode cX7_wind 31 = .ok (.aload_n 0, 1) := by decide +kernel
theorem dX7_wind_32 : decode cX7_wind 32 = .ok (.getfield 30, 3) := by decide +kernel
theorem dX7_wind_35 : decode cX7_wind 35 = .ok (.getfield 183, 3) := by decide +kernel
theorem dX7_wind_38 : decode cX7_wind 38 = .ok (.iload_n 1, 1) := by decide +kernel
theorem dX7_wind_39 : decode cX7_wind 39 = .ok (.iaload, 1) := by decide +kernel
theorem dX7_wind_40 : decode cX7_wind 40 = .ok (.istore_n 3, 1) := by decide +kernel
theorem dX7_wind_41 : decode cX7_wind 41 = .ok (.aload_n 0, 1) := by decide +kernel
theorem dX7_wind_42 : decode cX7_wind 42 = .ok (.getfield 36, 3) := by decide +kernel
theorem dX7_wind_45 : decode cX7_wind 45 = .ok (.aload_n 0, 1) := by decide +kernel
theorem dX7_wind_46 : decode cX7_wind 46 = .ok (.getfield 30, 3) := by decide +kernel
theorem dX7_wind_49 : decode cX7_wind 49 = .ok (.invokevirtual 153, 3) := by decide +kernel
theorem dX7_wind_52 : decode cX7_wind 52 = .ok (.aload_n 0, 1) := by decide +kernel
theorem dX7_wind_53 : decode cX7_wind 53 = .ok (.getfield 30, 3) := by decide +kernel
theorem dX7_wind_56 : decode cX7_wind 56 = .ok (.getfield 183, 3) := by decide +kernel
theorem dX7_wind_59 : decode cX7_wind 59 = .ok (.iload_n 1, 1) := by decide +kernel
theorem dX7_wind_60 : decode cX7_wind 60 = .ok (.iload_n 2, 1) := by decide +kernel
theorem dX7_wind_61 : decode cX7_wind 61 = .ok (.iastore, 1) := by decide +kernel
theorem dX7_wind_62 : decode cX7_wind 62 = .ok (.iload_n 3, 1) := by decide +kernel
theorem dX7_wind_63 : decode cX7_wind 63 = .ok (.ireturn, 1) := by decide +kernel
theorem dX7_office_0 : decode cX7_office 0 = .ok (.aload_n 0, 1) := by decide +kernel
theorem dX7_office_1 : decode cX7_office 1 = .ok (.iload_n 1, 1) := by decide +kernel
theorem dX7_office_2 : decode cX7_office 2 = .ok (.invokevirtual 168, 3) := by decide +kernel
theorem dX7_office_5 : decode cX7_office 5 = .ok (.ifCond .ne 6, 3) := by decide +kernel
theorem dX7_office_8 : decode cX7_office 8 = .ok (.ldc 75, 2) := by decide +kernel
theorem dX7_office_10 : decode cX7_office 10 = .ok (.ireturn, 1) := by decide +kernel
theorem dX7_office_11 : decode cX7_office 11 = .ok (.iload_n 2, 1) := by decide +kernel
theorem dX7_office_12 : decode cX7_office 12 = .ok (.tableswitch 115 0 5 #[40, 50, 60, 70, 80, 93], 40) := by decide +kernel
theorem dX7_office_52 : decode cX7_office 52 = .ok (.aload_n 0, 1) := by decide +kernel
theorem dX7_office_53 : decode cX7_office 53 = .ok (.getfield 30, 3) := by decide +kernel
theorem dX7_office_56 : decode cX7_office 56 = .ok (.getfield 180, 3) := by decide +kernel
theorem dX7_office_59 : decode cX7_office 59 = .ok (.iload_n 1, 1) := by decide +kernel
theorem dX7_office_60 : decode cX7_office 60 = .ok (.iaload, 1) := by decide +kernel
theorem dX7_office_61 : decode cX7_office 61 = .ok (.ireturn, 1) := by decide +kernel
theorem dX7_office_62 : decode cX7_office 62 = .ok (.aload_n 0, 1) := by decide +kernel
theorem dX7_office_63 : decode cX7_office 63 = .ok (.getfield 30, 3) := by decide +kernel
theorem dX7_office_66 : decode cX7_office 66 = .ok (.getfield 177, 3) := by decide +kernel
theorem dX7_office_69 : decode cX7_office 69 = .ok (.iload_n 1, 1) := by decide +kernel
theorem dX7_office_70 : decode cX7_office 70 = .ok (.iaload, 1) := by decide +kernel
theorem dX7_office_71 : decode cX7_office 71 = .ok (.ireturn, 1) := by decide +kernel
theorem dX7_office_72 : decode cX7_office 72 = .ok (.aload_n 0, 1) := by decide +kernel
theorem dX7_office_73 : decode cX7_office 73 = .ok (.getfield 30, 3) := by decide +kernel
theorem dX7_office_76 : decode cX7_office 76 = .ok (.getfield 171, 3) := by decide +kernel
theorem dX7_office_79 : decode cX7_office 79 = .ok (.iload_n 1, 1) := by decide +kernel
theorem dX7_office_80 : decode cX7_office 80 = .ok (.iaload, 1) := by decide +kernel
theorem dX7_office_81 : decode cX7_office 81 = .ok (.ireturn, 1) := by decide +kernel
theorem dX7_office_82 : decode cX7_office 82 = .ok (.aload_n 0, 1) := by decide +kernel
theorem dX7_office_83 : decode cX7_office 83 = .ok (.getfield 30, 3) := by decide +kernel
theorem dX7_office_86 : decode cX7_office 86 = .ok (.getfield 186, 3) := by decide +kernel
theorem dX7_office_89 : decode cX7_office 89 = .ok (.iload_n 1, 1) := by decide +kernel
theorem dX7_office_90 : decode cX7_office 90 = .ok (.iaload, 1) := by decide +kernel
theorem dX7_office_91 : decode cX7_office 91 = .ok (.ireturn, 1) := by decide +kernel
theorem dX7_office_92 : decode cX7_office 92 = .ok (.aload_n 0, 1) := by decide +kernel
theorem dX7_office_93 : decode cX7_office 93 = .ok (.getfield 30, 3) := by decide +kernel
theorem dX7_office_96 : decode cX7_office 96 = .ok (.getfield 177, 3) := by decide +kernel
theorem dX7_office_99 : decode cX7_office 99 = .ok (.iload_n 1, 1) := by decide +kernel
theorem dX7_office_100 : decode cX7_office 100 = .ok (.iaload, 1) := by decide +kernel
theorem dX7_office_101 : decode cX7_office 101 = .ok (.invokestatic 189, 3) := by decide +kernel
theorem dX7_office_104 : decode cX7_office 104 = .ok (.ireturn, 1) := by decide +kernel
theorem dX7_office_105 : decode cX7_office 105 = .ok (.aload_n 0, 1) := by decide +kernel
theorem dX7_office_106 : decode cX7_office 106 = .ok (.getfield 30, 3) := by decide +kernel
theorem dX7_office_109 : decode cX7_office 109 = .ok (.getfield 192, 3) := by decide +kernel
theorem dX7_office_112 : decode cX7_office 112 = .ok (.iload_n 1, 1) := by decide +kernel
theorem dX7_office_113 : decode cX7_office 113 = .ok (.iaload, 1) := by decide +kernel
theorem dX7_office_114 : decode cX7_office 114 = .ok (.aload_n 0, 1) := by decide +kernel
theorem dX7_office_115 : decode cX7_office 115 = .ok (.getfield 30, 3) := by decide +kernel
theorem dX7_office_118 : decode cX7_office 118 = .ok (.getfield 177, 3) := by decide +kernel
theorem dX7_office_121 : decode cX7_office 121 = .ok (.iload_n 1, 1) := by decide +kernel
theorem dX7_office_122 : decode cX7_office 122 = .ok (.iaload, 1) := by decide +kernel
theorem dX7_office_123 : decode cX7_office 123 = .ok (.invokestatic 195, 3) := by decide +kernel
theorem dX7_office_126 : decode cX7_office 126 = .ok (.ireturn, 1) := by decide +kernel
theorem dX7_office_127 : decode cX7_office 127 = .ok (.ldc 75, 2) := by decide +kernel
theorem dX7_office_129 : decode cX7_office 129 = .ok (.ireturn, 1) := by decide +kernel
theorem dX7_land_0 : decode cX7_land 0 = .ok (.aload_n 0, 1) := by decide +kernel
theorem dX7_land_1 : decode cX7_land 1 = .ok (.invokevirtual 145, 3) := by decide +kernel
theorem dX7_land_4 : decode cX7_land 4 = .ok (.ifCond .eq 6, 3) := by decide +kernel
theorem dX7_land_7 : decode cX7_land 7 = .ok (.ldc 141, 2) := by decide +kernel
theorem dX7_land_9 : decode cX7_land 9 = .ok (.ireturn, 1) := by decide +kernel
theorem dX7_land_10 : decode cX7_land 10 = .ok (.iload_n 1, 1) := by decide +kernel
theorem dX7_land_11 : decode cX7_land 11 = .ok (.invokestatic 198, 3) := by decide +kernel
theorem dX7_land_14 : decode cX7_land 14 = .ok (.ifCond .eq 14, 3) := by decide +kernel
theorem dX7_land_17 : decode cX7_land 17 = .ok (.aload_n 0, 1) := by decide +kernel
theorem dX7_land_18 : decode cX7_land 18 = .ok (.getfield 30, 3) := by decide +kernel
theorem dX7_land_21 : decode cX7_land 21 = .ok (.iload_n 1, 1) := by decide +kernel
theorem dX7_land_22 : decode cX7_land 22 = .ok (.invokevirtual 201, 3) := by decide +kernel
theorem dX7_land_25 : decode cX7_land 25 = .ok (.goto 5, 3) := by decide +kernel
theorem dX7_land_28 : decode cX7_land 28 = .ok (.ldc 75, 2) := by decide +kernel
theorem dX7_land_30 : decode cX7_land 30 = .ok (.ireturn, 1) := by decide +kernel
theorem dX7_ahead_0 : decode cX7_ahead 0 = .ok (.aload_n 0, 1) := by decide +kernel
theorem dX7_ahead_1 : decode cX7_ahead 1 = .ok (.iload_n 1, 1) := by decide +kernel
theorem dX7_ahead_2 : decode cX7_ahead 2 = .ok (.invokevirtual 168, 3) := by decide +kernel
theorem dX7_ahead_5 : decode cX7_ahead 5 = .ok (.ifCond .eq 20, 3) := by decide +kernel
theorem dX7_ahead_8 : decode cX7_ahead 8 = .ok (.iload_n 2, 1) := by decide +kernel
theorem dX7_ahead_9 : decode cX7_ahead 9 = .ok (.iconst 0, 1) := by decide +kernel
theorem dX7_ahead_10 : decode cX7_ahead 10 = .ok (.bipush 60, 2) := by decide +kernel
theorem dX7_ahead_12 : decode cX7_ahead 12 = .ok (.invokestatic 71, 3) := by decide +kernel
theorem dX7_ahead_15 : decode cX7_ahead 15 = .ok (.ifCond .eq 10, 3) := by decide +kernel
theorem dX7_ahead_18 : decode cX7_ahead 18 = .ok (.iload_n 3, 1) := by decide +kernel
theorem dX7_ahead_19 : decode cX7_ahead 19 = .ok (.invokestatic 204, 3) := by decide +kernel
theorem dX7_ahead_22 : decode cX7_ahead 22 = .ok (.ifCond .ne 6, 3) := by decide +kernel
theorem dX7_ahead_25 : decode cX7_ahead 25 = .ok (.ldc 75, 2) := by decide +kernel
theorem dX7_ahead_27 : decode cX7_ahead 27 = .ok (.ireturn, 1) := by decide +kernel
theorem dX7_ahead_28 : decode cX7_ahead 28 = .ok (.iload_n 3, 1) := by decide +kernel
theorem dX7_ahead_29 : decode cX7_ahead 29 = .ok (.ifCond .ne 15, 3) := by decide +kernel
theorem dX7_ahead_32 : decode cX7_ahead 32 = .ok (.aload_n 0, 1) := by decide +kernel
theorem dX7_ahead_33 : decode cX7_ahead 33 = .ok (.getfield 49, 3) := by decide +kernel
theorem dX7_ahead_36 : decode cX7_ahead 36 = .ok (.iload_n 1, 1) := by decide +kernel
theorem dX7_ahead_37 : decode cX7_ahead 37 = .ok (.iload_n 2, 1) := by decide +kernel
theorem dX7_ahead_38 : decode cX7_ahead 38 = .ok (.invokevirtual 207, 3) := by decide +kernel
theorem dX7_ahead_41 : decode cX7_ahead 41 = .ok (.goto 12, 3) := by decide +kernel
theorem dX7_ahead_44 : decode cX7_ahead 44 = .ok (.aload_n 0, 1) := by decide +kernel
theorem dX7_ahead_45 : decode cX7_ahead 45 = .ok (.getfield 49, 3) := by decide +kernel
theorem dX7_ahead_48 : decode cX7_ahead 48 = .ok (.iload_n 1, 1) := by decide +kernel
theorem dX7_ahead_49 : decode cX7_ahead 49 = .ok (.iload_n 2, 1) := by decide +kernel
theorem dX7_ahead_50 : decode cX7_ahead 50 = .ok (.invokevirtual 210, 3) := by decide +kernel
theorem dX7_ahead_53 : decode cX7_ahead 53 = .ok (.ireturn, 1) := by decide +kernel
theorem dX7_down_0 : decode cX7_down 0 = .ok (.aload_n 0, 1) := by decide +kernel
theorem dX7_down_1 : decode cX7_down 1 = .ok (.iload_n 1, 1) := by decide +kernel
theorem dX7_down_2 : decode cX7_down 2 = .ok (.invokevirtual 168, 3) := by decide +kernel
theorem dX7_down_5 : decode cX7_down 5 = .ok (.ifCond .eq 14, 3) := by decide +kernel
theorem dX7_down_8 : decode cX7_down 8 = .ok (.aload_n 0, 1) := by decide +kernel
theorem dX7_down_9 : decode cX7_down 9 = .ok (.getfield 49, 3) := by decide +kernel
theorem dX7_down_12 : decode cX7_down 12 = .ok (.iload_n 1, 1) := by decide +kernel
theorem dX7_down_13 : decode cX7_down 13 = .ok (.invokevirtual 213, 3) := by decide +kernel
theorem dX7_down_16 : decode cX7_down 16 = .ok (.goto 5, 3) := by decide +kernel
theorem dX7_down_19 : decode cX7_down 19 = .ok (.ldc 75, 2) := by decide +kernel
theorem dX7_down_21 : decode cX7_down 21 = .ok (.ireturn, 1) := by decide +kernel
theorem dX7_meet_0 : decode cX7_meet 0 = .ok (.aload_n 0, 1) := by decide +kernel
theorem dX7_meet_1 : decode cX7_meet 1 = .ok (.iload_n 1, 1) := by decide +kernel
theorem dX7_meet_2 : decode cX7_meet 2 = .ok (.invokevirtual 168, 3) := by decide +kernel
theorem dX7_meet_5 : decode cX7_meet 5 = .ok (.ifCond .eq 16, 3) := by decide +kernel
theorem dX7_meet_8 : decode cX7_meet 8 = .ok (.aload_n 0, 1) := by decide +kernel
theorem dX7_meet_9 : decode cX7_meet 9 = .ok (.iload_n 2, 1) := by decide +kernel
theorem dX7_meet_10 : decode cX7_meet 10 = .ok (.invokevirtual 168, 3) := by decide +kernel
theorem dX7_meet_13 : decode cX7_meet 13 = .ok (.ifCond .eq 8, 3) := by decide +kernel
theorem dX7_meet_16 : decode cX7_meet 16 = .ok (.iload_n 1, 1) := by decide +kernel
theorem dX7_meet_17 : decode cX7_meet 17 = .ok (.iload_n 2, 1) := by decide +kernel
theorem dX7_meet_18 : decode cX7_meet 18 = .ok (.if_icmp .ne 6, 3) := by decide +kernel
theorem dX7_meet_21 : decode cX7_meet 21 = .ok (.ldc 75, 2) := by decide +kernel
theorem dX7_meet_23 : decode cX7_meet 23 = .ok (.ireturn, 1) := by decide +kernel
theorem dX7_meet_24 : decode cX7_meet 24 = .ok (.aload_n 0, 1) := by decide +kernel
theorem dX7_meet_25 : decode cX7_meet 25 = .ok (.getfield 49, 3) := by decide +kernel
theorem dX7_meet_28 : decode cX7_meet 28 = .ok (.iload_n 1, 1) := by decide +kernel
theorem dX7_meet_29 : decode cX7_meet 29 = .ok (.iload_n 2, 1) := by decide +kernel
theorem dX7_meet_30 : decode cX7_meet 30 = .ok (.invokevirtual 216, 3) := by decide +kernel
theorem dX7_meet_33 : decode cX7_meet 33 = .ok (.ireturn, 1) := by decide +kernel
theorem dX7_over_0 : decode cX7_over 0 = .ok (.aload_n 0, 1) := by decide +kernel
theorem dX7_over_1 : decode cX7_over 1 = .ok (.invokevirtual 145, 3) := by decide +kernel
theorem dX7_over_4 : decode cX7_over 4 = .ok (.ifCond .eq 6, 3) := by decide +kernel
theorem dX7_over_7 : decode cX7_over 7 = .ok (.ldc 141, 2) := by decide +kernel
theorem dX7_over_9 : decode cX7_over 9 = .ok (.ireturn, 1) := by decide +kernel
theorem dX7_over_10 : decode cX7_over 10 = .ok (.iload_n 1, 1) := by decide +kernel
theorem dX7_over_11 : decode cX7_over 11 = .ok (.invokestatic 198, 3) := by decide +kernel
theorem dX7_over_14 : decode cX7_over 14 = .ok (.ifCond .eq 13, 3) := by decide +kernel
theorem dX7_over_17 : decode cX7_over 17 = .ok (.iload_n 2, 1) := by decide +kernel
theorem dX7_over_18 : decode cX7_over 18 = .ok (.iconst 0, 1) := by decide +kernel
theorem dX7_over_19 : decode cX7_over 19 = .ok (.bipush 60, 2) := by decide +kernel
theorem dX7_over_21 : decode cX7_over 21 = .ok (.invokestatic 71, 3) := by decide +kernel
theorem dX7_over_24 : decode cX7_over 24 = .ok (.ifCond .ne 6, 3) := by decide +kernel
theorem dX7_over_27 : decode cX7_over 27 = .ok (.ldc 75, 2) := by decide +kernel
theorem dX7_over_29 : decode cX7_over 29 = .ok (.ireturn, 1) := by decide +kernel
theorem dX7_over_30 : decode cX7_over 30 = .ok (.aload_n 0, 1) := by decide +kernel
theorem dX7_over_31 : decode cX7_over 31 = .ok (.getfield 49, 3) := by decide +kernel
theorem dX7_over_34 : decode cX7_over 34 = .ok (.iload_n 1, 1) := by decide +kernel
theorem dX7_over_35 : decode cX7_over 35 = .ok (.iload_n 2, 1) := by decide +kernel
theorem dX7_over_36 : decode cX7_over 36 = .ok (.invokevirtual 219, 3) := by decide +kernel
theorem dX7_over_39 : decode cX7_over 39 = .ok (.ireturn, 1) := by decide +kernel
theorem dX7_above_0 : decode cX7_above 0 = .ok (.aload_n 0, 1) := by decide +kernel
theorem dX7_above_1 : decode cX7_above 1 = .ok (.iload_n 1, 1) := by decide +kernel
theorem dX7_above_2 : decode cX7_above 2 = .ok (.invokevirtual 168, 3) := by decide +kernel
theorem dX7_above_5 : decode cX7_above 5 = .ok (.ifCond .eq 37, 3) := by decide +kernel
theorem dX7_above_8 : decode cX7_above 8 = .ok (.iload_n 2, 1) := by decide +kernel
theorem dX7_above_9 : decode cX7_above 9 = .ok (.invokestatic 198, 3) := by decide +kernel
theorem dX7_above_12 : decode cX7_above 12 = .ok (.ifCond .eq 30, 3) := by decide +kernel
theorem dX7_above_15 : decode cX7_above 15 = .ok (.iload_n 3, 1) := by decide +kernel
theorem dX7_above_16 : decode cX7_above 16 = .ok (.iconst 1, 1) := by decide +kernel
theorem dX7_above_17 : decode cX7_above 17 = .ok (.bipush 12, 2) := by decide +kernel
theorem dX7_above_19 : decode cX7_above 19 = .ok (.invokestatic 71, 3) := by decide +kernel
theorem dX7_above_22 : decode cX7_above 22 = .ok (.ifCond .eq 20, 3) := by decide +kernel
theorem dX7_above_25 : decode cX7_above 25 = .ok (.iload 4, 2) := by decide +kernel
theorem dX7_above_27 : decode cX7_above 27 = .ok (.iconst 0, 1) := by decide +kernel
theorem dX7_above_28 : decode cX7_above 28 = .ok (.bipush 20, 2) := by decide +kernel
theorem dX7_above_30 : decode cX7_above 30 = .ok (.invokestatic 71, 3) := by decide +kernel
theorem dX7_above_33 : decode cX7_above 33 = .ok (.ifCond .eq 9, 3) := by decide +kernel
theorem dX7_above_36 : decode cX7_above 36 = .ok (.iload 5, 2) := by decide +kernel
theorem dX7_above_38 : decode cX7_above 38 = .ok (.iconst (-1), 1) := by decide +kernel
theorem dX7_above_39 : decode cX7_above 39 = .ok (.if_icmp .ge 6, 3) := by decide +kernel
theorem dX7_above_42 : decode cX7_above 42 = .ok (.ldc 75, 2) := by decide +kernel
theorem dX7_above_44 : decode cX7_above 44 = .ok (.ireturn, 1) := by decide +kernel
theorem dX7_above_45 : decode cX7_above 45 = .ok (.aload_n 0, 1) := by decide +kernel
theorem dX7_above_46 : decode cX7_above 46 = .ok (.getfield 49, 3) := by decide +kernel
theorem dX7_above_49 : decode cX7_above 49 = .ok (.iload_n 1, 1) := by decide +kernel
theorem dX7_above_50 : decode cX7_above 50 = .ok (.iload_n 2, 1) := by decide +kernel
theorem dX7_above_51 : decode cX7_above 51 = .ok (.iload_n 3, 1) := by decide +kernel
theorem dX7_above_52 : decode cX7_above 52 = .ok (.iload 4, 2) := by decide +kernel
theorem dX7_above_54 : decode cX7_above 54 = .ok (.invokevirtual 222, 3) := by decide +kernel
theorem dX7_above_57 : decode cX7_above 57 = .ok (.istore 6, 2) := by decide +kernel
theorem dX7_above_59 : decode cX7_above 59 = .ok (.iload 6, 2) := by decide +kernel
theorem dX7_above_61 : decode cX7_above 61 = .ok (.ldc 226, 2) := by decide +kernel
theorem dX7_above_63 : decode cX7_above 63 = .ok (.if_icmp .eq 9, 3) := by decide +kernel
theorem dX7_above_66 : decode cX7_above 66 = .ok (.iload 5, 2) := by decide +kernel
theorem dX7_above_68 : decode cX7_above 68 = .ok (.iload_n 3, 1) := by decide +kernel
theorem dX7_above_69 : decode cX7_above 69 = .ok (.if_icmp .lt 6, 3) := by decide +kernel
theorem dX7_above_72 : decode cX7_above 72 = .ok (.ldc 227, 2) := by decide +kernel
theorem dX7_above_74 : decode cX7_above 74 = .ok (.ireturn, 1) := by decide +kernel
theorem dX7_above_75 : decode cX7_above 75 = .ok (.iload 5, 2) := by decide +kernel
theorem dX7_above_77 : decode cX7_above 77 = .ok (.iconst (-1), 1) := by decide +kernel
theorem dX7_above_78 : decode cX7_above 78 = .ok (.if_icmp .ne 11, 3) := by decide +kernel
theorem dX7_above_81 : decode cX7_above 81 = .ok (.iload 6, 2) := by decide +kernel
theorem dX7_above_83 : decode cX7_above 83 = .ok (.invokestatic 228, 3) := by decide +kernel
theorem dX7_above_86 : decode cX7_above 86 = .ok (.goto 11, 3) := by decide +kernel
theorem dX7_above_89 : decode cX7_above 89 = .ok (.iload 6, 2) := by decide +kernel
theorem dX7_above_91 : decode cX7_above 91 = .ok (.iload_n 3, 1) := by decide +kernel
theorem dX7_above_92 : decode cX7_above 92 = .ok (.iload 5, 2) := by decide +kernel
theorem dX7_above_94 : decode cX7_above 94 = .ok (.invokestatic 231, 3) := by decide +kernel
theorem dX7_above_97 : decode cX7_above 97 = .ok (.ireturn, 1) := by decide +kernel
theorem dX7_petition_0 : decode cX7_petition 0 = .ok (.aload_n 0, 1) := by decide +kernel
theorem dX7_petition_1 : decode cX7_petition 1 = .ok (.invokevirtual 145, 3) := by decide +kernel
theorem dX7_petition_4 : decode cX7_petition 4 = .ok (.ifCond .eq 6, 3) := by decide +kernel
theorem dX7_petition_7 : decode cX7_petition 7 = .ok (.ldc 141, 2) := by decide +kernel
theorem dX7_petition_9 : decode cX7_petition 9 = .ok (.ireturn, 1) := by decide +kernel
theorem dX7_petition_10 : decode cX7_petition 10 = .ok (.iload_n 1, 1) := by decide +kernel
theorem dX7_petition_11 : decode cX7_petition 11 = .ok (.invokestatic 198, 3) := by decide +kernel
theorem dX7_petition_14 : decode cX7_petition 14 = .ok (.ifCond .eq 21, 3) := by decide +kernel
theorem dX7_petition_17 : decode cX7_petition 17 = .ok (.iload_n 2, 1) := by decide +kernel
theorem dX7_petition_18 : decode cX7_petition 18 = .ok (.invokestatic 67, 3) := by decide +kernel
theorem dX7_petition_21 : decode cX7_petition 21 = .ok (.ifCond .eq 14, 3) := by decide +kernel
theorem dX7_petition_24 : decode cX7_petition 24 = .ok (.iload 4, 2) := by decide +kernel
theorem dX7_petition_26 : decode cX7_petition 26 = .ok (.iconst 1, 1) := by decide +kernel
theorem dX7_petition_27 : decode cX7_petition 27 = .ok (.bipush 8, 2) := by decide +kernel
theorem dX7_petition_29 : decode cX7_petition 29 = .ok (.invokestatic 71, 3) := by decide +kernel
theorem dX7_petition_32 : decode cX7_petition 32 = .ok (.ifCond .ne 6, 3) := by decide +kernel
theorem dX7_petition_35 : decode cX7_petition 35 = .ok (.ldc 75, 2) := by decide +kernel
theorem dX7_petition_37 : decode cX7_petition 37 = .ok (.ireturn, 1) := by decide +kernel
theorem dX7_petition_38 : decode cX7_petition 38 = .ok (.aload_n 0, 1) := by decide +kernel
theorem dX7_petition_39 : decode cX7_petition 39 = .ok (.getfield 11, 3) := by decide +kernel
theorem dX7_petition_42 : decode cX7_petition 42 = .ok (.iload_n 2, 1) := by decide +kernel
theorem dX7_petition_43 : decode cX7_petition 43 = .ok (.aaload, 1) := by decide +kernel
theorem dX7_petition_44 : decode cX7_petition 44 = .ok (.iload_n 3, 1) := by decide +kernel
theorem dX7_petition_45 : decode cX7_petition 45 = .ok (.iload 4, 2) := by decide +kernel
theorem dX7_petition_47 : decode cX7_petition 47 = .ok (.invokevirtual 87, 3) := by decide +kernel
theorem dX7_petition_50 : decode cX7_petition 50 = .ok (.istore 5, 2) := by decide +kernel
theorem dX7_petition_52 : decode cX7_petition 52 = .ok (.iload 5, 2) := by decide +kernel
theorem dX7_petition_54 : decode cX7_petition 54 = .ok (.ifCond .eq 10, 3) := by decide +kernel
theorem dX7_petition_57 : decode cX7_petition 57 = .ok (.aload_n 0, 1) := by decide +kernel
theorem dX7_petition_58 : decode cX7_petition 58 = .ok (.iload 5, 2) := by decide +kernel
theorem dX7_petition_60 : decode cX7_petition 60 = .ok (.invokevirtual 76, 3) := by decide +kernel
theorem dX7_petition_63 : decode cX7_petition 63 = .ok (.ireturn, 1) := by decide +kernel
theorem dX7_petition_64 : decode cX7_petition 64 = .ok (.iload_n 3, 1) := by decide +kernel
theorem dX7_petition_65 : decode cX7_petition 65 = .ok (.istore 6, 2) := by decide +kernel
theorem dX7_petition_67 : decode cX7_petition 67 = .ok (.iload 6, 2) := by decide +kernel
theorem dX7_petition_69 : decode cX7_petition 69 = .ok (.iload_n 3, 1) := by decide +kernel
theorem dX7_petition_70 : decode cX7_petition 70 = .ok (.iload 4, 2) := by decide +kernel
theorem dX7_petition_72 : decode cX7_petition 72 = .ok (.iadd, 1) := by decide +kernel
theorem dX7_petition_73 : decode cX7_petition 73 = .ok (.if_icmp .ge 31, 3) := by decide +kernel
theorem dX7_petition_76 : decode cX7_petition 76 = .ok (.aload_n 0, 1) := by decide +kernel
theorem dX7_petition_77 : decode cX7_petition 77 = .ok (.aload_n 0, 1) := by decide +kernel
theorem dX7_petition_78 : decode cX7_petition 78 = .ok (.getfield 11, 3) := by decide +kernel
theorem dX7_petition_81 : decode cX7_petition 81 = .ok (.iload_n 2, 1) := by decide +kernel
theorem dX7_petition_82 : decode cX7_petition 82 = .ok (.aaload, 1) := by decide +kernel
theorem dX7_petition_83 : decode cX7_petition 83 = .ok (.getfield 105, 3) := by decide +kernel
theorem dX7_petition_86 : decode cX7_petition 86 = .ok (.iload 6, 2) := by decide +kernel
theorem dX7_petition_88 : decode cX7_petition 88 = .ok (.iaload, 1) := by decide +kernel
theorem dX7_petition_89 : decode cX7_petition 89 = .ok (.invokevirtual 168, 3) := by decide +kernel
theorem dX7_petition_92 : decode cX7_petition 92 = .ok (.ifCond .ne 6, 3) := by decide +kernel
theorem dX7_petition_95 : decode cX7_petition 95 = .ok (.ldc 75, 2) := by decide +kernel
theorem dX7_petition_97 : decode cX7_petition 97 = .ok (.ireturn, 1) := by decide +kernel
theorem dX7_petition_98 : decode cX7_petition 98 = .ok (.iinc 6 1, 3) := by decide +kernel
theorem dX7_petition_101 : decode cX7_petition 101 = .ok (.goto (-34), 3) := by decide +kernel
theorem dX7_petition_104 : decode cX7_petition 104 = .ok (.aload_n 0, 1) := by decide +kernel
theorem dX7_petition_105 : decode cX7_petition 105 = .ok (.aload_n 0, 1) := by decide +kernel
theorem dX7_petition_106 : decode cX7_petition 106 = .ok (.getfield 49, 3) := by decide +kernel
theorem dX7_petition_109 : decode cX7_petition 109 = .ok (.iload_n 1, 1) := by decide +kernel
theorem dX7_petition_110 : decode cX7_petition 110 = .ok (.aload_n 0, 1) := by decide +kernel
theorem dX7_petition_111 : decode cX7_petition 111 = .ok (.getfield 11, 3) := by decide +kernel
theorem dX7_petition_114 : decode cX7_petition 114 = .ok (.iload_n 2, 1) := by decide +kernel
theorem dX7_petition_115 : decode cX7_petition 115 = .ok (.aaload, 1) := by decide +kernel
theorem dX7_petition_116 : decode cX7_petition 116 = .ok (.getfield 105, 3) := by decide +kernel
theorem dX7_petition_119 : decode cX7_petition 119 = .ok (.iload_n 3, 1) := by decide +kernel
theorem dX7_petition_120 : decode cX7_petition 120 = .ok (.iload 4, 2) := by decide +kernel
theorem dX7_petition_122 : decode cX7_petition 122 = .ok (.invokevirtual 235, 3) := by decide +kernel
theorem dX7_petition_125 : decode cX7_petition 125 = .ok (.invokevirtual 84, 3) := by decide +kernel
theorem dX7_petition_128 : decode cX7_petition 128 = .ok (.ireturn, 1) := by decide +kernel
theorem dX7_ash_0 : decode cX7_ash 0 = .ok (.aload_n 0, 1) := by decide +kernel
theorem dX7_ash_1 : decode cX7_ash 1 = .ok (.iload_n 1, 1) := by decide +kernel
theorem dX7_ash_2 : decode cX7_ash 2 = .ok (.invokevirtual 168, 3) := by decide +kernel
theorem dX7_ash_5 : decode cX7_ash 5 = .ok (.ifCond .eq 27, 3) := by decide +kernel
theorem dX7_ash_8 : decode cX7_ash 8 = .ok (.iload_n 2, 1) := by decide +kernel
theorem dX7_ash_9 : decode cX7_ash 9 = .ok (.invokestatic 67, 3) := by decide +kernel
theorem dX7_ash_12 : decode cX7_ash 12 = .ok (.ifCond .eq 20, 3) := by decide +kernel
theorem dX7_ash_15 : decode cX7_ash 15 = .ok (.iload 4, 2) := by decide +kernel
theorem dX7_ash_17 : decode cX7_ash 17 = .ok (.iconst 1, 1) := by decide +kernel
theorem dX7_ash_18 : decode cX7_ash 18 = .ok (.bipush 6, 2) := by decide +kernel
theorem dX7_ash_20 : decode cX7_ash 20 = .ok (.invokestatic 71, 3) := by decide +kernel
theorem dX7_ash_23 : decode cX7_ash 23 = .ok (.ifCond .eq 9, 3) := by decide +kernel
theorem dX7_ash_26 : decode cX7_ash 26 = .ok (.iload 5, 2) := by decide +kernel
theorem dX7_ash_28 : decode cX7_ash 28 = .ok (.iconst (-1), 1) := by decide +kernel
theorem dX7_ash_29 : decode cX7_ash 29 = .ok (.if_icmp .ge 6, 3) := by decide +kernel
theorem dX7_ash_32 : decode cX7_ash 32 = .ok (.ldc 75, 2) := by decide +kernel
theorem dX7_ash_34 : decode cX7_ash 34 = .ok (.ireturn, 1) := by decide +kernel
theorem dX7_ash_35 : decode cX7_ash 35 = .ok (.aload_n 0, 1) := by decide +kernel
theorem dX7_ash_36 : decode cX7_ash 36 = .ok (.getfield 11, 3) := by decide +kernel
theorem dX7_ash_39 : decode cX7_ash 39 = .ok (.iload_n 2, 1) := by decide +kernel
theorem dX7_ash_40 : decode cX7_ash 40 = .ok (.aaload, 1) := by decide +kernel
theorem dX7_ash_41 : decode cX7_ash 41 = .ok (.iload_n 3, 1) := by decide +kernel
theorem dX7_ash_42 : decode cX7_ash 42 = .ok (.iload 4, 2) := by decide +kernel
theorem dX7_ash_44 : decode cX7_ash 44 = .ok (.invokevirtual 87, 3) := by decide +kernel
theorem dX7_ash_47 : decode cX7_ash 47 = .ok (.istore 6, 2) := by decide +kernel
theorem dX7_ash_49 : decode cX7_ash 49 = .ok (.iload 6, 2) := by decide +kernel
theorem dX7_ash_51 : decode cX7_ash 51 = .ok (.ifCond .eq 10, 3) := by decide +kernel
theorem dX7_ash_54 : decode cX7_ash 54 = .ok (.aload_n 0, 1) := by decide +kernel
theorem dX7_ash_55 : decode cX7_ash 55 = .ok (.iload 6, 2) := by decide +kernel
theorem dX7_ash_57 : decode cX7_ash 57 = .ok (.invokevirtual 76, 3) := by decide +kernel
theorem dX7_ash_60 : decode cX7_ash 60 = .ok (.ireturn, 1) := by decide +kernel
theorem dX7_ash_61 : decode cX7_ash 61 = .ok (.aload_n 0, 1) := by decide +kernel
theorem dX7_ash_62 : decode cX7_ash 62 = .ok (.getfield 49, 3) := by decide +kernel
theorem dX7_ash_65 : decode cX7_ash 65 = .ok (.iload_n 1, 1) := by decide +kernel
theorem dX7_ash_66 : decode cX7_ash 66 = .ok (.aload_n 0, 1) := by decide +kernel
theorem dX7_ash_67 : decode cX7_ash 67 = .ok (.getfield 11, 3) := by decide +kernel
theorem dX7_ash_70 : decode cX7_ash 70 = .ok (.iload_n 2, 1) := by decide +kernel
theorem dX7_ash_71 : decode cX7_ash 71 = .ok (.aaload, 1) := by decide +kernel
theorem dX7_ash_72 : decode cX7_ash 72 = .ok (.getfield 105, 3) := by decide +kernel
theorem dX7_ash_75 : decode cX7_ash 75 = .ok (.iload_n 3, 1) := by decide +kernel
theorem dX7_ash_76 : decode cX7_ash 76 = .ok (.iload 4, 2) := by decide +kernel
theorem dX7_ash_78 : decode cX7_ash 78 = .ok (.invokevirtual 239, 3) := by decide +kernel
theorem dX7_ash_81 : decode cX7_ash 81 = .ok (.istore 7, 2) := by decide +kernel
theorem dX7_ash_83 : decode cX7_ash 83 = .ok (.iload 5, 2) := by decide +kernel
theorem dX7_ash_85 : decode cX7_ash 85 = .ok (.iconst (-1), 1) := by decide +kernel
theorem dX7_ash_86 : decode cX7_ash 86 = .ok (.if_icmp .ne 10, 3) := by decide +kernel
theorem dX7_ash_89 : decode cX7_ash 89 = .ok (.aload_n 0, 1) := by decide +kernel
theorem dX7_ash_90 : decode cX7_ash 90 = .ok (.iload 7, 2) := by decide +kernel
theorem dX7_ash_92 : decode cX7_ash 92 = .ok (.invokevirtual 84, 3) := by decide +kernel
theorem dX7_ash_95 : decode cX7_ash 95 = .ok (.ireturn, 1) := by decide +kernel
theorem dX7_ash_96 : decode cX7_ash 96 = .ok (.aload_n 0, 1) := by decide +kernel
theorem dX7_ash_97 : decode cX7_ash 97 = .ok (.iload 7, 2) := by decide +kernel
theorem dX7_ash_99 : decode cX7_ash 99 = .ok (.ifCond .eq 10, 3) := by decide +kernel
theorem dX7_ash_102 : decode cX7_ash 102 = .ok (.iload 5, 2) := by decide +kernel
theorem dX7_ash_104 : decode cX7_ash 104 = .ok (.iload 4, 2) := by decide +kernel
theorem dX7_ash_106 : decode cX7_ash 106 = .ok (.if_icmp .lt 8, 3) := by decide +kernel
theorem dX7_ash_109 : decode cX7_ash 109 = .ok (.ldc 227, 2) := by decide +kernel
theorem dX7_ash_111 : decode cX7_ash 111 = .ok (.goto 13, 3) := by decide +kernel
theorem dX7_ash_114 : decode cX7_ash 114 = .ok (.aload_n 0, 1) := by decide +kernel
theorem dX7_ash_115 : decode cX7_ash 115 = .ok (.getfield 49, 3) := by decide +kernel
theorem dX7_ash_118 : decode cX7_ash 118 = .ok (.getfield 242, 3) := by decide +kernel
theorem dX7_ash_121 : decode cX7_ash 121 = .ok (.iload 5, 2) := by decide +kernel
theorem dX7_ash_123 : decode cX7_ash 123 = .ok (.iaload, 1) := by decide +kernel
theorem dX7_ash_124 : decode cX7_ash 124 = .ok (.invokevirtual 84, 3) := by decide +kernel
theorem dX7_ash_127 : decode cX7_ash 127 = .ok (.ireturn, 1) := by decide +kernel
theorem dX7_who_0 : decode cX7_who 0 = .ok (.aload_n 0, 1) := by decide +kernel
theorem dX7_who_1 : decode cX7_who 1 = .ok (.iload_n 1, 1) := by decide +kernel
theorem dX7_who_2 : decode cX7_who 2 = .ok (.invokevirtual 168, 3) := by decide +kernel
theorem dX7_who_5 : decode cX7_who 5 = .ok (.ifCond .eq 32, 3) := by decide +kernel
theorem dX7_who_8 : decode cX7_who 8 = .ok (.iload_n 2, 1) := by decide +kernel
theorem dX7_who_9 : decode cX7_who 9 = .ok (.invokestatic 67, 3) := by decide +kernel
theorem dX7_who_12 : decode cX7_who 12 = .ok (.ifCond .eq 25, 3) := by decide +kernel
theorem dX7_who_15 : decode cX7_who 15 = .ok (.iload 4, 2) := by decide +kernel
theorem dX7_who_17 : decode cX7_who 17 = .ok (.iconst 1, 1) := by decide +kernel
theorem dX7_who_18 : decode cX7_who 18 = .ok (.bipush 12, 2) := by decide +kernel
theorem dX7_who_20 : decode cX7_who 20 = .ok (.invokestatic 71, 3) := by decide +kernel
theorem dX7_who_23 : decode cX7_who 23 = .ok (.ifCond .eq 14, 3) := by decide +kernel
theorem dX7_who_26 : decode cX7_who 26 = .ok (.iload 5, 2) := by decide +kernel
theorem dX7_who_28 : decode cX7_who 28 = .ok (.iconst 0, 1) := by decide +kernel
theorem dX7_who_29 : decode cX7_who 29 = .ok (.bipush 20, 2) := by decide +kernel
theorem dX7_who_31 : decode cX7_who 31 = .ok (.invokestatic 71, 3) := by decide +kernel
theorem dX7_who_34 : decode cX7_who 34 = .ok (.ifCond .ne 6, 3) := by decide +kernel
theorem dX7_who_37 : decode cX7_who 37 = .ok (.ldc 75, 2) := by decide +kernel
theorem dX7_who_39 : decode cX7_who 39 = .ok (.ireturn, 1) := by decide +kernel
theorem dX7_who_40 : decode cX7_who 40 = .ok (.aload_n 0, 1) := by decide +kernel
theorem dX7_who_41 : decode cX7_who 41 = .ok (.getfield 11, 3) := by decide +kernel
theorem dX7_who_44 : decode cX7_who 44 = .ok (.iload_n 2, 1) := by decide +kernel
theorem dX7_who_45 : decode cX7_who 45 = .ok (.aaload, 1) := by decide +kernel
theorem dX7_who_46 : decode cX7_who 46 = .ok (.iload_n 3, 1) := by decide +kernel
theorem dX7_who_47 : decode cX7_who 47 = .ok (.iload 4, 2) := by decide +kernel
theorem dX7_who_49 : decode cX7_who 49 = .ok (.invokevirtual 87, 3) := by decide +kernel
theorem dX7_who_52 : decode cX7_who 52 = .ok (.istore 6, 2) := by decide +kernel
theorem dX7_who_54 : decode cX7_who 54 = .ok (.iload 6, 2) := by decide +kernel
theorem dX7_who_56 : decode cX7_who 56 = .ok (.ifCond .eq 10, 3) := by decide +kernel
theorem dX7_who_59 : decode cX7_who 59 = .ok (.aload_n 0, 1) := by decide +kernel
theorem dX7_who_60 : decode cX7_who 60 = .ok (.iload 6, 2) := by decide +kernel
theorem dX7_who_62 : decode cX7_who 62 = .ok (.invokevirtual 76, 3) := by decide +kernel
theorem dX7_who_65 : decode cX7_who 65 = .ok (.ireturn, 1) := by decide +kernel
theorem dX7_who_66 : decode cX7_who 66 = .ok (.aload_n 0, 1) := by decide +kernel
theorem dX7_who_67 : decode cX7_who 67 = .ok (.aload_n 0, 1) := by decide +kernel
theorem dX7_who_68 : decode cX7_who 68 = .ok (.getfield 49, 3) := by decide +kernel
theorem dX7_who_71 : decode cX7_who 71 = .ok (.aload_n 0, 1) := by decide +kernel
theorem dX7_who_72 : decode cX7_who 72 = .ok (.getfield 30, 3) := by decide +kernel
theorem dX7_who_75 : decode cX7_who 75 = .ok (.getfield 177, 3) := by decide +kernel
theorem dX7_who_78 : decode cX7_who 78 = .ok (.iload_n 1, 1) := by decide +kernel
theorem dX7_who_79 : decode cX7_who 79 = .ok (.iaload, 1) := by decide +kernel
theorem dX7_who_80 : decode cX7_who 80 = .ok (.aload_n 0, 1) := by decide +kernel
theorem dX7_who_81 : decode cX7_who 81 = .ok (.getfield 11, 3) := by decide +kernel
theorem dX7_who_84 : decode cX7_who 84 = .ok (.iload_n 2, 1) := by decide +kernel
theorem dX7_who_85 : decode cX7_who 85 = .ok (.aaload, 1) := by decide +kernel
theorem dX7_who_86 : decode cX7_who 86 = .ok (.getfield 105, 3) := by decide +kernel
theorem dX7_who_89 : decode cX7_who 89 = .ok (.iload_n 3, 1) := by decide +kernel
theorem dX7_who_90 : decode cX7_who 90 = .ok (.iload 4, 2) := by decide +kernel
theorem dX7_who_92 : decode cX7_who 92 = .ok (.iload 5, 2) := by decide +kernel
theorem dX7_who_94 : decode cX7_who 94 = .ok (.invokevirtual 245, 3) := by decide +kernel
theorem dX7_who_97 : decode cX7_who 97 = .ok (.invokevirtual 84, 3) := by decide +kernel
theorem dX7_who_100 : decode cX7_who 100 = .ok (.ireturn, 1) := by decide +kernel
theorem dX7_rule_0 : decode cX7_rule 0 = .ok (.aload_n 0, 1) := by decide +kernel
theorem dX7_rule_1 : decode cX7_rule 1 = .ok (.invokevirtual 145, 3) := by decide +kernel
theorem dX7_rule_4 : decode cX7_rule 4 = .ok (.ifCond .eq 6, 3) := by decide +kernel
theorem dX7_rule_7 : decode cX7_rule 7 = .ok (.ldc 141, 2) := by decide +kernel
theorem dX7_rule_9 : decode cX7_rule 9 = .ok (.ireturn, 1) := by decide +kernel
theorem dX7_rule_10 : decode cX7_rule 10 = .ok (.iload_n 1, 1) := by decide +kernel
theorem dX7_rule_11 : decode cX7_rule 11 = .ok (.iconst 1, 1) := by decide +kernel
theorem dX7_rule_12 : decode cX7_rule 12 = .ok (.bipush 60, 2) := by decide +kernel
theorem dX7_rule_14 : decode cX7_rule 14 = .ok (.invokestatic 71, 3) := by decide +kernel
theorem dX7_rule_17 : decode cX7_rule 17 = .ok (.ifCond .eq 10, 3) := by decide +kernel
theorem dX7_rule_20 : decode cX7_rule 20 = .ok (.iload_n 2, 1) := by decide +kernel
theorem dX7_rule_21 : decode cX7_rule 21 = .ok (.invokestatic 204, 3) := by decide +kernel
theorem dX7_rule_24 : decode cX7_rule 24 = .ok (.ifCond .ne 6, 3) := by decide +kernel
theorem dX7_rule_27 : decode cX7_rule 27 = .ok (.ldc 75, 2) := by decide +kernel
theorem dX7_rule_29 : decode cX7_rule 29 = .ok (.ireturn, 1) := by decide +kernel
theorem dX7_rule_30 : decode cX7_rule 30 = .ok (.aload_n 0, 1) := by decide +kernel
theorem dX7_rule_31 : decode cX7_rule 31 = .ok (.getfield 49, 3) := by decide +kernel
theorem dX7_rule_34 : decode cX7_rule 34 = .ok (.iload_n 1, 1) := by decide +kernel
theorem dX7_rule_35 : decode cX7_rule 35 = .ok (.invokevirtual 249, 3) := by decide +kernel
theorem dX7_rule_38 : decode cX7_rule 38 = .ok (.istore_n 3, 1) := by decide +kernel
theorem dX7_rule_39 : decode cX7_rule 39 = .ok (.iload_n 2, 1) := by decide +kernel
theorem dX7_rule_40 : decode cX7_rule 40 = .ok (.ifCond .ne 7, 3) := by decide +kernel
theorem dX7_rule_43 : decode cX7_rule 43 = .ok (.iload_n 3, 1) := by decide +kernel
theorem dX7_rule_44 : decode cX7_rule 44 = .ok (.goto 12, 3) := by decide +kernel
theorem dX7_rule_47 : decode cX7_rule 47 = .ok (.aload_n 0, 1) := by decide +kernel
theorem dX7_rule_48 : decode cX7_rule 48 = .ok (.getfield 49, 3) := by decide +kernel
theorem dX7_rule_51 : decode cX7_rule 51 = .ok (.getfield 252, 3) := by decide +kernel
theorem dX7_rule_54 : decode cX7_rule 54 = .ok (.iload_n 3, 1) := by decide +kernel
theorem dX7_rule_55 : decode cX7_rule 55 = .ok (.iaload, 1) := by decide +kernel
theorem dX7_rule_56 : decode cX7_rule 56 = .ok (.ireturn, 1) := by decide +kernel
theorem dX7_lasts_0 : decode cX7_lasts 0 = .ok (.aload_n 0, 1) := by decide +kernel
theorem dX7_lasts_1 : decode cX7_lasts 1 = .ok (.iload_n 1, 1) := by decide +kernel
theorem dX7_lasts_2 : decode cX7_lasts 2 = .ok (.invokevirtual 168, 3) := by decide +kernel
theorem dX7_lasts_5 : decode cX7_lasts 5 = .ok (.ifCond .ne 6, 3) := by decide +kernel
theorem dX7_lasts_8 : decode cX7_lasts 8 = .ok (.ldc 75, 2) := by decide +kernel
theorem dX7_lasts_10 : decode cX7_lasts 10 = .ok (.ireturn, 1) := by decide +kernel
theorem dX7_lasts_11 : decode cX7_lasts 11 = .ok (.aload_n 0, 1) := by decide +kernel
theorem dX7_lasts_12 : decode cX7_lasts 12 = .ok (.getfield 49, 3) := by decide +kernel
theorem dX7_lasts_15 : decode cX7_lasts 15 = .ok (.iload_n 1, 1) := by decide +kernel
theorem dX7_lasts_16 : decode cX7_lasts 16 = .ok (.aload_n 0, 1) := by decide +kernel
theorem dX7_lasts_17 : decode cX7_lasts 17 = .ok (.getfield 30, 3) := by decide +kernel
theorem dX7_lasts_20 : decode cX7_lasts 20 = .ok (.getfield 171, 3) := by decide +kernel
theorem dX7_lasts_23 : decode cX7_lasts 23 = .ok (.iload_n 1, 1) := by decide +kernel
theorem dX7_lasts_24 : decode cX7_lasts 24 = .ok (.iaload, 1) := by decide +kernel
theorem dX7_lasts_25 : decode cX7_lasts 25 = .ok (.bipush 99, 2) := by decide +kernel
theorem dX7_lasts_27 : decode cX7_lasts 27 = .ok (.invokevirtual 255, 3) := by decide +kernel
theorem dX7_lasts_30 : decode cX7_lasts 30 = .ok (.ireturn, 1) := by decide +kernel
theorem dX7_kept_0 : decode cX7_kept 0 = .ok (.aload_n 0, 1) := by decide +kernel
theorem dX7_kept_1 : decode cX7_kept 1 = .ok (.iload_n 1, 1) := by decide +kernel
theorem dX7_kept_2 : decode cX7_kept 2 = .ok (.invokevirtual 168, 3) := by decide +kernel
theorem dX7_kept_5 : decode cX7_kept 5 = .ok (.ifCond .eq 13, 3) := by decide +kernel
theorem dX7_kept_8 : decode cX7_kept 8 = .ok (.iload_n 2, 1) := by decide +kernel
theorem dX7_kept_9 : decode cX7_kept 9 = .ok (.iconst 1, 1) := by decide +kernel
theorem dX7_kept_10 : decode cX7_kept 10 = .ok (.bipush 24, 2) := by decide +kernel
theorem dX7_kept_12 : decode cX7_kept 12 = .ok (.invokestatic 71, 3) := by decide +kernel
theorem dX7_kept_15 : decode cX7_kept 15 = .ok (.ifCond .ne 6, 3) := by decide +kernel
theorem dX7_kept_18 : decode cX7_kept 18 = .ok (.ldc 75, 2) := by decide +kernel
theorem dX7_kept_20 : decode cX7_kept 20 = .ok (.ireturn, 1) := by decide +kernel
theorem dX7_kept_21 : decode cX7_kept 21 = .ok (.aload_n 0, 1) := by decide +kernel
theorem dX7_kept_22 : decode cX7_kept 22 = .ok (.getfield 49, 3) := by decide +kernel
theorem dX7_kept_25 : decode cX7_kept 25 = .ok (.iload_n 1, 1) := by decide +kernel
theorem dX7_kept_26 : decode cX7_kept 26 = .ok (.iload_n 2, 1) := by decide +kernel
theorem dX7_kept_27 : decode cX7_kept 27 = .ok (.invokevirtual 258, 3) := by decide +kernel
theorem dX7_kept_30 : decode cX7_kept 30 = .ok (.ireturn, 1) := by decide +kernel
theorem dX7_turned_0 : decode cX7_turned 0 = .ok (.aload_n 0, 1) := by decide +kernel
theorem dX7_turned_1 : decode cX7_turned 1 = .ok (.iload_n 1, 1) := by decide +kernel
theorem dX7_turned_2 : decode cX7_turned 2 = .ok (.invokevirtual 168, 3) := by decide +kernel
theorem dX7_turned_5 : decode cX7_turned 5 = .ok (.ifCond .eq 39, 3) := by decide +kernel
theorem dX7_turned_8 : decode cX7_turned 8 = .ok (.iload_n 2, 1) := by decide +kernel
theorem dX7_turned_9 : decode cX7_turned 9 = .ok (.invokestatic 198, 3) := by decide +kernel
theorem dX7_turned_12 : decode cX7_turned 12 = .ok (.ifCond .eq 32, 3) := by decide +kernel
theorem dX7_turned_15 : decode cX7_turned 15 = .ok (.iload_n 3, 1) := by decide +kernel
theorem dX7_turned_16 : decode cX7_turned 16 = .ok (.iconst 1, 1) := by decide +kernel
theorem dX7_turned_17 : decode cX7_turned 17 = .ok (.bipush 12, 2) := by decide +kernel
theorem dX7_turned_19 : decode cX7_turned 19 = .ok (.invokestatic 71, 3) := by decide +kernel
theorem dX7_turned_22 : decode cX7_turned 22 = .ok (.ifCond .eq 22, 3) := by decide +kernel
theorem dX7_turned_25 : decode cX7_turned 25 = .ok (.iload 4, 2) := by decide +kernel
theorem dX7_turned_27 : decode cX7_turned 27 = .ok (.iconst 0, 1) := by decide +kernel
theorem dX7_turned_28 : decode cX7_turned 28 = .ok (.bipush 10, 2) := by decide +kernel
theorem dX7_turned_30 : decode cX7_turned 30 = .ok (.invokestatic 71, 3) := by decide +kernel
theorem dX7_turned_33 : decode cX7_turned 33 = .ok (.ifCond .eq 11, 3) := by decide +kernel
theorem dX7_turned_36 : decode cX7_turned 36 = .ok (.iload 5, 2) := by decide +kernel
theorem dX7_turned_38 : decode cX7_turned 38 = .ok (.invokestatic 204, 3) := by decide +kernel
theorem dX7_turned_41 : decode cX7_turned 41 = .ok (.ifCond .ne 7, 3) := by decide +kernel
theorem dX7_turned_44 : decode cX7_turned 44 = .ok (.ldc2_w 261, 3) := by decide +kernel
theorem dX7_turned_47 : decode cX7_turned 47 = .ok (.lreturn, 1) := by decide +kernel
theorem dX7_turned_48 : decode cX7_turned 48 = .ok (.aload_n 0, 1) := by decide +kernel
theorem dX7_turned_49 : decode cX7_turned 49 = .ok (.getfield 49, 3) := by decide +kernel
theorem dX7_turned_52 : decode cX7_turned 52 = .ok (.iload_n 1, 1) := by decide +kernel
theorem dX7_turned_53 : decode cX7_turned 53 = .ok (.iload_n 2, 1) := by decide +kernel
theorem dX7_turned_54 : decode cX7_turned 54 = .ok (.iload_n 3, 1) := by decide +kernel
theorem dX7_turned_55 : decode cX7_turned 55 = .ok (.iload 4, 2) := by decide +kernel
theorem dX7_turned_57 : decode cX7_turned 57 = .ok (.invokevirtual 263, 3) := by decide +kernel
theorem dX7_turned_60 : decode cX7_turned 60 = .ok (.istore 6, 2) := by decide +kernel
theorem dX7_turned_62 : decode cX7_turned 62 = .ok (.sipush 10000, 3) := by decide +kernel
theorem dX7_turned_65 : decode cX7_turned 65 = .ok (.iload 6, 2) := by decide +kernel
theorem dX7_turned_67 : decode cX7_turned 67 = .ok (.invokestatic 266, 3) := by decide +kernel
theorem dX7_turned_70 : decode cX7_turned 70 = .ok (.istore 7, 2) := by decide +kernel
theorem dX7_turned_72 : decode cX7_turned 72 = .ok (.iload 7, 2) := by decide +kernel
theorem dX7_turned_74 : decode cX7_turned 74 = .ok (.ifCond .ne 7, 3) := by decide +kernel
theorem dX7_turned_77 : decode cX7_turned 77 = .ok (.ldc2_w 261, 3) := by decide +kernel
theorem dX7_turned_80 : decode cX7_turned 80 = .ok (.lreturn, 1) := by decide +kernel
theorem dX7_turned_81 : decode cX7_turned 81 = .ok (.iload 5, 2) := by decide +kernel
theorem dX7_turned_83 : decode cX7_turned 83 = .ok (.ifCond .ne 8, 3) := by decide +kernel
theorem dX7_turned_86 : decode cX7_turned 86 = .ok (.iload 6, 2) := by decide +kernel
theorem dX7_turned_88 : decode cX7_turned 88 = .ok (.goto 6, 3) := by decide +kernel
theorem dX7_turned_91 : decode cX7_turned 91 = .ok (.sipush 10000, 3) := by decide +kernel
theorem dX7_turned_94 : decode cX7_turned 94 = .ok (.iload 7, 2) := by decide +kernel
theorem dX7_turned_96 : decode cX7_turned 96 = .ok (.idiv, 1) := by decide +kernel
theorem dX7_turned_97 : decode cX7_turned 97 = .ok (.i2l, 1) := by decide +kernel
theorem dX7_turned_98 : decode cX7_turned 98 = .ok (.lreturn, 1) := by decide +kernel
theorem dX7_drawn_0 : decode cX7_drawn 0 = .ok (.aload_n 0, 1) := by decide +kernel
theorem dX7_drawn_1 : decode cX7_drawn 1 = .ok (.invokevirtual 145, 3) := by decide +kernel
theorem dX7_drawn_4 : decode cX7_drawn 4 = .ok (.ifCond .eq 6, 3) := by decide +kernel
theorem dX7_drawn_7 : decode cX7_drawn 7 = .ok (.ldc 141, 2) := by decide +kernel
theorem dX7_drawn_9 : decode cX7_drawn 9 = .ok (.ireturn, 1) := by decide +kernel
theorem dX7_drawn_10 : decode cX7_drawn 10 = .ok (.iload_n 1, 1) := by decide +kernel
theorem dX7_drawn_11 : decode cX7_drawn 11 = .ok (.iconst 0, 1) := by decide +kernel
theorem dX7_drawn_12 : decode cX7_drawn 12 = .ok (.bipush 60, 2) := by decide +kernel
theorem dX7_drawn_14 : decode cX7_drawn 14 = .ok (.invokestatic 71, 3) := by decide +kernel
theorem dX7_drawn_17 : decode cX7_drawn 17 = .ok (.ifCond .eq 21, 3) := by decide +kernel
theorem dX7_drawn_20 : decode cX7_drawn 20 = .ok (.iload_n 2, 1) := by decide +kernel
theorem dX7_drawn_21 : decode cX7_drawn 21 = .ok (.iconst 1, 1) := by decide +kernel
theorem dX7_drawn_22 : decode cX7_drawn 22 = .ok (.ldc_w 269, 3) := by decide +kernel
theorem dX7_drawn_25 : decode cX7_drawn 25 = .ok (.invokestatic 71, 3) := by decide +kernel
theorem dX7_drawn_28 : decode cX7_drawn 28 = .ok (.ifCond .eq 10, 3) := by decide +kernel
theorem dX7_drawn_31 : decode cX7_drawn 31 = .ok (.iload_n 3, 1) := by decide +kernel
theorem dX7_drawn_32 : decode cX7_drawn 32 = .ok (.invokestatic 204, 3) := by decide +kernel
theorem dX7_drawn_35 : decode cX7_drawn 35 = .ok (.ifCond .ne 6, 3) := by decide +kernel
theorem dX7_drawn_38 : decode cX7_drawn 38 = .ok (.ldc 75, 2) := by decide +kernel
theorem dX7_drawn_40 : decode cX7_drawn 40 = .ok (.ireturn, 1) := by decide +kernel
theorem dX7_drawn_41 : decode cX7_drawn 41 = .ok (.aload_n 0, 1) := by decide +kernel
theorem dX7_drawn_42 : decode cX7_drawn 42 = .ok (.getfield 49, 3) := by decide +kernel
theorem dX7_drawn_45 : decode cX7_drawn 45 = .ok (.iload_n 1, 1) := by decide +kernel
theorem dX7_drawn_46 : decode cX7_drawn 46 = .ok (.iload_n 2, 1) := by decide +kernel
theorem dX7_drawn_47 : decode cX7_drawn 47 = .ok (.invokevirtual 270, 3) := by decide +kernel
theorem dX7_drawn_50 : decode cX7_drawn 50 = .ok (.istore 4, 2) := by decide +kernel
theorem dX7_drawn_52 : decode cX7_drawn 52 = .ok (.iload_n 3, 1) := by decide +kernel
theorem dX7_drawn_53 : decode cX7_drawn 53 = .ok (.ifCond .ne 8, 3) := by decide +kernel
theorem dX7_drawn_56 : decode cX7_drawn 56 = .ok (.iload 4, 2) := by decide +kernel
theorem dX7_drawn_58 : decode cX7_drawn 58 = .ok (.goto 13, 3) := by decide +kernel
theorem dX7_drawn_61 : decode cX7_drawn 61 = .ok (.aload_n 0, 1) := by decide +kernel
theorem dX7_drawn_62 : decode cX7_drawn 62 = .ok (.getfield 49, 3) := by decide +kernel
theorem dX7_drawn_65 : decode cX7_drawn 65 = .ok (.getfield 273, 3) := by decide +kernel
theorem dX7_drawn_68 : decode cX7_drawn 68 = .ok (.invokevirtual 276, 3) := by decide +kernel
theorem dX7_drawn_71 : decode cX7_drawn 71 = .ok (.ireturn, 1) := by decide +kernel
theorem dX7_image_0 : decode cX7_image 0 = .ok (.iload_n 1, 1) := by decide +kernel
theorem dX7_image_1 : decode cX7_image 1 = .ok (.iconst 0, 1) := by decide +kernel
theorem dX7_image_2 : decode cX7_image 2 = .ok (.iconst 1, 1) := by decide +kernel
theorem dX7_image_3 : decode cX7_image 3 = .ok (.invokestatic 71, 3) := by decide +kernel
theorem dX7_image_6 : decode cX7_image 6 = .ok (.ifCond .ne 6, 3) := by decide +kernel
theorem dX7_image_9 : decode cX7_image 9 = .ok (.ldc 75, 2) := by decide +kernel
theorem dX7_image_11 : decode cX7_image 11 = .ok (.ireturn, 1) := by decide +kernel
theorem dX7_image_12 : decode cX7_image 12 = .ok (.aload_n 0, 1) := by decide +kernel
theorem dX7_image_13 : decode cX7_image 13 = .ok (.invokevirtual 145, 3) := by decide +kernel
theorem dX7_image_16 : decode cX7_image 16 = .ok (.ifCond .eq 6, 3) := by decide +kernel
theorem dX7_image_19 : decode cX7_image 19 = .ok (.ldc 141, 2) := by decide +kernel
theorem dX7_image_21 : decode cX7_image 21 = .ok (.ireturn, 1) := by decide +kernel
theorem dX7_image_22 : decode cX7_image 22 = .ok (.aload_n 0, 1) := by decide +kernel
theorem dX7_image_23 : decode cX7_image 23 = .ok (.getfield 40, 3) := by decide +kernel
theorem dX7_image_26 : decode cX7_image 26 = .ok (.iload_n 1, 1) := by decide +kernel
theorem dX7_image_27 : decode cX7_image 27 = .ok (.aaload, 1) := by decide +kernel
theorem dX7_image_28 : decode cX7_image 28 = .ok (.aload_n 0, 1) := by decide +kernel
theorem dX7_image_29 : decode cX7_image 29 = .ok (.getfield 30, 3) := by decide +kernel
theorem dX7_image_32 : decode cX7_image 32 = .ok (.invokevirtual 129, 3) := by decide +kernel
theorem dX7_image_35 : decode cX7_image 35 = .ok (.iconst 1, 1) := by decide +kernel
theorem dX7_image_36 : decode cX7_image 36 = .ok (.ireturn, 1) := by decide +kernel
theorem dX7_restore_0 : decode cX7_restore 0 = .ok (.iload_n 1, 1) := by decide +kernel
theorem dX7_restore_1 : decode cX7_restore 1 = .ok (.iconst 0, 1) := by decide +kernel
theorem dX7_restore_2 : decode cX7_restore 2 = .ok (.iconst 1, 1) := by decide +kernel
theorem dX7_restore_3 : decode cX7_restore 3 = .ok (.invokestatic 71, 3) := by decide +kernel
theorem dX7_restore_6 : decode cX7_restore 6 = .ok (.ifCond .ne 6, 3) := by decide +kernel
theorem dX7_restore_9 : decode cX7_restore 9 = .ok (.ldc 75, 2) := by decide +kernel
theorem dX7_restore_11 : decode cX7_restore 11 = .ok (.ireturn, 1) := by decide +kernel
theorem dX7_restore_12 : decode cX7_restore 12 = .ok (.aload_n 0, 1) := by decide +kernel
theorem dX7_restore_13 : decode cX7_restore 13 = .ok (.getfield 40, 3) := by decide +kernel
theorem dX7_restore_16 : decode cX7_restore 16 = .ok (.iload_n 1, 1) := by decide +kernel
theorem dX7_restore_17 : decode cX7_restore 17 = .ok (.aaload, 1) := by decide +kernel
theorem dX7_restore_18 : decode cX7_restore 18 = .ok (.getfield 135, 3) := by decide +kernel
theorem dX7_restore_21 : decode cX7_restore 21 = .ok (.ifCond .ne 6, 3) := by decide +kernel
theorem dX7_restore_24 : decode cX7_restore 24 = .ok (.ldc 141, 2) := by decide +kernel
theorem dX7_restore_26 : decode cX7_restore 26 = .ok (.ireturn, 1) := by decide +kernel
theorem dX7_restore_27 : decode cX7_restore 27 = .ok (.aload_n 0, 1) := by decide +kernel
theorem dX7_restore_28 : decode cX7_restore 28 = .ok (.getfield 30, 3) := by decide +kernel
theorem dX7_restore_31 : decode cX7_restore 31 = .ok (.aload_n 0, 1) := by decide +kernel
theorem dX7_restore_32 : decode cX7_restore 32 = .ok (.getfield 40, 3) := by decide +kernel
theorem dX7_restore_35 : decode cX7_restore 35 = .ok (.iload_n 1, 1) := by decide +kernel
theorem dX7_restore_36 : decode cX7_restore 36 = .ok (.aaload, 1) := by decide +kernel
theorem dX7_restore_37 : decode cX7_restore 37 = .ok (.invokevirtual 129, 3) := by decide +kernel
theorem dX7_restore_40 : decode cX7_restore 40 = .ok (.aload_n 0, 1) := by decide +kernel
theorem dX7_restore_41 : decode cX7_restore 41 = .ok (.getfield 36, 3) := by decide +kernel
theorem dX7_restore_44 : decode cX7_restore 44 = .ok (.invokevirtual 132, 3) := by decide +kernel
theorem dX7_restore_47 : decode cX7_restore 47 = .ok (.iconst 1, 1) := by decide +kernel
theorem dX7_restore_48 : decode cX7_restore 48 = .ok (.ireturn, 1) := by decide +kernel
theorem dX7_kind_0 : decode cX7_kind 0 = .ok (.aload_n 0, 1) := by decide +kernel
theorem dX7_kind_1 : decode cX7_kind 1 = .ok (.iload_n 1, 1) := by decide +kernel
theorem dX7_kind_2 : decode cX7_kind 2 = .ok (.invokevirtual 168, 3) := by decide +kernel
theorem dX7_kind_5 : decode cX7_kind 5 = .ok (.ifCond .eq 15, 3) := by decide +kernel
theorem dX7_kind_8 : decode cX7_kind 8 = .ok (.aload_n 0, 1) := by decide +kernel
theorem dX7_kind_9 : decode cX7_kind 9 = .ok (.getfield 30, 3) := by decide +kernel
theorem dX7_kind_12 : decode cX7_kind 12 = .ok (.getfield 192, 3) := by decide +kernel
theorem dX7_kind_15 : decode cX7_kind 15 = .ok (.iload_n 1, 1) := by decide +kernel
theorem dX7_kind_16 : decode cX7_kind 16 = .ok (.iaload, 1) := by decide +kernel
theorem dX7_kind_17 : decode cX7_kind 17 = .ok (.goto 5, 3) := by decide +kernel
theorem dX7_kind_20 : decode cX7_kind 20 = .ok (.ldc 75, 2) := by decide +kernel
theorem dX7_kind_22 : decode cX7_kind 22 = .ok (.ireturn, 1) := by decide +kernel
theorem dX7_as_0 : decode cX7_as 0 = .ok (.aload_n 0, 1) := by decide +kernel
theorem dX7_as_1 : decode cX7_as 1 = .ok (.iload_n 1, 1) := by decide +kernel
theorem dX7_as_2 : decode cX7_as 2 = .ok (.invokevirtual 168, 3) := by decide +kernel
theorem dX7_as_5 : decode cX7_as 5 = .ok (.ifCond .eq 12, 3) := by decide +kernel
theorem dX7_as_8 : decode cX7_as 8 = .ok (.iload_n 2, 1) := by decide +kernel
theorem dX7_as_9 : decode cX7_as 9 = .ok (.iconst 0, 1) := by decide +kernel
theorem dX7_as_10 : decode cX7_as 10 = .ok (.iconst 5, 1) := by decide +kernel
theorem dX7_as_11 : decode cX7_as 11 = .ok (.invokestatic 71, 3) := by decide +kernel
theorem dX7_as_14 : decode cX7_as 14 = .ok (.ifCond .ne 6, 3) := by decide +kernel
theorem dX7_as_17 : decode cX7_as 17 = .ok (.ldc 75, 2) := by decide +kernel
theorem dX7_as_19 : decode cX7_as 19 = .ok (.ireturn, 1) := by decide +kernel
theorem dX7_as_20 : decode cX7_as 20 = .ok (.aload_n 0, 1) := by decide +kernel
theorem dX7_as_21 : decode cX7_as 21 = .ok (.getfield 30, 3) := by decide +kernel
theorem dX7_as_24 : decode cX7_as 24 = .ok (.getfield 192, 3) := by decide +kernel
theorem dX7_as_27 : decode cX7_as 27 = .ok (.iload_n 1, 1) := by decide +kernel
theorem dX7_as_28 : decode cX7_as 28 = .ok (.iaload, 1) := by decide +kernel
theorem dX7_as_29 : decode cX7_as 29 = .ok (.iload_n 2, 1) := by decide +kernel
theorem dX7_as_30 : decode cX7_as 30 = .ok (.invokestatic 281, 3) := by decide +kernel
theorem dX7_as_33 : decode cX7_as 33 = .ok (.ifCond .ne 9, 3) := by decide +kernel
theorem dX7_as_36 : decode cX7_as 36 = .ok (.aload_n 0, 1) := by decide +kernel
theorem dX7_as_37 : decode cX7_as 37 = .ok (.iconst 3, 1) := by decide +kernel
theorem dX7_as_38 : decode cX7_as 38 = .ok (.invokevirtual 76, 3) := by decide +kernel
theorem dX7_as_41 : decode cX7_as 41 = .ok (.ireturn, 1) := by decide +kernel
theorem dX7_as_42 : decode cX7_as 42 = .ok (.aload_n 0, 1) := by decide +kernel
theorem dX7_as_43 : decode cX7_as 43 = .ok (.iload_n 1, 1) := by decide +kernel
theorem dX7_as_44 : decode cX7_as 44 = .ok (.invokevirtual 84, 3) := by decide +kernel
theorem dX7_as_47 : decode cX7_as 47 = .ok (.ireturn, 1) := by decide +kernel
theorem dX7_ask_0 : decode cX7_ask 0 = .ok (.aload_n 0, 1) := by decide +kernel
theorem dX7_ask_1 : decode cX7_ask 1 = .ok (.iload_n 1, 1) := by decide +kernel
theorem dX7_ask_2 : decode cX7_ask 2 = .ok (.invokevirtual 168, 3) := by decide +kernel
theorem dX7_ask_5 : decode cX7_ask 5 = .ok (.ifCond .eq 10, 3) := by decide +kernel
theorem dX7_ask_8 : decode cX7_ask 8 = .ok (.iload_n 2, 1) := by decide +kernel
theorem dX7_ask_9 : decode cX7_ask 9 = .ok (.invokestatic 204, 3) := by decide +kernel
theorem dX7_ask_12 : decode cX7_ask 12 = .ok (.ifCond .ne 6, 3) := by decide +kernel
theorem dX7_ask_15 : decode cX7_ask 15 = .ok (.ldc 75, 2) := by decide +kernel
theorem dX7_ask_17 : decode cX7_ask 17 = .ok (.ireturn, 1) := by decide +kernel
theorem dX7_ask_18 : decode cX7_ask 18 = .ok (.aload_n 0, 1) := by decide +kernel
theorem dX7_ask_19 : decode cX7_ask 19 = .ok (.getfield 56, 3) := by decide +kernel
theorem dX7_ask_22 : decode cX7_ask 22 = .ok (.iload_n 1, 1) := by decide +kernel
theorem dX7_ask_23 : decode cX7_ask 23 = .ok (.iload_n 2, 1) := by decide +kernel
theorem dX7_ask_24 : decode cX7_ask 24 = .ok (.invokevirtual 284, 3) := by decide +kernel
theorem dX7_ask_27 : decode cX7_ask 27 = .ok (.ireturn, 1) := by decide +kernel
theorem dX7_trace_0 : decode cX7_trace 0 = .ok (.iload_n 1, 1) := by decide +kernel
theorem dX7_trace_1 : decode cX7_trace 1 = .ok (.ifCond .lt 26, 3) := by decide +kernel
theorem dX7_trace_4 : decode cX7_trace 4 = .ok (.iload_n 1, 1) := by decide +kernel
theorem dX7_trace_5 : decode cX7_trace 5 = .ok (.aload_n 0, 1) := by decide +kernel
theorem dX7_trace_6 : decode cX7_trace 6 = .ok (.getfield 56, 3) := by decide +kernel
theorem dX7_trace_9 : decode cX7_trace 9 = .ok (.getfield 286, 3) := by decide +kernel
theorem dX7_trace_12 : decode cX7_trace 12 = .ok (.if_icmp .ge 15, 3) := by decide +kernel
theorem dX7_trace_15 : decode cX7_trace 15 = .ok (.aload_n 0, 1) := by decide +kernel
theorem dX7_trace_16 : decode cX7_trace 16 = .ok (.getfield 56, 3) := by decide +kernel
theorem dX7_trace_19 : decode cX7_trace 19 = .ok (.getfield 289, 3) := by decide +kernel
theorem dX7_trace_22 : decode cX7_trace 22 = .ok (.iload_n 1, 1) := by decide +kernel
theorem dX7_trace_23 : decode cX7_trace 23 = .ok (.iaload, 1) := by decide +kernel
theorem dX7_trace_24 : decode cX7_trace 24 = .ok (.goto 5, 3) := by decide +kernel
theorem dX7_trace_27 : decode cX7_trace 27 = .ok (.ldc 227, 2) := by decide +kernel
theorem dX7_trace_29 : decode cX7_trace 29 = .ok (.ireturn, 1) := by decide +kernel
theorem dX7_count_0 : decode cX7_count 0 = .ok (.iload_n 1, 1) := by decide +kernel
theorem dX7_count_1 : decode cX7_count 1 = .ok (.tableswitch 108 0 7 #[47, 52, 60, 68, 76, 84, 92, 100], 47) := by decide +kernel
theorem dX7_count_48 : decode cX7_count 48 = .ok (.aload_n 0, 1) := by decide +kernel
theorem dX7_count_49 : decode cX7_count 49 = .ok (.invokevirtual 292, 3) := by decide +kernel
theorem dX7_count_52 : decode cX7_count 52 = .ok (.ireturn, 1) := by decide +kernel
theorem dX7_count_53 : decode cX7_count 53 = .ok (.aload_n 0, 1) := by decide +kernel
theorem dX7_count_54 : decode cX7_count 54 = .ok (.getfield 30, 3) := by decide +kernel
theorem dX7_count_57 : decode cX7_count 57 = .ok (.getfield 135, 3) := by decide +kernel
theorem dX7_count_60 : decode cX7_count 60 = .ok (.ireturn, 1) := by decide +kernel
theorem dX7_count_61 : decode cX7_count 61 = .ok (.aload_n 0, 1) := by decide +kernel
theorem dX7_count_62 : decode cX7_count 62 = .ok (.getfield 30, 3) := by decide +kernel
theorem dX7_count_65 : decode cX7_count 65 = .ok (.getfield 295, 3) := by decide +kernel
theorem dX7_count_68 : decode cX7_count 68 = .ok (.ireturn, 1) := by decide +kernel
theorem dX7_count_69 : decode cX7_count 69 = .ok (.aload_n 0, 1) := by decide +kernel
theorem dX7_count_70 : decode cX7_count 70 = .ok (.getfield 30, 3) := by decide +kernel
theorem dX7_count_73 : decode cX7_count 73 = .ok (.getfield 149, 3) := by decide +kernel
theorem dX7_count_76 : decode cX7_count 76 = .ok (.ireturn, 1) := by decide +kernel
theorem dX7_count_77 : decode cX7_count 77 = .ok (.aload_n 0, 1) := by decide +kernel
theorem dX7_count_78 : decode cX7_count 78 = .ok (.getfield 30, 3) := by decide +kernel
theorem dX7_count_81 : decode cX7_count 81 = .ok (.invokevirtual 298, 3) := by decide +kernel
theorem dX7_count_84 : decode cX7_count 84 = .ok (.ireturn, 1) := by decide +kernel
theorem dX7_count_85 : decode cX7_count 85 = .ok (.aload_n 0, 1) := by decide +kernel
theorem dX7_count_86 : decode cX7_count 86 = .ok (.getfield 30, 3) := by decide +kernel
theorem dX7_count_89 : decode cX7_count 89 = .ok (.invokevirtual 159, 3) := by decide +kernel
theorem dX7_count_92 : decode cX7_count 92 = .ok (.ireturn, 1) := by decide +kernel
theorem dX7_count_93 : decode cX7_count 93 = .ok (.aload_n 0, 1) := by decide +kernel
theorem dX7_count_94 : decode cX7_count 94 = .ok (.getfield 36, 3) := by decide +kernel
theorem dX7_count_97 : decode cX7_count 97 = .ok (.getfield 138, 3) := by decide +kernel
theorem dX7_count_100 : decode cX7_count 100 = .ok (.ireturn, 1) := by decide +kernel
theorem dX7_count_101 : decode cX7_count 101 = .ok (.aload_n 0, 1) := by decide +kernel
theorem dX7_count_102 : decode cX7_count 102 = .ok (.getfield 19, 3) := by decide +kernel
theorem dX7_count_105 : decode cX7_count 105 = .ok (.getfield 301, 3) := by decide +kernel
theorem dX7_count_108 : decode cX7_count 108 = .ok (.ireturn, 1) := by decide +kernel
theorem dX7_count_109 : decode cX7_count 109 = .ok (.ldc 75, 2) := by decide +kernel
theorem dX7_count_111 : decode cX7_count 111 = .ok (.ireturn, 1) := by decide +kernel
theorem dX7_status_0 : decode cX7_status 0 = .ok (.aload_n 0, 1) := by decide +kernel
theorem dX7_status_1 : decode cX7_status 1 = .ok (.getfield 64, 3) := by decide +kernel
theorem dX7_status_4 : decode cX7_status 4 = .ok (.ireturn, 1) := by decide +kernel
theorem dX7_within_0 : decode cX7_within 0 = .ok (.iload_n 0, 1) := by decide +kernel
theorem dX7_within_1 : decode cX7_within 1 = .ok (.iload_n 1, 1) := by decide +kernel
theorem dX7_within_2 : decode cX7_within 2 = .ok (.if_icmp .lt 12, 3) := by decide +kernel
theorem dX7_within_5 : decode cX7_within 5 = .ok (.iload_n 0, 1) := by decide +kernel
theorem dX7_within_6 : decode cX7_within 6 = .ok (.iload_n 2, 1) := by decide +kernel
theorem dX7_within_7 : decode cX7_within 7 = .ok (.if_icmp .gt 7, 3) := by decide +kernel
theorem dX7_within_10 : decode cX7_within 10 = .ok (.iconst 1, 1) := by decide +kernel
theorem dX7_within_11 : decode cX7_within 11 = .ok (.goto 4, 3) := by decide +kernel
theorem dX7_within_14 : decode cX7_within 14 = .ok (.iconst 0, 1) := by decide +kernel
theorem dX7_within_15 : decode cX7_within 15 = .ok (.ireturn, 1) := by decide +kernel
theorem dX7_isRow_0 : decode cX7_isRow 0 = .ok (.iload_n 0, 1) := by decide +kernel
theorem dX7_isRow_1 : decode cX7_isRow 1 = .ok (.iconst 0, 1) := by decide +kernel
theorem dX7_isRow_2 : decode cX7_isRow 2 = .ok (.bipush 7, 2) := by decide +kernel
theorem dX7_isRow_4 : decode cX7_isRow 4 = .ok (.invokestatic 71, 3) := by decide +kernel
theorem dX7_isRow_7 : decode cX7_isRow 7 = .ok (.ireturn, 1) := by decide +kernel
theorem dX7_isLand_0 : decode cX7_isLand 0 = .ok (.iload_n 0, 1) := by decide +kernel
theorem dX7_isLand_1 : decode cX7_isLand 1 = .ok (.iconst 0, 1) := by decide +kernel
theorem dX7_isLand_2 : decode cX7_isLand 2 = .ok (.bipush 9, 2) := by decide +kernel
theorem dX7_isLand_4 : decode cX7_isLand 4 = .ok (.invokestatic 71, 3) := by decide +kernel
theorem dX7_isLand_7 : decode cX7_isLand 7 = .ok (.ireturn, 1) := by decide +kernel
theorem dX7_isOneOfTwo_0 : decode cX7_isOneOfTwo 0 = .ok (.iload_n 0, 1) := by decide +kernel
theorem dX7_isOneOfTwo_1 : decode cX7_isOneOfTwo 1 = .ok (.iconst 0, 1) := by decide +kernel
theorem dX7_isOneOfTwo_2 : decode cX7_isOneOfTwo 2 = .ok (.iconst 1, 1) := by decide +kernel
theorem dX7_isOneOfTwo_3 : decode cX7_isOneOfTwo 3 = .ok (.invokestatic 71, 3) := by decide +kernel
theorem dX7_isOneOfTwo_6 : decode cX7_isOneOfTwo 6 = .ok (.ireturn, 1) := by decide +kernel
theorem dX7_isOffice_0 : decode cX7_isOffice 0 = .ok (.iload_n 1, 1) := by decide +kernel
theorem dX7_isOffice_1 : decode cX7_isOffice 1 = .ok (.iconst 0, 1) := by decide +kernel
theorem dX7_isOffice_2 : decode cX7_isOffice 2 = .ok (.aload_n 0, 1) := by decide +kernel
theorem dX7_isOffice_3 : decode cX7_isOffice 3 = .ok (.getfield 30, 3) := by decide +kernel
theorem dX7_isOffice_6 : decode cX7_isOffice 6 = .ok (.getfield 135, 3) := by decide +kernel
theorem dX7_isOffice_9 : decode cX7_isOffice 9 = .ok (.iconst 1, 1) := by decide +kernel
theorem dX7_isOffice_10 : decode cX7_isOffice 10 = .ok (.isub, 1) := by decide +kernel
theorem dX7_isOffice_11 : decode cX7_isOffice 11 = .ok (.invokestatic 71, 3) := by decide +kernel
theorem dX7_isOffice_14 : decode cX7_isOffice 14 = .ok (.ireturn, 1) := by decide +kernel
theorem dX7_noSky_0 : decode cX7_noSky 0 = .ok (.aload_n 0, 1) := by decide +kernel
theorem dX7_noSky_1 : decode cX7_noSky 1 = .ok (.getfield 30, 3) := by decide +kernel
theorem dX7_noSky_4 : decode cX7_noSky 4 = .ok (.getfield 135, 3) := by decide +kernel
theorem dX7_noSky_7 : decode cX7_noSky 7 = .ok (.ifCond .ne 7, 3) := by decide +kernel
theorem dX7_noSky_10 : decode cX7_noSky 10 = .ok (.iconst 1, 1) := by decide +kernel
theorem dX7_noSky_11 : decode cX7_noSky 11 = .ok (.goto 4, 3) := by decide +kernel
theorem dX7_noSky_14 : decode cX7_noSky 14 = .ok (.iconst 0, 1) := by decide +kernel
theorem dX7_noSky_15 : decode cX7_noSky 15 = .ok (.ireturn, 1) := by decide +kernel
theorem dX7_found_0 : decode cX7_found 0 = .ok (.aload_n 0, 1) := by decide +kernel
theorem dX7_found_1 : decode cX7_found 1 = .ok (.iload_n 1, 1) := by decide +kernel
theorem dX7_found_2 : decode cX7_found 2 = .ok (.putfield 64, 3) := by decide +kernel
theorem dX7_found_5 : decode cX7_found 5 = .ok (.ldc_w 302, 3) := by decide +kernel
theorem dX7_found_8 : decode cX7_found 8 = .ok (.iload_n 1, 1) := by decide +kernel
theorem dX7_found_9 : decode cX7_found 9 = .ok (.isub, 1) := by decide +kernel
theorem dX7_found_10 : decode cX7_found 10 = .ok (.ireturn, 1) := by decide +kernel
theorem dX7_foundNothing_0 : decode cX7_foundNothing 0 = .ok (.aload_n 0, 1) := by decide +kernel
theorem dX7_foundNothing_1 : decode cX7_foundNothing 1 = .ok (.iconst 0, 1) := by decide +kernel
theorem dX7_foundNothing_2 : decode cX7_foundNothing 2 = .ok (.putfield 64, 3) := by decide +kernel
theorem dX7_foundNothing_5 : decode cX7_foundNothing 5 = .ok (.iload_n 1, 1) := by decide +kernel
theorem dX7_foundNothing_6 : decode cX7_foundNothing 6 = .ok (.ireturn, 1) := by decide +kernel
theorem dX7_rowsThatAre_0 : decode cX7_rowsThatAre 0 = .ok (.iconst 0, 1) := by decide +kernel
theorem dX7_rowsThatAre_1 : decode cX7_rowsThatAre 1 = .ok (.istore_n 1, 1) := by decide +kernel
theorem dX7_rowsThatAre_2 : decode cX7_rowsThatAre 2 = .ok (.iconst 0, 1) := by decide +kernel
theorem dX7_rowsThatAre_3 : decode cX7_rowsThatAre 3 = .ok (.istore_n 2, 1) := by decide +kernel
theorem dX7_rowsThatAre_4 : decode cX7_rowsThatAre 4 = .ok (.iload_n 2, 1) := by decide +kernel
theorem dX7_rowsThatAre_5 : decode cX7_rowsThatAre 5 = .ok (.bipush 8, 2) := by decide +kernel
theorem dX7_rowsThatAre_7 : decode cX7_rowsThatAre 7 = .ok (.if_icmp .ge 24, 3) := by decide +kernel
theorem dX7_rowsThatAre_10 : decode cX7_rowsThatAre 10 = .ok (.aload_n 0, 1) := by decide +kernel
theorem dX7_rowsThatAre_11 : decode cX7_rowsThatAre 11 = .ok (.getfield 11, 3) := by decide +kernel
theorem dX7_rowsThatAre_14 : decode cX7_rowsThatAre 14 = .ok (.iload_n 2, 1) := by decide +kernel
theorem dX7_rowsThatAre_15 : decode cX7_rowsThatAre 15 = .ok (.aaload, 1) := by decide +kernel
theorem dX7_rowsThatAre_16 : decode cX7_rowsThatAre 16 = .ok (.getfield 94, 3) := by decide +kernel
theorem dX7_rowsThatAre_19 : decode cX7_rowsThatAre 19 = .ok (.ifCond .ne 6, 3) := by decide +kernel
theorem dX7_rowsThatAre_22 : decode cX7_rowsThatAre 22 = .ok (.iinc 1 1, 3) := by decide +kernel
theorem dX7_rowsThatAre_25 : decode cX7_rowsThatAre 25 = .ok (.iinc 2 1, 3) := by decide +kernel
theorem dX7_rowsThatAre_28 : decode cX7_rowsThatAre 28 = .ok (.goto (-24), 3) := by decide +kernel
theorem dX7_rowsThatAre_31 : decode cX7_rowsThatAre 31 = .ok (.iload_n 1, 1) := by decide +kernel
theorem dX7_rowsThatAre_32 : decode cX7_rowsThatAre 32 = .ok (.ireturn, 1) := by decide +kernel
end
section
theorem dX8_init_0 : decode cX8_init 0 = .ok (.aload_n 0, 1) := by decide +kernel
theorem dX8_init_1 : decode cX8_init 1 = .ok (.invokespecial 1, 3) := by decide +kernel
theorem dX8_init_4 : decode cX8_init 4 = .ok (.aload_n 0, 1) := by decide +kernel
theorem dX8_init_5 : decode cX8_init 5 = .ok (.bipush 8, 2) := by decide +kernel
theorem dX8_init_7 : decode cX8_init 7 = .ok (.newarray .int, 2) := by decide +kernel
theorem dX8_init_9 : decode cX8_init 9 = .ok (.putfield 7, 3) := by decide +kernel
theorem dX8_init_12 : decode cX8_init 12 = .ok (.aload_n 0, 1) := by decide +kernel
theorem dX8_init_13 : decode cX8_init 13 = .ok (.bipush 8, 2) := by decide +kernel
theorem dX8_init_15 : decode cX8_init 15 = .ok (.newarray .int, 2) := by decide +kernel
theorem dX8_init_17 : decode cX8_init 17 = .ok (.putfield 13, 3) := by decide +kernel
theorem dX8_init_20 : decode cX8_init 20 = .ok (.aload_n 0, 1) := by decide +kernel
theorem dX8_init_21 : decode cX8_init 21 = .ok (.sipush 320, 3) := by decide +kernel
theorem dX8_init_24 : decode cX8_init 24 = .ok (.newarray .int, 2) := by decide +kernel
theorem dX8_init_26 : decode cX8_init 26 = .ok (.putfield 16, 3) := by decide +kernel
theorem dX8_init_29 : decode cX8_init 29 = .ok (.aload_n 0, 1) := by decide +kernel
theorem dX8_init_30 : decode cX8_init 30 = .ok (.bipush 100, 2) := by decide +kernel
theorem dX8_init_32 : decode cX8_init 32 = .ok (.newarray .int, 2) := by decide +kernel
theorem dX8_init_34 : decode cX8_init 34 = .ok (.putfield 19, 3) := by decide +kernel
theorem dX8_init_37 : decode cX8_init 37 = .ok (.aload_n 0, 1) := by decide +kernel
theorem dX8_init_38 : decode cX8_init 38 = .ok (.bipush 32, 2) := by decide +kernel
theorem dX8_init_40 : decode cX8_init 40 = .ok (.newarray .int, 2) := by decide +kernel
theorem dX8_init_42 : decode cX8_init 42 = .ok (.putfield 22, 3) := by decide +kernel
theorem dX8_init_45 : decode cX8_init 45 = .ok (.aload_n 0, 1) := by decide +kernel
theorem dX8_init_46 : decode cX8_init 46 = .ok (.sipush 768, 3) := by decide +kernel
theorem dX8_init_49 : decode cX8_init 49 = .ok (.newarray .int, 2) := by decide +kernel
theorem dX8_init_51 : decode cX8_init 51 = .ok (.putfield 25, 3) := by decide +kernel
theorem dX8_init_54 : decode cX8_init 54 = .ok (.aload_n 0, 1) := by decide +kernel
theorem dX8_init_55 : decode cX8_init 55 = .ok (.bipush 64, 2) := by decide +kernel
theorem dX8_init_57 : decode cX8_init 57 = .ok (.newarray .int, 2) := by decide +kernel
theorem dX8_init_59 : decode cX8_init 59 = .ok (.putfield 28, 3) := by decide +kernel
theorem dX8_init_62 : decode cX8_init 62 = .ok (.aload_n 0, 1) := by decide +kernel
theorem dX8_init_63 : decode cX8_init 63 = .ok (.iconst 2, 1) := by decide +kernel
theorem dX8_init_64 : decode cX8_init 64 = .ok (.newarray .boolean, 2) := by decide +kernel
theorem dX8_init_66 : decode cX8_init 66 = .ok (.putfield 31, 3) := by decide +kernel
theorem dX8_init_69 : decode cX8_init 69 = .ok (.aload_n 0, 1) := by decide +kernel
theorem dX8_init_70 : decode cX8_init 70 = .ok (.bipush 16, 2) := by decide +kernel
theorem dX8_init_72 : decode cX8_init 72 = .ok (.newarray .int, 2) := by decide +kernel
theorem dX8_init_74 : decode cX8_init 74 = .ok (.putfield 35, 3) := by decide +kernel
theorem dX8_init_77 : decode cX8_init 77 = .ok (.aload_n 0, 1) := by decide +kernel
theorem dX8_init_78 : decode cX8_init 78 = .ok (.bipush 32, 2) := by decide +kernel
theorem dX8_init_80 : decode cX8_init 80 = .ok (.newarray .int, 2) := by decide +kernel
theorem dX8_init_82 : decode cX8_init 82 = .ok (.putfield 38, 3) := by decide +kernel
theorem dX8_init_85 : decode cX8_init 85 = .ok (.aload_n 0, 1) := by decide +kernel
theorem dX8_init_86 : decode cX8_init 86 = .ok (.bipush 32, 2) := by decide +kernel
theorem dX8_init_88 : decode cX8_init 88 = .ok (.newarray .int, 2) := by decide +kernel
theorem dX8_init_90 : decode cX8_init 90 = .ok (.putfield 41, 3) := by decide +kernel
theorem dX8_init_93 : decode cX8_init 93 = .ok (.aload_n 0, 1) := by decide +kernel
theorem dX8_init_94 : decode cX8_init 94 = .ok (.sipush 2730, 3) := by decide +kernel
theorem dX8_init_97 : decode cX8_init 97 = .ok (.newarray .int, 2) := by decide +kernel
theorem dX8_init_99 : decode cX8_init 99 = .ok (.putfield 44, 3) := by decide +kernel
theorem dX8_init_102 : decode cX8_init 102 = .ok (.aload_n 0, 1) := by decide +kernel
theorem dX8_init_103 : decode cX8_init 103 = .ok (.bipush 10, 2) := by decide +kernel
theorem dX8_init_105 : decode cX8_init 105 = .ok (.newarray .int, 2) := by decide +kernel
theorem dX8_init_107 : decode cX8_init 107 = .ok (.putfield 47, 3) := by decide +kernel
theorem dX8_init_110 : decode cX8_init 110 = .ok (.iconst 0, 1) := by decide +kernel
theorem dX8_init_111 : decode cX8_init 111 = .ok (.istore_n 1, 1) := by decide +kernel
theorem dX8_init_112 : decode cX8_init 112 = .ok (.iload_n 1, 1) := by decide +kernel
theorem dX8_init_113 : decode cX8_init 113 = .ok (.bipush 8, 2) := by decide +kernel
theorem dX8_init_115 : decode cX8_init 115 = .ok (.if_icmp .ge 16, 3) := by decide +kernel
theorem dX8_init_118 : decode cX8_init 118 = .ok (.aload_n 0, 1) := by decide +kernel
theorem dX8_init_119 : decode cX8_init 119 = .ok (.getfield 13, 3) := by decide +kernel
theorem dX8_init_122 : decode cX8_init 122 = .ok (.iload_n 1, 1) := by decide +kernel
theorem dX8_init_123 : decode cX8_init 123 = .ok (.iconst (-1), 1) := by decide +kernel
theorem dX8_init_124 : decode cX8_init 124 = .ok (.iastore, 1) := by decide +kernel
theorem dX8_init_125 : decode cX8_init 125 = .ok (.iinc 1 1, 3) := by decide +kernel
theorem dX8_init_128 : decode cX8_init 128 = .ok (.goto (-16), 3) := by decide +kernel
theorem dX8_init_131 : decode cX8_init 131 = .ok (.return_, 1) := by decide +kernel
theorem dX8_in_0 : decode cX8_in 0 = .ok (.lload_n 0, 1) := by decide +kernel
theorem dX8_in_1 : decode cX8_in 1 = .ok (.lload_n 2, 1) := by decide +kernel
theorem dX8_in_2 : decode cX8_in 2 = .ok (.lcmp, 1) := by decide +kernel
theorem dX8_in_3 : decode cX8_in 3 = .ok (.ifCond .lt 14, 3) := by decide +kernel
theorem dX8_in_6 : decode cX8_in 6 = .ok (.lload_n 0, 1) := by decide +kernel
theorem dX8_in_7 : decode cX8_in 7 = .ok (.lload 4, 2) := by decide +kernel
theorem dX8_in_9 : decode cX8_in 9 = .ok (.lcmp, 1) := by decide +kernel
theorem dX8_in_10 : decode cX8_in 10 = .ok (.ifCond .gt 7, 3) := by decide +kernel
theorem dX8_in_13 : decode cX8_in 13 = .ok (.iconst 1, 1) := by decide +kernel
theorem dX8_in_14 : decode cX8_in 14 = .ok (.goto 4, 3) := by decide +kernel
theorem dX8_in_17 : decode cX8_in 17 = .ok (.iconst 0, 1) := by decide +kernel
theorem dX8_in_18 : decode cX8_in 18 = .ok (.ireturn, 1) := by decide +kernel
theorem dX8_found_0 : decode cX8_found 0 = .ok (.aload_n 0, 1) := by decide +kernel
theorem dX8_found_1 : decode cX8_found 1 = .ok (.iload_n 1, 1) := by decide +kernel
theorem dX8_found_2 : decode cX8_found 2 = .ok (.putfield 50, 3) := by decide +kernel
theorem dX8_found_5 : decode cX8_found 5 = .ok (.ldc 54, 2) := by decide +kernel
theorem dX8_found_7 : decode cX8_found 7 = .ok (.iload_n 1, 1) := by decide +kernel
theorem dX8_found_8 : decode cX8_found 8 = .ok (.isub, 1) := by decide +kernel
theorem dX8_found_9 : decode cX8_found 9 = .ok (.ireturn, 1) := by decide +kernel
theorem dX8_well_0 : decode cX8_well 0 = .ok (.aload_n 0, 1) := by decide +kernel
theorem dX8_well_1 : decode cX8_well 1 = .ok (.iconst 0, 1) := by decide +kernel
theorem dX8_well_2 : decode cX8_well 2 = .ok (.putfield 50, 3) := by decide +kernel
theorem dX8_well_5 : decode cX8_well 5 = .ok (.iload_n 1, 1) := by decide +kernel
theorem dX8_well_6 : decode cX8_well 6 = .ok (.ireturn, 1) := by decide +kernel
theorem dX8_isRow_0 : decode cX8_isRow 0 = .ok (.iload_n 0, 1) := by decide +kernel
theorem dX8_isRow_1 : decode cX8_isRow 1 = .ok (.i2l, 1) := by decide +kernel
theorem dX8_isRow_2 : decode cX8_isRow 2 = .ok (.lconst 0, 1) := by decide +kernel
theorem dX8_isRow_3 : decode cX8_isRow 3 = .ok (.ldc2_w 55, 3) := by decide +kernel
theorem dX8_isRow_6 : decode cX8_isRow 6 = .ok (.invokestatic 57, 3) := by decide +kernel
theorem dX8_isRow_9 : decode cX8_isRow 9 = .ok (.ireturn, 1) := by decide +kernel
theorem dX8_row_0 : decode cX8_row 0 = .ok (.iload_n 1, 1) := by decide +kernel
theorem dX8_row_1 : decode cX8_row 1 = .ok (.invokestatic 61, 3) := by decide +kernel
theorem dX8_row_4 : decode cX8_row 4 = .ok (.ifCond .eq 21, 3) := by decide +kernel
theorem dX8_row_7 : decode cX8_row 7 = .ok (.iload_n 2, 1) := by decide +kernel
theorem dX8_row_8 : decode cX8_row 8 = .ok (.i2l, 1) := by decide +kernel
theorem dX8_row_9 : decode cX8_row 9 = .ok (.lconst 0, 1) := by decide +kernel
theorem dX8_row_10 : decode cX8_row 10 = .ok (.ldc2_w 65, 3) := by decide +kernel
theorem dX8_row_13 : decode cX8_row 13 = .ok (.invokestatic 57, 3) := by decide +kernel
theorem dX8_row_16 : decode cX8_row 16 = .ok (.ifCond .eq 9, 3) := by decide +kernel
theorem dX8_row_19 : decode cX8_row 19 = .ok (.iload_n 3, 1) := by decide +kernel
theorem dX8_row_20 : decode cX8_row 20 = .ok (.bipush 40, 2) := by decide +kernel
theorem dX8_row_22 : decode cX8_row 22 = .ok (.if_icmp .le 6, 3) := by decide +kernel
theorem dX8_row_25 : decode cX8_row 25 = .ok (.ldc 67, 2) := by decide +kernel
theorem dX8_row_27 : decode cX8_row 27 = .ok (.ireturn, 1) := by decide +kernel
theorem dX8_row_28 : decode cX8_row 28 = .ok (.iload_n 3, 1) := by decide +kernel
theorem dX8_row_29 : decode cX8_row 29 = .ok (.ifCond .ge 9, 3) := by decide +kernel
theorem dX8_row_32 : decode cX8_row 32 = .ok (.aload_n 0, 1) := by decide +kernel
theorem dX8_row_33 : decode cX8_row 33 = .ok (.iconst 4, 1) := by decide +kernel
theorem dX8_row_34 : decode cX8_row 34 = .ok (.invokevirtual 68, 3) := by decide +kernel
theorem dX8_row_37 : decode cX8_row 37 = .ok (.ireturn, 1) := by decide +kernel
theorem dX8_row_38 : decode cX8_row 38 = .ok (.aload_n 0, 1) := by decide +kernel
theorem dX8_row_39 : decode cX8_row 39 = .ok (.getfield 7, 3) := by decide +kernel
theorem dX8_row_42 : decode cX8_row 42 = .ok (.iload_n 1, 1) := by decide +kernel
theorem dX8_row_43 : decode cX8_row 43 = .ok (.iload_n 2, 1) := by decide +kernel
theorem dX8_row_44 : decode cX8_row 44 = .ok (.iastore, 1) := by decide +kernel
theorem dX8_row_45 : decode cX8_row 45 = .ok (.aload_n 0, 1) := by decide +kernel
theorem dX8_row_46 : decode cX8_row 46 = .ok (.getfield 13, 3) := by decide +kernel
theorem dX8_row_49 : decode cX8_row 49 = .ok (.iload_n 1, 1) := by decide +kernel
theorem dX8_row_50 : decode cX8_row 50 = .ok (.iload_n 3, 1) := by decide +kernel
theorem dX8_row_51 : decode cX8_row 51 = .ok (.iastore, 1) := by decide +kernel
theorem dX8_row_52 : decode cX8_row 52 = .ok (.iconst 0, 1) := by decide +kernel
theorem dX8_row_53 : decode cX8_row 53 = .ok (.istore 4, 2) := by decide +kernel
theorem dX8_row_55 : decode cX8_row 55 = .ok (.iload 4, 2) := by decide +kernel
theorem dX8_row_57 : decode cX8_row 57 = .ok (.bipush 40, 2) := by decide +kernel
theorem dX8_row_59 : decode cX8_row 59 = .ok (.if_icmp .ge 22, 3) := by decide +kernel
theorem dX8_row_62 : decode cX8_row 62 = .ok (.aload_n 0, 1) := by decide +kernel
theorem dX8_row_63 : decode cX8_row 63 = .ok (.getfield 16, 3) := by decide +kernel
theorem dX8_row_66 : decode cX8_row 66 = .ok (.bipush 40, 2) := by decide +kernel
theorem dX8_row_68 : decode cX8_row 68 = .ok (.iload_n 1, 1) := by decide +kernel
theorem dX8_row_69 : decode cX8_row 69 = .ok (.imul, 1) := by decide +kernel
theorem dX8_row_70 : decode cX8_row 70 = .ok (.iload 4, 2) := by decide +kernel
theorem dX8_row_72 : decode cX8_row 72 = .ok (.iadd, 1) := by decide +kernel
theorem dX8_row_73 : decode cX8_row 73 = .ok (.iconst 0, 1) := by decide +kernel
theorem dX8_row_74 : decode cX8_row 74 = .ok (.iastore, 1) := by decide +kernel
theorem dX8_row_75 : decode cX8_row 75 = .ok (.iinc 4 1, 3) := by decide +kernel
theorem dX8_row_78 : decode cX8_row 78 = .ok (.goto (-23), 3) := by decide +kernel
theorem dX8_row_81 : decode cX8_row 81 = .ok (.aload_n 0, 1) := by decide +kernel
theorem dX8_row_82 : decode cX8_row 82 = .ok (.iload_n 3, 1) := by decide +kernel
theorem dX8_row_83 : decode cX8_row 83 = .ok (.invokevirtual 72, 3) := by decide +kernel
theorem dX8_row_86 : decode cX8_row 86 = .ok (.ireturn, 1) := by decide +kernel
theorem dX8_set_0 : decode cX8_set 0 = .ok (.iload_n 1, 1) := by decide +kernel
theorem dX8_set_1 : decode cX8_set 1 = .ok (.invokestatic 61, 3) := by decide +kernel
theorem dX8_set_4 : decode cX8_set 4 = .ok (.ifCond .ne 6, 3) := by decide +kernel
theorem dX8_set_7 : decode cX8_set 7 = .ok (.ldc 67, 2) := by decide +kernel
theorem dX8_set_9 : decode cX8_set 9 = .ok (.ireturn, 1) := by decide +kernel
theorem dX8_set_10 : decode cX8_set 10 = .ok (.aload_n 0, 1) := by decide +kernel
theorem dX8_set_11 : decode cX8_set 11 = .ok (.getfield 13, 3) := by decide +kernel
theorem dX8_set_14 : decode cX8_set 14 = .ok (.iload_n 1, 1) := by decide +kernel
theorem dX8_set_15 : decode cX8_set 15 = .ok (.iaload, 1) := by decide +kernel
theorem dX8_set_16 : decode cX8_set 16 = .ok (.ifCond .ge 9, 3) := by decide +kernel
theorem dX8_set_19 : decode cX8_set 19 = .ok (.aload_n 0, 1) := by decide +kernel
theorem dX8_set_20 : decode cX8_set 20 = .ok (.iconst 1, 1) := by decide +kernel
theorem dX8_set_21 : decode cX8_set 21 = .ok (.invokevirtual 68, 3) := by decide +kernel
theorem dX8_set_24 : decode cX8_set 24 = .ok (.ireturn, 1) := by decide +kernel
theorem dX8_set_25 : decode cX8_set 25 = .ok (.iload_n 2, 1) := by decide +kernel
theorem dX8_set_26 : decode cX8_set 26 = .ok (.i2l, 1) := by decide +kernel
theorem dX8_set_27 : decode cX8_set 27 = .ok (.lconst 0, 1) := by decide +kernel
theorem dX8_set_28 : decode cX8_set 28 = .ok (.aload_n 0, 1) := by decide +kernel
theorem dX8_set_29 : decode cX8_set 29 = .ok (.getfield 13, 3) := by decide +kernel
theorem dX8_set_32 : decode cX8_set 32 = .ok (.iload_n 1, 1) := by decide +kernel
theorem dX8_set_33 : decode cX8_set 33 = .ok (.iaload, 1) := by decide +kernel
theorem dX8_set_34 : decode cX8_set 34 = .ok (.iconst 1, 1) := by decide +kernel
theorem dX8_set_35 : decode cX8_set 35 = .ok (.isub, 1) := by decide +kernel
theorem dX8_set_36 : decode cX8_set 36 = .ok (.i2l, 1) := by decide +kernel
theorem dX8_set_37 : decode cX8_set 37 = .ok (.invokestatic 57, 3) := by decide +kernel
theorem dX8_set_40 : decode cX8_set 40 = .ok (.ifCond .ne 9, 3) := by decide +kernel
theorem dX8_set_43 : decode cX8_set 43 = .ok (.aload_n 0, 1) := by decide +kernel
theorem dX8_set_44 : decode cX8_set 44 = .ok (.iconst 2, 1) := by decide +kernel
theorem dX8_set_45 : decode cX8_set 45 = .ok (.invokevirtual 68, 3) := by decide +kernel
theorem dX8_set_48 : decode cX8_set 48 = .ok (.ireturn, 1) := by decide +kernel
theorem dX8_set_49 : decode cX8_set 49 = .ok (.aload_n 0, 1) := by decide +kernel
theorem dX8_set_50 : decode cX8_set 50 = .ok (.getfield 16, 3) := by decide +kernel
theorem dX8_set_53 : decode cX8_set 53 = .ok (.bipush 40, 2) := by decide +kernel
theorem dX8_set_55 : decode cX8_set 55 = .ok (.iload_n 1, 1) := by decide +kernel
theorem dX8_set_56 : decode cX8_set 56 = .ok (.imul, 1) := by decide +kernel
theorem dX8_set_57 : decode cX8_set 57 = .ok (.iload_n 2, 1) := by decide +kernel
theorem dX8_set_58 : decode cX8_set 58 = .ok (.iadd, 1) := by decide +kernel
theorem dX8_set_59 : decode cX8_set 59 = .ok (.aload_n 0, 1) := by decide +kernel
theorem dX8_set_60 : decode cX8_set 60 = .ok (.getfield 7, 3) := by decide +kernel
theorem dX8_set_63 : decode cX8_set 63 = .ok (.iload_n 1, 1) := by decide +kernel
theorem dX8_set_64 : decode cX8_set 64 = .ok (.iaload, 1) := by decide +kernel
theorem dX8_set_65 : decode cX8_set 65 = .ok (.ifCond .ne 8, 3) := by decide +kernel
theorem dX8_set_68 : decode cX8_set 68 = .ok (.iload_n 3, 1) := by decide +kernel
theorem dX8_set_69 : decode cX8_set 69 = .ok (.i2b, 1) := by decide +kernel
theorem dX8_set_70 : decode cX8_set 70 = .ok (.goto 19, 3) := by decide +kernel
theorem dX8_set_73 : decode cX8_set 73 = .ok (.aload_n 0, 1) := by decide +kernel
theorem dX8_set_74 : decode cX8_set 74 = .ok (.getfield 7, 3) := by decide +kernel
theorem dX8_set_77 : decode cX8_set 77 = .ok (.iload_n 1, 1) := by decide +kernel
theorem dX8_set_78 : decode cX8_set 78 = .ok (.iaload, 1) := by decide +kernel
theorem dX8_set_79 : decode cX8_set 79 = .ok (.iconst 1, 1) := by decide +kernel
theorem dX8_set_80 : decode cX8_set 80 = .ok (.if_icmp .ne 8, 3) := by decide +kernel
theorem dX8_set_83 : decode cX8_set 83 = .ok (.iload_n 3, 1) := by decide +kernel
theorem dX8_set_84 : decode cX8_set 84 = .ok (.i2s, 1) := by decide +kernel
theorem dX8_set_85 : decode cX8_set 85 = .ok (.goto 4, 3) := by decide +kernel
theorem dX8_set_88 : decode cX8_set 88 = .ok (.iload_n 3, 1) := by decide +kernel
theorem dX8_set_89 : decode cX8_set 89 = .ok (.iastore, 1) := by decide +kernel
theorem dX8_set_90 : decode cX8_set 90 = .ok (.aload_n 0, 1) := by decide +kernel
theorem dX8_set_91 : decode cX8_set 91 = .ok (.aload_n 0, 1) := by decide +kernel
theorem dX8_set_92 : decode cX8_set 92 = .ok (.getfield 16, 3) := by decide +kernel
theorem dX8_set_95 : decode cX8_set 95 = .ok (.bipush 40, 2) := by decide +kernel
theorem dX8_set_97 : decode cX8_set 97 = .ok (.iload_n 1, 1) := by decide +kernel
theorem dX8_set_98 : decode cX8_set 98 = .ok (.imul, 1) := by decide +kernel
theorem dX8_set_99 : decode cX8_set 99 = .ok (.iload_n 2, 1) := by decide +kernel
theorem dX8_set_100 : decode cX8_set 100 = .ok (.iadd, 1) := by decide +kernel
theorem dX8_set_101 : decode cX8_set 101 = .ok (.iaload, 1) := by decide +kernel
theorem dX8_set_102 : decode cX8_set 102 = .ok (.invokevirtual 72, 3) := by decide +kernel
theorem dX8_set_105 : decode cX8_set 105 = .ok (.ireturn, 1) := by decide +kernel
theorem dX8_copy_0 : decode cX8_copy 0 = .ok (.iload_n 1, 1) := by decide +kernel
theorem dX8_copy_1 : decode cX8_copy 1 = .ok (.invokestatic 61, 3) := by decide +kernel
theorem dX8_copy_4 : decode cX8_copy 4 = .ok (.ifCond .eq 10, 3) := by decide +kernel
theorem dX8_copy_7 : decode cX8_copy 7 = .ok (.iload_n 3, 1) := by decide +kernel
theorem dX8_copy_8 : decode cX8_copy 8 = .ok (.invokestatic 61, 3) := by decide +kernel
theorem dX8_copy_11 : decode cX8_copy 11 = .ok (.ifCond .ne 6, 3) := by decide +kernel
theorem dX8_copy_14 : decode cX8_copy 14 = .ok (.ldc 67, 2) := by decide +kernel
theorem dX8_copy_16 : decode cX8_copy 16 = .ok (.ireturn, 1) := by decide +kernel
theorem dX8_copy_17 : decode cX8_copy 17 = .ok (.aload_n 0, 1) := by decide +kernel
theorem dX8_copy_18 : decode cX8_copy 18 = .ok (.getfield 13, 3) := by decide +kernel
theorem dX8_copy_21 : decode cX8_copy 21 = .ok (.iload_n 1, 1) := by decide +kernel
theorem dX8_copy_22 : decode cX8_copy 22 = .ok (.iaload, 1) := by decide +kernel
theorem dX8_copy_23 : decode cX8_copy 23 = .ok (.ifCond .lt 12, 3) := by decide +kernel
theorem dX8_copy_26 : decode cX8_copy 26 = .ok (.aload_n 0, 1) := by decide +kernel
theorem dX8_copy_27 : decode cX8_copy 27 = .ok (.getfield 13, 3) := by decide +kernel
theorem dX8_copy_30 : decode cX8_copy 30 = .ok (.iload_n 3, 1) := by decide +kernel
theorem dX8_copy_31 : decode cX8_copy 31 = .ok (.iaload, 1) := by decide +kernel
theorem dX8_copy_32 : decode cX8_copy 32 = .ok (.ifCond .ge 9, 3) := by decide +kernel
theorem dX8_copy_35 : decode cX8_copy 35 = .ok (.aload_n 0, 1) := by decide +kernel
theorem dX8_copy_36 : decode cX8_copy 36 = .ok (.iconst 1, 1) := by decide +kernel
theorem dX8_copy_37 : decode cX8_copy 37 = .ok (.invokevirtual 68, 3) := by decide +kernel
theorem dX8_copy_40 : decode cX8_copy 40 = .ok (.ireturn, 1) := by decide +kernel
theorem dX8_copy_41 : decode cX8_copy 41 = .ok (.aload_n 0, 1) := by decide +kernel
theorem dX8_copy_42 : decode cX8_copy 42 = .ok (.getfield 7, 3) := by decide +kernel
theorem dX8_copy_45 : decode cX8_copy 45 = .ok (.iload_n 1, 1) := by decide +kernel
theorem dX8_copy_46 : decode cX8_copy 46 = .ok (.iaload, 1) := by decide +kernel
theorem dX8_copy_47 : decode cX8_copy 47 = .ok (.aload_n 0, 1) := by decide +kernel
theorem dX8_copy_48 : decode cX8_copy 48 = .ok (.getfield 7, 3) := by decide +kernel
theorem dX8_copy_51 : decode cX8_copy 51 = .ok (.iload_n 3, 1) := by decide +kernel
theorem dX8_copy_52 : decode cX8_copy 52 = .ok (.iaload, 1) := by decide +kernel
theorem dX8_copy_53 : decode cX8_copy 53 = .ok (.if_icmp .eq 9, 3) := by decide +kernel
theorem dX8_copy_56 : decode cX8_copy 56 = .ok (.aload_n 0, 1) := by decide +kernel
theorem dX8_copy_57 : decode cX8_copy 57 = .ok (.iconst 5, 1) := by decide +kernel
theorem dX8_copy_58 : decode cX8_copy 58 = .ok (.invokevirtual 68, 3) := by decide +kernel
theorem dX8_copy_61 : decode cX8_copy 61 = .ok (.ireturn, 1) := by decide +kernel
theorem dX8_copy_62 : decode cX8_copy 62 = .ok (.iload_n 2, 1) := by decide +kernel
theorem dX8_copy_63 : decode cX8_copy 63 = .ok (.ifCond .lt 48, 3) := by decide +kernel
theorem dX8_copy_66 : decode cX8_copy 66 = .ok (.iload 4, 2) := by decide +kernel
theorem dX8_copy_68 : decode cX8_copy 68 = .ok (.ifCond .lt 43, 3) := by decide +kernel
theorem dX8_copy_71 : decode cX8_copy 71 = .ok (.iload 5, 2) := by decide +kernel
theorem dX8_copy_73 : decode cX8_copy 73 = .ok (.ifCond .lt 38, 3) := by decide +kernel
theorem dX8_copy_76 : decode cX8_copy 76 = .ok (.iload_n 2, 1) := by decide +kernel
theorem dX8_copy_77 : decode cX8_copy 77 = .ok (.i2l, 1) := by decide +kernel
theorem dX8_copy_78 : decode cX8_copy 78 = .ok (.iload 5, 2) := by decide +kernel
theorem dX8_copy_80 : decode cX8_copy 80 = .ok (.i2l, 1) := by decide +kernel
theorem dX8_copy_81 : decode cX8_copy 81 = .ok (.ladd, 1) := by decide +kernel
theorem dX8_copy_82 : decode cX8_copy 82 = .ok (.aload_n 0, 1) := by decide +kernel
theorem dX8_copy_83 : decode cX8_copy 83 = .ok (.getfield 13, 3) := by decide +kernel
theorem dX8_copy_86 : decode cX8_copy 86 = .ok (.iload_n 1, 1) := by decide +kernel
theorem dX8_copy_87 : decode cX8_copy 87 = .ok (.iaload, 1) := by decide +kernel
theorem dX8_copy_88 : decode cX8_copy 88 = .ok (.i2l, 1) := by decide +kernel
theorem dX8_copy_89 : decode cX8_copy 89 = .ok (.lcmp, 1) := by decide +kernel
theorem dX8_copy_90 : decode cX8_copy 90 = .ok (.ifCond .gt 21, 3) := by decide +kernel
theorem dX8_copy_93 : decode cX8_copy 93 = .ok (.iload 4, 2) := by decide +kernel
theorem dX8_copy_95 : decode cX8_copy 95 = .ok (.i2l, 1) := by decide +kernel
theorem dX8_copy_96 : decode cX8_copy 96 = .ok (.iload 5, 2) := by decide +kernel
theorem dX8_copy_98 : decode cX8_copy 98 = .ok (.i2l, 1) := by decide +kernel
theorem dX8_copy_99 : decode cX8_copy 99 = .ok (.ladd, 1) := by decide +kernel
theorem dX8_copy_100 : decode cX8_copy 100 = .ok (.aload_n 0, 1) := by decide +kernel
theorem dX8_copy_101 : decode cX8_copy 101 = .ok (.getfield 13, 3) := by decide +kernel
theorem dX8_copy_104 : decode cX8_copy 104 = .ok (.iload_n 3, 1) := by decide +kernel
theorem dX8_copy_105 : decode cX8_copy 105 = .ok (.iaload, 1) := by decide +kernel
theorem dX8_copy_106 : decode cX8_copy 106 = .ok (.i2l, 1) := by decide +kernel
theorem dX8_copy_107 : decode cX8_copy 107 = .ok (.lcmp, 1) := by decide +kernel
theorem dX8_copy_108 : decode cX8_copy 108 = .ok (.ifCond .le 9, 3) := by decide +kernel
theorem dX8_copy_111 : decode cX8_copy 111 = .ok (.aload_n 0, 1) := by decide +kernel
theorem dX8_copy_112 : decode cX8_copy 112 = .ok (.iconst 2, 1) := by decide +kernel
theorem dX8_copy_113 : decode cX8_copy 113 = .ok (.invokevirtual 68, 3) := by decide +kernel
theorem dX8_copy_116 : decode cX8_copy 116 = .ok (.ireturn, 1) := by decide +kernel
theorem dX8_copy_117 : decode cX8_copy 117 = .ok (.iconst 0, 1) := by decide +kernel
theorem dX8_copy_118 : decode cX8_copy 118 = .ok (.istore 6, 2) := by decide +kernel
theorem dX8_copy_120 : decode cX8_copy 120 = .ok (.iload 6, 2) := by decide +kernel
theorem dX8_copy_122 : decode cX8_copy 122 = .ok (.iload 5, 2) := by decide +kernel
theorem dX8_copy_124 : decode cX8_copy 124 = .ok (.if_icmp .ge 58, 3) := by decide +kernel
theorem dX8_copy_127 : decode cX8_copy 127 = .ok (.iload 4, 2) := by decide +kernel
theorem dX8_copy_129 : decode cX8_copy 129 = .ok (.iload_n 2, 1) := by decide +kernel
theorem dX8_copy_130 : decode cX8_copy 130 = .ok (.if_icmp .le 13, 3) := by decide +kernel
theorem dX8_copy_133 : decode cX8_copy 133 = .ok (.iload 5, 2) := by decide +kernel
theorem dX8_copy_135 : decode cX8_copy 135 = .ok (.iconst 1, 1) := by decide +kernel
theorem dX8_copy_136 : decode cX8_copy 136 = .ok (.isub, 1) := by decide +kernel
theorem dX8_copy_137 : decode cX8_copy 137 = .ok (.iload 6, 2) := by decide +kernel
theorem dX8_copy_139 : decode cX8_copy 139 = .ok (.isub, 1) := by decide +kernel
theorem dX8_copy_140 : decode cX8_copy 140 = .ok (.goto 5, 3) := by decide +kernel
theorem dX8_copy_143 : decode cX8_copy 143 = .ok (.iload 6, 2) := by decide +kernel
theorem dX8_copy_145 : decode cX8_copy 145 = .ok (.istore 7, 2) := by decide +kernel
theorem dX8_copy_147 : decode cX8_copy 147 = .ok (.aload_n 0, 1) := by decide +kernel
theorem dX8_copy_148 : decode cX8_copy 148 = .ok (.getfield 16, 3) := by decide +kernel
theorem dX8_copy_151 : decode cX8_copy 151 = .ok (.bipush 40, 2) := by decide +kernel
theorem dX8_copy_153 : decode cX8_copy 153 = .ok (.iload_n 3, 1) := by decide +kernel
theorem dX8_copy_154 : decode cX8_copy 154 = .ok (.imul, 1) := by decide +kernel
theorem dX8_copy_155 : decode cX8_copy 155 = .ok (.iload 4, 2) := by decide +kernel
theorem dX8_copy_157 : decode cX8_copy 157 = .ok (.iadd, 1) := by decide +kernel
theorem dX8_copy_158 : decode cX8_copy 158 = .ok (.iload 7, 2) := by decide +kernel
theorem dX8_copy_160 : decode cX8_copy 160 = .ok (.iadd, 1) := by decide +kernel
theorem dX8_copy_161 : decode cX8_copy 161 = .ok (.aload_n 0, 1) := by decide +kernel
theorem dX8_copy_162 : decode cX8_copy 162 = .ok (.getfield 16, 3) := by decide +kernel
theorem dX8_copy_165 : decode cX8_copy 165 = .ok (.bipush 40, 2) := by decide +kernel
theorem dX8_copy_167 : decode cX8_copy 167 = .ok (.iload_n 1, 1) := by decide +kernel
theorem dX8_copy_168 : decode cX8_copy 168 = .ok (.imul, 1) := by decide +kernel
theorem dX8_copy_169 : decode cX8_copy 169 = .ok (.iload_n 2, 1) := by decide +kernel
theorem dX8_copy_170 : decode cX8_copy 170 = .ok (.iadd, 1) := by decide +kernel
theorem dX8_copy_171 : decode cX8_copy 171 = .ok (.iload 7, 2) := by decide +kernel
theorem dX8_copy_173 : decode cX8_copy 173 = .ok (.iadd, 1) := by decide +kernel
theorem dX8_copy_174 : decode cX8_copy 174 = .ok (.iaload, 1) := by decide +kernel
theorem dX8_copy_175 : decode cX8_copy 175 = .ok (.iastore, 1) := by decide +kernel
theorem dX8_copy_176 : decode cX8_copy 176 = .ok (.iinc 6 1, 3) := by decide +kernel
theorem dX8_copy_179 : decode cX8_copy 179 = .ok (.goto (-59), 3) := by decide +kernel
theorem dX8_copy_182 : decode cX8_copy 182 = .ok (.aload_n 0, 1) := by decide +kernel
theorem dX8_copy_183 : decode cX8_copy 183 = .ok (.iload 5, 2) := by decide +kernel
theorem dX8_copy_185 : decode cX8_copy 185 = .ok (.invokevirtual 72, 3) := by decide +kernel
theorem dX8_copy_188 : decode cX8_copy 188 = .ok (.ireturn, 1) := by decide +kernel
theorem dX8_drop_0 : decode cX8_drop 0 = .ok (.iload_n 1, 1) := by decide +kernel
theorem dX8_drop_1 : decode cX8_drop 1 = .ok (.invokestatic 61, 3) := by decide +kernel
theorem dX8_drop_4 : decode cX8_drop 4 = .ok (.ifCond .ne 6, 3) := by decide +kernel
theorem dX8_drop_7 : decode cX8_drop 7 = .ok (.ldc 67, 2) := by decide +kernel
theorem dX8_drop_9 : decode cX8_drop 9 = .ok (.ireturn, 1) := by decide +kernel
theorem dX8_drop_10 : decode cX8_drop 10 = .ok (.aload_n 0, 1) := by decide +kernel
theorem dX8_drop_11 : decode cX8_drop 11 = .ok (.getfield 13, 3) := by decide +kernel
theorem dX8_drop_14 : decode cX8_drop 14 = .ok (.iload_n 1, 1) := by decide +kernel
theorem dX8_drop_15 : decode cX8_drop 15 = .ok (.iaload, 1) := by decide +kernel
theorem dX8_drop_16 : decode cX8_drop 16 = .ok (.ifCond .ge 9, 3) := by decide +kernel
theorem dX8_drop_19 : decode cX8_drop 19 = .ok (.aload_n 0, 1) := by decide +kernel
theorem dX8_drop_20 : decode cX8_drop 20 = .ok (.iconst 1, 1) := by decide +kernel
theorem dX8_drop_21 : decode cX8_drop 21 = .ok (.invokevirtual 68, 3) := by decide +kernel
theorem dX8_drop_24 : decode cX8_drop 24 = .ok (.ireturn, 1) := by decide +kernel
theorem dX8_drop_25 : decode cX8_drop 25 = .ok (.aload_n 0, 1) := by decide +kernel
theorem dX8_drop_26 : decode cX8_drop 26 = .ok (.getfield 13, 3) := by decide +kernel
theorem dX8_drop_29 : decode cX8_drop 29 = .ok (.iload_n 1, 1) := by decide +kernel
theorem dX8_drop_30 : decode cX8_drop 30 = .ok (.iaload, 1) := by decide +kernel
theorem dX8_drop_31 : decode cX8_drop 31 = .ok (.istore_n 2, 1) := by decide +kernel
theorem dX8_drop_32 : decode cX8_drop 32 = .ok (.aload_n 0, 1) := by decide +kernel
theorem dX8_drop_33 : decode cX8_drop 33 = .ok (.getfield 13, 3) := by decide +kernel
theorem dX8_drop_36 : decode cX8_drop 36 = .ok (.iload_n 1, 1) := by decide +kernel
theorem dX8_drop_37 : decode cX8_drop 37 = .ok (.iconst (-1), 1) := by decide +kernel
theorem dX8_drop_38 : decode cX8_drop 38 = .ok (.iastore, 1) := by decide +kernel
theorem dX8_drop_39 : decode cX8_drop 39 = .ok (.aload_n 0, 1) := by decide +kernel
theorem dX8_drop_40 : decode cX8_drop 40 = .ok (.iload_n 2, 1) := by decide +kernel
theorem dX8_drop_41 : decode cX8_drop 41 = .ok (.invokevirtual 72, 3) := by decide +kernel
theorem dX8_drop_44 : decode cX8_drop 44 = .ok (.ireturn, 1) := by decide +kernel
theorem dX8_feed_0 : decode cX8_feed 0 = .ok (.iload_n 1, 1) := by decide +kernel
theorem dX8_feed_1 : decode cX8_feed 1 = .ok (.i2l, 1) := by decide +kernel
theorem dX8_feed_2 : decode cX8_feed 2 = .ok (.lconst 0, 1) := by decide +kernel
theorem dX8_feed_3 : decode cX8_feed 3 = .ok (.ldc2_w 75, 3) := by decide +kernel
theorem dX8_feed_6 : decode cX8_feed 6 = .ok (.invokestatic 57, 3) := by decide +kernel
theorem dX8_feed_9 : decode cX8_feed 9 = .ok (.ifCond .ne 6, 3) := by decide +kernel
theorem dX8_feed_12 : decode cX8_feed 12 = .ok (.ldc 67, 2) := by decide +kernel
theorem dX8_feed_14 : decode cX8_feed 14 = .ok (.ireturn, 1) := by decide +kernel
theorem dX8_feed_15 : decode cX8_feed 15 = .ok (.aload_n 0, 1) := by decide +kernel
theorem dX8_feed_16 : decode cX8_feed 16 = .ok (.getfield 77, 3) := by decide +kernel
theorem dX8_feed_19 : decode cX8_feed 19 = .ok (.bipush 100, 2) := by decide +kernel
theorem dX8_feed_21 : decode cX8_feed 21 = .ok (.if_icmp .ne 6, 3) := by decide +kernel
theorem dX8_feed_24 : decode cX8_feed 24 = .ok (.ldc 80, 2) := by decide +kernel
theorem dX8_feed_26 : decode cX8_feed 26 = .ok (.ireturn, 1) := by decide +kernel
theorem dX8_feed_27 : decode cX8_feed 27 = .ok (.aload_n 0, 1) := by decide +kernel
theorem dX8_feed_28 : decode cX8_feed 28 = .ok (.getfield 19, 3) := by decide +kernel
theorem dX8_feed_31 : decode cX8_feed 31 = .ok (.aload_n 0, 1) := by decide +kernel
theorem dX8_feed_32 : decode cX8_feed 32 = .ok (.getfield 77, 3) := by decide +kernel
theorem dX8_feed_35 : decode cX8_feed 35 = .ok (.iload_n 1, 1) := by decide +kernel
theorem dX8_feed_36 : decode cX8_feed 36 = .ok (.iastore, 1) := by decide +kernel
theorem dX8_feed_37 : decode cX8_feed 37 = .ok (.aload_n 0, 1) := by decide +kernel
theorem dX8_feed_38 : decode cX8_feed 38 = .ok (.dup, 1) := by decide +kernel
theorem dX8_feed_39 : decode cX8_feed 39 = .ok (.getfield 77, 3) := by decide +kernel
theorem dX8_feed_42 : decode cX8_feed 42 = .ok (.iconst 1, 1) := by decide +kernel
theorem dX8_feed_43 : decode cX8_feed 43 = .ok (.iadd, 1) := by decide +kernel
theorem dX8_feed_44 : decode cX8_feed 44 = .ok (.putfield 77, 3) := by decide +kernel
theorem dX8_feed_47 : decode cX8_feed 47 = .ok (.aload_n 0, 1) := by decide +kernel
theorem dX8_feed_48 : decode cX8_feed 48 = .ok (.getfield 77, 3) := by decide +kernel
theorem dX8_feed_51 : decode cX8_feed 51 = .ok (.ireturn, 1) := by decide +kernel
theorem dX8_isFigure_0 : decode cX8_isFigure 0 = .ok (.iload_n 0, 1) := by decide +kernel
theorem dX8_isFigure_1 : decode cX8_isFigure 1 = .ok (.i2l, 1) := by decide +kernel
theorem dX8_isFigure_2 : decode cX8_isFigure 2 = .ok (.ldc2_w 81, 3) := by decide +kernel
theorem dX8_isFigure_5 : decode cX8_isFigure 5 = .ok (.ldc2_w 83, 3) := by decide +kernel
theorem dX8_isFigure_8 : decode cX8_isFigure 8 = .ok (.invokestatic 57, 3) := by decide +kernel
theorem dX8_isFigure_11 : decode cX8_isFigure 11 = .ok (.ireturn, 1) := by decide +kernel
theorem dX8_next_0 : decode cX8_next 0 = .ok (.aload_n 0, 1) := by decide +kernel
theorem dX8_next_1 : decode cX8_next 1 = .ok (.aload_n 0, 1) := by decide +kernel
theorem dX8_next_2 : decode cX8_next 2 = .ok (.getfield 85, 3) := by decide +kernel
theorem dX8_next_5 : decode cX8_next 5 = .ok (.putfield 88, 3) := by decide +kernel
theorem dX8_next_8 : decode cX8_next 8 = .ok (.aload_n 0, 1) := by decide +kernel
theorem dX8_next_9 : decode cX8_next 9 = .ok (.getfield 85, 3) := by decide +kernel
theorem dX8_next_12 : decode cX8_next 12 = .ok (.aload_n 0, 1) := by decide +kernel
theorem dX8_next_13 : decode cX8_next 13 = .ok (.getfield 91, 3) := by decide +kernel
theorem dX8_next_16 : decode cX8_next 16 = .ok (.if_icmp .ge 15, 3) := by decide +kernel
theorem dX8_next_19 : decode cX8_next 19 = .ok (.aload_n 0, 1) := by decide +kernel
theorem dX8_next_20 : decode cX8_next 20 = .ok (.getfield 19, 3) := by decide +kernel
theorem dX8_next_23 : decode cX8_next 23 = .ok (.aload_n 0, 1) := by decide +kernel
theorem dX8_next_24 : decode cX8_next 24 = .ok (.getfield 85, 3) := by decide +kernel
theorem dX8_next_27 : decode cX8_next 27 = .ok (.iaload, 1) := by decide +kernel
theorem dX8_next_28 : decode cX8_next 28 = .ok (.goto 4, 3) := by decide +kernel
theorem dX8_next_31 : decode cX8_next 31 = .ok (.iconst (-1), 1) := by decide +kernel
theorem dX8_next_32 : decode cX8_next 32 = .ok (.istore_n 1, 1) := by decide +kernel
theorem dX8_next_33 : decode cX8_next 33 = .ok (.aload_n 0, 1) := by decide +kernel
theorem dX8_next_34 : decode cX8_next 34 = .ok (.iload_n 1, 1) := by decide +kernel
theorem dX8_next_35 : decode cX8_next 35 = .ok (.ifCond .ge 7, 3) := by decide +kernel
theorem dX8_next_38 : decode cX8_next 38 = .ok (.iconst 0, 1) := by decide +kernel
theorem dX8_next_39 : decode cX8_next 39 = .ok (.goto 53, 3) := by decide +kernel
theorem dX8_next_42 : decode cX8_next 42 = .ok (.iload_n 1, 1) := by decide +kernel
theorem dX8_next_43 : decode cX8_next 43 = .ok (.i2l, 1) := by decide +kernel
theorem dX8_next_44 : decode cX8_next 44 = .ok (.ldc2_w 94, 3) := by decide +kernel
theorem dX8_next_47 : decode cX8_next 47 = .ok (.ldc2_w 96, 3) := by decide +kernel
theorem dX8_next_50 : decode cX8_next 50 = .ok (.invokestatic 57, 3) := by decide +kernel
theorem dX8_next_53 : decode cX8_next 53 = .ok (.ifCond .eq 7, 3) := by decide +kernel
theorem dX8_next_56 : decode cX8_next 56 = .ok (.iconst 1, 1) := by decide +kernel
theorem dX8_next_57 : decode cX8_next 57 = .ok (.goto 35, 3) := by decide +kernel
theorem dX8_next_60 : decode cX8_next 60 = .ok (.iload_n 1, 1) := by decide +kernel
theorem dX8_next_61 : decode cX8_next 61 = .ok (.invokestatic 98, 3) := by decide +kernel
theorem dX8_next_64 : decode cX8_next 64 = .ok (.ifCond .eq 7, 3) := by decide +kernel
theorem dX8_next_67 : decode cX8_next 67 = .ok (.iconst 2, 1) := by decide +kernel
theorem dX8_next_68 : decode cX8_next 68 = .ok (.goto 24, 3) := by decide +kernel
theorem dX8_next_71 : decode cX8_next 71 = .ok (.iload_n 1, 1) := by decide +kernel
theorem dX8_next_72 : decode cX8_next 72 = .ok (.bipush 44, 2) := by decide +kernel
theorem dX8_next_74 : decode cX8_next 74 = .ok (.if_icmp .ne 7, 3) := by decide +kernel
theorem dX8_next_77 : decode cX8_next 77 = .ok (.iconst 3, 1) := by decide +kernel
theorem dX8_next_78 : decode cX8_next 78 = .ok (.goto 14, 3) := by decide +kernel
theorem dX8_next_81 : decode cX8_next 81 = .ok (.iload_n 1, 1) := by decide +kernel
theorem dX8_next_82 : decode cX8_next 82 = .ok (.bipush 59, 2) := by decide +kernel
theorem dX8_next_84 : decode cX8_next 84 = .ok (.if_icmp .ne 7, 3) := by decide +kernel
theorem dX8_next_87 : decode cX8_next 87 = .ok (.iconst 4, 1) := by decide +kernel
theorem dX8_next_88 : decode cX8_next 88 = .ok (.goto 4, 3) := by decide +kernel
theorem dX8_next_91 : decode cX8_next 91 = .ok (.iconst 5, 1) := by decide +kernel
theorem dX8_next_92 : decode cX8_next 92 = .ok (.putfield 101, 3) := by decide +kernel
theorem dX8_next_95 : decode cX8_next 95 = .ok (.aload_n 0, 1) := by decide +kernel
theorem dX8_next_96 : decode cX8_next 96 = .ok (.aload_n 0, 1) := by decide +kernel
theorem dX8_next_97 : decode cX8_next 97 = .ok (.getfield 101, 3) := by decide +kernel
theorem dX8_next_100 : decode cX8_next 100 = .ok (.iconst 1, 1) := by decide +kernel
theorem dX8_next_101 : decode cX8_next 101 = .ok (.if_icmp .ne 7, 3) := by decide +kernel
theorem dX8_next_104 : decode cX8_next 104 = .ok (.iload_n 1, 1) := by decide +kernel
theorem dX8_next_105 : decode cX8_next 105 = .ok (.goto 4, 3) := by decide +kernel
theorem dX8_next_108 : decode cX8_next 108 = .ok (.iconst 0, 1) := by decide +kernel
theorem dX8_next_109 : decode cX8_next 109 = .ok (.putfield 104, 3) := by decide +kernel
theorem dX8_next_112 : decode cX8_next 112 = .ok (.aload_n 0, 1) := by decide +kernel
theorem dX8_next_113 : decode cX8_next 113 = .ok (.dup, 1) := by decide +kernel
theorem dX8_next_114 : decode cX8_next 114 = .ok (.getfield 85, 3) := by decide +kernel
theorem dX8_next_117 : decode cX8_next 117 = .ok (.aload_n 0, 1) := by decide +kernel
theorem dX8_next_118 : decode cX8_next 118 = .ok (.getfield 101, 3) := by decide +kernel
theorem dX8_next_121 : decode cX8_next 121 = .ok (.ifCond .le 15, 3) := by decide +kernel
theorem dX8_next_124 : decode cX8_next 124 = .ok (.aload_n 0, 1) := by decide +kernel
theorem dX8_next_125 : decode cX8_next 125 = .ok (.getfield 101, 3) := by decide +kernel
theorem dX8_next_128 : decode cX8_next 128 = .ok (.iconst 2, 1) := by decide +kernel
theorem dX8_next_129 : decode cX8_next 129 = .ok (.if_icmp .eq 7, 3) := by decide +kernel
theorem dX8_next_132 : decode cX8_next 132 = .ok (.iconst 1, 1) := by decide +kernel
theorem dX8_next_133 : decode cX8_next 133 = .ok (.goto 4, 3) := by decide +kernel
theorem dX8_next_136 : decode cX8_next 136 = .ok (.iconst 0, 1) := by decide +kernel
theorem dX8_next_137 : decode cX8_next 137 = .ok (.iadd, 1) := by decide +kernel
theorem dX8_next_138 : decode cX8_next 138 = .ok (.putfield 85, 3) := by decide +kernel
theorem dX8_next_141 : decode cX8_next 141 = .ok (.aload_n 0, 1) := by decide +kernel
theorem dX8_next_142 : decode cX8_next 142 = .ok (.getfield 101, 3) := by decide +kernel
theorem dX8_next_145 : decode cX8_next 145 = .ok (.iconst 2, 1) := by decide +kernel
theorem dX8_next_146 : decode cX8_next 146 = .ok (.if_icmp .ne 86, 3) := by decide +kernel
theorem dX8_next_149 : decode cX8_next 149 = .ok (.aload_n 0, 1) := by decide +kernel
theorem dX8_next_150 : decode cX8_next 150 = .ok (.getfield 85, 3) := by decide +kernel
theorem dX8_next_153 : decode cX8_next 153 = .ok (.aload_n 0, 1) := by decide +kernel
theorem dX8_next_154 : decode cX8_next 154 = .ok (.getfield 91, 3) := by decide +kernel
theorem dX8_next_157 : decode cX8_next 157 = .ok (.if_icmp .ge 75, 3) := by decide +kernel
theorem dX8_next_160 : decode cX8_next 160 = .ok (.aload_n 0, 1) := by decide +kernel
theorem dX8_next_161 : decode cX8_next 161 = .ok (.getfield 19, 3) := by decide +kernel
theorem dX8_next_164 : decode cX8_next 164 = .ok (.aload_n 0, 1) := by decide +kernel
theorem dX8_next_165 : decode cX8_next 165 = .ok (.getfield 85, 3) := by decide +kernel
theorem dX8_next_168 : decode cX8_next 168 = .ok (.iaload, 1) := by decide +kernel
theorem dX8_next_169 : decode cX8_next 169 = .ok (.invokestatic 98, 3) := by decide +kernel
theorem dX8_next_172 : decode cX8_next 172 = .ok (.ifCond .eq 60, 3) := by decide +kernel
theorem dX8_next_175 : decode cX8_next 175 = .ok (.aload_n 0, 1) := by decide +kernel
theorem dX8_next_176 : decode cX8_next 176 = .ok (.aload_n 0, 1) := by decide +kernel
theorem dX8_next_177 : decode cX8_next 177 = .ok (.getfield 85, 3) := by decide +kernel
theorem dX8_next_180 : decode cX8_next 180 = .ok (.aload_n 0, 1) := by decide +kernel
theorem dX8_next_181 : decode cX8_next 181 = .ok (.getfield 88, 3) := by decide +kernel
theorem dX8_next_184 : decode cX8_next 184 = .ok (.isub, 1) := by decide +kernel
theorem dX8_next_185 : decode cX8_next 185 = .ok (.iconst 2, 1) := by decide +kernel
theorem dX8_next_186 : decode cX8_next 186 = .ok (.if_icmp .ge 26, 3) := by decide +kernel
theorem dX8_next_189 : decode cX8_next 189 = .ok (.bipush 10, 2) := by decide +kernel
theorem dX8_next_191 : decode cX8_next 191 = .ok (.aload_n 0, 1) := by decide +kernel
theorem dX8_next_192 : decode cX8_next 192 = .ok (.getfield 104, 3) := by decide +kernel
theorem dX8_next_195 : decode cX8_next 195 = .ok (.imul, 1) := by decide +kernel
theorem dX8_next_196 : decode cX8_next 196 = .ok (.aload_n 0, 1) := by decide +kernel
theorem dX8_next_197 : decode cX8_next 197 = .ok (.getfield 19, 3) := by decide +kernel
theorem dX8_next_200 : decode cX8_next 200 = .ok (.aload_n 0, 1) := by decide +kernel
theorem dX8_next_201 : decode cX8_next 201 = .ok (.getfield 85, 3) := by decide +kernel
theorem dX8_next_204 : decode cX8_next 204 = .ok (.iaload, 1) := by decide +kernel
theorem dX8_next_205 : decode cX8_next 205 = .ok (.iadd, 1) := by decide +kernel
theorem dX8_next_206 : decode cX8_next 206 = .ok (.bipush 48, 2) := by decide +kernel
theorem dX8_next_208 : decode cX8_next 208 = .ok (.isub, 1) := by decide +kernel
theorem dX8_next_209 : decode cX8_next 209 = .ok (.goto 7, 3) := by decide +kernel
theorem dX8_next_212 : decode cX8_next 212 = .ok (.aload_n 0, 1) := by decide +kernel
theorem dX8_next_213 : decode cX8_next 213 = .ok (.getfield 104, 3) := by decide +kernel
theorem dX8_next_216 : decode cX8_next 216 = .ok (.putfield 104, 3) := by decide +kernel
theorem dX8_next_219 : decode cX8_next 219 = .ok (.aload_n 0, 1) := by decide +kernel
theorem dX8_next_220 : decode cX8_next 220 = .ok (.dup, 1) := by decide +kernel
theorem dX8_next_221 : decode cX8_next 221 = .ok (.getfield 85, 3) := by decide +kernel
theorem dX8_next_224 : decode cX8_next 224 = .ok (.iconst 1, 1) := by decide +kernel
theorem dX8_next_225 : decode cX8_next 225 = .ok (.iadd, 1) := by decide +kernel
theorem dX8_next_226 : decode cX8_next 226 = .ok (.putfield 85, 3) := by decide +kernel
theorem dX8_next_229 : decode cX8_next 229 = .ok (.goto (-88), 3) := by decide +kernel
theorem dX8_next_232 : decode cX8_next 232 = .ok (.aload_n 0, 1) := by decide +kernel
theorem dX8_next_233 : decode cX8_next 233 = .ok (.aload_n 0, 1) := by decide +kernel
theorem dX8_next_234 : decode cX8_next 234 = .ok (.getfield 101, 3) := by decide +kernel
theorem dX8_next_237 : decode cX8_next 237 = .ok (.iconst 2, 1) := by decide +kernel
theorem dX8_next_238 : decode cX8_next 238 = .ok (.if_icmp .ne 20, 3) := by decide +kernel
theorem dX8_next_241 : decode cX8_next 241 = .ok (.aload_n 0, 1) := by decide +kernel
theorem dX8_next_242 : decode cX8_next 242 = .ok (.getfield 85, 3) := by decide +kernel
theorem dX8_next_245 : decode cX8_next 245 = .ok (.aload_n 0, 1) := by decide +kernel
theorem dX8_next_246 : decode cX8_next 246 = .ok (.getfield 88, 3) := by decide +kernel
theorem dX8_next_249 : decode cX8_next 249 = .ok (.isub, 1) := by decide +kernel
theorem dX8_next_250 : decode cX8_next 250 = .ok (.iconst 2, 1) := by decide +kernel
theorem dX8_next_251 : decode cX8_next 251 = .ok (.if_icmp .le 7, 3) := by decide +kernel
theorem dX8_next_254 : decode cX8_next 254 = .ok (.iconst 5, 1) := by decide +kernel
theorem dX8_next_255 : decode cX8_next 255 = .ok (.goto 7, 3) := by decide +kernel
theorem dX8_next_258 : decode cX8_next 258 = .ok (.aload_n 0, 1) := by decide +kernel
theorem dX8_next_259 : decode cX8_next 259 = .ok (.getfield 101, 3) := by decide +kernel
theorem dX8_next_262 : decode cX8_next 262 = .ok (.putfield 101, 3) := by decide +kernel
theorem dX8_next_265 : decode cX8_next 265 = .ok (.return_, 1) := by decide +kernel
theorem dX8_fails_0 : decode cX8_fails 0 = .ok (.aload_n 0, 1) := by decide +kernel
theorem dX8_fails_1 : decode cX8_fails 1 = .ok (.iload_n 1, 1) := by decide +kernel
theorem dX8_fails_2 : decode cX8_fails 2 = .ok (.putfield 107, 3) := by decide +kernel
theorem dX8_fails_5 : decode cX8_fails 5 = .ok (.iconst 0, 1) := by decide +kernel
theorem dX8_fails_6 : decode cX8_fails 6 = .ok (.ireturn, 1) := by decide +kernel
theorem dX8_number_0 : decode cX8_number 0 = .ok (.aload_n 0, 1) := by decide +kernel
theorem dX8_number_1 : decode cX8_number 1 = .ok (.invokevirtual 110, 3) := by decide +kernel
theorem dX8_number_4 : decode cX8_number 4 = .ok (.aload_n 0, 1) := by decide +kernel
theorem dX8_number_5 : decode cX8_number 5 = .ok (.getfield 101, 3) := by decide +kernel
theorem dX8_number_8 : decode cX8_number 8 = .ok (.iconst 2, 1) := by decide +kernel
theorem dX8_number_9 : decode cX8_number 9 = .ok (.if_icmp .eq 9, 3) := by decide +kernel
theorem dX8_number_12 : decode cX8_number 12 = .ok (.aload_n 0, 1) := by decide +kernel
theorem dX8_number_13 : decode cX8_number 13 = .ok (.iconst 1, 1) := by decide +kernel
theorem dX8_number_14 : decode cX8_number 14 = .ok (.invokevirtual 113, 3) := by decide +kernel
theorem dX8_number_17 : decode cX8_number 17 = .ok (.ireturn, 1) := by decide +kernel
theorem dX8_number_18 : decode cX8_number 18 = .ok (.aload_n 0, 1) := by decide +kernel
theorem dX8_number_19 : decode cX8_number 19 = .ok (.getfield 104, 3) := by decide +kernel
theorem dX8_number_22 : decode cX8_number 22 = .ok (.i2l, 1) := by decide +kernel
theorem dX8_number_23 : decode cX8_number 23 = .ok (.lconst 0, 1) := by decide +kernel
theorem dX8_number_24 : decode cX8_number 24 = .ok (.iload_n 2, 1) := by decide +kernel
theorem dX8_number_25 : decode cX8_number 25 = .ok (.i2l, 1) := by decide +kernel
theorem dX8_number_26 : decode cX8_number 26 = .ok (.invokestatic 57, 3) := by decide +kernel
theorem dX8_number_29 : decode cX8_number 29 = .ok (.ifCond .ne 9, 3) := by decide +kernel
theorem dX8_number_32 : decode cX8_number 32 = .ok (.aload_n 0, 1) := by decide +kernel
theorem dX8_number_33 : decode cX8_number 33 = .ok (.iconst 2, 1) := by decide +kernel
theorem dX8_number_34 : decode cX8_number 34 = .ok (.invokevirtual 113, 3) := by decide +kernel
theorem dX8_number_37 : decode cX8_number 37 = .ok (.ireturn, 1) := by decide +kernel
theorem dX8_number_38 : decode cX8_number 38 = .ok (.aload_n 0, 1) := by decide +kernel
theorem dX8_number_39 : decode cX8_number 39 = .ok (.getfield 38, 3) := by decide +kernel
theorem dX8_number_42 : decode cX8_number 42 = .ok (.iload_n 1, 1) := by decide +kernel
theorem dX8_number_43 : decode cX8_number 43 = .ok (.aload_n 0, 1) := by decide +kernel
theorem dX8_number_44 : decode cX8_number 44 = .ok (.getfield 104, 3) := by decide +kernel
theorem dX8_number_47 : decode cX8_number 47 = .ok (.iastore, 1) := by decide +kernel
theorem dX8_number_48 : decode cX8_number 48 = .ok (.iconst 1, 1) := by decide +kernel
theorem dX8_number_49 : decode cX8_number 49 = .ok (.ireturn, 1) := by decide +kernel
theorem dX8_sign_0 : decode cX8_sign 0 = .ok (.aload_n 0, 1) := by decide +kernel
theorem dX8_sign_1 : decode cX8_sign 1 = .ok (.invokevirtual 110, 3) := by decide +kernel
theorem dX8_sign_4 : decode cX8_sign 4 = .ok (.aload_n 0, 1) := by decide +kernel
theorem dX8_sign_5 : decode cX8_sign 5 = .ok (.getfield 101, 3) := by decide +kernel
theorem dX8_sign_8 : decode cX8_sign 8 = .ok (.iload_n 1, 1) := by decide +kernel
theorem dX8_sign_9 : decode cX8_sign 9 = .ok (.if_icmp .eq 11, 3) := by decide +kernel
theorem dX8_sign_12 : decode cX8_sign 12 = .ok (.aload_n 0, 1) := by decide +kernel
theorem dX8_sign_13 : decode cX8_sign 13 = .ok (.iconst 1, 1) := by decide +kernel
theorem dX8_sign_14 : decode cX8_sign 14 = .ok (.invokevirtual 113, 3) := by decide +kernel
theorem dX8_sign_17 : decode cX8_sign 17 = .ok (.ifCond .eq 7, 3) := by decide +kernel
theorem dX8_sign_20 : decode cX8_sign 20 = .ok (.iconst 1, 1) := by decide +kernel
theorem dX8_sign_21 : decode cX8_sign 21 = .ok (.goto 4, 3) := by decide +kernel
theorem dX8_sign_24 : decode cX8_sign 24 = .ok (.iconst 0, 1) := by decide +kernel
theorem dX8_sign_25 : decode cX8_sign 25 = .ok (.ireturn, 1) := by decide +kernel
theorem dX8_readsLaw_0 : decode cX8_readsLaw 0 = .ok (.aload_n 0, 1) := by decide +kernel
theorem dX8_readsLaw_1 : decode cX8_readsLaw 1 = .ok (.invokevirtual 110, 3) := by decide +kernel
theorem dX8_readsLaw_4 : decode cX8_readsLaw 4 = .ok (.aload_n 0, 1) := by decide +kernel
theorem dX8_readsLaw_5 : decode cX8_readsLaw 5 = .ok (.getfield 101, 3) := by decide +kernel
theorem dX8_readsLaw_8 : decode cX8_readsLaw 8 = .ok (.iconst 1, 1) := by decide +kernel
theorem dX8_readsLaw_9 : decode cX8_readsLaw 9 = .ok (.if_icmp .ne 12, 3) := by decide +kernel
theorem dX8_readsLaw_12 : decode cX8_readsLaw 12 = .ok (.aload_n 0, 1) := by decide +kernel
theorem dX8_readsLaw_13 : decode cX8_readsLaw 13 = .ok (.getfield 104, 3) := by decide +kernel
theorem dX8_readsLaw_16 : decode cX8_readsLaw 16 = .ok (.bipush 119, 2) := by decide +kernel
theorem dX8_readsLaw_18 : decode cX8_readsLaw 18 = .ok (.if_icmp .eq 9, 3) := by decide +kernel
theorem dX8_readsLaw_21 : decode cX8_readsLaw 21 = .ok (.aload_n 0, 1) := by decide +kernel
theorem dX8_readsLaw_22 : decode cX8_readsLaw 22 = .ok (.iconst 1, 1) := by decide +kernel
theorem dX8_readsLaw_23 : decode cX8_readsLaw 23 = .ok (.invokevirtual 113, 3) := by decide +kernel
theorem dX8_readsLaw_26 : decode cX8_readsLaw 26 = .ok (.ireturn, 1) := by decide +kernel
theorem dX8_readsLaw_27 : decode cX8_readsLaw 27 = .ok (.iconst 0, 1) := by decide +kernel
theorem dX8_readsLaw_28 : decode cX8_readsLaw 28 = .ok (.istore_n 1, 1) := by decide +kernel
theorem dX8_readsLaw_29 : decode cX8_readsLaw 29 = .ok (.iload_n 1, 1) := by decide +kernel
theorem dX8_readsLaw_30 : decode cX8_readsLaw 30 = .ok (.iconst 4, 1) := by decide +kernel
theorem dX8_readsLaw_31 : decode cX8_readsLaw 31 = .ok (.if_icmp .ge 30, 3) := by decide +kernel
theorem dX8_readsLaw_34 : decode cX8_readsLaw 34 = .ok (.aload_n 0, 1) := by decide +kernel
theorem dX8_readsLaw_35 : decode cX8_readsLaw 35 = .ok (.iconst 0, 1) := by decide +kernel
theorem dX8_readsLaw_36 : decode cX8_readsLaw 36 = .ok (.iload_n 1, 1) := by decide +kernel
theorem dX8_readsLaw_37 : decode cX8_readsLaw 37 = .ok (.iadd, 1) := by decide +kernel
theorem dX8_readsLaw_38 : decode cX8_readsLaw 38 = .ok (.iconst 4, 1) := by decide +kernel
theorem dX8_readsLaw_39 : decode cX8_readsLaw 39 = .ok (.invokevirtual 116, 3) := by decide +kernel
theorem dX8_readsLaw_42 : decode cX8_readsLaw 42 = .ok (.ifCond .eq 11, 3) := by decide +kernel
theorem dX8_readsLaw_45 : decode cX8_readsLaw 45 = .ok (.aload_n 0, 1) := by decide +kernel
theorem dX8_readsLaw_46 : decode cX8_readsLaw 46 = .ok (.iconst 3, 1) := by decide +kernel
theorem dX8_readsLaw_47 : decode cX8_readsLaw 47 = .ok (.invokevirtual 120, 3) := by decide +kernel
theorem dX8_readsLaw_50 : decode cX8_readsLaw 50 = .ok (.ifCond .ne 5, 3) := by decide +kernel
theorem dX8_readsLaw_53 : decode cX8_readsLaw 53 = .ok (.iconst 0, 1) := by decide +kernel
theorem dX8_readsLaw_54 : decode cX8_readsLaw 54 = .ok (.ireturn, 1) := by decide +kernel
theorem dX8_readsLaw_55 : decode cX8_readsLaw 55 = .ok (.iinc 1 1, 3) := by decide +kernel
theorem dX8_readsLaw_58 : decode cX8_readsLaw 58 = .ok (.goto (-29), 3) := by decide +kernel
theorem dX8_readsLaw_61 : decode cX8_readsLaw 61 = .ok (.aload_n 0, 1) := by decide +kernel
theorem dX8_readsLaw_62 : decode cX8_readsLaw 62 = .ok (.iconst 4, 1) := by decide +kernel
theorem dX8_readsLaw_63 : decode cX8_readsLaw 63 = .ok (.iconst 3, 1) := by decide +kernel
theorem dX8_readsLaw_64 : decode cX8_readsLaw 64 = .ok (.invokevirtual 116, 3) := by decide +kernel
theorem dX8_readsLaw_67 : decode cX8_readsLaw 67 = .ok (.ifCond .eq 15, 3) := by decide +kernel
theorem dX8_readsLaw_70 : decode cX8_readsLaw 70 = .ok (.aload_n 0, 1) := by decide +kernel
theorem dX8_readsLaw_71 : decode cX8_readsLaw 71 = .ok (.iconst 4, 1) := by decide +kernel
theorem dX8_readsLaw_72 : decode cX8_readsLaw 72 = .ok (.invokevirtual 120, 3) := by decide +kernel
theorem dX8_readsLaw_75 : decode cX8_readsLaw 75 = .ok (.ifCond .eq 7, 3) := by decide +kernel
theorem dX8_readsLaw_78 : decode cX8_readsLaw 78 = .ok (.iconst 1, 1) := by decide +kernel
theorem dX8_readsLaw_79 : decode cX8_readsLaw 79 = .ok (.goto 4, 3) := by decide +kernel
theorem dX8_readsLaw_82 : decode cX8_readsLaw 82 = .ok (.iconst 0, 1) := by decide +kernel
theorem dX8_readsLaw_83 : decode cX8_readsLaw 83 = .ok (.ireturn, 1) := by decide +kernel
theorem dX8_sortOf_0 : decode cX8_sortOf 0 = .ok (.iload_n 0, 1) := by decide +kernel
theorem dX8_sortOf_1 : decode cX8_sortOf 1 = .ok (.bipush 98, 2) := by decide +kernel
theorem dX8_sortOf_3 : decode cX8_sortOf 3 = .ok (.if_icmp .ne 7, 3) := by decide +kernel
theorem dX8_sortOf_6 : decode cX8_sortOf 6 = .ok (.iconst 1, 1) := by decide +kernel
theorem dX8_sortOf_7 : decode cX8_sortOf 7 = .ok (.goto 44, 3) := by decide +kernel
theorem dX8_sortOf_10 : decode cX8_sortOf 10 = .ok (.iload_n 0, 1) := by decide +kernel
theorem dX8_sortOf_11 : decode cX8_sortOf 11 = .ok (.bipush 102, 2) := by decide +kernel
theorem dX8_sortOf_13 : decode cX8_sortOf 13 = .ok (.if_icmp .ne 7, 3) := by decide +kernel
theorem dX8_sortOf_16 : decode cX8_sortOf 16 = .ok (.iconst 2, 1) := by decide +kernel
theorem dX8_sortOf_17 : decode cX8_sortOf 17 = .ok (.goto 34, 3) := by decide +kernel
theorem dX8_sortOf_20 : decode cX8_sortOf 20 = .ok (.iload_n 0, 1) := by decide +kernel
theorem dX8_sortOf_21 : decode cX8_sortOf 21 = .ok (.bipush 108, 2) := by decide +kernel
theorem dX8_sortOf_23 : decode cX8_sortOf 23 = .ok (.if_icmp .ne 7, 3) := by decide +kernel
theorem dX8_sortOf_26 : decode cX8_sortOf 26 = .ok (.iconst 3, 1) := by decide +kernel
theorem dX8_sortOf_27 : decode cX8_sortOf 27 = .ok (.goto 24, 3) := by decide +kernel
theorem dX8_sortOf_30 : decode cX8_sortOf 30 = .ok (.iload_n 0, 1) := by decide +kernel
theorem dX8_sortOf_31 : decode cX8_sortOf 31 = .ok (.bipush 100, 2) := by decide +kernel
theorem dX8_sortOf_33 : decode cX8_sortOf 33 = .ok (.if_icmp .ne 7, 3) := by decide +kernel
theorem dX8_sortOf_36 : decode cX8_sortOf 36 = .ok (.iconst 4, 1) := by decide +kernel
theorem dX8_sortOf_37 : decode cX8_sortOf 37 = .ok (.goto 14, 3) := by decide +kernel
theorem dX8_sortOf_40 : decode cX8_sortOf 40 = .ok (.iload_n 0, 1) := by decide +kernel
theorem dX8_sortOf_41 : decode cX8_sortOf 41 = .ok (.bipush 97, 2) := by decide +kernel
theorem dX8_sortOf_43 : decode cX8_sortOf 43 = .ok (.if_icmp .ne 7, 3) := by decide +kernel
theorem dX8_sortOf_46 : decode cX8_sortOf 46 = .ok (.iconst 5, 1) := by decide +kernel
theorem dX8_sortOf_47 : decode cX8_sortOf 47 = .ok (.goto 4, 3) := by decide +kernel
theorem dX8_sortOf_50 : decode cX8_sortOf 50 = .ok (.iconst 0, 1) := by decide +kernel
theorem dX8_sortOf_51 : decode cX8_sortOf 51 = .ok (.ireturn, 1) := by decide +kernel
theorem dX8_readsOffice_0 : decode cX8_readsOffice 0 = .ok (.aload_n 0, 1) := by decide +kernel
theorem dX8_readsOffice_1 : decode cX8_readsOffice 1 = .ok (.getfield 101, 3) := by decide +kernel
theorem dX8_readsOffice_4 : decode cX8_readsOffice 4 = .ok (.iconst 1, 1) := by decide +kernel
theorem dX8_readsOffice_5 : decode cX8_readsOffice 5 = .ok (.if_icmp .ne 13, 3) := by decide +kernel
theorem dX8_readsOffice_8 : decode cX8_readsOffice 8 = .ok (.aload_n 0, 1) := by decide +kernel
theorem dX8_readsOffice_9 : decode cX8_readsOffice 9 = .ok (.getfield 104, 3) := by decide +kernel
theorem dX8_readsOffice_12 : decode cX8_readsOffice 12 = .ok (.invokestatic 123, 3) := by decide +kernel
theorem dX8_readsOffice_15 : decode cX8_readsOffice 15 = .ok (.goto 4, 3) := by decide +kernel
theorem dX8_readsOffice_18 : decode cX8_readsOffice 18 = .ok (.iconst 0, 1) := by decide +kernel
theorem dX8_readsOffice_19 : decode cX8_readsOffice 19 = .ok (.istore_n 1, 1) := by decide +kernel
theorem dX8_readsOffice_20 : decode cX8_readsOffice 20 = .ok (.iload_n 1, 1) := by decide +kernel
theorem dX8_readsOffice_21 : decode cX8_readsOffice 21 = .ok (.ifCond .ne 9, 3) := by decide +kernel
theorem dX8_readsOffice_24 : decode cX8_readsOffice 24 = .ok (.aload_n 0, 1) := by decide +kernel
theorem dX8_readsOffice_25 : decode cX8_readsOffice 25 = .ok (.iconst 1, 1) := by decide +kernel
theorem dX8_readsOffice_26 : decode cX8_readsOffice 26 = .ok (.invokevirtual 113, 3) := by decide +kernel
theorem dX8_readsOffice_29 : decode cX8_readsOffice 29 = .ok (.ireturn, 1) := by decide +kernel
theorem dX8_readsOffice_30 : decode cX8_readsOffice 30 = .ok (.aload_n 0, 1) := by decide +kernel
theorem dX8_readsOffice_31 : decode cX8_readsOffice 31 = .ok (.getfield 38, 3) := by decide +kernel
theorem dX8_readsOffice_34 : decode cX8_readsOffice 34 = .ok (.iconst 5, 1) := by decide +kernel
theorem dX8_readsOffice_35 : decode cX8_readsOffice 35 = .ok (.iaload, 1) := by decide +kernel
theorem dX8_readsOffice_36 : decode cX8_readsOffice 36 = .ok (.istore_n 2, 1) := by decide +kernel
theorem dX8_readsOffice_37 : decode cX8_readsOffice 37 = .ok (.iload_n 2, 1) := by decide +kernel
theorem dX8_readsOffice_38 : decode cX8_readsOffice 38 = .ok (.iconst 5, 1) := by decide +kernel
theorem dX8_readsOffice_39 : decode cX8_readsOffice 39 = .ok (.if_icmp .ne 9, 3) := by decide +kernel
theorem dX8_readsOffice_42 : decode cX8_readsOffice 42 = .ok (.aload_n 0, 1) := by decide +kernel
theorem dX8_readsOffice_43 : decode cX8_readsOffice 43 = .ok (.iconst 3, 1) := by decide +kernel
theorem dX8_readsOffice_44 : decode cX8_readsOffice 44 = .ok (.invokevirtual 113, 3) := by decide +kernel
theorem dX8_readsOffice_47 : decode cX8_readsOffice 47 = .ok (.ireturn, 1) := by decide +kernel
theorem dX8_readsOffice_48 : decode cX8_readsOffice 48 = .ok (.aload_n 0, 1) := by decide +kernel
theorem dX8_readsOffice_49 : decode cX8_readsOffice 49 = .ok (.getfield 38, 3) := by decide +kernel
theorem dX8_readsOffice_52 : decode cX8_readsOffice 52 = .ok (.bipush 7, 2) := by decide +kernel
theorem dX8_readsOffice_54 : decode cX8_readsOffice 54 = .ok (.iload_n 2, 1) := by decide +kernel
theorem dX8_readsOffice_55 : decode cX8_readsOffice 55 = .ok (.iadd, 1) := by decide +kernel
theorem dX8_readsOffice_56 : decode cX8_readsOffice 56 = .ok (.iload_n 1, 1) := by decide +kernel
theorem dX8_readsOffice_57 : decode cX8_readsOffice 57 = .ok (.iastore, 1) := by decide +kernel
theorem dX8_readsOffice_58 : decode cX8_readsOffice 58 = .ok (.aload_n 0, 1) := by decide +kernel
theorem dX8_readsOffice_59 : decode cX8_readsOffice 59 = .ok (.getfield 38, 3) := by decide +kernel
theorem dX8_readsOffice_62 : decode cX8_readsOffice 62 = .ok (.iconst 5, 1) := by decide +kernel
theorem dX8_readsOffice_63 : decode cX8_readsOffice 63 = .ok (.dup2, 1) := by decide +kernel
theorem dX8_readsOffice_64 : decode cX8_readsOffice 64 = .ok (.iaload, 1) := by decide +kernel
theorem dX8_readsOffice_65 : decode cX8_readsOffice 65 = .ok (.iconst 1, 1) := by decide +kernel
theorem dX8_readsOffice_66 : decode cX8_readsOffice 66 = .ok (.iadd, 1) := by decide +kernel
theorem dX8_readsOffice_67 : decode cX8_readsOffice 67 = .ok (.iastore, 1) := by decide +kernel
theorem dX8_readsOffice_68 : decode cX8_readsOffice 68 = .ok (.aload_n 0, 1) := by decide +kernel
theorem dX8_readsOffice_69 : decode cX8_readsOffice 69 = .ok (.bipush 12, 2) := by decide +kernel
theorem dX8_readsOffice_71 : decode cX8_readsOffice 71 = .ok (.iload_n 2, 1) := by decide +kernel
theorem dX8_readsOffice_72 : decode cX8_readsOffice 72 = .ok (.iadd, 1) := by decide +kernel
theorem dX8_readsOffice_73 : decode cX8_readsOffice 73 = .ok (.bipush 9, 2) := by decide +kernel
theorem dX8_readsOffice_75 : decode cX8_readsOffice 75 = .ok (.invokevirtual 116, 3) := by decide +kernel
theorem dX8_readsOffice_78 : decode cX8_readsOffice 78 = .ok (.ifCond .eq 57, 3) := by decide +kernel
theorem dX8_readsOffice_81 : decode cX8_readsOffice 81 = .ok (.aload_n 0, 1) := by decide +kernel
theorem dX8_readsOffice_82 : decode cX8_readsOffice 82 = .ok (.iconst 3, 1) := by decide +kernel
theorem dX8_readsOffice_83 : decode cX8_readsOffice 83 = .ok (.invokevirtual 120, 3) := by decide +kernel
theorem dX8_readsOffice_86 : decode cX8_readsOffice 86 = .ok (.ifCond .eq 49, 3) := by decide +kernel
theorem dX8_readsOffice_89 : decode cX8_readsOffice 89 = .ok (.aload_n 0, 1) := by decide +kernel
theorem dX8_readsOffice_90 : decode cX8_readsOffice 90 = .ok (.bipush 17, 2) := by decide +kernel
theorem dX8_readsOffice_92 : decode cX8_readsOffice 92 = .ok (.iload_n 2, 1) := by decide +kernel
theorem dX8_readsOffice_93 : decode cX8_readsOffice 93 = .ok (.iadd, 1) := by decide +kernel
theorem dX8_readsOffice_94 : decode cX8_readsOffice 94 = .ok (.bipush 20, 2) := by decide +kernel
theorem dX8_readsOffice_96 : decode cX8_readsOffice 96 = .ok (.invokevirtual 116, 3) := by decide +kernel
theorem dX8_readsOffice_99 : decode cX8_readsOffice 99 = .ok (.ifCond .eq 36, 3) := by decide +kernel
theorem dX8_readsOffice_102 : decode cX8_readsOffice 102 = .ok (.aload_n 0, 1) := by decide +kernel
theorem dX8_readsOffice_103 : decode cX8_readsOffice 103 = .ok (.iconst 3, 1) := by decide +kernel
theorem dX8_readsOffice_104 : decode cX8_readsOffice 104 = .ok (.invokevirtual 120, 3) := by decide +kernel
theorem dX8_readsOffice_107 : decode cX8_readsOffice 107 = .ok (.ifCond .eq 28, 3) := by decide +kernel
theorem dX8_readsOffice_110 : decode cX8_readsOffice 110 = .ok (.aload_n 0, 1) := by decide +kernel
theorem dX8_readsOffice_111 : decode cX8_readsOffice 111 = .ok (.bipush 22, 2) := by decide +kernel
theorem dX8_readsOffice_113 : decode cX8_readsOffice 113 = .ok (.iload_n 2, 1) := by decide +kernel
theorem dX8_readsOffice_114 : decode cX8_readsOffice 114 = .ok (.iadd, 1) := by decide +kernel
theorem dX8_readsOffice_115 : decode cX8_readsOffice 115 = .ok (.bipush 60, 2) := by decide +kernel
theorem dX8_readsOffice_117 : decode cX8_readsOffice 117 = .ok (.invokevirtual 116, 3) := by decide +kernel
theorem dX8_readsOffice_120 : decode cX8_readsOffice 120 = .ok (.ifCond .eq 15, 3) := by decide +kernel
theorem dX8_readsOffice_123 : decode cX8_readsOffice 123 = .ok (.aload_n 0, 1) := by decide +kernel
theorem dX8_readsOffice_124 : decode cX8_readsOffice 124 = .ok (.iconst 4, 1) := by decide +kernel
theorem dX8_readsOffice_125 : decode cX8_readsOffice 125 = .ok (.invokevirtual 120, 3) := by decide +kernel
theorem dX8_readsOffice_128 : decode cX8_readsOffice 128 = .ok (.ifCond .eq 7, 3) := by decide +kernel
theorem dX8_readsOffice_131 : decode cX8_readsOffice 131 = .ok (.iconst 1, 1) := by decide +kernel
theorem dX8_readsOffice_132 : decode cX8_readsOffice 132 = .ok (.goto 4, 3) := by decide +kernel
theorem dX8_readsOffice_135 : decode cX8_readsOffice 135 = .ok (.iconst 0, 1) := by decide +kernel
theorem dX8_readsOffice_136 : decode cX8_readsOffice 136 = .ok (.ireturn, 1) := by decide +kernel
theorem dX8_reads_0 : decode cX8_reads 0 = .ok (.iconst 0, 1) := by decide +kernel
theorem dX8_reads_1 : decode cX8_reads 1 = .ok (.istore_n 1, 1) := by decide +kernel
theorem dX8_reads_2 : decode cX8_reads 2 = .ok (.iload_n 1, 1) := by decide +kernel
theorem dX8_reads_3 : decode cX8_reads 3 = .ok (.bipush 32, 2) := by decide +kernel
theorem dX8_reads_5 : decode cX8_reads 5 = .ok (.if_icmp .ge 16, 3) := by decide +kernel
theorem dX8_reads_8 : decode cX8_reads 8 = .ok (.aload_n 0, 1) := by decide +kernel
theorem dX8_reads_9 : decode cX8_reads 9 = .ok (.getfield 38, 3) := by decide +kernel
theorem dX8_reads_12 : decode cX8_reads 12 = .ok (.iload_n 1, 1) := by decide +kernel
theorem dX8_reads_13 : decode cX8_reads 13 = .ok (.iconst 0, 1) := by decide +kernel
theorem dX8_reads_14 : decode cX8_reads 14 = .ok (.iastore, 1) := by decide +kernel
theorem dX8_reads_15 : decode cX8_reads 15 = .ok (.iinc 1 1, 3) := by decide +kernel
theorem dX8_reads_18 : decode cX8_reads 18 = .ok (.goto (-16), 3) := by decide +kernel
theorem dX8_reads_21 : decode cX8_reads 21 = .ok (.aload_n 0, 1) := by decide +kernel
theorem dX8_reads_22 : decode cX8_reads 22 = .ok (.iconst 0, 1) := by decide +kernel
theorem dX8_reads_23 : decode cX8_reads 23 = .ok (.putfield 85, 3) := by decide +kernel
theorem dX8_reads_26 : decode cX8_reads 26 = .ok (.aload_n 0, 1) := by decide +kernel
theorem dX8_reads_27 : decode cX8_reads 27 = .ok (.invokevirtual 126, 3) := by decide +kernel
theorem dX8_reads_30 : decode cX8_reads 30 = .ok (.ifCond .ne 5, 3) := by decide +kernel
theorem dX8_reads_33 : decode cX8_reads 33 = .ok (.iconst 0, 1) := by decide +kernel
theorem dX8_reads_34 : decode cX8_reads 34 = .ok (.ireturn, 1) := by decide +kernel
theorem dX8_reads_35 : decode cX8_reads 35 = .ok (.aload_n 0, 1) := by decide +kernel
theorem dX8_reads_36 : decode cX8_reads 36 = .ok (.invokevirtual 110, 3) := by decide +kernel
theorem dX8_reads_39 : decode cX8_reads 39 = .ok (.aload_n 0, 1) := by decide +kernel
theorem dX8_reads_40 : decode cX8_reads 40 = .ok (.getfield 101, 3) := by decide +kernel
theorem dX8_reads_43 : decode cX8_reads 43 = .ok (.ifCond .eq 19, 3) := by decide +kernel
theorem dX8_reads_46 : decode cX8_reads 46 = .ok (.aload_n 0, 1) := by decide +kernel
theorem dX8_reads_47 : decode cX8_reads 47 = .ok (.invokevirtual 130, 3) := by decide +kernel
theorem dX8_reads_50 : decode cX8_reads 50 = .ok (.ifCond .ne 5, 3) := by decide +kernel
theorem dX8_reads_53 : decode cX8_reads 53 = .ok (.iconst 0, 1) := by decide +kernel
theorem dX8_reads_54 : decode cX8_reads 54 = .ok (.ireturn, 1) := by decide +kernel
theorem dX8_reads_55 : decode cX8_reads 55 = .ok (.aload_n 0, 1) := by decide +kernel
theorem dX8_reads_56 : decode cX8_reads 56 = .ok (.invokevirtual 110, 3) := by decide +kernel
theorem dX8_reads_59 : decode cX8_reads 59 = .ok (.goto (-20), 3) := by decide +kernel
theorem dX8_reads_62 : decode cX8_reads 62 = .ok (.aload_n 0, 1) := by decide +kernel
theorem dX8_reads_63 : decode cX8_reads 63 = .ok (.getfield 38, 3) := by decide +kernel
theorem dX8_reads_66 : decode cX8_reads 66 = .ok (.iconst 5, 1) := by decide +kernel
theorem dX8_reads_67 : decode cX8_reads 67 = .ok (.iaload, 1) := by decide +kernel
theorem dX8_reads_68 : decode cX8_reads 68 = .ok (.ifCond .gt 11, 3) := by decide +kernel
theorem dX8_reads_71 : decode cX8_reads 71 = .ok (.aload_n 0, 1) := by decide +kernel
theorem dX8_reads_72 : decode cX8_reads 72 = .ok (.iconst 1, 1) := by decide +kernel
theorem dX8_reads_73 : decode cX8_reads 73 = .ok (.invokevirtual 113, 3) := by decide +kernel
theorem dX8_reads_76 : decode cX8_reads 76 = .ok (.ifCond .eq 7, 3) := by decide +kernel
theorem dX8_reads_79 : decode cX8_reads 79 = .ok (.iconst 1, 1) := by decide +kernel
theorem dX8_reads_80 : decode cX8_reads 80 = .ok (.goto 4, 3) := by decide +kernel
theorem dX8_reads_83 : decode cX8_reads 83 = .ok (.iconst 0, 1) := by decide +kernel
theorem dX8_reads_84 : decode cX8_reads 84 = .ok (.ireturn, 1) := by decide +kernel
theorem dX8_sky_0 : decode cX8_sky 0 = .ok (.aload_n 0, 1) := by decide +kernel
theorem dX8_sky_1 : decode cX8_sky 1 = .ok (.aload_n 0, 1) := by decide +kernel
theorem dX8_sky_2 : decode cX8_sky 2 = .ok (.getfield 77, 3) := by decide +kernel
theorem dX8_sky_5 : decode cX8_sky 5 = .ok (.putfield 91, 3) := by decide +kernel
theorem dX8_sky_8 : decode cX8_sky 8 = .ok (.aload_n 0, 1) := by decide +kernel
theorem dX8_sky_9 : decode cX8_sky 9 = .ok (.iconst 0, 1) := by decide +kernel
theorem dX8_sky_10 : decode cX8_sky 10 = .ok (.putfield 77, 3) := by decide +kernel
theorem dX8_sky_13 : decode cX8_sky 13 = .ok (.aload_n 0, 1) := by decide +kernel
theorem dX8_sky_14 : decode cX8_sky 14 = .ok (.invokevirtual 133, 3) := by decide +kernel
theorem dX8_sky_17 : decode cX8_sky 17 = .ok (.ifCond .ne 11, 3) := by decide +kernel
theorem dX8_sky_20 : decode cX8_sky 20 = .ok (.ldc 136, 2) := by decide +kernel
theorem dX8_sky_22 : decode cX8_sky 22 = .ok (.aload_n 0, 1) := by decide +kernel
theorem dX8_sky_23 : decode cX8_sky 23 = .ok (.getfield 88, 3) := by decide +kernel
theorem dX8_sky_26 : decode cX8_sky 26 = .ok (.isub, 1) := by decide +kernel
theorem dX8_sky_27 : decode cX8_sky 27 = .ok (.ireturn, 1) := by decide +kernel
theorem dX8_sky_28 : decode cX8_sky 28 = .ok (.aload_n 0, 1) := by decide +kernel
theorem dX8_sky_29 : decode cX8_sky 29 = .ok (.iconst 1, 1) := by decide +kernel
theorem dX8_sky_30 : decode cX8_sky 30 = .ok (.putfield 137, 3) := by decide +kernel
theorem dX8_sky_33 : decode cX8_sky 33 = .ok (.aload_n 0, 1) := by decide +kernel
theorem dX8_sky_34 : decode cX8_sky 34 = .ok (.iconst 0, 1) := by decide +kernel
theorem dX8_sky_35 : decode cX8_sky 35 = .ok (.putfield 141, 3) := by decide +kernel
theorem dX8_sky_38 : decode cX8_sky 38 = .ok (.aload_n 0, 1) := by decide +kernel
theorem dX8_sky_39 : decode cX8_sky 39 = .ok (.getfield 38, 3) := by decide +kernel
theorem dX8_sky_42 : decode cX8_sky 42 = .ok (.iconst 0, 1) := by decide +kernel
theorem dX8_sky_43 : decode cX8_sky 43 = .ok (.aload_n 0, 1) := by decide +kernel
theorem dX8_sky_44 : decode cX8_sky 44 = .ok (.getfield 22, 3) := by decide +kernel
theorem dX8_sky_47 : decode cX8_sky 47 = .ok (.iconst 0, 1) := by decide +kernel
theorem dX8_sky_48 : decode cX8_sky 48 = .ok (.invokestatic 144, 3) := by decide +kernel
theorem dX8_sky_51 : decode cX8_sky 51 = .ok (.aload_n 0, 1) := by decide +kernel
theorem dX8_sky_52 : decode cX8_sky 52 = .ok (.getfield 22, 3) := by decide +kernel
theorem dX8_sky_55 : decode cX8_sky 55 = .ok (.iconst 5, 1) := by decide +kernel
theorem dX8_sky_56 : decode cX8_sky 56 = .ok (.iaload, 1) := by decide +kernel
theorem dX8_sky_57 : decode cX8_sky 57 = .ok (.ireturn, 1) := by decide +kernel
theorem dX8_fault_0 : decode cX8_fault 0 = .ok (.aload_n 0, 1) := by decide +kernel
theorem dX8_fault_1 : decode cX8_fault 1 = .ok (.getfield 107, 3) := by decide +kernel
theorem dX8_fault_4 : decode cX8_fault 4 = .ok (.ireturn, 1) := by decide +kernel
theorem dX8_copies_0 : decode cX8_copies 0 = .ok (.iconst 0, 1) := by decide +kernel
theorem dX8_copies_1 : decode cX8_copies 1 = .ok (.istore 4, 2) := by decide +kernel
theorem dX8_copies_3 : decode cX8_copies 3 = .ok (.iload 4, 2) := by decide +kernel
theorem dX8_copies_5 : decode cX8_copies 5 = .ok (.bipush 32, 2) := by decide +kernel
theorem dX8_copies_7 : decode cX8_copies 7 = .ok (.if_icmp .ge 21, 3) := by decide +kernel
theorem dX8_copies_10 : decode cX8_copies 10 = .ok (.aload_n 2, 1) := by decide +kernel
theorem dX8_copies_11 : decode cX8_copies 11 = .ok (.iload_n 3, 1) := by decide +kernel
theorem dX8_copies_12 : decode cX8_copies 12 = .ok (.iload 4, 2) := by decide +kernel
theorem dX8_copies_14 : decode cX8_copies 14 = .ok (.iadd, 1) := by decide +kernel
theorem dX8_copies_15 : decode cX8_copies 15 = .ok (.aload_n 0, 1) := by decide +kernel
theorem dX8_copies_16 : decode cX8_copies 16 = .ok (.iload_n 1, 1) := by decide +kernel
theorem dX8_copies_17 : decode cX8_copies 17 = .ok (.iload 4, 2) := by decide +kernel
theorem dX8_copies_19 : decode cX8_copies 19 = .ok (.iadd, 1) := by decide +kernel
theorem dX8_copies_20 : decode cX8_copies 20 = .ok (.iaload, 1) := by decide +kernel
theorem dX8_copies_21 : decode cX8_copies 21 = .ok (.iastore, 1) := by decide +kernel
theorem dX8_copies_22 : decode cX8_copies 22 = .ok (.iinc 4 1, 3) := by decide +kernel
theorem dX8_copies_25 : decode cX8_copies 25 = .ok (.goto (-22), 3) := by decide +kernel
theorem dX8_copies_28 : decode cX8_copies 28 = .ok (.return_, 1) := by decide +kernel
theorem dX8_isOffice_0 : decode cX8_isOffice 0 = .ok (.iload_n 1, 1) := by decide +kernel
theorem dX8_isOffice_1 : decode cX8_isOffice 1 = .ok (.i2l, 1) := by decide +kernel
theorem dX8_isOffice_2 : decode cX8_isOffice 2 = .ok (.lconst 0, 1) := by decide +kernel
theorem dX8_isOffice_3 : decode cX8_isOffice 3 = .ok (.aload_n 0, 1) := by decide +kernel
theorem dX8_isOffice_4 : decode cX8_isOffice 4 = .ok (.getfield 22, 3) := by decide +kernel
theorem dX8_isOffice_7 : decode cX8_isOffice 7 = .ok (.iconst 5, 1) := by decide +kernel
theorem dX8_isOffice_8 : decode cX8_isOffice 8 = .ok (.iaload, 1) := by decide +kernel
theorem dX8_isOffice_9 : decode cX8_isOffice 9 = .ok (.iconst 1, 1) := by decide +kernel
theorem dX8_isOffice_10 : decode cX8_isOffice 10 = .ok (.isub, 1) := by decide +kernel
theorem dX8_isOffice_11 : decode cX8_isOffice 11 = .ok (.i2l, 1) := by decide +kernel
theorem dX8_isOffice_12 : decode cX8_isOffice 12 = .ok (.invokestatic 57, 3) := by decide +kernel
theorem dX8_isOffice_15 : decode cX8_isOffice 15 = .ok (.ireturn, 1) := by decide +kernel
theorem dX8_isLand_0 : decode cX8_isLand 0 = .ok (.iload_n 0, 1) := by decide +kernel
theorem dX8_isLand_1 : decode cX8_isLand 1 = .ok (.i2l, 1) := by decide +kernel
theorem dX8_isLand_2 : decode cX8_isLand 2 = .ok (.lconst 0, 1) := by decide +kernel
theorem dX8_isLand_3 : decode cX8_isLand 3 = .ok (.ldc2_w 148, 3) := by decide +kernel
theorem dX8_isLand_6 : decode cX8_isLand 6 = .ok (.invokestatic 57, 3) := by decide +kernel
theorem dX8_isLand_9 : decode cX8_isLand 9 = .ok (.ireturn, 1) := by decide +kernel
theorem dX8_isTwo_0 : decode cX8_isTwo 0 = .ok (.iload_n 0, 1) := by decide +kernel
theorem dX8_isTwo_1 : decode cX8_isTwo 1 = .ok (.i2l, 1) := by decide +kernel
theorem dX8_isTwo_2 : decode cX8_isTwo 2 = .ok (.lconst 0, 1) := by decide +kernel
theorem dX8_isTwo_3 : decode cX8_isTwo 3 = .ok (.lconst 1, 1) := by decide +kernel
theorem dX8_isTwo_4 : decode cX8_isTwo 4 = .ok (.invokestatic 57, 3) := by decide +kernel
theorem dX8_isTwo_7 : decode cX8_isTwo 7 = .ok (.ireturn, 1) := by decide +kernel
theorem dX8_bandOf_0 : decode cX8_bandOf 0 = .ok (.iload_n 0, 1) := by decide +kernel
theorem dX8_bandOf_1 : decode cX8_bandOf 1 = .ok (.bipush 6, 2) := by decide +kernel
theorem dX8_bandOf_3 : decode cX8_bandOf 3 = .ok (.if_icmp .ge 7, 3) := by decide +kernel
theorem dX8_bandOf_6 : decode cX8_bandOf 6 = .ok (.iconst 0, 1) := by decide +kernel
theorem dX8_bandOf_7 : decode cX8_bandOf 7 = .ok (.goto 24, 3) := by decide +kernel
theorem dX8_bandOf_10 : decode cX8_bandOf 10 = .ok (.iload_n 0, 1) := by decide +kernel
theorem dX8_bandOf_11 : decode cX8_bandOf 11 = .ok (.bipush 11, 2) := by decide +kernel
theorem dX8_bandOf_13 : decode cX8_bandOf 13 = .ok (.if_icmp .ge 7, 3) := by decide +kernel
theorem dX8_bandOf_16 : decode cX8_bandOf 16 = .ok (.iconst 1, 1) := by decide +kernel
theorem dX8_bandOf_17 : decode cX8_bandOf 17 = .ok (.goto 14, 3) := by decide +kernel
theorem dX8_bandOf_20 : decode cX8_bandOf 20 = .ok (.iload_n 0, 1) := by decide +kernel
theorem dX8_bandOf_21 : decode cX8_bandOf 21 = .ok (.bipush 16, 2) := by decide +kernel
theorem dX8_bandOf_23 : decode cX8_bandOf 23 = .ok (.if_icmp .ge 7, 3) := by decide +kernel
theorem dX8_bandOf_26 : decode cX8_bandOf 26 = .ok (.iconst 2, 1) := by decide +kernel
theorem dX8_bandOf_27 : decode cX8_bandOf 27 = .ok (.goto 4, 3) := by decide +kernel
theorem dX8_bandOf_30 : decode cX8_bandOf 30 = .ok (.iconst 3, 1) := by decide +kernel
theorem dX8_bandOf_31 : decode cX8_bandOf 31 = .ok (.ireturn, 1) := by decide +kernel
theorem dX8_liftOf_0 : decode cX8_liftOf 0 = .ok (.iload_n 0, 1) := by decide +kernel
theorem dX8_liftOf_1 : decode cX8_liftOf 1 = .ok (.tableswitch 50 1 5 #[35, 50, 37, 50, 39], 35) := by decide +kernel
theorem dX8_liftOf_36 : decode cX8_liftOf 36 = .ok (.iconst 2, 1) := by decide +kernel
theorem dX8_liftOf_37 : decode cX8_liftOf 37 = .ok (.ireturn, 1) := by decide +kernel
theorem dX8_liftOf_38 : decode cX8_liftOf 38 = .ok (.iconst 3, 1) := by decide +kernel
theorem dX8_liftOf_39 : decode cX8_liftOf 39 = .ok (.ireturn, 1) := by decide +kernel
theorem dX8_liftOf_40 : decode cX8_liftOf 40 = .ok (.iload_n 1, 1) := by decide +kernel
theorem dX8_liftOf_41 : decode cX8_liftOf 41 = .ok (.iconst 5, 1) := by decide +kernel
theorem dX8_liftOf_42 : decode cX8_liftOf 42 = .ok (.if_icmp .le 7, 3) := by decide +kernel
theorem dX8_liftOf_45 : decode cX8_liftOf 45 = .ok (.iconst 0, 1) := by decide +kernel
theorem dX8_liftOf_46 : decode cX8_liftOf 46 = .ok (.goto 4, 3) := by decide +kernel
theorem dX8_liftOf_49 : decode cX8_liftOf 49 = .ok (.iconst 1, 1) := by decide +kernel
theorem dX8_liftOf_50 : decode cX8_liftOf 50 = .ok (.ireturn, 1) := by decide +kernel
theorem dX8_liftOf_51 : decode cX8_liftOf 51 = .ok (.iconst 1, 1) := by decide +kernel
theorem dX8_liftOf_52 : decode cX8_liftOf 52 = .ok (.ireturn, 1) := by decide +kernel
theorem dX8_lifted_0 : decode cX8_lifted 0 = .ok (.iload_n 1, 1) := by decide +kernel
theorem dX8_lifted_1 : decode cX8_lifted 1 = .ok (.istore_n 3, 1) := by decide +kernel
theorem dX8_lifted_2 : decode cX8_lifted 2 = .ok (.iconst 0, 1) := by decide +kernel
theorem dX8_lifted_3 : decode cX8_lifted 3 = .ok (.istore 4, 2) := by decide +kernel
theorem dX8_lifted_5 : decode cX8_lifted 5 = .ok (.iload 4, 2) := by decide +kernel
theorem dX8_lifted_7 : decode cX8_lifted 7 = .ok (.iload_n 2, 1) := by decide +kernel
theorem dX8_lifted_8 : decode cX8_lifted 8 = .ok (.if_icmp .ge 30, 3) := by decide +kernel
theorem dX8_lifted_11 : decode cX8_lifted 11 = .ok (.iload_n 3, 1) := by decide +kernel
theorem dX8_lifted_12 : decode cX8_lifted 12 = .ok (.iload_n 0, 1) := by decide +kernel
theorem dX8_lifted_13 : decode cX8_lifted 13 = .ok (.iload_n 3, 1) := by decide +kernel
theorem dX8_lifted_14 : decode cX8_lifted 14 = .ok (.invokestatic 150, 3) := by decide +kernel
theorem dX8_lifted_17 : decode cX8_lifted 17 = .ok (.iadd, 1) := by decide +kernel
theorem dX8_lifted_18 : decode cX8_lifted 18 = .ok (.istore_n 3, 1) := by decide +kernel
theorem dX8_lifted_19 : decode cX8_lifted 19 = .ok (.iload_n 3, 1) := by decide +kernel
theorem dX8_lifted_20 : decode cX8_lifted 20 = .ok (.bipush 20, 2) := by decide +kernel
theorem dX8_lifted_22 : decode cX8_lifted 22 = .ok (.if_icmp .le 8, 3) := by decide +kernel
theorem dX8_lifted_25 : decode cX8_lifted 25 = .ok (.bipush 20, 2) := by decide +kernel
theorem dX8_lifted_27 : decode cX8_lifted 27 = .ok (.goto 4, 3) := by decide +kernel
theorem dX8_lifted_30 : decode cX8_lifted 30 = .ok (.iload_n 3, 1) := by decide +kernel
theorem dX8_lifted_31 : decode cX8_lifted 31 = .ok (.istore_n 3, 1) := by decide +kernel
theorem dX8_lifted_32 : decode cX8_lifted 32 = .ok (.iinc 4 1, 3) := by decide +kernel
theorem dX8_lifted_35 : decode cX8_lifted 35 = .ok (.goto (-30), 3) := by decide +kernel
theorem dX8_lifted_38 : decode cX8_lifted 38 = .ok (.iload_n 3, 1) := by decide +kernel
theorem dX8_lifted_39 : decode cX8_lifted 39 = .ok (.ireturn, 1) := by decide +kernel
theorem dX8_sunk_0 : decode cX8_sunk 0 = .ok (.iload_n 1, 1) := by decide +kernel
theorem dX8_sunk_1 : decode cX8_sunk 1 = .ok (.aload_n 0, 1) := by decide +kernel
theorem dX8_sunk_2 : decode cX8_sunk 2 = .ok (.iconst 4, 1) := by decide +kernel
theorem dX8_sunk_3 : decode cX8_sunk 3 = .ok (.iaload, 1) := by decide +kernel
theorem dX8_sunk_4 : decode cX8_sunk 4 = .ok (.if_icmp .le 11, 3) := by decide +kernel
theorem dX8_sunk_7 : decode cX8_sunk 7 = .ok (.iload_n 1, 1) := by decide +kernel
theorem dX8_sunk_8 : decode cX8_sunk 8 = .ok (.aload_n 0, 1) := by decide +kernel
theorem dX8_sunk_9 : decode cX8_sunk 9 = .ok (.iconst 4, 1) := by decide +kernel
theorem dX8_sunk_10 : decode cX8_sunk 10 = .ok (.iaload, 1) := by decide +kernel
theorem dX8_sunk_11 : decode cX8_sunk 11 = .ok (.isub, 1) := by decide +kernel
theorem dX8_sunk_12 : decode cX8_sunk 12 = .ok (.goto 4, 3) := by decide +kernel
theorem dX8_sunk_15 : decode cX8_sunk 15 = .ok (.iconst 0, 1) := by decide +kernel
theorem dX8_sunk_16 : decode cX8_sunk 16 = .ok (.ireturn, 1) := by decide +kernel
theorem dX8_carried_0 : decode cX8_carried 0 = .ok (.iload_n 2, 1) := by decide +kernel
theorem dX8_carried_1 : decode cX8_carried 1 = .ok (.ifCond .ne 7, 3) := by decide +kernel
theorem dX8_carried_4 : decode cX8_carried 4 = .ok (.iload_n 1, 1) := by decide +kernel
theorem dX8_carried_5 : decode cX8_carried 5 = .ok (.goto 15, 3) := by decide +kernel
theorem dX8_carried_8 : decode cX8_carried 8 = .ok (.iload_n 1, 1) := by decide +kernel
theorem dX8_carried_9 : decode cX8_carried 9 = .ok (.aload_n 0, 1) := by decide +kernel
theorem dX8_carried_10 : decode cX8_carried 10 = .ok (.iconst 0, 1) := by decide +kernel
theorem dX8_carried_11 : decode cX8_carried 11 = .ok (.iload_n 2, 1) := by decide +kernel
theorem dX8_carried_12 : decode cX8_carried 12 = .ok (.invokestatic 154, 3) := by decide +kernel
theorem dX8_carried_15 : decode cX8_carried 15 = .ok (.iadd, 1) := by decide +kernel
theorem dX8_carried_16 : decode cX8_carried 16 = .ok (.iaload, 1) := by decide +kernel
theorem dX8_carried_17 : decode cX8_carried 17 = .ok (.iadd, 1) := by decide +kernel
theorem dX8_carried_18 : decode cX8_carried 18 = .ok (.iconst 2, 1) := by decide +kernel
theorem dX8_carried_19 : decode cX8_carried 19 = .ok (.isub, 1) := by decide +kernel
theorem dX8_carried_20 : decode cX8_carried 20 = .ok (.istore_n 3, 1) := by decide +kernel
theorem dX8_carried_21 : decode cX8_carried 21 = .ok (.iload_n 3, 1) := by decide +kernel
theorem dX8_carried_22 : decode cX8_carried 22 = .ok (.ifCond .ge 7, 3) := by decide +kernel
theorem dX8_carried_25 : decode cX8_carried 25 = .ok (.iconst 0, 1) := by decide +kernel
theorem dX8_carried_26 : decode cX8_carried 26 = .ok (.goto 15, 3) := by decide +kernel
theorem dX8_carried_29 : decode cX8_carried 29 = .ok (.iload_n 3, 1) := by decide +kernel
theorem dX8_carried_30 : decode cX8_carried 30 = .ok (.bipush 9, 2) := by decide +kernel
theorem dX8_carried_32 : decode cX8_carried 32 = .ok (.if_icmp .le 8, 3) := by decide +kernel
theorem dX8_carried_35 : decode cX8_carried 35 = .ok (.bipush 9, 2) := by decide +kernel
theorem dX8_carried_37 : decode cX8_carried 37 = .ok (.goto 4, 3) := by decide +kernel
theorem dX8_carried_40 : decode cX8_carried 40 = .ok (.iload_n 3, 1) := by decide +kernel
theorem dX8_carried_41 : decode cX8_carried 41 = .ok (.ireturn, 1) := by decide +kernel
theorem dX8_hourGoes_0 : decode cX8_hourGoes 0 = .ok (.iconst 0, 1) := by decide +kernel
theorem dX8_hourGoes_1 : decode cX8_hourGoes 1 = .ok (.istore_n 1, 1) := by decide +kernel
theorem dX8_hourGoes_2 : decode cX8_hourGoes 2 = .ok (.iload_n 1, 1) := by decide +kernel
theorem dX8_hourGoes_3 : decode cX8_hourGoes 3 = .ok (.aload_n 0, 1) := by decide +kernel
theorem dX8_hourGoes_4 : decode cX8_hourGoes 4 = .ok (.iconst 5, 1) := by decide +kernel
theorem dX8_hourGoes_5 : decode cX8_hourGoes 5 = .ok (.iaload, 1) := by decide +kernel
theorem dX8_hourGoes_6 : decode cX8_hourGoes 6 = .ok (.if_icmp .ge 47, 3) := by decide +kernel
theorem dX8_hourGoes_9 : decode cX8_hourGoes 9 = .ok (.aload_n 0, 1) := by decide +kernel
theorem dX8_hourGoes_10 : decode cX8_hourGoes 10 = .ok (.bipush 17, 2) := by decide +kernel
theorem dX8_hourGoes_12 : decode cX8_hourGoes 12 = .ok (.iload_n 1, 1) := by decide +kernel
theorem dX8_hourGoes_13 : decode cX8_hourGoes 13 = .ok (.iadd, 1) := by decide +kernel
theorem dX8_hourGoes_14 : decode cX8_hourGoes 14 = .ok (.aload_n 0, 1) := by decide +kernel
theorem dX8_hourGoes_15 : decode cX8_hourGoes 15 = .ok (.aload_n 0, 1) := by decide +kernel
theorem dX8_hourGoes_16 : decode cX8_hourGoes 16 = .ok (.bipush 17, 2) := by decide +kernel
theorem dX8_hourGoes_18 : decode cX8_hourGoes 18 = .ok (.iload_n 1, 1) := by decide +kernel
theorem dX8_hourGoes_19 : decode cX8_hourGoes 19 = .ok (.iadd, 1) := by decide +kernel
theorem dX8_hourGoes_20 : decode cX8_hourGoes 20 = .ok (.iaload, 1) := by decide +kernel
theorem dX8_hourGoes_21 : decode cX8_hourGoes 21 = .ok (.invokestatic 157, 3) := by decide +kernel
theorem dX8_hourGoes_24 : decode cX8_hourGoes 24 = .ok (.iastore, 1) := by decide +kernel
theorem dX8_hourGoes_25 : decode cX8_hourGoes 25 = .ok (.aload_n 0, 1) := by decide +kernel
theorem dX8_hourGoes_26 : decode cX8_hourGoes 26 = .ok (.bipush 12, 2) := by decide +kernel
theorem dX8_hourGoes_28 : decode cX8_hourGoes 28 = .ok (.iload_n 1, 1) := by decide +kernel
theorem dX8_hourGoes_29 : decode cX8_hourGoes 29 = .ok (.iadd, 1) := by decide +kernel
theorem dX8_hourGoes_30 : decode cX8_hourGoes 30 = .ok (.aload_n 0, 1) := by decide +kernel
theorem dX8_hourGoes_31 : decode cX8_hourGoes 31 = .ok (.aload_n 0, 1) := by decide +kernel
theorem dX8_hourGoes_32 : decode cX8_hourGoes 32 = .ok (.bipush 12, 2) := by decide +kernel
theorem dX8_hourGoes_34 : decode cX8_hourGoes 34 = .ok (.iload_n 1, 1) := by decide +kernel
theorem dX8_hourGoes_35 : decode cX8_hourGoes 35 = .ok (.iadd, 1) := by decide +kernel
theorem dX8_hourGoes_36 : decode cX8_hourGoes 36 = .ok (.iaload, 1) := by decide +kernel
theorem dX8_hourGoes_37 : decode cX8_hourGoes 37 = .ok (.aload_n 0, 1) := by decide +kernel
theorem dX8_hourGoes_38 : decode cX8_hourGoes 38 = .ok (.bipush 17, 2) := by decide +kernel
theorem dX8_hourGoes_40 : decode cX8_hourGoes 40 = .ok (.iload_n 1, 1) := by decide +kernel
theorem dX8_hourGoes_41 : decode cX8_hourGoes 41 = .ok (.iadd, 1) := by decide +kernel
theorem dX8_hourGoes_42 : decode cX8_hourGoes 42 = .ok (.iaload, 1) := by decide +kernel
theorem dX8_hourGoes_43 : decode cX8_hourGoes 43 = .ok (.invokestatic 161, 3) := by decide +kernel
theorem dX8_hourGoes_46 : decode cX8_hourGoes 46 = .ok (.iastore, 1) := by decide +kernel
theorem dX8_hourGoes_47 : decode cX8_hourGoes 47 = .ok (.iinc 1 1, 3) := by decide +kernel
theorem dX8_hourGoes_50 : decode cX8_hourGoes 50 = .ok (.goto (-48), 3) := by decide +kernel
theorem dX8_hourGoes_53 : decode cX8_hourGoes 53 = .ok (.aload_n 0, 1) := by decide +kernel
theorem dX8_hourGoes_54 : decode cX8_hourGoes 54 = .ok (.bipush 6, 2) := by decide +kernel
theorem dX8_hourGoes_56 : decode cX8_hourGoes 56 = .ok (.dup2, 1) := by decide +kernel
theorem dX8_hourGoes_57 : decode cX8_hourGoes 57 = .ok (.iaload, 1) := by decide +kernel
theorem dX8_hourGoes_58 : decode cX8_hourGoes 58 = .ok (.iconst 1, 1) := by decide +kernel
theorem dX8_hourGoes_59 : decode cX8_hourGoes 59 = .ok (.iadd, 1) := by decide +kernel
theorem dX8_hourGoes_60 : decode cX8_hourGoes 60 = .ok (.iastore, 1) := by decide +kernel
theorem dX8_hourGoes_61 : decode cX8_hourGoes 61 = .ok (.return_, 1) := by decide +kernel
theorem dX8_burns_0 : decode cX8_burns 0 = .ok (.aload_n 0, 1) := by decide +kernel
theorem dX8_burns_1 : decode cX8_burns 1 = .ok (.bipush 22, 2) := by decide +kernel
theorem dX8_burns_3 : decode cX8_burns 3 = .ok (.iload_n 1, 1) := by decide +kernel
theorem dX8_burns_4 : decode cX8_burns 4 = .ok (.iadd, 1) := by decide +kernel
theorem dX8_burns_5 : decode cX8_burns 5 = .ok (.dup2, 1) := by decide +kernel
theorem dX8_burns_6 : decode cX8_burns 6 = .ok (.iaload, 1) := by decide +kernel
theorem dX8_burns_7 : decode cX8_burns 7 = .ok (.iload_n 2, 1) := by decide +kernel
theorem dX8_burns_8 : decode cX8_burns 8 = .ok (.isub, 1) := by decide +kernel
theorem dX8_burns_9 : decode cX8_burns 9 = .ok (.iastore, 1) := by decide +kernel
theorem dX8_burns_10 : decode cX8_burns 10 = .ok (.aload_n 0, 1) := by decide +kernel
theorem dX8_burns_11 : decode cX8_burns 11 = .ok (.bipush 27, 2) := by decide +kernel
theorem dX8_burns_13 : decode cX8_burns 13 = .ok (.iload_n 1, 1) := by decide +kernel
theorem dX8_burns_14 : decode cX8_burns 14 = .ok (.iadd, 1) := by decide +kernel
theorem dX8_burns_15 : decode cX8_burns 15 = .ok (.dup2, 1) := by decide +kernel
theorem dX8_burns_16 : decode cX8_burns 16 = .ok (.iaload, 1) := by decide +kernel
theorem dX8_burns_17 : decode cX8_burns 17 = .ok (.iload_n 2, 1) := by decide +kernel
theorem dX8_burns_18 : decode cX8_burns 18 = .ok (.iadd, 1) := by decide +kernel
theorem dX8_burns_19 : decode cX8_burns 19 = .ok (.iastore, 1) := by decide +kernel
theorem dX8_burns_20 : decode cX8_burns 20 = .ok (.aload_n 0, 1) := by decide +kernel
theorem dX8_burns_21 : decode cX8_burns 21 = .ok (.bipush 17, 2) := by decide +kernel
theorem dX8_burns_23 : decode cX8_burns 23 = .ok (.iload_n 1, 1) := by decide +kernel
theorem dX8_burns_24 : decode cX8_burns 24 = .ok (.iadd, 1) := by decide +kernel
theorem dX8_burns_25 : decode cX8_burns 25 = .ok (.aload_n 0, 1) := by decide +kernel
theorem dX8_burns_26 : decode cX8_burns 26 = .ok (.bipush 7, 2) := by decide +kernel
theorem dX8_burns_28 : decode cX8_burns 28 = .ok (.iload_n 1, 1) := by decide +kernel
theorem dX8_burns_29 : decode cX8_burns 29 = .ok (.iadd, 1) := by decide +kernel
theorem dX8_burns_30 : decode cX8_burns 30 = .ok (.iaload, 1) := by decide +kernel
theorem dX8_burns_31 : decode cX8_burns 31 = .ok (.aload_n 0, 1) := by decide +kernel
theorem dX8_burns_32 : decode cX8_burns 32 = .ok (.bipush 17, 2) := by decide +kernel
theorem dX8_burns_34 : decode cX8_burns 34 = .ok (.iload_n 1, 1) := by decide +kernel
theorem dX8_burns_35 : decode cX8_burns 35 = .ok (.iadd, 1) := by decide +kernel
theorem dX8_burns_36 : decode cX8_burns 36 = .ok (.iaload, 1) := by decide +kernel
theorem dX8_burns_37 : decode cX8_burns 37 = .ok (.iload_n 2, 1) := by decide +kernel
theorem dX8_burns_38 : decode cX8_burns 38 = .ok (.invokestatic 165, 3) := by decide +kernel
theorem dX8_burns_41 : decode cX8_burns 41 = .ok (.iastore, 1) := by decide +kernel
theorem dX8_burns_42 : decode cX8_burns 42 = .ok (.return_, 1) := by decide +kernel
theorem dX8_flying_0 : decode cX8_flying 0 = .ok (.iconst 0, 1) := by decide +kernel
theorem dX8_flying_1 : decode cX8_flying 1 = .ok (.istore_n 1, 1) := by decide +kernel
theorem dX8_flying_2 : decode cX8_flying 2 = .ok (.iconst 0, 1) := by decide +kernel
theorem dX8_flying_3 : decode cX8_flying 3 = .ok (.istore_n 2, 1) := by decide +kernel
theorem dX8_flying_4 : decode cX8_flying 4 = .ok (.iload_n 2, 1) := by decide +kernel
theorem dX8_flying_5 : decode cX8_flying 5 = .ok (.aload_n 0, 1) := by decide +kernel
theorem dX8_flying_6 : decode cX8_flying 6 = .ok (.iconst 5, 1) := by decide +kernel
theorem dX8_flying_7 : decode cX8_flying 7 = .ok (.iaload, 1) := by decide +kernel
theorem dX8_flying_8 : decode cX8_flying 8 = .ok (.if_icmp .ge 28, 3) := by decide +kernel
theorem dX8_flying_11 : decode cX8_flying 11 = .ok (.iload_n 1, 1) := by decide +kernel
theorem dX8_flying_12 : decode cX8_flying 12 = .ok (.aload_n 0, 1) := by decide +kernel
theorem dX8_flying_13 : decode cX8_flying 13 = .ok (.bipush 17, 2) := by decide +kernel
theorem dX8_flying_15 : decode cX8_flying 15 = .ok (.iload_n 2, 1) := by decide +kernel
theorem dX8_flying_16 : decode cX8_flying 16 = .ok (.iadd, 1) := by decide +kernel
theorem dX8_flying_17 : decode cX8_flying 17 = .ok (.iaload, 1) := by decide +kernel
theorem dX8_flying_18 : decode cX8_flying 18 = .ok (.ifCond .le 9, 3) := by decide +kernel
theorem dX8_flying_21 : decode cX8_flying 21 = .ok (.iconst 1, 1) := by decide +kernel
theorem dX8_flying_22 : decode cX8_flying 22 = .ok (.iload_n 2, 1) := by decide +kernel
theorem dX8_flying_23 : decode cX8_flying 23 = .ok (.ishl, 1) := by decide +kernel
theorem dX8_flying_24 : decode cX8_flying 24 = .ok (.goto 4, 3) := by decide +kernel
theorem dX8_flying_27 : decode cX8_flying 27 = .ok (.iconst 0, 1) := by decide +kernel
theorem dX8_flying_28 : decode cX8_flying 28 = .ok (.ior, 1) := by decide +kernel
theorem dX8_flying_29 : decode cX8_flying 29 = .ok (.istore_n 1, 1) := by decide +kernel
theorem dX8_flying_30 : decode cX8_flying 30 = .ok (.iinc 2 1, 3) := by decide +kernel
theorem dX8_flying_33 : decode cX8_flying 33 = .ok (.goto (-29), 3) := by decide +kernel
theorem dX8_flying_36 : decode cX8_flying 36 = .ok (.iload_n 1, 1) := by decide +kernel
theorem dX8_flying_37 : decode cX8_flying 37 = .ok (.ireturn, 1) := by decide +kernel
theorem dX8_bits_0 : decode cX8_bits 0 = .ok (.iconst 0, 1) := by decide +kernel
theorem dX8_bits_1 : decode cX8_bits 1 = .ok (.istore_n 1, 1) := by decide +kernel
theorem dX8_bits_2 : decode cX8_bits 2 = .ok (.iload_n 0, 1) := by decide +kernel
theorem dX8_bits_3 : decode cX8_bits 3 = .ok (.istore_n 2, 1) := by decide +kernel
theorem dX8_bits_4 : decode cX8_bits 4 = .ok (.iload_n 2, 1) := by decide +kernel
theorem dX8_bits_5 : decode cX8_bits 5 = .ok (.ifCond .eq 15, 3) := by decide +kernel
theorem dX8_bits_8 : decode cX8_bits 8 = .ok (.iinc 1 1, 3) := by decide +kernel
theorem dX8_bits_11 : decode cX8_bits 11 = .ok (.iload_n 2, 1) := by decide +kernel
theorem dX8_bits_12 : decode cX8_bits 12 = .ok (.iload_n 2, 1) := by decide +kernel
theorem dX8_bits_13 : decode cX8_bits 13 = .ok (.iconst 1, 1) := by decide +kernel
theorem dX8_bits_14 : decode cX8_bits 14 = .ok (.isub, 1) := by decide +kernel
theorem dX8_bits_15 : decode cX8_bits 15 = .ok (.iand, 1) := by decide +kernel
theorem dX8_bits_16 : decode cX8_bits 16 = .ok (.istore_n 2, 1) := by decide +kernel
theorem dX8_bits_17 : decode cX8_bits 17 = .ok (.goto (-13), 3) := by decide +kernel
theorem dX8_bits_20 : decode cX8_bits 20 = .ok (.iload_n 1, 1) := by decide +kernel
theorem dX8_bits_21 : decode cX8_bits 21 = .ok (.ireturn, 1) := by decide +kernel
theorem dX8_remember_0 : decode cX8_remember 0 = .ok (.aload_n 0, 1) := by decide +kernel
theorem dX8_remember_1 : decode cX8_remember 1 = .ok (.getfield 141, 3) := by decide +kernel
theorem dX8_remember_4 : decode cX8_remember 4 = .ok (.bipush 24, 2) := by decide +kernel
theorem dX8_remember_6 : decode cX8_remember 6 = .ok (.if_icmp .ne 43, 3) := by decide +kernel
theorem dX8_remember_9 : decode cX8_remember 9 = .ok (.iconst 0, 1) := by decide +kernel
theorem dX8_remember_10 : decode cX8_remember 10 = .ok (.istore_n 1, 1) := by decide +kernel
theorem dX8_remember_11 : decode cX8_remember 11 = .ok (.iload_n 1, 1) := by decide +kernel
theorem dX8_remember_12 : decode cX8_remember 12 = .ok (.sipush 736, 3) := by decide +kernel
theorem dX8_remember_15 : decode cX8_remember 15 = .ok (.if_icmp .ge 24, 3) := by decide +kernel
theorem dX8_remember_18 : decode cX8_remember 18 = .ok (.aload_n 0, 1) := by decide +kernel
theorem dX8_remember_19 : decode cX8_remember 19 = .ok (.getfield 25, 3) := by decide +kernel
theorem dX8_remember_22 : decode cX8_remember 22 = .ok (.iload_n 1, 1) := by decide +kernel
theorem dX8_remember_23 : decode cX8_remember 23 = .ok (.aload_n 0, 1) := by decide +kernel
theorem dX8_remember_24 : decode cX8_remember 24 = .ok (.getfield 25, 3) := by decide +kernel
theorem dX8_remember_27 : decode cX8_remember 27 = .ok (.iload_n 1, 1) := by decide +kernel
theorem dX8_remember_28 : decode cX8_remember 28 = .ok (.bipush 32, 2) := by decide +kernel
theorem dX8_remember_30 : decode cX8_remember 30 = .ok (.iadd, 1) := by decide +kernel
theorem dX8_remember_31 : decode cX8_remember 31 = .ok (.iaload, 1) := by decide +kernel
theorem dX8_remember_32 : decode cX8_remember 32 = .ok (.iastore, 1) := by decide +kernel
theorem dX8_remember_33 : decode cX8_remember 33 = .ok (.iinc 1 1, 3) := by decide +kernel
theorem dX8_remember_36 : decode cX8_remember 36 = .ok (.goto (-25), 3) := by decide +kernel
theorem dX8_remember_39 : decode cX8_remember 39 = .ok (.aload_n 0, 1) := by decide +kernel
theorem dX8_remember_40 : decode cX8_remember 40 = .ok (.dup, 1) := by decide +kernel
theorem dX8_remember_41 : decode cX8_remember 41 = .ok (.getfield 141, 3) := by decide +kernel
theorem dX8_remember_44 : decode cX8_remember 44 = .ok (.iconst 1, 1) := by decide +kernel
theorem dX8_remember_45 : decode cX8_remember 45 = .ok (.isub, 1) := by decide +kernel
theorem dX8_remember_46 : decode cX8_remember 46 = .ok (.putfield 141, 3) := by decide +kernel
theorem dX8_remember_49 : decode cX8_remember 49 = .ok (.aload_n 0, 1) := by decide +kernel
theorem dX8_remember_50 : decode cX8_remember 50 = .ok (.getfield 22, 3) := by decide +kernel
theorem dX8_remember_53 : decode cX8_remember 53 = .ok (.iconst 0, 1) := by decide +kernel
theorem dX8_remember_54 : decode cX8_remember 54 = .ok (.aload_n 0, 1) := by decide +kernel
theorem dX8_remember_55 : decode cX8_remember 55 = .ok (.getfield 25, 3) := by decide +kernel
theorem dX8_remember_58 : decode cX8_remember 58 = .ok (.bipush 32, 2) := by decide +kernel
theorem dX8_remember_60 : decode cX8_remember 60 = .ok (.aload_n 0, 1) := by decide +kernel
theorem dX8_remember_61 : decode cX8_remember 61 = .ok (.getfield 141, 3) := by decide +kernel
theorem dX8_remember_64 : decode cX8_remember 64 = .ok (.imul, 1) := by decide +kernel
theorem dX8_remember_65 : decode cX8_remember 65 = .ok (.invokestatic 144, 3) := by decide +kernel
theorem dX8_remember_68 : decode cX8_remember 68 = .ok (.aload_n 0, 1) := by decide +kernel
theorem dX8_remember_69 : decode cX8_remember 69 = .ok (.dup, 1) := by decide +kernel
theorem dX8_remember_70 : decode cX8_remember 70 = .ok (.getfield 141, 3) := by decide +kernel
theorem dX8_remember_73 : decode cX8_remember 73 = .ok (.iconst 1, 1) := by decide +kernel
theorem dX8_remember_74 : decode cX8_remember 74 = .ok (.iadd, 1) := by decide +kernel
theorem dX8_remember_75 : decode cX8_remember 75 = .ok (.putfield 141, 3) := by decide +kernel
theorem dX8_remember_78 : decode cX8_remember 78 = .ok (.return_, 1) := by decide +kernel
theorem dX8_undo_0 : decode cX8_undo 0 = .ok (.aload_n 0, 1) := by decide +kernel
theorem dX8_undo_1 : decode cX8_undo 1 = .ok (.getfield 141, 3) := by decide +kernel
theorem dX8_undo_4 : decode cX8_undo 4 = .ok (.ifCond .ne 6, 3) := by decide +kernel
theorem dX8_undo_7 : decode cX8_undo 7 = .ok (.ldc 169, 2) := by decide +kernel
theorem dX8_undo_9 : decode cX8_undo 9 = .ok (.ireturn, 1) := by decide +kernel
theorem dX8_undo_10 : decode cX8_undo 10 = .ok (.aload_n 0, 1) := by decide +kernel
theorem dX8_undo_11 : decode cX8_undo 11 = .ok (.dup, 1) := by decide +kernel
theorem dX8_undo_12 : decode cX8_undo 12 = .ok (.getfield 141, 3) := by decide +kernel
theorem dX8_undo_15 : decode cX8_undo 15 = .ok (.iconst 1, 1) := by decide +kernel
theorem dX8_undo_16 : decode cX8_undo 16 = .ok (.isub, 1) := by decide +kernel
theorem dX8_undo_17 : decode cX8_undo 17 = .ok (.putfield 141, 3) := by decide +kernel
theorem dX8_undo_20 : decode cX8_undo 20 = .ok (.aload_n 0, 1) := by decide +kernel
theorem dX8_undo_21 : decode cX8_undo 21 = .ok (.getfield 25, 3) := by decide +kernel
theorem dX8_undo_24 : decode cX8_undo 24 = .ok (.bipush 32, 2) := by decide +kernel
theorem dX8_undo_26 : decode cX8_undo 26 = .ok (.aload_n 0, 1) := by decide +kernel
theorem dX8_undo_27 : decode cX8_undo 27 = .ok (.getfield 141, 3) := by decide +kernel
theorem dX8_undo_30 : decode cX8_undo 30 = .ok (.imul, 1) := by decide +kernel
theorem dX8_undo_31 : decode cX8_undo 31 = .ok (.aload_n 0, 1) := by decide +kernel
theorem dX8_undo_32 : decode cX8_undo 32 = .ok (.getfield 22, 3) := by decide +kernel
theorem dX8_undo_35 : decode cX8_undo 35 = .ok (.iconst 0, 1) := by decide +kernel
theorem dX8_undo_36 : decode cX8_undo 36 = .ok (.invokestatic 144, 3) := by decide +kernel
theorem dX8_undo_39 : decode cX8_undo 39 = .ok (.aload_n 0, 1) := by decide +kernel
theorem dX8_undo_40 : decode cX8_undo 40 = .ok (.getfield 141, 3) := by decide +kernel
theorem dX8_undo_43 : decode cX8_undo 43 = .ok (.ireturn, 1) := by decide +kernel
theorem dX8_hours_0 : decode cX8_hours 0 = .ok (.aload_n 0, 1) := by decide +kernel
theorem dX8_hours_1 : decode cX8_hours 1 = .ok (.getfield 137, 3) := by decide +kernel
theorem dX8_hours_4 : decode cX8_hours 4 = .ok (.ifCond .ne 6, 3) := by decide +kernel
theorem dX8_hours_7 : decode cX8_hours 7 = .ok (.ldc 169, 2) := by decide +kernel
theorem dX8_hours_9 : decode cX8_hours 9 = .ok (.ireturn, 1) := by decide +kernel
theorem dX8_hours_10 : decode cX8_hours 10 = .ok (.iload_n 1, 1) := by decide +kernel
theorem dX8_hours_11 : decode cX8_hours 11 = .ok (.i2l, 1) := by decide +kernel
theorem dX8_hours_12 : decode cX8_hours 12 = .ok (.lconst 1, 1) := by decide +kernel
theorem dX8_hours_13 : decode cX8_hours 13 = .ok (.ldc2_w 170, 3) := by decide +kernel
theorem dX8_hours_16 : decode cX8_hours 16 = .ok (.invokestatic 57, 3) := by decide +kernel
theorem dX8_hours_19 : decode cX8_hours 19 = .ok (.ifCond .ne 6, 3) := by decide +kernel
theorem dX8_hours_22 : decode cX8_hours 22 = .ok (.ldc 67, 2) := by decide +kernel
theorem dX8_hours_24 : decode cX8_hours 24 = .ok (.ireturn, 1) := by decide +kernel
theorem dX8_hours_25 : decode cX8_hours 25 = .ok (.aload_n 0, 1) := by decide +kernel
theorem dX8_hours_26 : decode cX8_hours 26 = .ok (.getfield 22, 3) := by decide +kernel
theorem dX8_hours_29 : decode cX8_hours 29 = .ok (.bipush 6, 2) := by decide +kernel
theorem dX8_hours_31 : decode cX8_hours 31 = .ok (.iaload, 1) := by decide +kernel
theorem dX8_hours_32 : decode cX8_hours 32 = .ok (.iload_n 1, 1) := by decide +kernel
theorem dX8_hours_33 : decode cX8_hours 33 = .ok (.iadd, 1) := by decide +kernel
theorem dX8_hours_34 : decode cX8_hours 34 = .ok (.sipush 999, 3) := by decide +kernel
theorem dX8_hours_37 : decode cX8_hours 37 = .ok (.if_icmp .le 6, 3) := by decide +kernel
theorem dX8_hours_40 : decode cX8_hours 40 = .ok (.ldc 80, 2) := by decide +kernel
theorem dX8_hours_42 : decode cX8_hours 42 = .ok (.ireturn, 1) := by decide +kernel
theorem dX8_hours_43 : decode cX8_hours 43 = .ok (.iconst 0, 1) := by decide +kernel
theorem dX8_hours_44 : decode cX8_hours 44 = .ok (.istore_n 2, 1) := by decide +kernel
theorem dX8_hours_45 : decode cX8_hours 45 = .ok (.iload_n 2, 1) := by decide +kernel
theorem dX8_hours_46 : decode cX8_hours 46 = .ok (.iload_n 1, 1) := by decide +kernel
theorem dX8_hours_47 : decode cX8_hours 47 = .ok (.if_icmp .ge 20, 3) := by decide +kernel
theorem dX8_hours_50 : decode cX8_hours 50 = .ok (.aload_n 0, 1) := by decide +kernel
theorem dX8_hours_51 : decode cX8_hours 51 = .ok (.invokevirtual 172, 3) := by decide +kernel
theorem dX8_hours_54 : decode cX8_hours 54 = .ok (.aload_n 0, 1) := by decide +kernel
theorem dX8_hours_55 : decode cX8_hours 55 = .ok (.getfield 22, 3) := by decide +kernel
theorem dX8_hours_58 : decode cX8_hours 58 = .ok (.invokestatic 175, 3) := by decide +kernel
theorem dX8_hours_61 : decode cX8_hours 61 = .ok (.iinc 2 1, 3) := by decide +kernel
theorem dX8_hours_64 : decode cX8_hours 64 = .ok (.goto (-19), 3) := by decide +kernel
theorem dX8_hours_67 : decode cX8_hours 67 = .ok (.aload_n 0, 1) := by decide +kernel
theorem dX8_hours_68 : decode cX8_hours 68 = .ok (.getfield 22, 3) := by decide +kernel
theorem dX8_hours_71 : decode cX8_hours 71 = .ok (.invokestatic 179, 3) := by decide +kernel
theorem dX8_hours_74 : decode cX8_hours 74 = .ok (.invokestatic 183, 3) := by decide +kernel
theorem dX8_hours_77 : decode cX8_hours 77 = .ok (.ireturn, 1) := by decide +kernel
theorem dX8_burn_0 : decode cX8_burn 0 = .ok (.aload_n 0, 1) := by decide +kernel
theorem dX8_burn_1 : decode cX8_burn 1 = .ok (.iload_n 1, 1) := by decide +kernel
theorem dX8_burn_2 : decode cX8_burn 2 = .ok (.invokevirtual 186, 3) := by decide +kernel
theorem dX8_burn_5 : decode cX8_burn 5 = .ok (.ifCond .eq 15, 3) := by decide +kernel
theorem dX8_burn_8 : decode cX8_burn 8 = .ok (.iload_n 2, 1) := by decide +kernel
theorem dX8_burn_9 : decode cX8_burn 9 = .ok (.i2l, 1) := by decide +kernel
theorem dX8_burn_10 : decode cX8_burn 10 = .ok (.lconst 1, 1) := by decide +kernel
theorem dX8_burn_11 : decode cX8_burn 11 = .ok (.ldc2_w 189, 3) := by decide +kernel
theorem dX8_burn_14 : decode cX8_burn 14 = .ok (.invokestatic 57, 3) := by decide +kernel
theorem dX8_burn_17 : decode cX8_burn 17 = .ok (.ifCond .ne 6, 3) := by decide +kernel
theorem dX8_burn_20 : decode cX8_burn 20 = .ok (.ldc 67, 2) := by decide +kernel
theorem dX8_burn_22 : decode cX8_burn 22 = .ok (.ireturn, 1) := by decide +kernel
theorem dX8_burn_23 : decode cX8_burn 23 = .ok (.aload_n 0, 1) := by decide +kernel
theorem dX8_burn_24 : decode cX8_burn 24 = .ok (.getfield 22, 3) := by decide +kernel
theorem dX8_burn_27 : decode cX8_burn 27 = .ok (.bipush 22, 2) := by decide +kernel
theorem dX8_burn_29 : decode cX8_burn 29 = .ok (.iload_n 1, 1) := by decide +kernel
theorem dX8_burn_30 : decode cX8_burn 30 = .ok (.iadd, 1) := by decide +kernel
theorem dX8_burn_31 : decode cX8_burn 31 = .ok (.iaload, 1) := by decide +kernel
theorem dX8_burn_32 : decode cX8_burn 32 = .ok (.iload_n 2, 1) := by decide +kernel
theorem dX8_burn_33 : decode cX8_burn 33 = .ok (.if_icmp .ge 6, 3) := by decide +kernel
theorem dX8_burn_36 : decode cX8_burn 36 = .ok (.ldc 169, 2) := by decide +kernel
theorem dX8_burn_38 : decode cX8_burn 38 = .ok (.ireturn, 1) := by decide +kernel
theorem dX8_burn_39 : decode cX8_burn 39 = .ok (.aload_n 0, 1) := by decide +kernel
theorem dX8_burn_40 : decode cX8_burn 40 = .ok (.invokevirtual 172, 3) := by decide +kernel
theorem dX8_burn_43 : decode cX8_burn 43 = .ok (.aload_n 0, 1) := by decide +kernel
theorem dX8_burn_44 : decode cX8_burn 44 = .ok (.getfield 22, 3) := by decide +kernel
theorem dX8_burn_47 : decode cX8_burn 47 = .ok (.iload_n 1, 1) := by decide +kernel
theorem dX8_burn_48 : decode cX8_burn 48 = .ok (.iload_n 2, 1) := by decide +kernel
theorem dX8_burn_49 : decode cX8_burn 49 = .ok (.invokestatic 191, 3) := by decide +kernel
theorem dX8_burn_52 : decode cX8_burn 52 = .ok (.aload_n 0, 1) := by decide +kernel
theorem dX8_burn_53 : decode cX8_burn 53 = .ok (.getfield 22, 3) := by decide +kernel
theorem dX8_burn_56 : decode cX8_burn 56 = .ok (.bipush 17, 2) := by decide +kernel
theorem dX8_burn_58 : decode cX8_burn 58 = .ok (.iload_n 1, 1) := by decide +kernel
theorem dX8_burn_59 : decode cX8_burn 59 = .ok (.iadd, 1) := by decide +kernel
theorem dX8_burn_60 : decode cX8_burn 60 = .ok (.iaload, 1) := by decide +kernel
theorem dX8_burn_61 : decode cX8_burn 61 = .ok (.ireturn, 1) := by decide +kernel
theorem dX8_send_0 : decode cX8_send 0 = .ok (.aload_n 0, 1) := by decide +kernel
theorem dX8_send_1 : decode cX8_send 1 = .ok (.iload_n 1, 1) := by decide +kernel
theorem dX8_send_2 : decode cX8_send 2 = .ok (.invokevirtual 186, 3) := by decide +kernel
theorem dX8_send_5 : decode cX8_send 5 = .ok (.ifCond .eq 28, 3) := by decide +kernel
theorem dX8_send_8 : decode cX8_send 8 = .ok (.aload_n 0, 1) := by decide +kernel
theorem dX8_send_9 : decode cX8_send 9 = .ok (.iload_n 2, 1) := by decide +kernel
theorem dX8_send_10 : decode cX8_send 10 = .ok (.invokevirtual 186, 3) := by decide +kernel
theorem dX8_send_13 : decode cX8_send 13 = .ok (.ifCond .eq 20, 3) := by decide +kernel
theorem dX8_send_16 : decode cX8_send 16 = .ok (.iload_n 1, 1) := by decide +kernel
theorem dX8_send_17 : decode cX8_send 17 = .ok (.iload_n 2, 1) := by decide +kernel
theorem dX8_send_18 : decode cX8_send 18 = .ok (.if_icmp .eq 15, 3) := by decide +kernel
theorem dX8_send_21 : decode cX8_send 21 = .ok (.iload_n 3, 1) := by decide +kernel
theorem dX8_send_22 : decode cX8_send 22 = .ok (.i2l, 1) := by decide +kernel
theorem dX8_send_23 : decode cX8_send 23 = .ok (.lconst 1, 1) := by decide +kernel
theorem dX8_send_24 : decode cX8_send 24 = .ok (.ldc2_w 195, 3) := by decide +kernel
theorem dX8_send_27 : decode cX8_send 27 = .ok (.invokestatic 57, 3) := by decide +kernel
theorem dX8_send_30 : decode cX8_send 30 = .ok (.ifCond .ne 6, 3) := by decide +kernel
theorem dX8_send_33 : decode cX8_send 33 = .ok (.ldc 67, 2) := by decide +kernel
theorem dX8_send_35 : decode cX8_send 35 = .ok (.ireturn, 1) := by decide +kernel
theorem dX8_send_36 : decode cX8_send 36 = .ok (.aload_n 0, 1) := by decide +kernel
theorem dX8_send_37 : decode cX8_send 37 = .ok (.getfield 22, 3) := by decide +kernel
theorem dX8_send_40 : decode cX8_send 40 = .ok (.bipush 12, 2) := by decide +kernel
theorem dX8_send_42 : decode cX8_send 42 = .ok (.iload_n 1, 1) := by decide +kernel
theorem dX8_send_43 : decode cX8_send 43 = .ok (.iadd, 1) := by decide +kernel
theorem dX8_send_44 : decode cX8_send 44 = .ok (.iaload, 1) := by decide +kernel
theorem dX8_send_45 : decode cX8_send 45 = .ok (.aload_n 0, 1) := by decide +kernel
theorem dX8_send_46 : decode cX8_send 46 = .ok (.getfield 22, 3) := by decide +kernel
theorem dX8_send_49 : decode cX8_send 49 = .ok (.bipush 12, 2) := by decide +kernel
theorem dX8_send_51 : decode cX8_send 51 = .ok (.iload_n 2, 1) := by decide +kernel
theorem dX8_send_52 : decode cX8_send 52 = .ok (.iadd, 1) := by decide +kernel
theorem dX8_send_53 : decode cX8_send 53 = .ok (.iaload, 1) := by decide +kernel
theorem dX8_send_54 : decode cX8_send 54 = .ok (.if_icmp .ne 16, 3) := by decide +kernel
theorem dX8_send_57 : decode cX8_send 57 = .ok (.aload_n 0, 1) := by decide +kernel
theorem dX8_send_58 : decode cX8_send 58 = .ok (.getfield 22, 3) := by decide +kernel
theorem dX8_send_61 : decode cX8_send 61 = .ok (.bipush 22, 2) := by decide +kernel
theorem dX8_send_63 : decode cX8_send 63 = .ok (.iload_n 1, 1) := by decide +kernel
theorem dX8_send_64 : decode cX8_send 64 = .ok (.iadd, 1) := by decide +kernel
theorem dX8_send_65 : decode cX8_send 65 = .ok (.iaload, 1) := by decide +kernel
theorem dX8_send_66 : decode cX8_send 66 = .ok (.iload_n 3, 1) := by decide +kernel
theorem dX8_send_67 : decode cX8_send 67 = .ok (.if_icmp .ge 6, 3) := by decide +kernel
theorem dX8_send_70 : decode cX8_send 70 = .ok (.ldc 169, 2) := by decide +kernel
theorem dX8_send_72 : decode cX8_send 72 = .ok (.ireturn, 1) := by decide +kernel
theorem dX8_send_73 : decode cX8_send 73 = .ok (.aload_n 0, 1) := by decide +kernel
theorem dX8_send_74 : decode cX8_send 74 = .ok (.getfield 22, 3) := by decide +kernel
theorem dX8_send_77 : decode cX8_send 77 = .ok (.bipush 22, 2) := by decide +kernel
theorem dX8_send_79 : decode cX8_send 79 = .ok (.iload_n 2, 1) := by decide +kernel
theorem dX8_send_80 : decode cX8_send 80 = .ok (.iadd, 1) := by decide +kernel
theorem dX8_send_81 : decode cX8_send 81 = .ok (.iaload, 1) := by decide +kernel
theorem dX8_send_82 : decode cX8_send 82 = .ok (.iload_n 3, 1) := by decide +kernel
theorem dX8_send_83 : decode cX8_send 83 = .ok (.iadd, 1) := by decide +kernel
theorem dX8_send_84 : decode cX8_send 84 = .ok (.bipush 99, 2) := by decide +kernel
theorem dX8_send_86 : decode cX8_send 86 = .ok (.if_icmp .le 6, 3) := by decide +kernel
theorem dX8_send_89 : decode cX8_send 89 = .ok (.ldc 80, 2) := by decide +kernel
theorem dX8_send_91 : decode cX8_send 91 = .ok (.ireturn, 1) := by decide +kernel
theorem dX8_send_92 : decode cX8_send 92 = .ok (.aload_n 0, 1) := by decide +kernel
theorem dX8_send_93 : decode cX8_send 93 = .ok (.invokevirtual 172, 3) := by decide +kernel
theorem dX8_send_96 : decode cX8_send 96 = .ok (.aload_n 0, 1) := by decide +kernel
theorem dX8_send_97 : decode cX8_send 97 = .ok (.getfield 22, 3) := by decide +kernel
theorem dX8_send_100 : decode cX8_send 100 = .ok (.bipush 22, 2) := by decide +kernel
theorem dX8_send_102 : decode cX8_send 102 = .ok (.iload_n 1, 1) := by decide +kernel
theorem dX8_send_103 : decode cX8_send 103 = .ok (.iadd, 1) := by decide +kernel
theorem dX8_send_104 : decode cX8_send 104 = .ok (.dup2, 1) := by decide +kernel
theorem dX8_send_105 : decode cX8_send 105 = .ok (.iaload, 1) := by decide +kernel
theorem dX8_send_106 : decode cX8_send 106 = .ok (.iload_n 3, 1) := by decide +kernel
theorem dX8_send_107 : decode cX8_send 107 = .ok (.isub, 1) := by decide +kernel
theorem dX8_send_108 : decode cX8_send 108 = .ok (.iastore, 1) := by decide +kernel
theorem dX8_send_109 : decode cX8_send 109 = .ok (.aload_n 0, 1) := by decide +kernel
theorem dX8_send_110 : decode cX8_send 110 = .ok (.getfield 22, 3) := by decide +kernel
theorem dX8_send_113 : decode cX8_send 113 = .ok (.bipush 22, 2) := by decide +kernel
theorem dX8_send_115 : decode cX8_send 115 = .ok (.iload_n 2, 1) := by decide +kernel
theorem dX8_send_116 : decode cX8_send 116 = .ok (.iadd, 1) := by decide +kernel
theorem dX8_send_117 : decode cX8_send 117 = .ok (.dup2, 1) := by decide +kernel
theorem dX8_send_118 : decode cX8_send 118 = .ok (.iaload, 1) := by decide +kernel
theorem dX8_send_119 : decode cX8_send 119 = .ok (.iload_n 3, 1) := by decide +kernel
theorem dX8_send_120 : decode cX8_send 120 = .ok (.iadd, 1) := by decide +kernel
theorem dX8_send_121 : decode cX8_send 121 = .ok (.iastore, 1) := by decide +kernel
theorem dX8_send_122 : decode cX8_send 122 = .ok (.aload_n 0, 1) := by decide +kernel
theorem dX8_send_123 : decode cX8_send 123 = .ok (.getfield 22, 3) := by decide +kernel
theorem dX8_send_126 : decode cX8_send 126 = .ok (.bipush 22, 2) := by decide +kernel
theorem dX8_send_128 : decode cX8_send 128 = .ok (.iload_n 2, 1) := by decide +kernel
theorem dX8_send_129 : decode cX8_send 129 = .ok (.iadd, 1) := by decide +kernel
theorem dX8_send_130 : decode cX8_send 130 = .ok (.iaload, 1) := by decide +kernel
theorem dX8_send_131 : decode cX8_send 131 = .ok (.ireturn, 1) := by decide +kernel
theorem dX8_wind_0 : decode cX8_wind 0 = .ok (.aload_n 0, 1) := by decide +kernel
theorem dX8_wind_1 : decode cX8_wind 1 = .ok (.getfield 137, 3) := by decide +kernel
theorem dX8_wind_4 : decode cX8_wind 4 = .ok (.ifCond .ne 6, 3) := by decide +kernel
theorem dX8_wind_7 : decode cX8_wind 7 = .ok (.ldc 169, 2) := by decide +kernel
theorem dX8_wind_9 : decode cX8_wind 9 = .ok (.ireturn, 1) := by decide +kernel
theorem dX8_wind_10 : decode cX8_wind 10 = .ok (.iload_n 1, 1) := by decide +kernel
theorem dX8_wind_11 : decode cX8_wind 11 = .ok (.i2l, 1) := by decide +kernel
theorem dX8_wind_12 : decode cX8_wind 12 = .ok (.lconst 0, 1) := by decide +kernel
theorem dX8_wind_13 : decode cX8_wind 13 = .ok (.ldc2_w 197, 3) := by decide +kernel
theorem dX8_wind_16 : decode cX8_wind 16 = .ok (.invokestatic 57, 3) := by decide +kernel
theorem dX8_wind_19 : decode cX8_wind 19 = .ok (.ifCond .eq 15, 3) := by decide +kernel
theorem dX8_wind_22 : decode cX8_wind 22 = .ok (.iload_n 2, 1) := by decide +kernel
theorem dX8_wind_23 : decode cX8_wind 23 = .ok (.i2l, 1) := by decide +kernel
theorem dX8_wind_24 : decode cX8_wind 24 = .ok (.lconst 0, 1) := by decide +kernel
theorem dX8_wind_25 : decode cX8_wind 25 = .ok (.ldc2_w 199, 3) := by decide +kernel
theorem dX8_wind_28 : decode cX8_wind 28 = .ok (.invokestatic 57, 3) := by decide +kernel
theorem dX8_wind_31 : decode cX8_wind 31 = .ok (.ifCond .ne 6, 3) := by decide +kernel
theorem dX8_wind_34 : decode cX8_wind 34 = .ok (.ldc 67, 2) := by decide +kernel
theorem dX8_wind_36 : decode cX8_wind 36 = .ok (.ireturn, 1) := by decide +kernel
theorem dX8_wind_37 : decode cX8_wind 37 = .ok (.aload_n 0, 1) := by decide +kernel
theorem dX8_wind_38 : decode cX8_wind 38 = .ok (.invokevirtual 172, 3) := by decide +kernel
theorem dX8_wind_41 : decode cX8_wind 41 = .ok (.aload_n 0, 1) := by decide +kernel
theorem dX8_wind_42 : decode cX8_wind 42 = .ok (.getfield 22, 3) := by decide +kernel
theorem dX8_wind_45 : decode cX8_wind 45 = .ok (.iconst 0, 1) := by decide +kernel
theorem dX8_wind_46 : decode cX8_wind 46 = .ok (.iload_n 1, 1) := by decide +kernel
theorem dX8_wind_47 : decode cX8_wind 47 = .ok (.iadd, 1) := by decide +kernel
theorem dX8_wind_48 : decode cX8_wind 48 = .ok (.iaload, 1) := by decide +kernel
theorem dX8_wind_49 : decode cX8_wind 49 = .ok (.istore_n 3, 1) := by decide +kernel
theorem dX8_wind_50 : decode cX8_wind 50 = .ok (.aload_n 0, 1) := by decide +kernel
theorem dX8_wind_51 : decode cX8_wind 51 = .ok (.getfield 22, 3) := by decide +kernel
theorem dX8_wind_54 : decode cX8_wind 54 = .ok (.iconst 0, 1) := by decide +kernel
theorem dX8_wind_55 : decode cX8_wind 55 = .ok (.iload_n 1, 1) := by decide +kernel
theorem dX8_wind_56 : decode cX8_wind 56 = .ok (.iadd, 1) := by decide +kernel
theorem dX8_wind_57 : decode cX8_wind 57 = .ok (.iload_n 2, 1) := by decide +kernel
theorem dX8_wind_58 : decode cX8_wind 58 = .ok (.iastore, 1) := by decide +kernel
theorem dX8_wind_59 : decode cX8_wind 59 = .ok (.iload_n 3, 1) := by decide +kernel
theorem dX8_wind_60 : decode cX8_wind 60 = .ok (.ireturn, 1) := by decide +kernel
theorem dX8_office_0 : decode cX8_office 0 = .ok (.aload_n 0, 1) := by decide +kernel
theorem dX8_office_1 : decode cX8_office 1 = .ok (.iload_n 1, 1) := by decide +kernel
theorem dX8_office_2 : decode cX8_office 2 = .ok (.invokevirtual 186, 3) := by decide +kernel
theorem dX8_office_5 : decode cX8_office 5 = .ok (.ifCond .eq 15, 3) := by decide +kernel
theorem dX8_office_8 : decode cX8_office 8 = .ok (.iload_n 2, 1) := by decide +kernel
theorem dX8_office_9 : decode cX8_office 9 = .ok (.i2l, 1) := by decide +kernel
theorem dX8_office_10 : decode cX8_office 10 = .ok (.lconst 0, 1) := by decide +kernel
theorem dX8_office_11 : decode cX8_office 11 = .ok (.ldc2_w 201, 3) := by decide +kernel
theorem dX8_office_14 : decode cX8_office 14 = .ok (.invokestatic 57, 3) := by decide +kernel
theorem dX8_office_17 : decode cX8_office 17 = .ok (.ifCond .ne 6, 3) := by decide +kernel
theorem dX8_office_20 : decode cX8_office 20 = .ok (.ldc 67, 2) := by decide +kernel
theorem dX8_office_22 : decode cX8_office 22 = .ok (.ireturn, 1) := by decide +kernel
theorem dX8_office_23 : decode cX8_office 23 = .ok (.aload_n 0, 1) := by decide +kernel
theorem dX8_office_24 : decode cX8_office 24 = .ok (.getfield 22, 3) := by decide +kernel
theorem dX8_office_27 : decode cX8_office 27 = .ok (.bipush 17, 2) := by decide +kernel
theorem dX8_office_29 : decode cX8_office 29 = .ok (.iload_n 1, 1) := by decide +kernel
theorem dX8_office_30 : decode cX8_office 30 = .ok (.iadd, 1) := by decide +kernel
theorem dX8_office_31 : decode cX8_office 31 = .ok (.iaload, 1) := by decide +kernel
theorem dX8_office_32 : decode cX8_office 32 = .ok (.istore_n 3, 1) := by decide +kernel
theorem dX8_office_33 : decode cX8_office 33 = .ok (.iload_n 2, 1) := by decide +kernel
theorem dX8_office_34 : decode cX8_office 34 = .ok (.iconst 4, 1) := by decide +kernel
theorem dX8_office_35 : decode cX8_office 35 = .ok (.if_icmp .ge 19, 3) := by decide +kernel
theorem dX8_office_38 : decode cX8_office 38 = .ok (.aload_n 0, 1) := by decide +kernel
theorem dX8_office_39 : decode cX8_office 39 = .ok (.getfield 22, 3) := by decide +kernel
theorem dX8_office_42 : decode cX8_office 42 = .ok (.bipush 12, 2) := by decide +kernel
theorem dX8_office_44 : decode cX8_office 44 = .ok (.iconst 5, 1) := by decide +kernel
theorem dX8_office_45 : decode cX8_office 45 = .ok (.iload_n 2, 1) := by decide +kernel
theorem dX8_office_46 : decode cX8_office 46 = .ok (.imul, 1) := by decide +kernel
theorem dX8_office_47 : decode cX8_office 47 = .ok (.iadd, 1) := by decide +kernel
theorem dX8_office_48 : decode cX8_office 48 = .ok (.iload_n 1, 1) := by decide +kernel
theorem dX8_office_49 : decode cX8_office 49 = .ok (.iadd, 1) := by decide +kernel
theorem dX8_office_50 : decode cX8_office 50 = .ok (.iaload, 1) := by decide +kernel
theorem dX8_office_51 : decode cX8_office 51 = .ok (.goto 28, 3) := by decide +kernel
theorem dX8_office_54 : decode cX8_office 54 = .ok (.iload_n 2, 1) := by decide +kernel
theorem dX8_office_55 : decode cX8_office 55 = .ok (.iconst 4, 1) := by decide +kernel
theorem dX8_office_56 : decode cX8_office 56 = .ok (.if_icmp .ne 10, 3) := by decide +kernel
theorem dX8_office_59 : decode cX8_office 59 = .ok (.iload_n 3, 1) := by decide +kernel
theorem dX8_office_60 : decode cX8_office 60 = .ok (.invokestatic 154, 3) := by decide +kernel
theorem dX8_office_63 : decode cX8_office 63 = .ok (.goto 16, 3) := by decide +kernel
theorem dX8_office_66 : decode cX8_office 66 = .ok (.aload_n 0, 1) := by decide +kernel
theorem dX8_office_67 : decode cX8_office 67 = .ok (.getfield 22, 3) := by decide +kernel
theorem dX8_office_70 : decode cX8_office 70 = .ok (.bipush 7, 2) := by decide +kernel
theorem dX8_office_72 : decode cX8_office 72 = .ok (.iload_n 1, 1) := by decide +kernel
theorem dX8_office_73 : decode cX8_office 73 = .ok (.iadd, 1) := by decide +kernel
theorem dX8_office_74 : decode cX8_office 74 = .ok (.iaload, 1) := by decide +kernel
theorem dX8_office_75 : decode cX8_office 75 = .ok (.iload_n 3, 1) := by decide +kernel
theorem dX8_office_76 : decode cX8_office 76 = .ok (.invokestatic 150, 3) := by decide +kernel
theorem dX8_office_79 : decode cX8_office 79 = .ok (.ireturn, 1) := by decide +kernel
theorem dX8_overOn_0 : decode cX8_overOn 0 = .ok (.iconst 0, 1) := by decide +kernel
theorem dX8_overOn_1 : decode cX8_overOn 1 = .ok (.istore_n 2, 1) := by decide +kernel
theorem dX8_overOn_2 : decode cX8_overOn 2 = .ok (.iconst 0, 1) := by decide +kernel
theorem dX8_overOn_3 : decode cX8_overOn 3 = .ok (.istore_n 3, 1) := by decide +kernel
theorem dX8_overOn_4 : decode cX8_overOn 4 = .ok (.iload_n 3, 1) := by decide +kernel
theorem dX8_overOn_5 : decode cX8_overOn 5 = .ok (.aload_n 0, 1) := by decide +kernel
theorem dX8_overOn_6 : decode cX8_overOn 6 = .ok (.iconst 5, 1) := by decide +kernel
theorem dX8_overOn_7 : decode cX8_overOn 7 = .ok (.iaload, 1) := by decide +kernel
theorem dX8_overOn_8 : decode cX8_overOn 8 = .ok (.if_icmp .ge 29, 3) := by decide +kernel
theorem dX8_overOn_11 : decode cX8_overOn 11 = .ok (.iload_n 2, 1) := by decide +kernel
theorem dX8_overOn_12 : decode cX8_overOn 12 = .ok (.aload_n 0, 1) := by decide +kernel
theorem dX8_overOn_13 : decode cX8_overOn 13 = .ok (.bipush 12, 2) := by decide +kernel
theorem dX8_overOn_15 : decode cX8_overOn 15 = .ok (.iload_n 3, 1) := by decide +kernel
theorem dX8_overOn_16 : decode cX8_overOn 16 = .ok (.iadd, 1) := by decide +kernel
theorem dX8_overOn_17 : decode cX8_overOn 17 = .ok (.iaload, 1) := by decide +kernel
theorem dX8_overOn_18 : decode cX8_overOn 18 = .ok (.iload_n 1, 1) := by decide +kernel
theorem dX8_overOn_19 : decode cX8_overOn 19 = .ok (.if_icmp .ne 9, 3) := by decide +kernel
theorem dX8_overOn_22 : decode cX8_overOn 22 = .ok (.iconst 1, 1) := by decide +kernel
theorem dX8_overOn_23 : decode cX8_overOn 23 = .ok (.iload_n 3, 1) := by decide +kernel
theorem dX8_overOn_24 : decode cX8_overOn 24 = .ok (.ishl, 1) := by decide +kernel
theorem dX8_overOn_25 : decode cX8_overOn 25 = .ok (.goto 4, 3) := by decide +kernel
theorem dX8_overOn_28 : decode cX8_overOn 28 = .ok (.iconst 0, 1) := by decide +kernel
theorem dX8_overOn_29 : decode cX8_overOn 29 = .ok (.ior, 1) := by decide +kernel
theorem dX8_overOn_30 : decode cX8_overOn 30 = .ok (.istore_n 2, 1) := by decide +kernel
theorem dX8_overOn_31 : decode cX8_overOn 31 = .ok (.iinc 3 1, 3) := by decide +kernel
theorem dX8_overOn_34 : decode cX8_overOn 34 = .ok (.goto (-30), 3) := by decide +kernel
theorem dX8_overOn_37 : decode cX8_overOn 37 = .ok (.iload_n 2, 1) := by decide +kernel
theorem dX8_overOn_38 : decode cX8_overOn 38 = .ok (.ireturn, 1) := by decide +kernel
theorem dX8_land_0 : decode cX8_land 0 = .ok (.aload_n 0, 1) := by decide +kernel
theorem dX8_land_1 : decode cX8_land 1 = .ok (.getfield 137, 3) := by decide +kernel
theorem dX8_land_4 : decode cX8_land 4 = .ok (.ifCond .ne 6, 3) := by decide +kernel
theorem dX8_land_7 : decode cX8_land 7 = .ok (.ldc 169, 2) := by decide +kernel
theorem dX8_land_9 : decode cX8_land 9 = .ok (.ireturn, 1) := by decide +kernel
theorem dX8_land_10 : decode cX8_land 10 = .ok (.iload_n 1, 1) := by decide +kernel
theorem dX8_land_11 : decode cX8_land 11 = .ok (.invokestatic 203, 3) := by decide +kernel
theorem dX8_land_14 : decode cX8_land 14 = .ok (.ifCond .eq 14, 3) := by decide +kernel
theorem dX8_land_17 : decode cX8_land 17 = .ok (.aload_n 0, 1) := by decide +kernel
theorem dX8_land_18 : decode cX8_land 18 = .ok (.getfield 22, 3) := by decide +kernel
theorem dX8_land_21 : decode cX8_land 21 = .ok (.iload_n 1, 1) := by decide +kernel
theorem dX8_land_22 : decode cX8_land 22 = .ok (.invokestatic 206, 3) := by decide +kernel
theorem dX8_land_25 : decode cX8_land 25 = .ok (.goto 5, 3) := by decide +kernel
theorem dX8_land_28 : decode cX8_land 28 = .ok (.ldc 67, 2) := by decide +kernel
theorem dX8_land_30 : decode cX8_land 30 = .ok (.ireturn, 1) := by decide +kernel
theorem dX8_goAside_0 : decode cX8_goAside 0 = .ok (.aload_n 0, 1) := by decide +kernel
theorem dX8_goAside_1 : decode cX8_goAside 1 = .ok (.getfield 22, 3) := by decide +kernel
theorem dX8_goAside_4 : decode cX8_goAside 4 = .ok (.iconst 0, 1) := by decide +kernel
theorem dX8_goAside_5 : decode cX8_goAside 5 = .ok (.aload_n 0, 1) := by decide +kernel
theorem dX8_goAside_6 : decode cX8_goAside 6 = .ok (.getfield 41, 3) := by decide +kernel
theorem dX8_goAside_9 : decode cX8_goAside 9 = .ok (.iconst 0, 1) := by decide +kernel
theorem dX8_goAside_10 : decode cX8_goAside 10 = .ok (.invokestatic 144, 3) := by decide +kernel
theorem dX8_goAside_13 : decode cX8_goAside 13 = .ok (.iconst 0, 1) := by decide +kernel
theorem dX8_goAside_14 : decode cX8_goAside 14 = .ok (.istore_n 2, 1) := by decide +kernel
theorem dX8_goAside_15 : decode cX8_goAside 15 = .ok (.iload_n 2, 1) := by decide +kernel
theorem dX8_goAside_16 : decode cX8_goAside 16 = .ok (.iload_n 1, 1) := by decide +kernel
theorem dX8_goAside_17 : decode cX8_goAside 17 = .ok (.if_icmp .ge 16, 3) := by decide +kernel
theorem dX8_goAside_20 : decode cX8_goAside 20 = .ok (.aload_n 0, 1) := by decide +kernel
theorem dX8_goAside_21 : decode cX8_goAside 21 = .ok (.getfield 41, 3) := by decide +kernel
theorem dX8_goAside_24 : decode cX8_goAside 24 = .ok (.invokestatic 175, 3) := by decide +kernel
theorem dX8_goAside_27 : decode cX8_goAside 27 = .ok (.iinc 2 1, 3) := by decide +kernel
theorem dX8_goAside_30 : decode cX8_goAside 30 = .ok (.goto (-15), 3) := by decide +kernel
theorem dX8_goAside_33 : decode cX8_goAside 33 = .ok (.return_, 1) := by decide +kernel
theorem dX8_ahead_0 : decode cX8_ahead 0 = .ok (.aload_n 0, 1) := by decide +kernel
theorem dX8_ahead_1 : decode cX8_ahead 1 = .ok (.iload_n 1, 1) := by decide +kernel
theorem dX8_ahead_2 : decode cX8_ahead 2 = .ok (.invokevirtual 186, 3) := by decide +kernel
theorem dX8_ahead_5 : decode cX8_ahead 5 = .ok (.ifCond .eq 22, 3) := by decide +kernel
theorem dX8_ahead_8 : decode cX8_ahead 8 = .ok (.iload_n 2, 1) := by decide +kernel
theorem dX8_ahead_9 : decode cX8_ahead 9 = .ok (.i2l, 1) := by decide +kernel
theorem dX8_ahead_10 : decode cX8_ahead 10 = .ok (.lconst 0, 1) := by decide +kernel
theorem dX8_ahead_11 : decode cX8_ahead 11 = .ok (.ldc2_w 195, 3) := by decide +kernel
theorem dX8_ahead_14 : decode cX8_ahead 14 = .ok (.invokestatic 57, 3) := by decide +kernel
theorem dX8_ahead_17 : decode cX8_ahead 17 = .ok (.ifCond .eq 10, 3) := by decide +kernel
theorem dX8_ahead_20 : decode cX8_ahead 20 = .ok (.iload_n 3, 1) := by decide +kernel
theorem dX8_ahead_21 : decode cX8_ahead 21 = .ok (.invokestatic 209, 3) := by decide +kernel
theorem dX8_ahead_24 : decode cX8_ahead 24 = .ok (.ifCond .ne 6, 3) := by decide +kernel
theorem dX8_ahead_27 : decode cX8_ahead 27 = .ok (.ldc 67, 2) := by decide +kernel
theorem dX8_ahead_29 : decode cX8_ahead 29 = .ok (.ireturn, 1) := by decide +kernel
theorem dX8_ahead_30 : decode cX8_ahead 30 = .ok (.aload_n 0, 1) := by decide +kernel
theorem dX8_ahead_31 : decode cX8_ahead 31 = .ok (.iload_n 2, 1) := by decide +kernel
theorem dX8_ahead_32 : decode cX8_ahead 32 = .ok (.invokevirtual 212, 3) := by decide +kernel
theorem dX8_ahead_35 : decode cX8_ahead 35 = .ok (.aload_n 0, 1) := by decide +kernel
theorem dX8_ahead_36 : decode cX8_ahead 36 = .ok (.getfield 41, 3) := by decide +kernel
theorem dX8_ahead_39 : decode cX8_ahead 39 = .ok (.bipush 12, 2) := by decide +kernel
theorem dX8_ahead_41 : decode cX8_ahead 41 = .ok (.iconst 5, 1) := by decide +kernel
theorem dX8_ahead_42 : decode cX8_ahead 42 = .ok (.iload_n 3, 1) := by decide +kernel
theorem dX8_ahead_43 : decode cX8_ahead 43 = .ok (.imul, 1) := by decide +kernel
theorem dX8_ahead_44 : decode cX8_ahead 44 = .ok (.iadd, 1) := by decide +kernel
theorem dX8_ahead_45 : decode cX8_ahead 45 = .ok (.iload_n 1, 1) := by decide +kernel
theorem dX8_ahead_46 : decode cX8_ahead 46 = .ok (.iadd, 1) := by decide +kernel
theorem dX8_ahead_47 : decode cX8_ahead 47 = .ok (.iaload, 1) := by decide +kernel
theorem dX8_ahead_48 : decode cX8_ahead 48 = .ok (.ireturn, 1) := by decide +kernel
theorem dX8_down_0 : decode cX8_down 0 = .ok (.aload_n 0, 1) := by decide +kernel
theorem dX8_down_1 : decode cX8_down 1 = .ok (.iload_n 1, 1) := by decide +kernel
theorem dX8_down_2 : decode cX8_down 2 = .ok (.invokevirtual 186, 3) := by decide +kernel
theorem dX8_down_5 : decode cX8_down 5 = .ok (.ifCond .ne 6, 3) := by decide +kernel
theorem dX8_down_8 : decode cX8_down 8 = .ok (.ldc 67, 2) := by decide +kernel
theorem dX8_down_10 : decode cX8_down 10 = .ok (.ireturn, 1) := by decide +kernel
theorem dX8_down_11 : decode cX8_down 11 = .ok (.aload_n 0, 1) := by decide +kernel
theorem dX8_down_12 : decode cX8_down 12 = .ok (.iconst 0, 1) := by decide +kernel
theorem dX8_down_13 : decode cX8_down 13 = .ok (.invokevirtual 212, 3) := by decide +kernel
theorem dX8_down_16 : decode cX8_down 16 = .ok (.iconst 0, 1) := by decide +kernel
theorem dX8_down_17 : decode cX8_down 17 = .ok (.istore_n 2, 1) := by decide +kernel
theorem dX8_down_18 : decode cX8_down 18 = .ok (.iload_n 2, 1) := by decide +kernel
theorem dX8_down_19 : decode cX8_down 19 = .ok (.bipush 60, 2) := by decide +kernel
theorem dX8_down_21 : decode cX8_down 21 = .ok (.if_icmp .gt 30, 3) := by decide +kernel
theorem dX8_down_24 : decode cX8_down 24 = .ok (.aload_n 0, 1) := by decide +kernel
theorem dX8_down_25 : decode cX8_down 25 = .ok (.getfield 41, 3) := by decide +kernel
theorem dX8_down_28 : decode cX8_down 28 = .ok (.bipush 17, 2) := by decide +kernel
theorem dX8_down_30 : decode cX8_down 30 = .ok (.iload_n 1, 1) := by decide +kernel
theorem dX8_down_31 : decode cX8_down 31 = .ok (.iadd, 1) := by decide +kernel
theorem dX8_down_32 : decode cX8_down 32 = .ok (.iaload, 1) := by decide +kernel
theorem dX8_down_33 : decode cX8_down 33 = .ok (.ifCond .ne 5, 3) := by decide +kernel
theorem dX8_down_36 : decode cX8_down 36 = .ok (.iload_n 2, 1) := by decide +kernel
theorem dX8_down_37 : decode cX8_down 37 = .ok (.ireturn, 1) := by decide +kernel
theorem dX8_down_38 : decode cX8_down 38 = .ok (.aload_n 0, 1) := by decide +kernel
theorem dX8_down_39 : decode cX8_down 39 = .ok (.getfield 41, 3) := by decide +kernel
theorem dX8_down_42 : decode cX8_down 42 = .ok (.invokestatic 175, 3) := by decide +kernel
theorem dX8_down_45 : decode cX8_down 45 = .ok (.iinc 2 1, 3) := by decide +kernel
theorem dX8_down_48 : decode cX8_down 48 = .ok (.goto (-30), 3) := by decide +kernel
theorem dX8_down_51 : decode cX8_down 51 = .ok (.ldc 216, 2) := by decide +kernel
theorem dX8_down_53 : decode cX8_down 53 = .ok (.ireturn, 1) := by decide +kernel
theorem dX8_meet_0 : decode cX8_meet 0 = .ok (.aload_n 0, 1) := by decide +kernel
theorem dX8_meet_1 : decode cX8_meet 1 = .ok (.iload_n 1, 1) := by decide +kernel
theorem dX8_meet_2 : decode cX8_meet 2 = .ok (.invokevirtual 186, 3) := by decide +kernel
theorem dX8_meet_5 : decode cX8_meet 5 = .ok (.ifCond .eq 16, 3) := by decide +kernel
theorem dX8_meet_8 : decode cX8_meet 8 = .ok (.aload_n 0, 1) := by decide +kernel
theorem dX8_meet_9 : decode cX8_meet 9 = .ok (.iload_n 2, 1) := by decide +kernel
theorem dX8_meet_10 : decode cX8_meet 10 = .ok (.invokevirtual 186, 3) := by decide +kernel
theorem dX8_meet_13 : decode cX8_meet 13 = .ok (.ifCond .eq 8, 3) := by decide +kernel
theorem dX8_meet_16 : decode cX8_meet 16 = .ok (.iload_n 1, 1) := by decide +kernel
theorem dX8_meet_17 : decode cX8_meet 17 = .ok (.iload_n 2, 1) := by decide +kernel
theorem dX8_meet_18 : decode cX8_meet 18 = .ok (.if_icmp .ne 6, 3) := by decide +kernel
theorem dX8_meet_21 : decode cX8_meet 21 = .ok (.ldc 67, 2) := by decide +kernel
theorem dX8_meet_23 : decode cX8_meet 23 = .ok (.ireturn, 1) := by decide +kernel
theorem dX8_meet_24 : decode cX8_meet 24 = .ok (.aload_n 0, 1) := by decide +kernel
theorem dX8_meet_25 : decode cX8_meet 25 = .ok (.iconst 0, 1) := by decide +kernel
theorem dX8_meet_26 : decode cX8_meet 26 = .ok (.invokevirtual 212, 3) := by decide +kernel
theorem dX8_meet_29 : decode cX8_meet 29 = .ok (.iconst 0, 1) := by decide +kernel
theorem dX8_meet_30 : decode cX8_meet 30 = .ok (.istore_n 3, 1) := by decide +kernel
theorem dX8_meet_31 : decode cX8_meet 31 = .ok (.iload_n 3, 1) := by decide +kernel
theorem dX8_meet_32 : decode cX8_meet 32 = .ok (.bipush 60, 2) := by decide +kernel
theorem dX8_meet_34 : decode cX8_meet 34 = .ok (.if_icmp .gt 60, 3) := by decide +kernel
theorem dX8_meet_37 : decode cX8_meet 37 = .ok (.aload_n 0, 1) := by decide +kernel
theorem dX8_meet_38 : decode cX8_meet 38 = .ok (.getfield 41, 3) := by decide +kernel
theorem dX8_meet_41 : decode cX8_meet 41 = .ok (.bipush 12, 2) := by decide +kernel
theorem dX8_meet_43 : decode cX8_meet 43 = .ok (.iload_n 1, 1) := by decide +kernel
theorem dX8_meet_44 : decode cX8_meet 44 = .ok (.iadd, 1) := by decide +kernel
theorem dX8_meet_45 : decode cX8_meet 45 = .ok (.iaload, 1) := by decide +kernel
theorem dX8_meet_46 : decode cX8_meet 46 = .ok (.aload_n 0, 1) := by decide +kernel
theorem dX8_meet_47 : decode cX8_meet 47 = .ok (.getfield 41, 3) := by decide +kernel
theorem dX8_meet_50 : decode cX8_meet 50 = .ok (.bipush 12, 2) := by decide +kernel
theorem dX8_meet_52 : decode cX8_meet 52 = .ok (.iload_n 2, 1) := by decide +kernel
theorem dX8_meet_53 : decode cX8_meet 53 = .ok (.iadd, 1) := by decide +kernel
theorem dX8_meet_54 : decode cX8_meet 54 = .ok (.iaload, 1) := by decide +kernel
theorem dX8_meet_55 : decode cX8_meet 55 = .ok (.if_icmp .ne 26, 3) := by decide +kernel
theorem dX8_meet_58 : decode cX8_meet 58 = .ok (.aload_n 0, 1) := by decide +kernel
theorem dX8_meet_59 : decode cX8_meet 59 = .ok (.getfield 41, 3) := by decide +kernel
theorem dX8_meet_62 : decode cX8_meet 62 = .ok (.bipush 17, 2) := by decide +kernel
theorem dX8_meet_64 : decode cX8_meet 64 = .ok (.iload_n 1, 1) := by decide +kernel
theorem dX8_meet_65 : decode cX8_meet 65 = .ok (.iadd, 1) := by decide +kernel
theorem dX8_meet_66 : decode cX8_meet 66 = .ok (.iaload, 1) := by decide +kernel
theorem dX8_meet_67 : decode cX8_meet 67 = .ok (.aload_n 0, 1) := by decide +kernel
theorem dX8_meet_68 : decode cX8_meet 68 = .ok (.getfield 41, 3) := by decide +kernel
theorem dX8_meet_71 : decode cX8_meet 71 = .ok (.bipush 17, 2) := by decide +kernel
theorem dX8_meet_73 : decode cX8_meet 73 = .ok (.iload_n 2, 1) := by decide +kernel
theorem dX8_meet_74 : decode cX8_meet 74 = .ok (.iadd, 1) := by decide +kernel
theorem dX8_meet_75 : decode cX8_meet 75 = .ok (.iaload, 1) := by decide +kernel
theorem dX8_meet_76 : decode cX8_meet 76 = .ok (.if_icmp .ne 5, 3) := by decide +kernel
theorem dX8_meet_79 : decode cX8_meet 79 = .ok (.iload_n 3, 1) := by decide +kernel
theorem dX8_meet_80 : decode cX8_meet 80 = .ok (.ireturn, 1) := by decide +kernel
theorem dX8_meet_81 : decode cX8_meet 81 = .ok (.aload_n 0, 1) := by decide +kernel
theorem dX8_meet_82 : decode cX8_meet 82 = .ok (.getfield 41, 3) := by decide +kernel
theorem dX8_meet_85 : decode cX8_meet 85 = .ok (.invokestatic 175, 3) := by decide +kernel
theorem dX8_meet_88 : decode cX8_meet 88 = .ok (.iinc 3 1, 3) := by decide +kernel
theorem dX8_meet_91 : decode cX8_meet 91 = .ok (.goto (-60), 3) := by decide +kernel
theorem dX8_meet_94 : decode cX8_meet 94 = .ok (.ldc 216, 2) := by decide +kernel
theorem dX8_meet_96 : decode cX8_meet 96 = .ok (.ireturn, 1) := by decide +kernel
theorem dX8_over_0 : decode cX8_over 0 = .ok (.aload_n 0, 1) := by decide +kernel
theorem dX8_over_1 : decode cX8_over 1 = .ok (.getfield 137, 3) := by decide +kernel
theorem dX8_over_4 : decode cX8_over 4 = .ok (.ifCond .ne 6, 3) := by decide +kernel
theorem dX8_over_7 : decode cX8_over 7 = .ok (.ldc 169, 2) := by decide +kernel
theorem dX8_over_9 : decode cX8_over 9 = .ok (.ireturn, 1) := by decide +kernel
theorem dX8_over_10 : decode cX8_over 10 = .ok (.iload_n 1, 1) := by decide +kernel
theorem dX8_over_11 : decode cX8_over 11 = .ok (.invokestatic 203, 3) := by decide +kernel
theorem dX8_over_14 : decode cX8_over 14 = .ok (.ifCond .eq 15, 3) := by decide +kernel
theorem dX8_over_17 : decode cX8_over 17 = .ok (.iload_n 2, 1) := by decide +kernel
theorem dX8_over_18 : decode cX8_over 18 = .ok (.i2l, 1) := by decide +kernel
theorem dX8_over_19 : decode cX8_over 19 = .ok (.lconst 0, 1) := by decide +kernel
theorem dX8_over_20 : decode cX8_over 20 = .ok (.ldc2_w 195, 3) := by decide +kernel
theorem dX8_over_23 : decode cX8_over 23 = .ok (.invokestatic 57, 3) := by decide +kernel
theorem dX8_over_26 : decode cX8_over 26 = .ok (.ifCond .ne 6, 3) := by decide +kernel
theorem dX8_over_29 : decode cX8_over 29 = .ok (.ldc 67, 2) := by decide +kernel
theorem dX8_over_31 : decode cX8_over 31 = .ok (.ireturn, 1) := by decide +kernel
theorem dX8_over_32 : decode cX8_over 32 = .ok (.aload_n 0, 1) := by decide +kernel
theorem dX8_over_33 : decode cX8_over 33 = .ok (.iload_n 2, 1) := by decide +kernel
theorem dX8_over_34 : decode cX8_over 34 = .ok (.invokevirtual 212, 3) := by decide +kernel
theorem dX8_over_37 : decode cX8_over 37 = .ok (.aload_n 0, 1) := by decide +kernel
theorem dX8_over_38 : decode cX8_over 38 = .ok (.getfield 41, 3) := by decide +kernel
theorem dX8_over_41 : decode cX8_over 41 = .ok (.iload_n 1, 1) := by decide +kernel
theorem dX8_over_42 : decode cX8_over 42 = .ok (.invokestatic 206, 3) := by decide +kernel
theorem dX8_over_45 : decode cX8_over 45 = .ok (.invokestatic 183, 3) := by decide +kernel
theorem dX8_over_48 : decode cX8_over 48 = .ok (.ireturn, 1) := by decide +kernel
theorem dX8_cell_0 : decode cX8_cell 0 = .ok (.sipush 210, 3) := by decide +kernel
theorem dX8_cell_3 : decode cX8_cell 3 = .ok (.iload_n 0, 1) := by decide +kernel
theorem dX8_cell_4 : decode cX8_cell 4 = .ok (.imul, 1) := by decide +kernel
theorem dX8_cell_5 : decode cX8_cell 5 = .ok (.bipush 21, 2) := by decide +kernel
theorem dX8_cell_7 : decode cX8_cell 7 = .ok (.iload_n 1, 1) := by decide +kernel
theorem dX8_cell_8 : decode cX8_cell 8 = .ok (.imul, 1) := by decide +kernel
theorem dX8_cell_9 : decode cX8_cell 9 = .ok (.iadd, 1) := by decide +kernel
theorem dX8_cell_10 : decode cX8_cell 10 = .ok (.iload_n 2, 1) := by decide +kernel
theorem dX8_cell_11 : decode cX8_cell 11 = .ok (.iadd, 1) := by decide +kernel
theorem dX8_cell_12 : decode cX8_cell 12 = .ok (.ireturn, 1) := by decide +kernel
theorem dX8_fewestBy_0 : decode cX8_fewestBy 0 = .ok (.aload_n 0, 1) := by decide +kernel
theorem dX8_fewestBy_1 : decode cX8_fewestBy 1 = .ok (.getfield 22, 3) := by decide +kernel
theorem dX8_fewestBy_4 : decode cX8_fewestBy 4 = .ok (.iload_n 1, 1) := by decide +kernel
theorem dX8_fewestBy_5 : decode cX8_fewestBy 5 = .ok (.iload 4, 2) := by decide +kernel
theorem dX8_fewestBy_7 : decode cX8_fewestBy 7 = .ok (.iload 5, 2) := by decide +kernel
theorem dX8_fewestBy_9 : decode cX8_fewestBy 9 = .ok (.invokestatic 165, 3) := by decide +kernel
theorem dX8_fewestBy_12 : decode cX8_fewestBy 12 = .ok (.invokestatic 157, 3) := by decide +kernel
theorem dX8_fewestBy_15 : decode cX8_fewestBy 15 = .ok (.istore 6, 2) := by decide +kernel
theorem dX8_fewestBy_17 : decode cX8_fewestBy 17 = .ok (.iload 5, 2) := by decide +kernel
theorem dX8_fewestBy_19 : decode cX8_fewestBy 19 = .ok (.aload_n 0, 1) := by decide +kernel
theorem dX8_fewestBy_20 : decode cX8_fewestBy 20 = .ok (.getfield 44, 3) := by decide +kernel
theorem dX8_fewestBy_23 : decode cX8_fewestBy 23 = .ok (.iload_n 2, 1) := by decide +kernel
theorem dX8_fewestBy_24 : decode cX8_fewestBy 24 = .ok (.iconst 1, 1) := by decide +kernel
theorem dX8_fewestBy_25 : decode cX8_fewestBy 25 = .ok (.isub, 1) := by decide +kernel
theorem dX8_fewestBy_26 : decode cX8_fewestBy 26 = .ok (.aload_n 0, 1) := by decide +kernel
theorem dX8_fewestBy_27 : decode cX8_fewestBy 27 = .ok (.getfield 22, 3) := by decide +kernel
theorem dX8_fewestBy_30 : decode cX8_fewestBy 30 = .ok (.iload_n 3, 1) := by decide +kernel
theorem dX8_fewestBy_31 : decode cX8_fewestBy 31 = .ok (.iload 6, 2) := by decide +kernel
theorem dX8_fewestBy_33 : decode cX8_fewestBy 33 = .ok (.invokestatic 161, 3) := by decide +kernel
theorem dX8_fewestBy_36 : decode cX8_fewestBy 36 = .ok (.iload 6, 2) := by decide +kernel
theorem dX8_fewestBy_38 : decode cX8_fewestBy 38 = .ok (.invokestatic 217, 3) := by decide +kernel
theorem dX8_fewestBy_41 : decode cX8_fewestBy 41 = .ok (.iaload, 1) := by decide +kernel
theorem dX8_fewestBy_42 : decode cX8_fewestBy 42 = .ok (.iadd, 1) := by decide +kernel
theorem dX8_fewestBy_43 : decode cX8_fewestBy 43 = .ok (.ireturn, 1) := by decide +kernel
theorem dX8_layFewest_0 : decode cX8_layFewest 0 = .ok (.iconst 0, 1) := by decide +kernel
theorem dX8_layFewest_1 : decode cX8_layFewest 1 = .ok (.istore 5, 2) := by decide +kernel
theorem dX8_layFewest_3 : decode cX8_layFewest 3 = .ok (.iload 5, 2) := by decide +kernel
theorem dX8_layFewest_5 : decode cX8_layFewest 5 = .ok (.iload_n 3, 1) := by decide +kernel
theorem dX8_layFewest_6 : decode cX8_layFewest 6 = .ok (.if_icmp .gt 134, 3) := by decide +kernel
theorem dX8_layFewest_9 : decode cX8_layFewest 9 = .ok (.iconst 0, 1) := by decide +kernel
theorem dX8_layFewest_10 : decode cX8_layFewest 10 = .ok (.istore 6, 2) := by decide +kernel
theorem dX8_layFewest_12 : decode cX8_layFewest 12 = .ok (.iload 6, 2) := by decide +kernel
theorem dX8_layFewest_14 : decode cX8_layFewest 14 = .ok (.bipush 10, 2) := by decide +kernel
theorem dX8_layFewest_16 : decode cX8_layFewest 16 = .ok (.if_icmp .ge 118, 3) := by decide +kernel
theorem dX8_layFewest_19 : decode cX8_layFewest 19 = .ok (.iconst 0, 1) := by decide +kernel
theorem dX8_layFewest_20 : decode cX8_layFewest 20 = .ok (.istore 7, 2) := by decide +kernel
theorem dX8_layFewest_22 : decode cX8_layFewest 22 = .ok (.iload 7, 2) := by decide +kernel
theorem dX8_layFewest_24 : decode cX8_layFewest 24 = .ok (.bipush 21, 2) := by decide +kernel
theorem dX8_layFewest_26 : decode cX8_layFewest 26 = .ok (.if_icmp .ge 102, 3) := by decide +kernel
theorem dX8_layFewest_29 : decode cX8_layFewest 29 = .ok (.iload 5, 2) := by decide +kernel
theorem dX8_layFewest_31 : decode cX8_layFewest 31 = .ok (.ifCond .gt 16, 3) := by decide +kernel
theorem dX8_layFewest_34 : decode cX8_layFewest 34 = .ok (.iload 6, 2) := by decide +kernel
theorem dX8_layFewest_36 : decode cX8_layFewest 36 = .ok (.iload_n 2, 1) := by decide +kernel
theorem dX8_layFewest_37 : decode cX8_layFewest 37 = .ok (.if_icmp .ne 10, 3) := by decide +kernel
theorem dX8_layFewest_40 : decode cX8_layFewest 40 = .ok (.iload 7, 2) := by decide +kernel
theorem dX8_layFewest_42 : decode cX8_layFewest 42 = .ok (.iload 4, 2) := by decide +kernel
theorem dX8_layFewest_44 : decode cX8_layFewest 44 = .ok (.if_icmp .ge 8, 3) := by decide +kernel
theorem dX8_layFewest_47 : decode cX8_layFewest 47 = .ok (.ldc 220, 2) := by decide +kernel
theorem dX8_layFewest_49 : decode cX8_layFewest 49 = .ok (.goto 4, 3) := by decide +kernel
theorem dX8_layFewest_52 : decode cX8_layFewest 52 = .ok (.iconst 0, 1) := by decide +kernel
theorem dX8_layFewest_53 : decode cX8_layFewest 53 = .ok (.istore 8, 2) := by decide +kernel
theorem dX8_layFewest_55 : decode cX8_layFewest 55 = .ok (.iconst 0, 1) := by decide +kernel
theorem dX8_layFewest_56 : decode cX8_layFewest 56 = .ok (.istore 9, 2) := by decide +kernel
theorem dX8_layFewest_58 : decode cX8_layFewest 58 = .ok (.iload 9, 2) := by decide +kernel
theorem dX8_layFewest_60 : decode cX8_layFewest 60 = .ok (.iconst 4, 1) := by decide +kernel
theorem dX8_layFewest_61 : decode cX8_layFewest 61 = .ok (.if_icmp .ge 45, 3) := by decide +kernel
theorem dX8_layFewest_64 : decode cX8_layFewest 64 = .ok (.iload 5, 2) := by decide +kernel
theorem dX8_layFewest_66 : decode cX8_layFewest 66 = .ok (.ifCond .le 40, 3) := by decide +kernel
theorem dX8_layFewest_69 : decode cX8_layFewest 69 = .ok (.aload_n 0, 1) := by decide +kernel
theorem dX8_layFewest_70 : decode cX8_layFewest 70 = .ok (.iload_n 1, 1) := by decide +kernel
theorem dX8_layFewest_71 : decode cX8_layFewest 71 = .ok (.iload 5, 2) := by decide +kernel
theorem dX8_layFewest_73 : decode cX8_layFewest 73 = .ok (.iload 6, 2) := by decide +kernel
theorem dX8_layFewest_75 : decode cX8_layFewest 75 = .ok (.iload 7, 2) := by decide +kernel
theorem dX8_layFewest_77 : decode cX8_layFewest 77 = .ok (.iload 9, 2) := by decide +kernel
theorem dX8_layFewest_79 : decode cX8_layFewest 79 = .ok (.invokevirtual 221, 3) := by decide +kernel
theorem dX8_layFewest_82 : decode cX8_layFewest 82 = .ok (.istore 10, 2) := by decide +kernel
theorem dX8_layFewest_84 : decode cX8_layFewest 84 = .ok (.iload 10, 2) := by decide +kernel
theorem dX8_layFewest_86 : decode cX8_layFewest 86 = .ok (.iload 8, 2) := by decide +kernel
theorem dX8_layFewest_88 : decode cX8_layFewest 88 = .ok (.if_icmp .ge 8, 3) := by decide +kernel
theorem dX8_layFewest_91 : decode cX8_layFewest 91 = .ok (.iload 10, 2) := by decide +kernel
theorem dX8_layFewest_93 : decode cX8_layFewest 93 = .ok (.goto 5, 3) := by decide +kernel
theorem dX8_layFewest_96 : decode cX8_layFewest 96 = .ok (.iload 8, 2) := by decide +kernel
theorem dX8_layFewest_98 : decode cX8_layFewest 98 = .ok (.istore 8, 2) := by decide +kernel
theorem dX8_layFewest_100 : decode cX8_layFewest 100 = .ok (.iinc 9 1, 3) := by decide +kernel
theorem dX8_layFewest_103 : decode cX8_layFewest 103 = .ok (.goto (-45), 3) := by decide +kernel
theorem dX8_layFewest_106 : decode cX8_layFewest 106 = .ok (.aload_n 0, 1) := by decide +kernel
theorem dX8_layFewest_107 : decode cX8_layFewest 107 = .ok (.getfield 44, 3) := by decide +kernel
theorem dX8_layFewest_110 : decode cX8_layFewest 110 = .ok (.iload 5, 2) := by decide +kernel
theorem dX8_layFewest_112 : decode cX8_layFewest 112 = .ok (.iload 6, 2) := by decide +kernel
theorem dX8_layFewest_114 : decode cX8_layFewest 114 = .ok (.iload 7, 2) := by decide +kernel
theorem dX8_layFewest_116 : decode cX8_layFewest 116 = .ok (.invokestatic 217, 3) := by decide +kernel
theorem dX8_layFewest_119 : decode cX8_layFewest 119 = .ok (.iload 8, 2) := by decide +kernel
theorem dX8_layFewest_121 : decode cX8_layFewest 121 = .ok (.iastore, 1) := by decide +kernel
theorem dX8_layFewest_122 : decode cX8_layFewest 122 = .ok (.iinc 7 1, 3) := by decide +kernel
theorem dX8_layFewest_125 : decode cX8_layFewest 125 = .ok (.goto (-103), 3) := by decide +kernel
theorem dX8_layFewest_128 : decode cX8_layFewest 128 = .ok (.iinc 6 1, 3) := by decide +kernel
theorem dX8_layFewest_131 : decode cX8_layFewest 131 = .ok (.goto (-119), 3) := by decide +kernel
theorem dX8_layFewest_134 : decode cX8_layFewest 134 = .ok (.iinc 5 1, 3) := by decide +kernel
theorem dX8_layFewest_137 : decode cX8_layFewest 137 = .ok (.goto (-134), 3) := by decide +kernel
theorem dX8_layFewest_140 : decode cX8_layFewest 140 = .ok (.return_, 1) := by decide +kernel
theorem dX8_above_0 : decode cX8_above 0 = .ok (.aload_n 0, 1) := by decide +kernel
theorem dX8_above_1 : decode cX8_above 1 = .ok (.iload_n 1, 1) := by decide +kernel
theorem dX8_above_2 : decode cX8_above 2 = .ok (.invokevirtual 186, 3) := by decide +kernel
theorem dX8_above_5 : decode cX8_above 5 = .ok (.ifCond .eq 41, 3) := by decide +kernel
theorem dX8_above_8 : decode cX8_above 8 = .ok (.iload_n 2, 1) := by decide +kernel
theorem dX8_above_9 : decode cX8_above 9 = .ok (.invokestatic 203, 3) := by decide +kernel
theorem dX8_above_12 : decode cX8_above 12 = .ok (.ifCond .eq 34, 3) := by decide +kernel
theorem dX8_above_15 : decode cX8_above 15 = .ok (.iload_n 3, 1) := by decide +kernel
theorem dX8_above_16 : decode cX8_above 16 = .ok (.i2l, 1) := by decide +kernel
theorem dX8_above_17 : decode cX8_above 17 = .ok (.lconst 1, 1) := by decide +kernel
theorem dX8_above_18 : decode cX8_above 18 = .ok (.ldc2_w 225, 3) := by decide +kernel
theorem dX8_above_21 : decode cX8_above 21 = .ok (.invokestatic 57, 3) := by decide +kernel
theorem dX8_above_24 : decode cX8_above 24 = .ok (.ifCond .eq 22, 3) := by decide +kernel
theorem dX8_above_27 : decode cX8_above 27 = .ok (.iload 4, 2) := by decide +kernel
theorem dX8_above_29 : decode cX8_above 29 = .ok (.i2l, 1) := by decide +kernel
theorem dX8_above_30 : decode cX8_above 30 = .ok (.lconst 0, 1) := by decide +kernel
theorem dX8_above_31 : decode cX8_above 31 = .ok (.ldc2_w 189, 3) := by decide +kernel
theorem dX8_above_34 : decode cX8_above 34 = .ok (.invokestatic 57, 3) := by decide +kernel
theorem dX8_above_37 : decode cX8_above 37 = .ok (.ifCond .eq 9, 3) := by decide +kernel
theorem dX8_above_40 : decode cX8_above 40 = .ok (.iload 5, 2) := by decide +kernel
theorem dX8_above_42 : decode cX8_above 42 = .ok (.iconst (-1), 1) := by decide +kernel
theorem dX8_above_43 : decode cX8_above 43 = .ok (.if_icmp .ge 6, 3) := by decide +kernel
theorem dX8_above_46 : decode cX8_above 46 = .ok (.ldc 67, 2) := by decide +kernel
theorem dX8_above_48 : decode cX8_above 48 = .ok (.ireturn, 1) := by decide +kernel
theorem dX8_above_49 : decode cX8_above 49 = .ok (.aload_n 0, 1) := by decide +kernel
theorem dX8_above_50 : decode cX8_above 50 = .ok (.getfield 22, 3) := by decide +kernel
theorem dX8_above_53 : decode cX8_above 53 = .ok (.bipush 7, 2) := by decide +kernel
theorem dX8_above_55 : decode cX8_above 55 = .ok (.iload_n 1, 1) := by decide +kernel
theorem dX8_above_56 : decode cX8_above 56 = .ok (.iadd, 1) := by decide +kernel
theorem dX8_above_57 : decode cX8_above 57 = .ok (.iaload, 1) := by decide +kernel
theorem dX8_above_58 : decode cX8_above 58 = .ok (.istore 6, 2) := by decide +kernel
theorem dX8_above_60 : decode cX8_above 60 = .ok (.aload_n 0, 1) := by decide +kernel
theorem dX8_above_61 : decode cX8_above 61 = .ok (.iload 6, 2) := by decide +kernel
theorem dX8_above_63 : decode cX8_above 63 = .ok (.iload_n 2, 1) := by decide +kernel
theorem dX8_above_64 : decode cX8_above 64 = .ok (.iload_n 3, 1) := by decide +kernel
theorem dX8_above_65 : decode cX8_above 65 = .ok (.iload 4, 2) := by decide +kernel
theorem dX8_above_67 : decode cX8_above 67 = .ok (.invokevirtual 227, 3) := by decide +kernel
theorem dX8_above_70 : decode cX8_above 70 = .ok (.aload_n 0, 1) := by decide +kernel
theorem dX8_above_71 : decode cX8_above 71 = .ok (.getfield 22, 3) := by decide +kernel
theorem dX8_above_74 : decode cX8_above 74 = .ok (.bipush 12, 2) := by decide +kernel
theorem dX8_above_76 : decode cX8_above 76 = .ok (.iload_n 1, 1) := by decide +kernel
theorem dX8_above_77 : decode cX8_above 77 = .ok (.iadd, 1) := by decide +kernel
theorem dX8_above_78 : decode cX8_above 78 = .ok (.iaload, 1) := by decide +kernel
theorem dX8_above_79 : decode cX8_above 79 = .ok (.istore 7, 2) := by decide +kernel
theorem dX8_above_81 : decode cX8_above 81 = .ok (.aload_n 0, 1) := by decide +kernel
theorem dX8_above_82 : decode cX8_above 82 = .ok (.getfield 22, 3) := by decide +kernel
theorem dX8_above_85 : decode cX8_above 85 = .ok (.bipush 17, 2) := by decide +kernel
theorem dX8_above_87 : decode cX8_above 87 = .ok (.iload_n 1, 1) := by decide +kernel
theorem dX8_above_88 : decode cX8_above 88 = .ok (.iadd, 1) := by decide +kernel
theorem dX8_above_89 : decode cX8_above 89 = .ok (.iaload, 1) := by decide +kernel
theorem dX8_above_90 : decode cX8_above 90 = .ok (.istore 8, 2) := by decide +kernel
theorem dX8_above_92 : decode cX8_above 92 = .ok (.aload_n 0, 1) := by decide +kernel
theorem dX8_above_93 : decode cX8_above 93 = .ok (.getfield 44, 3) := by decide +kernel
theorem dX8_above_96 : decode cX8_above 96 = .ok (.iload_n 3, 1) := by decide +kernel
theorem dX8_above_97 : decode cX8_above 97 = .ok (.iload 7, 2) := by decide +kernel
theorem dX8_above_99 : decode cX8_above 99 = .ok (.iload 8, 2) := by decide +kernel
theorem dX8_above_101 : decode cX8_above 101 = .ok (.invokestatic 217, 3) := by decide +kernel
theorem dX8_above_104 : decode cX8_above 104 = .ok (.iaload, 1) := by decide +kernel
theorem dX8_above_105 : decode cX8_above 105 = .ok (.istore 9, 2) := by decide +kernel
theorem dX8_above_107 : decode cX8_above 107 = .ok (.iload 9, 2) := by decide +kernel
theorem dX8_above_109 : decode cX8_above 109 = .ok (.aload_n 0, 1) := by decide +kernel
theorem dX8_above_110 : decode cX8_above 110 = .ok (.getfield 22, 3) := by decide +kernel
theorem dX8_above_113 : decode cX8_above 113 = .ok (.bipush 22, 2) := by decide +kernel
theorem dX8_above_115 : decode cX8_above 115 = .ok (.iload_n 1, 1) := by decide +kernel
theorem dX8_above_116 : decode cX8_above 116 = .ok (.iadd, 1) := by decide +kernel
theorem dX8_above_117 : decode cX8_above 117 = .ok (.iaload, 1) := by decide +kernel
theorem dX8_above_118 : decode cX8_above 118 = .ok (.if_icmp .le 6, 3) := by decide +kernel
theorem dX8_above_121 : decode cX8_above 121 = .ok (.ldc 216, 2) := by decide +kernel
theorem dX8_above_123 : decode cX8_above 123 = .ok (.ireturn, 1) := by decide +kernel
theorem dX8_above_124 : decode cX8_above 124 = .ok (.iload 5, 2) := by decide +kernel
theorem dX8_above_126 : decode cX8_above 126 = .ok (.ifCond .ge 6, 3) := by decide +kernel
theorem dX8_above_129 : decode cX8_above 129 = .ok (.iload 9, 2) := by decide +kernel
theorem dX8_above_131 : decode cX8_above 131 = .ok (.ireturn, 1) := by decide +kernel
theorem dX8_above_132 : decode cX8_above 132 = .ok (.iconst 0, 1) := by decide +kernel
theorem dX8_above_133 : decode cX8_above 133 = .ok (.istore 10, 2) := by decide +kernel
theorem dX8_above_135 : decode cX8_above 135 = .ok (.iload 10, 2) := by decide +kernel
theorem dX8_above_137 : decode cX8_above 137 = .ok (.iload_n 3, 1) := by decide +kernel
theorem dX8_above_138 : decode cX8_above 138 = .ok (.if_icmp .ge 96, 3) := by decide +kernel
theorem dX8_above_141 : decode cX8_above 141 = .ok (.iload_n 3, 1) := by decide +kernel
theorem dX8_above_142 : decode cX8_above 142 = .ok (.iload 10, 2) := by decide +kernel
theorem dX8_above_144 : decode cX8_above 144 = .ok (.isub, 1) := by decide +kernel
theorem dX8_above_145 : decode cX8_above 145 = .ok (.istore 11, 2) := by decide +kernel
theorem dX8_above_147 : decode cX8_above 147 = .ok (.iconst 0, 1) := by decide +kernel
theorem dX8_above_148 : decode cX8_above 148 = .ok (.istore 12, 2) := by decide +kernel
theorem dX8_above_150 : decode cX8_above 150 = .ok (.aload_n 0, 1) := by decide +kernel
theorem dX8_above_151 : decode cX8_above 151 = .ok (.iload 6, 2) := by decide +kernel
theorem dX8_above_153 : decode cX8_above 153 = .ok (.iload 11, 2) := by decide +kernel
theorem dX8_above_155 : decode cX8_above 155 = .ok (.iload 7, 2) := by decide +kernel
theorem dX8_above_157 : decode cX8_above 157 = .ok (.iload 8, 2) := by decide +kernel
theorem dX8_above_159 : decode cX8_above 159 = .ok (.iload 12, 2) := by decide +kernel
theorem dX8_above_161 : decode cX8_above 161 = .ok (.invokevirtual 221, 3) := by decide +kernel
theorem dX8_above_164 : decode cX8_above 164 = .ok (.aload_n 0, 1) := by decide +kernel
theorem dX8_above_165 : decode cX8_above 165 = .ok (.getfield 44, 3) := by decide +kernel
theorem dX8_above_168 : decode cX8_above 168 = .ok (.iload 11, 2) := by decide +kernel
theorem dX8_above_170 : decode cX8_above 170 = .ok (.iload 7, 2) := by decide +kernel
theorem dX8_above_172 : decode cX8_above 172 = .ok (.iload 8, 2) := by decide +kernel
theorem dX8_above_174 : decode cX8_above 174 = .ok (.invokestatic 217, 3) := by decide +kernel
theorem dX8_above_177 : decode cX8_above 177 = .ok (.iaload, 1) := by decide +kernel
theorem dX8_above_178 : decode cX8_above 178 = .ok (.if_icmp .eq 9, 3) := by decide +kernel
theorem dX8_above_181 : decode cX8_above 181 = .ok (.iinc 12 1, 3) := by decide +kernel
theorem dX8_above_184 : decode cX8_above 184 = .ok (.goto (-34), 3) := by decide +kernel
theorem dX8_above_187 : decode cX8_above 187 = .ok (.iload 10, 2) := by decide +kernel
theorem dX8_above_189 : decode cX8_above 189 = .ok (.iload 5, 2) := by decide +kernel
theorem dX8_above_191 : decode cX8_above 191 = .ok (.if_icmp .ne 6, 3) := by decide +kernel
theorem dX8_above_194 : decode cX8_above 194 = .ok (.iload 12, 2) := by decide +kernel
theorem dX8_above_196 : decode cX8_above 196 = .ok (.ireturn, 1) := by decide +kernel
theorem dX8_above_197 : decode cX8_above 197 = .ok (.aload_n 0, 1) := by decide +kernel
theorem dX8_above_198 : decode cX8_above 198 = .ok (.getfield 22, 3) := by decide +kernel
theorem dX8_above_201 : decode cX8_above 201 = .ok (.iload 6, 2) := by decide +kernel
theorem dX8_above_203 : decode cX8_above 203 = .ok (.iload 8, 2) := by decide +kernel
theorem dX8_above_205 : decode cX8_above 205 = .ok (.iload 12, 2) := by decide +kernel
theorem dX8_above_207 : decode cX8_above 207 = .ok (.invokestatic 165, 3) := by decide +kernel
theorem dX8_above_210 : decode cX8_above 210 = .ok (.invokestatic 157, 3) := by decide +kernel
theorem dX8_above_213 : decode cX8_above 213 = .ok (.istore 8, 2) := by decide +kernel
theorem dX8_above_215 : decode cX8_above 215 = .ok (.aload_n 0, 1) := by decide +kernel
theorem dX8_above_216 : decode cX8_above 216 = .ok (.getfield 22, 3) := by decide +kernel
theorem dX8_above_219 : decode cX8_above 219 = .ok (.iload 7, 2) := by decide +kernel
theorem dX8_above_221 : decode cX8_above 221 = .ok (.iload 8, 2) := by decide +kernel
theorem dX8_above_223 : decode cX8_above 223 = .ok (.invokestatic 161, 3) := by decide +kernel
theorem dX8_above_226 : decode cX8_above 226 = .ok (.istore 7, 2) := by decide +kernel
theorem dX8_above_228 : decode cX8_above 228 = .ok (.iinc 10 1, 3) := by decide +kernel
theorem dX8_above_231 : decode cX8_above 231 = .ok (.goto (-96), 3) := by decide +kernel
theorem dX8_above_234 : decode cX8_above 234 = .ok (.ldc 216, 2) := by decide +kernel
theorem dX8_above_236 : decode cX8_above 236 = .ok (.ireturn, 1) := by decide +kernel
theorem dX8_lies_0 : decode cX8_lies 0 = .ok (.aload_n 0, 1) := by decide +kernel
theorem dX8_lies_1 : decode cX8_lies 1 = .ok (.getfield 13, 3) := by decide +kernel
theorem dX8_lies_4 : decode cX8_lies 4 = .ok (.iload_n 1, 1) := by decide +kernel
theorem dX8_lies_5 : decode cX8_lies 5 = .ok (.iaload, 1) := by decide +kernel
theorem dX8_lies_6 : decode cX8_lies 6 = .ok (.ifCond .ge 9, 3) := by decide +kernel
theorem dX8_lies_9 : decode cX8_lies 9 = .ok (.aload_n 0, 1) := by decide +kernel
theorem dX8_lies_10 : decode cX8_lies 10 = .ok (.iconst 1, 1) := by decide +kernel
theorem dX8_lies_11 : decode cX8_lies 11 = .ok (.invokevirtual 68, 3) := by decide +kernel
theorem dX8_lies_14 : decode cX8_lies 14 = .ok (.ireturn, 1) := by decide +kernel
theorem dX8_lies_15 : decode cX8_lies 15 = .ok (.iload_n 2, 1) := by decide +kernel
theorem dX8_lies_16 : decode cX8_lies 16 = .ok (.ifCond .lt 19, 3) := by decide +kernel
theorem dX8_lies_19 : decode cX8_lies 19 = .ok (.iload_n 2, 1) := by decide +kernel
theorem dX8_lies_20 : decode cX8_lies 20 = .ok (.i2l, 1) := by decide +kernel
theorem dX8_lies_21 : decode cX8_lies 21 = .ok (.iload_n 3, 1) := by decide +kernel
theorem dX8_lies_22 : decode cX8_lies 22 = .ok (.i2l, 1) := by decide +kernel
theorem dX8_lies_23 : decode cX8_lies 23 = .ok (.ladd, 1) := by decide +kernel
theorem dX8_lies_24 : decode cX8_lies 24 = .ok (.aload_n 0, 1) := by decide +kernel
theorem dX8_lies_25 : decode cX8_lies 25 = .ok (.getfield 13, 3) := by decide +kernel
theorem dX8_lies_28 : decode cX8_lies 28 = .ok (.iload_n 1, 1) := by decide +kernel
theorem dX8_lies_29 : decode cX8_lies 29 = .ok (.iaload, 1) := by decide +kernel
theorem dX8_lies_30 : decode cX8_lies 30 = .ok (.i2l, 1) := by decide +kernel
theorem dX8_lies_31 : decode cX8_lies 31 = .ok (.lcmp, 1) := by decide +kernel
theorem dX8_lies_32 : decode cX8_lies 32 = .ok (.ifCond .le 11, 3) := by decide +kernel
theorem dX8_lies_35 : decode cX8_lies 35 = .ok (.aload_n 0, 1) := by decide +kernel
theorem dX8_lies_36 : decode cX8_lies 36 = .ok (.iconst 2, 1) := by decide +kernel
theorem dX8_lies_37 : decode cX8_lies 37 = .ok (.invokevirtual 68, 3) := by decide +kernel
theorem dX8_lies_40 : decode cX8_lies 40 = .ok (.goto 4, 3) := by decide +kernel
theorem dX8_lies_43 : decode cX8_lies 43 = .ok (.iconst 0, 1) := by decide +kernel
theorem dX8_lies_44 : decode cX8_lies 44 = .ok (.ireturn, 1) := by decide +kernel
theorem dX8_petition_0 : decode cX8_petition 0 = .ok (.aload_n 0, 1) := by decide +kernel
theorem dX8_petition_1 : decode cX8_petition 1 = .ok (.getfield 137, 3) := by decide +kernel
theorem dX8_petition_4 : decode cX8_petition 4 = .ok (.ifCond .ne 6, 3) := by decide +kernel
theorem dX8_petition_7 : decode cX8_petition 7 = .ok (.ldc 169, 2) := by decide +kernel
theorem dX8_petition_9 : decode cX8_petition 9 = .ok (.ireturn, 1) := by decide +kernel
theorem dX8_petition_10 : decode cX8_petition 10 = .ok (.iload_n 1, 1) := by decide +kernel
theorem dX8_petition_11 : decode cX8_petition 11 = .ok (.invokestatic 203, 3) := by decide +kernel
theorem dX8_petition_14 : decode cX8_petition 14 = .ok (.ifCond .eq 23, 3) := by decide +kernel
theorem dX8_petition_17 : decode cX8_petition 17 = .ok (.iload_n 2, 1) := by decide +kernel
theorem dX8_petition_18 : decode cX8_petition 18 = .ok (.invokestatic 61, 3) := by decide +kernel
theorem dX8_petition_21 : decode cX8_petition 21 = .ok (.ifCond .eq 16, 3) := by decide +kernel
theorem dX8_petition_24 : decode cX8_petition 24 = .ok (.iload 4, 2) := by decide +kernel
theorem dX8_petition_26 : decode cX8_petition 26 = .ok (.i2l, 1) := by decide +kernel
theorem dX8_petition_27 : decode cX8_petition 27 = .ok (.lconst 1, 1) := by decide +kernel
theorem dX8_petition_28 : decode cX8_petition 28 = .ok (.ldc2_w 231, 3) := by decide +kernel
theorem dX8_petition_31 : decode cX8_petition 31 = .ok (.invokestatic 57, 3) := by decide +kernel
theorem dX8_petition_34 : decode cX8_petition 34 = .ok (.ifCond .ne 6, 3) := by decide +kernel
theorem dX8_petition_37 : decode cX8_petition 37 = .ok (.ldc 67, 2) := by decide +kernel
theorem dX8_petition_39 : decode cX8_petition 39 = .ok (.ireturn, 1) := by decide +kernel
theorem dX8_petition_40 : decode cX8_petition 40 = .ok (.aload_n 0, 1) := by decide +kernel
theorem dX8_petition_41 : decode cX8_petition 41 = .ok (.iload_n 2, 1) := by decide +kernel
theorem dX8_petition_42 : decode cX8_petition 42 = .ok (.iload_n 3, 1) := by decide +kernel
theorem dX8_petition_43 : decode cX8_petition 43 = .ok (.iload 4, 2) := by decide +kernel
theorem dX8_petition_45 : decode cX8_petition 45 = .ok (.invokevirtual 233, 3) := by decide +kernel
theorem dX8_petition_48 : decode cX8_petition 48 = .ok (.istore 5, 2) := by decide +kernel
theorem dX8_petition_50 : decode cX8_petition 50 = .ok (.iload 5, 2) := by decide +kernel
theorem dX8_petition_52 : decode cX8_petition 52 = .ok (.ifCond .ge 6, 3) := by decide +kernel
theorem dX8_petition_55 : decode cX8_petition 55 = .ok (.iload 5, 2) := by decide +kernel
theorem dX8_petition_57 : decode cX8_petition 57 = .ok (.ireturn, 1) := by decide +kernel
theorem dX8_petition_58 : decode cX8_petition 58 = .ok (.iconst 0, 1) := by decide +kernel
theorem dX8_petition_59 : decode cX8_petition 59 = .ok (.istore 6, 2) := by decide +kernel
theorem dX8_petition_61 : decode cX8_petition 61 = .ok (.iload 6, 2) := by decide +kernel
theorem dX8_petition_63 : decode cX8_petition 63 = .ok (.iload 4, 2) := by decide +kernel
theorem dX8_petition_65 : decode cX8_petition 65 = .ok (.if_icmp .ge 33, 3) := by decide +kernel
theorem dX8_petition_68 : decode cX8_petition 68 = .ok (.aload_n 0, 1) := by decide +kernel
theorem dX8_petition_69 : decode cX8_petition 69 = .ok (.aload_n 0, 1) := by decide +kernel
theorem dX8_petition_70 : decode cX8_petition 70 = .ok (.getfield 16, 3) := by decide +kernel
theorem dX8_petition_73 : decode cX8_petition 73 = .ok (.bipush 40, 2) := by decide +kernel
theorem dX8_petition_75 : decode cX8_petition 75 = .ok (.iload_n 2, 1) := by decide +kernel
theorem dX8_petition_76 : decode cX8_petition 76 = .ok (.imul, 1) := by decide +kernel
theorem dX8_petition_77 : decode cX8_petition 77 = .ok (.iload_n 3, 1) := by decide +kernel
theorem dX8_petition_78 : decode cX8_petition 78 = .ok (.iadd, 1) := by decide +kernel
theorem dX8_petition_79 : decode cX8_petition 79 = .ok (.iload 6, 2) := by decide +kernel
theorem dX8_petition_81 : decode cX8_petition 81 = .ok (.iadd, 1) := by decide +kernel
theorem dX8_petition_82 : decode cX8_petition 82 = .ok (.iaload, 1) := by decide +kernel
theorem dX8_petition_83 : decode cX8_petition 83 = .ok (.invokevirtual 186, 3) := by decide +kernel
theorem dX8_petition_86 : decode cX8_petition 86 = .ok (.ifCond .ne 6, 3) := by decide +kernel
theorem dX8_petition_89 : decode cX8_petition 89 = .ok (.ldc 67, 2) := by decide +kernel
theorem dX8_petition_91 : decode cX8_petition 91 = .ok (.ireturn, 1) := by decide +kernel
theorem dX8_petition_92 : decode cX8_petition 92 = .ok (.iinc 6 1, 3) := by decide +kernel
theorem dX8_petition_95 : decode cX8_petition 95 = .ok (.goto (-34), 3) := by decide +kernel
theorem dX8_petition_98 : decode cX8_petition 98 = .ok (.aload_n 0, 1) := by decide +kernel
theorem dX8_petition_99 : decode cX8_petition 99 = .ok (.iconst 0, 1) := by decide +kernel
theorem dX8_petition_100 : decode cX8_petition 100 = .ok (.invokevirtual 212, 3) := by decide +kernel
theorem dX8_petition_103 : decode cX8_petition 103 = .ok (.iconst 0, 1) := by decide +kernel
theorem dX8_petition_104 : decode cX8_petition 104 = .ok (.istore 6, 2) := by decide +kernel
theorem dX8_petition_106 : decode cX8_petition 106 = .ok (.iconst 0, 1) := by decide +kernel
theorem dX8_petition_107 : decode cX8_petition 107 = .ok (.istore 7, 2) := by decide +kernel
theorem dX8_petition_109 : decode cX8_petition 109 = .ok (.iload 7, 2) := by decide +kernel
theorem dX8_petition_111 : decode cX8_petition 111 = .ok (.bipush 60, 2) := by decide +kernel
theorem dX8_petition_113 : decode cX8_petition 113 = .ok (.if_icmp .gt 115, 3) := by decide +kernel
theorem dX8_petition_116 : decode cX8_petition 116 = .ok (.iconst 1, 1) := by decide +kernel
theorem dX8_petition_117 : decode cX8_petition 117 = .ok (.istore 8, 2) := by decide +kernel
theorem dX8_petition_119 : decode cX8_petition 119 = .ok (.iload 6, 2) := by decide +kernel
theorem dX8_petition_121 : decode cX8_petition 121 = .ok (.iload 4, 2) := by decide +kernel
theorem dX8_petition_123 : decode cX8_petition 123 = .ok (.if_icmp .ge 78, 3) := by decide +kernel
theorem dX8_petition_126 : decode cX8_petition 126 = .ok (.iload 8, 2) := by decide +kernel
theorem dX8_petition_128 : decode cX8_petition 128 = .ok (.ifCond .eq 73, 3) := by decide +kernel
theorem dX8_petition_131 : decode cX8_petition 131 = .ok (.aload_n 0, 1) := by decide +kernel
theorem dX8_petition_132 : decode cX8_petition 132 = .ok (.getfield 16, 3) := by decide +kernel
theorem dX8_petition_135 : decode cX8_petition 135 = .ok (.bipush 40, 2) := by decide +kernel
theorem dX8_petition_137 : decode cX8_petition 137 = .ok (.iload_n 2, 1) := by decide +kernel
theorem dX8_petition_138 : decode cX8_petition 138 = .ok (.imul, 1) := by decide +kernel
theorem dX8_petition_139 : decode cX8_petition 139 = .ok (.iload_n 3, 1) := by decide +kernel
theorem dX8_petition_140 : decode cX8_petition 140 = .ok (.iadd, 1) := by decide +kernel
theorem dX8_petition_141 : decode cX8_petition 141 = .ok (.iload 6, 2) := by decide +kernel
theorem dX8_petition_143 : decode cX8_petition 143 = .ok (.iadd, 1) := by decide +kernel
theorem dX8_petition_144 : decode cX8_petition 144 = .ok (.iaload, 1) := by decide +kernel
theorem dX8_petition_145 : decode cX8_petition 145 = .ok (.istore 9, 2) := by decide +kernel
theorem dX8_petition_147 : decode cX8_petition 147 = .ok (.aload_n 0, 1) := by decide +kernel
theorem dX8_petition_148 : decode cX8_petition 148 = .ok (.getfield 41, 3) := by decide +kernel
theorem dX8_petition_151 : decode cX8_petition 151 = .ok (.bipush 12, 2) := by decide +kernel
theorem dX8_petition_153 : decode cX8_petition 153 = .ok (.iload 9, 2) := by decide +kernel
theorem dX8_petition_155 : decode cX8_petition 155 = .ok (.iadd, 1) := by decide +kernel
theorem dX8_petition_156 : decode cX8_petition 156 = .ok (.iaload, 1) := by decide +kernel
theorem dX8_petition_157 : decode cX8_petition 157 = .ok (.iload_n 1, 1) := by decide +kernel
theorem dX8_petition_158 : decode cX8_petition 158 = .ok (.if_icmp .ne 22, 3) := by decide +kernel
theorem dX8_petition_161 : decode cX8_petition 161 = .ok (.aload_n 0, 1) := by decide +kernel
theorem dX8_petition_162 : decode cX8_petition 162 = .ok (.getfield 41, 3) := by decide +kernel
theorem dX8_petition_165 : decode cX8_petition 165 = .ok (.bipush 17, 2) := by decide +kernel
theorem dX8_petition_167 : decode cX8_petition 167 = .ok (.iload 9, 2) := by decide +kernel
theorem dX8_petition_169 : decode cX8_petition 169 = .ok (.iadd, 1) := by decide +kernel
theorem dX8_petition_170 : decode cX8_petition 170 = .ok (.iaload, 1) := by decide +kernel
theorem dX8_petition_171 : decode cX8_petition 171 = .ok (.bipush 6, 2) := by decide +kernel
theorem dX8_petition_173 : decode cX8_petition 173 = .ok (.if_icmp .ge 7, 3) := by decide +kernel
theorem dX8_petition_176 : decode cX8_petition 176 = .ok (.iconst 1, 1) := by decide +kernel
theorem dX8_petition_177 : decode cX8_petition 177 = .ok (.goto 4, 3) := by decide +kernel
theorem dX8_petition_180 : decode cX8_petition 180 = .ok (.iconst 0, 1) := by decide +kernel
theorem dX8_petition_181 : decode cX8_petition 181 = .ok (.istore 8, 2) := by decide +kernel
theorem dX8_petition_183 : decode cX8_petition 183 = .ok (.iload 6, 2) := by decide +kernel
theorem dX8_petition_185 : decode cX8_petition 185 = .ok (.iload 8, 2) := by decide +kernel
theorem dX8_petition_187 : decode cX8_petition 187 = .ok (.ifCond .eq 7, 3) := by decide +kernel
theorem dX8_petition_190 : decode cX8_petition 190 = .ok (.iconst 1, 1) := by decide +kernel
theorem dX8_petition_191 : decode cX8_petition 191 = .ok (.goto 4, 3) := by decide +kernel
theorem dX8_petition_194 : decode cX8_petition 194 = .ok (.iconst 0, 1) := by decide +kernel
theorem dX8_petition_195 : decode cX8_petition 195 = .ok (.iadd, 1) := by decide +kernel
theorem dX8_petition_196 : decode cX8_petition 196 = .ok (.istore 6, 2) := by decide +kernel
theorem dX8_petition_198 : decode cX8_petition 198 = .ok (.goto (-79), 3) := by decide +kernel
theorem dX8_petition_201 : decode cX8_petition 201 = .ok (.iload 6, 2) := by decide +kernel
theorem dX8_petition_203 : decode cX8_petition 203 = .ok (.iload 4, 2) := by decide +kernel
theorem dX8_petition_205 : decode cX8_petition 205 = .ok (.if_icmp .ne 10, 3) := by decide +kernel
theorem dX8_petition_208 : decode cX8_petition 208 = .ok (.aload_n 0, 1) := by decide +kernel
theorem dX8_petition_209 : decode cX8_petition 209 = .ok (.iload 7, 2) := by decide +kernel
theorem dX8_petition_211 : decode cX8_petition 211 = .ok (.invokevirtual 72, 3) := by decide +kernel
theorem dX8_petition_214 : decode cX8_petition 214 = .ok (.ireturn, 1) := by decide +kernel
theorem dX8_petition_215 : decode cX8_petition 215 = .ok (.aload_n 0, 1) := by decide +kernel
theorem dX8_petition_216 : decode cX8_petition 216 = .ok (.getfield 41, 3) := by decide +kernel
theorem dX8_petition_219 : decode cX8_petition 219 = .ok (.invokestatic 175, 3) := by decide +kernel
theorem dX8_petition_222 : decode cX8_petition 222 = .ok (.iinc 7 1, 3) := by decide +kernel
theorem dX8_petition_225 : decode cX8_petition 225 = .ok (.goto (-116), 3) := by decide +kernel
theorem dX8_petition_228 : decode cX8_petition 228 = .ok (.aload_n 0, 1) := by decide +kernel
theorem dX8_petition_229 : decode cX8_petition 229 = .ok (.ldc 216, 2) := by decide +kernel
theorem dX8_petition_231 : decode cX8_petition 231 = .ok (.invokevirtual 72, 3) := by decide +kernel
theorem dX8_petition_234 : decode cX8_petition 234 = .ok (.ireturn, 1) := by decide +kernel
theorem dX8_comesSo_0 : decode cX8_comesSo 0 = .ok (.aload_n 0, 1) := by decide +kernel
theorem dX8_comesSo_1 : decode cX8_comesSo 1 = .ok (.getfield 22, 3) := by decide +kernel
theorem dX8_comesSo_4 : decode cX8_comesSo 4 = .ok (.bipush 17, 2) := by decide +kernel
theorem dX8_comesSo_6 : decode cX8_comesSo 6 = .ok (.iload_n 1, 1) := by decide +kernel
theorem dX8_comesSo_7 : decode cX8_comesSo 7 = .ok (.iadd, 1) := by decide +kernel
theorem dX8_comesSo_8 : decode cX8_comesSo 8 = .ok (.iaload, 1) := by decide +kernel
theorem dX8_comesSo_9 : decode cX8_comesSo 9 = .ok (.istore 5, 2) := by decide +kernel
theorem dX8_comesSo_11 : decode cX8_comesSo 11 = .ok (.iconst 0, 1) := by decide +kernel
theorem dX8_comesSo_12 : decode cX8_comesSo 12 = .ok (.istore 6, 2) := by decide +kernel
theorem dX8_comesSo_14 : decode cX8_comesSo 14 = .ok (.iload 6, 2) := by decide +kernel
theorem dX8_comesSo_16 : decode cX8_comesSo 16 = .ok (.iload_n 3, 1) := by decide +kernel
theorem dX8_comesSo_17 : decode cX8_comesSo 17 = .ok (.if_icmp .ge 65, 3) := by decide +kernel
theorem dX8_comesSo_20 : decode cX8_comesSo 20 = .ok (.iload 4, 2) := by decide +kernel
theorem dX8_comesSo_22 : decode cX8_comesSo 22 = .ok (.iconst 2, 1) := by decide +kernel
theorem dX8_comesSo_23 : decode cX8_comesSo 23 = .ok (.iload_n 3, 1) := by decide +kernel
theorem dX8_comesSo_24 : decode cX8_comesSo 24 = .ok (.iconst 1, 1) := by decide +kernel
theorem dX8_comesSo_25 : decode cX8_comesSo 25 = .ok (.isub, 1) := by decide +kernel
theorem dX8_comesSo_26 : decode cX8_comesSo 26 = .ok (.iload 6, 2) := by decide +kernel
theorem dX8_comesSo_28 : decode cX8_comesSo 28 = .ok (.isub, 1) := by decide +kernel
theorem dX8_comesSo_29 : decode cX8_comesSo 29 = .ok (.imul, 1) := by decide +kernel
theorem dX8_comesSo_30 : decode cX8_comesSo 30 = .ok (.ishr, 1) := by decide +kernel
theorem dX8_comesSo_31 : decode cX8_comesSo 31 = .ok (.iconst 3, 1) := by decide +kernel
theorem dX8_comesSo_32 : decode cX8_comesSo 32 = .ok (.iand, 1) := by decide +kernel
theorem dX8_comesSo_33 : decode cX8_comesSo 33 = .ok (.istore 7, 2) := by decide +kernel
theorem dX8_comesSo_35 : decode cX8_comesSo 35 = .ok (.aload_n 0, 1) := by decide +kernel
theorem dX8_comesSo_36 : decode cX8_comesSo 36 = .ok (.getfield 22, 3) := by decide +kernel
theorem dX8_comesSo_39 : decode cX8_comesSo 39 = .ok (.aload_n 0, 1) := by decide +kernel
theorem dX8_comesSo_40 : decode cX8_comesSo 40 = .ok (.getfield 22, 3) := by decide +kernel
theorem dX8_comesSo_43 : decode cX8_comesSo 43 = .ok (.bipush 7, 2) := by decide +kernel
theorem dX8_comesSo_45 : decode cX8_comesSo 45 = .ok (.iload_n 1, 1) := by decide +kernel
theorem dX8_comesSo_46 : decode cX8_comesSo 46 = .ok (.iadd, 1) := by decide +kernel
theorem dX8_comesSo_47 : decode cX8_comesSo 47 = .ok (.iaload, 1) := by decide +kernel
theorem dX8_comesSo_48 : decode cX8_comesSo 48 = .ok (.iload 5, 2) := by decide +kernel
theorem dX8_comesSo_50 : decode cX8_comesSo 50 = .ok (.iload 7, 2) := by decide +kernel
theorem dX8_comesSo_52 : decode cX8_comesSo 52 = .ok (.invokestatic 165, 3) := by decide +kernel
theorem dX8_comesSo_55 : decode cX8_comesSo 55 = .ok (.invokestatic 157, 3) := by decide +kernel
theorem dX8_comesSo_58 : decode cX8_comesSo 58 = .ok (.istore 5, 2) := by decide +kernel
theorem dX8_comesSo_60 : decode cX8_comesSo 60 = .ok (.iload 5, 2) := by decide +kernel
theorem dX8_comesSo_62 : decode cX8_comesSo 62 = .ok (.aload_n 0, 1) := by decide +kernel
theorem dX8_comesSo_63 : decode cX8_comesSo 63 = .ok (.getfield 16, 3) := by decide +kernel
theorem dX8_comesSo_66 : decode cX8_comesSo 66 = .ok (.iload_n 2, 1) := by decide +kernel
theorem dX8_comesSo_67 : decode cX8_comesSo 67 = .ok (.iload 6, 2) := by decide +kernel
theorem dX8_comesSo_69 : decode cX8_comesSo 69 = .ok (.iadd, 1) := by decide +kernel
theorem dX8_comesSo_70 : decode cX8_comesSo 70 = .ok (.iaload, 1) := by decide +kernel
theorem dX8_comesSo_71 : decode cX8_comesSo 71 = .ok (.if_icmp .eq 5, 3) := by decide +kernel
theorem dX8_comesSo_74 : decode cX8_comesSo 74 = .ok (.iconst 0, 1) := by decide +kernel
theorem dX8_comesSo_75 : decode cX8_comesSo 75 = .ok (.ireturn, 1) := by decide +kernel
theorem dX8_comesSo_76 : decode cX8_comesSo 76 = .ok (.iinc 6 1, 3) := by decide +kernel
theorem dX8_comesSo_79 : decode cX8_comesSo 79 = .ok (.goto (-65), 3) := by decide +kernel
theorem dX8_comesSo_82 : decode cX8_comesSo 82 = .ok (.iconst 1, 1) := by decide +kernel
theorem dX8_comesSo_83 : decode cX8_comesSo 83 = .ok (.ireturn, 1) := by decide +kernel
theorem dX8_ash_0 : decode cX8_ash 0 = .ok (.aload_n 0, 1) := by decide +kernel
theorem dX8_ash_1 : decode cX8_ash 1 = .ok (.iload_n 1, 1) := by decide +kernel
theorem dX8_ash_2 : decode cX8_ash 2 = .ok (.invokevirtual 186, 3) := by decide +kernel
theorem dX8_ash_5 : decode cX8_ash 5 = .ok (.ifCond .eq 29, 3) := by decide +kernel
theorem dX8_ash_8 : decode cX8_ash 8 = .ok (.iload_n 2, 1) := by decide +kernel
theorem dX8_ash_9 : decode cX8_ash 9 = .ok (.invokestatic 61, 3) := by decide +kernel
theorem dX8_ash_12 : decode cX8_ash 12 = .ok (.ifCond .eq 22, 3) := by decide +kernel
theorem dX8_ash_15 : decode cX8_ash 15 = .ok (.iload 4, 2) := by decide +kernel
theorem dX8_ash_17 : decode cX8_ash 17 = .ok (.i2l, 1) := by decide +kernel
theorem dX8_ash_18 : decode cX8_ash 18 = .ok (.lconst 1, 1) := by decide +kernel
theorem dX8_ash_19 : decode cX8_ash 19 = .ok (.ldc2_w 236, 3) := by decide +kernel
theorem dX8_ash_22 : decode cX8_ash 22 = .ok (.invokestatic 57, 3) := by decide +kernel
theorem dX8_ash_25 : decode cX8_ash 25 = .ok (.ifCond .eq 9, 3) := by decide +kernel
theorem dX8_ash_28 : decode cX8_ash 28 = .ok (.iload 5, 2) := by decide +kernel
theorem dX8_ash_30 : decode cX8_ash 30 = .ok (.iconst (-1), 1) := by decide +kernel
theorem dX8_ash_31 : decode cX8_ash 31 = .ok (.if_icmp .ge 6, 3) := by decide +kernel
theorem dX8_ash_34 : decode cX8_ash 34 = .ok (.ldc 67, 2) := by decide +kernel
theorem dX8_ash_36 : decode cX8_ash 36 = .ok (.ireturn, 1) := by decide +kernel
theorem dX8_ash_37 : decode cX8_ash 37 = .ok (.aload_n 0, 1) := by decide +kernel
theorem dX8_ash_38 : decode cX8_ash 38 = .ok (.iload_n 2, 1) := by decide +kernel
theorem dX8_ash_39 : decode cX8_ash 39 = .ok (.iload_n 3, 1) := by decide +kernel
theorem dX8_ash_40 : decode cX8_ash 40 = .ok (.iload 4, 2) := by decide +kernel
theorem dX8_ash_42 : decode cX8_ash 42 = .ok (.invokevirtual 233, 3) := by decide +kernel
theorem dX8_ash_45 : decode cX8_ash 45 = .ok (.istore 6, 2) := by decide +kernel
theorem dX8_ash_47 : decode cX8_ash 47 = .ok (.iload 6, 2) := by decide +kernel
theorem dX8_ash_49 : decode cX8_ash 49 = .ok (.ifCond .ge 6, 3) := by decide +kernel
theorem dX8_ash_52 : decode cX8_ash 52 = .ok (.iload 6, 2) := by decide +kernel
theorem dX8_ash_54 : decode cX8_ash 54 = .ok (.ireturn, 1) := by decide +kernel
theorem dX8_ash_55 : decode cX8_ash 55 = .ok (.iconst 0, 1) := by decide +kernel
theorem dX8_ash_56 : decode cX8_ash 56 = .ok (.istore 7, 2) := by decide +kernel
theorem dX8_ash_58 : decode cX8_ash 58 = .ok (.ldc 216, 2) := by decide +kernel
theorem dX8_ash_60 : decode cX8_ash 60 = .ok (.istore 8, 2) := by decide +kernel
theorem dX8_ash_62 : decode cX8_ash 62 = .ok (.iconst 1, 1) := by decide +kernel
theorem dX8_ash_63 : decode cX8_ash 63 = .ok (.iconst 2, 1) := by decide +kernel
theorem dX8_ash_64 : decode cX8_ash 64 = .ok (.iload 4, 2) := by decide +kernel
theorem dX8_ash_66 : decode cX8_ash 66 = .ok (.imul, 1) := by decide +kernel
theorem dX8_ash_67 : decode cX8_ash 67 = .ok (.ishl, 1) := by decide +kernel
theorem dX8_ash_68 : decode cX8_ash 68 = .ok (.iconst 1, 1) := by decide +kernel
theorem dX8_ash_69 : decode cX8_ash 69 = .ok (.isub, 1) := by decide +kernel
theorem dX8_ash_70 : decode cX8_ash 70 = .ok (.istore 9, 2) := by decide +kernel
theorem dX8_ash_72 : decode cX8_ash 72 = .ok (.iload 9, 2) := by decide +kernel
theorem dX8_ash_74 : decode cX8_ash 74 = .ok (.ifCond .lt 55, 3) := by decide +kernel
theorem dX8_ash_77 : decode cX8_ash 77 = .ok (.aload_n 0, 1) := by decide +kernel
theorem dX8_ash_78 : decode cX8_ash 78 = .ok (.iload_n 1, 1) := by decide +kernel
theorem dX8_ash_79 : decode cX8_ash 79 = .ok (.bipush 40, 2) := by decide +kernel
theorem dX8_ash_81 : decode cX8_ash 81 = .ok (.iload_n 2, 1) := by decide +kernel
theorem dX8_ash_82 : decode cX8_ash 82 = .ok (.imul, 1) := by decide +kernel
theorem dX8_ash_83 : decode cX8_ash 83 = .ok (.iload_n 3, 1) := by decide +kernel
theorem dX8_ash_84 : decode cX8_ash 84 = .ok (.iadd, 1) := by decide +kernel
theorem dX8_ash_85 : decode cX8_ash 85 = .ok (.iload 4, 2) := by decide +kernel
theorem dX8_ash_87 : decode cX8_ash 87 = .ok (.iload 9, 2) := by decide +kernel
theorem dX8_ash_89 : decode cX8_ash 89 = .ok (.invokevirtual 238, 3) := by decide +kernel
theorem dX8_ash_92 : decode cX8_ash 92 = .ok (.istore 10, 2) := by decide +kernel
theorem dX8_ash_94 : decode cX8_ash 94 = .ok (.iload 7, 2) := by decide +kernel
theorem dX8_ash_96 : decode cX8_ash 96 = .ok (.iload 10, 2) := by decide +kernel
theorem dX8_ash_98 : decode cX8_ash 98 = .ok (.ifCond .eq 7, 3) := by decide +kernel
theorem dX8_ash_101 : decode cX8_ash 101 = .ok (.iconst 1, 1) := by decide +kernel
theorem dX8_ash_102 : decode cX8_ash 102 = .ok (.goto 4, 3) := by decide +kernel
theorem dX8_ash_105 : decode cX8_ash 105 = .ok (.iconst 0, 1) := by decide +kernel
theorem dX8_ash_106 : decode cX8_ash 106 = .ok (.iadd, 1) := by decide +kernel
theorem dX8_ash_107 : decode cX8_ash 107 = .ok (.istore 7, 2) := by decide +kernel
theorem dX8_ash_109 : decode cX8_ash 109 = .ok (.iload 10, 2) := by decide +kernel
theorem dX8_ash_111 : decode cX8_ash 111 = .ok (.ifCond .eq 8, 3) := by decide +kernel
theorem dX8_ash_114 : decode cX8_ash 114 = .ok (.iload 9, 2) := by decide +kernel
theorem dX8_ash_116 : decode cX8_ash 116 = .ok (.goto 5, 3) := by decide +kernel
theorem dX8_ash_119 : decode cX8_ash 119 = .ok (.iload 8, 2) := by decide +kernel
theorem dX8_ash_121 : decode cX8_ash 121 = .ok (.istore 8, 2) := by decide +kernel
theorem dX8_ash_123 : decode cX8_ash 123 = .ok (.iinc 9 (-1), 3) := by decide +kernel
theorem dX8_ash_126 : decode cX8_ash 126 = .ok (.goto (-54), 3) := by decide +kernel
theorem dX8_ash_129 : decode cX8_ash 129 = .ok (.aload_n 0, 1) := by decide +kernel
theorem dX8_ash_130 : decode cX8_ash 130 = .ok (.iload 5, 2) := by decide +kernel
theorem dX8_ash_132 : decode cX8_ash 132 = .ok (.ifCond .ge 8, 3) := by decide +kernel
theorem dX8_ash_135 : decode cX8_ash 135 = .ok (.iload 7, 2) := by decide +kernel
theorem dX8_ash_137 : decode cX8_ash 137 = .ok (.goto 34, 3) := by decide +kernel
theorem dX8_ash_140 : decode cX8_ash 140 = .ok (.iload 7, 2) := by decide +kernel
theorem dX8_ash_142 : decode cX8_ash 142 = .ok (.ifCond .eq 10, 3) := by decide +kernel
theorem dX8_ash_145 : decode cX8_ash 145 = .ok (.iload 5, 2) := by decide +kernel
theorem dX8_ash_147 : decode cX8_ash 147 = .ok (.iload 4, 2) := by decide +kernel
theorem dX8_ash_149 : decode cX8_ash 149 = .ok (.if_icmp .lt 8, 3) := by decide +kernel
theorem dX8_ash_152 : decode cX8_ash 152 = .ok (.ldc 216, 2) := by decide +kernel
theorem dX8_ash_154 : decode cX8_ash 154 = .ok (.goto 17, 3) := by decide +kernel
theorem dX8_ash_157 : decode cX8_ash 157 = .ok (.iload 8, 2) := by decide +kernel
theorem dX8_ash_159 : decode cX8_ash 159 = .ok (.iconst 2, 1) := by decide +kernel
theorem dX8_ash_160 : decode cX8_ash 160 = .ok (.iload 4, 2) := by decide +kernel
theorem dX8_ash_162 : decode cX8_ash 162 = .ok (.iconst 1, 1) := by decide +kernel
theorem dX8_ash_163 : decode cX8_ash 163 = .ok (.isub, 1) := by decide +kernel
theorem dX8_ash_164 : decode cX8_ash 164 = .ok (.iload 5, 2) := by decide +kernel
theorem dX8_ash_166 : decode cX8_ash 166 = .ok (.isub, 1) := by decide +kernel
theorem dX8_ash_167 : decode cX8_ash 167 = .ok (.imul, 1) := by decide +kernel
theorem dX8_ash_168 : decode cX8_ash 168 = .ok (.ishr, 1) := by decide +kernel
theorem dX8_ash_169 : decode cX8_ash 169 = .ok (.iconst 3, 1) := by decide +kernel
theorem dX8_ash_170 : decode cX8_ash 170 = .ok (.iand, 1) := by decide +kernel
theorem dX8_ash_171 : decode cX8_ash 171 = .ok (.invokevirtual 72, 3) := by decide +kernel
theorem dX8_ash_174 : decode cX8_ash 174 = .ok (.ireturn, 1) := by decide +kernel
theorem dX8_who_0 : decode cX8_who 0 = .ok (.aload_n 0, 1) := by decide +kernel
theorem dX8_who_1 : decode cX8_who 1 = .ok (.iload_n 1, 1) := by decide +kernel
theorem dX8_who_2 : decode cX8_who 2 = .ok (.invokevirtual 186, 3) := by decide +kernel
theorem dX8_who_5 : decode cX8_who 5 = .ok (.ifCond .eq 36, 3) := by decide +kernel
theorem dX8_who_8 : decode cX8_who 8 = .ok (.iload_n 2, 1) := by decide +kernel
theorem dX8_who_9 : decode cX8_who 9 = .ok (.invokestatic 61, 3) := by decide +kernel
theorem dX8_who_12 : decode cX8_who 12 = .ok (.ifCond .eq 29, 3) := by decide +kernel
theorem dX8_who_15 : decode cX8_who 15 = .ok (.iload 4, 2) := by decide +kernel
theorem dX8_who_17 : decode cX8_who 17 = .ok (.i2l, 1) := by decide +kernel
theorem dX8_who_18 : decode cX8_who 18 = .ok (.lconst 1, 1) := by decide +kernel
theorem dX8_who_19 : decode cX8_who 19 = .ok (.ldc2_w 225, 3) := by decide +kernel
theorem dX8_who_22 : decode cX8_who 22 = .ok (.invokestatic 57, 3) := by decide +kernel
theorem dX8_who_25 : decode cX8_who 25 = .ok (.ifCond .eq 16, 3) := by decide +kernel
theorem dX8_who_28 : decode cX8_who 28 = .ok (.iload 5, 2) := by decide +kernel
theorem dX8_who_30 : decode cX8_who 30 = .ok (.i2l, 1) := by decide +kernel
theorem dX8_who_31 : decode cX8_who 31 = .ok (.lconst 0, 1) := by decide +kernel
theorem dX8_who_32 : decode cX8_who 32 = .ok (.ldc2_w 189, 3) := by decide +kernel
theorem dX8_who_35 : decode cX8_who 35 = .ok (.invokestatic 57, 3) := by decide +kernel
theorem dX8_who_38 : decode cX8_who 38 = .ok (.ifCond .ne 6, 3) := by decide +kernel
theorem dX8_who_41 : decode cX8_who 41 = .ok (.ldc 67, 2) := by decide +kernel
theorem dX8_who_43 : decode cX8_who 43 = .ok (.ireturn, 1) := by decide +kernel
theorem dX8_who_44 : decode cX8_who 44 = .ok (.aload_n 0, 1) := by decide +kernel
theorem dX8_who_45 : decode cX8_who 45 = .ok (.iload_n 2, 1) := by decide +kernel
theorem dX8_who_46 : decode cX8_who 46 = .ok (.iload_n 3, 1) := by decide +kernel
theorem dX8_who_47 : decode cX8_who 47 = .ok (.iload 4, 2) := by decide +kernel
theorem dX8_who_49 : decode cX8_who 49 = .ok (.invokevirtual 233, 3) := by decide +kernel
theorem dX8_who_52 : decode cX8_who 52 = .ok (.istore 6, 2) := by decide +kernel
theorem dX8_who_54 : decode cX8_who 54 = .ok (.iload 6, 2) := by decide +kernel
theorem dX8_who_56 : decode cX8_who 56 = .ok (.ifCond .ge 6, 3) := by decide +kernel
theorem dX8_who_59 : decode cX8_who 59 = .ok (.iload 6, 2) := by decide +kernel
theorem dX8_who_61 : decode cX8_who 61 = .ok (.ireturn, 1) := by decide +kernel
theorem dX8_who_62 : decode cX8_who 62 = .ok (.iconst 0, 1) := by decide +kernel
theorem dX8_who_63 : decode cX8_who 63 = .ok (.istore 7, 2) := by decide +kernel
theorem dX8_who_65 : decode cX8_who 65 = .ok (.iconst 1, 1) := by decide +kernel
theorem dX8_who_66 : decode cX8_who 66 = .ok (.istore 8, 2) := by decide +kernel
theorem dX8_who_68 : decode cX8_who 68 = .ok (.iload 8, 2) := by decide +kernel
theorem dX8_who_70 : decode cX8_who 70 = .ok (.iconst 5, 1) := by decide +kernel
theorem dX8_who_71 : decode cX8_who 71 = .ok (.if_icmp .gt 106, 3) := by decide +kernel
theorem dX8_who_74 : decode cX8_who 74 = .ok (.iload 8, 2) := by decide +kernel
theorem dX8_who_76 : decode cX8_who 76 = .ok (.aload_n 0, 1) := by decide +kernel
theorem dX8_who_77 : decode cX8_who 77 = .ok (.getfield 22, 3) := by decide +kernel
theorem dX8_who_80 : decode cX8_who 80 = .ok (.bipush 17, 2) := by decide +kernel
theorem dX8_who_82 : decode cX8_who 82 = .ok (.iload_n 1, 1) := by decide +kernel
theorem dX8_who_83 : decode cX8_who 83 = .ok (.iadd, 1) := by decide +kernel
theorem dX8_who_84 : decode cX8_who 84 = .ok (.iaload, 1) := by decide +kernel
theorem dX8_who_85 : decode cX8_who 85 = .ok (.iload 5, 2) := by decide +kernel
theorem dX8_who_87 : decode cX8_who 87 = .ok (.invokestatic 165, 3) := by decide +kernel
theorem dX8_who_90 : decode cX8_who 90 = .ok (.istore 9, 2) := by decide +kernel
theorem dX8_who_92 : decode cX8_who 92 = .ok (.iconst 1, 1) := by decide +kernel
theorem dX8_who_93 : decode cX8_who 93 = .ok (.istore 10, 2) := by decide +kernel
theorem dX8_who_95 : decode cX8_who 95 = .ok (.iconst 0, 1) := by decide +kernel
theorem dX8_who_96 : decode cX8_who 96 = .ok (.istore 11, 2) := by decide +kernel
theorem dX8_who_98 : decode cX8_who 98 = .ok (.iload 11, 2) := by decide +kernel
theorem dX8_who_100 : decode cX8_who 100 = .ok (.iload 4, 2) := by decide +kernel
theorem dX8_who_102 : decode cX8_who 102 = .ok (.if_icmp .ge 51, 3) := by decide +kernel
theorem dX8_who_105 : decode cX8_who 105 = .ok (.aload_n 0, 1) := by decide +kernel
theorem dX8_who_106 : decode cX8_who 106 = .ok (.getfield 22, 3) := by decide +kernel
theorem dX8_who_109 : decode cX8_who 109 = .ok (.iload 9, 2) := by decide +kernel
theorem dX8_who_111 : decode cX8_who 111 = .ok (.invokestatic 157, 3) := by decide +kernel
theorem dX8_who_114 : decode cX8_who 114 = .ok (.istore 9, 2) := by decide +kernel
theorem dX8_who_116 : decode cX8_who 116 = .ok (.iload 10, 2) := by decide +kernel
theorem dX8_who_118 : decode cX8_who 118 = .ok (.ifCond .eq 26, 3) := by decide +kernel
theorem dX8_who_121 : decode cX8_who 121 = .ok (.iload 9, 2) := by decide +kernel
theorem dX8_who_123 : decode cX8_who 123 = .ok (.aload_n 0, 1) := by decide +kernel
theorem dX8_who_124 : decode cX8_who 124 = .ok (.getfield 16, 3) := by decide +kernel
theorem dX8_who_127 : decode cX8_who 127 = .ok (.bipush 40, 2) := by decide +kernel
theorem dX8_who_129 : decode cX8_who 129 = .ok (.iload_n 2, 1) := by decide +kernel
theorem dX8_who_130 : decode cX8_who 130 = .ok (.imul, 1) := by decide +kernel
theorem dX8_who_131 : decode cX8_who 131 = .ok (.iload_n 3, 1) := by decide +kernel
theorem dX8_who_132 : decode cX8_who 132 = .ok (.iadd, 1) := by decide +kernel
theorem dX8_who_133 : decode cX8_who 133 = .ok (.iload 11, 2) := by decide +kernel
theorem dX8_who_135 : decode cX8_who 135 = .ok (.iadd, 1) := by decide +kernel
theorem dX8_who_136 : decode cX8_who 136 = .ok (.iaload, 1) := by decide +kernel
theorem dX8_who_137 : decode cX8_who 137 = .ok (.if_icmp .ne 7, 3) := by decide +kernel
theorem dX8_who_140 : decode cX8_who 140 = .ok (.iconst 1, 1) := by decide +kernel
theorem dX8_who_141 : decode cX8_who 141 = .ok (.goto 4, 3) := by decide +kernel
theorem dX8_who_144 : decode cX8_who 144 = .ok (.iconst 0, 1) := by decide +kernel
theorem dX8_who_145 : decode cX8_who 145 = .ok (.istore 10, 2) := by decide +kernel
theorem dX8_who_147 : decode cX8_who 147 = .ok (.iinc 11 1, 3) := by decide +kernel
theorem dX8_who_150 : decode cX8_who 150 = .ok (.goto (-52), 3) := by decide +kernel
theorem dX8_who_153 : decode cX8_who 153 = .ok (.iload 7, 2) := by decide +kernel
theorem dX8_who_155 : decode cX8_who 155 = .ok (.iload 10, 2) := by decide +kernel
theorem dX8_who_157 : decode cX8_who 157 = .ok (.ifCond .eq 10, 3) := by decide +kernel
theorem dX8_who_160 : decode cX8_who 160 = .ok (.iconst 1, 1) := by decide +kernel
theorem dX8_who_161 : decode cX8_who 161 = .ok (.iload 8, 2) := by decide +kernel
theorem dX8_who_163 : decode cX8_who 163 = .ok (.ishl, 1) := by decide +kernel
theorem dX8_who_164 : decode cX8_who 164 = .ok (.goto 4, 3) := by decide +kernel
theorem dX8_who_167 : decode cX8_who 167 = .ok (.iconst 0, 1) := by decide +kernel
theorem dX8_who_168 : decode cX8_who 168 = .ok (.ior, 1) := by decide +kernel
theorem dX8_who_169 : decode cX8_who 169 = .ok (.istore 7, 2) := by decide +kernel
theorem dX8_who_171 : decode cX8_who 171 = .ok (.iinc 8 1, 3) := by decide +kernel
theorem dX8_who_174 : decode cX8_who 174 = .ok (.goto (-106), 3) := by decide +kernel
theorem dX8_who_177 : decode cX8_who 177 = .ok (.aload_n 0, 1) := by decide +kernel
theorem dX8_who_178 : decode cX8_who 178 = .ok (.iload 7, 2) := by decide +kernel
theorem dX8_who_180 : decode cX8_who 180 = .ok (.invokevirtual 72, 3) := by decide +kernel
theorem dX8_who_183 : decode cX8_who 183 = .ok (.ireturn, 1) := by decide +kernel
theorem dX8_rule_0 : decode cX8_rule 0 = .ok (.aload_n 0, 1) := by decide +kernel
theorem dX8_rule_1 : decode cX8_rule 1 = .ok (.getfield 137, 3) := by decide +kernel
theorem dX8_rule_4 : decode cX8_rule 4 = .ok (.ifCond .ne 6, 3) := by decide +kernel
theorem dX8_rule_7 : decode cX8_rule 7 = .ok (.ldc 169, 2) := by decide +kernel
theorem dX8_rule_9 : decode cX8_rule 9 = .ok (.ireturn, 1) := by decide +kernel
theorem dX8_rule_10 : decode cX8_rule 10 = .ok (.iload_n 1, 1) := by decide +kernel
theorem dX8_rule_11 : decode cX8_rule 11 = .ok (.i2l, 1) := by decide +kernel
theorem dX8_rule_12 : decode cX8_rule 12 = .ok (.lconst 1, 1) := by decide +kernel
theorem dX8_rule_13 : decode cX8_rule 13 = .ok (.ldc2_w 195, 3) := by decide +kernel
theorem dX8_rule_16 : decode cX8_rule 16 = .ok (.invokestatic 57, 3) := by decide +kernel
theorem dX8_rule_19 : decode cX8_rule 19 = .ok (.ifCond .eq 10, 3) := by decide +kernel
theorem dX8_rule_22 : decode cX8_rule 22 = .ok (.iload_n 2, 1) := by decide +kernel
theorem dX8_rule_23 : decode cX8_rule 23 = .ok (.invokestatic 209, 3) := by decide +kernel
theorem dX8_rule_26 : decode cX8_rule 26 = .ok (.ifCond .ne 6, 3) := by decide +kernel
theorem dX8_rule_29 : decode cX8_rule 29 = .ok (.ldc 67, 2) := by decide +kernel
theorem dX8_rule_31 : decode cX8_rule 31 = .ok (.ireturn, 1) := by decide +kernel
theorem dX8_rule_32 : decode cX8_rule 32 = .ok (.iconst 0, 1) := by decide +kernel
theorem dX8_rule_33 : decode cX8_rule 33 = .ok (.istore_n 3, 1) := by decide +kernel
theorem dX8_rule_34 : decode cX8_rule 34 = .ok (.iload_n 3, 1) := by decide +kernel
theorem dX8_rule_35 : decode cX8_rule 35 = .ok (.bipush 10, 2) := by decide +kernel
theorem dX8_rule_37 : decode cX8_rule 37 = .ok (.if_icmp .ge 16, 3) := by decide +kernel
theorem dX8_rule_40 : decode cX8_rule 40 = .ok (.aload_n 0, 1) := by decide +kernel
theorem dX8_rule_41 : decode cX8_rule 41 = .ok (.getfield 47, 3) := by decide +kernel
theorem dX8_rule_44 : decode cX8_rule 44 = .ok (.iload_n 3, 1) := by decide +kernel
theorem dX8_rule_45 : decode cX8_rule 45 = .ok (.iconst 0, 1) := by decide +kernel
theorem dX8_rule_46 : decode cX8_rule 46 = .ok (.iastore, 1) := by decide +kernel
theorem dX8_rule_47 : decode cX8_rule 47 = .ok (.iinc 3 1, 3) := by decide +kernel
theorem dX8_rule_50 : decode cX8_rule 50 = .ok (.goto (-16), 3) := by decide +kernel
theorem dX8_rule_53 : decode cX8_rule 53 = .ok (.aload_n 0, 1) := by decide +kernel
theorem dX8_rule_54 : decode cX8_rule 54 = .ok (.iconst 0, 1) := by decide +kernel
theorem dX8_rule_55 : decode cX8_rule 55 = .ok (.invokevirtual 212, 3) := by decide +kernel
theorem dX8_rule_58 : decode cX8_rule 58 = .ok (.iconst 0, 1) := by decide +kernel
theorem dX8_rule_59 : decode cX8_rule 59 = .ok (.istore_n 3, 1) := by decide +kernel
theorem dX8_rule_60 : decode cX8_rule 60 = .ok (.iload_n 3, 1) := by decide +kernel
theorem dX8_rule_61 : decode cX8_rule 61 = .ok (.iload_n 1, 1) := by decide +kernel
theorem dX8_rule_62 : decode cX8_rule 62 = .ok (.if_icmp .ge 55, 3) := by decide +kernel
theorem dX8_rule_65 : decode cX8_rule 65 = .ok (.aload_n 0, 1) := by decide +kernel
theorem dX8_rule_66 : decode cX8_rule 66 = .ok (.getfield 41, 3) := by decide +kernel
theorem dX8_rule_69 : decode cX8_rule 69 = .ok (.invokestatic 175, 3) := by decide +kernel
theorem dX8_rule_72 : decode cX8_rule 72 = .ok (.iconst 0, 1) := by decide +kernel
theorem dX8_rule_73 : decode cX8_rule 73 = .ok (.istore 4, 2) := by decide +kernel
theorem dX8_rule_75 : decode cX8_rule 75 = .ok (.iload 4, 2) := by decide +kernel
theorem dX8_rule_77 : decode cX8_rule 77 = .ok (.aload_n 0, 1) := by decide +kernel
theorem dX8_rule_78 : decode cX8_rule 78 = .ok (.getfield 41, 3) := by decide +kernel
theorem dX8_rule_81 : decode cX8_rule 81 = .ok (.iconst 5, 1) := by decide +kernel
theorem dX8_rule_82 : decode cX8_rule 82 = .ok (.iaload, 1) := by decide +kernel
theorem dX8_rule_83 : decode cX8_rule 83 = .ok (.if_icmp .ge 28, 3) := by decide +kernel
theorem dX8_rule_86 : decode cX8_rule 86 = .ok (.aload_n 0, 1) := by decide +kernel
theorem dX8_rule_87 : decode cX8_rule 87 = .ok (.getfield 47, 3) := by decide +kernel
theorem dX8_rule_90 : decode cX8_rule 90 = .ok (.aload_n 0, 1) := by decide +kernel
theorem dX8_rule_91 : decode cX8_rule 91 = .ok (.getfield 41, 3) := by decide +kernel
theorem dX8_rule_94 : decode cX8_rule 94 = .ok (.bipush 12, 2) := by decide +kernel
theorem dX8_rule_96 : decode cX8_rule 96 = .ok (.iload 4, 2) := by decide +kernel
theorem dX8_rule_98 : decode cX8_rule 98 = .ok (.iadd, 1) := by decide +kernel
theorem dX8_rule_99 : decode cX8_rule 99 = .ok (.iaload, 1) := by decide +kernel
theorem dX8_rule_100 : decode cX8_rule 100 = .ok (.dup2, 1) := by decide +kernel
theorem dX8_rule_101 : decode cX8_rule 101 = .ok (.iaload, 1) := by decide +kernel
theorem dX8_rule_102 : decode cX8_rule 102 = .ok (.iconst 1, 1) := by decide +kernel
theorem dX8_rule_103 : decode cX8_rule 103 = .ok (.iadd, 1) := by decide +kernel
theorem dX8_rule_104 : decode cX8_rule 104 = .ok (.iastore, 1) := by decide +kernel
theorem dX8_rule_105 : decode cX8_rule 105 = .ok (.iinc 4 1, 3) := by decide +kernel
theorem dX8_rule_108 : decode cX8_rule 108 = .ok (.goto (-33), 3) := by decide +kernel
theorem dX8_rule_111 : decode cX8_rule 111 = .ok (.iinc 3 1, 3) := by decide +kernel
theorem dX8_rule_114 : decode cX8_rule 114 = .ok (.goto (-54), 3) := by decide +kernel
theorem dX8_rule_117 : decode cX8_rule 117 = .ok (.iconst 0, 1) := by decide +kernel
theorem dX8_rule_118 : decode cX8_rule 118 = .ok (.istore_n 3, 1) := by decide +kernel
theorem dX8_rule_119 : decode cX8_rule 119 = .ok (.iconst 1, 1) := by decide +kernel
theorem dX8_rule_120 : decode cX8_rule 120 = .ok (.istore 4, 2) := by decide +kernel
theorem dX8_rule_122 : decode cX8_rule 122 = .ok (.iload 4, 2) := by decide +kernel
theorem dX8_rule_124 : decode cX8_rule 124 = .ok (.bipush 10, 2) := by decide +kernel
theorem dX8_rule_126 : decode cX8_rule 126 = .ok (.if_icmp .ge 32, 3) := by decide +kernel
theorem dX8_rule_129 : decode cX8_rule 129 = .ok (.aload_n 0, 1) := by decide +kernel
theorem dX8_rule_130 : decode cX8_rule 130 = .ok (.getfield 47, 3) := by decide +kernel
theorem dX8_rule_133 : decode cX8_rule 133 = .ok (.iload 4, 2) := by decide +kernel
theorem dX8_rule_135 : decode cX8_rule 135 = .ok (.iaload, 1) := by decide +kernel
theorem dX8_rule_136 : decode cX8_rule 136 = .ok (.aload_n 0, 1) := by decide +kernel
theorem dX8_rule_137 : decode cX8_rule 137 = .ok (.getfield 47, 3) := by decide +kernel
theorem dX8_rule_140 : decode cX8_rule 140 = .ok (.iload_n 3, 1) := by decide +kernel
theorem dX8_rule_141 : decode cX8_rule 141 = .ok (.iaload, 1) := by decide +kernel
theorem dX8_rule_142 : decode cX8_rule 142 = .ok (.if_icmp .le 8, 3) := by decide +kernel
theorem dX8_rule_145 : decode cX8_rule 145 = .ok (.iload 4, 2) := by decide +kernel
theorem dX8_rule_147 : decode cX8_rule 147 = .ok (.goto 4, 3) := by decide +kernel
theorem dX8_rule_150 : decode cX8_rule 150 = .ok (.iload_n 3, 1) := by decide +kernel
theorem dX8_rule_151 : decode cX8_rule 151 = .ok (.istore_n 3, 1) := by decide +kernel
theorem dX8_rule_152 : decode cX8_rule 152 = .ok (.iinc 4 1, 3) := by decide +kernel
theorem dX8_rule_155 : decode cX8_rule 155 = .ok (.goto (-33), 3) := by decide +kernel
theorem dX8_rule_158 : decode cX8_rule 158 = .ok (.iload_n 2, 1) := by decide +kernel
theorem dX8_rule_159 : decode cX8_rule 159 = .ok (.ifCond .ne 7, 3) := by decide +kernel
theorem dX8_rule_162 : decode cX8_rule 162 = .ok (.iload_n 3, 1) := by decide +kernel
theorem dX8_rule_163 : decode cX8_rule 163 = .ok (.goto 9, 3) := by decide +kernel
theorem dX8_rule_166 : decode cX8_rule 166 = .ok (.aload_n 0, 1) := by decide +kernel
theorem dX8_rule_167 : decode cX8_rule 167 = .ok (.getfield 47, 3) := by decide +kernel
theorem dX8_rule_170 : decode cX8_rule 170 = .ok (.iload_n 3, 1) := by decide +kernel
theorem dX8_rule_171 : decode cX8_rule 171 = .ok (.iaload, 1) := by decide +kernel
theorem dX8_rule_172 : decode cX8_rule 172 = .ok (.ireturn, 1) := by decide +kernel
theorem dX8_lastsWith_0 : decode cX8_lastsWith 0 = .ok (.aload_n 0, 1) := by decide +kernel
theorem dX8_lastsWith_1 : decode cX8_lastsWith 1 = .ok (.getfield 22, 3) := by decide +kernel
theorem dX8_lastsWith_4 : decode cX8_lastsWith 4 = .ok (.bipush 17, 2) := by decide +kernel
theorem dX8_lastsWith_6 : decode cX8_lastsWith 6 = .ok (.iload_n 1, 1) := by decide +kernel
theorem dX8_lastsWith_7 : decode cX8_lastsWith 7 = .ok (.iadd, 1) := by decide +kernel
theorem dX8_lastsWith_8 : decode cX8_lastsWith 8 = .ok (.iaload, 1) := by decide +kernel
theorem dX8_lastsWith_9 : decode cX8_lastsWith 9 = .ok (.istore_n 3, 1) := by decide +kernel
theorem dX8_lastsWith_10 : decode cX8_lastsWith 10 = .ok (.iload_n 2, 1) := by decide +kernel
theorem dX8_lastsWith_11 : decode cX8_lastsWith 11 = .ok (.istore 4, 2) := by decide +kernel
theorem dX8_lastsWith_13 : decode cX8_lastsWith 13 = .ok (.iconst 0, 1) := by decide +kernel
theorem dX8_lastsWith_14 : decode cX8_lastsWith 14 = .ok (.istore 5, 2) := by decide +kernel
theorem dX8_lastsWith_16 : decode cX8_lastsWith 16 = .ok (.iload_n 3, 1) := by decide +kernel
theorem dX8_lastsWith_17 : decode cX8_lastsWith 17 = .ok (.ifCond .le 96, 3) := by decide +kernel
theorem dX8_lastsWith_20 : decode cX8_lastsWith 20 = .ok (.iload 5, 2) := by decide +kernel
theorem dX8_lastsWith_22 : decode cX8_lastsWith 22 = .ok (.bipush 99, 2) := by decide +kernel
theorem dX8_lastsWith_24 : decode cX8_lastsWith 24 = .ok (.if_icmp .ge 89, 3) := by decide +kernel
theorem dX8_lastsWith_27 : decode cX8_lastsWith 27 = .ok (.aload_n 0, 1) := by decide +kernel
theorem dX8_lastsWith_28 : decode cX8_lastsWith 28 = .ok (.getfield 22, 3) := by decide +kernel
theorem dX8_lastsWith_31 : decode cX8_lastsWith 31 = .ok (.iload_n 3, 1) := by decide +kernel
theorem dX8_lastsWith_32 : decode cX8_lastsWith 32 = .ok (.invokestatic 157, 3) := by decide +kernel
theorem dX8_lastsWith_35 : decode cX8_lastsWith 35 = .ok (.ifCond .ne 12, 3) := by decide +kernel
theorem dX8_lastsWith_38 : decode cX8_lastsWith 38 = .ok (.iload 4, 2) := by decide +kernel
theorem dX8_lastsWith_40 : decode cX8_lastsWith 40 = .ok (.ifCond .le 7, 3) := by decide +kernel
theorem dX8_lastsWith_43 : decode cX8_lastsWith 43 = .ok (.iconst 1, 1) := by decide +kernel
theorem dX8_lastsWith_44 : decode cX8_lastsWith 44 = .ok (.goto 4, 3) := by decide +kernel
theorem dX8_lastsWith_47 : decode cX8_lastsWith 47 = .ok (.iconst 0, 1) := by decide +kernel
theorem dX8_lastsWith_48 : decode cX8_lastsWith 48 = .ok (.istore 6, 2) := by decide +kernel
theorem dX8_lastsWith_50 : decode cX8_lastsWith 50 = .ok (.iload 4, 2) := by decide +kernel
theorem dX8_lastsWith_52 : decode cX8_lastsWith 52 = .ok (.iload 6, 2) := by decide +kernel
theorem dX8_lastsWith_54 : decode cX8_lastsWith 54 = .ok (.ifCond .eq 7, 3) := by decide +kernel
theorem dX8_lastsWith_57 : decode cX8_lastsWith 57 = .ok (.iconst 1, 1) := by decide +kernel
theorem dX8_lastsWith_58 : decode cX8_lastsWith 58 = .ok (.goto 4, 3) := by decide +kernel
theorem dX8_lastsWith_61 : decode cX8_lastsWith 61 = .ok (.iconst 0, 1) := by decide +kernel
theorem dX8_lastsWith_62 : decode cX8_lastsWith 62 = .ok (.isub, 1) := by decide +kernel
theorem dX8_lastsWith_63 : decode cX8_lastsWith 63 = .ok (.istore 4, 2) := by decide +kernel
theorem dX8_lastsWith_65 : decode cX8_lastsWith 65 = .ok (.aload_n 0, 1) := by decide +kernel
theorem dX8_lastsWith_66 : decode cX8_lastsWith 66 = .ok (.getfield 22, 3) := by decide +kernel
theorem dX8_lastsWith_69 : decode cX8_lastsWith 69 = .ok (.aload_n 0, 1) := by decide +kernel
theorem dX8_lastsWith_70 : decode cX8_lastsWith 70 = .ok (.getfield 22, 3) := by decide +kernel
theorem dX8_lastsWith_73 : decode cX8_lastsWith 73 = .ok (.bipush 7, 2) := by decide +kernel
theorem dX8_lastsWith_75 : decode cX8_lastsWith 75 = .ok (.iload_n 1, 1) := by decide +kernel
theorem dX8_lastsWith_76 : decode cX8_lastsWith 76 = .ok (.iadd, 1) := by decide +kernel
theorem dX8_lastsWith_77 : decode cX8_lastsWith 77 = .ok (.iaload, 1) := by decide +kernel
theorem dX8_lastsWith_78 : decode cX8_lastsWith 78 = .ok (.iload_n 3, 1) := by decide +kernel
theorem dX8_lastsWith_79 : decode cX8_lastsWith 79 = .ok (.iload 6, 2) := by decide +kernel
theorem dX8_lastsWith_81 : decode cX8_lastsWith 81 = .ok (.ifCond .eq 7, 3) := by decide +kernel
theorem dX8_lastsWith_84 : decode cX8_lastsWith 84 = .ok (.iconst 1, 1) := by decide +kernel
theorem dX8_lastsWith_85 : decode cX8_lastsWith 85 = .ok (.goto 4, 3) := by decide +kernel
theorem dX8_lastsWith_88 : decode cX8_lastsWith 88 = .ok (.iconst 0, 1) := by decide +kernel
theorem dX8_lastsWith_89 : decode cX8_lastsWith 89 = .ok (.invokestatic 165, 3) := by decide +kernel
theorem dX8_lastsWith_92 : decode cX8_lastsWith 92 = .ok (.invokestatic 157, 3) := by decide +kernel
theorem dX8_lastsWith_95 : decode cX8_lastsWith 95 = .ok (.istore_n 3, 1) := by decide +kernel
theorem dX8_lastsWith_96 : decode cX8_lastsWith 96 = .ok (.iload 5, 2) := by decide +kernel
theorem dX8_lastsWith_98 : decode cX8_lastsWith 98 = .ok (.iload_n 3, 1) := by decide +kernel
theorem dX8_lastsWith_99 : decode cX8_lastsWith 99 = .ok (.ifCond .le 7, 3) := by decide +kernel
theorem dX8_lastsWith_102 : decode cX8_lastsWith 102 = .ok (.iconst 1, 1) := by decide +kernel
theorem dX8_lastsWith_103 : decode cX8_lastsWith 103 = .ok (.goto 4, 3) := by decide +kernel
theorem dX8_lastsWith_106 : decode cX8_lastsWith 106 = .ok (.iconst 0, 1) := by decide +kernel
theorem dX8_lastsWith_107 : decode cX8_lastsWith 107 = .ok (.iadd, 1) := by decide +kernel
theorem dX8_lastsWith_108 : decode cX8_lastsWith 108 = .ok (.istore 5, 2) := by decide +kernel
theorem dX8_lastsWith_110 : decode cX8_lastsWith 110 = .ok (.goto (-94), 3) := by decide +kernel
theorem dX8_lastsWith_113 : decode cX8_lastsWith 113 = .ok (.iload 5, 2) := by decide +kernel
theorem dX8_lastsWith_115 : decode cX8_lastsWith 115 = .ok (.ireturn, 1) := by decide +kernel
theorem dX8_lasts_0 : decode cX8_lasts 0 = .ok (.aload_n 0, 1) := by decide +kernel
theorem dX8_lasts_1 : decode cX8_lasts 1 = .ok (.iload_n 1, 1) := by decide +kernel
theorem dX8_lasts_2 : decode cX8_lasts 2 = .ok (.invokevirtual 186, 3) := by decide +kernel
theorem dX8_lasts_5 : decode cX8_lasts 5 = .ok (.ifCond .eq 20, 3) := by decide +kernel
theorem dX8_lasts_8 : decode cX8_lasts 8 = .ok (.aload_n 0, 1) := by decide +kernel
theorem dX8_lasts_9 : decode cX8_lasts 9 = .ok (.iload_n 1, 1) := by decide +kernel
theorem dX8_lasts_10 : decode cX8_lasts 10 = .ok (.aload_n 0, 1) := by decide +kernel
theorem dX8_lasts_11 : decode cX8_lasts 11 = .ok (.getfield 22, 3) := by decide +kernel
theorem dX8_lasts_14 : decode cX8_lasts 14 = .ok (.bipush 22, 2) := by decide +kernel
theorem dX8_lasts_16 : decode cX8_lasts 16 = .ok (.iload_n 1, 1) := by decide +kernel
theorem dX8_lasts_17 : decode cX8_lasts 17 = .ok (.iadd, 1) := by decide +kernel
theorem dX8_lasts_18 : decode cX8_lasts 18 = .ok (.iaload, 1) := by decide +kernel
theorem dX8_lasts_19 : decode cX8_lasts 19 = .ok (.invokevirtual 242, 3) := by decide +kernel
theorem dX8_lasts_22 : decode cX8_lasts 22 = .ok (.goto 5, 3) := by decide +kernel
theorem dX8_lasts_25 : decode cX8_lasts 25 = .ok (.ldc 67, 2) := by decide +kernel
theorem dX8_lasts_27 : decode cX8_lasts 27 = .ok (.ireturn, 1) := by decide +kernel
theorem dX8_kept_0 : decode cX8_kept 0 = .ok (.aload_n 0, 1) := by decide +kernel
theorem dX8_kept_1 : decode cX8_kept 1 = .ok (.iload_n 1, 1) := by decide +kernel
theorem dX8_kept_2 : decode cX8_kept 2 = .ok (.invokevirtual 186, 3) := by decide +kernel
theorem dX8_kept_5 : decode cX8_kept 5 = .ok (.ifCond .eq 15, 3) := by decide +kernel
theorem dX8_kept_8 : decode cX8_kept 8 = .ok (.iload_n 2, 1) := by decide +kernel
theorem dX8_kept_9 : decode cX8_kept 9 = .ok (.i2l, 1) := by decide +kernel
theorem dX8_kept_10 : decode cX8_kept 10 = .ok (.lconst 1, 1) := by decide +kernel
theorem dX8_kept_11 : decode cX8_kept 11 = .ok (.ldc2_w 170, 3) := by decide +kernel
theorem dX8_kept_14 : decode cX8_kept 14 = .ok (.invokestatic 57, 3) := by decide +kernel
theorem dX8_kept_17 : decode cX8_kept 17 = .ok (.ifCond .ne 6, 3) := by decide +kernel
theorem dX8_kept_20 : decode cX8_kept 20 = .ok (.ldc 67, 2) := by decide +kernel
theorem dX8_kept_22 : decode cX8_kept 22 = .ok (.ireturn, 1) := by decide +kernel
theorem dX8_kept_23 : decode cX8_kept 23 = .ok (.iconst 0, 1) := by decide +kernel
theorem dX8_kept_24 : decode cX8_kept 24 = .ok (.istore_n 3, 1) := by decide +kernel
theorem dX8_kept_25 : decode cX8_kept 25 = .ok (.iload_n 3, 1) := by decide +kernel
theorem dX8_kept_26 : decode cX8_kept 26 = .ok (.bipush 60, 2) := by decide +kernel
theorem dX8_kept_28 : decode cX8_kept 28 = .ok (.if_icmp .gt 21, 3) := by decide +kernel
theorem dX8_kept_31 : decode cX8_kept 31 = .ok (.aload_n 0, 1) := by decide +kernel
theorem dX8_kept_32 : decode cX8_kept 32 = .ok (.iload_n 1, 1) := by decide +kernel
theorem dX8_kept_33 : decode cX8_kept 33 = .ok (.iload_n 3, 1) := by decide +kernel
theorem dX8_kept_34 : decode cX8_kept 34 = .ok (.invokevirtual 242, 3) := by decide +kernel
theorem dX8_kept_37 : decode cX8_kept 37 = .ok (.iload_n 2, 1) := by decide +kernel
theorem dX8_kept_38 : decode cX8_kept 38 = .ok (.if_icmp .lt 5, 3) := by decide +kernel
theorem dX8_kept_41 : decode cX8_kept 41 = .ok (.iload_n 3, 1) := by decide +kernel
theorem dX8_kept_42 : decode cX8_kept 42 = .ok (.ireturn, 1) := by decide +kernel
theorem dX8_kept_43 : decode cX8_kept 43 = .ok (.iinc 3 1, 3) := by decide +kernel
theorem dX8_kept_46 : decode cX8_kept 46 = .ok (.goto (-21), 3) := by decide +kernel
theorem dX8_kept_49 : decode cX8_kept 49 = .ok (.ldc 216, 2) := by decide +kernel
theorem dX8_kept_51 : decode cX8_kept 51 = .ok (.ireturn, 1) := by decide +kernel
theorem dX8_turned_0 : decode cX8_turned 0 = .ok (.aload_n 0, 1) := by decide +kernel
theorem dX8_turned_1 : decode cX8_turned 1 = .ok (.iload_n 1, 1) := by decide +kernel
theorem dX8_turned_2 : decode cX8_turned 2 = .ok (.invokevirtual 186, 3) := by decide +kernel
theorem dX8_turned_5 : decode cX8_turned 5 = .ok (.ifCond .eq 43, 3) := by decide +kernel
theorem dX8_turned_8 : decode cX8_turned 8 = .ok (.iload_n 2, 1) := by decide +kernel
theorem dX8_turned_9 : decode cX8_turned 9 = .ok (.invokestatic 203, 3) := by decide +kernel
theorem dX8_turned_12 : decode cX8_turned 12 = .ok (.ifCond .eq 36, 3) := by decide +kernel
theorem dX8_turned_15 : decode cX8_turned 15 = .ok (.iload_n 3, 1) := by decide +kernel
theorem dX8_turned_16 : decode cX8_turned 16 = .ok (.i2l, 1) := by decide +kernel
theorem dX8_turned_17 : decode cX8_turned 17 = .ok (.lconst 1, 1) := by decide +kernel
theorem dX8_turned_18 : decode cX8_turned 18 = .ok (.ldc2_w 225, 3) := by decide +kernel
theorem dX8_turned_21 : decode cX8_turned 21 = .ok (.invokestatic 57, 3) := by decide +kernel
theorem dX8_turned_24 : decode cX8_turned 24 = .ok (.ifCond .eq 24, 3) := by decide +kernel
theorem dX8_turned_27 : decode cX8_turned 27 = .ok (.iload 4, 2) := by decide +kernel
theorem dX8_turned_29 : decode cX8_turned 29 = .ok (.i2l, 1) := by decide +kernel
theorem dX8_turned_30 : decode cX8_turned 30 = .ok (.lconst 0, 1) := by decide +kernel
theorem dX8_turned_31 : decode cX8_turned 31 = .ok (.ldc2_w 245, 3) := by decide +kernel
theorem dX8_turned_34 : decode cX8_turned 34 = .ok (.invokestatic 57, 3) := by decide +kernel
theorem dX8_turned_37 : decode cX8_turned 37 = .ok (.ifCond .eq 11, 3) := by decide +kernel
theorem dX8_turned_40 : decode cX8_turned 40 = .ok (.iload 5, 2) := by decide +kernel
theorem dX8_turned_42 : decode cX8_turned 42 = .ok (.invokestatic 209, 3) := by decide +kernel
theorem dX8_turned_45 : decode cX8_turned 45 = .ok (.ifCond .ne 7, 3) := by decide +kernel
theorem dX8_turned_48 : decode cX8_turned 48 = .ok (.ldc2_w 247, 3) := by decide +kernel
theorem dX8_turned_51 : decode cX8_turned 51 = .ok (.lreturn, 1) := by decide +kernel
theorem dX8_turned_52 : decode cX8_turned 52 = .ok (.lconst 0, 1) := by decide +kernel
theorem dX8_turned_53 : decode cX8_turned 53 = .ok (.lstore 6, 2) := by decide +kernel
theorem dX8_turned_55 : decode cX8_turned 55 = .ok (.ldc2_w 249, 3) := by decide +kernel
theorem dX8_turned_58 : decode cX8_turned 58 = .ok (.lstore 8, 2) := by decide +kernel
theorem dX8_turned_60 : decode cX8_turned 60 = .ok (.iconst 0, 1) := by decide +kernel
theorem dX8_turned_61 : decode cX8_turned 61 = .ok (.istore 10, 2) := by decide +kernel
theorem dX8_turned_63 : decode cX8_turned 63 = .ok (.iload 10, 2) := by decide +kernel
theorem dX8_turned_65 : decode cX8_turned 65 = .ok (.bipush 16, 2) := by decide +kernel
theorem dX8_turned_67 : decode cX8_turned 67 = .ok (.if_icmp .ge 155, 3) := by decide +kernel
theorem dX8_turned_70 : decode cX8_turned 70 = .ok (.aload_n 0, 1) := by decide +kernel
theorem dX8_turned_71 : decode cX8_turned 71 = .ok (.iconst 0, 1) := by decide +kernel
theorem dX8_turned_72 : decode cX8_turned 72 = .ok (.invokevirtual 212, 3) := by decide +kernel
theorem dX8_turned_75 : decode cX8_turned 75 = .ok (.lconst 1, 1) := by decide +kernel
theorem dX8_turned_76 : decode cX8_turned 76 = .ok (.lstore 11, 2) := by decide +kernel
theorem dX8_turned_78 : decode cX8_turned 78 = .ok (.iconst 0, 1) := by decide +kernel
theorem dX8_turned_79 : decode cX8_turned 79 = .ok (.istore 13, 2) := by decide +kernel
theorem dX8_turned_81 : decode cX8_turned 81 = .ok (.iload 13, 2) := by decide +kernel
theorem dX8_turned_83 : decode cX8_turned 83 = .ok (.iconst 4, 1) := by decide +kernel
theorem dX8_turned_84 : decode cX8_turned 84 = .ok (.if_icmp .ge 86, 3) := by decide +kernel
theorem dX8_turned_87 : decode cX8_turned 87 = .ok (.iload 10, 2) := by decide +kernel
theorem dX8_turned_89 : decode cX8_turned 89 = .ok (.iload 13, 2) := by decide +kernel
theorem dX8_turned_91 : decode cX8_turned 91 = .ok (.ishr, 1) := by decide +kernel
theorem dX8_turned_92 : decode cX8_turned 92 = .ok (.iconst 1, 1) := by decide +kernel
theorem dX8_turned_93 : decode cX8_turned 93 = .ok (.iand, 1) := by decide +kernel
theorem dX8_turned_94 : decode cX8_turned 94 = .ok (.iconst 1, 1) := by decide +kernel
theorem dX8_turned_95 : decode cX8_turned 95 = .ok (.if_icmp .ne 7, 3) := by decide +kernel
theorem dX8_turned_98 : decode cX8_turned 98 = .ok (.iconst 1, 1) := by decide +kernel
theorem dX8_turned_99 : decode cX8_turned 99 = .ok (.goto 4, 3) := by decide +kernel
theorem dX8_turned_102 : decode cX8_turned 102 = .ok (.iconst 0, 1) := by decide +kernel
theorem dX8_turned_103 : decode cX8_turned 103 = .ok (.istore 14, 2) := by decide +kernel
theorem dX8_turned_105 : decode cX8_turned 105 = .ok (.aload_n 0, 1) := by decide +kernel
theorem dX8_turned_106 : decode cX8_turned 106 = .ok (.getfield 41, 3) := by decide +kernel
theorem dX8_turned_109 : decode cX8_turned 109 = .ok (.iconst 0, 1) := by decide +kernel
theorem dX8_turned_110 : decode cX8_turned 110 = .ok (.iload 13, 2) := by decide +kernel
theorem dX8_turned_112 : decode cX8_turned 112 = .ok (.iadd, 1) := by decide +kernel
theorem dX8_turned_113 : decode cX8_turned 113 = .ok (.iload 14, 2) := by decide +kernel
theorem dX8_turned_115 : decode cX8_turned 115 = .ok (.ifCond .eq 17, 3) := by decide +kernel
theorem dX8_turned_118 : decode cX8_turned 118 = .ok (.iconst 4, 1) := by decide +kernel
theorem dX8_turned_119 : decode cX8_turned 119 = .ok (.aload_n 0, 1) := by decide +kernel
theorem dX8_turned_120 : decode cX8_turned 120 = .ok (.getfield 22, 3) := by decide +kernel
theorem dX8_turned_123 : decode cX8_turned 123 = .ok (.iconst 0, 1) := by decide +kernel
theorem dX8_turned_124 : decode cX8_turned 124 = .ok (.iload 13, 2) := by decide +kernel
theorem dX8_turned_126 : decode cX8_turned 126 = .ok (.iadd, 1) := by decide +kernel
theorem dX8_turned_127 : decode cX8_turned 127 = .ok (.iaload, 1) := by decide +kernel
theorem dX8_turned_128 : decode cX8_turned 128 = .ok (.isub, 1) := by decide +kernel
theorem dX8_turned_129 : decode cX8_turned 129 = .ok (.goto 12, 3) := by decide +kernel
theorem dX8_turned_132 : decode cX8_turned 132 = .ok (.aload_n 0, 1) := by decide +kernel
theorem dX8_turned_133 : decode cX8_turned 133 = .ok (.getfield 22, 3) := by decide +kernel
theorem dX8_turned_136 : decode cX8_turned 136 = .ok (.iconst 0, 1) := by decide +kernel
theorem dX8_turned_137 : decode cX8_turned 137 = .ok (.iload 13, 2) := by decide +kernel
theorem dX8_turned_139 : decode cX8_turned 139 = .ok (.iadd, 1) := by decide +kernel
theorem dX8_turned_140 : decode cX8_turned 140 = .ok (.iaload, 1) := by decide +kernel
theorem dX8_turned_141 : decode cX8_turned 141 = .ok (.iastore, 1) := by decide +kernel
theorem dX8_turned_142 : decode cX8_turned 142 = .ok (.lload 11, 2) := by decide +kernel
theorem dX8_turned_144 : decode cX8_turned 144 = .ok (.iload 14, 2) := by decide +kernel
theorem dX8_turned_146 : decode cX8_turned 146 = .ok (.ifCond .eq 9, 3) := by decide +kernel
theorem dX8_turned_149 : decode cX8_turned 149 = .ok (.iload 4, 2) := by decide +kernel
theorem dX8_turned_151 : decode cX8_turned 151 = .ok (.i2l, 1) := by decide +kernel
theorem dX8_turned_152 : decode cX8_turned 152 = .ok (.goto 9, 3) := by decide +kernel
theorem dX8_turned_155 : decode cX8_turned 155 = .ok (.bipush 10, 2) := by decide +kernel
theorem dX8_turned_157 : decode cX8_turned 157 = .ok (.iload 4, 2) := by decide +kernel
theorem dX8_turned_159 : decode cX8_turned 159 = .ok (.isub, 1) := by decide +kernel
theorem dX8_turned_160 : decode cX8_turned 160 = .ok (.i2l, 1) := by decide +kernel
theorem dX8_turned_161 : decode cX8_turned 161 = .ok (.lmul, 1) := by decide +kernel
theorem dX8_turned_162 : decode cX8_turned 162 = .ok (.lstore 11, 2) := by decide +kernel
theorem dX8_turned_164 : decode cX8_turned 164 = .ok (.iinc 13 1, 3) := by decide +kernel
theorem dX8_turned_167 : decode cX8_turned 167 = .ok (.goto (-86), 3) := by decide +kernel
theorem dX8_turned_170 : decode cX8_turned 170 = .ok (.iconst 0, 1) := by decide +kernel
theorem dX8_turned_171 : decode cX8_turned 171 = .ok (.istore 13, 2) := by decide +kernel
theorem dX8_turned_173 : decode cX8_turned 173 = .ok (.iload 13, 2) := by decide +kernel
theorem dX8_turned_175 : decode cX8_turned 175 = .ok (.iload_n 3, 1) := by decide +kernel
theorem dX8_turned_176 : decode cX8_turned 176 = .ok (.if_icmp .ge 16, 3) := by decide +kernel
theorem dX8_turned_179 : decode cX8_turned 179 = .ok (.aload_n 0, 1) := by decide +kernel
theorem dX8_turned_180 : decode cX8_turned 180 = .ok (.getfield 41, 3) := by decide +kernel
theorem dX8_turned_183 : decode cX8_turned 183 = .ok (.invokestatic 175, 3) := by decide +kernel
theorem dX8_turned_186 : decode cX8_turned 186 = .ok (.iinc 13 1, 3) := by decide +kernel
theorem dX8_turned_189 : decode cX8_turned 189 = .ok (.goto (-16), 3) := by decide +kernel
theorem dX8_turned_192 : decode cX8_turned 192 = .ok (.lload 6, 2) := by decide +kernel
theorem dX8_turned_194 : decode cX8_turned 194 = .ok (.aload_n 0, 1) := by decide +kernel
theorem dX8_turned_195 : decode cX8_turned 195 = .ok (.getfield 41, 3) := by decide +kernel
theorem dX8_turned_198 : decode cX8_turned 198 = .ok (.bipush 12, 2) := by decide +kernel
theorem dX8_turned_200 : decode cX8_turned 200 = .ok (.iload_n 1, 1) := by decide +kernel
theorem dX8_turned_201 : decode cX8_turned 201 = .ok (.iadd, 1) := by decide +kernel
theorem dX8_turned_202 : decode cX8_turned 202 = .ok (.iaload, 1) := by decide +kernel
theorem dX8_turned_203 : decode cX8_turned 203 = .ok (.iload_n 2, 1) := by decide +kernel
theorem dX8_turned_204 : decode cX8_turned 204 = .ok (.if_icmp .ne 8, 3) := by decide +kernel
theorem dX8_turned_207 : decode cX8_turned 207 = .ok (.lload 11, 2) := by decide +kernel
theorem dX8_turned_209 : decode cX8_turned 209 = .ok (.goto 4, 3) := by decide +kernel
theorem dX8_turned_212 : decode cX8_turned 212 = .ok (.lconst 0, 1) := by decide +kernel
theorem dX8_turned_213 : decode cX8_turned 213 = .ok (.ladd, 1) := by decide +kernel
theorem dX8_turned_214 : decode cX8_turned 214 = .ok (.lstore 6, 2) := by decide +kernel
theorem dX8_turned_216 : decode cX8_turned 216 = .ok (.iinc 10 1, 3) := by decide +kernel
theorem dX8_turned_219 : decode cX8_turned 219 = .ok (.goto (-156), 3) := by decide +kernel
theorem dX8_turned_222 : decode cX8_turned 222 = .ok (.lload 6, 2) := by decide +kernel
theorem dX8_turned_224 : decode cX8_turned 224 = .ok (.lstore 10, 2) := by decide +kernel
theorem dX8_turned_226 : decode cX8_turned 226 = .ok (.lload 8, 2) := by decide +kernel
theorem dX8_turned_228 : decode cX8_turned 228 = .ok (.lstore 12, 2) := by decide +kernel
theorem dX8_turned_230 : decode cX8_turned 230 = .ok (.lload 12, 2) := by decide +kernel
theorem dX8_turned_232 : decode cX8_turned 232 = .ok (.lconst 0, 1) := by decide +kernel
theorem dX8_turned_233 : decode cX8_turned 233 = .ok (.lcmp, 1) := by decide +kernel
theorem dX8_turned_234 : decode cX8_turned 234 = .ok (.ifCond .eq 21, 3) := by decide +kernel
theorem dX8_turned_237 : decode cX8_turned 237 = .ok (.lload 10, 2) := by decide +kernel
theorem dX8_turned_239 : decode cX8_turned 239 = .ok (.lload 12, 2) := by decide +kernel
theorem dX8_turned_241 : decode cX8_turned 241 = .ok (.lrem, 1) := by decide +kernel
theorem dX8_turned_242 : decode cX8_turned 242 = .ok (.lstore 14, 2) := by decide +kernel
theorem dX8_turned_244 : decode cX8_turned 244 = .ok (.lload 12, 2) := by decide +kernel
theorem dX8_turned_246 : decode cX8_turned 246 = .ok (.lstore 10, 2) := by decide +kernel
theorem dX8_turned_248 : decode cX8_turned 248 = .ok (.lload 14, 2) := by decide +kernel
theorem dX8_turned_250 : decode cX8_turned 250 = .ok (.lstore 12, 2) := by decide +kernel
theorem dX8_turned_252 : decode cX8_turned 252 = .ok (.goto (-22), 3) := by decide +kernel
theorem dX8_turned_255 : decode cX8_turned 255 = .ok (.iload 5, 2) := by decide +kernel
theorem dX8_turned_257 : decode cX8_turned 257 = .ok (.ifCond .ne 11, 3) := by decide +kernel
theorem dX8_turned_260 : decode cX8_turned 260 = .ok (.lload 6, 2) := by decide +kernel
theorem dX8_turned_262 : decode cX8_turned 262 = .ok (.lload 10, 2) := by decide +kernel
theorem dX8_turned_264 : decode cX8_turned 264 = .ok (.ldiv, 1) := by decide +kernel
theorem dX8_turned_265 : decode cX8_turned 265 = .ok (.goto 8, 3) := by decide +kernel
theorem dX8_turned_268 : decode cX8_turned 268 = .ok (.lload 8, 2) := by decide +kernel
theorem dX8_turned_270 : decode cX8_turned 270 = .ok (.lload 10, 2) := by decide +kernel
theorem dX8_turned_272 : decode cX8_turned 272 = .ok (.ldiv, 1) := by decide +kernel
theorem dX8_turned_273 : decode cX8_turned 273 = .ok (.lreturn, 1) := by decide +kernel
theorem dX8_drawn_0 : decode cX8_drawn 0 = .ok (.aload_n 0, 1) := by decide +kernel
theorem dX8_drawn_1 : decode cX8_drawn 1 = .ok (.getfield 137, 3) := by decide +kernel
theorem dX8_drawn_4 : decode cX8_drawn 4 = .ok (.ifCond .ne 6, 3) := by decide +kernel
theorem dX8_drawn_7 : decode cX8_drawn 7 = .ok (.ldc 169, 2) := by decide +kernel
theorem dX8_drawn_9 : decode cX8_drawn 9 = .ok (.ireturn, 1) := by decide +kernel
theorem dX8_drawn_10 : decode cX8_drawn 10 = .ok (.iload_n 1, 1) := by decide +kernel
theorem dX8_drawn_11 : decode cX8_drawn 11 = .ok (.i2l, 1) := by decide +kernel
theorem dX8_drawn_12 : decode cX8_drawn 12 = .ok (.lconst 0, 1) := by decide +kernel
theorem dX8_drawn_13 : decode cX8_drawn 13 = .ok (.ldc2_w 195, 3) := by decide +kernel
theorem dX8_drawn_16 : decode cX8_drawn 16 = .ok (.invokestatic 57, 3) := by decide +kernel
theorem dX8_drawn_19 : decode cX8_drawn 19 = .ok (.ifCond .eq 22, 3) := by decide +kernel
theorem dX8_drawn_22 : decode cX8_drawn 22 = .ok (.iload_n 2, 1) := by decide +kernel
theorem dX8_drawn_23 : decode cX8_drawn 23 = .ok (.i2l, 1) := by decide +kernel
theorem dX8_drawn_24 : decode cX8_drawn 24 = .ok (.lconst 1, 1) := by decide +kernel
theorem dX8_drawn_25 : decode cX8_drawn 25 = .ok (.ldc2_w 251, 3) := by decide +kernel
theorem dX8_drawn_28 : decode cX8_drawn 28 = .ok (.invokestatic 57, 3) := by decide +kernel
theorem dX8_drawn_31 : decode cX8_drawn 31 = .ok (.ifCond .eq 10, 3) := by decide +kernel
theorem dX8_drawn_34 : decode cX8_drawn 34 = .ok (.iload_n 3, 1) := by decide +kernel
theorem dX8_drawn_35 : decode cX8_drawn 35 = .ok (.invokestatic 209, 3) := by decide +kernel
theorem dX8_drawn_38 : decode cX8_drawn 38 = .ok (.ifCond .ne 6, 3) := by decide +kernel
theorem dX8_drawn_41 : decode cX8_drawn 41 = .ok (.ldc 67, 2) := by decide +kernel
theorem dX8_drawn_43 : decode cX8_drawn 43 = .ok (.ireturn, 1) := by decide +kernel
theorem dX8_drawn_44 : decode cX8_drawn 44 = .ok (.aload_n 0, 1) := by decide +kernel
theorem dX8_drawn_45 : decode cX8_drawn 45 = .ok (.iconst 0, 1) := by decide +kernel
theorem dX8_drawn_46 : decode cX8_drawn 46 = .ok (.invokevirtual 212, 3) := by decide +kernel
theorem dX8_drawn_49 : decode cX8_drawn 49 = .ok (.iload_n 2, 1) := by decide +kernel
theorem dX8_drawn_50 : decode cX8_drawn 50 = .ok (.i2l, 1) := by decide +kernel
theorem dX8_drawn_51 : decode cX8_drawn 51 = .ok (.lstore 4, 2) := by decide +kernel
theorem dX8_drawn_53 : decode cX8_drawn 53 = .ok (.iconst 0, 1) := by decide +kernel
theorem dX8_drawn_54 : decode cX8_drawn 54 = .ok (.istore 6, 2) := by decide +kernel
theorem dX8_drawn_56 : decode cX8_drawn 56 = .ok (.iconst 0, 1) := by decide +kernel
theorem dX8_drawn_57 : decode cX8_drawn 57 = .ok (.istore 7, 2) := by decide +kernel
theorem dX8_drawn_59 : decode cX8_drawn 59 = .ok (.iload 7, 2) := by decide +kernel
theorem dX8_drawn_61 : decode cX8_drawn 61 = .ok (.iload_n 1, 1) := by decide +kernel
theorem dX8_drawn_62 : decode cX8_drawn 62 = .ok (.if_icmp .ge 100, 3) := by decide +kernel
theorem dX8_drawn_65 : decode cX8_drawn 65 = .ok (.lload 4, 2) := by decide +kernel
theorem dX8_drawn_67 : decode cX8_drawn 67 = .ok (.ldc2_w 253, 3) := by decide +kernel
theorem dX8_drawn_70 : decode cX8_drawn 70 = .ok (.lmul, 1) := by decide +kernel
theorem dX8_drawn_71 : decode cX8_drawn 71 = .ok (.ldc2_w 255, 3) := by decide +kernel
theorem dX8_drawn_74 : decode cX8_drawn 74 = .ok (.lrem, 1) := by decide +kernel
theorem dX8_drawn_75 : decode cX8_drawn 75 = .ok (.lstore 4, 2) := by decide +kernel
theorem dX8_drawn_77 : decode cX8_drawn 77 = .ok (.lload 4, 2) := by decide +kernel
theorem dX8_drawn_79 : decode cX8_drawn 79 = .ok (.aload_n 0, 1) := by decide +kernel
theorem dX8_drawn_80 : decode cX8_drawn 80 = .ok (.getfield 41, 3) := by decide +kernel
theorem dX8_drawn_83 : decode cX8_drawn 83 = .ok (.iconst 5, 1) := by decide +kernel
theorem dX8_drawn_84 : decode cX8_drawn 84 = .ok (.iaload, 1) := by decide +kernel
theorem dX8_drawn_85 : decode cX8_drawn 85 = .ok (.i2l, 1) := by decide +kernel
theorem dX8_drawn_86 : decode cX8_drawn 86 = .ok (.lrem, 1) := by decide +kernel
theorem dX8_drawn_87 : decode cX8_drawn 87 = .ok (.l2i, 1) := by decide +kernel
theorem dX8_drawn_88 : decode cX8_drawn 88 = .ok (.istore 8, 2) := by decide +kernel
theorem dX8_drawn_90 : decode cX8_drawn 90 = .ok (.lload 4, 2) := by decide +kernel
theorem dX8_drawn_92 : decode cX8_drawn 92 = .ok (.ldc2_w 199, 3) := by decide +kernel
theorem dX8_drawn_95 : decode cX8_drawn 95 = .ok (.lrem, 1) := by decide +kernel
theorem dX8_drawn_96 : decode cX8_drawn 96 = .ok (.l2i, 1) := by decide +kernel
theorem dX8_drawn_97 : decode cX8_drawn 97 = .ok (.istore 9, 2) := by decide +kernel
theorem dX8_drawn_99 : decode cX8_drawn 99 = .ok (.iload 9, 2) := by decide +kernel
theorem dX8_drawn_101 : decode cX8_drawn 101 = .ok (.aload_n 0, 1) := by decide +kernel
theorem dX8_drawn_102 : decode cX8_drawn 102 = .ok (.getfield 41, 3) := by decide +kernel
theorem dX8_drawn_105 : decode cX8_drawn 105 = .ok (.bipush 22, 2) := by decide +kernel
theorem dX8_drawn_107 : decode cX8_drawn 107 = .ok (.iload 8, 2) := by decide +kernel
theorem dX8_drawn_109 : decode cX8_drawn 109 = .ok (.iadd, 1) := by decide +kernel
theorem dX8_drawn_110 : decode cX8_drawn 110 = .ok (.iaload, 1) := by decide +kernel
theorem dX8_drawn_111 : decode cX8_drawn 111 = .ok (.if_icmp .le 16, 3) := by decide +kernel
theorem dX8_drawn_114 : decode cX8_drawn 114 = .ok (.aload_n 0, 1) := by decide +kernel
theorem dX8_drawn_115 : decode cX8_drawn 115 = .ok (.getfield 41, 3) := by decide +kernel
theorem dX8_drawn_118 : decode cX8_drawn 118 = .ok (.bipush 22, 2) := by decide +kernel
theorem dX8_drawn_120 : decode cX8_drawn 120 = .ok (.iload 8, 2) := by decide +kernel
theorem dX8_drawn_122 : decode cX8_drawn 122 = .ok (.iadd, 1) := by decide +kernel
theorem dX8_drawn_123 : decode cX8_drawn 123 = .ok (.iaload, 1) := by decide +kernel
theorem dX8_drawn_124 : decode cX8_drawn 124 = .ok (.goto 5, 3) := by decide +kernel
theorem dX8_drawn_127 : decode cX8_drawn 127 = .ok (.iload 9, 2) := by decide +kernel
theorem dX8_drawn_129 : decode cX8_drawn 129 = .ok (.istore 9, 2) := by decide +kernel
theorem dX8_drawn_131 : decode cX8_drawn 131 = .ok (.aload_n 0, 1) := by decide +kernel
theorem dX8_drawn_132 : decode cX8_drawn 132 = .ok (.getfield 41, 3) := by decide +kernel
theorem dX8_drawn_135 : decode cX8_drawn 135 = .ok (.iload 8, 2) := by decide +kernel
theorem dX8_drawn_137 : decode cX8_drawn 137 = .ok (.iload 9, 2) := by decide +kernel
theorem dX8_drawn_139 : decode cX8_drawn 139 = .ok (.invokestatic 191, 3) := by decide +kernel
theorem dX8_drawn_142 : decode cX8_drawn 142 = .ok (.iload 6, 2) := by decide +kernel
theorem dX8_drawn_144 : decode cX8_drawn 144 = .ok (.iload 9, 2) := by decide +kernel
theorem dX8_drawn_146 : decode cX8_drawn 146 = .ok (.iadd, 1) := by decide +kernel
theorem dX8_drawn_147 : decode cX8_drawn 147 = .ok (.istore 6, 2) := by decide +kernel
theorem dX8_drawn_149 : decode cX8_drawn 149 = .ok (.aload_n 0, 1) := by decide +kernel
theorem dX8_drawn_150 : decode cX8_drawn 150 = .ok (.getfield 41, 3) := by decide +kernel
theorem dX8_drawn_153 : decode cX8_drawn 153 = .ok (.invokestatic 175, 3) := by decide +kernel
theorem dX8_drawn_156 : decode cX8_drawn 156 = .ok (.iinc 7 1, 3) := by decide +kernel
theorem dX8_drawn_159 : decode cX8_drawn 159 = .ok (.goto (-100), 3) := by decide +kernel
theorem dX8_drawn_162 : decode cX8_drawn 162 = .ok (.iconst 0, 1) := by decide +kernel
theorem dX8_drawn_163 : decode cX8_drawn 163 = .ok (.istore 7, 2) := by decide +kernel
theorem dX8_drawn_165 : decode cX8_drawn 165 = .ok (.iconst 0, 1) := by decide +kernel
theorem dX8_drawn_166 : decode cX8_drawn 166 = .ok (.istore 8, 2) := by decide +kernel
theorem dX8_drawn_168 : decode cX8_drawn 168 = .ok (.iload 8, 2) := by decide +kernel
theorem dX8_drawn_170 : decode cX8_drawn 170 = .ok (.aload_n 0, 1) := by decide +kernel
theorem dX8_drawn_171 : decode cX8_drawn 171 = .ok (.getfield 41, 3) := by decide +kernel
theorem dX8_drawn_174 : decode cX8_drawn 174 = .ok (.iconst 5, 1) := by decide +kernel
theorem dX8_drawn_175 : decode cX8_drawn 175 = .ok (.iaload, 1) := by decide +kernel
theorem dX8_drawn_176 : decode cX8_drawn 176 = .ok (.if_icmp .ge 24, 3) := by decide +kernel
theorem dX8_drawn_179 : decode cX8_drawn 179 = .ok (.iload 7, 2) := by decide +kernel
theorem dX8_drawn_181 : decode cX8_drawn 181 = .ok (.aload_n 0, 1) := by decide +kernel
theorem dX8_drawn_182 : decode cX8_drawn 182 = .ok (.getfield 41, 3) := by decide +kernel
theorem dX8_drawn_185 : decode cX8_drawn 185 = .ok (.bipush 12, 2) := by decide +kernel
theorem dX8_drawn_187 : decode cX8_drawn 187 = .ok (.iload 8, 2) := by decide +kernel
theorem dX8_drawn_189 : decode cX8_drawn 189 = .ok (.iadd, 1) := by decide +kernel
theorem dX8_drawn_190 : decode cX8_drawn 190 = .ok (.iaload, 1) := by decide +kernel
theorem dX8_drawn_191 : decode cX8_drawn 191 = .ok (.iadd, 1) := by decide +kernel
theorem dX8_drawn_192 : decode cX8_drawn 192 = .ok (.istore 7, 2) := by decide +kernel
theorem dX8_drawn_194 : decode cX8_drawn 194 = .ok (.iinc 8 1, 3) := by decide +kernel
theorem dX8_drawn_197 : decode cX8_drawn 197 = .ok (.goto (-29), 3) := by decide +kernel
theorem dX8_drawn_200 : decode cX8_drawn 200 = .ok (.iload_n 3, 1) := by decide +kernel
theorem dX8_drawn_201 : decode cX8_drawn 201 = .ok (.ifCond .ne 8, 3) := by decide +kernel
theorem dX8_drawn_204 : decode cX8_drawn 204 = .ok (.iload 6, 2) := by decide +kernel
theorem dX8_drawn_206 : decode cX8_drawn 206 = .ok (.goto 5, 3) := by decide +kernel
theorem dX8_drawn_209 : decode cX8_drawn 209 = .ok (.iload 7, 2) := by decide +kernel
theorem dX8_drawn_211 : decode cX8_drawn 211 = .ok (.ireturn, 1) := by decide +kernel
theorem dX8_image_0 : decode cX8_image 0 = .ok (.iload_n 1, 1) := by decide +kernel
theorem dX8_image_1 : decode cX8_image 1 = .ok (.invokestatic 209, 3) := by decide +kernel
theorem dX8_image_4 : decode cX8_image 4 = .ok (.ifCond .ne 6, 3) := by decide +kernel
theorem dX8_image_7 : decode cX8_image 7 = .ok (.ldc 67, 2) := by decide +kernel
theorem dX8_image_9 : decode cX8_image 9 = .ok (.ireturn, 1) := by decide +kernel
theorem dX8_image_10 : decode cX8_image 10 = .ok (.aload_n 0, 1) := by decide +kernel
theorem dX8_image_11 : decode cX8_image 11 = .ok (.getfield 137, 3) := by decide +kernel
theorem dX8_image_14 : decode cX8_image 14 = .ok (.ifCond .ne 6, 3) := by decide +kernel
theorem dX8_image_17 : decode cX8_image 17 = .ok (.ldc 169, 2) := by decide +kernel
theorem dX8_image_19 : decode cX8_image 19 = .ok (.ireturn, 1) := by decide +kernel
theorem dX8_image_20 : decode cX8_image 20 = .ok (.aload_n 0, 1) := by decide +kernel
theorem dX8_image_21 : decode cX8_image 21 = .ok (.getfield 22, 3) := by decide +kernel
theorem dX8_image_24 : decode cX8_image 24 = .ok (.iconst 0, 1) := by decide +kernel
theorem dX8_image_25 : decode cX8_image 25 = .ok (.aload_n 0, 1) := by decide +kernel
theorem dX8_image_26 : decode cX8_image 26 = .ok (.getfield 28, 3) := by decide +kernel
theorem dX8_image_29 : decode cX8_image 29 = .ok (.bipush 32, 2) := by decide +kernel
theorem dX8_image_31 : decode cX8_image 31 = .ok (.iload_n 1, 1) := by decide +kernel
theorem dX8_image_32 : decode cX8_image 32 = .ok (.imul, 1) := by decide +kernel
theorem dX8_image_33 : decode cX8_image 33 = .ok (.invokestatic 144, 3) := by decide +kernel
theorem dX8_image_36 : decode cX8_image 36 = .ok (.aload_n 0, 1) := by decide +kernel
theorem dX8_image_37 : decode cX8_image 37 = .ok (.getfield 31, 3) := by decide +kernel
theorem dX8_image_40 : decode cX8_image 40 = .ok (.iload_n 1, 1) := by decide +kernel
theorem dX8_image_41 : decode cX8_image 41 = .ok (.iconst 1, 1) := by decide +kernel
theorem dX8_image_42 : decode cX8_image 42 = .ok (.bastore, 1) := by decide +kernel
theorem dX8_image_43 : decode cX8_image 43 = .ok (.iconst 1, 1) := by decide +kernel
theorem dX8_image_44 : decode cX8_image 44 = .ok (.ireturn, 1) := by decide +kernel
theorem dX8_restore_0 : decode cX8_restore 0 = .ok (.iload_n 1, 1) := by decide +kernel
theorem dX8_restore_1 : decode cX8_restore 1 = .ok (.invokestatic 209, 3) := by decide +kernel
theorem dX8_restore_4 : decode cX8_restore 4 = .ok (.ifCond .ne 6, 3) := by decide +kernel
theorem dX8_restore_7 : decode cX8_restore 7 = .ok (.ldc 67, 2) := by decide +kernel
theorem dX8_restore_9 : decode cX8_restore 9 = .ok (.ireturn, 1) := by decide +kernel
theorem dX8_restore_10 : decode cX8_restore 10 = .ok (.aload_n 0, 1) := by decide +kernel
theorem dX8_restore_11 : decode cX8_restore 11 = .ok (.getfield 31, 3) := by decide +kernel
theorem dX8_restore_14 : decode cX8_restore 14 = .ok (.iload_n 1, 1) := by decide +kernel
theorem dX8_restore_15 : decode cX8_restore 15 = .ok (.baload, 1) := by decide +kernel
theorem dX8_restore_16 : decode cX8_restore 16 = .ok (.ifCond .ne 6, 3) := by decide +kernel
theorem dX8_restore_19 : decode cX8_restore 19 = .ok (.ldc 169, 2) := by decide +kernel
theorem dX8_restore_21 : decode cX8_restore 21 = .ok (.ireturn, 1) := by decide +kernel
theorem dX8_restore_22 : decode cX8_restore 22 = .ok (.aload_n 0, 1) := by decide +kernel
theorem dX8_restore_23 : decode cX8_restore 23 = .ok (.getfield 28, 3) := by decide +kernel
theorem dX8_restore_26 : decode cX8_restore 26 = .ok (.bipush 32, 2) := by decide +kernel
theorem dX8_restore_28 : decode cX8_restore 28 = .ok (.iload_n 1, 1) := by decide +kernel
theorem dX8_restore_29 : decode cX8_restore 29 = .ok (.imul, 1) := by decide +kernel
theorem dX8_restore_30 : decode cX8_restore 30 = .ok (.aload_n 0, 1) := by decide +kernel
theorem dX8_restore_31 : decode cX8_restore 31 = .ok (.getfield 22, 3) := by decide +kernel
theorem dX8_restore_34 : decode cX8_restore 34 = .ok (.iconst 0, 1) := by decide +kernel
theorem dX8_restore_35 : decode cX8_restore 35 = .ok (.invokestatic 144, 3) := by decide +kernel
theorem dX8_restore_38 : decode cX8_restore 38 = .ok (.aload_n 0, 1) := by decide +kernel
theorem dX8_restore_39 : decode cX8_restore 39 = .ok (.iconst 0, 1) := by decide +kernel
theorem dX8_restore_40 : decode cX8_restore 40 = .ok (.putfield 141, 3) := by decide +kernel
theorem dX8_restore_43 : decode cX8_restore 43 = .ok (.iconst 1, 1) := by decide +kernel
theorem dX8_restore_44 : decode cX8_restore 44 = .ok (.ireturn, 1) := by decide +kernel
theorem dX8_kind_0 : decode cX8_kind 0 = .ok (.aload_n 0, 1) := by decide +kernel
theorem dX8_kind_1 : decode cX8_kind 1 = .ok (.iload_n 1, 1) := by decide +kernel
theorem dX8_kind_2 : decode cX8_kind 2 = .ok (.invokevirtual 186, 3) := by decide +kernel
theorem dX8_kind_5 : decode cX8_kind 5 = .ok (.ifCond .eq 15, 3) := by decide +kernel
theorem dX8_kind_8 : decode cX8_kind 8 = .ok (.aload_n 0, 1) := by decide +kernel
theorem dX8_kind_9 : decode cX8_kind 9 = .ok (.getfield 22, 3) := by decide +kernel
theorem dX8_kind_12 : decode cX8_kind 12 = .ok (.bipush 7, 2) := by decide +kernel
theorem dX8_kind_14 : decode cX8_kind 14 = .ok (.iload_n 1, 1) := by decide +kernel
theorem dX8_kind_15 : decode cX8_kind 15 = .ok (.iadd, 1) := by decide +kernel
theorem dX8_kind_16 : decode cX8_kind 16 = .ok (.iaload, 1) := by decide +kernel
theorem dX8_kind_17 : decode cX8_kind 17 = .ok (.goto 5, 3) := by decide +kernel
theorem dX8_kind_20 : decode cX8_kind 20 = .ok (.ldc 67, 2) := by decide +kernel
theorem dX8_kind_22 : decode cX8_kind 22 = .ok (.ireturn, 1) := by decide +kernel
theorem dX8_isOf_0 : decode cX8_isOf 0 = .ok (.iload_n 1, 1) := by decide +kernel
theorem dX8_isOf_1 : decode cX8_isOf 1 = .ok (.ifCond .eq 33, 3) := by decide +kernel
theorem dX8_isOf_4 : decode cX8_isOf 4 = .ok (.iload_n 0, 1) := by decide +kernel
theorem dX8_isOf_5 : decode cX8_isOf 5 = .ok (.iload_n 1, 1) := by decide +kernel
theorem dX8_isOf_6 : decode cX8_isOf 6 = .ok (.if_icmp .eq 28, 3) := by decide +kernel
theorem dX8_isOf_9 : decode cX8_isOf 9 = .ok (.iload_n 1, 1) := by decide +kernel
theorem dX8_isOf_10 : decode cX8_isOf 10 = .ok (.iconst 1, 1) := by decide +kernel
theorem dX8_isOf_11 : decode cX8_isOf 11 = .ok (.if_icmp .ne 13, 3) := by decide +kernel
theorem dX8_isOf_14 : decode cX8_isOf 14 = .ok (.iload_n 0, 1) := by decide +kernel
theorem dX8_isOf_15 : decode cX8_isOf 15 = .ok (.iconst 2, 1) := by decide +kernel
theorem dX8_isOf_16 : decode cX8_isOf 16 = .ok (.if_icmp .eq 18, 3) := by decide +kernel
theorem dX8_isOf_19 : decode cX8_isOf 19 = .ok (.iload_n 0, 1) := by decide +kernel
theorem dX8_isOf_20 : decode cX8_isOf 20 = .ok (.iconst 3, 1) := by decide +kernel
theorem dX8_isOf_21 : decode cX8_isOf 21 = .ok (.if_icmp .eq 13, 3) := by decide +kernel
theorem dX8_isOf_24 : decode cX8_isOf 24 = .ok (.iload_n 1, 1) := by decide +kernel
theorem dX8_isOf_25 : decode cX8_isOf 25 = .ok (.iconst 4, 1) := by decide +kernel
theorem dX8_isOf_26 : decode cX8_isOf 26 = .ok (.if_icmp .ne 12, 3) := by decide +kernel
theorem dX8_isOf_29 : decode cX8_isOf 29 = .ok (.iload_n 0, 1) := by decide +kernel
theorem dX8_isOf_30 : decode cX8_isOf 30 = .ok (.iconst 5, 1) := by decide +kernel
theorem dX8_isOf_31 : decode cX8_isOf 31 = .ok (.if_icmp .ne 7, 3) := by decide +kernel
theorem dX8_isOf_34 : decode cX8_isOf 34 = .ok (.iconst 1, 1) := by decide +kernel
theorem dX8_isOf_35 : decode cX8_isOf 35 = .ok (.goto 4, 3) := by decide +kernel
theorem dX8_isOf_38 : decode cX8_isOf 38 = .ok (.iconst 0, 1) := by decide +kernel
theorem dX8_isOf_39 : decode cX8_isOf 39 = .ok (.ireturn, 1) := by decide +kernel
theorem dX8_as_0 : decode cX8_as 0 = .ok (.aload_n 0, 1) := by decide +kernel
theorem dX8_as_1 : decode cX8_as 1 = .ok (.iload_n 1, 1) := by decide +kernel
theorem dX8_as_2 : decode cX8_as 2 = .ok (.invokevirtual 186, 3) := by decide +kernel
theorem dX8_as_5 : decode cX8_as 5 = .ok (.ifCond .eq 15, 3) := by decide +kernel
theorem dX8_as_8 : decode cX8_as 8 = .ok (.iload_n 2, 1) := by decide +kernel
theorem dX8_as_9 : decode cX8_as 9 = .ok (.i2l, 1) := by decide +kernel
theorem dX8_as_10 : decode cX8_as 10 = .ok (.lconst 0, 1) := by decide +kernel
theorem dX8_as_11 : decode cX8_as 11 = .ok (.ldc2_w 201, 3) := by decide +kernel
theorem dX8_as_14 : decode cX8_as 14 = .ok (.invokestatic 57, 3) := by decide +kernel
theorem dX8_as_17 : decode cX8_as 17 = .ok (.ifCond .ne 6, 3) := by decide +kernel
theorem dX8_as_20 : decode cX8_as 20 = .ok (.ldc 67, 2) := by decide +kernel
theorem dX8_as_22 : decode cX8_as 22 = .ok (.ireturn, 1) := by decide +kernel
theorem dX8_as_23 : decode cX8_as 23 = .ok (.aload_n 0, 1) := by decide +kernel
theorem dX8_as_24 : decode cX8_as 24 = .ok (.getfield 22, 3) := by decide +kernel
theorem dX8_as_27 : decode cX8_as 27 = .ok (.bipush 7, 2) := by decide +kernel
theorem dX8_as_29 : decode cX8_as 29 = .ok (.iload_n 1, 1) := by decide +kernel
theorem dX8_as_30 : decode cX8_as 30 = .ok (.iadd, 1) := by decide +kernel
theorem dX8_as_31 : decode cX8_as 31 = .ok (.iaload, 1) := by decide +kernel
theorem dX8_as_32 : decode cX8_as 32 = .ok (.iload_n 2, 1) := by decide +kernel
theorem dX8_as_33 : decode cX8_as 33 = .ok (.invokestatic 257, 3) := by decide +kernel
theorem dX8_as_36 : decode cX8_as 36 = .ok (.ifCond .eq 11, 3) := by decide +kernel
theorem dX8_as_39 : decode cX8_as 39 = .ok (.aload_n 0, 1) := by decide +kernel
theorem dX8_as_40 : decode cX8_as 40 = .ok (.iload_n 1, 1) := by decide +kernel
theorem dX8_as_41 : decode cX8_as 41 = .ok (.invokevirtual 72, 3) := by decide +kernel
theorem dX8_as_44 : decode cX8_as 44 = .ok (.goto 8, 3) := by decide +kernel
theorem dX8_as_47 : decode cX8_as 47 = .ok (.aload_n 0, 1) := by decide +kernel
theorem dX8_as_48 : decode cX8_as 48 = .ok (.iconst 3, 1) := by decide +kernel
theorem dX8_as_49 : decode cX8_as 49 = .ok (.invokevirtual 68, 3) := by decide +kernel
theorem dX8_as_52 : decode cX8_as 52 = .ok (.ireturn, 1) := by decide +kernel
theorem dX8_leave_0 : decode cX8_leave 0 = .ok (.lconst 1, 1) := by decide +kernel
theorem dX8_leave_1 : decode cX8_leave 1 = .ok (.lstore_n 3, 1) := by decide +kernel
theorem dX8_leave_2 : decode cX8_leave 2 = .ok (.lload_n 3, 1) := by decide +kernel
theorem dX8_leave_3 : decode cX8_leave 3 = .ok (.ldc2_w 260, 3) := by decide +kernel
theorem dX8_leave_6 : decode cX8_leave 6 = .ok (.lmul, 1) := by decide +kernel
theorem dX8_leave_7 : decode cX8_leave 7 = .ok (.lload_n 1, 1) := by decide +kernel
theorem dX8_leave_8 : decode cX8_leave 8 = .ok (.lcmp, 1) := by decide +kernel
theorem dX8_leave_9 : decode cX8_leave 9 = .ok (.ifCond .gt 12, 3) := by decide +kernel
theorem dX8_leave_12 : decode cX8_leave 12 = .ok (.lload_n 3, 1) := by decide +kernel
theorem dX8_leave_13 : decode cX8_leave 13 = .ok (.ldc2_w 260, 3) := by decide +kernel
theorem dX8_leave_16 : decode cX8_leave 16 = .ok (.lmul, 1) := by decide +kernel
theorem dX8_leave_17 : decode cX8_leave 17 = .ok (.lstore_n 3, 1) := by decide +kernel
theorem dX8_leave_18 : decode cX8_leave 18 = .ok (.goto (-16), 3) := by decide +kernel
theorem dX8_leave_21 : decode cX8_leave 21 = .ok (.lload_n 1, 1) := by decide +kernel
theorem dX8_leave_22 : decode cX8_leave 22 = .ok (.lstore 5, 2) := by decide +kernel
theorem dX8_leave_24 : decode cX8_leave 24 = .ok (.lload_n 3, 1) := by decide +kernel
theorem dX8_leave_25 : decode cX8_leave 25 = .ok (.lconst 0, 1) := by decide +kernel
theorem dX8_leave_26 : decode cX8_leave 26 = .ok (.lcmp, 1) := by decide +kernel
theorem dX8_leave_27 : decode cX8_leave 27 = .ok (.ifCond .le 42, 3) := by decide +kernel
theorem dX8_leave_30 : decode cX8_leave 30 = .ok (.aload_n 0, 1) := by decide +kernel
theorem dX8_leave_31 : decode cX8_leave 31 = .ok (.getfield 35, 3) := by decide +kernel
theorem dX8_leave_34 : decode cX8_leave 34 = .ok (.aload_n 0, 1) := by decide +kernel
theorem dX8_leave_35 : decode cX8_leave 35 = .ok (.getfield 262, 3) := by decide +kernel
theorem dX8_leave_38 : decode cX8_leave 38 = .ok (.lload 5, 2) := by decide +kernel
theorem dX8_leave_40 : decode cX8_leave 40 = .ok (.lload_n 3, 1) := by decide +kernel
theorem dX8_leave_41 : decode cX8_leave 41 = .ok (.ldiv, 1) := by decide +kernel
theorem dX8_leave_42 : decode cX8_leave 42 = .ok (.l2i, 1) := by decide +kernel
theorem dX8_leave_43 : decode cX8_leave 43 = .ok (.iastore, 1) := by decide +kernel
theorem dX8_leave_44 : decode cX8_leave 44 = .ok (.lload 5, 2) := by decide +kernel
theorem dX8_leave_46 : decode cX8_leave 46 = .ok (.lload_n 3, 1) := by decide +kernel
theorem dX8_leave_47 : decode cX8_leave 47 = .ok (.lrem, 1) := by decide +kernel
theorem dX8_leave_48 : decode cX8_leave 48 = .ok (.lstore 5, 2) := by decide +kernel
theorem dX8_leave_50 : decode cX8_leave 50 = .ok (.aload_n 0, 1) := by decide +kernel
theorem dX8_leave_51 : decode cX8_leave 51 = .ok (.dup, 1) := by decide +kernel
theorem dX8_leave_52 : decode cX8_leave 52 = .ok (.getfield 262, 3) := by decide +kernel
theorem dX8_leave_55 : decode cX8_leave 55 = .ok (.iconst 1, 1) := by decide +kernel
theorem dX8_leave_56 : decode cX8_leave 56 = .ok (.iadd, 1) := by decide +kernel
theorem dX8_leave_57 : decode cX8_leave 57 = .ok (.putfield 262, 3) := by decide +kernel
theorem dX8_leave_60 : decode cX8_leave 60 = .ok (.lload_n 3, 1) := by decide +kernel
theorem dX8_leave_61 : decode cX8_leave 61 = .ok (.ldc2_w 260, 3) := by decide +kernel
theorem dX8_leave_64 : decode cX8_leave 64 = .ok (.ldiv, 1) := by decide +kernel
theorem dX8_leave_65 : decode cX8_leave 65 = .ok (.lstore_n 3, 1) := by decide +kernel
theorem dX8_leave_66 : decode cX8_leave 66 = .ok (.goto (-42), 3) := by decide +kernel
theorem dX8_leave_69 : decode cX8_leave 69 = .ok (.return_, 1) := by decide +kernel
theorem dX8_mark_0 : decode cX8_mark 0 = .ok (.aload_n 0, 1) := by decide +kernel
theorem dX8_mark_1 : decode cX8_mark 1 = .ok (.getfield 22, 3) := by decide +kernel
theorem dX8_mark_4 : decode cX8_mark 4 = .ok (.bipush 7, 2) := by decide +kernel
theorem dX8_mark_6 : decode cX8_mark 6 = .ok (.iload_n 1, 1) := by decide +kernel
theorem dX8_mark_7 : decode cX8_mark 7 = .ok (.iadd, 1) := by decide +kernel
theorem dX8_mark_8 : decode cX8_mark 8 = .ok (.iaload, 1) := by decide +kernel
theorem dX8_mark_9 : decode cX8_mark 9 = .ok (.istore_n 2, 1) := by decide +kernel
theorem dX8_mark_10 : decode cX8_mark 10 = .ok (.iload_n 1, 1) := by decide +kernel
theorem dX8_mark_11 : decode cX8_mark 11 = .ok (.aload_n 0, 1) := by decide +kernel
theorem dX8_mark_12 : decode cX8_mark 12 = .ok (.getfield 22, 3) := by decide +kernel
theorem dX8_mark_15 : decode cX8_mark 15 = .ok (.bipush 17, 2) := by decide +kernel
theorem dX8_mark_17 : decode cX8_mark 17 = .ok (.iload_n 1, 1) := by decide +kernel
theorem dX8_mark_18 : decode cX8_mark 18 = .ok (.iadd, 1) := by decide +kernel
theorem dX8_mark_19 : decode cX8_mark 19 = .ok (.iaload, 1) := by decide +kernel
theorem dX8_mark_20 : decode cX8_mark 20 = .ok (.iadd, 1) := by decide +kernel
theorem dX8_mark_21 : decode cX8_mark 21 = .ok (.istore_n 3, 1) := by decide +kernel
theorem dX8_mark_22 : decode cX8_mark 22 = .ok (.aload_n 0, 1) := by decide +kernel
theorem dX8_mark_23 : decode cX8_mark 23 = .ok (.iload_n 2, 1) := by decide +kernel
theorem dX8_mark_24 : decode cX8_mark 24 = .ok (.iconst 2, 1) := by decide +kernel
theorem dX8_mark_25 : decode cX8_mark 25 = .ok (.if_icmp .ne 9, 3) := by decide +kernel
theorem dX8_mark_28 : decode cX8_mark 28 = .ok (.ldc2_w 265, 3) := by decide +kernel
theorem dX8_mark_31 : decode cX8_mark 31 = .ok (.goto 17, 3) := by decide +kernel
theorem dX8_mark_34 : decode cX8_mark 34 = .ok (.iload_n 2, 1) := by decide +kernel
theorem dX8_mark_35 : decode cX8_mark 35 = .ok (.iconst 3, 1) := by decide +kernel
theorem dX8_mark_36 : decode cX8_mark 36 = .ok (.if_icmp .ne 9, 3) := by decide +kernel
theorem dX8_mark_39 : decode cX8_mark 39 = .ok (.ldc2_w 267, 3) := by decide +kernel
theorem dX8_mark_42 : decode cX8_mark 42 = .ok (.goto 6, 3) := by decide +kernel
theorem dX8_mark_45 : decode cX8_mark 45 = .ok (.ldc2_w 269, 3) := by decide +kernel
theorem dX8_mark_48 : decode cX8_mark 48 = .ok (.invokevirtual 271, 3) := by decide +kernel
theorem dX8_mark_51 : decode cX8_mark 51 = .ok (.iload_n 2, 1) := by decide +kernel
theorem dX8_mark_52 : decode cX8_mark 52 = .ok (.iconst 2, 1) := by decide +kernel
theorem dX8_mark_53 : decode cX8_mark 53 = .ok (.if_icmp .ne 9, 3) := by decide +kernel
theorem dX8_mark_56 : decode cX8_mark 56 = .ok (.iconst 2, 1) := by decide +kernel
theorem dX8_mark_57 : decode cX8_mark 57 = .ok (.iload_n 3, 1) := by decide +kernel
theorem dX8_mark_58 : decode cX8_mark 58 = .ok (.imul, 1) := by decide +kernel
theorem dX8_mark_59 : decode cX8_mark 59 = .ok (.goto 17, 3) := by decide +kernel
theorem dX8_mark_62 : decode cX8_mark 62 = .ok (.iload_n 2, 1) := by decide +kernel
theorem dX8_mark_63 : decode cX8_mark 63 = .ok (.iconst 3, 1) := by decide +kernel
theorem dX8_mark_64 : decode cX8_mark 64 = .ok (.if_icmp .ne 11, 3) := by decide +kernel
theorem dX8_mark_67 : decode cX8_mark 67 = .ok (.iload_n 3, 1) := by decide +kernel
theorem dX8_mark_68 : decode cX8_mark 68 = .ok (.sipush 1000, 3) := by decide +kernel
theorem dX8_mark_71 : decode cX8_mark 71 = .ok (.isub, 1) := by decide +kernel
theorem dX8_mark_72 : decode cX8_mark 72 = .ok (.goto 4, 3) := by decide +kernel
theorem dX8_mark_75 : decode cX8_mark 75 = .ok (.iload_n 3, 1) := by decide +kernel
theorem dX8_mark_76 : decode cX8_mark 76 = .ok (.ireturn, 1) := by decide +kernel
theorem dX8_sizeOf_0 : decode cX8_sizeOf 0 = .ok (.aload_n 0, 1) := by decide +kernel
theorem dX8_sizeOf_1 : decode cX8_sizeOf 1 = .ok (.getfield 22, 3) := by decide +kernel
theorem dX8_sizeOf_4 : decode cX8_sizeOf 4 = .ok (.bipush 22, 2) := by decide +kernel
theorem dX8_sizeOf_6 : decode cX8_sizeOf 6 = .ok (.iload_n 1, 1) := by decide +kernel
theorem dX8_sizeOf_7 : decode cX8_sizeOf 7 = .ok (.iadd, 1) := by decide +kernel
theorem dX8_sizeOf_8 : decode cX8_sizeOf 8 = .ok (.iaload, 1) := by decide +kernel
theorem dX8_sizeOf_9 : decode cX8_sizeOf 9 = .ok (.bipush 100, 2) := by decide +kernel
theorem dX8_sizeOf_11 : decode cX8_sizeOf 11 = .ok (.isub, 1) := by decide +kernel
theorem dX8_sizeOf_12 : decode cX8_sizeOf 12 = .ok (.istore_n 2, 1) := by decide +kernel
theorem dX8_sizeOf_13 : decode cX8_sizeOf 13 = .ok (.aload_n 0, 1) := by decide +kernel
theorem dX8_sizeOf_14 : decode cX8_sizeOf 14 = .ok (.getfield 22, 3) := by decide +kernel
theorem dX8_sizeOf_17 : decode cX8_sizeOf 17 = .ok (.bipush 7, 2) := by decide +kernel
theorem dX8_sizeOf_19 : decode cX8_sizeOf 19 = .ok (.iload_n 1, 1) := by decide +kernel
theorem dX8_sizeOf_20 : decode cX8_sizeOf 20 = .ok (.iadd, 1) := by decide +kernel
theorem dX8_sizeOf_21 : decode cX8_sizeOf 21 = .ok (.iaload, 1) := by decide +kernel
theorem dX8_sizeOf_22 : decode cX8_sizeOf 22 = .ok (.iconst 5, 1) := by decide +kernel
theorem dX8_sizeOf_23 : decode cX8_sizeOf 23 = .ok (.if_icmp .ne 7, 3) := by decide +kernel
theorem dX8_sizeOf_26 : decode cX8_sizeOf 26 = .ok (.iconst 1, 1) := by decide +kernel
theorem dX8_sizeOf_27 : decode cX8_sizeOf 27 = .ok (.goto 4, 3) := by decide +kernel
theorem dX8_sizeOf_30 : decode cX8_sizeOf 30 = .ok (.iconst 0, 1) := by decide +kernel
theorem dX8_sizeOf_31 : decode cX8_sizeOf 31 = .ok (.istore_n 3, 1) := by decide +kernel
theorem dX8_sizeOf_32 : decode cX8_sizeOf 32 = .ok (.aload_n 0, 1) := by decide +kernel
theorem dX8_sizeOf_33 : decode cX8_sizeOf 33 = .ok (.iload_n 3, 1) := by decide +kernel
theorem dX8_sizeOf_34 : decode cX8_sizeOf 34 = .ok (.ifCond .eq 9, 3) := by decide +kernel
theorem dX8_sizeOf_37 : decode cX8_sizeOf 37 = .ok (.ldc2_w 275, 3) := by decide +kernel
theorem dX8_sizeOf_40 : decode cX8_sizeOf 40 = .ok (.goto 6, 3) := by decide +kernel
theorem dX8_sizeOf_43 : decode cX8_sizeOf 43 = .ok (.ldc2_w 277, 3) := by decide +kernel
theorem dX8_sizeOf_46 : decode cX8_sizeOf 46 = .ok (.invokevirtual 271, 3) := by decide +kernel
theorem dX8_sizeOf_49 : decode cX8_sizeOf 49 = .ok (.iload_n 3, 1) := by decide +kernel
theorem dX8_sizeOf_50 : decode cX8_sizeOf 50 = .ok (.ifCond .eq 9, 3) := by decide +kernel
theorem dX8_sizeOf_53 : decode cX8_sizeOf 53 = .ok (.iconst 2, 1) := by decide +kernel
theorem dX8_sizeOf_54 : decode cX8_sizeOf 54 = .ok (.iload_n 2, 1) := by decide +kernel
theorem dX8_sizeOf_55 : decode cX8_sizeOf 55 = .ok (.imul, 1) := by decide +kernel
theorem dX8_sizeOf_56 : decode cX8_sizeOf 56 = .ok (.goto 4, 3) := by decide +kernel
theorem dX8_sizeOf_59 : decode cX8_sizeOf 59 = .ok (.iload_n 2, 1) := by decide +kernel
theorem dX8_sizeOf_60 : decode cX8_sizeOf 60 = .ok (.ireturn, 1) := by decide +kernel
theorem dX8_ask_0 : decode cX8_ask 0 = .ok (.aload_n 0, 1) := by decide +kernel
theorem dX8_ask_1 : decode cX8_ask 1 = .ok (.iload_n 1, 1) := by decide +kernel
theorem dX8_ask_2 : decode cX8_ask 2 = .ok (.invokevirtual 186, 3) := by decide +kernel
theorem dX8_ask_5 : decode cX8_ask 5 = .ok (.ifCond .eq 13, 3) := by decide +kernel
theorem dX8_ask_8 : decode cX8_ask 8 = .ok (.iload_n 2, 1) := by decide +kernel
theorem dX8_ask_9 : decode cX8_ask 9 = .ok (.i2l, 1) := by decide +kernel
theorem dX8_ask_10 : decode cX8_ask 10 = .ok (.lconst 0, 1) := by decide +kernel
theorem dX8_ask_11 : decode cX8_ask 11 = .ok (.lconst 1, 1) := by decide +kernel
theorem dX8_ask_12 : decode cX8_ask 12 = .ok (.invokestatic 57, 3) := by decide +kernel
theorem dX8_ask_15 : decode cX8_ask 15 = .ok (.ifCond .ne 6, 3) := by decide +kernel
theorem dX8_ask_18 : decode cX8_ask 18 = .ok (.ldc 67, 2) := by decide +kernel
theorem dX8_ask_20 : decode cX8_ask 20 = .ok (.ireturn, 1) := by decide +kernel
theorem dX8_ask_21 : decode cX8_ask 21 = .ok (.aload_n 0, 1) := by decide +kernel
theorem dX8_ask_22 : decode cX8_ask 22 = .ok (.iconst 0, 1) := by decide +kernel
theorem dX8_ask_23 : decode cX8_ask 23 = .ok (.putfield 262, 3) := by decide +kernel
theorem dX8_ask_26 : decode cX8_ask 26 = .ok (.aload_n 0, 1) := by decide +kernel
theorem dX8_ask_27 : decode cX8_ask 27 = .ok (.getfield 22, 3) := by decide +kernel
theorem dX8_ask_30 : decode cX8_ask 30 = .ok (.bipush 7, 2) := by decide +kernel
theorem dX8_ask_32 : decode cX8_ask 32 = .ok (.iload_n 1, 1) := by decide +kernel
theorem dX8_ask_33 : decode cX8_ask 33 = .ok (.iadd, 1) := by decide +kernel
theorem dX8_ask_34 : decode cX8_ask 34 = .ok (.iaload, 1) := by decide +kernel
theorem dX8_ask_35 : decode cX8_ask 35 = .ok (.istore_n 3, 1) := by decide +kernel
theorem dX8_ask_36 : decode cX8_ask 36 = .ok (.iload_n 3, 1) := by decide +kernel
theorem dX8_ask_37 : decode cX8_ask 37 = .ok (.iconst 4, 1) := by decide +kernel
theorem dX8_ask_38 : decode cX8_ask 38 = .ok (.if_icmp .ge 63, 3) := by decide +kernel
theorem dX8_ask_41 : decode cX8_ask 41 = .ok (.iload_n 2, 1) := by decide +kernel
theorem dX8_ask_42 : decode cX8_ask 42 = .ok (.iconst 1, 1) := by decide +kernel
theorem dX8_ask_43 : decode cX8_ask 43 = .ok (.if_icmp .ne 9, 3) := by decide +kernel
theorem dX8_ask_46 : decode cX8_ask 46 = .ok (.aload_n 0, 1) := by decide +kernel
theorem dX8_ask_47 : decode cX8_ask 47 = .ok (.iload_n 1, 1) := by decide +kernel
theorem dX8_ask_48 : decode cX8_ask 48 = .ok (.invokevirtual 279, 3) := by decide +kernel
theorem dX8_ask_51 : decode cX8_ask 51 = .ok (.ireturn, 1) := by decide +kernel
theorem dX8_ask_52 : decode cX8_ask 52 = .ok (.aload_n 0, 1) := by decide +kernel
theorem dX8_ask_53 : decode cX8_ask 53 = .ok (.iload_n 3, 1) := by decide +kernel
theorem dX8_ask_54 : decode cX8_ask 54 = .ok (.iconst 2, 1) := by decide +kernel
theorem dX8_ask_55 : decode cX8_ask 55 = .ok (.if_icmp .ne 9, 3) := by decide +kernel
theorem dX8_ask_58 : decode cX8_ask 58 = .ok (.ldc2_w 282, 3) := by decide +kernel
theorem dX8_ask_61 : decode cX8_ask 61 = .ok (.goto 6, 3) := by decide +kernel
theorem dX8_ask_64 : decode cX8_ask 64 = .ok (.ldc2_w 284, 3) := by decide +kernel
theorem dX8_ask_67 : decode cX8_ask 67 = .ok (.invokevirtual 271, 3) := by decide +kernel
theorem dX8_ask_70 : decode cX8_ask 70 = .ok (.aload_n 0, 1) := by decide +kernel
theorem dX8_ask_71 : decode cX8_ask 71 = .ok (.getfield 22, 3) := by decide +kernel
theorem dX8_ask_74 : decode cX8_ask 74 = .ok (.bipush 22, 2) := by decide +kernel
theorem dX8_ask_76 : decode cX8_ask 76 = .ok (.iload_n 1, 1) := by decide +kernel
theorem dX8_ask_77 : decode cX8_ask 77 = .ok (.iadd, 1) := by decide +kernel
theorem dX8_ask_78 : decode cX8_ask 78 = .ok (.iaload, 1) := by decide +kernel
theorem dX8_ask_79 : decode cX8_ask 79 = .ok (.aload_n 0, 1) := by decide +kernel
theorem dX8_ask_80 : decode cX8_ask 80 = .ok (.iload_n 1, 1) := by decide +kernel
theorem dX8_ask_81 : decode cX8_ask 81 = .ok (.invokevirtual 279, 3) := by decide +kernel
theorem dX8_ask_84 : decode cX8_ask 84 = .ok (.iadd, 1) := by decide +kernel
theorem dX8_ask_85 : decode cX8_ask 85 = .ok (.istore 4, 2) := by decide +kernel
theorem dX8_ask_87 : decode cX8_ask 87 = .ok (.iload_n 3, 1) := by decide +kernel
theorem dX8_ask_88 : decode cX8_ask 88 = .ok (.iconst 2, 1) := by decide +kernel
theorem dX8_ask_89 : decode cX8_ask 89 = .ok (.if_icmp .ne 9, 3) := by decide +kernel
theorem dX8_ask_92 : decode cX8_ask 92 = .ok (.iload 4, 2) := by decide +kernel
theorem dX8_ask_94 : decode cX8_ask 94 = .ok (.ineg, 1) := by decide +kernel
theorem dX8_ask_95 : decode cX8_ask 95 = .ok (.goto 5, 3) := by decide +kernel
theorem dX8_ask_98 : decode cX8_ask 98 = .ok (.iload 4, 2) := by decide +kernel
theorem dX8_ask_100 : decode cX8_ask 100 = .ok (.ireturn, 1) := by decide +kernel
theorem dX8_ask_101 : decode cX8_ask 101 = .ok (.iload_n 2, 1) := by decide +kernel
theorem dX8_ask_102 : decode cX8_ask 102 = .ok (.ifCond .ne 9, 3) := by decide +kernel
theorem dX8_ask_105 : decode cX8_ask 105 = .ok (.aload_n 0, 1) := by decide +kernel
theorem dX8_ask_106 : decode cX8_ask 106 = .ok (.iload_n 1, 1) := by decide +kernel
theorem dX8_ask_107 : decode cX8_ask 107 = .ok (.invokevirtual 286, 3) := by decide +kernel
theorem dX8_ask_110 : decode cX8_ask 110 = .ok (.ireturn, 1) := by decide +kernel
theorem dX8_ask_111 : decode cX8_ask 111 = .ok (.aload_n 0, 1) := by decide +kernel
theorem dX8_ask_112 : decode cX8_ask 112 = .ok (.ldc2_w 289, 3) := by decide +kernel
theorem dX8_ask_115 : decode cX8_ask 115 = .ok (.invokevirtual 271, 3) := by decide +kernel
theorem dX8_ask_118 : decode cX8_ask 118 = .ok (.iload_n 1, 1) := by decide +kernel
theorem dX8_ask_119 : decode cX8_ask 119 = .ok (.aload_n 0, 1) := by decide +kernel
theorem dX8_ask_120 : decode cX8_ask 120 = .ok (.iload_n 1, 1) := by decide +kernel
theorem dX8_ask_121 : decode cX8_ask 121 = .ok (.invokevirtual 286, 3) := by decide +kernel
theorem dX8_ask_124 : decode cX8_ask 124 = .ok (.isub, 1) := by decide +kernel
theorem dX8_ask_125 : decode cX8_ask 125 = .ok (.ireturn, 1) := by decide +kernel
theorem dX8_trace_0 : decode cX8_trace 0 = .ok (.iload_n 1, 1) := by decide +kernel
theorem dX8_trace_1 : decode cX8_trace 1 = .ok (.i2l, 1) := by decide +kernel
theorem dX8_trace_2 : decode cX8_trace 2 = .ok (.lconst 0, 1) := by decide +kernel
theorem dX8_trace_3 : decode cX8_trace 3 = .ok (.aload_n 0, 1) := by decide +kernel
theorem dX8_trace_4 : decode cX8_trace 4 = .ok (.getfield 262, 3) := by decide +kernel
theorem dX8_trace_7 : decode cX8_trace 7 = .ok (.iconst 1, 1) := by decide +kernel
theorem dX8_trace_8 : decode cX8_trace 8 = .ok (.isub, 1) := by decide +kernel
theorem dX8_trace_9 : decode cX8_trace 9 = .ok (.i2l, 1) := by decide +kernel
theorem dX8_trace_10 : decode cX8_trace 10 = .ok (.invokestatic 57, 3) := by decide +kernel
theorem dX8_trace_13 : decode cX8_trace 13 = .ok (.ifCond .eq 12, 3) := by decide +kernel
theorem dX8_trace_16 : decode cX8_trace 16 = .ok (.aload_n 0, 1) := by decide +kernel
theorem dX8_trace_17 : decode cX8_trace 17 = .ok (.getfield 35, 3) := by decide +kernel
theorem dX8_trace_20 : decode cX8_trace 20 = .ok (.iload_n 1, 1) := by decide +kernel
theorem dX8_trace_21 : decode cX8_trace 21 = .ok (.iaload, 1) := by decide +kernel
theorem dX8_trace_22 : decode cX8_trace 22 = .ok (.goto 5, 3) := by decide +kernel
theorem dX8_trace_25 : decode cX8_trace 25 = .ok (.ldc 216, 2) := by decide +kernel
theorem dX8_trace_27 : decode cX8_trace 27 = .ok (.ireturn, 1) := by decide +kernel
theorem dX8_count_0 : decode cX8_count 0 = .ok (.iconst 0, 1) := by decide +kernel
theorem dX8_count_1 : decode cX8_count 1 = .ok (.istore_n 2, 1) := by decide +kernel
theorem dX8_count_2 : decode cX8_count 2 = .ok (.iconst 0, 1) := by decide +kernel
theorem dX8_count_3 : decode cX8_count 3 = .ok (.istore_n 3, 1) := by decide +kernel
theorem dX8_count_4 : decode cX8_count 4 = .ok (.iload_n 3, 1) := by decide +kernel
theorem dX8_count_5 : decode cX8_count 5 = .ok (.bipush 8, 2) := by decide +kernel
theorem dX8_count_7 : decode cX8_count 7 = .ok (.if_icmp .ge 26, 3) := by decide +kernel
theorem dX8_count_10 : decode cX8_count 10 = .ok (.iload_n 2, 1) := by decide +kernel
theorem dX8_count_11 : decode cX8_count 11 = .ok (.aload_n 0, 1) := by decide +kernel
theorem dX8_count_12 : decode cX8_count 12 = .ok (.getfield 13, 3) := by decide +kernel
theorem dX8_count_15 : decode cX8_count 15 = .ok (.iload_n 3, 1) := by decide +kernel
theorem dX8_count_16 : decode cX8_count 16 = .ok (.iaload, 1) := by decide +kernel
theorem dX8_count_17 : decode cX8_count 17 = .ok (.ifCond .ge 7, 3) := by decide +kernel
theorem dX8_count_20 : decode cX8_count 20 = .ok (.iconst 0, 1) := by decide +kernel
theorem dX8_count_21 : decode cX8_count 21 = .ok (.goto 4, 3) := by decide +kernel
theorem dX8_count_24 : decode cX8_count 24 = .ok (.iconst 1, 1) := by decide +kernel
theorem dX8_count_25 : decode cX8_count 25 = .ok (.iadd, 1) := by decide +kernel
theorem dX8_count_26 : decode cX8_count 26 = .ok (.istore_n 2, 1) := by decide +kernel
theorem dX8_count_27 : decode cX8_count 27 = .ok (.iinc 3 1, 3) := by decide +kernel
theorem dX8_count_30 : decode cX8_count 30 = .ok (.goto (-26), 3) := by decide +kernel
theorem dX8_count_33 : decode cX8_count 33 = .ok (.iconst 0, 1) := by decide +kernel
theorem dX8_count_34 : decode cX8_count 34 = .ok (.istore_n 3, 1) := by decide +kernel
theorem dX8_count_35 : decode cX8_count 35 = .ok (.iconst 0, 1) := by decide +kernel
theorem dX8_count_36 : decode cX8_count 36 = .ok (.istore 4, 2) := by decide +kernel
theorem dX8_count_38 : decode cX8_count 38 = .ok (.iload 4, 2) := by decide +kernel
theorem dX8_count_40 : decode cX8_count 40 = .ok (.aload_n 0, 1) := by decide +kernel
theorem dX8_count_41 : decode cX8_count 41 = .ok (.getfield 22, 3) := by decide +kernel
theorem dX8_count_44 : decode cX8_count 44 = .ok (.iconst 5, 1) := by decide +kernel
theorem dX8_count_45 : decode cX8_count 45 = .ok (.iaload, 1) := by decide +kernel
theorem dX8_count_46 : decode cX8_count 46 = .ok (.if_icmp .ge 22, 3) := by decide +kernel
theorem dX8_count_49 : decode cX8_count 49 = .ok (.iload_n 3, 1) := by decide +kernel
theorem dX8_count_50 : decode cX8_count 50 = .ok (.aload_n 0, 1) := by decide +kernel
theorem dX8_count_51 : decode cX8_count 51 = .ok (.getfield 22, 3) := by decide +kernel
theorem dX8_count_54 : decode cX8_count 54 = .ok (.bipush 27, 2) := by decide +kernel
theorem dX8_count_56 : decode cX8_count 56 = .ok (.iload 4, 2) := by decide +kernel
theorem dX8_count_58 : decode cX8_count 58 = .ok (.iadd, 1) := by decide +kernel
theorem dX8_count_59 : decode cX8_count 59 = .ok (.iaload, 1) := by decide +kernel
theorem dX8_count_60 : decode cX8_count 60 = .ok (.iadd, 1) := by decide +kernel
theorem dX8_count_61 : decode cX8_count 61 = .ok (.istore_n 3, 1) := by decide +kernel
theorem dX8_count_62 : decode cX8_count 62 = .ok (.iinc 4 1, 3) := by decide +kernel
theorem dX8_count_65 : decode cX8_count 65 = .ok (.goto (-27), 3) := by decide +kernel
theorem dX8_count_68 : decode cX8_count 68 = .ok (.iload_n 1, 1) := by decide +kernel
theorem dX8_count_69 : decode cX8_count 69 = .ok (.tableswitch 91 0 7 #[47, 49, 56, 63, 71, 73, 81, 86], 47) := by decide +kernel
theorem dX8_count_116 : decode cX8_count 116 = .ok (.iload_n 2, 1) := by decide +kernel
theorem dX8_count_117 : decode cX8_count 117 = .ok (.ireturn, 1) := by decide +kernel
theorem dX8_count_118 : decode cX8_count 118 = .ok (.aload_n 0, 1) := by decide +kernel
theorem dX8_count_119 : decode cX8_count 119 = .ok (.getfield 22, 3) := by decide +kernel
theorem dX8_count_122 : decode cX8_count 122 = .ok (.iconst 5, 1) := by decide +kernel
theorem dX8_count_123 : decode cX8_count 123 = .ok (.iaload, 1) := by decide +kernel
theorem dX8_count_124 : decode cX8_count 124 = .ok (.ireturn, 1) := by decide +kernel
theorem dX8_count_125 : decode cX8_count 125 = .ok (.aload_n 0, 1) := by decide +kernel
theorem dX8_count_126 : decode cX8_count 126 = .ok (.getfield 22, 3) := by decide +kernel
theorem dX8_count_129 : decode cX8_count 129 = .ok (.iconst 4, 1) := by decide +kernel
theorem dX8_count_130 : decode cX8_count 130 = .ok (.iaload, 1) := by decide +kernel
theorem dX8_count_131 : decode cX8_count 131 = .ok (.ireturn, 1) := by decide +kernel
theorem dX8_count_132 : decode cX8_count 132 = .ok (.aload_n 0, 1) := by decide +kernel
theorem dX8_count_133 : decode cX8_count 133 = .ok (.getfield 22, 3) := by decide +kernel
theorem dX8_count_136 : decode cX8_count 136 = .ok (.bipush 6, 2) := by decide +kernel
theorem dX8_count_138 : decode cX8_count 138 = .ok (.iaload, 1) := by decide +kernel
theorem dX8_count_139 : decode cX8_count 139 = .ok (.ireturn, 1) := by decide +kernel
theorem dX8_count_140 : decode cX8_count 140 = .ok (.iload_n 3, 1) := by decide +kernel
theorem dX8_count_141 : decode cX8_count 141 = .ok (.ireturn, 1) := by decide +kernel
theorem dX8_count_142 : decode cX8_count 142 = .ok (.aload_n 0, 1) := by decide +kernel
theorem dX8_count_143 : decode cX8_count 143 = .ok (.getfield 22, 3) := by decide +kernel
theorem dX8_count_146 : decode cX8_count 146 = .ok (.invokestatic 179, 3) := by decide +kernel
theorem dX8_count_149 : decode cX8_count 149 = .ok (.ireturn, 1) := by decide +kernel
theorem dX8_count_150 : decode cX8_count 150 = .ok (.aload_n 0, 1) := by decide +kernel
theorem dX8_count_151 : decode cX8_count 151 = .ok (.getfield 141, 3) := by decide +kernel
theorem dX8_count_154 : decode cX8_count 154 = .ok (.ireturn, 1) := by decide +kernel
theorem dX8_count_155 : decode cX8_count 155 = .ok (.aload_n 0, 1) := by decide +kernel
theorem dX8_count_156 : decode cX8_count 156 = .ok (.getfield 77, 3) := by decide +kernel
theorem dX8_count_159 : decode cX8_count 159 = .ok (.ireturn, 1) := by decide +kernel
theorem dX8_count_160 : decode cX8_count 160 = .ok (.ldc 67, 2) := by decide +kernel
theorem dX8_count_162 : decode cX8_count 162 = .ok (.ireturn, 1) := by decide +kernel
theorem dX8_status_0 : decode cX8_status 0 = .ok (.aload_n 0, 1) := by decide +kernel
theorem dX8_status_1 : decode cX8_status 1 = .ok (.getfield 50, 3) := by decide +kernel
theorem dX8_status_4 : decode cX8_status 4 = .ok (.ireturn, 1) := by decide +kernel
end
section
/-- the answer, the cells and the ints are these -/
def am_E (v0 : Option Value) (sh0 : List am_S) (μ0 : am_M) : Option Value → List am_S → am_M → Prop := fun v sh μ => v = v0 ∧ sh = sh0 ∧ μ = μ0
abbrev am_K (G : am_G) (own nm : String) (nL : Nat) (ret : Option FieldType) (d mc ms : Nat) (Q : Option Value → List am_S → am_M → Prop) : am_C := (G, own, nm, nL, ret, { frames := d, cells := mc, slots := ms, locals := 100 * d }, mc, ms, Q)
theorem am_ofK {G : am_G} {y : MethodName} {own nm : String} {cc : ByteArray} {nL : Nat} {ret : Option FieldType} {d mc ms : Nat} {As : List Value} {sh : List am_S} {μ : am_M} {Q : Option Value → List am_S → am_M → Prop} {L : am_L} (ho : y.cls = own) (hm : y.name = nm) (hy : plainName own = true) (hn : (As.map fun v => v.category).sum ≤ nL) (hL : am_ent As nL = L)
    (h : am_W (am_K G own nm nL ret d mc ms Q) cc 0 L [] sh μ 0 0) : am_MA G y cc nL ret d mc ms As sh μ Q := by
  subst ho; subst hm; subst hL
  exact am_of hy hn h
/-- 1 if it holds, else 0 -/
def pI (P : Prop) [Decidable P] : Int32 := if P then 1 else 0
theorem pI_nar (P : Prop) [Decidable P] : narrow .boolean (.int (pI P)) = .int (pI P) := by unfold pI; split <;> rfl
theorem pI_0 {P : Prop} [Decidable P] : pI P = 0 ↔ ¬ P := by
  unfold pI
  split
  · rename_i h; exact ⟨fun q => absurd q (by decide), fun q => absurd h q⟩
  · rename_i h; exact ⟨fun _ => h, fun _ => rfl⟩
theorem pI_1 {P : Prop} [Decidable P] (h : P) : pI P = 1 := if_pos h
theorem pI_n {P : Prop} [Decidable P] (h : ¬ P) : pI P = 0 := if_neg h
theorem pI_c {P R : Prop} [Decidable P] [Decidable R] (h : P ↔ R) : pI P = pI R := by
  unfold pI
  by_cases hP : P
  · rw [if_pos hP, if_pos (h.mp hP)]
  · rw [if_neg hP, if_neg (fun q => hP (h.mpr q))]
section AE
variable {C : am_C} {cc : ByteArray} {pc : Nat} {L : am_L} {S rest : List Value} {sh : List am_S} {μ μ' : am_M} {k n : Nat}
theorem aw_pif_eq {P : Prop} [Decidable P] {off : Int} {tgt : Nat} (hd : decode cc pc = .ok (.ifCond .eq off, 3)) (ht : (pc : Int) + off = (tgt : Int)) (kt : ¬ P → am_W C cc tgt L S sh μ k n) (kf : P → am_W C cc (pc + 3) L S sh μ k n) : am_W C cc pc L (.int (pI P) :: S) sh μ k n :=
  aw_if_eq hd ht (fun q => kt (pI_0.mp q)) (fun q => kf (Classical.not_not.mp fun r => q (pI_0.mpr r)))
theorem aw_pif_ne {P : Prop} [Decidable P] {off : Int} {tgt : Nat} (hd : decode cc pc = .ok (.ifCond .ne off, 3)) (ht : (pc : Int) + off = (tgt : Int)) (kt : P → am_W C cc tgt L S sh μ k n) (kf : ¬ P → am_W C cc (pc + 3) L S sh μ k n) : am_W C cc pc L (.int (pI P) :: S) sh μ k n :=
  aw_if_ne hd ht (fun q => kt (Classical.not_not.mp fun r => q (pI_0.mpr r))) (fun q => kf (pI_0.mp q))
theorem aw_top {x y : Int32} (e : x = y) (kk : am_W C cc pc L (.int y :: S) sh μ k n) : am_W C cc pc L (.int x :: S) sh μ k n := by rw [e]; exact kk
theorem aw_mem (e : μ = μ') (kk : am_W C cc pc L S sh μ' k n) : am_W C cc pc L S sh μ k n := by rw [e]; exact kk
theorem aw_loc {L' : am_L} (e : L = L') (kk : am_W C cc pc L' S sh μ k n) : am_W C cc pc L S sh μ k n := by rw [e]; exact kk

theorem aw_s0i {idx nL' d' : Nat} {y : MethodName} {cc' : ByteArray} {ret' : Option FieldType} {r : Int32} (hd : decode cc pc = .ok (.invokestatic idx, 3)) (hm : am_ml C.2.1 idx y cc' nL' ret' 0) (hst : Cond.static y ∈ am_TB) (hM : am_MA C.1 y cc' nL' ret' d' 0 0 [] sh μ (am_E (some (.int r)) sh μ')) (hw : (S.map fun v => v.category).sum ≤ 8) (hfr : d' + 1 ≤ C.2.2.2.2.2.1.frames) (hlo : 100 * d' + 100 ≤ C.2.2.2.2.2.1.locals) (hkc : k ≤ C.2.2.2.2.2.1.cells) (hns : n ≤ C.2.2.2.2.2.1.slots) (kk : am_W C cc (pc + 3) L (.int r :: S) sh μ' k n) : am_W C cc pc L (S) sh μ k n :=
  aw_cs (rest := S) hd hm hst hM rfl rfl hw hfr hlo ⟨hkc, hns⟩ (fun v sh' μ2 hq => by obtain ⟨rfl, rfl, rfl⟩ := hq; exact kk)
theorem aw_v0i {idx nL' d' : Nat} {y : MethodName} {cc' : ByteArray} {ret' : Option FieldType} {r : Int32} {a ci N : Nat} {rs : List (Option Value)} {r0 : vw_C} (hd : decode cc pc = .ok (.invokevirtual idx, 3)) (hm : am_ml C.2.1 idx y cc' nL' ret' 0) (hin : Cond.instanceMethod y ∈ am_TB) (hse : Cond.selects y.cls y y ∈ am_TB) (hM : am_MA C.1 y cc' nL' ret' d' 0 0 [.ref a] sh μ (am_E (some (.int r)) sh μ')) (hc : sh[a]? = some (ci, N, rs)) (h100 : ci < 100) (hcl2 : vwCl[ci]? = some r0) (hcn : r0.1 = y.cls) (hw : (S.map fun v => v.category).sum ≤ 8) (hfr : d' + 1 ≤ C.2.2.2.2.2.1.frames) (hlo : 100 * d' + 100 ≤ C.2.2.2.2.2.1.locals) (hkc : k ≤ C.2.2.2.2.2.1.cells) (hns : n ≤ C.2.2.2.2.2.1.slots) (kk : am_W C cc (pc + 3) L (.int r :: S) sh μ' k n) : am_W C cc pc L (.ref a :: S) sh μ k n :=
  aw_cv (rest := S) hd hm hin hse hM hc h100 hcl2 hcn rfl rfl hw hfr hlo ⟨hkc, hns⟩ (fun v sh' μ2 hq => by obtain ⟨rfl, rfl, rfl⟩ := hq; exact kk)
theorem aw_s0v {idx nL' d' : Nat} {y : MethodName} {cc' : ByteArray} {ret' : Option FieldType} (hd : decode cc pc = .ok (.invokestatic idx, 3)) (hm : am_ml C.2.1 idx y cc' nL' ret' 0) (hst : Cond.static y ∈ am_TB) (hM : am_MA C.1 y cc' nL' ret' d' 0 0 [] sh μ (am_E (none) sh μ')) (hw : (S.map fun v => v.category).sum ≤ 8) (hfr : d' + 1 ≤ C.2.2.2.2.2.1.frames) (hlo : 100 * d' + 100 ≤ C.2.2.2.2.2.1.locals) (hkc : k ≤ C.2.2.2.2.2.1.cells) (hns : n ≤ C.2.2.2.2.2.1.slots) (kk : am_W C cc (pc + 3) L (S) sh μ' k n) : am_W C cc pc L (S) sh μ k n :=
  aw_cs (rest := S) hd hm hst hM rfl rfl hw hfr hlo ⟨hkc, hns⟩ (fun v sh' μ2 hq => by obtain ⟨rfl, rfl, rfl⟩ := hq; exact kk)
theorem aw_v0v {idx nL' d' : Nat} {y : MethodName} {cc' : ByteArray} {ret' : Option FieldType} {a ci N : Nat} {rs : List (Option Value)} {r0 : vw_C} (hd : decode cc pc = .ok (.invokevirtual idx, 3)) (hm : am_ml C.2.1 idx y cc' nL' ret' 0) (hin : Cond.instanceMethod y ∈ am_TB) (hse : Cond.selects y.cls y y ∈ am_TB) (hM : am_MA C.1 y cc' nL' ret' d' 0 0 [.ref a] sh μ (am_E (none) sh μ')) (hc : sh[a]? = some (ci, N, rs)) (h100 : ci < 100) (hcl2 : vwCl[ci]? = some r0) (hcn : r0.1 = y.cls) (hw : (S.map fun v => v.category).sum ≤ 8) (hfr : d' + 1 ≤ C.2.2.2.2.2.1.frames) (hlo : 100 * d' + 100 ≤ C.2.2.2.2.2.1.locals) (hkc : k ≤ C.2.2.2.2.2.1.cells) (hns : n ≤ C.2.2.2.2.2.1.slots) (kk : am_W C cc (pc + 3) L (S) sh μ' k n) : am_W C cc pc L (.ref a :: S) sh μ k n :=
  aw_cv (rest := S) hd hm hin hse hM hc h100 hcl2 hcn rfl rfl hw hfr hlo ⟨hkc, hns⟩ (fun v sh' μ2 hq => by obtain ⟨rfl, rfl, rfl⟩ := hq; exact kk)
theorem aw_s0l {idx nL' d' : Nat} {y : MethodName} {cc' : ByteArray} {ret' : Option FieldType} {r : Int64} (hd : decode cc pc = .ok (.invokestatic idx, 3)) (hm : am_ml C.2.1 idx y cc' nL' ret' 0) (hst : Cond.static y ∈ am_TB) (hM : am_MA C.1 y cc' nL' ret' d' 0 0 [] sh μ (am_E (some (.long r)) sh μ')) (hw : (S.map fun v => v.category).sum ≤ 8) (hfr : d' + 1 ≤ C.2.2.2.2.2.1.frames) (hlo : 100 * d' + 100 ≤ C.2.2.2.2.2.1.locals) (hkc : k ≤ C.2.2.2.2.2.1.cells) (hns : n ≤ C.2.2.2.2.2.1.slots) (kk : am_W C cc (pc + 3) L (.long r :: S) sh μ' k n) : am_W C cc pc L (S) sh μ k n :=
  aw_cs (rest := S) hd hm hst hM rfl rfl hw hfr hlo ⟨hkc, hns⟩ (fun v sh' μ2 hq => by obtain ⟨rfl, rfl, rfl⟩ := hq; exact kk)
theorem aw_v0l {idx nL' d' : Nat} {y : MethodName} {cc' : ByteArray} {ret' : Option FieldType} {r : Int64} {a ci N : Nat} {rs : List (Option Value)} {r0 : vw_C} (hd : decode cc pc = .ok (.invokevirtual idx, 3)) (hm : am_ml C.2.1 idx y cc' nL' ret' 0) (hin : Cond.instanceMethod y ∈ am_TB) (hse : Cond.selects y.cls y y ∈ am_TB) (hM : am_MA C.1 y cc' nL' ret' d' 0 0 [.ref a] sh μ (am_E (some (.long r)) sh μ')) (hc : sh[a]? = some (ci, N, rs)) (h100 : ci < 100) (hcl2 : vwCl[ci]? = some r0) (hcn : r0.1 = y.cls) (hw : (S.map fun v => v.category).sum ≤ 8) (hfr : d' + 1 ≤ C.2.2.2.2.2.1.frames) (hlo : 100 * d' + 100 ≤ C.2.2.2.2.2.1.locals) (hkc : k ≤ C.2.2.2.2.2.1.cells) (hns : n ≤ C.2.2.2.2.2.1.slots) (kk : am_W C cc (pc + 3) L (.long r :: S) sh μ' k n) : am_W C cc pc L (.ref a :: S) sh μ k n :=
  aw_cv (rest := S) hd hm hin hse hM hc h100 hcl2 hcn rfl rfl hw hfr hlo ⟨hkc, hns⟩ (fun v sh' μ2 hq => by obtain ⟨rfl, rfl, rfl⟩ := hq; exact kk)
theorem aw_s1i {idx nL' d' : Nat} {y : MethodName} {cc' : ByteArray} {ret' : Option FieldType} {v1 : Value} {r : Int32} (hd : decode cc pc = .ok (.invokestatic idx, 3)) (hm : am_ml C.2.1 idx y cc' nL' ret' 1) (hst : Cond.static y ∈ am_TB) (hM : am_MA C.1 y cc' nL' ret' d' 0 0 [v1] sh μ (am_E (some (.int r)) sh μ')) (hw : (S.map fun v => v.category).sum ≤ 8) (hfr : d' + 1 ≤ C.2.2.2.2.2.1.frames) (hlo : 100 * d' + 100 ≤ C.2.2.2.2.2.1.locals) (hkc : k ≤ C.2.2.2.2.2.1.cells) (hns : n ≤ C.2.2.2.2.2.1.slots) (kk : am_W C cc (pc + 3) L (.int r :: S) sh μ' k n) : am_W C cc pc L (v1 :: S) sh μ k n :=
  aw_cs (rest := S) hd hm hst hM rfl rfl hw hfr hlo ⟨hkc, hns⟩ (fun v sh' μ2 hq => by obtain ⟨rfl, rfl, rfl⟩ := hq; exact kk)
theorem aw_v1i {idx nL' d' : Nat} {y : MethodName} {cc' : ByteArray} {ret' : Option FieldType} {v1 : Value} {r : Int32} {a ci N : Nat} {rs : List (Option Value)} {r0 : vw_C} (hd : decode cc pc = .ok (.invokevirtual idx, 3)) (hm : am_ml C.2.1 idx y cc' nL' ret' 1) (hin : Cond.instanceMethod y ∈ am_TB) (hse : Cond.selects y.cls y y ∈ am_TB) (hM : am_MA C.1 y cc' nL' ret' d' 0 0 [.ref a, v1] sh μ (am_E (some (.int r)) sh μ')) (hc : sh[a]? = some (ci, N, rs)) (h100 : ci < 100) (hcl2 : vwCl[ci]? = some r0) (hcn : r0.1 = y.cls) (hw : (S.map fun v => v.category).sum ≤ 8) (hfr : d' + 1 ≤ C.2.2.2.2.2.1.frames) (hlo : 100 * d' + 100 ≤ C.2.2.2.2.2.1.locals) (hkc : k ≤ C.2.2.2.2.2.1.cells) (hns : n ≤ C.2.2.2.2.2.1.slots) (kk : am_W C cc (pc + 3) L (.int r :: S) sh μ' k n) : am_W C cc pc L (v1 :: .ref a :: S) sh μ k n :=
  aw_cv (rest := S) hd hm hin hse hM hc h100 hcl2 hcn rfl rfl hw hfr hlo ⟨hkc, hns⟩ (fun v sh' μ2 hq => by obtain ⟨rfl, rfl, rfl⟩ := hq; exact kk)
theorem aw_s1v {idx nL' d' : Nat} {y : MethodName} {cc' : ByteArray} {ret' : Option FieldType} {v1 : Value} (hd : decode cc pc = .ok (.invokestatic idx, 3)) (hm : am_ml C.2.1 idx y cc' nL' ret' 1) (hst : Cond.static y ∈ am_TB) (hM : am_MA C.1 y cc' nL' ret' d' 0 0 [v1] sh μ (am_E (none) sh μ')) (hw : (S.map fun v => v.category).sum ≤ 8) (hfr : d' + 1 ≤ C.2.2.2.2.2.1.frames) (hlo : 100 * d' + 100 ≤ C.2.2.2.2.2.1.locals) (hkc : k ≤ C.2.2.2.2.2.1.cells) (hns : n ≤ C.2.2.2.2.2.1.slots) (kk : am_W C cc (pc + 3) L (S) sh μ' k n) : am_W C cc pc L (v1 :: S) sh μ k n :=
  aw_cs (rest := S) hd hm hst hM rfl rfl hw hfr hlo ⟨hkc, hns⟩ (fun v sh' μ2 hq => by obtain ⟨rfl, rfl, rfl⟩ := hq; exact kk)
theorem aw_v1v {idx nL' d' : Nat} {y : MethodName} {cc' : ByteArray} {ret' : Option FieldType} {v1 : Value} {a ci N : Nat} {rs : List (Option Value)} {r0 : vw_C} (hd : decode cc pc = .ok (.invokevirtual idx, 3)) (hm : am_ml C.2.1 idx y cc' nL' ret' 1) (hin : Cond.instanceMethod y ∈ am_TB) (hse : Cond.selects y.cls y y ∈ am_TB) (hM : am_MA C.1 y cc' nL' ret' d' 0 0 [.ref a, v1] sh μ (am_E (none) sh μ')) (hc : sh[a]? = some (ci, N, rs)) (h100 : ci < 100) (hcl2 : vwCl[ci]? = some r0) (hcn : r0.1 = y.cls) (hw : (S.map fun v => v.category).sum ≤ 8) (hfr : d' + 1 ≤ C.2.2.2.2.2.1.frames) (hlo : 100 * d' + 100 ≤ C.2.2.2.2.2.1.locals) (hkc : k ≤ C.2.2.2.2.2.1.cells) (hns : n ≤ C.2.2.2.2.2.1.slots) (kk : am_W C cc (pc + 3) L (S) sh μ' k n) : am_W C cc pc L (v1 :: .ref a :: S) sh μ k n :=
  aw_cv (rest := S) hd hm hin hse hM hc h100 hcl2 hcn rfl rfl hw hfr hlo ⟨hkc, hns⟩ (fun v sh' μ2 hq => by obtain ⟨rfl, rfl, rfl⟩ := hq; exact kk)
theorem aw_s1l {idx nL' d' : Nat} {y : MethodName} {cc' : ByteArray} {ret' : Option FieldType} {v1 : Value} {r : Int64} (hd : decode cc pc = .ok (.invokestatic idx, 3)) (hm : am_ml C.2.1 idx y cc' nL' ret' 1) (hst : Cond.static y ∈ am_TB) (hM : am_MA C.1 y cc' nL' ret' d' 0 0 [v1] sh μ (am_E (some (.long r)) sh μ')) (hw : (S.map fun v => v.category).sum ≤ 8) (hfr : d' + 1 ≤ C.2.2.2.2.2.1.frames) (hlo : 100 * d' + 100 ≤ C.2.2.2.2.2.1.locals) (hkc : k ≤ C.2.2.2.2.2.1.cells) (hns : n ≤ C.2.2.2.2.2.1.slots) (kk : am_W C cc (pc + 3) L (.long r :: S) sh μ' k n) : am_W C cc pc L (v1 :: S) sh μ k n :=
  aw_cs (rest := S) hd hm hst hM rfl rfl hw hfr hlo ⟨hkc, hns⟩ (fun v sh' μ2 hq => by obtain ⟨rfl, rfl, rfl⟩ := hq; exact kk)
theorem aw_v1l {idx nL' d' : Nat} {y : MethodName} {cc' : ByteArray} {ret' : Option FieldType} {v1 : Value} {r : Int64} {a ci N : Nat} {rs : List (Option Value)} {r0 : vw_C} (hd : decode cc pc = .ok (.invokevirtual idx, 3)) (hm : am_ml C.2.1 idx y cc' nL' ret' 1) (hin : Cond.instanceMethod y ∈ am_TB) (hse : Cond.selects y.cls y y ∈ am_TB) (hM : am_MA C.1 y cc' nL' ret' d' 0 0 [.ref a, v1] sh μ (am_E (some (.long r)) sh μ')) (hc : sh[a]? = some (ci, N, rs)) (h100 : ci < 100) (hcl2 : vwCl[ci]? = some r0) (hcn : r0.1 = y.cls) (hw : (S.map fun v => v.category).sum ≤ 8) (hfr : d' + 1 ≤ C.2.2.2.2.2.1.frames) (hlo : 100 * d' + 100 ≤ C.2.2.2.2.2.1.locals) (hkc : k ≤ C.2.2.2.2.2.1.cells) (hns : n ≤ C.2.2.2.2.2.1.slots) (kk : am_W C cc (pc + 3) L (.long r :: S) sh μ' k n) : am_W C cc pc L (v1 :: .ref a :: S) sh μ k n :=
  aw_cv (rest := S) hd hm hin hse hM hc h100 hcl2 hcn rfl rfl hw hfr hlo ⟨hkc, hns⟩ (fun v sh' μ2 hq => by obtain ⟨rfl, rfl, rfl⟩ := hq; exact kk)
theorem aw_s2i {idx nL' d' : Nat} {y : MethodName} {cc' : ByteArray} {ret' : Option FieldType} {v1 v2 : Value} {r : Int32} (hd : decode cc pc = .ok (.invokestatic idx, 3)) (hm : am_ml C.2.1 idx y cc' nL' ret' 2) (hst : Cond.static y ∈ am_TB) (hM : am_MA C.1 y cc' nL' ret' d' 0 0 [v1, v2] sh μ (am_E (some (.int r)) sh μ')) (hw : (S.map fun v => v.category).sum ≤ 8) (hfr : d' + 1 ≤ C.2.2.2.2.2.1.frames) (hlo : 100 * d' + 100 ≤ C.2.2.2.2.2.1.locals) (hkc : k ≤ C.2.2.2.2.2.1.cells) (hns : n ≤ C.2.2.2.2.2.1.slots) (kk : am_W C cc (pc + 3) L (.int r :: S) sh μ' k n) : am_W C cc pc L (v2 :: v1 :: S) sh μ k n :=
  aw_cs (rest := S) hd hm hst hM rfl rfl hw hfr hlo ⟨hkc, hns⟩ (fun v sh' μ2 hq => by obtain ⟨rfl, rfl, rfl⟩ := hq; exact kk)
theorem aw_v2i {idx nL' d' : Nat} {y : MethodName} {cc' : ByteArray} {ret' : Option FieldType} {v1 v2 : Value} {r : Int32} {a ci N : Nat} {rs : List (Option Value)} {r0 : vw_C} (hd : decode cc pc = .ok (.invokevirtual idx, 3)) (hm : am_ml C.2.1 idx y cc' nL' ret' 2) (hin : Cond.instanceMethod y ∈ am_TB) (hse : Cond.selects y.cls y y ∈ am_TB) (hM : am_MA C.1 y cc' nL' ret' d' 0 0 [.ref a, v1, v2] sh μ (am_E (some (.int r)) sh μ')) (hc : sh[a]? = some (ci, N, rs)) (h100 : ci < 100) (hcl2 : vwCl[ci]? = some r0) (hcn : r0.1 = y.cls) (hw : (S.map fun v => v.category).sum ≤ 8) (hfr : d' + 1 ≤ C.2.2.2.2.2.1.frames) (hlo : 100 * d' + 100 ≤ C.2.2.2.2.2.1.locals) (hkc : k ≤ C.2.2.2.2.2.1.cells) (hns : n ≤ C.2.2.2.2.2.1.slots) (kk : am_W C cc (pc + 3) L (.int r :: S) sh μ' k n) : am_W C cc pc L (v2 :: v1 :: .ref a :: S) sh μ k n :=
  aw_cv (rest := S) hd hm hin hse hM hc h100 hcl2 hcn rfl rfl hw hfr hlo ⟨hkc, hns⟩ (fun v sh' μ2 hq => by obtain ⟨rfl, rfl, rfl⟩ := hq; exact kk)
theorem aw_s2v {idx nL' d' : Nat} {y : MethodName} {cc' : ByteArray} {ret' : Option FieldType} {v1 v2 : Value} (hd : decode cc pc = .ok (.invokestatic idx, 3)) (hm : am_ml C.2.1 idx y cc' nL' ret' 2) (hst : Cond.static y ∈ am_TB) (hM : am_MA C.1 y cc' nL' ret' d' 0 0 [v1, v2] sh μ (am_E (none) sh μ')) (hw : (S.map fun v => v.category).sum ≤ 8) (hfr : d' + 1 ≤ C.2.2.2.2.2.1.frames) (hlo : 100 * d' + 100 ≤ C.2.2.2.2.2.1.locals) (hkc : k ≤ C.2.2.2.2.2.1.cells) (hns : n ≤ C.2.2.2.2.2.1.slots) (kk : am_W C cc (pc + 3) L (S) sh μ' k n) : am_W C cc pc L (v2 :: v1 :: S) sh μ k n :=
  aw_cs (rest := S) hd hm hst hM rfl rfl hw hfr hlo ⟨hkc, hns⟩ (fun v sh' μ2 hq => by obtain ⟨rfl, rfl, rfl⟩ := hq; exact kk)
theorem aw_v2v {idx nL' d' : Nat} {y : MethodName} {cc' : ByteArray} {ret' : Option FieldType} {v1 v2 : Value} {a ci N : Nat} {rs : List (Option Value)} {r0 : vw_C} (hd : decode cc pc = .ok (.invokevirtual idx, 3)) (hm : am_ml C.2.1 idx y cc' nL' ret' 2) (hin : Cond.instanceMethod y ∈ am_TB) (hse : Cond.selects y.cls y y ∈ am_TB) (hM : am_MA C.1 y cc' nL' ret' d' 0 0 [.ref a, v1, v2] sh μ (am_E (none) sh μ')) (hc : sh[a]? = some (ci, N, rs)) (h100 : ci < 100) (hcl2 : vwCl[ci]? = some r0) (hcn : r0.1 = y.cls) (hw : (S.map fun v => v.category).sum ≤ 8) (hfr : d' + 1 ≤ C.2.2.2.2.2.1.frames) (hlo : 100 * d' + 100 ≤ C.2.2.2.2.2.1.locals) (hkc : k ≤ C.2.2.2.2.2.1.cells) (hns : n ≤ C.2.2.2.2.2.1.slots) (kk : am_W C cc (pc + 3) L (S) sh μ' k n) : am_W C cc pc L (v2 :: v1 :: .ref a :: S) sh μ k n :=
  aw_cv (rest := S) hd hm hin hse hM hc h100 hcl2 hcn rfl rfl hw hfr hlo ⟨hkc, hns⟩ (fun v sh' μ2 hq => by obtain ⟨rfl, rfl, rfl⟩ := hq; exact kk)
theorem aw_s2l {idx nL' d' : Nat} {y : MethodName} {cc' : ByteArray} {ret' : Option FieldType} {v1 v2 : Value} {r : Int64} (hd : decode cc pc = .ok (.invokestatic idx, 3)) (hm : am_ml C.2.1 idx y cc' nL' ret' 2) (hst : Cond.static y ∈ am_TB) (hM : am_MA C.1 y cc' nL' ret' d' 0 0 [v1, v2] sh μ (am_E (some (.long r)) sh μ')) (hw : (S.map fun v => v.category).sum ≤ 8) (hfr : d' + 1 ≤ C.2.2.2.2.2.1.frames) (hlo : 100 * d' + 100 ≤ C.2.2.2.2.2.1.locals) (hkc : k ≤ C.2.2.2.2.2.1.cells) (hns : n ≤ C.2.2.2.2.2.1.slots) (kk : am_W C cc (pc + 3) L (.long r :: S) sh μ' k n) : am_W C cc pc L (v2 :: v1 :: S) sh μ k n :=
  aw_cs (rest := S) hd hm hst hM rfl rfl hw hfr hlo ⟨hkc, hns⟩ (fun v sh' μ2 hq => by obtain ⟨rfl, rfl, rfl⟩ := hq; exact kk)
theorem aw_v2l {idx nL' d' : Nat} {y : MethodName} {cc' : ByteArray} {ret' : Option FieldType} {v1 v2 : Value} {r : Int64} {a ci N : Nat} {rs : List (Option Value)} {r0 : vw_C} (hd : decode cc pc = .ok (.invokevirtual idx, 3)) (hm : am_ml C.2.1 idx y cc' nL' ret' 2) (hin : Cond.instanceMethod y ∈ am_TB) (hse : Cond.selects y.cls y y ∈ am_TB) (hM : am_MA C.1 y cc' nL' ret' d' 0 0 [.ref a, v1, v2] sh μ (am_E (some (.long r)) sh μ')) (hc : sh[a]? = some (ci, N, rs)) (h100 : ci < 100) (hcl2 : vwCl[ci]? = some r0) (hcn : r0.1 = y.cls) (hw : (S.map fun v => v.category).sum ≤ 8) (hfr : d' + 1 ≤ C.2.2.2.2.2.1.frames) (hlo : 100 * d' + 100 ≤ C.2.2.2.2.2.1.locals) (hkc : k ≤ C.2.2.2.2.2.1.cells) (hns : n ≤ C.2.2.2.2.2.1.slots) (kk : am_W C cc (pc + 3) L (.long r :: S) sh μ' k n) : am_W C cc pc L (v2 :: v1 :: .ref a :: S) sh μ k n :=
  aw_cv (rest := S) hd hm hin hse hM hc h100 hcl2 hcn rfl rfl hw hfr hlo ⟨hkc, hns⟩ (fun v sh' μ2 hq => by obtain ⟨rfl, rfl, rfl⟩ := hq; exact kk)
theorem aw_s3i {idx nL' d' : Nat} {y : MethodName} {cc' : ByteArray} {ret' : Option FieldType} {v1 v2 v3 : Value} {r : Int32} (hd : decode cc pc = .ok (.invokestatic idx, 3)) (hm : am_ml C.2.1 idx y cc' nL' ret' 3) (hst : Cond.static y ∈ am_TB) (hM : am_MA C.1 y cc' nL' ret' d' 0 0 [v1, v2, v3] sh μ (am_E (some (.int r)) sh μ')) (hw : (S.map fun v => v.category).sum ≤ 8) (hfr : d' + 1 ≤ C.2.2.2.2.2.1.frames) (hlo : 100 * d' + 100 ≤ C.2.2.2.2.2.1.locals) (hkc : k ≤ C.2.2.2.2.2.1.cells) (hns : n ≤ C.2.2.2.2.2.1.slots) (kk : am_W C cc (pc + 3) L (.int r :: S) sh μ' k n) : am_W C cc pc L (v3 :: v2 :: v1 :: S) sh μ k n :=
  aw_cs (rest := S) hd hm hst hM rfl rfl hw hfr hlo ⟨hkc, hns⟩ (fun v sh' μ2 hq => by obtain ⟨rfl, rfl, rfl⟩ := hq; exact kk)
theorem aw_v3i {idx nL' d' : Nat} {y : MethodName} {cc' : ByteArray} {ret' : Option FieldType} {v1 v2 v3 : Value} {r : Int32} {a ci N : Nat} {rs : List (Option Value)} {r0 : vw_C} (hd : decode cc pc = .ok (.invokevirtual idx, 3)) (hm : am_ml C.2.1 idx y cc' nL' ret' 3) (hin : Cond.instanceMethod y ∈ am_TB) (hse : Cond.selects y.cls y y ∈ am_TB) (hM : am_MA C.1 y cc' nL' ret' d' 0 0 [.ref a, v1, v2, v3] sh μ (am_E (some (.int r)) sh μ')) (hc : sh[a]? = some (ci, N, rs)) (h100 : ci < 100) (hcl2 : vwCl[ci]? = some r0) (hcn : r0.1 = y.cls) (hw : (S.map fun v => v.category).sum ≤ 8) (hfr : d' + 1 ≤ C.2.2.2.2.2.1.frames) (hlo : 100 * d' + 100 ≤ C.2.2.2.2.2.1.locals) (hkc : k ≤ C.2.2.2.2.2.1.cells) (hns : n ≤ C.2.2.2.2.2.1.slots) (kk : am_W C cc (pc + 3) L (.int r :: S) sh μ' k n) : am_W C cc pc L (v3 :: v2 :: v1 :: .ref a :: S) sh μ k n :=
  aw_cv (rest := S) hd hm hin hse hM hc h100 hcl2 hcn rfl rfl hw hfr hlo ⟨hkc, hns⟩ (fun v sh' μ2 hq => by obtain ⟨rfl, rfl, rfl⟩ := hq; exact kk)
theorem aw_s3v {idx nL' d' : Nat} {y : MethodName} {cc' : ByteArray} {ret' : Option FieldType} {v1 v2 v3 : Value} (hd : decode cc pc = .ok (.invokestatic idx, 3)) (hm : am_ml C.2.1 idx y cc' nL' ret' 3) (hst : Cond.static y ∈ am_TB) (hM : am_MA C.1 y cc' nL' ret' d' 0 0 [v1, v2, v3] sh μ (am_E (none) sh μ')) (hw : (S.map fun v => v.category).sum ≤ 8) (hfr : d' + 1 ≤ C.2.2.2.2.2.1.frames) (hlo : 100 * d' + 100 ≤ C.2.2.2.2.2.1.locals) (hkc : k ≤ C.2.2.2.2.2.1.cells) (hns : n ≤ C.2.2.2.2.2.1.slots) (kk : am_W C cc (pc + 3) L (S) sh μ' k n) : am_W C cc pc L (v3 :: v2 :: v1 :: S) sh μ k n :=
  aw_cs (rest := S) hd hm hst hM rfl rfl hw hfr hlo ⟨hkc, hns⟩ (fun v sh' μ2 hq => by obtain ⟨rfl, rfl, rfl⟩ := hq; exact kk)
theorem aw_v3v {idx nL' d' : Nat} {y : MethodName} {cc' : ByteArray} {ret' : Option FieldType} {v1 v2 v3 : Value} {a ci N : Nat} {rs : List (Option Value)} {r0 : vw_C} (hd : decode cc pc = .ok (.invokevirtual idx, 3)) (hm : am_ml C.2.1 idx y cc' nL' ret' 3) (hin : Cond.instanceMethod y ∈ am_TB) (hse : Cond.selects y.cls y y ∈ am_TB) (hM : am_MA C.1 y cc' nL' ret' d' 0 0 [.ref a, v1, v2, v3] sh μ (am_E (none) sh μ')) (hc : sh[a]? = some (ci, N, rs)) (h100 : ci < 100) (hcl2 : vwCl[ci]? = some r0) (hcn : r0.1 = y.cls) (hw : (S.map fun v => v.category).sum ≤ 8) (hfr : d' + 1 ≤ C.2.2.2.2.2.1.frames) (hlo : 100 * d' + 100 ≤ C.2.2.2.2.2.1.locals) (hkc : k ≤ C.2.2.2.2.2.1.cells) (hns : n ≤ C.2.2.2.2.2.1.slots) (kk : am_W C cc (pc + 3) L (S) sh μ' k n) : am_W C cc pc L (v3 :: v2 :: v1 :: .ref a :: S) sh μ k n :=
  aw_cv (rest := S) hd hm hin hse hM hc h100 hcl2 hcn rfl rfl hw hfr hlo ⟨hkc, hns⟩ (fun v sh' μ2 hq => by obtain ⟨rfl, rfl, rfl⟩ := hq; exact kk)
theorem aw_s3l {idx nL' d' : Nat} {y : MethodName} {cc' : ByteArray} {ret' : Option FieldType} {v1 v2 v3 : Value} {r : Int64} (hd : decode cc pc = .ok (.invokestatic idx, 3)) (hm : am_ml C.2.1 idx y cc' nL' ret' 3) (hst : Cond.static y ∈ am_TB) (hM : am_MA C.1 y cc' nL' ret' d' 0 0 [v1, v2, v3] sh μ (am_E (some (.long r)) sh μ')) (hw : (S.map fun v => v.category).sum ≤ 8) (hfr : d' + 1 ≤ C.2.2.2.2.2.1.frames) (hlo : 100 * d' + 100 ≤ C.2.2.2.2.2.1.locals) (hkc : k ≤ C.2.2.2.2.2.1.cells) (hns : n ≤ C.2.2.2.2.2.1.slots) (kk : am_W C cc (pc + 3) L (.long r :: S) sh μ' k n) : am_W C cc pc L (v3 :: v2 :: v1 :: S) sh μ k n :=
  aw_cs (rest := S) hd hm hst hM rfl rfl hw hfr hlo ⟨hkc, hns⟩ (fun v sh' μ2 hq => by obtain ⟨rfl, rfl, rfl⟩ := hq; exact kk)
theorem aw_v3l {idx nL' d' : Nat} {y : MethodName} {cc' : ByteArray} {ret' : Option FieldType} {v1 v2 v3 : Value} {r : Int64} {a ci N : Nat} {rs : List (Option Value)} {r0 : vw_C} (hd : decode cc pc = .ok (.invokevirtual idx, 3)) (hm : am_ml C.2.1 idx y cc' nL' ret' 3) (hin : Cond.instanceMethod y ∈ am_TB) (hse : Cond.selects y.cls y y ∈ am_TB) (hM : am_MA C.1 y cc' nL' ret' d' 0 0 [.ref a, v1, v2, v3] sh μ (am_E (some (.long r)) sh μ')) (hc : sh[a]? = some (ci, N, rs)) (h100 : ci < 100) (hcl2 : vwCl[ci]? = some r0) (hcn : r0.1 = y.cls) (hw : (S.map fun v => v.category).sum ≤ 8) (hfr : d' + 1 ≤ C.2.2.2.2.2.1.frames) (hlo : 100 * d' + 100 ≤ C.2.2.2.2.2.1.locals) (hkc : k ≤ C.2.2.2.2.2.1.cells) (hns : n ≤ C.2.2.2.2.2.1.slots) (kk : am_W C cc (pc + 3) L (.long r :: S) sh μ' k n) : am_W C cc pc L (v3 :: v2 :: v1 :: .ref a :: S) sh μ k n :=
  aw_cv (rest := S) hd hm hin hse hM hc h100 hcl2 hcn rfl rfl hw hfr hlo ⟨hkc, hns⟩ (fun v sh' μ2 hq => by obtain ⟨rfl, rfl, rfl⟩ := hq; exact kk)
theorem aw_s4i {idx nL' d' : Nat} {y : MethodName} {cc' : ByteArray} {ret' : Option FieldType} {v1 v2 v3 v4 : Value} {r : Int32} (hd : decode cc pc = .ok (.invokestatic idx, 3)) (hm : am_ml C.2.1 idx y cc' nL' ret' 4) (hst : Cond.static y ∈ am_TB) (hM : am_MA C.1 y cc' nL' ret' d' 0 0 [v1, v2, v3, v4] sh μ (am_E (some (.int r)) sh μ')) (hw : (S.map fun v => v.category).sum ≤ 8) (hfr : d' + 1 ≤ C.2.2.2.2.2.1.frames) (hlo : 100 * d' + 100 ≤ C.2.2.2.2.2.1.locals) (hkc : k ≤ C.2.2.2.2.2.1.cells) (hns : n ≤ C.2.2.2.2.2.1.slots) (kk : am_W C cc (pc + 3) L (.int r :: S) sh μ' k n) : am_W C cc pc L (v4 :: v3 :: v2 :: v1 :: S) sh μ k n :=
  aw_cs (rest := S) hd hm hst hM rfl rfl hw hfr hlo ⟨hkc, hns⟩ (fun v sh' μ2 hq => by obtain ⟨rfl, rfl, rfl⟩ := hq; exact kk)
theorem aw_v4i {idx nL' d' : Nat} {y : MethodName} {cc' : ByteArray} {ret' : Option FieldType} {v1 v2 v3 v4 : Value} {r : Int32} {a ci N : Nat} {rs : List (Option Value)} {r0 : vw_C} (hd : decode cc pc = .ok (.invokevirtual idx, 3)) (hm : am_ml C.2.1 idx y cc' nL' ret' 4) (hin : Cond.instanceMethod y ∈ am_TB) (hse : Cond.selects y.cls y y ∈ am_TB) (hM : am_MA C.1 y cc' nL' ret' d' 0 0 [.ref a, v1, v2, v3, v4] sh μ (am_E (some (.int r)) sh μ')) (hc : sh[a]? = some (ci, N, rs)) (h100 : ci < 100) (hcl2 : vwCl[ci]? = some r0) (hcn : r0.1 = y.cls) (hw : (S.map fun v => v.category).sum ≤ 8) (hfr : d' + 1 ≤ C.2.2.2.2.2.1.frames) (hlo : 100 * d' + 100 ≤ C.2.2.2.2.2.1.locals) (hkc : k ≤ C.2.2.2.2.2.1.cells) (hns : n ≤ C.2.2.2.2.2.1.slots) (kk : am_W C cc (pc + 3) L (.int r :: S) sh μ' k n) : am_W C cc pc L (v4 :: v3 :: v2 :: v1 :: .ref a :: S) sh μ k n :=
  aw_cv (rest := S) hd hm hin hse hM hc h100 hcl2 hcn rfl rfl hw hfr hlo ⟨hkc, hns⟩ (fun v sh' μ2 hq => by obtain ⟨rfl, rfl, rfl⟩ := hq; exact kk)
theorem aw_s4v {idx nL' d' : Nat} {y : MethodName} {cc' : ByteArray} {ret' : Option FieldType} {v1 v2 v3 v4 : Value} (hd : decode cc pc = .ok (.invokestatic idx, 3)) (hm : am_ml C.2.1 idx y cc' nL' ret' 4) (hst : Cond.static y ∈ am_TB) (hM : am_MA C.1 y cc' nL' ret' d' 0 0 [v1, v2, v3, v4] sh μ (am_E (none) sh μ')) (hw : (S.map fun v => v.category).sum ≤ 8) (hfr : d' + 1 ≤ C.2.2.2.2.2.1.frames) (hlo : 100 * d' + 100 ≤ C.2.2.2.2.2.1.locals) (hkc : k ≤ C.2.2.2.2.2.1.cells) (hns : n ≤ C.2.2.2.2.2.1.slots) (kk : am_W C cc (pc + 3) L (S) sh μ' k n) : am_W C cc pc L (v4 :: v3 :: v2 :: v1 :: S) sh μ k n :=
  aw_cs (rest := S) hd hm hst hM rfl rfl hw hfr hlo ⟨hkc, hns⟩ (fun v sh' μ2 hq => by obtain ⟨rfl, rfl, rfl⟩ := hq; exact kk)
theorem aw_v4v {idx nL' d' : Nat} {y : MethodName} {cc' : ByteArray} {ret' : Option FieldType} {v1 v2 v3 v4 : Value} {a ci N : Nat} {rs : List (Option Value)} {r0 : vw_C} (hd : decode cc pc = .ok (.invokevirtual idx, 3)) (hm : am_ml C.2.1 idx y cc' nL' ret' 4) (hin : Cond.instanceMethod y ∈ am_TB) (hse : Cond.selects y.cls y y ∈ am_TB) (hM : am_MA C.1 y cc' nL' ret' d' 0 0 [.ref a, v1, v2, v3, v4] sh μ (am_E (none) sh μ')) (hc : sh[a]? = some (ci, N, rs)) (h100 : ci < 100) (hcl2 : vwCl[ci]? = some r0) (hcn : r0.1 = y.cls) (hw : (S.map fun v => v.category).sum ≤ 8) (hfr : d' + 1 ≤ C.2.2.2.2.2.1.frames) (hlo : 100 * d' + 100 ≤ C.2.2.2.2.2.1.locals) (hkc : k ≤ C.2.2.2.2.2.1.cells) (hns : n ≤ C.2.2.2.2.2.1.slots) (kk : am_W C cc (pc + 3) L (S) sh μ' k n) : am_W C cc pc L (v4 :: v3 :: v2 :: v1 :: .ref a :: S) sh μ k n :=
  aw_cv (rest := S) hd hm hin hse hM hc h100 hcl2 hcn rfl rfl hw hfr hlo ⟨hkc, hns⟩ (fun v sh' μ2 hq => by obtain ⟨rfl, rfl, rfl⟩ := hq; exact kk)
theorem aw_s4l {idx nL' d' : Nat} {y : MethodName} {cc' : ByteArray} {ret' : Option FieldType} {v1 v2 v3 v4 : Value} {r : Int64} (hd : decode cc pc = .ok (.invokestatic idx, 3)) (hm : am_ml C.2.1 idx y cc' nL' ret' 4) (hst : Cond.static y ∈ am_TB) (hM : am_MA C.1 y cc' nL' ret' d' 0 0 [v1, v2, v3, v4] sh μ (am_E (some (.long r)) sh μ')) (hw : (S.map fun v => v.category).sum ≤ 8) (hfr : d' + 1 ≤ C.2.2.2.2.2.1.frames) (hlo : 100 * d' + 100 ≤ C.2.2.2.2.2.1.locals) (hkc : k ≤ C.2.2.2.2.2.1.cells) (hns : n ≤ C.2.2.2.2.2.1.slots) (kk : am_W C cc (pc + 3) L (.long r :: S) sh μ' k n) : am_W C cc pc L (v4 :: v3 :: v2 :: v1 :: S) sh μ k n :=
  aw_cs (rest := S) hd hm hst hM rfl rfl hw hfr hlo ⟨hkc, hns⟩ (fun v sh' μ2 hq => by obtain ⟨rfl, rfl, rfl⟩ := hq; exact kk)
theorem aw_v4l {idx nL' d' : Nat} {y : MethodName} {cc' : ByteArray} {ret' : Option FieldType} {v1 v2 v3 v4 : Value} {r : Int64} {a ci N : Nat} {rs : List (Option Value)} {r0 : vw_C} (hd : decode cc pc = .ok (.invokevirtual idx, 3)) (hm : am_ml C.2.1 idx y cc' nL' ret' 4) (hin : Cond.instanceMethod y ∈ am_TB) (hse : Cond.selects y.cls y y ∈ am_TB) (hM : am_MA C.1 y cc' nL' ret' d' 0 0 [.ref a, v1, v2, v3, v4] sh μ (am_E (some (.long r)) sh μ')) (hc : sh[a]? = some (ci, N, rs)) (h100 : ci < 100) (hcl2 : vwCl[ci]? = some r0) (hcn : r0.1 = y.cls) (hw : (S.map fun v => v.category).sum ≤ 8) (hfr : d' + 1 ≤ C.2.2.2.2.2.1.frames) (hlo : 100 * d' + 100 ≤ C.2.2.2.2.2.1.locals) (hkc : k ≤ C.2.2.2.2.2.1.cells) (hns : n ≤ C.2.2.2.2.2.1.slots) (kk : am_W C cc (pc + 3) L (.long r :: S) sh μ' k n) : am_W C cc pc L (v4 :: v3 :: v2 :: v1 :: .ref a :: S) sh μ k n :=
  aw_cv (rest := S) hd hm hin hse hM hc h100 hcl2 hcn rfl rfl hw hfr hlo ⟨hkc, hns⟩ (fun v sh' μ2 hq => by obtain ⟨rfl, rfl, rfl⟩ := hq; exact kk)
theorem aw_s5i {idx nL' d' : Nat} {y : MethodName} {cc' : ByteArray} {ret' : Option FieldType} {v1 v2 v3 v4 v5 : Value} {r : Int32} (hd : decode cc pc = .ok (.invokestatic idx, 3)) (hm : am_ml C.2.1 idx y cc' nL' ret' 5) (hst : Cond.static y ∈ am_TB) (hM : am_MA C.1 y cc' nL' ret' d' 0 0 [v1, v2, v3, v4, v5] sh μ (am_E (some (.int r)) sh μ')) (hw : (S.map fun v => v.category).sum ≤ 8) (hfr : d' + 1 ≤ C.2.2.2.2.2.1.frames) (hlo : 100 * d' + 100 ≤ C.2.2.2.2.2.1.locals) (hkc : k ≤ C.2.2.2.2.2.1.cells) (hns : n ≤ C.2.2.2.2.2.1.slots) (kk : am_W C cc (pc + 3) L (.int r :: S) sh μ' k n) : am_W C cc pc L (v5 :: v4 :: v3 :: v2 :: v1 :: S) sh μ k n :=
  aw_cs (rest := S) hd hm hst hM rfl rfl hw hfr hlo ⟨hkc, hns⟩ (fun v sh' μ2 hq => by obtain ⟨rfl, rfl, rfl⟩ := hq; exact kk)
theorem aw_v5i {idx nL' d' : Nat} {y : MethodName} {cc' : ByteArray} {ret' : Option FieldType} {v1 v2 v3 v4 v5 : Value} {r : Int32} {a ci N : Nat} {rs : List (Option Value)} {r0 : vw_C} (hd : decode cc pc = .ok (.invokevirtual idx, 3)) (hm : am_ml C.2.1 idx y cc' nL' ret' 5) (hin : Cond.instanceMethod y ∈ am_TB) (hse : Cond.selects y.cls y y ∈ am_TB) (hM : am_MA C.1 y cc' nL' ret' d' 0 0 [.ref a, v1, v2, v3, v4, v5] sh μ (am_E (some (.int r)) sh μ')) (hc : sh[a]? = some (ci, N, rs)) (h100 : ci < 100) (hcl2 : vwCl[ci]? = some r0) (hcn : r0.1 = y.cls) (hw : (S.map fun v => v.category).sum ≤ 8) (hfr : d' + 1 ≤ C.2.2.2.2.2.1.frames) (hlo : 100 * d' + 100 ≤ C.2.2.2.2.2.1.locals) (hkc : k ≤ C.2.2.2.2.2.1.cells) (hns : n ≤ C.2.2.2.2.2.1.slots) (kk : am_W C cc (pc + 3) L (.int r :: S) sh μ' k n) : am_W C cc pc L (v5 :: v4 :: v3 :: v2 :: v1 :: .ref a :: S) sh μ k n :=
  aw_cv (rest := S) hd hm hin hse hM hc h100 hcl2 hcn rfl rfl hw hfr hlo ⟨hkc, hns⟩ (fun v sh' μ2 hq => by obtain ⟨rfl, rfl, rfl⟩ := hq; exact kk)
theorem aw_s5v {idx nL' d' : Nat} {y : MethodName} {cc' : ByteArray} {ret' : Option FieldType} {v1 v2 v3 v4 v5 : Value} (hd : decode cc pc = .ok (.invokestatic idx, 3)) (hm : am_ml C.2.1 idx y cc' nL' ret' 5) (hst : Cond.static y ∈ am_TB) (hM : am_MA C.1 y cc' nL' ret' d' 0 0 [v1, v2, v3, v4, v5] sh μ (am_E (none) sh μ')) (hw : (S.map fun v => v.category).sum ≤ 8) (hfr : d' + 1 ≤ C.2.2.2.2.2.1.frames) (hlo : 100 * d' + 100 ≤ C.2.2.2.2.2.1.locals) (hkc : k ≤ C.2.2.2.2.2.1.cells) (hns : n ≤ C.2.2.2.2.2.1.slots) (kk : am_W C cc (pc + 3) L (S) sh μ' k n) : am_W C cc pc L (v5 :: v4 :: v3 :: v2 :: v1 :: S) sh μ k n :=
  aw_cs (rest := S) hd hm hst hM rfl rfl hw hfr hlo ⟨hkc, hns⟩ (fun v sh' μ2 hq => by obtain ⟨rfl, rfl, rfl⟩ := hq; exact kk)
theorem aw_v5v {idx nL' d' : Nat} {y : MethodName} {cc' : ByteArray} {ret' : Option FieldType} {v1 v2 v3 v4 v5 : Value} {a ci N : Nat} {rs : List (Option Value)} {r0 : vw_C} (hd : decode cc pc = .ok (.invokevirtual idx, 3)) (hm : am_ml C.2.1 idx y cc' nL' ret' 5) (hin : Cond.instanceMethod y ∈ am_TB) (hse : Cond.selects y.cls y y ∈ am_TB) (hM : am_MA C.1 y cc' nL' ret' d' 0 0 [.ref a, v1, v2, v3, v4, v5] sh μ (am_E (none) sh μ')) (hc : sh[a]? = some (ci, N, rs)) (h100 : ci < 100) (hcl2 : vwCl[ci]? = some r0) (hcn : r0.1 = y.cls) (hw : (S.map fun v => v.category).sum ≤ 8) (hfr : d' + 1 ≤ C.2.2.2.2.2.1.frames) (hlo : 100 * d' + 100 ≤ C.2.2.2.2.2.1.locals) (hkc : k ≤ C.2.2.2.2.2.1.cells) (hns : n ≤ C.2.2.2.2.2.1.slots) (kk : am_W C cc (pc + 3) L (S) sh μ' k n) : am_W C cc pc L (v5 :: v4 :: v3 :: v2 :: v1 :: .ref a :: S) sh μ k n :=
  aw_cv (rest := S) hd hm hin hse hM hc h100 hcl2 hcn rfl rfl hw hfr hlo ⟨hkc, hns⟩ (fun v sh' μ2 hq => by obtain ⟨rfl, rfl, rfl⟩ := hq; exact kk)
theorem aw_s5l {idx nL' d' : Nat} {y : MethodName} {cc' : ByteArray} {ret' : Option FieldType} {v1 v2 v3 v4 v5 : Value} {r : Int64} (hd : decode cc pc = .ok (.invokestatic idx, 3)) (hm : am_ml C.2.1 idx y cc' nL' ret' 5) (hst : Cond.static y ∈ am_TB) (hM : am_MA C.1 y cc' nL' ret' d' 0 0 [v1, v2, v3, v4, v5] sh μ (am_E (some (.long r)) sh μ')) (hw : (S.map fun v => v.category).sum ≤ 8) (hfr : d' + 1 ≤ C.2.2.2.2.2.1.frames) (hlo : 100 * d' + 100 ≤ C.2.2.2.2.2.1.locals) (hkc : k ≤ C.2.2.2.2.2.1.cells) (hns : n ≤ C.2.2.2.2.2.1.slots) (kk : am_W C cc (pc + 3) L (.long r :: S) sh μ' k n) : am_W C cc pc L (v5 :: v4 :: v3 :: v2 :: v1 :: S) sh μ k n :=
  aw_cs (rest := S) hd hm hst hM rfl rfl hw hfr hlo ⟨hkc, hns⟩ (fun v sh' μ2 hq => by obtain ⟨rfl, rfl, rfl⟩ := hq; exact kk)
theorem aw_v5l {idx nL' d' : Nat} {y : MethodName} {cc' : ByteArray} {ret' : Option FieldType} {v1 v2 v3 v4 v5 : Value} {r : Int64} {a ci N : Nat} {rs : List (Option Value)} {r0 : vw_C} (hd : decode cc pc = .ok (.invokevirtual idx, 3)) (hm : am_ml C.2.1 idx y cc' nL' ret' 5) (hin : Cond.instanceMethod y ∈ am_TB) (hse : Cond.selects y.cls y y ∈ am_TB) (hM : am_MA C.1 y cc' nL' ret' d' 0 0 [.ref a, v1, v2, v3, v4, v5] sh μ (am_E (some (.long r)) sh μ')) (hc : sh[a]? = some (ci, N, rs)) (h100 : ci < 100) (hcl2 : vwCl[ci]? = some r0) (hcn : r0.1 = y.cls) (hw : (S.map fun v => v.category).sum ≤ 8) (hfr : d' + 1 ≤ C.2.2.2.2.2.1.frames) (hlo : 100 * d' + 100 ≤ C.2.2.2.2.2.1.locals) (hkc : k ≤ C.2.2.2.2.2.1.cells) (hns : n ≤ C.2.2.2.2.2.1.slots) (kk : am_W C cc (pc + 3) L (.long r :: S) sh μ' k n) : am_W C cc pc L (v5 :: v4 :: v3 :: v2 :: v1 :: .ref a :: S) sh μ k n :=
  aw_cv (rest := S) hd hm hin hse hM hc h100 hcl2 hcn rfl rfl hw hfr hlo ⟨hkc, hns⟩ (fun v sh' μ2 hq => by obtain ⟨rfl, rfl, rfl⟩ := hq; exact kk)
theorem aw_v0q {idx nL' d' : Nat} {y : MethodName} {cc' : ByteArray} {ret' : Option FieldType} {a ci N : Nat} {rs : List (Option Value)} {r0 : vw_C} {Q' : Option Value → List am_S → am_M → Prop} (hd : decode cc pc = .ok (.invokevirtual idx, 3)) (hm : am_ml C.2.1 idx y cc' nL' ret' 0) (hin : Cond.instanceMethod y ∈ am_TB) (hse : Cond.selects y.cls y y ∈ am_TB) (hM : am_MA C.1 y cc' nL' ret' d' 0 0 [.ref a] sh μ Q') (hc : sh[a]? = some (ci, N, rs)) (h100 : ci < 100) (hcl2 : vwCl[ci]? = some r0) (hcn : r0.1 = y.cls) (hw : (S.map fun v => v.category).sum ≤ 8) (hfr : d' + 1 ≤ C.2.2.2.2.2.1.frames) (hlo : 100 * d' + 100 ≤ C.2.2.2.2.2.1.locals) (hkc : k ≤ C.2.2.2.2.2.1.cells) (hns : n ≤ C.2.2.2.2.2.1.slots) (kk : ∀ v sh' μ', Q' v sh' μ' → am_W C cc (pc + 3) L (v.toList ++ S) sh' μ' k n) : am_W C cc pc L (.ref a :: S) sh μ k n :=
  aw_cv (rest := S) hd hm hin hse hM hc h100 hcl2 hcn rfl rfl hw hfr hlo ⟨hkc, hns⟩ kk
theorem aw_s0q {idx nL' d' : Nat} {y : MethodName} {cc' : ByteArray} {ret' : Option FieldType} {Q' : Option Value → List am_S → am_M → Prop} (hd : decode cc pc = .ok (.invokestatic idx, 3)) (hm : am_ml C.2.1 idx y cc' nL' ret' 0) (hst : Cond.static y ∈ am_TB) (hM : am_MA C.1 y cc' nL' ret' d' 0 0 [] sh μ Q') (hw : (S.map fun v => v.category).sum ≤ 8) (hfr : d' + 1 ≤ C.2.2.2.2.2.1.frames) (hlo : 100 * d' + 100 ≤ C.2.2.2.2.2.1.locals) (hkc : k ≤ C.2.2.2.2.2.1.cells) (hns : n ≤ C.2.2.2.2.2.1.slots) (kk : ∀ v sh' μ', Q' v sh' μ' → am_W C cc (pc + 3) L (v.toList ++ S) sh' μ' k n) : am_W C cc pc L (S) sh μ k n :=
  aw_cs (rest := S) hd hm hst hM rfl rfl hw hfr hlo ⟨hkc, hns⟩ kk
theorem aw_v1q {idx nL' d' : Nat} {y : MethodName} {cc' : ByteArray} {ret' : Option FieldType} {v1 : Value} {a ci N : Nat} {rs : List (Option Value)} {r0 : vw_C} {Q' : Option Value → List am_S → am_M → Prop} (hd : decode cc pc = .ok (.invokevirtual idx, 3)) (hm : am_ml C.2.1 idx y cc' nL' ret' 1) (hin : Cond.instanceMethod y ∈ am_TB) (hse : Cond.selects y.cls y y ∈ am_TB) (hM : am_MA C.1 y cc' nL' ret' d' 0 0 [.ref a, v1] sh μ Q') (hc : sh[a]? = some (ci, N, rs)) (h100 : ci < 100) (hcl2 : vwCl[ci]? = some r0) (hcn : r0.1 = y.cls) (hw : (S.map fun v => v.category).sum ≤ 8) (hfr : d' + 1 ≤ C.2.2.2.2.2.1.frames) (hlo : 100 * d' + 100 ≤ C.2.2.2.2.2.1.locals) (hkc : k ≤ C.2.2.2.2.2.1.cells) (hns : n ≤ C.2.2.2.2.2.1.slots) (kk : ∀ v sh' μ', Q' v sh' μ' → am_W C cc (pc + 3) L (v.toList ++ S) sh' μ' k n) : am_W C cc pc L (v1 :: .ref a :: S) sh μ k n :=
  aw_cv (rest := S) hd hm hin hse hM hc h100 hcl2 hcn rfl rfl hw hfr hlo ⟨hkc, hns⟩ kk
theorem aw_s1q {idx nL' d' : Nat} {y : MethodName} {cc' : ByteArray} {ret' : Option FieldType} {v1 : Value} {Q' : Option Value → List am_S → am_M → Prop} (hd : decode cc pc = .ok (.invokestatic idx, 3)) (hm : am_ml C.2.1 idx y cc' nL' ret' 1) (hst : Cond.static y ∈ am_TB) (hM : am_MA C.1 y cc' nL' ret' d' 0 0 [v1] sh μ Q') (hw : (S.map fun v => v.category).sum ≤ 8) (hfr : d' + 1 ≤ C.2.2.2.2.2.1.frames) (hlo : 100 * d' + 100 ≤ C.2.2.2.2.2.1.locals) (hkc : k ≤ C.2.2.2.2.2.1.cells) (hns : n ≤ C.2.2.2.2.2.1.slots) (kk : ∀ v sh' μ', Q' v sh' μ' → am_W C cc (pc + 3) L (v.toList ++ S) sh' μ' k n) : am_W C cc pc L (v1 :: S) sh μ k n :=
  aw_cs (rest := S) hd hm hst hM rfl rfl hw hfr hlo ⟨hkc, hns⟩ kk
theorem aw_v2q {idx nL' d' : Nat} {y : MethodName} {cc' : ByteArray} {ret' : Option FieldType} {v1 v2 : Value} {a ci N : Nat} {rs : List (Option Value)} {r0 : vw_C} {Q' : Option Value → List am_S → am_M → Prop} (hd : decode cc pc = .ok (.invokevirtual idx, 3)) (hm : am_ml C.2.1 idx y cc' nL' ret' 2) (hin : Cond.instanceMethod y ∈ am_TB) (hse : Cond.selects y.cls y y ∈ am_TB) (hM : am_MA C.1 y cc' nL' ret' d' 0 0 [.ref a, v1, v2] sh μ Q') (hc : sh[a]? = some (ci, N, rs)) (h100 : ci < 100) (hcl2 : vwCl[ci]? = some r0) (hcn : r0.1 = y.cls) (hw : (S.map fun v => v.category).sum ≤ 8) (hfr : d' + 1 ≤ C.2.2.2.2.2.1.frames) (hlo : 100 * d' + 100 ≤ C.2.2.2.2.2.1.locals) (hkc : k ≤ C.2.2.2.2.2.1.cells) (hns : n ≤ C.2.2.2.2.2.1.slots) (kk : ∀ v sh' μ', Q' v sh' μ' → am_W C cc (pc + 3) L (v.toList ++ S) sh' μ' k n) : am_W C cc pc L (v2 :: v1 :: .ref a :: S) sh μ k n :=
  aw_cv (rest := S) hd hm hin hse hM hc h100 hcl2 hcn rfl rfl hw hfr hlo ⟨hkc, hns⟩ kk
theorem aw_s2q {idx nL' d' : Nat} {y : MethodName} {cc' : ByteArray} {ret' : Option FieldType} {v1 v2 : Value} {Q' : Option Value → List am_S → am_M → Prop} (hd : decode cc pc = .ok (.invokestatic idx, 3)) (hm : am_ml C.2.1 idx y cc' nL' ret' 2) (hst : Cond.static y ∈ am_TB) (hM : am_MA C.1 y cc' nL' ret' d' 0 0 [v1, v2] sh μ Q') (hw : (S.map fun v => v.category).sum ≤ 8) (hfr : d' + 1 ≤ C.2.2.2.2.2.1.frames) (hlo : 100 * d' + 100 ≤ C.2.2.2.2.2.1.locals) (hkc : k ≤ C.2.2.2.2.2.1.cells) (hns : n ≤ C.2.2.2.2.2.1.slots) (kk : ∀ v sh' μ', Q' v sh' μ' → am_W C cc (pc + 3) L (v.toList ++ S) sh' μ' k n) : am_W C cc pc L (v2 :: v1 :: S) sh μ k n :=
  aw_cs (rest := S) hd hm hst hM rfl rfl hw hfr hlo ⟨hkc, hns⟩ kk
theorem aw_v3q {idx nL' d' : Nat} {y : MethodName} {cc' : ByteArray} {ret' : Option FieldType} {v1 v2 v3 : Value} {a ci N : Nat} {rs : List (Option Value)} {r0 : vw_C} {Q' : Option Value → List am_S → am_M → Prop} (hd : decode cc pc = .ok (.invokevirtual idx, 3)) (hm : am_ml C.2.1 idx y cc' nL' ret' 3) (hin : Cond.instanceMethod y ∈ am_TB) (hse : Cond.selects y.cls y y ∈ am_TB) (hM : am_MA C.1 y cc' nL' ret' d' 0 0 [.ref a, v1, v2, v3] sh μ Q') (hc : sh[a]? = some (ci, N, rs)) (h100 : ci < 100) (hcl2 : vwCl[ci]? = some r0) (hcn : r0.1 = y.cls) (hw : (S.map fun v => v.category).sum ≤ 8) (hfr : d' + 1 ≤ C.2.2.2.2.2.1.frames) (hlo : 100 * d' + 100 ≤ C.2.2.2.2.2.1.locals) (hkc : k ≤ C.2.2.2.2.2.1.cells) (hns : n ≤ C.2.2.2.2.2.1.slots) (kk : ∀ v sh' μ', Q' v sh' μ' → am_W C cc (pc + 3) L (v.toList ++ S) sh' μ' k n) : am_W C cc pc L (v3 :: v2 :: v1 :: .ref a :: S) sh μ k n :=
  aw_cv (rest := S) hd hm hin hse hM hc h100 hcl2 hcn rfl rfl hw hfr hlo ⟨hkc, hns⟩ kk
theorem aw_s3q {idx nL' d' : Nat} {y : MethodName} {cc' : ByteArray} {ret' : Option FieldType} {v1 v2 v3 : Value} {Q' : Option Value → List am_S → am_M → Prop} (hd : decode cc pc = .ok (.invokestatic idx, 3)) (hm : am_ml C.2.1 idx y cc' nL' ret' 3) (hst : Cond.static y ∈ am_TB) (hM : am_MA C.1 y cc' nL' ret' d' 0 0 [v1, v2, v3] sh μ Q') (hw : (S.map fun v => v.category).sum ≤ 8) (hfr : d' + 1 ≤ C.2.2.2.2.2.1.frames) (hlo : 100 * d' + 100 ≤ C.2.2.2.2.2.1.locals) (hkc : k ≤ C.2.2.2.2.2.1.cells) (hns : n ≤ C.2.2.2.2.2.1.slots) (kk : ∀ v sh' μ', Q' v sh' μ' → am_W C cc (pc + 3) L (v.toList ++ S) sh' μ' k n) : am_W C cc pc L (v3 :: v2 :: v1 :: S) sh μ k n :=
  aw_cs (rest := S) hd hm hst hM rfl rfl hw hfr hlo ⟨hkc, hns⟩ kk
theorem aw_v4q {idx nL' d' : Nat} {y : MethodName} {cc' : ByteArray} {ret' : Option FieldType} {v1 v2 v3 v4 : Value} {a ci N : Nat} {rs : List (Option Value)} {r0 : vw_C} {Q' : Option Value → List am_S → am_M → Prop} (hd : decode cc pc = .ok (.invokevirtual idx, 3)) (hm : am_ml C.2.1 idx y cc' nL' ret' 4) (hin : Cond.instanceMethod y ∈ am_TB) (hse : Cond.selects y.cls y y ∈ am_TB) (hM : am_MA C.1 y cc' nL' ret' d' 0 0 [.ref a, v1, v2, v3, v4] sh μ Q') (hc : sh[a]? = some (ci, N, rs)) (h100 : ci < 100) (hcl2 : vwCl[ci]? = some r0) (hcn : r0.1 = y.cls) (hw : (S.map fun v => v.category).sum ≤ 8) (hfr : d' + 1 ≤ C.2.2.2.2.2.1.frames) (hlo : 100 * d' + 100 ≤ C.2.2.2.2.2.1.locals) (hkc : k ≤ C.2.2.2.2.2.1.cells) (hns : n ≤ C.2.2.2.2.2.1.slots) (kk : ∀ v sh' μ', Q' v sh' μ' → am_W C cc (pc + 3) L (v.toList ++ S) sh' μ' k n) : am_W C cc pc L (v4 :: v3 :: v2 :: v1 :: .ref a :: S) sh μ k n :=
  aw_cv (rest := S) hd hm hin hse hM hc h100 hcl2 hcn rfl rfl hw hfr hlo ⟨hkc, hns⟩ kk
theorem aw_s4q {idx nL' d' : Nat} {y : MethodName} {cc' : ByteArray} {ret' : Option FieldType} {v1 v2 v3 v4 : Value} {Q' : Option Value → List am_S → am_M → Prop} (hd : decode cc pc = .ok (.invokestatic idx, 3)) (hm : am_ml C.2.1 idx y cc' nL' ret' 4) (hst : Cond.static y ∈ am_TB) (hM : am_MA C.1 y cc' nL' ret' d' 0 0 [v1, v2, v3, v4] sh μ Q') (hw : (S.map fun v => v.category).sum ≤ 8) (hfr : d' + 1 ≤ C.2.2.2.2.2.1.frames) (hlo : 100 * d' + 100 ≤ C.2.2.2.2.2.1.locals) (hkc : k ≤ C.2.2.2.2.2.1.cells) (hns : n ≤ C.2.2.2.2.2.1.slots) (kk : ∀ v sh' μ', Q' v sh' μ' → am_W C cc (pc + 3) L (v.toList ++ S) sh' μ' k n) : am_W C cc pc L (v4 :: v3 :: v2 :: v1 :: S) sh μ k n :=
  aw_cs (rest := S) hd hm hst hM rfl rfl hw hfr hlo ⟨hkc, hns⟩ kk
theorem aw_v5q {idx nL' d' : Nat} {y : MethodName} {cc' : ByteArray} {ret' : Option FieldType} {v1 v2 v3 v4 v5 : Value} {a ci N : Nat} {rs : List (Option Value)} {r0 : vw_C} {Q' : Option Value → List am_S → am_M → Prop} (hd : decode cc pc = .ok (.invokevirtual idx, 3)) (hm : am_ml C.2.1 idx y cc' nL' ret' 5) (hin : Cond.instanceMethod y ∈ am_TB) (hse : Cond.selects y.cls y y ∈ am_TB) (hM : am_MA C.1 y cc' nL' ret' d' 0 0 [.ref a, v1, v2, v3, v4, v5] sh μ Q') (hc : sh[a]? = some (ci, N, rs)) (h100 : ci < 100) (hcl2 : vwCl[ci]? = some r0) (hcn : r0.1 = y.cls) (hw : (S.map fun v => v.category).sum ≤ 8) (hfr : d' + 1 ≤ C.2.2.2.2.2.1.frames) (hlo : 100 * d' + 100 ≤ C.2.2.2.2.2.1.locals) (hkc : k ≤ C.2.2.2.2.2.1.cells) (hns : n ≤ C.2.2.2.2.2.1.slots) (kk : ∀ v sh' μ', Q' v sh' μ' → am_W C cc (pc + 3) L (v.toList ++ S) sh' μ' k n) : am_W C cc pc L (v5 :: v4 :: v3 :: v2 :: v1 :: .ref a :: S) sh μ k n :=
  aw_cv (rest := S) hd hm hin hse hM hc h100 hcl2 hcn rfl rfl hw hfr hlo ⟨hkc, hns⟩ kk
theorem aw_s5q {idx nL' d' : Nat} {y : MethodName} {cc' : ByteArray} {ret' : Option FieldType} {v1 v2 v3 v4 v5 : Value} {Q' : Option Value → List am_S → am_M → Prop} (hd : decode cc pc = .ok (.invokestatic idx, 3)) (hm : am_ml C.2.1 idx y cc' nL' ret' 5) (hst : Cond.static y ∈ am_TB) (hM : am_MA C.1 y cc' nL' ret' d' 0 0 [v1, v2, v3, v4, v5] sh μ Q') (hw : (S.map fun v => v.category).sum ≤ 8) (hfr : d' + 1 ≤ C.2.2.2.2.2.1.frames) (hlo : 100 * d' + 100 ≤ C.2.2.2.2.2.1.locals) (hkc : k ≤ C.2.2.2.2.2.1.cells) (hns : n ≤ C.2.2.2.2.2.1.slots) (kk : ∀ v sh' μ', Q' v sh' μ' → am_W C cc (pc + 3) L (v.toList ++ S) sh' μ' k n) : am_W C cc pc L (v5 :: v4 :: v3 :: v2 :: v1 :: S) sh μ k n :=
  aw_cs (rest := S) hd hm hst hM rfl rfl hw hfr hlo ⟨hkc, hns⟩ kk
end AE
end
section
/-! ===== numbers ===== -/
theorem z_le {n : Nat} (h : n < 2 ^ 31) : nI n ≤ 0 ↔ n = 0 := by rw [← nI_0, nI_leI h (by decide)]; omega
theorem z_lt {n : Nat} (h : n < 2 ^ 31) : nI n < 0 ↔ False := by rw [← nI_0, nI_ltI h (by decide)]; simp
theorem z_ge {n : Nat} (h : n < 2 ^ 31) : 0 ≤ nI n ↔ True := by rw [← nI_0, nI_leI (by decide) h]; simp
theorem z_gt {n : Nat} (h : n < 2 ^ 31) : 0 < nI n ↔ 0 < n := by rw [← nI_0, nI_ltI (by decide) h]
theorem z_eq {n : Nat} (h : n < 2 ^ 31) : nI n = 0 ↔ n = 0 := by rw [← nI_0, nI_eq h (by decide)]
/-! ===== what a sky is, by its numbers: 0 .. 3 winds, 4 sinks, 5 offices, 6 hour, 7 .. kinds, 12 .. lands, 17 .. heights, 22 .. files, 27 .. burnt ===== -/
abbrev pK : Type := Nat → Nat
def pBand (h : Nat) : Nat := if h < 6 then 0 else if h < 11 then 1 else if h < 16 then 2 else 3
def pLift (kind h : Nat) : Nat := if kind = 1 then 2 else if kind = 3 then 3 else if kind = 5 then (if 5 < h then 0 else 1) else 1
def pLifted (kind : Nat) : Nat → Nat → Nat
  | h, 0 => h
  | h, n + 1 => pLifted kind (min 20 (h + pLift kind h)) n
/-- the wind of a height, 2 more than the lands it carries -/
def pW (K : pK) (h : Nat) : Nat := if h = 0 then 2 else K (pBand h)
def pCar (K : pK) (land h : Nat) : Nat := min 9 (land + pW K h - 2)
def pHour (K : pK) : pK := fun j => if 17 ≤ j ∧ j < 17 + K 5 then K j - K 4 else if 12 ≤ j ∧ j < 12 + K 5 then pCar K (K j) (K (j + 5) - K 4) else if j = 6 then K 6 + 1 else K j
def pOK (K : pK) : Prop := K 5 ≤ 5 ∧ K 4 ≤ 3 ∧ (∀ b, b < 4 → K b ≤ 4) ∧ K 6 ≤ 999 ∧ ∀ o, o < K 5 → (1 ≤ K (7 + o) ∧ K (7 + o) ≤ 5) ∧ K (12 + o) ≤ 9 ∧ K (17 + o) ≤ 20 ∧ K (22 + o) ≤ 99
theorem pBand_lt (h : Nat) : pBand h < 4 := by unfold pBand; (repeat' split) <;> omega
theorem pn_sunk : ∀ h, h < 21 → ∀ s, s < 4 → (if nI 0 < nI h - nI s then nI h - nI s else nI 0) = nI (h - s) := by decide +kernel
theorem pn_moved : ∀ l, l < 10 → ∀ w, w < 5 → (if nI 0 < (if nI l + (nI w - nI 2) < nI 9 then nI l + (nI w - nI 2) else nI 9) then (if nI l + (nI w - nI 2) < nI 9 then nI l + (nI w - nI 2) else nI 9) else nI 0) = nI (min 9 (l + w - 2)) := by decide +kernel
theorem pn_still : nI 0 = nI 2 - nI 2 := by decide +kernel
theorem pn_lift : ∀ h, h < 21 → ∀ d, d < 4 → (if nI h + nI d < nI 20 then nI h + nI d else nI 20) = nI (min 20 (h + d)) := by decide +kernel
theorem pLift_lt (kind h : Nat) : pLift kind h < 4 := by unfold pLift; (repeat' split) <;> omega
/-- a sky of the class at a -/
def am_sky (sh : List am_S) (a : Nat) : Prop := sh[a]? = some (4, 9, [none, none, none, some (.ref (a + 1)), some (.ref (a + 2)), some (.ref (a + 3)), some (.ref (a + 4)), some (.ref (a + 5)), some (.ref (a + 6))]) ∧ sh[a + 1]? = some (100, 4, []) ∧ sh[a + 2]? = some (100, 5, []) ∧ sh[a + 3]? = some (100, 5, []) ∧ sh[a + 4]? = some (100, 5, []) ∧ sh[a + 5]? = some (100, 5, []) ∧ sh[a + 6]? = some (100, 5, [])
/-- its ints are those of K -/
def skyC (μ : am_M) (a : Nat) (K : pK) : Prop := μ a 0 = nI (K 5) ∧ μ a 1 = nI (K 4) ∧ μ a 2 = nI (K 6) ∧ (∀ b, b < 4 → μ (a + 1) b = nI (K b)) ∧ ∀ o, o < K 5 → μ (a + 2) o = nI (K (7 + o)) ∧ μ (a + 3) o = nI (K (12 + o)) ∧ μ (a + 4) o = nI (K (17 + o)) ∧ μ (a + 5) o = nI (K (22 + o)) ∧ μ (a + 6) o = nI (K (27 + o))
/-- nothing but the cells from a on, as many as n, has changed -/
def am_fr (μ μ' : am_M) (a n : Nat) : Prop := ∀ b, ¬ (a ≤ b ∧ b < a + n) → μ' b = μ b
end
section
set_option maxRecDepth 100000 in
set_option maxHeartbeats 4000000 in
theorem c_X5_bandOf {G : am_G} {sh : List am_S} {μ : am_M} (h : Nat) (hh : h < 2 ^ 31) : am_MA G yX5_bandOf cX5_bandOf 1 (some .int) 0 0 0 [.int (nI h)] sh μ (am_E (some (.int (nI (pBand h)))) sh μ) := by
  refine am_ofK (own := RX5) (nm := "bandOf") (L := [some (.int (nI h))]) rfl rfl (by decide +kernel) (Nat.le_of_ble_eq_true rfl) rfl ?_
  refine aw_iload_n dX5_bandOf_0 rfl ?_
  refine aw_bipush (v := nI 6) dX5_bandOf_1 rfl ?_
  refine aw_icmp_ge (tgt := 8) dX5_bandOf_3 (by decide) (fun c3 => ?_) (fun c3 => ?_)
  · rw [nI_leI (by omega) (by omega)] at c3
    refine aw_iload_n dX5_bandOf_8 rfl ?_
    refine aw_bipush (v := nI 11) dX5_bandOf_9 rfl ?_
    refine aw_icmp_ge (tgt := 16) dX5_bandOf_11 (by decide) (fun c11 => ?_) (fun c11 => ?_)
    · rw [nI_leI (by omega) (by omega)] at c11
      refine aw_iload_n dX5_bandOf_16 rfl ?_
      refine aw_bipush (v := nI 16) dX5_bandOf_17 rfl ?_
      refine aw_icmp_ge (tgt := 26) dX5_bandOf_19 (by decide) (fun c19 => ?_) (fun c19 => ?_)
      · rw [nI_leI (by omega) (by omega)] at c19
        refine aw_iconst (v := nI 3) dX5_bandOf_26 rfl ?_
        refine aw_iret dX5_bandOf_27 rfl rfl rfl rfl ?_
        refine ⟨congrArg (fun z => some (Value.int (nI z))) ?_, rfl, rfl⟩
        unfold pBand; (repeat' split) <;> omega
      · rw [nI_leI (by omega) (by omega)] at c19
        refine aw_iconst (v := nI 2) dX5_bandOf_22 rfl ?_
        refine aw_goto (tgt := 27) dX5_bandOf_23 (by decide) ?_
        refine aw_iret dX5_bandOf_27 rfl rfl rfl rfl ?_
        refine ⟨congrArg (fun z => some (Value.int (nI z))) ?_, rfl, rfl⟩
        unfold pBand; (repeat' split) <;> omega
    · rw [nI_leI (by omega) (by omega)] at c11
      refine aw_iconst (v := nI 1) dX5_bandOf_14 rfl ?_
      refine aw_iret dX5_bandOf_15 rfl rfl rfl rfl ?_
      refine ⟨congrArg (fun z => some (Value.int (nI z))) ?_, rfl, rfl⟩
      unfold pBand; (repeat' split) <;> omega
  · rw [nI_leI (by omega) (by omega)] at c3
    refine aw_iconst (v := nI 0) dX5_bandOf_6 rfl ?_
    refine aw_iret dX5_bandOf_7 rfl rfl rfl rfl ?_
    refine ⟨congrArg (fun z => some (Value.int (nI z))) ?_, rfl, rfl⟩
    unfold pBand; (repeat' split) <;> omega
set_option maxRecDepth 100000 in
set_option maxHeartbeats 4000000 in
theorem c_X5_liftOf {G : am_G} {sh : List am_S} {μ : am_M} (kind h : Nat) (h1 : 1 ≤ kind) (h5 : kind ≤ 5) (hh : h < 2 ^ 31) : am_MA G yX5_liftOf cX5_liftOf 2 (some .int) 0 0 0 [.int (nI kind), .int (nI h)] sh μ (am_E (some (.int (nI (pLift kind h)))) sh μ) := by
  refine am_ofK (own := RX5) (nm := "liftOf") (L := [some (.int (nI kind)), some (.int (nI h))]) rfl rfl (by decide +kernel) (Nat.le_of_ble_eq_true rfl) rfl ?_
  refine aw_iload_n dX5_liftOf_0 rfl ?_
  rcases (show kind = 1 ∨ kind = 2 ∨ kind = 3 ∨ kind = 4 ∨ kind = 5 by omega) with rfl | rfl | rfl | rfl | rfl
  · refine aw_tableIn (tgt := 36) dX5_liftOf_1 (by decide) (by decide) rfl (by decide) ?_
    refine aw_iconst (v := nI 2) dX5_liftOf_36 rfl ?_
    refine aw_iret dX5_liftOf_37 rfl rfl rfl rfl ?_
    refine ⟨congrArg (fun z => some (Value.int (nI z))) ?_, rfl, rfl⟩
    unfold pLift; (repeat' split) <;> omega
  · refine aw_tableIn (tgt := 51) dX5_liftOf_1 (by decide) (by decide) rfl (by decide) ?_
    refine aw_iconst (v := nI 1) dX5_liftOf_51 rfl ?_
    refine aw_iret dX5_liftOf_52 rfl rfl rfl rfl ?_
    refine ⟨congrArg (fun z => some (Value.int (nI z))) ?_, rfl, rfl⟩
    unfold pLift; (repeat' split) <;> omega
  · refine aw_tableIn (tgt := 38) dX5_liftOf_1 (by decide) (by decide) rfl (by decide) ?_
    refine aw_iconst (v := nI 3) dX5_liftOf_38 rfl ?_
    refine aw_iret dX5_liftOf_39 rfl rfl rfl rfl ?_
    refine ⟨congrArg (fun z => some (Value.int (nI z))) ?_, rfl, rfl⟩
    unfold pLift; (repeat' split) <;> omega
  · refine aw_tableIn (tgt := 51) dX5_liftOf_1 (by decide) (by decide) rfl (by decide) ?_
    refine aw_iconst (v := nI 1) dX5_liftOf_51 rfl ?_
    refine aw_iret dX5_liftOf_52 rfl rfl rfl rfl ?_
    refine ⟨congrArg (fun z => some (Value.int (nI z))) ?_, rfl, rfl⟩
    unfold pLift; (repeat' split) <;> omega
  · refine aw_tableIn (tgt := 40) dX5_liftOf_1 (by decide) (by decide) rfl (by decide) ?_
    refine aw_iload_n dX5_liftOf_40 rfl ?_
    refine aw_iconst (v := nI 5) dX5_liftOf_41 rfl ?_
    refine aw_icmp_le (tgt := 49) dX5_liftOf_42 (by decide) (fun c42 => ?_) (fun c42 => ?_)
    · rw [nI_leI (by omega) (by omega)] at c42
      refine aw_iconst (v := nI 1) dX5_liftOf_49 rfl ?_
      refine aw_iret dX5_liftOf_50 rfl rfl rfl rfl ?_
      refine ⟨congrArg (fun z => some (Value.int (nI z))) ?_, rfl, rfl⟩
      unfold pLift; (repeat' split) <;> omega
    · rw [nI_leI (by omega) (by omega)] at c42
      refine aw_iconst (v := nI 0) dX5_liftOf_45 rfl ?_
      refine aw_goto (tgt := 50) dX5_liftOf_46 (by decide) ?_
      refine aw_iret dX5_liftOf_50 rfl rfl rfl rfl ?_
      refine ⟨congrArg (fun z => some (Value.int (nI z))) ?_, rfl, rfl⟩
      unfold pLift; (repeat' split) <;> omega
set_option maxRecDepth 100000 in
set_option maxHeartbeats 4000000 in
theorem c_X5_moved {G : am_G} {sh : List am_S} {μ : am_M} (l w : Nat) (hl : l ≤ 9) (hw : w ≤ 4) {by_ : Int32} (e : by_ = nI w - nI 2) : am_MA G yX5_moved cX5_moved 2 (some .int) 1 0 0 [.int (nI l), .int by_] sh μ (am_E (some (.int (nI (min 9 (l + w - 2))))) sh μ) := by
  subst e
  refine am_ofK (own := RX5) (nm := "moved") (L := [some (.int (nI l)), some (.int (nI w - nI 2))]) rfl rfl (by decide +kernel) (Nat.le_of_ble_eq_true rfl) rfl ?_
  refine aw_iconst (v := nI 0) dX5_moved_0 rfl ?_
  refine aw_bipush (v := nI 9) dX5_moved_1 rfl ?_
  refine aw_iload_n dX5_moved_3 rfl ?_
  refine aw_iload_n dX5_moved_4 rfl ?_
  refine aw_iadd dX5_moved_5 ?_
  refine aw_min dX5_moved_6 lk_X5_70 st_min iw_J9 cw_min (Nat.le_of_ble_eq_true rfl) (Nat.le_of_ble_eq_true rfl) (Nat.le_of_ble_eq_true rfl) (Nat.le_of_ble_eq_true rfl) (Nat.le_of_ble_eq_true rfl) ?_
  refine aw_max dX5_moved_9 lk_X5_56 st_max iw_J9 cw_max (Nat.le_of_ble_eq_true rfl) (Nat.le_of_ble_eq_true rfl) (Nat.le_of_ble_eq_true rfl) (Nat.le_of_ble_eq_true rfl) (Nat.le_of_ble_eq_true rfl) ?_
  refine aw_iret dX5_moved_12 rfl rfl rfl rfl ?_
  exact ⟨congrArg (fun z => some (Value.int z)) (pn_moved l (by omega) w (by omega)), rfl, rfl⟩
set_option maxRecDepth 100000 in
set_option maxHeartbeats 4000000 in
theorem l_X5_lifted {G : am_G} {sh : List am_S} {μ : am_M} {kind h0 n0 : Nat} (h1 : 1 ≤ kind) (h5 : kind ≤ 5) (hn : n0 < 2 ^ 31) : ∀ (r h i : Nat), h ≤ 20 → i + r = n0 → pLifted kind h r = pLifted kind h0 n0 → am_W (am_K G RX5 "lifted" 5 (some .int) 2 0 0 (am_E (some (.int (nI (pLifted kind h0 n0)))) sh μ)) cX5_lifted 5 [some (.int (nI kind)), some (.int (nI h0)), some (.int (nI n0)), some (.int (nI h)), some (.int (nI i))] [] sh μ 0 0 := by
  intro r
  induction r with
  | zero =>
    intro h i hh hi e
    refine aw_iload dX5_lifted_5 rfl ?_
    refine aw_iload_n dX5_lifted_7 rfl ?_
    refine aw_icmp_ge (tgt := 30) dX5_lifted_8 (by decide) (fun c8 => ?_) (fun c8 => ?_)
    · refine aw_iload_n dX5_lifted_30 rfl ?_
      refine aw_iret dX5_lifted_31 rfl rfl rfl rfl ?_
      rw [← e]
      exact ⟨rfl, rfl, rfl⟩
    · exact absurd (nI_le (by omega) (by omega)) c8
  | succ r ih =>
    intro h i hh hi e
    refine aw_iload dX5_lifted_5 rfl ?_
    refine aw_iload_n dX5_lifted_7 rfl ?_
    refine aw_icmp_ge (tgt := 30) dX5_lifted_8 (by decide) (fun c8 => ?_) (fun c8 => ?_)
    · exact absurd c8 (nI_ge (by omega) (by omega))
    · refine aw_bipush (v := nI 20) dX5_lifted_11 rfl ?_
      refine aw_iload_n dX5_lifted_13 rfl ?_
      refine aw_iload_n dX5_lifted_14 rfl ?_
      refine aw_iload_n dX5_lifted_15 rfl ?_
      refine aw_s2i dX5_lifted_16 ml_X5_73 st_X5_liftOf (c_X5_liftOf kind h h1 h5 (by omega)) (Nat.le_of_ble_eq_true rfl) (Nat.le_of_ble_eq_true rfl) (Nat.le_of_ble_eq_true rfl) (Nat.le_of_ble_eq_true rfl) (Nat.le_of_ble_eq_true rfl) ?_
      refine aw_iadd dX5_lifted_19 ?_
      refine aw_min dX5_lifted_20 lk_X5_70 st_min iw_J9 cw_min (Nat.le_of_ble_eq_true rfl) (Nat.le_of_ble_eq_true rfl) (Nat.le_of_ble_eq_true rfl) (Nat.le_of_ble_eq_true rfl) (Nat.le_of_ble_eq_true rfl) ?_
      refine aw_top (pn_lift h (by omega) (pLift kind h) (pLift_lt kind h)) ?_
      refine aw_istore_n dX5_lifted_23 (Nat.le_of_ble_eq_true rfl) ?_
      refine aw_iinc (v := nI (i + 1)) dX5_lifted_24 rfl (nI_1 i) (Nat.le_of_ble_eq_true rfl) ?_
      refine aw_goto (tgt := 5) dX5_lifted_27 (by decide) ?_
      exact ih (min 20 (h + pLift kind h)) (i + 1) (by omega) (by omega) e
set_option maxRecDepth 100000 in
set_option maxHeartbeats 4000000 in
theorem c_X5_lifted {G : am_G} {sh : List am_S} {μ : am_M} (kind h n : Nat) (h1 : 1 ≤ kind) (h5 : kind ≤ 5) (hh : h ≤ 20) (hn : n < 2 ^ 31) : am_MA G yX5_lifted cX5_lifted 5 (some .int) 2 0 0 [.int (nI kind), .int (nI h), .int (nI n)] sh μ (am_E (some (.int (nI (pLifted kind h n)))) sh μ) := by
  refine am_ofK (own := RX5) (nm := "lifted") (L := [some (.int (nI kind)), some (.int (nI h)), some (.int (nI n)), none, none]) rfl rfl (by decide +kernel) (Nat.le_of_ble_eq_true rfl) rfl ?_
  refine aw_iload_n dX5_lifted_0 rfl ?_
  refine aw_istore_n dX5_lifted_1 (Nat.le_of_ble_eq_true rfl) ?_
  refine aw_iconst (v := nI 0) dX5_lifted_2 rfl ?_
  refine aw_istore dX5_lifted_3 (Nat.le_of_ble_eq_true rfl) ?_
  exact l_X5_lifted h1 h5 hn n h 0 hh (by omega) rfl
set_option maxRecDepth 100000 in
set_option maxHeartbeats 4000000 in
theorem c_X5_sunk {G : am_G} {sh : List am_S} {μ : am_M} (a : Nat) (hs : am_sky sh a) (K : pK) (hK : skyC μ a K) (ho : pOK K) (h : Nat) (hh : h ≤ 20) : am_MA G yX5_sunk cX5_sunk 2 (some .int) 1 0 0 [.ref a, .int (nI h)] sh μ (am_E (some (.int (nI (h - K 4)))) sh μ) := by
  obtain ⟨s0, s1, s2, s3, s4, s5, s6⟩ := id hs
  obtain ⟨k0, k1, k2, k3, k4⟩ := id hK
  refine am_ofK (own := RX5) (nm := "sunk") (L := [some (.ref a), some (.int (nI h))]) rfl rfl (by decide +kernel) (Nat.le_of_ble_eq_true rfl) rfl ?_
  refine aw_iconst (v := nI 0) dX5_sunk_0 rfl ?_
  refine aw_iload_n dX5_sunk_1 rfl ?_
  refine aw_aload_n dX5_sunk_2 rfl ?_
  refine aw_gi dX5_sunk_3 gf_X5_32 (by assumption) (by rfl) ?_
  refine aw_top k1 ?_
  refine aw_isub dX5_sunk_6 ?_
  refine aw_max dX5_sunk_7 lk_X5_56 st_max iw_J9 cw_max (Nat.le_of_ble_eq_true rfl) (Nat.le_of_ble_eq_true rfl) (Nat.le_of_ble_eq_true rfl) (Nat.le_of_ble_eq_true rfl) (Nat.le_of_ble_eq_true rfl) ?_
  refine aw_iret dX5_sunk_10 rfl rfl rfl rfl ?_
  exact ⟨congrArg (fun z => some (Value.int z)) (pn_sunk h (by omega) (K 4) (by have := ho.2.1; omega)), rfl, rfl⟩
set_option maxRecDepth 100000 in
set_option maxHeartbeats 4000000 in
theorem c_X5_driftAt {G : am_G} {sh : List am_S} {μ : am_M} (a : Nat) (hs : am_sky sh a) (K : pK) (hK : skyC μ a K) (ho : pOK K) (h : Nat) (hh : h ≤ 20) : am_MA G yX5_driftAt cX5_driftAt 2 (some .int) 1 0 0 [.ref a, .int (nI h)] sh μ (am_E (some (.int (nI (pW K h) - nI 2))) sh μ) := by
  obtain ⟨s0, s1, s2, s3, s4, s5, s6⟩ := id hs
  obtain ⟨k0, k1, k2, k3, k4⟩ := id hK
  refine am_ofK (own := RX5) (nm := "driftAt") (L := [some (.ref a), some (.int (nI h))]) rfl rfl (by decide +kernel) (Nat.le_of_ble_eq_true rfl) rfl ?_
  refine aw_iload_n dX5_driftAt_0 rfl ?_
  refine aw_if_le (tgt := 18) dX5_driftAt_1 (by decide) (fun c1 => ?_) (fun c1 => ?_)
  · rw [z_le (by omega)] at c1
    refine aw_iconst (v := nI 0) dX5_driftAt_18 rfl ?_
    refine aw_iret dX5_driftAt_19 rfl rfl rfl rfl ?_
    exact ⟨by rw [pW, if_pos c1, ← pn_still], rfl, rfl⟩
  · rw [z_le (by omega)] at c1
    refine aw_aload_n dX5_driftAt_4 rfl ?_
    refine aw_gr dX5_driftAt_5 gf_X5_9 (by assumption) (by rfl) ?_
    refine aw_iload_n dX5_driftAt_8 rfl ?_
    refine aw_s1i dX5_driftAt_9 ml_X5_67 st_X5_bandOf (c_X5_bandOf h (by omega)) (Nat.le_of_ble_eq_true rfl) (Nat.le_of_ble_eq_true rfl) (Nat.le_of_ble_eq_true rfl) (Nat.le_of_ble_eq_true rfl) (Nat.le_of_ble_eq_true rfl) ?_
    refine aw_iald dX5_driftAt_12 (by assumption) rfl (pBand_lt h) (by decide) ?_
    refine aw_top (k3 _ (pBand_lt h)) ?_
    refine aw_iconst (v := nI 2) dX5_driftAt_13 rfl ?_
    refine aw_isub dX5_driftAt_14 ?_
    refine aw_goto (tgt := 19) dX5_driftAt_15 (by decide) ?_
    refine aw_iret dX5_driftAt_19 rfl rfl rfl rfl ?_
    exact ⟨by rw [pW, if_neg c1], rfl, rfl⟩
set_option maxRecDepth 100000 in
set_option maxHeartbeats 4000000 in
theorem c_X5_carried {G : am_G} {sh : List am_S} {μ : am_M} (a : Nat) (hs : am_sky sh a) (K : pK) (hK : skyC μ a K) (ho : pOK K) (l h : Nat) (hl : l ≤ 9) (hh : h ≤ 20) : am_MA G yX5_carried cX5_carried 3 (some .int) 2 0 0 [.ref a, .int (nI l), .int (nI h)] sh μ (am_E (some (.int (nI (pCar K l h)))) sh μ) := by
  obtain ⟨s0, s1, s2, s3, s4, s5, s6⟩ := id hs
  obtain ⟨k0, k1, k2, k3, k4⟩ := id hK
  have hw : pW K h ≤ 4 := by unfold pW; split; omega; exact ho.2.2.1 _ (pBand_lt h)
  refine am_ofK (own := RX5) (nm := "carried") (L := [some (.ref a), some (.int (nI l)), some (.int (nI h))]) rfl rfl (by decide +kernel) (Nat.le_of_ble_eq_true rfl) rfl ?_
  refine aw_iload_n dX5_carried_0 rfl ?_
  refine aw_aload_n dX5_carried_1 rfl ?_
  refine aw_iload_n dX5_carried_2 rfl ?_
  refine aw_v1i dX5_carried_3 ml_X5_61 im_X5_driftAt se_X5_driftAt (c_X5_driftAt a hs K hK ho h hh) (by assumption) (by decide) rfl rfl (Nat.le_of_ble_eq_true rfl) (Nat.le_of_ble_eq_true rfl) (Nat.le_of_ble_eq_true rfl) (Nat.le_of_ble_eq_true rfl) (Nat.le_of_ble_eq_true rfl) ?_
  refine aw_s2i dX5_carried_6 ml_X5_64 st_X5_moved (c_X5_moved l (pW K h) hl hw rfl) (Nat.le_of_ble_eq_true rfl) (Nat.le_of_ble_eq_true rfl) (Nat.le_of_ble_eq_true rfl) (Nat.le_of_ble_eq_true rfl) (Nat.le_of_ble_eq_true rfl) ?_
  refine aw_iret dX5_carried_9 rfl rfl rfl rfl ?_
  exact ⟨rfl, rfl, rfl⟩
end
