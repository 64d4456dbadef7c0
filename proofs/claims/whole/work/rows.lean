section
-- ===== PART A: goes FIRST, ahead of the names: the tables' words, and 'selects' of the private methods out of them =====
/-- a private method of a class that the tables say can be made, by its rows of tables_1 -/
def lw_okq (q : MethodName × Nat) : Prop := (q.1.cls ≠ "java/lang/invoke/MethodHandle" ∧ q.1.cls ≠ "java/lang/invoke/VarHandle") ∧ Cond.instantiable q.1.cls q.2 ∈ tables_1 ∧ Cond.privateMethod q.1 ∈ tables_1 ∧ Cond.instanceMethod q.1 ∈ tables_1
theorem lw_p0 : lw_okq (⟨"PaperSky", "found", "(I)I"⟩, 10) := ⟨⟨by decide +kernel, by decide +kernel⟩, List.mem_of_getElem? (i := 15) (by decide +kernel), List.mem_of_getElem? (i := 232) (by decide +kernel), List.mem_of_getElem? (i := 233) (by decide +kernel)⟩
theorem lw_p1 : lw_okq (⟨"PaperSky", "foundNothing", "(I)I"⟩, 10) := ⟨⟨by decide +kernel, by decide +kernel⟩, List.mem_of_getElem? (i := 15) (by decide +kernel), List.mem_of_getElem? (i := 244) (by decide +kernel), List.mem_of_getElem? (i := 245) (by decide +kernel)⟩
theorem lw_p2 : lw_okq (⟨"PaperSky$Row", "cut", "(I)I"⟩, 4) := ⟨⟨by decide +kernel, by decide +kernel⟩, List.mem_of_getElem? (i := 24) (by decide +kernel), List.mem_of_getElem? (i := 264) (by decide +kernel), List.mem_of_getElem? (i := 265) (by decide +kernel)⟩
theorem lw_p3 : lw_okq (⟨"PaperSky$Tape", "readLaw", "(LPaperSky$Sky;)V"⟩, 4) := ⟨⟨by decide +kernel, by decide +kernel⟩, List.mem_of_getElem? (i := 48) (by decide +kernel), List.mem_of_getElem? (i := 301) (by decide +kernel), List.mem_of_getElem? (i := 302) (by decide +kernel)⟩
theorem lw_p4 : lw_okq (⟨"PaperSky$Tape", "takeByte", "(I)V"⟩, 4) := ⟨⟨by decide +kernel, by decide +kernel⟩, List.mem_of_getElem? (i := 48) (by decide +kernel), List.mem_of_getElem? (i := 305) (by decide +kernel), List.mem_of_getElem? (i := 306) (by decide +kernel)⟩
theorem lw_p5 : lw_okq (⟨"PaperSky$Tape", "takeNumber", "(I)I"⟩, 4) := ⟨⟨by decide +kernel, by decide +kernel⟩, List.mem_of_getElem? (i := 48) (by decide +kernel), List.mem_of_getElem? (i := 309) (by decide +kernel), List.mem_of_getElem? (i := 310) (by decide +kernel)⟩
theorem lw_p6 : lw_okq (⟨"PaperSky$Tape", "figuresHere", "()I"⟩, 4) := ⟨⟨by decide +kernel, by decide +kernel⟩, List.mem_of_getElem? (i := 48) (by decide +kernel), List.mem_of_getElem? (i := 313) (by decide +kernel), List.mem_of_getElem? (i := 314) (by decide +kernel)⟩
theorem lw_p7 : lw_okq (⟨"PaperSky$Tape", "readOffice", "(LPaperSky$Sky;)V"⟩, 4) := ⟨⟨by decide +kernel, by decide +kernel⟩, List.mem_of_getElem? (i := 48) (by decide +kernel), List.mem_of_getElem? (i := 320) (by decide +kernel), List.mem_of_getElem? (i := 321) (by decide +kernel)⟩
theorem lw_p8 : lw_okq (⟨"PaperSky$Tape", "takeSort", "(I)I"⟩, 4) := ⟨⟨by decide +kernel, by decide +kernel⟩, List.mem_of_getElem? (i := 48) (by decide +kernel), List.mem_of_getElem? (i := 324) (by decide +kernel), List.mem_of_getElem? (i := 325) (by decide +kernel)⟩
theorem lw_p9 : lw_okq (⟨"PaperSky", "noSky", "()Z"⟩, 10) := ⟨⟨by decide +kernel, by decide +kernel⟩, List.mem_of_getElem? (i := 15) (by decide +kernel), List.mem_of_getElem? (i := 363) (by decide +kernel), List.mem_of_getElem? (i := 364) (by decide +kernel)⟩
theorem lw_p10 : lw_okq (⟨"PaperSky", "isOffice", "(I)Z"⟩, 10) := ⟨⟨by decide +kernel, by decide +kernel⟩, List.mem_of_getElem? (i := 15) (by decide +kernel), List.mem_of_getElem? (i := 415) (by decide +kernel), List.mem_of_getElem? (i := 416) (by decide +kernel)⟩
theorem lw_p11 : lw_okq (⟨"PaperSky$Foretold", "spreadAll", "(I[I[I)V"⟩, 5) := ⟨⟨by decide +kernel, by decide +kernel⟩, List.mem_of_getElem? (i := 143) (by decide +kernel), List.mem_of_getElem? (i := 510) (by decide +kernel), List.mem_of_getElem? (i := 511) (by decide +kernel)⟩
theorem lw_p12 : lw_okq (⟨"PaperSky$Foretold", "spread", "(IIII[I)V"⟩, 5) := ⟨⟨by decide +kernel, by decide +kernel⟩, List.mem_of_getElem? (i := 143) (by decide +kernel), List.mem_of_getElem? (i := 514) (by decide +kernel), List.mem_of_getElem? (i := 515) (by decide +kernel)⟩
theorem lw_p13 : lw_okq (⟨"PaperSky$Foretold", "reads", "(II)Z"⟩, 5) := ⟨⟨by decide +kernel, by decide +kernel⟩, List.mem_of_getElem? (i := 143) (by decide +kernel), List.mem_of_getElem? (i := 541) (by decide +kernel), List.mem_of_getElem? (i := 542) (by decide +kernel)⟩
theorem lw_p14 : lw_okq (⟨"PaperSky$Foretold", "comesSo", "(I[III)Z"⟩, 5) := ⟨⟨by decide +kernel, by decide +kernel⟩, List.mem_of_getElem? (i := 143) (by decide +kernel), List.mem_of_getElem? (i := 562) (by decide +kernel), List.mem_of_getElem? (i := 563) (by decide +kernel)⟩
theorem lw_p15 : lw_okq (⟨"PaperSky$Foretold", "landIfTurned", "(III)I"⟩, 5) := ⟨⟨by decide +kernel, by decide +kernel⟩, List.mem_of_getElem? (i := 143) (by decide +kernel), List.mem_of_getElem? (i := 600) (by decide +kernel), List.mem_of_getElem? (i := 601) (by decide +kernel)⟩
def lw_privs_1 : List (MethodName × Nat) := [(⟨"PaperSky", "found", "(I)I"⟩, 10), (⟨"PaperSky", "foundNothing", "(I)I"⟩, 10), (⟨"PaperSky$Row", "cut", "(I)I"⟩, 4), (⟨"PaperSky$Tape", "readLaw", "(LPaperSky$Sky;)V"⟩, 4), (⟨"PaperSky$Tape", "takeByte", "(I)V"⟩, 4), (⟨"PaperSky$Tape", "takeNumber", "(I)I"⟩, 4), (⟨"PaperSky$Tape", "figuresHere", "()I"⟩, 4), (⟨"PaperSky$Tape", "readOffice", "(LPaperSky$Sky;)V"⟩, 4), (⟨"PaperSky$Tape", "takeSort", "(I)I"⟩, 4), (⟨"PaperSky", "noSky", "()Z"⟩, 10), (⟨"PaperSky", "isOffice", "(I)Z"⟩, 10), (⟨"PaperSky$Foretold", "spreadAll", "(I[I[I)V"⟩, 5), (⟨"PaperSky$Foretold", "spread", "(IIII[I)V"⟩, 5), (⟨"PaperSky$Foretold", "reads", "(II)Z"⟩, 5), (⟨"PaperSky$Foretold", "comesSo", "(I[III)Z"⟩, 5), (⟨"PaperSky$Foretold", "landIfTurned", "(III)I"⟩, 5)]
theorem lw_r1 : ∀ q ∈ lw_privs_1, lw_okq q := List.forall_mem_cons.mpr ⟨lw_p0, List.forall_mem_cons.mpr ⟨lw_p1, List.forall_mem_cons.mpr ⟨lw_p2, List.forall_mem_cons.mpr ⟨lw_p3, List.forall_mem_cons.mpr ⟨lw_p4, List.forall_mem_cons.mpr ⟨lw_p5, List.forall_mem_cons.mpr ⟨lw_p6, List.forall_mem_cons.mpr ⟨lw_p7, List.forall_mem_cons.mpr ⟨lw_p8, List.forall_mem_cons.mpr ⟨lw_p9, List.forall_mem_cons.mpr ⟨lw_p10, List.forall_mem_cons.mpr ⟨lw_p11, List.forall_mem_cons.mpr ⟨lw_p12, List.forall_mem_cons.mpr ⟨lw_p13, List.forall_mem_cons.mpr ⟨lw_p14, List.forall_mem_cons.mpr ⟨lw_p15, fun _ h => absurd h List.not_mem_nil⟩⟩⟩⟩⟩⟩⟩⟩⟩⟩⟩⟩⟩⟩⟩⟩
theorem lw_p16 : lw_okq (⟨"PaperSky$Asks", "bodyFor", "(II)I"⟩, 3) := ⟨⟨by decide +kernel, by decide +kernel⟩, List.mem_of_getElem? (i := 172) (by decide +kernel), List.mem_of_getElem? (i := 661) (by decide +kernel), List.mem_of_getElem? (i := 662) (by decide +kernel)⟩
theorem lw_p17 : lw_okq (⟨"PaperSky$Asks", "give", "(III)I"⟩, 3) := ⟨⟨by decide +kernel, by decide +kernel⟩, List.mem_of_getElem? (i := 172) (by decide +kernel), List.mem_of_getElem? (i := 673) (by decide +kernel), List.mem_of_getElem? (i := 674) (by decide +kernel)⟩
theorem lw_p18 : lw_okq (⟨"PaperSky$Asks", "leave", "(I)V"⟩, 3) := ⟨⟨by decide +kernel, by decide +kernel⟩, List.mem_of_getElem? (i := 172) (by decide +kernel), List.mem_of_getElem? (i := 677) (by decide +kernel), List.mem_of_getElem? (i := 678) (by decide +kernel)⟩
theorem lw_p19 : lw_okq (⟨"PaperSky", "rowsThatAre", "()I"⟩, 10) := ⟨⟨by decide +kernel, by decide +kernel⟩, List.mem_of_getElem? (i := 15) (by decide +kernel), List.mem_of_getElem? (i := 689) (by decide +kernel), List.mem_of_getElem? (i := 690) (by decide +kernel)⟩
theorem lw_p20 : lw_okq (⟨"PaperSkyModel", "found", "(I)I"⟩, 24) := ⟨⟨by decide +kernel, by decide +kernel⟩, List.mem_of_getElem? (i := 701) (by decide +kernel), List.mem_of_getElem? (i := 794) (by decide +kernel), List.mem_of_getElem? (i := 795) (by decide +kernel)⟩
theorem lw_p21 : lw_okq (⟨"PaperSkyModel", "well", "(I)I"⟩, 24) := ⟨⟨by decide +kernel, by decide +kernel⟩, List.mem_of_getElem? (i := 701) (by decide +kernel), List.mem_of_getElem? (i := 799) (by decide +kernel), List.mem_of_getElem? (i := 800) (by decide +kernel)⟩
theorem lw_p22 : lw_okq (⟨"PaperSkyModel", "reads", "()Z"⟩, 24) := ⟨⟨by decide +kernel, by decide +kernel⟩, List.mem_of_getElem? (i := 701) (by decide +kernel), List.mem_of_getElem? (i := 825) (by decide +kernel), List.mem_of_getElem? (i := 826) (by decide +kernel)⟩
theorem lw_p23 : lw_okq (⟨"PaperSkyModel", "readsLaw", "()Z"⟩, 24) := ⟨⟨by decide +kernel, by decide +kernel⟩, List.mem_of_getElem? (i := 701) (by decide +kernel), List.mem_of_getElem? (i := 829) (by decide +kernel), List.mem_of_getElem? (i := 830) (by decide +kernel)⟩
theorem lw_p24 : lw_okq (⟨"PaperSkyModel", "next", "()V"⟩, 24) := ⟨⟨by decide +kernel, by decide +kernel⟩, List.mem_of_getElem? (i := 701) (by decide +kernel), List.mem_of_getElem? (i := 833) (by decide +kernel), List.mem_of_getElem? (i := 834) (by decide +kernel)⟩
theorem lw_p25 : lw_okq (⟨"PaperSkyModel", "fails", "(I)Z"⟩, 24) := ⟨⟨by decide +kernel, by decide +kernel⟩, List.mem_of_getElem? (i := 701) (by decide +kernel), List.mem_of_getElem? (i := 844) (by decide +kernel), List.mem_of_getElem? (i := 845) (by decide +kernel)⟩
theorem lw_p26 : lw_okq (⟨"PaperSkyModel", "number", "(II)Z"⟩, 24) := ⟨⟨by decide +kernel, by decide +kernel⟩, List.mem_of_getElem? (i := 701) (by decide +kernel), List.mem_of_getElem? (i := 848) (by decide +kernel), List.mem_of_getElem? (i := 849) (by decide +kernel)⟩
theorem lw_p27 : lw_okq (⟨"PaperSkyModel", "sign", "(I)Z"⟩, 24) := ⟨⟨by decide +kernel, by decide +kernel⟩, List.mem_of_getElem? (i := 701) (by decide +kernel), List.mem_of_getElem? (i := 852) (by decide +kernel), List.mem_of_getElem? (i := 853) (by decide +kernel)⟩
theorem lw_p28 : lw_okq (⟨"PaperSkyModel", "readsOffice", "()Z"⟩, 24) := ⟨⟨by decide +kernel, by decide +kernel⟩, List.mem_of_getElem? (i := 701) (by decide +kernel), List.mem_of_getElem? (i := 856) (by decide +kernel), List.mem_of_getElem? (i := 857) (by decide +kernel)⟩
theorem lw_p29 : lw_okq (⟨"PaperSkyModel", "remember", "()V"⟩, 24) := ⟨⟨by decide +kernel, by decide +kernel⟩, List.mem_of_getElem? (i := 701) (by decide +kernel), List.mem_of_getElem? (i := 881) (by decide +kernel), List.mem_of_getElem? (i := 882) (by decide +kernel)⟩
theorem lw_p30 : lw_okq (⟨"PaperSkyModel", "isOffice", "(I)Z"⟩, 24) := ⟨⟨by decide +kernel, by decide +kernel⟩, List.mem_of_getElem? (i := 701) (by decide +kernel), List.mem_of_getElem? (i := 907) (by decide +kernel), List.mem_of_getElem? (i := 908) (by decide +kernel)⟩
theorem lw_p31 : lw_okq (⟨"PaperSkyModel", "goAside", "(I)V"⟩, 24) := ⟨⟨by decide +kernel, by decide +kernel⟩, List.mem_of_getElem? (i := 701) (by decide +kernel), List.mem_of_getElem? (i := 955) (by decide +kernel), List.mem_of_getElem? (i := 956) (by decide +kernel)⟩
def lw_privs_2 : List (MethodName × Nat) := [(⟨"PaperSky$Asks", "bodyFor", "(II)I"⟩, 3), (⟨"PaperSky$Asks", "give", "(III)I"⟩, 3), (⟨"PaperSky$Asks", "leave", "(I)V"⟩, 3), (⟨"PaperSky", "rowsThatAre", "()I"⟩, 10), (⟨"PaperSkyModel", "found", "(I)I"⟩, 24), (⟨"PaperSkyModel", "well", "(I)I"⟩, 24), (⟨"PaperSkyModel", "reads", "()Z"⟩, 24), (⟨"PaperSkyModel", "readsLaw", "()Z"⟩, 24), (⟨"PaperSkyModel", "next", "()V"⟩, 24), (⟨"PaperSkyModel", "fails", "(I)Z"⟩, 24), (⟨"PaperSkyModel", "number", "(II)Z"⟩, 24), (⟨"PaperSkyModel", "sign", "(I)Z"⟩, 24), (⟨"PaperSkyModel", "readsOffice", "()Z"⟩, 24), (⟨"PaperSkyModel", "remember", "()V"⟩, 24), (⟨"PaperSkyModel", "isOffice", "(I)Z"⟩, 24), (⟨"PaperSkyModel", "goAside", "(I)V"⟩, 24)]
theorem lw_r2 : ∀ q ∈ lw_privs_2, lw_okq q := List.forall_mem_cons.mpr ⟨lw_p16, List.forall_mem_cons.mpr ⟨lw_p17, List.forall_mem_cons.mpr ⟨lw_p18, List.forall_mem_cons.mpr ⟨lw_p19, List.forall_mem_cons.mpr ⟨lw_p20, List.forall_mem_cons.mpr ⟨lw_p21, List.forall_mem_cons.mpr ⟨lw_p22, List.forall_mem_cons.mpr ⟨lw_p23, List.forall_mem_cons.mpr ⟨lw_p24, List.forall_mem_cons.mpr ⟨lw_p25, List.forall_mem_cons.mpr ⟨lw_p26, List.forall_mem_cons.mpr ⟨lw_p27, List.forall_mem_cons.mpr ⟨lw_p28, List.forall_mem_cons.mpr ⟨lw_p29, List.forall_mem_cons.mpr ⟨lw_p30, List.forall_mem_cons.mpr ⟨lw_p31, fun _ h => absurd h List.not_mem_nil⟩⟩⟩⟩⟩⟩⟩⟩⟩⟩⟩⟩⟩⟩⟩⟩
theorem lw_p32 : lw_okq (⟨"PaperSkyModel", "layFewest", "(IIII)V"⟩, 24) := ⟨⟨by decide +kernel, by decide +kernel⟩, List.mem_of_getElem? (i := 701) (by decide +kernel), List.mem_of_getElem? (i := 977) (by decide +kernel), List.mem_of_getElem? (i := 978) (by decide +kernel)⟩
theorem lw_p33 : lw_okq (⟨"PaperSkyModel", "fewestBy", "(IIIII)I"⟩, 24) := ⟨⟨by decide +kernel, by decide +kernel⟩, List.mem_of_getElem? (i := 701) (by decide +kernel), List.mem_of_getElem? (i := 982) (by decide +kernel), List.mem_of_getElem? (i := 983) (by decide +kernel)⟩
theorem lw_p34 : lw_okq (⟨"PaperSkyModel", "lies", "(III)I"⟩, 24) := ⟨⟨by decide +kernel, by decide +kernel⟩, List.mem_of_getElem? (i := 701) (by decide +kernel), List.mem_of_getElem? (i := 994) (by decide +kernel), List.mem_of_getElem? (i := 995) (by decide +kernel)⟩
theorem lw_p35 : lw_okq (⟨"PaperSkyModel", "comesSo", "(IIII)Z"⟩, 24) := ⟨⟨by decide +kernel, by decide +kernel⟩, List.mem_of_getElem? (i := 701) (by decide +kernel), List.mem_of_getElem? (i := 1003) (by decide +kernel), List.mem_of_getElem? (i := 1004) (by decide +kernel)⟩
theorem lw_p36 : lw_okq (⟨"PaperSkyModel", "lastsWith", "(II)I"⟩, 24) := ⟨⟨by decide +kernel, by decide +kernel⟩, List.mem_of_getElem? (i := 701) (by decide +kernel), List.mem_of_getElem? (i := 1019) (by decide +kernel), List.mem_of_getElem? (i := 1020) (by decide +kernel)⟩
theorem lw_p37 : lw_okq (⟨"PaperSkyModel", "mark", "(I)I"⟩, 24) := ⟨⟨by decide +kernel, by decide +kernel⟩, List.mem_of_getElem? (i := 701) (by decide +kernel), List.mem_of_getElem? (i := 1064) (by decide +kernel), List.mem_of_getElem? (i := 1065) (by decide +kernel)⟩
theorem lw_p38 : lw_okq (⟨"PaperSkyModel", "leave", "(J)V"⟩, 24) := ⟨⟨by decide +kernel, by decide +kernel⟩, List.mem_of_getElem? (i := 701) (by decide +kernel), List.mem_of_getElem? (i := 1071) (by decide +kernel), List.mem_of_getElem? (i := 1072) (by decide +kernel)⟩
theorem lw_p39 : lw_okq (⟨"PaperSkyModel", "sizeOf", "(I)I"⟩, 24) := ⟨⟨by decide +kernel, by decide +kernel⟩, List.mem_of_getElem? (i := 701) (by decide +kernel), List.mem_of_getElem? (i := 1078) (by decide +kernel), List.mem_of_getElem? (i := 1079) (by decide +kernel)⟩
def lw_privs_3 : List (MethodName × Nat) := [(⟨"PaperSkyModel", "layFewest", "(IIII)V"⟩, 24), (⟨"PaperSkyModel", "fewestBy", "(IIIII)I"⟩, 24), (⟨"PaperSkyModel", "lies", "(III)I"⟩, 24), (⟨"PaperSkyModel", "comesSo", "(IIII)Z"⟩, 24), (⟨"PaperSkyModel", "lastsWith", "(II)I"⟩, 24), (⟨"PaperSkyModel", "mark", "(I)I"⟩, 24), (⟨"PaperSkyModel", "leave", "(J)V"⟩, 24), (⟨"PaperSkyModel", "sizeOf", "(I)I"⟩, 24)]
theorem lw_r3 : ∀ q ∈ lw_privs_3, lw_okq q := List.forall_mem_cons.mpr ⟨lw_p32, List.forall_mem_cons.mpr ⟨lw_p33, List.forall_mem_cons.mpr ⟨lw_p34, List.forall_mem_cons.mpr ⟨lw_p35, List.forall_mem_cons.mpr ⟨lw_p36, List.forall_mem_cons.mpr ⟨lw_p37, List.forall_mem_cons.mpr ⟨lw_p38, List.forall_mem_cons.mpr ⟨lw_p39, fun _ h => absurd h List.not_mem_nil⟩⟩⟩⟩⟩⟩⟩⟩
def lw_privs : List (MethodName × Nat) := lw_privs_1 ++ (lw_privs_2 ++ (lw_privs_3))
def lw_tbl : List Cond := k2_sels lw_privs ++ tables_1
theorem lw_privs_ok : ∀ q ∈ lw_privs, lw_okq q := by
  show ∀ q ∈ lw_privs_1 ++ (lw_privs_2 ++ (lw_privs_3)), lw_okq q
  exact List.forall_mem_append.mpr ⟨lw_r1, List.forall_mem_append.mpr ⟨lw_r2, lw_r3⟩⟩
end
section
def RX0 : String := "PaperSky$Acts"
def TX0 : u_T := fun k => match k with
  | 0 => ("PaperSky$Acts", "kept", "I", false)
  | 1 => ("PaperSky$Acts", "latest", "I", false)
  | _ => ("PaperSky$Acts", "before", "[LPaperSky$Sky;", true)
def tyX0 : Nat → FieldType := fun k => match k with
  | 0 => .int
  | 1 => .int
  | _ => .array (.object "PaperSky$Sky")
abbrev wsX00 : List Cond := u_ws RX0 TX0 3
theorem nmX0 : ∀ a, a < 3 → ∀ b, b < 3 → a ≠ b → (TX0 a).2.1 ≠ (TX0 b).2.1 := by decide +kernel
theorem tyX0_ok : ∀ k, k < 3 → parseFieldDescriptor (TX0 k).2.2.1 = some (tyX0 k) := by decide +kernel
abbrev cX0_init : ByteArray := prog_2_method_1_code
def yX0_init : MethodName := ⟨RX0, "<init>", "()V"⟩
abbrev cX0_forget : ByteArray := prog_2_method_2_code
def yX0_forget : MethodName := ⟨RX0, "forget", "()V"⟩
abbrev cX0_keep : ByteArray := prog_2_method_3_code
def yX0_keep : MethodName := ⟨RX0, "keep", "(LPaperSky$Sky;)V"⟩
abbrev cX0_takeBack : ByteArray := prog_2_method_4_code
def yX0_takeBack : MethodName := ⟨RX0, "takeBack", "(LPaperSky$Sky;)I"⟩
def RX1 : String := "PaperSky$Asks"
def TX1 : u_T := fun k => match k with
  | 0 => ("PaperSky$Asks", "now", "LPaperSky$Sky;", true)
  | 1 => ("PaperSky$Asks", "numbers", "[I", true)
  | _ => ("PaperSky$Asks", "left", "I", false)
def tyX1 : Nat → FieldType := fun k => match k with
  | 0 => .object "PaperSky$Sky"
  | 1 => .array .int
  | _ => .int
abbrev wsX10 : List Cond := u_ws RX1 TX1 3
theorem nmX1 : ∀ a, a < 3 → ∀ b, b < 3 → a ≠ b → (TX1 a).2.1 ≠ (TX1 b).2.1 := by decide +kernel
theorem tyX1_ok : ∀ k, k < 3 → parseFieldDescriptor (TX1 k).2.2.1 = some (tyX1 k) := by decide +kernel
abbrev cX1_init : ByteArray := prog_3_method_1_code
def yX1_init : MethodName := ⟨RX1, "<init>", "(LPaperSky$Sky;)V"⟩
abbrev cX1_begin : ByteArray := prog_3_method_2_code
def yX1_begin : MethodName := ⟨RX1, "begin", "(II)I"⟩
abbrev cX1_bodyFor : ByteArray := prog_3_method_3_code
def yX1_bodyFor : MethodName := ⟨RX1, "bodyFor", "(II)I"⟩
abbrev cX1_toldBody : ByteArray := prog_3_method_4_code
def yX1_toldBody : MethodName := ⟨RX1, "toldBody", "(II)I"⟩
abbrev cX1_give : ByteArray := prog_3_method_5_code
def yX1_give : MethodName := ⟨RX1, "give", "(III)I"⟩
abbrev cX1_leave : ByteArray := prog_3_method_6_code
def yX1_leave : MethodName := ⟨RX1, "leave", "(I)V"⟩
def RX2 : String := "PaperSky$Foretold"
def TX2 : u_T := fun k => match k with
  | 0 => ("PaperSky$Foretold", "now", "LPaperSky$Sky;", true)
  | 1 => ("PaperSky$Foretold", "later", "LPaperSky$Sky;", true)
  | 2 => ("PaperSky$Foretold", "firstWay", "[I", true)
  | 3 => ("PaperSky$Foretold", "stays", "[I", true)
  | _ => ("PaperSky$Foretold", "plans", "[[I", true)
def tyX2 : Nat → FieldType := fun k => match k with
  | 0 => .object "PaperSky$Sky"
  | 1 => .object "PaperSky$Sky"
  | 2 => .array .int
  | 3 => .array .int
  | _ => .array (.array .int)
abbrev wsX20 : List Cond := u_ws RX2 TX2 5
theorem nmX2 : ∀ a, a < 5 → ∀ b, b < 5 → a ≠ b → (TX2 a).2.1 ≠ (TX2 b).2.1 := by decide +kernel
theorem tyX2_ok : ∀ k, k < 5 → parseFieldDescriptor (TX2 k).2.2.1 = some (tyX2 k) := by decide +kernel
abbrev cX2_init : ByteArray := prog_4_method_1_code
def yX2_init : MethodName := ⟨RX2, "<init>", "(LPaperSky$Sky;)V"⟩
abbrev cX2_landBehind : ByteArray := prog_4_method_2_code
def yX2_landBehind : MethodName := ⟨RX2, "landBehind", "(II)I"⟩
abbrev cX2_heightBehind : ByteArray := prog_4_method_3_code
def yX2_heightBehind : MethodName := ⟨RX2, "heightBehind", "(II)I"⟩
abbrev cX2_hoursToGround : ByteArray := prog_4_method_4_code
def yX2_hoursToGround : MethodName := ⟨RX2, "hoursToGround", "(I)I"⟩
abbrev cX2_hoursToMeeting : ByteArray := prog_4_method_5_code
def yX2_hoursToMeeting : MethodName := ⟨RX2, "hoursToMeeting", "(II)I"⟩
abbrev cX2_officesBehind : ByteArray := prog_4_method_6_code
def yX2_officesBehind : MethodName := ⟨RX2, "officesBehind", "(II)I"⟩
abbrev cX2_fewestPlan : ByteArray := prog_4_method_7_code
def yX2_fewestPlan : MethodName := ⟨RX2, "fewestPlan", "(IIII)I"⟩
abbrev cX2_spreadAll : ByteArray := prog_4_method_8_code
def yX2_spreadAll : MethodName := ⟨RX2, "spreadAll", "(I[I[I)V"⟩
abbrev cX2_spread : ByteArray := prog_4_method_9_code
def yX2_spread : MethodName := ⟨RX2, "spread", "(IIII[I)V"⟩
abbrev cX2_longer : ByteArray := prog_4_method_10_code
def yX2_longer : MethodName := ⟨RX2, "longer", "(II)I"⟩
abbrev cX2_sheetsOf : ByteArray := prog_4_method_11_code
def yX2_sheetsOf : MethodName := ⟨RX2, "sheetsOf", "(I)I"⟩
abbrev cX2_sheetsAhead : ByteArray := prog_4_method_12_code
def yX2_sheetsAhead : MethodName := ⟨RX2, "sheetsAhead", "(III)I"⟩
abbrev cX2_hoursToPass : ByteArray := prog_4_method_13_code
def yX2_hoursToPass : MethodName := ⟨RX2, "hoursToPass", "(I[III)I"⟩
abbrev cX2_reads : ByteArray := prog_4_method_14_code
def yX2_reads : MethodName := ⟨RX2, "reads", "(II)Z"⟩
abbrev cX2_waysToBurn : ByteArray := prog_4_method_15_code
def yX2_waysToBurn : MethodName := ⟨RX2, "waysToBurn", "(I[III)I"⟩
abbrev cX2_kindsThatFit : ByteArray := prog_4_method_16_code
def yX2_kindsThatFit : MethodName := ⟨RX2, "kindsThatFit", "(I[IIII)I"⟩
abbrev cX2_comesSo : ByteArray := prog_4_method_17_code
def yX2_comesSo : MethodName := ⟨RX2, "comesSo", "(I[III)Z"⟩
abbrev cX2_landRuled : ByteArray := prog_4_method_18_code
def yX2_landRuled : MethodName := ⟨RX2, "landRuled", "(I)I"⟩
abbrev cX2_hoursUp : ByteArray := prog_4_method_19_code
def yX2_hoursUp : MethodName := ⟨RX2, "hoursUp", "(III)I"⟩
abbrev cX2_fewestFiles : ByteArray := prog_4_method_20_code
def yX2_fewestFiles : MethodName := ⟨RX2, "fewestFiles", "(II)I"⟩
abbrev cX2_casesInLand : ByteArray := prog_4_method_21_code
def yX2_casesInLand : MethodName := ⟨RX2, "casesInLand", "(IIII)I"⟩
abbrev cX2_landIfTurned : ByteArray := prog_4_method_22_code
def yX2_landIfTurned : MethodName := ⟨RX2, "landIfTurned", "(III)I"⟩
abbrev cX2_casesOf : ByteArray := prog_4_method_23_code
def yX2_casesOf : MethodName := ⟨RX2, "casesOf", "(II)I"⟩
abbrev cX2_commonDivisor : ByteArray := prog_4_method_24_code
def yX2_commonDivisor : MethodName := ⟨RX2, "commonDivisor", "(II)I"⟩
abbrev cX2_sheetsByDraws : ByteArray := prog_4_method_25_code
def yX2_sheetsByDraws : MethodName := ⟨RX2, "sheetsByDraws", "(II)I"⟩
def RX3 : String := "PaperSky$Kinds"
def TX3 : u_T := fun k => match k with
  | _ => ("", "", "", false)
def tyX3 : Nat → FieldType := fun k => match k with
  | _ => .int
abbrev wsX30 : List Cond := u_ws RX3 TX3 0
theorem nmX3 : ∀ a, a < 0 → ∀ b, b < 0 → a ≠ b → (TX3 a).2.1 ≠ (TX3 b).2.1 := by decide +kernel
theorem tyX3_ok : ∀ k, k < 0 → parseFieldDescriptor (TX3 k).2.2.1 = some (tyX3 k) := by decide +kernel
abbrev cX3_ofLetter : ByteArray := prog_5_method_2_code
def yX3_ofLetter : MethodName := ⟨RX3, "ofLetter", "(I)I"⟩
abbrev cX3_nearest : ByteArray := prog_5_method_3_code
def yX3_nearest : MethodName := ⟨RX3, "nearest", "(I)I"⟩
abbrev cX3_isSuch : ByteArray := prog_5_method_4_code
def yX3_isSuch : MethodName := ⟨RX3, "isSuch", "(II)Z"⟩
def RX4 : String := "PaperSky$Row"
def TX4 : u_T := fun k => match k with
  | 0 => ("PaperSky$Row", "missing", "Z", false)
  | 1 => ("PaperSky$Row", "lane", "I", false)
  | 2 => ("PaperSky$Row", "length", "I", false)
  | _ => ("PaperSky$Row", "items", "[I", true)
def tyX4 : Nat → FieldType := fun k => match k with
  | 0 => .boolean
  | 1 => .int
  | 2 => .int
  | _ => .array .int
abbrev wsX40 : List Cond := u_ws RX4 TX4 4
theorem nmX4 : ∀ a, a < 4 → ∀ b, b < 4 → a ≠ b → (TX4 a).2.1 ≠ (TX4 b).2.1 := by decide +kernel
theorem tyX4_ok : ∀ k, k < 4 → parseFieldDescriptor (TX4 k).2.2.1 = some (tyX4 k) := by decide +kernel
abbrev cX4_init : ByteArray := prog_6_method_1_code
def yX4_init : MethodName := ⟨RX4, "<init>", "()V"⟩
abbrev cX4_begin : ByteArray := prog_6_method_2_code
def yX4_begin : MethodName := ⟨RX4, "begin", "(II)V"⟩
abbrev cX4_findingOf : ByteArray := prog_6_method_3_code
def yX4_findingOf : MethodName := ⟨RX4, "findingOf", "(II)I"⟩
abbrev cX4_spans : ByteArray := prog_6_method_4_code
def yX4_spans : MethodName := ⟨RX4, "spans", "(II)Z"⟩
abbrev cX4_put : ByteArray := prog_6_method_5_code
def yX4_put : MethodName := ⟨RX4, "put", "(II)I"⟩
abbrev cX4_cut : ByteArray := prog_6_method_6_code
def yX4_cut : MethodName := ⟨RX4, "cut", "(I)I"⟩
def RX5 : String := "PaperSky$Sky"
def TX5 : u_T := fun k => match k with
  | 0 => ("PaperSky$Sky", "offices", "I", false)
  | 1 => ("PaperSky$Sky", "sinks", "I", false)
  | 2 => ("PaperSky$Sky", "hour", "I", false)
  | 3 => ("PaperSky$Sky", "winds", "[I", true)
  | 4 => ("PaperSky$Sky", "kinds", "[I", true)
  | 5 => ("PaperSky$Sky", "lands", "[I", true)
  | 6 => ("PaperSky$Sky", "heights", "[I", true)
  | 7 => ("PaperSky$Sky", "files", "[I", true)
  | _ => ("PaperSky$Sky", "burnt", "[I", true)
def tyX5 : Nat → FieldType := fun k => match k with
  | 0 => .int
  | 1 => .int
  | 2 => .int
  | 3 => .array .int
  | 4 => .array .int
  | 5 => .array .int
  | 6 => .array .int
  | 7 => .array .int
  | _ => .array .int
abbrev wsX50 : List Cond := u_ws RX5 TX5 9
theorem nmX5 : ∀ a, a < 9 → ∀ b, b < 9 → a ≠ b → (TX5 a).2.1 ≠ (TX5 b).2.1 := by decide +kernel
theorem tyX5_ok : ∀ k, k < 9 → parseFieldDescriptor (TX5 k).2.2.1 = some (tyX5 k) := by decide +kernel
abbrev cX5_init : ByteArray := prog_7_method_1_code
def yX5_init : MethodName := ⟨RX5, "<init>", "()V"⟩
abbrev cX5_begin : ByteArray := prog_7_method_2_code
def yX5_begin : MethodName := ⟨RX5, "begin", "()V"⟩
abbrev cX5_addOffice : ByteArray := prog_7_method_3_code
def yX5_addOffice : MethodName := ⟨RX5, "addOffice", "(IIII)V"⟩
abbrev cX5_become : ByteArray := prog_7_method_4_code
def yX5_become : MethodName := ⟨RX5, "become", "(LPaperSky$Sky;)V"⟩
abbrev cX5_passHour : ByteArray := prog_7_method_5_code
def yX5_passHour : MethodName := ⟨RX5, "passHour", "()V"⟩
abbrev cX5_useSheets : ByteArray := prog_7_method_6_code
def yX5_useSheets : MethodName := ⟨RX5, "useSheets", "(II)V"⟩
abbrev cX5_sunk : ByteArray := prog_7_method_7_code
def yX5_sunk : MethodName := ⟨RX5, "sunk", "(I)I"⟩
abbrev cX5_carried : ByteArray := prog_7_method_8_code
def yX5_carried : MethodName := ⟨RX5, "carried", "(II)I"⟩
abbrev cX5_driftAt : ByteArray := prog_7_method_9_code
def yX5_driftAt : MethodName := ⟨RX5, "driftAt", "(I)I"⟩
abbrev cX5_moved : ByteArray := prog_7_method_10_code
def yX5_moved : MethodName := ⟨RX5, "moved", "(II)I"⟩
abbrev cX5_bandOf : ByteArray := prog_7_method_11_code
def yX5_bandOf : MethodName := ⟨RX5, "bandOf", "(I)I"⟩
abbrev cX5_liftOf : ByteArray := prog_7_method_12_code
def yX5_liftOf : MethodName := ⟨RX5, "liftOf", "(II)I"⟩
abbrev cX5_lifted : ByteArray := prog_7_method_13_code
def yX5_lifted : MethodName := ⟨RX5, "lifted", "(III)I"⟩
abbrev cX5_officesIn : ByteArray := prog_7_method_14_code
def yX5_officesIn : MethodName := ⟨RX5, "officesIn", "(I)I"⟩
abbrev cX5_floating : ByteArray := prog_7_method_15_code
def yX5_floating : MethodName := ⟨RX5, "floating", "()I"⟩
abbrev cX5_allBurnt : ByteArray := prog_7_method_16_code
def yX5_allBurnt : MethodName := ⟨RX5, "allBurnt", "()I"⟩
abbrev cX5_landsAdded : ByteArray := prog_7_method_17_code
def yX5_landsAdded : MethodName := ⟨RX5, "landsAdded", "()I"⟩
def RX6 : String := "PaperSky$Tape"
def TX6 : u_T := fun k => match k with
  | 0 => ("PaperSky$Tape", "bytes", "[I", true)
  | 1 => ("PaperSky$Tape", "length", "I", false)
  | 2 => ("PaperSky$Tape", "place", "I", false)
  | _ => ("PaperSky$Tape", "fault", "I", false)
def tyX6 : Nat → FieldType := fun k => match k with
  | 0 => .array .int
  | 1 => .int
  | 2 => .int
  | _ => .int
abbrev wsX60 : List Cond := u_ws RX6 TX6 4
theorem nmX6 : ∀ a, a < 4 → ∀ b, b < 4 → a ≠ b → (TX6 a).2.1 ≠ (TX6 b).2.1 := by decide +kernel
theorem tyX6_ok : ∀ k, k < 4 → parseFieldDescriptor (TX6 k).2.2.1 = some (tyX6 k) := by decide +kernel
abbrev cX6_init : ByteArray := prog_8_method_1_code
def yX6_init : MethodName := ⟨RX6, "<init>", "()V"⟩
abbrev cX6_add : ByteArray := prog_8_method_2_code
def yX6_add : MethodName := ⟨RX6, "add", "(I)I"⟩
abbrev cX6_readInto : ByteArray := prog_8_method_3_code
def yX6_readInto : MethodName := ⟨RX6, "readInto", "(LPaperSky$Sky;)I"⟩
abbrev cX6_readLaw : ByteArray := prog_8_method_4_code
def yX6_readLaw : MethodName := ⟨RX6, "readLaw", "(LPaperSky$Sky;)V"⟩
abbrev cX6_readOffice : ByteArray := prog_8_method_5_code
def yX6_readOffice : MethodName := ⟨RX6, "readOffice", "(LPaperSky$Sky;)V"⟩
abbrev cX6_takeSort : ByteArray := prog_8_method_6_code
def yX6_takeSort : MethodName := ⟨RX6, "takeSort", "(I)I"⟩
abbrev cX6_takeByte : ByteArray := prog_8_method_7_code
def yX6_takeByte : MethodName := ⟨RX6, "takeByte", "(I)V"⟩
abbrev cX6_takeNumber : ByteArray := prog_8_method_8_code
def yX6_takeNumber : MethodName := ⟨RX6, "takeNumber", "(I)I"⟩
abbrev cX6_figuresHere : ByteArray := prog_8_method_9_code
def yX6_figuresHere : MethodName := ⟨RX6, "figuresHere", "()I"⟩
abbrev cX6_isFigure : ByteArray := prog_8_method_10_code
def yX6_isFigure : MethodName := ⟨RX6, "isFigure", "(I)Z"⟩
def RX7 : String := "PaperSky"
def TX7 : u_T := fun k => match k with
  | 0 => ("PaperSky", "rows", "[LPaperSky$Row;", true)
  | 1 => ("PaperSky", "tape", "LPaperSky$Tape;", true)
  | 2 => ("PaperSky", "told", "LPaperSky$Sky;", true)
  | 3 => ("PaperSky", "now", "LPaperSky$Sky;", true)
  | 4 => ("PaperSky", "acts", "LPaperSky$Acts;", true)
  | 5 => ("PaperSky", "images", "[LPaperSky$Sky;", true)
  | 6 => ("PaperSky", "foretold", "LPaperSky$Foretold;", true)
  | 7 => ("PaperSky", "asks", "LPaperSky$Asks;", true)
  | 8 => ("PaperSky", "latestFault", "I", false)
  | _ => ("PaperSky", "latestFinding", "I", false)
def tyX7 : Nat → FieldType := fun k => match k with
  | 0 => .array (.object "PaperSky$Row")
  | 1 => .object "PaperSky$Tape"
  | 2 => .object "PaperSky$Sky"
  | 3 => .object "PaperSky$Sky"
  | 4 => .object "PaperSky$Acts"
  | 5 => .array (.object "PaperSky$Sky")
  | 6 => .object "PaperSky$Foretold"
  | 7 => .object "PaperSky$Asks"
  | 8 => .int
  | _ => .int
abbrev wsX70 : List Cond := u_ws RX7 TX7 10
theorem nmX7 : ∀ a, a < 10 → ∀ b, b < 10 → a ≠ b → (TX7 a).2.1 ≠ (TX7 b).2.1 := by decide +kernel
theorem tyX7_ok : ∀ k, k < 10 → parseFieldDescriptor (TX7 k).2.2.1 = some (tyX7 k) := by decide +kernel
abbrev cX7_init : ByteArray := prog_1_method_1_code
def yX7_init : MethodName := ⟨RX7, "<init>", "()V"⟩
abbrev cX7_row : ByteArray := prog_1_method_2_code
def yX7_row : MethodName := ⟨RX7, "row", "(III)I"⟩
abbrev cX7_set : ByteArray := prog_1_method_3_code
def yX7_set : MethodName := ⟨RX7, "set", "(III)I"⟩
abbrev cX7_copy : ByteArray := prog_1_method_4_code
def yX7_copy : MethodName := ⟨RX7, "copy", "(IIIII)I"⟩
abbrev cX7_drop : ByteArray := prog_1_method_5_code
def yX7_drop : MethodName := ⟨RX7, "drop", "(I)I"⟩
abbrev cX7_feed : ByteArray := prog_1_method_6_code
def yX7_feed : MethodName := ⟨RX7, "feed", "(I)I"⟩
abbrev cX7_sky : ByteArray := prog_1_method_7_code
def yX7_sky : MethodName := ⟨RX7, "sky", "()I"⟩
abbrev cX7_fault : ByteArray := prog_1_method_8_code
def yX7_fault : MethodName := ⟨RX7, "fault", "()I"⟩
abbrev cX7_undo : ByteArray := prog_1_method_9_code
def yX7_undo : MethodName := ⟨RX7, "undo", "()I"⟩
abbrev cX7_hours : ByteArray := prog_1_method_10_code
def yX7_hours : MethodName := ⟨RX7, "hours", "(I)I"⟩
abbrev cX7_burn : ByteArray := prog_1_method_11_code
def yX7_burn : MethodName := ⟨RX7, "burn", "(II)I"⟩
abbrev cX7_send : ByteArray := prog_1_method_12_code
def yX7_send : MethodName := ⟨RX7, "send", "(III)I"⟩
abbrev cX7_wind : ByteArray := prog_1_method_13_code
def yX7_wind : MethodName := ⟨RX7, "wind", "(II)I"⟩
abbrev cX7_office : ByteArray := prog_1_method_14_code
def yX7_office : MethodName := ⟨RX7, "office", "(II)I"⟩
abbrev cX7_land : ByteArray := prog_1_method_15_code
def yX7_land : MethodName := ⟨RX7, "land", "(I)I"⟩
abbrev cX7_ahead : ByteArray := prog_1_method_16_code
def yX7_ahead : MethodName := ⟨RX7, "ahead", "(III)I"⟩
abbrev cX7_down : ByteArray := prog_1_method_17_code
def yX7_down : MethodName := ⟨RX7, "down", "(I)I"⟩
abbrev cX7_meet : ByteArray := prog_1_method_18_code
def yX7_meet : MethodName := ⟨RX7, "meet", "(II)I"⟩
abbrev cX7_over : ByteArray := prog_1_method_19_code
def yX7_over : MethodName := ⟨RX7, "over", "(II)I"⟩
abbrev cX7_above : ByteArray := prog_1_method_20_code
def yX7_above : MethodName := ⟨RX7, "above", "(IIIII)I"⟩
abbrev cX7_petition : ByteArray := prog_1_method_21_code
def yX7_petition : MethodName := ⟨RX7, "petition", "(IIII)I"⟩
abbrev cX7_ash : ByteArray := prog_1_method_22_code
def yX7_ash : MethodName := ⟨RX7, "ash", "(IIIII)I"⟩
abbrev cX7_who : ByteArray := prog_1_method_23_code
def yX7_who : MethodName := ⟨RX7, "who", "(IIIII)I"⟩
abbrev cX7_rule : ByteArray := prog_1_method_24_code
def yX7_rule : MethodName := ⟨RX7, "rule", "(II)I"⟩
abbrev cX7_lasts : ByteArray := prog_1_method_25_code
def yX7_lasts : MethodName := ⟨RX7, "lasts", "(I)I"⟩
abbrev cX7_kept : ByteArray := prog_1_method_26_code
def yX7_kept : MethodName := ⟨RX7, "kept", "(II)I"⟩
abbrev cX7_turned : ByteArray := prog_1_method_27_code
def yX7_turned : MethodName := ⟨RX7, "turned", "(IIIII)J"⟩
abbrev cX7_drawn : ByteArray := prog_1_method_28_code
def yX7_drawn : MethodName := ⟨RX7, "drawn", "(III)I"⟩
abbrev cX7_image : ByteArray := prog_1_method_29_code
def yX7_image : MethodName := ⟨RX7, "image", "(I)I"⟩
abbrev cX7_restore : ByteArray := prog_1_method_30_code
def yX7_restore : MethodName := ⟨RX7, "restore", "(I)I"⟩
abbrev cX7_kind : ByteArray := prog_1_method_31_code
def yX7_kind : MethodName := ⟨RX7, "kind", "(I)I"⟩
abbrev cX7_as : ByteArray := prog_1_method_32_code
def yX7_as : MethodName := ⟨RX7, "as", "(II)I"⟩
abbrev cX7_ask : ByteArray := prog_1_method_33_code
def yX7_ask : MethodName := ⟨RX7, "ask", "(II)I"⟩
abbrev cX7_trace : ByteArray := prog_1_method_34_code
def yX7_trace : MethodName := ⟨RX7, "trace", "(I)I"⟩
abbrev cX7_count : ByteArray := prog_1_method_35_code
def yX7_count : MethodName := ⟨RX7, "count", "(I)I"⟩
abbrev cX7_status : ByteArray := prog_1_method_36_code
def yX7_status : MethodName := ⟨RX7, "status", "()I"⟩
abbrev cX7_within : ByteArray := prog_1_method_37_code
def yX7_within : MethodName := ⟨RX7, "within", "(III)Z"⟩
abbrev cX7_isRow : ByteArray := prog_1_method_38_code
def yX7_isRow : MethodName := ⟨RX7, "isRow", "(I)Z"⟩
abbrev cX7_isLand : ByteArray := prog_1_method_39_code
def yX7_isLand : MethodName := ⟨RX7, "isLand", "(I)Z"⟩
abbrev cX7_isOneOfTwo : ByteArray := prog_1_method_40_code
def yX7_isOneOfTwo : MethodName := ⟨RX7, "isOneOfTwo", "(I)Z"⟩
abbrev cX7_isOffice : ByteArray := prog_1_method_41_code
def yX7_isOffice : MethodName := ⟨RX7, "isOffice", "(I)Z"⟩
abbrev cX7_noSky : ByteArray := prog_1_method_42_code
def yX7_noSky : MethodName := ⟨RX7, "noSky", "()Z"⟩
abbrev cX7_found : ByteArray := prog_1_method_43_code
def yX7_found : MethodName := ⟨RX7, "found", "(I)I"⟩
abbrev cX7_foundNothing : ByteArray := prog_1_method_44_code
def yX7_foundNothing : MethodName := ⟨RX7, "foundNothing", "(I)I"⟩
abbrev cX7_rowsThatAre : ByteArray := prog_1_method_45_code
def yX7_rowsThatAre : MethodName := ⟨RX7, "rowsThatAre", "()I"⟩
def RX8 : String := "PaperSkyModel"
def TX8 : u_T := fun k => match k with
  | 0 => ("PaperSkyModel", "lanes", "[I", true)
  | 1 => ("PaperSkyModel", "sizes", "[I", true)
  | 2 => ("PaperSkyModel", "items", "[I", true)
  | 3 => ("PaperSkyModel", "status", "I", false)
  | 4 => ("PaperSkyModel", "tape", "[I", true)
  | 5 => ("PaperSkyModel", "taped", "I", false)
  | 6 => ("PaperSkyModel", "fault", "I", false)
  | 7 => ("PaperSkyModel", "isSky", "Z", false)
  | 8 => ("PaperSkyModel", "now", "[I", true)
  | 9 => ("PaperSkyModel", "acts", "I", false)
  | 10 => ("PaperSkyModel", "before", "[I", true)
  | 11 => ("PaperSkyModel", "images", "[I", true)
  | 12 => ("PaperSkyModel", "saved", "[Z", true)
  | 13 => ("PaperSkyModel", "traced", "I", false)
  | 14 => ("PaperSkyModel", "trace", "[I", true)
  | 15 => ("PaperSkyModel", "at", "I", false)
  | 16 => ("PaperSkyModel", "begin", "I", false)
  | 17 => ("PaperSkyModel", "token", "I", false)
  | 18 => ("PaperSkyModel", "value", "I", false)
  | 19 => ("PaperSkyModel", "size", "I", false)
  | 20 => ("PaperSkyModel", "read", "[I", true)
  | 21 => ("PaperSkyModel", "aside", "[I", true)
  | 22 => ("PaperSkyModel", "fewest", "[I", true)
  | _ => ("PaperSkyModel", "counts", "[I", true)
def tyX8 : Nat → FieldType := fun k => match k with
  | 0 => .array .int
  | 1 => .array .int
  | 2 => .array .int
  | 3 => .int
  | 4 => .array .int
  | 5 => .int
  | 6 => .int
  | 7 => .boolean
  | 8 => .array .int
  | 9 => .int
  | 10 => .array .int
  | 11 => .array .int
  | 12 => .array .boolean
  | 13 => .int
  | 14 => .array .int
  | 15 => .int
  | 16 => .int
  | 17 => .int
  | 18 => .int
  | 19 => .int
  | 20 => .array .int
  | 21 => .array .int
  | 22 => .array .int
  | _ => .array .int
abbrev wsX80 : List Cond := u_ws RX8 TX8 24
theorem nmX8 : ∀ a, a < 24 → ∀ b, b < 24 → a ≠ b → (TX8 a).2.1 ≠ (TX8 b).2.1 := by decide +kernel
theorem tyX8_ok : ∀ k, k < 24 → parseFieldDescriptor (TX8 k).2.2.1 = some (tyX8 k) := by decide +kernel
abbrev cX8_init : ByteArray := prog_10_method_1_code
def yX8_init : MethodName := ⟨RX8, "<init>", "()V"⟩
abbrev cX8_in : ByteArray := prog_10_method_3_code
def yX8_in : MethodName := ⟨RX8, "in", "(JJJ)Z"⟩
abbrev cX8_found : ByteArray := prog_10_method_4_code
def yX8_found : MethodName := ⟨RX8, "found", "(I)I"⟩
abbrev cX8_well : ByteArray := prog_10_method_5_code
def yX8_well : MethodName := ⟨RX8, "well", "(I)I"⟩
abbrev cX8_isRow : ByteArray := prog_10_method_6_code
def yX8_isRow : MethodName := ⟨RX8, "isRow", "(I)Z"⟩
abbrev cX8_row : ByteArray := prog_10_method_7_code
def yX8_row : MethodName := ⟨RX8, "row", "(III)I"⟩
abbrev cX8_set : ByteArray := prog_10_method_8_code
def yX8_set : MethodName := ⟨RX8, "set", "(III)I"⟩
abbrev cX8_copy : ByteArray := prog_10_method_9_code
def yX8_copy : MethodName := ⟨RX8, "copy", "(IIIII)I"⟩
abbrev cX8_drop : ByteArray := prog_10_method_10_code
def yX8_drop : MethodName := ⟨RX8, "drop", "(I)I"⟩
abbrev cX8_feed : ByteArray := prog_10_method_11_code
def yX8_feed : MethodName := ⟨RX8, "feed", "(I)I"⟩
abbrev cX8_isFigure : ByteArray := prog_10_method_12_code
def yX8_isFigure : MethodName := ⟨RX8, "isFigure", "(I)Z"⟩
abbrev cX8_next : ByteArray := prog_10_method_13_code
def yX8_next : MethodName := ⟨RX8, "next", "()V"⟩
abbrev cX8_fails : ByteArray := prog_10_method_14_code
def yX8_fails : MethodName := ⟨RX8, "fails", "(I)Z"⟩
abbrev cX8_number : ByteArray := prog_10_method_15_code
def yX8_number : MethodName := ⟨RX8, "number", "(II)Z"⟩
abbrev cX8_sign : ByteArray := prog_10_method_16_code
def yX8_sign : MethodName := ⟨RX8, "sign", "(I)Z"⟩
abbrev cX8_readsLaw : ByteArray := prog_10_method_17_code
def yX8_readsLaw : MethodName := ⟨RX8, "readsLaw", "()Z"⟩
abbrev cX8_sortOf : ByteArray := prog_10_method_18_code
def yX8_sortOf : MethodName := ⟨RX8, "sortOf", "(I)I"⟩
abbrev cX8_readsOffice : ByteArray := prog_10_method_19_code
def yX8_readsOffice : MethodName := ⟨RX8, "readsOffice", "()Z"⟩
abbrev cX8_reads : ByteArray := prog_10_method_20_code
def yX8_reads : MethodName := ⟨RX8, "reads", "()Z"⟩
abbrev cX8_sky : ByteArray := prog_10_method_21_code
def yX8_sky : MethodName := ⟨RX8, "sky", "()I"⟩
abbrev cX8_fault : ByteArray := prog_10_method_22_code
def yX8_fault : MethodName := ⟨RX8, "fault", "()I"⟩
abbrev cX8_copies : ByteArray := prog_10_method_23_code
def yX8_copies : MethodName := ⟨RX8, "copies", "([II[II)V"⟩
abbrev cX8_isOffice : ByteArray := prog_10_method_24_code
def yX8_isOffice : MethodName := ⟨RX8, "isOffice", "(I)Z"⟩
abbrev cX8_isLand : ByteArray := prog_10_method_25_code
def yX8_isLand : MethodName := ⟨RX8, "isLand", "(I)Z"⟩
abbrev cX8_isTwo : ByteArray := prog_10_method_26_code
def yX8_isTwo : MethodName := ⟨RX8, "isTwo", "(I)Z"⟩
abbrev cX8_bandOf : ByteArray := prog_10_method_27_code
def yX8_bandOf : MethodName := ⟨RX8, "bandOf", "(I)I"⟩
abbrev cX8_liftOf : ByteArray := prog_10_method_28_code
def yX8_liftOf : MethodName := ⟨RX8, "liftOf", "(II)I"⟩
abbrev cX8_lifted : ByteArray := prog_10_method_29_code
def yX8_lifted : MethodName := ⟨RX8, "lifted", "(III)I"⟩
abbrev cX8_sunk : ByteArray := prog_10_method_30_code
def yX8_sunk : MethodName := ⟨RX8, "sunk", "([II)I"⟩
abbrev cX8_carried : ByteArray := prog_10_method_31_code
def yX8_carried : MethodName := ⟨RX8, "carried", "([III)I"⟩
abbrev cX8_hourGoes : ByteArray := prog_10_method_32_code
def yX8_hourGoes : MethodName := ⟨RX8, "hourGoes", "([I)V"⟩
abbrev cX8_burns : ByteArray := prog_10_method_33_code
def yX8_burns : MethodName := ⟨RX8, "burns", "([III)V"⟩
abbrev cX8_flying : ByteArray := prog_10_method_34_code
def yX8_flying : MethodName := ⟨RX8, "flying", "([I)I"⟩
abbrev cX8_bits : ByteArray := prog_10_method_35_code
def yX8_bits : MethodName := ⟨RX8, "bits", "(I)I"⟩
abbrev cX8_remember : ByteArray := prog_10_method_36_code
def yX8_remember : MethodName := ⟨RX8, "remember", "()V"⟩
abbrev cX8_undo : ByteArray := prog_10_method_37_code
def yX8_undo : MethodName := ⟨RX8, "undo", "()I"⟩
abbrev cX8_hours : ByteArray := prog_10_method_38_code
def yX8_hours : MethodName := ⟨RX8, "hours", "(I)I"⟩
abbrev cX8_burn : ByteArray := prog_10_method_39_code
def yX8_burn : MethodName := ⟨RX8, "burn", "(II)I"⟩
abbrev cX8_send : ByteArray := prog_10_method_40_code
def yX8_send : MethodName := ⟨RX8, "send", "(III)I"⟩
abbrev cX8_wind : ByteArray := prog_10_method_41_code
def yX8_wind : MethodName := ⟨RX8, "wind", "(II)I"⟩
abbrev cX8_office : ByteArray := prog_10_method_42_code
def yX8_office : MethodName := ⟨RX8, "office", "(II)I"⟩
abbrev cX8_overOn : ByteArray := prog_10_method_43_code
def yX8_overOn : MethodName := ⟨RX8, "overOn", "([II)I"⟩
abbrev cX8_land : ByteArray := prog_10_method_44_code
def yX8_land : MethodName := ⟨RX8, "land", "(I)I"⟩
abbrev cX8_goAside : ByteArray := prog_10_method_45_code
def yX8_goAside : MethodName := ⟨RX8, "goAside", "(I)V"⟩
abbrev cX8_ahead : ByteArray := prog_10_method_46_code
def yX8_ahead : MethodName := ⟨RX8, "ahead", "(III)I"⟩
abbrev cX8_down : ByteArray := prog_10_method_47_code
def yX8_down : MethodName := ⟨RX8, "down", "(I)I"⟩
abbrev cX8_meet : ByteArray := prog_10_method_48_code
def yX8_meet : MethodName := ⟨RX8, "meet", "(II)I"⟩
abbrev cX8_over : ByteArray := prog_10_method_49_code
def yX8_over : MethodName := ⟨RX8, "over", "(II)I"⟩
abbrev cX8_cell : ByteArray := prog_10_method_50_code
def yX8_cell : MethodName := ⟨RX8, "cell", "(III)I"⟩
abbrev cX8_fewestBy : ByteArray := prog_10_method_51_code
def yX8_fewestBy : MethodName := ⟨RX8, "fewestBy", "(IIIII)I"⟩
abbrev cX8_layFewest : ByteArray := prog_10_method_52_code
def yX8_layFewest : MethodName := ⟨RX8, "layFewest", "(IIII)V"⟩
abbrev cX8_above : ByteArray := prog_10_method_53_code
def yX8_above : MethodName := ⟨RX8, "above", "(IIIII)I"⟩
abbrev cX8_lies : ByteArray := prog_10_method_54_code
def yX8_lies : MethodName := ⟨RX8, "lies", "(III)I"⟩
abbrev cX8_petition : ByteArray := prog_10_method_55_code
def yX8_petition : MethodName := ⟨RX8, "petition", "(IIII)I"⟩
abbrev cX8_comesSo : ByteArray := prog_10_method_56_code
def yX8_comesSo : MethodName := ⟨RX8, "comesSo", "(IIII)Z"⟩
abbrev cX8_ash : ByteArray := prog_10_method_57_code
def yX8_ash : MethodName := ⟨RX8, "ash", "(IIIII)I"⟩
abbrev cX8_who : ByteArray := prog_10_method_58_code
def yX8_who : MethodName := ⟨RX8, "who", "(IIIII)I"⟩
abbrev cX8_rule : ByteArray := prog_10_method_59_code
def yX8_rule : MethodName := ⟨RX8, "rule", "(II)I"⟩
abbrev cX8_lastsWith : ByteArray := prog_10_method_60_code
def yX8_lastsWith : MethodName := ⟨RX8, "lastsWith", "(II)I"⟩
abbrev cX8_lasts : ByteArray := prog_10_method_61_code
def yX8_lasts : MethodName := ⟨RX8, "lasts", "(I)I"⟩
abbrev cX8_kept : ByteArray := prog_10_method_62_code
def yX8_kept : MethodName := ⟨RX8, "kept", "(II)I"⟩
abbrev cX8_turned : ByteArray := prog_10_method_63_code
def yX8_turned : MethodName := ⟨RX8, "turned", "(IIIII)J"⟩
abbrev cX8_drawn : ByteArray := prog_10_method_64_code
def yX8_drawn : MethodName := ⟨RX8, "drawn", "(III)I"⟩
abbrev cX8_image : ByteArray := prog_10_method_65_code
def yX8_image : MethodName := ⟨RX8, "image", "(I)I"⟩
abbrev cX8_restore : ByteArray := prog_10_method_66_code
def yX8_restore : MethodName := ⟨RX8, "restore", "(I)I"⟩
abbrev cX8_kind : ByteArray := prog_10_method_67_code
def yX8_kind : MethodName := ⟨RX8, "kind", "(I)I"⟩
abbrev cX8_isOf : ByteArray := prog_10_method_68_code
def yX8_isOf : MethodName := ⟨RX8, "isOf", "(II)Z"⟩
abbrev cX8_as : ByteArray := prog_10_method_69_code
def yX8_as : MethodName := ⟨RX8, "as", "(II)I"⟩
abbrev cX8_leave : ByteArray := prog_10_method_70_code
def yX8_leave : MethodName := ⟨RX8, "leave", "(J)V"⟩
abbrev cX8_mark : ByteArray := prog_10_method_71_code
def yX8_mark : MethodName := ⟨RX8, "mark", "(I)I"⟩
abbrev cX8_sizeOf : ByteArray := prog_10_method_72_code
def yX8_sizeOf : MethodName := ⟨RX8, "sizeOf", "(I)I"⟩
abbrev cX8_ask : ByteArray := prog_10_method_73_code
def yX8_ask : MethodName := ⟨RX8, "ask", "(II)I"⟩
abbrev cX8_trace : ByteArray := prog_10_method_74_code
def yX8_trace : MethodName := ⟨RX8, "trace", "(I)I"⟩
abbrev cX8_count : ByteArray := prog_10_method_75_code
def yX8_count : MethodName := ⟨RX8, "count", "(I)I"⟩
abbrev cX8_status : ByteArray := prog_10_method_76_code
def yX8_status : MethodName := ⟨RX8, "status", "()I"⟩
def RJ6 : String := "java/lang/Integer"
def TJ6 : u_T := fun k => match k with
  | _ => ("", "", "", false)
def tyJ6 : Nat → FieldType := fun k => match k with
  | _ => .int
abbrev wsJ60 : List Cond := u_ws RJ6 TJ6 0
theorem nmJ6 : ∀ a, a < 0 → ∀ b, b < 0 → a ≠ b → (TJ6 a).2.1 ≠ (TJ6 b).2.1 := by decide +kernel
theorem tyJ6_ok : ∀ k, k < 0 → parseFieldDescriptor (TJ6 k).2.2.1 = some (tyJ6 k) := by decide +kernel
abbrev cJ6_bitCount_0f7a4 : ByteArray := prog_11_method_49_code
def yJ6_bitCount_0f7a4 : MethodName := ⟨RJ6, "bitCount", "(I)I"⟩
def RJ9 : String := "java/lang/Math"
def TJ9 : u_T := fun k => match k with
  | _ => ("", "", "", false)
def tyJ9 : Nat → FieldType := fun k => match k with
  | _ => .int
abbrev wsJ90 : List Cond := u_ws RJ9 TJ9 0
theorem nmJ9 : ∀ a, a < 0 → ∀ b, b < 0 → a ≠ b → (TJ9 a).2.1 ≠ (TJ9 b).2.1 := by decide +kernel
theorem tyJ9_ok : ∀ k, k < 0 → parseFieldDescriptor (TJ9 k).2.2.1 = some (tyJ9 k) := by decide +kernel
abbrev cJ9_max_7cf53 : ByteArray := prog_12_method_65_code
def yJ9_max_7cf53 : MethodName := ⟨RJ9, "max", "(II)I"⟩
abbrev cJ9_min_7cf53 : ByteArray := prog_12_method_69_code
def yJ9_min_7cf53 : MethodName := ⟨RJ9, "min", "(II)I"⟩
def RJ10 : String := "java/lang/System"
def TJ10 : u_T := fun k => match k with
  | _ => ("", "", "", false)
def tyJ10 : Nat → FieldType := fun k => match k with
  | _ => .int
abbrev wsJ100 : List Cond := u_ws RJ10 TJ10 0
theorem nmJ10 : ∀ a, a < 0 → ∀ b, b < 0 → a ≠ b → (TJ10 a).2.1 ≠ (TJ10 b).2.1 := by decide +kernel
theorem tyJ10_ok : ∀ k, k < 0 → parseFieldDescriptor (TJ10 k).2.2.1 = some (tyJ10 k) := by decide +kernel
def RJ7 : String := "java/util/Arrays"
def TJ7 : u_T := fun k => match k with
  | _ => ("", "", "", false)
def tyJ7 : Nat → FieldType := fun k => match k with
  | _ => .int
abbrev wsJ70 : List Cond := u_ws RJ7 TJ7 0
theorem nmJ7 : ∀ a, a < 0 → ∀ b, b < 0 → a ≠ b → (TJ7 a).2.1 ≠ (TJ7 b).2.1 := by decide +kernel
theorem tyJ7_ok : ∀ k, k < 0 → parseFieldDescriptor (TJ7 k).2.2.1 = some (tyJ7 k) := by decide +kernel
abbrev cJ7_fill_53178 : ByteArray := prog_14_method_103_code
def yJ7_fill_53178 : MethodName := ⟨RJ7, "fill", "([II)V"⟩
def RL : String := "PaperSkyLaw"
abbrev cL_law : ByteArray := code
def yL_law : MethodName := ⟨RL, "law", "([I)Z"⟩
abbrev vwCl : List vw_C := [(RX0, TX0, 3), (RX1, TX1, 3), (RX2, TX2, 5), (RX4, TX4, 4), (RX5, TX5, 9), (RX6, TX6, 4), (RX7, TX7, 10), (RX8, TX8, 24)]
end
section
theorem dX5_init_0 : decode cX5_init 0 = .ok (.aload_n 0, 1) := by decide +kernel
theorem dX5_init_1 : decode cX5_init 1 = .ok (.invokespecial 1, 3) := by decide +kernel
theorem dX5_init_4 : decode cX5_init 4 = .ok (.aload_n 0, 1) := by decide +kernel
theorem dX5_init_5 : decode cX5_init 5 = .ok (.iconst 4, 1) := by decide +kernel
theorem dX5_init_6 : decode cX5_init 6 = .ok (.newarray .int, 2) := by decide +kernel
theorem dX5_init_8 : decode cX5_init 8 = .ok (.putfield 9, 3) := by decide +kernel
theorem dX5_init_11 : decode cX5_init 11 = .ok (.aload_n 0, 1) := by decide +kernel
theorem dX5_init_12 : decode cX5_init 12 = .ok (.iconst 5, 1) := by decide +kernel
theorem dX5_init_13 : decode cX5_init 13 = .ok (.newarray .int, 2) := by decide +kernel
theorem dX5_init_15 : decode cX5_init 15 = .ok (.putfield 13, 3) := by decide +kernel
theorem dX5_init_18 : decode cX5_init 18 = .ok (.aload_n 0, 1) := by decide +kernel
theorem dX5_init_19 : decode cX5_init 19 = .ok (.iconst 5, 1) := by decide +kernel
theorem dX5_init_20 : decode cX5_init 20 = .ok (.newarray .int, 2) := by decide +kernel
theorem dX5_init_22 : decode cX5_init 22 = .ok (.putfield 16, 3) := by decide +kernel
theorem dX5_init_25 : decode cX5_init 25 = .ok (.aload_n 0, 1) := by decide +kernel
theorem dX5_init_26 : decode cX5_init 26 = .ok (.iconst 5, 1) := by decide +kernel
theorem dX5_init_27 : decode cX5_init 27 = .ok (.newarray .int, 2) := by decide +kernel
theorem dX5_init_29 : decode cX5_init 29 = .ok (.putfield 19, 3) := by decide +kernel
theorem dX5_init_32 : decode cX5_init 32 = .ok (.aload_n 0, 1) := by decide +kernel
theorem dX5_init_33 : decode cX5_init 33 = .ok (.iconst 5, 1) := by decide +kernel
theorem dX5_init_34 : decode cX5_init 34 = .ok (.newarray .int, 2) := by decide +kernel
theorem dX5_init_36 : decode cX5_init 36 = .ok (.putfield 22, 3) := by decide +kernel
theorem dX5_init_39 : decode cX5_init 39 = .ok (.aload_n 0, 1) := by decide +kernel
theorem dX5_init_40 : decode cX5_init 40 = .ok (.iconst 5, 1) := by decide +kernel
theorem dX5_init_41 : decode cX5_init 41 = .ok (.newarray .int, 2) := by decide +kernel
theorem dX5_init_43 : decode cX5_init 43 = .ok (.putfield 25, 3) := by decide +kernel
theorem dX5_init_46 : decode cX5_init 46 = .ok (.return_, 1) := by decide +kernel
theorem dX5_begin_0 : decode cX5_begin 0 = .ok (.aload_n 0, 1) := by decide +kernel
theorem dX5_begin_1 : decode cX5_begin 1 = .ok (.iconst 0, 1) := by decide +kernel
theorem dX5_begin_2 : decode cX5_begin 2 = .ok (.putfield 28, 3) := by decide +kernel
theorem dX5_begin_5 : decode cX5_begin 5 = .ok (.aload_n 0, 1) := by decide +kernel
theorem dX5_begin_6 : decode cX5_begin 6 = .ok (.iconst 0, 1) := by decide +kernel
theorem dX5_begin_7 : decode cX5_begin 7 = .ok (.putfield 32, 3) := by decide +kernel
theorem dX5_begin_10 : decode cX5_begin 10 = .ok (.aload_n 0, 1) := by decide +kernel
theorem dX5_begin_11 : decode cX5_begin 11 = .ok (.iconst 0, 1) := by decide +kernel
theorem dX5_begin_12 : decode cX5_begin 12 = .ok (.putfield 35, 3) := by decide +kernel
theorem dX5_begin_15 : decode cX5_begin 15 = .ok (.return_, 1) := by decide +kernel
theorem dX5_addOffice_0 : decode cX5_addOffice 0 = .ok (.aload_n 0, 1) := by decide +kernel
theorem dX5_addOffice_1 : decode cX5_addOffice 1 = .ok (.getfield 28, 3) := by decide +kernel
theorem dX5_addOffice_4 : decode cX5_addOffice 4 = .ok (.iconst 5, 1) := by decide +kernel
theorem dX5_addOffice_5 : decode cX5_addOffice 5 = .ok (.if_icmp .lt 4, 3) := by decide +kernel
theorem dX5_addOffice_8 : decode cX5_addOffice 8 = .ok (.return_, 1) := by decide +kernel
theorem dX5_addOffice_9 : decode cX5_addOffice 9 = .ok (.aload_n 0, 1) := by decide +kernel
theorem dX5_addOffice_10 : decode cX5_addOffice 10 = .ok (.getfield 13, 3) := by decide +kernel
theorem dX5_addOffice_13 : decode cX5_addOffice 13 = .ok (.aload_n 0, 1) := by decide +kernel
theorem dX5_addOffice_14 : decode cX5_addOffice 14 = .ok (.getfield 28, 3) := by decide +kernel
theorem dX5_addOffice_17 : decode cX5_addOffice 17 = .ok (.iload_n 1, 1) := by decide +kernel
theorem dX5_addOffice_18 : decode cX5_addOffice 18 = .ok (.iastore, 1) := by decide +kernel
theorem dX5_addOffice_19 : decode cX5_addOffice 19 = .ok (.aload_n 0, 1) := by decide +kernel
theorem dX5_addOffice_20 : decode cX5_addOffice 20 = .ok (.getfield 16, 3) := by decide +kernel
theorem dX5_addOffice_23 : decode cX5_addOffice 23 = .ok (.aload_n 0, 1) := by decide +kernel
theorem dX5_addOffice_24 : decode cX5_addOffice 24 = .ok (.getfield 28, 3) := by decide +kernel
theorem dX5_addOffice_27 : decode cX5_addOffice 27 = .ok (.iload_n 2, 1) := by decide +kernel
theorem dX5_addOffice_28 : decode cX5_addOffice 28 = .ok (.iastore, 1) := by decide +kernel
theorem dX5_addOffice_29 : decode cX5_addOffice 29 = .ok (.aload_n 0, 1) := by decide +kernel
theorem dX5_addOffice_30 : decode cX5_addOffice 30 = .ok (.getfield 19, 3) := by decide +kernel
theorem dX5_addOffice_33 : decode cX5_addOffice 33 = .ok (.aload_n 0, 1) := by decide +kernel
theorem dX5_addOffice_34 : decode cX5_addOffice 34 = .ok (.getfield 28, 3) := by decide +kernel
theorem dX5_addOffice_37 : decode cX5_addOffice 37 = .ok (.iload_n 3, 1) := by decide +kernel
theorem dX5_addOffice_38 : decode cX5_addOffice 38 = .ok (.iastore, 1) := by decide +kernel
theorem dX5_addOffice_39 : decode cX5_addOffice 39 = .ok (.aload_n 0, 1) := by decide +kernel
theorem dX5_addOffice_40 : decode cX5_addOffice 40 = .ok (.getfield 22, 3) := by decide +kernel
theorem dX5_addOffice_43 : decode cX5_addOffice 43 = .ok (.aload_n 0, 1) := by decide +kernel
theorem dX5_addOffice_44 : decode cX5_addOffice 44 = .ok (.getfield 28, 3) := by decide +kernel
theorem dX5_addOffice_47 : decode cX5_addOffice 47 = .ok (.iload 4, 2) := by decide +kernel
theorem dX5_addOffice_49 : decode cX5_addOffice 49 = .ok (.iastore, 1) := by decide +kernel
theorem dX5_addOffice_50 : decode cX5_addOffice 50 = .ok (.aload_n 0, 1) := by decide +kernel
theorem dX5_addOffice_51 : decode cX5_addOffice 51 = .ok (.getfield 25, 3) := by decide +kernel
theorem dX5_addOffice_54 : decode cX5_addOffice 54 = .ok (.aload_n 0, 1) := by decide +kernel
theorem dX5_addOffice_55 : decode cX5_addOffice 55 = .ok (.getfield 28, 3) := by decide +kernel
theorem dX5_addOffice_58 : decode cX5_addOffice 58 = .ok (.iconst 0, 1) := by decide +kernel
theorem dX5_addOffice_59 : decode cX5_addOffice 59 = .ok (.iastore, 1) := by decide +kernel
theorem dX5_addOffice_60 : decode cX5_addOffice 60 = .ok (.aload_n 0, 1) := by decide +kernel
theorem dX5_addOffice_61 : decode cX5_addOffice 61 = .ok (.dup, 1) := by decide +kernel
theorem dX5_addOffice_62 : decode cX5_addOffice 62 = .ok (.getfield 28, 3) := by decide +kernel
theorem dX5_addOffice_65 : decode cX5_addOffice 65 = .ok (.iconst 1, 1) := by decide +kernel
theorem dX5_addOffice_66 : decode cX5_addOffice 66 = .ok (.iadd, 1) := by decide +kernel
theorem dX5_addOffice_67 : decode cX5_addOffice 67 = .ok (.putfield 28, 3) := by decide +kernel
theorem dX5_addOffice_70 : decode cX5_addOffice 70 = .ok (.return_, 1) := by decide +kernel
theorem dX5_become_0 : decode cX5_become 0 = .ok (.aload_n 0, 1) := by decide +kernel
theorem dX5_become_1 : decode cX5_become 1 = .ok (.aload_n 1, 1) := by decide +kernel
theorem dX5_become_2 : decode cX5_become 2 = .ok (.getfield 28, 3) := by decide +kernel
theorem dX5_become_5 : decode cX5_become 5 = .ok (.putfield 28, 3) := by decide +kernel
theorem dX5_become_8 : decode cX5_become 8 = .ok (.aload_n 0, 1) := by decide +kernel
theorem dX5_become_9 : decode cX5_become 9 = .ok (.aload_n 1, 1) := by decide +kernel
theorem dX5_become_10 : decode cX5_become 10 = .ok (.getfield 32, 3) := by decide +kernel
theorem dX5_become_13 : decode cX5_become 13 = .ok (.putfield 32, 3) := by decide +kernel
theorem dX5_become_16 : decode cX5_become 16 = .ok (.aload_n 0, 1) := by decide +kernel
theorem dX5_become_17 : decode cX5_become 17 = .ok (.aload_n 1, 1) := by decide +kernel
theorem dX5_become_18 : decode cX5_become 18 = .ok (.getfield 35, 3) := by decide +kernel
theorem dX5_become_21 : decode cX5_become 21 = .ok (.putfield 35, 3) := by decide +kernel
theorem dX5_become_24 : decode cX5_become 24 = .ok (.aload_n 1, 1) := by decide +kernel
theorem dX5_become_25 : decode cX5_become 25 = .ok (.getfield 9, 3) := by decide +kernel
theorem dX5_become_28 : decode cX5_become 28 = .ok (.iconst 0, 1) := by decide +kernel
theorem dX5_become_29 : decode cX5_become 29 = .ok (.aload_n 0, 1) := by decide +kernel
theorem dX5_become_30 : decode cX5_become 30 = .ok (.getfield 9, 3) := by decide +kernel
theorem dX5_become_33 : decode cX5_become 33 = .ok (.iconst 0, 1) := by decide +kernel
theorem dX5_become_34 : decode cX5_become 34 = .ok (.iconst 4, 1) := by decide +kernel
theorem dX5_become_35 : decode cX5_become 35 = .ok (.invokestatic 38, 3) := by decide +kernel
theorem dX5_become_38 : decode cX5_become 38 = .ok (.aload_n 1, 1) := by decide +kernel
theorem dX5_become_39 : decode cX5_become 39 = .ok (.getfield 13, 3) := by decide +kernel
theorem dX5_become_42 : decode cX5_become 42 = .ok (.iconst 0, 1) := by decide +kernel
theorem dX5_become_43 : decode cX5_become 43 = .ok (.aload_n 0, 1) := by decide +kernel
theorem dX5_become_44 : decode cX5_become 44 = .ok (.getfield 13, 3) := by decide +kernel
theorem dX5_become_47 : decode cX5_become 47 = .ok (.iconst 0, 1) := by decide +kernel
theorem dX5_become_48 : decode cX5_become 48 = .ok (.iconst 5, 1) := by decide +kernel
theorem dX5_become_49 : decode cX5_become 49 = .ok (.invokestatic 38, 3) := by decide +kernel
theorem dX5_become_52 : decode cX5_become 52 = .ok (.aload_n 1, 1) := by decide +kernel
theorem dX5_become_53 : decode cX5_become 53 = .ok (.getfield 16, 3) := by decide +kernel
theorem dX5_become_56 : decode cX5_become 56 = .ok (.iconst 0, 1) := by decide +kernel
theorem dX5_become_57 : decode cX5_become 57 = .ok (.aload_n 0, 1) := by decide +kernel
theorem dX5_become_58 : decode cX5_become 58 = .ok (.getfield 16, 3) := by decide +kernel
theorem dX5_become_61 : decode cX5_become 61 = .ok (.iconst 0, 1) := by decide +kernel
theorem dX5_become_62 : decode cX5_become 62 = .ok (.iconst 5, 1) := by decide +kernel
theorem dX5_become_63 : decode cX5_become 63 = .ok (.invokestatic 38, 3) := by decide +kernel
theorem dX5_become_66 : decode cX5_become 66 = .ok (.aload_n 1, 1) := by decide +kernel
theorem dX5_become_67 : decode cX5_become 67 = .ok (.getfield 19, 3) := by decide +kernel
theorem dX5_become_70 : decode cX5_become 70 = .ok (.iconst 0, 1) := by decide +kernel
theorem dX5_become_71 : decode cX5_become 71 = .ok (.aload_n 0, 1) := by decide +kernel
theorem dX5_become_72 : decode cX5_become 72 = .ok (.getfield 19, 3) := by decide +kernel
theorem dX5_become_75 : decode cX5_become 75 = .ok (.iconst 0, 1) := by decide +kernel
theorem dX5_become_76 : decode cX5_become 76 = .ok (.iconst 5, 1) := by decide +kernel
theorem dX5_become_77 : decode cX5_become 77 = .ok (.invokestatic 38, 3) := by decide +kernel
theorem dX5_become_80 : decode cX5_become 80 = .ok (.aload_n 1, 1) := by decide +kernel
theorem dX5_become_81 : decode cX5_become 81 = .ok (.getfield 22, 3) := by decide +kernel
theorem dX5_become_84 : decode cX5_become 84 = .ok (.iconst 0, 1) := by decide +kernel
theorem dX5_become_85 : decode cX5_become 85 = .ok (.aload_n 0, 1) := by decide +kernel
theorem dX5_become_86 : decode cX5_become 86 = .ok (.getfield 22, 3) := by decide +kernel
theorem dX5_become_89 : decode cX5_become 89 = .ok (.iconst 0, 1) := by decide +kernel
theorem dX5_become_90 : decode cX5_become 90 = .ok (.iconst 5, 1) := by decide +kernel
theorem dX5_become_91 : decode cX5_become 91 = .ok (.invokestatic 38, 3) := by decide +kernel
theorem dX5_become_94 : decode cX5_become 94 = .ok (.aload_n 1, 1) := by decide +kernel
theorem dX5_become_95 : decode cX5_become 95 = .ok (.getfield 25, 3) := by decide +kernel
theorem dX5_become_98 : decode cX5_become 98 = .ok (.iconst 0, 1) := by decide +kernel
theorem dX5_become_99 : decode cX5_become 99 = .ok (.aload_n 0, 1) := by decide +kernel
theorem dX5_become_100 : decode cX5_become 100 = .ok (.getfield 25, 3) := by decide +kernel
theorem dX5_become_103 : decode cX5_become 103 = .ok (.iconst 0, 1) := by decide +kernel
theorem dX5_become_104 : decode cX5_become 104 = .ok (.iconst 5, 1) := by decide +kernel
theorem dX5_become_105 : decode cX5_become 105 = .ok (.invokestatic 38, 3) := by decide +kernel
theorem dX5_become_108 : decode cX5_become 108 = .ok (.return_, 1) := by decide +kernel
theorem dX5_passHour_0 : decode cX5_passHour 0 = .ok (.iconst 0, 1) := by decide +kernel
theorem dX5_passHour_1 : decode cX5_passHour 1 = .ok (.istore_n 1, 1) := by decide +kernel
theorem dX5_passHour_2 : decode cX5_passHour 2 = .ok (.iload_n 1, 1) := by decide +kernel
theorem dX5_passHour_3 : decode cX5_passHour 3 = .ok (.aload_n 0, 1) := by decide +kernel
theorem dX5_passHour_4 : decode cX5_passHour 4 = .ok (.getfield 28, 3) := by decide +kernel
theorem dX5_passHour_7 : decode cX5_passHour 7 = .ok (.if_icmp .ge 47, 3) := by decide +kernel
theorem dX5_passHour_10 : decode cX5_passHour 10 = .ok (.aload_n 0, 1) := by decide +kernel
theorem dX5_passHour_11 : decode cX5_passHour 11 = .ok (.getfield 19, 3) := by decide +kernel
theorem dX5_passHour_14 : decode cX5_passHour 14 = .ok (.iload_n 1, 1) := by decide +kernel
theorem dX5_passHour_15 : decode cX5_passHour 15 = .ok (.aload_n 0, 1) := by decide +kernel
theorem dX5_passHour_16 : decode cX5_passHour 16 = .ok (.aload_n 0, 1) := by decide +kernel
theorem dX5_passHour_17 : decode cX5_passHour 17 = .ok (.getfield 19, 3) := by decide +kernel
theorem dX5_passHour_20 : decode cX5_passHour 20 = .ok (.iload_n 1, 1) := by decide +kernel
theorem dX5_passHour_21 : decode cX5_passHour 21 = .ok (.iaload, 1) := by decide +kernel
theorem dX5_passHour_22 : decode cX5_passHour 22 = .ok (.invokevirtual 44, 3) := by decide +kernel
theorem dX5_passHour_25 : decode cX5_passHour 25 = .ok (.iastore, 1) := by decide +kernel
theorem dX5_passHour_26 : decode cX5_passHour 26 = .ok (.aload_n 0, 1) := by decide +kernel
theorem dX5_passHour_27 : decode cX5_passHour 27 = .ok (.getfield 16, 3) := by decide +kernel
theorem dX5_passHour_30 : decode cX5_passHour 30 = .ok (.iload_n 1, 1) := by decide +kernel
theorem dX5_passHour_31 : decode cX5_passHour 31 = .ok (.aload_n 0, 1) := by decide +kernel
theorem dX5_passHour_32 : decode cX5_passHour 32 = .ok (.aload_n 0, 1) := by decide +kernel
theorem dX5_passHour_33 : decode cX5_passHour 33 = .ok (.getfield 16, 3) := by decide +kernel
theorem dX5_passHour_36 : decode cX5_passHour 36 = .ok (.iload_n 1, 1) := by decide +kernel
theorem dX5_passHour_37 : decode cX5_passHour 37 = .ok (.iaload, 1) := by decide +kernel
theorem dX5_passHour_38 : decode cX5_passHour 38 = .ok (.aload_n 0, 1) := by decide +kernel
theorem dX5_passHour_39 : decode cX5_passHour 39 = .ok (.getfield 19, 3) := by decide +kernel
theorem dX5_passHour_42 : decode cX5_passHour 42 = .ok (.iload_n 1, 1) := by decide +kernel
theorem dX5_passHour_43 : decode cX5_passHour 43 = .ok (.iaload, 1) := by decide +kernel
theorem dX5_passHour_44 : decode cX5_passHour 44 = .ok (.invokevirtual 48, 3) := by decide +kernel
theorem dX5_passHour_47 : decode cX5_passHour 47 = .ok (.iastore, 1) := by decide +kernel
theorem dX5_passHour_48 : decode cX5_passHour 48 = .ok (.iinc 1 1, 3) := by decide +kernel
theorem dX5_passHour_51 : decode cX5_passHour 51 = .ok (.goto (-49), 3) := by decide +kernel
theorem dX5_passHour_54 : decode cX5_passHour 54 = .ok (.aload_n 0, 1) := by decide +kernel
theorem dX5_passHour_55 : decode cX5_passHour 55 = .ok (.dup, 1) := by decide +kernel
theorem dX5_passHour_56 : decode cX5_passHour 56 = .ok (.getfield 35, 3) := by decide +kernel
theorem dX5_passHour_59 : decode cX5_passHour 59 = .ok (.iconst 1, 1) := by decide +kernel
theorem dX5_passHour_60 : decode cX5_passHour 60 = .ok (.iadd, 1) := by decide +kernel
theorem dX5_passHour_61 : decode cX5_passHour 61 = .ok (.putfield 35, 3) := by decide +kernel
theorem dX5_passHour_64 : decode cX5_passHour 64 = .ok (.return_, 1) := by decide +kernel
theorem dX5_useSheets_0 : decode cX5_useSheets 0 = .ok (.aload_n 0, 1) := by decide +kernel
theorem dX5_useSheets_1 : decode cX5_useSheets 1 = .ok (.getfield 22, 3) := by decide +kernel
theorem dX5_useSheets_4 : decode cX5_useSheets 4 = .ok (.iload_n 1, 1) := by decide +kernel
theorem dX5_useSheets_5 : decode cX5_useSheets 5 = .ok (.dup2, 1) := by decide +kernel
theorem dX5_useSheets_6 : decode cX5_useSheets 6 = .ok (.iaload, 1) := by decide +kernel
theorem dX5_useSheets_7 : decode cX5_useSheets 7 = .ok (.iload_n 2, 1) := by decide +kernel
theorem dX5_useSheets_8 : decode cX5_useSheets 8 = .ok (.isub, 1) := by decide +kernel
theorem dX5_useSheets_9 : decode cX5_useSheets 9 = .ok (.iastore, 1) := by decide +kernel
theorem dX5_useSheets_10 : decode cX5_useSheets 10 = .ok (.aload_n 0, 1) := by decide +kernel
theorem dX5_useSheets_11 : decode cX5_useSheets 11 = .ok (.getfield 25, 3) := by decide +kernel
theorem dX5_useSheets_14 : decode cX5_useSheets 14 = .ok (.iload_n 1, 1) := by decide +kernel
theorem dX5_useSheets_15 : decode cX5_useSheets 15 = .ok (.dup2, 1) := by decide +kernel
theorem dX5_useSheets_16 : decode cX5_useSheets 16 = .ok (.iaload, 1) := by decide +kernel
theorem dX5_useSheets_17 : decode cX5_useSheets 17 = .ok (.iload_n 2, 1) := by decide +kernel
theorem dX5_useSheets_18 : decode cX5_useSheets 18 = .ok (.iadd, 1) := by decide +kernel
theorem dX5_useSheets_19 : decode cX5_useSheets 19 = .ok (.iastore, 1) := by decide +kernel
theorem dX5_useSheets_20 : decode cX5_useSheets 20 = .ok (.aload_n 0, 1) := by decide +kernel
theorem dX5_useSheets_21 : decode cX5_useSheets 21 = .ok (.getfield 19, 3) := by decide +kernel
theorem dX5_useSheets_24 : decode cX5_useSheets 24 = .ok (.iload_n 1, 1) := by decide +kernel
theorem dX5_useSheets_25 : decode cX5_useSheets 25 = .ok (.aload_n 0, 1) := by decide +kernel
theorem dX5_useSheets_26 : decode cX5_useSheets 26 = .ok (.getfield 13, 3) := by decide +kernel
theorem dX5_useSheets_29 : decode cX5_useSheets 29 = .ok (.iload_n 1, 1) := by decide +kernel
theorem dX5_useSheets_30 : decode cX5_useSheets 30 = .ok (.iaload, 1) := by decide +kernel
theorem dX5_useSheets_31 : decode cX5_useSheets 31 = .ok (.aload_n 0, 1) := by decide +kernel
theorem dX5_useSheets_32 : decode cX5_useSheets 32 = .ok (.getfield 19, 3) := by decide +kernel
theorem dX5_useSheets_35 : decode cX5_useSheets 35 = .ok (.iload_n 1, 1) := by decide +kernel
theorem dX5_useSheets_36 : decode cX5_useSheets 36 = .ok (.iaload, 1) := by decide +kernel
theorem dX5_useSheets_37 : decode cX5_useSheets 37 = .ok (.iload_n 2, 1) := by decide +kernel
theorem dX5_useSheets_38 : decode cX5_useSheets 38 = .ok (.invokestatic 52, 3) := by decide +kernel
theorem dX5_useSheets_41 : decode cX5_useSheets 41 = .ok (.iastore, 1) := by decide +kernel
theorem dX5_useSheets_42 : decode cX5_useSheets 42 = .ok (.return_, 1) := by decide +kernel
theorem dX5_sunk_0 : decode cX5_sunk 0 = .ok (.iconst 0, 1) := by decide +kernel
theorem dX5_sunk_1 : decode cX5_sunk 1 = .ok (.iload_n 1, 1) := by decide +kernel
theorem dX5_sunk_2 : decode cX5_sunk 2 = .ok (.aload_n 0, 1) := by decide +kernel
theorem dX5_sunk_3 : decode cX5_sunk 3 = .ok (.getfield 32, 3) := by decide +kernel
theorem dX5_sunk_6 : decode cX5_sunk 6 = .ok (.isub, 1) := by decide +kernel
theorem dX5_sunk_7 : decode cX5_sunk 7 = .ok (.invokestatic 56, 3) := by decide +kernel
theorem dX5_sunk_10 : decode cX5_sunk 10 = .ok (.ireturn, 1) := by decide +kernel
theorem dX5_carried_0 : decode cX5_carried 0 = .ok (.iload_n 1, 1) := by decide +kernel
theorem dX5_carried_1 : decode cX5_carried 1 = .ok (.aload_n 0, 1) := by decide +kernel
theorem dX5_carried_2 : decode cX5_carried 2 = .ok (.iload_n 2, 1) := by decide +kernel
theorem dX5_carried_3 : decode cX5_carried 3 = .ok (.invokevirtual 61, 3) := by decide +kernel
theorem dX5_carried_6 : decode cX5_carried 6 = .ok (.invokestatic 64, 3) := by decide +kernel
theorem dX5_carried_9 : decode cX5_carried 9 = .ok (.ireturn, 1) := by decide +kernel
theorem dX5_driftAt_0 : decode cX5_driftAt 0 = .ok (.iload_n 1, 1) := by decide +kernel
theorem dX5_driftAt_1 : decode cX5_driftAt 1 = .ok (.ifCond .le 17, 3) := by decide +kernel
theorem dX5_driftAt_4 : decode cX5_driftAt 4 = .ok (.aload_n 0, 1) := by decide +kernel
theorem dX5_driftAt_5 : decode cX5_driftAt 5 = .ok (.getfield 9, 3) := by decide +kernel
theorem dX5_driftAt_8 : decode cX5_driftAt 8 = .ok (.iload_n 1, 1) := by decide +kernel
theorem dX5_driftAt_9 : decode cX5_driftAt 9 = .ok (.invokestatic 67, 3) := by decide +kernel
theorem dX5_driftAt_12 : decode cX5_driftAt 12 = .ok (.iaload, 1) := by decide +kernel
theorem dX5_driftAt_13 : decode cX5_driftAt 13 = .ok (.iconst 2, 1) := by decide +kernel
theorem dX5_driftAt_14 : decode cX5_driftAt 14 = .ok (.isub, 1) := by decide +kernel
theorem dX5_driftAt_15 : decode cX5_driftAt 15 = .ok (.goto 4, 3) := by decide +kernel
theorem dX5_driftAt_18 : decode cX5_driftAt 18 = .ok (.iconst 0, 1) := by decide +kernel
theorem dX5_driftAt_19 : decode cX5_driftAt 19 = .ok (.ireturn, 1) := by decide +kernel
theorem dX5_moved_0 : decode cX5_moved 0 = .ok (.iconst 0, 1) := by decide +kernel
theorem dX5_moved_1 : decode cX5_moved 1 = .ok (.bipush 9, 2) := by decide +kernel
theorem dX5_moved_3 : decode cX5_moved 3 = .ok (.iload_n 0, 1) := by decide +kernel
theorem dX5_moved_4 : decode cX5_moved 4 = .ok (.iload_n 1, 1) := by decide +kernel
theorem dX5_moved_5 : decode cX5_moved 5 = .ok (.iadd, 1) := by decide +kernel
theorem dX5_moved_6 : decode cX5_moved 6 = .ok (.invokestatic 70, 3) := by decide +kernel
theorem dX5_moved_9 : decode cX5_moved 9 = .ok (.invokestatic 56, 3) := by decide +kernel
theorem dX5_moved_12 : decode cX5_moved 12 = .ok (.ireturn, 1) := by decide +kernel
theorem dX5_bandOf_0 : decode cX5_bandOf 0 = .ok (.iload_n 0, 1) := by decide +kernel
theorem dX5_bandOf_1 : decode cX5_bandOf 1 = .ok (.bipush 6, 2) := by decide +kernel
theorem dX5_bandOf_3 : decode cX5_bandOf 3 = .ok (.if_icmp .ge 5, 3) := by decide +kernel
theorem dX5_bandOf_6 : decode cX5_bandOf 6 = .ok (.iconst 0, 1) := by decide +kernel
theorem dX5_bandOf_7 : decode cX5_bandOf 7 = .ok (.ireturn, 1) := by decide +kernel
theorem dX5_bandOf_8 : decode cX5_bandOf 8 = .ok (.iload_n 0, 1) := by decide +kernel
theorem dX5_bandOf_9 : decode cX5_bandOf 9 = .ok (.bipush 11, 2) := by decide +kernel
theorem dX5_bandOf_11 : decode cX5_bandOf 11 = .ok (.if_icmp .ge 5, 3) := by decide +kernel
theorem dX5_bandOf_14 : decode cX5_bandOf 14 = .ok (.iconst 1, 1) := by decide +kernel
theorem dX5_bandOf_15 : decode cX5_bandOf 15 = .ok (.ireturn, 1) := by decide +kernel
theorem dX5_bandOf_16 : decode cX5_bandOf 16 = .ok (.iload_n 0, 1) := by decide +kernel
theorem dX5_bandOf_17 : decode cX5_bandOf 17 = .ok (.bipush 16, 2) := by decide +kernel
theorem dX5_bandOf_19 : decode cX5_bandOf 19 = .ok (.if_icmp .ge 7, 3) := by decide +kernel
theorem dX5_bandOf_22 : decode cX5_bandOf 22 = .ok (.iconst 2, 1) := by decide +kernel
theorem dX5_bandOf_23 : decode cX5_bandOf 23 = .ok (.goto 4, 3) := by decide +kernel
theorem dX5_bandOf_26 : decode cX5_bandOf 26 = .ok (.iconst 3, 1) := by decide +kernel
theorem dX5_bandOf_27 : decode cX5_bandOf 27 = .ok (.ireturn, 1) := by decide +kernel
theorem dX5_liftOf_0 : decode cX5_liftOf 0 = .ok (.iload_n 0, 1) := by decide +kernel
theorem dX5_liftOf_1 : decode cX5_liftOf 1 = .ok (.tableswitch 50 1 5 #[35, 50, 37, 50, 39], 35) := by decide +kernel
theorem dX5_liftOf_36 : decode cX5_liftOf 36 = .ok (.iconst 2, 1) := by decide +kernel
theorem dX5_liftOf_37 : decode cX5_liftOf 37 = .ok (.ireturn, 1) := by decide +kernel
theorem dX5_liftOf_38 : decode cX5_liftOf 38 = .ok (.iconst 3, 1) := by decide +kernel
theorem dX5_liftOf_39 : decode cX5_liftOf 39 = .ok (.ireturn, 1) := by decide +kernel
theorem dX5_liftOf_40 : decode cX5_liftOf 40 = .ok (.iload_n 1, 1) := by decide +kernel
theorem dX5_liftOf_41 : decode cX5_liftOf 41 = .ok (.iconst 5, 1) := by decide +kernel
theorem dX5_liftOf_42 : decode cX5_liftOf 42 = .ok (.if_icmp .le 7, 3) := by decide +kernel
theorem dX5_liftOf_45 : decode cX5_liftOf 45 = .ok (.iconst 0, 1) := by decide +kernel
theorem dX5_liftOf_46 : decode cX5_liftOf 46 = .ok (.goto 4, 3) := by decide +kernel
theorem dX5_liftOf_49 : decode cX5_liftOf 49 = .ok (.iconst 1, 1) := by decide +kernel
theorem dX5_liftOf_50 : decode cX5_liftOf 50 = .ok (.ireturn, 1) := by decide +kernel
theorem dX5_liftOf_51 : decode cX5_liftOf 51 = .ok (.iconst 1, 1) := by decide +kernel
theorem dX5_liftOf_52 : decode cX5_liftOf 52 = .ok (.ireturn, 1) := by decide +kernel
theorem dX5_lifted_0 : decode cX5_lifted 0 = .ok (.iload_n 1, 1) := by decide +kernel
theorem dX5_lifted_1 : decode cX5_lifted 1 = .ok (.istore_n 3, 1) := by decide +kernel
theorem dX5_lifted_2 : decode cX5_lifted 2 = .ok (.iconst 0, 1) := by decide +kernel
theorem dX5_lifted_3 : decode cX5_lifted 3 = .ok (.istore 4, 2) := by decide +kernel
theorem dX5_lifted_5 : decode cX5_lifted 5 = .ok (.iload 4, 2) := by decide +kernel
theorem dX5_lifted_7 : decode cX5_lifted 7 = .ok (.iload_n 2, 1) := by decide +kernel
theorem dX5_lifted_8 : decode cX5_lifted 8 = .ok (.if_icmp .ge 22, 3) := by decide +kernel
theorem dX5_lifted_11 : decode cX5_lifted 11 = .ok (.bipush 20, 2) := by decide +kernel
theorem dX5_lifted_13 : decode cX5_lifted 13 = .ok (.iload_n 3, 1) := by decide +kernel
theorem dX5_lifted_14 : decode cX5_lifted 14 = .ok (.iload_n 0, 1) := by decide +kernel
theorem dX5_lifted_15 : decode cX5_lifted 15 = .ok (.iload_n 3, 1) := by decide +kernel
theorem dX5_lifted_16 : decode cX5_lifted 16 = .ok (.invokestatic 73, 3) := by decide +kernel
theorem dX5_lifted_19 : decode cX5_lifted 19 = .ok (.iadd, 1) := by decide +kernel
theorem dX5_lifted_20 : decode cX5_lifted 20 = .ok (.invokestatic 70, 3) := by decide +kernel
theorem dX5_lifted_23 : decode cX5_lifted 23 = .ok (.istore_n 3, 1) := by decide +kernel
theorem dX5_lifted_24 : decode cX5_lifted 24 = .ok (.iinc 4 1, 3) := by decide +kernel
theorem dX5_lifted_27 : decode cX5_lifted 27 = .ok (.goto (-22), 3) := by decide +kernel
theorem dX5_lifted_30 : decode cX5_lifted 30 = .ok (.iload_n 3, 1) := by decide +kernel
theorem dX5_lifted_31 : decode cX5_lifted 31 = .ok (.ireturn, 1) := by decide +kernel
theorem dX5_officesIn_0 : decode cX5_officesIn 0 = .ok (.iconst 0, 1) := by decide +kernel
theorem dX5_officesIn_1 : decode cX5_officesIn 1 = .ok (.istore_n 2, 1) := by decide +kernel
theorem dX5_officesIn_2 : decode cX5_officesIn 2 = .ok (.iconst 0, 1) := by decide +kernel
theorem dX5_officesIn_3 : decode cX5_officesIn 3 = .ok (.istore_n 3, 1) := by decide +kernel
theorem dX5_officesIn_4 : decode cX5_officesIn 4 = .ok (.iload_n 3, 1) := by decide +kernel
theorem dX5_officesIn_5 : decode cX5_officesIn 5 = .ok (.aload_n 0, 1) := by decide +kernel
theorem dX5_officesIn_6 : decode cX5_officesIn 6 = .ok (.getfield 28, 3) := by decide +kernel
theorem dX5_officesIn_9 : decode cX5_officesIn 9 = .ok (.if_icmp .ge 25, 3) := by decide +kernel
theorem dX5_officesIn_12 : decode cX5_officesIn 12 = .ok (.aload_n 0, 1) := by decide +kernel
theorem dX5_officesIn_13 : decode cX5_officesIn 13 = .ok (.getfield 16, 3) := by decide +kernel
theorem dX5_officesIn_16 : decode cX5_officesIn 16 = .ok (.iload_n 3, 1) := by decide +kernel
theorem dX5_officesIn_17 : decode cX5_officesIn 17 = .ok (.iaload, 1) := by decide +kernel
theorem dX5_officesIn_18 : decode cX5_officesIn 18 = .ok (.iload_n 1, 1) := by decide +kernel
theorem dX5_officesIn_19 : decode cX5_officesIn 19 = .ok (.if_icmp .ne 9, 3) := by decide +kernel
theorem dX5_officesIn_22 : decode cX5_officesIn 22 = .ok (.iload_n 2, 1) := by decide +kernel
theorem dX5_officesIn_23 : decode cX5_officesIn 23 = .ok (.iconst 1, 1) := by decide +kernel
theorem dX5_officesIn_24 : decode cX5_officesIn 24 = .ok (.iload_n 3, 1) := by decide +kernel
theorem dX5_officesIn_25 : decode cX5_officesIn 25 = .ok (.ishl, 1) := by decide +kernel
theorem dX5_officesIn_26 : decode cX5_officesIn 26 = .ok (.ior, 1) := by decide +kernel
theorem dX5_officesIn_27 : decode cX5_officesIn 27 = .ok (.istore_n 2, 1) := by decide +kernel
theorem dX5_officesIn_28 : decode cX5_officesIn 28 = .ok (.iinc 3 1, 3) := by decide +kernel
theorem dX5_officesIn_31 : decode cX5_officesIn 31 = .ok (.goto (-27), 3) := by decide +kernel
theorem dX5_officesIn_34 : decode cX5_officesIn 34 = .ok (.iload_n 2, 1) := by decide +kernel
theorem dX5_officesIn_35 : decode cX5_officesIn 35 = .ok (.ireturn, 1) := by decide +kernel
theorem dX5_floating_0 : decode cX5_floating 0 = .ok (.iconst 0, 1) := by decide +kernel
theorem dX5_floating_1 : decode cX5_floating 1 = .ok (.istore_n 1, 1) := by decide +kernel
theorem dX5_floating_2 : decode cX5_floating 2 = .ok (.iconst 0, 1) := by decide +kernel
theorem dX5_floating_3 : decode cX5_floating 3 = .ok (.istore_n 2, 1) := by decide +kernel
theorem dX5_floating_4 : decode cX5_floating 4 = .ok (.iload_n 2, 1) := by decide +kernel
theorem dX5_floating_5 : decode cX5_floating 5 = .ok (.aload_n 0, 1) := by decide +kernel
theorem dX5_floating_6 : decode cX5_floating 6 = .ok (.getfield 28, 3) := by decide +kernel
theorem dX5_floating_9 : decode cX5_floating 9 = .ok (.if_icmp .ge 24, 3) := by decide +kernel
theorem dX5_floating_12 : decode cX5_floating 12 = .ok (.aload_n 0, 1) := by decide +kernel
theorem dX5_floating_13 : decode cX5_floating 13 = .ok (.getfield 19, 3) := by decide +kernel
theorem dX5_floating_16 : decode cX5_floating 16 = .ok (.iload_n 2, 1) := by decide +kernel
theorem dX5_floating_17 : decode cX5_floating 17 = .ok (.iaload, 1) := by decide +kernel
theorem dX5_floating_18 : decode cX5_floating 18 = .ok (.ifCond .le 9, 3) := by decide +kernel
theorem dX5_floating_21 : decode cX5_floating 21 = .ok (.iload_n 1, 1) := by decide +kernel
theorem dX5_floating_22 : decode cX5_floating 22 = .ok (.iconst 1, 1) := by decide +kernel
theorem dX5_floating_23 : decode cX5_floating 23 = .ok (.iload_n 2, 1) := by decide +kernel
theorem dX5_floating_24 : decode cX5_floating 24 = .ok (.ishl, 1) := by decide +kernel
theorem dX5_floating_25 : decode cX5_floating 25 = .ok (.ior, 1) := by decide +kernel
theorem dX5_floating_26 : decode cX5_floating 26 = .ok (.istore_n 1, 1) := by decide +kernel
theorem dX5_floating_27 : decode cX5_floating 27 = .ok (.iinc 2 1, 3) := by decide +kernel
theorem dX5_floating_30 : decode cX5_floating 30 = .ok (.goto (-26), 3) := by decide +kernel
theorem dX5_floating_33 : decode cX5_floating 33 = .ok (.iload_n 1, 1) := by decide +kernel
theorem dX5_floating_34 : decode cX5_floating 34 = .ok (.ireturn, 1) := by decide +kernel
theorem dX5_allBurnt_0 : decode cX5_allBurnt 0 = .ok (.iconst 0, 1) := by decide +kernel
theorem dX5_allBurnt_1 : decode cX5_allBurnt 1 = .ok (.istore_n 1, 1) := by decide +kernel
theorem dX5_allBurnt_2 : decode cX5_allBurnt 2 = .ok (.iconst 0, 1) := by decide +kernel
theorem dX5_allBurnt_3 : decode cX5_allBurnt 3 = .ok (.istore_n 2, 1) := by decide +kernel
theorem dX5_allBurnt_4 : decode cX5_allBurnt 4 = .ok (.iload_n 2, 1) := by decide +kernel
theorem dX5_allBurnt_5 : decode cX5_allBurnt 5 = .ok (.aload_n 0, 1) := by decide +kernel
theorem dX5_allBurnt_6 : decode cX5_allBurnt 6 = .ok (.getfield 28, 3) := by decide +kernel
theorem dX5_allBurnt_9 : decode cX5_allBurnt 9 = .ok (.if_icmp .ge 18, 3) := by decide +kernel
theorem dX5_allBurnt_12 : decode cX5_allBurnt 12 = .ok (.iload_n 1, 1) := by decide +kernel
theorem dX5_allBurnt_13 : decode cX5_allBurnt 13 = .ok (.aload_n 0, 1) := by decide +kernel
theorem dX5_allBurnt_14 : decode cX5_allBurnt 14 = .ok (.getfield 25, 3) := by decide +kernel
theorem dX5_allBurnt_17 : decode cX5_allBurnt 17 = .ok (.iload_n 2, 1) := by decide +kernel
theorem dX5_allBurnt_18 : decode cX5_allBurnt 18 = .ok (.iaload, 1) := by decide +kernel
theorem dX5_allBurnt_19 : decode cX5_allBurnt 19 = .ok (.iadd, 1) := by decide +kernel
theorem dX5_allBurnt_20 : decode cX5_allBurnt 20 = .ok (.istore_n 1, 1) := by decide +kernel
theorem dX5_allBurnt_21 : decode cX5_allBurnt 21 = .ok (.iinc 2 1, 3) := by decide +kernel
theorem dX5_allBurnt_24 : decode cX5_allBurnt 24 = .ok (.goto (-20), 3) := by decide +kernel
theorem dX5_allBurnt_27 : decode cX5_allBurnt 27 = .ok (.iload_n 1, 1) := by decide +kernel
theorem dX5_allBurnt_28 : decode cX5_allBurnt 28 = .ok (.ireturn, 1) := by decide +kernel
theorem dX5_landsAdded_0 : decode cX5_landsAdded 0 = .ok (.iconst 0, 1) := by decide +kernel
theorem dX5_landsAdded_1 : decode cX5_landsAdded 1 = .ok (.istore_n 1, 1) := by decide +kernel
theorem dX5_landsAdded_2 : decode cX5_landsAdded 2 = .ok (.iconst 0, 1) := by decide +kernel
theorem dX5_landsAdded_3 : decode cX5_landsAdded 3 = .ok (.istore_n 2, 1) := by decide +kernel
theorem dX5_landsAdded_4 : decode cX5_landsAdded 4 = .ok (.iload_n 2, 1) := by decide +kernel
theorem dX5_landsAdded_5 : decode cX5_landsAdded 5 = .ok (.aload_n 0, 1) := by decide +kernel
theorem dX5_landsAdded_6 : decode cX5_landsAdded 6 = .ok (.getfield 28, 3) := by decide +kernel
theorem dX5_landsAdded_9 : decode cX5_landsAdded 9 = .ok (.if_icmp .ge 18, 3) := by decide +kernel
theorem dX5_landsAdded_12 : decode cX5_landsAdded 12 = .ok (.iload_n 1, 1) := by decide +kernel
theorem dX5_landsAdded_13 : decode cX5_landsAdded 13 = .ok (.aload_n 0, 1) := by decide +kernel
theorem dX5_landsAdded_14 : decode cX5_landsAdded 14 = .ok (.getfield 16, 3) := by decide +kernel
theorem dX5_landsAdded_17 : decode cX5_landsAdded 17 = .ok (.iload_n 2, 1) := by decide +kernel
theorem dX5_landsAdded_18 : decode cX5_landsAdded 18 = .ok (.iaload, 1) := by decide +kernel
theorem dX5_landsAdded_19 : decode cX5_landsAdded 19 = .ok (.iadd, 1) := by decide +kernel
theorem dX5_landsAdded_20 : decode cX5_landsAdded 20 = .ok (.istore_n 1, 1) := by decide +kernel
theorem dX5_landsAdded_21 : decode cX5_landsAdded 21 = .ok (.iinc 2 1, 3) := by decide +kernel
theorem dX5_landsAdded_24 : decode cX5_landsAdded 24 = .ok (.goto (-20), 3) := by decide +kernel
theorem dX5_landsAdded_27 : decode cX5_landsAdded 27 = .ok (.iload_n 1, 1) := by decide +kernel
theorem dX5_landsAdded_28 : decode cX5_landsAdded 28 = .ok (.ireturn, 1) := by decide +kernel
end
section
/-! THE ABSTRACT MACHINE. A heap that begins at H0.size, cell k of it at the address H0.size + k; a cell's shape (kind, length, references) and its ints, by place. -/
abbrev am_S : Type := Nat × Nat × List (Option Value)
abbrev am_M : Type := Nat → Nat → Int32
abbrev am_L : Type := List (Option Value)
/-- classes' numbers and slots, array classes by kind, the heap at the law's start, the launch -/
abbrev am_G : Type := va_G × (Nat → ClassId) × Heap × Launch
def am_rv (b : Nat) : Value → Value
  | .ref a => .ref (b + a)
  | v => v
def am_vat (c : am_S) (row : Nat → Int32) (j : Nat) : Value := match c.2.2[j]? with
  | some (some v) => v
  | _ => .int (row j)
def am_up (μ : am_M) (a : Nat) (f : Nat → Int32) : am_M := fun b => if b = a then f else μ b
def am_tys (kA : Nat → ClassId) : List (ClassId × FieldType) := [(kA 100, .int), (kA 101, .boolean), (kA 102, .object RX4), (kA 103, .object RX5), (kA 104, .array .int)]
def am_cell (G : am_G) (q : Nat) (c : am_S) (V : Nat → Value) (H : Heap) : Prop :=
  (c.1 < 100 ∧ ∃ r : vw_C, vwCl[c.1]? = some r ∧ t_OB q (G.1.1 c.1) r.2.2 (G.1.2 c.1) H V) ∨ (100 ≤ c.1 ∧ H[q]? = some (arrV (G.2.1 c.1) c.2.1 V))
def am_R (G : am_G) (sh : List am_S) (μ : am_M) (H : Heap) : Prop :=
  H.size = G.2.2.1.size + sh.length ∧ (∀ q : Nat, q < G.2.2.1.size → H[q]? = G.2.2.1[q]?) ∧ ∀ (k : Nat) (c : am_S), sh[k]? = some c → am_cell G (G.2.2.1.size + k) c (fun j => am_rv G.2.2.1.size (am_vat c (μ k) j)) H
theorem am_cell.kept {G : am_G} {q : Nat} {c : am_S} {V : Nat → Value} {H H1 : Heap} (h : am_cell G q c V H) (hq : H1[q]? = H[q]?) : am_cell G q c V H1 := by
  rcases h with ⟨h1, r, h2, h3⟩ | ⟨h1, h2⟩
  · exact Or.inl ⟨h1, r, h2, h3.kept hq⟩
  · exact Or.inr ⟨h1, by rw [hq]; exact h2⟩
theorem am_up_s {μ : am_M} {a : Nat} {f : Nat → Int32} : am_up μ a f a = f := by simp [am_up]
theorem am_up_n {μ : am_M} {a b : Nat} {f : Nat → Int32} (h : b ≠ a) : am_up μ a f b = μ b := by simp [am_up, h]
/-- one cell is another one: its shape, its ints -/
theorem am_R.st {G : am_G} {sh : List am_S} {μ : am_M} {H H1 : Heap} {a : Nat} {c c' : am_S} {f : Nat → Int32} (h : am_R G sh μ H) (hc : sh[a]? = some c) (hz : H1.size = H.size) (ho : ∀ q : Nat, q ≠ G.2.2.1.size + a → H1[q]? = H[q]?)
    (hn : am_cell G (G.2.2.1.size + a) c' (fun j => am_rv G.2.2.1.size (am_vat c' (f) j)) H1) : am_R G (sh.set a c') (am_up μ a f) H1 := by
  obtain ⟨h1, h2, h3⟩ := h
  refine ⟨by rw [hz, List.length_set]; exact h1, fun q hq => by rw [ho q (by omega)]; exact h2 q hq, fun k d hd => ?_⟩
  by_cases hk : k = a
  · subst hk
    have hl : k < sh.length := (List.getElem?_eq_some_iff.mp hc).1
    rw [List.getElem?_set_self hl] at hd
    cases hd
    rw [am_up_s]
    exact hn
  · rw [List.getElem?_set_ne (Ne.symm hk)] at hd
    rw [am_up_n hk]
    exact (h3 k d hd).kept (ho _ (by omega))
theorem am_set_id {sh : List am_S} {a : Nat} {c : am_S} (hc : sh[a]? = some c) : sh.set a c = sh := by
  apply List.ext_getElem?
  intro k
  by_cases hk : k = a
  · subst hk
    have hl : k < sh.length := (List.getElem?_eq_some_iff.mp hc).1
    rw [List.getElem?_set_self hl, hc]
  · rw [List.getElem?_set_ne (Ne.symm hk)]
theorem am_R.sti {G : am_G} {sh : List am_S} {μ : am_M} {H H1 : Heap} {a : Nat} {c : am_S} {f : Nat → Int32} (h : am_R G sh μ H) (hc : sh[a]? = some c) (hz : H1.size = H.size) (ho : ∀ q : Nat, q ≠ G.2.2.1.size + a → H1[q]? = H[q]?)
    (hn : am_cell G (G.2.2.1.size + a) c (fun j => am_rv G.2.2.1.size (am_vat c (f) j)) H1) : am_R G sh (am_up μ a f) H1 := by
  have h1 := h.st hc hz ho hn
  rw [am_set_id hc] at h1
  exact h1
/-- a cell more -/
theorem am_R.push {G : am_G} {sh : List am_S} {μ : am_M} {H H1 : Heap} {c : am_S} {f : Nat → Int32} (h : am_R G sh μ H) (hz : H1.size = H.size + 1) (ho : ∀ q : Nat, q < H.size → H1[q]? = H[q]?)
    (hn : am_cell G H.size c (fun j => am_rv G.2.2.1.size (am_vat c f j)) H1) : am_R G (sh ++ [c]) (am_up μ sh.length f) H1 := by
  obtain ⟨h1, h2, h3⟩ := h
  refine ⟨by rw [hz, List.length_append, h1]; simp [Nat.add_assoc], fun q hq => by rw [ho q (by omega)]; exact h2 q hq, fun k d hd => ?_⟩
  by_cases hk : k < sh.length
  · rw [List.getElem?_append_left hk] at hd
    rw [am_up_n (Nat.ne_of_lt hk)]
    exact (h3 k d hd).kept (ho _ (by omega))
  · rw [List.getElem?_append_right (by omega)] at hd
    have hz : k - sh.length < 1 := (List.getElem?_eq_some_iff.mp hd).1
    have hk2 : k = sh.length := by omega
    subst hk2
    simp at hd
    subst hd
    rw [am_up_s, ← h1]
    exact hn
/-! ===== words: those that a call may hand on ===== -/
def am_kind : Cond → Bool
  | .code .. | .methodLink .. | .fieldLink .. | .classLink .. | .instantiable .. | .initialized .. | .instanceMethod .. | .static .. | .selects .. | .lays .. | .laysFinal .. | .constant .. | .constantLong .. | .arrayClass .. | .native .. => true
  | _ => false
def am_TB : List Cond := lw_tbl.filter am_kind
set_option maxRecDepth 100000 in
theorem am_good : am_TB.all goodWord = true := by decide +kernel
theorem am_goodIn {y : MethodName} {cc : ByteArray} {nL : Nat} {ret : Option FieldType} (h : Cond.code y cc nL ret ∈ am_TB) : GoodIn am_TB (Cond.code y cc nL ret :: am_TB) := by
  intro w hw
  have hm : w ∈ am_TB := by
    rcases List.mem_cons.mp hw with rfl | h1
    · exact h
    · exact h1
  exact ⟨hm, good_of_word (List.all_eq_true.mp am_good w hm)⟩
theorem am_in {w : Cond} (i : Nat) (h : lw_tbl[i]? = some w) (hk : am_kind w = true) : w ∈ am_TB := List.mem_filter.mpr ⟨List.mem_of_getElem? h, hk⟩
end
section
def am_AA (U : State) : Prop := (Cond.arrayOver (.array .int)).before #[] U = true
theorem am_AA.moved {u U : State} (hvm : u.vm.Alike U.vm) (h : am_AA u) : am_AA U := by
  obtain ⟨comp, c, k, h1, h2, h3, h4, h5⟩ := arrayOverA_spec h
  obtain ⟨k', hk', he⟩ := hvm.2.2 _ _ h3
  have hi : (U.vm.classes.findIdx? fun x => match x.kind with | .array component _ => component == comp | _ => false) = some c := by
    rw [hvm.findIdx?_eq _ (fun _ => rfl)]; exact h2
  have hkind : k'.kind = .array comp (.array .int) := by rw [he]; exact h4
  have f1 : U.vm.findClass (FieldType.array .int).toString = some comp := by rw [hvm.findClass]; exact h1
  have f2 : U.vm.findClass ("[" ++ (FieldType.array .int).toString) = some c := by rw [hvm.findClass]; exact h5
  unfold am_AA Cond.before Cond.holds
  simp only [Cond.value, f1, Option.bind_some]
  refine (congrArg (fun o : Option Nat => (o.bind (fun c => (U.vm.classes[c]?).map fun (k : Class) => match k.kind with | .array _ ty => decide (ty = FieldType.array .int) && decide (U.vm.findClass ("[" ++ (FieldType.array .int).toString) = some c) | _ => false) == some true)) hi).trans ?_
  simp [hk', hkind, f2]
def am_nest : List (String × Nat × MethodName × String) := [(RX7, 15, yX4_init, RX7), (RX7, 18, yX6_init, RX7), (RX7, 25, yX5_init, RX7), (RX0, 15, yX5_init, RX7), (RX2, 13, yX5_init, RX7)]
def am_stat : List (String × String × List Int32) := [(RX3, "NEAREST", [0, 0, 1, 1, 0, 4]), (RX1, "SIZE_BODIES", [10, 11, 12, 0, 13, 14]), (RX1, "MARK_BODIES", [20, 21, 24, 22, 23, 0])]
/-- what the tables say: classes, arrays, nest mates, statics -/
def am_X (G : am_G) (U : State) : Prop :=
  va_K G.1 vwCl (am_tys G.2.1) U ∧ (∀ q ∈ am_nest, va_Nw (.methodLinkNest q.1 q.2.1 q.2.2.1 q.2.2.2) U) ∧ (va_AO RX4 U ∧ va_AO RX5 U ∧ am_AA U) ∧
  ∀ q ∈ am_stat, ∃ t : Nat, va_Z q.1 q.2.1 "[I" (.ref t) (fun a => G.2.2.1.size ≤ a) U G.2.2.1 ∧ va_T .int t 6 (fun j => .int (q.2.2.getD j 0)) (fun a => G.2.2.1.size ≤ a) U G.2.2.1
theorem am_X.warm {G : am_G} {s U : State} (hW : s.WarmedH U.vm) (h : am_X G s) : am_X G U := by
  obtain ⟨h1, h2, ⟨h3, h4, h5⟩, h6⟩ := h
  have hv := hW.alike
  refine ⟨va_K.moved hv h1, fun q hq => va_Nw.warmM hW (h2 q hq), ⟨h3.moved hv, h4.moved hv, h5.moved hv⟩, fun q hq => ?_⟩
  obtain ⟨t, a, b⟩ := h6 q hq
  exact ⟨t, a.moved hv, b.moved hv⟩
theorem am_X.same {G : am_G} {u U : State} (e : u.vm = U.vm) (h : am_X G u) : am_X G U := by
  obtain ⟨h1, h2, ⟨h3, h4, h5⟩, h6⟩ := h
  have hv : u.vm.Alike U.vm := by rw [e]; exact Vm.Alike.refl U.vm
  refine ⟨va_K.moved hv h1, fun q hq => va_Nw.same rfl e (h2 q hq), ⟨h3.moved hv, h4.moved hv, h5.moved hv⟩, fun q hq => ?_⟩
  obtain ⟨t, a, b⟩ := h6 q hq
  exact ⟨t, a.moved hv, b.moved hv⟩
/-! ===== locals ===== -/
def am_gl : am_L → Nat → Option Value
  | [], _ => none
  | a :: _, 0 => a
  | _ :: l, n + 1 => am_gl l n
def am_kl : Option Value → Option Value
  | some (.long _) => none
  | some (.double _) => none
  | a => a
def am_sl : am_L → Nat → Value → am_L
  | [], _, _ => []
  | _ :: l, 0, v => some v :: l
  | a :: l, 1, v => am_kl a :: am_sl l 0 v
  | a :: l, n + 2, v => a :: am_sl l (n + 1) v
def am_s2 : am_L → Nat → Value → am_L
  | [], _, _ => []
  | [_], 0, v => [some v]
  | _ :: _ :: l, 0, v => some v :: none :: l
  | a :: l, 1, v => am_kl a :: am_s2 l 0 v
  | a :: l, n + 2, v => a :: am_s2 l (n + 1) v
def am_pl (b : Nat) (L : am_L) : List (Nat × Value) := (List.range L.length).filterMap (fun i => (am_gl L i).map (fun v => (i, am_rv b v)))
theorem am_gl_lt : ∀ {L : am_L} {i : Nat} {v : Value}, am_gl L i = some v → i < L.length
  | [], i, v, h => by simp [am_gl] at h
  | a :: l, 0, v, h => by simp
  | a :: l, n + 1, v, h => by
    have := am_gl_lt (L := l) (i := n) (v := v) h
    simp; omega
theorem am_pl_mem {b : Nat} {L : am_L} {i : Nat} {v : Value} (h : am_gl L i = some v) : (i, am_rv b v) ∈ am_pl b L :=
  List.mem_filterMap.mpr ⟨i, List.mem_range.mpr (am_gl_lt h), by simp [h]⟩
theorem am_pl_of {b : Nat} {L : am_L} {q : Nat × Value} (h : q ∈ am_pl b L) : ∃ v, am_gl L q.1 = some v ∧ q.2 = am_rv b v := by
  obtain ⟨i, -, hi⟩ := List.mem_filterMap.mp h
  cases hg : am_gl L i with
  | none => simp [hg] at hi
  | some v =>
    rw [hg] at hi
    simp at hi
    subst hi
    exact ⟨v, hg, rfl⟩
theorem am_rv_cat (b : Nat) (v : Value) : (am_rv b v).category = v.category := by cases v <;> rfl
theorem am_kl_of {a : Option Value} {v : Value} (h : am_kl a = some v) : a = some v ∧ ¬ v.category = 2 := by
  cases a with
  | none => simp [am_kl] at h
  | some w => cases w <;> simp [am_kl] at h <;> subst h <;> simp [Value.category]
theorem am_sl_of : ∀ {L : am_L} {i j : Nat} {v w : Value}, am_gl (am_sl L i v) j = some w → (j = i ∧ w = v) ∨ (j ≠ i ∧ am_gl L j = some w ∧ ¬ (j + 1 = i ∧ w.category = 2))
  | [], i, j, v, w, h => by simp [am_sl, am_gl] at h
  | a :: l, 0, 0, v, w, h => by simp [am_sl, am_gl] at h; exact Or.inl ⟨rfl, h.symm⟩
  | a :: l, 0, j + 1, v, w, h => by
    simp [am_sl, am_gl] at h
    exact Or.inr ⟨by omega, h, by omega⟩
  | a :: l, 1, 0, v, w, h => by
    simp [am_sl, am_gl] at h
    obtain ⟨h1, h2⟩ := am_kl_of h
    exact Or.inr ⟨by omega, h1, fun q => h2 q.2⟩
  | a :: l, 1, j + 1, v, w, h => by
    simp only [am_sl, am_gl] at h
    rcases am_sl_of h with ⟨h1, h2⟩ | ⟨h1, h2, h3⟩
    · exact Or.inl ⟨by omega, h2⟩
    · exact Or.inr ⟨by omega, h2, fun q => h3 ⟨by omega, q.2⟩⟩
  | a :: l, n + 2, 0, v, w, h => by
    simp [am_sl, am_gl] at h
    exact Or.inr ⟨by omega, h, by omega⟩
  | a :: l, n + 2, j + 1, v, w, h => by
    simp only [am_sl, am_gl] at h
    rcases am_sl_of h with ⟨h1, h2⟩ | ⟨h1, h2, h3⟩
    · exact Or.inl ⟨by omega, h2⟩
    · exact Or.inr ⟨by omega, h2, fun q => h3 ⟨by omega, q.2⟩⟩
theorem am_s2_of : ∀ {L : am_L} {i j : Nat} {v w : Value}, am_gl (am_s2 L i v) j = some w → (j = i ∧ w = v) ∨ (j ≠ i ∧ am_gl L j = some w ∧ j ≠ i + 1 ∧ ¬ (j + 1 = i ∧ w.category = 2))
  | [], i, j, v, w, h => by simp [am_s2, am_gl] at h
  | [a], 0, 0, v, w, h => by simp [am_s2, am_gl] at h; exact Or.inl ⟨rfl, h.symm⟩
  | [a], 0, j + 1, v, w, h => by simp [am_s2, am_gl] at h
  | a :: a2 :: l, 0, 0, v, w, h => by simp [am_s2, am_gl] at h; exact Or.inl ⟨rfl, h.symm⟩
  | a :: a2 :: l, 0, 1, v, w, h => by simp [am_s2, am_gl] at h
  | a :: a2 :: l, 0, j + 2, v, w, h => by
    simp [am_s2, am_gl] at h
    exact Or.inr ⟨by omega, h, by omega, by omega⟩
  | a :: l, 1, 0, v, w, h => by
    simp [am_s2, am_gl] at h
    obtain ⟨h1, h2⟩ := am_kl_of h
    exact Or.inr ⟨by omega, h1, by omega, fun q => h2 q.2⟩
  | a :: l, 1, j + 1, v, w, h => by
    simp only [am_s2, am_gl] at h
    rcases am_s2_of h with ⟨h1, h2⟩ | ⟨h1, h2, h3, h4⟩
    · exact Or.inl ⟨by omega, h2⟩
    · exact Or.inr ⟨by omega, h2, by omega, fun q => h4 ⟨by omega, q.2⟩⟩
  | a :: l, n + 2, 0, v, w, h => by
    simp [am_s2, am_gl] at h
    exact Or.inr ⟨by omega, h, by omega, by omega⟩
  | a :: l, n + 2, j + 1, v, w, h => by
    simp only [am_s2, am_gl] at h
    rcases am_s2_of h with ⟨h1, h2⟩ | ⟨h1, h2, h3, h4⟩
    · exact Or.inl ⟨by omega, h2⟩
    · exact Or.inr ⟨by omega, h2, by omega, fun q => h4 ⟨by omega, q.2⟩⟩
theorem am_has1 {b nL i : Nat} {ls : Array Slot} {L : am_L} {v : Value} (h : lv_has ls nL ((i, am_rv b v) :: (am_pl b L).filter (fun q => !(q.1 == i) && !(q.1 + 1 == i && q.2.category == 2)))) : lv_has ls nL (am_pl b (am_sl L i v)) := by
  refine ⟨h.1, h.2.1, fun q hq => h.2.2 q ?_⟩
  obtain ⟨w, h1, h2⟩ := am_pl_of hq
  rcases am_sl_of h1 with ⟨h3, h4⟩ | ⟨h3, h4, h5⟩
  · have : q = (i, am_rv b v) := Prod.ext h3 (by rw [h2, h4])
    rw [this]; exact List.mem_cons_self
  · refine List.mem_cons_of_mem _ (List.mem_filter.mpr ⟨?_, ?_⟩)
    · have : q = (q.1, am_rv b w) := Prod.ext rfl h2
      rw [this]; exact am_pl_mem h4
    · rw [h2, am_rv_cat]
      simp [h3]
      omega
theorem am_has2 {b nL i : Nat} {ls : Array Slot} {L : am_L} {v : Value} (h : lv_has ls nL ((i, am_rv b v) :: (am_pl b L).filter (fun q => !(q.1 == i) && (!(q.1 == i + 1) && !(q.1 + 1 == i && q.2.category == 2))))) : lv_has ls nL (am_pl b (am_s2 L i v)) := by
  refine ⟨h.1, h.2.1, fun q hq => h.2.2 q ?_⟩
  obtain ⟨w, h1, h2⟩ := am_pl_of hq
  rcases am_s2_of h1 with ⟨h3, h4⟩ | ⟨h3, h4, h8, h5⟩
  · have : q = (i, am_rv b v) := Prod.ext h3 (by rw [h2, h4])
    rw [this]; exact List.mem_cons_self
  · refine List.mem_cons_of_mem _ (List.mem_filter.mpr ⟨?_, ?_⟩)
    · have : q = (q.1, am_rv b w) := Prod.ext rfl h2
      rw [this]; exact am_pl_mem h4
    · rw [h2, am_rv_cat]
      simp [h3, h8]
      omega
def am_ent : List Value → Nat → am_L
  | [], n => List.replicate n none
  | .long x :: vs, n => some (.long x) :: none :: am_ent vs (n - 2)
  | .double x :: vs, n => some (.double x) :: none :: am_ent vs (n - 2)
  | v :: vs, n => some v :: am_ent vs (n - 1)
theorem am_gl_rep : ∀ (n i : Nat), am_gl (List.replicate n none) i = none
  | 0, i => by simp [am_gl]
  | n + 1, 0 => by simp [List.replicate, am_gl]
  | n + 1, i + 1 => by simp only [List.replicate, am_gl]; exact am_gl_rep n i
theorem am_ent_of (b : Nat) : ∀ (vs : List Value) (n i k : Nat) (w : Value), am_gl (am_ent vs n) i = some w → (k + i, am_rv b w) ∈ lv_args k (vs.map (am_rv b))
  | [], n, i, k, w, h => by
    rw [am_ent, am_gl_rep] at h
    cases h
  | v :: vs, n, i, k, w, h => by
    have one : ∀ (m : Nat), v.category = 1 → am_gl (some v :: am_ent vs m) i = some w → (k + i, am_rv b w) ∈ lv_args k ((v :: vs).map (am_rv b)) := by
      intro m hc h
      cases i with
      | zero =>
        simp [am_gl] at h
        subst h
        simp [lv_args]
      | succ i =>
        simp only [am_gl] at h
        have := am_ent_of b vs m i (k + 1) w h
        simp only [List.map_cons, lv_args, am_rv_cat, hc]
        refine List.mem_cons_of_mem _ ?_
        have e : k + (i + 1) = k + 1 + i := by omega
        rw [e]
        simpa using this
    have two : ∀ (m : Nat), v.category = 2 → am_gl (some v :: none :: am_ent vs m) i = some w → (k + i, am_rv b w) ∈ lv_args k ((v :: vs).map (am_rv b)) := by
      intro m hc h
      cases i with
      | zero =>
        simp [am_gl] at h
        subst h
        simp [lv_args]
      | succ i =>
        cases i with
        | zero => simp [am_gl] at h
        | succ i =>
          simp only [am_gl] at h
          have := am_ent_of b vs m i (k + 2) w h
          simp only [List.map_cons, lv_args, am_rv_cat, hc]
          refine List.mem_cons_of_mem _ ?_
          have e : k + (i + 1 + 1) = k + 2 + i := by omega
          rw [e]
          simpa using this
    cases v with
    | long x => exact two _ rfl h
    | double x => exact two _ rfl h
    | _ => exact one _ rfl h
end
section
/-- a method's fixed things: the machine's; its class, its name, its locals, what it answers, its room, the cells and slots it makes, what it owes -/
abbrev am_C : Type := am_G × String × String × Nat × Option FieldType × Room × Nat × Nat × (Option Value → List am_S → am_M → Prop)
def am_F (C : am_C) (cc : ByteArray) (p : Program) (s : State) (m : MethodId) (args : Array Value) (meth : Method) (c : Code) : Prop :=
  p.tables.exec = Jvm.exec ∧ c.code = cc ∧ c.maxLocals = C.2.2.2.1 ∧ meth.sig.returnType = C.2.2.2.2.1 ∧ meth.locks = false ∧ s.vm.findClass C.2.1 = some m.cls ∧ (∀ w ∈ am_TB, w.before args s = true) ∧ am_X C.1 s ∧ meth.name = C.2.2.1
/-- what a method's end must be -/
def am_Q (G : am_G) (Q : Option Value → List am_S → am_M → Prop) : Array Value → State → Outcome → State → Prop := fun _ _ oc t =>
  ∃ (v : Option Value) (sh : List am_S) (μ : am_M), oc = .returned (v.map (am_rv G.2.2.1.size)) ∧ Q v sh μ ∧ am_X G t ∧ am_R G sh μ t.heap
def am_W (C : am_C) (cc : ByteArray) (pc : Nat) (L : am_L) (S : List Value) (sh : List am_S) (μ : am_M) (k n : Nat) : Prop :=
  ∀ (p : Program) (e : Env) (s : State) (m : MethodId) (args : Array Value) (below : List Frame) (meth : Method) (c : Code), am_F C cc p s m args meth c → ∀ (H : Heap) (locs : List Loc) (ls : Array Slot), am_R C.1 sh μ H → (∀ q ∈ locs, C.1.2.2.1.size ≤ q.base) → lv_has ls C.2.2.2.1 (am_pl C.1.2.2.1.size L) →
    W p C.1.2.2.2 e C.2.2.2.2.2.1 s m args below meth c H locs k n (MQ below (am_Q C.1 C.2.2.2.2.2.2.2.2) args s C.2.2.2.2.2.2.1 C.2.2.2.2.2.2.2.1 (fun q => C.1.2.2.1.size ≤ q)) (F0 m pc ls (S.map (am_rv C.1.2.2.1.size)))
/-- a contract: from these arguments, cells and ints the method returns, and Q holds of its answer, cells and ints -/
def am_MA (G : am_G) (y : MethodName) (cc : ByteArray) (nL : Nat) (ret : Option FieldType) (d mc ms : Nat) (As : List Value) (sh : List am_S) (μ : am_M) (Q : Option Value → List am_S → am_M → Prop) : Prop :=
  Met G.2.2.2 y (Cond.code y cc nL ret :: am_TB) { frames := d, cells := mc, slots := ms, locals := 100 * d } (va_Pc (As.map (am_rv G.2.2.1.size)) (fun U => am_X G U ∧ am_R G sh μ U.heap)) (am_Q G Q) mc ms (fun q => G.2.2.1.size ≤ q)
set_option maxHeartbeats 1000000 in
theorem am_of {G : am_G} {y : MethodName} {cc : ByteArray} {nL : Nat} {ret : Option FieldType} {d mc ms : Nat} {As : List Value} {sh : List am_S} {μ : am_M} {Q : Option Value → List am_S → am_M → Prop} (hy : plainName y.cls = true) (hn : (As.map fun v => v.category).sum ≤ nL)
    (h : am_W (G, y.cls, y.name, nL, ret, { frames := d, cells := mc, slots := ms, locals := 100 * d }, mc, ms, Q) cc 0 (am_ent As nL) [] sh μ 0 0) : am_MA G y cc nL ret d mc ms As sh μ Q := by
  refine Met.ofW (cc := cc) (maxL := nL) (ret := ret) hy rfl ?_
  intro p e s m args below meth c s₁ B hml hv
  obtain ⟨rfl, hX, hR⟩ := hv
  have hts := atoms_spec (ws := Cond.code y cc nL ret :: am_TB) B.pre
  have hlen : ∀ vs : List Value, (lg_sl (vs.map (am_rv G.2.2.1.size))).length = (vs.map fun v => v.category).sum := by
    intro vs
    induction vs with
    | nil => rfl
    | cons v vs ih =>
      have h1 : lg_sl ((v :: vs).map (am_rv G.2.2.1.size)) = (if (am_rv G.2.2.1.size v).category = 2 then [Slot.val (am_rv G.2.2.1.size v), .second] else [.val (am_rv G.2.2.1.size v)]) ++ lg_sl (vs.map (am_rv G.2.2.1.size)) := rfl
      rw [h1, List.length_append, ih, am_rv_cat]
      simp only [List.map_cons, List.sum_cons]
      rcases lv_cat v with hc | hc <;> simp [hc]
  have hl := lv_entry (As.map (am_rv G.2.2.1.size)) (n := nL) (by rw [hlen]; exact hn)
  rw [lg_entry_eq]
  generalize (lg_sl (As.map (am_rv G.2.2.1.size)) ++ List.replicate (nL - (lg_sl (As.map (am_rv G.2.2.1.size))).length) Slot.unset).toArray = ls at hl ⊢
  refine h p e s m _ below meth c ⟨B.exec, B.bytes, hml, B.returns, B.notSynchronized, findClass_of_methodNamed B.named, fun w hw => hts w (List.mem_cons_of_mem _ hw), hX, (name_of_methodNamed B.named B.method).1⟩ s.heap [] ls hR (fun q hq => by cases hq) ?_
  refine ⟨hl.1, hl.2.1, fun q hq => hl.2.2 q ?_⟩
  obtain ⟨w, h1, h2⟩ := am_pl_of hq
  have h3 := am_ent_of G.2.2.1.size As nL q.1 0 w h1
  rw [Nat.zero_add] at h3
  have : q = (q.1, am_rv G.2.2.1.size w) := Prod.ext rfl h2
  rw [this]
  exact h3
section AW
variable {C : am_C} {cc : ByteArray} {pc : Nat} {L : am_L} {S : List Value} {sh : List am_S} {μ : am_M} {k n : Nat}

theorem aw_iconst {z : Int} {v : Int32} (hd : decode cc pc = .ok (.iconst z, 1)) (hv : Int32.ofInt z = v) (kk : am_W C cc (pc + 1) L (.int v :: S) sh μ k n) : am_W C cc pc L (S) sh μ k n :=
  fun p e s m args below meth c F H locs ls hR hl hL => lv_iconst F.1 F.2.1 hd hv (kk p e s m args below meth c F H locs ls hR hl hL)
theorem aw_bipush {z : Int} {v : Int32} (hd : decode cc pc = .ok (.bipush z, 2)) (hv : (Int8.ofInt z).toInt32 = v) (kk : am_W C cc (pc + 2) L (.int v :: S) sh μ k n) : am_W C cc pc L (S) sh μ k n :=
  fun p e s m args below meth c F H locs ls hR hl hL => lv_bipush F.1 F.2.1 hd hv (kk p e s m args below meth c F H locs ls hR hl hL)
theorem aw_sipush {z : Int} {v : Int32} (hd : decode cc pc = .ok (.sipush z, 3)) (hv : (Int16.ofInt z).toInt32 = v) (kk : am_W C cc (pc + 3) L (.int v :: S) sh μ k n) : am_W C cc pc L (S) sh μ k n :=
  fun p e s m args below meth c F H locs ls hR hl hL => lv_sipush F.1 F.2.1 hd hv (kk p e s m args below meth c F H locs ls hR hl hL)
theorem aw_lconst {z : Fin 2} {v : Int64} (hd : decode cc pc = .ok (.lconst z, 1)) (hv : Int64.ofNat (z : Nat) = v) (kk : am_W C cc (pc + 1) L (.long v :: S) sh μ k n) : am_W C cc pc L (S) sh μ k n :=
  fun p e s m args below meth c F H locs ls hR hl hL => lv_lconst F.1 F.2.1 hd hv (kk p e s m args below meth c F H locs ls hR hl hL)
theorem aw_ldc {i : Nat} {v : Int32} (hd : decode cc pc = .ok (.ldc i, 2)) (hw : Cond.constant C.2.1 i v ∈ am_TB) (kk : am_W C cc (pc + 2) L (.int v :: S) sh μ k n) : am_W C cc pc L (S) sh μ k n :=
  fun p e s m args below meth c F H locs ls hR hl hL => lv_ldc F.1 F.2.1 F.2.2.2.2.2.1 (F.2.2.2.2.2.2.1 _ hw) hd (kk p e s m args below meth c F H locs ls hR hl hL)
theorem aw_ldcw {i : Nat} {v : Int32} (hd : decode cc pc = .ok (.ldc_w i, 3)) (hw : Cond.constant C.2.1 i v ∈ am_TB) (kk : am_W C cc (pc + 3) L (.int v :: S) sh μ k n) : am_W C cc pc L (S) sh μ k n :=
  fun p e s m args below meth c F H locs ls hR hl hL => lv_ldcw F.1 F.2.1 F.2.2.2.2.2.1 (F.2.2.2.2.2.2.1 _ hw) hd (kk p e s m args below meth c F H locs ls hR hl hL)
theorem aw_ldc2 {i : Nat} {v : Int64} (hd : decode cc pc = .ok (.ldc2_w i, 3)) (hw : Cond.constantLong C.2.1 i v ∈ am_TB) (kk : am_W C cc (pc + 3) L (.long v :: S) sh μ k n) : am_W C cc pc L (S) sh μ k n :=
  fun p e s m args below meth c F H locs ls hR hl hL => lv_ldc2 F.1 F.2.1 F.2.2.2.2.2.1 (F.2.2.2.2.2.2.1 _ hw) hd (kk p e s m args below meth c F H locs ls hR hl hL)
theorem aw_iload_n {j : Fin 4} {x : Int32} (hd : decode cc pc = .ok (.iload_n j, 1)) (hg : am_gl L j = some (.int x)) (kk : am_W C cc (pc + 1) L (.int x :: S) sh μ k n) : am_W C cc pc L (S) sh μ k n :=
  fun p e s m args below meth c F H locs ls hR hl hL => lv_iload_n F.1 F.2.1 hd rfl (hL.2.2 _ (am_pl_mem hg)) (kk p e s m args below meth c F H locs ls hR hl hL)
theorem aw_iload {j : Nat} {x : Int32} (hd : decode cc pc = .ok (.iload j, 2)) (hg : am_gl L j = some (.int x)) (kk : am_W C cc (pc + 2) L (.int x :: S) sh μ k n) : am_W C cc pc L (S) sh μ k n :=
  fun p e s m args below meth c F H locs ls hR hl hL => lv_iload F.1 F.2.1 hd (hL.2.2 _ (am_pl_mem hg)) (kk p e s m args below meth c F H locs ls hR hl hL)
theorem aw_istore_n {j : Fin 4} {x : Int32} (hd : decode cc pc = .ok (.istore_n j, 1)) (hj : (j : Nat) < C.2.2.2.1) (kk : am_W C cc (pc + 1) (am_sl L j (.int x)) (S) sh μ k n) : am_W C cc pc L (.int x :: S) sh μ k n :=
  fun p e s m args below meth c F H locs ls hR hl hL => lv_istore_n F.1 F.2.1 hd rfl hL hj rfl (fun ls' hl' => kk p e s m args below meth c F H locs ls' hR hl (am_has1 (v := .int x) hl'))
theorem aw_istore {j : Nat} {x : Int32} (hd : decode cc pc = .ok (.istore j, 2)) (hj : (j : Nat) < C.2.2.2.1) (kk : am_W C cc (pc + 2) (am_sl L j (.int x)) (S) sh μ k n) : am_W C cc pc L (.int x :: S) sh μ k n :=
  fun p e s m args below meth c F H locs ls hR hl hL => lv_istore F.1 F.2.1 hd hL hj rfl (fun ls' hl' => kk p e s m args below meth c F H locs ls' hR hl (am_has1 (v := .int x) hl'))
theorem aw_lload_n {j : Fin 4} {x : Int64} (hd : decode cc pc = .ok (.lload_n j, 1)) (hg : am_gl L j = some (.long x)) (kk : am_W C cc (pc + 1) L (.long x :: S) sh μ k n) : am_W C cc pc L (S) sh μ k n :=
  fun p e s m args below meth c F H locs ls hR hl hL => lv_lload_n F.1 F.2.1 hd rfl (hL.2.2 _ (am_pl_mem hg)) (kk p e s m args below meth c F H locs ls hR hl hL)
theorem aw_lload {j : Nat} {x : Int64} (hd : decode cc pc = .ok (.lload j, 2)) (hg : am_gl L j = some (.long x)) (kk : am_W C cc (pc + 2) L (.long x :: S) sh μ k n) : am_W C cc pc L (S) sh μ k n :=
  fun p e s m args below meth c F H locs ls hR hl hL => lv_lload F.1 F.2.1 hd (hL.2.2 _ (am_pl_mem hg)) (kk p e s m args below meth c F H locs ls hR hl hL)
theorem aw_lstore_n {j : Fin 4} {x : Int64} (hd : decode cc pc = .ok (.lstore_n j, 1)) (hj : (j : Nat) + 1 < C.2.2.2.1) (kk : am_W C cc (pc + 1) (am_s2 L j (.long x)) (S) sh μ k n) : am_W C cc pc L (.long x :: S) sh μ k n :=
  fun p e s m args below meth c F H locs ls hR hl hL => lv_lstore_n F.1 F.2.1 hd rfl hL hj rfl (fun ls' hl' => kk p e s m args below meth c F H locs ls' hR hl (am_has2 (v := .long x) hl'))
theorem aw_lstore {j : Nat} {x : Int64} (hd : decode cc pc = .ok (.lstore j, 2)) (hj : (j : Nat) + 1 < C.2.2.2.1) (kk : am_W C cc (pc + 2) (am_s2 L j (.long x)) (S) sh μ k n) : am_W C cc pc L (.long x :: S) sh μ k n :=
  fun p e s m args below meth c F H locs ls hR hl hL => lv_lstore F.1 F.2.1 hd hL hj rfl (fun ls' hl' => kk p e s m args below meth c F H locs ls' hR hl (am_has2 (v := .long x) hl'))
theorem aw_aload_n {j : Fin 4} {x : Nat} (hd : decode cc pc = .ok (.aload_n j, 1)) (hg : am_gl L j = some (.ref x)) (kk : am_W C cc (pc + 1) L (.ref x :: S) sh μ k n) : am_W C cc pc L (S) sh μ k n :=
  fun p e s m args below meth c F H locs ls hR hl hL => lv_aload_n F.1 F.2.1 hd rfl (hL.2.2 _ (am_pl_mem hg)) (kk p e s m args below meth c F H locs ls hR hl hL)
theorem aw_aload {j : Nat} {x : Nat} (hd : decode cc pc = .ok (.aload j, 2)) (hg : am_gl L j = some (.ref x)) (kk : am_W C cc (pc + 2) L (.ref x :: S) sh μ k n) : am_W C cc pc L (S) sh μ k n :=
  fun p e s m args below meth c F H locs ls hR hl hL => lv_aload F.1 F.2.1 hd (hL.2.2 _ (am_pl_mem hg)) (kk p e s m args below meth c F H locs ls hR hl hL)
theorem aw_astore_n {j : Fin 4} {x : Nat} (hd : decode cc pc = .ok (.astore_n j, 1)) (hj : (j : Nat) < C.2.2.2.1) (kk : am_W C cc (pc + 1) (am_sl L j (.ref x)) (S) sh μ k n) : am_W C cc pc L (.ref x :: S) sh μ k n :=
  fun p e s m args below meth c F H locs ls hR hl hL => lv_astore_n F.1 F.2.1 hd rfl hL hj rfl (fun ls' hl' => kk p e s m args below meth c F H locs ls' hR hl (am_has1 (v := .ref x) hl'))
theorem aw_astore {j : Nat} {x : Nat} (hd : decode cc pc = .ok (.astore j, 2)) (hj : (j : Nat) < C.2.2.2.1) (kk : am_W C cc (pc + 2) (am_sl L j (.ref x)) (S) sh μ k n) : am_W C cc pc L (.ref x :: S) sh μ k n :=
  fun p e s m args below meth c F H locs ls hR hl hL => lv_astore F.1 F.2.1 hd hL hj rfl (fun ls' hl' => kk p e s m args below meth c F H locs ls' hR hl (am_has1 (v := .ref x) hl'))
theorem aw_iadd {x y : Int32} (hd : decode cc pc = .ok (.iadd, 1)) (kk : am_W C cc (pc + 1) L (.int (x + y) :: S) sh μ k n) : am_W C cc pc L (.int y :: .int x :: S) sh μ k n :=
  fun p e s m args below meth c F H locs ls hR hl hL => lv_iadd F.1 F.2.1 hd (kk p e s m args below meth c F H locs ls hR hl hL)
theorem aw_isub {x y : Int32} (hd : decode cc pc = .ok (.isub, 1)) (kk : am_W C cc (pc + 1) L (.int (x - y) :: S) sh μ k n) : am_W C cc pc L (.int y :: .int x :: S) sh μ k n :=
  fun p e s m args below meth c F H locs ls hR hl hL => lv_isub F.1 F.2.1 hd (kk p e s m args below meth c F H locs ls hR hl hL)
theorem aw_imul {x y : Int32} (hd : decode cc pc = .ok (.imul, 1)) (kk : am_W C cc (pc + 1) L (.int (x * y) :: S) sh μ k n) : am_W C cc pc L (.int y :: .int x :: S) sh μ k n :=
  fun p e s m args below meth c F H locs ls hR hl hL => lv_imul F.1 F.2.1 hd (kk p e s m args below meth c F H locs ls hR hl hL)
theorem aw_iand {x y : Int32} (hd : decode cc pc = .ok (.iand, 1)) (kk : am_W C cc (pc + 1) L (.int (x &&& y) :: S) sh μ k n) : am_W C cc pc L (.int y :: .int x :: S) sh μ k n :=
  fun p e s m args below meth c F H locs ls hR hl hL => lv_iand F.1 F.2.1 hd (kk p e s m args below meth c F H locs ls hR hl hL)
theorem aw_ior {x y : Int32} (hd : decode cc pc = .ok (.ior, 1)) (kk : am_W C cc (pc + 1) L (.int (x ||| y) :: S) sh μ k n) : am_W C cc pc L (.int y :: .int x :: S) sh μ k n :=
  fun p e s m args below meth c F H locs ls hR hl hL => lv_ior F.1 F.2.1 hd (kk p e s m args below meth c F H locs ls hR hl hL)
theorem aw_idiv {x y : Int32} (hd : decode cc pc = .ok (.idiv, 1)) (h0 : ¬ y = 0) (kk : am_W C cc (pc + 1) L (.int (x / y) :: S) sh μ k n) : am_W C cc pc L (.int y :: .int x :: S) sh μ k n :=
  fun p e s m args below meth c F H locs ls hR hl hL => lv_idiv F.1 F.2.1 hd h0 (kk p e s m args below meth c F H locs ls hR hl hL)
theorem aw_irem {x y : Int32} (hd : decode cc pc = .ok (.irem, 1)) (h0 : ¬ y = 0) (kk : am_W C cc (pc + 1) L (.int (x - x / y * y) :: S) sh μ k n) : am_W C cc pc L (.int y :: .int x :: S) sh μ k n :=
  fun p e s m args below meth c F H locs ls hR hl hL => lv_irem F.1 F.2.1 hd h0 (kk p e s m args below meth c F H locs ls hR hl hL)
theorem aw_ineg {x : Int32} (hd : decode cc pc = .ok (.ineg, 1)) (kk : am_W C cc (pc + 1) L (.int (-x) :: S) sh μ k n) : am_W C cc pc L (.int x :: S) sh μ k n :=
  fun p e s m args below meth c F H locs ls hR hl hL => lv_ineg F.1 F.2.1 hd (kk p e s m args below meth c F H locs ls hR hl hL)
theorem aw_ishl {x y : Int32} (hd : decode cc pc = .ok (.ishl, 1)) (kk : am_W C cc (pc + 1) L (.int (x <<< (y &&& 31)) :: S) sh μ k n) : am_W C cc pc L (.int y :: .int x :: S) sh μ k n :=
  fun p e s m args below meth c F H locs ls hR hl hL => lv_ishl F.1 F.2.1 hd (kk p e s m args below meth c F H locs ls hR hl hL)
theorem aw_ishr {x y : Int32} (hd : decode cc pc = .ok (.ishr, 1)) (kk : am_W C cc (pc + 1) L (.int (x >>> (y &&& 31)) :: S) sh μ k n) : am_W C cc pc L (.int y :: .int x :: S) sh μ k n :=
  fun p e s m args below meth c F H locs ls hR hl hL => lv_ishr F.1 F.2.1 hd (kk p e s m args below meth c F H locs ls hR hl hL)
theorem aw_iushr {x y : Int32} (hd : decode cc pc = .ok (.iushr, 1)) (kk : am_W C cc (pc + 1) L (.int ((x.toUInt32 >>> (y.toUInt32 &&& Int32.toUInt32 31)).toInt32) :: S) sh μ k n) : am_W C cc pc L (.int y :: .int x :: S) sh μ k n :=
  fun p e s m args below meth c F H locs ls hR hl hL => lv_iushr F.1 F.2.1 hd rfl (kk p e s m args below meth c F H locs ls hR hl hL)
theorem aw_ladd {x y : Int64} (hd : decode cc pc = .ok (.ladd, 1)) (kk : am_W C cc (pc + 1) L (.long (x + y) :: S) sh μ k n) : am_W C cc pc L (.long y :: .long x :: S) sh μ k n :=
  fun p e s m args below meth c F H locs ls hR hl hL => lv_ladd F.1 F.2.1 hd (kk p e s m args below meth c F H locs ls hR hl hL)
theorem aw_lmul {x y : Int64} (hd : decode cc pc = .ok (.lmul, 1)) (kk : am_W C cc (pc + 1) L (.long (x * y) :: S) sh μ k n) : am_W C cc pc L (.long y :: .long x :: S) sh μ k n :=
  fun p e s m args below meth c F H locs ls hR hl hL => lv_lmul F.1 F.2.1 hd (kk p e s m args below meth c F H locs ls hR hl hL)
theorem aw_ldiv {x y : Int64} (hd : decode cc pc = .ok (.ldiv, 1)) (h0 : ¬ y = 0) (kk : am_W C cc (pc + 1) L (.long (x / y) :: S) sh μ k n) : am_W C cc pc L (.long y :: .long x :: S) sh μ k n :=
  fun p e s m args below meth c F H locs ls hR hl hL => lv_ldiv F.1 F.2.1 hd h0 (kk p e s m args below meth c F H locs ls hR hl hL)
theorem aw_lrem {x y : Int64} (hd : decode cc pc = .ok (.lrem, 1)) (h0 : ¬ y = 0) (kk : am_W C cc (pc + 1) L (.long (x - x / y * y) :: S) sh μ k n) : am_W C cc pc L (.long y :: .long x :: S) sh μ k n :=
  fun p e s m args below meth c F H locs ls hR hl hL => lv_lrem F.1 F.2.1 hd h0 (kk p e s m args below meth c F H locs ls hR hl hL)
theorem aw_lcmp {x y : Int64} (hd : decode cc pc = .ok (.lcmp, 1)) (kk : am_W C cc (pc + 1) L (.int (lg_cmp x y) :: S) sh μ k n) : am_W C cc pc L (.long y :: .long x :: S) sh μ k n :=
  fun p e s m args below meth c F H locs ls hR hl hL => W.lcmp F.1 F.2.1 hd (kk p e s m args below meth c F H locs ls hR hl hL)
theorem aw_i2l {x : Int32} (hd : decode cc pc = .ok (.i2l, 1)) (kk : am_W C cc (pc + 1) L (.long x.toInt64 :: S) sh μ k n) : am_W C cc pc L (.int x :: S) sh μ k n :=
  fun p e s m args below meth c F H locs ls hR hl hL => lv_i2l F.1 F.2.1 hd rfl (kk p e s m args below meth c F H locs ls hR hl hL)
theorem aw_l2i {x : Int64} (hd : decode cc pc = .ok (.l2i, 1)) (kk : am_W C cc (pc + 1) L (.int x.toInt32 :: S) sh μ k n) : am_W C cc pc L (.long x :: S) sh μ k n :=
  fun p e s m args below meth c F H locs ls hR hl hL => lv_l2i F.1 F.2.1 hd rfl (kk p e s m args below meth c F H locs ls hR hl hL)
theorem aw_i2b {x : Int32} (hd : decode cc pc = .ok (.i2b, 1)) (kk : am_W C cc (pc + 1) L (.int x.toInt8.toInt32 :: S) sh μ k n) : am_W C cc pc L (.int x :: S) sh μ k n :=
  fun p e s m args below meth c F H locs ls hR hl hL => lv_i2b F.1 F.2.1 hd rfl (kk p e s m args below meth c F H locs ls hR hl hL)
theorem aw_i2s {x : Int32} (hd : decode cc pc = .ok (.i2s, 1)) (kk : am_W C cc (pc + 1) L (.int x.toInt16.toInt32 :: S) sh μ k n) : am_W C cc pc L (.int x :: S) sh μ k n :=
  fun p e s m args below meth c F H locs ls hR hl hL => lv_i2s F.1 F.2.1 hd rfl (kk p e s m args below meth c F H locs ls hR hl hL)
theorem aw_dup {v : Value} (hd : decode cc pc = .ok (.dup, 1)) (h1 : v.category = 1) (kk : am_W C cc (pc + 1) L (v :: v :: S) sh μ k n) : am_W C cc pc L (v :: S) sh μ k n :=
  fun p e s m args below meth c F H locs ls hR hl hL => lv_dup F.1 F.2.1 hd ((am_rv_cat _ v).trans h1) (kk p e s m args below meth c F H locs ls hR hl hL)
theorem aw_dup2 {v w : Value} (hd : decode cc pc = .ok (.dup2, 1)) (h1 : v.category = 1) (h2 : w.category = 1) (kk : am_W C cc (pc + 1) L (v :: w :: v :: w :: S) sh μ k n) : am_W C cc pc L (v :: w :: S) sh μ k n :=
  fun p e s m args below meth c F H locs ls hR hl hL => lv_dup2_11 F.1 F.2.1 hd ((am_rv_cat _ v).trans h1) ((am_rv_cat _ w).trans h2) (kk p e s m args below meth c F H locs ls hR hl hL)
theorem aw_goto {off : Int} {tgt : Nat} (hd : decode cc pc = .ok (.goto off, 3)) (ht : (pc : Int) + off = (tgt : Int)) (kk : am_W C cc (tgt) L (S) sh μ k n) : am_W C cc pc L (S) sh μ k n :=
  fun p e s m args below meth c F H locs ls hR hl hL => lv_goto F.1 F.2.1 hd ht (kk p e s m args below meth c F H locs ls hR hl hL)
theorem aw_iinc {j : Nat} {z : Int} {x v : Int32} (hd : decode cc pc = .ok (.iinc j z, 3)) (hg : am_gl L j = some (.int x)) (hv : x + Int32.ofInt z = v) (hj : j < C.2.2.2.1) (kk : am_W C cc (pc + 3) (am_sl L j (.int v)) S sh μ k n) : am_W C cc pc L S sh μ k n := by
  intro p e s m args below meth c F H locs ls hR hl hL
  obtain ⟨i, hi⟩ := List.mem_iff_getElem?.mp (am_pl_mem (b := C.1.2.2.1.size) hg)
  exact lv_iinc F.1 F.2.1 hd hL hi hv hj rfl (fun ls' hl' => kk p e s m args below meth c F H locs ls' hR hl (am_has1 (v := .int v) hl'))
theorem aw_if_eq {x : Int32} {off : Int} {tgt : Nat} (hd : decode cc pc = .ok (.ifCond .eq off, 3)) (ht : (pc : Int) + off = (tgt : Int)) (kt : x = 0 → am_W C cc tgt L S sh μ k n) (kf : ¬ x = 0 → am_W C cc (pc + 3) L S sh μ k n) : am_W C cc pc L (.int x :: S) sh μ k n :=
  fun p e s m args below meth c F H locs ls hR hl hL => lv_if_eq F.1 F.2.1 hd ht (fun q => kt q p e s m args below meth c F H locs ls hR hl hL) (fun q => kf q p e s m args below meth c F H locs ls hR hl hL)
theorem aw_if_ne {x : Int32} {off : Int} {tgt : Nat} (hd : decode cc pc = .ok (.ifCond .ne off, 3)) (ht : (pc : Int) + off = (tgt : Int)) (kt : ¬ x = 0 → am_W C cc tgt L S sh μ k n) (kf : x = 0 → am_W C cc (pc + 3) L S sh μ k n) : am_W C cc pc L (.int x :: S) sh μ k n :=
  fun p e s m args below meth c F H locs ls hR hl hL => lv_if_ne F.1 F.2.1 hd ht (fun q => kt q p e s m args below meth c F H locs ls hR hl hL) (fun q => kf q p e s m args below meth c F H locs ls hR hl hL)
theorem aw_if_lt {x : Int32} {off : Int} {tgt : Nat} (hd : decode cc pc = .ok (.ifCond .lt off, 3)) (ht : (pc : Int) + off = (tgt : Int)) (kt : x < 0 → am_W C cc tgt L S sh μ k n) (kf : ¬ x < 0 → am_W C cc (pc + 3) L S sh μ k n) : am_W C cc pc L (.int x :: S) sh μ k n :=
  fun p e s m args below meth c F H locs ls hR hl hL => lv_if_lt F.1 F.2.1 hd ht (fun q => kt q p e s m args below meth c F H locs ls hR hl hL) (fun q => kf q p e s m args below meth c F H locs ls hR hl hL)
theorem aw_if_ge {x : Int32} {off : Int} {tgt : Nat} (hd : decode cc pc = .ok (.ifCond .ge off, 3)) (ht : (pc : Int) + off = (tgt : Int)) (kt : 0 ≤ x → am_W C cc tgt L S sh μ k n) (kf : ¬ 0 ≤ x → am_W C cc (pc + 3) L S sh μ k n) : am_W C cc pc L (.int x :: S) sh μ k n :=
  fun p e s m args below meth c F H locs ls hR hl hL => lv_if_ge F.1 F.2.1 hd ht (fun q => kt q p e s m args below meth c F H locs ls hR hl hL) (fun q => kf q p e s m args below meth c F H locs ls hR hl hL)
theorem aw_if_gt {x : Int32} {off : Int} {tgt : Nat} (hd : decode cc pc = .ok (.ifCond .gt off, 3)) (ht : (pc : Int) + off = (tgt : Int)) (kt : 0 < x → am_W C cc tgt L S sh μ k n) (kf : ¬ 0 < x → am_W C cc (pc + 3) L S sh μ k n) : am_W C cc pc L (.int x :: S) sh μ k n :=
  fun p e s m args below meth c F H locs ls hR hl hL => lv_if_gt F.1 F.2.1 hd ht (fun q => kt q p e s m args below meth c F H locs ls hR hl hL) (fun q => kf q p e s m args below meth c F H locs ls hR hl hL)
theorem aw_if_le {x : Int32} {off : Int} {tgt : Nat} (hd : decode cc pc = .ok (.ifCond .le off, 3)) (ht : (pc : Int) + off = (tgt : Int)) (kt : x ≤ 0 → am_W C cc tgt L S sh μ k n) (kf : ¬ x ≤ 0 → am_W C cc (pc + 3) L S sh μ k n) : am_W C cc pc L (.int x :: S) sh μ k n :=
  fun p e s m args below meth c F H locs ls hR hl hL => lv_if_le F.1 F.2.1 hd ht (fun q => kt q p e s m args below meth c F H locs ls hR hl hL) (fun q => kf q p e s m args below meth c F H locs ls hR hl hL)
theorem aw_icmp_eq {x y : Int32} {off : Int} {tgt : Nat} (hd : decode cc pc = .ok (.if_icmp .eq off, 3)) (ht : (pc : Int) + off = (tgt : Int)) (kt : x = y → am_W C cc tgt L S sh μ k n) (kf : ¬ x = y → am_W C cc (pc + 3) L S sh μ k n) : am_W C cc pc L (.int y :: .int x :: S) sh μ k n :=
  fun p e s m args below meth c F H locs ls hR hl hL => lv_icmp_eq F.1 F.2.1 hd ht (fun q => kt q p e s m args below meth c F H locs ls hR hl hL) (fun q => kf q p e s m args below meth c F H locs ls hR hl hL)
theorem aw_icmp_ne {x y : Int32} {off : Int} {tgt : Nat} (hd : decode cc pc = .ok (.if_icmp .ne off, 3)) (ht : (pc : Int) + off = (tgt : Int)) (kt : ¬ x = y → am_W C cc tgt L S sh μ k n) (kf : x = y → am_W C cc (pc + 3) L S sh μ k n) : am_W C cc pc L (.int y :: .int x :: S) sh μ k n :=
  fun p e s m args below meth c F H locs ls hR hl hL => lv_icmp_ne F.1 F.2.1 hd ht (fun q => kt q p e s m args below meth c F H locs ls hR hl hL) (fun q => kf q p e s m args below meth c F H locs ls hR hl hL)
theorem aw_icmp_lt {x y : Int32} {off : Int} {tgt : Nat} (hd : decode cc pc = .ok (.if_icmp .lt off, 3)) (ht : (pc : Int) + off = (tgt : Int)) (kt : x < y → am_W C cc tgt L S sh μ k n) (kf : ¬ x < y → am_W C cc (pc + 3) L S sh μ k n) : am_W C cc pc L (.int y :: .int x :: S) sh μ k n :=
  fun p e s m args below meth c F H locs ls hR hl hL => lv_icmp_lt F.1 F.2.1 hd ht (fun q => kt q p e s m args below meth c F H locs ls hR hl hL) (fun q => kf q p e s m args below meth c F H locs ls hR hl hL)
theorem aw_icmp_ge {x y : Int32} {off : Int} {tgt : Nat} (hd : decode cc pc = .ok (.if_icmp .ge off, 3)) (ht : (pc : Int) + off = (tgt : Int)) (kt : y ≤ x → am_W C cc tgt L S sh μ k n) (kf : ¬ y ≤ x → am_W C cc (pc + 3) L S sh μ k n) : am_W C cc pc L (.int y :: .int x :: S) sh μ k n :=
  fun p e s m args below meth c F H locs ls hR hl hL => lv_icmp_ge F.1 F.2.1 hd ht (fun q => kt q p e s m args below meth c F H locs ls hR hl hL) (fun q => kf q p e s m args below meth c F H locs ls hR hl hL)
theorem aw_icmp_gt {x y : Int32} {off : Int} {tgt : Nat} (hd : decode cc pc = .ok (.if_icmp .gt off, 3)) (ht : (pc : Int) + off = (tgt : Int)) (kt : y < x → am_W C cc tgt L S sh μ k n) (kf : ¬ y < x → am_W C cc (pc + 3) L S sh μ k n) : am_W C cc pc L (.int y :: .int x :: S) sh μ k n :=
  fun p e s m args below meth c F H locs ls hR hl hL => lv_icmp_gt F.1 F.2.1 hd ht (fun q => kt q p e s m args below meth c F H locs ls hR hl hL) (fun q => kf q p e s m args below meth c F H locs ls hR hl hL)
theorem aw_icmp_le {x y : Int32} {off : Int} {tgt : Nat} (hd : decode cc pc = .ok (.if_icmp .le off, 3)) (ht : (pc : Int) + off = (tgt : Int)) (kt : x ≤ y → am_W C cc tgt L S sh μ k n) (kf : ¬ x ≤ y → am_W C cc (pc + 3) L S sh μ k n) : am_W C cc pc L (.int y :: .int x :: S) sh μ k n :=
  fun p e s m args below meth c F H locs ls hR hl hL => lv_icmp_le F.1 F.2.1 hd ht (fun q => kt q p e s m args below meth c F H locs ls hR hl hL) (fun q => kf q p e s m args below meth c F H locs ls hR hl hL)
theorem aw_tableIn {dflt lo hi : Int} {offs : Array Int} {len : Nat} {x : Int32} {off : Int} {tgt : Nat} (hd : decode cc pc = .ok (.tableswitch dflt lo hi offs, len)) (h1 : ¬ x.toInt < lo) (h2 : ¬ hi < x.toInt) (ho : offs[(x.toInt - lo).toNat]? = some off) (ht : (pc : Int) + off = (tgt : Int)) (kk : am_W C cc tgt L S sh μ k n) : am_W C cc pc L (.int x :: S) sh μ k n :=
  fun p e s m args below meth c F H locs ls hR hl hL => lv_tableIn F.1 F.2.1 hd h1 h2 ho ht (kk p e s m args below meth c F H locs ls hR hl hL)
theorem aw_tableOut {dflt lo hi : Int} {offs : Array Int} {len : Nat} {x : Int32} {tgt : Nat} (hd : decode cc pc = .ok (.tableswitch dflt lo hi offs, len)) (h1 : x.toInt < lo ∨ hi < x.toInt) (ht : (pc : Int) + dflt = (tgt : Int)) (kk : am_W C cc tgt L S sh μ k n) : am_W C cc pc L (.int x :: S) sh μ k n :=
  fun p e s m args below meth c F H locs ls hR hl hL => lv_tableOut F.1 F.2.1 hd h1 ht (kk p e s m args below meth c F H locs ls hR hl hL)
theorem aw_lookup {dflt : Int} {ps : Array (Int × Int)} {len : Nat} {x : Int32} {off : Int} {tgt : Nat} (hd : decode cc pc = .ok (.lookupswitch dflt ps, len)) (hp : (ps.toList.zip (ps.toList.drop 1)).all (fun (a, next) => a.1 < next.1) = true) (ho : Op.lookupswitch.offset ps.toList dflt x.toInt = off) (ht : (pc : Int) + off = (tgt : Int)) (kk : am_W C cc tgt L S sh μ k n) : am_W C cc pc L (.int x :: S) sh μ k n :=
  fun p e s m args below meth c F H locs ls hR hl hL => lv_lookup F.1 F.2.1 hd hp ho ht (kk p e s m args below meth c F H locs ls hR hl hL)
end AW
end
section
/-! ===== fields ===== -/
def am_gf (own : String) (idx ci j : Nat) : Prop := ∃ (Cn : String) (T : u_T) (N : Nat), vwCl[ci]? = some (Cn, T, N) ∧ ci < 100 ∧ j < N ∧ Cond.fieldLink own idx (T j).1 (T j).2.1 (T j).2.2.1 ∈ am_TB ∧ ∀ w ∈ u_ws Cn T N, w ∈ am_TB
def am_pf (own : String) (idx ci j : Nat) (fin : Bool) (ty : FieldType) : Prop := ∃ (Cn : String) (T : u_T) (N : Nat) (ty0 : Nat → FieldType), vwCl[ci]? = some (Cn, T, N) ∧ ci < 100 ∧ j < N ∧ Cond.fieldLink own idx (T j).1 (T j).2.1 (T j).2.2.1 ∈ am_TB ∧ (∀ w ∈ u_ws Cn T N, w ∈ am_TB) ∧
  (∀ k, k < N → parseFieldDescriptor (T k).2.2.1 = some (ty0 k)) ∧ (∀ a, a < N → ∀ b, b < N → a ≠ b → (T a).2.1 ≠ (T b).2.1) ∧ (T j).2.2.2 = fin ∧ ty0 j = ty ∧ (fin = true → (T j).1 = own)
theorem am_vat_i {c : am_S} {row : Nat → Int32} {j : Nat} (h : c.2.2[j]? = some none) : am_vat c row j = .int (row j) := by simp [am_vat, h]
theorem am_vat_o {c : am_S} {row : Nat → Int32} {j : Nat} (h : c.2.2[j]? = none) : am_vat c row j = .int (row j) := by simp [am_vat, h]
theorem am_vat_r {c : am_S} {row : Nat → Int32} {j : Nat} {v : Value} (h : c.2.2[j]? = some (some v)) : am_vat c row j = v := by simp [am_vat, h]
section AH
variable {C : am_C} {cc : ByteArray} {pc : Nat} {L : am_L} {S : List Value} {sh : List am_S} {μ : am_M} {k n : Nat}
theorem aw_get {idx ci j a N : Nat} {rs : List (Option Value)} {v : Value} (hd : decode cc pc = .ok (.getfield idx, 3)) (hg : am_gf C.2.1 idx ci j) (hc : sh[a]? = some (ci, N, rs)) (hv : am_vat (ci, N, rs) (μ a) j = v)
    (kk : am_W C cc (pc + 3) L (v :: S) sh μ k n) : am_W C cc pc L (.ref a :: S) sh μ k n := by
  intro p e s m args below meth c F H locs ls hR hl hL
  have kk := kk p e s m args below meth c F H locs ls hR hl hL
  obtain ⟨hx, hb, hml, hr, hlk, hown, hts, hX, hn⟩ := F
  obtain ⟨Cn, T, N', hcl, h100, hj, hlink, hin⟩ := hg
  rcases hR.2.2 a _ hc with ⟨-, r, hr', cell, q1, q2, q3, q4⟩ | ⟨hge, -⟩
  · have e : r = (Cn, T, N') := Option.some.inj (hr'.symm.trans hcl)
    subst e
    obtain ⟨hS, hfc, kC, hkC, hkind⟩ := hX.1.1 ci _ hcl
    obtain ⟨cf, kf, fi, f, hi, hsl⟩ := hS j hj
    refine W.getf hx hb hown (hts _ hlink) hi (u_facts hfc hkC (u_lays hts hin hj) hi).1 q1 (by rw [q3]; exact fun h => by cases h) (v := am_rv C.1.2.2.1.size v) ?_ rfl rfl hd kk
    rw [hsl, q4 j hj]
    subst hv
    rfl
  · exact absurd hge (by simp; omega)
/-- an int field -/
theorem aw_gi {idx ci j a N : Nat} {rs : List (Option Value)} (hd : decode cc pc = .ok (.getfield idx, 3)) (hg : am_gf C.2.1 idx ci j) (hc : sh[a]? = some (ci, N, rs)) (hv : rs[j]? = some none)
    (kk : am_W C cc (pc + 3) L (.int (μ a j) :: S) sh μ k n) : am_W C cc pc L (.ref a :: S) sh μ k n := aw_get hd hg hc (am_vat_i hv) kk
/-- a reference field -/
theorem aw_gr {idx ci j a N : Nat} {rs : List (Option Value)} {v : Value} (hd : decode cc pc = .ok (.getfield idx, 3)) (hg : am_gf C.2.1 idx ci j) (hc : sh[a]? = some (ci, N, rs)) (hv : rs[j]? = some (some v))
    (kk : am_W C cc (pc + 3) L (v :: S) sh μ k n) : am_W C cc pc L (.ref a :: S) sh μ k n := aw_get hd hg hc (am_vat_r hv) kk
/-- an int field is written -/
theorem aw_pi {idx ci j a N : Nat} {rs : List (Option Value)} {ty : FieldType} {x : Int32} (hd : decode cc pc = .ok (.putfield idx, 3)) (hg : am_pf C.2.1 idx ci j false ty) (hnar : narrow ty (.int x) = .int x) (hfit : fits ty (.int x) = true) (hc : sh[a]? = some (ci, N, rs)) (hv : rs[j]? = some none)
    (kk : am_W C cc (pc + 3) L S sh (am_up μ a (upd (μ a) j x)) k n) : am_W C cc pc L (.int x :: .ref a :: S) sh μ k n := by
  intro p e s m args below meth c F H locs ls hR hl hL
  have kk := fun H locs hR hl => kk p e s m args below meth c F H locs ls hR hl hL
  obtain ⟨hx, hb, hml, hr, hlk, hown, hts, hX, hn⟩ := F
  obtain ⟨Cn, T, N', ty0, hcl, h100, hj, hlink, hin, hty, hnm, hfin, hty2, -⟩ := hg
  rcases hR.2.2 a _ hc with ⟨-, r, hr', cell, q1, q2, q3, q4⟩ | ⟨hge, -⟩
  · have e : r = (Cn, T, N') := Option.some.inj (hr'.symm.trans hcl)
    subst e
    have hap := va_apart (D := C.1.1) (cl := vwCl) (tys := am_tys C.1.2.1) (own := C.2.1) hts hin ty0 hty hnm hX.1 hcl
    obtain ⟨hS, hfc, kC, hkC, hkind⟩ := hX.1.1 ci _ hcl
    obtain ⟨cf, kf, fi, f, hi, hsl⟩ := hS j hj
    have hlay := hts _ (hin _ (u_in_lay hj))
    unfold u_lay at hlay
    rw [if_neg (by rw [hfin]; decide)] at hlay
    have hst := (u_facts hfc hkC (u_lays hts hin hj) hi).1
    have h6 := u_store hfc hkC hkind hlay hi ((hty j hj).trans (by rw [hty2])) hnar hfit
    refine W.putK hx hb (f := f) ⟨hown, hts _ hlink, ⟨_, _, _, hi⟩, hst⟩ (by rw [q2]; exact h6) q1 q3 (by rw [hsl]; exact k2_hasslot (q4 j hj)) rfl rfl hd fun H' e1 e2 e3 => ?_
    rw [hsl] at e1 ⊢
    refine kk H' _ (hR.sti hc e2 e3 (Or.inl ⟨h100, _, hcl, ?_⟩)) ?_
    · refine t_OB.to (V := updV (fun j => am_rv C.1.2.2.1.size (am_vat (ci, N, rs) (μ a) j)) j (.int x)) ⟨_, e1, q2, q3, t_set q4 hap hj (.int x)⟩ (fun i _ => ?_)
      by_cases hij : i = j
      · subst hij
        simp [updV, am_vat_i (c := (ci, N, rs)) hv, upd, am_rv]
      · simp only [updV, hij, if_false]
        simp [am_vat, upd, hij]
    · intro q hq
      rcases List.mem_append.mp hq with h | h
      · exact hl q h
      · rw [List.mem_singleton.mp h]
        exact Nat.le_add_right _ _
  · exact absurd hge (by simp; omega)
/-- a final reference field, in its constructor -/
theorem aw_pr {idx ci j a N b : Nat} {rs : List (Option Value)} {ty : FieldType} {w : Value} (hd : decode cc pc = .ok (.putfield idx, 3)) (hg : am_pf C.2.1 idx ci j true ty) (hm : C.2.2.1 = "<init>") (hnar : ∀ z : Nat, narrow ty (.ref z) = .ref z) (hfit : ∀ z : Nat, fits ty (.ref z) = true) (hc : sh[a]? = some (ci, N, rs)) (hv : rs[j]? = some (some w))
    (kk : am_W C cc (pc + 3) L S (sh.set a (ci, N, rs.set j (some (.ref b)))) μ k n) : am_W C cc pc L (.ref b :: .ref a :: S) sh μ k n := by
  intro p e s m args below meth c F H locs ls hR hl hL
  have kk := fun H locs hR hl => kk p e s m args below meth c F H locs ls hR hl hL
  obtain ⟨hx, hb, hml, hr, hlk, hown, hts, hX, hn⟩ := F
  obtain ⟨Cn, T, N', ty0, hcl, h100, hj, hlink, hin, hty, hnm, hfin, hty2, hdecl⟩ := hg
  have hdecl := hdecl rfl
  rcases hR.2.2 a _ hc with ⟨-, r, hr', cell, q1, q2, q3, q4⟩ | ⟨hge, -⟩
  · have e : r = (Cn, T, N') := Option.some.inj (hr'.symm.trans hcl)
    subst e
    have hap := va_apart (D := C.1.1) (cl := vwCl) (tys := am_tys C.1.2.1) (own := C.2.1) hts hin ty0 hty hnm hX.1 hcl
    obtain ⟨hS, hfc, kC, hkC, hkind⟩ := hX.1.1 ci _ hcl
    obtain ⟨cf, kf, fi, f, hi, hsl⟩ := hS j hj
    have hlay := hts _ (hin _ (u_in_lay hj))
    unfold u_lay at hlay
    rw [if_pos hfin] at hlay
    have hst := (u_facts hfc hkC (u_lays hts hin hj) hi).1
    have hcf : m.cls = cf := by
      obtain ⟨_, _, c', _, _, _, -, -, hf', -, -, -, hown2, -⟩ := Cond.laysFinal_spec hlay
      have e1 : c' = cf := by have := hi.symm.trans hf'; simp at this; exact this.1.symm
      rw [hdecl] at hown2
      rw [← e1]; exact Option.some.inj (hown.symm.trans hown2)
    have h6 := u_fits hfc hkC hkind (Or.inr hlay) hi ((hty j hj).trans (by rw [hty2])) (hnar (C.1.2.2.1.size + b)) (hfit _)
    refine W.putFinK hx hb hown (hts _ hlink) hi hst hcf (hn.trans hm) (by rw [q2]; exact h6) q1 q3 (by rw [hsl]; exact k2_hasslot (q4 j hj)) rfl rfl hd fun H' e1 e2 e3 => ?_
    rw [hsl] at e1 ⊢
    have h7 := hR.st (f := μ a) (c' := (ci, N, rs.set j (some (.ref b)))) hc e2 e3 (Or.inl ⟨h100, _, hcl, ?_⟩)
    · have h8 : am_up μ a (μ a) = μ := by
        funext z
        by_cases hz : z = a
        · subst hz; rw [am_up_s]
        · rw [am_up_n hz]
      rw [h8] at h7
      refine kk H' _ h7 ?_
      intro q hq
      rcases List.mem_append.mp hq with h | h
      · exact hl q h
      · rw [List.mem_singleton.mp h]
        exact Nat.le_add_right _ _
    · refine t_OB.to (V := updV (fun j => am_rv C.1.2.2.1.size (am_vat (ci, N, rs) (μ a) j)) j (.ref (C.1.2.2.1.size + b))) ⟨_, e1, q2, q3, t_set q4 hap hj _⟩ (fun i _ => ?_)
      have hjl : j < rs.length := (List.getElem?_eq_some_iff.mp hv).1
      by_cases hij : i = j
      · subst hij
        simp [updV, am_vat, am_rv, hjl]
      · simp only [updV, hij, if_false]
        simp [am_vat, List.getElem?_set_ne (Ne.symm hij)]
  · exact absurd hge (by simp; omega)
/-! ===== arrays ===== -/
theorem am_ty (t : Nat) {ty : FieldType} {kA : Nat → ClassId} (h : (am_tys kA)[t]? = some (kA (100 + t), ty)) {G : am_G} {s : State} (e : G.2.1 = kA) (hX : am_X G s) : ArrOfT s (kA (100 + t)) ty ∧ va_RA s (kA (100 + t)) ty := by
  subst e
  exact hX.1.2 t _ h
theorem am_idx {i : Int32} {j N : Nat} (hi : i = nI j) (hj : j < N) (hN : N < 2 ^ 31) : ¬ (i < 0 ∨ N ≤ i.toNatClampNeg) ∧ i.toNatClampNeg = j := by
  subst hi
  exact ⟨nI_in hj hN, nI_clamp (by omega)⟩
theorem aw_iald {a N j : Nat} {i : Int32} (hd : decode cc pc = .ok (.iaload, 1)) (hc : sh[a]? = some (100, N, [])) (hi : i = nI j) (hj : j < N) (hN : N < 2 ^ 31)
    (kk : am_W C cc (pc + 1) L (.int (μ a j) :: S) sh μ k n) : am_W C cc pc L (.int i :: .ref a :: S) sh μ k n := by
  intro p e s m args below meth c F H locs ls hR hl hL
  have kk := kk p e s m args below meth c F H locs ls hR hl hL
  obtain ⟨hx, hb, hml, hr, hlk, hown, hts, hX, hn⟩ := F
  rcases hR.2.2 a _ hc with ⟨h1, -⟩ | ⟨-, h2⟩
  · exact absurd h1 (by simp)
  · obtain ⟨g1, g2⟩ := am_idx hi hj hN
    refine W.iald (v := .int (μ a j)) hx hb h2 ((am_ty 0 rfl rfl hX).1 _ _) (fun q => by cases q) (by show ¬ (i < 0 ∨ (arrV _ _ _).slots.size ≤ _); rw [arrV_size]; exact g1) ?_ rfl rfl hd kk
    rw [g2]
    show (arrV _ _ _).slots[_]? = _
    rw [arrV_read _ _ (show j < N from hj), am_vat_o rfl]
    rfl
theorem aw_zald {a N j : Nat} {i : Int32} (hd : decode cc pc = .ok (.baload, 1)) (hc : sh[a]? = some (101, N, [])) (hi : i = nI j) (hj : j < N) (hN : N < 2 ^ 31)
    (kk : am_W C cc (pc + 1) L (.int (μ a j) :: S) sh μ k n) : am_W C cc pc L (.int i :: .ref a :: S) sh μ k n := by
  intro p e s m args below meth c F H locs ls hR hl hL
  have kk := kk p e s m args below meth c F H locs ls hR hl hL
  obtain ⟨hx, hb, hml, hr, hlk, hown, hts, hX, hn⟩ := F
  rcases hR.2.2 a _ hc with ⟨h1, -⟩ | ⟨-, h2⟩
  · exact absurd h1 (by simp)
  · obtain ⟨g1, g2⟩ := am_idx hi hj hN
    refine W.zald (v := .int (μ a j)) hx hb h2 ((am_ty 1 rfl rfl hX).1 _ _) (fun q => by cases q) (by show ¬ (i < 0 ∨ (arrV _ _ _).slots.size ≤ _); rw [arrV_size]; exact g1) ?_ rfl rfl hd kk
    rw [g2]
    show (arrV _ _ _).slots[_]? = _
    rw [arrV_read _ _ (show j < N from hj), am_vat_o rfl]
    rfl
theorem aw_aald {a N j r t : Nat} {i : Int32} {rs : List (Option Value)} (hd : decode cc pc = .ok (.aaload, 1)) (hc : sh[a]? = some (100 + t, N, rs)) (ht : t = 2 ∨ t = 3 ∨ t = 4) (hi : i = nI j) (hj : j < N) (hN : N < 2 ^ 31) (hv : rs[j]? = some (some (.ref r)))
    (kk : am_W C cc (pc + 1) L (.ref r :: S) sh μ k n) : am_W C cc pc L (.int i :: .ref a :: S) sh μ k n := by
  intro p e s m args below meth c F H locs ls hR hl hL
  have kk := kk p e s m args below meth c F H locs ls hR hl hL
  obtain ⟨hx, hb, hml, hr, hlk, hown, hts, hX, hn⟩ := F
  rcases hR.2.2 a _ hc with ⟨h1, -⟩ | ⟨-, h2⟩
  · exact absurd h1 (by simp)
  · obtain ⟨g1, g2⟩ := am_idx hi hj hN
    have key : ∃ ty : FieldType, ty.isReference = true ∧ ArrOfT s (C.1.2.1 (100 + t)) ty := by
      rcases ht with rfl | rfl | rfl
      · exact ⟨_, rfl, (am_ty 2 rfl rfl hX).1⟩
      · exact ⟨_, rfl, (am_ty 3 rfl rfl hX).1⟩
      · exact ⟨_, rfl, (am_ty 4 rfl rfl hX).1⟩
    obtain ⟨ty, k1, k2⟩ := key
    refine W.aald (v := .ref (C.1.2.2.1.size + r)) hx hb h2 (k2 _ _) k1 (fun q => by cases q) (by show ¬ (i < 0 ∨ (arrV _ _ _).slots.size ≤ _); rw [arrV_size]; exact g1) ?_ rfl rfl hd kk
    rw [g2]
    show (arrV _ _ _).slots[_]? = _
    rw [arrV_read _ _ (show j < N from hj), am_vat_r hv]
    rfl
theorem aw_alen {a N t : Nat} (hd : decode cc pc = .ok (.arraylength, 1)) (hc : sh[a]? = some (100, N, []))
    (kk : am_W C cc (pc + 1) L (.int (nI N) :: S) sh μ k n) : am_W C cc pc L (.ref a :: S) sh μ k n := by
  intro p e s m args below meth c F H locs ls hR hl hL
  have kk := kk p e s m args below meth c F H locs ls hR hl hL
  obtain ⟨hx, hb, hml, hr, hlk, hown, hts, hX, hn⟩ := F
  rcases hR.2.2 a _ hc with ⟨h1, -⟩ | ⟨-, h2⟩
  · exact absurd h1 (by simp)
  · exact W.alen (n := nI N) hx hb h2 ((am_ty 0 rfl rfl hX).1 _ _) (by rw [arrV_size] <;> rfl) rfl rfl hd kk
theorem am_arr_up {ci N j : Nat} {base : Nat} {row : Nat → Int32} {x : Int32} {c : ClassId} : arrV c N (updV (fun i => am_rv base (am_vat (ci, N, []) row i)) j (.int x)) = arrV c N (fun i => am_rv base (am_vat (ci, N, []) (upd row j x) i)) := by
  congr 1
  funext i
  by_cases hij : i = j
  · subst hij
    simp [updV, am_vat, upd, am_rv]
  · simp [updV, am_vat, upd, hij]
theorem aw_iast {a N j : Nat} {i x : Int32} (hd : decode cc pc = .ok (.iastore, 1)) (hc : sh[a]? = some (100, N, [])) (hi : i = nI j) (hj : j < N) (hN : N < 2 ^ 31)
    (kk : am_W C cc (pc + 1) L S sh (am_up μ a (upd (μ a) j x)) k n) : am_W C cc pc L (.int x :: .int i :: .ref a :: S) sh μ k n := by
  intro p e s m args below meth c F H locs ls hR hl hL
  have kk := fun H locs hR hl => kk p e s m args below meth c F H locs ls hR hl hL
  obtain ⟨hx, hb, hml, hr, hlk, hown, hts, hX, hn⟩ := F
  rcases hR.2.2 a _ hc with ⟨h1, -⟩ | ⟨-, h2⟩
  · exact absurd h1 (by simp)
  · obtain ⟨g1, g2⟩ := am_idx hi hj hN
    refine W.iast hx hb h2 ((am_ty 0 rfl rfl hX).1 _ _) (fun q => by cases q) (by show ¬ (i < 0 ∨ (arrV _ _ _).slots.size ≤ _); rw [arrV_size]; exact g1) rfl rfl hd fun H1 e1 e2 e3 => ?_
    refine kk H1 _ (hR.sti hc e2 e3 (Or.inr ⟨Nat.le_refl _, ?_⟩)) ?_
    · rw [e1, g2]
      show some ((arrV _ _ _).setSlot _ _) = _
      rw [arrV_store, am_arr_up]
    · intro q hq
      rcases List.mem_append.mp hq with h | h
      · exact hl q h
      · rw [List.mem_singleton.mp h]
        exact Nat.le_add_right _ _
theorem aw_zast {a N j : Nat} {i x : Int32} (hd : decode cc pc = .ok (.bastore, 1)) (hc : sh[a]? = some (101, N, [])) (hi : i = nI j) (hj : j < N) (hN : N < 2 ^ 31) (hx1 : narrow .boolean (.int x) = .int x)
    (kk : am_W C cc (pc + 1) L S sh (am_up μ a (upd (μ a) j x)) k n) : am_W C cc pc L (.int x :: .int i :: .ref a :: S) sh μ k n := by
  intro p e s m args below meth c F H locs ls hR hl hL
  have kk := fun H locs hR hl => kk p e s m args below meth c F H locs ls hR hl hL
  obtain ⟨hx, hb, hml, hr, hlk, hown, hts, hX, hn⟩ := F
  rcases hR.2.2 a _ hc with ⟨h1, -⟩ | ⟨-, h2⟩
  · exact absurd h1 (by simp)
  · obtain ⟨g1, g2⟩ := am_idx hi hj hN
    refine W.zast hx hb h2 ((am_ty 1 rfl rfl hX).1 _ _) (fun q => by cases q) (by show ¬ (i < 0 ∨ (arrV _ _ _).slots.size ≤ _); rw [arrV_size]; exact g1) rfl rfl hd fun H1 e1 e2 e3 => ?_
    refine kk H1 _ (hR.sti hc e2 e3 (Or.inr ⟨Nat.le_succ _, ?_⟩)) ?_
    · rw [e1, g2, hx1]
      show some ((arrV _ _ _).setSlot _ _) = _
      rw [arrV_store, am_arr_up]
    · intro q hq
      rcases List.mem_append.mp hq with h | h
      · exact hl q h
      · rw [List.mem_singleton.mp h]
        exact Nat.le_add_right _ _
/-! ===== answers ===== -/
theorem aw_iret {ty : FieldType} {x : Int32} (hd : decode cc pc = .ok (.ireturn, 1)) (hr : C.2.2.2.2.1 = some ty) (hnar : narrow ty (.int x) = .int x) (hk : C.2.2.2.2.2.2.1 = k) (hn : C.2.2.2.2.2.2.2.1 = n) (hq : C.2.2.2.2.2.2.2.2 (some (.int x)) sh μ) : am_W C cc pc L [.int x] sh μ k n := by
  intro p e s m args below meth c F H locs ls hR hl hL
  obtain ⟨hx, hb, hml, hr2, hlk, hown, hts, hX, hnm⟩ := F
  subst hk
  subst hn
  exact W.zret hx hb (hr2.trans hr) hnar (fun t ht hW => ⟨some (.int x), sh, μ, rfl, hq, hX.warm hW, by rw [ht]; exact hR⟩) hl hd hlk
theorem aw_lret {x : Int64} (hd : decode cc pc = .ok (.lreturn, 1)) (hr : C.2.2.2.2.1 = some .long) (hk : C.2.2.2.2.2.2.1 = k) (hn : C.2.2.2.2.2.2.2.1 = n) (hq : C.2.2.2.2.2.2.2.2 (some (.long x)) sh μ) : am_W C cc pc L [.long x] sh μ k n := by
  intro p e s m args below meth c F H locs ls hR hl hL
  obtain ⟨hx, hb, hml, hr2, hlk, hown, hts, hX, hnm⟩ := F
  subst hk
  subst hn
  exact W.lret hx hb (hr2.trans hr) (fun t ht hW => ⟨some (.long x), sh, μ, rfl, hq, hX.warm hW, by rw [ht]; exact hR⟩) hl hd hlk
theorem aw_vret (hd : decode cc pc = .ok (.return_, 1)) (hr : C.2.2.2.2.1 = none) (hk : C.2.2.2.2.2.2.1 = k) (hn : C.2.2.2.2.2.2.2.1 = n) (hq : C.2.2.2.2.2.2.2.2 none sh μ) : am_W C cc pc L [] sh μ k n := by
  intro p e s m args below meth c F H locs ls hR hl hL
  obtain ⟨hx, hb, hml, hr2, hlk, hown, hts, hX, hnm⟩ := F
  subst hk
  subst hn
  exact W.vret hx hb (hr2.trans hr) (fun t ht hW => ⟨none, sh, μ, rfl, hq, hX.warm hW, by rw [ht]; exact hR⟩) hl hd hlk
end AH
end
section
/-! ===== calls ===== -/
/-- a method's link, its code, how many parameters -/
def am_ml (own : String) (idx : Nat) (y : MethodName) (cc : ByteArray) (nL : Nat) (ret : Option FieldType) (np : Nat) : Prop :=
  Cond.methodLink own idx y ∈ am_TB ∧ Cond.initialized y.cls ∈ am_TB ∧ Cond.code y cc nL ret ∈ am_TB ∧ y.cls ≠ "java/lang/invoke/MethodHandle" ∧ y.cls ≠ "java/lang/invoke/VarHandle" ∧ (parseMethodDescriptor y.desc).map (fun d => d.parameters.length) = some np ∧ nL ≤ 81
theorem am_blind {G : am_G} {As : List Value} {sh : List am_S} {μ : am_M} : FrameBlind (va_Pc As (fun U => am_X G U ∧ am_R G sh μ U.heap)) := fun a U g mk q => ⟨q.1, am_X.same (u := U) (U := U.calling g mk a) rfl q.2.1, q.2.2⟩
section AC
variable {C : am_C} {cc : ByteArray} {pc : Nat} {L : am_L} {S rest : List Value} {sh : List am_S} {μ : am_M} {k n : Nat}
/-- behind a call -/
theorem am_after {mc ms : Nat} {Q' : Option Value → List am_S → am_M → Prop} {p : Program} {e : Env} {s : State} {m : MethodId} {args a : Array Value} {below : List Frame} {meth : Method} {c : Code} (F : am_F C cc p s m args meth c) {H : Heap} {locs : List Loc} {ls : Array Slot} (hl : ∀ q ∈ locs, C.1.2.2.1.size ≤ q.base) (hL : lv_has ls C.2.2.2.1 (am_pl C.1.2.2.1.size L)) {st0 : List Value}
    (hrun : va_Run p C.1.2.2.2 e C.2.2.2.2.2.1 s m args below meth c H locs k n mc ms (F0 m pc ls st0) (rest.map (am_rv C.1.2.2.1.size)) (am_Q C.1 Q' a) (fun q => C.1.2.2.1.size ≤ q)) (kk : ∀ v sh' μ', Q' v sh' μ' → am_W C cc (pc + 3) L (v.toList ++ rest) sh' μ' (k + mc) (n + ms)) :
    W p C.1.2.2.2 e C.2.2.2.2.2.1 s m args below meth c H locs k n (MQ below (am_Q C.1 C.2.2.2.2.2.2.2.2) args s C.2.2.2.2.2.2.1 C.2.2.2.2.2.2.2.1 (fun q => C.1.2.2.1.size ≤ q)) (F0 m pc ls st0) := by
  intro T hT X
  obtain ⟨v, st₀, t, T', L', h0, X', hL', e1, e2, ⟨v0, sh', μ', hv, hq, hX', hR'⟩, st⟩ := hrun T hT X
  cases hv
  obtain ⟨t2, a1, b1⟩ := kk v0 sh' μ' hq p e s m args below meth c F T'.heap (locs ++ L') ls (by rw [e1]; exact hR') (fun q hq => (List.mem_append.mp hq).elim (hl q) (hL' q)) hL T' rfl X'
  refine ⟨t2, st t2 ?_, b1⟩
  cases v0 <;> exact a1
theorem am_rev {b : Nat} {As : List Value} (h : S = As.reverse ++ rest) : S.map (am_rv b) = (As.map (am_rv b)).reverse ++ rest.map (am_rv b) := by rw [h]; simp
theorem am_cat {b : Nat} (h : (rest.map fun v => v.category).sum ≤ 8) : ((rest.map (am_rv b)).map fun v => v.category).sum ≤ 8 := by
  have : (rest.map (am_rv b)).map (fun v => v.category) = rest.map fun v => v.category := by simp [Function.comp_def, am_rv_cat]
  rw [this]; exact h
theorem aw_cs {idx nL' np d' mc ms : Nat} {y : MethodName} {cc' : ByteArray} {ret' : Option FieldType} {As : List Value} {Q' : Option Value → List am_S → am_M → Prop} (hd : decode cc pc = .ok (.invokestatic idx, 3)) (hm : am_ml C.2.1 idx y cc' nL' ret' np) (hst : Cond.static y ∈ am_TB) (hM : am_MA C.1 y cc' nL' ret' d' mc ms As sh μ Q')
    (hS : S = As.reverse ++ rest) (hn : As.length = np) (hw : (rest.map fun v => v.category).sum ≤ 8) (hfr : d' + 1 ≤ C.2.2.2.2.2.1.frames) (hlo : 100 * d' + 100 ≤ C.2.2.2.2.2.1.locals) (hcl : k + mc ≤ C.2.2.2.2.2.1.cells ∧ n + ms ≤ C.2.2.2.2.2.1.slots)
    (kk : ∀ v sh' μ', Q' v sh' μ' → am_W C cc (pc + 3) L (v.toList ++ rest) sh' μ' (k + mc) (n + ms)) : am_W C cc pc L S sh μ k n := by
  intro p e s m args below meth c F H locs ls hR hl hL
  refine am_after F hl hL (a := (As.map (am_rv C.1.2.2.1.size)).toArray) ?_ kk
  obtain ⟨hx, hb, hml, hr, hlk, hown, hts, hX, hnm⟩ := F
  obtain ⟨m1, m2, m3, m4, m5, m6, m7⟩ := hm
  exact va_runS (As := As.map (am_rv C.1.2.2.1.size)) ⟨hx, hb, hml, hown, hts⟩ hM ⟨callB_of np hts (am_goodIn m3) rfl rfl rfl (hts _ m2) (hts _ m1) ⟨m4, m5, m6⟩ ⟨hfr, by show 8 + (nL' + 11) + 100 * d' ≤ _; omega⟩, hts _ hst⟩ ⟨am_blind, fun U hU hW => ⟨rfl, hX.warm hW, by rw [hU]; exact hR⟩⟩ rfl (by rw [List.length_map]; exact hn) hL.1 (am_rev hS) (by show 2 * 0 + _ ≤ 8; have := am_cat (b := C.1.2.2.1.size) hw; omega) hd hcl
/-- of an object: a method that its class has -/
theorem aw_cv {idx nL' np d' mc ms a ci N : Nat} {rs : List (Option Value)} {r : vw_C} {y : MethodName} {cc' : ByteArray} {ret' : Option FieldType} {As : List Value} {Q' : Option Value → List am_S → am_M → Prop} (hd : decode cc pc = .ok (.invokevirtual idx, 3)) (hm : am_ml C.2.1 idx y cc' nL' ret' np) (hin : Cond.instanceMethod y ∈ am_TB) (hse : Cond.selects y.cls y y ∈ am_TB) (hM : am_MA C.1 y cc' nL' ret' d' mc ms (.ref a :: As) sh μ Q')
    (hc : sh[a]? = some (ci, N, rs)) (h100 : ci < 100) (hcl2 : vwCl[ci]? = some r) (hcn : r.1 = y.cls)
    (hS : S = As.reverse ++ .ref a :: rest) (hn : As.length = np) (hw : (rest.map fun v => v.category).sum ≤ 8) (hfr : d' + 1 ≤ C.2.2.2.2.2.1.frames) (hlo : 100 * d' + 100 ≤ C.2.2.2.2.2.1.locals) (hcl : k + mc ≤ C.2.2.2.2.2.1.cells ∧ n + ms ≤ C.2.2.2.2.2.1.slots)
    (kk : ∀ v sh' μ', Q' v sh' μ' → am_W C cc (pc + 3) L (v.toList ++ rest) sh' μ' (k + mc) (n + ms)) : am_W C cc pc L S sh μ k n := by
  intro p e s m args below meth c F H locs ls hR hl hL
  refine am_after F hl hL (a := (Value.ref (C.1.2.2.1.size + a) :: As.map (am_rv C.1.2.2.1.size)).toArray) ?_ kk
  obtain ⟨hx, hb, hml, hr, hlk, hown, hts, hX, hnm⟩ := F
  obtain ⟨m1, m2, m3, m4, m5, m6, m7⟩ := hm
  have hrecv : ∃ cell : Cell, H[C.1.2.2.1.size + a]? = some cell ∧ cell.vm.isStatics = false ∧ s.vm.findClass y.cls = some cell.cls := by
    rcases hR.2.2 a _ hc with ⟨-, r', hr', cell, q1, q2, q3, q4⟩ | ⟨hge, -⟩
    · have e : r' = r := Option.some.inj (hr'.symm.trans hcl2)
      subst e
      exact ⟨cell, q1, by rw [q3]; rfl, by rw [q2, ← hcn]; exact (hX.1.1 ci r' hcl2).2.1⟩
    · exact absurd hge (by simp; omega)
  exact va_runV (C := y.cls) (b := C.1.2.2.1.size + a) (As := As.map (am_rv C.1.2.2.1.size)) ⟨hx, hb, hml, hown, hts⟩ hM ⟨callB_of np hts (am_goodIn m3) rfl rfl rfl (hts _ m2) (hts _ m1) ⟨m4, m5, m6⟩ ⟨hfr, by show 8 + (nL' + 11) + 100 * d' ≤ _; omega⟩, hts _ hin, hts _ hse⟩ ⟨am_blind, hrecv, fun U hU hW => ⟨rfl, hX.warm hW, by rw [hU]; exact hR⟩⟩ rfl (by rw [List.length_map]; exact hn) hL.1 (by show S.map _ = _; rw [hS]; simp [am_rv]) (by show 2 * 0 + _ ≤ 8; have := am_cat (b := C.1.2.2.1.size) hw; omega) hd hcl
/-- a constructor -/
theorem aw_ci {idx nL' np d' mc ms a : Nat} {y : MethodName} {cc' : ByteArray} {As : List Value} {Q' : Option Value → List am_S → am_M → Prop} (hd : decode cc pc = .ok (.invokespecial idx, 3)) (hm : am_ml C.2.1 idx y cc' nL' none np) (hin : Cond.instanceMethod y ∈ am_TB) (hy : y.name = "<init>") (hM : am_MA C.1 y cc' nL' none d' mc ms (.ref a :: As) sh μ Q')
    (hS : S = As.reverse ++ .ref a :: rest) (hn : As.length = np) (hw : (rest.map fun v => v.category).sum ≤ 8) (hfr : d' + 1 ≤ C.2.2.2.2.2.1.frames) (hlo : 100 * d' + 100 ≤ C.2.2.2.2.2.1.locals) (hcl : k + mc ≤ C.2.2.2.2.2.1.cells ∧ n + ms ≤ C.2.2.2.2.2.1.slots)
    (kk : ∀ v sh' μ', Q' v sh' μ' → am_W C cc (pc + 3) L (v.toList ++ rest) sh' μ' (k + mc) (n + ms)) : am_W C cc pc L S sh μ k n := by
  intro p e s m args below meth c F H locs ls hR hl hL
  refine am_after F hl hL (a := (Value.ref (C.1.2.2.1.size + a) :: As.map (am_rv C.1.2.2.1.size)).toArray) ?_ kk
  obtain ⟨hx, hb, hml, hr, hlk, hown, hts, hX, hnm⟩ := F
  obtain ⟨m1, m2, m3, m4, m5, m6, m7⟩ := hm
  exact va_runI (b := C.1.2.2.1.size + a) (As := As.map (am_rv C.1.2.2.1.size)) ⟨hx, hb, hml, hown, hts⟩ hM ⟨callB_of np hts (am_goodIn m3) rfl rfl rfl (hts _ m2) (hts _ m1) ⟨m4, m5, m6⟩ ⟨hfr, by show 8 + (nL' + 11) + 100 * d' ≤ _; omega⟩, hy, hts _ hin⟩ ⟨am_blind, fun U hU hW => ⟨rfl, hX.warm hW, by rw [hU]; exact hR⟩⟩ rfl (by rw [List.length_map]; exact hn) hL.1 (by show S.map _ = _; rw [hS]; simp [am_rv]) (by show 2 * 0 + _ ≤ 8; have := am_cat (b := C.1.2.2.1.size) hw; omega) hd hcl
/-- a nest mate's private constructor -/
theorem aw_cn {idx nL' np d' mc ms a : Nat} {host : String} {y : MethodName} {cc' : ByteArray} {As : List Value} {Q' : Option Value → List am_S → am_M → Prop} (hd : decode cc pc = .ok (.invokespecial idx, 3)) (hq : (C.2.1, idx, y, host) ∈ am_nest) (hin : Cond.instanceMethod y ∈ am_TB) (hini : Cond.initialized y.cls ∈ am_TB) (hcode : Cond.code y cc' nL' none ∈ am_TB) (hy1 : y.cls ≠ "java/lang/invoke/MethodHandle" ∧ y.cls ≠ "java/lang/invoke/VarHandle" ∧ (parseMethodDescriptor y.desc).map (fun d => d.parameters.length) = some np) (h81 : nL' ≤ 81) (hy : y.name = "<init>") (hM : am_MA C.1 y cc' nL' none d' mc ms (.ref a :: As) sh μ Q')
    (hS : S = As.reverse ++ .ref a :: rest) (hn : As.length = np) (hw : (rest.map fun v => v.category).sum ≤ 8) (hfr : d' + 1 ≤ C.2.2.2.2.2.1.frames) (hlo : 100 * d' + 100 ≤ C.2.2.2.2.2.1.locals) (hcl : k + mc ≤ C.2.2.2.2.2.1.cells ∧ n + ms ≤ C.2.2.2.2.2.1.slots)
    (kk : ∀ v sh' μ', Q' v sh' μ' → am_W C cc (pc + 3) L (v.toList ++ rest) sh' μ' (k + mc) (n + ms)) : am_W C cc pc L S sh μ k n := by
  intro p e s m args below meth c F H locs ls hR hl hL
  refine am_after F hl hL (a := (Value.ref (C.1.2.2.1.size + a) :: As.map (am_rv C.1.2.2.1.size)).toArray) ?_ kk
  obtain ⟨hx, hb, hml, hr, hlk, hown, hts, hX, hnm⟩ := F
  exact va_runIN (host := host) (b := C.1.2.2.1.size + a) (As := As.map (am_rv C.1.2.2.1.size)) ⟨hx, hb, hml, hown, hts⟩ hM ⟨va_cnB np hts (am_goodIn hcode) rfl rfl rfl (hX.2.1 _ hq) (hts _ hini) hy1 ⟨hfr, by show 8 + (nL' + 11) + 100 * d' ≤ _; omega⟩, hy, hts _ hin⟩ ⟨am_blind, fun U hU hW => ⟨rfl, hX.warm hW, by rw [hU]; exact hR⟩⟩ rfl (by rw [List.length_map]; exact hn) hL.1 (by show S.map _ = _; rw [hS]; simp [am_rv]) (by show 2 * 0 + _ ≤ 8; have := am_cat (b := C.1.2.2.1.size) hw; omega) hd hcl
/-- Object's own constructor -/
theorem aw_obj {a idx : Nat} (hd : decode cc pc = .ok (.invokespecial idx, 3)) (hl1 : Cond.methodLink C.2.1 idx objectInit ∈ am_TB) (hl2 : Cond.instanceMethod objectInit ∈ am_TB) (hl3 : Cond.code objectInit ⟨#[0xb1]⟩ 1 none ∈ am_TB) (hfr : 1 ≤ C.2.2.2.2.2.1.frames) (hlo : 100 ≤ C.2.2.2.2.2.1.locals) (hw : ((S.map (am_rv C.1.2.2.1.size)).map fun v => v.category).sum ≤ 8)
    (kk : am_W C cc (pc + 3) L S sh μ k n) : am_W C cc pc L (.ref a :: S) sh μ k n := by
  intro p e s m args below meth c F H locs ls hR hl hL
  have kk := kk p e s m args below meth c F H locs ls hR hl hL
  obtain ⟨hx, hb, hml, hr, hlk, hown, hts, hX, hnm⟩ := F
  exact W.objInit hx hb hown (hts _ hl1) (hts _ hl2) (hts _ hl3) rfl (hL.1.trans hml.symm) rfl hd hfr (by show 2 * 0 + _ + 12 ≤ _; omega) kk
end AC
end
section
section AD
variable {C : am_C} {cc : ByteArray} {pc : Nat} {L : am_L} {S : List Value} {sh : List am_S} {μ : am_M} {k n : Nat}
theorem aw_max {idx : Nat} {x y : Int32} (hd : decode cc pc = .ok (.invokestatic idx, 3)) (hl1 : Cond.methodLink C.2.1 idx Lib.Math.max.name ∈ am_TB) (hl2 : Cond.static Lib.Math.max.name ∈ am_TB) (hl3 : Cond.initialized "java/lang/Math" ∈ am_TB) (hl4 : Cond.code Lib.Math.max.name Lib.Math.max.code 2 (some .int) ∈ am_TB) (hfr : 1 ≤ C.2.2.2.2.2.1.frames) (hlo : 100 ≤ C.2.2.2.2.2.1.locals) (hw : (S.map fun v => v.category).sum ≤ 8) (hk : k ≤ C.2.2.2.2.2.1.cells) (hn : n ≤ C.2.2.2.2.2.1.slots)
    (kk : am_W C cc (pc + 3) L (.int (if x < y then y else x) :: S) sh μ k n) : am_W C cc pc L (.int y :: .int x :: S) sh μ k n := by
  intro p e s m args below meth c F H locs ls hR hl hL
  have kk := kk p e s m args below meth c F H locs ls hR hl hL
  obtain ⟨hx, hb, hml, hr, hlk, hown, hts, hX, hnm⟩ := F
  exact va_mmax hx hb (hml.trans hL.1.symm) hown (hts _ hl1) (hts _ hl2) (hts _ hl3) (hts _ hl4) hfr (by have := am_cat (b := C.1.2.2.1.size) hw; omega) hk hn hd kk
theorem aw_min {idx : Nat} {x y : Int32} (hd : decode cc pc = .ok (.invokestatic idx, 3)) (hl1 : Cond.methodLink C.2.1 idx Lib.Math.min.name ∈ am_TB) (hl2 : Cond.static Lib.Math.min.name ∈ am_TB) (hl3 : Cond.initialized "java/lang/Math" ∈ am_TB) (hl4 : Cond.code Lib.Math.min.name Lib.Math.min.code 2 (some .int) ∈ am_TB) (hfr : 1 ≤ C.2.2.2.2.2.1.frames) (hlo : 100 ≤ C.2.2.2.2.2.1.locals) (hw : (S.map fun v => v.category).sum ≤ 8) (hk : k ≤ C.2.2.2.2.2.1.cells) (hn : n ≤ C.2.2.2.2.2.1.slots)
    (kk : am_W C cc (pc + 3) L (.int (if y < x then y else x) :: S) sh μ k n) : am_W C cc pc L (.int y :: .int x :: S) sh μ k n := by
  intro p e s m args below meth c F H locs ls hR hl hL
  have kk := kk p e s m args below meth c F H locs ls hR hl hL
  obtain ⟨hx, hb, hml, hr, hlk, hown, hts, hX, hnm⟩ := F
  exact va_mmin hx hb (hml.trans hL.1.symm) hown (hts _ hl1) (hts _ hl2) (hts _ hl3) (hts _ hl4) hfr (by have := am_cat (b := C.1.2.2.1.size) hw; omega) hk hn hd kk
/-- System.arraycopy of ints -/
theorem aw_copy {idx a0 a1 n0 n1 sp dp N : Nat} {isp idp iN : Int32} (hd : decode cc pc = .ok (.invokestatic idx, 3)) (hl1 : Cond.methodLink C.2.1 idx arraycopyName ∈ am_TB) (hl2 : Cond.native arraycopyName ∈ am_TB) (hl3 : Cond.static arraycopyName ∈ am_TB) (hl4 : Cond.initialized "java/lang/System" ∈ am_TB) (hfr : 1 ≤ C.2.2.2.2.2.1.frames) (hlo : 100 ≤ C.2.2.2.2.2.1.locals) (hw : (S.map fun v => v.category).sum ≤ 8)
    (hc0 : sh[a0]? = some (100, n0, [])) (hc1 : sh[a1]? = some (100, n1, [])) (e1 : isp = nI sp) (e2 : idp = nI dp) (e3 : iN = nI N) (h0 : sp + N ≤ n0) (h1 : dp + N ≤ n1) (hn0 : n0 < 2 ^ 31) (hn1 : n1 < 2 ^ 31)
    (kk : am_W C cc (pc + 3) L S sh (am_up μ a1 (va_cpy (μ a0) (μ a1) sp dp N)) k n) : am_W C cc pc L (.int iN :: .int idp :: .ref a1 :: .int isp :: .ref a0 :: S) sh μ k n := by
  intro p e s m args below meth c F H locs ls hR hl hL
  have kk := fun H locs hR hl => kk p e s m args below meth c F H locs ls hR hl hL
  obtain ⟨hx, hb, hml, hr, hlk, hown, hts, hX, hnm⟩ := F
  subst e1; subst e2; subst e3
  have q0 : H[C.1.2.2.1.size + a0]? = some (arrV (C.1.2.1 100) n0 (fun j => .int (μ a0 j))) := by
    rcases hR.2.2 a0 _ hc0 with ⟨h1, -⟩ | ⟨-, h2⟩
    · exact absurd h1 (by simp)
    · exact h2
  have q1 : H[C.1.2.2.1.size + a1]? = some (arrV (C.1.2.1 100) n1 (fun j => .int (μ a1 j))) := by
    rcases hR.2.2 a1 _ hc1 with ⟨h1, -⟩ | ⟨-, h2⟩
    · exact absurd h1 (by simp)
    · exact h2
  have hAr := (am_ty 0 rfl rfl hX).1
  have csp : (nI sp).toNatClampNeg = sp := nI_clamp (by omega)
  have cdp : (nI dp).toNatClampNeg = dp := nI_clamp (by omega)
  have cN : (nI N).toNatClampNeg = N := nI_clamp (by omega)
  have h5 : nativeFrameWords "java/lang/System" "arraycopy" 5 ≤ 60 := by decide +kernel
  intro T hT X
  obtain ⟨-, k0, hk0, cm0, hkk0⟩ := hAr n0 (fun j => .int (μ a0 j))
  obtain ⟨-, k1, hk1, cm1, hkk1⟩ := hAr n1 (fun j => .int (μ a1 j))
  obtain ⟨vm', X', step⟩ := X.arraycopy hx hown (hts _ hl1) (hts _ hl2) (hts _ hl3) (hts _ hl4) (src := C.1.2.2.1.size + a0) (dst := C.1.2.2.1.size + a1) (cs := arrV (C.1.2.1 100) n0 (fun j => .int (μ a0 j))) (cd := arrV (C.1.2.1 100) n1 (fun j => .int (μ a1 j))) (srcPos := nI sp) (destPos := nI dp) (n := nI N) (by rw [hT]; exact q0) (by rw [hT]; exact q1)
    (fun _ h => by cases h) (fun _ h => by cases h) (fun h => by cases h) (fun h => by cases h) hk0 hk1 hkk0 hkk1 (by simp [refKind]) (nI_pos (by omega)) (nI_pos (by omega)) (nI_pos (by omega))
    (by rw [nI_toInt (by omega), nI_toInt (by omega), arrV_size]; omega)
    (by rw [nI_toInt (by omega), nI_toInt (by omega), arrV_size]; omega)
    (fun vm₁ _ i hi => by
      rw [cN] at hi
      have e : (arrV (C.1.2.1 100) n0 (fun j => .int (μ a0 j))).slots.getD ((nI sp).toNatClampNeg + i) .null = .int (μ a0 (sp + i)) := by
        rw [csp, Array.getD_eq_getD_getElem?, arrV_read _ _ (by omega)]
        rfl
      refine ⟨?_, ?_⟩
      · rw [e]
        rfl
      · rw [e]
        exact trivial)
    (g := F0 m pc ls (.int (nI N) :: .int (nI dp) :: .ref (C.1.2.2.1.size + a1) :: .int (nI sp) :: .ref (C.1.2.2.1.size + a0) :: S.map (am_rv C.1.2.2.1.size))) rfl (by rw [hml]; exact hL.1) (rest := S.map (am_rv C.1.2.2.1.size)) rfl (by rw [hb]; exact hd) hfr (by show 2 * 0 + _ + _ ≤ _; have := am_cat (b := C.1.2.2.1.size) hw; omega)
  have e1 : copied (arrV (C.1.2.1 100) n0 (fun j => .int (μ a0 j))) (arrV (C.1.2.1 100) n1 (fun j => .int (μ a1 j))) (nI sp) (nI dp) (nI N) = arrV (C.1.2.1 100) n1 (fun j => .int (va_cpy (μ a0) (μ a1) sp dp N j)) := by
    have := va_copied (fun z => Value.int z) (C.1.2.1 100) (C.1.2.1 100) (n0 := n0) (n1 := n1) (sp := (nI sp).toNatClampNeg) (dp := (nI dp).toNatClampNeg) (n := (nI N).toNatClampNeg) (μ a0) (μ a1) (by rw [csp, cN]; exact h0)
    rw [csp, cdp, cN] at this
    rw [← this]
    simp only [copied, csp, cdp, cN]
  rw [e1] at X' step
  have hlt : C.1.2.2.1.size + a1 < H.size := (Array.getElem?_eq_some_iff.mp q1).1
  obtain ⟨t, b1, b2⟩ := kk (H.setIfInBounds (C.1.2.2.1.size + a1) (arrV (C.1.2.1 100) n1 (fun j => .int (va_cpy (μ a0) (μ a1) sp dp N j)))) _ (hR.sti hc1 (by simp) (fun q hq => by simp [Array.getElem?_setIfInBounds, Ne.symm hq]) (Or.inr ⟨Nat.le_refl _, by simp [Array.getElem?_setIfInBounds, hlt]; rfl⟩)) (fun q hq => by
      rcases List.mem_append.mp hq with h | h
      · exact hl q h
      · obtain ⟨z, -, hz⟩ := List.mem_map.mp h
        rw [← hz]
        exact Nat.le_add_right _ _) _ (by rw [← hT]; rfl) X'
  exact ⟨t, step t b1, b2⟩
/-- an item of one of the class's constant rows -/
theorem aw_sta {idx j jl : Nat} {fk : Fin 4} {own nm : String} {vs : List Int32} {i : Int32} (d1 : decode cc pc = .ok (.getstatic idx, 3)) (d2 : decode cc (pc + 3) = .ok (.iload_n fk, 1)) (d3 : decode cc (pc + 3 + 1) = .ok (.iaload, 1)) (hq : (own, nm, vs) ∈ am_stat) (hlk : Cond.fieldLink C.2.1 idx own nm "[I" ∈ am_TB) (hfk : (fk : Nat) = jl) (hg : am_gl L jl = some (.int i)) (hi : i = nI j) (hj : j < 6)
    (kk : am_W C cc (pc + 3 + 1 + 1) L (.int (vs.getD j 0) :: S) sh μ k n) : am_W C cc pc L S sh μ k n := by
  intro p e s m args below meth c F H locs ls hR hl hL
  have kk := kk p e s m args below meth c F H locs ls hR hl hL
  obtain ⟨hx, hb, hml, hr, hlk2, hown, hts, hX, hnm⟩ := F
  obtain ⟨t, hZ, cell, g1, g2, g3, g4, g5, g6, g7⟩ := hX.2.2.2 _ hq
  obtain ⟨cf, kf, fi, f, a, cell2, z1, z2, z3, z4, z5, z6, z7, z8⟩ := hZ
  refine W.gets hx hb hown (hts _ hlk) z1 z2 z3 z4 (by rw [hR.2.1 a (by simpa using z8)]; exact z5) (fun e => by rw [e] at z6; cases z6) z7 rfl d1 ?_
  subst hfk
  refine lv_iload_n hx hb d2 rfl (hL.2.2 _ (am_pl_mem hg)) ?_
  obtain ⟨o1, o2⟩ := am_idx hi (show j < 6 from hj) (by omega)
  have ht : t < C.1.2.2.1.size := by simpa using g7
  refine W.iald (v := .int (vs.getD j 0)) hx hb (a := t) (by rw [hR.2.1 t ht]; exact g1) g2 g3 ?_ (by rw [o2]; exact g6 j hj) rfl rfl d3 kk
  intro q
  rcases q with q | q
  · exact o1 (Or.inl q)
  · rw [o2] at q
    omega
/-! ===== what constructors make ===== -/
theorem aw_newi {N : Nat} {i : Int32} (hd : decode cc pc = .ok (.newarray .int, 2)) (hw : Cond.arrayClass .int ∈ am_TB) (hi : i = nI N) (hN : N < 100000) (hk : k + 1 ≤ C.2.2.2.2.2.1.cells) (hn : n + N ≤ C.2.2.2.2.2.1.slots)
    (kk : am_W C cc (pc + 2) L (.ref sh.length :: S) (sh ++ [(100, N, [])]) (am_up μ sh.length (fun _ => 0)) (k + 1) (n + N)) : am_W C cc pc L (.int i :: S) sh μ k n := by
  intro p e s m args below meth c F H locs ls hR hl hL
  have kk := fun H hR => kk p e s m args below meth c F H locs ls hR hl hL
  obtain ⟨hx, hb, hml, hr, hlk, hown, hts, hX, hnm⟩ := F
  subst hi
  refine va_newaK hx hb (atype := .int) (hts _ hw) rfl hd rfl (nI_pos (by omega)) (nI_clamp (by omega)) (by show N * 4 ≤ _; omega) hk hn hR.1 fun H1 cA e1 z1 o1 hAr hNm => ?_
  have hc : cA = C.1.2.1 100 := Option.some.inj (hNm.symm.trans (am_ty 0 rfl rfl hX).2)
  subst hc
  exact kk H1 (hR.push (by rw [z1, hR.1]) (fun q hq => o1 q (by rw [← hR.1]; exact hq)) (Or.inr ⟨Nat.le_refl _, by rw [hR.1, e1]; rfl⟩))
theorem aw_newz {N : Nat} {i : Int32} (hd : decode cc pc = .ok (.newarray .boolean, 2)) (hw : Cond.arrayClass .boolean ∈ am_TB) (hi : i = nI N) (hN : N < 100000) (hk : k + 1 ≤ C.2.2.2.2.2.1.cells) (hn : n + N ≤ C.2.2.2.2.2.1.slots)
    (kk : am_W C cc (pc + 2) L (.ref sh.length :: S) (sh ++ [(101, N, [])]) (am_up μ sh.length (fun _ => 0)) (k + 1) (n + N)) : am_W C cc pc L (.int i :: S) sh μ k n := by
  intro p e s m args below meth c F H locs ls hR hl hL
  have kk := fun H hR => kk p e s m args below meth c F H locs ls hR hl hL
  obtain ⟨hx, hb, hml, hr, hlk, hown, hts, hX, hnm⟩ := F
  subst hi
  refine va_newaK hx hb (atype := .boolean) (hts _ hw) rfl hd rfl (nI_pos (by omega)) (nI_clamp (by omega)) (by show N * 1 ≤ _; omega) hk hn hR.1 fun H1 cA e1 z1 o1 hAr hNm => ?_
  have hc : cA = C.1.2.1 101 := Option.some.inj (hNm.symm.trans (am_ty 1 rfl rfl hX).2)
  subst hc
  exact kk H1 (hR.push (by rw [z1, hR.1]) (fun q hq => o1 q (by rw [← hR.1]; exact hq)) (Or.inr ⟨Nat.le_succ _, by rw [hR.1, e1]; rfl⟩))
/-- new T[N] of objects: all null -/
theorem aw_newr {N idx t : Nat} {i : Int32} {Cn : String} (hd : decode cc pc = .ok (.anewarray idx, 3)) (hcl : Cond.classLink C.2.1 idx Cn ∈ am_TB) (ht : (t = 2 ∧ Cn = RX4) ∨ (t = 3 ∧ Cn = RX5)) (hi : i = nI N) (hN : N < 100000) (hk : k + 1 ≤ C.2.2.2.2.2.1.cells) (hn : n + N ≤ C.2.2.2.2.2.1.slots)
    (kk : am_W C cc (pc + 3) L (.ref sh.length :: S) (sh ++ [(100 + t, N, List.replicate N (some .null))]) (am_up μ sh.length (fun _ => 0)) (k + 1) (n + N)) : am_W C cc pc L (.int i :: S) sh μ k n := by
  intro p e s m args below meth c F H locs ls hR hl hL
  have kk := fun H hR => kk p e s m args below meth c F H locs ls hR hl hL
  obtain ⟨hx, hb, hml, hr, hlk, hown, hts, hX, hnm⟩ := F
  subst hi
  have cN : (nI N).toNatClampNeg = N := nI_clamp (by omega)
  have hAO : va_AO Cn s := by
    rcases ht with ⟨-, rfl⟩ | ⟨-, rfl⟩
    · exact hX.2.2.1.1
    · exact hX.2.2.1.2.1
  refine W.anew hx hb hown (hts _ hcl) hAO.use rfl hd rfl (nI_pos (by omega)) (by rw [cN]; omega) hk (by rw [cN]; exact hn) fun cA kA comp f1 f2 f3 f4 => ?_
  have hc : cA = C.1.2.1 (100 + t) := by
    rcases ht with ⟨rfl, rfl⟩ | ⟨rfl, rfl⟩
    · obtain ⟨-, -, -, -, -, h5⟩ := (am_ty 2 rfl rfl hX).2
      exact Option.some.inj (f1.symm.trans h5)
    · obtain ⟨-, -, -, -, -, h5⟩ := (am_ty 3 rfl rfl hX).2
      exact Option.some.inj (f1.symm.trans h5)
  subst hc
  rw [cN]
  have h9 := kk (H.push { cls := C.1.2.1 (100 + t), slots := Array.replicate N .null, vm := .none }) (hR.push (by simp) (fun q hq => by rw [Array.getElem?_push, if_neg (Nat.ne_of_lt hq)]) (Or.inr ⟨Nat.le_add_right _ _, by
    rw [Array.getElem?_push, if_pos rfl, arrV_new]
    congr 1
    unfold arrV
    congr 1
    apply Array.ext
    · simp
    · intro q h1 h2
      simp at h1
      simp [am_vat, h1, am_rv]⟩))
  rw [hR.1]
  exact h9
/-- an object in an array of its class -/
theorem aw_aast {a b N j t ci N2 : Nat} {i : Int32} {rs rs2 : List (Option Value)} {r : vw_C} {w : Option Value} (hd : decode cc pc = .ok (.aastore, 1)) (hc : sh[a]? = some (100 + t, N, rs)) (hb2 : sh[b]? = some (ci, N2, rs2)) (h100 : ci < 100) (hcl : vwCl[ci]? = some r) (ht : (t = 2 ∧ r.1 = RX4) ∨ (t = 3 ∧ r.1 = RX5)) (hi : i = nI j) (hj : j < N) (hN : N < 2 ^ 31) (hv : rs[j]? = some w)
    (kk : am_W C cc (pc + 1) L S (sh.set a (100 + t, N, rs.set j (some (.ref b)))) μ k n) : am_W C cc pc L (.ref b :: .int i :: .ref a :: S) sh μ k n := by
  intro p e s m args below meth c F H locs ls hR hl hL
  have kk := fun H locs hR hl => kk p e s m args below meth c F H locs ls hR hl hL
  obtain ⟨hx, hb, hml, hr, hlk, hown, hts, hX, hnm⟩ := F
  obtain ⟨g1, g2⟩ := am_idx hi hj hN
  have hA : H[C.1.2.2.1.size + a]? = some (arrV (C.1.2.1 (100 + t)) N (fun j => am_rv C.1.2.2.1.size (am_vat (100 + t, N, rs) (μ a) j))) := by
    rcases hR.2.2 a _ hc with ⟨h1, -⟩ | ⟨-, h2⟩
    · exact absurd h1 (by simp)
    · exact h2
  rcases hR.2.2 b _ hb2 with ⟨-, r', hr', cell, q1, q2, q3, q4⟩ | ⟨hge, -⟩
  · have e : r' = r := Option.some.inj (hr'.symm.trans hcl)
    subst e
    have hcls := (hX.1.1 ci r' hcl).2
    have key : va_RA s (C.1.2.1 (100 + t)) (.object r'.1) := by
      rcases ht with ⟨rfl, h⟩ | ⟨rfl, h⟩
      · rw [h]; exact (am_ty 2 rfl rfl hX).2
      · rw [h]; exact (am_ty 3 rfl rfl hX).2
    obtain ⟨kA, comp, k1, k2, k3, -⟩ := key
    have hcomp : comp = C.1.1.1 ci := Option.some.inj (k3.symm.trans hcls.1)
    subst hcomp
    have hcls2 := hcls
    obtain ⟨kC, hkC, -⟩ := hcls.2
    refine W.aast hx hb hA (fun q h => by cases h) (fun h => by cases h) k1 k2 rfl hkC ⟨fun q => g1 (Or.inl q), by rw [g2, arrV_size]; exact hj⟩ q1 (fun q h => by rw [q3] at h; cases h) (by rw [q2]; exact hkC) (by rw [q2]; exact va_assign hcls2) rfl rfl hd fun H1 e1 e2 e3 => ?_
    have h7 := hR.st (f := μ a) (c' := (100 + t, N, rs.set j (some (.ref b)))) hc e2 e3 (Or.inr ⟨Nat.le_add_right _ _, ?_⟩)
    · have h8 : am_up μ a (μ a) = μ := by
        funext z
        by_cases hz : z = a
        · subst hz; rw [am_up_s]
        · rw [am_up_n hz]
      rw [h8] at h7
      refine kk H1 _ h7 ?_
      intro q hq
      rcases List.mem_append.mp hq with h | h
      · exact hl q h
      · rw [List.mem_singleton.mp h]
        exact Nat.le_add_right _ _
    · rw [e1, g2]
      show some ((arrV _ _ _).setSlot _ _) = _
      rw [arrV_store]
      congr 2
      funext q
      have hjl : j < rs.length := (List.getElem?_eq_some_iff.mp hv).1
      by_cases hq : q = j
      · subst hq
        simp [updV, am_vat, am_rv, hjl]
      · simp only [updV, hq, if_false]
        simp [am_vat, List.getElem?_set_ne (Ne.symm hq)]
  · exact absurd hge (by simp; omega)
/-- what 'new' of a class needs -/
def am_nw (own : String) (idx ci N : Nat) (rs : List (Option Value)) : Prop := ∃ (Cn : String) (T : u_T) (ty0 : Nat → FieldType), vwCl[ci]? = some (Cn, T, N) ∧ ci < 100 ∧ (∀ w ∈ u_ws Cn T N, w ∈ am_TB) ∧ (∀ k, k < N → parseFieldDescriptor (T k).2.2.1 = some (ty0 k)) ∧ Cond.classLink own idx Cn ∈ am_TB ∧ Cond.instantiable Cn N ∈ am_TB ∧ Cond.initialized Cn ∈ am_TB ∧ ∀ j, j < N → (rs[j]? = some none ∧ defaultValue (ty0 j) = .int 0) ∨ (rs[j]? = some (some .null) ∧ defaultValue (ty0 j) = .null)
theorem aw_new {idx ci N : Nat} {rs : List (Option Value)} (hd : decode cc pc = .ok (.new idx, 3)) (hw : am_nw C.2.1 idx ci N rs) (hk : k + 1 ≤ C.2.2.2.2.2.1.cells) (hn : n + N ≤ C.2.2.2.2.2.1.slots)
    (kk : am_W C cc (pc + 3) L (.ref sh.length :: S) (sh ++ [(ci, N, rs)]) (am_up μ sh.length (fun _ => 0)) (k + 1) (n + N)) : am_W C cc pc L S sh μ k n := by
  intro p e s m args below meth c F H locs ls hR hl hL
  have kk := fun H hR => kk p e s m args below meth c F H locs ls hR hl hL
  obtain ⟨hx, hb, hml, hr, hlk, hown, hts, hX, hnm⟩ := F
  obtain ⟨Cn, T, ty0, hcl, h100, hin, hty, h1, h2, h3, h4⟩ := hw
  have hKn := hX.1.1 ci _ hcl
  refine W.newcK hx hb hown (hts _ h1) (hts _ h2) (hts _ h3) rfl hd hk hn hKn.2.1 hR.1 fun H1 kC hkC e1 z1 o1 => ?_
  refine kk H1 (hR.push (by rw [z1, hR.1]) (fun q hq => o1 q (by rw [← hR.1]; exact hq)) (Or.inl ⟨h100, _, hcl, ?_⟩))
  rw [hR.1]
  refine (u_born ty0 hts hin hKn hkC e1 hty).to (fun j hj => ?_)
  rcases h4 j hj with ⟨g1, g2⟩ | ⟨g1, g2⟩
  · rw [g2, am_vat_i g1]; rfl
  · rw [g2, am_vat_r g1]; rfl
end AD
end
