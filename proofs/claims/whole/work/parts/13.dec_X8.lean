theorem dX8_init_0 : decode cX8_init 0 = .ok (.aload_n 0, 1) := by decide +kernel
theorem dX8_init_1 : decode cX8_init 1 = .ok (.invokespecial 1, 3) := by decide +kernel
theorem dX8_init_4 : decode cX8_init 4 = .ok (.aload_n 0, 1) := by decide +kernel
theorem dX8_init_5 : decode cX8_init 5 = .ok (.bipush 8, 2) := by decide +kernel
theorem dX8_init_7 : decode cX8_init 7 = .ok (.newarray .int, 2) := by decide +kernel
theorem dX8_init_9 : decode cX8_init 9 = .ok (.putfield 7, 3) := by decide +kernel
theorem dX8_init_12 : decode cX8_init 12 = .ok (.aload_n 0, 1) := by decide +kernel
theorem dX8_init_13 : decode cX8_init 13 = .ok (.bipush 8, 2) := by decide +kernel
theorem dX8_init_15 : decode cX8_init 15 = .ok (.newarray .int, 2) := by decide +kernel
theorem dX8_init_17 : decode cX8_init 17 = .ok (.putfield 13, 3) := by decide +kernel
theorem dX8_init_20 : decode cX8_init 20 = .ok (.aload_n 0, 1) := by decide +kernel
theorem dX8_init_21 : decode cX8_init 21 = .ok (.sipush 320, 3) := by decide +kernel
theorem dX8_init_24 : decode cX8_init 24 = .ok (.newarray .int, 2) := by decide +kernel
theorem dX8_init_26 : decode cX8_init 26 = .ok (.putfield 16, 3) := by decide +kernel
theorem dX8_init_29 : decode cX8_init 29 = .ok (.aload_n 0, 1) := by decide +kernel
theorem dX8_init_30 : decode cX8_init 30 = .ok (.bipush 100, 2) := by decide +kernel
theorem dX8_init_32 : decode cX8_init 32 = .ok (.newarray .int, 2) := by decide +kernel
theorem dX8_init_34 : decode cX8_init 34 = .ok (.putfield 19, 3) := by decide +kernel
theorem dX8_init_37 : decode cX8_init 37 = .ok (.aload_n 0, 1) := by decide +kernel
theorem dX8_init_38 : decode cX8_init 38 = .ok (.bipush 32, 2) := by decide +kernel
theorem dX8_init_40 : decode cX8_init 40 = .ok (.newarray .int, 2) := by decide +kernel
theorem dX8_init_42 : decode cX8_init 42 = .ok (.putfield 22, 3) := by decide +kernel
theorem dX8_init_45 : decode cX8_init 45 = .ok (.aload_n 0, 1) := by decide +kernel
theorem dX8_init_46 : decode cX8_init 46 = .ok (.sipush 768, 3) := by decide +kernel
theorem dX8_init_49 : decode cX8_init 49 = .ok (.newarray .int, 2) := by decide +kernel
theorem dX8_init_51 : decode cX8_init 51 = .ok (.putfield 25, 3) := by decide +kernel
theorem dX8_init_54 : decode cX8_init 54 = .ok (.aload_n 0, 1) := by decide +kernel
theorem dX8_init_55 : decode cX8_init 55 = .ok (.bipush 64, 2) := by decide +kernel
theorem dX8_init_57 : decode cX8_init 57 = .ok (.newarray .int, 2) := by decide +kernel
theorem dX8_init_59 : decode cX8_init 59 = .ok (.putfield 28, 3) := by decide +kernel
theorem dX8_init_62 : decode cX8_init 62 = .ok (.aload_n 0, 1) := by decide +kernel
theorem dX8_init_63 : decode cX8_init 63 = .ok (.iconst 2, 1) := by decide +kernel
theorem dX8_init_64 : decode cX8_init 64 = .ok (.newarray .boolean, 2) := by decide +kernel
theorem dX8_init_66 : decode cX8_init 66 = .ok (.putfield 31, 3) := by decide +kernel
theorem dX8_init_69 : decode cX8_init 69 = .ok (.aload_n 0, 1) := by decide +kernel
theorem dX8_init_70 : decode cX8_init 70 = .ok (.bipush 16, 2) := by decide +kernel
theorem dX8_init_72 : decode cX8_init 72 = .ok (.newarray .int, 2) := by decide +kernel
theorem dX8_init_74 : decode cX8_init 74 = .ok (.putfield 35, 3) := by decide +kernel
theorem dX8_init_77 : decode cX8_init 77 = .ok (.aload_n 0, 1) := by decide +kernel
theorem dX8_init_78 : decode cX8_init 78 = .ok (.bipush 32, 2) := by decide +kernel
theorem dX8_init_80 : decode cX8_init 80 = .ok (.newarray .int, 2) := by decide +kernel
theorem dX8_init_82 : decode cX8_init 82 = .ok (.putfield 38, 3) := by decide +kernel
theorem dX8_init_85 : decode cX8_init 85 = .ok (.aload_n 0, 1) := by decide +kernel
theorem dX8_init_86 : decode cX8_init 86 = .ok (.bipush 32, 2) := by decide +kernel
theorem dX8_init_88 : decode cX8_init 88 = .ok (.newarray .int, 2) := by decide +kernel
theorem dX8_init_90 : decode cX8_init 90 = .ok (.putfield 41, 3) := by decide +kernel
theorem dX8_init_93 : decode cX8_init 93 = .ok (.aload_n 0, 1) := by decide +kernel
theorem dX8_init_94 : decode cX8_init 94 = .ok (.sipush 2730, 3) := by decide +kernel
theorem dX8_init_97 : decode cX8_init 97 = .ok (.newarray .int, 2) := by decide +kernel
theorem dX8_init_99 : decode cX8_init 99 = .ok (.putfield 44, 3) := by decide +kernel
theorem dX8_init_102 : decode cX8_init 102 = .ok (.aload_n 0, 1) := by decide +kernel
theorem dX8_init_103 : decode cX8_init 103 = .ok (.bipush 10, 2) := by decide +kernel
theorem dX8_init_105 : decode cX8_init 105 = .ok (.newarray .int, 2) := by decide +kernel
theorem dX8_init_107 : decode cX8_init 107 = .ok (.putfield 47, 3) := by decide +kernel
theorem dX8_init_110 : decode cX8_init 110 = .ok (.iconst 0, 1) := by decide +kernel
theorem dX8_init_111 : decode cX8_init 111 = .ok (.istore_n 1, 1) := by decide +kernel
theorem dX8_init_112 : decode cX8_init 112 = .ok (.iload_n 1, 1) := by decide +kernel
theorem dX8_init_113 : decode cX8_init 113 = .ok (.bipush 8, 2) := by decide +kernel
theorem dX8_init_115 : decode cX8_init 115 = .ok (.if_icmp .ge 16, 3) := by decide +kernel
theorem dX8_init_118 : decode cX8_init 118 = .ok (.aload_n 0, 1) := by decide +kernel
theorem dX8_init_119 : decode cX8_init 119 = .ok (.getfield 13, 3) := by decide +kernel
theorem dX8_init_122 : decode cX8_init 122 = .ok (.iload_n 1, 1) := by decide +kernel
theorem dX8_init_123 : decode cX8_init 123 = .ok (.iconst (-1), 1) := by decide +kernel
theorem dX8_init_124 : decode cX8_init 124 = .ok (.iastore, 1) := by decide +kernel
theorem dX8_init_125 : decode cX8_init 125 = .ok (.iinc 1 1, 3) := by decide +kernel
theorem dX8_init_128 : decode cX8_init 128 = .ok (.goto (-16), 3) := by decide +kernel
theorem dX8_init_131 : decode cX8_init 131 = .ok (.return_, 1) := by decide +kernel
theorem dX8_in_0 : decode cX8_in 0 = .ok (.lload_n 0, 1) := by decide +kernel
theorem dX8_in_1 : decode cX8_in 1 = .ok (.lload_n 2, 1) := by decide +kernel
theorem dX8_in_2 : decode cX8_in 2 = .ok (.lcmp, 1) := by decide +kernel
theorem dX8_in_3 : decode cX8_in 3 = .ok (.ifCond .lt 14, 3) := by decide +kernel
theorem dX8_in_6 : decode cX8_in 6 = .ok (.lload_n 0, 1) := by decide +kernel
theorem dX8_in_7 : decode cX8_in 7 = .ok (.lload 4, 2) := by decide +kernel
theorem dX8_in_9 : decode cX8_in 9 = .ok (.lcmp, 1) := by decide +kernel
theorem dX8_in_10 : decode cX8_in 10 = .ok (.ifCond .gt 7, 3) := by decide +kernel
theorem dX8_in_13 : decode cX8_in 13 = .ok (.iconst 1, 1) := by decide +kernel
theorem dX8_in_14 : decode cX8_in 14 = .ok (.goto 4, 3) := by decide +kernel
theorem dX8_in_17 : decode cX8_in 17 = .ok (.iconst 0, 1) := by decide +kernel
theorem dX8_in_18 : decode cX8_in 18 = .ok (.ireturn, 1) := by decide +kernel
theorem dX8_found_0 : decode cX8_found 0 = .ok (.aload_n 0, 1) := by decide +kernel
theorem dX8_found_1 : decode cX8_found 1 = .ok (.iload_n 1, 1) := by decide +kernel
theorem dX8_found_2 : decode cX8_found 2 = .ok (.putfield 50, 3) := by decide +kernel
theorem dX8_found_5 : decode cX8_found 5 = .ok (.ldc 54, 2) := by decide +kernel
theorem dX8_found_7 : decode cX8_found 7 = .ok (.iload_n 1, 1) := by decide +kernel
theorem dX8_found_8 : decode cX8_found 8 = .ok (.isub, 1) := by decide +kernel
theorem dX8_found_9 : decode cX8_found 9 = .ok (.ireturn, 1) := by decide +kernel
theorem dX8_well_0 : decode cX8_well 0 = .ok (.aload_n 0, 1) := by decide +kernel
theorem dX8_well_1 : decode cX8_well 1 = .ok (.iconst 0, 1) := by decide +kernel
theorem dX8_well_2 : decode cX8_well 2 = .ok (.putfield 50, 3) := by decide +kernel
theorem dX8_well_5 : decode cX8_well 5 = .ok (.iload_n 1, 1) := by decide +kernel
theorem dX8_well_6 : decode cX8_well 6 = .ok (.ireturn, 1) := by decide +kernel
theorem dX8_isRow_0 : decode cX8_isRow 0 = .ok (.iload_n 0, 1) := by decide +kernel
theorem dX8_isRow_1 : decode cX8_isRow 1 = .ok (.i2l, 1) := by decide +kernel
theorem dX8_isRow_2 : decode cX8_isRow 2 = .ok (.lconst 0, 1) := by decide +kernel
theorem dX8_isRow_3 : decode cX8_isRow 3 = .ok (.ldc2_w 55, 3) := by decide +kernel
theorem dX8_isRow_6 : decode cX8_isRow 6 = .ok (.invokestatic 57, 3) := by decide +kernel
theorem dX8_isRow_9 : decode cX8_isRow 9 = .ok (.ireturn, 1) := by decide +kernel
theorem dX8_row_0 : decode cX8_row 0 = .ok (.iload_n 1, 1) := by decide +kernel
theorem dX8_row_1 : decode cX8_row 1 = .ok (.invokestatic 61, 3) := by decide +kernel
theorem dX8_row_4 : decode cX8_row 4 = .ok (.ifCond .eq 21, 3) := by decide +kernel
theorem dX8_row_7 : decode cX8_row 7 = .ok (.iload_n 2, 1) := by decide +kernel
theorem dX8_row_8 : decode cX8_row 8 = .ok (.i2l, 1) := by decide +kernel
theorem dX8_row_9 : decode cX8_row 9 = .ok (.lconst 0, 1) := by decide +kernel
theorem dX8_row_10 : decode cX8_row 10 = .ok (.ldc2_w 65, 3) := by decide +kernel
theorem dX8_row_13 : decode cX8_row 13 = .ok (.invokestatic 57, 3) := by decide +kernel
theorem dX8_row_16 : decode cX8_row 16 = .ok (.ifCond .eq 9, 3) := by decide +kernel
theorem dX8_row_19 : decode cX8_row 19 = .ok (.iload_n 3, 1) := by decide +kernel
theorem dX8_row_20 : decode cX8_row 20 = .ok (.bipush 40, 2) := by decide +kernel
theorem dX8_row_22 : decode cX8_row 22 = .ok (.if_icmp .le 6, 3) := by decide +kernel
theorem dX8_row_25 : decode cX8_row 25 = .ok (.ldc 67, 2) := by decide +kernel
theorem dX8_row_27 : decode cX8_row 27 = .ok (.ireturn, 1) := by decide +kernel
theorem dX8_row_28 : decode cX8_row 28 = .ok (.iload_n 3, 1) := by decide +kernel
theorem dX8_row_29 : decode cX8_row 29 = .ok (.ifCond .ge 9, 3) := by decide +kernel
theorem dX8_row_32 : decode cX8_row 32 = .ok (.aload_n 0, 1) := by decide +kernel
theorem dX8_row_33 : decode cX8_row 33 = .ok (.iconst 4, 1) := by decide +kernel
theorem dX8_row_34 : decode cX8_row 34 = .ok (.invokevirtual 68, 3) := by decide +kernel
theorem dX8_row_37 : decode cX8_row 37 = .ok (.ireturn, 1) := by decide +kernel
theorem dX8_row_38 : decode cX8_row 38 = .ok (.aload_n 0, 1) := by decide +kernel
theorem dX8_row_39 : decode cX8_row 39 = .ok (.getfield 7, 3) := by decide +kernel
theorem dX8_row_42 : decode cX8_row 42 = .ok (.iload_n 1, 1) := by decide +kernel
theorem dX8_row_43 : decode cX8_row 43 = .ok (.iload_n 2, 1) := by decide +kernel
theorem dX8_row_44 : decode cX8_row 44 = .ok (.iastore, 1) := by decide +kernel
theorem dX8_row_45 : decode cX8_row 45 = .ok (.aload_n 0, 1) := by decide +kernel
theorem dX8_row_46 : decode cX8_row 46 = .ok (.getfield 13, 3) := by decide +kernel
theorem dX8_row_49 : decode cX8_row 49 = .ok (.iload_n 1, 1) := by decide +kernel
theorem dX8_row_50 : decode cX8_row 50 = .ok (.iload_n 3, 1) := by decide +kernel
theorem dX8_row_51 : decode cX8_row 51 = .ok (.iastore, 1) := by decide +kernel
theorem dX8_row_52 : decode cX8_row 52 = .ok (.iconst 0, 1) := by decide +kernel
theorem dX8_row_53 : decode cX8_row 53 = .ok (.istore 4, 2) := by decide +kernel
theorem dX8_row_55 : decode cX8_row 55 = .ok (.iload 4, 2) := by decide +kernel
theorem dX8_row_57 : decode cX8_row 57 = .ok (.bipush 40, 2) := by decide +kernel
theorem dX8_row_59 : decode cX8_row 59 = .ok (.if_icmp .ge 22, 3) := by decide +kernel
theorem dX8_row_62 : decode cX8_row 62 = .ok (.aload_n 0, 1) := by decide +kernel
theorem dX8_row_63 : decode cX8_row 63 = .ok (.getfield 16, 3) := by decide +kernel
theorem dX8_row_66 : decode cX8_row 66 = .ok (.bipush 40, 2) := by decide +kernel
theorem dX8_row_68 : decode cX8_row 68 = .ok (.iload_n 1, 1) := by decide +kernel
theorem dX8_row_69 : decode cX8_row 69 = .ok (.imul, 1) := by decide +kernel
theorem dX8_row_70 : decode cX8_row 70 = .ok (.iload 4, 2) := by decide +kernel
theorem dX8_row_72 : decode cX8_row 72 = .ok (.iadd, 1) := by decide +kernel
theorem dX8_row_73 : decode cX8_row 73 = .ok (.iconst 0, 1) := by decide +kernel
theorem dX8_row_74 : decode cX8_row 74 = .ok (.iastore, 1) := by decide +kernel
theorem dX8_row_75 : decode cX8_row 75 = .ok (.iinc 4 1, 3) := by decide +kernel
theorem dX8_row_78 : decode cX8_row 78 = .ok (.goto (-23), 3) := by decide +kernel
theorem dX8_row_81 : decode cX8_row 81 = .ok (.aload_n 0, 1) := by decide +kernel
theorem dX8_row_82 : decode cX8_row 82 = .ok (.iload_n 3, 1) := by decide +kernel
theorem dX8_row_83 : decode cX8_row 83 = .ok (.invokevirtual 72, 3) := by decide +kernel
theorem dX8_row_86 : decode cX8_row 86 = .ok (.ireturn, 1) := by decide +kernel
theorem dX8_set_0 : decode cX8_set 0 = .ok (.iload_n 1, 1) := by decide +kernel
theorem dX8_set_1 : decode cX8_set 1 = .ok (.invokestatic 61, 3) := by decide +kernel
theorem dX8_set_4 : decode cX8_set 4 = .ok (.ifCond .ne 6, 3) := by decide +kernel
theorem dX8_set_7 : decode cX8_set 7 = .ok (.ldc 67, 2) := by decide +kernel
theorem dX8_set_9 : decode cX8_set 9 = .ok (.ireturn, 1) := by decide +kernel
theorem dX8_set_10 : decode cX8_set 10 = .ok (.aload_n 0, 1) := by decide +kernel
theorem dX8_set_11 : decode cX8_set 11 = .ok (.getfield 13, 3) := by decide +kernel
theorem dX8_set_14 : decode cX8_set 14 = .ok (.iload_n 1, 1) := by decide +kernel
theorem dX8_set_15 : decode cX8_set 15 = .ok (.iaload, 1) := by decide +kernel
theorem dX8_set_16 : decode cX8_set 16 = .ok (.ifCond .ge 9, 3) := by decide +kernel
theorem dX8_set_19 : decode cX8_set 19 = .ok (.aload_n 0, 1) := by decide +kernel
theorem dX8_set_20 : decode cX8_set 20 = .ok (.iconst 1, 1) := by decide +kernel
theorem dX8_set_21 : decode cX8_set 21 = .ok (.invokevirtual 68, 3) := by decide +kernel
theorem dX8_set_24 : decode cX8_set 24 = .ok (.ireturn, 1) := by decide +kernel
theorem dX8_set_25 : decode cX8_set 25 = .ok (.iload_n 2, 1) := by decide +kernel
theorem dX8_set_26 : decode cX8_set 26 = .ok (.i2l, 1) := by decide +kernel
theorem dX8_set_27 : decode cX8_set 27 = .ok (.lconst 0, 1) := by decide +kernel
theorem dX8_set_28 : decode cX8_set 28 = .ok (.aload_n 0, 1) := by decide +kernel
theorem dX8_set_29 : decode cX8_set 29 = .ok (.getfield 13, 3) := by decide +kernel
theorem dX8_set_32 : decode cX8_set 32 = .ok (.iload_n 1, 1) := by decide +kernel
theorem dX8_set_33 : decode cX8_set 33 = .ok (.iaload, 1) := by decide +kernel
theorem dX8_set_34 : decode cX8_set 34 = .ok (.iconst 1, 1) := by decide +kernel
theorem dX8_set_35 : decode cX8_set 35 = .ok (.isub, 1) := by decide +kernel
theorem dX8_set_36 : decode cX8_set 36 = .ok (.i2l, 1) := by decide +kernel
theorem dX8_set_37 : decode cX8_set 37 = .ok (.invokestatic 57, 3) := by decide +kernel
theorem dX8_set_40 : decode cX8_set 40 = .ok (.ifCond .ne 9, 3) := by decide +kernel
theorem dX8_set_43 : decode cX8_set 43 = .ok (.aload_n 0, 1) := by decide +kernel
theorem dX8_set_44 : decode cX8_set 44 = .ok (.iconst 2, 1) := by decide +kernel
theorem dX8_set_45 : decode cX8_set 45 = .ok (.invokevirtual 68, 3) := by decide +kernel
theorem dX8_set_48 : decode cX8_set 48 = .ok (.ireturn, 1) := by decide +kernel
theorem dX8_set_49 : decode cX8_set 49 = .ok (.aload_n 0, 1) := by decide +kernel
theorem dX8_set_50 : decode cX8_set 50 = .ok (.getfield 16, 3) := by decide +kernel
theorem dX8_set_53 : decode cX8_set 53 = .ok (.bipush 40, 2) := by decide +kernel
theorem dX8_set_55 : decode cX8_set 55 = .ok (.iload_n 1, 1) := by decide +kernel
theorem dX8_set_56 : decode cX8_set 56 = .ok (.imul, 1) := by decide +kernel
theorem dX8_set_57 : decode cX8_set 57 = .ok (.iload_n 2, 1) := by decide +kernel
theorem dX8_set_58 : decode cX8_set 58 = .ok (.iadd, 1) := by decide +kernel
theorem dX8_set_59 : decode cX8_set 59 = .ok (.aload_n 0, 1) := by decide +kernel
theorem dX8_set_60 : decode cX8_set 60 = .ok (.getfield 7, 3) := by decide +kernel
theorem dX8_set_63 : decode cX8_set 63 = .ok (.iload_n 1, 1) := by decide +kernel
theorem dX8_set_64 : decode cX8_set 64 = .ok (.iaload, 1) := by decide +kernel
theorem dX8_set_65 : decode cX8_set 65 = .ok (.ifCond .ne 8, 3) := by decide +kernel
theorem dX8_set_68 : decode cX8_set 68 = .ok (.iload_n 3, 1) := by decide +kernel
theorem dX8_set_69 : decode cX8_set 69 = .ok (.i2b, 1) := by decide +kernel
theorem dX8_set_70 : decode cX8_set 70 = .ok (.goto 19, 3) := by decide +kernel
theorem dX8_set_73 : decode cX8_set 73 = .ok (.aload_n 0, 1) := by decide +kernel
theorem dX8_set_74 : decode cX8_set 74 = .ok (.getfield 7, 3) := by decide +kernel
theorem dX8_set_77 : decode cX8_set 77 = .ok (.iload_n 1, 1) := by decide +kernel
theorem dX8_set_78 : decode cX8_set 78 = .ok (.iaload, 1) := by decide +kernel
theorem dX8_set_79 : decode cX8_set 79 = .ok (.iconst 1, 1) := by decide +kernel
theorem dX8_set_80 : decode cX8_set 80 = .ok (.if_icmp .ne 8, 3) := by decide +kernel
theorem dX8_set_83 : decode cX8_set 83 = .ok (.iload_n 3, 1) := by decide +kernel
theorem dX8_set_84 : decode cX8_set 84 = .ok (.i2s, 1) := by decide +kernel
theorem dX8_set_85 : decode cX8_set 85 = .ok (.goto 4, 3) := by decide +kernel
theorem dX8_set_88 : decode cX8_set 88 = .ok (.iload_n 3, 1) := by decide +kernel
theorem dX8_set_89 : decode cX8_set 89 = .ok (.iastore, 1) := by decide +kernel
theorem dX8_set_90 : decode cX8_set 90 = .ok (.aload_n 0, 1) := by decide +kernel
theorem dX8_set_91 : decode cX8_set 91 = .ok (.aload_n 0, 1) := by decide +kernel
theorem dX8_set_92 : decode cX8_set 92 = .ok (.getfield 16, 3) := by decide +kernel
theorem dX8_set_95 : decode cX8_set 95 = .ok (.bipush 40, 2) := by decide +kernel
theorem dX8_set_97 : decode cX8_set 97 = .ok (.iload_n 1, 1) := by decide +kernel
theorem dX8_set_98 : decode cX8_set 98 = .ok (.imul, 1) := by decide +kernel
theorem dX8_set_99 : decode cX8_set 99 = .ok (.iload_n 2, 1) := by decide +kernel
theorem dX8_set_100 : decode cX8_set 100 = .ok (.iadd, 1) := by decide +kernel
theorem dX8_set_101 : decode cX8_set 101 = .ok (.iaload, 1) := by decide +kernel
theorem dX8_set_102 : decode cX8_set 102 = .ok (.invokevirtual 72, 3) := by decide +kernel
theorem dX8_set_105 : decode cX8_set 105 = .ok (.ireturn, 1) := by decide +kernel
theorem dX8_copy_0 : decode cX8_copy 0 = .ok (.iload_n 1, 1) := by decide +kernel
theorem dX8_copy_1 : decode cX8_copy 1 = .ok (.invokestatic 61, 3) := by decide +kernel
theorem dX8_copy_4 : decode cX8_copy 4 = .ok (.ifCond .eq 10, 3) := by decide +kernel
theorem dX8_copy_7 : decode cX8_copy 7 = .ok (.iload_n 3, 1) := by decide +kernel
theorem dX8_copy_8 : decode cX8_copy 8 = .ok (.invokestatic 61, 3) := by decide +kernel
theorem dX8_copy_11 : decode cX8_copy 11 = .ok (.ifCond .ne 6, 3) := by decide +kernel
theorem dX8_copy_14 : decode cX8_copy 14 = .ok (.ldc 67, 2) := by decide +kernel
theorem dX8_copy_16 : decode cX8_copy 16 = .ok (.ireturn, 1) := by decide +kernel
theorem dX8_copy_17 : decode cX8_copy 17 = .ok (.aload_n 0, 1) := by decide +kernel
theorem dX8_copy_18 : decode cX8_copy 18 = .ok (.getfield 13, 3) := by decide +kernel
theorem dX8_copy_21 : decode cX8_copy 21 = .ok (.iload_n 1, 1) := by decide +kernel
theorem dX8_copy_22 : decode cX8_copy 22 = .ok (.iaload, 1) := by decide +kernel
theorem dX8_copy_23 : decode cX8_copy 23 = .ok (.ifCond .lt 12, 3) := by decide +kernel
theorem dX8_copy_26 : decode cX8_copy 26 = .ok (.aload_n 0, 1) := by decide +kernel
theorem dX8_copy_27 : decode cX8_copy 27 = .ok (.getfield 13, 3) := by decide +kernel
theorem dX8_copy_30 : decode cX8_copy 30 = .ok (.iload_n 3, 1) := by decide +kernel
theorem dX8_copy_31 : decode cX8_copy 31 = .ok (.iaload, 1) := by decide +kernel
theorem dX8_copy_32 : decode cX8_copy 32 = .ok (.ifCond .ge 9, 3) := by decide +kernel
theorem dX8_copy_35 : decode cX8_copy 35 = .ok (.aload_n 0, 1) := by decide +kernel
theorem dX8_copy_36 : decode cX8_copy 36 = .ok (.iconst 1, 1) := by decide +kernel
theorem dX8_copy_37 : decode cX8_copy 37 = .ok (.invokevirtual 68, 3) := by decide +kernel
theorem dX8_copy_40 : decode cX8_copy 40 = .ok (.ireturn, 1) := by decide +kernel
theorem dX8_copy_41 : decode cX8_copy 41 = .ok (.aload_n 0, 1) := by decide +kernel
theorem dX8_copy_42 : decode cX8_copy 42 = .ok (.getfield 7, 3) := by decide +kernel
theorem dX8_copy_45 : decode cX8_copy 45 = .ok (.iload_n 1, 1) := by decide +kernel
theorem dX8_copy_46 : decode cX8_copy 46 = .ok (.iaload, 1) := by decide +kernel
theorem dX8_copy_47 : decode cX8_copy 47 = .ok (.aload_n 0, 1) := by decide +kernel
theorem dX8_copy_48 : decode cX8_copy 48 = .ok (.getfield 7, 3) := by decide +kernel
theorem dX8_copy_51 : decode cX8_copy 51 = .ok (.iload_n 3, 1) := by decide +kernel
theorem dX8_copy_52 : decode cX8_copy 52 = .ok (.iaload, 1) := by decide +kernel
theorem dX8_copy_53 : decode cX8_copy 53 = .ok (.if_icmp .eq 9, 3) := by decide +kernel
theorem dX8_copy_56 : decode cX8_copy 56 = .ok (.aload_n 0, 1) := by decide +kernel
theorem dX8_copy_57 : decode cX8_copy 57 = .ok (.iconst 5, 1) := by decide +kernel
theorem dX8_copy_58 : decode cX8_copy 58 = .ok (.invokevirtual 68, 3) := by decide +kernel
theorem dX8_copy_61 : decode cX8_copy 61 = .ok (.ireturn, 1) := by decide +kernel
theorem dX8_copy_62 : decode cX8_copy 62 = .ok (.iload_n 2, 1) := by decide +kernel
theorem dX8_copy_63 : decode cX8_copy 63 = .ok (.ifCond .lt 48, 3) := by decide +kernel
theorem dX8_copy_66 : decode cX8_copy 66 = .ok (.iload 4, 2) := by decide +kernel
theorem dX8_copy_68 : decode cX8_copy 68 = .ok (.ifCond .lt 43, 3) := by decide +kernel
theorem dX8_copy_71 : decode cX8_copy 71 = .ok (.iload 5, 2) := by decide +kernel
theorem dX8_copy_73 : decode cX8_copy 73 = .ok (.ifCond .lt 38, 3) := by decide +kernel
theorem dX8_copy_76 : decode cX8_copy 76 = .ok (.iload_n 2, 1) := by decide +kernel
theorem dX8_copy_77 : decode cX8_copy 77 = .ok (.i2l, 1) := by decide +kernel
theorem dX8_copy_78 : decode cX8_copy 78 = .ok (.iload 5, 2) := by decide +kernel
theorem dX8_copy_80 : decode cX8_copy 80 = .ok (.i2l, 1) := by decide +kernel
theorem dX8_copy_81 : decode cX8_copy 81 = .ok (.ladd, 1) := by decide +kernel
theorem dX8_copy_82 : decode cX8_copy 82 = .ok (.aload_n 0, 1) := by decide +kernel
theorem dX8_copy_83 : decode cX8_copy 83 = .ok (.getfield 13, 3) := by decide +kernel
theorem dX8_copy_86 : decode cX8_copy 86 = .ok (.iload_n 1, 1) := by decide +kernel
theorem dX8_copy_87 : decode cX8_copy 87 = .ok (.iaload, 1) := by decide +kernel
theorem dX8_copy_88 : decode cX8_copy 88 = .ok (.i2l, 1) := by decide +kernel
theorem dX8_copy_89 : decode cX8_copy 89 = .ok (.lcmp, 1) := by decide +kernel
theorem dX8_copy_90 : decode cX8_copy 90 = .ok (.ifCond .gt 21, 3) := by decide +kernel
theorem dX8_copy_93 : decode cX8_copy 93 = .ok (.iload 4, 2) := by decide +kernel
theorem dX8_copy_95 : decode cX8_copy 95 = .ok (.i2l, 1) := by decide +kernel
theorem dX8_copy_96 : decode cX8_copy 96 = .ok (.iload 5, 2) := by decide +kernel
theorem dX8_copy_98 : decode cX8_copy 98 = .ok (.i2l, 1) := by decide +kernel
theorem dX8_copy_99 : decode cX8_copy 99 = .ok (.ladd, 1) := by decide +kernel
theorem dX8_copy_100 : decode cX8_copy 100 = .ok (.aload_n 0, 1) := by decide +kernel
theorem dX8_copy_101 : decode cX8_copy 101 = .ok (.getfield 13, 3) := by decide +kernel
theorem dX8_copy_104 : decode cX8_copy 104 = .ok (.iload_n 3, 1) := by decide +kernel
theorem dX8_copy_105 : decode cX8_copy 105 = .ok (.iaload, 1) := by decide +kernel
theorem dX8_copy_106 : decode cX8_copy 106 = .ok (.i2l, 1) := by decide +kernel
theorem dX8_copy_107 : decode cX8_copy 107 = .ok (.lcmp, 1) := by decide +kernel
theorem dX8_copy_108 : decode cX8_copy 108 = .ok (.ifCond .le 9, 3) := by decide +kernel
theorem dX8_copy_111 : decode cX8_copy 111 = .ok (.aload_n 0, 1) := by decide +kernel
theorem dX8_copy_112 : decode cX8_copy 112 = .ok (.iconst 2, 1) := by decide +kernel
theorem dX8_copy_113 : decode cX8_copy 113 = .ok (.invokevirtual 68, 3) := by decide +kernel
theorem dX8_copy_116 : decode cX8_copy 116 = .ok (.ireturn, 1) := by decide +kernel
theorem dX8_copy_117 : decode cX8_copy 117 = .ok (.iconst 0, 1) := by decide +kernel
theorem dX8_copy_118 : decode cX8_copy 118 = .ok (.istore 6, 2) := by decide +kernel
theorem dX8_copy_120 : decode cX8_copy 120 = .ok (.iload 6, 2) := by decide +kernel
theorem dX8_copy_122 : decode cX8_copy 122 = .ok (.iload 5, 2) := by decide +kernel
theorem dX8_copy_124 : decode cX8_copy 124 = .ok (.if_icmp .ge 58, 3) := by decide +kernel
theorem dX8_copy_127 : decode cX8_copy 127 = .ok (.iload 4, 2) := by decide +kernel
theorem dX8_copy_129 : decode cX8_copy 129 = .ok (.iload_n 2, 1) := by decide +kernel
theorem dX8_copy_130 : decode cX8_copy 130 = .ok (.if_icmp .le 13, 3) := by decide +kernel
theorem dX8_copy_133 : decode cX8_copy 133 = .ok (.iload 5, 2) := by decide +kernel
theorem dX8_copy_135 : decode cX8_copy 135 = .ok (.iconst 1, 1) := by decide +kernel
theorem dX8_copy_136 : decode cX8_copy 136 = .ok (.isub, 1) := by decide +kernel
theorem dX8_copy_137 : decode cX8_copy 137 = .ok (.iload 6, 2) := by decide +kernel
theorem dX8_copy_139 : decode cX8_copy 139 = .ok (.isub, 1) := by decide +kernel
theorem dX8_copy_140 : decode cX8_copy 140 = .ok (.goto 5, 3) := by decide +kernel
theorem dX8_copy_143 : decode cX8_copy 143 = .ok (.iload 6, 2) := by decide +kernel
theorem dX8_copy_145 : decode cX8_copy 145 = .ok (.istore 7, 2) := by decide +kernel
theorem dX8_copy_147 : decode cX8_copy 147 = .ok (.aload_n 0, 1) := by decide +kernel
theorem dX8_copy_148 : decode cX8_copy 148 = .ok (.getfield 16, 3) := by decide +kernel
theorem dX8_copy_151 : decode cX8_copy 151 = .ok (.bipush 40, 2) := by decide +kernel
theorem dX8_copy_153 : decode cX8_copy 153 = .ok (.iload_n 3, 1) := by decide +kernel
theorem dX8_copy_154 : decode cX8_copy 154 = .ok (.imul, 1) := by decide +kernel
theorem dX8_copy_155 : decode cX8_copy 155 = .ok (.iload 4, 2) := by decide +kernel
theorem dX8_copy_157 : decode cX8_copy 157 = .ok (.iadd, 1) := by decide +kernel
theorem dX8_copy_158 : decode cX8_copy 158 = .ok (.iload 7, 2) := by decide +kernel
theorem dX8_copy_160 : decode cX8_copy 160 = .ok (.iadd, 1) := by decide +kernel
theorem dX8_copy_161 : decode cX8_copy 161 = .ok (.aload_n 0, 1) := by decide +kernel
theorem dX8_copy_162 : decode cX8_copy 162 = .ok (.getfield 16, 3) := by decide +kernel
theorem dX8_copy_165 : decode cX8_copy 165 = .ok (.bipush 40, 2) := by decide +kernel
theorem dX8_copy_167 : decode cX8_copy 167 = .ok (.iload_n 1, 1) := by decide +kernel
theorem dX8_copy_168 : decode cX8_copy 168 = .ok (.imul, 1) := by decide +kernel
theorem dX8_copy_169 : decode cX8_copy 169 = .ok (.iload_n 2, 1) := by decide +kernel
theorem dX8_copy_170 : decode cX8_copy 170 = .ok (.iadd, 1) := by decide +kernel
theorem dX8_copy_171 : decode cX8_copy 171 = .ok (.iload 7, 2) := by decide +kernel
theorem dX8_copy_173 : decode cX8_copy 173 = .ok (.iadd, 1) := by decide +kernel
theorem dX8_copy_174 : decode cX8_copy 174 = .ok (.iaload, 1) := by decide +kernel
theorem dX8_copy_175 : decode cX8_copy 175 = .ok (.iastore, 1) := by decide +kernel
theorem dX8_copy_176 : decode cX8_copy 176 = .ok (.iinc 6 1, 3) := by decide +kernel
theorem dX8_copy_179 : decode cX8_copy 179 = .ok (.goto (-59), 3) := by decide +kernel
theorem dX8_copy_182 : decode cX8_copy 182 = .ok (.aload_n 0, 1) := by decide +kernel
theorem dX8_copy_183 : decode cX8_copy 183 = .ok (.iload 5, 2) := by decide +kernel
theorem dX8_copy_185 : decode cX8_copy 185 = .ok (.invokevirtual 72, 3) := by decide +kernel
theorem dX8_copy_188 : decode cX8_copy 188 = .ok (.ireturn, 1) := by decide +kernel
theorem dX8_drop_0 : decode cX8_drop 0 = .ok (.iload_n 1, 1) := by decide +kernel
theorem dX8_drop_1 : decode cX8_drop 1 = .ok (.invokestatic 61, 3) := by decide +kernel
theorem dX8_drop_4 : decode cX8_drop 4 = .ok (.ifCond .ne 6, 3) := by decide +kernel
theorem dX8_drop_7 : decode cX8_drop 7 = .ok (.ldc 67, 2) := by decide +kernel
theorem dX8_drop_9 : decode cX8_drop 9 = .ok (.ireturn, 1) := by decide +kernel
theorem dX8_drop_10 : decode cX8_drop 10 = .ok (.aload_n 0, 1) := by decide +kernel
theorem dX8_drop_11 : decode cX8_drop 11 = .ok (.getfield 13, 3) := by decide +kernel
theorem dX8_drop_14 : decode cX8_drop 14 = .ok (.iload_n 1, 1) := by decide +kernel
theorem dX8_drop_15 : decode cX8_drop 15 = .ok (.iaload, 1) := by decide +kernel
theorem dX8_drop_16 : decode cX8_drop 16 = .ok (.ifCond .ge 9, 3) := by decide +kernel
theorem dX8_drop_19 : decode cX8_drop 19 = .ok (.aload_n 0, 1) := by decide +kernel
theorem dX8_drop_20 : decode cX8_drop 20 = .ok (.iconst 1, 1) := by decide +kernel
theorem dX8_drop_21 : decode cX8_drop 21 = .ok (.invokevirtual 68, 3) := by decide +kernel
theorem dX8_drop_24 : decode cX8_drop 24 = .ok (.ireturn, 1) := by decide +kernel
theorem dX8_drop_25 : decode cX8_drop 25 = .ok (.aload_n 0, 1) := by decide +kernel
theorem dX8_drop_26 : decode cX8_drop 26 = .ok (.getfield 13, 3) := by decide +kernel
theorem dX8_drop_29 : decode cX8_drop 29 = .ok (.iload_n 1, 1) := by decide +kernel
theorem dX8_drop_30 : decode cX8_drop 30 = .ok (.iaload, 1) := by decide +kernel
theorem dX8_drop_31 : decode cX8_drop 31 = .ok (.istore_n 2, 1) := by decide +kernel
theorem dX8_drop_32 : decode cX8_drop 32 = .ok (.aload_n 0, 1) := by decide +kernel
theorem dX8_drop_33 : decode cX8_drop 33 = .ok (.getfield 13, 3) := by decide +kernel
theorem dX8_drop_36 : decode cX8_drop 36 = .ok (.iload_n 1, 1) := by decide +kernel
theorem dX8_drop_37 : decode cX8_drop 37 = .ok (.iconst (-1), 1) := by decide +kernel
theorem dX8_drop_38 : decode cX8_drop 38 = .ok (.iastore, 1) := by decide +kernel
theorem dX8_drop_39 : decode cX8_drop 39 = .ok (.aload_n 0, 1) := by decide +kernel
theorem dX8_drop_40 : decode cX8_drop 40 = .ok (.iload_n 2, 1) := by decide +kernel
theorem dX8_drop_41 : decode cX8_drop 41 = .ok (.invokevirtual 72, 3) := by decide +kernel
theorem dX8_drop_44 : decode cX8_drop 44 = .ok (.ireturn, 1) := by decide +kernel
theorem dX8_feed_0 : decode cX8_feed 0 = .ok (.iload_n 1, 1) := by decide +kernel
theorem dX8_feed_1 : decode cX8_feed 1 = .ok (.i2l, 1) := by decide +kernel
theorem dX8_feed_2 : decode cX8_feed 2 = .ok (.lconst 0, 1) := by decide +kernel
theorem dX8_feed_3 : decode cX8_feed 3 = .ok (.ldc2_w 75, 3) := by decide +kernel
theorem dX8_feed_6 : decode cX8_feed 6 = .ok (.invokestatic 57, 3) := by decide +kernel
theorem dX8_feed_9 : decode cX8_feed 9 = .ok (.ifCond .ne 6, 3) := by decide +kernel
theorem dX8_feed_12 : decode cX8_feed 12 = .ok (.ldc 67, 2) := by decide +kernel
theorem dX8_feed_14 : decode cX8_feed 14 = .ok (.ireturn, 1) := by decide +kernel
theorem dX8_feed_15 : decode cX8_feed 15 = .ok (.aload_n 0, 1) := by decide +kernel
theorem dX8_feed_16 : decode cX8_feed 16 = .ok (.getfield 77, 3) := by decide +kernel
theorem dX8_feed_19 : decode cX8_feed 19 = .ok (.bipush 100, 2) := by decide +kernel
theorem dX8_feed_21 : decode cX8_feed 21 = .ok (.if_icmp .ne 6, 3) := by decide +kernel
theorem dX8_feed_24 : decode cX8_feed 24 = .ok (.ldc 80, 2) := by decide +kernel
theorem dX8_feed_26 : decode cX8_feed 26 = .ok (.ireturn, 1) := by decide +kernel
theorem dX8_feed_27 : decode cX8_feed 27 = .ok (.aload_n 0, 1) := by decide +kernel
theorem dX8_feed_28 : decode cX8_feed 28 = .ok (.getfield 19, 3) := by decide +kernel
theorem dX8_feed_31 : decode cX8_feed 31 = .ok (.aload_n 0, 1) := by decide +kernel
theorem dX8_feed_32 : decode cX8_feed 32 = .ok (.getfield 77, 3) := by decide +kernel
theorem dX8_feed_35 : decode cX8_feed 35 = .ok (.iload_n 1, 1) := by decide +kernel
theorem dX8_feed_36 : decode cX8_feed 36 = .ok (.iastore, 1) := by decide +kernel
theorem dX8_feed_37 : decode cX8_feed 37 = .ok (.aload_n 0, 1) := by decide +kernel
theorem dX8_feed_38 : decode cX8_feed 38 = .ok (.dup, 1) := by decide +kernel
theorem dX8_feed_39 : decode cX8_feed 39 = .ok (.getfield 77, 3) := by decide +kernel
theorem dX8_feed_42 : decode cX8_feed 42 = .ok (.iconst 1, 1) := by decide +kernel
theorem dX8_feed_43 : decode cX8_feed 43 = .ok (.iadd, 1) := by decide +kernel
theorem dX8_feed_44 : decode cX8_feed 44 = .ok (.putfield 77, 3) := by decide +kernel
theorem dX8_feed_47 : decode cX8_feed 47 = .ok (.aload_n 0, 1) := by decide +kernel
theorem dX8_feed_48 : decode cX8_feed 48 = .ok (.getfield 77, 3) := by decide +kernel
theorem dX8_feed_51 : decode cX8_feed 51 = .ok (.ireturn, 1) := by decide +kernel
theorem dX8_isFigure_0 : decode cX8_isFigure 0 = .ok (.iload_n 0, 1) := by decide +kernel
theorem dX8_isFigure_1 : decode cX8_isFigure 1 = .ok (.i2l, 1) := by decide +kernel
theorem dX8_isFigure_2 : decode cX8_isFigure 2 = .ok (.ldc2_w 81, 3) := by decide +kernel
theorem dX8_isFigure_5 : decode cX8_isFigure 5 = .ok (.ldc2_w 83, 3) := by decide +kernel
theorem dX8_isFigure_8 : decode cX8_isFigure 8 = .ok (.invokestatic 57, 3) := by decide +kernel
theorem dX8_isFigure_11 : decode cX8_isFigure 11 = .ok (.ireturn, 1) := by decide +kernel
theorem dX8_next_0 : decode cX8_next 0 = .ok (.aload_n 0, 1) := by decide +kernel
theorem dX8_next_1 : decode cX8_next 1 = .ok (.aload_n 0, 1) := by decide +kernel
theorem dX8_next_2 : decode cX8_next 2 = .ok (.getfield 85, 3) := by decide +kernel
theorem dX8_next_5 : decode cX8_next 5 = .ok (.putfield 88, 3) := by decide +kernel
theorem dX8_next_8 : decode cX8_next 8 = .ok (.aload_n 0, 1) := by decide +kernel
theorem dX8_next_9 : decode cX8_next 9 = .ok (.getfield 85, 3) := by decide +kernel
theorem dX8_next_12 : decode cX8_next 12 = .ok (.aload_n 0, 1) := by decide +kernel
theorem dX8_next_13 : decode cX8_next 13 = .ok (.getfield 91, 3) := by decide +kernel
theorem dX8_next_16 : decode cX8_next 16 = .ok (.if_icmp .ge 15, 3) := by decide +kernel
theorem dX8_next_19 : decode cX8_next 19 = .ok (.aload_n 0, 1) := by decide +kernel
theorem dX8_next_20 : decode cX8_next 20 = .ok (.getfield 19, 3) := by decide +kernel
theorem dX8_next_23 : decode cX8_next 23 = .ok (.aload_n 0, 1) := by decide +kernel
theorem dX8_next_24 : decode cX8_next 24 = .ok (.getfield 85, 3) := by decide +kernel
theorem dX8_next_27 : decode cX8_next 27 = .ok (.iaload, 1) := by decide +kernel
theorem dX8_next_28 : decode cX8_next 28 = .ok (.goto 4, 3) := by decide +kernel
theorem dX8_next_31 : decode cX8_next 31 = .ok (.iconst (-1), 1) := by decide +kernel
theorem dX8_next_32 : decode cX8_next 32 = .ok (.istore_n 1, 1) := by decide +kernel
theorem dX8_next_33 : decode cX8_next 33 = .ok (.aload_n 0, 1) := by decide +kernel
theorem dX8_next_34 : decode cX8_next 34 = .ok (.iload_n 1, 1) := by decide +kernel
theorem dX8_next_35 : decode cX8_next 35 = .ok (.ifCond .ge 7, 3) := by decide +kernel
theorem dX8_next_38 : decode cX8_next 38 = .ok (.iconst 0, 1) := by decide +kernel
theorem dX8_next_39 : decode cX8_next 39 = .ok (.goto 53, 3) := by decide +kernel
theorem dX8_next_42 : decode cX8_next 42 = .ok (.iload_n 1, 1) := by decide +kernel
theorem dX8_next_43 : decode cX8_next 43 = .ok (.i2l, 1) := by decide +kernel
theorem dX8_next_44 : decode cX8_next 44 = .ok (.ldc2_w 94, 3) := by decide +kernel
theorem dX8_next_47 : decode cX8_next 47 = .ok (.ldc2_w 96, 3) := by decide +kernel
theorem dX8_next_50 : decode cX8_next 50 = .ok (.invokestatic 57, 3) := by decide +kernel
theorem dX8_next_53 : decode cX8_next 53 = .ok (.ifCond .eq 7, 3) := by decide +kernel
theorem dX8_next_56 : decode cX8_next 56 = .ok (.iconst 1, 1) := by decide +kernel
theorem dX8_next_57 : decode cX8_next 57 = .ok (.goto 35, 3) := by decide +kernel
theorem dX8_next_60 : decode cX8_next 60 = .ok (.iload_n 1, 1) := by decide +kernel
theorem dX8_next_61 : decode cX8_next 61 = .ok (.invokestatic 98, 3) := by decide +kernel
theorem dX8_next_64 : decode cX8_next 64 = .ok (.ifCond .eq 7, 3) := by decide +kernel
theorem dX8_next_67 : decode cX8_next 67 = .ok (.iconst 2, 1) := by decide +kernel
theorem dX8_next_68 : decode cX8_next 68 = .ok (.goto 24, 3) := by decide +kernel
theorem dX8_next_71 : decode cX8_next 71 = .ok (.iload_n 1, 1) := by decide +kernel
theorem dX8_next_72 : decode cX8_next 72 = .ok (.bipush 44, 2) := by decide +kernel
theorem dX8_next_74 : decode cX8_next 74 = .ok (.if_icmp .ne 7, 3) := by decide +kernel
theorem dX8_next_77 : decode cX8_next 77 = .ok (.iconst 3, 1) := by decide +kernel
theorem dX8_next_78 : decode cX8_next 78 = .ok (.goto 14, 3) := by decide +kernel
theorem dX8_next_81 : decode cX8_next 81 = .ok (.iload_n 1, 1) := by decide +kernel
theorem dX8_next_82 : decode cX8_next 82 = .ok (.bipush 59, 2) := by decide +kernel
theorem dX8_next_84 : decode cX8_next 84 = .ok (.if_icmp .ne 7, 3) := by decide +kernel
theorem dX8_next_87 : decode cX8_next 87 = .ok (.iconst 4, 1) := by decide +kernel
theorem dX8_next_88 : decode cX8_next 88 = .ok (.goto 4, 3) := by decide +kernel
theorem dX8_next_91 : decode cX8_next 91 = .ok (.iconst 5, 1) := by decide +kernel
theorem dX8_next_92 : decode cX8_next 92 = .ok (.putfield 101, 3) := by decide +kernel
theorem dX8_next_95 : decode cX8_next 95 = .ok (.aload_n 0, 1) := by decide +kernel
theorem dX8_next_96 : decode cX8_next 96 = .ok (.aload_n 0, 1) := by decide +kernel
theorem dX8_next_97 : decode cX8_next 97 = .ok (.getfield 101, 3) := by decide +kernel
theorem dX8_next_100 : decode cX8_next 100 = .ok (.iconst 1, 1) := by decide +kernel
theorem dX8_next_101 : decode cX8_next 101 = .ok (.if_icmp .ne 7, 3) := by decide +kernel
theorem dX8_next_104 : decode cX8_next 104 = .ok (.iload_n 1, 1) := by decide +kernel
theorem dX8_next_105 : decode cX8_next 105 = .ok (.goto 4, 3) := by decide +kernel
theorem dX8_next_108 : decode cX8_next 108 = .ok (.iconst 0, 1) := by decide +kernel
theorem dX8_next_109 : decode cX8_next 109 = .ok (.putfield 104, 3) := by decide +kernel
theorem dX8_next_112 : decode cX8_next 112 = .ok (.aload_n 0, 1) := by decide +kernel
theorem dX8_next_113 : decode cX8_next 113 = .ok (.dup, 1) := by decide +kernel
theorem dX8_next_114 : decode cX8_next 114 = .ok (.getfield 85, 3) := by decide +kernel
theorem dX8_next_117 : decode cX8_next 117 = .ok (.aload_n 0, 1) := by decide +kernel
theorem dX8_next_118 : decode cX8_next 118 = .ok (.getfield 101, 3) := by decide +kernel
theorem dX8_next_121 : decode cX8_next 121 = .ok (.ifCond .le 15, 3) := by decide +kernel
theorem dX8_next_124 : decode cX8_next 124 = .ok (.aload_n 0, 1) := by decide +kernel
theorem dX8_next_125 : decode cX8_next 125 = .ok (.getfield 101, 3) := by decide +kernel
theorem dX8_next_128 : decode cX8_next 128 = .ok (.iconst 2, 1) := by decide +kernel
theorem dX8_next_129 : decode cX8_next 129 = .ok (.if_icmp .eq 7, 3) := by decide +kernel
theorem dX8_next_132 : decode cX8_next 132 = .ok (.iconst 1, 1) := by decide +kernel
theorem dX8_next_133 : decode cX8_next 133 = .ok (.goto 4, 3) := by decide +kernel
theorem dX8_next_136 : decode cX8_next 136 = .ok (.iconst 0, 1) := by decide +kernel
theorem dX8_next_137 : decode cX8_next 137 = .ok (.iadd, 1) := by decide +kernel
theorem dX8_next_138 : decode cX8_next 138 = .ok (.putfield 85, 3) := by decide +kernel
theorem dX8_next_141 : decode cX8_next 141 = .ok (.aload_n 0, 1) := by decide +kernel
theorem dX8_next_142 : decode cX8_next 142 = .ok (.getfield 101, 3) := by decide +kernel
theorem dX8_next_145 : decode cX8_next 145 = .ok (.iconst 2, 1) := by decide +kernel
theorem dX8_next_146 : decode cX8_next 146 = .ok (.if_icmp .ne 86, 3) := by decide +kernel
theorem dX8_next_149 : decode cX8_next 149 = .ok (.aload_n 0, 1) := by decide +kernel
theorem dX8_next_150 : decode cX8_next 150 = .ok (.getfield 85, 3) := by decide +kernel
theorem dX8_next_153 : decode cX8_next 153 = .ok (.aload_n 0, 1) := by decide +kernel
theorem dX8_next_154 : decode cX8_next 154 = .ok (.getfield 91, 3) := by decide +kernel
theorem dX8_next_157 : decode cX8_next 157 = .ok (.if_icmp .ge 75, 3) := by decide +kernel
theorem dX8_next_160 : decode cX8_next 160 = .ok (.aload_n 0, 1) := by decide +kernel
theorem dX8_next_161 : decode cX8_next 161 = .ok (.getfield 19, 3) := by decide +kernel
theorem dX8_next_164 : decode cX8_next 164 = .ok (.aload_n 0, 1) := by decide +kernel
theorem dX8_next_165 : decode cX8_next 165 = .ok (.getfield 85, 3) := by decide +kernel
theorem dX8_next_168 : decode cX8_next 168 = .ok (.iaload, 1) := by decide +kernel
theorem dX8_next_169 : decode cX8_next 169 = .ok (.invokestatic 98, 3) := by decide +kernel
theorem dX8_next_172 : decode cX8_next 172 = .ok (.ifCond .eq 60, 3) := by decide +kernel
theorem dX8_next_175 : decode cX8_next 175 = .ok (.aload_n 0, 1) := by decide +kernel
theorem dX8_next_176 : decode cX8_next 176 = .ok (.aload_n 0, 1) := by decide +kernel
theorem dX8_next_177 : decode cX8_next 177 = .ok (.getfield 85, 3) := by decide +kernel
theorem dX8_next_180 : decode cX8_next 180 = .ok (.aload_n 0, 1) := by decide +kernel
theorem dX8_next_181 : decode cX8_next 181 = .ok (.getfield 88, 3) := by decide +kernel
theorem dX8_next_184 : decode cX8_next 184 = .ok (.isub, 1) := by decide +kernel
theorem dX8_next_185 : decode cX8_next 185 = .ok (.iconst 2, 1) := by decide +kernel
theorem dX8_next_186 : decode cX8_next 186 = .ok (.if_icmp .ge 26, 3) := by decide +kernel
theorem dX8_next_189 : decode cX8_next 189 = .ok (.bipush 10, 2) := by decide +kernel
theorem dX8_next_191 : decode cX8_next 191 = .ok (.aload_n 0, 1) := by decide +kernel
theorem dX8_next_192 : decode cX8_next 192 = .ok (.getfield 104, 3) := by decide +kernel
theorem dX8_next_195 : decode cX8_next 195 = .ok (.imul, 1) := by decide +kernel
theorem dX8_next_196 : decode cX8_next 196 = .ok (.aload_n 0, 1) := by decide +kernel
theorem dX8_next_197 : decode cX8_next 197 = .ok (.getfield 19, 3) := by decide +kernel
theorem dX8_next_200 : decode cX8_next 200 = .ok (.aload_n 0, 1) := by decide +kernel
theorem dX8_next_201 : decode cX8_next 201 = .ok (.getfield 85, 3) := by decide +kernel
theorem dX8_next_204 : decode cX8_next 204 = .ok (.iaload, 1) := by decide +kernel
theorem dX8_next_205 : decode cX8_next 205 = .ok (.iadd, 1) := by decide +kernel
theorem dX8_next_206 : decode cX8_next 206 = .ok (.bipush 48, 2) := by decide +kernel
theorem dX8_next_208 : decode cX8_next 208 = .ok (.isub, 1) := by decide +kernel
theorem dX8_next_209 : decode cX8_next 209 = .ok (.goto 7, 3) := by decide +kernel
theorem dX8_next_212 : decode cX8_next 212 = .ok (.aload_n 0, 1) := by decide +kernel
theorem dX8_next_213 : decode cX8_next 213 = .ok (.getfield 104, 3) := by decide +kernel
theorem dX8_next_216 : decode cX8_next 216 = .ok (.putfield 104, 3) := by decide +kernel
theorem dX8_next_219 : decode cX8_next 219 = .ok (.aload_n 0, 1) := by decide +kernel
theorem dX8_next_220 : decode cX8_next 220 = .ok (.dup, 1) := by decide +kernel
theorem dX8_next_221 : decode cX8_next 221 = .ok (.getfield 85, 3) := by decide +kernel
theorem dX8_next_224 : decode cX8_next 224 = .ok (.iconst 1, 1) := by decide +kernel
theorem dX8_next_225 : decode cX8_next 225 = .ok (.iadd, 1) := by decide +kernel
theorem dX8_next_226 : decode cX8_next 226 = .ok (.putfield 85, 3) := by decide +kernel
theorem dX8_next_229 : decode cX8_next 229 = .ok (.goto (-88), 3) := by decide +kernel
theorem dX8_next_232 : decode cX8_next 232 = .ok (.aload_n 0, 1) := by decide +kernel
theorem dX8_next_233 : decode cX8_next 233 = .ok (.aload_n 0, 1) := by decide +kernel
theorem dX8_next_234 : decode cX8_next 234 = .ok (.getfield 101, 3) := by decide +kernel
theorem dX8_next_237 : decode cX8_next 237 = .ok (.iconst 2, 1) := by decide +kernel
theorem dX8_next_238 : decode cX8_next 238 = .ok (.if_icmp .ne 20, 3) := by decide +kernel
theorem dX8_next_241 : decode cX8_next 241 = .ok (.aload_n 0, 1) := by decide +kernel
theorem dX8_next_242 : decode cX8_next 242 = .ok (.getfield 85, 3) := by decide +kernel
theorem dX8_next_245 : decode cX8_next 245 = .ok (.aload_n 0, 1) := by decide +kernel
theorem dX8_next_246 : decode cX8_next 246 = .ok (.getfield 88, 3) := by decide +kernel
theorem dX8_next_249 : decode cX8_next 249 = .ok (.isub, 1) := by decide +kernel
theorem dX8_next_250 : decode cX8_next 250 = .ok (.iconst 2, 1) := by decide +kernel
theorem dX8_next_251 : decode cX8_next 251 = .ok (.if_icmp .le 7, 3) := by decide +kernel
theorem dX8_next_254 : decode cX8_next 254 = .ok (.iconst 5, 1) := by decide +kernel
theorem dX8_next_255 : decode cX8_next 255 = .ok (.goto 7, 3) := by decide +kernel
theorem dX8_next_258 : decode cX8_next 258 = .ok (.aload_n 0, 1) := by decide +kernel
theorem dX8_next_259 : decode cX8_next 259 = .ok (.getfield 101, 3) := by decide +kernel
theorem dX8_next_262 : decode cX8_next 262 = .ok (.putfield 101, 3) := by decide +kernel
theorem dX8_next_265 : decode cX8_next 265 = .ok (.return_, 1) := by decide +kernel
theorem dX8_fails_0 : decode cX8_fails 0 = .ok (.aload_n 0, 1) := by decide +kernel
theorem dX8_fails_1 : decode cX8_fails 1 = .ok (.iload_n 1, 1) := by decide +kernel
theorem dX8_fails_2 : decode cX8_fails 2 = .ok (.putfield 107, 3) := by decide +kernel
theorem dX8_fails_5 : decode cX8_fails 5 = .ok (.iconst 0, 1) := by decide +kernel
theorem dX8_fails_6 : decode cX8_fails 6 = .ok (.ireturn, 1) := by decide +kernel
theorem dX8_number_0 : decode cX8_number 0 = .ok (.aload_n 0, 1) := by decide +kernel
theorem dX8_number_1 : decode cX8_number 1 = .ok (.invokevirtual 110, 3) := by decide +kernel
theorem dX8_number_4 : decode cX8_number 4 = .ok (.aload_n 0, 1) := by decide +kernel
theorem dX8_number_5 : decode cX8_number 5 = .ok (.getfield 101, 3) := by decide +kernel
theorem dX8_number_8 : decode cX8_number 8 = .ok (.iconst 2, 1) := by decide +kernel
theorem dX8_number_9 : decode cX8_number 9 = .ok (.if_icmp .eq 9, 3) := by decide +kernel
theorem dX8_number_12 : decode cX8_number 12 = .ok (.aload_n 0, 1) := by decide +kernel
theorem dX8_number_13 : decode cX8_number 13 = .ok (.iconst 1, 1) := by decide +kernel
theorem dX8_number_14 : decode cX8_number 14 = .ok (.invokevirtual 113, 3) := by decide +kernel
theorem dX8_number_17 : decode cX8_number 17 = .ok (.ireturn, 1) := by decide +kernel
theorem dX8_number_18 : decode cX8_number 18 = .ok (.aload_n 0, 1) := by decide +kernel
theorem dX8_number_19 : decode cX8_number 19 = .ok (.getfield 104, 3) := by decide +kernel
theorem dX8_number_22 : decode cX8_number 22 = .ok (.i2l, 1) := by decide +kernel
theorem dX8_number_23 : decode cX8_number 23 = .ok (.lconst 0, 1) := by decide +kernel
theorem dX8_number_24 : decode cX8_number 24 = .ok (.iload_n 2, 1) := by decide +kernel
theorem dX8_number_25 : decode cX8_number 25 = .ok (.i2l, 1) := by decide +kernel
theorem dX8_number_26 : decode cX8_number 26 = .ok (.invokestatic 57, 3) := by decide +kernel
theorem dX8_number_29 : decode cX8_number 29 = .ok (.ifCond .ne 9, 3) := by decide +kernel
theorem dX8_number_32 : decode cX8_number 32 = .ok (.aload_n 0, 1) := by decide +kernel
theorem dX8_number_33 : decode cX8_number 33 = .ok (.iconst 2, 1) := by decide +kernel
theorem dX8_number_34 : decode cX8_number 34 = .ok (.invokevirtual 113, 3) := by decide +kernel
theorem dX8_number_37 : decode cX8_number 37 = .ok (.ireturn, 1) := by decide +kernel
theorem dX8_number_38 : decode cX8_number 38 = .ok (.aload_n 0, 1) := by decide +kernel
theorem dX8_number_39 : decode cX8_number 39 = .ok (.getfield 38, 3) := by decide +kernel
theorem dX8_number_42 : decode cX8_number 42 = .ok (.iload_n 1, 1) := by decide +kernel
theorem dX8_number_43 : decode cX8_number 43 = .ok (.aload_n 0, 1) := by decide +kernel
theorem dX8_number_44 : decode cX8_number 44 = .ok (.getfield 104, 3) := by decide +kernel
theorem dX8_number_47 : decode cX8_number 47 = .ok (.iastore, 1) := by decide +kernel
theorem dX8_number_48 : decode cX8_number 48 = .ok (.iconst 1, 1) := by decide +kernel
theorem dX8_number_49 : decode cX8_number 49 = .ok (.ireturn, 1) := by decide +kernel
theorem dX8_sign_0 : decode cX8_sign 0 = .ok (.aload_n 0, 1) := by decide +kernel
theorem dX8_sign_1 : decode cX8_sign 1 = .ok (.invokevirtual 110, 3) := by decide +kernel
theorem dX8_sign_4 : decode cX8_sign 4 = .ok (.aload_n 0, 1) := by decide +kernel
theorem dX8_sign_5 : decode cX8_sign 5 = .ok (.getfield 101, 3) := by decide +kernel
theorem dX8_sign_8 : decode cX8_sign 8 = .ok (.iload_n 1, 1) := by decide +kernel
theorem dX8_sign_9 : decode cX8_sign 9 = .ok (.if_icmp .eq 11, 3) := by decide +kernel
theorem dX8_sign_12 : decode cX8_sign 12 = .ok (.aload_n 0, 1) := by decide +kernel
theorem dX8_sign_13 : decode cX8_sign 13 = .ok (.iconst 1, 1) := by decide +kernel
theorem dX8_sign_14 : decode cX8_sign 14 = .ok (.invokevirtual 113, 3) := by decide +kernel
theorem dX8_sign_17 : decode cX8_sign 17 = .ok (.ifCond .eq 7, 3) := by decide +kernel
theorem dX8_sign_20 : decode cX8_sign 20 = .ok (.iconst 1, 1) := by decide +kernel
theorem dX8_sign_21 : decode cX8_sign 21 = .ok (.goto 4, 3) := by decide +kernel
theorem dX8_sign_24 : decode cX8_sign 24 = .ok (.iconst 0, 1) := by decide +kernel
theorem dX8_sign_25 : decode cX8_sign 25 = .ok (.ireturn, 1) := by decide +kernel
theorem dX8_readsLaw_0 : decode cX8_readsLaw 0 = .ok (.aload_n 0, 1) := by decide +kernel
theorem dX8_readsLaw_1 : decode cX8_readsLaw 1 = .ok (.invokevirtual 110, 3) := by decide +kernel
theorem dX8_readsLaw_4 : decode cX8_readsLaw 4 = .ok (.aload_n 0, 1) := by decide +kernel
theorem dX8_readsLaw_5 : decode cX8_readsLaw 5 = .ok (.getfield 101, 3) := by decide +kernel
theorem dX8_readsLaw_8 : decode cX8_readsLaw 8 = .ok (.iconst 1, 1) := by decide +kernel
theorem dX8_readsLaw_9 : decode cX8_readsLaw 9 = .ok (.if_icmp .ne 12, 3) := by decide +kernel
theorem dX8_readsLaw_12 : decode cX8_readsLaw 12 = .ok (.aload_n 0, 1) := by decide +kernel
theorem dX8_readsLaw_13 : decode cX8_readsLaw 13 = .ok (.getfield 104, 3) := by decide +kernel
theorem dX8_readsLaw_16 : decode cX8_readsLaw 16 = .ok (.bipush 119, 2) := by decide +kernel
theorem dX8_readsLaw_18 : decode cX8_readsLaw 18 = .ok (.if_icmp .eq 9, 3) := by decide +kernel
theorem dX8_readsLaw_21 : decode cX8_readsLaw 21 = .ok (.aload_n 0, 1) := by decide +kernel
theorem dX8_readsLaw_22 : decode cX8_readsLaw 22 = .ok (.iconst 1, 1) := by decide +kernel
theorem dX8_readsLaw_23 : decode cX8_readsLaw 23 = .ok (.invokevirtual 113, 3) := by decide +kernel
theorem dX8_readsLaw_26 : decode cX8_readsLaw 26 = .ok (.ireturn, 1) := by decide +kernel
theorem dX8_readsLaw_27 : decode cX8_readsLaw 27 = .ok (.iconst 0, 1) := by decide +kernel
theorem dX8_readsLaw_28 : decode cX8_readsLaw 28 = .ok (.istore_n 1, 1) := by decide +kernel
theorem dX8_readsLaw_29 : decode cX8_readsLaw 29 = .ok (.iload_n 1, 1) := by decide +kernel
theorem dX8_readsLaw_30 : decode cX8_readsLaw 30 = .ok (.iconst 4, 1) := by decide +kernel
theorem dX8_readsLaw_31 : decode cX8_readsLaw 31 = .ok (.if_icmp .ge 30, 3) := by decide +kernel
theorem dX8_readsLaw_34 : decode cX8_readsLaw 34 = .ok (.aload_n 0, 1) := by decide +kernel
theorem dX8_readsLaw_35 : decode cX8_readsLaw 35 = .ok (.iconst 0, 1) := by decide +kernel
theorem dX8_readsLaw_36 : decode cX8_readsLaw 36 = .ok (.iload_n 1, 1) := by decide +kernel
theorem dX8_readsLaw_37 : decode cX8_readsLaw 37 = .ok (.iadd, 1) := by decide +kernel
theorem dX8_readsLaw_38 : decode cX8_readsLaw 38 = .ok (.iconst 4, 1) := by decide +kernel
theorem dX8_readsLaw_39 : decode cX8_readsLaw 39 = .ok (.invokevirtual 116, 3) := by decide +kernel
theorem dX8_readsLaw_42 : decode cX8_readsLaw 42 = .ok (.ifCond .eq 11, 3) := by decide +kernel
theorem dX8_readsLaw_45 : decode cX8_readsLaw 45 = .ok (.aload_n 0, 1) := by decide +kernel
theorem dX8_readsLaw_46 : decode cX8_readsLaw 46 = .ok (.iconst 3, 1) := by decide +kernel
theorem dX8_readsLaw_47 : decode cX8_readsLaw 47 = .ok (.invokevirtual 120, 3) := by decide +kernel
theorem dX8_readsLaw_50 : decode cX8_readsLaw 50 = .ok (.ifCond .ne 5, 3) := by decide +kernel
theorem dX8_readsLaw_53 : decode cX8_readsLaw 53 = .ok (.iconst 0, 1) := by decide +kernel
theorem dX8_readsLaw_54 : decode cX8_readsLaw 54 = .ok (.ireturn, 1) := by decide +kernel
theorem dX8_readsLaw_55 : decode cX8_readsLaw 55 = .ok (.iinc 1 1, 3) := by decide +kernel
theorem dX8_readsLaw_58 : decode cX8_readsLaw 58 = .ok (.goto (-29), 3) := by decide +kernel
theorem dX8_readsLaw_61 : decode cX8_readsLaw 61 = .ok (.aload_n 0, 1) := by decide +kernel
theorem dX8_readsLaw_62 : decode cX8_readsLaw 62 = .ok (.iconst 4, 1) := by decide +kernel
theorem dX8_readsLaw_63 : decode cX8_readsLaw 63 = .ok (.iconst 3, 1) := by decide +kernel
theorem dX8_readsLaw_64 : decode cX8_readsLaw 64 = .ok (.invokevirtual 116, 3) := by decide +kernel
theorem dX8_readsLaw_67 : decode cX8_readsLaw 67 = .ok (.ifCond .eq 15, 3) := by decide +kernel
theorem dX8_readsLaw_70 : decode cX8_readsLaw 70 = .ok (.aload_n 0, 1) := by decide +kernel
theorem dX8_readsLaw_71 : decode cX8_readsLaw 71 = .ok (.iconst 4, 1) := by decide +kernel
theorem dX8_readsLaw_72 : decode cX8_readsLaw 72 = .ok (.invokevirtual 120, 3) := by decide +kernel
theorem dX8_readsLaw_75 : decode cX8_readsLaw 75 = .ok (.ifCond .eq 7, 3) := by decide +kernel
theorem dX8_readsLaw_78 : decode cX8_readsLaw 78 = .ok (.iconst 1, 1) := by decide +kernel
theorem dX8_readsLaw_79 : decode cX8_readsLaw 79 = .ok (.goto 4, 3) := by decide +kernel
theorem dX8_readsLaw_82 : decode cX8_readsLaw 82 = .ok (.iconst 0, 1) := by decide +kernel
theorem dX8_readsLaw_83 : decode cX8_readsLaw 83 = .ok (.ireturn, 1) := by decide +kernel
theorem dX8_sortOf_0 : decode cX8_sortOf 0 = .ok (.iload_n 0, 1) := by decide +kernel
theorem dX8_sortOf_1 : decode cX8_sortOf 1 = .ok (.bipush 98, 2) := by decide +kernel
theorem dX8_sortOf_3 : decode cX8_sortOf 3 = .ok (.if_icmp .ne 7, 3) := by decide +kernel
theorem dX8_sortOf_6 : decode cX8_sortOf 6 = .ok (.iconst 1, 1) := by decide +kernel
theorem dX8_sortOf_7 : decode cX8_sortOf 7 = .ok (.goto 44, 3) := by decide +kernel
theorem dX8_sortOf_10 : decode cX8_sortOf 10 = .ok (.iload_n 0, 1) := by decide +kernel
theorem dX8_sortOf_11 : decode cX8_sortOf 11 = .ok (.bipush 102, 2) := by decide +kernel
theorem dX8_sortOf_13 : decode cX8_sortOf 13 = .ok (.if_icmp .ne 7, 3) := by decide +kernel
theorem dX8_sortOf_16 : decode cX8_sortOf 16 = .ok (.iconst 2, 1) := by decide +kernel
theorem dX8_sortOf_17 : decode cX8_sortOf 17 = .ok (.goto 34, 3) := by decide +kernel
theorem dX8_sortOf_20 : decode cX8_sortOf 20 = .ok (.iload_n 0, 1) := by decide +kernel
theorem dX8_sortOf_21 : decode cX8_sortOf 21 = .ok (.bipush 108, 2) := by decide +kernel
theorem dX8_sortOf_23 : decode cX8_sortOf 23 = .ok (.if_icmp .ne 7, 3) := by decide +kernel
theorem dX8_sortOf_26 : decode cX8_sortOf 26 = .ok (.iconst 3, 1) := by decide +kernel
theorem dX8_sortOf_27 : decode cX8_sortOf 27 = .ok (.goto 24, 3) := by decide +kernel
theorem dX8_sortOf_30 : decode cX8_sortOf 30 = .ok (.iload_n 0, 1) := by decide +kernel
theorem dX8_sortOf_31 : decode cX8_sortOf 31 = .ok (.bipush 100, 2) := by decide +kernel
theorem dX8_sortOf_33 : decode cX8_sortOf 33 = .ok (.if_icmp .ne 7, 3) := by decide +kernel
theorem dX8_sortOf_36 : decode cX8_sortOf 36 = .ok (.iconst 4, 1) := by decide +kernel
theorem dX8_sortOf_37 : decode cX8_sortOf 37 = .ok (.goto 14, 3) := by decide +kernel
theorem dX8_sortOf_40 : decode cX8_sortOf 40 = .ok (.iload_n 0, 1) := by decide +kernel
theorem dX8_sortOf_41 : decode cX8_sortOf 41 = .ok (.bipush 97, 2) := by decide +kernel
theorem dX8_sortOf_43 : decode cX8_sortOf 43 = .ok (.if_icmp .ne 7, 3) := by decide +kernel
theorem dX8_sortOf_46 : decode cX8_sortOf 46 = .ok (.iconst 5, 1) := by decide +kernel
theorem dX8_sortOf_47 : decode cX8_sortOf 47 = .ok (.goto 4, 3) := by decide +kernel
theorem dX8_sortOf_50 : decode cX8_sortOf 50 = .ok (.iconst 0, 1) := by decide +kernel
theorem dX8_sortOf_51 : decode cX8_sortOf 51 = .ok (.ireturn, 1) := by decide +kernel
theorem dX8_readsOffice_0 : decode cX8_readsOffice 0 = .ok (.aload_n 0, 1) := by decide +kernel
theorem dX8_readsOffice_1 : decode cX8_readsOffice 1 = .ok (.getfield 101, 3) := by decide +kernel
theorem dX8_readsOffice_4 : decode cX8_readsOffice 4 = .ok (.iconst 1, 1) := by decide +kernel
theorem dX8_readsOffice_5 : decode cX8_readsOffice 5 = .ok (.if_icmp .ne 13, 3) := by decide +kernel
theorem dX8_readsOffice_8 : decode cX8_readsOffice 8 = .ok (.aload_n 0, 1) := by decide +kernel
theorem dX8_readsOffice_9 : decode cX8_readsOffice 9 = .ok (.getfield 104, 3) := by decide +kernel
theorem dX8_readsOffice_12 : decode cX8_readsOffice 12 = .ok (.invokestatic 123, 3) := by decide +kernel
theorem dX8_readsOffice_15 : decode cX8_readsOffice 15 = .ok (.goto 4, 3) := by decide +kernel
theorem dX8_readsOffice_18 : decode cX8_readsOffice 18 = .ok (.iconst 0, 1) := by decide +kernel
theorem dX8_readsOffice_19 : decode cX8_readsOffice 19 = .ok (.istore_n 1, 1) := by decide +kernel
theorem dX8_readsOffice_20 : decode cX8_readsOffice 20 = .ok (.iload_n 1, 1) := by decide +kernel
theorem dX8_readsOffice_21 : decode cX8_readsOffice 21 = .ok (.ifCond .ne 9, 3) := by decide +kernel
theorem dX8_readsOffice_24 : decode cX8_readsOffice 24 = .ok (.aload_n 0, 1) := by decide +kernel
theorem dX8_readsOffice_25 : decode cX8_readsOffice 25 = .ok (.iconst 1, 1) := by decide +kernel
theorem dX8_readsOffice_26 : decode cX8_readsOffice 26 = .ok (.invokevirtual 113, 3) := by decide +kernel
theorem dX8_readsOffice_29 : decode cX8_readsOffice 29 = .ok (.ireturn, 1) := by decide +kernel
theorem dX8_readsOffice_30 : decode cX8_readsOffice 30 = .ok (.aload_n 0, 1) := by decide +kernel
theorem dX8_readsOffice_31 : decode cX8_readsOffice 31 = .ok (.getfield 38, 3) := by decide +kernel
theorem dX8_readsOffice_34 : decode cX8_readsOffice 34 = .ok (.iconst 5, 1) := by decide +kernel
theorem dX8_readsOffice_35 : decode cX8_readsOffice 35 = .ok (.iaload, 1) := by decide +kernel
theorem dX8_readsOffice_36 : decode cX8_readsOffice 36 = .ok (.istore_n 2, 1) := by decide +kernel
theorem dX8_readsOffice_37 : decode cX8_readsOffice 37 = .ok (.iload_n 2, 1) := by decide +kernel
theorem dX8_readsOffice_38 : decode cX8_readsOffice 38 = .ok (.iconst 5, 1) := by decide +kernel
theorem dX8_readsOffice_39 : decode cX8_readsOffice 39 = .ok (.if_icmp .ne 9, 3) := by decide +kernel
theorem dX8_readsOffice_42 : decode cX8_readsOffice 42 = .ok (.aload_n 0, 1) := by decide +kernel
theorem dX8_readsOffice_43 : decode cX8_readsOffice 43 = .ok (.iconst 3, 1) := by decide +kernel
theorem dX8_readsOffice_44 : decode cX8_readsOffice 44 = .ok (.invokevirtual 113, 3) := by decide +kernel
theorem dX8_readsOffice_47 : decode cX8_readsOffice 47 = .ok (.ireturn, 1) := by decide +kernel
theorem dX8_readsOffice_48 : decode cX8_readsOffice 48 = .ok (.aload_n 0, 1) := by decide +kernel
theorem dX8_readsOffice_49 : decode cX8_readsOffice 49 = .ok (.getfield 38, 3) := by decide +kernel
theorem dX8_readsOffice_52 : decode cX8_readsOffice 52 = .ok (.bipush 7, 2) := by decide +kernel
theorem dX8_readsOffice_54 : decode cX8_readsOffice 54 = .ok (.iload_n 2, 1) := by decide +kernel
theorem dX8_readsOffice_55 : decode cX8_readsOffice 55 = .ok (.iadd, 1) := by decide +kernel
theorem dX8_readsOffice_56 : decode cX8_readsOffice 56 = .ok (.iload_n 1, 1) := by decide +kernel
theorem dX8_readsOffice_57 : decode cX8_readsOffice 57 = .ok (.iastore, 1) := by decide +kernel
theorem dX8_readsOffice_58 : decode cX8_readsOffice 58 = .ok (.aload_n 0, 1) := by decide +kernel
theorem dX8_readsOffice_59 : decode cX8_readsOffice 59 = .ok (.getfield 38, 3) := by decide +kernel
theorem dX8_readsOffice_62 : decode cX8_readsOffice 62 = .ok (.iconst 5, 1) := by decide +kernel
theorem dX8_readsOffice_63 : decode cX8_readsOffice 63 = .ok (.dup2, 1) := by decide +kernel
theorem dX8_readsOffice_64 : decode cX8_readsOffice 64 = .ok (.iaload, 1) := by decide +kernel
theorem dX8_readsOffice_65 : decode cX8_readsOffice 65 = .ok (.iconst 1, 1) := by decide +kernel
theorem dX8_readsOffice_66 : decode cX8_readsOffice 66 = .ok (.iadd, 1) := by decide +kernel
theorem dX8_readsOffice_67 : decode cX8_readsOffice 67 = .ok (.iastore, 1) := by decide +kernel
theorem dX8_readsOffice_68 : decode cX8_readsOffice 68 = .ok (.aload_n 0, 1) := by decide +kernel
theorem dX8_readsOffice_69 : decode cX8_readsOffice 69 = .ok (.bipush 12, 2) := by decide +kernel
theorem dX8_readsOffice_71 : decode cX8_readsOffice 71 = .ok (.iload_n 2, 1) := by decide +kernel
theorem dX8_readsOffice_72 : decode cX8_readsOffice 72 = .ok (.iadd, 1) := by decide +kernel
theorem dX8_readsOffice_73 : decode cX8_readsOffice 73 = .ok (.bipush 9, 2) := by decide +kernel
theorem dX8_readsOffice_75 : decode cX8_readsOffice 75 = .ok (.invokevirtual 116, 3) := by decide +kernel
theorem dX8_readsOffice_78 : decode cX8_readsOffice 78 = .ok (.ifCond .eq 57, 3) := by decide +kernel
theorem dX8_readsOffice_81 : decode cX8_readsOffice 81 = .ok (.aload_n 0, 1) := by decide +kernel
theorem dX8_readsOffice_82 : decode cX8_readsOffice 82 = .ok (.iconst 3, 1) := by decide +kernel
theorem dX8_readsOffice_83 : decode cX8_readsOffice 83 = .ok (.invokevirtual 120, 3) := by decide +kernel
theorem dX8_readsOffice_86 : decode cX8_readsOffice 86 = .ok (.ifCond .eq 49, 3) := by decide +kernel
theorem dX8_readsOffice_89 : decode cX8_readsOffice 89 = .ok (.aload_n 0, 1) := by decide +kernel
theorem dX8_readsOffice_90 : decode cX8_readsOffice 90 = .ok (.bipush 17, 2) := by decide +kernel
theorem dX8_readsOffice_92 : decode cX8_readsOffice 92 = .ok (.iload_n 2, 1) := by decide +kernel
theorem dX8_readsOffice_93 : decode cX8_readsOffice 93 = .ok (.iadd, 1) := by decide +kernel
theorem dX8_readsOffice_94 : decode cX8_readsOffice 94 = .ok (.bipush 20, 2) := by decide +kernel
theorem dX8_readsOffice_96 : decode cX8_readsOffice 96 = .ok (.invokevirtual 116, 3) := by decide +kernel
theorem dX8_readsOffice_99 : decode cX8_readsOffice 99 = .ok (.ifCond .eq 36, 3) := by decide +kernel
theorem dX8_readsOffice_102 : decode cX8_readsOffice 102 = .ok (.aload_n 0, 1) := by decide +kernel
theorem dX8_readsOffice_103 : decode cX8_readsOffice 103 = .ok (.iconst 3, 1) := by decide +kernel
theorem dX8_readsOffice_104 : decode cX8_readsOffice 104 = .ok (.invokevirtual 120, 3) := by decide +kernel
theorem dX8_readsOffice_107 : decode cX8_readsOffice 107 = .ok (.ifCond .eq 28, 3) := by decide +kernel
theorem dX8_readsOffice_110 : decode cX8_readsOffice 110 = .ok (.aload_n 0, 1) := by decide +kernel
theorem dX8_readsOffice_111 : decode cX8_readsOffice 111 = .ok (.bipush 22, 2) := by decide +kernel
theorem dX8_readsOffice_113 : decode cX8_readsOffice 113 = .ok (.iload_n 2, 1) := by decide +kernel
theorem dX8_readsOffice_114 : decode cX8_readsOffice 114 = .ok (.iadd, 1) := by decide +kernel
theorem dX8_readsOffice_115 : decode cX8_readsOffice 115 = .ok (.bipush 60, 2) := by decide +kernel
theorem dX8_readsOffice_117 : decode cX8_readsOffice 117 = .ok (.invokevirtual 116, 3) := by decide +kernel
theorem dX8_readsOffice_120 : decode cX8_readsOffice 120 = .ok (.ifCond .eq 15, 3) := by decide +kernel
theorem dX8_readsOffice_123 : decode cX8_readsOffice 123 = .ok (.aload_n 0, 1) := by decide +kernel
theorem dX8_readsOffice_124 : decode cX8_readsOffice 124 = .ok (.iconst 4, 1) := by decide +kernel
theorem dX8_readsOffice_125 : decode cX8_readsOffice 125 = .ok (.invokevirtual 120, 3) := by decide +kernel
theorem dX8_readsOffice_128 : decode cX8_readsOffice 128 = .ok (.ifCond .eq 7, 3) := by decide +kernel
theorem dX8_readsOffice_131 : decode cX8_readsOffice 131 = .ok (.iconst 1, 1) := by decide +kernel
theorem dX8_readsOffice_132 : decode cX8_readsOffice 132 = .ok (.goto 4, 3) := by decide +kernel
theorem dX8_readsOffice_135 : decode cX8_readsOffice 135 = .ok (.iconst 0, 1) := by decide +kernel
theorem dX8_readsOffice_136 : decode cX8_readsOffice 136 = .ok (.ireturn, 1) := by decide +kernel
theorem dX8_reads_0 : decode cX8_reads 0 = .ok (.iconst 0, 1) := by decide +kernel
theorem dX8_reads_1 : decode cX8_reads 1 = .ok (.istore_n 1, 1) := by decide +kernel
theorem dX8_reads_2 : decode cX8_reads 2 = .ok (.iload_n 1, 1) := by decide +kernel
theorem dX8_reads_3 : decode cX8_reads 3 = .ok (.bipush 32, 2) := by decide +kernel
theorem dX8_reads_5 : decode cX8_reads 5 = .ok (.if_icmp .ge 16, 3) := by decide +kernel
theorem dX8_reads_8 : decode cX8_reads 8 = .ok (.aload_n 0, 1) := by decide +kernel
theorem dX8_reads_9 : decode cX8_reads 9 = .ok (.getfield 38, 3) := by decide +kernel
theorem dX8_reads_12 : decode cX8_reads 12 = .ok (.iload_n 1, 1) := by decide +kernel
theorem dX8_reads_13 : decode cX8_reads 13 = .ok (.iconst 0, 1) := by decide +kernel
theorem dX8_reads_14 : decode cX8_reads 14 = .ok (.iastore, 1) := by decide +kernel
theorem dX8_reads_15 : decode cX8_reads 15 = .ok (.iinc 1 1, 3) := by decide +kernel
theorem dX8_reads_18 : decode cX8_reads 18 = .ok (.goto (-16), 3) := by decide +kernel
theorem dX8_reads_21 : decode cX8_reads 21 = .ok (.aload_n 0, 1) := by decide +kernel
theorem dX8_reads_22 : decode cX8_reads 22 = .ok (.iconst 0, 1) := by decide +kernel
theorem dX8_reads_23 : decode cX8_reads 23 = .ok (.putfield 85, 3) := by decide +kernel
theorem dX8_reads_26 : decode cX8_reads 26 = .ok (.aload_n 0, 1) := by decide +kernel
theorem dX8_reads_27 : decode cX8_reads 27 = .ok (.invokevirtual 126, 3) := by decide +kernel
theorem dX8_reads_30 : decode cX8_reads 30 = .ok (.ifCond .ne 5, 3) := by decide +kernel
theorem dX8_reads_33 : decode cX8_reads 33 = .ok (.iconst 0, 1) := by decide +kernel
theorem dX8_reads_34 : decode cX8_reads 34 = .ok (.ireturn, 1) := by decide +kernel
theorem dX8_reads_35 : decode cX8_reads 35 = .ok (.aload_n 0, 1) := by decide +kernel
theorem dX8_reads_36 : decode cX8_reads 36 = .ok (.invokevirtual 110, 3) := by decide +kernel
theorem dX8_reads_39 : decode cX8_reads 39 = .ok (.aload_n 0, 1) := by decide +kernel
theorem dX8_reads_40 : decode cX8_reads 40 = .ok (.getfield 101, 3) := by decide +kernel
theorem dX8_reads_43 : decode cX8_reads 43 = .ok (.ifCond .eq 19, 3) := by decide +kernel
theorem dX8_reads_46 : decode cX8_reads 46 = .ok (.aload_n 0, 1) := by decide +kernel
theorem dX8_reads_47 : decode cX8_reads 47 = .ok (.invokevirtual 130, 3) := by decide +kernel
theorem dX8_reads_50 : decode cX8_reads 50 = .ok (.ifCond .ne 5, 3) := by decide +kernel
theorem dX8_reads_53 : decode cX8_reads 53 = .ok (.iconst 0, 1) := by decide +kernel
theorem dX8_reads_54 : decode cX8_reads 54 = .ok (.ireturn, 1) := by decide +kernel
theorem dX8_reads_55 : decode cX8_reads 55 = .ok (.aload_n 0, 1) := by decide +kernel
theorem dX8_reads_56 : decode cX8_reads 56 = .ok (.invokevirtual 110, 3) := by decide +kernel
theorem dX8_reads_59 : decode cX8_reads 59 = .ok (.goto (-20), 3) := by decide +kernel
theorem dX8_reads_62 : decode cX8_reads 62 = .ok (.aload_n 0, 1) := by decide +kernel
theorem dX8_reads_63 : decode cX8_reads 63 = .ok (.getfield 38, 3) := by decide +kernel
theorem dX8_reads_66 : decode cX8_reads 66 = .ok (.iconst 5, 1) := by decide +kernel
theorem dX8_reads_67 : decode cX8_reads 67 = .ok (.iaload, 1) := by decide +kernel
theorem dX8_reads_68 : decode cX8_reads 68 = .ok (.ifCond .gt 11, 3) := by decide +kernel
theorem dX8_reads_71 : decode cX8_reads 71 = .ok (.aload_n 0, 1) := by decide +kernel
theorem dX8_reads_72 : decode cX8_reads 72 = .ok (.iconst 1, 1) := by decide +kernel
theorem dX8_reads_73 : decode cX8_reads 73 = .ok (.invokevirtual 113, 3) := by decide +kernel
theorem dX8_reads_76 : decode cX8_reads 76 = .ok (.ifCond .eq 7, 3) := by decide +kernel
theorem dX8_reads_79 : decode cX8_reads 79 = .ok (.iconst 1, 1) := by decide +kernel
theorem dX8_reads_80 : decode cX8_reads 80 = .ok (.goto 4, 3) := by decide +kernel
theorem dX8_reads_83 : decode cX8_reads 83 = .ok (.iconst 0, 1) := by decide +kernel
theorem dX8_reads_84 : decode cX8_reads 84 = .ok (.ireturn, 1) := by decide +kernel
theorem dX8_sky_0 : decode cX8_sky 0 = .ok (.aload_n 0, 1) := by decide +kernel
theorem dX8_sky_1 : decode cX8_sky 1 = .ok (.aload_n 0, 1) := by decide +kernel
theorem dX8_sky_2 : decode cX8_sky 2 = .ok (.getfield 77, 3) := by decide +kernel
theorem dX8_sky_5 : decode cX8_sky 5 = .ok (.putfield 91, 3) := by decide +kernel
theorem dX8_sky_8 : decode cX8_sky 8 = .ok (.aload_n 0, 1) := by decide +kernel
theorem dX8_sky_9 : decode cX8_sky 9 = .ok (.iconst 0, 1) := by decide +kernel
theorem dX8_sky_10 : decode cX8_sky 10 = .ok (.putfield 77, 3) := by decide +kernel
theorem dX8_sky_13 : decode cX8_sky 13 = .ok (.aload_n 0, 1) := by decide +kernel
theorem dX8_sky_14 : decode cX8_sky 14 = .ok (.invokevirtual 133, 3) := by decide +kernel
theorem dX8_sky_17 : decode cX8_sky 17 = .ok (.ifCond .ne 11, 3) := by decide +kernel
theorem dX8_sky_20 : decode cX8_sky 20 = .ok (.ldc 136, 2) := by decide +kernel
theorem dX8_sky_22 : decode cX8_sky 22 = .ok (.aload_n 0, 1) := by decide +kernel
theorem dX8_sky_23 : decode cX8_sky 23 = .ok (.getfield 88, 3) := by decide +kernel
theorem dX8_sky_26 : decode cX8_sky 26 = .ok (.isub, 1) := by decide +kernel
theorem dX8_sky_27 : decode cX8_sky 27 = .ok (.ireturn, 1) := by decide +kernel
theorem dX8_sky_28 : decode cX8_sky 28 = .ok (.aload_n 0, 1) := by decide +kernel
theorem dX8_sky_29 : decode cX8_sky 29 = .ok (.iconst 1, 1) := by decide +kernel
theorem dX8_sky_30 : decode cX8_sky 30 = .ok (.putfield 137, 3) := by decide +kernel
theorem dX8_sky_33 : decode cX8_sky 33 = .ok (.aload_n 0, 1) := by decide +kernel
theorem dX8_sky_34 : decode cX8_sky 34 = .ok (.iconst 0, 1) := by decide +kernel
theorem dX8_sky_35 : decode cX8_sky 35 = .ok (.putfield 141, 3) := by decide +kernel
theorem dX8_sky_38 : decode cX8_sky 38 = .ok (.aload_n 0, 1) := by decide +kernel
theorem dX8_sky_39 : decode cX8_sky 39 = .ok (.getfield 38, 3) := by decide +kernel
theorem dX8_sky_42 : decode cX8_sky 42 = .ok (.iconst 0, 1) := by decide +kernel
theorem dX8_sky_43 : decode cX8_sky 43 = .ok (.aload_n 0, 1) := by decide +kernel
theorem dX8_sky_44 : decode cX8_sky 44 = .ok (.getfield 22, 3) := by decide +kernel
theorem dX8_sky_47 : decode cX8_sky 47 = .ok (.iconst 0, 1) := by decide +kernel
theorem dX8_sky_48 : decode cX8_sky 48 = .ok (.invokestatic 144, 3) := by decide +kernel
theorem dX8_sky_51 : decode cX8_sky 51 = .ok (.aload_n 0, 1) := by decide +kernel
theorem dX8_sky_52 : decode cX8_sky 52 = .ok (.getfield 22, 3) := by decide +kernel
theorem dX8_sky_55 : decode cX8_sky 55 = .ok (.iconst 5, 1) := by decide +kernel
theorem dX8_sky_56 : decode cX8_sky 56 = .ok (.iaload, 1) := by decide +kernel
theorem dX8_sky_57 : decode cX8_sky 57 = .ok (.ireturn, 1) := by decide +kernel
theorem dX8_fault_0 : decode cX8_fault 0 = .ok (.aload_n 0, 1) := by decide +kernel
theorem dX8_fault_1 : decode cX8_fault 1 = .ok (.getfield 107, 3) := by decide +kernel
theorem dX8_fault_4 : decode cX8_fault 4 = .ok (.ireturn, 1) := by decide +kernel
theorem dX8_copies_0 : decode cX8_copies 0 = .ok (.iconst 0, 1) := by decide +kernel
theorem dX8_copies_1 : decode cX8_copies 1 = .ok (.istore 4, 2) := by decide +kernel
theorem dX8_copies_3 : decode cX8_copies 3 = .ok (.iload 4, 2) := by decide +kernel
theorem dX8_copies_5 : decode cX8_copies 5 = .ok (.bipush 32, 2) := by decide +kernel
theorem dX8_copies_7 : decode cX8_copies 7 = .ok (.if_icmp .ge 21, 3) := by decide +kernel
theorem dX8_copies_10 : decode cX8_copies 10 = .ok (.aload_n 2, 1) := by decide +kernel
theorem dX8_copies_11 : decode cX8_copies 11 = .ok (.iload_n 3, 1) := by decide +kernel
theorem dX8_copies_12 : decode cX8_copies 12 = .ok (.iload 4, 2) := by decide +kernel
theorem dX8_copies_14 : decode cX8_copies 14 = .ok (.iadd, 1) := by decide +kernel
theorem dX8_copies_15 : decode cX8_copies 15 = .ok (.aload_n 0, 1) := by decide +kernel
theorem dX8_copies_16 : decode cX8_copies 16 = .ok (.iload_n 1, 1) := by decide +kernel
theorem dX8_copies_17 : decode cX8_copies 17 = .ok (.iload 4, 2) := by decide +kernel
theorem dX8_copies_19 : decode cX8_copies 19 = .ok (.iadd, 1) := by decide +kernel
theorem dX8_copies_20 : decode cX8_copies 20 = .ok (.iaload, 1) := by decide +kernel
theorem dX8_copies_21 : decode cX8_copies 21 = .ok (.iastore, 1) := by decide +kernel
theorem dX8_copies_22 : decode cX8_copies 22 = .ok (.iinc 4 1, 3) := by decide +kernel
theorem dX8_copies_25 : decode cX8_copies 25 = .ok (.goto (-22), 3) := by decide +kernel
theorem dX8_copies_28 : decode cX8_copies 28 = .ok (.return_, 1) := by decide +kernel
theorem dX8_isOffice_0 : decode cX8_isOffice 0 = .ok (.iload_n 1, 1) := by decide +kernel
theorem dX8_isOffice_1 : decode cX8_isOffice 1 = .ok (.i2l, 1) := by decide +kernel
theorem dX8_isOffice_2 : decode cX8_isOffice 2 = .ok (.lconst 0, 1) := by decide +kernel
theorem dX8_isOffice_3 : decode cX8_isOffice 3 = .ok (.aload_n 0, 1) := by decide +kernel
theorem dX8_isOffice_4 : decode cX8_isOffice 4 = .ok (.getfield 22, 3) := by decide +kernel
theorem dX8_isOffice_7 : decode cX8_isOffice 7 = .ok (.iconst 5, 1) := by decide +kernel
theorem dX8_isOffice_8 : decode cX8_isOffice 8 = .ok (.iaload, 1) := by decide +kernel
theorem dX8_isOffice_9 : decode cX8_isOffice 9 = .ok (.iconst 1, 1) := by decide +kernel
theorem dX8_isOffice_10 : decode cX8_isOffice 10 = .ok (.isub, 1) := by decide +kernel
theorem dX8_isOffice_11 : decode cX8_isOffice 11 = .ok (.i2l, 1) := by decide +kernel
theorem dX8_isOffice_12 : decode cX8_isOffice 12 = .ok (.invokestatic 57, 3) := by decide +kernel
theorem dX8_isOffice_15 : decode cX8_isOffice 15 = .ok (.ireturn, 1) := by decide +kernel
theorem dX8_isLand_0 : decode cX8_isLand 0 = .ok (.iload_n 0, 1) := by decide +kernel
theorem dX8_isLand_1 : decode cX8_isLand 1 = .ok (.i2l, 1) := by decide +kernel
theorem dX8_isLand_2 : decode cX8_isLand 2 = .ok (.lconst 0, 1) := by decide +kernel
theorem dX8_isLand_3 : decode cX8_isLand 3 = .ok (.ldc2_w 148, 3) := by decide +kernel
theorem dX8_isLand_6 : decode cX8_isLand 6 = .ok (.invokestatic 57, 3) := by decide +kernel
theorem dX8_isLand_9 : decode cX8_isLand 9 = .ok (.ireturn, 1) := by decide +kernel
theorem dX8_isTwo_0 : decode cX8_isTwo 0 = .ok (.iload_n 0, 1) := by decide +kernel
theorem dX8_isTwo_1 : decode cX8_isTwo 1 = .ok (.i2l, 1) := by decide +kernel
theorem dX8_isTwo_2 : decode cX8_isTwo 2 = .ok (.lconst 0, 1) := by decide +kernel
theorem dX8_isTwo_3 : decode cX8_isTwo 3 = .ok (.lconst 1, 1) := by decide +kernel
theorem dX8_isTwo_4 : decode cX8_isTwo 4 = .ok (.invokestatic 57, 3) := by decide +kernel
theorem dX8_isTwo_7 : decode cX8_isTwo 7 = .ok (.ireturn, 1) := by decide +kernel
theorem dX8_bandOf_0 : decode cX8_bandOf 0 = .ok (.iload_n 0, 1) := by decide +kernel
theorem dX8_bandOf_1 : decode cX8_bandOf 1 = .ok (.bipush 6, 2) := by decide +kernel
theorem dX8_bandOf_3 : decode cX8_bandOf 3 = .ok (.if_icmp .ge 7, 3) := by decide +kernel
theorem dX8_bandOf_6 : decode cX8_bandOf 6 = .ok (.iconst 0, 1) := by decide +kernel
theorem dX8_bandOf_7 : decode cX8_bandOf 7 = .ok (.goto 24, 3) := by decide +kernel
theorem dX8_bandOf_10 : decode cX8_bandOf 10 = .ok (.iload_n 0, 1) := by decide +kernel
theorem dX8_bandOf_11 : decode cX8_bandOf 11 = .ok (.bipush 11, 2) := by decide +kernel
theorem dX8_bandOf_13 : decode cX8_bandOf 13 = .ok (.if_icmp .ge 7, 3) := by decide +kernel
theorem dX8_bandOf_16 : decode cX8_bandOf 16 = .ok (.iconst 1, 1) := by decide +kernel
theorem dX8_bandOf_17 : decode cX8_bandOf 17 = .ok (.goto 14, 3) := by decide +kernel
theorem dX8_bandOf_20 : decode cX8_bandOf 20 = .ok (.iload_n 0, 1) := by decide +kernel
theorem dX8_bandOf_21 : decode cX8_bandOf 21 = .ok (.bipush 16, 2) := by decide +kernel
theorem dX8_bandOf_23 : decode cX8_bandOf 23 = .ok (.if_icmp .ge 7, 3) := by decide +kernel
theorem dX8_bandOf_26 : decode cX8_bandOf 26 = .ok (.iconst 2, 1) := by decide +kernel
theorem dX8_bandOf_27 : decode cX8_bandOf 27 = .ok (.goto 4, 3) := by decide +kernel
theorem dX8_bandOf_30 : decode cX8_bandOf 30 = .ok (.iconst 3, 1) := by decide +kernel
theorem dX8_bandOf_31 : decode cX8_bandOf 31 = .ok (.ireturn, 1) := by decide +kernel
theorem dX8_liftOf_0 : decode cX8_liftOf 0 = .ok (.iload_n 0, 1) := by decide +kernel
theorem dX8_liftOf_1 : decode cX8_liftOf 1 = .ok (.tableswitch 50 1 5 #[35, 50, 37, 50, 39], 35) := by decide +kernel
theorem dX8_liftOf_36 : decode cX8_liftOf 36 = .ok (.iconst 2, 1) := by decide +kernel
theorem dX8_liftOf_37 : decode cX8_liftOf 37 = .ok (.ireturn, 1) := by decide +kernel
theorem dX8_liftOf_38 : decode cX8_liftOf 38 = .ok (.iconst 3, 1) := by decide +kernel
theorem dX8_liftOf_39 : decode cX8_liftOf 39 = .ok (.ireturn, 1) := by decide +kernel
theorem dX8_liftOf_40 : decode cX8_liftOf 40 = .ok (.iload_n 1, 1) := by decide +kernel
theorem dX8_liftOf_41 : decode cX8_liftOf 41 = .ok (.iconst 5, 1) := by decide +kernel
theorem dX8_liftOf_42 : decode cX8_liftOf 42 = .ok (.if_icmp .le 7, 3) := by decide +kernel
theorem dX8_liftOf_45 : decode cX8_liftOf 45 = .ok (.iconst 0, 1) := by decide +kernel
theorem dX8_liftOf_46 : decode cX8_liftOf 46 = .ok (.goto 4, 3) := by decide +kernel
theorem dX8_liftOf_49 : decode cX8_liftOf 49 = .ok (.iconst 1, 1) := by decide +kernel
theorem dX8_liftOf_50 : decode cX8_liftOf 50 = .ok (.ireturn, 1) := by decide +kernel
theorem dX8_liftOf_51 : decode cX8_liftOf 51 = .ok (.iconst 1, 1) := by decide +kernel
theorem dX8_liftOf_52 : decode cX8_liftOf 52 = .ok (.ireturn, 1) := by decide +kernel
theorem dX8_lifted_0 : decode cX8_lifted 0 = .ok (.iload_n 1, 1) := by decide +kernel
theorem dX8_lifted_1 : decode cX8_lifted 1 = .ok (.istore_n 3, 1) := by decide +kernel
theorem dX8_lifted_2 : decode cX8_lifted 2 = .ok (.iconst 0, 1) := by decide +kernel
theorem dX8_lifted_3 : decode cX8_lifted 3 = .ok (.istore 4, 2) := by decide +kernel
theorem dX8_lifted_5 : decode cX8_lifted 5 = .ok (.iload 4, 2) := by decide +kernel
theorem dX8_lifted_7 : decode cX8_lifted 7 = .ok (.iload_n 2, 1) := by decide +kernel
theorem dX8_lifted_8 : decode cX8_lifted 8 = .ok (.if_icmp .ge 30, 3) := by decide +kernel
theorem dX8_lifted_11 : decode cX8_lifted 11 = .ok (.iload_n 3, 1) := by decide +kernel
theorem dX8_lifted_12 : decode cX8_lifted 12 = .ok (.iload_n 0, 1) := by decide +kernel
theorem dX8_lifted_13 : decode cX8_lifted 13 = .ok (.iload_n 3, 1) := by decide +kernel
theorem dX8_lifted_14 : decode cX8_lifted 14 = .ok (.invokestatic 150, 3) := by decide +kernel
theorem dX8_lifted_17 : decode cX8_lifted 17 = .ok (.iadd, 1) := by decide +kernel
theorem dX8_lifted_18 : decode cX8_lifted 18 = .ok (.istore_n 3, 1) := by decide +kernel
theorem dX8_lifted_19 : decode cX8_lifted 19 = .ok (.iload_n 3, 1) := by decide +kernel
theorem dX8_lifted_20 : decode cX8_lifted 20 = .ok (.bipush 20, 2) := by decide +kernel
theorem dX8_lifted_22 : decode cX8_lifted 22 = .ok (.if_icmp .le 8, 3) := by decide +kernel
theorem dX8_lifted_25 : decode cX8_lifted 25 = .ok (.bipush 20, 2) := by decide +kernel
theorem dX8_lifted_27 : decode cX8_lifted 27 = .ok (.goto 4, 3) := by decide +kernel
theorem dX8_lifted_30 : decode cX8_lifted 30 = .ok (.iload_n 3, 1) := by decide +kernel
theorem dX8_lifted_31 : decode cX8_lifted 31 = .ok (.istore_n 3, 1) := by decide +kernel
theorem dX8_lifted_32 : decode cX8_lifted 32 = .ok (.iinc 4 1, 3) := by decide +kernel
theorem dX8_lifted_35 : decode cX8_lifted 35 = .ok (.goto (-30), 3) := by decide +kernel
theorem dX8_lifted_38 : decode cX8_lifted 38 = .ok (.iload_n 3, 1) := by decide +kernel
theorem dX8_lifted_39 : decode cX8_lifted 39 = .ok (.ireturn, 1) := by decide +kernel
theorem dX8_sunk_0 : decode cX8_sunk 0 = .ok (.iload_n 1, 1) := by decide +kernel
theorem dX8_sunk_1 : decode cX8_sunk 1 = .ok (.aload_n 0, 1) := by decide +kernel
theorem dX8_sunk_2 : decode cX8_sunk 2 = .ok (.iconst 4, 1) := by decide +kernel
theorem dX8_sunk_3 : decode cX8_sunk 3 = .ok (.iaload, 1) := by decide +kernel
theorem dX8_sunk_4 : decode cX8_sunk 4 = .ok (.if_icmp .le 11, 3) := by decide +kernel
theorem dX8_sunk_7 : decode cX8_sunk 7 = .ok (.iload_n 1, 1) := by decide +kernel
theorem dX8_sunk_8 : decode cX8_sunk 8 = .ok (.aload_n 0, 1) := by decide +kernel
theorem dX8_sunk_9 : decode cX8_sunk 9 = .ok (.iconst 4, 1) := by decide +kernel
theorem dX8_sunk_10 : decode cX8_sunk 10 = .ok (.iaload, 1) := by decide +kernel
theorem dX8_sunk_11 : decode cX8_sunk 11 = .ok (.isub, 1) := by decide +kernel
theorem dX8_sunk_12 : decode cX8_sunk 12 = .ok (.goto 4, 3) := by decide +kernel
theorem dX8_sunk_15 : decode cX8_sunk 15 = .ok (.iconst 0, 1) := by decide +kernel
theorem dX8_sunk_16 : decode cX8_sunk 16 = .ok (.ireturn, 1) := by decide +kernel
theorem dX8_carried_0 : decode cX8_carried 0 = .ok (.iload_n 2, 1) := by decide +kernel
theorem dX8_carried_1 : decode cX8_carried 1 = .ok (.ifCond .ne 7, 3) := by decide +kernel
theorem dX8_carried_4 : decode cX8_carried 4 = .ok (.iload_n 1, 1) := by decide +kernel
theorem dX8_carried_5 : decode cX8_carried 5 = .ok (.goto 15, 3) := by decide +kernel
theorem dX8_carried_8 : decode cX8_carried 8 = .ok (.iload_n 1, 1) := by decide +kernel
theorem dX8_carried_9 : decode cX8_carried 9 = .ok (.aload_n 0, 1) := by decide +kernel
theorem dX8_carried_10 : decode cX8_carried 10 = .ok (.iconst 0, 1) := by decide +kernel
theorem dX8_carried_11 : decode cX8_carried 11 = .ok (.iload_n 2, 1) := by decide +kernel
theorem dX8_carried_12 : decode cX8_carried 12 = .ok (.invokestatic 154, 3) := by decide +kernel
theorem dX8_carried_15 : decode cX8_carried 15 = .ok (.iadd, 1) := by decide +kernel
theorem dX8_carried_16 : decode cX8_carried 16 = .ok (.iaload, 1) := by decide +kernel
theorem dX8_carried_17 : decode cX8_carried 17 = .ok (.iadd, 1) := by decide +kernel
theorem dX8_carried_18 : decode cX8_carried 18 = .ok (.iconst 2, 1) := by decide +kernel
theorem dX8_carried_19 : decode cX8_carried 19 = .ok (.isub, 1) := by decide +kernel
theorem dX8_carried_20 : decode cX8_carried 20 = .ok (.istore_n 3, 1) := by decide +kernel
theorem dX8_carried_21 : decode cX8_carried 21 = .ok (.iload_n 3, 1) := by decide +kernel
theorem dX8_carried_22 : decode cX8_carried 22 = .ok (.ifCond .ge 7, 3) := by decide +kernel
theorem dX8_carried_25 : decode cX8_carried 25 = .ok (.iconst 0, 1) := by decide +kernel
theorem dX8_carried_26 : decode cX8_carried 26 = .ok (.goto 15, 3) := by decide +kernel
theorem dX8_carried_29 : decode cX8_carried 29 = .ok (.iload_n 3, 1) := by decide +kernel
theorem dX8_carried_30 : decode cX8_carried 30 = .ok (.bipush 9, 2) := by decide +kernel
theorem dX8_carried_32 : decode cX8_carried 32 = .ok (.if_icmp .le 8, 3) := by decide +kernel
theorem dX8_carried_35 : decode cX8_carried 35 = .ok (.bipush 9, 2) := by decide +kernel
theorem dX8_carried_37 : decode cX8_carried 37 = .ok (.goto 4, 3) := by decide +kernel
theorem dX8_carried_40 : decode cX8_carried 40 = .ok (.iload_n 3, 1) := by decide +kernel
theorem dX8_carried_41 : decode cX8_carried 41 = .ok (.ireturn, 1) := by decide +kernel
theorem dX8_hourGoes_0 : decode cX8_hourGoes 0 = .ok (.iconst 0, 1) := by decide +kernel
theorem dX8_hourGoes_1 : decode cX8_hourGoes 1 = .ok (.istore_n 1, 1) := by decide +kernel
theorem dX8_hourGoes_2 : decode cX8_hourGoes 2 = .ok (.iload_n 1, 1) := by decide +kernel
theorem dX8_hourGoes_3 : decode cX8_hourGoes 3 = .ok (.aload_n 0, 1) := by decide +kernel
theorem dX8_hourGoes_4 : decode cX8_hourGoes 4 = .ok (.iconst 5, 1) := by decide +kernel
theorem dX8_hourGoes_5 : decode cX8_hourGoes 5 = .ok (.iaload, 1) := by decide +kernel
theorem dX8_hourGoes_6 : decode cX8_hourGoes 6 = .ok (.if_icmp .ge 47, 3) := by decide +kernel
theorem dX8_hourGoes_9 : decode cX8_hourGoes 9 = .ok (.aload_n 0, 1) := by decide +kernel
theorem dX8_hourGoes_10 : decode cX8_hourGoes 10 = .ok (.bipush 17, 2) := by decide +kernel
theorem dX8_hourGoes_12 : decode cX8_hourGoes 12 = .ok (.iload_n 1, 1) := by decide +kernel
theorem dX8_hourGoes_13 : decode cX8_hourGoes 13 = .ok (.iadd, 1) := by decide +kernel
theorem dX8_hourGoes_14 : decode cX8_hourGoes 14 = .ok (.aload_n 0, 1) := by decide +kernel
theorem dX8_hourGoes_15 : decode cX8_hourGoes 15 = .ok (.aload_n 0, 1) := by decide +kernel
theorem dX8_hourGoes_16 : decode cX8_hourGoes 16 = .ok (.bipush 17, 2) := by decide +kernel
theorem dX8_hourGoes_18 : decode cX8_hourGoes 18 = .ok (.iload_n 1, 1) := by decide +kernel
theorem dX8_hourGoes_19 : decode cX8_hourGoes 19 = .ok (.iadd, 1) := by decide +kernel
theorem dX8_hourGoes_20 : decode cX8_hourGoes 20 = .ok (.iaload, 1) := by decide +kernel
theorem dX8_hourGoes_21 : decode cX8_hourGoes 21 = .ok (.invokestatic 157, 3) := by decide +kernel
theorem dX8_hourGoes_24 : decode cX8_hourGoes 24 = .ok (.iastore, 1) := by decide +kernel
theorem dX8_hourGoes_25 : decode cX8_hourGoes 25 = .ok (.aload_n 0, 1) := by decide +kernel
theorem dX8_hourGoes_26 : decode cX8_hourGoes 26 = .ok (.bipush 12, 2) := by decide +kernel
theorem dX8_hourGoes_28 : decode cX8_hourGoes 28 = .ok (.iload_n 1, 1) := by decide +kernel
theorem dX8_hourGoes_29 : decode cX8_hourGoes 29 = .ok (.iadd, 1) := by decide +kernel
theorem dX8_hourGoes_30 : decode cX8_hourGoes 30 = .ok (.aload_n 0, 1) := by decide +kernel
theorem dX8_hourGoes_31 : decode cX8_hourGoes 31 = .ok (.aload_n 0, 1) := by decide +kernel
theorem dX8_hourGoes_32 : decode cX8_hourGoes 32 = .ok (.bipush 12, 2) := by decide +kernel
theorem dX8_hourGoes_34 : decode cX8_hourGoes 34 = .ok (.iload_n 1, 1) := by decide +kernel
theorem dX8_hourGoes_35 : decode cX8_hourGoes 35 = .ok (.iadd, 1) := by decide +kernel
theorem dX8_hourGoes_36 : decode cX8_hourGoes 36 = .ok (.iaload, 1) := by decide +kernel
theorem dX8_hourGoes_37 : decode cX8_hourGoes 37 = .ok (.aload_n 0, 1) := by decide +kernel
theorem dX8_hourGoes_38 : decode cX8_hourGoes 38 = .ok (.bipush 17, 2) := by decide +kernel
theorem dX8_hourGoes_40 : decode cX8_hourGoes 40 = .ok (.iload_n 1, 1) := by decide +kernel
theorem dX8_hourGoes_41 : decode cX8_hourGoes 41 = .ok (.iadd, 1) := by decide +kernel
theorem dX8_hourGoes_42 : decode cX8_hourGoes 42 = .ok (.iaload, 1) := by decide +kernel
theorem dX8_hourGoes_43 : decode cX8_hourGoes 43 = .ok (.invokestatic 161, 3) := by decide +kernel
theorem dX8_hourGoes_46 : decode cX8_hourGoes 46 = .ok (.iastore, 1) := by decide +kernel
theorem dX8_hourGoes_47 : decode cX8_hourGoes 47 = .ok (.iinc 1 1, 3) := by decide +kernel
theorem dX8_hourGoes_50 : decode cX8_hourGoes 50 = .ok (.goto (-48), 3) := by decide +kernel
theorem dX8_hourGoes_53 : decode cX8_hourGoes 53 = .ok (.aload_n 0, 1) := by decide +kernel
theorem dX8_hourGoes_54 : decode cX8_hourGoes 54 = .ok (.bipush 6, 2) := by decide +kernel
theorem dX8_hourGoes_56 : decode cX8_hourGoes 56 = .ok (.dup2, 1) := by decide +kernel
theorem dX8_hourGoes_57 : decode cX8_hourGoes 57 = .ok (.iaload, 1) := by decide +kernel
theorem dX8_hourGoes_58 : decode cX8_hourGoes 58 = .ok (.iconst 1, 1) := by decide +kernel
theorem dX8_hourGoes_59 : decode cX8_hourGoes 59 = .ok (.iadd, 1) := by decide +kernel
theorem dX8_hourGoes_60 : decode cX8_hourGoes 60 = .ok (.iastore, 1) := by decide +kernel
theorem dX8_hourGoes_61 : decode cX8_hourGoes 61 = .ok (.return_, 1) := by decide +kernel
theorem dX8_burns_0 : decode cX8_burns 0 = .ok (.aload_n 0, 1) := by decide +kernel
theorem dX8_burns_1 : decode cX8_burns 1 = .ok (.bipush 22, 2) := by decide +kernel
theorem dX8_burns_3 : decode cX8_burns 3 = .ok (.iload_n 1, 1) := by decide +kernel
theorem dX8_burns_4 : decode cX8_burns 4 = .ok (.iadd, 1) := by decide +kernel
theorem dX8_burns_5 : decode cX8_burns 5 = .ok (.dup2, 1) := by decide +kernel
theorem dX8_burns_6 : decode cX8_burns 6 = .ok (.iaload, 1) := by decide +kernel
theorem dX8_burns_7 : decode cX8_burns 7 = .ok (.iload_n 2, 1) := by decide +kernel
theorem dX8_burns_8 : decode cX8_burns 8 = .ok (.isub, 1) := by decide +kernel
theorem dX8_burns_9 : decode cX8_burns 9 = .ok (.iastore, 1) := by decide +kernel
theorem dX8_burns_10 : decode cX8_burns 10 = .ok (.aload_n 0, 1) := by decide +kernel
theorem dX8_burns_11 : decode cX8_burns 11 = .ok (.bipush 27, 2) := by decide +kernel
theorem dX8_burns_13 : decode cX8_burns 13 = .ok (.iload_n 1, 1) := by decide +kernel
theorem dX8_burns_14 : decode cX8_burns 14 = .ok (.iadd, 1) := by decide +kernel
theorem dX8_burns_15 : decode cX8_burns 15 = .ok (.dup2, 1) := by decide +kernel
theorem dX8_burns_16 : decode cX8_burns 16 = .ok (.iaload, 1) := by decide +kernel
theorem dX8_burns_17 : decode cX8_burns 17 = .ok (.iload_n 2, 1) := by decide +kernel
theorem dX8_burns_18 : decode cX8_burns 18 = .ok (.iadd, 1) := by decide +kernel
theorem dX8_burns_19 : decode cX8_burns 19 = .ok (.iastore, 1) := by decide +kernel
theorem dX8_burns_20 : decode cX8_burns 20 = .ok (.aload_n 0, 1) := by decide +kernel
theorem dX8_burns_21 : decode cX8_burns 21 = .ok (.bipush 17, 2) := by decide +kernel
theorem dX8_burns_23 : decode cX8_burns 23 = .ok (.iload_n 1, 1) := by decide +kernel
theorem dX8_burns_24 : decode cX8_burns 24 = .ok (.iadd, 1) := by decide +kernel
theorem dX8_burns_25 : decode cX8_burns 25 = .ok (.aload_n 0, 1) := by decide +kernel
theorem dX8_burns_26 : decode cX8_burns 26 = .ok (.bipush 7, 2) := by decide +kernel
theorem dX8_burns_28 : decode cX8_burns 28 = .ok (.iload_n 1, 1) := by decide +kernel
theorem dX8_burns_29 : decode cX8_burns 29 = .ok (.iadd, 1) := by decide +kernel
theorem dX8_burns_30 : decode cX8_burns 30 = .ok (.iaload, 1) := by decide +kernel
theorem dX8_burns_31 : decode cX8_burns 31 = .ok (.aload_n 0, 1) := by decide +kernel
theorem dX8_burns_32 : decode cX8_burns 32 = .ok (.bipush 17, 2) := by decide +kernel
theorem dX8_burns_34 : decode cX8_burns 34 = .ok (.iload_n 1, 1) := by decide +kernel
theorem dX8_burns_35 : decode cX8_burns 35 = .ok (.iadd, 1) := by decide +kernel
theorem dX8_burns_36 : decode cX8_burns 36 = .ok (.iaload, 1) := by decide +kernel
theorem dX8_burns_37 : decode cX8_burns 37 = .ok (.iload_n 2, 1) := by decide +kernel
theorem dX8_burns_38 : decode cX8_burns 38 = .ok (.invokestatic 165, 3) := by decide +kernel
theorem dX8_burns_41 : decode cX8_burns 41 = .ok (.iastore, 1) := by decide +kernel
theorem dX8_burns_42 : decode cX8_burns 42 = .ok (.return_, 1) := by decide +kernel
theorem dX8_flying_0 : decode cX8_flying 0 = .ok (.iconst 0, 1) := by decide +kernel
theorem dX8_flying_1 : decode cX8_flying 1 = .ok (.istore_n 1, 1) := by decide +kernel
theorem dX8_flying_2 : decode cX8_flying 2 = .ok (.iconst 0, 1) := by decide +kernel
theorem dX8_flying_3 : decode cX8_flying 3 = .ok (.istore_n 2, 1) := by decide +kernel
theorem dX8_flying_4 : decode cX8_flying 4 = .ok (.iload_n 2, 1) := by decide +kernel
theorem dX8_flying_5 : decode cX8_flying 5 = .ok (.aload_n 0, 1) := by decide +kernel
theorem dX8_flying_6 : decode cX8_flying 6 = .ok (.iconst 5, 1) := by decide +kernel
theorem dX8_flying_7 : decode cX8_flying 7 = .ok (.iaload, 1) := by decide +kernel
theorem dX8_flying_8 : decode cX8_flying 8 = .ok (.if_icmp .ge 28, 3) := by decide +kernel
theorem dX8_flying_11 : decode cX8_flying 11 = .ok (.iload_n 1, 1) := by decide +kernel
theorem dX8_flying_12 : decode cX8_flying 12 = .ok (.aload_n 0, 1) := by decide +kernel
theorem dX8_flying_13 : decode cX8_flying 13 = .ok (.bipush 17, 2) := by decide +kernel
theorem dX8_flying_15 : decode cX8_flying 15 = .ok (.iload_n 2, 1) := by decide +kernel
theorem dX8_flying_16 : decode cX8_flying 16 = .ok (.iadd, 1) := by decide +kernel
theorem dX8_flying_17 : decode cX8_flying 17 = .ok (.iaload, 1) := by decide +kernel
theorem dX8_flying_18 : decode cX8_flying 18 = .ok (.ifCond .le 9, 3) := by decide +kernel
theorem dX8_flying_21 : decode cX8_flying 21 = .ok (.iconst 1, 1) := by decide +kernel
theorem dX8_flying_22 : decode cX8_flying 22 = .ok (.iload_n 2, 1) := by decide +kernel
theorem dX8_flying_23 : decode cX8_flying 23 = .ok (.ishl, 1) := by decide +kernel
theorem dX8_flying_24 : decode cX8_flying 24 = .ok (.goto 4, 3) := by decide +kernel
theorem dX8_flying_27 : decode cX8_flying 27 = .ok (.iconst 0, 1) := by decide +kernel
theorem dX8_flying_28 : decode cX8_flying 28 = .ok (.ior, 1) := by decide +kernel
theorem dX8_flying_29 : decode cX8_flying 29 = .ok (.istore_n 1, 1) := by decide +kernel
theorem dX8_flying_30 : decode cX8_flying 30 = .ok (.iinc 2 1, 3) := by decide +kernel
theorem dX8_flying_33 : decode cX8_flying 33 = .ok (.goto (-29), 3) := by decide +kernel
theorem dX8_flying_36 : decode cX8_flying 36 = .ok (.iload_n 1, 1) := by decide +kernel
theorem dX8_flying_37 : decode cX8_flying 37 = .ok (.ireturn, 1) := by decide +kernel
theorem dX8_bits_0 : decode cX8_bits 0 = .ok (.iconst 0, 1) := by decide +kernel
theorem dX8_bits_1 : decode cX8_bits 1 = .ok (.istore_n 1, 1) := by decide +kernel
theorem dX8_bits_2 : decode cX8_bits 2 = .ok (.iload_n 0, 1) := by decide +kernel
theorem dX8_bits_3 : decode cX8_bits 3 = .ok (.istore_n 2, 1) := by decide +kernel
theorem dX8_bits_4 : decode cX8_bits 4 = .ok (.iload_n 2, 1) := by decide +kernel
theorem dX8_bits_5 : decode cX8_bits 5 = .ok (.ifCond .eq 15, 3) := by decide +kernel
theorem dX8_bits_8 : decode cX8_bits 8 = .ok (.iinc 1 1, 3) := by decide +kernel
theorem dX8_bits_11 : decode cX8_bits 11 = .ok (.iload_n 2, 1) := by decide +kernel
theorem dX8_bits_12 : decode cX8_bits 12 = .ok (.iload_n 2, 1) := by decide +kernel
theorem dX8_bits_13 : decode cX8_bits 13 = .ok (.iconst 1, 1) := by decide +kernel
theorem dX8_bits_14 : decode cX8_bits 14 = .ok (.isub, 1) := by decide +kernel
theorem dX8_bits_15 : decode cX8_bits 15 = .ok (.iand, 1) := by decide +kernel
theorem dX8_bits_16 : decode cX8_bits 16 = .ok (.istore_n 2, 1) := by decide +kernel
theorem dX8_bits_17 : decode cX8_bits 17 = .ok (.goto (-13), 3) := by decide +kernel
theorem dX8_bits_20 : decode cX8_bits 20 = .ok (.iload_n 1, 1) := by decide +kernel
theorem dX8_bits_21 : decode cX8_bits 21 = .ok (.ireturn, 1) := by decide +kernel
theorem dX8_remember_0 : decode cX8_remember 0 = .ok (.aload_n 0, 1) := by decide +kernel
theorem dX8_remember_1 : decode cX8_remember 1 = .ok (.getfield 141, 3) := by decide +kernel
theorem dX8_remember_4 : decode cX8_remember 4 = .ok (.bipush 24, 2) := by decide +kernel
theorem dX8_remember_6 : decode cX8_remember 6 = .ok (.if_icmp .ne 43, 3) := by decide +kernel
theorem dX8_remember_9 : decode cX8_remember 9 = .ok (.iconst 0, 1) := by decide +kernel
theorem dX8_remember_10 : decode cX8_remember 10 = .ok (.istore_n 1, 1) := by decide +kernel
theorem dX8_remember_11 : decode cX8_remember 11 = .ok (.iload_n 1, 1) := by decide +kernel
theorem dX8_remember_12 : decode cX8_remember 12 = .ok (.sipush 736, 3) := by decide +kernel
theorem dX8_remember_15 : decode cX8_remember 15 = .ok (.if_icmp .ge 24, 3) := by decide +kernel
theorem dX8_remember_18 : decode cX8_remember 18 = .ok (.aload_n 0, 1) := by decide +kernel
theorem dX8_remember_19 : decode cX8_remember 19 = .ok (.getfield 25, 3) := by decide +kernel
theorem dX8_remember_22 : decode cX8_remember 22 = .ok (.iload_n 1, 1) := by decide +kernel
theorem dX8_remember_23 : decode cX8_remember 23 = .ok (.aload_n 0, 1) := by decide +kernel
theorem dX8_remember_24 : decode cX8_remember 24 = .ok (.getfield 25, 3) := by decide +kernel
theorem dX8_remember_27 : decode cX8_remember 27 = .ok (.iload_n 1, 1) := by decide +kernel
theorem dX8_remember_28 : decode cX8_remember 28 = .ok (.bipush 32, 2) := by decide +kernel
theorem dX8_remember_30 : decode cX8_remember 30 = .ok (.iadd, 1) := by decide +kernel
theorem dX8_remember_31 : decode cX8_remember 31 = .ok (.iaload, 1) := by decide +kernel
theorem dX8_remember_32 : decode cX8_remember 32 = .ok (.iastore, 1) := by decide +kernel
theorem dX8_remember_33 : decode cX8_remember 33 = .ok (.iinc 1 1, 3) := by decide +kernel
theorem dX8_remember_36 : decode cX8_remember 36 = .ok (.goto (-25), 3) := by decide +kernel
theorem dX8_remember_39 : decode cX8_remember 39 = .ok (.aload_n 0, 1) := by decide +kernel
theorem dX8_remember_40 : decode cX8_remember 40 = .ok (.dup, 1) := by decide +kernel
theorem dX8_remember_41 : decode cX8_remember 41 = .ok (.getfield 141, 3) := by decide +kernel
theorem dX8_remember_44 : decode cX8_remember 44 = .ok (.iconst 1, 1) := by decide +kernel
theorem dX8_remember_45 : decode cX8_remember 45 = .ok (.isub, 1) := by decide +kernel
theorem dX8_remember_46 : decode cX8_remember 46 = .ok (.putfield 141, 3) := by decide +kernel
theorem dX8_remember_49 : decode cX8_remember 49 = .ok (.aload_n 0, 1) := by decide +kernel
theorem dX8_remember_50 : decode cX8_remember 50 = .ok (.getfield 22, 3) := by decide +kernel
theorem dX8_remember_53 : decode cX8_remember 53 = .ok (.iconst 0, 1) := by decide +kernel
theorem dX8_remember_54 : decode cX8_remember 54 = .ok (.aload_n 0, 1) := by decide +kernel
theorem dX8_remember_55 : decode cX8_remember 55 = .ok (.getfield 25, 3) := by decide +kernel
theorem dX8_remember_58 : decode cX8_remember 58 = .ok (.bipush 32, 2) := by decide +kernel
theorem dX8_remember_60 : decode cX8_remember 60 = .ok (.aload_n 0, 1) := by decide +kernel
theorem dX8_remember_61 : decode cX8_remember 61 = .ok (.getfield 141, 3) := by decide +kernel
theorem dX8_remember_64 : decode cX8_remember 64 = .ok (.imul, 1) := by decide +kernel
theorem dX8_remember_65 : decode cX8_remember 65 = .ok (.invokestatic 144, 3) := by decide +kernel
theorem dX8_remember_68 : decode cX8_remember 68 = .ok (.aload_n 0, 1) := by decide +kernel
theorem dX8_remember_69 : decode cX8_remember 69 = .ok (.dup, 1) := by decide +kernel
theorem dX8_remember_70 : decode cX8_remember 70 = .ok (.getfield 141, 3) := by decide +kernel
theorem dX8_remember_73 : decode cX8_remember 73 = .ok (.iconst 1, 1) := by decide +kernel
theorem dX8_remember_74 : decode cX8_remember 74 = .ok (.iadd, 1) := by decide +kernel
theorem dX8_remember_75 : decode cX8_remember 75 = .ok (.putfield 141, 3) := by decide +kernel
theorem dX8_remember_78 : decode cX8_remember 78 = .ok (.return_, 1) := by decide +kernel
theorem dX8_undo_0 : decode cX8_undo 0 = .ok (.aload_n 0, 1) := by decide +kernel
theorem dX8_undo_1 : decode cX8_undo 1 = .ok (.getfield 141, 3) := by decide +kernel
theorem dX8_undo_4 : decode cX8_undo 4 = .ok (.ifCond .ne 6, 3) := by decide +kernel
theorem dX8_undo_7 : decode cX8_undo 7 = .ok (.ldc 169, 2) := by decide +kernel
theorem dX8_undo_9 : decode cX8_undo 9 = .ok (.ireturn, 1) := by decide +kernel
theorem dX8_undo_10 : decode cX8_undo 10 = .ok (.aload_n 0, 1) := by decide +kernel
theorem dX8_undo_11 : decode cX8_undo 11 = .ok (.dup, 1) := by decide +kernel
theorem dX8_undo_12 : decode cX8_undo 12 = .ok (.getfield 141, 3) := by decide +kernel
theorem dX8_undo_15 : decode cX8_undo 15 = .ok (.iconst 1, 1) := by decide +kernel
theorem dX8_undo_16 : decode cX8_undo 16 = .ok (.isub, 1) := by decide +kernel
theorem dX8_undo_17 : decode cX8_undo 17 = .ok (.putfield 141, 3) := by decide +kernel
theorem dX8_undo_20 : decode cX8_undo 20 = .ok (.aload_n 0, 1) := by decide +kernel
theorem dX8_undo_21 : decode cX8_undo 21 = .ok (.getfield 25, 3) := by decide +kernel
theorem dX8_undo_24 : decode cX8_undo 24 = .ok (.bipush 32, 2) := by decide +kernel
theorem dX8_undo_26 : decode cX8_undo 26 = .ok (.aload_n 0, 1) := by decide +kernel
theorem dX8_undo_27 : decode cX8_undo 27 = .ok (.getfield 141, 3) := by decide +kernel
theorem dX8_undo_30 : decode cX8_undo 30 = .ok (.imul, 1) := by decide +kernel
theorem dX8_undo_31 : decode cX8_undo 31 = .ok (.aload_n 0, 1) := by decide +kernel
theorem dX8_undo_32 : decode cX8_undo 32 = .ok (.getfield 22, 3) := by decide +kernel
theorem dX8_undo_35 : decode cX8_undo 35 = .ok (.iconst 0, 1) := by decide +kernel
theorem dX8_undo_36 : decode cX8_undo 36 = .ok (.invokestatic 144, 3) := by decide +kernel
theorem dX8_undo_39 : decode cX8_undo 39 = .ok (.aload_n 0, 1) := by decide +kernel
theorem dX8_undo_40 : decode cX8_undo 40 = .ok (.getfield 141, 3) := by decide +kernel
theorem dX8_undo_43 : decode cX8_undo 43 = .ok (.ireturn, 1) := by decide +kernel
theorem dX8_hours_0 : decode cX8_hours 0 = .ok (.aload_n 0, 1) := by decide +kernel
theorem dX8_hours_1 : decode cX8_hours 1 = .ok (.getfield 137, 3) := by decide +kernel
theorem dX8_hours_4 : decode cX8_hours 4 = .ok (.ifCond .ne 6, 3) := by decide +kernel
theorem dX8_hours_7 : decode cX8_hours 7 = .ok (.ldc 169, 2) := by decide +kernel
theorem dX8_hours_9 : decode cX8_hours 9 = .ok (.ireturn, 1) := by decide +kernel
theorem dX8_hours_10 : decode cX8_hours 10 = .ok (.iload_n 1, 1) := by decide +kernel
theorem dX8_hours_11 : decode cX8_hours 11 = .ok (.i2l, 1) := by decide +kernel
theorem dX8_hours_12 : decode cX8_hours 12 = .ok (.lconst 1, 1) := by decide +kernel
theorem dX8_hours_13 : decode cX8_hours 13 = .ok (.ldc2_w 170, 3) := by decide +kernel
theorem dX8_hours_16 : decode cX8_hours 16 = .ok (.invokestatic 57, 3) := by decide +kernel
theorem dX8_hours_19 : decode cX8_hours 19 = .ok (.ifCond .ne 6, 3) := by decide +kernel
theorem dX8_hours_22 : decode cX8_hours 22 = .ok (.ldc 67, 2) := by decide +kernel
theorem dX8_hours_24 : decode cX8_hours 24 = .ok (.ireturn, 1) := by decide +kernel
theorem dX8_hours_25 : decode cX8_hours 25 = .ok (.aload_n 0, 1) := by decide +kernel
theorem dX8_hours_26 : decode cX8_hours 26 = .ok (.getfield 22, 3) := by decide +kernel
theorem dX8_hours_29 : decode cX8_hours 29 = .ok (.bipush 6, 2) := by decide +kernel
theorem dX8_hours_31 : decode cX8_hours 31 = .ok (.iaload, 1) := by decide +kernel
theorem dX8_hours_32 : decode cX8_hours 32 = .ok (.iload_n 1, 1) := by decide +kernel
theorem dX8_hours_33 : decode cX8_hours 33 = .ok (.iadd, 1) := by decide +kernel
theorem dX8_hours_34 : decode cX8_hours 34 = .ok (.sipush 999, 3) := by decide +kernel
theorem dX8_hours_37 : decode cX8_hours 37 = .ok (.if_icmp .le 6, 3) := by decide +kernel
theorem dX8_hours_40 : decode cX8_hours 40 = .ok (.ldc 80, 2) := by decide +kernel
theorem dX8_hours_42 : decode cX8_hours 42 = .ok (.ireturn, 1) := by decide +kernel
theorem dX8_hours_43 : decode cX8_hours 43 = .ok (.iconst 0, 1) := by decide +kernel
theorem dX8_hours_44 : decode cX8_hours 44 = .ok (.istore_n 2, 1) := by decide +kernel
theorem dX8_hours_45 : decode cX8_hours 45 = .ok (.iload_n 2, 1) := by decide +kernel
theorem dX8_hours_46 : decode cX8_hours 46 = .ok (.iload_n 1, 1) := by decide +kernel
theorem dX8_hours_47 : decode cX8_hours 47 = .ok (.if_icmp .ge 20, 3) := by decide +kernel
theorem dX8_hours_50 : decode cX8_hours 50 = .ok (.aload_n 0, 1) := by decide +kernel
theorem dX8_hours_51 : decode cX8_hours 51 = .ok (.invokevirtual 172, 3) := by decide +kernel
theorem dX8_hours_54 : decode cX8_hours 54 = .ok (.aload_n 0, 1) := by decide +kernel
theorem dX8_hours_55 : decode cX8_hours 55 = .ok (.getfield 22, 3) := by decide +kernel
theorem dX8_hours_58 : decode cX8_hours 58 = .ok (.invokestatic 175, 3) := by decide +kernel
theorem dX8_hours_61 : decode cX8_hours 61 = .ok (.iinc 2 1, 3) := by decide +kernel
theorem dX8_hours_64 : decode cX8_hours 64 = .ok (.goto (-19), 3) := by decide +kernel
theorem dX8_hours_67 : decode cX8_hours 67 = .ok (.aload_n 0, 1) := by decide +kernel
theorem dX8_hours_68 : decode cX8_hours 68 = .ok (.getfield 22, 3) := by decide +kernel
theorem dX8_hours_71 : decode cX8_hours 71 = .ok (.invokestatic 179, 3) := by decide +kernel
theorem dX8_hours_74 : decode cX8_hours 74 = .ok (.invokestatic 183, 3) := by decide +kernel
theorem dX8_hours_77 : decode cX8_hours 77 = .ok (.ireturn, 1) := by decide +kernel
theorem dX8_burn_0 : decode cX8_burn 0 = .ok (.aload_n 0, 1) := by decide +kernel
theorem dX8_burn_1 : decode cX8_burn 1 = .ok (.iload_n 1, 1) := by decide +kernel
theorem dX8_burn_2 : decode cX8_burn 2 = .ok (.invokevirtual 186, 3) := by decide +kernel
theorem dX8_burn_5 : decode cX8_burn 5 = .ok (.ifCond .eq 15, 3) := by decide +kernel
theorem dX8_burn_8 : decode cX8_burn 8 = .ok (.iload_n 2, 1) := by decide +kernel
theorem dX8_burn_9 : decode cX8_burn 9 = .ok (.i2l, 1) := by decide +kernel
theorem dX8_burn_10 : decode cX8_burn 10 = .ok (.lconst 1, 1) := by decide +kernel
theorem dX8_burn_11 : decode cX8_burn 11 = .ok (.ldc2_w 189, 3) := by decide +kernel
theorem dX8_burn_14 : decode cX8_burn 14 = .ok (.invokestatic 57, 3) := by decide +kernel
theorem dX8_burn_17 : decode cX8_burn 17 = .ok (.ifCond .ne 6, 3) := by decide +kernel
theorem dX8_burn_20 : decode cX8_burn 20 = .ok (.ldc 67, 2) := by decide +kernel
theorem dX8_burn_22 : decode cX8_burn 22 = .ok (.ireturn, 1) := by decide +kernel
theorem dX8_burn_23 : decode cX8_burn 23 = .ok (.aload_n 0, 1) := by decide +kernel
theorem dX8_burn_24 : decode cX8_burn 24 = .ok (.getfield 22, 3) := by decide +kernel
theorem dX8_burn_27 : decode cX8_burn 27 = .ok (.bipush 22, 2) := by decide +kernel
theorem dX8_burn_29 : decode cX8_burn 29 = .ok (.iload_n 1, 1) := by decide +kernel
theorem dX8_burn_30 : decode cX8_burn 30 = .ok (.iadd, 1) := by decide +kernel
theorem dX8_burn_31 : decode cX8_burn 31 = .ok (.iaload, 1) := by decide +kernel
theorem dX8_burn_32 : decode cX8_burn 32 = .ok (.iload_n 2, 1) := by decide +kernel
theorem dX8_burn_33 : decode cX8_burn 33 = .ok (.if_icmp .ge 6, 3) := by decide +kernel
theorem dX8_burn_36 : decode cX8_burn 36 = .ok (.ldc 169, 2) := by decide +kernel
theorem dX8_burn_38 : decode cX8_burn 38 = .ok (.ireturn, 1) := by decide +kernel
theorem dX8_burn_39 : decode cX8_burn 39 = .ok (.aload_n 0, 1) := by decide +kernel
theorem dX8_burn_40 : decode cX8_burn 40 = .ok (.invokevirtual 172, 3) := by decide +kernel
theorem dX8_burn_43 : decode cX8_burn 43 = .ok (.aload_n 0, 1) := by decide +kernel
theorem dX8_burn_44 : decode cX8_burn 44 = .ok (.getfield 22, 3) := by decide +kernel
theorem dX8_burn_47 : decode cX8_burn 47 = .ok (.iload_n 1, 1) := by decide +kernel
theorem dX8_burn_48 : decode cX8_burn 48 = .ok (.iload_n 2, 1) := by decide +kernel
theorem dX8_burn_49 : decode cX8_burn 49 = .ok (.invokestatic 191, 3) := by decide +kernel
theorem dX8_burn_52 : decode cX8_burn 52 = .ok (.aload_n 0, 1) := by decide +kernel
theorem dX8_burn_53 : decode cX8_burn 53 = .ok (.getfield 22, 3) := by decide +kernel
theorem dX8_burn_56 : decode cX8_burn 56 = .ok (.bipush 17, 2) := by decide +kernel
theorem dX8_burn_58 : decode cX8_burn 58 = .ok (.iload_n 1, 1) := by decide +kernel
theorem dX8_burn_59 : decode cX8_burn 59 = .ok (.iadd, 1) := by decide +kernel
theorem dX8_burn_60 : decode cX8_burn 60 = .ok (.iaload, 1) := by decide +kernel
theorem dX8_burn_61 : decode cX8_burn 61 = .ok (.ireturn, 1) := by decide +kernel
theorem dX8_send_0 : decode cX8_send 0 = .ok (.aload_n 0, 1) := by decide +kernel
theorem dX8_send_1 : decode cX8_send 1 = .ok (.iload_n 1, 1) := by decide +kernel
theorem dX8_send_2 : decode cX8_send 2 = .ok (.invokevirtual 186, 3) := by decide +kernel
theorem dX8_send_5 : decode cX8_send 5 = .ok (.ifCond .eq 28, 3) := by decide +kernel
theorem dX8_send_8 : decode cX8_send 8 = .ok (.aload_n 0, 1) := by decide +kernel
theorem dX8_send_9 : decode cX8_send 9 = .ok (.iload_n 2, 1) := by decide +kernel
theorem dX8_send_10 : decode cX8_send 10 = .ok (.invokevirtual 186, 3) := by decide +kernel
theorem dX8_send_13 : decode cX8_send 13 = .ok (.ifCond .eq 20, 3) := by decide +kernel
theorem dX8_send_16 : decode cX8_send 16 = .ok (.iload_n 1, 1) := by decide +kernel
theorem dX8_send_17 : decode cX8_send 17 = .ok (.iload_n 2, 1) := by decide +kernel
theorem dX8_send_18 : decode cX8_send 18 = .ok (.if_icmp .eq 15, 3) := by decide +kernel
theorem dX8_send_21 : decode cX8_send 21 = .ok (.iload_n 3, 1) := by decide +kernel
theorem dX8_send_22 : decode cX8_send 22 = .ok (.i2l, 1) := by decide +kernel
theorem dX8_send_23 : decode cX8_send 23 = .ok (.lconst 1, 1) := by decide +kernel
theorem dX8_send_24 : decode cX8_send 24 = .ok (.ldc2_w 195, 3) := by decide +kernel
theorem dX8_send_27 : decode cX8_send 27 = .ok (.invokestatic 57, 3) := by decide +kernel
theorem dX8_send_30 : decode cX8_send 30 = .ok (.ifCond .ne 6, 3) := by decide +kernel
theorem dX8_send_33 : decode cX8_send 33 = .ok (.ldc 67, 2) := by decide +kernel
theorem dX8_send_35 : decode cX8_send 35 = .ok (.ireturn, 1) := by decide +kernel
theorem dX8_send_36 : decode cX8_send 36 = .ok (.aload_n 0, 1) := by decide +kernel
theorem dX8_send_37 : decode cX8_send 37 = .ok (.getfield 22, 3) := by decide +kernel
theorem dX8_send_40 : decode cX8_send 40 = .ok (.bipush 12, 2) := by decide +kernel
theorem dX8_send_42 : decode cX8_send 42 = .ok (.iload_n 1, 1) := by decide +kernel
theorem dX8_send_43 : decode cX8_send 43 = .ok (.iadd, 1) := by decide +kernel
theorem dX8_send_44 : decode cX8_send 44 = .ok (.iaload, 1) := by decide +kernel
theorem dX8_send_45 : decode cX8_send 45 = .ok (.aload_n 0, 1) := by decide +kernel
theorem dX8_send_46 : decode cX8_send 46 = .ok (.getfield 22, 3) := by decide +kernel
theorem dX8_send_49 : decode cX8_send 49 = .ok (.bipush 12, 2) := by decide +kernel
theorem dX8_send_51 : decode cX8_send 51 = .ok (.iload_n 2, 1) := by decide +kernel
theorem dX8_send_52 : decode cX8_send 52 = .ok (.iadd, 1) := by decide +kernel
theorem dX8_send_53 : decode cX8_send 53 = .ok (.iaload, 1) := by decide +kernel
theorem dX8_send_54 : decode cX8_send 54 = .ok (.if_icmp .ne 16, 3) := by decide +kernel
theorem dX8_send_57 : decode cX8_send 57 = .ok (.aload_n 0, 1) := by decide +kernel
theorem dX8_send_58 : decode cX8_send 58 = .ok (.getfield 22, 3) := by decide +kernel
theorem dX8_send_61 : decode cX8_send 61 = .ok (.bipush 22, 2) := by decide +kernel
theorem dX8_send_63 : decode cX8_send 63 = .ok (.iload_n 1, 1) := by decide +kernel
theorem dX8_send_64 : decode cX8_send 64 = .ok (.iadd, 1) := by decide +kernel
theorem dX8_send_65 : decode cX8_send 65 = .ok (.iaload, 1) := by decide +kernel
theorem dX8_send_66 : decode cX8_send 66 = .ok (.iload_n 3, 1) := by decide +kernel
theorem dX8_send_67 : decode cX8_send 67 = .ok (.if_icmp .ge 6, 3) := by decide +kernel
theorem dX8_send_70 : decode cX8_send 70 = .ok (.ldc 169, 2) := by decide +kernel
theorem dX8_send_72 : decode cX8_send 72 = .ok (.ireturn, 1) := by decide +kernel
theorem dX8_send_73 : decode cX8_send 73 = .ok (.aload_n 0, 1) := by decide +kernel
theorem dX8_send_74 : decode cX8_send 74 = .ok (.getfield 22, 3) := by decide +kernel
theorem dX8_send_77 : decode cX8_send 77 = .ok (.bipush 22, 2) := by decide +kernel
theorem dX8_send_79 : decode cX8_send 79 = .ok (.iload_n 2, 1) := by decide +kernel
theorem dX8_send_80 : decode cX8_send 80 = .ok (.iadd, 1) := by decide +kernel
theorem dX8_send_81 : decode cX8_send 81 = .ok (.iaload, 1) := by decide +kernel
theorem dX8_send_82 : decode cX8_send 82 = .ok (.iload_n 3, 1) := by decide +kernel
theorem dX8_send_83 : decode cX8_send 83 = .ok (.iadd, 1) := by decide +kernel
theorem dX8_send_84 : decode cX8_send 84 = .ok (.bipush 99, 2) := by decide +kernel
theorem dX8_send_86 : decode cX8_send 86 = .ok (.if_icmp .le 6, 3) := by decide +kernel
theorem dX8_send_89 : decode cX8_send 89 = .ok (.ldc 80, 2) := by decide +kernel
theorem dX8_send_91 : decode cX8_send 91 = .ok (.ireturn, 1) := by decide +kernel
theorem dX8_send_92 : decode cX8_send 92 = .ok (.aload_n 0, 1) := by decide +kernel
theorem dX8_send_93 : decode cX8_send 93 = .ok (.invokevirtual 172, 3) := by decide +kernel
theorem dX8_send_96 : decode cX8_send 96 = .ok (.aload_n 0, 1) := by decide +kernel
theorem dX8_send_97 : decode cX8_send 97 = .ok (.getfield 22, 3) := by decide +kernel
theorem dX8_send_100 : decode cX8_send 100 = .ok (.bipush 22, 2) := by decide +kernel
theorem dX8_send_102 : decode cX8_send 102 = .ok (.iload_n 1, 1) := by decide +kernel
theorem dX8_send_103 : decode cX8_send 103 = .ok (.iadd, 1) := by decide +kernel
theorem dX8_send_104 : decode cX8_send 104 = .ok (.dup2, 1) := by decide +kernel
theorem dX8_send_105 : decode cX8_send 105 = .ok (.iaload, 1) := by decide +kernel
theorem dX8_send_106 : decode cX8_send 106 = .ok (.iload_n 3, 1) := by decide +kernel
theorem dX8_send_107 : decode cX8_send 107 = .ok (.isub, 1) := by decide +kernel
theorem dX8_send_108 : decode cX8_send 108 = .ok (.iastore, 1) := by decide +kernel
theorem dX8_send_109 : decode cX8_send 109 = .ok (.aload_n 0, 1) := by decide +kernel
theorem dX8_send_110 : decode cX8_send 110 = .ok (.getfield 22, 3) := by decide +kernel
theorem dX8_send_113 : decode cX8_send 113 = .ok (.bipush 22, 2) := by decide +kernel
theorem dX8_send_115 : decode cX8_send 115 = .ok (.iload_n 2, 1) := by decide +kernel
theorem dX8_send_116 : decode cX8_send 116 = .ok (.iadd, 1) := by decide +kernel
theorem dX8_send_117 : decode cX8_send 117 = .ok (.dup2, 1) := by decide +kernel
theorem dX8_send_118 : decode cX8_send 118 = .ok (.iaload, 1) := by decide +kernel
theorem dX8_send_119 : decode cX8_send 119 = .ok (.iload_n 3, 1) := by decide +kernel
theorem dX8_send_120 : decode cX8_send 120 = .ok (.iadd, 1) := by decide +kernel
theorem dX8_send_121 : decode cX8_send 121 = .ok (.iastore, 1) := by decide +kernel
theorem dX8_send_122 : decode cX8_send 122 = .ok (.aload_n 0, 1) := by decide +kernel
theorem dX8_send_123 : decode cX8_send 123 = .ok (.getfield 22, 3) := by decide +kernel
theorem dX8_send_126 : decode cX8_send 126 = .ok (.bipush 22, 2) := by decide +kernel
theorem dX8_send_128 : decode cX8_send 128 = .ok (.iload_n 2, 1) := by decide +kernel
theorem dX8_send_129 : decode cX8_send 129 = .ok (.iadd, 1) := by decide +kernel
theorem dX8_send_130 : decode cX8_send 130 = .ok (.iaload, 1) := by decide +kernel
theorem dX8_send_131 : decode cX8_send 131 = .ok (.ireturn, 1) := by decide +kernel
theorem dX8_wind_0 : decode cX8_wind 0 = .ok (.aload_n 0, 1) := by decide +kernel
theorem dX8_wind_1 : decode cX8_wind 1 = .ok (.getfield 137, 3) := by decide +kernel
theorem dX8_wind_4 : decode cX8_wind 4 = .ok (.ifCond .ne 6, 3) := by decide +kernel
theorem dX8_wind_7 : decode cX8_wind 7 = .ok (.ldc 169, 2) := by decide +kernel
theorem dX8_wind_9 : decode cX8_wind 9 = .ok (.ireturn, 1) := by decide +kernel
theorem dX8_wind_10 : decode cX8_wind 10 = .ok (.iload_n 1, 1) := by decide +kernel
theorem dX8_wind_11 : decode cX8_wind 11 = .ok (.i2l, 1) := by decide +kernel
theorem dX8_wind_12 : decode cX8_wind 12 = .ok (.lconst 0, 1) := by decide +kernel
theorem dX8_wind_13 : decode cX8_wind 13 = .ok (.ldc2_w 197, 3) := by decide +kernel
theorem dX8_wind_16 : decode cX8_wind 16 = .ok (.invokestatic 57, 3) := by decide +kernel
theorem dX8_wind_19 : decode cX8_wind 19 = .ok (.ifCond .eq 15, 3) := by decide +kernel
theorem dX8_wind_22 : decode cX8_wind 22 = .ok (.iload_n 2, 1) := by decide +kernel
theorem dX8_wind_23 : decode cX8_wind 23 = .ok (.i2l, 1) := by decide +kernel
theorem dX8_wind_24 : decode cX8_wind 24 = .ok (.lconst 0, 1) := by decide +kernel
theorem dX8_wind_25 : decode cX8_wind 25 = .ok (.ldc2_w 199, 3) := by decide +kernel
theorem dX8_wind_28 : decode cX8_wind 28 = .ok (.invokestatic 57, 3) := by decide +kernel
theorem dX8_wind_31 : decode cX8_wind 31 = .ok (.ifCond .ne 6, 3) := by decide +kernel
theorem dX8_wind_34 : decode cX8_wind 34 = .ok (.ldc 67, 2) := by decide +kernel
theorem dX8_wind_36 : decode cX8_wind 36 = .ok (.ireturn, 1) := by decide +kernel
theorem dX8_wind_37 : decode cX8_wind 37 = .ok (.aload_n 0, 1) := by decide +kernel
theorem dX8_wind_38 : decode cX8_wind 38 = .ok (.invokevirtual 172, 3) := by decide +kernel
theorem dX8_wind_41 : decode cX8_wind 41 = .ok (.aload_n 0, 1) := by decide +kernel
theorem dX8_wind_42 : decode cX8_wind 42 = .ok (.getfield 22, 3) := by decide +kernel
theorem dX8_wind_45 : decode cX8_wind 45 = .ok (.iconst 0, 1) := by decide +kernel
theorem dX8_wind_46 : decode cX8_wind 46 = .ok (.iload_n 1, 1) := by decide +kernel
theorem dX8_wind_47 : decode cX8_wind 47 = .ok (.iadd, 1) := by decide +kernel
theorem dX8_wind_48 : decode cX8_wind 48 = .ok (.iaload, 1) := by decide +kernel
theorem dX8_wind_49 : decode cX8_wind 49 = .ok (.istore_n 3, 1) := by decide +kernel
theorem dX8_wind_50 : decode cX8_wind 50 = .ok (.aload_n 0, 1) := by decide +kernel
theorem dX8_wind_51 : decode cX8_wind 51 = .ok (.getfield 22, 3) := by decide +kernel
theorem dX8_wind_54 : decode cX8_wind 54 = .ok (.iconst 0, 1) := by decide +kernel
theorem dX8_wind_55 : decode cX8_wind 55 = .ok (.iload_n 1, 1) := by decide +kernel
theorem dX8_wind_56 : decode cX8_wind 56 = .ok (.iadd, 1) := by decide +kernel
theorem dX8_wind_57 : decode cX8_wind 57 = .ok (.iload_n 2, 1) := by decide +kernel
theorem dX8_wind_58 : decode cX8_wind 58 = .ok (.iastore, 1) := by decide +kernel
theorem dX8_wind_59 : decode cX8_wind 59 = .ok (.iload_n 3, 1) := by decide +kernel
theorem dX8_wind_60 : decode cX8_wind 60 = .ok (.ireturn, 1) := by decide +kernel
theorem dX8_office_0 : decode cX8_office 0 = .ok (.aload_n 0, 1) := by decide +kernel
theorem dX8_office_1 : decode cX8_office 1 = .ok (.iload_n 1, 1) := by decide +kernel
theorem dX8_office_2 : decode cX8_office 2 = .ok (.invokevirtual 186, 3) := by decide +kernel
theorem dX8_office_5 : decode cX8_office 5 = .ok (.ifCond .eq 15, 3) := by decide +kernel
theorem dX8_office_8 : decode cX8_office 8 = .ok (.iload_n 2, 1) := by decide +kernel
theorem dX8_office_9 : decode cX8_office 9 = .ok (.i2l, 1) := by decide +kernel
theorem dX8_office_10 : decode cX8_office 10 = .ok (.lconst 0, 1) := by decide +kernel
theorem dX8_office_11 : decode cX8_office 11 = .ok (.ldc2_w 201, 3) := by decide +kernel
theorem dX8_office_14 : decode cX8_office 14 = .ok (.invokestatic 57, 3) := by decide +kernel
theorem dX8_office_17 : decode cX8_office 17 = .ok (.ifCond .ne 6, 3) := by decide +kernel
theorem dX8_office_20 : decode cX8_office 20 = .ok (.ldc 67, 2) := by decide +kernel
theorem dX8_office_22 : decode cX8_office 22 = .ok (.ireturn, 1) := by decide +kernel
theorem dX8_office_23 : decode cX8_office 23 = .ok (.aload_n 0, 1) := by decide +kernel
theorem dX8_office_24 : decode cX8_office 24 = .ok (.getfield 22, 3) := by decide +kernel
theorem dX8_office_27 : decode cX8_office 27 = .ok (.bipush 17, 2) := by decide +kernel
theorem dX8_office_29 : decode cX8_office 29 = .ok (.iload_n 1, 1) := by decide +kernel
theorem dX8_office_30 : decode cX8_office 30 = .ok (.iadd, 1) := by decide +kernel
theorem dX8_office_31 : decode cX8_office 31 = .ok (.iaload, 1) := by decide +kernel
theorem dX8_office_32 : decode cX8_office 32 = .ok (.istore_n 3, 1) := by decide +kernel
theorem dX8_office_33 : decode cX8_office 33 = .ok (.iload_n 2, 1) := by decide +kernel
theorem dX8_office_34 : decode cX8_office 34 = .ok (.iconst 4, 1) := by decide +kernel
theorem dX8_office_35 : decode cX8_office 35 = .ok (.if_icmp .ge 19, 3) := by decide +kernel
theorem dX8_office_38 : decode cX8_office 38 = .ok (.aload_n 0, 1) := by decide +kernel
theorem dX8_office_39 : decode cX8_office 39 = .ok (.getfield 22, 3) := by decide +kernel
theorem dX8_office_42 : decode cX8_office 42 = .ok (.bipush 12, 2) := by decide +kernel
theorem dX8_office_44 : decode cX8_office 44 = .ok (.iconst 5, 1) := by decide +kernel
theorem dX8_office_45 : decode cX8_office 45 = .ok (.iload_n 2, 1) := by decide +kernel
theorem dX8_office_46 : decode cX8_office 46 = .ok (.imul, 1) := by decide +kernel
theorem dX8_office_47 : decode cX8_office 47 = .ok (.iadd, 1) := by decide +kernel
theorem dX8_office_48 : decode cX8_office 48 = .ok (.iload_n 1, 1) := by decide +kernel
theorem dX8_office_49 : decode cX8_office 49 = .ok (.iadd, 1) := by decide +kernel
theorem dX8_office_50 : decode cX8_office 50 = .ok (.iaload, 1) := by decide +kernel
theorem dX8_office_51 : decode cX8_office 51 = .ok (.goto 28, 3) := by decide +kernel
theorem dX8_office_54 : decode cX8_office 54 = .ok (.iload_n 2, 1) := by decide +kernel
theorem dX8_office_55 : decode cX8_office 55 = .ok (.iconst 4, 1) := by decide +kernel
theorem dX8_office_56 : decode cX8_office 56 = .ok (.if_icmp .ne 10, 3) := by decide +kernel
theorem dX8_office_59 : decode cX8_office 59 = .ok (.iload_n 3, 1) := by decide +kernel
theorem dX8_office_60 : decode cX8_office 60 = .ok (.invokestatic 154, 3) := by decide +kernel
theorem dX8_office_63 : decode cX8_office 63 = .ok (.goto 16, 3) := by decide +kernel
theorem dX8_office_66 : decode cX8_office 66 = .ok (.aload_n 0, 1) := by decide +kernel
theorem dX8_office_67 : decode cX8_office 67 = .ok (.getfield 22, 3) := by decide +kernel
theorem dX8_office_70 : decode cX8_office 70 = .ok (.bipush 7, 2) := by decide +kernel
theorem dX8_office_72 : decode cX8_office 72 = .ok (.iload_n 1, 1) := by decide +kernel
theorem dX8_office_73 : decode cX8_office 73 = .ok (.iadd, 1) := by decide +kernel
theorem dX8_office_74 : decode cX8_office 74 = .ok (.iaload, 1) := by decide +kernel
theorem dX8_office_75 : decode cX8_office 75 = .ok (.iload_n 3, 1) := by decide +kernel
theorem dX8_office_76 : decode cX8_office 76 = .ok (.invokestatic 150, 3) := by decide +kernel
theorem dX8_office_79 : decode cX8_office 79 = .ok (.ireturn, 1) := by decide +kernel
theorem dX8_overOn_0 : decode cX8_overOn 0 = .ok (.iconst 0, 1) := by decide +kernel
theorem dX8_overOn_1 : decode cX8_overOn 1 = .ok (.istore_n 2, 1) := by decide +kernel
theorem dX8_overOn_2 : decode cX8_overOn 2 = .ok (.iconst 0, 1) := by decide +kernel
theorem dX8_overOn_3 : decode cX8_overOn 3 = .ok (.istore_n 3, 1) := by decide +kernel
theorem dX8_overOn_4 : decode cX8_overOn 4 = .ok (.iload_n 3, 1) := by decide +kernel
theorem dX8_overOn_5 : decode cX8_overOn 5 = .ok (.aload_n 0, 1) := by decide +kernel
theorem dX8_overOn_6 : decode cX8_overOn 6 = .ok (.iconst 5, 1) := by decide +kernel
theorem dX8_overOn_7 : decode cX8_overOn 7 = .ok (.iaload, 1) := by decide +kernel
theorem dX8_overOn_8 : decode cX8_overOn 8 = .ok (.if_icmp .ge 29, 3) := by decide +kernel
theorem dX8_overOn_11 : decode cX8_overOn 11 = .ok (.iload_n 2, 1) := by decide +kernel
theorem dX8_overOn_12 : decode cX8_overOn 12 = .ok (.aload_n 0, 1) := by decide +kernel
theorem dX8_overOn_13 : decode cX8_overOn 13 = .ok (.bipush 12, 2) := by decide +kernel
theorem dX8_overOn_15 : decode cX8_overOn 15 = .ok (.iload_n 3, 1) := by decide +kernel
theorem dX8_overOn_16 : decode cX8_overOn 16 = .ok (.iadd, 1) := by decide +kernel
theorem dX8_overOn_17 : decode cX8_overOn 17 = .ok (.iaload, 1) := by decide +kernel
theorem dX8_overOn_18 : decode cX8_overOn 18 = .ok (.iload_n 1, 1) := by decide +kernel
theorem dX8_overOn_19 : decode cX8_overOn 19 = .ok (.if_icmp .ne 9, 3) := by decide +kernel
theorem dX8_overOn_22 : decode cX8_overOn 22 = .ok (.iconst 1, 1) := by decide +kernel
theorem dX8_overOn_23 : decode cX8_overOn 23 = .ok (.iload_n 3, 1) := by decide +kernel
theorem dX8_overOn_24 : decode cX8_overOn 24 = .ok (.ishl, 1) := by decide +kernel
theorem dX8_overOn_25 : decode cX8_overOn 25 = .ok (.goto 4, 3) := by decide +kernel
theorem dX8_overOn_28 : decode cX8_overOn 28 = .ok (.iconst 0, 1) := by decide +kernel
theorem dX8_overOn_29 : decode cX8_overOn 29 = .ok (.ior, 1) := by decide +kernel
theorem dX8_overOn_30 : decode cX8_overOn 30 = .ok (.istore_n 2, 1) := by decide +kernel
theorem dX8_overOn_31 : decode cX8_overOn 31 = .ok (.iinc 3 1, 3) := by decide +kernel
theorem dX8_overOn_34 : decode cX8_overOn 34 = .ok (.goto (-30), 3) := by decide +kernel
theorem dX8_overOn_37 : decode cX8_overOn 37 = .ok (.iload_n 2, 1) := by decide +kernel
theorem dX8_overOn_38 : decode cX8_overOn 38 = .ok (.ireturn, 1) := by decide +kernel
theorem dX8_land_0 : decode cX8_land 0 = .ok (.aload_n 0, 1) := by decide +kernel
theorem dX8_land_1 : decode cX8_land 1 = .ok (.getfield 137, 3) := by decide +kernel
theorem dX8_land_4 : decode cX8_land 4 = .ok (.ifCond .ne 6, 3) := by decide +kernel
theorem dX8_land_7 : decode cX8_land 7 = .ok (.ldc 169, 2) := by decide +kernel
theorem dX8_land_9 : decode cX8_land 9 = .ok (.ireturn, 1) := by decide +kernel
theorem dX8_land_10 : decode cX8_land 10 = .ok (.iload_n 1, 1) := by decide +kernel
theorem dX8_land_11 : decode cX8_land 11 = .ok (.invokestatic 203, 3) := by decide +kernel
theorem dX8_land_14 : decode cX8_land 14 = .ok (.ifCond .eq 14, 3) := by decide +kernel
theorem dX8_land_17 : decode cX8_land 17 = .ok (.aload_n 0, 1) := by decide +kernel
theorem dX8_land_18 : decode cX8_land 18 = .ok (.getfield 22, 3) := by decide +kernel
theorem dX8_land_21 : decode cX8_land 21 = .ok (.iload_n 1, 1) := by decide +kernel
theorem dX8_land_22 : decode cX8_land 22 = .ok (.invokestatic 206, 3) := by decide +kernel
theorem dX8_land_25 : decode cX8_land 25 = .ok (.goto 5, 3) := by decide +kernel
theorem dX8_land_28 : decode cX8_land 28 = .ok (.ldc 67, 2) := by decide +kernel
theorem dX8_land_30 : decode cX8_land 30 = .ok (.ireturn, 1) := by decide +kernel
theorem dX8_goAside_0 : decode cX8_goAside 0 = .ok (.aload_n 0, 1) := by decide +kernel
theorem dX8_goAside_1 : decode cX8_goAside 1 = .ok (.getfield 22, 3) := by decide +kernel
theorem dX8_goAside_4 : decode cX8_goAside 4 = .ok (.iconst 0, 1) := by decide +kernel
theorem dX8_goAside_5 : decode cX8_goAside 5 = .ok (.aload_n 0, 1) := by decide +kernel
theorem dX8_goAside_6 : decode cX8_goAside 6 = .ok (.getfield 41, 3) := by decide +kernel
theorem dX8_goAside_9 : decode cX8_goAside 9 = .ok (.iconst 0, 1) := by decide +kernel
theorem dX8_goAside_10 : decode cX8_goAside 10 = .ok (.invokestatic 144, 3) := by decide +kernel
theorem dX8_goAside_13 : decode cX8_goAside 13 = .ok (.iconst 0, 1) := by decide +kernel
theorem dX8_goAside_14 : decode cX8_goAside 14 = .ok (.istore_n 2, 1) := by decide +kernel
theorem dX8_goAside_15 : decode cX8_goAside 15 = .ok (.iload_n 2, 1) := by decide +kernel
theorem dX8_goAside_16 : decode cX8_goAside 16 = .ok (.iload_n 1, 1) := by decide +kernel
theorem dX8_goAside_17 : decode cX8_goAside 17 = .ok (.if_icmp .ge 16, 3) := by decide +kernel
theorem dX8_goAside_20 : decode cX8_goAside 20 = .ok (.aload_n 0, 1) := by decide +kernel
theorem dX8_goAside_21 : decode cX8_goAside 21 = .ok (.getfield 41, 3) := by decide +kernel
theorem dX8_goAside_24 : decode cX8_goAside 24 = .ok (.invokestatic 175, 3) := by decide +kernel
theorem dX8_goAside_27 : decode cX8_goAside 27 = .ok (.iinc 2 1, 3) := by decide +kernel
theorem dX8_goAside_30 : decode cX8_goAside 30 = .ok (.goto (-15), 3) := by decide +kernel
theorem dX8_goAside_33 : decode cX8_goAside 33 = .ok (.return_, 1) := by decide +kernel
theorem dX8_ahead_0 : decode cX8_ahead 0 = .ok (.aload_n 0, 1) := by decide +kernel
theorem dX8_ahead_1 : decode cX8_ahead 1 = .ok (.iload_n 1, 1) := by decide +kernel
theorem dX8_ahead_2 : decode cX8_ahead 2 = .ok (.invokevirtual 186, 3) := by decide +kernel
theorem dX8_ahead_5 : decode cX8_ahead 5 = .ok (.ifCond .eq 22, 3) := by decide +kernel
theorem dX8_ahead_8 : decode cX8_ahead 8 = .ok (.iload_n 2, 1) := by decide +kernel
theorem dX8_ahead_9 : decode cX8_ahead 9 = .ok (.i2l, 1) := by decide +kernel
theorem dX8_ahead_10 : decode cX8_ahead 10 = .ok (.lconst 0, 1) := by decide +kernel
theorem dX8_ahead_11 : decode cX8_ahead 11 = .ok (.ldc2_w 195, 3) := by decide +kernel
theorem dX8_ahead_14 : decode cX8_ahead 14 = .ok (.invokestatic 57, 3) := by decide +kernel
theorem dX8_ahead_17 : decode cX8_ahead 17 = .ok (.ifCond .eq 10, 3) := by decide +kernel
theorem dX8_ahead_20 : decode cX8_ahead 20 = .ok (.iload_n 3, 1) := by decide +kernel
theorem dX8_ahead_21 : decode cX8_ahead 21 = .ok (.invokestatic 209, 3) := by decide +kernel
theorem dX8_ahead_24 : decode cX8_ahead 24 = .ok (.ifCond .ne 6, 3) := by decide +kernel
theorem dX8_ahead_27 : decode cX8_ahead 27 = .ok (.ldc 67, 2) := by decide +kernel
theorem dX8_ahead_29 : decode cX8_ahead 29 = .ok (.ireturn, 1) := by decide +kernel
theorem dX8_ahead_30 : decode cX8_ahead 30 = .ok (.aload_n 0, 1) := by decide +kernel
theorem dX8_ahead_31 : decode cX8_ahead 31 = .ok (.iload_n 2, 1) := by decide +kernel
theorem dX8_ahead_32 : decode cX8_ahead 32 = .ok (.invokevirtual 212, 3) := by decide +kernel
theorem dX8_ahead_35 : decode cX8_ahead 35 = .ok (.aload_n 0, 1) := by decide +kernel
theorem dX8_ahead_36 : decode cX8_ahead 36 = .ok (.getfield 41, 3) := by decide +kernel
theorem dX8_ahead_39 : decode cX8_ahead 39 = .ok (.bipush 12, 2) := by decide +kernel
theorem dX8_ahead_41 : decode cX8_ahead 41 = .ok (.iconst 5, 1) := by decide +kernel
theorem dX8_ahead_42 : decode cX8_ahead 42 = .ok (.iload_n 3, 1) := by decide +kernel
theorem dX8_ahead_43 : decode cX8_ahead 43 = .ok (.imul, 1) := by decide +kernel
theorem dX8_ahead_44 : decode cX8_ahead 44 = .ok (.iadd, 1) := by decide +kernel
theorem dX8_ahead_45 : decode cX8_ahead 45 = .ok (.iload_n 1, 1) := by decide +kernel
theorem dX8_ahead_46 : decode cX8_ahead 46 = .ok (.iadd, 1) := by decide +kernel
theorem dX8_ahead_47 : decode cX8_ahead 47 = .ok (.iaload, 1) := by decide +kernel
theorem dX8_ahead_48 : decode cX8_ahead 48 = .ok (.ireturn, 1) := by decide +kernel
theorem dX8_down_0 : decode cX8_down 0 = .ok (.aload_n 0, 1) := by decide +kernel
theorem dX8_down_1 : decode cX8_down 1 = .ok (.iload_n 1, 1) := by decide +kernel
theorem dX8_down_2 : decode cX8_down 2 = .ok (.invokevirtual 186, 3) := by decide +kernel
theorem dX8_down_5 : decode cX8_down 5 = .ok (.ifCond .ne 6, 3) := by decide +kernel
theorem dX8_down_8 : decode cX8_down 8 = .ok (.ldc 67, 2) := by decide +kernel
theorem dX8_down_10 : decode cX8_down 10 = .ok (.ireturn, 1) := by decide +kernel
theorem dX8_down_11 : decode cX8_down 11 = .ok (.aload_n 0, 1) := by decide +kernel
theorem dX8_down_12 : decode cX8_down 12 = .ok (.iconst 0, 1) := by decide +kernel
theorem dX8_down_13 : decode cX8_down 13 = .ok (.invokevirtual 212, 3) := by decide +kernel
theorem dX8_down_16 : decode cX8_down 16 = .ok (.iconst 0, 1) := by decide +kernel
theorem dX8_down_17 : decode cX8_down 17 = .ok (.istore_n 2, 1) := by decide +kernel
theorem dX8_down_18 : decode cX8_down 18 = .ok (.iload_n 2, 1) := by decide +kernel
theorem dX8_down_19 : decode cX8_down 19 = .ok (.bipush 60, 2) := by decide +kernel
theorem dX8_down_21 : decode cX8_down 21 = .ok (.if_icmp .gt 30, 3) := by decide +kernel
theorem dX8_down_24 : decode cX8_down 24 = .ok (.aload_n 0, 1) := by decide +kernel
theorem dX8_down_25 : decode cX8_down 25 = .ok (.getfield 41, 3) := by decide +kernel
theorem dX8_down_28 : decode cX8_down 28 = .ok (.bipush 17, 2) := by decide +kernel
theorem dX8_down_30 : decode cX8_down 30 = .ok (.iload_n 1, 1) := by decide +kernel
theorem dX8_down_31 : decode cX8_down 31 = .ok (.iadd, 1) := by decide +kernel
theorem dX8_down_32 : decode cX8_down 32 = .ok (.iaload, 1) := by decide +kernel
theorem dX8_down_33 : decode cX8_down 33 = .ok (.ifCond .ne 5, 3) := by decide +kernel
theorem dX8_down_36 : decode cX8_down 36 = .ok (.iload_n 2, 1) := by decide +kernel
theorem dX8_down_37 : decode cX8_down 37 = .ok (.ireturn, 1) := by decide +kernel
theorem dX8_down_38 : decode cX8_down 38 = .ok (.aload_n 0, 1) := by decide +kernel
theorem dX8_down_39 : decode cX8_down 39 = .ok (.getfield 41, 3) := by decide +kernel
theorem dX8_down_42 : decode cX8_down 42 = .ok (.invokestatic 175, 3) := by decide +kernel
theorem dX8_down_45 : decode cX8_down 45 = .ok (.iinc 2 1, 3) := by decide +kernel
theorem dX8_down_48 : decode cX8_down 48 = .ok (.goto (-30), 3) := by decide +kernel
theorem dX8_down_51 : decode cX8_down 51 = .ok (.ldc 216, 2) := by decide +kernel
theorem dX8_down_53 : decode cX8_down 53 = .ok (.ireturn, 1) := by decide +kernel
theorem dX8_meet_0 : decode cX8_meet 0 = .ok (.aload_n 0, 1) := by decide +kernel
theorem dX8_meet_1 : decode cX8_meet 1 = .ok (.iload_n 1, 1) := by decide +kernel
theorem dX8_meet_2 : decode cX8_meet 2 = .ok (.invokevirtual 186, 3) := by decide +kernel
theorem dX8_meet_5 : decode cX8_meet 5 = .ok (.ifCond .eq 16, 3) := by decide +kernel
theorem dX8_meet_8 : decode cX8_meet 8 = .ok (.aload_n 0, 1) := by decide +kernel
theorem dX8_meet_9 : decode cX8_meet 9 = .ok (.iload_n 2, 1) := by decide +kernel
theorem dX8_meet_10 : decode cX8_meet 10 = .ok (.invokevirtual 186, 3) := by decide +kernel
theorem dX8_meet_13 : decode cX8_meet 13 = .ok (.ifCond .eq 8, 3) := by decide +kernel
theorem dX8_meet_16 : decode cX8_meet 16 = .ok (.iload_n 1, 1) := by decide +kernel
theorem dX8_meet_17 : decode cX8_meet 17 = .ok (.iload_n 2, 1) := by decide +kernel
theorem dX8_meet_18 : decode cX8_meet 18 = .ok (.if_icmp .ne 6, 3) := by decide +kernel
theorem dX8_meet_21 : decode cX8_meet 21 = .ok (.ldc 67, 2) := by decide +kernel
theorem dX8_meet_23 : decode cX8_meet 23 = .ok (.ireturn, 1) := by decide +kernel
theorem dX8_meet_24 : decode cX8_meet 24 = .ok (.aload_n 0, 1) := by decide +kernel
theorem dX8_meet_25 : decode cX8_meet 25 = .ok (.iconst 0, 1) := by decide +kernel
theorem dX8_meet_26 : decode cX8_meet 26 = .ok (.invokevirtual 212, 3) := by decide +kernel
theorem dX8_meet_29 : decode cX8_meet 29 = .ok (.iconst 0, 1) := by decide +kernel
theorem dX8_meet_30 : decode cX8_meet 30 = .ok (.istore_n 3, 1) := by decide +kernel
theorem dX8_meet_31 : decode cX8_meet 31 = .ok (.iload_n 3, 1) := by decide +kernel
theorem dX8_meet_32 : decode cX8_meet 32 = .ok (.bipush 60, 2) := by decide +kernel
theorem dX8_meet_34 : decode cX8_meet 34 = .ok (.if_icmp .gt 60, 3) := by decide +kernel
theorem dX8_meet_37 : decode cX8_meet 37 = .ok (.aload_n 0, 1) := by decide +kernel
theorem dX8_meet_38 : decode cX8_meet 38 = .ok (.getfield 41, 3) := by decide +kernel
theorem dX8_meet_41 : decode cX8_meet 41 = .ok (.bipush 12, 2) := by decide +kernel
theorem dX8_meet_43 : decode cX8_meet 43 = .ok (.iload_n 1, 1) := by decide +kernel
theorem dX8_meet_44 : decode cX8_meet 44 = .ok (.iadd, 1) := by decide +kernel
theorem dX8_meet_45 : decode cX8_meet 45 = .ok (.iaload, 1) := by decide +kernel
theorem dX8_meet_46 : decode cX8_meet 46 = .ok (.aload_n 0, 1) := by decide +kernel
theorem dX8_meet_47 : decode cX8_meet 47 = .ok (.getfield 41, 3) := by decide +kernel
theorem dX8_meet_50 : decode cX8_meet 50 = .ok (.bipush 12, 2) := by decide +kernel
theorem dX8_meet_52 : decode cX8_meet 52 = .ok (.iload_n 2, 1) := by decide +kernel
theorem dX8_meet_53 : decode cX8_meet 53 = .ok (.iadd, 1) := by decide +kernel
theorem dX8_meet_54 : decode cX8_meet 54 = .ok (.iaload, 1) := by decide +kernel
theorem dX8_meet_55 : decode cX8_meet 55 = .ok (.if_icmp .ne 26, 3) := by decide +kernel
theorem dX8_meet_58 : decode cX8_meet 58 = .ok (.aload_n 0, 1) := by decide +kernel
theorem dX8_meet_59 : decode cX8_meet 59 = .ok (.getfield 41, 3) := by decide +kernel
theorem dX8_meet_62 : decode cX8_meet 62 = .ok (.bipush 17, 2) := by decide +kernel
theorem dX8_meet_64 : decode cX8_meet 64 = .ok (.iload_n 1, 1) := by decide +kernel
theorem dX8_meet_65 : decode cX8_meet 65 = .ok (.iadd, 1) := by decide +kernel
theorem dX8_meet_66 : decode cX8_meet 66 = .ok (.iaload, 1) := by decide +kernel
theorem dX8_meet_67 : decode cX8_meet 67 = .ok (.aload_n 0, 1) := by decide +kernel
theorem dX8_meet_68 : decode cX8_meet 68 = .ok (.getfield 41, 3) := by decide +kernel
theorem dX8_meet_71 : decode cX8_meet 71 = .ok (.bipush 17, 2) := by decide +kernel
theorem dX8_meet_73 : decode cX8_meet 73 = .ok (.iload_n 2, 1) := by decide +kernel
theorem dX8_meet_74 : decode cX8_meet 74 = .ok (.iadd, 1) := by decide +kernel
theorem dX8_meet_75 : decode cX8_meet 75 = .ok (.iaload, 1) := by decide +kernel
theorem dX8_meet_76 : decode cX8_meet 76 = .ok (.if_icmp .ne 5, 3) := by decide +kernel
theorem dX8_meet_79 : decode cX8_meet 79 = .ok (.iload_n 3, 1) := by decide +kernel
theorem dX8_meet_80 : decode cX8_meet 80 = .ok (.ireturn, 1) := by decide +kernel
theorem dX8_meet_81 : decode cX8_meet 81 = .ok (.aload_n 0, 1) := by decide +kernel
theorem dX8_meet_82 : decode cX8_meet 82 = .ok (.getfield 41, 3) := by decide +kernel
theorem dX8_meet_85 : decode cX8_meet 85 = .ok (.invokestatic 175, 3) := by decide +kernel
theorem dX8_meet_88 : decode cX8_meet 88 = .ok (.iinc 3 1, 3) := by decide +kernel
theorem dX8_meet_91 : decode cX8_meet 91 = .ok (.goto (-60), 3) := by decide +kernel
theorem dX8_meet_94 : decode cX8_meet 94 = .ok (.ldc 216, 2) := by decide +kernel
theorem dX8_meet_96 : decode cX8_meet 96 = .ok (.ireturn, 1) := by decide +kernel
theorem dX8_over_0 : decode cX8_over 0 = .ok (.aload_n 0, 1) := by decide +kernel
theorem dX8_over_1 : decode cX8_over 1 = .ok (.getfield 137, 3) := by decide +kernel
theorem dX8_over_4 : decode cX8_over 4 = .ok (.ifCond .ne 6, 3) := by decide +kernel
theorem dX8_over_7 : decode cX8_over 7 = .ok (.ldc 169, 2) := by decide +kernel
theorem dX8_over_9 : decode cX8_over 9 = .ok (.ireturn, 1) := by decide +kernel
theorem dX8_over_10 : decode cX8_over 10 = .ok (.iload_n 1, 1) := by decide +kernel
theorem dX8_over_11 : decode cX8_over 11 = .ok (.invokestatic 203, 3) := by decide +kernel
theorem dX8_over_14 : decode cX8_over 14 = .ok (.ifCond .eq 15, 3) := by decide +kernel
theorem dX8_over_17 : decode cX8_over 17 = .ok (.iload_n 2, 1) := by decide +kernel
theorem dX8_over_18 : decode cX8_over 18 = .ok (.i2l, 1) := by decide +kernel
theorem dX8_over_19 : decode cX8_over 19 = .ok (.lconst 0, 1) := by decide +kernel
theorem dX8_over_20 : decode cX8_over 20 = .ok (.ldc2_w 195, 3) := by decide +kernel
theorem dX8_over_23 : decode cX8_over 23 = .ok (.invokestatic 57, 3) := by decide +kernel
theorem dX8_over_26 : decode cX8_over 26 = .ok (.ifCond .ne 6, 3) := by decide +kernel
theorem dX8_over_29 : decode cX8_over 29 = .ok (.ldc 67, 2) := by decide +kernel
theorem dX8_over_31 : decode cX8_over 31 = .ok (.ireturn, 1) := by decide +kernel
theorem dX8_over_32 : decode cX8_over 32 = .ok (.aload_n 0, 1) := by decide +kernel
theorem dX8_over_33 : decode cX8_over 33 = .ok (.iload_n 2, 1) := by decide +kernel
theorem dX8_over_34 : decode cX8_over 34 = .ok (.invokevirtual 212, 3) := by decide +kernel
theorem dX8_over_37 : decode cX8_over 37 = .ok (.aload_n 0, 1) := by decide +kernel
theorem dX8_over_38 : decode cX8_over 38 = .ok (.getfield 41, 3) := by decide +kernel
theorem dX8_over_41 : decode cX8_over 41 = .ok (.iload_n 1, 1) := by decide +kernel
theorem dX8_over_42 : decode cX8_over 42 = .ok (.invokestatic 206, 3) := by decide +kernel
theorem dX8_over_45 : decode cX8_over 45 = .ok (.invokestatic 183, 3) := by decide +kernel
theorem dX8_over_48 : decode cX8_over 48 = .ok (.ireturn, 1) := by decide +kernel
theorem dX8_cell_0 : decode cX8_cell 0 = .ok (.sipush 210, 3) := by decide +kernel
theorem dX8_cell_3 : decode cX8_cell 3 = .ok (.iload_n 0, 1) := by decide +kernel
theorem dX8_cell_4 : decode cX8_cell 4 = .ok (.imul, 1) := by decide +kernel
theorem dX8_cell_5 : decode cX8_cell 5 = .ok (.bipush 21, 2) := by decide +kernel
theorem dX8_cell_7 : decode cX8_cell 7 = .ok (.iload_n 1, 1) := by decide +kernel
theorem dX8_cell_8 : decode cX8_cell 8 = .ok (.imul, 1) := by decide +kernel
theorem dX8_cell_9 : decode cX8_cell 9 = .ok (.iadd, 1) := by decide +kernel
theorem dX8_cell_10 : decode cX8_cell 10 = .ok (.iload_n 2, 1) := by decide +kernel
theorem dX8_cell_11 : decode cX8_cell 11 = .ok (.iadd, 1) := by decide +kernel
theorem dX8_cell_12 : decode cX8_cell 12 = .ok (.ireturn, 1) := by decide +kernel
theorem dX8_fewestBy_0 : decode cX8_fewestBy 0 = .ok (.aload_n 0, 1) := by decide +kernel
theorem dX8_fewestBy_1 : decode cX8_fewestBy 1 = .ok (.getfield 22, 3) := by decide +kernel
theorem dX8_fewestBy_4 : decode cX8_fewestBy 4 = .ok (.iload_n 1, 1) := by decide +kernel
theorem dX8_fewestBy_5 : decode cX8_fewestBy 5 = .ok (.iload 4, 2) := by decide +kernel
theorem dX8_fewestBy_7 : decode cX8_fewestBy 7 = .ok (.iload 5, 2) := by decide +kernel
theorem dX8_fewestBy_9 : decode cX8_fewestBy 9 = .ok (.invokestatic 165, 3) := by decide +kernel
theorem dX8_fewestBy_12 : decode cX8_fewestBy 12 = .ok (.invokestatic 157, 3) := by decide +kernel
theorem dX8_fewestBy_15 : decode cX8_fewestBy 15 = .ok (.istore 6, 2) := by decide +kernel
theorem dX8_fewestBy_17 : decode cX8_fewestBy 17 = .ok (.iload 5, 2) := by decide +kernel
theorem dX8_fewestBy_19 : decode cX8_fewestBy 19 = .ok (.aload_n 0, 1) := by decide +kernel
theorem dX8_fewestBy_20 : decode cX8_fewestBy 20 = .ok (.getfield 44, 3) := by decide +kernel
theorem dX8_fewestBy_23 : decode cX8_fewestBy 23 = .ok (.iload_n 2, 1) := by decide +kernel
theorem dX8_fewestBy_24 : decode cX8_fewestBy 24 = .ok (.iconst 1, 1) := by decide +kernel
theorem dX8_fewestBy_25 : decode cX8_fewestBy 25 = .ok (.isub, 1) := by decide +kernel
theorem dX8_fewestBy_26 : decode cX8_fewestBy 26 = .ok (.aload_n 0, 1) := by decide +kernel
theorem dX8_fewestBy_27 : decode cX8_fewestBy 27 = .ok (.getfield 22, 3) := by decide +kernel
theorem dX8_fewestBy_30 : decode cX8_fewestBy 30 = .ok (.iload_n 3, 1) := by decide +kernel
theorem dX8_fewestBy_31 : decode cX8_fewestBy 31 = .ok (.iload 6, 2) := by decide +kernel
theorem dX8_fewestBy_33 : decode cX8_fewestBy 33 = .ok (.invokestatic 161, 3) := by decide +kernel
theorem dX8_fewestBy_36 : decode cX8_fewestBy 36 = .ok (.iload 6, 2) := by decide +kernel
theorem dX8_fewestBy_38 : decode cX8_fewestBy 38 = .ok (.invokestatic 217, 3) := by decide +kernel
theorem dX8_fewestBy_41 : decode cX8_fewestBy 41 = .ok (.iaload, 1) := by decide +kernel
theorem dX8_fewestBy_42 : decode cX8_fewestBy 42 = .ok (.iadd, 1) := by decide +kernel
theorem dX8_fewestBy_43 : decode cX8_fewestBy 43 = .ok (.ireturn, 1) := by decide +kernel
theorem dX8_layFewest_0 : decode cX8_layFewest 0 = .ok (.iconst 0, 1) := by decide +kernel
theorem dX8_layFewest_1 : decode cX8_layFewest 1 = .ok (.istore 5, 2) := by decide +kernel
theorem dX8_layFewest_3 : decode cX8_layFewest 3 = .ok (.iload 5, 2) := by decide +kernel
theorem dX8_layFewest_5 : decode cX8_layFewest 5 = .ok (.iload_n 3, 1) := by decide +kernel
theorem dX8_layFewest_6 : decode cX8_layFewest 6 = .ok (.if_icmp .gt 134, 3) := by decide +kernel
theorem dX8_layFewest_9 : decode cX8_layFewest 9 = .ok (.iconst 0, 1) := by decide +kernel
theorem dX8_layFewest_10 : decode cX8_layFewest 10 = .ok (.istore 6, 2) := by decide +kernel
theorem dX8_layFewest_12 : decode cX8_layFewest 12 = .ok (.iload 6, 2) := by decide +kernel
theorem dX8_layFewest_14 : decode cX8_layFewest 14 = .ok (.bipush 10, 2) := by decide +kernel
theorem dX8_layFewest_16 : decode cX8_layFewest 16 = .ok (.if_icmp .ge 118, 3) := by decide +kernel
theorem dX8_layFewest_19 : decode cX8_layFewest 19 = .ok (.iconst 0, 1) := by decide +kernel
theorem dX8_layFewest_20 : decode cX8_layFewest 20 = .ok (.istore 7, 2) := by decide +kernel
theorem dX8_layFewest_22 : decode cX8_layFewest 22 = .ok (.iload 7, 2) := by decide +kernel
theorem dX8_layFewest_24 : decode cX8_layFewest 24 = .ok (.bipush 21, 2) := by decide +kernel
theorem dX8_layFewest_26 : decode cX8_layFewest 26 = .ok (.if_icmp .ge 102, 3) := by decide +kernel
theorem dX8_layFewest_29 : decode cX8_layFewest 29 = .ok (.iload 5, 2) := by decide +kernel
theorem dX8_layFewest_31 : decode cX8_layFewest 31 = .ok (.ifCond .gt 16, 3) := by decide +kernel
theorem dX8_layFewest_34 : decode cX8_layFewest 34 = .ok (.iload 6, 2) := by decide +kernel
theorem dX8_layFewest_36 : decode cX8_layFewest 36 = .ok (.iload_n 2, 1) := by decide +kernel
theorem dX8_layFewest_37 : decode cX8_layFewest 37 = .ok (.if_icmp .ne 10, 3) := by decide +kernel
theorem dX8_layFewest_40 : decode cX8_layFewest 40 = .ok (.iload 7, 2) := by decide +kernel
theorem dX8_layFewest_42 : decode cX8_layFewest 42 = .ok (.iload 4, 2) := by decide +kernel
theorem dX8_layFewest_44 : decode cX8_layFewest 44 = .ok (.if_icmp .ge 8, 3) := by decide +kernel
theorem dX8_layFewest_47 : decode cX8_layFewest 47 = .ok (.ldc 220, 2) := by decide +kernel
theorem dX8_layFewest_49 : decode cX8_layFewest 49 = .ok (.goto 4, 3) := by decide +kernel
theorem dX8_layFewest_52 : decode cX8_layFewest 52 = .ok (.iconst 0, 1) := by decide +kernel
theorem dX8_layFewest_53 : decode cX8_layFewest 53 = .ok (.istore 8, 2) := by decide +kernel
theorem dX8_layFewest_55 : decode cX8_layFewest 55 = .ok (.iconst 0, 1) := by decide +kernel
theorem dX8_layFewest_56 : decode cX8_layFewest 56 = .ok (.istore 9, 2) := by decide +kernel
theorem dX8_layFewest_58 : decode cX8_layFewest 58 = .ok (.iload 9, 2) := by decide +kernel
theorem dX8_layFewest_60 : decode cX8_layFewest 60 = .ok (.iconst 4, 1) := by decide +kernel
theorem dX8_layFewest_61 : decode cX8_layFewest 61 = .ok (.if_icmp .ge 45, 3) := by decide +kernel
theorem dX8_layFewest_64 : decode cX8_layFewest 64 = .ok (.iload 5, 2) := by decide +kernel
theorem dX8_layFewest_66 : decode cX8_layFewest 66 = .ok (.ifCond .le 40, 3) := by decide +kernel
theorem dX8_layFewest_69 : decode cX8_layFewest 69 = .ok (.aload_n 0, 1) := by decide +kernel
theorem dX8_layFewest_70 : decode cX8_layFewest 70 = .ok (.iload_n 1, 1) := by decide +kernel
theorem dX8_layFewest_71 : decode cX8_layFewest 71 = .ok (.iload 5, 2) := by decide +kernel
theorem dX8_layFewest_73 : decode cX8_layFewest 73 = .ok (.iload 6, 2) := by decide +kernel
theorem dX8_layFewest_75 : decode cX8_layFewest 75 = .ok (.iload 7, 2) := by decide +kernel
theorem dX8_layFewest_77 : decode cX8_layFewest 77 = .ok (.iload 9, 2) := by decide +kernel
theorem dX8_layFewest_79 : decode cX8_layFewest 79 = .ok (.invokevirtual 221, 3) := by decide +kernel
theorem dX8_layFewest_82 : decode cX8_layFewest 82 = .ok (.istore 10, 2) := by decide +kernel
theorem dX8_layFewest_84 : decode cX8_layFewest 84 = .ok (.iload 10, 2) := by decide +kernel
theorem dX8_layFewest_86 : decode cX8_layFewest 86 = .ok (.iload 8, 2) := by decide +kernel
theorem dX8_layFewest_88 : decode cX8_layFewest 88 = .ok (.if_icmp .ge 8, 3) := by decide +kernel
theorem dX8_layFewest_91 : decode cX8_layFewest 91 = .ok (.iload 10, 2) := by decide +kernel
theorem dX8_layFewest_93 : decode cX8_layFewest 93 = .ok (.goto 5, 3) := by decide +kernel
theorem dX8_layFewest_96 : decode cX8_layFewest 96 = .ok (.iload 8, 2) := by decide +kernel
theorem dX8_layFewest_98 : decode cX8_layFewest 98 = .ok (.istore 8, 2) := by decide +kernel
theorem dX8_layFewest_100 : decode cX8_layFewest 100 = .ok (.iinc 9 1, 3) := by decide +kernel
theorem dX8_layFewest_103 : decode cX8_layFewest 103 = .ok (.goto (-45), 3) := by decide +kernel
theorem dX8_layFewest_106 : decode cX8_layFewest 106 = .ok (.aload_n 0, 1) := by decide +kernel
theorem dX8_layFewest_107 : decode cX8_layFewest 107 = .ok (.getfield 44, 3) := by decide +kernel
theorem dX8_layFewest_110 : decode cX8_layFewest 110 = .ok (.iload 5, 2) := by decide +kernel
theorem dX8_layFewest_112 : decode cX8_layFewest 112 = .ok (.iload 6, 2) := by decide +kernel
theorem dX8_layFewest_114 : decode cX8_layFewest 114 = .ok (.iload 7, 2) := by decide +kernel
theorem dX8_layFewest_116 : decode cX8_layFewest 116 = .ok (.invokestatic 217, 3) := by decide +kernel
theorem dX8_layFewest_119 : decode cX8_layFewest 119 = .ok (.iload 8, 2) := by decide +kernel
theorem dX8_layFewest_121 : decode cX8_layFewest 121 = .ok (.iastore, 1) := by decide +kernel
theorem dX8_layFewest_122 : decode cX8_layFewest 122 = .ok (.iinc 7 1, 3) := by decide +kernel
theorem dX8_layFewest_125 : decode cX8_layFewest 125 = .ok (.goto (-103), 3) := by decide +kernel
theorem dX8_layFewest_128 : decode cX8_layFewest 128 = .ok (.iinc 6 1, 3) := by decide +kernel
theorem dX8_layFewest_131 : decode cX8_layFewest 131 = .ok (.goto (-119), 3) := by decide +kernel
theorem dX8_layFewest_134 : decode cX8_layFewest 134 = .ok (.iinc 5 1, 3) := by decide +kernel
theorem dX8_layFewest_137 : decode cX8_layFewest 137 = .ok (.goto (-134), 3) := by decide +kernel
theorem dX8_layFewest_140 : decode cX8_layFewest 140 = .ok (.return_, 1) := by decide +kernel
theorem dX8_above_0 : decode cX8_above 0 = .ok (.aload_n 0, 1) := by decide +kernel
theorem dX8_above_1 : decode cX8_above 1 = .ok (.iload_n 1, 1) := by decide +kernel
theorem dX8_above_2 : decode cX8_above 2 = .ok (.invokevirtual 186, 3) := by decide +kernel
theorem dX8_above_5 : decode cX8_above 5 = .ok (.ifCond .eq 41, 3) := by decide +kernel
theorem dX8_above_8 : decode cX8_above 8 = .ok (.iload_n 2, 1) := by decide +kernel
theorem dX8_above_9 : decode cX8_above 9 = .ok (.invokestatic 203, 3) := by decide +kernel
theorem dX8_above_12 : decode cX8_above 12 = .ok (.ifCond .eq 34, 3) := by decide +kernel
theorem dX8_above_15 : decode cX8_above 15 = .ok (.iload_n 3, 1) := by decide +kernel
theorem dX8_above_16 : decode cX8_above 16 = .ok (.i2l, 1) := by decide +kernel
theorem dX8_above_17 : decode cX8_above 17 = .ok (.lconst 1, 1) := by decide +kernel
theorem dX8_above_18 : decode cX8_above 18 = .ok (.ldc2_w 225, 3) := by decide +kernel
theorem dX8_above_21 : decode cX8_above 21 = .ok (.invokestatic 57, 3) := by decide +kernel
theorem dX8_above_24 : decode cX8_above 24 = .ok (.ifCond .eq 22, 3) := by decide +kernel
theorem dX8_above_27 : decode cX8_above 27 = .ok (.iload 4, 2) := by decide +kernel
theorem dX8_above_29 : decode cX8_above 29 = .ok (.i2l, 1) := by decide +kernel
theorem dX8_above_30 : decode cX8_above 30 = .ok (.lconst 0, 1) := by decide +kernel
theorem dX8_above_31 : decode cX8_above 31 = .ok (.ldc2_w 189, 3) := by decide +kernel
theorem dX8_above_34 : decode cX8_above 34 = .ok (.invokestatic 57, 3) := by decide +kernel
theorem dX8_above_37 : decode cX8_above 37 = .ok (.ifCond .eq 9, 3) := by decide +kernel
theorem dX8_above_40 : decode cX8_above 40 = .ok (.iload 5, 2) := by decide +kernel
theorem dX8_above_42 : decode cX8_above 42 = .ok (.iconst (-1), 1) := by decide +kernel
theorem dX8_above_43 : decode cX8_above 43 = .ok (.if_icmp .ge 6, 3) := by decide +kernel
theorem dX8_above_46 : decode cX8_above 46 = .ok (.ldc 67, 2) := by decide +kernel
theorem dX8_above_48 : decode cX8_above 48 = .ok (.ireturn, 1) := by decide +kernel
theorem dX8_above_49 : decode cX8_above 49 = .ok (.aload_n 0, 1) := by decide +kernel
theorem dX8_above_50 : decode cX8_above 50 = .ok (.getfield 22, 3) := by decide +kernel
theorem dX8_above_53 : decode cX8_above 53 = .ok (.bipush 7, 2) := by decide +kernel
theorem dX8_above_55 : decode cX8_above 55 = .ok (.iload_n 1, 1) := by decide +kernel
theorem dX8_above_56 : decode cX8_above 56 = .ok (.iadd, 1) := by decide +kernel
theorem dX8_above_57 : decode cX8_above 57 = .ok (.iaload, 1) := by decide +kernel
theorem dX8_above_58 : decode cX8_above 58 = .ok (.istore 6, 2) := by decide +kernel
theorem dX8_above_60 : decode cX8_above 60 = .ok (.aload_n 0, 1) := by decide +kernel
theorem dX8_above_61 : decode cX8_above 61 = .ok (.iload 6, 2) := by decide +kernel
theorem dX8_above_63 : decode cX8_above 63 = .ok (.iload_n 2, 1) := by decide +kernel
theorem dX8_above_64 : decode cX8_above 64 = .ok (.iload_n 3, 1) := by decide +kernel
theorem dX8_above_65 : decode cX8_above 65 = .ok (.iload 4, 2) := by decide +kernel
theorem dX8_above_67 : decode cX8_above 67 = .ok (.invokevirtual 227, 3) := by decide +kernel
theorem dX8_above_70 : decode cX8_above 70 = .ok (.aload_n 0, 1) := by decide +kernel
theorem dX8_above_71 : decode cX8_above 71 = .ok (.getfield 22, 3) := by decide +kernel
theorem dX8_above_74 : decode cX8_above 74 = .ok (.bipush 12, 2) := by decide +kernel
theorem dX8_above_76 : decode cX8_above 76 = .ok (.iload_n 1, 1) := by decide +kernel
theorem dX8_above_77 : decode cX8_above 77 = .ok (.iadd, 1) := by decide +kernel
theorem dX8_above_78 : decode cX8_above 78 = .ok (.iaload, 1) := by decide +kernel
theorem dX8_above_79 : decode cX8_above 79 = .ok (.istore 7, 2) := by decide +kernel
theorem dX8_above_81 : decode cX8_above 81 = .ok (.aload_n 0, 1) := by decide +kernel
theorem dX8_above_82 : decode cX8_above 82 = .ok (.getfield 22, 3) := by decide +kernel
theorem dX8_above_85 : decode cX8_above 85 = .ok (.bipush 17, 2) := by decide +kernel
theorem dX8_above_87 : decode cX8_above 87 = .ok (.iload_n 1, 1) := by decide +kernel
theorem dX8_above_88 : decode cX8_above 88 = .ok (.iadd, 1) := by decide +kernel
theorem dX8_above_89 : decode cX8_above 89 = .ok (.iaload, 1) := by decide +kernel
theorem dX8_above_90 : decode cX8_above 90 = .ok (.istore 8, 2) := by decide +kernel
theorem dX8_above_92 : decode cX8_above 92 = .ok (.aload_n 0, 1) := by decide +kernel
theorem dX8_above_93 : decode cX8_above 93 = .ok (.getfield 44, 3) := by decide +kernel
theorem dX8_above_96 : decode cX8_above 96 = .ok (.iload_n 3, 1) := by decide +kernel
theorem dX8_above_97 : decode cX8_above 97 = .ok (.iload 7, 2) := by decide +kernel
theorem dX8_above_99 : decode cX8_above 99 = .ok (.iload 8, 2) := by decide +kernel
theorem dX8_above_101 : decode cX8_above 101 = .ok (.invokestatic 217, 3) := by decide +kernel
theorem dX8_above_104 : decode cX8_above 104 = .ok (.iaload, 1) := by decide +kernel
theorem dX8_above_105 : decode cX8_above 105 = .ok (.istore 9, 2) := by decide +kernel
theorem dX8_above_107 : decode cX8_above 107 = .ok (.iload 9, 2) := by decide +kernel
theorem dX8_above_109 : decode cX8_above 109 = .ok (.aload_n 0, 1) := by decide +kernel
theorem dX8_above_110 : decode cX8_above 110 = .ok (.getfield 22, 3) := by decide +kernel
theorem dX8_above_113 : decode cX8_above 113 = .ok (.bipush 22, 2) := by decide +kernel
theorem dX8_above_115 : decode cX8_above 115 = .ok (.iload_n 1, 1) := by decide +kernel
theorem dX8_above_116 : decode cX8_above 116 = .ok (.iadd, 1) := by decide +kernel
theorem dX8_above_117 : decode cX8_above 117 = .ok (.iaload, 1) := by decide +kernel
theorem dX8_above_118 : decode cX8_above 118 = .ok (.if_icmp .le 6, 3) := by decide +kernel
theorem dX8_above_121 : decode cX8_above 121 = .ok (.ldc 216, 2) := by decide +kernel
theorem dX8_above_123 : decode cX8_above 123 = .ok (.ireturn, 1) := by decide +kernel
theorem dX8_above_124 : decode cX8_above 124 = .ok (.iload 5, 2) := by decide +kernel
theorem dX8_above_126 : decode cX8_above 126 = .ok (.ifCond .ge 6, 3) := by decide +kernel
theorem dX8_above_129 : decode cX8_above 129 = .ok (.iload 9, 2) := by decide +kernel
theorem dX8_above_131 : decode cX8_above 131 = .ok (.ireturn, 1) := by decide +kernel
theorem dX8_above_132 : decode cX8_above 132 = .ok (.iconst 0, 1) := by decide +kernel
theorem dX8_above_133 : decode cX8_above 133 = .ok (.istore 10, 2) := by decide +kernel
theorem dX8_above_135 : decode cX8_above 135 = .ok (.iload 10, 2) := by decide +kernel
theorem dX8_above_137 : decode cX8_above 137 = .ok (.iload_n 3, 1) := by decide +kernel
theorem dX8_above_138 : decode cX8_above 138 = .ok (.if_icmp .ge 96, 3) := by decide +kernel
theorem dX8_above_141 : decode cX8_above 141 = .ok (.iload_n 3, 1) := by decide +kernel
theorem dX8_above_142 : decode cX8_above 142 = .ok (.iload 10, 2) := by decide +kernel
theorem dX8_above_144 : decode cX8_above 144 = .ok (.isub, 1) := by decide +kernel
theorem dX8_above_145 : decode cX8_above 145 = .ok (.istore 11, 2) := by decide +kernel
theorem dX8_above_147 : decode cX8_above 147 = .ok (.iconst 0, 1) := by decide +kernel
theorem dX8_above_148 : decode cX8_above 148 = .ok (.istore 12, 2) := by decide +kernel
theorem dX8_above_150 : decode cX8_above 150 = .ok (.aload_n 0, 1) := by decide +kernel
theorem dX8_above_151 : decode cX8_above 151 = .ok (.iload 6, 2) := by decide +kernel
theorem dX8_above_153 : decode cX8_above 153 = .ok (.iload 11, 2) := by decide +kernel
theorem dX8_above_155 : decode cX8_above 155 = .ok (.iload 7, 2) := by decide +kernel
theorem dX8_above_157 : decode cX8_above 157 = .ok (.iload 8, 2) := by decide +kernel
theorem dX8_above_159 : decode cX8_above 159 = .ok (.iload 12, 2) := by decide +kernel
theorem dX8_above_161 : decode cX8_above 161 = .ok (.invokevirtual 221, 3) := by decide +kernel
theorem dX8_above_164 : decode cX8_above 164 = .ok (.aload_n 0, 1) := by decide +kernel
theorem dX8_above_165 : decode cX8_above 165 = .ok (.getfield 44, 3) := by decide +kernel
theorem dX8_above_168 : decode cX8_above 168 = .ok (.iload 11, 2) := by decide +kernel
theorem dX8_above_170 : decode cX8_above 170 = .ok (.iload 7, 2) := by decide +kernel
theorem dX8_above_172 : decode cX8_above 172 = .ok (.iload 8, 2) := by decide +kernel
theorem dX8_above_174 : decode cX8_above 174 = .ok (.invokestatic 217, 3) := by decide +kernel
theorem dX8_above_177 : decode cX8_above 177 = .ok (.iaload, 1) := by decide +kernel
theorem dX8_above_178 : decode cX8_above 178 = .ok (.if_icmp .eq 9, 3) := by decide +kernel
theorem dX8_above_181 : decode cX8_above 181 = .ok (.iinc 12 1, 3) := by decide +kernel
theorem dX8_above_184 : decode cX8_above 184 = .ok (.goto (-34), 3) := by decide +kernel
theorem dX8_above_187 : decode cX8_above 187 = .ok (.iload 10, 2) := by decide +kernel
theorem dX8_above_189 : decode cX8_above 189 = .ok (.iload 5, 2) := by decide +kernel
theorem dX8_above_191 : decode cX8_above 191 = .ok (.if_icmp .ne 6, 3) := by decide +kernel
theorem dX8_above_194 : decode cX8_above 194 = .ok (.iload 12, 2) := by decide +kernel
theorem dX8_above_196 : decode cX8_above 196 = .ok (.ireturn, 1) := by decide +kernel
theorem dX8_above_197 : decode cX8_above 197 = .ok (.aload_n 0, 1) := by decide +kernel
theorem dX8_above_198 : decode cX8_above 198 = .ok (.getfield 22, 3) := by decide +kernel
theorem dX8_above_201 : decode cX8_above 201 = .ok (.iload 6, 2) := by decide +kernel
theorem dX8_above_203 : decode cX8_above 203 = .ok (.iload 8, 2) := by decide +kernel
theorem dX8_above_205 : decode cX8_above 205 = .ok (.iload 12, 2) := by decide +kernel
theorem dX8_above_207 : decode cX8_above 207 = .ok (.invokestatic 165, 3) := by decide +kernel
theorem dX8_above_210 : decode cX8_above 210 = .ok (.invokestatic 157, 3) := by decide +kernel
theorem dX8_above_213 : decode cX8_above 213 = .ok (.istore 8, 2) := by decide +kernel
theorem dX8_above_215 : decode cX8_above 215 = .ok (.aload_n 0, 1) := by decide +kernel
theorem dX8_above_216 : decode cX8_above 216 = .ok (.getfield 22, 3) := by decide +kernel
theorem dX8_above_219 : decode cX8_above 219 = .ok (.iload 7, 2) := by decide +kernel
theorem dX8_above_221 : decode cX8_above 221 = .ok (.iload 8, 2) := by decide +kernel
theorem dX8_above_223 : decode cX8_above 223 = .ok (.invokestatic 161, 3) := by decide +kernel
theorem dX8_above_226 : decode cX8_above 226 = .ok (.istore 7, 2) := by decide +kernel
theorem dX8_above_228 : decode cX8_above 228 = .ok (.iinc 10 1, 3) := by decide +kernel
theorem dX8_above_231 : decode cX8_above 231 = .ok (.goto (-96), 3) := by decide +kernel
theorem dX8_above_234 : decode cX8_above 234 = .ok (.ldc 216, 2) := by decide +kernel
theorem dX8_above_236 : decode cX8_above 236 = .ok (.ireturn, 1) := by decide +kernel
theorem dX8_lies_0 : decode cX8_lies 0 = .ok (.aload_n 0, 1) := by decide +kernel
theorem dX8_lies_1 : decode cX8_lies 1 = .ok (.getfield 13, 3) := by decide +kernel
theorem dX8_lies_4 : decode cX8_lies 4 = .ok (.iload_n 1, 1) := by decide +kernel
theorem dX8_lies_5 : decode cX8_lies 5 = .ok (.iaload, 1) := by decide +kernel
theorem dX8_lies_6 : decode cX8_lies 6 = .ok (.ifCond .ge 9, 3) := by decide +kernel
theorem dX8_lies_9 : decode cX8_lies 9 = .ok (.aload_n 0, 1) := by decide +kernel
theorem dX8_lies_10 : decode cX8_lies 10 = .ok (.iconst 1, 1) := by decide +kernel
theorem dX8_lies_11 : decode cX8_lies 11 = .ok (.invokevirtual 68, 3) := by decide +kernel
theorem dX8_lies_14 : decode cX8_lies 14 = .ok (.ireturn, 1) := by decide +kernel
theorem dX8_lies_15 : decode cX8_lies 15 = .ok (.iload_n 2, 1) := by decide +kernel
theorem dX8_lies_16 : decode cX8_lies 16 = .ok (.ifCond .lt 19, 3) := by decide +kernel
theorem dX8_lies_19 : decode cX8_lies 19 = .ok (.iload_n 2, 1) := by decide +kernel
theorem dX8_lies_20 : decode cX8_lies 20 = .ok (.i2l, 1) := by decide +kernel
theorem dX8_lies_21 : decode cX8_lies 21 = .ok (.iload_n 3, 1) := by decide +kernel
theorem dX8_lies_22 : decode cX8_lies 22 = .ok (.i2l, 1) := by decide +kernel
theorem dX8_lies_23 : decode cX8_lies 23 = .ok (.ladd, 1) := by decide +kernel
theorem dX8_lies_24 : decode cX8_lies 24 = .ok (.aload_n 0, 1) := by decide +kernel
theorem dX8_lies_25 : decode cX8_lies 25 = .ok (.getfield 13, 3) := by decide +kernel
theorem dX8_lies_28 : decode cX8_lies 28 = .ok (.iload_n 1, 1) := by decide +kernel
theorem dX8_lies_29 : decode cX8_lies 29 = .ok (.iaload, 1) := by decide +kernel
theorem dX8_lies_30 : decode cX8_lies 30 = .ok (.i2l, 1) := by decide +kernel
theorem dX8_lies_31 : decode cX8_lies 31 = .ok (.lcmp, 1) := by decide +kernel
theorem dX8_lies_32 : decode cX8_lies 32 = .ok (.ifCond .le 11, 3) := by decide +kernel
theorem dX8_lies_35 : decode cX8_lies 35 = .ok (.aload_n 0, 1) := by decide +kernel
theorem dX8_lies_36 : decode cX8_lies 36 = .ok (.iconst 2, 1) := by decide +kernel
theorem dX8_lies_37 : decode cX8_lies 37 = .ok (.invokevirtual 68, 3) := by decide +kernel
theorem dX8_lies_40 : decode cX8_lies 40 = .ok (.goto 4, 3) := by decide +kernel
theorem dX8_lies_43 : decode cX8_lies 43 = .ok (.iconst 0, 1) := by decide +kernel
theorem dX8_lies_44 : decode cX8_lies 44 = .ok (.ireturn, 1) := by decide +kernel
theorem dX8_petition_0 : decode cX8_petition 0 = .ok (.aload_n 0, 1) := by decide +kernel
theorem dX8_petition_1 : decode cX8_petition 1 = .ok (.getfield 137, 3) := by decide +kernel
theorem dX8_petition_4 : decode cX8_petition 4 = .ok (.ifCond .ne 6, 3) := by decide +kernel
theorem dX8_petition_7 : decode cX8_petition 7 = .ok (.ldc 169, 2) := by decide +kernel
theorem dX8_petition_9 : decode cX8_petition 9 = .ok (.ireturn, 1) := by decide +kernel
theorem dX8_petition_10 : decode cX8_petition 10 = .ok (.iload_n 1, 1) := by decide +kernel
theorem dX8_petition_11 : decode cX8_petition 11 = .ok (.invokestatic 203, 3) := by decide +kernel
theorem dX8_petition_14 : decode cX8_petition 14 = .ok (.ifCond .eq 23, 3) := by decide +kernel
theorem dX8_petition_17 : decode cX8_petition 17 = .ok (.iload_n 2, 1) := by decide +kernel
theorem dX8_petition_18 : decode cX8_petition 18 = .ok (.invokestatic 61, 3) := by decide +kernel
theorem dX8_petition_21 : decode cX8_petition 21 = .ok (.ifCond .eq 16, 3) := by decide +kernel
theorem dX8_petition_24 : decode cX8_petition 24 = .ok (.iload 4, 2) := by decide +kernel
theorem dX8_petition_26 : decode cX8_petition 26 = .ok (.i2l, 1) := by decide +kernel
theorem dX8_petition_27 : decode cX8_petition 27 = .ok (.lconst 1, 1) := by decide +kernel
theorem dX8_petition_28 : decode cX8_petition 28 = .ok (.ldc2_w 231, 3) := by decide +kernel
theorem dX8_petition_31 : decode cX8_petition 31 = .ok (.invokestatic 57, 3) := by decide +kernel
theorem dX8_petition_34 : decode cX8_petition 34 = .ok (.ifCond .ne 6, 3) := by decide +kernel
theorem dX8_petition_37 : decode cX8_petition 37 = .ok (.ldc 67, 2) := by decide +kernel
theorem dX8_petition_39 : decode cX8_petition 39 = .ok (.ireturn, 1) := by decide +kernel
theorem dX8_petition_40 : decode cX8_petition 40 = .ok (.aload_n 0, 1) := by decide +kernel
theorem dX8_petition_41 : decode cX8_petition 41 = .ok (.iload_n 2, 1) := by decide +kernel
theorem dX8_petition_42 : decode cX8_petition 42 = .ok (.iload_n 3, 1) := by decide +kernel
theorem dX8_petition_43 : decode cX8_petition 43 = .ok (.iload 4, 2) := by decide +kernel
theorem dX8_petition_45 : decode cX8_petition 45 = .ok (.invokevirtual 233, 3) := by decide +kernel
theorem dX8_petition_48 : decode cX8_petition 48 = .ok (.istore 5, 2) := by decide +kernel
theorem dX8_petition_50 : decode cX8_petition 50 = .ok (.iload 5, 2) := by decide +kernel
theorem dX8_petition_52 : decode cX8_petition 52 = .ok (.ifCond .ge 6, 3) := by decide +kernel
theorem dX8_petition_55 : decode cX8_petition 55 = .ok (.iload 5, 2) := by decide +kernel
theorem dX8_petition_57 : decode cX8_petition 57 = .ok (.ireturn, 1) := by decide +kernel
theorem dX8_petition_58 : decode cX8_petition 58 = .ok (.iconst 0, 1) := by decide +kernel
theorem dX8_petition_59 : decode cX8_petition 59 = .ok (.istore 6, 2) := by decide +kernel
theorem dX8_petition_61 : decode cX8_petition 61 = .ok (.iload 6, 2) := by decide +kernel
theorem dX8_petition_63 : decode cX8_petition 63 = .ok (.iload 4, 2) := by decide +kernel
theorem dX8_petition_65 : decode cX8_petition 65 = .ok (.if_icmp .ge 33, 3) := by decide +kernel
theorem dX8_petition_68 : decode cX8_petition 68 = .ok (.aload_n 0, 1) := by decide +kernel
theorem dX8_petition_69 : decode cX8_petition 69 = .ok (.aload_n 0, 1) := by decide +kernel
theorem dX8_petition_70 : decode cX8_petition 70 = .ok (.getfield 16, 3) := by decide +kernel
theorem dX8_petition_73 : decode cX8_petition 73 = .ok (.bipush 40, 2) := by decide +kernel
theorem dX8_petition_75 : decode cX8_petition 75 = .ok (.iload_n 2, 1) := by decide +kernel
theorem dX8_petition_76 : decode cX8_petition 76 = .ok (.imul, 1) := by decide +kernel
theorem dX8_petition_77 : decode cX8_petition 77 = .ok (.iload_n 3, 1) := by decide +kernel
theorem dX8_petition_78 : decode cX8_petition 78 = .ok (.iadd, 1) := by decide +kernel
theorem dX8_petition_79 : decode cX8_petition 79 = .ok (.iload 6, 2) := by decide +kernel
theorem dX8_petition_81 : decode cX8_petition 81 = .ok (.iadd, 1) := by decide +kernel
theorem dX8_petition_82 : decode cX8_petition 82 = .ok (.iaload, 1) := by decide +kernel
theorem dX8_petition_83 : decode cX8_petition 83 = .ok (.invokevirtual 186, 3) := by decide +kernel
theorem dX8_petition_86 : decode cX8_petition 86 = .ok (.ifCond .ne 6, 3) := by decide +kernel
theorem dX8_petition_89 : decode cX8_petition 89 = .ok (.ldc 67, 2) := by decide +kernel
theorem dX8_petition_91 : decode cX8_petition 91 = .ok (.ireturn, 1) := by decide +kernel
theorem dX8_petition_92 : decode cX8_petition 92 = .ok (.iinc 6 1, 3) := by decide +kernel
theorem dX8_petition_95 : decode cX8_petition 95 = .ok (.goto (-34), 3) := by decide +kernel
theorem dX8_petition_98 : decode cX8_petition 98 = .ok (.aload_n 0, 1) := by decide +kernel
theorem dX8_petition_99 : decode cX8_petition 99 = .ok (.iconst 0, 1) := by decide +kernel
theorem dX8_petition_100 : decode cX8_petition 100 = .ok (.invokevirtual 212, 3) := by decide +kernel
theorem dX8_petition_103 : decode cX8_petition 103 = .ok (.iconst 0, 1) := by decide +kernel
theorem dX8_petition_104 : decode cX8_petition 104 = .ok (.istore 6, 2) := by decide +kernel
theorem dX8_petition_106 : decode cX8_petition 106 = .ok (.iconst 0, 1) := by decide +kernel
theorem dX8_petition_107 : decode cX8_petition 107 = .ok (.istore 7, 2) := by decide +kernel
theorem dX8_petition_109 : decode cX8_petition 109 = .ok (.iload 7, 2) := by decide +kernel
theorem dX8_petition_111 : decode cX8_petition 111 = .ok (.bipush 60, 2) := by decide +kernel
theorem dX8_petition_113 : decode cX8_petition 113 = .ok (.if_icmp .gt 115, 3) := by decide +kernel
theorem dX8_petition_116 : decode cX8_petition 116 = .ok (.iconst 1, 1) := by decide +kernel
theorem dX8_petition_117 : decode cX8_petition 117 = .ok (.istore 8, 2) := by decide +kernel
theorem dX8_petition_119 : decode cX8_petition 119 = .ok (.iload 6, 2) := by decide +kernel
theorem dX8_petition_121 : decode cX8_petition 121 = .ok (.iload 4, 2) := by decide +kernel
theorem dX8_petition_123 : decode cX8_petition 123 = .ok (.if_icmp .ge 78, 3) := by decide +kernel
theorem dX8_petition_126 : decode cX8_petition 126 = .ok (.iload 8, 2) := by decide +kernel
theorem dX8_petition_128 : decode cX8_petition 128 = .ok (.ifCond .eq 73, 3) := by decide +kernel
theorem dX8_petition_131 : decode cX8_petition 131 = .ok (.aload_n 0, 1) := by decide +kernel
theorem dX8_petition_132 : decode cX8_petition 132 = .ok (.getfield 16, 3) := by decide +kernel
theorem dX8_petition_135 : decode cX8_petition 135 = .ok (.bipush 40, 2) := by decide +kernel
theorem dX8_petition_137 : decode cX8_petition 137 = .ok (.iload_n 2, 1) := by decide +kernel
theorem dX8_petition_138 : decode cX8_petition 138 = .ok (.imul, 1) := by decide +kernel
theorem dX8_petition_139 : decode cX8_petition 139 = .ok (.iload_n 3, 1) := by decide +kernel
theorem dX8_petition_140 : decode cX8_petition 140 = .ok (.iadd, 1) := by decide +kernel
theorem dX8_petition_141 : decode cX8_petition 141 = .ok (.iload 6, 2) := by decide +kernel
theorem dX8_petition_143 : decode cX8_petition 143 = .ok (.iadd, 1) := by decide +kernel
theorem dX8_petition_144 : decode cX8_petition 144 = .ok (.iaload, 1) := by decide +kernel
theorem dX8_petition_145 : decode cX8_petition 145 = .ok (.istore 9, 2) := by decide +kernel
theorem dX8_petition_147 : decode cX8_petition 147 = .ok (.aload_n 0, 1) := by decide +kernel
theorem dX8_petition_148 : decode cX8_petition 148 = .ok (.getfield 41, 3) := by decide +kernel
theorem dX8_petition_151 : decode cX8_petition 151 = .ok (.bipush 12, 2) := by decide +kernel
theorem dX8_petition_153 : decode cX8_petition 153 = .ok (.iload 9, 2) := by decide +kernel
theorem dX8_petition_155 : decode cX8_petition 155 = .ok (.iadd, 1) := by decide +kernel
theorem dX8_petition_156 : decode cX8_petition 156 = .ok (.iaload, 1) := by decide +kernel
theorem dX8_petition_157 : decode cX8_petition 157 = .ok (.iload_n 1, 1) := by decide +kernel
theorem dX8_petition_158 : decode cX8_petition 158 = .ok (.if_icmp .ne 22, 3) := by decide +kernel
theorem dX8_petition_161 : decode cX8_petition 161 = .ok (.aload_n 0, 1) := by decide +kernel
theorem dX8_petition_162 : decode cX8_petition 162 = .ok (.getfield 41, 3) := by decide +kernel
theorem dX8_petition_165 : decode cX8_petition 165 = .ok (.bipush 17, 2) := by decide +kernel
theorem dX8_petition_167 : decode cX8_petition 167 = .ok (.iload 9, 2) := by decide +kernel
theorem dX8_petition_169 : decode cX8_petition 169 = .ok (.iadd, 1) := by decide +kernel
theorem dX8_petition_170 : decode cX8_petition 170 = .ok (.iaload, 1) := by decide +kernel
theorem dX8_petition_171 : decode cX8_petition 171 = .ok (.bipush 6, 2) := by decide +kernel
theorem dX8_petition_173 : decode cX8_petition 173 = .ok (.if_icmp .ge 7, 3) := by decide +kernel
theorem dX8_petition_176 : decode cX8_petition 176 = .ok (.iconst 1, 1) := by decide +kernel
theorem dX8_petition_177 : decode cX8_petition 177 = .ok (.goto 4, 3) := by decide +kernel
theorem dX8_petition_180 : decode cX8_petition 180 = .ok (.iconst 0, 1) := by decide +kernel
theorem dX8_petition_181 : decode cX8_petition 181 = .ok (.istore 8, 2) := by decide +kernel
theorem dX8_petition_183 : decode cX8_petition 183 = .ok (.iload 6, 2) := by decide +kernel
theorem dX8_petition_185 : decode cX8_petition 185 = .ok (.iload 8, 2) := by decide +kernel
theorem dX8_petition_187 : decode cX8_petition 187 = .ok (.ifCond .eq 7, 3) := by decide +kernel
theorem dX8_petition_190 : decode cX8_petition 190 = .ok (.iconst 1, 1) := by decide +kernel
theorem dX8_petition_191 : decode cX8_petition 191 = .ok (.goto 4, 3) := by decide +kernel
theorem dX8_petition_194 : decode cX8_petition 194 = .ok (.iconst 0, 1) := by decide +kernel
theorem dX8_petition_195 : decode cX8_petition 195 = .ok (.iadd, 1) := by decide +kernel
theorem dX8_petition_196 : decode cX8_petition 196 = .ok (.istore 6, 2) := by decide +kernel
theorem dX8_petition_198 : decode cX8_petition 198 = .ok (.goto (-79), 3) := by decide +kernel
theorem dX8_petition_201 : decode cX8_petition 201 = .ok (.iload 6, 2) := by decide +kernel
theorem dX8_petition_203 : decode cX8_petition 203 = .ok (.iload 4, 2) := by decide +kernel
theorem dX8_petition_205 : decode cX8_petition 205 = .ok (.if_icmp .ne 10, 3) := by decide +kernel
theorem dX8_petition_208 : decode cX8_petition 208 = .ok (.aload_n 0, 1) := by decide +kernel
theorem dX8_petition_209 : decode cX8_petition 209 = .ok (.iload 7, 2) := by decide +kernel
theorem dX8_petition_211 : decode cX8_petition 211 = .ok (.invokevirtual 72, 3) := by decide +kernel
theorem dX8_petition_214 : decode cX8_petition 214 = .ok (.ireturn, 1) := by decide +kernel
theorem dX8_petition_215 : decode cX8_petition 215 = .ok (.aload_n 0, 1) := by decide +kernel
theorem dX8_petition_216 : decode cX8_petition 216 = .ok (.getfield 41, 3) := by decide +kernel
theorem dX8_petition_219 : decode cX8_petition 219 = .ok (.invokestatic 175, 3) := by decide +kernel
theorem dX8_petition_222 : decode cX8_petition 222 = .ok (.iinc 7 1, 3) := by decide +kernel
theorem dX8_petition_225 : decode cX8_petition 225 = .ok (.goto (-116), 3) := by decide +kernel
theorem dX8_petition_228 : decode cX8_petition 228 = .ok (.aload_n 0, 1) := by decide +kernel
theorem dX8_petition_229 : decode cX8_petition 229 = .ok (.ldc 216, 2) := by decide +kernel
theorem dX8_petition_231 : decode cX8_petition 231 = .ok (.invokevirtual 72, 3) := by decide +kernel
theorem dX8_petition_234 : decode cX8_petition 234 = .ok (.ireturn, 1) := by decide +kernel
theorem dX8_comesSo_0 : decode cX8_comesSo 0 = .ok (.aload_n 0, 1) := by decide +kernel
theorem dX8_comesSo_1 : decode cX8_comesSo 1 = .ok (.getfield 22, 3) := by decide +kernel
theorem dX8_comesSo_4 : decode cX8_comesSo 4 = .ok (.bipush 17, 2) := by decide +kernel
theorem dX8_comesSo_6 : decode cX8_comesSo 6 = .ok (.iload_n 1, 1) := by decide +kernel
theorem dX8_comesSo_7 : decode cX8_comesSo 7 = .ok (.iadd, 1) := by decide +kernel
theorem dX8_comesSo_8 : decode cX8_comesSo 8 = .ok (.iaload, 1) := by decide +kernel
theorem dX8_comesSo_9 : decode cX8_comesSo 9 = .ok (.istore 5, 2) := by decide +kernel
theorem dX8_comesSo_11 : decode cX8_comesSo 11 = .ok (.iconst 0, 1) := by decide +kernel
theorem dX8_comesSo_12 : decode cX8_comesSo 12 = .ok (.istore 6, 2) := by decide +kernel
theorem dX8_comesSo_14 : decode cX8_comesSo 14 = .ok (.iload 6, 2) := by decide +kernel
theorem dX8_comesSo_16 : decode cX8_comesSo 16 = .ok (.iload_n 3, 1) := by decide +kernel
theorem dX8_comesSo_17 : decode cX8_comesSo 17 = .ok (.if_icmp .ge 65, 3) := by decide +kernel
theorem dX8_comesSo_20 : decode cX8_comesSo 20 = .ok (.iload 4, 2) := by decide +kernel
theorem dX8_comesSo_22 : decode cX8_comesSo 22 = .ok (.iconst 2, 1) := by decide +kernel
theorem dX8_comesSo_23 : decode cX8_comesSo 23 = .ok (.iload_n 3, 1) := by decide +kernel
theorem dX8_comesSo_24 : decode cX8_comesSo 24 = .ok (.iconst 1, 1) := by decide +kernel
theorem dX8_comesSo_25 : decode cX8_comesSo 25 = .ok (.isub, 1) := by decide +kernel
theorem dX8_comesSo_26 : decode cX8_comesSo 26 = .ok (.iload 6, 2) := by decide +kernel
theorem dX8_comesSo_28 : decode cX8_comesSo 28 = .ok (.isub, 1) := by decide +kernel
theorem dX8_comesSo_29 : decode cX8_comesSo 29 = .ok (.imul, 1) := by decide +kernel
theorem dX8_comesSo_30 : decode cX8_comesSo 30 = .ok (.ishr, 1) := by decide +kernel
theorem dX8_comesSo_31 : decode cX8_comesSo 31 = .ok (.iconst 3, 1) := by decide +kernel
theorem dX8_comesSo_32 : decode cX8_comesSo 32 = .ok (.iand, 1) := by decide +kernel
theorem dX8_comesSo_33 : decode cX8_comesSo 33 = .ok (.istore 7, 2) := by decide +kernel
theorem dX8_comesSo_35 : decode cX8_comesSo 35 = .ok (.aload_n 0, 1) := by decide +kernel
theorem dX8_comesSo_36 : decode cX8_comesSo 36 = .ok (.getfield 22, 3) := by decide +kernel
theorem dX8_comesSo_39 : decode cX8_comesSo 39 = .ok (.aload_n 0, 1) := by decide +kernel
theorem dX8_comesSo_40 : decode cX8_comesSo 40 = .ok (.getfield 22, 3) := by decide +kernel
theorem dX8_comesSo_43 : decode cX8_comesSo 43 = .ok (.bipush 7, 2) := by decide +kernel
theorem dX8_comesSo_45 : decode cX8_comesSo 45 = .ok (.iload_n 1, 1) := by decide +kernel
theorem dX8_comesSo_46 : decode cX8_comesSo 46 = .ok (.iadd, 1) := by decide +kernel
theorem dX8_comesSo_47 : decode cX8_comesSo 47 = .ok (.iaload, 1) := by decide +kernel
theorem dX8_comesSo_48 : decode cX8_comesSo 48 = .ok (.iload 5, 2) := by decide +kernel
theorem dX8_comesSo_50 : decode cX8_comesSo 50 = .ok (.iload 7, 2) := by decide +kernel
theorem dX8_comesSo_52 : decode cX8_comesSo 52 = .ok (.invokestatic 165, 3) := by decide +kernel
theorem dX8_comesSo_55 : decode cX8_comesSo 55 = .ok (.invokestatic 157, 3) := by decide +kernel
theorem dX8_comesSo_58 : decode cX8_comesSo 58 = .ok (.istore 5, 2) := by decide +kernel
theorem dX8_comesSo_60 : decode cX8_comesSo 60 = .ok (.iload 5, 2) := by decide +kernel
theorem dX8_comesSo_62 : decode cX8_comesSo 62 = .ok (.aload_n 0, 1) := by decide +kernel
theorem dX8_comesSo_63 : decode cX8_comesSo 63 = .ok (.getfield 16, 3) := by decide +kernel
theorem dX8_comesSo_66 : decode cX8_comesSo 66 = .ok (.iload_n 2, 1) := by decide +kernel
theorem dX8_comesSo_67 : decode cX8_comesSo 67 = .ok (.iload 6, 2) := by decide +kernel
theorem dX8_comesSo_69 : decode cX8_comesSo 69 = .ok (.iadd, 1) := by decide +kernel
theorem dX8_comesSo_70 : decode cX8_comesSo 70 = .ok (.iaload, 1) := by decide +kernel
theorem dX8_comesSo_71 : decode cX8_comesSo 71 = .ok (.if_icmp .eq 5, 3) := by decide +kernel
theorem dX8_comesSo_74 : decode cX8_comesSo 74 = .ok (.iconst 0, 1) := by decide +kernel
theorem dX8_comesSo_75 : decode cX8_comesSo 75 = .ok (.ireturn, 1) := by decide +kernel
theorem dX8_comesSo_76 : decode cX8_comesSo 76 = .ok (.iinc 6 1, 3) := by decide +kernel
theorem dX8_comesSo_79 : decode cX8_comesSo 79 = .ok (.goto (-65), 3) := by decide +kernel
theorem dX8_comesSo_82 : decode cX8_comesSo 82 = .ok (.iconst 1, 1) := by decide +kernel
theorem dX8_comesSo_83 : decode cX8_comesSo 83 = .ok (.ireturn, 1) := by decide +kernel
theorem dX8_ash_0 : decode cX8_ash 0 = .ok (.aload_n 0, 1) := by decide +kernel
theorem dX8_ash_1 : decode cX8_ash 1 = .ok (.iload_n 1, 1) := by decide +kernel
theorem dX8_ash_2 : decode cX8_ash 2 = .ok (.invokevirtual 186, 3) := by decide +kernel
theorem dX8_ash_5 : decode cX8_ash 5 = .ok (.ifCond .eq 29, 3) := by decide +kernel
theorem dX8_ash_8 : decode cX8_ash 8 = .ok (.iload_n 2, 1) := by decide +kernel
theorem dX8_ash_9 : decode cX8_ash 9 = .ok (.invokestatic 61, 3) := by decide +kernel
theorem dX8_ash_12 : decode cX8_ash 12 = .ok (.ifCond .eq 22, 3) := by decide +kernel
theorem dX8_ash_15 : decode cX8_ash 15 = .ok (.iload 4, 2) := by decide +kernel
theorem dX8_ash_17 : decode cX8_ash 17 = .ok (.i2l, 1) := by decide +kernel
theorem dX8_ash_18 : decode cX8_ash 18 = .ok (.lconst 1, 1) := by decide +kernel
theorem dX8_ash_19 : decode cX8_ash 19 = .ok (.ldc2_w 236, 3) := by decide +kernel
theorem dX8_ash_22 : decode cX8_ash 22 = .ok (.invokestatic 57, 3) := by decide +kernel
theorem dX8_ash_25 : decode cX8_ash 25 = .ok (.ifCond .eq 9, 3) := by decide +kernel
theorem dX8_ash_28 : decode cX8_ash 28 = .ok (.iload 5, 2) := by decide +kernel
theorem dX8_ash_30 : decode cX8_ash 30 = .ok (.iconst (-1), 1) := by decide +kernel
theorem dX8_ash_31 : decode cX8_ash 31 = .ok (.if_icmp .ge 6, 3) := by decide +kernel
theorem dX8_ash_34 : decode cX8_ash 34 = .ok (.ldc 67, 2) := by decide +kernel
theorem dX8_ash_36 : decode cX8_ash 36 = .ok (.ireturn, 1) := by decide +kernel
theorem dX8_ash_37 : decode cX8_ash 37 = .ok (.aload_n 0, 1) := by decide +kernel
theorem dX8_ash_38 : decode cX8_ash 38 = .ok (.iload_n 2, 1) := by decide +kernel
theorem dX8_ash_39 : decode cX8_ash 39 = .ok (.iload_n 3, 1) := by decide +kernel
theorem dX8_ash_40 : decode cX8_ash 40 = .ok (.iload 4, 2) := by decide +kernel
theorem dX8_ash_42 : decode cX8_ash 42 = .ok (.invokevirtual 233, 3) := by decide +kernel
theorem dX8_ash_45 : decode cX8_ash 45 = .ok (.istore 6, 2) := by decide +kernel
theorem dX8_ash_47 : decode cX8_ash 47 = .ok (.iload 6, 2) := by decide +kernel
theorem dX8_ash_49 : decode cX8_ash 49 = .ok (.ifCond .ge 6, 3) := by decide +kernel
theorem dX8_ash_52 : decode cX8_ash 52 = .ok (.iload 6, 2) := by decide +kernel
theorem dX8_ash_54 : decode cX8_ash 54 = .ok (.ireturn, 1) := by decide +kernel
theorem dX8_ash_55 : decode cX8_ash 55 = .ok (.iconst 0, 1) := by decide +kernel
theorem dX8_ash_56 : decode cX8_ash 56 = .ok (.istore 7, 2) := by decide +kernel
theorem dX8_ash_58 : decode cX8_ash 58 = .ok (.ldc 216, 2) := by decide +kernel
theorem dX8_ash_60 : decode cX8_ash 60 = .ok (.istore 8, 2) := by decide +kernel
theorem dX8_ash_62 : decode cX8_ash 62 = .ok (.iconst 1, 1) := by decide +kernel
theorem dX8_ash_63 : decode cX8_ash 63 = .ok (.iconst 2, 1) := by decide +kernel
theorem dX8_ash_64 : decode cX8_ash 64 = .ok (.iload 4, 2) := by decide +kernel
theorem dX8_ash_66 : decode cX8_ash 66 = .ok (.imul, 1) := by decide +kernel
theorem dX8_ash_67 : decode cX8_ash 67 = .ok (.ishl, 1) := by decide +kernel
theorem dX8_ash_68 : decode cX8_ash 68 = .ok (.iconst 1, 1) := by decide +kernel
theorem dX8_ash_69 : decode cX8_ash 69 = .ok (.isub, 1) := by decide +kernel
theorem dX8_ash_70 : decode cX8_ash 70 = .ok (.istore 9, 2) := by decide +kernel
theorem dX8_ash_72 : decode cX8_ash 72 = .ok (.iload 9, 2) := by decide +kernel
theorem dX8_ash_74 : decode cX8_ash 74 = .ok (.ifCond .lt 55, 3) := by decide +kernel
theorem dX8_ash_77 : decode cX8_ash 77 = .ok (.aload_n 0, 1) := by decide +kernel
theorem dX8_ash_78 : decode cX8_ash 78 = .ok (.iload_n 1, 1) := by decide +kernel
theorem dX8_ash_79 : decode cX8_ash 79 = .ok (.bipush 40, 2) := by decide +kernel
theorem dX8_ash_81 : decode cX8_ash 81 = .ok (.iload_n 2, 1) := by decide +kernel
theorem dX8_ash_82 : decode cX8_ash 82 = .ok (.imul, 1) := by decide +kernel
theorem dX8_ash_83 : decode cX8_ash 83 = .ok (.iload_n 3, 1) := by decide +kernel
theorem dX8_ash_84 : decode cX8_ash 84 = .ok (.iadd, 1) := by decide +kernel
theorem dX8_ash_85 : decode cX8_ash 85 = .ok (.iload 4, 2) := by decide +kernel
theorem dX8_ash_87 : decode cX8_ash 87 = .ok (.iload 9, 2) := by decide +kernel
theorem dX8_ash_89 : decode cX8_ash 89 = .ok (.invokevirtual 238, 3) := by decide +kernel
theorem dX8_ash_92 : decode cX8_ash 92 = .ok (.istore 10, 2) := by decide +kernel
theorem dX8_ash_94 : decode cX8_ash 94 = .ok (.iload 7, 2) := by decide +kernel
theorem dX8_ash_96 : decode cX8_ash 96 = .ok (.iload 10, 2) := by decide +kernel
theorem dX8_ash_98 : decode cX8_ash 98 = .ok (.ifCond .eq 7, 3) := by decide +kernel
theorem dX8_ash_101 : decode cX8_ash 101 = .ok (.iconst 1, 1) := by decide +kernel
theorem dX8_ash_102 : decode cX8_ash 102 = .ok (.goto 4, 3) := by decide +kernel
theorem dX8_ash_105 : decode cX8_ash 105 = .ok (.iconst 0, 1) := by decide +kernel
theorem dX8_ash_106 : decode cX8_ash 106 = .ok (.iadd, 1) := by decide +kernel
theorem dX8_ash_107 : decode cX8_ash 107 = .ok (.istore 7, 2) := by decide +kernel
theorem dX8_ash_109 : decode cX8_ash 109 = .ok (.iload 10, 2) := by decide +kernel
theorem dX8_ash_111 : decode cX8_ash 111 = .ok (.ifCond .eq 8, 3) := by decide +kernel
theorem dX8_ash_114 : decode cX8_ash 114 = .ok (.iload 9, 2) := by decide +kernel
theorem dX8_ash_116 : decode cX8_ash 116 = .ok (.goto 5, 3) := by decide +kernel
theorem dX8_ash_119 : decode cX8_ash 119 = .ok (.iload 8, 2) := by decide +kernel
theorem dX8_ash_121 : decode cX8_ash 121 = .ok (.istore 8, 2) := by decide +kernel
theorem dX8_ash_123 : decode cX8_ash 123 = .ok (.iinc 9 (-1), 3) := by decide +kernel
theorem dX8_ash_126 : decode cX8_ash 126 = .ok (.goto (-54), 3) := by decide +kernel
theorem dX8_ash_129 : decode cX8_ash 129 = .ok (.aload_n 0, 1) := by decide +kernel
theorem dX8_ash_130 : decode cX8_ash 130 = .ok (.iload 5, 2) := by decide +kernel
theorem dX8_ash_132 : decode cX8_ash 132 = .ok (.ifCond .ge 8, 3) := by decide +kernel
theorem dX8_ash_135 : decode cX8_ash 135 = .ok (.iload 7, 2) := by decide +kernel
theorem dX8_ash_137 : decode cX8_ash 137 = .ok (.goto 34, 3) := by decide +kernel
theorem dX8_ash_140 : decode cX8_ash 140 = .ok (.iload 7, 2) := by decide +kernel
theorem dX8_ash_142 : decode cX8_ash 142 = .ok (.ifCond .eq 10, 3) := by decide +kernel
theorem dX8_ash_145 : decode cX8_ash 145 = .ok (.iload 5, 2) := by decide +kernel
theorem dX8_ash_147 : decode cX8_ash 147 = .ok (.iload 4, 2) := by decide +kernel
theorem dX8_ash_149 : decode cX8_ash 149 = .ok (.if_icmp .lt 8, 3) := by decide +kernel
theorem dX8_ash_152 : decode cX8_ash 152 = .ok (.ldc 216, 2) := by decide +kernel
theorem dX8_ash_154 : decode cX8_ash 154 = .ok (.goto 17, 3) := by decide +kernel
theorem dX8_ash_157 : decode cX8_ash 157 = .ok (.iload 8, 2) := by decide +kernel
theorem dX8_ash_159 : decode cX8_ash 159 = .ok (.iconst 2, 1) := by decide +kernel
theorem dX8_ash_160 : decode cX8_ash 160 = .ok (.iload 4, 2) := by decide +kernel
theorem dX8_ash_162 : decode cX8_ash 162 = .ok (.iconst 1, 1) := by decide +kernel
theorem dX8_ash_163 : decode cX8_ash 163 = .ok (.isub, 1) := by decide +kernel
theorem dX8_ash_164 : decode cX8_ash 164 = .ok (.iload 5, 2) := by decide +kernel
theorem dX8_ash_166 : decode cX8_ash 166 = .ok (.isub, 1) := by decide +kernel
theorem dX8_ash_167 : decode cX8_ash 167 = .ok (.imul, 1) := by decide +kernel
theorem dX8_ash_168 : decode cX8_ash 168 = .ok (.ishr, 1) := by decide +kernel
theorem dX8_ash_169 : decode cX8_ash 169 = .ok (.iconst 3, 1) := by decide +kernel
theorem dX8_ash_170 : decode cX8_ash 170 = .ok (.iand, 1) := by decide +kernel
theorem dX8_ash_171 : decode cX8_ash 171 = .ok (.invokevirtual 72, 3) := by decide +kernel
theorem dX8_ash_174 : decode cX8_ash 174 = .ok (.ireturn, 1) := by decide +kernel
theorem dX8_who_0 : decode cX8_who 0 = .ok (.aload_n 0, 1) := by decide +kernel
theorem dX8_who_1 : decode cX8_who 1 = .ok (.iload_n 1, 1) := by decide +kernel
theorem dX8_who_2 : decode cX8_who 2 = .ok (.invokevirtual 186, 3) := by decide +kernel
theorem dX8_who_5 : decode cX8_who 5 = .ok (.ifCond .eq 36, 3) := by decide +kernel
theorem dX8_who_8 : decode cX8_who 8 = .ok (.iload_n 2, 1) := by decide +kernel
theorem dX8_who_9 : decode cX8_who 9 = .ok (.invokestatic 61, 3) := by decide +kernel
theorem dX8_who_12 : decode cX8_who 12 = .ok (.ifCond .eq 29, 3) := by decide +kernel
theorem dX8_who_15 : decode cX8_who 15 = .ok (.iload 4, 2) := by decide +kernel
theorem dX8_who_17 : decode cX8_who 17 = .ok (.i2l, 1) := by decide +kernel
theorem dX8_who_18 : decode cX8_who 18 = .ok (.lconst 1, 1) := by decide +kernel
theorem dX8_who_19 : decode cX8_who 19 = .ok (.ldc2_w 225, 3) := by decide +kernel
theorem dX8_who_22 : decode cX8_who 22 = .ok (.invokestatic 57, 3) := by decide +kernel
theorem dX8_who_25 : decode cX8_who 25 = .ok (.ifCond .eq 16, 3) := by decide +kernel
theorem dX8_who_28 : decode cX8_who 28 = .ok (.iload 5, 2) := by decide +kernel
theorem dX8_who_30 : decode cX8_who 30 = .ok (.i2l, 1) := by decide +kernel
theorem dX8_who_31 : decode cX8_who 31 = .ok (.lconst 0, 1) := by decide +kernel
theorem dX8_who_32 : decode cX8_who 32 = .ok (.ldc2_w 189, 3) := by decide +kernel
theorem dX8_who_35 : decode cX8_who 35 = .ok (.invokestatic 57, 3) := by decide +kernel
theorem dX8_who_38 : decode cX8_who 38 = .ok (.ifCond .ne 6, 3) := by decide +kernel
theorem dX8_who_41 : decode cX8_who 41 = .ok (.ldc 67, 2) := by decide +kernel
theorem dX8_who_43 : decode cX8_who 43 = .ok (.ireturn, 1) := by decide +kernel
theorem dX8_who_44 : decode cX8_who 44 = .ok (.aload_n 0, 1) := by decide +kernel
theorem dX8_who_45 : decode cX8_who 45 = .ok (.iload_n 2, 1) := by decide +kernel
theorem dX8_who_46 : decode cX8_who 46 = .ok (.iload_n 3, 1) := by decide +kernel
theorem dX8_who_47 : decode cX8_who 47 = .ok (.iload 4, 2) := by decide +kernel
theorem dX8_who_49 : decode cX8_who 49 = .ok (.invokevirtual 233, 3) := by decide +kernel
theorem dX8_who_52 : decode cX8_who 52 = .ok (.istore 6, 2) := by decide +kernel
theorem dX8_who_54 : decode cX8_who 54 = .ok (.iload 6, 2) := by decide +kernel
theorem dX8_who_56 : decode cX8_who 56 = .ok (.ifCond .ge 6, 3) := by decide +kernel
theorem dX8_who_59 : decode cX8_who 59 = .ok (.iload 6, 2) := by decide +kernel
theorem dX8_who_61 : decode cX8_who 61 = .ok (.ireturn, 1) := by decide +kernel
theorem dX8_who_62 : decode cX8_who 62 = .ok (.iconst 0, 1) := by decide +kernel
theorem dX8_who_63 : decode cX8_who 63 = .ok (.istore 7, 2) := by decide +kernel
theorem dX8_who_65 : decode cX8_who 65 = .ok (.iconst 1, 1) := by decide +kernel
theorem dX8_who_66 : decode cX8_who 66 = .ok (.istore 8, 2) := by decide +kernel
theorem dX8_who_68 : decode cX8_who 68 = .ok (.iload 8, 2) := by decide +kernel
theorem dX8_who_70 : decode cX8_who 70 = .ok (.iconst 5, 1) := by decide +kernel
theorem dX8_who_71 : decode cX8_who 71 = .ok (.if_icmp .gt 106, 3) := by decide +kernel
theorem dX8_who_74 : decode cX8_who 74 = .ok (.iload 8, 2) := by decide +kernel
theorem dX8_who_76 : decode cX8_who 76 = .ok (.aload_n 0, 1) := by decide +kernel
theorem dX8_who_77 : decode cX8_who 77 = .ok (.getfield 22, 3) := by decide +kernel
theorem dX8_who_80 : decode cX8_who 80 = .ok (.bipush 17, 2) := by decide +kernel
theorem dX8_who_82 : decode cX8_who 82 = .ok (.iload_n 1, 1) := by decide +kernel
theorem dX8_who_83 : decode cX8_who 83 = .ok (.iadd, 1) := by decide +kernel
theorem dX8_who_84 : decode cX8_who 84 = .ok (.iaload, 1) := by decide +kernel
theorem dX8_who_85 : decode cX8_who 85 = .ok (.iload 5, 2) := by decide +kernel
theorem dX8_who_87 : decode cX8_who 87 = .ok (.invokestatic 165, 3) := by decide +kernel
theorem dX8_who_90 : decode cX8_who 90 = .ok (.istore 9, 2) := by decide +kernel
theorem dX8_who_92 : decode cX8_who 92 = .ok (.iconst 1, 1) := by decide +kernel
theorem dX8_who_93 : decode cX8_who 93 = .ok (.istore 10, 2) := by decide +kernel
theorem dX8_who_95 : decode cX8_who 95 = .ok (.iconst 0, 1) := by decide +kernel
theorem dX8_who_96 : decode cX8_who 96 = .ok (.istore 11, 2) := by decide +kernel
theorem dX8_who_98 : decode cX8_who 98 = .ok (.iload 11, 2) := by decide +kernel
theorem dX8_who_100 : decode cX8_who 100 = .ok (.iload 4, 2) := by decide +kernel
theorem dX8_who_102 : decode cX8_who 102 = .ok (.if_icmp .ge 51, 3) := by decide +kernel
theorem dX8_who_105 : decode cX8_who 105 = .ok (.aload_n 0, 1) := by decide +kernel
theorem dX8_who_106 : decode cX8_who 106 = .ok (.getfield 22, 3) := by decide +kernel
theorem dX8_who_109 : decode cX8_who 109 = .ok (.iload 9, 2) := by decide +kernel
theorem dX8_who_111 : decode cX8_who 111 = .ok (.invokestatic 157, 3) := by decide +kernel
theorem dX8_who_114 : decode cX8_who 114 = .ok (.istore 9, 2) := by decide +kernel
theorem dX8_who_116 : decode cX8_who 116 = .ok (.iload 10, 2) := by decide +kernel
theorem dX8_who_118 : decode cX8_who 118 = .ok (.ifCond .eq 26, 3) := by decide +kernel
theorem dX8_who_121 : decode cX8_who 121 = .ok (.iload 9, 2) := by decide +kernel
theorem dX8_who_123 : decode cX8_who 123 = .ok (.aload_n 0, 1) := by decide +kernel
theorem dX8_who_124 : decode cX8_who 124 = .ok (.getfield 16, 3) := by decide +kernel
theorem dX8_who_127 : decode cX8_who 127 = .ok (.bipush 40, 2) := by decide +kernel
theorem dX8_who_129 : decode cX8_who 129 = .ok (.iload_n 2, 1) := by decide +kernel
theorem dX8_who_130 : decode cX8_who 130 = .ok (.imul, 1) := by decide +kernel
theorem dX8_who_131 : decode cX8_who 131 = .ok (.iload_n 3, 1) := by decide +kernel
theorem dX8_who_132 : decode cX8_who 132 = .ok (.iadd, 1) := by decide +kernel
theorem dX8_who_133 : decode cX8_who 133 = .ok (.iload 11, 2) := by decide +kernel
theorem dX8_who_135 : decode cX8_who 135 = .ok (.iadd, 1) := by decide +kernel
theorem dX8_who_136 : decode cX8_who 136 = .ok (.iaload, 1) := by decide +kernel
theorem dX8_who_137 : decode cX8_who 137 = .ok (.if_icmp .ne 7, 3) := by decide +kernel
theorem dX8_who_140 : decode cX8_who 140 = .ok (.iconst 1, 1) := by decide +kernel
theorem dX8_who_141 : decode cX8_who 141 = .ok (.goto 4, 3) := by decide +kernel
theorem dX8_who_144 : decode cX8_who 144 = .ok (.iconst 0, 1) := by decide +kernel
theorem dX8_who_145 : decode cX8_who 145 = .ok (.istore 10, 2) := by decide +kernel
theorem dX8_who_147 : decode cX8_who 147 = .ok (.iinc 11 1, 3) := by decide +kernel
theorem dX8_who_150 : decode cX8_who 150 = .ok (.goto (-52), 3) := by decide +kernel
theorem dX8_who_153 : decode cX8_who 153 = .ok (.iload 7, 2) := by decide +kernel
theorem dX8_who_155 : decode cX8_who 155 = .ok (.iload 10, 2) := by decide +kernel
theorem dX8_who_157 : decode cX8_who 157 = .ok (.ifCond .eq 10, 3) := by decide +kernel
theorem dX8_who_160 : decode cX8_who 160 = .ok (.iconst 1, 1) := by decide +kernel
theorem dX8_who_161 : decode cX8_who 161 = .ok (.iload 8, 2) := by decide +kernel
theorem dX8_who_163 : decode cX8_who 163 = .ok (.ishl, 1) := by decide +kernel
theorem dX8_who_164 : decode cX8_who 164 = .ok (.goto 4, 3) := by decide +kernel
theorem dX8_who_167 : decode cX8_who 167 = .ok (.iconst 0, 1) := by decide +kernel
theorem dX8_who_168 : decode cX8_who 168 = .ok (.ior, 1) := by decide +kernel
theorem dX8_who_169 : decode cX8_who 169 = .ok (.istore 7, 2) := by decide +kernel
theorem dX8_who_171 : decode cX8_who 171 = .ok (.iinc 8 1, 3) := by decide +kernel
theorem dX8_who_174 : decode cX8_who 174 = .ok (.goto (-106), 3) := by decide +kernel
theorem dX8_who_177 : decode cX8_who 177 = .ok (.aload_n 0, 1) := by decide +kernel
theorem dX8_who_178 : decode cX8_who 178 = .ok (.iload 7, 2) := by decide +kernel
theorem dX8_who_180 : decode cX8_who 180 = .ok (.invokevirtual 72, 3) := by decide +kernel
theorem dX8_who_183 : decode cX8_who 183 = .ok (.ireturn, 1) := by decide +kernel
theorem dX8_rule_0 : decode cX8_rule 0 = .ok (.aload_n 0, 1) := by decide +kernel
theorem dX8_rule_1 : decode cX8_rule 1 = .ok (.getfield 137, 3) := by decide +kernel
theorem dX8_rule_4 : decode cX8_rule 4 = .ok (.ifCond .ne 6, 3) := by decide +kernel
theorem dX8_rule_7 : decode cX8_rule 7 = .ok (.ldc 169, 2) := by decide +kernel
theorem dX8_rule_9 : decode cX8_rule 9 = .ok (.ireturn, 1) := by decide +kernel
theorem dX8_rule_10 : decode cX8_rule 10 = .ok (.iload_n 1, 1) := by decide +kernel
theorem dX8_rule_11 : decode cX8_rule 11 = .ok (.i2l, 1) := by decide +kernel
theorem dX8_rule_12 : decode cX8_rule 12 = .ok (.lconst 1, 1) := by decide +kernel
theorem dX8_rule_13 : decode cX8_rule 13 = .ok (.ldc2_w 195, 3) := by decide +kernel
theorem dX8_rule_16 : decode cX8_rule 16 = .ok (.invokestatic 57, 3) := by decide +kernel
theorem dX8_rule_19 : decode cX8_rule 19 = .ok (.ifCond .eq 10, 3) := by decide +kernel
theorem dX8_rule_22 : decode cX8_rule 22 = .ok (.iload_n 2, 1) := by decide +kernel
theorem dX8_rule_23 : decode cX8_rule 23 = .ok (.invokestatic 209, 3) := by decide +kernel
theorem dX8_rule_26 : decode cX8_rule 26 = .ok (.ifCond .ne 6, 3) := by decide +kernel
theorem dX8_rule_29 : decode cX8_rule 29 = .ok (.ldc 67, 2) := by decide +kernel
theorem dX8_rule_31 : decode cX8_rule 31 = .ok (.ireturn, 1) := by decide +kernel
theorem dX8_rule_32 : decode cX8_rule 32 = .ok (.iconst 0, 1) := by decide +kernel
theorem dX8_rule_33 : decode cX8_rule 33 = .ok (.istore_n 3, 1) := by decide +kernel
theorem dX8_rule_34 : decode cX8_rule 34 = .ok (.iload_n 3, 1) := by decide +kernel
theorem dX8_rule_35 : decode cX8_rule 35 = .ok (.bipush 10, 2) := by decide +kernel
theorem dX8_rule_37 : decode cX8_rule 37 = .ok (.if_icmp .ge 16, 3) := by decide +kernel
theorem dX8_rule_40 : decode cX8_rule 40 = .ok (.aload_n 0, 1) := by decide +kernel
theorem dX8_rule_41 : decode cX8_rule 41 = .ok (.getfield 47, 3) := by decide +kernel
theorem dX8_rule_44 : decode cX8_rule 44 = .ok (.iload_n 3, 1) := by decide +kernel
theorem dX8_rule_45 : decode cX8_rule 45 = .ok (.iconst 0, 1) := by decide +kernel
theorem dX8_rule_46 : decode cX8_rule 46 = .ok (.iastore, 1) := by decide +kernel
theorem dX8_rule_47 : decode cX8_rule 47 = .ok (.iinc 3 1, 3) := by decide +kernel
theorem dX8_rule_50 : decode cX8_rule 50 = .ok (.goto (-16), 3) := by decide +kernel
theorem dX8_rule_53 : decode cX8_rule 53 = .ok (.aload_n 0, 1) := by decide +kernel
theorem dX8_rule_54 : decode cX8_rule 54 = .ok (.iconst 0, 1) := by decide +kernel
theorem dX8_rule_55 : decode cX8_rule 55 = .ok (.invokevirtual 212, 3) := by decide +kernel
theorem dX8_rule_58 : decode cX8_rule 58 = .ok (.iconst 0, 1) := by decide +kernel
theorem dX8_rule_59 : decode cX8_rule 59 = .ok (.istore_n 3, 1) := by decide +kernel
theorem dX8_rule_60 : decode cX8_rule 60 = .ok (.iload_n 3, 1) := by decide +kernel
theorem dX8_rule_61 : decode cX8_rule 61 = .ok (.iload_n 1, 1) := by decide +kernel
theorem dX8_rule_62 : decode cX8_rule 62 = .ok (.if_icmp .ge 55, 3) := by decide +kernel
theorem dX8_rule_65 : decode cX8_rule 65 = .ok (.aload_n 0, 1) := by decide +kernel
theorem dX8_rule_66 : decode cX8_rule 66 = .ok (.getfield 41, 3) := by decide +kernel
theorem dX8_rule_69 : decode cX8_rule 69 = .ok (.invokestatic 175, 3) := by decide +kernel
theorem dX8_rule_72 : decode cX8_rule 72 = .ok (.iconst 0, 1) := by decide +kernel
theorem dX8_rule_73 : decode cX8_rule 73 = .ok (.istore 4, 2) := by decide +kernel
theorem dX8_rule_75 : decode cX8_rule 75 = .ok (.iload 4, 2) := by decide +kernel
theorem dX8_rule_77 : decode cX8_rule 77 = .ok (.aload_n 0, 1) := by decide +kernel
theorem dX8_rule_78 : decode cX8_rule 78 = .ok (.getfield 41, 3) := by decide +kernel
theorem dX8_rule_81 : decode cX8_rule 81 = .ok (.iconst 5, 1) := by decide +kernel
theorem dX8_rule_82 : decode cX8_rule 82 = .ok (.iaload, 1) := by decide +kernel
theorem dX8_rule_83 : decode cX8_rule 83 = .ok (.if_icmp .ge 28, 3) := by decide +kernel
theorem dX8_rule_86 : decode cX8_rule 86 = .ok (.aload_n 0, 1) := by decide +kernel
theorem dX8_rule_87 : decode cX8_rule 87 = .ok (.getfield 47, 3) := by decide +kernel
theorem dX8_rule_90 : decode cX8_rule 90 = .ok (.aload_n 0, 1) := by decide +kernel
theorem dX8_rule_91 : decode cX8_rule 91 = .ok (.getfield 41, 3) := by decide +kernel
theorem dX8_rule_94 : decode cX8_rule 94 = .ok (.bipush 12, 2) := by decide +kernel
theorem dX8_rule_96 : decode cX8_rule 96 = .ok (.iload 4, 2) := by decide +kernel
theorem dX8_rule_98 : decode cX8_rule 98 = .ok (.iadd, 1) := by decide +kernel
theorem dX8_rule_99 : decode cX8_rule 99 = .ok (.iaload, 1) := by decide +kernel
theorem dX8_rule_100 : decode cX8_rule 100 = .ok (.dup2, 1) := by decide +kernel
theorem dX8_rule_101 : decode cX8_rule 101 = .ok (.iaload, 1) := by decide +kernel
theorem dX8_rule_102 : decode cX8_rule 102 = .ok (.iconst 1, 1) := by decide +kernel
theorem dX8_rule_103 : decode cX8_rule 103 = .ok (.iadd, 1) := by decide +kernel
theorem dX8_rule_104 : decode cX8_rule 104 = .ok (.iastore, 1) := by decide +kernel
theorem dX8_rule_105 : decode cX8_rule 105 = .ok (.iinc 4 1, 3) := by decide +kernel
theorem dX8_rule_108 : decode cX8_rule 108 = .ok (.goto (-33), 3) := by decide +kernel
theorem dX8_rule_111 : decode cX8_rule 111 = .ok (.iinc 3 1, 3) := by decide +kernel
theorem dX8_rule_114 : decode cX8_rule 114 = .ok (.goto (-54), 3) := by decide +kernel
theorem dX8_rule_117 : decode cX8_rule 117 = .ok (.iconst 0, 1) := by decide +kernel
theorem dX8_rule_118 : decode cX8_rule 118 = .ok (.istore_n 3, 1) := by decide +kernel
theorem dX8_rule_119 : decode cX8_rule 119 = .ok (.iconst 1, 1) := by decide +kernel
theorem dX8_rule_120 : decode cX8_rule 120 = .ok (.istore 4, 2) := by decide +kernel
theorem dX8_rule_122 : decode cX8_rule 122 = .ok (.iload 4, 2) := by decide +kernel
theorem dX8_rule_124 : decode cX8_rule 124 = .ok (.bipush 10, 2) := by decide +kernel
theorem dX8_rule_126 : decode cX8_rule 126 = .ok (.if_icmp .ge 32, 3) := by decide +kernel
theorem dX8_rule_129 : decode cX8_rule 129 = .ok (.aload_n 0, 1) := by decide +kernel
theorem dX8_rule_130 : decode cX8_rule 130 = .ok (.getfield 47, 3) := by decide +kernel
theorem dX8_rule_133 : decode cX8_rule 133 = .ok (.iload 4, 2) := by decide +kernel
theorem dX8_rule_135 : decode cX8_rule 135 = .ok (.iaload, 1) := by decide +kernel
theorem dX8_rule_136 : decode cX8_rule 136 = .ok (.aload_n 0, 1) := by decide +kernel
theorem dX8_rule_137 : decode cX8_rule 137 = .ok (.getfield 47, 3) := by decide +kernel
theorem dX8_rule_140 : decode cX8_rule 140 = .ok (.iload_n 3, 1) := by decide +kernel
theorem dX8_rule_141 : decode cX8_rule 141 = .ok (.iaload, 1) := by decide +kernel
theorem dX8_rule_142 : decode cX8_rule 142 = .ok (.if_icmp .le 8, 3) := by decide +kernel
theorem dX8_rule_145 : decode cX8_rule 145 = .ok (.iload 4, 2) := by decide +kernel
theorem dX8_rule_147 : decode cX8_rule 147 = .ok (.goto 4, 3) := by decide +kernel
theorem dX8_rule_150 : decode cX8_rule 150 = .ok (.iload_n 3, 1) := by decide +kernel
theorem dX8_rule_151 : decode cX8_rule 151 = .ok (.istore_n 3, 1) := by decide +kernel
theorem dX8_rule_152 : decode cX8_rule 152 = .ok (.iinc 4 1, 3) := by decide +kernel
theorem dX8_rule_155 : decode cX8_rule 155 = .ok (.goto (-33), 3) := by decide +kernel
theorem dX8_rule_158 : decode cX8_rule 158 = .ok (.iload_n 2, 1) := by decide +kernel
theorem dX8_rule_159 : decode cX8_rule 159 = .ok (.ifCond .ne 7, 3) := by decide +kernel
theorem dX8_rule_162 : decode cX8_rule 162 = .ok (.iload_n 3, 1) := by decide +kernel
theorem dX8_rule_163 : decode cX8_rule 163 = .ok (.goto 9, 3) := by decide +kernel
theorem dX8_rule_166 : decode cX8_rule 166 = .ok (.aload_n 0, 1) := by decide +kernel
theorem dX8_rule_167 : decode cX8_rule 167 = .ok (.getfield 47, 3) := by decide +kernel
theorem dX8_rule_170 : decode cX8_rule 170 = .ok (.iload_n 3, 1) := by decide +kernel
theorem dX8_rule_171 : decode cX8_rule 171 = .ok (.iaload, 1) := by decide +kernel
theorem dX8_rule_172 : decode cX8_rule 172 = .ok (.ireturn, 1) := by decide +kernel
theorem dX8_lastsWith_0 : decode cX8_lastsWith 0 = .ok (.aload_n 0, 1) := by decide +kernel
theorem dX8_lastsWith_1 : decode cX8_lastsWith 1 = .ok (.getfield 22, 3) := by decide +kernel
theorem dX8_lastsWith_4 : decode cX8_lastsWith 4 = .ok (.bipush 17, 2) := by decide +kernel
theorem dX8_lastsWith_6 : decode cX8_lastsWith 6 = .ok (.iload_n 1, 1) := by decide +kernel
theorem dX8_lastsWith_7 : decode cX8_lastsWith 7 = .ok (.iadd, 1) := by decide +kernel
theorem dX8_lastsWith_8 : decode cX8_lastsWith 8 = .ok (.iaload, 1) := by decide +kernel
theorem dX8_lastsWith_9 : decode cX8_lastsWith 9 = .ok (.istore_n 3, 1) := by decide +kernel
theorem dX8_lastsWith_10 : decode cX8_lastsWith 10 = .ok (.iload_n 2, 1) := by decide +kernel
theorem dX8_lastsWith_11 : decode cX8_lastsWith 11 = .ok (.istore 4, 2) := by decide +kernel
theorem dX8_lastsWith_13 : decode cX8_lastsWith 13 = .ok (.iconst 0, 1) := by decide +kernel
theorem dX8_lastsWith_14 : decode cX8_lastsWith 14 = .ok (.istore 5, 2) := by decide +kernel
theorem dX8_lastsWith_16 : decode cX8_lastsWith 16 = .ok (.iload_n 3, 1) := by decide +kernel
theorem dX8_lastsWith_17 : decode cX8_lastsWith 17 = .ok (.ifCond .le 96, 3) := by decide +kernel
theorem dX8_lastsWith_20 : decode cX8_lastsWith 20 = .ok (.iload 5, 2) := by decide +kernel
theorem dX8_lastsWith_22 : decode cX8_lastsWith 22 = .ok (.bipush 99, 2) := by decide +kernel
theorem dX8_lastsWith_24 : decode cX8_lastsWith 24 = .ok (.if_icmp .ge 89, 3) := by decide +kernel
theorem dX8_lastsWith_27 : decode cX8_lastsWith 27 = .ok (.aload_n 0, 1) := by decide +kernel
theorem dX8_lastsWith_28 : decode cX8_lastsWith 28 = .ok (.getfield 22, 3) := by decide +kernel
theorem dX8_lastsWith_31 : decode cX8_lastsWith 31 = .ok (.iload_n 3, 1) := by decide +kernel
theorem dX8_lastsWith_32 : decode cX8_lastsWith 32 = .ok (.invokestatic 157, 3) := by decide +kernel
theorem dX8_lastsWith_35 : decode cX8_lastsWith 35 = .ok (.ifCond .ne 12, 3) := by decide +kernel
theorem dX8_lastsWith_38 : decode cX8_lastsWith 38 = .ok (.iload 4, 2) := by decide +kernel
theorem dX8_lastsWith_40 : decode cX8_lastsWith 40 = .ok (.ifCond .le 7, 3) := by decide +kernel
theorem dX8_lastsWith_43 : decode cX8_lastsWith 43 = .ok (.iconst 1, 1) := by decide +kernel
theorem dX8_lastsWith_44 : decode cX8_lastsWith 44 = .ok (.goto 4, 3) := by decide +kernel
theorem dX8_lastsWith_47 : decode cX8_lastsWith 47 = .ok (.iconst 0, 1) := by decide +kernel
theorem dX8_lastsWith_48 : decode cX8_lastsWith 48 = .ok (.istore 6, 2) := by decide +kernel
theorem dX8_lastsWith_50 : decode cX8_lastsWith 50 = .ok (.iload 4, 2) := by decide +kernel
theorem dX8_lastsWith_52 : decode cX8_lastsWith 52 = .ok (.iload 6, 2) := by decide +kernel
theorem dX8_lastsWith_54 : decode cX8_lastsWith 54 = .ok (.ifCond .eq 7, 3) := by decide +kernel
theorem dX8_lastsWith_57 : decode cX8_lastsWith 57 = .ok (.iconst 1, 1) := by decide +kernel
theorem dX8_lastsWith_58 : decode cX8_lastsWith 58 = .ok (.goto 4, 3) := by decide +kernel
theorem dX8_lastsWith_61 : decode cX8_lastsWith 61 = .ok (.iconst 0, 1) := by decide +kernel
theorem dX8_lastsWith_62 : decode cX8_lastsWith 62 = .ok (.isub, 1) := by decide +kernel
theorem dX8_lastsWith_63 : decode cX8_lastsWith 63 = .ok (.istore 4, 2) := by decide +kernel
theorem dX8_lastsWith_65 : decode cX8_lastsWith 65 = .ok (.aload_n 0, 1) := by decide +kernel
theorem dX8_lastsWith_66 : decode cX8_lastsWith 66 = .ok (.getfield 22, 3) := by decide +kernel
theorem dX8_lastsWith_69 : decode cX8_lastsWith 69 = .ok (.aload_n 0, 1) := by decide +kernel
theorem dX8_lastsWith_70 : decode cX8_lastsWith 70 = .ok (.getfield 22, 3) := by decide +kernel
theorem dX8_lastsWith_73 : decode cX8_lastsWith 73 = .ok (.bipush 7, 2) := by decide +kernel
theorem dX8_lastsWith_75 : decode cX8_lastsWith 75 = .ok (.iload_n 1, 1) := by decide +kernel
theorem dX8_lastsWith_76 : decode cX8_lastsWith 76 = .ok (.iadd, 1) := by decide +kernel
theorem dX8_lastsWith_77 : decode cX8_lastsWith 77 = .ok (.iaload, 1) := by decide +kernel
theorem dX8_lastsWith_78 : decode cX8_lastsWith 78 = .ok (.iload_n 3, 1) := by decide +kernel
theorem dX8_lastsWith_79 : decode cX8_lastsWith 79 = .ok (.iload 6, 2) := by decide +kernel
theorem dX8_lastsWith_81 : decode cX8_lastsWith 81 = .ok (.ifCond .eq 7, 3) := by decide +kernel
theorem dX8_lastsWith_84 : decode cX8_lastsWith 84 = .ok (.iconst 1, 1) := by decide +kernel
theorem dX8_lastsWith_85 : decode cX8_lastsWith 85 = .ok (.goto 4, 3) := by decide +kernel
theorem dX8_lastsWith_88 : decode cX8_lastsWith 88 = .ok (.iconst 0, 1) := by decide +kernel
theorem dX8_lastsWith_89 : decode cX8_lastsWith 89 = .ok (.invokestatic 165, 3) := by decide +kernel
theorem dX8_lastsWith_92 : decode cX8_lastsWith 92 = .ok (.invokestatic 157, 3) := by decide +kernel
theorem dX8_lastsWith_95 : decode cX8_lastsWith 95 = .ok (.istore_n 3, 1) := by decide +kernel
theorem dX8_lastsWith_96 : decode cX8_lastsWith 96 = .ok (.iload 5, 2) := by decide +kernel
theorem dX8_lastsWith_98 : decode cX8_lastsWith 98 = .ok (.iload_n 3, 1) := by decide +kernel
theorem dX8_lastsWith_99 : decode cX8_lastsWith 99 = .ok (.ifCond .le 7, 3) := by decide +kernel
theorem dX8_lastsWith_102 : decode cX8_lastsWith 102 = .ok (.iconst 1, 1) := by decide +kernel
theorem dX8_lastsWith_103 : decode cX8_lastsWith 103 = .ok (.goto 4, 3) := by decide +kernel
theorem dX8_lastsWith_106 : decode cX8_lastsWith 106 = .ok (.iconst 0, 1) := by decide +kernel
theorem dX8_lastsWith_107 : decode cX8_lastsWith 107 = .ok (.iadd, 1) := by decide +kernel
theorem dX8_lastsWith_108 : decode cX8_lastsWith 108 = .ok (.istore 5, 2) := by decide +kernel
theorem dX8_lastsWith_110 : decode cX8_lastsWith 110 = .ok (.goto (-94), 3) := by decide +kernel
theorem dX8_lastsWith_113 : decode cX8_lastsWith 113 = .ok (.iload 5, 2) := by decide +kernel
theorem dX8_lastsWith_115 : decode cX8_lastsWith 115 = .ok (.ireturn, 1) := by decide +kernel
theorem dX8_lasts_0 : decode cX8_lasts 0 = .ok (.aload_n 0, 1) := by decide +kernel
theorem dX8_lasts_1 : decode cX8_lasts 1 = .ok (.iload_n 1, 1) := by decide +kernel
theorem dX8_lasts_2 : decode cX8_lasts 2 = .ok (.invokevirtual 186, 3) := by decide +kernel
theorem dX8_lasts_5 : decode cX8_lasts 5 = .ok (.ifCond .eq 20, 3) := by decide +kernel
theorem dX8_lasts_8 : decode cX8_lasts 8 = .ok (.aload_n 0, 1) := by decide +kernel
theorem dX8_lasts_9 : decode cX8_lasts 9 = .ok (.iload_n 1, 1) := by decide +kernel
theorem dX8_lasts_10 : decode cX8_lasts 10 = .ok (.aload_n 0, 1) := by decide +kernel
theorem dX8_lasts_11 : decode cX8_lasts 11 = .ok (.getfield 22, 3) := by decide +kernel
theorem dX8_lasts_14 : decode cX8_lasts 14 = .ok (.bipush 22, 2) := by decide +kernel
theorem dX8_lasts_16 : decode cX8_lasts 16 = .ok (.iload_n 1, 1) := by decide +kernel
theorem dX8_lasts_17 : decode cX8_lasts 17 = .ok (.iadd, 1) := by decide +kernel
theorem dX8_lasts_18 : decode cX8_lasts 18 = .ok (.iaload, 1) := by decide +kernel
theorem dX8_lasts_19 : decode cX8_lasts 19 = .ok (.invokevirtual 242, 3) := by decide +kernel
theorem dX8_lasts_22 : decode cX8_lasts 22 = .ok (.goto 5, 3) := by decide +kernel
theorem dX8_lasts_25 : decode cX8_lasts 25 = .ok (.ldc 67, 2) := by decide +kernel
theorem dX8_lasts_27 : decode cX8_lasts 27 = .ok (.ireturn, 1) := by decide +kernel
theorem dX8_kept_0 : decode cX8_kept 0 = .ok (.aload_n 0, 1) := by decide +kernel
theorem dX8_kept_1 : decode cX8_kept 1 = .ok (.iload_n 1, 1) := by decide +kernel
theorem dX8_kept_2 : decode cX8_kept 2 = .ok (.invokevirtual 186, 3) := by decide +kernel
theorem dX8_kept_5 : decode cX8_kept 5 = .ok (.ifCond .eq 15, 3) := by decide +kernel
theorem dX8_kept_8 : decode cX8_kept 8 = .ok (.iload_n 2, 1) := by decide +kernel
theorem dX8_kept_9 : decode cX8_kept 9 = .ok (.i2l, 1) := by decide +kernel
theorem dX8_kept_10 : decode cX8_kept 10 = .ok (.lconst 1, 1) := by decide +kernel
theorem dX8_kept_11 : decode cX8_kept 11 = .ok (.ldc2_w 170, 3) := by decide +kernel
theorem dX8_kept_14 : decode cX8_kept 14 = .ok (.invokestatic 57, 3) := by decide +kernel
theorem dX8_kept_17 : decode cX8_kept 17 = .ok (.ifCond .ne 6, 3) := by decide +kernel
theorem dX8_kept_20 : decode cX8_kept 20 = .ok (.ldc 67, 2) := by decide +kernel
theorem dX8_kept_22 : decode cX8_kept 22 = .ok (.ireturn, 1) := by decide +kernel
theorem dX8_kept_23 : decode cX8_kept 23 = .ok (.iconst 0, 1) := by decide +kernel
theorem dX8_kept_24 : decode cX8_kept 24 = .ok (.istore_n 3, 1) := by decide +kernel
theorem dX8_kept_25 : decode cX8_kept 25 = .ok (.iload_n 3, 1) := by decide +kernel
theorem dX8_kept_26 : decode cX8_kept 26 = .ok (.bipush 60, 2) := by decide +kernel
theorem dX8_kept_28 : decode cX8_kept 28 = .ok (.if_icmp .gt 21, 3) := by decide +kernel
theorem dX8_kept_31 : decode cX8_kept 31 = .ok (.aload_n 0, 1) := by decide +kernel
theorem dX8_kept_32 : decode cX8_kept 32 = .ok (.iload_n 1, 1) := by decide +kernel
theorem dX8_kept_33 : decode cX8_kept 33 = .ok (.iload_n 3, 1) := by decide +kernel
theorem dX8_kept_34 : decode cX8_kept 34 = .ok (.invokevirtual 242, 3) := by decide +kernel
theorem dX8_kept_37 : decode cX8_kept 37 = .ok (.iload_n 2, 1) := by decide +kernel
theorem dX8_kept_38 : decode cX8_kept 38 = .ok (.if_icmp .lt 5, 3) := by decide +kernel
theorem dX8_kept_41 : decode cX8_kept 41 = .ok (.iload_n 3, 1) := by decide +kernel
theorem dX8_kept_42 : decode cX8_kept 42 = .ok (.ireturn, 1) := by decide +kernel
theorem dX8_kept_43 : decode cX8_kept 43 = .ok (.iinc 3 1, 3) := by decide +kernel
theorem dX8_kept_46 : decode cX8_kept 46 = .ok (.goto (-21), 3) := by decide +kernel
theorem dX8_kept_49 : decode cX8_kept 49 = .ok (.ldc 216, 2) := by decide +kernel
theorem dX8_kept_51 : decode cX8_kept 51 = .ok (.ireturn, 1) := by decide +kernel
theorem dX8_turned_0 : decode cX8_turned 0 = .ok (.aload_n 0, 1) := by decide +kernel
theorem dX8_turned_1 : decode cX8_turned 1 = .ok (.iload_n 1, 1) := by decide +kernel
theorem dX8_turned_2 : decode cX8_turned 2 = .ok (.invokevirtual 186, 3) := by decide +kernel
theorem dX8_turned_5 : decode cX8_turned 5 = .ok (.ifCond .eq 43, 3) := by decide +kernel
theorem dX8_turned_8 : decode cX8_turned 8 = .ok (.iload_n 2, 1) := by decide +kernel
theorem dX8_turned_9 : decode cX8_turned 9 = .ok (.invokestatic 203, 3) := by decide +kernel
theorem dX8_turned_12 : decode cX8_turned 12 = .ok (.ifCond .eq 36, 3) := by decide +kernel
theorem dX8_turned_15 : decode cX8_turned 15 = .ok (.iload_n 3, 1) := by decide +kernel
theorem dX8_turned_16 : decode cX8_turned 16 = .ok (.i2l, 1) := by decide +kernel
theorem dX8_turned_17 : decode cX8_turned 17 = .ok (.lconst 1, 1) := by decide +kernel
theorem dX8_turned_18 : decode cX8_turned 18 = .ok (.ldc2_w 225, 3) := by decide +kernel
theorem dX8_turned_21 : decode cX8_turned 21 = .ok (.invokestatic 57, 3) := by decide +kernel
theorem dX8_turned_24 : decode cX8_turned 24 = .ok (.ifCond .eq 24, 3) := by decide +kernel
theorem dX8_turned_27 : decode cX8_turned 27 = .ok (.iload 4, 2) := by decide +kernel
theorem dX8_turned_29 : decode cX8_turned 29 = .ok (.i2l, 1) := by decide +kernel
theorem dX8_turned_30 : decode cX8_turned 30 = .ok (.lconst 0, 1) := by decide +kernel
theorem dX8_turned_31 : decode cX8_turned 31 = .ok (.ldc2_w 245, 3) := by decide +kernel
theorem dX8_turned_34 : decode cX8_turned 34 = .ok (.invokestatic 57, 3) := by decide +kernel
theorem dX8_turned_37 : decode cX8_turned 37 = .ok (.ifCond .eq 11, 3) := by decide +kernel
theorem dX8_turned_40 : decode cX8_turned 40 = .ok (.iload 5, 2) := by decide +kernel
theorem dX8_turned_42 : decode cX8_turned 42 = .ok (.invokestatic 209, 3) := by decide +kernel
theorem dX8_turned_45 : decode cX8_turned 45 = .ok (.ifCond .ne 7, 3) := by decide +kernel
theorem dX8_turned_48 : decode cX8_turned 48 = .ok (.ldc2_w 247, 3) := by decide +kernel
theorem dX8_turned_51 : decode cX8_turned 51 = .ok (.lreturn, 1) := by decide +kernel
theorem dX8_turned_52 : decode cX8_turned 52 = .ok (.lconst 0, 1) := by decide +kernel
theorem dX8_turned_53 : decode cX8_turned 53 = .ok (.lstore 6, 2) := by decide +kernel
theorem dX8_turned_55 : decode cX8_turned 55 = .ok (.ldc2_w 249, 3) := by decide +kernel
theorem dX8_turned_58 : decode cX8_turned 58 = .ok (.lstore 8, 2) := by decide +kernel
theorem dX8_turned_60 : decode cX8_turned 60 = .ok (.iconst 0, 1) := by decide +kernel
theorem dX8_turned_61 : decode cX8_turned 61 = .ok (.istore 10, 2) := by decide +kernel
theorem dX8_turned_63 : decode cX8_turned 63 = .ok (.iload 10, 2) := by decide +kernel
theorem dX8_turned_65 : decode cX8_turned 65 = .ok (.bipush 16, 2) := by decide +kernel
theorem dX8_turned_67 : decode cX8_turned 67 = .ok (.if_icmp .ge 155, 3) := by decide +kernel
theorem dX8_turned_70 : decode cX8_turned 70 = .ok (.aload_n 0, 1) := by decide +kernel
theorem dX8_turned_71 : decode cX8_turned 71 = .ok (.iconst 0, 1) := by decide +kernel
theorem dX8_turned_72 : decode cX8_turned 72 = .ok (.invokevirtual 212, 3) := by decide +kernel
theorem dX8_turned_75 : decode cX8_turned 75 = .ok (.lconst 1, 1) := by decide +kernel
theorem dX8_turned_76 : decode cX8_turned 76 = .ok (.lstore 11, 2) := by decide +kernel
theorem dX8_turned_78 : decode cX8_turned 78 = .ok (.iconst 0, 1) := by decide +kernel
theorem dX8_turned_79 : decode cX8_turned 79 = .ok (.istore 13, 2) := by decide +kernel
theorem dX8_turned_81 : decode cX8_turned 81 = .ok (.iload 13, 2) := by decide +kernel
theorem dX8_turned_83 : decode cX8_turned 83 = .ok (.iconst 4, 1) := by decide +kernel
theorem dX8_turned_84 : decode cX8_turned 84 = .ok (.if_icmp .ge 86, 3) := by decide +kernel
theorem dX8_turned_87 : decode cX8_turned 87 = .ok (.iload 10, 2) := by decide +kernel
theorem dX8_turned_89 : decode cX8_turned 89 = .ok (.iload 13, 2) := by decide +kernel
theorem dX8_turned_91 : decode cX8_turned 91 = .ok (.ishr, 1) := by decide +kernel
theorem dX8_turned_92 : decode cX8_turned 92 = .ok (.iconst 1, 1) := by decide +kernel
theorem dX8_turned_93 : decode cX8_turned 93 = .ok (.iand, 1) := by decide +kernel
theorem dX8_turned_94 : decode cX8_turned 94 = .ok (.iconst 1, 1) := by decide +kernel
theorem dX8_turned_95 : decode cX8_turned 95 = .ok (.if_icmp .ne 7, 3) := by decide +kernel
theorem dX8_turned_98 : decode cX8_turned 98 = .ok (.iconst 1, 1) := by decide +kernel
theorem dX8_turned_99 : decode cX8_turned 99 = .ok (.goto 4, 3) := by decide +kernel
theorem dX8_turned_102 : decode cX8_turned 102 = .ok (.iconst 0, 1) := by decide +kernel
theorem dX8_turned_103 : decode cX8_turned 103 = .ok (.istore 14, 2) := by decide +kernel
theorem dX8_turned_105 : decode cX8_turned 105 = .ok (.aload_n 0, 1) := by decide +kernel
theorem dX8_turned_106 : decode cX8_turned 106 = .ok (.getfield 41, 3) := by decide +kernel
theorem dX8_turned_109 : decode cX8_turned 109 = .ok (.iconst 0, 1) := by decide +kernel
theorem dX8_turned_110 : decode cX8_turned 110 = .ok (.iload 13, 2) := by decide +kernel
theorem dX8_turned_112 : decode cX8_turned 112 = .ok (.iadd, 1) := by decide +kernel
theorem dX8_turned_113 : decode cX8_turned 113 = .ok (.iload 14, 2) := by decide +kernel
theorem dX8_turned_115 : decode cX8_turned 115 = .ok (.ifCond .eq 17, 3) := by decide +kernel
theorem dX8_turned_118 : decode cX8_turned 118 = .ok (.iconst 4, 1) := by decide +kernel
theorem dX8_turned_119 : decode cX8_turned 119 = .ok (.aload_n 0, 1) := by decide +kernel
theorem dX8_turned_120 : decode cX8_turned 120 = .ok (.getfield 22, 3) := by decide +kernel
theorem dX8_turned_123 : decode cX8_turned 123 = .ok (.iconst 0, 1) := by decide +kernel
theorem dX8_turned_124 : decode cX8_turned 124 = .ok (.iload 13, 2) := by decide +kernel
theorem dX8_turned_126 : decode cX8_turned 126 = .ok (.iadd, 1) := by decide +kernel
theorem dX8_turned_127 : decode cX8_turned 127 = .ok (.iaload, 1) := by decide +kernel
theorem dX8_turned_128 : decode cX8_turned 128 = .ok (.isub, 1) := by decide +kernel
theorem dX8_turned_129 : decode cX8_turned 129 = .ok (.goto 12, 3) := by decide +kernel
theorem dX8_turned_132 : decode cX8_turned 132 = .ok (.aload_n 0, 1) := by decide +kernel
theorem dX8_turned_133 : decode cX8_turned 133 = .ok (.getfield 22, 3) := by decide +kernel
theorem dX8_turned_136 : decode cX8_turned 136 = .ok (.iconst 0, 1) := by decide +kernel
theorem dX8_turned_137 : decode cX8_turned 137 = .ok (.iload 13, 2) := by decide +kernel
theorem dX8_turned_139 : decode cX8_turned 139 = .ok (.iadd, 1) := by decide +kernel
theorem dX8_turned_140 : decode cX8_turned 140 = .ok (.iaload, 1) := by decide +kernel
theorem dX8_turned_141 : decode cX8_turned 141 = .ok (.iastore, 1) := by decide +kernel
theorem dX8_turned_142 : decode cX8_turned 142 = .ok (.lload 11, 2) := by decide +kernel
theorem dX8_turned_144 : decode cX8_turned 144 = .ok (.iload 14, 2) := by decide +kernel
theorem dX8_turned_146 : decode cX8_turned 146 = .ok (.ifCond .eq 9, 3) := by decide +kernel
theorem dX8_turned_149 : decode cX8_turned 149 = .ok (.iload 4, 2) := by decide +kernel
theorem dX8_turned_151 : decode cX8_turned 151 = .ok (.i2l, 1) := by decide +kernel
theorem dX8_turned_152 : decode cX8_turned 152 = .ok (.goto 9, 3) := by decide +kernel
theorem dX8_turned_155 : decode cX8_turned 155 = .ok (.bipush 10, 2) := by decide +kernel
theorem dX8_turned_157 : decode cX8_turned 157 = .ok (.iload 4, 2) := by decide +kernel
theorem dX8_turned_159 : decode cX8_turned 159 = .ok (.isub, 1) := by decide +kernel
theorem dX8_turned_160 : decode cX8_turned 160 = .ok (.i2l, 1) := by decide +kernel
theorem dX8_turned_161 : decode cX8_turned 161 = .ok (.lmul, 1) := by decide +kernel
theorem dX8_turned_162 : decode cX8_turned 162 = .ok (.lstore 11, 2) := by decide +kernel
theorem dX8_turned_164 : decode cX8_turned 164 = .ok (.iinc 13 1, 3) := by decide +kernel
theorem dX8_turned_167 : decode cX8_turned 167 = .ok (.goto (-86), 3) := by decide +kernel
theorem dX8_turned_170 : decode cX8_turned 170 = .ok (.iconst 0, 1) := by decide +kernel
theorem dX8_turned_171 : decode cX8_turned 171 = .ok (.istore 13, 2) := by decide +kernel
theorem dX8_turned_173 : decode cX8_turned 173 = .ok (.iload 13, 2) := by decide +kernel
theorem dX8_turned_175 : decode cX8_turned 175 = .ok (.iload_n 3, 1) := by decide +kernel
theorem dX8_turned_176 : decode cX8_turned 176 = .ok (.if_icmp .ge 16, 3) := by decide +kernel
theorem dX8_turned_179 : decode cX8_turned 179 = .ok (.aload_n 0, 1) := by decide +kernel
theorem dX8_turned_180 : decode cX8_turned 180 = .ok (.getfield 41, 3) := by decide +kernel
theorem dX8_turned_183 : decode cX8_turned 183 = .ok (.invokestatic 175, 3) := by decide +kernel
theorem dX8_turned_186 : decode cX8_turned 186 = .ok (.iinc 13 1, 3) := by decide +kernel
theorem dX8_turned_189 : decode cX8_turned 189 = .ok (.goto (-16), 3) := by decide +kernel
theorem dX8_turned_192 : decode cX8_turned 192 = .ok (.lload 6, 2) := by decide +kernel
theorem dX8_turned_194 : decode cX8_turned 194 = .ok (.aload_n 0, 1) := by decide +kernel
theorem dX8_turned_195 : decode cX8_turned 195 = .ok (.getfield 41, 3) := by decide +kernel
theorem dX8_turned_198 : decode cX8_turned 198 = .ok (.bipush 12, 2) := by decide +kernel
theorem dX8_turned_200 : decode cX8_turned 200 = .ok (.iload_n 1, 1) := by decide +kernel
theorem dX8_turned_201 : decode cX8_turned 201 = .ok (.iadd, 1) := by decide +kernel
theorem dX8_turned_202 : decode cX8_turned 202 = .ok (.iaload, 1) := by decide +kernel
theorem dX8_turned_203 : decode cX8_turned 203 = .ok (.iload_n 2, 1) := by decide +kernel
theorem dX8_turned_204 : decode cX8_turned 204 = .ok (.if_icmp .ne 8, 3) := by decide +kernel
theorem dX8_turned_207 : decode cX8_turned 207 = .ok (.lload 11, 2) := by decide +kernel
theorem dX8_turned_209 : decode cX8_turned 209 = .ok (.goto 4, 3) := by decide +kernel
theorem dX8_turned_212 : decode cX8_turned 212 = .ok (.lconst 0, 1) := by decide +kernel
theorem dX8_turned_213 : decode cX8_turned 213 = .ok (.ladd, 1) := by decide +kernel
theorem dX8_turned_214 : decode cX8_turned 214 = .ok (.lstore 6, 2) := by decide +kernel
theorem dX8_turned_216 : decode cX8_turned 216 = .ok (.iinc 10 1, 3) := by decide +kernel
theorem dX8_turned_219 : decode cX8_turned 219 = .ok (.goto (-156), 3) := by decide +kernel
theorem dX8_turned_222 : decode cX8_turned 222 = .ok (.lload 6, 2) := by decide +kernel
theorem dX8_turned_224 : decode cX8_turned 224 = .ok (.lstore 10, 2) := by decide +kernel
theorem dX8_turned_226 : decode cX8_turned 226 = .ok (.lload 8, 2) := by decide +kernel
theorem dX8_turned_228 : decode cX8_turned 228 = .ok (.lstore 12, 2) := by decide +kernel
theorem dX8_turned_230 : decode cX8_turned 230 = .ok (.lload 12, 2) := by decide +kernel
theorem dX8_turned_232 : decode cX8_turned 232 = .ok (.lconst 0, 1) := by decide +kernel
theorem dX8_turned_233 : decode cX8_turned 233 = .ok (.lcmp, 1) := by decide +kernel
theorem dX8_turned_234 : decode cX8_turned 234 = .ok (.ifCond .eq 21, 3) := by decide +kernel
theorem dX8_turned_237 : decode cX8_turned 237 = .ok (.lload 10, 2) := by decide +kernel
theorem dX8_turned_239 : decode cX8_turned 239 = .ok (.lload 12, 2) := by decide +kernel
theorem dX8_turned_241 : decode cX8_turned 241 = .ok (.lrem, 1) := by decide +kernel
theorem dX8_turned_242 : decode cX8_turned 242 = .ok (.lstore 14, 2) := by decide +kernel
theorem dX8_turned_244 : decode cX8_turned 244 = .ok (.lload 12, 2) := by decide +kernel
theorem dX8_turned_246 : decode cX8_turned 246 = .ok (.lstore 10, 2) := by decide +kernel
theorem dX8_turned_248 : decode cX8_turned 248 = .ok (.lload 14, 2) := by decide +kernel
theorem dX8_turned_250 : decode cX8_turned 250 = .ok (.lstore 12, 2) := by decide +kernel
theorem dX8_turned_252 : decode cX8_turned 252 = .ok (.goto (-22), 3) := by decide +kernel
theorem dX8_turned_255 : decode cX8_turned 255 = .ok (.iload 5, 2) := by decide +kernel
theorem dX8_turned_257 : decode cX8_turned 257 = .ok (.ifCond .ne 11, 3) := by decide +kernel
theorem dX8_turned_260 : decode cX8_turned 260 = .ok (.lload 6, 2) := by decide +kernel
theorem dX8_turned_262 : decode cX8_turned 262 = .ok (.lload 10, 2) := by decide +kernel
theorem dX8_turned_264 : decode cX8_turned 264 = .ok (.ldiv, 1) := by decide +kernel
theorem dX8_turned_265 : decode cX8_turned 265 = .ok (.goto 8, 3) := by decide +kernel
theorem dX8_turned_268 : decode cX8_turned 268 = .ok (.lload 8, 2) := by decide +kernel
theorem dX8_turned_270 : decode cX8_turned 270 = .ok (.lload 10, 2) := by decide +kernel
theorem dX8_turned_272 : decode cX8_turned 272 = .ok (.ldiv, 1) := by decide +kernel
theorem dX8_turned_273 : decode cX8_turned 273 = .ok (.lreturn, 1) := by decide +kernel
theorem dX8_drawn_0 : decode cX8_drawn 0 = .ok (.aload_n 0, 1) := by decide +kernel
theorem dX8_drawn_1 : decode cX8_drawn 1 = .ok (.getfield 137, 3) := by decide +kernel
theorem dX8_drawn_4 : decode cX8_drawn 4 = .ok (.ifCond .ne 6, 3) := by decide +kernel
theorem dX8_drawn_7 : decode cX8_drawn 7 = .ok (.ldc 169, 2) := by decide +kernel
theorem dX8_drawn_9 : decode cX8_drawn 9 = .ok (.ireturn, 1) := by decide +kernel
theorem dX8_drawn_10 : decode cX8_drawn 10 = .ok (.iload_n 1, 1) := by decide +kernel
theorem dX8_drawn_11 : decode cX8_drawn 11 = .ok (.i2l, 1) := by decide +kernel
theorem dX8_drawn_12 : decode cX8_drawn 12 = .ok (.lconst 0, 1) := by decide +kernel
theorem dX8_drawn_13 : decode cX8_drawn 13 = .ok (.ldc2_w 195, 3) := by decide +kernel
theorem dX8_drawn_16 : decode cX8_drawn 16 = .ok (.invokestatic 57, 3) := by decide +kernel
theorem dX8_drawn_19 : decode cX8_drawn 19 = .ok (.ifCond .eq 22, 3) := by decide +kernel
theorem dX8_drawn_22 : decode cX8_drawn 22 = .ok (.iload_n 2, 1) := by decide +kernel
theorem dX8_drawn_23 : decode cX8_drawn 23 = .ok (.i2l, 1) := by decide +kernel
theorem dX8_drawn_24 : decode cX8_drawn 24 = .ok (.lconst 1, 1) := by decide +kernel
theorem dX8_drawn_25 : decode cX8_drawn 25 = .ok (.ldc2_w 251, 3) := by decide +kernel
theorem dX8_drawn_28 : decode cX8_drawn 28 = .ok (.invokestatic 57, 3) := by decide +kernel
theorem dX8_drawn_31 : decode cX8_drawn 31 = .ok (.ifCond .eq 10, 3) := by decide +kernel
theorem dX8_drawn_34 : decode cX8_drawn 34 = .ok (.iload_n 3, 1) := by decide +kernel
theorem dX8_drawn_35 : decode cX8_drawn 35 = .ok (.invokestatic 209, 3) := by decide +kernel
theorem dX8_drawn_38 : decode cX8_drawn 38 = .ok (.ifCond .ne 6, 3) := by decide +kernel
theorem dX8_drawn_41 : decode cX8_drawn 41 = .ok (.ldc 67, 2) := by decide +kernel
theorem dX8_drawn_43 : decode cX8_drawn 43 = .ok (.ireturn, 1) := by decide +kernel
theorem dX8_drawn_44 : decode cX8_drawn 44 = .ok (.aload_n 0, 1) := by decide +kernel
theorem dX8_drawn_45 : decode cX8_drawn 45 = .ok (.iconst 0, 1) := by decide +kernel
theorem dX8_drawn_46 : decode cX8_drawn 46 = .ok (.invokevirtual 212, 3) := by decide +kernel
theorem dX8_drawn_49 : decode cX8_drawn 49 = .ok (.iload_n 2, 1) := by decide +kernel
theorem dX8_drawn_50 : decode cX8_drawn 50 = .ok (.i2l, 1) := by decide +kernel
theorem dX8_drawn_51 : decode cX8_drawn 51 = .ok (.lstore 4, 2) := by decide +kernel
theorem dX8_drawn_53 : decode cX8_drawn 53 = .ok (.iconst 0, 1) := by decide +kernel
theorem dX8_drawn_54 : decode cX8_drawn 54 = .ok (.istore 6, 2) := by decide +kernel
theorem dX8_drawn_56 : decode cX8_drawn 56 = .ok (.iconst 0, 1) := by decide +kernel
theorem dX8_drawn_57 : decode cX8_drawn 57 = .ok (.istore 7, 2) := by decide +kernel
theorem dX8_drawn_59 : decode cX8_drawn 59 = .ok (.iload 7, 2) := by decide +kernel
theorem dX8_drawn_61 : decode cX8_drawn 61 = .ok (.iload_n 1, 1) := by decide +kernel
theorem dX8_drawn_62 : decode cX8_drawn 62 = .ok (.if_icmp .ge 100, 3) := by decide +kernel
theorem dX8_drawn_65 : decode cX8_drawn 65 = .ok (.lload 4, 2) := by decide +kernel
theorem dX8_drawn_67 : decode cX8_drawn 67 = .ok (.ldc2_w 253, 3) := by decide +kernel
theorem dX8_drawn_70 : decode cX8_drawn 70 = .ok (.lmul, 1) := by decide +kernel
theorem dX8_drawn_71 : decode cX8_drawn 71 = .ok (.ldc2_w 255, 3) := by decide +kernel
theorem dX8_drawn_74 : decode cX8_drawn 74 = .ok (.lrem, 1) := by decide +kernel
theorem dX8_drawn_75 : decode cX8_drawn 75 = .ok (.lstore 4, 2) := by decide +kernel
theorem dX8_drawn_77 : decode cX8_drawn 77 = .ok (.lload 4, 2) := by decide +kernel
theorem dX8_drawn_79 : decode cX8_drawn 79 = .ok (.aload_n 0, 1) := by decide +kernel
theorem dX8_drawn_80 : decode cX8_drawn 80 = .ok (.getfield 41, 3) := by decide +kernel
theorem dX8_drawn_83 : decode cX8_drawn 83 = .ok (.iconst 5, 1) := by decide +kernel
theorem dX8_drawn_84 : decode cX8_drawn 84 = .ok (.iaload, 1) := by decide +kernel
theorem dX8_drawn_85 : decode cX8_drawn 85 = .ok (.i2l, 1) := by decide +kernel
theorem dX8_drawn_86 : decode cX8_drawn 86 = .ok (.lrem, 1) := by decide +kernel
theorem dX8_drawn_87 : decode cX8_drawn 87 = .ok (.l2i, 1) := by decide +kernel
theorem dX8_drawn_88 : decode cX8_drawn 88 = .ok (.istore 8, 2) := by decide +kernel
theorem dX8_drawn_90 : decode cX8_drawn 90 = .ok (.lload 4, 2) := by decide +kernel
theorem dX8_drawn_92 : decode cX8_drawn 92 = .ok (.ldc2_w 199, 3) := by decide +kernel
theorem dX8_drawn_95 : decode cX8_drawn 95 = .ok (.lrem, 1) := by decide +kernel
theorem dX8_drawn_96 : decode cX8_drawn 96 = .ok (.l2i, 1) := by decide +kernel
theorem dX8_drawn_97 : decode cX8_drawn 97 = .ok (.istore 9, 2) := by decide +kernel
theorem dX8_drawn_99 : decode cX8_drawn 99 = .ok (.iload 9, 2) := by decide +kernel
theorem dX8_drawn_101 : decode cX8_drawn 101 = .ok (.aload_n 0, 1) := by decide +kernel
theorem dX8_drawn_102 : decode cX8_drawn 102 = .ok (.getfield 41, 3) := by decide +kernel
theorem dX8_drawn_105 : decode cX8_drawn 105 = .ok (.bipush 22, 2) := by decide +kernel
theorem dX8_drawn_107 : decode cX8_drawn 107 = .ok (.iload 8, 2) := by decide +kernel
theorem dX8_drawn_109 : decode cX8_drawn 109 = .ok (.iadd, 1) := by decide +kernel
theorem dX8_drawn_110 : decode cX8_drawn 110 = .ok (.iaload, 1) := by decide +kernel
theorem dX8_drawn_111 : decode cX8_drawn 111 = .ok (.if_icmp .le 16, 3) := by decide +kernel
theorem dX8_drawn_114 : decode cX8_drawn 114 = .ok (.aload_n 0, 1) := by decide +kernel
theorem dX8_drawn_115 : decode cX8_drawn 115 = .ok (.getfield 41, 3) := by decide +kernel
theorem dX8_drawn_118 : decode cX8_drawn 118 = .ok (.bipush 22, 2) := by decide +kernel
theorem dX8_drawn_120 : decode cX8_drawn 120 = .ok (.iload 8, 2) := by decide +kernel
theorem dX8_drawn_122 : decode cX8_drawn 122 = .ok (.iadd, 1) := by decide +kernel
theorem dX8_drawn_123 : decode cX8_drawn 123 = .ok (.iaload, 1) := by decide +kernel
theorem dX8_drawn_124 : decode cX8_drawn 124 = .ok (.goto 5, 3) := by decide +kernel
theorem dX8_drawn_127 : decode cX8_drawn 127 = .ok (.iload 9, 2) := by decide +kernel
theorem dX8_drawn_129 : decode cX8_drawn 129 = .ok (.istore 9, 2) := by decide +kernel
theorem dX8_drawn_131 : decode cX8_drawn 131 = .ok (.aload_n 0, 1) := by decide +kernel
theorem dX8_drawn_132 : decode cX8_drawn 132 = .ok (.getfield 41, 3) := by decide +kernel
theorem dX8_drawn_135 : decode cX8_drawn 135 = .ok (.iload 8, 2) := by decide +kernel
theorem dX8_drawn_137 : decode cX8_drawn 137 = .ok (.iload 9, 2) := by decide +kernel
theorem dX8_drawn_139 : decode cX8_drawn 139 = .ok (.invokestatic 191, 3) := by decide +kernel
theorem dX8_drawn_142 : decode cX8_drawn 142 = .ok (.iload 6, 2) := by decide +kernel
theorem dX8_drawn_144 : decode cX8_drawn 144 = .ok (.iload 9, 2) := by decide +kernel
theorem dX8_drawn_146 : decode cX8_drawn 146 = .ok (.iadd, 1) := by decide +kernel
theorem dX8_drawn_147 : decode cX8_drawn 147 = .ok (.istore 6, 2) := by decide +kernel
theorem dX8_drawn_149 : decode cX8_drawn 149 = .ok (.aload_n 0, 1) := by decide +kernel
theorem dX8_drawn_150 : decode cX8_drawn 150 = .ok (.getfield 41, 3) := by decide +kernel
theorem dX8_drawn_153 : decode cX8_drawn 153 = .ok (.invokestatic 175, 3) := by decide +kernel
theorem dX8_drawn_156 : decode cX8_drawn 156 = .ok (.iinc 7 1, 3) := by decide +kernel
theorem dX8_drawn_159 : decode cX8_drawn 159 = .ok (.goto (-100), 3) := by decide +kernel
theorem dX8_drawn_162 : decode cX8_drawn 162 = .ok (.iconst 0, 1) := by decide +kernel
theorem dX8_drawn_163 : decode cX8_drawn 163 = .ok (.istore 7, 2) := by decide +kernel
theorem dX8_drawn_165 : decode cX8_drawn 165 = .ok (.iconst 0, 1) := by decide +kernel
theorem dX8_drawn_166 : decode cX8_drawn 166 = .ok (.istore 8, 2) := by decide +kernel
theorem dX8_drawn_168 : decode cX8_drawn 168 = .ok (.iload 8, 2) := by decide +kernel
theorem dX8_drawn_170 : decode cX8_drawn 170 = .ok (.aload_n 0, 1) := by decide +kernel
theorem dX8_drawn_171 : decode cX8_drawn 171 = .ok (.getfield 41, 3) := by decide +kernel
theorem dX8_drawn_174 : decode cX8_drawn 174 = .ok (.iconst 5, 1) := by decide +kernel
theorem dX8_drawn_175 : decode cX8_drawn 175 = .ok (.iaload, 1) := by decide +kernel
theorem dX8_drawn_176 : decode cX8_drawn 176 = .ok (.if_icmp .ge 24, 3) := by decide +kernel
theorem dX8_drawn_179 : decode cX8_drawn 179 = .ok (.iload 7, 2) := by decide +kernel
theorem dX8_drawn_181 : decode cX8_drawn 181 = .ok (.aload_n 0, 1) := by decide +kernel
theorem dX8_drawn_182 : decode cX8_drawn 182 = .ok (.getfield 41, 3) := by decide +kernel
theorem dX8_drawn_185 : decode cX8_drawn 185 = .ok (.bipush 12, 2) := by decide +kernel
theorem dX8_drawn_187 : decode cX8_drawn 187 = .ok (.iload 8, 2) := by decide +kernel
theorem dX8_drawn_189 : decode cX8_drawn 189 = .ok (.iadd, 1) := by decide +kernel
theorem dX8_drawn_190 : decode cX8_drawn 190 = .ok (.iaload, 1) := by decide +kernel
theorem dX8_drawn_191 : decode cX8_drawn 191 = .ok (.iadd, 1) := by decide +kernel
theorem dX8_drawn_192 : decode cX8_drawn 192 = .ok (.istore 7, 2) := by decide +kernel
theorem dX8_drawn_194 : decode cX8_drawn 194 = .ok (.iinc 8 1, 3) := by decide +kernel
theorem dX8_drawn_197 : decode cX8_drawn 197 = .ok (.goto (-29), 3) := by decide +kernel
theorem dX8_drawn_200 : decode cX8_drawn 200 = .ok (.iload_n 3, 1) := by decide +kernel
theorem dX8_drawn_201 : decode cX8_drawn 201 = .ok (.ifCond .ne 8, 3) := by decide +kernel
theorem dX8_drawn_204 : decode cX8_drawn 204 = .ok (.iload 6, 2) := by decide +kernel
theorem dX8_drawn_206 : decode cX8_drawn 206 = .ok (.goto 5, 3) := by decide +kernel
theorem dX8_drawn_209 : decode cX8_drawn 209 = .ok (.iload 7, 2) := by decide +kernel
theorem dX8_drawn_211 : decode cX8_drawn 211 = .ok (.ireturn, 1) := by decide +kernel
theorem dX8_image_0 : decode cX8_image 0 = .ok (.iload_n 1, 1) := by decide +kernel
theorem dX8_image_1 : decode cX8_image 1 = .ok (.invokestatic 209, 3) := by decide +kernel
theorem dX8_image_4 : decode cX8_image 4 = .ok (.ifCond .ne 6, 3) := by decide +kernel
theorem dX8_image_7 : decode cX8_image 7 = .ok (.ldc 67, 2) := by decide +kernel
theorem dX8_image_9 : decode cX8_image 9 = .ok (.ireturn, 1) := by decide +kernel
theorem dX8_image_10 : decode cX8_image 10 = .ok (.aload_n 0, 1) := by decide +kernel
theorem dX8_image_11 : decode cX8_image 11 = .ok (.getfield 137, 3) := by decide +kernel
theorem dX8_image_14 : decode cX8_image 14 = .ok (.ifCond .ne 6, 3) := by decide +kernel
theorem dX8_image_17 : decode cX8_image 17 = .ok (.ldc 169, 2) := by decide +kernel
theorem dX8_image_19 : decode cX8_image 19 = .ok (.ireturn, 1) := by decide +kernel
theorem dX8_image_20 : decode cX8_image 20 = .ok (.aload_n 0, 1) := by decide +kernel
theorem dX8_image_21 : decode cX8_image 21 = .ok (.getfield 22, 3) := by decide +kernel
theorem dX8_image_24 : decode cX8_image 24 = .ok (.iconst 0, 1) := by decide +kernel
theorem dX8_image_25 : decode cX8_image 25 = .ok (.aload_n 0, 1) := by decide +kernel
theorem dX8_image_26 : decode cX8_image 26 = .ok (.getfield 28, 3) := by decide +kernel
theorem dX8_image_29 : decode cX8_image 29 = .ok (.bipush 32, 2) := by decide +kernel
theorem dX8_image_31 : decode cX8_image 31 = .ok (.iload_n 1, 1) := by decide +kernel
theorem dX8_image_32 : decode cX8_image 32 = .ok (.imul, 1) := by decide +kernel
theorem dX8_image_33 : decode cX8_image 33 = .ok (.invokestatic 144, 3) := by decide +kernel
theorem dX8_image_36 : decode cX8_image 36 = .ok (.aload_n 0, 1) := by decide +kernel
theorem dX8_image_37 : decode cX8_image 37 = .ok (.getfield 31, 3) := by decide +kernel
theorem dX8_image_40 : decode cX8_image 40 = .ok (.iload_n 1, 1) := by decide +kernel
theorem dX8_image_41 : decode cX8_image 41 = .ok (.iconst 1, 1) := by decide +kernel
theorem dX8_image_42 : decode cX8_image 42 = .ok (.bastore, 1) := by decide +kernel
theorem dX8_image_43 : decode cX8_image 43 = .ok (.iconst 1, 1) := by decide +kernel
theorem dX8_image_44 : decode cX8_image 44 = .ok (.ireturn, 1) := by decide +kernel
theorem dX8_restore_0 : decode cX8_restore 0 = .ok (.iload_n 1, 1) := by decide +kernel
theorem dX8_restore_1 : decode cX8_restore 1 = .ok (.invokestatic 209, 3) := by decide +kernel
theorem dX8_restore_4 : decode cX8_restore 4 = .ok (.ifCond .ne 6, 3) := by decide +kernel
theorem dX8_restore_7 : decode cX8_restore 7 = .ok (.ldc 67, 2) := by decide +kernel
theorem dX8_restore_9 : decode cX8_restore 9 = .ok (.ireturn, 1) := by decide +kernel
theorem dX8_restore_10 : decode cX8_restore 10 = .ok (.aload_n 0, 1) := by decide +kernel
theorem dX8_restore_11 : decode cX8_restore 11 = .ok (.getfield 31, 3) := by decide +kernel
theorem dX8_restore_14 : decode cX8_restore 14 = .ok (.iload_n 1, 1) := by decide +kernel
theorem dX8_restore_15 : decode cX8_restore 15 = .ok (.baload, 1) := by decide +kernel
theorem dX8_restore_16 : decode cX8_restore 16 = .ok (.ifCond .ne 6, 3) := by decide +kernel
theorem dX8_restore_19 : decode cX8_restore 19 = .ok (.ldc 169, 2) := by decide +kernel
theorem dX8_restore_21 : decode cX8_restore 21 = .ok (.ireturn, 1) := by decide +kernel
theorem dX8_restore_22 : decode cX8_restore 22 = .ok (.aload_n 0, 1) := by decide +kernel
theorem dX8_restore_23 : decode cX8_restore 23 = .ok (.getfield 28, 3) := by decide +kernel
theorem dX8_restore_26 : decode cX8_restore 26 = .ok (.bipush 32, 2) := by decide +kernel
theorem dX8_restore_28 : decode cX8_restore 28 = .ok (.iload_n 1, 1) := by decide +kernel
theorem dX8_restore_29 : decode cX8_restore 29 = .ok (.imul, 1) := by decide +kernel
theorem dX8_restore_30 : decode cX8_restore 30 = .ok (.aload_n 0, 1) := by decide +kernel
theorem dX8_restore_31 : decode cX8_restore 31 = .ok (.getfield 22, 3) := by decide +kernel
theorem dX8_restore_34 : decode cX8_restore 34 = .ok (.iconst 0, 1) := by decide +kernel
theorem dX8_restore_35 : decode cX8_restore 35 = .ok (.invokestatic 144, 3) := by decide +kernel
theorem dX8_restore_38 : decode cX8_restore 38 = .ok (.aload_n 0, 1) := by decide +kernel
theorem dX8_restore_39 : decode cX8_restore 39 = .ok (.iconst 0, 1) := by decide +kernel
theorem dX8_restore_40 : decode cX8_restore 40 = .ok (.putfield 141, 3) := by decide +kernel
theorem dX8_restore_43 : decode cX8_restore 43 = .ok (.iconst 1, 1) := by decide +kernel
theorem dX8_restore_44 : decode cX8_restore 44 = .ok (.ireturn, 1) := by decide +kernel
theorem dX8_kind_0 : decode cX8_kind 0 = .ok (.aload_n 0, 1) := by decide +kernel
theorem dX8_kind_1 : decode cX8_kind 1 = .ok (.iload_n 1, 1) := by decide +kernel
theorem dX8_kind_2 : decode cX8_kind 2 = .ok (.invokevirtual 186, 3) := by decide +kernel
theorem dX8_kind_5 : decode cX8_kind 5 = .ok (.ifCond .eq 15, 3) := by decide +kernel
theorem dX8_kind_8 : decode cX8_kind 8 = .ok (.aload_n 0, 1) := by decide +kernel
theorem dX8_kind_9 : decode cX8_kind 9 = .ok (.getfield 22, 3) := by decide +kernel
theorem dX8_kind_12 : decode cX8_kind 12 = .ok (.bipush 7, 2) := by decide +kernel
theorem dX8_kind_14 : decode cX8_kind 14 = .ok (.iload_n 1, 1) := by decide +kernel
theorem dX8_kind_15 : decode cX8_kind 15 = .ok (.iadd, 1) := by decide +kernel
theorem dX8_kind_16 : decode cX8_kind 16 = .ok (.iaload, 1) := by decide +kernel
theorem dX8_kind_17 : decode cX8_kind 17 = .ok (.goto 5, 3) := by decide +kernel
theorem dX8_kind_20 : decode cX8_kind 20 = .ok (.ldc 67, 2) := by decide +kernel
theorem dX8_kind_22 : decode cX8_kind 22 = .ok (.ireturn, 1) := by decide +kernel
theorem dX8_isOf_0 : decode cX8_isOf 0 = .ok (.iload_n 1, 1) := by decide +kernel
theorem dX8_isOf_1 : decode cX8_isOf 1 = .ok (.ifCond .eq 33, 3) := by decide +kernel
theorem dX8_isOf_4 : decode cX8_isOf 4 = .ok (.iload_n 0, 1) := by decide +kernel
theorem dX8_isOf_5 : decode cX8_isOf 5 = .ok (.iload_n 1, 1) := by decide +kernel
theorem dX8_isOf_6 : decode cX8_isOf 6 = .ok (.if_icmp .eq 28, 3) := by decide +kernel
theorem dX8_isOf_9 : decode cX8_isOf 9 = .ok (.iload_n 1, 1) := by decide +kernel
theorem dX8_isOf_10 : decode cX8_isOf 10 = .ok (.iconst 1, 1) := by decide +kernel
theorem dX8_isOf_11 : decode cX8_isOf 11 = .ok (.if_icmp .ne 13, 3) := by decide +kernel
theorem dX8_isOf_14 : decode cX8_isOf 14 = .ok (.iload_n 0, 1) := by decide +kernel
theorem dX8_isOf_15 : decode cX8_isOf 15 = .ok (.iconst 2, 1) := by decide +kernel
theorem dX8_isOf_16 : decode cX8_isOf 16 = .ok (.if_icmp .eq 18, 3) := by decide +kernel
theorem dX8_isOf_19 : decode cX8_isOf 19 = .ok (.iload_n 0, 1) := by decide +kernel
theorem dX8_isOf_20 : decode cX8_isOf 20 = .ok (.iconst 3, 1) := by decide +kernel
theorem dX8_isOf_21 : decode cX8_isOf 21 = .ok (.if_icmp .eq 13, 3) := by decide +kernel
theorem dX8_isOf_24 : decode cX8_isOf 24 = .ok (.iload_n 1, 1) := by decide +kernel
theorem dX8_isOf_25 : decode cX8_isOf 25 = .ok (.iconst 4, 1) := by decide +kernel
theorem dX8_isOf_26 : decode cX8_isOf 26 = .ok (.if_icmp .ne 12, 3) := by decide +kernel
theorem dX8_isOf_29 : decode cX8_isOf 29 = .ok (.iload_n 0, 1) := by decide +kernel
theorem dX8_isOf_30 : decode cX8_isOf 30 = .ok (.iconst 5, 1) := by decide +kernel
theorem dX8_isOf_31 : decode cX8_isOf 31 = .ok (.if_icmp .ne 7, 3) := by decide +kernel
theorem dX8_isOf_34 : decode cX8_isOf 34 = .ok (.iconst 1, 1) := by decide +kernel
theorem dX8_isOf_35 : decode cX8_isOf 35 = .ok (.goto 4, 3) := by decide +kernel
theorem dX8_isOf_38 : decode cX8_isOf 38 = .ok (.iconst 0, 1) := by decide +kernel
theorem dX8_isOf_39 : decode cX8_isOf 39 = .ok (.ireturn, 1) := by decide +kernel
theorem dX8_as_0 : decode cX8_as 0 = .ok (.aload_n 0, 1) := by decide +kernel
theorem dX8_as_1 : decode cX8_as 1 = .ok (.iload_n 1, 1) := by decide +kernel
theorem dX8_as_2 : decode cX8_as 2 = .ok (.invokevirtual 186, 3) := by decide +kernel
theorem dX8_as_5 : decode cX8_as 5 = .ok (.ifCond .eq 15, 3) := by decide +kernel
theorem dX8_as_8 : decode cX8_as 8 = .ok (.iload_n 2, 1) := by decide +kernel
theorem dX8_as_9 : decode cX8_as 9 = .ok (.i2l, 1) := by decide +kernel
theorem dX8_as_10 : decode cX8_as 10 = .ok (.lconst 0, 1) := by decide +kernel
theorem dX8_as_11 : decode cX8_as 11 = .ok (.ldc2_w 201, 3) := by decide +kernel
theorem dX8_as_14 : decode cX8_as 14 = .ok (.invokestatic 57, 3) := by decide +kernel
theorem dX8_as_17 : decode cX8_as 17 = .ok (.ifCond .ne 6, 3) := by decide +kernel
theorem dX8_as_20 : decode cX8_as 20 = .ok (.ldc 67, 2) := by decide +kernel
theorem dX8_as_22 : decode cX8_as 22 = .ok (.ireturn, 1) := by decide +kernel
theorem dX8_as_23 : decode cX8_as 23 = .ok (.aload_n 0, 1) := by decide +kernel
theorem dX8_as_24 : decode cX8_as 24 = .ok (.getfield 22, 3) := by decide +kernel
theorem dX8_as_27 : decode cX8_as 27 = .ok (.bipush 7, 2) := by decide +kernel
theorem dX8_as_29 : decode cX8_as 29 = .ok (.iload_n 1, 1) := by decide +kernel
theorem dX8_as_30 : decode cX8_as 30 = .ok (.iadd, 1) := by decide +kernel
theorem dX8_as_31 : decode cX8_as 31 = .ok (.iaload, 1) := by decide +kernel
theorem dX8_as_32 : decode cX8_as 32 = .ok (.iload_n 2, 1) := by decide +kernel
theorem dX8_as_33 : decode cX8_as 33 = .ok (.invokestatic 257, 3) := by decide +kernel
theorem dX8_as_36 : decode cX8_as 36 = .ok (.ifCond .eq 11, 3) := by decide +kernel
theorem dX8_as_39 : decode cX8_as 39 = .ok (.aload_n 0, 1) := by decide +kernel
theorem dX8_as_40 : decode cX8_as 40 = .ok (.iload_n 1, 1) := by decide +kernel
theorem dX8_as_41 : decode cX8_as 41 = .ok (.invokevirtual 72, 3) := by decide +kernel
theorem dX8_as_44 : decode cX8_as 44 = .ok (.goto 8, 3) := by decide +kernel
theorem dX8_as_47 : decode cX8_as 47 = .ok (.aload_n 0, 1) := by decide +kernel
theorem dX8_as_48 : decode cX8_as 48 = .ok (.iconst 3, 1) := by decide +kernel
theorem dX8_as_49 : decode cX8_as 49 = .ok (.invokevirtual 68, 3) := by decide +kernel
theorem dX8_as_52 : decode cX8_as 52 = .ok (.ireturn, 1) := by decide +kernel
theorem dX8_leave_0 : decode cX8_leave 0 = .ok (.lconst 1, 1) := by decide +kernel
theorem dX8_leave_1 : decode cX8_leave 1 = .ok (.lstore_n 3, 1) := by decide +kernel
theorem dX8_leave_2 : decode cX8_leave 2 = .ok (.lload_n 3, 1) := by decide +kernel
theorem dX8_leave_3 : decode cX8_leave 3 = .ok (.ldc2_w 260, 3) := by decide +kernel
theorem dX8_leave_6 : decode cX8_leave 6 = .ok (.lmul, 1) := by decide +kernel
theorem dX8_leave_7 : decode cX8_leave 7 = .ok (.lload_n 1, 1) := by decide +kernel
theorem dX8_leave_8 : decode cX8_leave 8 = .ok (.lcmp, 1) := by decide +kernel
theorem dX8_leave_9 : decode cX8_leave 9 = .ok (.ifCond .gt 12, 3) := by decide +kernel
theorem dX8_leave_12 : decode cX8_leave 12 = .ok (.lload_n 3, 1) := by decide +kernel
theorem dX8_leave_13 : decode cX8_leave 13 = .ok (.ldc2_w 260, 3) := by decide +kernel
theorem dX8_leave_16 : decode cX8_leave 16 = .ok (.lmul, 1) := by decide +kernel
theorem dX8_leave_17 : decode cX8_leave 17 = .ok (.lstore_n 3, 1) := by decide +kernel
theorem dX8_leave_18 : decode cX8_leave 18 = .ok (.goto (-16), 3) := by decide +kernel
theorem dX8_leave_21 : decode cX8_leave 21 = .ok (.lload_n 1, 1) := by decide +kernel
theorem dX8_leave_22 : decode cX8_leave 22 = .ok (.lstore 5, 2) := by decide +kernel
theorem dX8_leave_24 : decode cX8_leave 24 = .ok (.lload_n 3, 1) := by decide +kernel
theorem dX8_leave_25 : decode cX8_leave 25 = .ok (.lconst 0, 1) := by decide +kernel
theorem dX8_leave_26 : decode cX8_leave 26 = .ok (.lcmp, 1) := by decide +kernel
theorem dX8_leave_27 : decode cX8_leave 27 = .ok (.ifCond .le 42, 3) := by decide +kernel
theorem dX8_leave_30 : decode cX8_leave 30 = .ok (.aload_n 0, 1) := by decide +kernel
theorem dX8_leave_31 : decode cX8_leave 31 = .ok (.getfield 35, 3) := by decide +kernel
theorem dX8_leave_34 : decode cX8_leave 34 = .ok (.aload_n 0, 1) := by decide +kernel
theorem dX8_leave_35 : decode cX8_leave 35 = .ok (.getfield 262, 3) := by decide +kernel
theorem dX8_leave_38 : decode cX8_leave 38 = .ok (.lload 5, 2) := by decide +kernel
theorem dX8_leave_40 : decode cX8_leave 40 = .ok (.lload_n 3, 1) := by decide +kernel
theorem dX8_leave_41 : decode cX8_leave 41 = .ok (.ldiv, 1) := by decide +kernel
theorem dX8_leave_42 : decode cX8_leave 42 = .ok (.l2i, 1) := by decide +kernel
theorem dX8_leave_43 : decode cX8_leave 43 = .ok (.iastore, 1) := by decide +kernel
theorem dX8_leave_44 : decode cX8_leave 44 = .ok (.lload 5, 2) := by decide +kernel
theorem dX8_leave_46 : decode cX8_leave 46 = .ok (.lload_n 3, 1) := by decide +kernel
theorem dX8_leave_47 : decode cX8_leave 47 = .ok (.lrem, 1) := by decide +kernel
theorem dX8_leave_48 : decode cX8_leave 48 = .ok (.lstore 5, 2) := by decide +kernel
theorem dX8_leave_50 : decode cX8_leave 50 = .ok (.aload_n 0, 1) := by decide +kernel
theorem dX8_leave_51 : decode cX8_leave 51 = .ok (.dup, 1) := by decide +kernel
theorem dX8_leave_52 : decode cX8_leave 52 = .ok (.getfield 262, 3) := by decide +kernel
theorem dX8_leave_55 : decode cX8_leave 55 = .ok (.iconst 1, 1) := by decide +kernel
theorem dX8_leave_56 : decode cX8_leave 56 = .ok (.iadd, 1) := by decide +kernel
theorem dX8_leave_57 : decode cX8_leave 57 = .ok (.putfield 262, 3) := by decide +kernel
theorem dX8_leave_60 : decode cX8_leave 60 = .ok (.lload_n 3, 1) := by decide +kernel
theorem dX8_leave_61 : decode cX8_leave 61 = .ok (.ldc2_w 260, 3) := by decide +kernel
theorem dX8_leave_64 : decode cX8_leave 64 = .ok (.ldiv, 1) := by decide +kernel
theorem dX8_leave_65 : decode cX8_leave 65 = .ok (.lstore_n 3, 1) := by decide +kernel
theorem dX8_leave_66 : decode cX8_leave 66 = .ok (.goto (-42), 3) := by decide +kernel
theorem dX8_leave_69 : decode cX8_leave 69 = .ok (.return_, 1) := by decide +kernel
theorem dX8_mark_0 : decode cX8_mark 0 = .ok (.aload_n 0, 1) := by decide +kernel
theorem dX8_mark_1 : decode cX8_mark 1 = .ok (.getfield 22, 3) := by decide +kernel
theorem dX8_mark_4 : decode cX8_mark 4 = .ok (.bipush 7, 2) := by decide +kernel
theorem dX8_mark_6 : decode cX8_mark 6 = .ok (.iload_n 1, 1) := by decide +kernel
theorem dX8_mark_7 : decode cX8_mark 7 = .ok (.iadd, 1) := by decide +kernel
theorem dX8_mark_8 : decode cX8_mark 8 = .ok (.iaload, 1) := by decide +kernel
theorem dX8_mark_9 : decode cX8_mark 9 = .ok (.istore_n 2, 1) := by decide +kernel
theorem dX8_mark_10 : decode cX8_mark 10 = .ok (.iload_n 1, 1) := by decide +kernel
theorem dX8_mark_11 : decode cX8_mark 11 = .ok (.aload_n 0, 1) := by decide +kernel
theorem dX8_mark_12 : decode cX8_mark 12 = .ok (.getfield 22, 3) := by decide +kernel
theorem dX8_mark_15 : decode cX8_mark 15 = .ok (.bipush 17, 2) := by decide +kernel
theorem dX8_mark_17 : decode cX8_mark 17 = .ok (.iload_n 1, 1) := by decide +kernel
theorem dX8_mark_18 : decode cX8_mark 18 = .ok (.iadd, 1) := by decide +kernel
theorem dX8_mark_19 : decode cX8_mark 19 = .ok (.iaload, 1) := by decide +kernel
theorem dX8_mark_20 : decode cX8_mark 20 = .ok (.iadd, 1) := by decide +kernel
theorem dX8_mark_21 : decode cX8_mark 21 = .ok (.istore_n 3, 1) := by decide +kernel
theorem dX8_mark_22 : decode cX8_mark 22 = .ok (.aload_n 0, 1) := by decide +kernel
theorem dX8_mark_23 : decode cX8_mark 23 = .ok (.iload_n 2, 1) := by decide +kernel
theorem dX8_mark_24 : decode cX8_mark 24 = .ok (.iconst 2, 1) := by decide +kernel
theorem dX8_mark_25 : decode cX8_mark 25 = .ok (.if_icmp .ne 9, 3) := by decide +kernel
theorem dX8_mark_28 : decode cX8_mark 28 = .ok (.ldc2_w 265, 3) := by decide +kernel
theorem dX8_mark_31 : decode cX8_mark 31 = .ok (.goto 17, 3) := by decide +kernel
theorem dX8_mark_34 : decode cX8_mark 34 = .ok (.iload_n 2, 1) := by decide +kernel
theorem dX8_mark_35 : decode cX8_mark 35 = .ok (.iconst 3, 1) := by decide +kernel
theorem dX8_mark_36 : decode cX8_mark 36 = .ok (.if_icmp .ne 9, 3) := by decide +kernel
theorem dX8_mark_39 : decode cX8_mark 39 = .ok (.ldc2_w 267, 3) := by decide +kernel
theorem dX8_mark_42 : decode cX8_mark 42 = .ok (.goto 6, 3) := by decide +kernel
theorem dX8_mark_45 : decode cX8_mark 45 = .ok (.ldc2_w 269, 3) := by decide +kernel
theorem dX8_mark_48 : decode cX8_mark 48 = .ok (.invokevirtual 271, 3) := by decide +kernel
theorem dX8_mark_51 : decode cX8_mark 51 = .ok (.iload_n 2, 1) := by decide +kernel
theorem dX8_mark_52 : decode cX8_mark 52 = .ok (.iconst 2, 1) := by decide +kernel
theorem dX8_mark_53 : decode cX8_mark 53 = .ok (.if_icmp .ne 9, 3) := by decide +kernel
theorem dX8_mark_56 : decode cX8_mark 56 = .ok (.iconst 2, 1) := by decide +kernel
theorem dX8_mark_57 : decode cX8_mark 57 = .ok (.iload_n 3, 1) := by decide +kernel
theorem dX8_mark_58 : decode cX8_mark 58 = .ok (.imul, 1) := by decide +kernel
theorem dX8_mark_59 : decode cX8_mark 59 = .ok (.goto 17, 3) := by decide +kernel
theorem dX8_mark_62 : decode cX8_mark 62 = .ok (.iload_n 2, 1) := by decide +kernel
theorem dX8_mark_63 : decode cX8_mark 63 = .ok (.iconst 3, 1) := by decide +kernel
theorem dX8_mark_64 : decode cX8_mark 64 = .ok (.if_icmp .ne 11, 3) := by decide +kernel
theorem dX8_mark_67 : decode cX8_mark 67 = .ok (.iload_n 3, 1) := by decide +kernel
theorem dX8_mark_68 : decode cX8_mark 68 = .ok (.sipush 1000, 3) := by decide +kernel
theorem dX8_mark_71 : decode cX8_mark 71 = .ok (.isub, 1) := by decide +kernel
theorem dX8_mark_72 : decode cX8_mark 72 = .ok (.goto 4, 3) := by decide +kernel
theorem dX8_mark_75 : decode cX8_mark 75 = .ok (.iload_n 3, 1) := by decide +kernel
theorem dX8_mark_76 : decode cX8_mark 76 = .ok (.ireturn, 1) := by decide +kernel
theorem dX8_sizeOf_0 : decode cX8_sizeOf 0 = .ok (.aload_n 0, 1) := by decide +kernel
theorem dX8_sizeOf_1 : decode cX8_sizeOf 1 = .ok (.getfield 22, 3) := by decide +kernel
theorem dX8_sizeOf_4 : decode cX8_sizeOf 4 = .ok (.bipush 22, 2) := by decide +kernel
theorem dX8_sizeOf_6 : decode cX8_sizeOf 6 = .ok (.iload_n 1, 1) := by decide +kernel
theorem dX8_sizeOf_7 : decode cX8_sizeOf 7 = .ok (.iadd, 1) := by decide +kernel
theorem dX8_sizeOf_8 : decode cX8_sizeOf 8 = .ok (.iaload, 1) := by decide +kernel
theorem dX8_sizeOf_9 : decode cX8_sizeOf 9 = .ok (.bipush 100, 2) := by decide +kernel
theorem dX8_sizeOf_11 : decode cX8_sizeOf 11 = .ok (.isub, 1) := by decide +kernel
theorem dX8_sizeOf_12 : decode cX8_sizeOf 12 = .ok (.istore_n 2, 1) := by decide +kernel
theorem dX8_sizeOf_13 : decode cX8_sizeOf 13 = .ok (.aload_n 0, 1) := by decide +kernel
theorem dX8_sizeOf_14 : decode cX8_sizeOf 14 = .ok (.getfield 22, 3) := by decide +kernel
theorem dX8_sizeOf_17 : decode cX8_sizeOf 17 = .ok (.bipush 7, 2) := by decide +kernel
theorem dX8_sizeOf_19 : decode cX8_sizeOf 19 = .ok (.iload_n 1, 1) := by decide +kernel
theorem dX8_sizeOf_20 : decode cX8_sizeOf 20 = .ok (.iadd, 1) := by decide +kernel
theorem dX8_sizeOf_21 : decode cX8_sizeOf 21 = .ok (.iaload, 1) := by decide +kernel
theorem dX8_sizeOf_22 : decode cX8_sizeOf 22 = .ok (.iconst 5, 1) := by decide +kernel
theorem dX8_sizeOf_23 : decode cX8_sizeOf 23 = .ok (.if_icmp .ne 7, 3) := by decide +kernel
theorem dX8_sizeOf_26 : decode cX8_sizeOf 26 = .ok (.iconst 1, 1) := by decide +kernel
theorem dX8_sizeOf_27 : decode cX8_sizeOf 27 = .ok (.goto 4, 3) := by decide +kernel
theorem dX8_sizeOf_30 : decode cX8_sizeOf 30 = .ok (.iconst 0, 1) := by decide +kernel
theorem dX8_sizeOf_31 : decode cX8_sizeOf 31 = .ok (.istore_n 3, 1) := by decide +kernel
theorem dX8_sizeOf_32 : decode cX8_sizeOf 32 = .ok (.aload_n 0, 1) := by decide +kernel
theorem dX8_sizeOf_33 : decode cX8_sizeOf 33 = .ok (.iload_n 3, 1) := by decide +kernel
theorem dX8_sizeOf_34 : decode cX8_sizeOf 34 = .ok (.ifCond .eq 9, 3) := by decide +kernel
theorem dX8_sizeOf_37 : decode cX8_sizeOf 37 = .ok (.ldc2_w 275, 3) := by decide +kernel
theorem dX8_sizeOf_40 : decode cX8_sizeOf 40 = .ok (.goto 6, 3) := by decide +kernel
theorem dX8_sizeOf_43 : decode cX8_sizeOf 43 = .ok (.ldc2_w 277, 3) := by decide +kernel
theorem dX8_sizeOf_46 : decode cX8_sizeOf 46 = .ok (.invokevirtual 271, 3) := by decide +kernel
theorem dX8_sizeOf_49 : decode cX8_sizeOf 49 = .ok (.iload_n 3, 1) := by decide +kernel
theorem dX8_sizeOf_50 : decode cX8_sizeOf 50 = .ok (.ifCond .eq 9, 3) := by decide +kernel
theorem dX8_sizeOf_53 : decode cX8_sizeOf 53 = .ok (.iconst 2, 1) := by decide +kernel
theorem dX8_sizeOf_54 : decode cX8_sizeOf 54 = .ok (.iload_n 2, 1) := by decide +kernel
theorem dX8_sizeOf_55 : decode cX8_sizeOf 55 = .ok (.imul, 1) := by decide +kernel
theorem dX8_sizeOf_56 : decode cX8_sizeOf 56 = .ok (.goto 4, 3) := by decide +kernel
theorem dX8_sizeOf_59 : decode cX8_sizeOf 59 = .ok (.iload_n 2, 1) := by decide +kernel
theorem dX8_sizeOf_60 : decode cX8_sizeOf 60 = .ok (.ireturn, 1) := by decide +kernel
theorem dX8_ask_0 : decode cX8_ask 0 = .ok (.aload_n 0, 1) := by decide +kernel
theorem dX8_ask_1 : decode cX8_ask 1 = .ok (.iload_n 1, 1) := by decide +kernel
theorem dX8_ask_2 : decode cX8_ask 2 = .ok (.invokevirtual 186, 3) := by decide +kernel
theorem dX8_ask_5 : decode cX8_ask 5 = .ok (.ifCond .eq 13, 3) := by decide +kernel
theorem dX8_ask_8 : decode cX8_ask 8 = .ok (.iload_n 2, 1) := by decide +kernel
theorem dX8_ask_9 : decode cX8_ask 9 = .ok (.i2l, 1) := by decide +kernel
theorem dX8_ask_10 : decode cX8_ask 10 = .ok (.lconst 0, 1) := by decide +kernel
theorem dX8_ask_11 : decode cX8_ask 11 = .ok (.lconst 1, 1) := by decide +kernel
theorem dX8_ask_12 : decode cX8_ask 12 = .ok (.invokestatic 57, 3) := by decide +kernel
theorem dX8_ask_15 : decode cX8_ask 15 = .ok (.ifCond .ne 6, 3) := by decide +kernel
theorem dX8_ask_18 : decode cX8_ask 18 = .ok (.ldc 67, 2) := by decide +kernel
theorem dX8_ask_20 : decode cX8_ask 20 = .ok (.ireturn, 1) := by decide +kernel
theorem dX8_ask_21 : decode cX8_ask 21 = .ok (.aload_n 0, 1) := by decide +kernel
theorem dX8_ask_22 : decode cX8_ask 22 = .ok (.iconst 0, 1) := by decide +kernel
theorem dX8_ask_23 : decode cX8_ask 23 = .ok (.putfield 262, 3) := by decide +kernel
theorem dX8_ask_26 : decode cX8_ask 26 = .ok (.aload_n 0, 1) := by decide +kernel
theorem dX8_ask_27 : decode cX8_ask 27 = .ok (.getfield 22, 3) := by decide +kernel
theorem dX8_ask_30 : decode cX8_ask 30 = .ok (.bipush 7, 2) := by decide +kernel
theorem dX8_ask_32 : decode cX8_ask 32 = .ok (.iload_n 1, 1) := by decide +kernel
theorem dX8_ask_33 : decode cX8_ask 33 = .ok (.iadd, 1) := by decide +kernel
theorem dX8_ask_34 : decode cX8_ask 34 = .ok (.iaload, 1) := by decide +kernel
theorem dX8_ask_35 : decode cX8_ask 35 = .ok (.istore_n 3, 1) := by decide +kernel
theorem dX8_ask_36 : decode cX8_ask 36 = .ok (.iload_n 3, 1) := by decide +kernel
theorem dX8_ask_37 : decode cX8_ask 37 = .ok (.iconst 4, 1) := by decide +kernel
theorem dX8_ask_38 : decode cX8_ask 38 = .ok (.if_icmp .ge 63, 3) := by decide +kernel
theorem dX8_ask_41 : decode cX8_ask 41 = .ok (.iload_n 2, 1) := by decide +kernel
theorem dX8_ask_42 : decode cX8_ask 42 = .ok (.iconst 1, 1) := by decide +kernel
theorem dX8_ask_43 : decode cX8_ask 43 = .ok (.if_icmp .ne 9, 3) := by decide +kernel
theorem dX8_ask_46 : decode cX8_ask 46 = .ok (.aload_n 0, 1) := by decide +kernel
theorem dX8_ask_47 : decode cX8_ask 47 = .ok (.iload_n 1, 1) := by decide +kernel
theorem dX8_ask_48 : decode cX8_ask 48 = .ok (.invokevirtual 279, 3) := by decide +kernel
theorem dX8_ask_51 : decode cX8_ask 51 = .ok (.ireturn, 1) := by decide +kernel
theorem dX8_ask_52 : decode cX8_ask 52 = .ok (.aload_n 0, 1) := by decide +kernel
theorem dX8_ask_53 : decode cX8_ask 53 = .ok (.iload_n 3, 1) := by decide +kernel
theorem dX8_ask_54 : decode cX8_ask 54 = .ok (.iconst 2, 1) := by decide +kernel
theorem dX8_ask_55 : decode cX8_ask 55 = .ok (.if_icmp .ne 9, 3) := by decide +kernel
theorem dX8_ask_58 : decode cX8_ask 58 = .ok (.ldc2_w 282, 3) := by decide +kernel
theorem dX8_ask_61 : decode cX8_ask 61 = .ok (.goto 6, 3) := by decide +kernel
theorem dX8_ask_64 : decode cX8_ask 64 = .ok (.ldc2_w 284, 3) := by decide +kernel
theorem dX8_ask_67 : decode cX8_ask 67 = .ok (.invokevirtual 271, 3) := by decide +kernel
theorem dX8_ask_70 : decode cX8_ask 70 = .ok (.aload_n 0, 1) := by decide +kernel
theorem dX8_ask_71 : decode cX8_ask 71 = .ok (.getfield 22, 3) := by decide +kernel
theorem dX8_ask_74 : decode cX8_ask 74 = .ok (.bipush 22, 2) := by decide +kernel
theorem dX8_ask_76 : decode cX8_ask 76 = .ok (.iload_n 1, 1) := by decide +kernel
theorem dX8_ask_77 : decode cX8_ask 77 = .ok (.iadd, 1) := by decide +kernel
theorem dX8_ask_78 : decode cX8_ask 78 = .ok (.iaload, 1) := by decide +kernel
theorem dX8_ask_79 : decode cX8_ask 79 = .ok (.aload_n 0, 1) := by decide +kernel
theorem dX8_ask_80 : decode cX8_ask 80 = .ok (.iload_n 1, 1) := by decide +kernel
theorem dX8_ask_81 : decode cX8_ask 81 = .ok (.invokevirtual 279, 3) := by decide +kernel
theorem dX8_ask_84 : decode cX8_ask 84 = .ok (.iadd, 1) := by decide +kernel
theorem dX8_ask_85 : decode cX8_ask 85 = .ok (.istore 4, 2) := by decide +kernel
theorem dX8_ask_87 : decode cX8_ask 87 = .ok (.iload_n 3, 1) := by decide +kernel
theorem dX8_ask_88 : decode cX8_ask 88 = .ok (.iconst 2, 1) := by decide +kernel
theorem dX8_ask_89 : decode cX8_ask 89 = .ok (.if_icmp .ne 9, 3) := by decide +kernel
theorem dX8_ask_92 : decode cX8_ask 92 = .ok (.iload 4, 2) := by decide +kernel
theorem dX8_ask_94 : decode cX8_ask 94 = .ok (.ineg, 1) := by decide +kernel
theorem dX8_ask_95 : decode cX8_ask 95 = .ok (.goto 5, 3) := by decide +kernel
theorem dX8_ask_98 : decode cX8_ask 98 = .ok (.iload 4, 2) := by decide +kernel
theorem dX8_ask_100 : decode cX8_ask 100 = .ok (.ireturn, 1) := by decide +kernel
theorem dX8_ask_101 : decode cX8_ask 101 = .ok (.iload_n 2, 1) := by decide +kernel
theorem dX8_ask_102 : decode cX8_ask 102 = .ok (.ifCond .ne 9, 3) := by decide +kernel
theorem dX8_ask_105 : decode cX8_ask 105 = .ok (.aload_n 0, 1) := by decide +kernel
theorem dX8_ask_106 : decode cX8_ask 106 = .ok (.iload_n 1, 1) := by decide +kernel
theorem dX8_ask_107 : decode cX8_ask 107 = .ok (.invokevirtual 286, 3) := by decide +kernel
theorem dX8_ask_110 : decode cX8_ask 110 = .ok (.ireturn, 1) := by decide +kernel
theorem dX8_ask_111 : decode cX8_ask 111 = .ok (.aload_n 0, 1) := by decide +kernel
theorem dX8_ask_112 : decode cX8_ask 112 = .ok (.ldc2_w 289, 3) := by decide +kernel
theorem dX8_ask_115 : decode cX8_ask 115 = .ok (.invokevirtual 271, 3) := by decide +kernel
theorem dX8_ask_118 : decode cX8_ask 118 = .ok (.iload_n 1, 1) := by decide +kernel
theorem dX8_ask_119 : decode cX8_ask 119 = .ok (.aload_n 0, 1) := by decide +kernel
theorem dX8_ask_120 : decode cX8_ask 120 = .ok (.iload_n 1, 1) := by decide +kernel
theorem dX8_ask_121 : decode cX8_ask 121 = .ok (.invokevirtual 286, 3) := by decide +kernel
theorem dX8_ask_124 : decode cX8_ask 124 = .ok (.isub, 1) := by decide +kernel
theorem dX8_ask_125 : decode cX8_ask 125 = .ok (.ireturn, 1) := by decide +kernel
theorem dX8_trace_0 : decode cX8_trace 0 = .ok (.iload_n 1, 1) := by decide +kernel
theorem dX8_trace_1 : decode cX8_trace 1 = .ok (.i2l, 1) := by decide +kernel
theorem dX8_trace_2 : decode cX8_trace 2 = .ok (.lconst 0, 1) := by decide +kernel
theorem dX8_trace_3 : decode cX8_trace 3 = .ok (.aload_n 0, 1) := by decide +kernel
theorem dX8_trace_4 : decode cX8_trace 4 = .ok (.getfield 262, 3) := by decide +kernel
theorem dX8_trace_7 : decode cX8_trace 7 = .ok (.iconst 1, 1) := by decide +kernel
theorem dX8_trace_8 : decode cX8_trace 8 = .ok (.isub, 1) := by decide +kernel
theorem dX8_trace_9 : decode cX8_trace 9 = .ok (.i2l, 1) := by decide +kernel
theorem dX8_trace_10 : decode cX8_trace 10 = .ok (.invokestatic 57, 3) := by decide +kernel
theorem dX8_trace_13 : decode cX8_trace 13 = .ok (.ifCond .eq 12, 3) := by decide +kernel
theorem dX8_trace_16 : decode cX8_trace 16 = .ok (.aload_n 0, 1) := by decide +kernel
theorem dX8_trace_17 : decode cX8_trace 17 = .ok (.getfield 35, 3) := by decide +kernel
theorem dX8_trace_20 : decode cX8_trace 20 = .ok (.iload_n 1, 1) := by decide +kernel
theorem dX8_trace_21 : decode cX8_trace 21 = .ok (.iaload, 1) := by decide +kernel
theorem dX8_trace_22 : decode cX8_trace 22 = .ok (.goto 5, 3) := by decide +kernel
theorem dX8_trace_25 : decode cX8_trace 25 = .ok (.ldc 216, 2) := by decide +kernel
theorem dX8_trace_27 : decode cX8_trace 27 = .ok (.ireturn, 1) := by decide +kernel
theorem dX8_count_0 : decode cX8_count 0 = .ok (.iconst 0, 1) := by decide +kernel
theorem dX8_count_1 : decode cX8_count 1 = .ok (.istore_n 2, 1) := by decide +kernel
theorem dX8_count_2 : decode cX8_count 2 = .ok (.iconst 0, 1) := by decide +kernel
theorem dX8_count_3 : decode cX8_count 3 = .ok (.istore_n 3, 1) := by decide +kernel
theorem dX8_count_4 : decode cX8_count 4 = .ok (.iload_n 3, 1) := by decide +kernel
theorem dX8_count_5 : decode cX8_count 5 = .ok (.bipush 8, 2) := by decide +kernel
theorem dX8_count_7 : decode cX8_count 7 = .ok (.if_icmp .ge 26, 3) := by decide +kernel
theorem dX8_count_10 : decode cX8_count 10 = .ok (.iload_n 2, 1) := by decide +kernel
theorem dX8_count_11 : decode cX8_count 11 = .ok (.aload_n 0, 1) := by decide +kernel
theorem dX8_count_12 : decode cX8_count 12 = .ok (.getfield 13, 3) := by decide +kernel
theorem dX8_count_15 : decode cX8_count 15 = .ok (.iload_n 3, 1) := by decide +kernel
theorem dX8_count_16 : decode cX8_count 16 = .ok (.iaload, 1) := by decide +kernel
theorem dX8_count_17 : decode cX8_count 17 = .ok (.ifCond .ge 7, 3) := by decide +kernel
theorem dX8_count_20 : decode cX8_count 20 = .ok (.iconst 0, 1) := by decide +kernel
theorem dX8_count_21 : decode cX8_count 21 = .ok (.goto 4, 3) := by decide +kernel
theorem dX8_count_24 : decode cX8_count 24 = .ok (.iconst 1, 1) := by decide +kernel
theorem dX8_count_25 : decode cX8_count 25 = .ok (.iadd, 1) := by decide +kernel
theorem dX8_count_26 : decode cX8_count 26 = .ok (.istore_n 2, 1) := by decide +kernel
theorem dX8_count_27 : decode cX8_count 27 = .ok (.iinc 3 1, 3) := by decide +kernel
theorem dX8_count_30 : decode cX8_count 30 = .ok (.goto (-26), 3) := by decide +kernel
theorem dX8_count_33 : decode cX8_count 33 = .ok (.iconst 0, 1) := by decide +kernel
theorem dX8_count_34 : decode cX8_count 34 = .ok (.istore_n 3, 1) := by decide +kernel
theorem dX8_count_35 : decode cX8_count 35 = .ok (.iconst 0, 1) := by decide +kernel
theorem dX8_count_36 : decode cX8_count 36 = .ok (.istore 4, 2) := by decide +kernel
theorem dX8_count_38 : decode cX8_count 38 = .ok (.iload 4, 2) := by decide +kernel
theorem dX8_count_40 : decode cX8_count 40 = .ok (.aload_n 0, 1) := by decide +kernel
theorem dX8_count_41 : decode cX8_count 41 = .ok (.getfield 22, 3) := by decide +kernel
theorem dX8_count_44 : decode cX8_count 44 = .ok (.iconst 5, 1) := by decide +kernel
theorem dX8_count_45 : decode cX8_count 45 = .ok (.iaload, 1) := by decide +kernel
theorem dX8_count_46 : decode cX8_count 46 = .ok (.if_icmp .ge 22, 3) := by decide +kernel
theorem dX8_count_49 : decode cX8_count 49 = .ok (.iload_n 3, 1) := by decide +kernel
theorem dX8_count_50 : decode cX8_count 50 = .ok (.aload_n 0, 1) := by decide +kernel
theorem dX8_count_51 : decode cX8_count 51 = .ok (.getfield 22, 3) := by decide +kernel
theorem dX8_count_54 : decode cX8_count 54 = .ok (.bipush 27, 2) := by decide +kernel
theorem dX8_count_56 : decode cX8_count 56 = .ok (.iload 4, 2) := by decide +kernel
theorem dX8_count_58 : decode cX8_count 58 = .ok (.iadd, 1) := by decide +kernel
theorem dX8_count_59 : decode cX8_count 59 = .ok (.iaload, 1) := by decide +kernel
theorem dX8_count_60 : decode cX8_count 60 = .ok (.iadd, 1) := by decide +kernel
theorem dX8_count_61 : decode cX8_count 61 = .ok (.istore_n 3, 1) := by decide +kernel
theorem dX8_count_62 : decode cX8_count 62 = .ok (.iinc 4 1, 3) := by decide +kernel
theorem dX8_count_65 : decode cX8_count 65 = .ok (.goto (-27), 3) := by decide +kernel
theorem dX8_count_68 : decode cX8_count 68 = .ok (.iload_n 1, 1) := by decide +kernel
theorem dX8_count_69 : decode cX8_count 69 = .ok (.tableswitch 91 0 7 #[47, 49, 56, 63, 71, 73, 81, 86], 47) := by decide +kernel
theorem dX8_count_116 : decode cX8_count 116 = .ok (.iload_n 2, 1) := by decide +kernel
theorem dX8_count_117 : decode cX8_count 117 = .ok (.ireturn, 1) := by decide +kernel
theorem dX8_count_118 : decode cX8_count 118 = .ok (.aload_n 0, 1) := by decide +kernel
theorem dX8_count_119 : decode cX8_count 119 = .ok (.getfield 22, 3) := by decide +kernel
theorem dX8_count_122 : decode cX8_count 122 = .ok (.iconst 5, 1) := by decide +kernel
theorem dX8_count_123 : decode cX8_count 123 = .ok (.iaload, 1) := by decide +kernel
theorem dX8_count_124 : decode cX8_count 124 = .ok (.ireturn, 1) := by decide +kernel
theorem dX8_count_125 : decode cX8_count 125 = .ok (.aload_n 0, 1) := by decide +kernel
theorem dX8_count_126 : decode cX8_count 126 = .ok (.getfield 22, 3) := by decide +kernel
theorem dX8_count_129 : decode cX8_count 129 = .ok (.iconst 4, 1) := by decide +kernel
theorem dX8_count_130 : decode cX8_count 130 = .ok (.iaload, 1) := by decide +kernel
theorem dX8_count_131 : decode cX8_count 131 = .ok (.ireturn, 1) := by decide +kernel
theorem dX8_count_132 : decode cX8_count 132 = .ok (.aload_n 0, 1) := by decide +kernel
theorem dX8_count_133 : decode cX8_count 133 = .ok (.getfield 22, 3) := by decide +kernel
theorem dX8_count_136 : decode cX8_count 136 = .ok (.bipush 6, 2) := by decide +kernel
theorem dX8_count_138 : decode cX8_count 138 = .ok (.iaload, 1) := by decide +kernel
theorem dX8_count_139 : decode cX8_count 139 = .ok (.ireturn, 1) := by decide +kernel
theorem dX8_count_140 : decode cX8_count 140 = .ok (.iload_n 3, 1) := by decide +kernel
theorem dX8_count_141 : decode cX8_count 141 = .ok (.ireturn, 1) := by decide +kernel
theorem dX8_count_142 : decode cX8_count 142 = .ok (.aload_n 0, 1) := by decide +kernel
theorem dX8_count_143 : decode cX8_count 143 = .ok (.getfield 22, 3) := by decide +kernel
theorem dX8_count_146 : decode cX8_count 146 = .ok (.invokestatic 179, 3) := by decide +kernel
theorem dX8_count_149 : decode cX8_count 149 = .ok (.ireturn, 1) := by decide +kernel
theorem dX8_count_150 : decode cX8_count 150 = .ok (.aload_n 0, 1) := by decide +kernel
theorem dX8_count_151 : decode cX8_count 151 = .ok (.getfield 141, 3) := by decide +kernel
theorem dX8_count_154 : decode cX8_count 154 = .ok (.ireturn, 1) := by decide +kernel
theorem dX8_count_155 : decode cX8_count 155 = .ok (.aload_n 0, 1) := by decide +kernel
theorem dX8_count_156 : decode cX8_count 156 = .ok (.getfield 77, 3) := by decide +kernel
theorem dX8_count_159 : decode cX8_count 159 = .ok (.ireturn, 1) := by decide +kernel
theorem dX8_count_160 : decode cX8_count 160 = .ok (.ldc 67, 2) := by decide +kernel
theorem dX8_count_162 : decode cX8_count 162 = .ok (.ireturn, 1) := by decide +kernel
theorem dX8_status_0 : decode cX8_status 0 = .ok (.aload_n 0, 1) := by decide +kernel
theorem dX8_status_1 : decode cX8_status 1 = .ok (.getfield 50, 3) := by decide +kernel
theorem dX8_status_4 : decode cX8_status 4 = .ok (.ireturn, 1) := by decide +kernel
