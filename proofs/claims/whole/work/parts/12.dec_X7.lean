theorem dX7_init_0 : decode cX7_init 0 = .ok (.aload_n 0, 1) := by decide +kernel
theorem dX7_init_1 : decode cX7_init 1 = .ok (.invokespecial 1, 3) := by decide +kernel
theorem dX7_init_4 : decode cX7_init 4 = .ok (.aload_n 0, 1) := by decide +kernel
theorem dX7_init_5 : decode cX7_init 5 = .ok (.bipush 8, 2) := by decide +kernel
theorem dX7_init_7 : decode cX7_init 7 = .ok (.anewarray 9, 3) := by decide +kernel
theorem dX7_init_10 : decode cX7_init 10 = .ok (.putfield 11, 3) := by decide +kernel
theorem dX7_init_13 : decode cX7_init 13 = .ok (.iconst 0, 1) := by decide +kernel
theorem dX7_init_14 : decode cX7_init 14 = .ok (.istore_n 1, 1) := by decide +kernel
theorem dX7_init_15 : decode cX7_init 15 = .ok (.iload_n 1, 1) := by decide +kernel
theorem dX7_init_16 : decode cX7_init 16 = .ok (.bipush 8, 2) := by decide +kernel
theorem dX7_init_18 : decode cX7_init 18 = .ok (.if_icmp .ge 22, 3) := by decide +kernel
theorem dX7_init_21 : decode cX7_init 21 = .ok (.aload_n 0, 1) := by decide +kernel
theorem dX7_init_22 : decode cX7_init 22 = .ok (.getfield 11, 3) := by decide +kernel
theorem dX7_init_25 : decode cX7_init 25 = .ok (.iload_n 1, 1) := by decide +kernel
theorem dX7_init_26 : decode cX7_init 26 = .ok (.new 9, 3) := by decide +kernel
theorem dX7_init_29 : decode cX7_init 29 = .ok (.dup, 1) := by decide +kernel
theorem dX7_init_30 : decode cX7_init 30 = .ok (.invokespecial 15, 3) := by decide +kernel
theorem dX7_init_33 : decode cX7_init 33 = .ok (.aastore, 1) := by decide +kernel
theorem dX7_init_34 : decode cX7_init 34 = .ok (.iinc 1 1, 3) := by decide +kernel
theorem dX7_init_37 : decode cX7_init 37 = .ok (.goto (-22), 3) := by decide +kernel
theorem dX7_init_40 : decode cX7_init 40 = .ok (.aload_n 0, 1) := by decide +kernel
theorem dX7_init_41 : decode cX7_init 41 = .ok (.new 16, 3) := by decide +kernel
theorem dX7_init_44 : decode cX7_init 44 = .ok (.dup, 1) := by decide +kernel
theorem dX7_init_45 : decode cX7_init 45 = .ok (.invokespecial 18, 3) := by decide +kernel
theorem dX7_init_48 : decode cX7_init 48 = .ok (.putfield 19, 3) := by decide +kernel
theorem dX7_init_51 : decode cX7_init 51 = .ok (.aload_n 0, 1) := by decide +kernel
theorem dX7_init_52 : decode cX7_init 52 = .ok (.new 23, 3) := by decide +kernel
theorem dX7_init_55 : decode cX7_init 55 = .ok (.dup, 1) := by decide +kernel
theorem dX7_init_56 : decode cX7_init 56 = .ok (.invokespecial 25, 3) := by decide +kernel
theorem dX7_init_59 : decode cX7_init 59 = .ok (.putfield 26, 3) := by decide +kernel
theorem dX7_init_62 : decode cX7_init 62 = .ok (.aload_n 0, 1) := by decide +kernel
theorem dX7_init_63 : decode cX7_init 63 = .ok (.new 23, 3) := by decide +kernel
theorem dX7_init_66 : decode cX7_init 66 = .ok (.dup, 1) := by decide +kernel
theorem dX7_init_67 : decode cX7_init 67 = .ok (.invokespecial 25, 3) := by decide +kernel
theorem dX7_init_70 : decode cX7_init 70 = .ok (.putfield 30, 3) := by decide +kernel
theorem dX7_init_73 : decode cX7_init 73 = .ok (.aload_n 0, 1) := by decide +kernel
theorem dX7_init_74 : decode cX7_init 74 = .ok (.new 33, 3) := by decide +kernel
theorem dX7_init_77 : decode cX7_init 77 = .ok (.dup, 1) := by decide +kernel
theorem dX7_init_78 : decode cX7_init 78 = .ok (.invokespecial 35, 3) := by decide +kernel
theorem dX7_init_81 : decode cX7_init 81 = .ok (.putfield 36, 3) := by decide +kernel
theorem dX7_init_84 : decode cX7_init 84 = .ok (.aload_n 0, 1) := by decide +kernel
theorem dX7_init_85 : decode cX7_init 85 = .ok (.iconst 2, 1) := by decide +kernel
theorem dX7_init_86 : decode cX7_init 86 = .ok (.anewarray 23, 3) := by decide +kernel
theorem dX7_init_89 : decode cX7_init 89 = .ok (.putfield 40, 3) := by decide +kernel
theorem dX7_init_92 : decode cX7_init 92 = .ok (.iconst 0, 1) := by decide +kernel
theorem dX7_init_93 : decode cX7_init 93 = .ok (.istore_n 1, 1) := by decide +kernel
theorem dX7_init_94 : decode cX7_init 94 = .ok (.iload_n 1, 1) := by decide +kernel
theorem dX7_init_95 : decode cX7_init 95 = .ok (.iconst 2, 1) := by decide +kernel
theorem dX7_init_96 : decode cX7_init 96 = .ok (.if_icmp .ge 22, 3) := by decide +kernel
theorem dX7_init_99 : decode cX7_init 99 = .ok (.aload_n 0, 1) := by decide +kernel
theorem dX7_init_100 : decode cX7_init 100 = .ok (.getfield 40, 3) := by decide +kernel
theorem dX7_init_103 : decode cX7_init 103 = .ok (.iload_n 1, 1) := by decide +kernel
theorem dX7_init_104 : decode cX7_init 104 = .ok (.new 23, 3) := by decide +kernel
theorem dX7_init_107 : decode cX7_init 107 = .ok (.dup, 1) := by decide +kernel
theorem dX7_init_108 : decode cX7_init 108 = .ok (.invokespecial 25, 3) := by decide +kernel
theorem dX7_init_111 : decode cX7_init 111 = .ok (.aastore, 1) := by decide +kernel
theorem dX7_init_112 : decode cX7_init 112 = .ok (.iinc 1 1, 3) := by decide +kernel
theorem dX7_init_115 : decode cX7_init 115 = .ok (.goto (-21), 3) := by decide +kernel
theorem dX7_init_118 : decode cX7_init 118 = .ok (.aload_n 0, 1) := by decide +kernel
theorem dX7_init_119 : decode cX7_init 119 = .ok (.new 44, 3) := by decide +kernel
theorem dX7_init_122 : decode cX7_init 122 = .ok (.dup, 1) := by decide +kernel
theorem dX7_init_123 : decode cX7_init 123 = .ok (.aload_n 0, 1) := by decide +kernel
theorem dX7_init_124 : decode cX7_init 124 = .ok (.getfield 30, 3) := by decide +kernel
theorem dX7_init_127 : decode cX7_init 127 = .ok (.invokespecial 46, 3) := by decide +kernel
theorem dX7_init_130 : decode cX7_init 130 = .ok (.putfield 49, 3) := by decide +kernel
theorem dX7_init_133 : decode cX7_init 133 = .ok (.aload_n 0, 1) := by decide +kernel
theorem dX7_init_134 : decode cX7_init 134 = .ok (.new 53, 3) := by decide +kernel
theorem dX7_init_137 : decode cX7_init 137 = .ok (.dup, 1) := by decide +kernel
theorem dX7_init_138 : decode cX7_init 138 = .ok (.aload_n 0, 1) := by decide +kernel
theorem dX7_init_139 : decode cX7_init 139 = .ok (.getfield 30, 3) := by decide +kernel
theorem dX7_init_142 : decode cX7_init 142 = .ok (.invokespecial 55, 3) := by decide +kernel
theorem dX7_init_145 : decode cX7_init 145 = .ok (.putfield 56, 3) := by decide +kernel
theorem dX7_init_148 : decode cX7_init 148 = .ok (.aload_n 0, 1) := by decide +kernel
theorem dX7_init_149 : decode cX7_init 149 = .ok (.iconst 0, 1) := by decide +kernel
theorem dX7_init_150 : decode cX7_init 150 = .ok (.putfield 60, 3) := by decide +kernel
theorem dX7_init_153 : decode cX7_init 153 = .ok (.aload_n 0, 1) := by decide +kernel
theorem dX7_init_154 : decode cX7_init 154 = .ok (.iconst 0, 1) := by decide +kernel
theorem dX7_init_155 : decode cX7_init 155 = .ok (.putfield 64, 3) := by decide +kernel
theorem dX7_init_158 : decode cX7_init 158 = .ok (.return_, 1) := by decide +kernel
theorem dX7_row_0 : decode cX7_row 0 = .ok (.iload_n 1, 1) := by decide +kernel
theorem dX7_row_1 : decode cX7_row 1 = .ok (.invokestatic 67, 3) := by decide +kernel
theorem dX7_row_4 : decode cX7_row 4 = .ok (.ifCond .eq 18, 3) := by decide +kernel
theorem dX7_row_7 : decode cX7_row 7 = .ok (.iload_n 2, 1) := by decide +kernel
theorem dX7_row_8 : decode cX7_row 8 = .ok (.iconst 0, 1) := by decide +kernel
theorem dX7_row_9 : decode cX7_row 9 = .ok (.iconst 2, 1) := by decide +kernel
theorem dX7_row_10 : decode cX7_row 10 = .ok (.invokestatic 71, 3) := by decide +kernel
theorem dX7_row_13 : decode cX7_row 13 = .ok (.ifCond .eq 9, 3) := by decide +kernel
theorem dX7_row_16 : decode cX7_row 16 = .ok (.iload_n 3, 1) := by decide +kernel
theorem dX7_row_17 : decode cX7_row 17 = .ok (.bipush 40, 2) := by decide +kernel
theorem dX7_row_19 : decode cX7_row 19 = .ok (.if_icmp .le 6, 3) := by decide +kernel
theorem dX7_row_22 : decode cX7_row 22 = .ok (.ldc 75, 2) := by decide +kernel
theorem dX7_row_24 : decode cX7_row 24 = .ok (.ireturn, 1) := by decide +kernel
theorem dX7_row_25 : decode cX7_row 25 = .ok (.iload_n 3, 1) := by decide +kernel
theorem dX7_row_26 : decode cX7_row 26 = .ok (.ifCond .ge 9, 3) := by decide +kernel
theorem dX7_row_29 : decode cX7_row 29 = .ok (.aload_n 0, 1) := by decide +kernel
theorem dX7_row_30 : decode cX7_row 30 = .ok (.iconst 4, 1) := by decide +kernel
theorem dX7_row_31 : decode cX7_row 31 = .ok (.invokevirtual 76, 3) := by decide +kernel
theorem dX7_row_34 : decode cX7_row 34 = .ok (.ireturn, 1) := by decide +kernel
theorem dX7_row_35 : decode cX7_row 35 = .ok (.aload_n 0, 1) := by decide +kernel
theorem dX7_row_36 : decode cX7_row 36 = .ok (.getfield 11, 3) := by decide +kernel
theorem dX7_row_39 : decode cX7_row 39 = .ok (.iload_n 1, 1) := by decide +kernel
theorem dX7_row_40 : decode cX7_row 40 = .ok (.aaload, 1) := by decide +kernel
theorem dX7_row_41 : decode cX7_row 41 = .ok (.iload_n 2, 1) := by decide +kernel
theorem dX7_row_42 : decode cX7_row 42 = .ok (.iload_n 3, 1) := by decide +kernel
theorem dX7_row_43 : decode cX7_row 43 = .ok (.invokevirtual 80, 3) := by decide +kernel
theorem dX7_row_46 : decode cX7_row 46 = .ok (.aload_n 0, 1) := by decide +kernel
theorem dX7_row_47 : decode cX7_row 47 = .ok (.iload_n 3, 1) := by decide +kernel
theorem dX7_row_48 : decode cX7_row 48 = .ok (.invokevirtual 84, 3) := by decide +kernel
theorem dX7_row_51 : decode cX7_row 51 = .ok (.ireturn, 1) := by decide +kernel
theorem dX7_set_0 : decode cX7_set 0 = .ok (.iload_n 1, 1) := by decide +kernel
theorem dX7_set_1 : decode cX7_set 1 = .ok (.invokestatic 67, 3) := by decide +kernel
theorem dX7_set_4 : decode cX7_set 4 = .ok (.ifCond .ne 6, 3) := by decide +kernel
theorem dX7_set_7 : decode cX7_set 7 = .ok (.ldc 75, 2) := by decide +kernel
theorem dX7_set_9 : decode cX7_set 9 = .ok (.ireturn, 1) := by decide +kernel
theorem dX7_set_10 : decode cX7_set 10 = .ok (.aload_n 0, 1) := by decide +kernel
theorem dX7_set_11 : decode cX7_set 11 = .ok (.getfield 11, 3) := by decide +kernel
theorem dX7_set_14 : decode cX7_set 14 = .ok (.iload_n 1, 1) := by decide +kernel
theorem dX7_set_15 : decode cX7_set 15 = .ok (.aaload, 1) := by decide +kernel
theorem dX7_set_16 : decode cX7_set 16 = .ok (.iload_n 2, 1) := by decide +kernel
theorem dX7_set_17 : decode cX7_set 17 = .ok (.iconst 1, 1) := by decide +kernel
theorem dX7_set_18 : decode cX7_set 18 = .ok (.invokevirtual 87, 3) := by decide +kernel
theorem dX7_set_21 : decode cX7_set 21 = .ok (.istore 4, 2) := by decide +kernel
theorem dX7_set_23 : decode cX7_set 23 = .ok (.iload 4, 2) := by decide +kernel
theorem dX7_set_25 : decode cX7_set 25 = .ok (.ifCond .eq 10, 3) := by decide +kernel
theorem dX7_set_28 : decode cX7_set 28 = .ok (.aload_n 0, 1) := by decide +kernel
theorem dX7_set_29 : decode cX7_set 29 = .ok (.iload 4, 2) := by decide +kernel
theorem dX7_set_31 : decode cX7_set 31 = .ok (.invokevirtual 76, 3) := by decide +kernel
theorem dX7_set_34 : decode cX7_set 34 = .ok (.ireturn, 1) := by decide +kernel
theorem dX7_set_35 : decode cX7_set 35 = .ok (.aload_n 0, 1) := by decide +kernel
theorem dX7_set_36 : decode cX7_set 36 = .ok (.aload_n 0, 1) := by decide +kernel
theorem dX7_set_37 : decode cX7_set 37 = .ok (.getfield 11, 3) := by decide +kernel
theorem dX7_set_40 : decode cX7_set 40 = .ok (.iload_n 1, 1) := by decide +kernel
theorem dX7_set_41 : decode cX7_set 41 = .ok (.aaload, 1) := by decide +kernel
theorem dX7_set_42 : decode cX7_set 42 = .ok (.iload_n 2, 1) := by decide +kernel
theorem dX7_set_43 : decode cX7_set 43 = .ok (.iload_n 3, 1) := by decide +kernel
theorem dX7_set_44 : decode cX7_set 44 = .ok (.invokevirtual 91, 3) := by decide +kernel
theorem dX7_set_47 : decode cX7_set 47 = .ok (.invokevirtual 84, 3) := by decide +kernel
theorem dX7_set_50 : decode cX7_set 50 = .ok (.ireturn, 1) := by decide +kernel
theorem dX7_copy_0 : decode cX7_copy 0 = .ok (.iload_n 1, 1) := by decide +kernel
theorem dX7_copy_1 : decode cX7_copy 1 = .ok (.invokestatic 67, 3) := by decide +kernel
theorem dX7_copy_4 : decode cX7_copy 4 = .ok (.ifCond .eq 10, 3) := by decide +kernel
theorem dX7_copy_7 : decode cX7_copy 7 = .ok (.iload_n 3, 1) := by decide +kernel
theorem dX7_copy_8 : decode cX7_copy 8 = .ok (.invokestatic 67, 3) := by decide +kernel
theorem dX7_copy_11 : decode cX7_copy 11 = .ok (.ifCond .ne 6, 3) := by decide +kernel
theorem dX7_copy_14 : decode cX7_copy 14 = .ok (.ldc 75, 2) := by decide +kernel
theorem dX7_copy_16 : decode cX7_copy 16 = .ok (.ireturn, 1) := by decide +kernel
theorem dX7_copy_17 : decode cX7_copy 17 = .ok (.aload_n 0, 1) := by decide +kernel
theorem dX7_copy_18 : decode cX7_copy 18 = .ok (.getfield 11, 3) := by decide +kernel
theorem dX7_copy_21 : decode cX7_copy 21 = .ok (.iload_n 1, 1) := by decide +kernel
theorem dX7_copy_22 : decode cX7_copy 22 = .ok (.aaload, 1) := by decide +kernel
theorem dX7_copy_23 : decode cX7_copy 23 = .ok (.astore 6, 2) := by decide +kernel
theorem dX7_copy_25 : decode cX7_copy 25 = .ok (.aload_n 0, 1) := by decide +kernel
theorem dX7_copy_26 : decode cX7_copy 26 = .ok (.getfield 11, 3) := by decide +kernel
theorem dX7_copy_29 : decode cX7_copy 29 = .ok (.iload_n 3, 1) := by decide +kernel
theorem dX7_copy_30 : decode cX7_copy 30 = .ok (.aaload, 1) := by decide +kernel
theorem dX7_copy_31 : decode cX7_copy 31 = .ok (.astore 7, 2) := by decide +kernel
theorem dX7_copy_33 : decode cX7_copy 33 = .ok (.aload 6, 2) := by decide +kernel
theorem dX7_copy_35 : decode cX7_copy 35 = .ok (.getfield 94, 3) := by decide +kernel
theorem dX7_copy_38 : decode cX7_copy 38 = .ok (.ifCond .ne 11, 3) := by decide +kernel
theorem dX7_copy_41 : decode cX7_copy 41 = .ok (.aload 7, 2) := by decide +kernel
theorem dX7_copy_43 : decode cX7_copy 43 = .ok (.getfield 94, 3) := by decide +kernel
theorem dX7_copy_46 : decode cX7_copy 46 = .ok (.ifCond .eq 9, 3) := by decide +kernel
theorem dX7_copy_49 : decode cX7_copy 49 = .ok (.aload_n 0, 1) := by decide +kernel
theorem dX7_copy_50 : decode cX7_copy 50 = .ok (.iconst 1, 1) := by decide +kernel
theorem dX7_copy_51 : decode cX7_copy 51 = .ok (.invokevirtual 76, 3) := by decide +kernel
theorem dX7_copy_54 : decode cX7_copy 54 = .ok (.ireturn, 1) := by decide +kernel
theorem dX7_copy_55 : decode cX7_copy 55 = .ok (.aload 6, 2) := by decide +kernel
theorem dX7_copy_57 : decode cX7_copy 57 = .ok (.getfield 98, 3) := by decide +kernel
theorem dX7_copy_60 : decode cX7_copy 60 = .ok (.aload 7, 2) := by decide +kernel
theorem dX7_copy_62 : decode cX7_copy 62 = .ok (.getfield 98, 3) := by decide +kernel
theorem dX7_copy_65 : decode cX7_copy 65 = .ok (.if_icmp .eq 9, 3) := by decide +kernel
theorem dX7_copy_68 : decode cX7_copy 68 = .ok (.aload_n 0, 1) := by decide +kernel
theorem dX7_copy_69 : decode cX7_copy 69 = .ok (.iconst 5, 1) := by decide +kernel
theorem dX7_copy_70 : decode cX7_copy 70 = .ok (.invokevirtual 76, 3) := by decide +kernel
theorem dX7_copy_73 : decode cX7_copy 73 = .ok (.ireturn, 1) := by decide +kernel
theorem dX7_copy_74 : decode cX7_copy 74 = .ok (.aload 6, 2) := by decide +kernel
theorem dX7_copy_76 : decode cX7_copy 76 = .ok (.iload_n 2, 1) := by decide +kernel
theorem dX7_copy_77 : decode cX7_copy 77 = .ok (.iload 5, 2) := by decide +kernel
theorem dX7_copy_79 : decode cX7_copy 79 = .ok (.invokevirtual 101, 3) := by decide +kernel
theorem dX7_copy_82 : decode cX7_copy 82 = .ok (.ifCond .eq 15, 3) := by decide +kernel
theorem dX7_copy_85 : decode cX7_copy 85 = .ok (.aload 7, 2) := by decide +kernel
theorem dX7_copy_87 : decode cX7_copy 87 = .ok (.iload 4, 2) := by decide +kernel
theorem dX7_copy_89 : decode cX7_copy 89 = .ok (.iload 5, 2) := by decide +kernel
theorem dX7_copy_91 : decode cX7_copy 91 = .ok (.invokevirtual 101, 3) := by decide +kernel
theorem dX7_copy_94 : decode cX7_copy 94 = .ok (.ifCond .ne 9, 3) := by decide +kernel
theorem dX7_copy_97 : decode cX7_copy 97 = .ok (.aload_n 0, 1) := by decide +kernel
theorem dX7_copy_98 : decode cX7_copy 98 = .ok (.iconst 2, 1) := by decide +kernel
theorem dX7_copy_99 : decode cX7_copy 99 = .ok (.invokevirtual 76, 3) := by decide +kernel
theorem dX7_copy_102 : decode cX7_copy 102 = .ok (.ireturn, 1) := by decide +kernel
theorem dX7_copy_103 : decode cX7_copy 103 = .ok (.aload 6, 2) := by decide +kernel
theorem dX7_copy_105 : decode cX7_copy 105 = .ok (.getfield 105, 3) := by decide +kernel
theorem dX7_copy_108 : decode cX7_copy 108 = .ok (.iload_n 2, 1) := by decide +kernel
theorem dX7_copy_109 : decode cX7_copy 109 = .ok (.aload 7, 2) := by decide +kernel
theorem dX7_copy_111 : decode cX7_copy 111 = .ok (.getfield 105, 3) := by decide +kernel
theorem dX7_copy_114 : decode cX7_copy 114 = .ok (.iload 4, 2) := by decide +kernel
theorem dX7_copy_116 : decode cX7_copy 116 = .ok (.iload 5, 2) := by decide +kernel
theorem dX7_copy_118 : decode cX7_copy 118 = .ok (.invokestatic 109, 3) := by decide +kernel
theorem dX7_copy_121 : decode cX7_copy 121 = .ok (.aload_n 0, 1) := by decide +kernel
theorem dX7_copy_122 : decode cX7_copy 122 = .ok (.iload 5, 2) := by decide +kernel
theorem dX7_copy_124 : decode cX7_copy 124 = .ok (.invokevirtual 84, 3) := by decide +kernel
theorem dX7_copy_127 : decode cX7_copy 127 = .ok (.ireturn, 1) := by decide +kernel
theorem dX7_drop_0 : decode cX7_drop 0 = .ok (.iload_n 1, 1) := by decide +kernel
theorem dX7_drop_1 : decode cX7_drop 1 = .ok (.invokestatic 67, 3) := by decide +kernel
theorem dX7_drop_4 : decode cX7_drop 4 = .ok (.ifCond .ne 6, 3) := by decide +kernel
theorem dX7_drop_7 : decode cX7_drop 7 = .ok (.ldc 75, 2) := by decide +kernel
theorem dX7_drop_9 : decode cX7_drop 9 = .ok (.ireturn, 1) := by decide +kernel
theorem dX7_drop_10 : decode cX7_drop 10 = .ok (.aload_n 0, 1) := by decide +kernel
theorem dX7_drop_11 : decode cX7_drop 11 = .ok (.getfield 11, 3) := by decide +kernel
theorem dX7_drop_14 : decode cX7_drop 14 = .ok (.iload_n 1, 1) := by decide +kernel
theorem dX7_drop_15 : decode cX7_drop 15 = .ok (.aaload, 1) := by decide +kernel
theorem dX7_drop_16 : decode cX7_drop 16 = .ok (.getfield 94, 3) := by decide +kernel
theorem dX7_drop_19 : decode cX7_drop 19 = .ok (.ifCond .eq 9, 3) := by decide +kernel
theorem dX7_drop_22 : decode cX7_drop 22 = .ok (.aload_n 0, 1) := by decide +kernel
theorem dX7_drop_23 : decode cX7_drop 23 = .ok (.iconst 1, 1) := by decide +kernel
theorem dX7_drop_24 : decode cX7_drop 24 = .ok (.invokevirtual 76, 3) := by decide +kernel
theorem dX7_drop_27 : decode cX7_drop 27 = .ok (.ireturn, 1) := by decide +kernel
theorem dX7_drop_28 : decode cX7_drop 28 = .ok (.aload_n 0, 1) := by decide +kernel
theorem dX7_drop_29 : decode cX7_drop 29 = .ok (.getfield 11, 3) := by decide +kernel
theorem dX7_drop_32 : decode cX7_drop 32 = .ok (.iload_n 1, 1) := by decide +kernel
theorem dX7_drop_33 : decode cX7_drop 33 = .ok (.aaload, 1) := by decide +kernel
theorem dX7_drop_34 : decode cX7_drop 34 = .ok (.iconst 1, 1) := by decide +kernel
theorem dX7_drop_35 : decode cX7_drop 35 = .ok (.putfield 94, 3) := by decide +kernel
theorem dX7_drop_38 : decode cX7_drop 38 = .ok (.aload_n 0, 1) := by decide +kernel
theorem dX7_drop_39 : decode cX7_drop 39 = .ok (.aload_n 0, 1) := by decide +kernel
theorem dX7_drop_40 : decode cX7_drop 40 = .ok (.getfield 11, 3) := by decide +kernel
theorem dX7_drop_43 : decode cX7_drop 43 = .ok (.iload_n 1, 1) := by decide +kernel
theorem dX7_drop_44 : decode cX7_drop 44 = .ok (.aaload, 1) := by decide +kernel
theorem dX7_drop_45 : decode cX7_drop 45 = .ok (.getfield 115, 3) := by decide +kernel
theorem dX7_drop_48 : decode cX7_drop 48 = .ok (.invokevirtual 84, 3) := by decide +kernel
theorem dX7_drop_51 : decode cX7_drop 51 = .ok (.ireturn, 1) := by decide +kernel
theorem dX7_feed_0 : decode cX7_feed 0 = .ok (.iload_n 1, 1) := by decide +kernel
theorem dX7_feed_1 : decode cX7_feed 1 = .ok (.iconst 0, 1) := by decide +kernel
theorem dX7_feed_2 : decode cX7_feed 2 = .ok (.sipush 255, 3) := by decide +kernel
theorem dX7_feed_5 : decode cX7_feed 5 = .ok (.invokestatic 71, 3) := by decide +kernel
theorem dX7_feed_8 : decode cX7_feed 8 = .ok (.ifCond .ne 6, 3) := by decide +kernel
theorem dX7_feed_11 : decode cX7_feed 11 = .ok (.ldc 75, 2) := by decide +kernel
theorem dX7_feed_13 : decode cX7_feed 13 = .ok (.ireturn, 1) := by decide +kernel
theorem dX7_feed_14 : decode cX7_feed 14 = .ok (.aload_n 0, 1) := by decide +kernel
theorem dX7_feed_15 : decode cX7_feed 15 = .ok (.getfield 19, 3) := by decide +kernel
theorem dX7_feed_18 : decode cX7_feed 18 = .ok (.iload_n 1, 1) := by decide +kernel
theorem dX7_feed_19 : decode cX7_feed 19 = .ok (.invokevirtual 118, 3) := by decide +kernel
theorem dX7_feed_22 : decode cX7_feed 22 = .ok (.ireturn, 1) := by decide +kernel
theorem dX7_sky_0 : decode cX7_sky 0 = .ok (.aload_n 0, 1) := by decide +kernel
theorem dX7_sky_1 : decode cX7_sky 1 = .ok (.getfield 19, 3) := by decide +kernel
theorem dX7_sky_4 : decode cX7_sky 4 = .ok (.aload_n 0, 1) := by decide +kernel
theorem dX7_sky_5 : decode cX7_sky 5 = .ok (.getfield 26, 3) := by decide +kernel
theorem dX7_sky_8 : decode cX7_sky 8 = .ok (.invokevirtual 121, 3) := by decide +kernel
theorem dX7_sky_11 : decode cX7_sky 11 = .ok (.istore_n 1, 1) := by decide +kernel
theorem dX7_sky_12 : decode cX7_sky 12 = .ok (.iload_n 1, 1) := by decide +kernel
theorem dX7_sky_13 : decode cX7_sky 13 = .ok (.ifCond .eq 19, 3) := by decide +kernel
theorem dX7_sky_16 : decode cX7_sky 16 = .ok (.aload_n 0, 1) := by decide +kernel
theorem dX7_sky_17 : decode cX7_sky 17 = .ok (.iload_n 1, 1) := by decide +kernel
theorem dX7_sky_18 : decode cX7_sky 18 = .ok (.putfield 60, 3) := by decide +kernel
theorem dX7_sky_21 : decode cX7_sky 21 = .ok (.ldc 125, 2) := by decide +kernel
theorem dX7_sky_23 : decode cX7_sky 23 = .ok (.aload_n 0, 1) := by decide +kernel
theorem dX7_sky_24 : decode cX7_sky 24 = .ok (.getfield 19, 3) := by decide +kernel
theorem dX7_sky_27 : decode cX7_sky 27 = .ok (.getfield 126, 3) := by decide +kernel
theorem dX7_sky_30 : decode cX7_sky 30 = .ok (.isub, 1) := by decide +kernel
theorem dX7_sky_31 : decode cX7_sky 31 = .ok (.ireturn, 1) := by decide +kernel
theorem dX7_sky_32 : decode cX7_sky 32 = .ok (.aload_n 0, 1) := by decide +kernel
theorem dX7_sky_33 : decode cX7_sky 33 = .ok (.getfield 30, 3) := by decide +kernel
theorem dX7_sky_36 : decode cX7_sky 36 = .ok (.aload_n 0, 1) := by decide +kernel
theorem dX7_sky_37 : decode cX7_sky 37 = .ok (.getfield 26, 3) := by decide +kernel
theorem dX7_sky_40 : decode cX7_sky 40 = .ok (.invokevirtual 129, 3) := by decide +kernel
theorem dX7_sky_43 : decode cX7_sky 43 = .ok (.aload_n 0, 1) := by decide +kernel
theorem dX7_sky_44 : decode cX7_sky 44 = .ok (.getfield 36, 3) := by decide +kernel
theorem dX7_sky_47 : decode cX7_sky 47 = .ok (.invokevirtual 132, 3) := by decide +kernel
theorem dX7_sky_50 : decode cX7_sky 50 = .ok (.aload_n 0, 1) := by decide +kernel
theorem dX7_sky_51 : decode cX7_sky 51 = .ok (.getfield 30, 3) := by decide +kernel
theorem dX7_sky_54 : decode cX7_sky 54 = .ok (.getfield 135, 3) := by decide +kernel
theorem dX7_sky_57 : decode cX7_sky 57 = .ok (.ireturn, 1) := by decide +kernel
theorem dX7_fault_0 : decode cX7_fault 0 = .ok (.aload_n 0, 1) := by decide +kernel
theorem dX7_fault_1 : decode cX7_fault 1 = .ok (.getfield 60, 3) := by decide +kernel
theorem dX7_fault_4 : decode cX7_fault 4 = .ok (.ireturn, 1) := by decide +kernel
theorem dX7_undo_0 : decode cX7_undo 0 = .ok (.aload_n 0, 1) := by decide +kernel
theorem dX7_undo_1 : decode cX7_undo 1 = .ok (.getfield 36, 3) := by decide +kernel
theorem dX7_undo_4 : decode cX7_undo 4 = .ok (.getfield 138, 3) := by decide +kernel
theorem dX7_undo_7 : decode cX7_undo 7 = .ok (.ifCond .ne 6, 3) := by decide +kernel
theorem dX7_undo_10 : decode cX7_undo 10 = .ok (.ldc 141, 2) := by decide +kernel
theorem dX7_undo_12 : decode cX7_undo 12 = .ok (.ireturn, 1) := by decide +kernel
theorem dX7_undo_13 : decode cX7_undo 13 = .ok (.aload_n 0, 1) := by decide +kernel
theorem dX7_undo_14 : decode cX7_undo 14 = .ok (.getfield 36, 3) := by decide +kernel
theorem dX7_undo_17 : decode cX7_undo 17 = .ok (.aload_n 0, 1) := by decide +kernel
theorem dX7_undo_18 : decode cX7_undo 18 = .ok (.getfield 30, 3) := by decide +kernel
theorem dX7_undo_21 : decode cX7_undo 21 = .ok (.invokevirtual 142, 3) := by decide +kernel
theorem dX7_undo_24 : decode cX7_undo 24 = .ok (.ireturn, 1) := by decide +kernel
theorem dX7_hours_0 : decode cX7_hours 0 = .ok (.aload_n 0, 1) := by decide +kernel
theorem dX7_hours_1 : decode cX7_hours 1 = .ok (.invokevirtual 145, 3) := by decide +kernel
theorem dX7_hours_4 : decode cX7_hours 4 = .ok (.ifCond .eq 6, 3) := by decide +kernel
theorem dX7_hours_7 : decode cX7_hours 7 = .ok (.ldc 141, 2) := by decide +kernel
theorem dX7_hours_9 : decode cX7_hours 9 = .ok (.ireturn, 1) := by decide +kernel
theorem dX7_hours_10 : decode cX7_hours 10 = .ok (.iload_n 1, 1) := by decide +kernel
theorem dX7_hours_11 : decode cX7_hours 11 = .ok (.iconst 1, 1) := by decide +kernel
theorem dX7_hours_12 : decode cX7_hours 12 = .ok (.bipush 24, 2) := by decide +kernel
theorem dX7_hours_14 : decode cX7_hours 14 = .ok (.invokestatic 71, 3) := by decide +kernel
theorem dX7_hours_17 : decode cX7_hours 17 = .ok (.ifCond .ne 6, 3) := by decide +kernel
theorem dX7_hours_20 : decode cX7_hours 20 = .ok (.ldc 75, 2) := by decide +kernel
theorem dX7_hours_22 : decode cX7_hours 22 = .ok (.ireturn, 1) := by decide +kernel
theorem dX7_hours_23 : decode cX7_hours 23 = .ok (.aload_n 0, 1) := by decide +kernel
theorem dX7_hours_24 : decode cX7_hours 24 = .ok (.getfield 30, 3) := by decide +kernel
theorem dX7_hours_27 : decode cX7_hours 27 = .ok (.getfield 149, 3) := by decide +kernel
theorem dX7_hours_30 : decode cX7_hours 30 = .ok (.iload_n 1, 1) := by decide +kernel
theorem dX7_hours_31 : decode cX7_hours 31 = .ok (.iadd, 1) := by decide +kernel
theorem dX7_hours_32 : decode cX7_hours 32 = .ok (.sipush 999, 3) := by decide +kernel
theorem dX7_hours_35 : decode cX7_hours 35 = .ok (.if_icmp .le 6, 3) := by decide +kernel
theorem dX7_hours_38 : decode cX7_hours 38 = .ok (.ldc 152, 2) := by decide +kernel
theorem dX7_hours_40 : decode cX7_hours 40 = .ok (.ireturn, 1) := by decide +kernel
theorem dX7_hours_41 : decode cX7_hours 41 = .ok (.iconst 0, 1) := by decide +kernel
theorem dX7_hours_42 : decode cX7_hours 42 = .ok (.istore_n 2, 1) := by decide +kernel
theorem dX7_hours_43 : decode cX7_hours 43 = .ok (.iload_n 2, 1) := by decide +kernel
theorem dX7_hours_44 : decode cX7_hours 44 = .ok (.iload_n 1, 1) := by decide +kernel
theorem dX7_hours_45 : decode cX7_hours 45 = .ok (.if_icmp .ge 27, 3) := by decide +kernel
theorem dX7_hours_48 : decode cX7_hours 48 = .ok (.aload_n 0, 1) := by decide +kernel
theorem dX7_hours_49 : decode cX7_hours 49 = .ok (.getfield 36, 3) := by decide +kernel
theorem dX7_hours_52 : decode cX7_hours 52 = .ok (.aload_n 0, 1) := by decide +kernel
theorem dX7_hours_53 : decode cX7_hours 53 = .ok (.getfield 30, 3) := by decide +kernel
theorem dX7_hours_56 : decode cX7_hours 56 = .ok (.invokevirtual 153, 3) := by decide +kernel
theorem dX7_hours_59 : decode cX7_hours 59 = .ok (.aload_n 0, 1) := by decide +kernel
theorem dX7_hours_60 : decode cX7_hours 60 = .ok (.getfield 30, 3) := by decide +kernel
theorem dX7_hours_63 : decode cX7_hours 63 = .ok (.invokevirtual 156, 3) := by decide +kernel
theorem dX7_hours_66 : decode cX7_hours 66 = .ok (.iinc 2 1, 3) := by decide +kernel
theorem dX7_hours_69 : decode cX7_hours 69 = .ok (.goto (-26), 3) := by decide +kernel
theorem dX7_hours_72 : decode cX7_hours 72 = .ok (.aload_n 0, 1) := by decide +kernel
theorem dX7_hours_73 : decode cX7_hours 73 = .ok (.getfield 30, 3) := by decide +kernel
theorem dX7_hours_76 : decode cX7_hours 76 = .ok (.invokevirtual 159, 3) := by decide +kernel
theorem dX7_hours_79 : decode cX7_hours 79 = .ok (.invokestatic 163, 3) := by decide +kernel
theorem dX7_hours_82 : decode cX7_hours 82 = .ok (.ireturn, 1) := by decide +kernel
theorem dX7_burn_0 : decode cX7_burn 0 = .ok (.aload_n 0, 1) := by decide +kernel
theorem dX7_burn_1 : decode cX7_burn 1 = .ok (.iload_n 1, 1) := by decide +kernel
theorem dX7_burn_2 : decode cX7_burn 2 = .ok (.invokevirtual 168, 3) := by decide +kernel
theorem dX7_burn_5 : decode cX7_burn 5 = .ok (.ifCond .eq 13, 3) := by decide +kernel
theorem dX7_burn_8 : decode cX7_burn 8 = .ok (.iload_n 2, 1) := by decide +kernel
theorem dX7_burn_9 : decode cX7_burn 9 = .ok (.iconst 1, 1) := by decide +kernel
theorem dX7_burn_10 : decode cX7_burn 10 = .ok (.bipush 20, 2) := by decide +kernel
theorem dX7_burn_12 : decode cX7_burn 12 = .ok (.invokestatic 71, 3) := by decide +kernel
theorem dX7_burn_15 : decode cX7_burn 15 = .ok (.ifCond .ne 6, 3) := by decide +kernel
theorem dX7_burn_18 : decode cX7_burn 18 = .ok (.ldc 75, 2) := by decide +kernel
theorem dX7_burn_20 : decode cX7_burn 20 = .ok (.ireturn, 1) := by decide +kernel
theorem dX7_burn_21 : decode cX7_burn 21 = .ok (.aload_n 0, 1) := by decide +kernel
theorem dX7_burn_22 : decode cX7_burn 22 = .ok (.getfield 30, 3) := by decide +kernel
theorem dX7_burn_25 : decode cX7_burn 25 = .ok (.getfield 171, 3) := by decide +kernel
theorem dX7_burn_28 : decode cX7_burn 28 = .ok (.iload_n 1, 1) := by decide +kernel
theorem dX7_burn_29 : decode cX7_burn 29 = .ok (.iaload, 1) := by decide +kernel
theorem dX7_burn_30 : decode cX7_burn 30 = .ok (.iload_n 2, 1) := by decide +kernel
theorem dX7_burn_31 : decode cX7_burn 31 = .ok (.if_icmp .ge 6, 3) := by decide +kernel
theorem dX7_burn_34 : decode cX7_burn 34 = .ok (.ldc 141, 2) := by decide +kernel
theorem dX7_burn_36 : decode cX7_burn 36 = .ok (.ireturn, 1) := by decide +kernel
theorem dX7_burn_37 : decode cX7_burn 37 = .ok (.aload_n 0, 1) := by decide +kernel
theorem dX7_burn_38 : decode cX7_burn 38 = .ok (.getfield 36, 3) := by decide +kernel
theorem dX7_burn_41 : decode cX7_burn 41 = .ok (.aload_n 0, 1) := by decide +kernel
theorem dX7_burn_42 : decode cX7_burn 42 = .ok (.getfield 30, 3) := by decide +kernel
theorem dX7_burn_45 : decode cX7_burn 45 = .ok (.invokevirtual 153, 3) := by decide +kernel
theorem dX7_burn_48 : decode cX7_burn 48 = .ok (.aload_n 0, 1) := by decide +kernel
theorem dX7_burn_49 : decode cX7_burn 49 = .ok (.getfield 30, 3) := by decide +kernel
theorem dX7_burn_52 : decode cX7_burn 52 = .ok (.iload_n 1, 1) := by decide +kernel
theorem dX7_burn_53 : decode cX7_burn 53 = .ok (.iload_n 2, 1) := by decide +kernel
theorem dX7_burn_54 : decode cX7_burn 54 = .ok (.invokevirtual 174, 3) := by decide +kernel
theorem dX7_burn_57 : decode cX7_burn 57 = .ok (.aload_n 0, 1) := by decide +kernel
theorem dX7_burn_58 : decode cX7_burn 58 = .ok (.getfield 30, 3) := by decide +kernel
theorem dX7_burn_61 : decode cX7_burn 61 = .ok (.getfield 177, 3) := by decide +kernel
theorem dX7_burn_64 : decode cX7_burn 64 = .ok (.iload_n 1, 1) := by decide +kernel
theorem dX7_burn_65 : decode cX7_burn 65 = .ok (.iaload, 1) := by decide +kernel
theorem dX7_burn_66 : decode cX7_burn 66 = .ok (.ireturn, 1) := by decide +kernel
theorem dX7_send_0 : decode cX7_send 0 = .ok (.aload_n 0, 1) := by decide +kernel
theorem dX7_send_1 : decode cX7_send 1 = .ok (.iload_n 1, 1) := by decide +kernel
theorem dX7_send_2 : decode cX7_send 2 = .ok (.invokevirtual 168, 3) := by decide +kernel
theorem dX7_send_5 : decode cX7_send 5 = .ok (.ifCond .eq 26, 3) := by decide +kernel
theorem dX7_send_8 : decode cX7_send 8 = .ok (.aload_n 0, 1) := by decide +kernel
theorem dX7_send_9 : decode cX7_send 9 = .ok (.iload_n 2, 1) := by decide +kernel
theorem dX7_send_10 : decode cX7_send 10 = .ok (.invokevirtual 168, 3) := by decide +kernel
theorem dX7_send_13 : decode cX7_send 13 = .ok (.ifCond .eq 18, 3) := by decide +kernel
theorem dX7_send_16 : decode cX7_send 16 = .ok (.iload_n 1, 1) := by decide +kernel
theorem dX7_send_17 : decode cX7_send 17 = .ok (.iload_n 2, 1) := by decide +kernel
theorem dX7_send_18 : decode cX7_send 18 = .ok (.if_icmp .eq 13, 3) := by decide +kernel
theorem dX7_send_21 : decode cX7_send 21 = .ok (.iload_n 3, 1) := by decide +kernel
theorem dX7_send_22 : decode cX7_send 22 = .ok (.iconst 1, 1) := by decide +kernel
theorem dX7_send_23 : decode cX7_send 23 = .ok (.bipush 60, 2) := by decide +kernel
theorem dX7_send_25 : decode cX7_send 25 = .ok (.invokestatic 71, 3) := by decide +kernel
theorem dX7_send_28 : decode cX7_send 28 = .ok (.ifCond .ne 6, 3) := by decide +kernel
theorem dX7_send_31 : decode cX7_send 31 = .ok (.ldc 75, 2) := by decide +kernel
theorem dX7_send_33 : decode cX7_send 33 = .ok (.ireturn, 1) := by decide +kernel
theorem dX7_send_34 : decode cX7_send 34 = .ok (.aload_n 0, 1) := by decide +kernel
theorem dX7_send_35 : decode cX7_send 35 = .ok (.getfield 30, 3) := by decide +kernel
theorem dX7_send_38 : decode cX7_send 38 = .ok (.getfield 180, 3) := by decide +kernel
theorem dX7_send_41 : decode cX7_send 41 = .ok (.iload_n 1, 1) := by decide +kernel
theorem dX7_send_42 : decode cX7_send 42 = .ok (.iaload, 1) := by decide +kernel
theorem dX7_send_43 : decode cX7_send 43 = .ok (.aload_n 0, 1) := by decide +kernel
theorem dX7_send_44 : decode cX7_send 44 = .ok (.getfield 30, 3) := by decide +kernel
theorem dX7_send_47 : decode cX7_send 47 = .ok (.getfield 180, 3) := by decide +kernel
theorem dX7_send_50 : decode cX7_send 50 = .ok (.iload_n 2, 1) := by decide +kernel
theorem dX7_send_51 : decode cX7_send 51 = .ok (.iaload, 1) := by decide +kernel
theorem dX7_send_52 : decode cX7_send 52 = .ok (.if_icmp .ne 16, 3) := by decide +kernel
theorem dX7_send_55 : decode cX7_send 55 = .ok (.aload_n 0, 1) := by decide +kernel
theorem dX7_send_56 : decode cX7_send 56 = .ok (.getfield 30, 3) := by decide +kernel
theorem dX7_send_59 : decode cX7_send 59 = .ok (.getfield 171, 3) := by decide +kernel
theorem dX7_send_62 : decode cX7_send 62 = .ok (.iload_n 1, 1) := by decide +kernel
theorem dX7_send_63 : decode cX7_send 63 = .ok (.iaload, 1) := by decide +kernel
theorem dX7_send_64 : decode cX7_send 64 = .ok (.iload_n 3, 1) := by decide +kernel
theorem dX7_send_65 : decode cX7_send 65 = .ok (.if_icmp .ge 6, 3) := by decide +kernel
theorem dX7_send_68 : decode cX7_send 68 = .ok (.ldc 141, 2) := by decide +kernel
theorem dX7_send_70 : decode cX7_send 70 = .ok (.ireturn, 1) := by decide +kernel
theorem dX7_send_71 : decode cX7_send 71 = .ok (.aload_n 0, 1) := by decide +kernel
theorem dX7_send_72 : decode cX7_send 72 = .ok (.getfield 30, 3) := by decide +kernel
theorem dX7_send_75 : decode cX7_send 75 = .ok (.getfield 171, 3) := by decide +kernel
theorem dX7_send_78 : decode cX7_send 78 = .ok (.iload_n 2, 1) := by decide +kernel
theorem dX7_send_79 : decode cX7_send 79 = .ok (.iaload, 1) := by decide +kernel
theorem dX7_send_80 : decode cX7_send 80 = .ok (.iload_n 3, 1) := by decide +kernel
theorem dX7_send_81 : decode cX7_send 81 = .ok (.iadd, 1) := by decide +kernel
theorem dX7_send_82 : decode cX7_send 82 = .ok (.bipush 99, 2) := by decide +kernel
theorem dX7_send_84 : decode cX7_send 84 = .ok (.if_icmp .le 6, 3) := by decide +kernel
theorem dX7_send_87 : decode cX7_send 87 = .ok (.ldc 152, 2) := by decide +kernel
theorem dX7_send_89 : decode cX7_send 89 = .ok (.ireturn, 1) := by decide +kernel
theorem dX7_send_90 : decode cX7_send 90 = .ok (.aload_n 0, 1) := by decide +kernel
theorem dX7_send_91 : decode cX7_send 91 = .ok (.getfield 36, 3) := by decide +kernel
theorem dX7_send_94 : decode cX7_send 94 = .ok (.aload_n 0, 1) := by decide +kernel
theorem dX7_send_95 : decode cX7_send 95 = .ok (.getfield 30, 3) := by decide +kernel
theorem dX7_send_98 : decode cX7_send 98 = .ok (.invokevirtual 153, 3) := by decide +kernel
theorem dX7_send_101 : decode cX7_send 101 = .ok (.aload_n 0, 1) := by decide +kernel
theorem dX7_send_102 : decode cX7_send 102 = .ok (.getfield 30, 3) := by decide +kernel
theorem dX7_send_105 : decode cX7_send 105 = .ok (.getfield 171, 3) := by decide +kernel
theorem dX7_send_108 : decode cX7_send 108 = .ok (.iload_n 1, 1) := by decide +kernel
theorem dX7_send_109 : decode cX7_send 109 = .ok (.dup2, 1) := by decide +kernel
theorem dX7_send_110 : decode cX7_send 110 = .ok (.iaload, 1) := by decide +kernel
theorem dX7_send_111 : decode cX7_send 111 = .ok (.iload_n 3, 1) := by decide +kernel
theorem dX7_send_112 : decode cX7_send 112 = .ok (.isub, 1) := by decide +kernel
theorem dX7_send_113 : decode cX7_send 113 = .ok (.iastore, 1) := by decide +kernel
theorem dX7_send_114 : decode cX7_send 114 = .ok (.aload_n 0, 1) := by decide +kernel
theorem dX7_send_115 : decode cX7_send 115 = .ok (.getfield 30, 3) := by decide +kernel
theorem dX7_send_118 : decode cX7_send 118 = .ok (.getfield 171, 3) := by decide +kernel
theorem dX7_send_121 : decode cX7_send 121 = .ok (.iload_n 2, 1) := by decide +kernel
theorem dX7_send_122 : decode cX7_send 122 = .ok (.dup2, 1) := by decide +kernel
theorem dX7_send_123 : decode cX7_send 123 = .ok (.iaload, 1) := by decide +kernel
theorem dX7_send_124 : decode cX7_send 124 = .ok (.iload_n 3, 1) := by decide +kernel
theorem dX7_send_125 : decode cX7_send 125 = .ok (.iadd, 1) := by decide +kernel
theorem dX7_send_126 : decode cX7_send 126 = .ok (.iastore, 1) := by decide +kernel
theorem dX7_send_127 : decode cX7_send 127 = .ok (.aload_n 0, 1) := by decide +kernel
theorem dX7_send_128 : decode cX7_send 128 = .ok (.getfield 30, 3) := by decide +kernel
theorem dX7_send_131 : decode cX7_send 131 = .ok (.getfield 171, 3) := by decide +kernel
theorem dX7_send_134 : decode cX7_send 134 = .ok (.iload_n 2, 1) := by decide +kernel
theorem dX7_send_135 : decode cX7_send 135 = .ok (.iaload, 1) := by decide +kernel
theorem dX7_send_136 : decode cX7_send 136 = .ok (.ireturn, 1) := by decide +kernel
theorem dX7_wind_0 : decode cX7_wind 0 = .ok (.aload_n 0, 1) := by decide +kernel
theorem dX7_wind_1 : decode cX7_wind 1 = .ok (.invokevirtual 145, 3) := by decide +kernel
theorem dX7_wind_4 : decode cX7_wind 4 = .ok (.ifCond .eq 6, 3) := by decide +kernel
theorem dX7_wind_7 : decode cX7_wind 7 = .ok (.ldc 141, 2) := by decide +kernel
theorem dX7_wind_9 : decode cX7_wind 9 = .ok (.ireturn, 1) := by decide +kernel
theorem dX7_wind_10 : decode cX7_wind 10 = .ok (.iload_n 1, 1) := by decide +kernel
theorem dX7_wind_11 : decode cX7_wind 11 = .ok (.iconst 0, 1) := by decide +kernel
theorem dX7_wind_12 : decode cX7_wind 12 = .ok (.iconst 3, 1) := by decide +kernel
theorem dX7_wind_13 : decode cX7_wind 13 = .ok (.invokestatic 71, 3) := by decide +kernel
theorem dX7_wind_16 : decode cX7_wind 16 = .ok (.ifCond .eq 12, 3) := by decide +kernel
theorem dX7_wind_19 : decode cX7_wind 19 = .ok (.iload_n 2, 1) := by decide +kernel
theorem dX7_wind_20 : decode cX7_wind 20 = .ok (.iconst 0, 1) := by decide +kernel
theorem dX7_wind_21 : decode cX7_wind 21 = .ok (.iconst 4, 1) := by decide +kernel
theorem dX7_wind_22 : decode cX7_wind 22 = .ok (.invokestatic 71, 3) := by decide +kernel
theorem dX7_wind_25 : decode cX7_wind 25 = .ok (.ifCond .ne 6, 3) := by decide +kernel
theorem dX7_wind_28 : decode cX7_wind 28 = .ok (.ldc 75, 2) := by decide +kernel
theorem dX7_wind_30 : decode cX7_wind 30 = .ok (.ireturn, 1) := by decide +kernel
theorem dX7_wind_31 : decode cX7_wind 31 = .ok (.aload_n 0, 1) := by decide +kernel
theorem dX7_wind_32 : decode cX7_wind 32 = .ok (.getfield 30, 3) := by decide +kernel
theorem dX7_wind_35 : decode cX7_wind 35 = .ok (.getfield 183, 3) := by decide +kernel
theorem dX7_wind_38 : decode cX7_wind 38 = .ok (.iload_n 1, 1) := by decide +kernel
theorem dX7_wind_39 : decode cX7_wind 39 = .ok (.iaload, 1) := by decide +kernel
theorem dX7_wind_40 : decode cX7_wind 40 = .ok (.istore_n 3, 1) := by decide +kernel
theorem dX7_wind_41 : decode cX7_wind 41 = .ok (.aload_n 0, 1) := by decide +kernel
theorem dX7_wind_42 : decode cX7_wind 42 = .ok (.getfield 36, 3) := by decide +kernel
theorem dX7_wind_45 : decode cX7_wind 45 = .ok (.aload_n 0, 1) := by decide +kernel
theorem dX7_wind_46 : decode cX7_wind 46 = .ok (.getfield 30, 3) := by decide +kernel
theorem dX7_wind_49 : decode cX7_wind 49 = .ok (.invokevirtual 153, 3) := by decide +kernel
theorem dX7_wind_52 : decode cX7_wind 52 = .ok (.aload_n 0, 1) := by decide +kernel
theorem dX7_wind_53 : decode cX7_wind 53 = .ok (.getfield 30, 3) := by decide +kernel
theorem dX7_wind_56 : decode cX7_wind 56 = .ok (.getfield 183, 3) := by decide +kernel
theorem dX7_wind_59 : decode cX7_wind 59 = .ok (.iload_n 1, 1) := by decide +kernel
theorem dX7_wind_60 : decode cX7_wind 60 = .ok (.iload_n 2, 1) := by decide +kernel
theorem dX7_wind_61 : decode cX7_wind 61 = .ok (.iastore, 1) := by decide +kernel
theorem dX7_wind_62 : decode cX7_wind 62 = .ok (.iload_n 3, 1) := by decide +kernel
theorem dX7_wind_63 : decode cX7_wind 63 = .ok (.ireturn, 1) := by decide +kernel
theorem dX7_office_0 : decode cX7_office 0 = .ok (.aload_n 0, 1) := by decide +kernel
theorem dX7_office_1 : decode cX7_office 1 = .ok (.iload_n 1, 1) := by decide +kernel
theorem dX7_office_2 : decode cX7_office 2 = .ok (.invokevirtual 168, 3) := by decide +kernel
theorem dX7_office_5 : decode cX7_office 5 = .ok (.ifCond .ne 6, 3) := by decide +kernel
theorem dX7_office_8 : decode cX7_office 8 = .ok (.ldc 75, 2) := by decide +kernel
theorem dX7_office_10 : decode cX7_office 10 = .ok (.ireturn, 1) := by decide +kernel
theorem dX7_office_11 : decode cX7_office 11 = .ok (.iload_n 2, 1) := by decide +kernel
theorem dX7_office_12 : decode cX7_office 12 = .ok (.tableswitch 115 0 5 #[40, 50, 60, 70, 80, 93], 40) := by decide +kernel
theorem dX7_office_52 : decode cX7_office 52 = .ok (.aload_n 0, 1) := by decide +kernel
theorem dX7_office_53 : decode cX7_office 53 = .ok (.getfield 30, 3) := by decide +kernel
theorem dX7_office_56 : decode cX7_office 56 = .ok (.getfield 180, 3) := by decide +kernel
theorem dX7_office_59 : decode cX7_office 59 = .ok (.iload_n 1, 1) := by decide +kernel
theorem dX7_office_60 : decode cX7_office 60 = .ok (.iaload, 1) := by decide +kernel
theorem dX7_office_61 : decode cX7_office 61 = .ok (.ireturn, 1) := by decide +kernel
theorem dX7_office_62 : decode cX7_office 62 = .ok (.aload_n 0, 1) := by decide +kernel
theorem dX7_office_63 : decode cX7_office 63 = .ok (.getfield 30, 3) := by decide +kernel
theorem dX7_office_66 : decode cX7_office 66 = .ok (.getfield 177, 3) := by decide +kernel
theorem dX7_office_69 : decode cX7_office 69 = .ok (.iload_n 1, 1) := by decide +kernel
theorem dX7_office_70 : decode cX7_office 70 = .ok (.iaload, 1) := by decide +kernel
theorem dX7_office_71 : decode cX7_office 71 = .ok (.ireturn, 1) := by decide +kernel
theorem dX7_office_72 : decode cX7_office 72 = .ok (.aload_n 0, 1) := by decide +kernel
theorem dX7_office_73 : decode cX7_office 73 = .ok (.getfield 30, 3) := by decide +kernel
theorem dX7_office_76 : decode cX7_office 76 = .ok (.getfield 171, 3) := by decide +kernel
theorem dX7_office_79 : decode cX7_office 79 = .ok (.iload_n 1, 1) := by decide +kernel
theorem dX7_office_80 : decode cX7_office 80 = .ok (.iaload, 1) := by decide +kernel
theorem dX7_office_81 : decode cX7_office 81 = .ok (.ireturn, 1) := by decide +kernel
theorem dX7_office_82 : decode cX7_office 82 = .ok (.aload_n 0, 1) := by decide +kernel
theorem dX7_office_83 : decode cX7_office 83 = .ok (.getfield 30, 3) := by decide +kernel
theorem dX7_office_86 : decode cX7_office 86 = .ok (.getfield 186, 3) := by decide +kernel
theorem dX7_office_89 : decode cX7_office 89 = .ok (.iload_n 1, 1) := by decide +kernel
theorem dX7_office_90 : decode cX7_office 90 = .ok (.iaload, 1) := by decide +kernel
theorem dX7_office_91 : decode cX7_office 91 = .ok (.ireturn, 1) := by decide +kernel
theorem dX7_office_92 : decode cX7_office 92 = .ok (.aload_n 0, 1) := by decide +kernel
theorem dX7_office_93 : decode cX7_office 93 = .ok (.getfield 30, 3) := by decide +kernel
theorem dX7_office_96 : decode cX7_office 96 = .ok (.getfield 177, 3) := by decide +kernel
theorem dX7_office_99 : decode cX7_office 99 = .ok (.iload_n 1, 1) := by decide +kernel
theorem dX7_office_100 : decode cX7_office 100 = .ok (.iaload, 1) := by decide +kernel
theorem dX7_office_101 : decode cX7_office 101 = .ok (.invokestatic 189, 3) := by decide +kernel
theorem dX7_office_104 : decode cX7_office 104 = .ok (.ireturn, 1) := by decide +kernel
theorem dX7_office_105 : decode cX7_office 105 = .ok (.aload_n 0, 1) := by decide +kernel
theorem dX7_office_106 : decode cX7_office 106 = .ok (.getfield 30, 3) := by decide +kernel
theorem dX7_office_109 : decode cX7_office 109 = .ok (.getfield 192, 3) := by decide +kernel
theorem dX7_office_112 : decode cX7_office 112 = .ok (.iload_n 1, 1) := by decide +kernel
theorem dX7_office_113 : decode cX7_office 113 = .ok (.iaload, 1) := by decide +kernel
theorem dX7_office_114 : decode cX7_office 114 = .ok (.aload_n 0, 1) := by decide +kernel
theorem dX7_office_115 : decode cX7_office 115 = .ok (.getfield 30, 3) := by decide +kernel
theorem dX7_office_118 : decode cX7_office 118 = .ok (.getfield 177, 3) := by decide +kernel
theorem dX7_office_121 : decode cX7_office 121 = .ok (.iload_n 1, 1) := by decide +kernel
theorem dX7_office_122 : decode cX7_office 122 = .ok (.iaload, 1) := by decide +kernel
theorem dX7_office_123 : decode cX7_office 123 = .ok (.invokestatic 195, 3) := by decide +kernel
theorem dX7_office_126 : decode cX7_office 126 = .ok (.ireturn, 1) := by decide +kernel
theorem dX7_office_127 : decode cX7_office 127 = .ok (.ldc 75, 2) := by decide +kernel
theorem dX7_office_129 : decode cX7_office 129 = .ok (.ireturn, 1) := by decide +kernel
theorem dX7_land_0 : decode cX7_land 0 = .ok (.aload_n 0, 1) := by decide +kernel
theorem dX7_land_1 : decode cX7_land 1 = .ok (.invokevirtual 145, 3) := by decide +kernel
theorem dX7_land_4 : decode cX7_land 4 = .ok (.ifCond .eq 6, 3) := by decide +kernel
theorem dX7_land_7 : decode cX7_land 7 = .ok (.ldc 141, 2) := by decide +kernel
theorem dX7_land_9 : decode cX7_land 9 = .ok (.ireturn, 1) := by decide +kernel
theorem dX7_land_10 : decode cX7_land 10 = .ok (.iload_n 1, 1) := by decide +kernel
theorem dX7_land_11 : decode cX7_land 11 = .ok (.invokestatic 198, 3) := by decide +kernel
theorem dX7_land_14 : decode cX7_land 14 = .ok (.ifCond .eq 14, 3) := by decide +kernel
theorem dX7_land_17 : decode cX7_land 17 = .ok (.aload_n 0, 1) := by decide +kernel
theorem dX7_land_18 : decode cX7_land 18 = .ok (.getfield 30, 3) := by decide +kernel
theorem dX7_land_21 : decode cX7_land 21 = .ok (.iload_n 1, 1) := by decide +kernel
theorem dX7_land_22 : decode cX7_land 22 = .ok (.invokevirtual 201, 3) := by decide +kernel
theorem dX7_land_25 : decode cX7_land 25 = .ok (.goto 5, 3) := by decide +kernel
theorem dX7_land_28 : decode cX7_land 28 = .ok (.ldc 75, 2) := by decide +kernel
theorem dX7_land_30 : decode cX7_land 30 = .ok (.ireturn, 1) := by decide +kernel
theorem dX7_ahead_0 : decode cX7_ahead 0 = .ok (.aload_n 0, 1) := by decide +kernel
theorem dX7_ahead_1 : decode cX7_ahead 1 = .ok (.iload_n 1, 1) := by decide +kernel
theorem dX7_ahead_2 : decode cX7_ahead 2 = .ok (.invokevirtual 168, 3) := by decide +kernel
theorem dX7_ahead_5 : decode cX7_ahead 5 = .ok (.ifCond .eq 20, 3) := by decide +kernel
theorem dX7_ahead_8 : decode cX7_ahead 8 = .ok (.iload_n 2, 1) := by decide +kernel
theorem dX7_ahead_9 : decode cX7_ahead 9 = .ok (.iconst 0, 1) := by decide +kernel
theorem dX7_ahead_10 : decode cX7_ahead 10 = .ok (.bipush 60, 2) := by decide +kernel
theorem dX7_ahead_12 : decode cX7_ahead 12 = .ok (.invokestatic 71, 3) := by decide +kernel
theorem dX7_ahead_15 : decode cX7_ahead 15 = .ok (.ifCond .eq 10, 3) := by decide +kernel
theorem dX7_ahead_18 : decode cX7_ahead 18 = .ok (.iload_n 3, 1) := by decide +kernel
theorem dX7_ahead_19 : decode cX7_ahead 19 = .ok (.invokestatic 204, 3) := by decide +kernel
theorem dX7_ahead_22 : decode cX7_ahead 22 = .ok (.ifCond .ne 6, 3) := by decide +kernel
theorem dX7_ahead_25 : decode cX7_ahead 25 = .ok (.ldc 75, 2) := by decide +kernel
theorem dX7_ahead_27 : decode cX7_ahead 27 = .ok (.ireturn, 1) := by decide +kernel
theorem dX7_ahead_28 : decode cX7_ahead 28 = .ok (.iload_n 3, 1) := by decide +kernel
theorem dX7_ahead_29 : decode cX7_ahead 29 = .ok (.ifCond .ne 15, 3) := by decide +kernel
theorem dX7_ahead_32 : decode cX7_ahead 32 = .ok (.aload_n 0, 1) := by decide +kernel
theorem dX7_ahead_33 : decode cX7_ahead 33 = .ok (.getfield 49, 3) := by decide +kernel
theorem dX7_ahead_36 : decode cX7_ahead 36 = .ok (.iload_n 1, 1) := by decide +kernel
theorem dX7_ahead_37 : decode cX7_ahead 37 = .ok (.iload_n 2, 1) := by decide +kernel
theorem dX7_ahead_38 : decode cX7_ahead 38 = .ok (.invokevirtual 207, 3) := by decide +kernel
theorem dX7_ahead_41 : decode cX7_ahead 41 = .ok (.goto 12, 3) := by decide +kernel
theorem dX7_ahead_44 : decode cX7_ahead 44 = .ok (.aload_n 0, 1) := by decide +kernel
theorem dX7_ahead_45 : decode cX7_ahead 45 = .ok (.getfield 49, 3) := by decide +kernel
theorem dX7_ahead_48 : decode cX7_ahead 48 = .ok (.iload_n 1, 1) := by decide +kernel
theorem dX7_ahead_49 : decode cX7_ahead 49 = .ok (.iload_n 2, 1) := by decide +kernel
theorem dX7_ahead_50 : decode cX7_ahead 50 = .ok (.invokevirtual 210, 3) := by decide +kernel
theorem dX7_ahead_53 : decode cX7_ahead 53 = .ok (.ireturn, 1) := by decide +kernel
theorem dX7_down_0 : decode cX7_down 0 = .ok (.aload_n 0, 1) := by decide +kernel
theorem dX7_down_1 : decode cX7_down 1 = .ok (.iload_n 1, 1) := by decide +kernel
theorem dX7_down_2 : decode cX7_down 2 = .ok (.invokevirtual 168, 3) := by decide +kernel
theorem dX7_down_5 : decode cX7_down 5 = .ok (.ifCond .eq 14, 3) := by decide +kernel
theorem dX7_down_8 : decode cX7_down 8 = .ok (.aload_n 0, 1) := by decide +kernel
theorem dX7_down_9 : decode cX7_down 9 = .ok (.getfield 49, 3) := by decide +kernel
theorem dX7_down_12 : decode cX7_down 12 = .ok (.iload_n 1, 1) := by decide +kernel
theorem dX7_down_13 : decode cX7_down 13 = .ok (.invokevirtual 213, 3) := by decide +kernel
theorem dX7_down_16 : decode cX7_down 16 = .ok (.goto 5, 3) := by decide +kernel
theorem dX7_down_19 : decode cX7_down 19 = .ok (.ldc 75, 2) := by decide +kernel
theorem dX7_down_21 : decode cX7_down 21 = .ok (.ireturn, 1) := by decide +kernel
theorem dX7_meet_0 : decode cX7_meet 0 = .ok (.aload_n 0, 1) := by decide +kernel
theorem dX7_meet_1 : decode cX7_meet 1 = .ok (.iload_n 1, 1) := by decide +kernel
theorem dX7_meet_2 : decode cX7_meet 2 = .ok (.invokevirtual 168, 3) := by decide +kernel
theorem dX7_meet_5 : decode cX7_meet 5 = .ok (.ifCond .eq 16, 3) := by decide +kernel
theorem dX7_meet_8 : decode cX7_meet 8 = .ok (.aload_n 0, 1) := by decide +kernel
theorem dX7_meet_9 : decode cX7_meet 9 = .ok (.iload_n 2, 1) := by decide +kernel
theorem dX7_meet_10 : decode cX7_meet 10 = .ok (.invokevirtual 168, 3) := by decide +kernel
theorem dX7_meet_13 : decode cX7_meet 13 = .ok (.ifCond .eq 8, 3) := by decide +kernel
theorem dX7_meet_16 : decode cX7_meet 16 = .ok (.iload_n 1, 1) := by decide +kernel
theorem dX7_meet_17 : decode cX7_meet 17 = .ok (.iload_n 2, 1) := by decide +kernel
theorem dX7_meet_18 : decode cX7_meet 18 = .ok (.if_icmp .ne 6, 3) := by decide +kernel
theorem dX7_meet_21 : decode cX7_meet 21 = .ok (.ldc 75, 2) := by decide +kernel
theorem dX7_meet_23 : decode cX7_meet 23 = .ok (.ireturn, 1) := by decide +kernel
theorem dX7_meet_24 : decode cX7_meet 24 = .ok (.aload_n 0, 1) := by decide +kernel
theorem dX7_meet_25 : decode cX7_meet 25 = .ok (.getfield 49, 3) := by decide +kernel
theorem dX7_meet_28 : decode cX7_meet 28 = .ok (.iload_n 1, 1) := by decide +kernel
theorem dX7_meet_29 : decode cX7_meet 29 = .ok (.iload_n 2, 1) := by decide +kernel
theorem dX7_meet_30 : decode cX7_meet 30 = .ok (.invokevirtual 216, 3) := by decide +kernel
theorem dX7_meet_33 : decode cX7_meet 33 = .ok (.ireturn, 1) := by decide +kernel
theorem dX7_over_0 : decode cX7_over 0 = .ok (.aload_n 0, 1) := by decide +kernel
theorem dX7_over_1 : decode cX7_over 1 = .ok (.invokevirtual 145, 3) := by decide +kernel
theorem dX7_over_4 : decode cX7_over 4 = .ok (.ifCond .eq 6, 3) := by decide +kernel
theorem dX7_over_7 : decode cX7_over 7 = .ok (.ldc 141, 2) := by decide +kernel
theorem dX7_over_9 : decode cX7_over 9 = .ok (.ireturn, 1) := by decide +kernel
theorem dX7_over_10 : decode cX7_over 10 = .ok (.iload_n 1, 1) := by decide +kernel
theorem dX7_over_11 : decode cX7_over 11 = .ok (.invokestatic 198, 3) := by decide +kernel
theorem dX7_over_14 : decode cX7_over 14 = .ok (.ifCond .eq 13, 3) := by decide +kernel
theorem dX7_over_17 : decode cX7_over 17 = .ok (.iload_n 2, 1) := by decide +kernel
theorem dX7_over_18 : decode cX7_over 18 = .ok (.iconst 0, 1) := by decide +kernel
theorem dX7_over_19 : decode cX7_over 19 = .ok (.bipush 60, 2) := by decide +kernel
theorem dX7_over_21 : decode cX7_over 21 = .ok (.invokestatic 71, 3) := by decide +kernel
theorem dX7_over_24 : decode cX7_over 24 = .ok (.ifCond .ne 6, 3) := by decide +kernel
theorem dX7_over_27 : decode cX7_over 27 = .ok (.ldc 75, 2) := by decide +kernel
theorem dX7_over_29 : decode cX7_over 29 = .ok (.ireturn, 1) := by decide +kernel
theorem dX7_over_30 : decode cX7_over 30 = .ok (.aload_n 0, 1) := by decide +kernel
theorem dX7_over_31 : decode cX7_over 31 = .ok (.getfield 49, 3) := by decide +kernel
theorem dX7_over_34 : decode cX7_over 34 = .ok (.iload_n 1, 1) := by decide +kernel
theorem dX7_over_35 : decode cX7_over 35 = .ok (.iload_n 2, 1) := by decide +kernel
theorem dX7_over_36 : decode cX7_over 36 = .ok (.invokevirtual 219, 3) := by decide +kernel
theorem dX7_over_39 : decode cX7_over 39 = .ok (.ireturn, 1) := by decide +kernel
theorem dX7_above_0 : decode cX7_above 0 = .ok (.aload_n 0, 1) := by decide +kernel
theorem dX7_above_1 : decode cX7_above 1 = .ok (.iload_n 1, 1) := by decide +kernel
theorem dX7_above_2 : decode cX7_above 2 = .ok (.invokevirtual 168, 3) := by decide +kernel
theorem dX7_above_5 : decode cX7_above 5 = .ok (.ifCond .eq 37, 3) := by decide +kernel
theorem dX7_above_8 : decode cX7_above 8 = .ok (.iload_n 2, 1) := by decide +kernel
theorem dX7_above_9 : decode cX7_above 9 = .ok (.invokestatic 198, 3) := by decide +kernel
theorem dX7_above_12 : decode cX7_above 12 = .ok (.ifCond .eq 30, 3) := by decide +kernel
theorem dX7_above_15 : decode cX7_above 15 = .ok (.iload_n 3, 1) := by decide +kernel
theorem dX7_above_16 : decode cX7_above 16 = .ok (.iconst 1, 1) := by decide +kernel
theorem dX7_above_17 : decode cX7_above 17 = .ok (.bipush 12, 2) := by decide +kernel
theorem dX7_above_19 : decode cX7_above 19 = .ok (.invokestatic 71, 3) := by decide +kernel
theorem dX7_above_22 : decode cX7_above 22 = .ok (.ifCond .eq 20, 3) := by decide +kernel
theorem dX7_above_25 : decode cX7_above 25 = .ok (.iload 4, 2) := by decide +kernel
theorem dX7_above_27 : decode cX7_above 27 = .ok (.iconst 0, 1) := by decide +kernel
theorem dX7_above_28 : decode cX7_above 28 = .ok (.bipush 20, 2) := by decide +kernel
theorem dX7_above_30 : decode cX7_above 30 = .ok (.invokestatic 71, 3) := by decide +kernel
theorem dX7_above_33 : decode cX7_above 33 = .ok (.ifCond .eq 9, 3) := by decide +kernel
theorem dX7_above_36 : decode cX7_above 36 = .ok (.iload 5, 2) := by decide +kernel
theorem dX7_above_38 : decode cX7_above 38 = .ok (.iconst (-1), 1) := by decide +kernel
theorem dX7_above_39 : decode cX7_above 39 = .ok (.if_icmp .ge 6, 3) := by decide +kernel
theorem dX7_above_42 : decode cX7_above 42 = .ok (.ldc 75, 2) := by decide +kernel
theorem dX7_above_44 : decode cX7_above 44 = .ok (.ireturn, 1) := by decide +kernel
theorem dX7_above_45 : decode cX7_above 45 = .ok (.aload_n 0, 1) := by decide +kernel
theorem dX7_above_46 : decode cX7_above 46 = .ok (.getfield 49, 3) := by decide +kernel
theorem dX7_above_49 : decode cX7_above 49 = .ok (.iload_n 1, 1) := by decide +kernel
theorem dX7_above_50 : decode cX7_above 50 = .ok (.iload_n 2, 1) := by decide +kernel
theorem dX7_above_51 : decode cX7_above 51 = .ok (.iload_n 3, 1) := by decide +kernel
theorem dX7_above_52 : decode cX7_above 52 = .ok (.iload 4, 2) := by decide +kernel
theorem dX7_above_54 : decode cX7_above 54 = .ok (.invokevirtual 222, 3) := by decide +kernel
theorem dX7_above_57 : decode cX7_above 57 = .ok (.istore 6, 2) := by decide +kernel
theorem dX7_above_59 : decode cX7_above 59 = .ok (.iload 6, 2) := by decide +kernel
theorem dX7_above_61 : decode cX7_above 61 = .ok (.ldc 226, 2) := by decide +kernel
theorem dX7_above_63 : decode cX7_above 63 = .ok (.if_icmp .eq 9, 3) := by decide +kernel
theorem dX7_above_66 : decode cX7_above 66 = .ok (.iload 5, 2) := by decide +kernel
theorem dX7_above_68 : decode cX7_above 68 = .ok (.iload_n 3, 1) := by decide +kernel
theorem dX7_above_69 : decode cX7_above 69 = .ok (.if_icmp .lt 6, 3) := by decide +kernel
theorem dX7_above_72 : decode cX7_above 72 = .ok (.ldc 227, 2) := by decide +kernel
theorem dX7_above_74 : decode cX7_above 74 = .ok (.ireturn, 1) := by decide +kernel
theorem dX7_above_75 : decode cX7_above 75 = .ok (.iload 5, 2) := by decide +kernel
theorem dX7_above_77 : decode cX7_above 77 = .ok (.iconst (-1), 1) := by decide +kernel
theorem dX7_above_78 : decode cX7_above 78 = .ok (.if_icmp .ne 11, 3) := by decide +kernel
theorem dX7_above_81 : decode cX7_above 81 = .ok (.iload 6, 2) := by decide +kernel
theorem dX7_above_83 : decode cX7_above 83 = .ok (.invokestatic 228, 3) := by decide +kernel
theorem dX7_above_86 : decode cX7_above 86 = .ok (.goto 11, 3) := by decide +kernel
theorem dX7_above_89 : decode cX7_above 89 = .ok (.iload 6, 2) := by decide +kernel
theorem dX7_above_91 : decode cX7_above 91 = .ok (.iload_n 3, 1) := by decide +kernel
theorem dX7_above_92 : decode cX7_above 92 = .ok (.iload 5, 2) := by decide +kernel
theorem dX7_above_94 : decode cX7_above 94 = .ok (.invokestatic 231, 3) := by decide +kernel
theorem dX7_above_97 : decode cX7_above 97 = .ok (.ireturn, 1) := by decide +kernel
theorem dX7_petition_0 : decode cX7_petition 0 = .ok (.aload_n 0, 1) := by decide +kernel
theorem dX7_petition_1 : decode cX7_petition 1 = .ok (.invokevirtual 145, 3) := by decide +kernel
theorem dX7_petition_4 : decode cX7_petition 4 = .ok (.ifCond .eq 6, 3) := by decide +kernel
theorem dX7_petition_7 : decode cX7_petition 7 = .ok (.ldc 141, 2) := by decide +kernel
theorem dX7_petition_9 : decode cX7_petition 9 = .ok (.ireturn, 1) := by decide +kernel
theorem dX7_petition_10 : decode cX7_petition 10 = .ok (.iload_n 1, 1) := by decide +kernel
theorem dX7_petition_11 : decode cX7_petition 11 = .ok (.invokestatic 198, 3) := by decide +kernel
theorem dX7_petition_14 : decode cX7_petition 14 = .ok (.ifCond .eq 21, 3) := by decide +kernel
theorem dX7_petition_17 : decode cX7_petition 17 = .ok (.iload_n 2, 1) := by decide +kernel
theorem dX7_petition_18 : decode cX7_petition 18 = .ok (.invokestatic 67, 3) := by decide +kernel
theorem dX7_petition_21 : decode cX7_petition 21 = .ok (.ifCond .eq 14, 3) := by decide +kernel
theorem dX7_petition_24 : decode cX7_petition 24 = .ok (.iload 4, 2) := by decide +kernel
theorem dX7_petition_26 : decode cX7_petition 26 = .ok (.iconst 1, 1) := by decide +kernel
theorem dX7_petition_27 : decode cX7_petition 27 = .ok (.bipush 8, 2) := by decide +kernel
theorem dX7_petition_29 : decode cX7_petition 29 = .ok (.invokestatic 71, 3) := by decide +kernel
theorem dX7_petition_32 : decode cX7_petition 32 = .ok (.ifCond .ne 6, 3) := by decide +kernel
theorem dX7_petition_35 : decode cX7_petition 35 = .ok (.ldc 75, 2) := by decide +kernel
theorem dX7_petition_37 : decode cX7_petition 37 = .ok (.ireturn, 1) := by decide +kernel
theorem dX7_petition_38 : decode cX7_petition 38 = .ok (.aload_n 0, 1) := by decide +kernel
theorem dX7_petition_39 : decode cX7_petition 39 = .ok (.getfield 11, 3) := by decide +kernel
theorem dX7_petition_42 : decode cX7_petition 42 = .ok (.iload_n 2, 1) := by decide +kernel
theorem dX7_petition_43 : decode cX7_petition 43 = .ok (.aaload, 1) := by decide +kernel
theorem dX7_petition_44 : decode cX7_petition 44 = .ok (.iload_n 3, 1) := by decide +kernel
theorem dX7_petition_45 : decode cX7_petition 45 = .ok (.iload 4, 2) := by decide +kernel
theorem dX7_petition_47 : decode cX7_petition 47 = .ok (.invokevirtual 87, 3) := by decide +kernel
theorem dX7_petition_50 : decode cX7_petition 50 = .ok (.istore 5, 2) := by decide +kernel
theorem dX7_petition_52 : decode cX7_petition 52 = .ok (.iload 5, 2) := by decide +kernel
theorem dX7_petition_54 : decode cX7_petition 54 = .ok (.ifCond .eq 10, 3) := by decide +kernel
theorem dX7_petition_57 : decode cX7_petition 57 = .ok (.aload_n 0, 1) := by decide +kernel
theorem dX7_petition_58 : decode cX7_petition 58 = .ok (.iload 5, 2) := by decide +kernel
theorem dX7_petition_60 : decode cX7_petition 60 = .ok (.invokevirtual 76, 3) := by decide +kernel
theorem dX7_petition_63 : decode cX7_petition 63 = .ok (.ireturn, 1) := by decide +kernel
theorem dX7_petition_64 : decode cX7_petition 64 = .ok (.iload_n 3, 1) := by decide +kernel
theorem dX7_petition_65 : decode cX7_petition 65 = .ok (.istore 6, 2) := by decide +kernel
theorem dX7_petition_67 : decode cX7_petition 67 = .ok (.iload 6, 2) := by decide +kernel
theorem dX7_petition_69 : decode cX7_petition 69 = .ok (.iload_n 3, 1) := by decide +kernel
theorem dX7_petition_70 : decode cX7_petition 70 = .ok (.iload 4, 2) := by decide +kernel
theorem dX7_petition_72 : decode cX7_petition 72 = .ok (.iadd, 1) := by decide +kernel
theorem dX7_petition_73 : decode cX7_petition 73 = .ok (.if_icmp .ge 31, 3) := by decide +kernel
theorem dX7_petition_76 : decode cX7_petition 76 = .ok (.aload_n 0, 1) := by decide +kernel
theorem dX7_petition_77 : decode cX7_petition 77 = .ok (.aload_n 0, 1) := by decide +kernel
theorem dX7_petition_78 : decode cX7_petition 78 = .ok (.getfield 11, 3) := by decide +kernel
theorem dX7_petition_81 : decode cX7_petition 81 = .ok (.iload_n 2, 1) := by decide +kernel
theorem dX7_petition_82 : decode cX7_petition 82 = .ok (.aaload, 1) := by decide +kernel
theorem dX7_petition_83 : decode cX7_petition 83 = .ok (.getfield 105, 3) := by decide +kernel
theorem dX7_petition_86 : decode cX7_petition 86 = .ok (.iload 6, 2) := by decide +kernel
theorem dX7_petition_88 : decode cX7_petition 88 = .ok (.iaload, 1) := by decide +kernel
theorem dX7_petition_89 : decode cX7_petition 89 = .ok (.invokevirtual 168, 3) := by decide +kernel
theorem dX7_petition_92 : decode cX7_petition 92 = .ok (.ifCond .ne 6, 3) := by decide +kernel
theorem dX7_petition_95 : decode cX7_petition 95 = .ok (.ldc 75, 2) := by decide +kernel
theorem dX7_petition_97 : decode cX7_petition 97 = .ok (.ireturn, 1) := by decide +kernel
theorem dX7_petition_98 : decode cX7_petition 98 = .ok (.iinc 6 1, 3) := by decide +kernel
theorem dX7_petition_101 : decode cX7_petition 101 = .ok (.goto (-34), 3) := by decide +kernel
theorem dX7_petition_104 : decode cX7_petition 104 = .ok (.aload_n 0, 1) := by decide +kernel
theorem dX7_petition_105 : decode cX7_petition 105 = .ok (.aload_n 0, 1) := by decide +kernel
theorem dX7_petition_106 : decode cX7_petition 106 = .ok (.getfield 49, 3) := by decide +kernel
theorem dX7_petition_109 : decode cX7_petition 109 = .ok (.iload_n 1, 1) := by decide +kernel
theorem dX7_petition_110 : decode cX7_petition 110 = .ok (.aload_n 0, 1) := by decide +kernel
theorem dX7_petition_111 : decode cX7_petition 111 = .ok (.getfield 11, 3) := by decide +kernel
theorem dX7_petition_114 : decode cX7_petition 114 = .ok (.iload_n 2, 1) := by decide +kernel
theorem dX7_petition_115 : decode cX7_petition 115 = .ok (.aaload, 1) := by decide +kernel
theorem dX7_petition_116 : decode cX7_petition 116 = .ok (.getfield 105, 3) := by decide +kernel
theorem dX7_petition_119 : decode cX7_petition 119 = .ok (.iload_n 3, 1) := by decide +kernel
theorem dX7_petition_120 : decode cX7_petition 120 = .ok (.iload 4, 2) := by decide +kernel
theorem dX7_petition_122 : decode cX7_petition 122 = .ok (.invokevirtual 235, 3) := by decide +kernel
theorem dX7_petition_125 : decode cX7_petition 125 = .ok (.invokevirtual 84, 3) := by decide +kernel
theorem dX7_petition_128 : decode cX7_petition 128 = .ok (.ireturn, 1) := by decide +kernel
theorem dX7_ash_0 : decode cX7_ash 0 = .ok (.aload_n 0, 1) := by decide +kernel
theorem dX7_ash_1 : decode cX7_ash 1 = .ok (.iload_n 1, 1) := by decide +kernel
theorem dX7_ash_2 : decode cX7_ash 2 = .ok (.invokevirtual 168, 3) := by decide +kernel
theorem dX7_ash_5 : decode cX7_ash 5 = .ok (.ifCond .eq 27, 3) := by decide +kernel
theorem dX7_ash_8 : decode cX7_ash 8 = .ok (.iload_n 2, 1) := by decide +kernel
theorem dX7_ash_9 : decode cX7_ash 9 = .ok (.invokestatic 67, 3) := by decide +kernel
theorem dX7_ash_12 : decode cX7_ash 12 = .ok (.ifCond .eq 20, 3) := by decide +kernel
theorem dX7_ash_15 : decode cX7_ash 15 = .ok (.iload 4, 2) := by decide +kernel
theorem dX7_ash_17 : decode cX7_ash 17 = .ok (.iconst 1, 1) := by decide +kernel
theorem dX7_ash_18 : decode cX7_ash 18 = .ok (.bipush 6, 2) := by decide +kernel
theorem dX7_ash_20 : decode cX7_ash 20 = .ok (.invokestatic 71, 3) := by decide +kernel
theorem dX7_ash_23 : decode cX7_ash 23 = .ok (.ifCond .eq 9, 3) := by decide +kernel
theorem dX7_ash_26 : decode cX7_ash 26 = .ok (.iload 5, 2) := by decide +kernel
theorem dX7_ash_28 : decode cX7_ash 28 = .ok (.iconst (-1), 1) := by decide +kernel
theorem dX7_ash_29 : decode cX7_ash 29 = .ok (.if_icmp .ge 6, 3) := by decide +kernel
theorem dX7_ash_32 : decode cX7_ash 32 = .ok (.ldc 75, 2) := by decide +kernel
theorem dX7_ash_34 : decode cX7_ash 34 = .ok (.ireturn, 1) := by decide +kernel
theorem dX7_ash_35 : decode cX7_ash 35 = .ok (.aload_n 0, 1) := by decide +kernel
theorem dX7_ash_36 : decode cX7_ash 36 = .ok (.getfield 11, 3) := by decide +kernel
theorem dX7_ash_39 : decode cX7_ash 39 = .ok (.iload_n 2, 1) := by decide +kernel
theorem dX7_ash_40 : decode cX7_ash 40 = .ok (.aaload, 1) := by decide +kernel
theorem dX7_ash_41 : decode cX7_ash 41 = .ok (.iload_n 3, 1) := by decide +kernel
theorem dX7_ash_42 : decode cX7_ash 42 = .ok (.iload 4, 2) := by decide +kernel
theorem dX7_ash_44 : decode cX7_ash 44 = .ok (.invokevirtual 87, 3) := by decide +kernel
theorem dX7_ash_47 : decode cX7_ash 47 = .ok (.istore 6, 2) := by decide +kernel
theorem dX7_ash_49 : decode cX7_ash 49 = .ok (.iload 6, 2) := by decide +kernel
theorem dX7_ash_51 : decode cX7_ash 51 = .ok (.ifCond .eq 10, 3) := by decide +kernel
theorem dX7_ash_54 : decode cX7_ash 54 = .ok (.aload_n 0, 1) := by decide +kernel
theorem dX7_ash_55 : decode cX7_ash 55 = .ok (.iload 6, 2) := by decide +kernel
theorem dX7_ash_57 : decode cX7_ash 57 = .ok (.invokevirtual 76, 3) := by decide +kernel
theorem dX7_ash_60 : decode cX7_ash 60 = .ok (.ireturn, 1) := by decide +kernel
theorem dX7_ash_61 : decode cX7_ash 61 = .ok (.aload_n 0, 1) := by decide +kernel
theorem dX7_ash_62 : decode cX7_ash 62 = .ok (.getfield 49, 3) := by decide +kernel
theorem dX7_ash_65 : decode cX7_ash 65 = .ok (.iload_n 1, 1) := by decide +kernel
theorem dX7_ash_66 : decode cX7_ash 66 = .ok (.aload_n 0, 1) := by decide +kernel
theorem dX7_ash_67 : decode cX7_ash 67 = .ok (.getfield 11, 3) := by decide +kernel
theorem dX7_ash_70 : decode cX7_ash 70 = .ok (.iload_n 2, 1) := by decide +kernel
theorem dX7_ash_71 : decode cX7_ash 71 = .ok (.aaload, 1) := by decide +kernel
theorem dX7_ash_72 : decode cX7_ash 72 = .ok (.getfield 105, 3) := by decide +kernel
theorem dX7_ash_75 : decode cX7_ash 75 = .ok (.iload_n 3, 1) := by decide +kernel
theorem dX7_ash_76 : decode cX7_ash 76 = .ok (.iload 4, 2) := by decide +kernel
theorem dX7_ash_78 : decode cX7_ash 78 = .ok (.invokevirtual 239, 3) := by decide +kernel
theorem dX7_ash_81 : decode cX7_ash 81 = .ok (.istore 7, 2) := by decide +kernel
theorem dX7_ash_83 : decode cX7_ash 83 = .ok (.iload 5, 2) := by decide +kernel
theorem dX7_ash_85 : decode cX7_ash 85 = .ok (.iconst (-1), 1) := by decide +kernel
theorem dX7_ash_86 : decode cX7_ash 86 = .ok (.if_icmp .ne 10, 3) := by decide +kernel
theorem dX7_ash_89 : decode cX7_ash 89 = .ok (.aload_n 0, 1) := by decide +kernel
theorem dX7_ash_90 : decode cX7_ash 90 = .ok (.iload 7, 2) := by decide +kernel
theorem dX7_ash_92 : decode cX7_ash 92 = .ok (.invokevirtual 84, 3) := by decide +kernel
theorem dX7_ash_95 : decode cX7_ash 95 = .ok (.ireturn, 1) := by decide +kernel
theorem dX7_ash_96 : decode cX7_ash 96 = .ok (.aload_n 0, 1) := by decide +kernel
theorem dX7_ash_97 : decode cX7_ash 97 = .ok (.iload 7, 2) := by decide +kernel
theorem dX7_ash_99 : decode cX7_ash 99 = .ok (.ifCond .eq 10, 3) := by decide +kernel
theorem dX7_ash_102 : decode cX7_ash 102 = .ok (.iload 5, 2) := by decide +kernel
theorem dX7_ash_104 : decode cX7_ash 104 = .ok (.iload 4, 2) := by decide +kernel
theorem dX7_ash_106 : decode cX7_ash 106 = .ok (.if_icmp .lt 8, 3) := by decide +kernel
theorem dX7_ash_109 : decode cX7_ash 109 = .ok (.ldc 227, 2) := by decide +kernel
theorem dX7_ash_111 : decode cX7_ash 111 = .ok (.goto 13, 3) := by decide +kernel
theorem dX7_ash_114 : decode cX7_ash 114 = .ok (.aload_n 0, 1) := by decide +kernel
theorem dX7_ash_115 : decode cX7_ash 115 = .ok (.getfield 49, 3) := by decide +kernel
theorem dX7_ash_118 : decode cX7_ash 118 = .ok (.getfield 242, 3) := by decide +kernel
theorem dX7_ash_121 : decode cX7_ash 121 = .ok (.iload 5, 2) := by decide +kernel
theorem dX7_ash_123 : decode cX7_ash 123 = .ok (.iaload, 1) := by decide +kernel
theorem dX7_ash_124 : decode cX7_ash 124 = .ok (.invokevirtual 84, 3) := by decide +kernel
theorem dX7_ash_127 : decode cX7_ash 127 = .ok (.ireturn, 1) := by decide +kernel
theorem dX7_who_0 : decode cX7_who 0 = .ok (.aload_n 0, 1) := by decide +kernel
theorem dX7_who_1 : decode cX7_who 1 = .ok (.iload_n 1, 1) := by decide +kernel
theorem dX7_who_2 : decode cX7_who 2 = .ok (.invokevirtual 168, 3) := by decide +kernel
theorem dX7_who_5 : decode cX7_who 5 = .ok (.ifCond .eq 32, 3) := by decide +kernel
theorem dX7_who_8 : decode cX7_who 8 = .ok (.iload_n 2, 1) := by decide +kernel
theorem dX7_who_9 : decode cX7_who 9 = .ok (.invokestatic 67, 3) := by decide +kernel
theorem dX7_who_12 : decode cX7_who 12 = .ok (.ifCond .eq 25, 3) := by decide +kernel
theorem dX7_who_15 : decode cX7_who 15 = .ok (.iload 4, 2) := by decide +kernel
theorem dX7_who_17 : decode cX7_who 17 = .ok (.iconst 1, 1) := by decide +kernel
theorem dX7_who_18 : decode cX7_who 18 = .ok (.bipush 12, 2) := by decide +kernel
theorem dX7_who_20 : decode cX7_who 20 = .ok (.invokestatic 71, 3) := by decide +kernel
theorem dX7_who_23 : decode cX7_who 23 = .ok (.ifCond .eq 14, 3) := by decide +kernel
theorem dX7_who_26 : decode cX7_who 26 = .ok (.iload 5, 2) := by decide +kernel
theorem dX7_who_28 : decode cX7_who 28 = .ok (.iconst 0, 1) := by decide +kernel
theorem dX7_who_29 : decode cX7_who 29 = .ok (.bipush 20, 2) := by decide +kernel
theorem dX7_who_31 : decode cX7_who 31 = .ok (.invokestatic 71, 3) := by decide +kernel
theorem dX7_who_34 : decode cX7_who 34 = .ok (.ifCond .ne 6, 3) := by decide +kernel
theorem dX7_who_37 : decode cX7_who 37 = .ok (.ldc 75, 2) := by decide +kernel
theorem dX7_who_39 : decode cX7_who 39 = .ok (.ireturn, 1) := by decide +kernel
theorem dX7_who_40 : decode cX7_who 40 = .ok (.aload_n 0, 1) := by decide +kernel
theorem dX7_who_41 : decode cX7_who 41 = .ok (.getfield 11, 3) := by decide +kernel
theorem dX7_who_44 : decode cX7_who 44 = .ok (.iload_n 2, 1) := by decide +kernel
theorem dX7_who_45 : decode cX7_who 45 = .ok (.aaload, 1) := by decide +kernel
theorem dX7_who_46 : decode cX7_who 46 = .ok (.iload_n 3, 1) := by decide +kernel
theorem dX7_who_47 : decode cX7_who 47 = .ok (.iload 4, 2) := by decide +kernel
theorem dX7_who_49 : decode cX7_who 49 = .ok (.invokevirtual 87, 3) := by decide +kernel
theorem dX7_who_52 : decode cX7_who 52 = .ok (.istore 6, 2) := by decide +kernel
theorem dX7_who_54 : decode cX7_who 54 = .ok (.iload 6, 2) := by decide +kernel
theorem dX7_who_56 : decode cX7_who 56 = .ok (.ifCond .eq 10, 3) := by decide +kernel
theorem dX7_who_59 : decode cX7_who 59 = .ok (.aload_n 0, 1) := by decide +kernel
theorem dX7_who_60 : decode cX7_who 60 = .ok (.iload 6, 2) := by decide +kernel
theorem dX7_who_62 : decode cX7_who 62 = .ok (.invokevirtual 76, 3) := by decide +kernel
theorem dX7_who_65 : decode cX7_who 65 = .ok (.ireturn, 1) := by decide +kernel
theorem dX7_who_66 : decode cX7_who 66 = .ok (.aload_n 0, 1) := by decide +kernel
theorem dX7_who_67 : decode cX7_who 67 = .ok (.aload_n 0, 1) := by decide +kernel
theorem dX7_who_68 : decode cX7_who 68 = .ok (.getfield 49, 3) := by decide +kernel
theorem dX7_who_71 : decode cX7_who 71 = .ok (.aload_n 0, 1) := by decide +kernel
theorem dX7_who_72 : decode cX7_who 72 = .ok (.getfield 30, 3) := by decide +kernel
theorem dX7_who_75 : decode cX7_who 75 = .ok (.getfield 177, 3) := by decide +kernel
theorem dX7_who_78 : decode cX7_who 78 = .ok (.iload_n 1, 1) := by decide +kernel
theorem dX7_who_79 : decode cX7_who 79 = .ok (.iaload, 1) := by decide +kernel
theorem dX7_who_80 : decode cX7_who 80 = .ok (.aload_n 0, 1) := by decide +kernel
theorem dX7_who_81 : decode cX7_who 81 = .ok (.getfield 11, 3) := by decide +kernel
theorem dX7_who_84 : decode cX7_who 84 = .ok (.iload_n 2, 1) := by decide +kernel
theorem dX7_who_85 : decode cX7_who 85 = .ok (.aaload, 1) := by decide +kernel
theorem dX7_who_86 : decode cX7_who 86 = .ok (.getfield 105, 3) := by decide +kernel
theorem dX7_who_89 : decode cX7_who 89 = .ok (.iload_n 3, 1) := by decide +kernel
theorem dX7_who_90 : decode cX7_who 90 = .ok (.iload 4, 2) := by decide +kernel
theorem dX7_who_92 : decode cX7_who 92 = .ok (.iload 5, 2) := by decide +kernel
theorem dX7_who_94 : decode cX7_who 94 = .ok (.invokevirtual 245, 3) := by decide +kernel
theorem dX7_who_97 : decode cX7_who 97 = .ok (.invokevirtual 84, 3) := by decide +kernel
theorem dX7_who_100 : decode cX7_who 100 = .ok (.ireturn, 1) := by decide +kernel
theorem dX7_rule_0 : decode cX7_rule 0 = .ok (.aload_n 0, 1) := by decide +kernel
theorem dX7_rule_1 : decode cX7_rule 1 = .ok (.invokevirtual 145, 3) := by decide +kernel
theorem dX7_rule_4 : decode cX7_rule 4 = .ok (.ifCond .eq 6, 3) := by decide +kernel
theorem dX7_rule_7 : decode cX7_rule 7 = .ok (.ldc 141, 2) := by decide +kernel
theorem dX7_rule_9 : decode cX7_rule 9 = .ok (.ireturn, 1) := by decide +kernel
theorem dX7_rule_10 : decode cX7_rule 10 = .ok (.iload_n 1, 1) := by decide +kernel
theorem dX7_rule_11 : decode cX7_rule 11 = .ok (.iconst 1, 1) := by decide +kernel
theorem dX7_rule_12 : decode cX7_rule 12 = .ok (.bipush 60, 2) := by decide +kernel
theorem dX7_rule_14 : decode cX7_rule 14 = .ok (.invokestatic 71, 3) := by decide +kernel
theorem dX7_rule_17 : decode cX7_rule 17 = .ok (.ifCond .eq 10, 3) := by decide +kernel
theorem dX7_rule_20 : decode cX7_rule 20 = .ok (.iload_n 2, 1) := by decide +kernel
theorem dX7_rule_21 : decode cX7_rule 21 = .ok (.invokestatic 204, 3) := by decide +kernel
theorem dX7_rule_24 : decode cX7_rule 24 = .ok (.ifCond .ne 6, 3) := by decide +kernel
theorem dX7_rule_27 : decode cX7_rule 27 = .ok (.ldc 75, 2) := by decide +kernel
theorem dX7_rule_29 : decode cX7_rule 29 = .ok (.ireturn, 1) := by decide +kernel
theorem dX7_rule_30 : decode cX7_rule 30 = .ok (.aload_n 0, 1) := by decide +kernel
theorem dX7_rule_31 : decode cX7_rule 31 = .ok (.getfield 49, 3) := by decide +kernel
theorem dX7_rule_34 : decode cX7_rule 34 = .ok (.iload_n 1, 1) := by decide +kernel
theorem dX7_rule_35 : decode cX7_rule 35 = .ok (.invokevirtual 249, 3) := by decide +kernel
theorem dX7_rule_38 : decode cX7_rule 38 = .ok (.istore_n 3, 1) := by decide +kernel
theorem dX7_rule_39 : decode cX7_rule 39 = .ok (.iload_n 2, 1) := by decide +kernel
theorem dX7_rule_40 : decode cX7_rule 40 = .ok (.ifCond .ne 7, 3) := by decide +kernel
theorem dX7_rule_43 : decode cX7_rule 43 = .ok (.iload_n 3, 1) := by decide +kernel
theorem dX7_rule_44 : decode cX7_rule 44 = .ok (.goto 12, 3) := by decide +kernel
theorem dX7_rule_47 : decode cX7_rule 47 = .ok (.aload_n 0, 1) := by decide +kernel
theorem dX7_rule_48 : decode cX7_rule 48 = .ok (.getfield 49, 3) := by decide +kernel
theorem dX7_rule_51 : decode cX7_rule 51 = .ok (.getfield 252, 3) := by decide +kernel
theorem dX7_rule_54 : decode cX7_rule 54 = .ok (.iload_n 3, 1) := by decide +kernel
theorem dX7_rule_55 : decode cX7_rule 55 = .ok (.iaload, 1) := by decide +kernel
theorem dX7_rule_56 : decode cX7_rule 56 = .ok (.ireturn, 1) := by decide +kernel
theorem dX7_lasts_0 : decode cX7_lasts 0 = .ok (.aload_n 0, 1) := by decide +kernel
theorem dX7_lasts_1 : decode cX7_lasts 1 = .ok (.iload_n 1, 1) := by decide +kernel
theorem dX7_lasts_2 : decode cX7_lasts 2 = .ok (.invokevirtual 168, 3) := by decide +kernel
theorem dX7_lasts_5 : decode cX7_lasts 5 = .ok (.ifCond .ne 6, 3) := by decide +kernel
theorem dX7_lasts_8 : decode cX7_lasts 8 = .ok (.ldc 75, 2) := by decide +kernel
theorem dX7_lasts_10 : decode cX7_lasts 10 = .ok (.ireturn, 1) := by decide +kernel
theorem dX7_lasts_11 : decode cX7_lasts 11 = .ok (.aload_n 0, 1) := by decide +kernel
theorem dX7_lasts_12 : decode cX7_lasts 12 = .ok (.getfield 49, 3) := by decide +kernel
theorem dX7_lasts_15 : decode cX7_lasts 15 = .ok (.iload_n 1, 1) := by decide +kernel
theorem dX7_lasts_16 : decode cX7_lasts 16 = .ok (.aload_n 0, 1) := by decide +kernel
theorem dX7_lasts_17 : decode cX7_lasts 17 = .ok (.getfield 30, 3) := by decide +kernel
theorem dX7_lasts_20 : decode cX7_lasts 20 = .ok (.getfield 171, 3) := by decide +kernel
theorem dX7_lasts_23 : decode cX7_lasts 23 = .ok (.iload_n 1, 1) := by decide +kernel
theorem dX7_lasts_24 : decode cX7_lasts 24 = .ok (.iaload, 1) := by decide +kernel
theorem dX7_lasts_25 : decode cX7_lasts 25 = .ok (.bipush 99, 2) := by decide +kernel
theorem dX7_lasts_27 : decode cX7_lasts 27 = .ok (.invokevirtual 255, 3) := by decide +kernel
theorem dX7_lasts_30 : decode cX7_lasts 30 = .ok (.ireturn, 1) := by decide +kernel
theorem dX7_kept_0 : decode cX7_kept 0 = .ok (.aload_n 0, 1) := by decide +kernel
theorem dX7_kept_1 : decode cX7_kept 1 = .ok (.iload_n 1, 1) := by decide +kernel
theorem dX7_kept_2 : decode cX7_kept 2 = .ok (.invokevirtual 168, 3) := by decide +kernel
theorem dX7_kept_5 : decode cX7_kept 5 = .ok (.ifCond .eq 13, 3) := by decide +kernel
theorem dX7_kept_8 : decode cX7_kept 8 = .ok (.iload_n 2, 1) := by decide +kernel
theorem dX7_kept_9 : decode cX7_kept 9 = .ok (.iconst 1, 1) := by decide +kernel
theorem dX7_kept_10 : decode cX7_kept 10 = .ok (.bipush 24, 2) := by decide +kernel
theorem dX7_kept_12 : decode cX7_kept 12 = .ok (.invokestatic 71, 3) := by decide +kernel
theorem dX7_kept_15 : decode cX7_kept 15 = .ok (.ifCond .ne 6, 3) := by decide +kernel
theorem dX7_kept_18 : decode cX7_kept 18 = .ok (.ldc 75, 2) := by decide +kernel
theorem dX7_kept_20 : decode cX7_kept 20 = .ok (.ireturn, 1) := by decide +kernel
theorem dX7_kept_21 : decode cX7_kept 21 = .ok (.aload_n 0, 1) := by decide +kernel
theorem dX7_kept_22 : decode cX7_kept 22 = .ok (.getfield 49, 3) := by decide +kernel
theorem dX7_kept_25 : decode cX7_kept 25 = .ok (.iload_n 1, 1) := by decide +kernel
theorem dX7_kept_26 : decode cX7_kept 26 = .ok (.iload_n 2, 1) := by decide +kernel
theorem dX7_kept_27 : decode cX7_kept 27 = .ok (.invokevirtual 258, 3) := by decide +kernel
theorem dX7_kept_30 : decode cX7_kept 30 = .ok (.ireturn, 1) := by decide +kernel
theorem dX7_turned_0 : decode cX7_turned 0 = .ok (.aload_n 0, 1) := by decide +kernel
theorem dX7_turned_1 : decode cX7_turned 1 = .ok (.iload_n 1, 1) := by decide +kernel
theorem dX7_turned_2 : decode cX7_turned 2 = .ok (.invokevirtual 168, 3) := by decide +kernel
theorem dX7_turned_5 : decode cX7_turned 5 = .ok (.ifCond .eq 39, 3) := by decide +kernel
theorem dX7_turned_8 : decode cX7_turned 8 = .ok (.iload_n 2, 1) := by decide +kernel
theorem dX7_turned_9 : decode cX7_turned 9 = .ok (.invokestatic 198, 3) := by decide +kernel
theorem dX7_turned_12 : decode cX7_turned 12 = .ok (.ifCond .eq 32, 3) := by decide +kernel
theorem dX7_turned_15 : decode cX7_turned 15 = .ok (.iload_n 3, 1) := by decide +kernel
theorem dX7_turned_16 : decode cX7_turned 16 = .ok (.iconst 1, 1) := by decide +kernel
theorem dX7_turned_17 : decode cX7_turned 17 = .ok (.bipush 12, 2) := by decide +kernel
theorem dX7_turned_19 : decode cX7_turned 19 = .ok (.invokestatic 71, 3) := by decide +kernel
theorem dX7_turned_22 : decode cX7_turned 22 = .ok (.ifCond .eq 22, 3) := by decide +kernel
theorem dX7_turned_25 : decode cX7_turned 25 = .ok (.iload 4, 2) := by decide +kernel
theorem dX7_turned_27 : decode cX7_turned 27 = .ok (.iconst 0, 1) := by decide +kernel
theorem dX7_turned_28 : decode cX7_turned 28 = .ok (.bipush 10, 2) := by decide +kernel
theorem dX7_turned_30 : decode cX7_turned 30 = .ok (.invokestatic 71, 3) := by decide +kernel
theorem dX7_turned_33 : decode cX7_turned 33 = .ok (.ifCond .eq 11, 3) := by decide +kernel
theorem dX7_turned_36 : decode cX7_turned 36 = .ok (.iload 5, 2) := by decide +kernel
theorem dX7_turned_38 : decode cX7_turned 38 = .ok (.invokestatic 204, 3) := by decide +kernel
theorem dX7_turned_41 : decode cX7_turned 41 = .ok (.ifCond .ne 7, 3) := by decide +kernel
theorem dX7_turned_44 : decode cX7_turned 44 = .ok (.ldc2_w 261, 3) := by decide +kernel
theorem dX7_turned_47 : decode cX7_turned 47 = .ok (.lreturn, 1) := by decide +kernel
theorem dX7_turned_48 : decode cX7_turned 48 = .ok (.aload_n 0, 1) := by decide +kernel
theorem dX7_turned_49 : decode cX7_turned 49 = .ok (.getfield 49, 3) := by decide +kernel
theorem dX7_turned_52 : decode cX7_turned 52 = .ok (.iload_n 1, 1) := by decide +kernel
theorem dX7_turned_53 : decode cX7_turned 53 = .ok (.iload_n 2, 1) := by decide +kernel
theorem dX7_turned_54 : decode cX7_turned 54 = .ok (.iload_n 3, 1) := by decide +kernel
theorem dX7_turned_55 : decode cX7_turned 55 = .ok (.iload 4, 2) := by decide +kernel
theorem dX7_turned_57 : decode cX7_turned 57 = .ok (.invokevirtual 263, 3) := by decide +kernel
theorem dX7_turned_60 : decode cX7_turned 60 = .ok (.istore 6, 2) := by decide +kernel
theorem dX7_turned_62 : decode cX7_turned 62 = .ok (.sipush 10000, 3) := by decide +kernel
theorem dX7_turned_65 : decode cX7_turned 65 = .ok (.iload 6, 2) := by decide +kernel
theorem dX7_turned_67 : decode cX7_turned 67 = .ok (.invokestatic 266, 3) := by decide +kernel
theorem dX7_turned_70 : decode cX7_turned 70 = .ok (.istore 7, 2) := by decide +kernel
theorem dX7_turned_72 : decode cX7_turned 72 = .ok (.iload 7, 2) := by decide +kernel
theorem dX7_turned_74 : decode cX7_turned 74 = .ok (.ifCond .ne 7, 3) := by decide +kernel
theorem dX7_turned_77 : decode cX7_turned 77 = .ok (.ldc2_w 261, 3) := by decide +kernel
theorem dX7_turned_80 : decode cX7_turned 80 = .ok (.lreturn, 1) := by decide +kernel
theorem dX7_turned_81 : decode cX7_turned 81 = .ok (.iload 5, 2) := by decide +kernel
theorem dX7_turned_83 : decode cX7_turned 83 = .ok (.ifCond .ne 8, 3) := by decide +kernel
theorem dX7_turned_86 : decode cX7_turned 86 = .ok (.iload 6, 2) := by decide +kernel
theorem dX7_turned_88 : decode cX7_turned 88 = .ok (.goto 6, 3) := by decide +kernel
theorem dX7_turned_91 : decode cX7_turned 91 = .ok (.sipush 10000, 3) := by decide +kernel
theorem dX7_turned_94 : decode cX7_turned 94 = .ok (.iload 7, 2) := by decide +kernel
theorem dX7_turned_96 : decode cX7_turned 96 = .ok (.idiv, 1) := by decide +kernel
theorem dX7_turned_97 : decode cX7_turned 97 = .ok (.i2l, 1) := by decide +kernel
theorem dX7_turned_98 : decode cX7_turned 98 = .ok (.lreturn, 1) := by decide +kernel
theorem dX7_drawn_0 : decode cX7_drawn 0 = .ok (.aload_n 0, 1) := by decide +kernel
theorem dX7_drawn_1 : decode cX7_drawn 1 = .ok (.invokevirtual 145, 3) := by decide +kernel
theorem dX7_drawn_4 : decode cX7_drawn 4 = .ok (.ifCond .eq 6, 3) := by decide +kernel
theorem dX7_drawn_7 : decode cX7_drawn 7 = .ok (.ldc 141, 2) := by decide +kernel
theorem dX7_drawn_9 : decode cX7_drawn 9 = .ok (.ireturn, 1) := by decide +kernel
theorem dX7_drawn_10 : decode cX7_drawn 10 = .ok (.iload_n 1, 1) := by decide +kernel
theorem dX7_drawn_11 : decode cX7_drawn 11 = .ok (.iconst 0, 1) := by decide +kernel
theorem dX7_drawn_12 : decode cX7_drawn 12 = .ok (.bipush 60, 2) := by decide +kernel
theorem dX7_drawn_14 : decode cX7_drawn 14 = .ok (.invokestatic 71, 3) := by decide +kernel
theorem dX7_drawn_17 : decode cX7_drawn 17 = .ok (.ifCond .eq 21, 3) := by decide +kernel
theorem dX7_drawn_20 : decode cX7_drawn 20 = .ok (.iload_n 2, 1) := by decide +kernel
theorem dX7_drawn_21 : decode cX7_drawn 21 = .ok (.iconst 1, 1) := by decide +kernel
theorem dX7_drawn_22 : decode cX7_drawn 22 = .ok (.ldc_w 269, 3) := by decide +kernel
theorem dX7_drawn_25 : decode cX7_drawn 25 = .ok (.invokestatic 71, 3) := by decide +kernel
theorem dX7_drawn_28 : decode cX7_drawn 28 = .ok (.ifCond .eq 10, 3) := by decide +kernel
theorem dX7_drawn_31 : decode cX7_drawn 31 = .ok (.iload_n 3, 1) := by decide +kernel
theorem dX7_drawn_32 : decode cX7_drawn 32 = .ok (.invokestatic 204, 3) := by decide +kernel
theorem dX7_drawn_35 : decode cX7_drawn 35 = .ok (.ifCond .ne 6, 3) := by decide +kernel
theorem dX7_drawn_38 : decode cX7_drawn 38 = .ok (.ldc 75, 2) := by decide +kernel
theorem dX7_drawn_40 : decode cX7_drawn 40 = .ok (.ireturn, 1) := by decide +kernel
theorem dX7_drawn_41 : decode cX7_drawn 41 = .ok (.aload_n 0, 1) := by decide +kernel
theorem dX7_drawn_42 : decode cX7_drawn 42 = .ok (.getfield 49, 3) := by decide +kernel
theorem dX7_drawn_45 : decode cX7_drawn 45 = .ok (.iload_n 1, 1) := by decide +kernel
theorem dX7_drawn_46 : decode cX7_drawn 46 = .ok (.iload_n 2, 1) := by decide +kernel
theorem dX7_drawn_47 : decode cX7_drawn 47 = .ok (.invokevirtual 270, 3) := by decide +kernel
theorem dX7_drawn_50 : decode cX7_drawn 50 = .ok (.istore 4, 2) := by decide +kernel
theorem dX7_drawn_52 : decode cX7_drawn 52 = .ok (.iload_n 3, 1) := by decide +kernel
theorem dX7_drawn_53 : decode cX7_drawn 53 = .ok (.ifCond .ne 8, 3) := by decide +kernel
theorem dX7_drawn_56 : decode cX7_drawn 56 = .ok (.iload 4, 2) := by decide +kernel
theorem dX7_drawn_58 : decode cX7_drawn 58 = .ok (.goto 13, 3) := by decide +kernel
theorem dX7_drawn_61 : decode cX7_drawn 61 = .ok (.aload_n 0, 1) := by decide +kernel
theorem dX7_drawn_62 : decode cX7_drawn 62 = .ok (.getfield 49, 3) := by decide +kernel
theorem dX7_drawn_65 : decode cX7_drawn 65 = .ok (.getfield 273, 3) := by decide +kernel
theorem dX7_drawn_68 : decode cX7_drawn 68 = .ok (.invokevirtual 276, 3) := by decide +kernel
theorem dX7_drawn_71 : decode cX7_drawn 71 = .ok (.ireturn, 1) := by decide +kernel
theorem dX7_image_0 : decode cX7_image 0 = .ok (.iload_n 1, 1) := by decide +kernel
theorem dX7_image_1 : decode cX7_image 1 = .ok (.iconst 0, 1) := by decide +kernel
theorem dX7_image_2 : decode cX7_image 2 = .ok (.iconst 1, 1) := by decide +kernel
theorem dX7_image_3 : decode cX7_image 3 = .ok (.invokestatic 71, 3) := by decide +kernel
theorem dX7_image_6 : decode cX7_image 6 = .ok (.ifCond .ne 6, 3) := by decide +kernel
theorem dX7_image_9 : decode cX7_image 9 = .ok (.ldc 75, 2) := by decide +kernel
theorem dX7_image_11 : decode cX7_image 11 = .ok (.ireturn, 1) := by decide +kernel
theorem dX7_image_12 : decode cX7_image 12 = .ok (.aload_n 0, 1) := by decide +kernel
theorem dX7_image_13 : decode cX7_image 13 = .ok (.invokevirtual 145, 3) := by decide +kernel
theorem dX7_image_16 : decode cX7_image 16 = .ok (.ifCond .eq 6, 3) := by decide +kernel
theorem dX7_image_19 : decode cX7_image 19 = .ok (.ldc 141, 2) := by decide +kernel
theorem dX7_image_21 : decode cX7_image 21 = .ok (.ireturn, 1) := by decide +kernel
theorem dX7_image_22 : decode cX7_image 22 = .ok (.aload_n 0, 1) := by decide +kernel
theorem dX7_image_23 : decode cX7_image 23 = .ok (.getfield 40, 3) := by decide +kernel
theorem dX7_image_26 : decode cX7_image 26 = .ok (.iload_n 1, 1) := by decide +kernel
theorem dX7_image_27 : decode cX7_image 27 = .ok (.aaload, 1) := by decide +kernel
theorem dX7_image_28 : decode cX7_image 28 = .ok (.aload_n 0, 1) := by decide +kernel
theorem dX7_image_29 : decode cX7_image 29 = .ok (.getfield 30, 3) := by decide +kernel
theorem dX7_image_32 : decode cX7_image 32 = .ok (.invokevirtual 129, 3) := by decide +kernel
theorem dX7_image_35 : decode cX7_image 35 = .ok (.iconst 1, 1) := by decide +kernel
theorem dX7_image_36 : decode cX7_image 36 = .ok (.ireturn, 1) := by decide +kernel
theorem dX7_restore_0 : decode cX7_restore 0 = .ok (.iload_n 1, 1) := by decide +kernel
theorem dX7_restore_1 : decode cX7_restore 1 = .ok (.iconst 0, 1) := by decide +kernel
theorem dX7_restore_2 : decode cX7_restore 2 = .ok (.iconst 1, 1) := by decide +kernel
theorem dX7_restore_3 : decode cX7_restore 3 = .ok (.invokestatic 71, 3) := by decide +kernel
theorem dX7_restore_6 : decode cX7_restore 6 = .ok (.ifCond .ne 6, 3) := by decide +kernel
theorem dX7_restore_9 : decode cX7_restore 9 = .ok (.ldc 75, 2) := by decide +kernel
theorem dX7_restore_11 : decode cX7_restore 11 = .ok (.ireturn, 1) := by decide +kernel
theorem dX7_restore_12 : decode cX7_restore 12 = .ok (.aload_n 0, 1) := by decide +kernel
theorem dX7_restore_13 : decode cX7_restore 13 = .ok (.getfield 40, 3) := by decide +kernel
theorem dX7_restore_16 : decode cX7_restore 16 = .ok (.iload_n 1, 1) := by decide +kernel
theorem dX7_restore_17 : decode cX7_restore 17 = .ok (.aaload, 1) := by decide +kernel
theorem dX7_restore_18 : decode cX7_restore 18 = .ok (.getfield 135, 3) := by decide +kernel
theorem dX7_restore_21 : decode cX7_restore 21 = .ok (.ifCond .ne 6, 3) := by decide +kernel
theorem dX7_restore_24 : decode cX7_restore 24 = .ok (.ldc 141, 2) := by decide +kernel
theorem dX7_restore_26 : decode cX7_restore 26 = .ok (.ireturn, 1) := by decide +kernel
theorem dX7_restore_27 : decode cX7_restore 27 = .ok (.aload_n 0, 1) := by decide +kernel
theorem dX7_restore_28 : decode cX7_restore 28 = .ok (.getfield 30, 3) := by decide +kernel
theorem dX7_restore_31 : decode cX7_restore 31 = .ok (.aload_n 0, 1) := by decide +kernel
theorem dX7_restore_32 : decode cX7_restore 32 = .ok (.getfield 40, 3) := by decide +kernel
theorem dX7_restore_35 : decode cX7_restore 35 = .ok (.iload_n 1, 1) := by decide +kernel
theorem dX7_restore_36 : decode cX7_restore 36 = .ok (.aaload, 1) := by decide +kernel
theorem dX7_restore_37 : decode cX7_restore 37 = .ok (.invokevirtual 129, 3) := by decide +kernel
theorem dX7_restore_40 : decode cX7_restore 40 = .ok (.aload_n 0, 1) := by decide +kernel
theorem dX7_restore_41 : decode cX7_restore 41 = .ok (.getfield 36, 3) := by decide +kernel
theorem dX7_restore_44 : decode cX7_restore 44 = .ok (.invokevirtual 132, 3) := by decide +kernel
theorem dX7_restore_47 : decode cX7_restore 47 = .ok (.iconst 1, 1) := by decide +kernel
theorem dX7_restore_48 : decode cX7_restore 48 = .ok (.ireturn, 1) := by decide +kernel
theorem dX7_kind_0 : decode cX7_kind 0 = .ok (.aload_n 0, 1) := by decide +kernel
theorem dX7_kind_1 : decode cX7_kind 1 = .ok (.iload_n 1, 1) := by decide +kernel
theorem dX7_kind_2 : decode cX7_kind 2 = .ok (.invokevirtual 168, 3) := by decide +kernel
theorem dX7_kind_5 : decode cX7_kind 5 = .ok (.ifCond .eq 15, 3) := by decide +kernel
theorem dX7_kind_8 : decode cX7_kind 8 = .ok (.aload_n 0, 1) := by decide +kernel
theorem dX7_kind_9 : decode cX7_kind 9 = .ok (.getfield 30, 3) := by decide +kernel
theorem dX7_kind_12 : decode cX7_kind 12 = .ok (.getfield 192, 3) := by decide +kernel
theorem dX7_kind_15 : decode cX7_kind 15 = .ok (.iload_n 1, 1) := by decide +kernel
theorem dX7_kind_16 : decode cX7_kind 16 = .ok (.iaload, 1) := by decide +kernel
theorem dX7_kind_17 : decode cX7_kind 17 = .ok (.goto 5, 3) := by decide +kernel
theorem dX7_kind_20 : decode cX7_kind 20 = .ok (.ldc 75, 2) := by decide +kernel
theorem dX7_kind_22 : decode cX7_kind 22 = .ok (.ireturn, 1) := by decide +kernel
theorem dX7_as_0 : decode cX7_as 0 = .ok (.aload_n 0, 1) := by decide +kernel
theorem dX7_as_1 : decode cX7_as 1 = .ok (.iload_n 1, 1) := by decide +kernel
theorem dX7_as_2 : decode cX7_as 2 = .ok (.invokevirtual 168, 3) := by decide +kernel
theorem dX7_as_5 : decode cX7_as 5 = .ok (.ifCond .eq 12, 3) := by decide +kernel
theorem dX7_as_8 : decode cX7_as 8 = .ok (.iload_n 2, 1) := by decide +kernel
theorem dX7_as_9 : decode cX7_as 9 = .ok (.iconst 0, 1) := by decide +kernel
theorem dX7_as_10 : decode cX7_as 10 = .ok (.iconst 5, 1) := by decide +kernel
theorem dX7_as_11 : decode cX7_as 11 = .ok (.invokestatic 71, 3) := by decide +kernel
theorem dX7_as_14 : decode cX7_as 14 = .ok (.ifCond .ne 6, 3) := by decide +kernel
theorem dX7_as_17 : decode cX7_as 17 = .ok (.ldc 75, 2) := by decide +kernel
theorem dX7_as_19 : decode cX7_as 19 = .ok (.ireturn, 1) := by decide +kernel
theorem dX7_as_20 : decode cX7_as 20 = .ok (.aload_n 0, 1) := by decide +kernel
theorem dX7_as_21 : decode cX7_as 21 = .ok (.getfield 30, 3) := by decide +kernel
theorem dX7_as_24 : decode cX7_as 24 = .ok (.getfield 192, 3) := by decide +kernel
theorem dX7_as_27 : decode cX7_as 27 = .ok (.iload_n 1, 1) := by decide +kernel
theorem dX7_as_28 : decode cX7_as 28 = .ok (.iaload, 1) := by decide +kernel
theorem dX7_as_29 : decode cX7_as 29 = .ok (.iload_n 2, 1) := by decide +kernel
theorem dX7_as_30 : decode cX7_as 30 = .ok (.invokestatic 281, 3) := by decide +kernel
theorem dX7_as_33 : decode cX7_as 33 = .ok (.ifCond .ne 9, 3) := by decide +kernel
theorem dX7_as_36 : decode cX7_as 36 = .ok (.aload_n 0, 1) := by decide +kernel
theorem dX7_as_37 : decode cX7_as 37 = .ok (.iconst 3, 1) := by decide +kernel
theorem dX7_as_38 : decode cX7_as 38 = .ok (.invokevirtual 76, 3) := by decide +kernel
theorem dX7_as_41 : decode cX7_as 41 = .ok (.ireturn, 1) := by decide +kernel
theorem dX7_as_42 : decode cX7_as 42 = .ok (.aload_n 0, 1) := by decide +kernel
theorem dX7_as_43 : decode cX7_as 43 = .ok (.iload_n 1, 1) := by decide +kernel
theorem dX7_as_44 : decode cX7_as 44 = .ok (.invokevirtual 84, 3) := by decide +kernel
theorem dX7_as_47 : decode cX7_as 47 = .ok (.ireturn, 1) := by decide +kernel
theorem dX7_ask_0 : decode cX7_ask 0 = .ok (.aload_n 0, 1) := by decide +kernel
theorem dX7_ask_1 : decode cX7_ask 1 = .ok (.iload_n 1, 1) := by decide +kernel
theorem dX7_ask_2 : decode cX7_ask 2 = .ok (.invokevirtual 168, 3) := by decide +kernel
theorem dX7_ask_5 : decode cX7_ask 5 = .ok (.ifCond .eq 10, 3) := by decide +kernel
theorem dX7_ask_8 : decode cX7_ask 8 = .ok (.iload_n 2, 1) := by decide +kernel
theorem dX7_ask_9 : decode cX7_ask 9 = .ok (.invokestatic 204, 3) := by decide +kernel
theorem dX7_ask_12 : decode cX7_ask 12 = .ok (.ifCond .ne 6, 3) := by decide +kernel
theorem dX7_ask_15 : decode cX7_ask 15 = .ok (.ldc 75, 2) := by decide +kernel
theorem dX7_ask_17 : decode cX7_ask 17 = .ok (.ireturn, 1) := by decide +kernel
theorem dX7_ask_18 : decode cX7_ask 18 = .ok (.aload_n 0, 1) := by decide +kernel
theorem dX7_ask_19 : decode cX7_ask 19 = .ok (.getfield 56, 3) := by decide +kernel
theorem dX7_ask_22 : decode cX7_ask 22 = .ok (.iload_n 1, 1) := by decide +kernel
theorem dX7_ask_23 : decode cX7_ask 23 = .ok (.iload_n 2, 1) := by decide +kernel
theorem dX7_ask_24 : decode cX7_ask 24 = .ok (.invokevirtual 284, 3) := by decide +kernel
theorem dX7_ask_27 : decode cX7_ask 27 = .ok (.ireturn, 1) := by decide +kernel
theorem dX7_trace_0 : decode cX7_trace 0 = .ok (.iload_n 1, 1) := by decide +kernel
theorem dX7_trace_1 : decode cX7_trace 1 = .ok (.ifCond .lt 26, 3) := by decide +kernel
theorem dX7_trace_4 : decode cX7_trace 4 = .ok (.iload_n 1, 1) := by decide +kernel
theorem dX7_trace_5 : decode cX7_trace 5 = .ok (.aload_n 0, 1) := by decide +kernel
theorem dX7_trace_6 : decode cX7_trace 6 = .ok (.getfield 56, 3) := by decide +kernel
theorem dX7_trace_9 : decode cX7_trace 9 = .ok (.getfield 286, 3) := by decide +kernel
theorem dX7_trace_12 : decode cX7_trace 12 = .ok (.if_icmp .ge 15, 3) := by decide +kernel
theorem dX7_trace_15 : decode cX7_trace 15 = .ok (.aload_n 0, 1) := by decide +kernel
theorem dX7_trace_16 : decode cX7_trace 16 = .ok (.getfield 56, 3) := by decide +kernel
theorem dX7_trace_19 : decode cX7_trace 19 = .ok (.getfield 289, 3) := by decide +kernel
theorem dX7_trace_22 : decode cX7_trace 22 = .ok (.iload_n 1, 1) := by decide +kernel
theorem dX7_trace_23 : decode cX7_trace 23 = .ok (.iaload, 1) := by decide +kernel
theorem dX7_trace_24 : decode cX7_trace 24 = .ok (.goto 5, 3) := by decide +kernel
theorem dX7_trace_27 : decode cX7_trace 27 = .ok (.ldc 227, 2) := by decide +kernel
theorem dX7_trace_29 : decode cX7_trace 29 = .ok (.ireturn, 1) := by decide +kernel
theorem dX7_count_0 : decode cX7_count 0 = .ok (.iload_n 1, 1) := by decide +kernel
theorem dX7_count_1 : decode cX7_count 1 = .ok (.tableswitch 108 0 7 #[47, 52, 60, 68, 76, 84, 92, 100], 47) := by decide +kernel
theorem dX7_count_48 : decode cX7_count 48 = .ok (.aload_n 0, 1) := by decide +kernel
theorem dX7_count_49 : decode cX7_count 49 = .ok (.invokevirtual 292, 3) := by decide +kernel
theorem dX7_count_52 : decode cX7_count 52 = .ok (.ireturn, 1) := by decide +kernel
theorem dX7_count_53 : decode cX7_count 53 = .ok (.aload_n 0, 1) := by decide +kernel
theorem dX7_count_54 : decode cX7_count 54 = .ok (.getfield 30, 3) := by decide +kernel
theorem dX7_count_57 : decode cX7_count 57 = .ok (.getfield 135, 3) := by decide +kernel
theorem dX7_count_60 : decode cX7_count 60 = .ok (.ireturn, 1) := by decide +kernel
theorem dX7_count_61 : decode cX7_count 61 = .ok (.aload_n 0, 1) := by decide +kernel
theorem dX7_count_62 : decode cX7_count 62 = .ok (.getfield 30, 3) := by decide +kernel
theorem dX7_count_65 : decode cX7_count 65 = .ok (.getfield 295, 3) := by decide +kernel
theorem dX7_count_68 : decode cX7_count 68 = .ok (.ireturn, 1) := by decide +kernel
theorem dX7_count_69 : decode cX7_count 69 = .ok (.aload_n 0, 1) := by decide +kernel
theorem dX7_count_70 : decode cX7_count 70 = .ok (.getfield 30, 3) := by decide +kernel
theorem dX7_count_73 : decode cX7_count 73 = .ok (.getfield 149, 3) := by decide +kernel
theorem dX7_count_76 : decode cX7_count 76 = .ok (.ireturn, 1) := by decide +kernel
theorem dX7_count_77 : decode cX7_count 77 = .ok (.aload_n 0, 1) := by decide +kernel
theorem dX7_count_78 : decode cX7_count 78 = .ok (.getfield 30, 3) := by decide +kernel
theorem dX7_count_81 : decode cX7_count 81 = .ok (.invokevirtual 298, 3) := by decide +kernel
theorem dX7_count_84 : decode cX7_count 84 = .ok (.ireturn, 1) := by decide +kernel
theorem dX7_count_85 : decode cX7_count 85 = .ok (.aload_n 0, 1) := by decide +kernel
theorem dX7_count_86 : decode cX7_count 86 = .ok (.getfield 30, 3) := by decide +kernel
theorem dX7_count_89 : decode cX7_count 89 = .ok (.invokevirtual 159, 3) := by decide +kernel
theorem dX7_count_92 : decode cX7_count 92 = .ok (.ireturn, 1) := by decide +kernel
theorem dX7_count_93 : decode cX7_count 93 = .ok (.aload_n 0, 1) := by decide +kernel
theorem dX7_count_94 : decode cX7_count 94 = .ok (.getfield 36, 3) := by decide +kernel
theorem dX7_count_97 : decode cX7_count 97 = .ok (.getfield 138, 3) := by decide +kernel
theorem dX7_count_100 : decode cX7_count 100 = .ok (.ireturn, 1) := by decide +kernel
theorem dX7_count_101 : decode cX7_count 101 = .ok (.aload_n 0, 1) := by decide +kernel
theorem dX7_count_102 : decode cX7_count 102 = .ok (.getfield 19, 3) := by decide +kernel
theorem dX7_count_105 : decode cX7_count 105 = .ok (.getfield 301, 3) := by decide +kernel
theorem dX7_count_108 : decode cX7_count 108 = .ok (.ireturn, 1) := by decide +kernel
theorem dX7_count_109 : decode cX7_count 109 = .ok (.ldc 75, 2) := by decide +kernel
theorem dX7_count_111 : decode cX7_count 111 = .ok (.ireturn, 1) := by decide +kernel
theorem dX7_status_0 : decode cX7_status 0 = .ok (.aload_n 0, 1) := by decide +kernel
theorem dX7_status_1 : decode cX7_status 1 = .ok (.getfield 64, 3) := by decide +kernel
theorem dX7_status_4 : decode cX7_status 4 = .ok (.ireturn, 1) := by decide +kernel
theorem dX7_within_0 : decode cX7_within 0 = .ok (.iload_n 0, 1) := by decide +kernel
theorem dX7_within_1 : decode cX7_within 1 = .ok (.iload_n 1, 1) := by decide +kernel
theorem dX7_within_2 : decode cX7_within 2 = .ok (.if_icmp .lt 12, 3) := by decide +kernel
theorem dX7_within_5 : decode cX7_within 5 = .ok (.iload_n 0, 1) := by decide +kernel
theorem dX7_within_6 : decode cX7_within 6 = .ok (.iload_n 2, 1) := by decide +kernel
theorem dX7_within_7 : decode cX7_within 7 = .ok (.if_icmp .gt 7, 3) := by decide +kernel
theorem dX7_within_10 : decode cX7_within 10 = .ok (.iconst 1, 1) := by decide +kernel
theorem dX7_within_11 : decode cX7_within 11 = .ok (.goto 4, 3) := by decide +kernel
theorem dX7_within_14 : decode cX7_within 14 = .ok (.iconst 0, 1) := by decide +kernel
theorem dX7_within_15 : decode cX7_within 15 = .ok (.ireturn, 1) := by decide +kernel
theorem dX7_isRow_0 : decode cX7_isRow 0 = .ok (.iload_n 0, 1) := by decide +kernel
theorem dX7_isRow_1 : decode cX7_isRow 1 = .ok (.iconst 0, 1) := by decide +kernel
theorem dX7_isRow_2 : decode cX7_isRow 2 = .ok (.bipush 7, 2) := by decide +kernel
theorem dX7_isRow_4 : decode cX7_isRow 4 = .ok (.invokestatic 71, 3) := by decide +kernel
theorem dX7_isRow_7 : decode cX7_isRow 7 = .ok (.ireturn, 1) := by decide +kernel
theorem dX7_isLand_0 : decode cX7_isLand 0 = .ok (.iload_n 0, 1) := by decide +kernel
theorem dX7_isLand_1 : decode cX7_isLand 1 = .ok (.iconst 0, 1) := by decide +kernel
theorem dX7_isLand_2 : decode cX7_isLand 2 = .ok (.bipush 9, 2) := by decide +kernel
theorem dX7_isLand_4 : decode cX7_isLand 4 = .ok (.invokestatic 71, 3) := by decide +kernel
theorem dX7_isLand_7 : decode cX7_isLand 7 = .ok (.ireturn, 1) := by decide +kernel
theorem dX7_isOneOfTwo_0 : decode cX7_isOneOfTwo 0 = .ok (.iload_n 0, 1) := by decide +kernel
theorem dX7_isOneOfTwo_1 : decode cX7_isOneOfTwo 1 = .ok (.iconst 0, 1) := by decide +kernel
theorem dX7_isOneOfTwo_2 : decode cX7_isOneOfTwo 2 = .ok (.iconst 1, 1) := by decide +kernel
theorem dX7_isOneOfTwo_3 : decode cX7_isOneOfTwo 3 = .ok (.invokestatic 71, 3) := by decide +kernel
theorem dX7_isOneOfTwo_6 : decode cX7_isOneOfTwo 6 = .ok (.ireturn, 1) := by decide +kernel
theorem dX7_isOffice_0 : decode cX7_isOffice 0 = .ok (.iload_n 1, 1) := by decide +kernel
theorem dX7_isOffice_1 : decode cX7_isOffice 1 = .ok (.iconst 0, 1) := by decide +kernel
theorem dX7_isOffice_2 : decode cX7_isOffice 2 = .ok (.aload_n 0, 1) := by decide +kernel
theorem dX7_isOffice_3 : decode cX7_isOffice 3 = .ok (.getfield 30, 3) := by decide +kernel
theorem dX7_isOffice_6 : decode cX7_isOffice 6 = .ok (.getfield 135, 3) := by decide +kernel
theorem dX7_isOffice_9 : decode cX7_isOffice 9 = .ok (.iconst 1, 1) := by decide +kernel
theorem dX7_isOffice_10 : decode cX7_isOffice 10 = .ok (.isub, 1) := by decide +kernel
theorem dX7_isOffice_11 : decode cX7_isOffice 11 = .ok (.invokestatic 71, 3) := by decide +kernel
theorem dX7_isOffice_14 : decode cX7_isOffice 14 = .ok (.ireturn, 1) := by decide +kernel
theorem dX7_noSky_0 : decode cX7_noSky 0 = .ok (.aload_n 0, 1) := by decide +kernel
theorem dX7_noSky_1 : decode cX7_noSky 1 = .ok (.getfield 30, 3) := by decide +kernel
theorem dX7_noSky_4 : decode cX7_noSky 4 = .ok (.getfield 135, 3) := by decide +kernel
theorem dX7_noSky_7 : decode cX7_noSky 7 = .ok (.ifCond .ne 7, 3) := by decide +kernel
theorem dX7_noSky_10 : decode cX7_noSky 10 = .ok (.iconst 1, 1) := by decide +kernel
theorem dX7_noSky_11 : decode cX7_noSky 11 = .ok (.goto 4, 3) := by decide +kernel
theorem dX7_noSky_14 : decode cX7_noSky 14 = .ok (.iconst 0, 1) := by decide +kernel
theorem dX7_noSky_15 : decode cX7_noSky 15 = .ok (.ireturn, 1) := by decide +kernel
theorem dX7_found_0 : decode cX7_found 0 = .ok (.aload_n 0, 1) := by decide +kernel
theorem dX7_found_1 : decode cX7_found 1 = .ok (.iload_n 1, 1) := by decide +kernel
theorem dX7_found_2 : decode cX7_found 2 = .ok (.putfield 64, 3) := by decide +kernel
theorem dX7_found_5 : decode cX7_found 5 = .ok (.ldc_w 302, 3) := by decide +kernel
theorem dX7_found_8 : decode cX7_found 8 = .ok (.iload_n 1, 1) := by decide +kernel
theorem dX7_found_9 : decode cX7_found 9 = .ok (.isub, 1) := by decide +kernel
theorem dX7_found_10 : decode cX7_found 10 = .ok (.ireturn, 1) := by decide +kernel
theorem dX7_foundNothing_0 : decode cX7_foundNothing 0 = .ok (.aload_n 0, 1) := by decide +kernel
theorem dX7_foundNothing_1 : decode cX7_foundNothing 1 = .ok (.iconst 0, 1) := by decide +kernel
theorem dX7_foundNothing_2 : decode cX7_foundNothing 2 = .ok (.putfield 64, 3) := by decide +kernel
theorem dX7_foundNothing_5 : decode cX7_foundNothing 5 = .ok (.iload_n 1, 1) := by decide +kernel
theorem dX7_foundNothing_6 : decode cX7_foundNothing 6 = .ok (.ireturn, 1) := by decide +kernel
theorem dX7_rowsThatAre_0 : decode cX7_rowsThatAre 0 = .ok (.iconst 0, 1) := by decide +kernel
theorem dX7_rowsThatAre_1 : decode cX7_rowsThatAre 1 = .ok (.istore_n 1, 1) := by decide +kernel
theorem dX7_rowsThatAre_2 : decode cX7_rowsThatAre 2 = .ok (.iconst 0, 1) := by decide +kernel
theorem dX7_rowsThatAre_3 : decode cX7_rowsThatAre 3 = .ok (.istore_n 2, 1) := by decide +kernel
theorem dX7_rowsThatAre_4 : decode cX7_rowsThatAre 4 = .ok (.iload_n 2, 1) := by decide +kernel
theorem dX7_rowsThatAre_5 : decode cX7_rowsThatAre 5 = .ok (.bipush 8, 2) := by decide +kernel
theorem dX7_rowsThatAre_7 : decode cX7_rowsThatAre 7 = .ok (.if_icmp .ge 24, 3) := by decide +kernel
theorem dX7_rowsThatAre_10 : decode cX7_rowsThatAre 10 = .ok (.aload_n 0, 1) := by decide +kernel
theorem dX7_rowsThatAre_11 : decode cX7_rowsThatAre 11 = .ok (.getfield 11, 3) := by decide +kernel
theorem dX7_rowsThatAre_14 : decode cX7_rowsThatAre 14 = .ok (.iload_n 2, 1) := by decide +kernel
theorem dX7_rowsThatAre_15 : decode cX7_rowsThatAre 15 = .ok (.aaload, 1) := by decide +kernel
theorem dX7_rowsThatAre_16 : decode cX7_rowsThatAre 16 = .ok (.getfield 94, 3) := by decide +kernel
theorem dX7_rowsThatAre_19 : decode cX7_rowsThatAre 19 = .ok (.ifCond .ne 6, 3) := by decide +kernel
theorem dX7_rowsThatAre_22 : decode cX7_rowsThatAre 22 = .ok (.iinc 1 1, 3) := by decide +kernel
theorem dX7_rowsThatAre_25 : decode cX7_rowsThatAre 25 = .ok (.iinc 2 1, 3) := by decide +kernel
theorem dX7_rowsThatAre_28 : decode cX7_rowsThatAre 28 = .ok (.goto (-24), 3) := by decide +kernel
theorem dX7_rowsThatAre_31 : decode cX7_rowsThatAre 31 = .ok (.iload_n 1, 1) := by decide +kernel
theorem dX7_rowsThatAre_32 : decode cX7_rowsThatAre 32 = .ok (.ireturn, 1) := by decide +kernel
