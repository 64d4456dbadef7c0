theorem dX0_init_0 : decode cX0_init 0 = .ok (.aload_n 0, 1) := by decide +kernel
theorem dX0_init_1 : decode cX0_init 1 = .ok (.invokespecial 1, 3) := by decide +kernel
theorem dX0_init_4 : decode cX0_init 4 = .ok (.aload_n 0, 1) := by decide +kernel
theorem dX0_init_5 : decode cX0_init 5 = .ok (.bipush 24, 2) := by decide +kernel
theorem dX0_init_7 : decode cX0_init 7 = .ok (.anewarray 9, 3) := by decide +kernel
theorem dX0_init_10 : decode cX0_init 10 = .ok (.putfield 11, 3) := by decide +kernel
theorem dX0_init_13 : decode cX0_init 13 = .ok (.iconst 0, 1) := by decide +kernel
theorem dX0_init_14 : decode cX0_init 14 = .ok (.istore_n 1, 1) := by decide +kernel
theorem dX0_init_15 : decode cX0_init 15 = .ok (.iload_n 1, 1) := by decide +kernel
theorem dX0_init_16 : decode cX0_init 16 = .ok (.bipush 24, 2) := by decide +kernel
theorem dX0_init_18 : decode cX0_init 18 = .ok (.if_icmp .ge 22, 3) := by decide +kernel
theorem dX0_init_21 : decode cX0_init 21 = .ok (.aload_n 0, 1) := by decide +kernel
theorem dX0_init_22 : decode cX0_init 22 = .ok (.getfield 11, 3) := by decide +kernel
theorem dX0_init_25 : decode cX0_init 25 = .ok (.iload_n 1, 1) := by decide +kernel
theorem dX0_init_26 : decode cX0_init 26 = .ok (.new 9, 3) := by decide +kernel
theorem dX0_init_29 : decode cX0_init 29 = .ok (.dup, 1) := by decide +kernel
theorem dX0_init_30 : decode cX0_init 30 = .ok (.invokespecial 15, 3) := by decide +kernel
theorem dX0_init_33 : decode cX0_init 33 = .ok (.aastore, 1) := by decide +kernel
theorem dX0_init_34 : decode cX0_init 34 = .ok (.iinc 1 1, 3) := by decide +kernel
theorem dX0_init_37 : decode cX0_init 37 = .ok (.goto (-22), 3) := by decide +kernel
theorem dX0_init_40 : decode cX0_init 40 = .ok (.return_, 1) := by decide +kernel
theorem dX0_forget_0 : decode cX0_forget 0 = .ok (.aload_n 0, 1) := by decide +kernel
theorem dX0_forget_1 : decode cX0_forget 1 = .ok (.iconst 0, 1) := by decide +kernel
theorem dX0_forget_2 : decode cX0_forget 2 = .ok (.putfield 16, 3) := by decide +kernel
theorem dX0_forget_5 : decode cX0_forget 5 = .ok (.return_, 1) := by decide +kernel
theorem dX0_keep_0 : decode cX0_keep 0 = .ok (.aload_n 0, 1) := by decide +kernel
theorem dX0_keep_1 : decode cX0_keep 1 = .ok (.aload_n 0, 1) := by decide +kernel
theorem dX0_keep_2 : decode cX0_keep 2 = .ok (.getfield 20, 3) := by decide +kernel
theorem dX0_keep_5 : decode cX0_keep 5 = .ok (.bipush 23, 2) := by decide +kernel
theorem dX0_keep_7 : decode cX0_keep 7 = .ok (.if_icmp .ge 12, 3) := by decide +kernel
theorem dX0_keep_10 : decode cX0_keep 10 = .ok (.aload_n 0, 1) := by decide +kernel
theorem dX0_keep_11 : decode cX0_keep 11 = .ok (.getfield 20, 3) := by decide +kernel
theorem dX0_keep_14 : decode cX0_keep 14 = .ok (.iconst 1, 1) := by decide +kernel
theorem dX0_keep_15 : decode cX0_keep 15 = .ok (.iadd, 1) := by decide +kernel
theorem dX0_keep_16 : decode cX0_keep 16 = .ok (.goto 4, 3) := by decide +kernel
theorem dX0_keep_19 : decode cX0_keep 19 = .ok (.iconst 0, 1) := by decide +kernel
theorem dX0_keep_20 : decode cX0_keep 20 = .ok (.putfield 20, 3) := by decide +kernel
theorem dX0_keep_23 : decode cX0_keep 23 = .ok (.aload_n 0, 1) := by decide +kernel
theorem dX0_keep_24 : decode cX0_keep 24 = .ok (.getfield 11, 3) := by decide +kernel
theorem dX0_keep_27 : decode cX0_keep 27 = .ok (.aload_n 0, 1) := by decide +kernel
theorem dX0_keep_28 : decode cX0_keep 28 = .ok (.getfield 20, 3) := by decide +kernel
theorem dX0_keep_31 : decode cX0_keep 31 = .ok (.aaload, 1) := by decide +kernel
theorem dX0_keep_32 : decode cX0_keep 32 = .ok (.aload_n 1, 1) := by decide +kernel
theorem dX0_keep_33 : decode cX0_keep 33 = .ok (.invokevirtual 23, 3) := by decide +kernel
theorem dX0_keep_36 : decode cX0_keep 36 = .ok (.aload_n 0, 1) := by decide +kernel
theorem dX0_keep_37 : decode cX0_keep 37 = .ok (.bipush 24, 2) := by decide +kernel
theorem dX0_keep_39 : decode cX0_keep 39 = .ok (.aload_n 0, 1) := by decide +kernel
theorem dX0_keep_40 : decode cX0_keep 40 = .ok (.getfield 16, 3) := by decide +kernel
theorem dX0_keep_43 : decode cX0_keep 43 = .ok (.iconst 1, 1) := by decide +kernel
theorem dX0_keep_44 : decode cX0_keep 44 = .ok (.iadd, 1) := by decide +kernel
theorem dX0_keep_45 : decode cX0_keep 45 = .ok (.invokestatic 27, 3) := by decide +kernel
theorem dX0_keep_48 : decode cX0_keep 48 = .ok (.putfield 16, 3) := by decide +kernel
theorem dX0_keep_51 : decode cX0_keep 51 = .ok (.return_, 1) := by decide +kernel
theorem dX0_takeBack_0 : decode cX0_takeBack 0 = .ok (.aload_n 1, 1) := by decide +kernel
theorem dX0_takeBack_1 : decode cX0_takeBack 1 = .ok (.aload_n 0, 1) := by decide +kernel
theorem dX0_takeBack_2 : decode cX0_takeBack 2 = .ok (.getfield 11, 3) := by decide +kernel
theorem dX0_takeBack_5 : decode cX0_takeBack 5 = .ok (.aload_n 0, 1) := by decide +kernel
theorem dX0_takeBack_6 : decode cX0_takeBack 6 = .ok (.getfield 20, 3) := by decide +kernel
theorem dX0_takeBack_9 : decode cX0_takeBack 9 = .ok (.aaload, 1) := by decide +kernel
theorem dX0_takeBack_10 : decode cX0_takeBack 10 = .ok (.invokevirtual 23, 3) := by decide +kernel
theorem dX0_takeBack_13 : decode cX0_takeBack 13 = .ok (.aload_n 0, 1) := by decide +kernel
theorem dX0_takeBack_14 : decode cX0_takeBack 14 = .ok (.aload_n 0, 1) := by decide +kernel
theorem dX0_takeBack_15 : decode cX0_takeBack 15 = .ok (.getfield 20, 3) := by decide +kernel
theorem dX0_takeBack_18 : decode cX0_takeBack 18 = .ok (.ifCond .le 12, 3) := by decide +kernel
theorem dX0_takeBack_21 : decode cX0_takeBack 21 = .ok (.aload_n 0, 1) := by decide +kernel
theorem dX0_takeBack_22 : decode cX0_takeBack 22 = .ok (.getfield 20, 3) := by decide +kernel
theorem dX0_takeBack_25 : decode cX0_takeBack 25 = .ok (.iconst 1, 1) := by decide +kernel
theorem dX0_takeBack_26 : decode cX0_takeBack 26 = .ok (.isub, 1) := by decide +kernel
theorem dX0_takeBack_27 : decode cX0_takeBack 27 = .ok (.goto 5, 3) := by decide +kernel
theorem dX0_takeBack_30 : decode cX0_takeBack 30 = .ok (.bipush 23, 2) := by decide +kernel
theorem dX0_takeBack_32 : decode cX0_takeBack 32 = .ok (.putfield 20, 3) := by decide +kernel
theorem dX0_takeBack_35 : decode cX0_takeBack 35 = .ok (.aload_n 0, 1) := by decide +kernel
theorem dX0_takeBack_36 : decode cX0_takeBack 36 = .ok (.dup, 1) := by decide +kernel
theorem dX0_takeBack_37 : decode cX0_takeBack 37 = .ok (.getfield 16, 3) := by decide +kernel
theorem dX0_takeBack_40 : decode cX0_takeBack 40 = .ok (.iconst 1, 1) := by decide +kernel
theorem dX0_takeBack_41 : decode cX0_takeBack 41 = .ok (.isub, 1) := by decide +kernel
theorem dX0_takeBack_42 : decode cX0_takeBack 42 = .ok (.putfield 16, 3) := by decide +kernel
theorem dX0_takeBack_45 : decode cX0_takeBack 45 = .ok (.aload_n 0, 1) := by decide +kernel
theorem dX0_takeBack_46 : decode cX0_takeBack 46 = .ok (.getfield 16, 3) := by decide +kernel
theorem dX0_takeBack_49 : decode cX0_takeBack 49 = .ok (.ireturn, 1) := by decide +kernel
theorem dX1_init_0 : decode cX1_init 0 = .ok (.aload_n 0, 1) := by decide +kernel
theorem dX1_init_1 : decode cX1_init 1 = .ok (.invokespecial 1, 3) := by decide +kernel
theorem dX1_init_4 : decode cX1_init 4 = .ok (.aload_n 0, 1) := by decide +kernel
theorem dX1_init_5 : decode cX1_init 5 = .ok (.bipush 16, 2) := by decide +kernel
theorem dX1_init_7 : decode cX1_init 7 = .ok (.newarray .int, 2) := by decide +kernel
theorem dX1_init_9 : decode cX1_init 9 = .ok (.putfield 9, 3) := by decide +kernel
theorem dX1_init_12 : decode cX1_init 12 = .ok (.aload_n 0, 1) := by decide +kernel
theorem dX1_init_13 : decode cX1_init 13 = .ok (.aload_n 1, 1) := by decide +kernel
theorem dX1_init_14 : decode cX1_init 14 = .ok (.putfield 13, 3) := by decide +kernel
theorem dX1_init_17 : decode cX1_init 17 = .ok (.return_, 1) := by decide +kernel
theorem dX1_begin_0 : decode cX1_begin 0 = .ok (.aload_n 0, 1) := by decide +kernel
theorem dX1_begin_1 : decode cX1_begin 1 = .ok (.iconst 0, 1) := by decide +kernel
theorem dX1_begin_2 : decode cX1_begin 2 = .ok (.putfield 17, 3) := by decide +kernel
theorem dX1_begin_5 : decode cX1_begin 5 = .ok (.aload_n 0, 1) := by decide +kernel
theorem dX1_begin_6 : decode cX1_begin 6 = .ok (.aload_n 0, 1) := by decide +kernel
theorem dX1_begin_7 : decode cX1_begin 7 = .ok (.iload_n 1, 1) := by decide +kernel
theorem dX1_begin_8 : decode cX1_begin 8 = .ok (.iload_n 2, 1) := by decide +kernel
theorem dX1_begin_9 : decode cX1_begin 9 = .ok (.invokevirtual 21, 3) := by decide +kernel
theorem dX1_begin_12 : decode cX1_begin 12 = .ok (.iload_n 1, 1) := by decide +kernel
theorem dX1_begin_13 : decode cX1_begin 13 = .ok (.iconst 0, 1) := by decide +kernel
theorem dX1_begin_14 : decode cX1_begin 14 = .ok (.invokevirtual 25, 3) := by decide +kernel
theorem dX1_begin_17 : decode cX1_begin 17 = .ok (.ireturn, 1) := by decide +kernel
theorem dX1_bodyFor_0 : decode cX1_bodyFor 0 = .ok (.aload_n 0, 1) := by decide +kernel
theorem dX1_bodyFor_1 : decode cX1_bodyFor 1 = .ok (.getfield 13, 3) := by decide +kernel
theorem dX1_bodyFor_4 : decode cX1_bodyFor 4 = .ok (.getfield 29, 3) := by decide +kernel
theorem dX1_bodyFor_7 : decode cX1_bodyFor 7 = .ok (.iload_n 1, 1) := by decide +kernel
theorem dX1_bodyFor_8 : decode cX1_bodyFor 8 = .ok (.iaload, 1) := by decide +kernel
theorem dX1_bodyFor_9 : decode cX1_bodyFor 9 = .ok (.istore_n 3, 1) := by decide +kernel
theorem dX1_bodyFor_10 : decode cX1_bodyFor 10 = .ok (.iconst 0, 1) := by decide +kernel
theorem dX1_bodyFor_11 : decode cX1_bodyFor 11 = .ok (.istore 4, 2) := by decide +kernel
theorem dX1_bodyFor_13 : decode cX1_bodyFor 13 = .ok (.iload 4, 2) := by decide +kernel
theorem dX1_bodyFor_15 : decode cX1_bodyFor 15 = .ok (.bipush 6, 2) := by decide +kernel
theorem dX1_bodyFor_17 : decode cX1_bodyFor 17 = .ok (.if_icmp .ge 22, 3) := by decide +kernel
theorem dX1_bodyFor_20 : decode cX1_bodyFor 20 = .ok (.iload_n 3, 1) := by decide +kernel
theorem dX1_bodyFor_21 : decode cX1_bodyFor 21 = .ok (.iload_n 2, 1) := by decide +kernel
theorem dX1_bodyFor_22 : decode cX1_bodyFor 22 = .ok (.invokestatic 36, 3) := by decide +kernel
theorem dX1_bodyFor_25 : decode cX1_bodyFor 25 = .ok (.ifCond .ne 14, 3) := by decide +kernel
theorem dX1_bodyFor_28 : decode cX1_bodyFor 28 = .ok (.iload_n 3, 1) := by decide +kernel
theorem dX1_bodyFor_29 : decode cX1_bodyFor 29 = .ok (.invokestatic 39, 3) := by decide +kernel
theorem dX1_bodyFor_32 : decode cX1_bodyFor 32 = .ok (.istore_n 3, 1) := by decide +kernel
theorem dX1_bodyFor_33 : decode cX1_bodyFor 33 = .ok (.iinc 4 1, 3) := by decide +kernel
theorem dX1_bodyFor_36 : decode cX1_bodyFor 36 = .ok (.goto (-23), 3) := by decide +kernel
theorem dX1_bodyFor_39 : decode cX1_bodyFor 39 = .ok (.iload_n 3, 1) := by decide +kernel
theorem dX1_bodyFor_40 : decode cX1_bodyFor 40 = .ok (.iload_n 2, 1) := by decide +kernel
theorem dX1_bodyFor_41 : decode cX1_bodyFor 41 = .ok (.invokestatic 36, 3) := by decide +kernel
theorem dX1_bodyFor_44 : decode cX1_bodyFor 44 = .ok (.ireturn, 1) := by decide +kernel
theorem dX1_toldBody_0 : decode cX1_toldBody 0 = .ok (.iload_n 0, 1) := by decide +kernel
theorem dX1_toldBody_1 : decode cX1_toldBody 1 = .ok (.ifCond .lt 9, 3) := by decide +kernel
theorem dX1_toldBody_4 : decode cX1_toldBody 4 = .ok (.iload_n 0, 1) := by decide +kernel
theorem dX1_toldBody_5 : decode cX1_toldBody 5 = .ok (.bipush 6, 2) := by decide +kernel
theorem dX1_toldBody_7 : decode cX1_toldBody 7 = .ok (.if_icmp .lt 5, 3) := by decide +kernel
theorem dX1_toldBody_10 : decode cX1_toldBody 10 = .ok (.iconst 0, 1) := by decide +kernel
theorem dX1_toldBody_11 : decode cX1_toldBody 11 = .ok (.ireturn, 1) := by decide +kernel
theorem dX1_toldBody_12 : decode cX1_toldBody 12 = .ok (.iload_n 1, 1) := by decide +kernel
theorem dX1_toldBody_13 : decode cX1_toldBody 13 = .ok (.ifCond .ne 11, 3) := by decide +kernel
theorem dX1_toldBody_16 : decode cX1_toldBody 16 = .ok (.getstatic 43, 3) := by decide +kernel
theorem dX1_toldBody_19 : decode cX1_toldBody 19 = .ok (.iload_n 0, 1) := by decide +kernel
theorem dX1_toldBody_20 : decode cX1_toldBody 20 = .ok (.iaload, 1) := by decide +kernel
theorem dX1_toldBody_21 : decode cX1_toldBody 21 = .ok (.goto 8, 3) := by decide +kernel
theorem dX1_toldBody_24 : decode cX1_toldBody 24 = .ok (.getstatic 46, 3) := by decide +kernel
theorem dX1_toldBody_27 : decode cX1_toldBody 27 = .ok (.iload_n 0, 1) := by decide +kernel
theorem dX1_toldBody_28 : decode cX1_toldBody 28 = .ok (.iaload, 1) := by decide +kernel
theorem dX1_toldBody_29 : decode cX1_toldBody 29 = .ok (.ireturn, 1) := by decide +kernel
theorem dX1_give_0 : decode cX1_give 0 = .ok (.iload_n 3, 1) := by decide +kernel
theorem dX1_give_1 : decode cX1_give 1 = .ok (.bipush 20, 2) := by decide +kernel
theorem dX1_give_3 : decode cX1_give 3 = .ok (.if_icmp .le 5, 3) := by decide +kernel
theorem dX1_give_6 : decode cX1_give 6 = .ok (.iconst 0, 1) := by decide +kernel
theorem dX1_give_7 : decode cX1_give 7 = .ok (.ireturn, 1) := by decide +kernel
theorem dX1_give_8 : decode cX1_give 8 = .ok (.aload_n 0, 1) := by decide +kernel
theorem dX1_give_9 : decode cX1_give 9 = .ok (.iload_n 1, 1) := by decide +kernel
theorem dX1_give_10 : decode cX1_give 10 = .ok (.invokevirtual 49, 3) := by decide +kernel
theorem dX1_give_13 : decode cX1_give 13 = .ok (.iload_n 3, 1) := by decide +kernel
theorem dX1_give_14 : decode cX1_give 14 = .ok (.iconst 1, 1) := by decide +kernel
theorem dX1_give_15 : decode cX1_give 15 = .ok (.iadd, 1) := by decide +kernel
theorem dX1_give_16 : decode cX1_give 16 = .ok (.istore 4, 2) := by decide +kernel
theorem dX1_give_18 : decode cX1_give 18 = .ok (.iload_n 1, 1) := by decide +kernel
theorem dX1_give_19 : decode cX1_give 19 = .ok (.tableswitch 215 10 24 #[73, 83, 107, 118, 131, 215, 215, 215, 215, 215, 143, 145, 165, 179, 203], 73) := by decide +kernel
theorem dX1_give_92 : decode cX1_give 92 = .ok (.aload_n 0, 1) := by decide +kernel
theorem dX1_give_93 : decode cX1_give 93 = .ok (.getfield 13, 3) := by decide +kernel
theorem dX1_give_96 : decode cX1_give 96 = .ok (.getfield 53, 3) := by decide +kernel
theorem dX1_give_99 : decode cX1_give 99 = .ok (.iload_n 2, 1) := by decide +kernel
theorem dX1_give_100 : decode cX1_give 100 = .ok (.iaload, 1) := by decide +kernel
theorem dX1_give_101 : decode cX1_give 101 = .ok (.ireturn, 1) := by decide +kernel
theorem dX1_give_102 : decode cX1_give 102 = .ok (.aload_n 0, 1) := by decide +kernel
theorem dX1_give_103 : decode cX1_give 103 = .ok (.bipush 10, 2) := by decide +kernel
theorem dX1_give_105 : decode cX1_give 105 = .ok (.iload_n 2, 1) := by decide +kernel
theorem dX1_give_106 : decode cX1_give 106 = .ok (.iload 4, 2) := by decide +kernel
theorem dX1_give_108 : decode cX1_give 108 = .ok (.invokevirtual 25, 3) := by decide +kernel
theorem dX1_give_111 : decode cX1_give 111 = .ok (.aload_n 0, 1) := by decide +kernel
theorem dX1_give_112 : decode cX1_give 112 = .ok (.aload_n 0, 1) := by decide +kernel
theorem dX1_give_113 : decode cX1_give 113 = .ok (.iload_n 2, 1) := by decide +kernel
theorem dX1_give_114 : decode cX1_give 114 = .ok (.iconst 1, 1) := by decide +kernel
theorem dX1_give_115 : decode cX1_give 115 = .ok (.invokevirtual 21, 3) := by decide +kernel
theorem dX1_give_118 : decode cX1_give 118 = .ok (.iload_n 2, 1) := by decide +kernel
theorem dX1_give_119 : decode cX1_give 119 = .ok (.iload 4, 2) := by decide +kernel
theorem dX1_give_121 : decode cX1_give 121 = .ok (.invokevirtual 25, 3) := by decide +kernel
theorem dX1_give_124 : decode cX1_give 124 = .ok (.iadd, 1) := by decide +kernel
theorem dX1_give_125 : decode cX1_give 125 = .ok (.ireturn, 1) := by decide +kernel
theorem dX1_give_126 : decode cX1_give 126 = .ok (.aload_n 0, 1) := by decide +kernel
theorem dX1_give_127 : decode cX1_give 127 = .ok (.bipush 11, 2) := by decide +kernel
theorem dX1_give_129 : decode cX1_give 129 = .ok (.iload_n 2, 1) := by decide +kernel
theorem dX1_give_130 : decode cX1_give 130 = .ok (.iload 4, 2) := by decide +kernel
theorem dX1_give_132 : decode cX1_give 132 = .ok (.invokevirtual 25, 3) := by decide +kernel
theorem dX1_give_135 : decode cX1_give 135 = .ok (.ineg, 1) := by decide +kernel
theorem dX1_give_136 : decode cX1_give 136 = .ok (.ireturn, 1) := by decide +kernel
theorem dX1_give_137 : decode cX1_give 137 = .ok (.aload_n 0, 1) := by decide +kernel
theorem dX1_give_138 : decode cX1_give 138 = .ok (.bipush 10, 2) := by decide +kernel
theorem dX1_give_140 : decode cX1_give 140 = .ok (.iload_n 2, 1) := by decide +kernel
theorem dX1_give_141 : decode cX1_give 141 = .ok (.iload 4, 2) := by decide +kernel
theorem dX1_give_143 : decode cX1_give 143 = .ok (.invokevirtual 25, 3) := by decide +kernel
theorem dX1_give_146 : decode cX1_give 146 = .ok (.bipush 100, 2) := by decide +kernel
theorem dX1_give_148 : decode cX1_give 148 = .ok (.isub, 1) := by decide +kernel
theorem dX1_give_149 : decode cX1_give 149 = .ok (.ireturn, 1) := by decide +kernel
theorem dX1_give_150 : decode cX1_give 150 = .ok (.aload_n 0, 1) := by decide +kernel
theorem dX1_give_151 : decode cX1_give 151 = .ok (.bipush 13, 2) := by decide +kernel
theorem dX1_give_153 : decode cX1_give 153 = .ok (.iload_n 2, 1) := by decide +kernel
theorem dX1_give_154 : decode cX1_give 154 = .ok (.iload 4, 2) := by decide +kernel
theorem dX1_give_156 : decode cX1_give 156 = .ok (.invokevirtual 25, 3) := by decide +kernel
theorem dX1_give_159 : decode cX1_give 159 = .ok (.iconst 2, 1) := by decide +kernel
theorem dX1_give_160 : decode cX1_give 160 = .ok (.imul, 1) := by decide +kernel
theorem dX1_give_161 : decode cX1_give 161 = .ok (.ireturn, 1) := by decide +kernel
theorem dX1_give_162 : decode cX1_give 162 = .ok (.iload_n 2, 1) := by decide +kernel
theorem dX1_give_163 : decode cX1_give 163 = .ok (.ireturn, 1) := by decide +kernel
theorem dX1_give_164 : decode cX1_give 164 = .ok (.aload_n 0, 1) := by decide +kernel
theorem dX1_give_165 : decode cX1_give 165 = .ok (.bipush 20, 2) := by decide +kernel
theorem dX1_give_167 : decode cX1_give 167 = .ok (.iload_n 2, 1) := by decide +kernel
theorem dX1_give_168 : decode cX1_give 168 = .ok (.iload 4, 2) := by decide +kernel
theorem dX1_give_170 : decode cX1_give 170 = .ok (.invokevirtual 25, 3) := by decide +kernel
theorem dX1_give_173 : decode cX1_give 173 = .ok (.aload_n 0, 1) := by decide +kernel
theorem dX1_give_174 : decode cX1_give 174 = .ok (.getfield 13, 3) := by decide +kernel
theorem dX1_give_177 : decode cX1_give 177 = .ok (.getfield 56, 3) := by decide +kernel
theorem dX1_give_180 : decode cX1_give 180 = .ok (.iload_n 2, 1) := by decide +kernel
theorem dX1_give_181 : decode cX1_give 181 = .ok (.iaload, 1) := by decide +kernel
theorem dX1_give_182 : decode cX1_give 182 = .ok (.iadd, 1) := by decide +kernel
theorem dX1_give_183 : decode cX1_give 183 = .ok (.ireturn, 1) := by decide +kernel
theorem dX1_give_184 : decode cX1_give 184 = .ok (.aload_n 0, 1) := by decide +kernel
theorem dX1_give_185 : decode cX1_give 185 = .ok (.bipush 21, 2) := by decide +kernel
theorem dX1_give_187 : decode cX1_give 187 = .ok (.iload_n 2, 1) := by decide +kernel
theorem dX1_give_188 : decode cX1_give 188 = .ok (.iload 4, 2) := by decide +kernel
theorem dX1_give_190 : decode cX1_give 190 = .ok (.invokevirtual 25, 3) := by decide +kernel
theorem dX1_give_193 : decode cX1_give 193 = .ok (.sipush 1000, 3) := by decide +kernel
theorem dX1_give_196 : decode cX1_give 196 = .ok (.isub, 1) := by decide +kernel
theorem dX1_give_197 : decode cX1_give 197 = .ok (.ireturn, 1) := by decide +kernel
theorem dX1_give_198 : decode cX1_give 198 = .ok (.aload_n 0, 1) := by decide +kernel
theorem dX1_give_199 : decode cX1_give 199 = .ok (.bipush 20, 2) := by decide +kernel
theorem dX1_give_201 : decode cX1_give 201 = .ok (.iload_n 2, 1) := by decide +kernel
theorem dX1_give_202 : decode cX1_give 202 = .ok (.iload 4, 2) := by decide +kernel
theorem dX1_give_204 : decode cX1_give 204 = .ok (.invokevirtual 25, 3) := by decide +kernel
theorem dX1_give_207 : decode cX1_give 207 = .ok (.aload_n 0, 1) := by decide +kernel
theorem dX1_give_208 : decode cX1_give 208 = .ok (.aload_n 0, 1) := by decide +kernel
theorem dX1_give_209 : decode cX1_give 209 = .ok (.iload_n 2, 1) := by decide +kernel
theorem dX1_give_210 : decode cX1_give 210 = .ok (.iconst 0, 1) := by decide +kernel
theorem dX1_give_211 : decode cX1_give 211 = .ok (.invokevirtual 21, 3) := by decide +kernel
theorem dX1_give_214 : decode cX1_give 214 = .ok (.iload_n 2, 1) := by decide +kernel
theorem dX1_give_215 : decode cX1_give 215 = .ok (.iload 4, 2) := by decide +kernel
theorem dX1_give_217 : decode cX1_give 217 = .ok (.invokevirtual 25, 3) := by decide +kernel
theorem dX1_give_220 : decode cX1_give 220 = .ok (.isub, 1) := by decide +kernel
theorem dX1_give_221 : decode cX1_give 221 = .ok (.ireturn, 1) := by decide +kernel
theorem dX1_give_222 : decode cX1_give 222 = .ok (.aload_n 0, 1) := by decide +kernel
theorem dX1_give_223 : decode cX1_give 223 = .ok (.bipush 21, 2) := by decide +kernel
theorem dX1_give_225 : decode cX1_give 225 = .ok (.iload_n 2, 1) := by decide +kernel
theorem dX1_give_226 : decode cX1_give 226 = .ok (.iload 4, 2) := by decide +kernel
theorem dX1_give_228 : decode cX1_give 228 = .ok (.invokevirtual 25, 3) := by decide +kernel
theorem dX1_give_231 : decode cX1_give 231 = .ok (.iconst 2, 1) := by decide +kernel
theorem dX1_give_232 : decode cX1_give 232 = .ok (.imul, 1) := by decide +kernel
theorem dX1_give_233 : decode cX1_give 233 = .ok (.ireturn, 1) := by decide +kernel
theorem dX1_give_234 : decode cX1_give 234 = .ok (.iconst 0, 1) := by decide +kernel
theorem dX1_give_235 : decode cX1_give 235 = .ok (.ireturn, 1) := by decide +kernel
theorem dX1_leave_0 : decode cX1_leave 0 = .ok (.aload_n 0, 1) := by decide +kernel
theorem dX1_leave_1 : decode cX1_leave 1 = .ok (.getfield 17, 3) := by decide +kernel
theorem dX1_leave_4 : decode cX1_leave 4 = .ok (.bipush 16, 2) := by decide +kernel
theorem dX1_leave_6 : decode cX1_leave 6 = .ok (.if_icmp .ge 23, 3) := by decide +kernel
theorem dX1_leave_9 : decode cX1_leave 9 = .ok (.aload_n 0, 1) := by decide +kernel
theorem dX1_leave_10 : decode cX1_leave 10 = .ok (.getfield 9, 3) := by decide +kernel
theorem dX1_leave_13 : decode cX1_leave 13 = .ok (.aload_n 0, 1) := by decide +kernel
theorem dX1_leave_14 : decode cX1_leave 14 = .ok (.getfield 17, 3) := by decide +kernel
theorem dX1_leave_17 : decode cX1_leave 17 = .ok (.iload_n 1, 1) := by decide +kernel
theorem dX1_leave_18 : decode cX1_leave 18 = .ok (.iastore, 1) := by decide +kernel
theorem dX1_leave_19 : decode cX1_leave 19 = .ok (.aload_n 0, 1) := by decide +kernel
theorem dX1_leave_20 : decode cX1_leave 20 = .ok (.dup, 1) := by decide +kernel
theorem dX1_leave_21 : decode cX1_leave 21 = .ok (.getfield 17, 3) := by decide +kernel
theorem dX1_leave_24 : decode cX1_leave 24 = .ok (.iconst 1, 1) := by decide +kernel
theorem dX1_leave_25 : decode cX1_leave 25 = .ok (.iadd, 1) := by decide +kernel
theorem dX1_leave_26 : decode cX1_leave 26 = .ok (.putfield 17, 3) := by decide +kernel
theorem dX1_leave_29 : decode cX1_leave 29 = .ok (.return_, 1) := by decide +kernel
theorem dX2_init_0 : decode cX2_init 0 = .ok (.aload_n 0, 1) := by decide +kernel
theorem dX2_init_1 : decode cX2_init 1 = .ok (.invokespecial 7, 3) := by decide +kernel
theorem dX2_init_4 : decode cX2_init 4 = .ok (.aload_n 0, 1) := by decide +kernel
theorem dX2_init_5 : decode cX2_init 5 = .ok (.new 1, 3) := by decide +kernel
theorem dX2_init_8 : decode cX2_init 8 = .ok (.dup, 1) := by decide +kernel
theorem dX2_init_9 : decode cX2_init 9 = .ok (.invokespecial 13, 3) := by decide +kernel
theorem dX2_init_12 : decode cX2_init 12 = .ok (.putfield 14, 3) := by decide +kernel
theorem dX2_init_15 : decode cX2_init 15 = .ok (.aload_n 0, 1) := by decide +kernel
theorem dX2_init_16 : decode cX2_init 16 = .ok (.bipush 12, 2) := by decide +kernel
theorem dX2_init_18 : decode cX2_init 18 = .ok (.newarray .int, 2) := by decide +kernel
theorem dX2_init_20 : decode cX2_init 20 = .ok (.putfield 18, 3) := by decide +kernel
theorem dX2_init_23 : decode cX2_init 23 = .ok (.aload_n 0, 1) := by decide +kernel
theorem dX2_init_24 : decode cX2_init 24 = .ok (.bipush 10, 2) := by decide +kernel
theorem dX2_init_26 : decode cX2_init 26 = .ok (.newarray .int, 2) := by decide +kernel
theorem dX2_init_28 : decode cX2_init 28 = .ok (.putfield 22, 3) := by decide +kernel
theorem dX2_init_31 : decode cX2_init 31 = .ok (.aload_n 0, 1) := by decide +kernel
theorem dX2_init_32 : decode cX2_init 32 = .ok (.iconst 2, 1) := by decide +kernel
theorem dX2_init_33 : decode cX2_init 33 = .ok (.sipush 210, 3) := by decide +kernel
theorem dX2_init_36 : decode cX2_init 36 = .ok (.multianewarray 25 2, 4) := by decide +kernel
theorem dX2_init_40 : decode cX2_init 40 = .ok (.putfield 27, 3) := by decide +kernel
theorem dX2_init_43 : decode cX2_init 43 = .ok (.aload_n 0, 1) := by decide +kernel
theorem dX2_init_44 : decode cX2_init 44 = .ok (.aload_n 1, 1) := by decide +kernel
theorem dX2_init_45 : decode cX2_init 45 = .ok (.putfield 30, 3) := by decide +kernel
theorem dX2_init_48 : decode cX2_init 48 = .ok (.return_, 1) := by decide +kernel
theorem dX2_landBehind_0 : decode cX2_landBehind 0 = .ok (.aload_n 0, 1) := by decide +kernel
theorem dX2_landBehind_1 : decode cX2_landBehind 1 = .ok (.getfield 30, 3) := by decide +kernel
theorem dX2_landBehind_4 : decode cX2_landBehind 4 = .ok (.getfield 33, 3) := by decide +kernel
theorem dX2_landBehind_7 : decode cX2_landBehind 7 = .ok (.iload_n 1, 1) := by decide +kernel
theorem dX2_landBehind_8 : decode cX2_landBehind 8 = .ok (.iaload, 1) := by decide +kernel
theorem dX2_landBehind_9 : decode cX2_landBehind 9 = .ok (.istore_n 3, 1) := by decide +kernel
theorem dX2_landBehind_10 : decode cX2_landBehind 10 = .ok (.aload_n 0, 1) := by decide +kernel
theorem dX2_landBehind_11 : decode cX2_landBehind 11 = .ok (.getfield 30, 3) := by decide +kernel
theorem dX2_landBehind_14 : decode cX2_landBehind 14 = .ok (.getfield 36, 3) := by decide +kernel
theorem dX2_landBehind_17 : decode cX2_landBehind 17 = .ok (.iload_n 1, 1) := by decide +kernel
theorem dX2_landBehind_18 : decode cX2_landBehind 18 = .ok (.iaload, 1) := by decide +kernel
theorem dX2_landBehind_19 : decode cX2_landBehind 19 = .ok (.istore 4, 2) := by decide +kernel
theorem dX2_landBehind_21 : decode cX2_landBehind 21 = .ok (.iconst 0, 1) := by decide +kernel
theorem dX2_landBehind_22 : decode cX2_landBehind 22 = .ok (.istore 5, 2) := by decide +kernel
theorem dX2_landBehind_24 : decode cX2_landBehind 24 = .ok (.iload 5, 2) := by decide +kernel
theorem dX2_landBehind_26 : decode cX2_landBehind 26 = .ok (.iload_n 2, 1) := by decide +kernel
theorem dX2_landBehind_27 : decode cX2_landBehind 27 = .ok (.if_icmp .ge 31, 3) := by decide +kernel
theorem dX2_landBehind_30 : decode cX2_landBehind 30 = .ok (.aload_n 0, 1) := by decide +kernel
theorem dX2_landBehind_31 : decode cX2_landBehind 31 = .ok (.getfield 30, 3) := by decide +kernel
theorem dX2_landBehind_34 : decode cX2_landBehind 34 = .ok (.iload 4, 2) := by decide +kernel
theorem dX2_landBehind_36 : decode cX2_landBehind 36 = .ok (.invokevirtual 39, 3) := by decide +kernel
theorem dX2_landBehind_39 : decode cX2_landBehind 39 = .ok (.istore 4, 2) := by decide +kernel
theorem dX2_landBehind_41 : decode cX2_landBehind 41 = .ok (.aload_n 0, 1) := by decide +kernel
theorem dX2_landBehind_42 : decode cX2_landBehind 42 = .ok (.getfield 30, 3) := by decide +kernel
theorem dX2_landBehind_45 : decode cX2_landBehind 45 = .ok (.iload_n 3, 1) := by decide +kernel
theorem dX2_landBehind_46 : decode cX2_landBehind 46 = .ok (.iload 4, 2) := by decide +kernel
theorem dX2_landBehind_48 : decode cX2_landBehind 48 = .ok (.invokevirtual 43, 3) := by decide +kernel
theorem dX2_landBehind_51 : decode cX2_landBehind 51 = .ok (.istore_n 3, 1) := by decide +kernel
theorem dX2_landBehind_52 : decode cX2_landBehind 52 = .ok (.iinc 5 1, 3) := by decide +kernel
theorem dX2_landBehind_55 : decode cX2_landBehind 55 = .ok (.goto (-31), 3) := by decide +kernel
theorem dX2_landBehind_58 : decode cX2_landBehind 58 = .ok (.iload_n 3, 1) := by decide +kernel
theorem dX2_landBehind_59 : decode cX2_landBehind 59 = .ok (.ireturn, 1) := by decide +kernel
theorem dX2_heightBehind_0 : decode cX2_heightBehind 0 = .ok (.aload_n 0, 1) := by decide +kernel
theorem dX2_heightBehind_1 : decode cX2_heightBehind 1 = .ok (.getfield 30, 3) := by decide +kernel
theorem dX2_heightBehind_4 : decode cX2_heightBehind 4 = .ok (.getfield 36, 3) := by decide +kernel
theorem dX2_heightBehind_7 : decode cX2_heightBehind 7 = .ok (.iload_n 1, 1) := by decide +kernel
theorem dX2_heightBehind_8 : decode cX2_heightBehind 8 = .ok (.iaload, 1) := by decide +kernel
theorem dX2_heightBehind_9 : decode cX2_heightBehind 9 = .ok (.istore_n 3, 1) := by decide +kernel
theorem dX2_heightBehind_10 : decode cX2_heightBehind 10 = .ok (.iconst 0, 1) := by decide +kernel
theorem dX2_heightBehind_11 : decode cX2_heightBehind 11 = .ok (.istore 4, 2) := by decide +kernel
theorem dX2_heightBehind_13 : decode cX2_heightBehind 13 = .ok (.iload 4, 2) := by decide +kernel
theorem dX2_heightBehind_15 : decode cX2_heightBehind 15 = .ok (.iload_n 2, 1) := by decide +kernel
theorem dX2_heightBehind_16 : decode cX2_heightBehind 16 = .ok (.if_icmp .ge 18, 3) := by decide +kernel
theorem dX2_heightBehind_19 : decode cX2_heightBehind 19 = .ok (.aload_n 0, 1) := by decide +kernel
theorem dX2_heightBehind_20 : decode cX2_heightBehind 20 = .ok (.getfield 30, 3) := by decide +kernel
theorem dX2_heightBehind_23 : decode cX2_heightBehind 23 = .ok (.iload_n 3, 1) := by decide +kernel
theorem dX2_heightBehind_24 : decode cX2_heightBehind 24 = .ok (.invokevirtual 39, 3) := by decide +kernel
theorem dX2_heightBehind_27 : decode cX2_heightBehind 27 = .ok (.istore_n 3, 1) := by decide +kernel
theorem dX2_heightBehind_28 : decode cX2_heightBehind 28 = .ok (.iinc 4 1, 3) := by decide +kernel
theorem dX2_heightBehind_31 : decode cX2_heightBehind 31 = .ok (.goto (-18), 3) := by decide +kernel
theorem dX2_heightBehind_34 : decode cX2_heightBehind 34 = .ok (.iload_n 3, 1) := by decide +kernel
theorem dX2_heightBehind_35 : decode cX2_heightBehind 35 = .ok (.ireturn, 1) := by decide +kernel
theorem dX2_hoursToGround_0 : decode cX2_hoursToGround 0 = .ok (.aload_n 0, 1) := by decide +kernel
theorem dX2_hoursToGround_1 : decode cX2_hoursToGround 1 = .ok (.getfield 30, 3) := by decide +kernel
theorem dX2_hoursToGround_4 : decode cX2_hoursToGround 4 = .ok (.getfield 36, 3) := by decide +kernel
theorem dX2_hoursToGround_7 : decode cX2_hoursToGround 7 = .ok (.iload_n 1, 1) := by decide +kernel
theorem dX2_hoursToGround_8 : decode cX2_hoursToGround 8 = .ok (.iaload, 1) := by decide +kernel
theorem dX2_hoursToGround_9 : decode cX2_hoursToGround 9 = .ok (.istore_n 2, 1) := by decide +kernel
theorem dX2_hoursToGround_10 : decode cX2_hoursToGround 10 = .ok (.iconst 0, 1) := by decide +kernel
theorem dX2_hoursToGround_11 : decode cX2_hoursToGround 11 = .ok (.istore_n 3, 1) := by decide +kernel
theorem dX2_hoursToGround_12 : decode cX2_hoursToGround 12 = .ok (.iload_n 3, 1) := by decide +kernel
theorem dX2_hoursToGround_13 : decode cX2_hoursToGround 13 = .ok (.bipush 60, 2) := by decide +kernel
theorem dX2_hoursToGround_15 : decode cX2_hoursToGround 15 = .ok (.if_icmp .gt 24, 3) := by decide +kernel
theorem dX2_hoursToGround_18 : decode cX2_hoursToGround 18 = .ok (.iload_n 2, 1) := by decide +kernel
theorem dX2_hoursToGround_19 : decode cX2_hoursToGround 19 = .ok (.ifCond .ne 5, 3) := by decide +kernel
theorem dX2_hoursToGround_22 : decode cX2_hoursToGround 22 = .ok (.iload_n 3, 1) := by decide +kernel
theorem dX2_hoursToGround_23 : decode cX2_hoursToGround 23 = .ok (.ireturn, 1) := by decide +kernel
theorem dX2_hoursToGround_24 : decode cX2_hoursToGround 24 = .ok (.aload_n 0, 1) := by decide +kernel
theorem dX2_hoursToGround_25 : decode cX2_hoursToGround 25 = .ok (.getfield 30, 3) := by decide +kernel
theorem dX2_hoursToGround_28 : decode cX2_hoursToGround 28 = .ok (.iload_n 2, 1) := by decide +kernel
theorem dX2_hoursToGround_29 : decode cX2_hoursToGround 29 = .ok (.invokevirtual 39, 3) := by decide +kernel
theorem dX2_hoursToGround_32 : decode cX2_hoursToGround 32 = .ok (.istore_n 2, 1) := by decide +kernel
theorem dX2_hoursToGround_33 : decode cX2_hoursToGround 33 = .ok (.iinc 3 1, 3) := by decide +kernel
theorem dX2_hoursToGround_36 : decode cX2_hoursToGround 36 = .ok (.goto (-24), 3) := by decide +kernel
theorem dX2_hoursToGround_39 : decode cX2_hoursToGround 39 = .ok (.ldc 47, 2) := by decide +kernel
theorem dX2_hoursToGround_41 : decode cX2_hoursToGround 41 = .ok (.ireturn, 1) := by decide +kernel
theorem dX2_hoursToMeeting_0 : decode cX2_hoursToMeeting 0 = .ok (.aload_n 0, 1) := by decide +kernel
theorem dX2_hoursToMeeting_1 : decode cX2_hoursToMeeting 1 = .ok (.getfield 14, 3) := by decide +kernel
theorem dX2_hoursToMeeting_4 : decode cX2_hoursToMeeting 4 = .ok (.aload_n 0, 1) := by decide +kernel
theorem dX2_hoursToMeeting_5 : decode cX2_hoursToMeeting 5 = .ok (.getfield 30, 3) := by decide +kernel
theorem dX2_hoursToMeeting_8 : decode cX2_hoursToMeeting 8 = .ok (.invokevirtual 48, 3) := by decide +kernel
theorem dX2_hoursToMeeting_11 : decode cX2_hoursToMeeting 11 = .ok (.iconst 0, 1) := by decide +kernel
theorem dX2_hoursToMeeting_12 : decode cX2_hoursToMeeting 12 = .ok (.istore_n 3, 1) := by decide +kernel
theorem dX2_hoursToMeeting_13 : decode cX2_hoursToMeeting 13 = .ok (.iload_n 3, 1) := by decide +kernel
theorem dX2_hoursToMeeting_14 : decode cX2_hoursToMeeting 14 = .ok (.bipush 60, 2) := by decide +kernel
theorem dX2_hoursToMeeting_16 : decode cX2_hoursToMeeting 16 = .ok (.if_icmp .gt 60, 3) := by decide +kernel
theorem dX2_hoursToMeeting_19 : decode cX2_hoursToMeeting 19 = .ok (.aload_n 0, 1) := by decide +kernel
theorem dX2_hoursToMeeting_20 : decode cX2_hoursToMeeting 20 = .ok (.getfield 14, 3) := by decide +kernel
theorem dX2_hoursToMeeting_23 : decode cX2_hoursToMeeting 23 = .ok (.getfield 33, 3) := by decide +kernel
theorem dX2_hoursToMeeting_26 : decode cX2_hoursToMeeting 26 = .ok (.iload_n 1, 1) := by decide +kernel
theorem dX2_hoursToMeeting_27 : decode cX2_hoursToMeeting 27 = .ok (.iaload, 1) := by decide +kernel
theorem dX2_hoursToMeeting_28 : decode cX2_hoursToMeeting 28 = .ok (.aload_n 0, 1) := by decide +kernel
theorem dX2_hoursToMeeting_29 : decode cX2_hoursToMeeting 29 = .ok (.getfield 14, 3) := by decide +kernel
theorem dX2_hoursToMeeting_32 : decode cX2_hoursToMeeting 32 = .ok (.getfield 33, 3) := by decide +kernel
theorem dX2_hoursToMeeting_35 : decode cX2_hoursToMeeting 35 = .ok (.iload_n 2, 1) := by decide +kernel
theorem dX2_hoursToMeeting_36 : decode cX2_hoursToMeeting 36 = .ok (.iaload, 1) := by decide +kernel
theorem dX2_hoursToMeeting_37 : decode cX2_hoursToMeeting 37 = .ok (.if_icmp .ne 26, 3) := by decide +kernel
theorem dX2_hoursToMeeting_40 : decode cX2_hoursToMeeting 40 = .ok (.aload_n 0, 1) := by decide +kernel
theorem dX2_hoursToMeeting_41 : decode cX2_hoursToMeeting 41 = .ok (.getfield 14, 3) := by decide +kernel
theorem dX2_hoursToMeeting_44 : decode cX2_hoursToMeeting 44 = .ok (.getfield 36, 3) := by decide +kernel
theorem dX2_hoursToMeeting_47 : decode cX2_hoursToMeeting 47 = .ok (.iload_n 1, 1) := by decide +kernel
theorem dX2_hoursToMeeting_48 : decode cX2_hoursToMeeting 48 = .ok (.iaload, 1) := by decide +kernel
theorem dX2_hoursToMeeting_49 : decode cX2_hoursToMeeting 49 = .ok (.aload_n 0, 1) := by decide +kernel
theorem dX2_hoursToMeeting_50 : decode cX2_hoursToMeeting 50 = .ok (.getfield 14, 3) := by decide +kernel
theorem dX2_hoursToMeeting_53 : decode cX2_hoursToMeeting 53 = .ok (.getfield 36, 3) := by decide +kernel
theorem dX2_hoursToMeeting_56 : decode cX2_hoursToMeeting 56 = .ok (.iload_n 2, 1) := by decide +kernel
theorem dX2_hoursToMeeting_57 : decode cX2_hoursToMeeting 57 = .ok (.iaload, 1) := by decide +kernel
theorem dX2_hoursToMeeting_58 : decode cX2_hoursToMeeting 58 = .ok (.if_icmp .ne 5, 3) := by decide +kernel
theorem dX2_hoursToMeeting_61 : decode cX2_hoursToMeeting 61 = .ok (.iload_n 3, 1) := by decide +kernel
theorem dX2_hoursToMeeting_62 : decode cX2_hoursToMeeting 62 = .ok (.ireturn, 1) := by decide +kernel
theorem dX2_hoursToMeeting_63 : decode cX2_hoursToMeeting 63 = .ok (.aload_n 0, 1) := by decide +kernel
theorem dX2_hoursToMeeting_64 : decode cX2_hoursToMeeting 64 = .ok (.getfield 14, 3) := by decide +kernel
theorem dX2_hoursToMeeting_67 : decode cX2_hoursToMeeting 67 = .ok (.invokevirtual 52, 3) := by decide +kernel
theorem dX2_hoursToMeeting_70 : decode cX2_hoursToMeeting 70 = .ok (.iinc 3 1, 3) := by decide +kernel
theorem dX2_hoursToMeeting_73 : decode cX2_hoursToMeeting 73 = .ok (.goto (-60), 3) := by decide +kernel
theorem dX2_hoursToMeeting_76 : decode cX2_hoursToMeeting 76 = .ok (.ldc 47, 2) := by decide +kernel
theorem dX2_hoursToMeeting_78 : decode cX2_hoursToMeeting 78 = .ok (.ireturn, 1) := by decide +kernel
theorem dX2_officesBehind_0 : decode cX2_officesBehind 0 = .ok (.aload_n 0, 1) := by decide +kernel
theorem dX2_officesBehind_1 : decode cX2_officesBehind 1 = .ok (.getfield 14, 3) := by decide +kernel
theorem dX2_officesBehind_4 : decode cX2_officesBehind 4 = .ok (.aload_n 0, 1) := by decide +kernel
theorem dX2_officesBehind_5 : decode cX2_officesBehind 5 = .ok (.getfield 30, 3) := by decide +kernel
theorem dX2_officesBehind_8 : decode cX2_officesBehind 8 = .ok (.invokevirtual 48, 3) := by decide +kernel
theorem dX2_officesBehind_11 : decode cX2_officesBehind 11 = .ok (.iconst 0, 1) := by decide +kernel
theorem dX2_officesBehind_12 : decode cX2_officesBehind 12 = .ok (.istore_n 3, 1) := by decide +kernel
theorem dX2_officesBehind_13 : decode cX2_officesBehind 13 = .ok (.iload_n 3, 1) := by decide +kernel
theorem dX2_officesBehind_14 : decode cX2_officesBehind 14 = .ok (.iload_n 2, 1) := by decide +kernel
theorem dX2_officesBehind_15 : decode cX2_officesBehind 15 = .ok (.if_icmp .ge 16, 3) := by decide +kernel
theorem dX2_officesBehind_18 : decode cX2_officesBehind 18 = .ok (.aload_n 0, 1) := by decide +kernel
theorem dX2_officesBehind_19 : decode cX2_officesBehind 19 = .ok (.getfield 14, 3) := by decide +kernel
theorem dX2_officesBehind_22 : decode cX2_officesBehind 22 = .ok (.invokevirtual 52, 3) := by decide +kernel
theorem dX2_officesBehind_25 : decode cX2_officesBehind 25 = .ok (.iinc 3 1, 3) := by decide +kernel
theorem dX2_officesBehind_28 : decode cX2_officesBehind 28 = .ok (.goto (-15), 3) := by decide +kernel
theorem dX2_officesBehind_31 : decode cX2_officesBehind 31 = .ok (.aload_n 0, 1) := by decide +kernel
theorem dX2_officesBehind_32 : decode cX2_officesBehind 32 = .ok (.getfield 14, 3) := by decide +kernel
theorem dX2_officesBehind_35 : decode cX2_officesBehind 35 = .ok (.iload_n 1, 1) := by decide +kernel
theorem dX2_officesBehind_36 : decode cX2_officesBehind 36 = .ok (.invokevirtual 55, 3) := by decide +kernel
theorem dX2_officesBehind_39 : decode cX2_officesBehind 39 = .ok (.invokestatic 58, 3) := by decide +kernel
theorem dX2_officesBehind_42 : decode cX2_officesBehind 42 = .ok (.ireturn, 1) := by decide +kernel
theorem dX2_fewestPlan_0 : decode cX2_fewestPlan 0 = .ok (.aload_n 0, 1) := by decide +kernel
theorem dX2_fewestPlan_1 : decode cX2_fewestPlan 1 = .ok (.getfield 27, 3) := by decide +kernel
theorem dX2_fewestPlan_4 : decode cX2_fewestPlan 4 = .ok (.iconst 0, 1) := by decide +kernel
theorem dX2_fewestPlan_5 : decode cX2_fewestPlan 5 = .ok (.aaload, 1) := by decide +kernel
theorem dX2_fewestPlan_6 : decode cX2_fewestPlan 6 = .ok (.ldc 63, 2) := by decide +kernel
theorem dX2_fewestPlan_8 : decode cX2_fewestPlan 8 = .ok (.invokestatic 64, 3) := by decide +kernel
theorem dX2_fewestPlan_11 : decode cX2_fewestPlan 11 = .ok (.aload_n 0, 1) := by decide +kernel
theorem dX2_fewestPlan_12 : decode cX2_fewestPlan 12 = .ok (.getfield 27, 3) := by decide +kernel
theorem dX2_fewestPlan_15 : decode cX2_fewestPlan 15 = .ok (.iconst 0, 1) := by decide +kernel
theorem dX2_fewestPlan_16 : decode cX2_fewestPlan 16 = .ok (.aaload, 1) := by decide +kernel
theorem dX2_fewestPlan_17 : decode cX2_fewestPlan 17 = .ok (.aload_n 0, 1) := by decide +kernel
theorem dX2_fewestPlan_18 : decode cX2_fewestPlan 18 = .ok (.getfield 30, 3) := by decide +kernel
theorem dX2_fewestPlan_21 : decode cX2_fewestPlan 21 = .ok (.getfield 33, 3) := by decide +kernel
theorem dX2_fewestPlan_24 : decode cX2_fewestPlan 24 = .ok (.iload_n 1, 1) := by decide +kernel
theorem dX2_fewestPlan_25 : decode cX2_fewestPlan 25 = .ok (.iaload, 1) := by decide +kernel
theorem dX2_fewestPlan_26 : decode cX2_fewestPlan 26 = .ok (.bipush 21, 2) := by decide +kernel
theorem dX2_fewestPlan_28 : decode cX2_fewestPlan 28 = .ok (.imul, 1) := by decide +kernel
theorem dX2_fewestPlan_29 : decode cX2_fewestPlan 29 = .ok (.aload_n 0, 1) := by decide +kernel
theorem dX2_fewestPlan_30 : decode cX2_fewestPlan 30 = .ok (.getfield 30, 3) := by decide +kernel
theorem dX2_fewestPlan_33 : decode cX2_fewestPlan 33 = .ok (.getfield 36, 3) := by decide +kernel
theorem dX2_fewestPlan_36 : decode cX2_fewestPlan 36 = .ok (.iload_n 1, 1) := by decide +kernel
theorem dX2_fewestPlan_37 : decode cX2_fewestPlan 37 = .ok (.iaload, 1) := by decide +kernel
theorem dX2_fewestPlan_38 : decode cX2_fewestPlan 38 = .ok (.iadd, 1) := by decide +kernel
theorem dX2_fewestPlan_39 : decode cX2_fewestPlan 39 = .ok (.iconst 0, 1) := by decide +kernel
theorem dX2_fewestPlan_40 : decode cX2_fewestPlan 40 = .ok (.iastore, 1) := by decide +kernel
theorem dX2_fewestPlan_41 : decode cX2_fewestPlan 41 = .ok (.iconst 0, 1) := by decide +kernel
theorem dX2_fewestPlan_42 : decode cX2_fewestPlan 42 = .ok (.istore 5, 2) := by decide +kernel
theorem dX2_fewestPlan_44 : decode cX2_fewestPlan 44 = .ok (.iload 5, 2) := by decide +kernel
theorem dX2_fewestPlan_46 : decode cX2_fewestPlan 46 = .ok (.iload_n 3, 1) := by decide +kernel
theorem dX2_fewestPlan_47 : decode cX2_fewestPlan 47 = .ok (.if_icmp .ge 34, 3) := by decide +kernel
theorem dX2_fewestPlan_50 : decode cX2_fewestPlan 50 = .ok (.aload_n 0, 1) := by decide +kernel
theorem dX2_fewestPlan_51 : decode cX2_fewestPlan 51 = .ok (.iload_n 1, 1) := by decide +kernel
theorem dX2_fewestPlan_52 : decode cX2_fewestPlan 52 = .ok (.aload_n 0, 1) := by decide +kernel
theorem dX2_fewestPlan_53 : decode cX2_fewestPlan 53 = .ok (.getfield 27, 3) := by decide +kernel
theorem dX2_fewestPlan_56 : decode cX2_fewestPlan 56 = .ok (.iload 5, 2) := by decide +kernel
theorem dX2_fewestPlan_58 : decode cX2_fewestPlan 58 = .ok (.iconst 1, 1) := by decide +kernel
theorem dX2_fewestPlan_59 : decode cX2_fewestPlan 59 = .ok (.iand, 1) := by decide +kernel
theorem dX2_fewestPlan_60 : decode cX2_fewestPlan 60 = .ok (.aaload, 1) := by decide +kernel
theorem dX2_fewestPlan_61 : decode cX2_fewestPlan 61 = .ok (.aload_n 0, 1) := by decide +kernel
theorem dX2_fewestPlan_62 : decode cX2_fewestPlan 62 = .ok (.getfield 27, 3) := by decide +kernel
theorem dX2_fewestPlan_65 : decode cX2_fewestPlan 65 = .ok (.iload 5, 2) := by decide +kernel
theorem dX2_fewestPlan_67 : decode cX2_fewestPlan 67 = .ok (.iconst 1, 1) := by decide +kernel
theorem dX2_fewestPlan_68 : decode cX2_fewestPlan 68 = .ok (.iadd, 1) := by decide +kernel
theorem dX2_fewestPlan_69 : decode cX2_fewestPlan 69 = .ok (.iconst 1, 1) := by decide +kernel
theorem dX2_fewestPlan_70 : decode cX2_fewestPlan 70 = .ok (.iand, 1) := by decide +kernel
theorem dX2_fewestPlan_71 : decode cX2_fewestPlan 71 = .ok (.aaload, 1) := by decide +kernel
theorem dX2_fewestPlan_72 : decode cX2_fewestPlan 72 = .ok (.invokevirtual 70, 3) := by decide +kernel
theorem dX2_fewestPlan_75 : decode cX2_fewestPlan 75 = .ok (.iinc 5 1, 3) := by decide +kernel
theorem dX2_fewestPlan_78 : decode cX2_fewestPlan 78 = .ok (.goto (-34), 3) := by decide +kernel
theorem dX2_fewestPlan_81 : decode cX2_fewestPlan 81 = .ok (.ldc 63, 2) := by decide +kernel
theorem dX2_fewestPlan_83 : decode cX2_fewestPlan 83 = .ok (.istore 5, 2) := by decide +kernel
theorem dX2_fewestPlan_85 : decode cX2_fewestPlan 85 = .ok (.iload 4, 2) := by decide +kernel
theorem dX2_fewestPlan_87 : decode cX2_fewestPlan 87 = .ok (.istore 6, 2) := by decide +kernel
theorem dX2_fewestPlan_89 : decode cX2_fewestPlan 89 = .ok (.iload 6, 2) := by decide +kernel
theorem dX2_fewestPlan_91 : decode cX2_fewestPlan 91 = .ok (.bipush 21, 2) := by decide +kernel
theorem dX2_fewestPlan_93 : decode cX2_fewestPlan 93 = .ok (.if_icmp .ge 32, 3) := by decide +kernel
theorem dX2_fewestPlan_96 : decode cX2_fewestPlan 96 = .ok (.iload 5, 2) := by decide +kernel
theorem dX2_fewestPlan_98 : decode cX2_fewestPlan 98 = .ok (.aload_n 0, 1) := by decide +kernel
theorem dX2_fewestPlan_99 : decode cX2_fewestPlan 99 = .ok (.getfield 27, 3) := by decide +kernel
theorem dX2_fewestPlan_102 : decode cX2_fewestPlan 102 = .ok (.iload_n 3, 1) := by decide +kernel
theorem dX2_fewestPlan_103 : decode cX2_fewestPlan 103 = .ok (.iconst 1, 1) := by decide +kernel
theorem dX2_fewestPlan_104 : decode cX2_fewestPlan 104 = .ok (.iand, 1) := by decide +kernel
theorem dX2_fewestPlan_105 : decode cX2_fewestPlan 105 = .ok (.aaload, 1) := by decide +kernel
theorem dX2_fewestPlan_106 : decode cX2_fewestPlan 106 = .ok (.iload_n 2, 1) := by decide +kernel
theorem dX2_fewestPlan_107 : decode cX2_fewestPlan 107 = .ok (.bipush 21, 2) := by decide +kernel
theorem dX2_fewestPlan_109 : decode cX2_fewestPlan 109 = .ok (.imul, 1) := by decide +kernel
theorem dX2_fewestPlan_110 : decode cX2_fewestPlan 110 = .ok (.iload 6, 2) := by decide +kernel
theorem dX2_fewestPlan_112 : decode cX2_fewestPlan 112 = .ok (.iadd, 1) := by decide +kernel
theorem dX2_fewestPlan_113 : decode cX2_fewestPlan 113 = .ok (.iaload, 1) := by decide +kernel
theorem dX2_fewestPlan_114 : decode cX2_fewestPlan 114 = .ok (.invokestatic 74, 3) := by decide +kernel
theorem dX2_fewestPlan_117 : decode cX2_fewestPlan 117 = .ok (.istore 5, 2) := by decide +kernel
theorem dX2_fewestPlan_119 : decode cX2_fewestPlan 119 = .ok (.iinc 6 1, 3) := by decide +kernel
theorem dX2_fewestPlan_122 : decode cX2_fewestPlan 122 = .ok (.goto (-33), 3) := by decide +kernel
theorem dX2_fewestPlan_125 : decode cX2_fewestPlan 125 = .ok (.iload 5, 2) := by decide +kernel
theorem dX2_fewestPlan_127 : decode cX2_fewestPlan 127 = .ok (.ireturn, 1) := by decide +kernel
theorem dX2_spreadAll_0 : decode cX2_spreadAll 0 = .ok (.aload_n 3, 1) := by decide +kernel
theorem dX2_spreadAll_1 : decode cX2_spreadAll 1 = .ok (.ldc 63, 2) := by decide +kernel
theorem dX2_spreadAll_3 : decode cX2_spreadAll 3 = .ok (.invokestatic 64, 3) := by decide +kernel
theorem dX2_spreadAll_6 : decode cX2_spreadAll 6 = .ok (.iconst 0, 1) := by decide +kernel
theorem dX2_spreadAll_7 : decode cX2_spreadAll 7 = .ok (.istore 4, 2) := by decide +kernel
theorem dX2_spreadAll_9 : decode cX2_spreadAll 9 = .ok (.iload 4, 2) := by decide +kernel
theorem dX2_spreadAll_11 : decode cX2_spreadAll 11 = .ok (.bipush 10, 2) := by decide +kernel
theorem dX2_spreadAll_13 : decode cX2_spreadAll 13 = .ok (.if_icmp .ge 56, 3) := by decide +kernel
theorem dX2_spreadAll_16 : decode cX2_spreadAll 16 = .ok (.iconst 0, 1) := by decide +kernel
theorem dX2_spreadAll_17 : decode cX2_spreadAll 17 = .ok (.istore 5, 2) := by decide +kernel
theorem dX2_spreadAll_19 : decode cX2_spreadAll 19 = .ok (.iload 5, 2) := by decide +kernel
theorem dX2_spreadAll_21 : decode cX2_spreadAll 21 = .ok (.bipush 21, 2) := by decide +kernel
theorem dX2_spreadAll_23 : decode cX2_spreadAll 23 = .ok (.if_icmp .ge 40, 3) := by decide +kernel
theorem dX2_spreadAll_26 : decode cX2_spreadAll 26 = .ok (.aload_n 2, 1) := by decide +kernel
theorem dX2_spreadAll_27 : decode cX2_spreadAll 27 = .ok (.iload 4, 2) := by decide +kernel
theorem dX2_spreadAll_29 : decode cX2_spreadAll 29 = .ok (.bipush 21, 2) := by decide +kernel
theorem dX2_spreadAll_31 : decode cX2_spreadAll 31 = .ok (.imul, 1) := by decide +kernel
theorem dX2_spreadAll_32 : decode cX2_spreadAll 32 = .ok (.iload 5, 2) := by decide +kernel
theorem dX2_spreadAll_34 : decode cX2_spreadAll 34 = .ok (.iadd, 1) := by decide +kernel
theorem dX2_spreadAll_35 : decode cX2_spreadAll 35 = .ok (.iaload, 1) := by decide +kernel
theorem dX2_spreadAll_36 : decode cX2_spreadAll 36 = .ok (.istore 6, 2) := by decide +kernel
theorem dX2_spreadAll_38 : decode cX2_spreadAll 38 = .ok (.iload 6, 2) := by decide +kernel
theorem dX2_spreadAll_40 : decode cX2_spreadAll 40 = .ok (.ldc 63, 2) := by decide +kernel
theorem dX2_spreadAll_42 : decode cX2_spreadAll 42 = .ok (.if_icmp .eq 15, 3) := by decide +kernel
theorem dX2_spreadAll_45 : decode cX2_spreadAll 45 = .ok (.aload_n 0, 1) := by decide +kernel
theorem dX2_spreadAll_46 : decode cX2_spreadAll 46 = .ok (.iload_n 1, 1) := by decide +kernel
theorem dX2_spreadAll_47 : decode cX2_spreadAll 47 = .ok (.iload 4, 2) := by decide +kernel
theorem dX2_spreadAll_49 : decode cX2_spreadAll 49 = .ok (.iload 5, 2) := by decide +kernel
theorem dX2_spreadAll_51 : decode cX2_spreadAll 51 = .ok (.iload 6, 2) := by decide +kernel
theorem dX2_spreadAll_53 : decode cX2_spreadAll 53 = .ok (.aload_n 3, 1) := by decide +kernel
theorem dX2_spreadAll_54 : decode cX2_spreadAll 54 = .ok (.invokevirtual 79, 3) := by decide +kernel
theorem dX2_spreadAll_57 : decode cX2_spreadAll 57 = .ok (.iinc 5 1, 3) := by decide +kernel
theorem dX2_spreadAll_60 : decode cX2_spreadAll 60 = .ok (.goto (-41), 3) := by decide +kernel
theorem dX2_spreadAll_63 : decode cX2_spreadAll 63 = .ok (.iinc 4 1, 3) := by decide +kernel
theorem dX2_spreadAll_66 : decode cX2_spreadAll 66 = .ok (.goto (-57), 3) := by decide +kernel
theorem dX2_spreadAll_69 : decode cX2_spreadAll 69 = .ok (.return_, 1) := by decide +kernel
theorem dX2_spread_0 : decode cX2_spread 0 = .ok (.iconst 3, 1) := by decide +kernel
theorem dX2_spread_1 : decode cX2_spread 1 = .ok (.aload_n 0, 1) := by decide +kernel
theorem dX2_spread_2 : decode cX2_spread 2 = .ok (.getfield 30, 3) := by decide +kernel
theorem dX2_spread_5 : decode cX2_spread 5 = .ok (.getfield 83, 3) := by decide +kernel
theorem dX2_spread_8 : decode cX2_spread 8 = .ok (.iload_n 1, 1) := by decide +kernel
theorem dX2_spread_9 : decode cX2_spread 9 = .ok (.iaload, 1) := by decide +kernel
theorem dX2_spread_10 : decode cX2_spread 10 = .ok (.iload 4, 2) := by decide +kernel
theorem dX2_spread_12 : decode cX2_spread 12 = .ok (.invokestatic 86, 3) := by decide +kernel
theorem dX2_spread_15 : decode cX2_spread 15 = .ok (.isub, 1) := by decide +kernel
theorem dX2_spread_16 : decode cX2_spread 16 = .ok (.invokestatic 74, 3) := by decide +kernel
theorem dX2_spread_19 : decode cX2_spread 19 = .ok (.istore 6, 2) := by decide +kernel
theorem dX2_spread_21 : decode cX2_spread 21 = .ok (.iload_n 3, 1) := by decide +kernel
theorem dX2_spread_22 : decode cX2_spread 22 = .ok (.istore 7, 2) := by decide +kernel
theorem dX2_spread_24 : decode cX2_spread 24 = .ok (.iconst 0, 1) := by decide +kernel
theorem dX2_spread_25 : decode cX2_spread 25 = .ok (.istore 8, 2) := by decide +kernel
theorem dX2_spread_27 : decode cX2_spread 27 = .ok (.iload 8, 2) := by decide +kernel
theorem dX2_spread_29 : decode cX2_spread 29 = .ok (.iload 6, 2) := by decide +kernel
theorem dX2_spread_31 : decode cX2_spread 31 = .ok (.if_icmp .gt 75, 3) := by decide +kernel
theorem dX2_spread_34 : decode cX2_spread 34 = .ok (.aload_n 0, 1) := by decide +kernel
theorem dX2_spread_35 : decode cX2_spread 35 = .ok (.getfield 30, 3) := by decide +kernel
theorem dX2_spread_38 : decode cX2_spread 38 = .ok (.iload 7, 2) := by decide +kernel
theorem dX2_spread_40 : decode cX2_spread 40 = .ok (.invokevirtual 39, 3) := by decide +kernel
theorem dX2_spread_43 : decode cX2_spread 43 = .ok (.istore 9, 2) := by decide +kernel
theorem dX2_spread_45 : decode cX2_spread 45 = .ok (.aload_n 0, 1) := by decide +kernel
theorem dX2_spread_46 : decode cX2_spread 46 = .ok (.getfield 30, 3) := by decide +kernel
theorem dX2_spread_49 : decode cX2_spread 49 = .ok (.iload_n 2, 1) := by decide +kernel
theorem dX2_spread_50 : decode cX2_spread 50 = .ok (.iload 9, 2) := by decide +kernel
theorem dX2_spread_52 : decode cX2_spread 52 = .ok (.invokevirtual 43, 3) := by decide +kernel
theorem dX2_spread_55 : decode cX2_spread 55 = .ok (.bipush 21, 2) := by decide +kernel
theorem dX2_spread_57 : decode cX2_spread 57 = .ok (.imul, 1) := by decide +kernel
theorem dX2_spread_58 : decode cX2_spread 58 = .ok (.iload 9, 2) := by decide +kernel
theorem dX2_spread_60 : decode cX2_spread 60 = .ok (.iadd, 1) := by decide +kernel
theorem dX2_spread_61 : decode cX2_spread 61 = .ok (.istore 10, 2) := by decide +kernel
theorem dX2_spread_63 : decode cX2_spread 63 = .ok (.aload 5, 2) := by decide +kernel
theorem dX2_spread_65 : decode cX2_spread 65 = .ok (.iload 10, 2) := by decide +kernel
theorem dX2_spread_67 : decode cX2_spread 67 = .ok (.aload 5, 2) := by decide +kernel
theorem dX2_spread_69 : decode cX2_spread 69 = .ok (.iload 10, 2) := by decide +kernel
theorem dX2_spread_71 : decode cX2_spread 71 = .ok (.iaload, 1) := by decide +kernel
theorem dX2_spread_72 : decode cX2_spread 72 = .ok (.iload 4, 2) := by decide +kernel
theorem dX2_spread_74 : decode cX2_spread 74 = .ok (.iload 8, 2) := by decide +kernel
theorem dX2_spread_76 : decode cX2_spread 76 = .ok (.invokestatic 89, 3) := by decide +kernel
theorem dX2_spread_79 : decode cX2_spread 79 = .ok (.invokestatic 74, 3) := by decide +kernel
theorem dX2_spread_82 : decode cX2_spread 82 = .ok (.iastore, 1) := by decide +kernel
theorem dX2_spread_83 : decode cX2_spread 83 = .ok (.aload_n 0, 1) := by decide +kernel
theorem dX2_spread_84 : decode cX2_spread 84 = .ok (.getfield 30, 3) := by decide +kernel
theorem dX2_spread_87 : decode cX2_spread 87 = .ok (.getfield 92, 3) := by decide +kernel
theorem dX2_spread_90 : decode cX2_spread 90 = .ok (.iload_n 1, 1) := by decide +kernel
theorem dX2_spread_91 : decode cX2_spread 91 = .ok (.iaload, 1) := by decide +kernel
theorem dX2_spread_92 : decode cX2_spread 92 = .ok (.iload 7, 2) := by decide +kernel
theorem dX2_spread_94 : decode cX2_spread 94 = .ok (.iconst 1, 1) := by decide +kernel
theorem dX2_spread_95 : decode cX2_spread 95 = .ok (.invokestatic 95, 3) := by decide +kernel
theorem dX2_spread_98 : decode cX2_spread 98 = .ok (.istore 7, 2) := by decide +kernel
theorem dX2_spread_100 : decode cX2_spread 100 = .ok (.iinc 8 1, 3) := by decide +kernel
theorem dX2_spread_103 : decode cX2_spread 103 = .ok (.goto (-76), 3) := by decide +kernel
theorem dX2_spread_106 : decode cX2_spread 106 = .ok (.return_, 1) := by decide +kernel
theorem dX2_longer_0 : decode cX2_longer 0 = .ok (.iload_n 0, 1) := by decide +kernel
theorem dX2_longer_1 : decode cX2_longer 1 = .ok (.ldc 99, 2) := by decide +kernel
theorem dX2_longer_3 : decode cX2_longer 3 = .ok (.irem, 1) := by decide +kernel
theorem dX2_longer_4 : decode cX2_longer 4 = .ok (.istore_n 2, 1) := by decide +kernel
theorem dX2_longer_5 : decode cX2_longer 5 = .ok (.iload_n 0, 1) := by decide +kernel
theorem dX2_longer_6 : decode cX2_longer 6 = .ok (.invokestatic 86, 3) := by decide +kernel
theorem dX2_longer_9 : decode cX2_longer 9 = .ok (.iload_n 1, 1) := by decide +kernel
theorem dX2_longer_10 : decode cX2_longer 10 = .ok (.iadd, 1) := by decide +kernel
theorem dX2_longer_11 : decode cX2_longer 11 = .ok (.ldc 99, 2) := by decide +kernel
theorem dX2_longer_13 : decode cX2_longer 13 = .ok (.imul, 1) := by decide +kernel
theorem dX2_longer_14 : decode cX2_longer 14 = .ok (.iload_n 2, 1) := by decide +kernel
theorem dX2_longer_15 : decode cX2_longer 15 = .ok (.iconst 4, 1) := by decide +kernel
theorem dX2_longer_16 : decode cX2_longer 16 = .ok (.imul, 1) := by decide +kernel
theorem dX2_longer_17 : decode cX2_longer 17 = .ok (.iadd, 1) := by decide +kernel
theorem dX2_longer_18 : decode cX2_longer 18 = .ok (.iload_n 1, 1) := by decide +kernel
theorem dX2_longer_19 : decode cX2_longer 19 = .ok (.iadd, 1) := by decide +kernel
theorem dX2_longer_20 : decode cX2_longer 20 = .ok (.ireturn, 1) := by decide +kernel
theorem dX2_sheetsOf_0 : decode cX2_sheetsOf 0 = .ok (.iload_n 0, 1) := by decide +kernel
theorem dX2_sheetsOf_1 : decode cX2_sheetsOf 1 = .ok (.ldc 99, 2) := by decide +kernel
theorem dX2_sheetsOf_3 : decode cX2_sheetsOf 3 = .ok (.idiv, 1) := by decide +kernel
theorem dX2_sheetsOf_4 : decode cX2_sheetsOf 4 = .ok (.ireturn, 1) := by decide +kernel
theorem dX2_sheetsAhead_0 : decode cX2_sheetsAhead 0 = .ok (.iload_n 0, 1) := by decide +kernel
theorem dX2_sheetsAhead_1 : decode cX2_sheetsAhead 1 = .ok (.iconst 2, 1) := by decide +kernel
theorem dX2_sheetsAhead_2 : decode cX2_sheetsAhead 2 = .ok (.iload_n 1, 1) := by decide +kernel
theorem dX2_sheetsAhead_3 : decode cX2_sheetsAhead 3 = .ok (.iconst 1, 1) := by decide +kernel
theorem dX2_sheetsAhead_4 : decode cX2_sheetsAhead 4 = .ok (.isub, 1) := by decide +kernel
theorem dX2_sheetsAhead_5 : decode cX2_sheetsAhead 5 = .ok (.iload_n 2, 1) := by decide +kernel
theorem dX2_sheetsAhead_6 : decode cX2_sheetsAhead 6 = .ok (.isub, 1) := by decide +kernel
theorem dX2_sheetsAhead_7 : decode cX2_sheetsAhead 7 = .ok (.imul, 1) := by decide +kernel
theorem dX2_sheetsAhead_8 : decode cX2_sheetsAhead 8 = .ok (.ishr, 1) := by decide +kernel
theorem dX2_sheetsAhead_9 : decode cX2_sheetsAhead 9 = .ok (.iconst 3, 1) := by decide +kernel
theorem dX2_sheetsAhead_10 : decode cX2_sheetsAhead 10 = .ok (.iand, 1) := by decide +kernel
theorem dX2_sheetsAhead_11 : decode cX2_sheetsAhead 11 = .ok (.ireturn, 1) := by decide +kernel
theorem dX2_hoursToPass_0 : decode cX2_hoursToPass 0 = .ok (.aload_n 0, 1) := by decide +kernel
theorem dX2_hoursToPass_1 : decode cX2_hoursToPass 1 = .ok (.getfield 14, 3) := by decide +kernel
theorem dX2_hoursToPass_4 : decode cX2_hoursToPass 4 = .ok (.aload_n 0, 1) := by decide +kernel
theorem dX2_hoursToPass_5 : decode cX2_hoursToPass 5 = .ok (.getfield 30, 3) := by decide +kernel
theorem dX2_hoursToPass_8 : decode cX2_hoursToPass 8 = .ok (.invokevirtual 48, 3) := by decide +kernel
theorem dX2_hoursToPass_11 : decode cX2_hoursToPass 11 = .ok (.iload_n 3, 1) := by decide +kernel
theorem dX2_hoursToPass_12 : decode cX2_hoursToPass 12 = .ok (.istore 5, 2) := by decide +kernel
theorem dX2_hoursToPass_14 : decode cX2_hoursToPass 14 = .ok (.iconst 0, 1) := by decide +kernel
theorem dX2_hoursToPass_15 : decode cX2_hoursToPass 15 = .ok (.istore 6, 2) := by decide +kernel
theorem dX2_hoursToPass_17 : decode cX2_hoursToPass 17 = .ok (.iload 6, 2) := by decide +kernel
theorem dX2_hoursToPass_19 : decode cX2_hoursToPass 19 = .ok (.bipush 60, 2) := by decide +kernel
theorem dX2_hoursToPass_21 : decode cX2_hoursToPass 21 = .ok (.if_icmp .gt 55, 3) := by decide +kernel
theorem dX2_hoursToPass_24 : decode cX2_hoursToPass 24 = .ok (.iload 5, 2) := by decide +kernel
theorem dX2_hoursToPass_26 : decode cX2_hoursToPass 26 = .ok (.iload_n 3, 1) := by decide +kernel
theorem dX2_hoursToPass_27 : decode cX2_hoursToPass 27 = .ok (.iload 4, 2) := by decide +kernel
theorem dX2_hoursToPass_29 : decode cX2_hoursToPass 29 = .ok (.iadd, 1) := by decide +kernel
theorem dX2_hoursToPass_30 : decode cX2_hoursToPass 30 = .ok (.if_icmp .ge 21, 3) := by decide +kernel
theorem dX2_hoursToPass_33 : decode cX2_hoursToPass 33 = .ok (.aload_n 0, 1) := by decide +kernel
theorem dX2_hoursToPass_34 : decode cX2_hoursToPass 34 = .ok (.aload_n 2, 1) := by decide +kernel
theorem dX2_hoursToPass_35 : decode cX2_hoursToPass 35 = .ok (.iload 5, 2) := by decide +kernel
theorem dX2_hoursToPass_37 : decode cX2_hoursToPass 37 = .ok (.iaload, 1) := by decide +kernel
theorem dX2_hoursToPass_38 : decode cX2_hoursToPass 38 = .ok (.iload_n 1, 1) := by decide +kernel
theorem dX2_hoursToPass_39 : decode cX2_hoursToPass 39 = .ok (.invokevirtual 100, 3) := by decide +kernel
theorem dX2_hoursToPass_42 : decode cX2_hoursToPass 42 = .ok (.ifCond .eq 9, 3) := by decide +kernel
theorem dX2_hoursToPass_45 : decode cX2_hoursToPass 45 = .ok (.iinc 5 1, 3) := by decide +kernel
theorem dX2_hoursToPass_48 : decode cX2_hoursToPass 48 = .ok (.goto (-24), 3) := by decide +kernel
theorem dX2_hoursToPass_51 : decode cX2_hoursToPass 51 = .ok (.iload 5, 2) := by decide +kernel
theorem dX2_hoursToPass_53 : decode cX2_hoursToPass 53 = .ok (.iload_n 3, 1) := by decide +kernel
theorem dX2_hoursToPass_54 : decode cX2_hoursToPass 54 = .ok (.iload 4, 2) := by decide +kernel
theorem dX2_hoursToPass_56 : decode cX2_hoursToPass 56 = .ok (.iadd, 1) := by decide +kernel
theorem dX2_hoursToPass_57 : decode cX2_hoursToPass 57 = .ok (.if_icmp .ne 6, 3) := by decide +kernel
theorem dX2_hoursToPass_60 : decode cX2_hoursToPass 60 = .ok (.iload 6, 2) := by decide +kernel
theorem dX2_hoursToPass_62 : decode cX2_hoursToPass 62 = .ok (.ireturn, 1) := by decide +kernel
theorem dX2_hoursToPass_63 : decode cX2_hoursToPass 63 = .ok (.aload_n 0, 1) := by decide +kernel
theorem dX2_hoursToPass_64 : decode cX2_hoursToPass 64 = .ok (.getfield 14, 3) := by decide +kernel
theorem dX2_hoursToPass_67 : decode cX2_hoursToPass 67 = .ok (.invokevirtual 52, 3) := by decide +kernel
theorem dX2_hoursToPass_70 : decode cX2_hoursToPass 70 = .ok (.iinc 6 1, 3) := by decide +kernel
theorem dX2_hoursToPass_73 : decode cX2_hoursToPass 73 = .ok (.goto (-56), 3) := by decide +kernel
theorem dX2_hoursToPass_76 : decode cX2_hoursToPass 76 = .ok (.ldc 47, 2) := by decide +kernel
theorem dX2_hoursToPass_78 : decode cX2_hoursToPass 78 = .ok (.ireturn, 1) := by decide +kernel
theorem dX2_reads_0 : decode cX2_reads 0 = .ok (.aload_n 0, 1) := by decide +kernel
theorem dX2_reads_1 : decode cX2_reads 1 = .ok (.getfield 14, 3) := by decide +kernel
theorem dX2_reads_4 : decode cX2_reads 4 = .ok (.getfield 33, 3) := by decide +kernel
theorem dX2_reads_7 : decode cX2_reads 7 = .ok (.iload_n 1, 1) := by decide +kernel
theorem dX2_reads_8 : decode cX2_reads 8 = .ok (.iaload, 1) := by decide +kernel
theorem dX2_reads_9 : decode cX2_reads 9 = .ok (.iload_n 2, 1) := by decide +kernel
theorem dX2_reads_10 : decode cX2_reads 10 = .ok (.if_icmp .ne 22, 3) := by decide +kernel
theorem dX2_reads_13 : decode cX2_reads 13 = .ok (.aload_n 0, 1) := by decide +kernel
theorem dX2_reads_14 : decode cX2_reads 14 = .ok (.getfield 14, 3) := by decide +kernel
theorem dX2_reads_17 : decode cX2_reads 17 = .ok (.getfield 36, 3) := by decide +kernel
theorem dX2_reads_20 : decode cX2_reads 20 = .ok (.iload_n 1, 1) := by decide +kernel
theorem dX2_reads_21 : decode cX2_reads 21 = .ok (.iaload, 1) := by decide +kernel
theorem dX2_reads_22 : decode cX2_reads 22 = .ok (.invokestatic 104, 3) := by decide +kernel
theorem dX2_reads_25 : decode cX2_reads 25 = .ok (.ifCond .ne 7, 3) := by decide +kernel
theorem dX2_reads_28 : decode cX2_reads 28 = .ok (.iconst 1, 1) := by decide +kernel
theorem dX2_reads_29 : decode cX2_reads 29 = .ok (.goto 4, 3) := by decide +kernel
theorem dX2_reads_32 : decode cX2_reads 32 = .ok (.iconst 0, 1) := by decide +kernel
theorem dX2_reads_33 : decode cX2_reads 33 = .ok (.ireturn, 1) := by decide +kernel
theorem dX2_waysToBurn_0 : decode cX2_waysToBurn 0 = .ok (.aload_n 0, 1) := by decide +kernel
theorem dX2_waysToBurn_1 : decode cX2_waysToBurn 1 = .ok (.getfield 30, 3) := by decide +kernel
theorem dX2_waysToBurn_4 : decode cX2_waysToBurn 4 = .ok (.getfield 92, 3) := by decide +kernel
theorem dX2_waysToBurn_7 : decode cX2_waysToBurn 7 = .ok (.iload_n 1, 1) := by decide +kernel
theorem dX2_waysToBurn_8 : decode cX2_waysToBurn 8 = .ok (.iaload, 1) := by decide +kernel
theorem dX2_waysToBurn_9 : decode cX2_waysToBurn 9 = .ok (.istore 5, 2) := by decide +kernel
theorem dX2_waysToBurn_11 : decode cX2_waysToBurn 11 = .ok (.aload_n 0, 1) := by decide +kernel
theorem dX2_waysToBurn_12 : decode cX2_waysToBurn 12 = .ok (.getfield 30, 3) := by decide +kernel
theorem dX2_waysToBurn_15 : decode cX2_waysToBurn 15 = .ok (.getfield 36, 3) := by decide +kernel
theorem dX2_waysToBurn_18 : decode cX2_waysToBurn 18 = .ok (.iload_n 1, 1) := by decide +kernel
theorem dX2_waysToBurn_19 : decode cX2_waysToBurn 19 = .ok (.iaload, 1) := by decide +kernel
theorem dX2_waysToBurn_20 : decode cX2_waysToBurn 20 = .ok (.istore 6, 2) := by decide +kernel
theorem dX2_waysToBurn_22 : decode cX2_waysToBurn 22 = .ok (.iconst 1, 1) := by decide +kernel
theorem dX2_waysToBurn_23 : decode cX2_waysToBurn 23 = .ok (.istore 7, 2) := by decide +kernel
theorem dX2_waysToBurn_25 : decode cX2_waysToBurn 25 = .ok (.iconst 0, 1) := by decide +kernel
theorem dX2_waysToBurn_26 : decode cX2_waysToBurn 26 = .ok (.istore 8, 2) := by decide +kernel
theorem dX2_waysToBurn_28 : decode cX2_waysToBurn 28 = .ok (.iload 8, 2) := by decide +kernel
theorem dX2_waysToBurn_30 : decode cX2_waysToBurn 30 = .ok (.iload 4, 2) := by decide +kernel
theorem dX2_waysToBurn_32 : decode cX2_waysToBurn 32 = .ok (.if_icmp .ge 85, 3) := by decide +kernel
theorem dX2_waysToBurn_35 : decode cX2_waysToBurn 35 = .ok (.iconst 0, 1) := by decide +kernel
theorem dX2_waysToBurn_36 : decode cX2_waysToBurn 36 = .ok (.istore 9, 2) := by decide +kernel
theorem dX2_waysToBurn_38 : decode cX2_waysToBurn 38 = .ok (.iconst 3, 1) := by decide +kernel
theorem dX2_waysToBurn_39 : decode cX2_waysToBurn 39 = .ok (.istore 10, 2) := by decide +kernel
theorem dX2_waysToBurn_41 : decode cX2_waysToBurn 41 = .ok (.iload 10, 2) := by decide +kernel
theorem dX2_waysToBurn_43 : decode cX2_waysToBurn 43 = .ok (.ifCond .lt 46, 3) := by decide +kernel
theorem dX2_waysToBurn_46 : decode cX2_waysToBurn 46 = .ok (.aload_n 0, 1) := by decide +kernel
theorem dX2_waysToBurn_47 : decode cX2_waysToBurn 47 = .ok (.getfield 30, 3) := by decide +kernel
theorem dX2_waysToBurn_50 : decode cX2_waysToBurn 50 = .ok (.iload 5, 2) := by decide +kernel
theorem dX2_waysToBurn_52 : decode cX2_waysToBurn 52 = .ok (.iload 6, 2) := by decide +kernel
theorem dX2_waysToBurn_54 : decode cX2_waysToBurn 54 = .ok (.iload 10, 2) := by decide +kernel
theorem dX2_waysToBurn_56 : decode cX2_waysToBurn 56 = .ok (.invokestatic 95, 3) := by decide +kernel
theorem dX2_waysToBurn_59 : decode cX2_waysToBurn 59 = .ok (.invokevirtual 39, 3) := by decide +kernel
theorem dX2_waysToBurn_62 : decode cX2_waysToBurn 62 = .ok (.aload_n 2, 1) := by decide +kernel
theorem dX2_waysToBurn_63 : decode cX2_waysToBurn 63 = .ok (.iload_n 3, 1) := by decide +kernel
theorem dX2_waysToBurn_64 : decode cX2_waysToBurn 64 = .ok (.iload 8, 2) := by decide +kernel
theorem dX2_waysToBurn_66 : decode cX2_waysToBurn 66 = .ok (.iadd, 1) := by decide +kernel
theorem dX2_waysToBurn_67 : decode cX2_waysToBurn 67 = .ok (.iaload, 1) := by decide +kernel
theorem dX2_waysToBurn_68 : decode cX2_waysToBurn 68 = .ok (.if_icmp .ne 15, 3) := by decide +kernel
theorem dX2_waysToBurn_71 : decode cX2_waysToBurn 71 = .ok (.iinc 9 1, 3) := by decide +kernel
theorem dX2_waysToBurn_74 : decode cX2_waysToBurn 74 = .ok (.aload_n 0, 1) := by decide +kernel
theorem dX2_waysToBurn_75 : decode cX2_waysToBurn 75 = .ok (.getfield 18, 3) := by decide +kernel
theorem dX2_waysToBurn_78 : decode cX2_waysToBurn 78 = .ok (.iload 8, 2) := by decide +kernel
theorem dX2_waysToBurn_80 : decode cX2_waysToBurn 80 = .ok (.iload 10, 2) := by decide +kernel
theorem dX2_waysToBurn_82 : decode cX2_waysToBurn 82 = .ok (.iastore, 1) := by decide +kernel
theorem dX2_waysToBurn_83 : decode cX2_waysToBurn 83 = .ok (.iinc 10 (-1), 3) := by decide +kernel
theorem dX2_waysToBurn_86 : decode cX2_waysToBurn 86 = .ok (.goto (-45), 3) := by decide +kernel
theorem dX2_waysToBurn_89 : decode cX2_waysToBurn 89 = .ok (.iload 9, 2) := by decide +kernel
theorem dX2_waysToBurn_91 : decode cX2_waysToBurn 91 = .ok (.ifCond .ne 5, 3) := by decide +kernel
theorem dX2_waysToBurn_94 : decode cX2_waysToBurn 94 = .ok (.iconst 0, 1) := by decide +kernel
theorem dX2_waysToBurn_95 : decode cX2_waysToBurn 95 = .ok (.ireturn, 1) := by decide +kernel
theorem dX2_waysToBurn_96 : decode cX2_waysToBurn 96 = .ok (.iload 7, 2) := by decide +kernel
theorem dX2_waysToBurn_98 : decode cX2_waysToBurn 98 = .ok (.iload 9, 2) := by decide +kernel
theorem dX2_waysToBurn_100 : decode cX2_waysToBurn 100 = .ok (.imul, 1) := by decide +kernel
theorem dX2_waysToBurn_101 : decode cX2_waysToBurn 101 = .ok (.istore 7, 2) := by decide +kernel
theorem dX2_waysToBurn_103 : decode cX2_waysToBurn 103 = .ok (.aload_n 2, 1) := by decide +kernel
theorem dX2_waysToBurn_104 : decode cX2_waysToBurn 104 = .ok (.iload_n 3, 1) := by decide +kernel
theorem dX2_waysToBurn_105 : decode cX2_waysToBurn 105 = .ok (.iload 8, 2) := by decide +kernel
theorem dX2_waysToBurn_107 : decode cX2_waysToBurn 107 = .ok (.iadd, 1) := by decide +kernel
theorem dX2_waysToBurn_108 : decode cX2_waysToBurn 108 = .ok (.iaload, 1) := by decide +kernel
theorem dX2_waysToBurn_109 : decode cX2_waysToBurn 109 = .ok (.istore 6, 2) := by decide +kernel
theorem dX2_waysToBurn_111 : decode cX2_waysToBurn 111 = .ok (.iinc 8 1, 3) := by decide +kernel
theorem dX2_waysToBurn_114 : decode cX2_waysToBurn 114 = .ok (.goto (-86), 3) := by decide +kernel
theorem dX2_waysToBurn_117 : decode cX2_waysToBurn 117 = .ok (.iload 7, 2) := by decide +kernel
theorem dX2_waysToBurn_119 : decode cX2_waysToBurn 119 = .ok (.ireturn, 1) := by decide +kernel
theorem dX2_kindsThatFit_0 : decode cX2_kindsThatFit 0 = .ok (.iconst 0, 1) := by decide +kernel
theorem dX2_kindsThatFit_1 : decode cX2_kindsThatFit 1 = .ok (.istore 6, 2) := by decide +kernel
theorem dX2_kindsThatFit_3 : decode cX2_kindsThatFit 3 = .ok (.iconst 1, 1) := by decide +kernel
theorem dX2_kindsThatFit_4 : decode cX2_kindsThatFit 4 = .ok (.istore 7, 2) := by decide +kernel
theorem dX2_kindsThatFit_6 : decode cX2_kindsThatFit 6 = .ok (.iload 7, 2) := by decide +kernel
theorem dX2_kindsThatFit_8 : decode cX2_kindsThatFit 8 = .ok (.iconst 5, 1) := by decide +kernel
theorem dX2_kindsThatFit_9 : decode cX2_kindsThatFit 9 = .ok (.if_icmp .gt 37, 3) := by decide +kernel
theorem dX2_kindsThatFit_12 : decode cX2_kindsThatFit 12 = .ok (.aload_n 0, 1) := by decide +kernel
theorem dX2_kindsThatFit_13 : decode cX2_kindsThatFit 13 = .ok (.iload 7, 2) := by decide +kernel
theorem dX2_kindsThatFit_15 : decode cX2_kindsThatFit 15 = .ok (.iload_n 1, 1) := by decide +kernel
theorem dX2_kindsThatFit_16 : decode cX2_kindsThatFit 16 = .ok (.iload 5, 2) := by decide +kernel
theorem dX2_kindsThatFit_18 : decode cX2_kindsThatFit 18 = .ok (.invokestatic 95, 3) := by decide +kernel
theorem dX2_kindsThatFit_21 : decode cX2_kindsThatFit 21 = .ok (.aload_n 2, 1) := by decide +kernel
theorem dX2_kindsThatFit_22 : decode cX2_kindsThatFit 22 = .ok (.iload_n 3, 1) := by decide +kernel
theorem dX2_kindsThatFit_23 : decode cX2_kindsThatFit 23 = .ok (.iload 4, 2) := by decide +kernel
theorem dX2_kindsThatFit_25 : decode cX2_kindsThatFit 25 = .ok (.invokevirtual 109, 3) := by decide +kernel
theorem dX2_kindsThatFit_28 : decode cX2_kindsThatFit 28 = .ok (.ifCond .eq 12, 3) := by decide +kernel
theorem dX2_kindsThatFit_31 : decode cX2_kindsThatFit 31 = .ok (.iload 6, 2) := by decide +kernel
theorem dX2_kindsThatFit_33 : decode cX2_kindsThatFit 33 = .ok (.iconst 1, 1) := by decide +kernel
theorem dX2_kindsThatFit_34 : decode cX2_kindsThatFit 34 = .ok (.iload 7, 2) := by decide +kernel
theorem dX2_kindsThatFit_36 : decode cX2_kindsThatFit 36 = .ok (.ishl, 1) := by decide +kernel
theorem dX2_kindsThatFit_37 : decode cX2_kindsThatFit 37 = .ok (.ior, 1) := by decide +kernel
theorem dX2_kindsThatFit_38 : decode cX2_kindsThatFit 38 = .ok (.istore 6, 2) := by decide +kernel
theorem dX2_kindsThatFit_40 : decode cX2_kindsThatFit 40 = .ok (.iinc 7 1, 3) := by decide +kernel
theorem dX2_kindsThatFit_43 : decode cX2_kindsThatFit 43 = .ok (.goto (-37), 3) := by decide +kernel
theorem dX2_kindsThatFit_46 : decode cX2_kindsThatFit 46 = .ok (.iload 6, 2) := by decide +kernel
theorem dX2_kindsThatFit_48 : decode cX2_kindsThatFit 48 = .ok (.ireturn, 1) := by decide +kernel
theorem dX2_comesSo_0 : decode cX2_comesSo 0 = .ok (.iload_n 1, 1) := by decide +kernel
theorem dX2_comesSo_1 : decode cX2_comesSo 1 = .ok (.istore 5, 2) := by decide +kernel
theorem dX2_comesSo_3 : decode cX2_comesSo 3 = .ok (.iload_n 3, 1) := by decide +kernel
theorem dX2_comesSo_4 : decode cX2_comesSo 4 = .ok (.istore 6, 2) := by decide +kernel
theorem dX2_comesSo_6 : decode cX2_comesSo 6 = .ok (.iload 6, 2) := by decide +kernel
theorem dX2_comesSo_8 : decode cX2_comesSo 8 = .ok (.iload_n 3, 1) := by decide +kernel
theorem dX2_comesSo_9 : decode cX2_comesSo 9 = .ok (.iload 4, 2) := by decide +kernel
theorem dX2_comesSo_11 : decode cX2_comesSo 11 = .ok (.iadd, 1) := by decide +kernel
theorem dX2_comesSo_12 : decode cX2_comesSo 12 = .ok (.if_icmp .ge 31, 3) := by decide +kernel
theorem dX2_comesSo_15 : decode cX2_comesSo 15 = .ok (.aload_n 0, 1) := by decide +kernel
theorem dX2_comesSo_16 : decode cX2_comesSo 16 = .ok (.getfield 30, 3) := by decide +kernel
theorem dX2_comesSo_19 : decode cX2_comesSo 19 = .ok (.iload 5, 2) := by decide +kernel
theorem dX2_comesSo_21 : decode cX2_comesSo 21 = .ok (.invokevirtual 39, 3) := by decide +kernel
theorem dX2_comesSo_24 : decode cX2_comesSo 24 = .ok (.istore 5, 2) := by decide +kernel
theorem dX2_comesSo_26 : decode cX2_comesSo 26 = .ok (.iload 5, 2) := by decide +kernel
theorem dX2_comesSo_28 : decode cX2_comesSo 28 = .ok (.aload_n 2, 1) := by decide +kernel
theorem dX2_comesSo_29 : decode cX2_comesSo 29 = .ok (.iload 6, 2) := by decide +kernel
theorem dX2_comesSo_31 : decode cX2_comesSo 31 = .ok (.iaload, 1) := by decide +kernel
theorem dX2_comesSo_32 : decode cX2_comesSo 32 = .ok (.if_icmp .eq 5, 3) := by decide +kernel
theorem dX2_comesSo_35 : decode cX2_comesSo 35 = .ok (.iconst 0, 1) := by decide +kernel
theorem dX2_comesSo_36 : decode cX2_comesSo 36 = .ok (.ireturn, 1) := by decide +kernel
theorem dX2_comesSo_37 : decode cX2_comesSo 37 = .ok (.iinc 6 1, 3) := by decide +kernel
theorem dX2_comesSo_40 : decode cX2_comesSo 40 = .ok (.goto (-34), 3) := by decide +kernel
theorem dX2_comesSo_43 : decode cX2_comesSo 43 = .ok (.iconst 1, 1) := by decide +kernel
theorem dX2_comesSo_44 : decode cX2_comesSo 44 = .ok (.ireturn, 1) := by decide +kernel
theorem dX2_landRuled_0 : decode cX2_landRuled 0 = .ok (.aload_n 0, 1) := by decide +kernel
theorem dX2_landRuled_1 : decode cX2_landRuled 1 = .ok (.getfield 22, 3) := by decide +kernel
theorem dX2_landRuled_4 : decode cX2_landRuled 4 = .ok (.iconst 0, 1) := by decide +kernel
theorem dX2_landRuled_5 : decode cX2_landRuled 5 = .ok (.invokestatic 64, 3) := by decide +kernel
theorem dX2_landRuled_8 : decode cX2_landRuled 8 = .ok (.aload_n 0, 1) := by decide +kernel
theorem dX2_landRuled_9 : decode cX2_landRuled 9 = .ok (.getfield 14, 3) := by decide +kernel
theorem dX2_landRuled_12 : decode cX2_landRuled 12 = .ok (.aload_n 0, 1) := by decide +kernel
theorem dX2_landRuled_13 : decode cX2_landRuled 13 = .ok (.getfield 30, 3) := by decide +kernel
theorem dX2_landRuled_16 : decode cX2_landRuled 16 = .ok (.invokevirtual 48, 3) := by decide +kernel
theorem dX2_landRuled_19 : decode cX2_landRuled 19 = .ok (.iconst 0, 1) := by decide +kernel
theorem dX2_landRuled_20 : decode cX2_landRuled 20 = .ok (.istore_n 2, 1) := by decide +kernel
theorem dX2_landRuled_21 : decode cX2_landRuled 21 = .ok (.iload_n 2, 1) := by decide +kernel
theorem dX2_landRuled_22 : decode cX2_landRuled 22 = .ok (.iload_n 1, 1) := by decide +kernel
theorem dX2_landRuled_23 : decode cX2_landRuled 23 = .ok (.if_icmp .ge 53, 3) := by decide +kernel
theorem dX2_landRuled_26 : decode cX2_landRuled 26 = .ok (.aload_n 0, 1) := by decide +kernel
theorem dX2_landRuled_27 : decode cX2_landRuled 27 = .ok (.getfield 14, 3) := by decide +kernel
theorem dX2_landRuled_30 : decode cX2_landRuled 30 = .ok (.invokevirtual 52, 3) := by decide +kernel
theorem dX2_landRuled_33 : decode cX2_landRuled 33 = .ok (.iconst 0, 1) := by decide +kernel
theorem dX2_landRuled_34 : decode cX2_landRuled 34 = .ok (.istore_n 3, 1) := by decide +kernel
theorem dX2_landRuled_35 : decode cX2_landRuled 35 = .ok (.iload_n 3, 1) := by decide +kernel
theorem dX2_landRuled_36 : decode cX2_landRuled 36 = .ok (.aload_n 0, 1) := by decide +kernel
theorem dX2_landRuled_37 : decode cX2_landRuled 37 = .ok (.getfield 14, 3) := by decide +kernel
theorem dX2_landRuled_40 : decode cX2_landRuled 40 = .ok (.getfield 113, 3) := by decide +kernel
theorem dX2_landRuled_43 : decode cX2_landRuled 43 = .ok (.if_icmp .ge 27, 3) := by decide +kernel
theorem dX2_landRuled_46 : decode cX2_landRuled 46 = .ok (.aload_n 0, 1) := by decide +kernel
theorem dX2_landRuled_47 : decode cX2_landRuled 47 = .ok (.getfield 22, 3) := by decide +kernel
theorem dX2_landRuled_50 : decode cX2_landRuled 50 = .ok (.aload_n 0, 1) := by decide +kernel
theorem dX2_landRuled_51 : decode cX2_landRuled 51 = .ok (.getfield 14, 3) := by decide +kernel
theorem dX2_landRuled_54 : decode cX2_landRuled 54 = .ok (.getfield 33, 3) := by decide +kernel
theorem dX2_landRuled_57 : decode cX2_landRuled 57 = .ok (.iload_n 3, 1) := by decide +kernel
theorem dX2_landRuled_58 : decode cX2_landRuled 58 = .ok (.iaload, 1) := by decide +kernel
theorem dX2_landRuled_59 : decode cX2_landRuled 59 = .ok (.dup2, 1) := by decide +kernel
theorem dX2_landRuled_60 : decode cX2_landRuled 60 = .ok (.iaload, 1) := by decide +kernel
theorem dX2_landRuled_61 : decode cX2_landRuled 61 = .ok (.iconst 1, 1) := by decide +kernel
theorem dX2_landRuled_62 : decode cX2_landRuled 62 = .ok (.iadd, 1) := by decide +kernel
theorem dX2_landRuled_63 : decode cX2_landRuled 63 = .ok (.iastore, 1) := by decide +kernel
theorem dX2_landRuled_64 : decode cX2_landRuled 64 = .ok (.iinc 3 1, 3) := by decide +kernel
theorem dX2_landRuled_67 : decode cX2_landRuled 67 = .ok (.goto (-32), 3) := by decide +kernel
theorem dX2_landRuled_70 : decode cX2_landRuled 70 = .ok (.iinc 2 1, 3) := by decide +kernel
theorem dX2_landRuled_73 : decode cX2_landRuled 73 = .ok (.goto (-52), 3) := by decide +kernel
theorem dX2_landRuled_76 : decode cX2_landRuled 76 = .ok (.iconst 0, 1) := by decide +kernel
theorem dX2_landRuled_77 : decode cX2_landRuled 77 = .ok (.istore_n 2, 1) := by decide +kernel
theorem dX2_landRuled_78 : decode cX2_landRuled 78 = .ok (.iconst 1, 1) := by decide +kernel
theorem dX2_landRuled_79 : decode cX2_landRuled 79 = .ok (.istore_n 3, 1) := by decide +kernel
theorem dX2_landRuled_80 : decode cX2_landRuled 80 = .ok (.iload_n 3, 1) := by decide +kernel
theorem dX2_landRuled_81 : decode cX2_landRuled 81 = .ok (.bipush 10, 2) := by decide +kernel
theorem dX2_landRuled_83 : decode cX2_landRuled 83 = .ok (.if_icmp .ge 26, 3) := by decide +kernel
theorem dX2_landRuled_86 : decode cX2_landRuled 86 = .ok (.aload_n 0, 1) := by decide +kernel
theorem dX2_landRuled_87 : decode cX2_landRuled 87 = .ok (.getfield 22, 3) := by decide +kernel
theorem dX2_landRuled_90 : decode cX2_landRuled 90 = .ok (.iload_n 3, 1) := by decide +kernel
theorem dX2_landRuled_91 : decode cX2_landRuled 91 = .ok (.iaload, 1) := by decide +kernel
theorem dX2_landRuled_92 : decode cX2_landRuled 92 = .ok (.aload_n 0, 1) := by decide +kernel
theorem dX2_landRuled_93 : decode cX2_landRuled 93 = .ok (.getfield 22, 3) := by decide +kernel
theorem dX2_landRuled_96 : decode cX2_landRuled 96 = .ok (.iload_n 2, 1) := by decide +kernel
theorem dX2_landRuled_97 : decode cX2_landRuled 97 = .ok (.iaload, 1) := by decide +kernel
theorem dX2_landRuled_98 : decode cX2_landRuled 98 = .ok (.if_icmp .le 5, 3) := by decide +kernel
theorem dX2_landRuled_101 : decode cX2_landRuled 101 = .ok (.iload_n 3, 1) := by decide +kernel
theorem dX2_landRuled_102 : decode cX2_landRuled 102 = .ok (.istore_n 2, 1) := by decide +kernel
theorem dX2_landRuled_103 : decode cX2_landRuled 103 = .ok (.iinc 3 1, 3) := by decide +kernel
theorem dX2_landRuled_106 : decode cX2_landRuled 106 = .ok (.goto (-26), 3) := by decide +kernel
theorem dX2_landRuled_109 : decode cX2_landRuled 109 = .ok (.iload_n 2, 1) := by decide +kernel
theorem dX2_landRuled_110 : decode cX2_landRuled 110 = .ok (.ireturn, 1) := by decide +kernel
theorem dX2_hoursUp_0 : decode cX2_hoursUp 0 = .ok (.aload_n 0, 1) := by decide +kernel
theorem dX2_hoursUp_1 : decode cX2_hoursUp 1 = .ok (.getfield 30, 3) := by decide +kernel
theorem dX2_hoursUp_4 : decode cX2_hoursUp 4 = .ok (.getfield 36, 3) := by decide +kernel
theorem dX2_hoursUp_7 : decode cX2_hoursUp 7 = .ok (.iload_n 1, 1) := by decide +kernel
theorem dX2_hoursUp_8 : decode cX2_hoursUp 8 = .ok (.iaload, 1) := by decide +kernel
theorem dX2_hoursUp_9 : decode cX2_hoursUp 9 = .ok (.istore 4, 2) := by decide +kernel
theorem dX2_hoursUp_11 : decode cX2_hoursUp 11 = .ok (.iload_n 2, 1) := by decide +kernel
theorem dX2_hoursUp_12 : decode cX2_hoursUp 12 = .ok (.istore 5, 2) := by decide +kernel
theorem dX2_hoursUp_14 : decode cX2_hoursUp 14 = .ok (.iload 4, 2) := by decide +kernel
theorem dX2_hoursUp_16 : decode cX2_hoursUp 16 = .ok (.ifCond .ne 5, 3) := by decide +kernel
theorem dX2_hoursUp_19 : decode cX2_hoursUp 19 = .ok (.iconst 0, 1) := by decide +kernel
theorem dX2_hoursUp_20 : decode cX2_hoursUp 20 = .ok (.ireturn, 1) := by decide +kernel
theorem dX2_hoursUp_21 : decode cX2_hoursUp 21 = .ok (.iconst 0, 1) := by decide +kernel
theorem dX2_hoursUp_22 : decode cX2_hoursUp 22 = .ok (.istore 6, 2) := by decide +kernel
theorem dX2_hoursUp_24 : decode cX2_hoursUp 24 = .ok (.iload 6, 2) := by decide +kernel
theorem dX2_hoursUp_26 : decode cX2_hoursUp 26 = .ok (.iload_n 3, 1) := by decide +kernel
theorem dX2_hoursUp_27 : decode cX2_hoursUp 27 = .ok (.if_icmp .ge 65, 3) := by decide +kernel
theorem dX2_hoursUp_30 : decode cX2_hoursUp 30 = .ok (.aload_n 0, 1) := by decide +kernel
theorem dX2_hoursUp_31 : decode cX2_hoursUp 31 = .ok (.getfield 30, 3) := by decide +kernel
theorem dX2_hoursUp_34 : decode cX2_hoursUp 34 = .ok (.iload 4, 2) := by decide +kernel
theorem dX2_hoursUp_36 : decode cX2_hoursUp 36 = .ok (.invokevirtual 39, 3) := by decide +kernel
theorem dX2_hoursUp_39 : decode cX2_hoursUp 39 = .ok (.ifCond .ne 28, 3) := by decide +kernel
theorem dX2_hoursUp_42 : decode cX2_hoursUp 42 = .ok (.iload 5, 2) := by decide +kernel
theorem dX2_hoursUp_44 : decode cX2_hoursUp 44 = .ok (.ifCond .le 23, 3) := by decide +kernel
theorem dX2_hoursUp_47 : decode cX2_hoursUp 47 = .ok (.aload_n 0, 1) := by decide +kernel
theorem dX2_hoursUp_48 : decode cX2_hoursUp 48 = .ok (.getfield 30, 3) := by decide +kernel
theorem dX2_hoursUp_51 : decode cX2_hoursUp 51 = .ok (.getfield 92, 3) := by decide +kernel
theorem dX2_hoursUp_54 : decode cX2_hoursUp 54 = .ok (.iload_n 1, 1) := by decide +kernel
theorem dX2_hoursUp_55 : decode cX2_hoursUp 55 = .ok (.iaload, 1) := by decide +kernel
theorem dX2_hoursUp_56 : decode cX2_hoursUp 56 = .ok (.iload 4, 2) := by decide +kernel
theorem dX2_hoursUp_58 : decode cX2_hoursUp 58 = .ok (.iconst 1, 1) := by decide +kernel
theorem dX2_hoursUp_59 : decode cX2_hoursUp 59 = .ok (.invokestatic 95, 3) := by decide +kernel
theorem dX2_hoursUp_62 : decode cX2_hoursUp 62 = .ok (.istore 4, 2) := by decide +kernel
theorem dX2_hoursUp_64 : decode cX2_hoursUp 64 = .ok (.iinc 5 (-1), 3) := by decide +kernel
theorem dX2_hoursUp_67 : decode cX2_hoursUp 67 = .ok (.aload_n 0, 1) := by decide +kernel
theorem dX2_hoursUp_68 : decode cX2_hoursUp 68 = .ok (.getfield 30, 3) := by decide +kernel
theorem dX2_hoursUp_71 : decode cX2_hoursUp 71 = .ok (.iload 4, 2) := by decide +kernel
theorem dX2_hoursUp_73 : decode cX2_hoursUp 73 = .ok (.invokevirtual 39, 3) := by decide +kernel
theorem dX2_hoursUp_76 : decode cX2_hoursUp 76 = .ok (.istore 4, 2) := by decide +kernel
theorem dX2_hoursUp_78 : decode cX2_hoursUp 78 = .ok (.iload 4, 2) := by decide +kernel
theorem dX2_hoursUp_80 : decode cX2_hoursUp 80 = .ok (.ifCond .ne 6, 3) := by decide +kernel
theorem dX2_hoursUp_83 : decode cX2_hoursUp 83 = .ok (.iload 6, 2) := by decide +kernel
theorem dX2_hoursUp_85 : decode cX2_hoursUp 85 = .ok (.ireturn, 1) := by decide +kernel
theorem dX2_hoursUp_86 : decode cX2_hoursUp 86 = .ok (.iinc 6 1, 3) := by decide +kernel
theorem dX2_hoursUp_89 : decode cX2_hoursUp 89 = .ok (.goto (-65), 3) := by decide +kernel
theorem dX2_hoursUp_92 : decode cX2_hoursUp 92 = .ok (.iload_n 3, 1) := by decide +kernel
theorem dX2_hoursUp_93 : decode cX2_hoursUp 93 = .ok (.ireturn, 1) := by decide +kernel
theorem dX2_fewestFiles_0 : decode cX2_fewestFiles 0 = .ok (.iconst 0, 1) := by decide +kernel
theorem dX2_fewestFiles_1 : decode cX2_fewestFiles 1 = .ok (.istore_n 3, 1) := by decide +kernel
theorem dX2_fewestFiles_2 : decode cX2_fewestFiles 2 = .ok (.iload_n 3, 1) := by decide +kernel
theorem dX2_fewestFiles_3 : decode cX2_fewestFiles 3 = .ok (.bipush 60, 2) := by decide +kernel
theorem dX2_fewestFiles_5 : decode cX2_fewestFiles 5 = .ok (.if_icmp .gt 22, 3) := by decide +kernel
theorem dX2_fewestFiles_8 : decode cX2_fewestFiles 8 = .ok (.aload_n 0, 1) := by decide +kernel
theorem dX2_fewestFiles_9 : decode cX2_fewestFiles 9 = .ok (.iload_n 1, 1) := by decide +kernel
theorem dX2_fewestFiles_10 : decode cX2_fewestFiles 10 = .ok (.iload_n 3, 1) := by decide +kernel
theorem dX2_fewestFiles_11 : decode cX2_fewestFiles 11 = .ok (.iload_n 2, 1) := by decide +kernel
theorem dX2_fewestFiles_12 : decode cX2_fewestFiles 12 = .ok (.invokevirtual 117, 3) := by decide +kernel
theorem dX2_fewestFiles_15 : decode cX2_fewestFiles 15 = .ok (.iload_n 2, 1) := by decide +kernel
theorem dX2_fewestFiles_16 : decode cX2_fewestFiles 16 = .ok (.if_icmp .lt 5, 3) := by decide +kernel
theorem dX2_fewestFiles_19 : decode cX2_fewestFiles 19 = .ok (.iload_n 3, 1) := by decide +kernel
theorem dX2_fewestFiles_20 : decode cX2_fewestFiles 20 = .ok (.ireturn, 1) := by decide +kernel
theorem dX2_fewestFiles_21 : decode cX2_fewestFiles 21 = .ok (.iinc 3 1, 3) := by decide +kernel
theorem dX2_fewestFiles_24 : decode cX2_fewestFiles 24 = .ok (.goto (-22), 3) := by decide +kernel
theorem dX2_fewestFiles_27 : decode cX2_fewestFiles 27 = .ok (.ldc 47, 2) := by decide +kernel
theorem dX2_fewestFiles_29 : decode cX2_fewestFiles 29 = .ok (.ireturn, 1) := by decide +kernel
theorem dX2_casesInLand_0 : decode cX2_casesInLand 0 = .ok (.iconst 0, 1) := by decide +kernel
theorem dX2_casesInLand_1 : decode cX2_casesInLand 1 = .ok (.istore 5, 2) := by decide +kernel
theorem dX2_casesInLand_3 : decode cX2_casesInLand 3 = .ok (.iconst 0, 1) := by decide +kernel
theorem dX2_casesInLand_4 : decode cX2_casesInLand 4 = .ok (.istore 6, 2) := by decide +kernel
theorem dX2_casesInLand_6 : decode cX2_casesInLand 6 = .ok (.iload 6, 2) := by decide +kernel
theorem dX2_casesInLand_8 : decode cX2_casesInLand 8 = .ok (.bipush 16, 2) := by decide +kernel
theorem dX2_casesInLand_10 : decode cX2_casesInLand 10 = .ok (.if_icmp .ge 33, 3) := by decide +kernel
theorem dX2_casesInLand_13 : decode cX2_casesInLand 13 = .ok (.aload_n 0, 1) := by decide +kernel
theorem dX2_casesInLand_14 : decode cX2_casesInLand 14 = .ok (.iload_n 1, 1) := by decide +kernel
theorem dX2_casesInLand_15 : decode cX2_casesInLand 15 = .ok (.iload_n 3, 1) := by decide +kernel
theorem dX2_casesInLand_16 : decode cX2_casesInLand 16 = .ok (.iload 6, 2) := by decide +kernel
theorem dX2_casesInLand_18 : decode cX2_casesInLand 18 = .ok (.invokevirtual 120, 3) := by decide +kernel
theorem dX2_casesInLand_21 : decode cX2_casesInLand 21 = .ok (.iload_n 2, 1) := by decide +kernel
theorem dX2_casesInLand_22 : decode cX2_casesInLand 22 = .ok (.if_icmp .ne 15, 3) := by decide +kernel
theorem dX2_casesInLand_25 : decode cX2_casesInLand 25 = .ok (.iload 5, 2) := by decide +kernel
theorem dX2_casesInLand_27 : decode cX2_casesInLand 27 = .ok (.iload 6, 2) := by decide +kernel
theorem dX2_casesInLand_29 : decode cX2_casesInLand 29 = .ok (.iload 4, 2) := by decide +kernel
theorem dX2_casesInLand_31 : decode cX2_casesInLand 31 = .ok (.invokestatic 123, 3) := by decide +kernel
theorem dX2_casesInLand_34 : decode cX2_casesInLand 34 = .ok (.iadd, 1) := by decide +kernel
theorem dX2_casesInLand_35 : decode cX2_casesInLand 35 = .ok (.istore 5, 2) := by decide +kernel
theorem dX2_casesInLand_37 : decode cX2_casesInLand 37 = .ok (.iinc 6 1, 3) := by decide +kernel
theorem dX2_casesInLand_40 : decode cX2_casesInLand 40 = .ok (.goto (-34), 3) := by decide +kernel
theorem dX2_casesInLand_43 : decode cX2_casesInLand 43 = .ok (.iload 5, 2) := by decide +kernel
theorem dX2_casesInLand_45 : decode cX2_casesInLand 45 = .ok (.ireturn, 1) := by decide +kernel
theorem dX2_landIfTurned_0 : decode cX2_landIfTurned 0 = .ok (.aload_n 0, 1) := by decide +kernel
theorem dX2_landIfTurned_1 : decode cX2_landIfTurned 1 = .ok (.getfield 30, 3) := by decide +kernel
theorem dX2_landIfTurned_4 : decode cX2_landIfTurned 4 = .ok (.getfield 33, 3) := by decide +kernel
theorem dX2_landIfTurned_7 : decode cX2_landIfTurned 7 = .ok (.iload_n 1, 1) := by decide +kernel
theorem dX2_landIfTurned_8 : decode cX2_landIfTurned 8 = .ok (.iaload, 1) := by decide +kernel
theorem dX2_landIfTurned_9 : decode cX2_landIfTurned 9 = .ok (.istore 4, 2) := by decide +kernel
theorem dX2_landIfTurned_11 : decode cX2_landIfTurned 11 = .ok (.aload_n 0, 1) := by decide +kernel
theorem dX2_landIfTurned_12 : decode cX2_landIfTurned 12 = .ok (.getfield 30, 3) := by decide +kernel
theorem dX2_landIfTurned_15 : decode cX2_landIfTurned 15 = .ok (.getfield 36, 3) := by decide +kernel
theorem dX2_landIfTurned_18 : decode cX2_landIfTurned 18 = .ok (.iload_n 1, 1) := by decide +kernel
theorem dX2_landIfTurned_19 : decode cX2_landIfTurned 19 = .ok (.iaload, 1) := by decide +kernel
theorem dX2_landIfTurned_20 : decode cX2_landIfTurned 20 = .ok (.istore 5, 2) := by decide +kernel
theorem dX2_landIfTurned_22 : decode cX2_landIfTurned 22 = .ok (.iconst 0, 1) := by decide +kernel
theorem dX2_landIfTurned_23 : decode cX2_landIfTurned 23 = .ok (.istore 6, 2) := by decide +kernel
theorem dX2_landIfTurned_25 : decode cX2_landIfTurned 25 = .ok (.iload 6, 2) := by decide +kernel
theorem dX2_landIfTurned_27 : decode cX2_landIfTurned 27 = .ok (.iload_n 2, 1) := by decide +kernel
theorem dX2_landIfTurned_28 : decode cX2_landIfTurned 28 = .ok (.if_icmp .ge 71, 3) := by decide +kernel
theorem dX2_landIfTurned_31 : decode cX2_landIfTurned 31 = .ok (.aload_n 0, 1) := by decide +kernel
theorem dX2_landIfTurned_32 : decode cX2_landIfTurned 32 = .ok (.getfield 30, 3) := by decide +kernel
theorem dX2_landIfTurned_35 : decode cX2_landIfTurned 35 = .ok (.iload 5, 2) := by decide +kernel
theorem dX2_landIfTurned_37 : decode cX2_landIfTurned 37 = .ok (.invokevirtual 39, 3) := by decide +kernel
theorem dX2_landIfTurned_40 : decode cX2_landIfTurned 40 = .ok (.istore 5, 2) := by decide +kernel
theorem dX2_landIfTurned_42 : decode cX2_landIfTurned 42 = .ok (.aload_n 0, 1) := by decide +kernel
theorem dX2_landIfTurned_43 : decode cX2_landIfTurned 43 = .ok (.getfield 30, 3) := by decide +kernel
theorem dX2_landIfTurned_46 : decode cX2_landIfTurned 46 = .ok (.iload 5, 2) := by decide +kernel
theorem dX2_landIfTurned_48 : decode cX2_landIfTurned 48 = .ok (.invokevirtual 126, 3) := by decide +kernel
theorem dX2_landIfTurned_51 : decode cX2_landIfTurned 51 = .ok (.istore 7, 2) := by decide +kernel
theorem dX2_landIfTurned_53 : decode cX2_landIfTurned 53 = .ok (.iload_n 3, 1) := by decide +kernel
theorem dX2_landIfTurned_54 : decode cX2_landIfTurned 54 = .ok (.iload 5, 2) := by decide +kernel
theorem dX2_landIfTurned_56 : decode cX2_landIfTurned 56 = .ok (.invokestatic 104, 3) := by decide +kernel
theorem dX2_landIfTurned_59 : decode cX2_landIfTurned 59 = .ok (.ishr, 1) := by decide +kernel
theorem dX2_landIfTurned_60 : decode cX2_landIfTurned 60 = .ok (.iconst 1, 1) := by decide +kernel
theorem dX2_landIfTurned_61 : decode cX2_landIfTurned 61 = .ok (.iand, 1) := by decide +kernel
theorem dX2_landIfTurned_62 : decode cX2_landIfTurned 62 = .ok (.iconst 1, 1) := by decide +kernel
theorem dX2_landIfTurned_63 : decode cX2_landIfTurned 63 = .ok (.if_icmp .ne 7, 3) := by decide +kernel
theorem dX2_landIfTurned_66 : decode cX2_landIfTurned 66 = .ok (.iconst 1, 1) := by decide +kernel
theorem dX2_landIfTurned_67 : decode cX2_landIfTurned 67 = .ok (.goto 4, 3) := by decide +kernel
theorem dX2_landIfTurned_70 : decode cX2_landIfTurned 70 = .ok (.iconst 0, 1) := by decide +kernel
theorem dX2_landIfTurned_71 : decode cX2_landIfTurned 71 = .ok (.istore 8, 2) := by decide +kernel
theorem dX2_landIfTurned_73 : decode cX2_landIfTurned 73 = .ok (.iload 4, 2) := by decide +kernel
theorem dX2_landIfTurned_75 : decode cX2_landIfTurned 75 = .ok (.iload 8, 2) := by decide +kernel
theorem dX2_landIfTurned_77 : decode cX2_landIfTurned 77 = .ok (.ifCond .eq 9, 3) := by decide +kernel
theorem dX2_landIfTurned_80 : decode cX2_landIfTurned 80 = .ok (.iload 7, 2) := by decide +kernel
theorem dX2_landIfTurned_82 : decode cX2_landIfTurned 82 = .ok (.ineg, 1) := by decide +kernel
theorem dX2_landIfTurned_83 : decode cX2_landIfTurned 83 = .ok (.goto 5, 3) := by decide +kernel
theorem dX2_landIfTurned_86 : decode cX2_landIfTurned 86 = .ok (.iload 7, 2) := by decide +kernel
theorem dX2_landIfTurned_88 : decode cX2_landIfTurned 88 = .ok (.invokestatic 129, 3) := by decide +kernel
theorem dX2_landIfTurned_91 : decode cX2_landIfTurned 91 = .ok (.istore 4, 2) := by decide +kernel
theorem dX2_landIfTurned_93 : decode cX2_landIfTurned 93 = .ok (.iinc 6 1, 3) := by decide +kernel
theorem dX2_landIfTurned_96 : decode cX2_landIfTurned 96 = .ok (.goto (-71), 3) := by decide +kernel
theorem dX2_landIfTurned_99 : decode cX2_landIfTurned 99 = .ok (.iload 4, 2) := by decide +kernel
theorem dX2_landIfTurned_101 : decode cX2_landIfTurned 101 = .ok (.ireturn, 1) := by decide +kernel
theorem dX2_casesOf_0 : decode cX2_casesOf 0 = .ok (.iconst 1, 1) := by decide +kernel
theorem dX2_casesOf_1 : decode cX2_casesOf 1 = .ok (.istore_n 2, 1) := by decide +kernel
theorem dX2_casesOf_2 : decode cX2_casesOf 2 = .ok (.iconst 0, 1) := by decide +kernel
theorem dX2_casesOf_3 : decode cX2_casesOf 3 = .ok (.istore_n 3, 1) := by decide +kernel
theorem dX2_casesOf_4 : decode cX2_casesOf 4 = .ok (.iload_n 3, 1) := by decide +kernel
theorem dX2_casesOf_5 : decode cX2_casesOf 5 = .ok (.iconst 4, 1) := by decide +kernel
theorem dX2_casesOf_6 : decode cX2_casesOf 6 = .ok (.if_icmp .ge 29, 3) := by decide +kernel
theorem dX2_casesOf_9 : decode cX2_casesOf 9 = .ok (.iload_n 2, 1) := by decide +kernel
theorem dX2_casesOf_10 : decode cX2_casesOf 10 = .ok (.iload_n 0, 1) := by decide +kernel
theorem dX2_casesOf_11 : decode cX2_casesOf 11 = .ok (.iload_n 3, 1) := by decide +kernel
theorem dX2_casesOf_12 : decode cX2_casesOf 12 = .ok (.ishr, 1) := by decide +kernel
theorem dX2_casesOf_13 : decode cX2_casesOf 13 = .ok (.iconst 1, 1) := by decide +kernel
theorem dX2_casesOf_14 : decode cX2_casesOf 14 = .ok (.iand, 1) := by decide +kernel
theorem dX2_casesOf_15 : decode cX2_casesOf 15 = .ok (.iconst 1, 1) := by decide +kernel
theorem dX2_casesOf_16 : decode cX2_casesOf 16 = .ok (.if_icmp .ne 7, 3) := by decide +kernel
theorem dX2_casesOf_19 : decode cX2_casesOf 19 = .ok (.iload_n 1, 1) := by decide +kernel
theorem dX2_casesOf_20 : decode cX2_casesOf 20 = .ok (.goto 7, 3) := by decide +kernel
theorem dX2_casesOf_23 : decode cX2_casesOf 23 = .ok (.bipush 10, 2) := by decide +kernel
theorem dX2_casesOf_25 : decode cX2_casesOf 25 = .ok (.iload_n 1, 1) := by decide +kernel
theorem dX2_casesOf_26 : decode cX2_casesOf 26 = .ok (.isub, 1) := by decide +kernel
theorem dX2_casesOf_27 : decode cX2_casesOf 27 = .ok (.imul, 1) := by decide +kernel
theorem dX2_casesOf_28 : decode cX2_casesOf 28 = .ok (.istore_n 2, 1) := by decide +kernel
theorem dX2_casesOf_29 : decode cX2_casesOf 29 = .ok (.iinc 3 1, 3) := by decide +kernel
theorem dX2_casesOf_32 : decode cX2_casesOf 32 = .ok (.goto (-28), 3) := by decide +kernel
theorem dX2_casesOf_35 : decode cX2_casesOf 35 = .ok (.iload_n 2, 1) := by decide +kernel
theorem dX2_casesOf_36 : decode cX2_casesOf 36 = .ok (.ireturn, 1) := by decide +kernel
theorem dX2_commonDivisor_0 : decode cX2_commonDivisor 0 = .ok (.iload_n 0, 1) := by decide +kernel
theorem dX2_commonDivisor_1 : decode cX2_commonDivisor 1 = .ok (.istore_n 2, 1) := by decide +kernel
theorem dX2_commonDivisor_2 : decode cX2_commonDivisor 2 = .ok (.iload_n 1, 1) := by decide +kernel
theorem dX2_commonDivisor_3 : decode cX2_commonDivisor 3 = .ok (.istore_n 3, 1) := by decide +kernel
theorem dX2_commonDivisor_4 : decode cX2_commonDivisor 4 = .ok (.iconst 0, 1) := by decide +kernel
theorem dX2_commonDivisor_5 : decode cX2_commonDivisor 5 = .ok (.istore 4, 2) := by decide +kernel
theorem dX2_commonDivisor_7 : decode cX2_commonDivisor 7 = .ok (.iload 4, 2) := by decide +kernel
theorem dX2_commonDivisor_9 : decode cX2_commonDivisor 9 = .ok (.bipush 100, 2) := by decide +kernel
theorem dX2_commonDivisor_11 : decode cX2_commonDivisor 11 = .ok (.if_icmp .ge 23, 3) := by decide +kernel
theorem dX2_commonDivisor_14 : decode cX2_commonDivisor 14 = .ok (.iload_n 3, 1) := by decide +kernel
theorem dX2_commonDivisor_15 : decode cX2_commonDivisor 15 = .ok (.ifCond .eq 19, 3) := by decide +kernel
theorem dX2_commonDivisor_18 : decode cX2_commonDivisor 18 = .ok (.iload_n 2, 1) := by decide +kernel
theorem dX2_commonDivisor_19 : decode cX2_commonDivisor 19 = .ok (.iload_n 3, 1) := by decide +kernel
theorem dX2_commonDivisor_20 : decode cX2_commonDivisor 20 = .ok (.irem, 1) := by decide +kernel
theorem dX2_commonDivisor_21 : decode cX2_commonDivisor 21 = .ok (.istore 5, 2) := by decide +kernel
theorem dX2_commonDivisor_23 : decode cX2_commonDivisor 23 = .ok (.iload_n 3, 1) := by decide +kernel
theorem dX2_commonDivisor_24 : decode cX2_commonDivisor 24 = .ok (.istore_n 2, 1) := by decide +kernel
theorem dX2_commonDivisor_25 : decode cX2_commonDivisor 25 = .ok (.iload 5, 2) := by decide +kernel
theorem dX2_commonDivisor_27 : decode cX2_commonDivisor 27 = .ok (.istore_n 3, 1) := by decide +kernel
theorem dX2_commonDivisor_28 : decode cX2_commonDivisor 28 = .ok (.iinc 4 1, 3) := by decide +kernel
theorem dX2_commonDivisor_31 : decode cX2_commonDivisor 31 = .ok (.goto (-24), 3) := by decide +kernel
theorem dX2_commonDivisor_34 : decode cX2_commonDivisor 34 = .ok (.iload_n 2, 1) := by decide +kernel
theorem dX2_commonDivisor_35 : decode cX2_commonDivisor 35 = .ok (.ireturn, 1) := by decide +kernel
theorem dX2_sheetsByDraws_0 : decode cX2_sheetsByDraws 0 = .ok (.aload_n 0, 1) := by decide +kernel
theorem dX2_sheetsByDraws_1 : decode cX2_sheetsByDraws 1 = .ok (.getfield 14, 3) := by decide +kernel
theorem dX2_sheetsByDraws_4 : decode cX2_sheetsByDraws 4 = .ok (.aload_n 0, 1) := by decide +kernel
theorem dX2_sheetsByDraws_5 : decode cX2_sheetsByDraws 5 = .ok (.getfield 30, 3) := by decide +kernel
theorem dX2_sheetsByDraws_8 : decode cX2_sheetsByDraws 8 = .ok (.invokevirtual 48, 3) := by decide +kernel
theorem dX2_sheetsByDraws_11 : decode cX2_sheetsByDraws 11 = .ok (.iconst 0, 1) := by decide +kernel
theorem dX2_sheetsByDraws_12 : decode cX2_sheetsByDraws 12 = .ok (.istore_n 3, 1) := by decide +kernel
theorem dX2_sheetsByDraws_13 : decode cX2_sheetsByDraws 13 = .ok (.iload_n 2, 1) := by decide +kernel
theorem dX2_sheetsByDraws_14 : decode cX2_sheetsByDraws 14 = .ok (.i2l, 1) := by decide +kernel
theorem dX2_sheetsByDraws_15 : decode cX2_sheetsByDraws 15 = .ok (.lstore 4, 2) := by decide +kernel
theorem dX2_sheetsByDraws_17 : decode cX2_sheetsByDraws 17 = .ok (.iconst 0, 1) := by decide +kernel
theorem dX2_sheetsByDraws_18 : decode cX2_sheetsByDraws 18 = .ok (.istore 6, 2) := by decide +kernel
theorem dX2_sheetsByDraws_20 : decode cX2_sheetsByDraws 20 = .ok (.iload 6, 2) := by decide +kernel
theorem dX2_sheetsByDraws_22 : decode cX2_sheetsByDraws 22 = .ok (.iload_n 1, 1) := by decide +kernel
theorem dX2_sheetsByDraws_23 : decode cX2_sheetsByDraws 23 = .ok (.if_icmp .ge 90, 3) := by decide +kernel
theorem dX2_sheetsByDraws_26 : decode cX2_sheetsByDraws 26 = .ok (.aload_n 0, 1) := by decide +kernel
theorem dX2_sheetsByDraws_27 : decode cX2_sheetsByDraws 27 = .ok (.getfield 14, 3) := by decide +kernel
theorem dX2_sheetsByDraws_30 : decode cX2_sheetsByDraws 30 = .ok (.getfield 113, 3) := by decide +kernel
theorem dX2_sheetsByDraws_33 : decode cX2_sheetsByDraws 33 = .ok (.ifCond .le 80, 3) := by decide +kernel
theorem dX2_sheetsByDraws_36 : decode cX2_sheetsByDraws 36 = .ok (.lload 4, 2) := by decide +kernel
theorem dX2_sheetsByDraws_38 : decode cX2_sheetsByDraws 38 = .ok (.ldc2_w 132, 3) := by decide +kernel
theorem dX2_sheetsByDraws_41 : decode cX2_sheetsByDraws 41 = .ok (.lmul, 1) := by decide +kernel
theorem dX2_sheetsByDraws_42 : decode cX2_sheetsByDraws 42 = .ok (.ldc2_w 134, 3) := by decide +kernel
theorem dX2_sheetsByDraws_45 : decode cX2_sheetsByDraws 45 = .ok (.lrem, 1) := by decide +kernel
theorem dX2_sheetsByDraws_46 : decode cX2_sheetsByDraws 46 = .ok (.lstore 4, 2) := by decide +kernel
theorem dX2_sheetsByDraws_48 : decode cX2_sheetsByDraws 48 = .ok (.lload 4, 2) := by decide +kernel
theorem dX2_sheetsByDraws_50 : decode cX2_sheetsByDraws 50 = .ok (.aload_n 0, 1) := by decide +kernel
theorem dX2_sheetsByDraws_51 : decode cX2_sheetsByDraws 51 = .ok (.getfield 14, 3) := by decide +kernel
theorem dX2_sheetsByDraws_54 : decode cX2_sheetsByDraws 54 = .ok (.getfield 113, 3) := by decide +kernel
theorem dX2_sheetsByDraws_57 : decode cX2_sheetsByDraws 57 = .ok (.i2l, 1) := by decide +kernel
theorem dX2_sheetsByDraws_58 : decode cX2_sheetsByDraws 58 = .ok (.lrem, 1) := by decide +kernel
theorem dX2_sheetsByDraws_59 : decode cX2_sheetsByDraws 59 = .ok (.l2i, 1) := by decide +kernel
theorem dX2_sheetsByDraws_60 : decode cX2_sheetsByDraws 60 = .ok (.istore 7, 2) := by decide +kernel
theorem dX2_sheetsByDraws_62 : decode cX2_sheetsByDraws 62 = .ok (.lload 4, 2) := by decide +kernel
theorem dX2_sheetsByDraws_64 : decode cX2_sheetsByDraws 64 = .ok (.ldc2_w 136, 3) := by decide +kernel
theorem dX2_sheetsByDraws_67 : decode cX2_sheetsByDraws 67 = .ok (.lrem, 1) := by decide +kernel
theorem dX2_sheetsByDraws_68 : decode cX2_sheetsByDraws 68 = .ok (.l2i, 1) := by decide +kernel
theorem dX2_sheetsByDraws_69 : decode cX2_sheetsByDraws 69 = .ok (.aload_n 0, 1) := by decide +kernel
theorem dX2_sheetsByDraws_70 : decode cX2_sheetsByDraws 70 = .ok (.getfield 14, 3) := by decide +kernel
theorem dX2_sheetsByDraws_73 : decode cX2_sheetsByDraws 73 = .ok (.getfield 83, 3) := by decide +kernel
theorem dX2_sheetsByDraws_76 : decode cX2_sheetsByDraws 76 = .ok (.iload 7, 2) := by decide +kernel
theorem dX2_sheetsByDraws_78 : decode cX2_sheetsByDraws 78 = .ok (.iaload, 1) := by decide +kernel
theorem dX2_sheetsByDraws_79 : decode cX2_sheetsByDraws 79 = .ok (.invokestatic 74, 3) := by decide +kernel
theorem dX2_sheetsByDraws_82 : decode cX2_sheetsByDraws 82 = .ok (.istore 8, 2) := by decide +kernel
theorem dX2_sheetsByDraws_84 : decode cX2_sheetsByDraws 84 = .ok (.aload_n 0, 1) := by decide +kernel
theorem dX2_sheetsByDraws_85 : decode cX2_sheetsByDraws 85 = .ok (.getfield 14, 3) := by decide +kernel
theorem dX2_sheetsByDraws_88 : decode cX2_sheetsByDraws 88 = .ok (.iload 7, 2) := by decide +kernel
theorem dX2_sheetsByDraws_90 : decode cX2_sheetsByDraws 90 = .ok (.iload 8, 2) := by decide +kernel
theorem dX2_sheetsByDraws_92 : decode cX2_sheetsByDraws 92 = .ok (.invokevirtual 138, 3) := by decide +kernel
theorem dX2_sheetsByDraws_95 : decode cX2_sheetsByDraws 95 = .ok (.iload_n 3, 1) := by decide +kernel
theorem dX2_sheetsByDraws_96 : decode cX2_sheetsByDraws 96 = .ok (.iload 8, 2) := by decide +kernel
theorem dX2_sheetsByDraws_98 : decode cX2_sheetsByDraws 98 = .ok (.iadd, 1) := by decide +kernel
theorem dX2_sheetsByDraws_99 : decode cX2_sheetsByDraws 99 = .ok (.istore_n 3, 1) := by decide +kernel
theorem dX2_sheetsByDraws_100 : decode cX2_sheetsByDraws 100 = .ok (.aload_n 0, 1) := by decide +kernel
theorem dX2_sheetsByDraws_101 : decode cX2_sheetsByDraws 101 = .ok (.getfield 14, 3) := by decide +kernel
theorem dX2_sheetsByDraws_104 : decode cX2_sheetsByDraws 104 = .ok (.invokevirtual 52, 3) := by decide +kernel
theorem dX2_sheetsByDraws_107 : decode cX2_sheetsByDraws 107 = .ok (.iinc 6 1, 3) := by decide +kernel
theorem dX2_sheetsByDraws_110 : decode cX2_sheetsByDraws 110 = .ok (.goto (-90), 3) := by decide +kernel
theorem dX2_sheetsByDraws_113 : decode cX2_sheetsByDraws 113 = .ok (.iload_n 3, 1) := by decide +kernel
theorem dX2_sheetsByDraws_114 : decode cX2_sheetsByDraws 114 = .ok (.ireturn, 1) := by decide +kernel
theorem dX3_ofLetter_0 : decode cX3_ofLetter 0 = .ok (.iload_n 0, 1) := by decide +kernel
theorem dX3_ofLetter_1 : decode cX3_ofLetter 1 = .ok (.tableswitch 73 97 108 #[71, 63, 73, 69, 73, 65, 73, 73, 73, 73, 73, 67], 63) := by decide +kernel
theorem dX3_ofLetter_64 : decode cX3_ofLetter 64 = .ok (.iconst 1, 1) := by decide +kernel
theorem dX3_ofLetter_65 : decode cX3_ofLetter 65 = .ok (.ireturn, 1) := by decide +kernel
theorem dX3_ofLetter_66 : decode cX3_ofLetter 66 = .ok (.iconst 2, 1) := by decide +kernel
theorem dX3_ofLetter_67 : decode cX3_ofLetter 67 = .ok (.ireturn, 1) := by decide +kernel
theorem dX3_ofLetter_68 : decode cX3_ofLetter 68 = .ok (.iconst 3, 1) := by decide +kernel
theorem dX3_ofLetter_69 : decode cX3_ofLetter 69 = .ok (.ireturn, 1) := by decide +kernel
theorem dX3_ofLetter_70 : decode cX3_ofLetter 70 = .ok (.iconst 4, 1) := by decide +kernel
theorem dX3_ofLetter_71 : decode cX3_ofLetter 71 = .ok (.ireturn, 1) := by decide +kernel
theorem dX3_ofLetter_72 : decode cX3_ofLetter 72 = .ok (.iconst 5, 1) := by decide +kernel
theorem dX3_ofLetter_73 : decode cX3_ofLetter 73 = .ok (.ireturn, 1) := by decide +kernel
theorem dX3_ofLetter_74 : decode cX3_ofLetter 74 = .ok (.iconst 0, 1) := by decide +kernel
theorem dX3_ofLetter_75 : decode cX3_ofLetter 75 = .ok (.ireturn, 1) := by decide +kernel
theorem dX3_nearest_0 : decode cX3_nearest 0 = .ok (.iload_n 0, 1) := by decide +kernel
theorem dX3_nearest_1 : decode cX3_nearest 1 = .ok (.ifCond .lt 17, 3) := by decide +kernel
theorem dX3_nearest_4 : decode cX3_nearest 4 = .ok (.iload_n 0, 1) := by decide +kernel
theorem dX3_nearest_5 : decode cX3_nearest 5 = .ok (.bipush 6, 2) := by decide +kernel
theorem dX3_nearest_7 : decode cX3_nearest 7 = .ok (.if_icmp .ge 11, 3) := by decide +kernel
theorem dX3_nearest_10 : decode cX3_nearest 10 = .ok (.getstatic 9, 3) := by decide +kernel
theorem dX3_nearest_13 : decode cX3_nearest 13 = .ok (.iload_n 0, 1) := by decide +kernel
theorem dX3_nearest_14 : decode cX3_nearest 14 = .ok (.iaload, 1) := by decide +kernel
theorem dX3_nearest_15 : decode cX3_nearest 15 = .ok (.goto 4, 3) := by decide +kernel
theorem dX3_nearest_18 : decode cX3_nearest 18 = .ok (.iconst 0, 1) := by decide +kernel
theorem dX3_nearest_19 : decode cX3_nearest 19 = .ok (.ireturn, 1) := by decide +kernel
theorem dX3_isSuch_0 : decode cX3_isSuch 0 = .ok (.iload_n 0, 1) := by decide +kernel
theorem dX3_isSuch_1 : decode cX3_isSuch 1 = .ok (.istore_n 2, 1) := by decide +kernel
theorem dX3_isSuch_2 : decode cX3_isSuch 2 = .ok (.iconst 0, 1) := by decide +kernel
theorem dX3_isSuch_3 : decode cX3_isSuch 3 = .ok (.istore_n 3, 1) := by decide +kernel
theorem dX3_isSuch_4 : decode cX3_isSuch 4 = .ok (.iload_n 3, 1) := by decide +kernel
theorem dX3_isSuch_5 : decode cX3_isSuch 5 = .ok (.bipush 6, 2) := by decide +kernel
theorem dX3_isSuch_7 : decode cX3_isSuch 7 = .ok (.if_icmp .ge 23, 3) := by decide +kernel
theorem dX3_isSuch_10 : decode cX3_isSuch 10 = .ok (.iload_n 2, 1) := by decide +kernel
theorem dX3_isSuch_11 : decode cX3_isSuch 11 = .ok (.iload_n 1, 1) := by decide +kernel
theorem dX3_isSuch_12 : decode cX3_isSuch 12 = .ok (.if_icmp .eq 18, 3) := by decide +kernel
theorem dX3_isSuch_15 : decode cX3_isSuch 15 = .ok (.iload_n 2, 1) := by decide +kernel
theorem dX3_isSuch_16 : decode cX3_isSuch 16 = .ok (.ifCond .eq 14, 3) := by decide +kernel
theorem dX3_isSuch_19 : decode cX3_isSuch 19 = .ok (.iload_n 2, 1) := by decide +kernel
theorem dX3_isSuch_20 : decode cX3_isSuch 20 = .ok (.invokestatic 13, 3) := by decide +kernel
theorem dX3_isSuch_23 : decode cX3_isSuch 23 = .ok (.istore_n 2, 1) := by decide +kernel
theorem dX3_isSuch_24 : decode cX3_isSuch 24 = .ok (.iinc 3 1, 3) := by decide +kernel
theorem dX3_isSuch_27 : decode cX3_isSuch 27 = .ok (.goto (-23), 3) := by decide +kernel
theorem dX3_isSuch_30 : decode cX3_isSuch 30 = .ok (.iload_n 2, 1) := by decide +kernel
theorem dX3_isSuch_31 : decode cX3_isSuch 31 = .ok (.iload_n 1, 1) := by decide +kernel
theorem dX3_isSuch_32 : decode cX3_isSuch 32 = .ok (.if_icmp .ne 7, 3) := by decide +kernel
theorem dX3_isSuch_35 : decode cX3_isSuch 35 = .ok (.iconst 1, 1) := by decide +kernel
theorem dX3_isSuch_36 : decode cX3_isSuch 36 = .ok (.goto 4, 3) := by decide +kernel
theorem dX3_isSuch_39 : decode cX3_isSuch 39 = .ok (.iconst 0, 1) := by decide +kernel
theorem dX3_isSuch_40 : decode cX3_isSuch 40 = .ok (.ireturn, 1) := by decide +kernel
theorem dX4_init_0 : decode cX4_init 0 = .ok (.aload_n 0, 1) := by decide +kernel
theorem dX4_init_1 : decode cX4_init 1 = .ok (.invokespecial 3, 3) := by decide +kernel
theorem dX4_init_4 : decode cX4_init 4 = .ok (.aload_n 0, 1) := by decide +kernel
theorem dX4_init_5 : decode cX4_init 5 = .ok (.iconst 1, 1) := by decide +kernel
theorem dX4_init_6 : decode cX4_init 6 = .ok (.putfield 9, 3) := by decide +kernel
theorem dX4_init_9 : decode cX4_init 9 = .ok (.aload_n 0, 1) := by decide +kernel
theorem dX4_init_10 : decode cX4_init 10 = .ok (.bipush 40, 2) := by decide +kernel
theorem dX4_init_12 : decode cX4_init 12 = .ok (.newarray .int, 2) := by decide +kernel
theorem dX4_init_14 : decode cX4_init 14 = .ok (.putfield 15, 3) := by decide +kernel
theorem dX4_init_17 : decode cX4_init 17 = .ok (.return_, 1) := by decide +kernel
theorem dX4_begin_0 : decode cX4_begin 0 = .ok (.aload_n 0, 1) := by decide +kernel
theorem dX4_begin_1 : decode cX4_begin 1 = .ok (.iconst 0, 1) := by decide +kernel
theorem dX4_begin_2 : decode cX4_begin 2 = .ok (.putfield 9, 3) := by decide +kernel
theorem dX4_begin_5 : decode cX4_begin 5 = .ok (.aload_n 0, 1) := by decide +kernel
theorem dX4_begin_6 : decode cX4_begin 6 = .ok (.iload_n 1, 1) := by decide +kernel
theorem dX4_begin_7 : decode cX4_begin 7 = .ok (.putfield 19, 3) := by decide +kernel
theorem dX4_begin_10 : decode cX4_begin 10 = .ok (.aload_n 0, 1) := by decide +kernel
theorem dX4_begin_11 : decode cX4_begin 11 = .ok (.iload_n 2, 1) := by decide +kernel
theorem dX4_begin_12 : decode cX4_begin 12 = .ok (.putfield 23, 3) := by decide +kernel
theorem dX4_begin_15 : decode cX4_begin 15 = .ok (.aload_n 0, 1) := by decide +kernel
theorem dX4_begin_16 : decode cX4_begin 16 = .ok (.getfield 15, 3) := by decide +kernel
theorem dX4_begin_19 : decode cX4_begin 19 = .ok (.iconst 0, 1) := by decide +kernel
theorem dX4_begin_20 : decode cX4_begin 20 = .ok (.invokestatic 26, 3) := by decide +kernel
theorem dX4_begin_23 : decode cX4_begin 23 = .ok (.return_, 1) := by decide +kernel
theorem dX4_findingOf_0 : decode cX4_findingOf 0 = .ok (.aload_n 0, 1) := by decide +kernel
theorem dX4_findingOf_1 : decode cX4_findingOf 1 = .ok (.getfield 9, 3) := by decide +kernel
theorem dX4_findingOf_4 : decode cX4_findingOf 4 = .ok (.ifCond .eq 5, 3) := by decide +kernel
theorem dX4_findingOf_7 : decode cX4_findingOf 7 = .ok (.iconst 1, 1) := by decide +kernel
theorem dX4_findingOf_8 : decode cX4_findingOf 8 = .ok (.ireturn, 1) := by decide +kernel
theorem dX4_findingOf_9 : decode cX4_findingOf 9 = .ok (.aload_n 0, 1) := by decide +kernel
theorem dX4_findingOf_10 : decode cX4_findingOf 10 = .ok (.iload_n 1, 1) := by decide +kernel
theorem dX4_findingOf_11 : decode cX4_findingOf 11 = .ok (.iload_n 2, 1) := by decide +kernel
theorem dX4_findingOf_12 : decode cX4_findingOf 12 = .ok (.invokevirtual 32, 3) := by decide +kernel
theorem dX4_findingOf_15 : decode cX4_findingOf 15 = .ok (.ifCond .eq 7, 3) := by decide +kernel
theorem dX4_findingOf_18 : decode cX4_findingOf 18 = .ok (.iconst 0, 1) := by decide +kernel
theorem dX4_findingOf_19 : decode cX4_findingOf 19 = .ok (.goto 4, 3) := by decide +kernel
theorem dX4_findingOf_22 : decode cX4_findingOf 22 = .ok (.iconst 2, 1) := by decide +kernel
theorem dX4_findingOf_23 : decode cX4_findingOf 23 = .ok (.ireturn, 1) := by decide +kernel
theorem dX4_spans_0 : decode cX4_spans 0 = .ok (.iload_n 1, 1) := by decide +kernel
theorem dX4_spans_1 : decode cX4_spans 1 = .ok (.ifCond .lt 29, 3) := by decide +kernel
theorem dX4_spans_4 : decode cX4_spans 4 = .ok (.iload_n 2, 1) := by decide +kernel
theorem dX4_spans_5 : decode cX4_spans 5 = .ok (.ifCond .lt 25, 3) := by decide +kernel
theorem dX4_spans_8 : decode cX4_spans 8 = .ok (.iload_n 2, 1) := by decide +kernel
theorem dX4_spans_9 : decode cX4_spans 9 = .ok (.aload_n 0, 1) := by decide +kernel
theorem dX4_spans_10 : decode cX4_spans 10 = .ok (.getfield 23, 3) := by decide +kernel
theorem dX4_spans_13 : decode cX4_spans 13 = .ok (.if_icmp .gt 17, 3) := by decide +kernel
theorem dX4_spans_16 : decode cX4_spans 16 = .ok (.iload_n 1, 1) := by decide +kernel
theorem dX4_spans_17 : decode cX4_spans 17 = .ok (.aload_n 0, 1) := by decide +kernel
theorem dX4_spans_18 : decode cX4_spans 18 = .ok (.getfield 23, 3) := by decide +kernel
theorem dX4_spans_21 : decode cX4_spans 21 = .ok (.iload_n 2, 1) := by decide +kernel
theorem dX4_spans_22 : decode cX4_spans 22 = .ok (.isub, 1) := by decide +kernel
theorem dX4_spans_23 : decode cX4_spans 23 = .ok (.if_icmp .gt 7, 3) := by decide +kernel
theorem dX4_spans_26 : decode cX4_spans 26 = .ok (.iconst 1, 1) := by decide +kernel
theorem dX4_spans_27 : decode cX4_spans 27 = .ok (.goto 4, 3) := by decide +kernel
theorem dX4_spans_30 : decode cX4_spans 30 = .ok (.iconst 0, 1) := by decide +kernel
theorem dX4_spans_31 : decode cX4_spans 31 = .ok (.ireturn, 1) := by decide +kernel
theorem dX4_put_0 : decode cX4_put 0 = .ok (.aload_n 0, 1) := by decide +kernel
theorem dX4_put_1 : decode cX4_put 1 = .ok (.getfield 15, 3) := by decide +kernel
theorem dX4_put_4 : decode cX4_put 4 = .ok (.iload_n 1, 1) := by decide +kernel
theorem dX4_put_5 : decode cX4_put 5 = .ok (.aload_n 0, 1) := by decide +kernel
theorem dX4_put_6 : decode cX4_put 6 = .ok (.iload_n 2, 1) := by decide +kernel
theorem dX4_put_7 : decode cX4_put 7 = .ok (.invokevirtual 36, 3) := by decide +kernel
theorem dX4_put_10 : decode cX4_put 10 = .ok (.iastore, 1) := by decide +kernel
theorem dX4_put_11 : decode cX4_put 11 = .ok (.aload_n 0, 1) := by decide +kernel
theorem dX4_put_12 : decode cX4_put 12 = .ok (.getfield 15, 3) := by decide +kernel
theorem dX4_put_15 : decode cX4_put 15 = .ok (.iload_n 1, 1) := by decide +kernel
theorem dX4_put_16 : decode cX4_put 16 = .ok (.iaload, 1) := by decide +kernel
theorem dX4_put_17 : decode cX4_put 17 = .ok (.ireturn, 1) := by decide +kernel
theorem dX4_cut_0 : decode cX4_cut 0 = .ok (.aload_n 0, 1) := by decide +kernel
theorem dX4_cut_1 : decode cX4_cut 1 = .ok (.getfield 19, 3) := by decide +kernel
theorem dX4_cut_4 : decode cX4_cut 4 = .ok (.lookupswitch 34 #[(0, 28), (1, 31)], 28) := by decide +kernel
theorem dX4_cut_32 : decode cX4_cut 32 = .ok (.iload_n 1, 1) := by decide +kernel
theorem dX4_cut_33 : decode cX4_cut 33 = .ok (.i2b, 1) := by decide +kernel
theorem dX4_cut_34 : decode cX4_cut 34 = .ok (.ireturn, 1) := by decide +kernel
theorem dX4_cut_35 : decode cX4_cut 35 = .ok (.iload_n 1, 1) := by decide +kernel
theorem dX4_cut_36 : decode cX4_cut 36 = .ok (.i2s, 1) := by decide +kernel
theorem dX4_cut_37 : decode cX4_cut 37 = .ok (.ireturn, 1) := by decide +kernel
theorem dX4_cut_38 : decode cX4_cut 38 = .ok (.iload_n 1, 1) := by decide +kernel
theorem dX4_cut_39 : decode cX4_cut 39 = .ok (.ireturn, 1) := by decide +kernel
theorem dX6_init_0 : decode cX6_init 0 = .ok (.aload_n 0, 1) := by decide +kernel
theorem dX6_init_1 : decode cX6_init 1 = .ok (.invokespecial 3, 3) := by decide +kernel
theorem dX6_init_4 : decode cX6_init 4 = .ok (.aload_n 0, 1) := by decide +kernel
theorem dX6_init_5 : decode cX6_init 5 = .ok (.bipush 100, 2) := by decide +kernel
theorem dX6_init_7 : decode cX6_init 7 = .ok (.newarray .int, 2) := by decide +kernel
theorem dX6_init_9 : decode cX6_init 9 = .ok (.putfield 11, 3) := by decide +kernel
theorem dX6_init_12 : decode cX6_init 12 = .ok (.return_, 1) := by decide +kernel
theorem dX6_add_0 : decode cX6_add 0 = .ok (.aload_n 0, 1) := by decide +kernel
theorem dX6_add_1 : decode cX6_add 1 = .ok (.getfield 15, 3) := by decide +kernel
theorem dX6_add_4 : decode cX6_add 4 = .ok (.bipush 100, 2) := by decide +kernel
theorem dX6_add_6 : decode cX6_add 6 = .ok (.if_icmp .lt 6, 3) := by decide +kernel
theorem dX6_add_9 : decode cX6_add 9 = .ok (.ldc 19, 2) := by decide +kernel
theorem dX6_add_11 : decode cX6_add 11 = .ok (.ireturn, 1) := by decide +kernel
theorem dX6_add_12 : decode cX6_add 12 = .ok (.aload_n 0, 1) := by decide +kernel
theorem dX6_add_13 : decode cX6_add 13 = .ok (.getfield 11, 3) := by decide +kernel
theorem dX6_add_16 : decode cX6_add 16 = .ok (.aload_n 0, 1) := by decide +kernel
theorem dX6_add_17 : decode cX6_add 17 = .ok (.getfield 15, 3) := by decide +kernel
theorem dX6_add_20 : decode cX6_add 20 = .ok (.iload_n 1, 1) := by decide +kernel
theorem dX6_add_21 : decode cX6_add 21 = .ok (.iastore, 1) := by decide +kernel
theorem dX6_add_22 : decode cX6_add 22 = .ok (.aload_n 0, 1) := by decide +kernel
theorem dX6_add_23 : decode cX6_add 23 = .ok (.dup, 1) := by decide +kernel
theorem dX6_add_24 : decode cX6_add 24 = .ok (.getfield 15, 3) := by decide +kernel
theorem dX6_add_27 : decode cX6_add 27 = .ok (.iconst 1, 1) := by decide +kernel
theorem dX6_add_28 : decode cX6_add 28 = .ok (.iadd, 1) := by decide +kernel
theorem dX6_add_29 : decode cX6_add 29 = .ok (.putfield 15, 3) := by decide +kernel
theorem dX6_add_32 : decode cX6_add 32 = .ok (.aload_n 0, 1) := by decide +kernel
theorem dX6_add_33 : decode cX6_add 33 = .ok (.getfield 15, 3) := by decide +kernel
theorem dX6_add_36 : decode cX6_add 36 = .ok (.ireturn, 1) := by decide +kernel
theorem dX6_readInto_0 : decode cX6_readInto 0 = .ok (.aload_n 0, 1) := by decide +kernel
theorem dX6_readInto_1 : decode cX6_readInto 1 = .ok (.iconst 0, 1) := by decide +kernel
theorem dX6_readInto_2 : decode cX6_readInto 2 = .ok (.putfield 20, 3) := by decide +kernel
theorem dX6_readInto_5 : decode cX6_readInto 5 = .ok (.aload_n 0, 1) := by decide +kernel
theorem dX6_readInto_6 : decode cX6_readInto 6 = .ok (.iconst 0, 1) := by decide +kernel
theorem dX6_readInto_7 : decode cX6_readInto 7 = .ok (.putfield 23, 3) := by decide +kernel
theorem dX6_readInto_10 : decode cX6_readInto 10 = .ok (.aload_n 1, 1) := by decide +kernel
theorem dX6_readInto_11 : decode cX6_readInto 11 = .ok (.invokevirtual 26, 3) := by decide +kernel
theorem dX6_readInto_14 : decode cX6_readInto 14 = .ok (.aload_n 0, 1) := by decide +kernel
theorem dX6_readInto_15 : decode cX6_readInto 15 = .ok (.aload_n 1, 1) := by decide +kernel
theorem dX6_readInto_16 : decode cX6_readInto 16 = .ok (.invokevirtual 31, 3) := by decide +kernel
theorem dX6_readInto_19 : decode cX6_readInto 19 = .ok (.aload_n 0, 1) := by decide +kernel
theorem dX6_readInto_20 : decode cX6_readInto 20 = .ok (.aload_n 1, 1) := by decide +kernel
theorem dX6_readInto_21 : decode cX6_readInto 21 = .ok (.invokevirtual 35, 3) := by decide +kernel
theorem dX6_readInto_24 : decode cX6_readInto 24 = .ok (.iconst 0, 1) := by decide +kernel
theorem dX6_readInto_25 : decode cX6_readInto 25 = .ok (.istore_n 2, 1) := by decide +kernel
theorem dX6_readInto_26 : decode cX6_readInto 26 = .ok (.iload_n 2, 1) := by decide +kernel
theorem dX6_readInto_27 : decode cX6_readInto 27 = .ok (.iconst 5, 1) := by decide +kernel
theorem dX6_readInto_28 : decode cX6_readInto 28 = .ok (.if_icmp .ge 32, 3) := by decide +kernel
theorem dX6_readInto_31 : decode cX6_readInto 31 = .ok (.aload_n 0, 1) := by decide +kernel
theorem dX6_readInto_32 : decode cX6_readInto 32 = .ok (.getfield 23, 3) := by decide +kernel
theorem dX6_readInto_35 : decode cX6_readInto 35 = .ok (.ifCond .ne 25, 3) := by decide +kernel
theorem dX6_readInto_38 : decode cX6_readInto 38 = .ok (.aload_n 0, 1) := by decide +kernel
theorem dX6_readInto_39 : decode cX6_readInto 39 = .ok (.getfield 20, 3) := by decide +kernel
theorem dX6_readInto_42 : decode cX6_readInto 42 = .ok (.aload_n 0, 1) := by decide +kernel
theorem dX6_readInto_43 : decode cX6_readInto 43 = .ok (.getfield 15, 3) := by decide +kernel
theorem dX6_readInto_46 : decode cX6_readInto 46 = .ok (.if_icmp .ge 14, 3) := by decide +kernel
theorem dX6_readInto_49 : decode cX6_readInto 49 = .ok (.aload_n 0, 1) := by decide +kernel
theorem dX6_readInto_50 : decode cX6_readInto 50 = .ok (.aload_n 1, 1) := by decide +kernel
theorem dX6_readInto_51 : decode cX6_readInto 51 = .ok (.invokevirtual 35, 3) := by decide +kernel
theorem dX6_readInto_54 : decode cX6_readInto 54 = .ok (.iinc 2 1, 3) := by decide +kernel
theorem dX6_readInto_57 : decode cX6_readInto 57 = .ok (.goto (-31), 3) := by decide +kernel
theorem dX6_readInto_60 : decode cX6_readInto 60 = .ok (.aload_n 0, 1) := by decide +kernel
theorem dX6_readInto_61 : decode cX6_readInto 61 = .ok (.iconst 0, 1) := by decide +kernel
theorem dX6_readInto_62 : decode cX6_readInto 62 = .ok (.putfield 15, 3) := by decide +kernel
theorem dX6_readInto_65 : decode cX6_readInto 65 = .ok (.aload_n 0, 1) := by decide +kernel
theorem dX6_readInto_66 : decode cX6_readInto 66 = .ok (.getfield 23, 3) := by decide +kernel
theorem dX6_readInto_69 : decode cX6_readInto 69 = .ok (.ireturn, 1) := by decide +kernel
theorem dX6_readLaw_0 : decode cX6_readLaw 0 = .ok (.aload_n 0, 1) := by decide +kernel
theorem dX6_readLaw_1 : decode cX6_readLaw 1 = .ok (.bipush 119, 2) := by decide +kernel
theorem dX6_readLaw_3 : decode cX6_readLaw 3 = .ok (.invokevirtual 38, 3) := by decide +kernel
theorem dX6_readLaw_6 : decode cX6_readLaw 6 = .ok (.iconst 0, 1) := by decide +kernel
theorem dX6_readLaw_7 : decode cX6_readLaw 7 = .ok (.istore_n 2, 1) := by decide +kernel
theorem dX6_readLaw_8 : decode cX6_readLaw 8 = .ok (.iload_n 2, 1) := by decide +kernel
theorem dX6_readLaw_9 : decode cX6_readLaw 9 = .ok (.iconst 4, 1) := by decide +kernel
theorem dX6_readLaw_10 : decode cX6_readLaw 10 = .ok (.if_icmp .ge 26, 3) := by decide +kernel
theorem dX6_readLaw_13 : decode cX6_readLaw 13 = .ok (.aload_n 1, 1) := by decide +kernel
theorem dX6_readLaw_14 : decode cX6_readLaw 14 = .ok (.getfield 42, 3) := by decide +kernel
theorem dX6_readLaw_17 : decode cX6_readLaw 17 = .ok (.iload_n 2, 1) := by decide +kernel
theorem dX6_readLaw_18 : decode cX6_readLaw 18 = .ok (.aload_n 0, 1) := by decide +kernel
theorem dX6_readLaw_19 : decode cX6_readLaw 19 = .ok (.iconst 4, 1) := by decide +kernel
theorem dX6_readLaw_20 : decode cX6_readLaw 20 = .ok (.invokevirtual 45, 3) := by decide +kernel
theorem dX6_readLaw_23 : decode cX6_readLaw 23 = .ok (.iastore, 1) := by decide +kernel
theorem dX6_readLaw_24 : decode cX6_readLaw 24 = .ok (.aload_n 0, 1) := by decide +kernel
theorem dX6_readLaw_25 : decode cX6_readLaw 25 = .ok (.bipush 44, 2) := by decide +kernel
theorem dX6_readLaw_27 : decode cX6_readLaw 27 = .ok (.invokevirtual 38, 3) := by decide +kernel
theorem dX6_readLaw_30 : decode cX6_readLaw 30 = .ok (.iinc 2 1, 3) := by decide +kernel
theorem dX6_readLaw_33 : decode cX6_readLaw 33 = .ok (.goto (-25), 3) := by decide +kernel
theorem dX6_readLaw_36 : decode cX6_readLaw 36 = .ok (.aload_n 1, 1) := by decide +kernel
theorem dX6_readLaw_37 : decode cX6_readLaw 37 = .ok (.aload_n 0, 1) := by decide +kernel
theorem dX6_readLaw_38 : decode cX6_readLaw 38 = .ok (.iconst 3, 1) := by decide +kernel
theorem dX6_readLaw_39 : decode cX6_readLaw 39 = .ok (.invokevirtual 45, 3) := by decide +kernel
theorem dX6_readLaw_42 : decode cX6_readLaw 42 = .ok (.putfield 49, 3) := by decide +kernel
theorem dX6_readLaw_45 : decode cX6_readLaw 45 = .ok (.aload_n 0, 1) := by decide +kernel
theorem dX6_readLaw_46 : decode cX6_readLaw 46 = .ok (.bipush 59, 2) := by decide +kernel
theorem dX6_readLaw_48 : decode cX6_readLaw 48 = .ok (.invokevirtual 38, 3) := by decide +kernel
theorem dX6_readLaw_51 : decode cX6_readLaw 51 = .ok (.return_, 1) := by decide +kernel
theorem dX6_readOffice_0 : decode cX6_readOffice 0 = .ok (.aload_n 0, 1) := by decide +kernel
theorem dX6_readOffice_1 : decode cX6_readOffice 1 = .ok (.aload_n 1, 1) := by decide +kernel
theorem dX6_readOffice_2 : decode cX6_readOffice 2 = .ok (.getfield 52, 3) := by decide +kernel
theorem dX6_readOffice_5 : decode cX6_readOffice 5 = .ok (.invokevirtual 55, 3) := by decide +kernel
theorem dX6_readOffice_8 : decode cX6_readOffice 8 = .ok (.istore_n 2, 1) := by decide +kernel
theorem dX6_readOffice_9 : decode cX6_readOffice 9 = .ok (.aload_n 0, 1) := by decide +kernel
theorem dX6_readOffice_10 : decode cX6_readOffice 10 = .ok (.bipush 9, 2) := by decide +kernel
theorem dX6_readOffice_12 : decode cX6_readOffice 12 = .ok (.invokevirtual 45, 3) := by decide +kernel
theorem dX6_readOffice_15 : decode cX6_readOffice 15 = .ok (.istore_n 3, 1) := by decide +kernel
theorem dX6_readOffice_16 : decode cX6_readOffice 16 = .ok (.aload_n 0, 1) := by decide +kernel
theorem dX6_readOffice_17 : decode cX6_readOffice 17 = .ok (.bipush 44, 2) := by decide +kernel
theorem dX6_readOffice_19 : decode cX6_readOffice 19 = .ok (.invokevirtual 38, 3) := by decide +kernel
theorem dX6_readOffice_22 : decode cX6_readOffice 22 = .ok (.aload_n 0, 1) := by decide +kernel
theorem dX6_readOffice_23 : decode cX6_readOffice 23 = .ok (.bipush 20, 2) := by decide +kernel
theorem dX6_readOffice_25 : decode cX6_readOffice 25 = .ok (.invokevirtual 45, 3) := by decide +kernel
theorem dX6_readOffice_28 : decode cX6_readOffice 28 = .ok (.istore 4, 2) := by decide +kernel
theorem dX6_readOffice_30 : decode cX6_readOffice 30 = .ok (.aload_n 0, 1) := by decide +kernel
theorem dX6_readOffice_31 : decode cX6_readOffice 31 = .ok (.bipush 44, 2) := by decide +kernel
theorem dX6_readOffice_33 : decode cX6_readOffice 33 = .ok (.invokevirtual 38, 3) := by decide +kernel
theorem dX6_readOffice_36 : decode cX6_readOffice 36 = .ok (.aload_n 0, 1) := by decide +kernel
theorem dX6_readOffice_37 : decode cX6_readOffice 37 = .ok (.bipush 60, 2) := by decide +kernel
theorem dX6_readOffice_39 : decode cX6_readOffice 39 = .ok (.invokevirtual 45, 3) := by decide +kernel
theorem dX6_readOffice_42 : decode cX6_readOffice 42 = .ok (.istore 5, 2) := by decide +kernel
theorem dX6_readOffice_44 : decode cX6_readOffice 44 = .ok (.aload_n 0, 1) := by decide +kernel
theorem dX6_readOffice_45 : decode cX6_readOffice 45 = .ok (.bipush 59, 2) := by decide +kernel
theorem dX6_readOffice_47 : decode cX6_readOffice 47 = .ok (.invokevirtual 38, 3) := by decide +kernel
theorem dX6_readOffice_50 : decode cX6_readOffice 50 = .ok (.aload_n 0, 1) := by decide +kernel
theorem dX6_readOffice_51 : decode cX6_readOffice 51 = .ok (.getfield 23, 3) := by decide +kernel
theorem dX6_readOffice_54 : decode cX6_readOffice 54 = .ok (.ifCond .ne 13, 3) := by decide +kernel
theorem dX6_readOffice_57 : decode cX6_readOffice 57 = .ok (.aload_n 1, 1) := by decide +kernel
theorem dX6_readOffice_58 : decode cX6_readOffice 58 = .ok (.iload_n 2, 1) := by decide +kernel
theorem dX6_readOffice_59 : decode cX6_readOffice 59 = .ok (.iload_n 3, 1) := by decide +kernel
theorem dX6_readOffice_60 : decode cX6_readOffice 60 = .ok (.iload 4, 2) := by decide +kernel
theorem dX6_readOffice_62 : decode cX6_readOffice 62 = .ok (.iload 5, 2) := by decide +kernel
theorem dX6_readOffice_64 : decode cX6_readOffice 64 = .ok (.invokevirtual 58, 3) := by decide +kernel
theorem dX6_readOffice_67 : decode cX6_readOffice 67 = .ok (.return_, 1) := by decide +kernel
theorem dX6_takeSort_0 : decode cX6_takeSort 0 = .ok (.aload_n 0, 1) := by decide +kernel
theorem dX6_takeSort_1 : decode cX6_takeSort 1 = .ok (.getfield 23, 3) := by decide +kernel
theorem dX6_takeSort_4 : decode cX6_takeSort 4 = .ok (.ifCond .eq 5, 3) := by decide +kernel
theorem dX6_takeSort_7 : decode cX6_takeSort 7 = .ok (.iconst 0, 1) := by decide +kernel
theorem dX6_takeSort_8 : decode cX6_takeSort 8 = .ok (.ireturn, 1) := by decide +kernel
theorem dX6_takeSort_9 : decode cX6_takeSort 9 = .ok (.aload_n 0, 1) := by decide +kernel
theorem dX6_takeSort_10 : decode cX6_takeSort 10 = .ok (.getfield 20, 3) := by decide +kernel
theorem dX6_takeSort_13 : decode cX6_takeSort 13 = .ok (.aload_n 0, 1) := by decide +kernel
theorem dX6_takeSort_14 : decode cX6_takeSort 14 = .ok (.getfield 15, 3) := by decide +kernel
theorem dX6_takeSort_17 : decode cX6_takeSort 17 = .ok (.if_icmp .ge 18, 3) := by decide +kernel
theorem dX6_takeSort_20 : decode cX6_takeSort 20 = .ok (.aload_n 0, 1) := by decide +kernel
theorem dX6_takeSort_21 : decode cX6_takeSort 21 = .ok (.getfield 11, 3) := by decide +kernel
theorem dX6_takeSort_24 : decode cX6_takeSort 24 = .ok (.aload_n 0, 1) := by decide +kernel
theorem dX6_takeSort_25 : decode cX6_takeSort 25 = .ok (.getfield 20, 3) := by decide +kernel
theorem dX6_takeSort_28 : decode cX6_takeSort 28 = .ok (.iaload, 1) := by decide +kernel
theorem dX6_takeSort_29 : decode cX6_takeSort 29 = .ok (.invokestatic 64, 3) := by decide +kernel
theorem dX6_takeSort_32 : decode cX6_takeSort 32 = .ok (.goto 4, 3) := by decide +kernel
theorem dX6_takeSort_35 : decode cX6_takeSort 35 = .ok (.iconst 0, 1) := by decide +kernel
theorem dX6_takeSort_36 : decode cX6_takeSort 36 = .ok (.istore_n 2, 1) := by decide +kernel
theorem dX6_takeSort_37 : decode cX6_takeSort 37 = .ok (.iload_n 2, 1) := by decide +kernel
theorem dX6_takeSort_38 : decode cX6_takeSort 38 = .ok (.ifCond .ne 11, 3) := by decide +kernel
theorem dX6_takeSort_41 : decode cX6_takeSort 41 = .ok (.aload_n 0, 1) := by decide +kernel
theorem dX6_takeSort_42 : decode cX6_takeSort 42 = .ok (.iconst 1, 1) := by decide +kernel
theorem dX6_takeSort_43 : decode cX6_takeSort 43 = .ok (.putfield 23, 3) := by decide +kernel
theorem dX6_takeSort_46 : decode cX6_takeSort 46 = .ok (.goto 26, 3) := by decide +kernel
theorem dX6_takeSort_49 : decode cX6_takeSort 49 = .ok (.iload_n 1, 1) := by decide +kernel
theorem dX6_takeSort_50 : decode cX6_takeSort 50 = .ok (.iconst 5, 1) := by decide +kernel
theorem dX6_takeSort_51 : decode cX6_takeSort 51 = .ok (.if_icmp .lt 11, 3) := by decide +kernel
theorem dX6_takeSort_54 : decode cX6_takeSort 54 = .ok (.aload_n 0, 1) := by decide +kernel
theorem dX6_takeSort_55 : decode cX6_takeSort 55 = .ok (.iconst 3, 1) := by decide +kernel
theorem dX6_takeSort_56 : decode cX6_takeSort 56 = .ok (.putfield 23, 3) := by decide +kernel
theorem dX6_takeSort_59 : decode cX6_takeSort 59 = .ok (.goto 13, 3) := by decide +kernel
theorem dX6_takeSort_62 : decode cX6_takeSort 62 = .ok (.aload_n 0, 1) := by decide +kernel
theorem dX6_takeSort_63 : decode cX6_takeSort 63 = .ok (.dup, 1) := by decide +kernel
theorem dX6_takeSort_64 : decode cX6_takeSort 64 = .ok (.getfield 20, 3) := by decide +kernel
theorem dX6_takeSort_67 : decode cX6_takeSort 67 = .ok (.iconst 1, 1) := by decide +kernel
theorem dX6_takeSort_68 : decode cX6_takeSort 68 = .ok (.iadd, 1) := by decide +kernel
theorem dX6_takeSort_69 : decode cX6_takeSort 69 = .ok (.putfield 20, 3) := by decide +kernel
theorem dX6_takeSort_72 : decode cX6_takeSort 72 = .ok (.iload_n 2, 1) := by decide +kernel
theorem dX6_takeSort_73 : decode cX6_takeSort 73 = .ok (.ireturn, 1) := by decide +kernel
theorem dX6_takeByte_0 : decode cX6_takeByte 0 = .ok (.aload_n 0, 1) := by decide +kernel
theorem dX6_takeByte_1 : decode cX6_takeByte 1 = .ok (.getfield 23, 3) := by decide +kernel
theorem dX6_takeByte_4 : decode cX6_takeByte 4 = .ok (.ifCond .eq 4, 3) := by decide +kernel
theorem dX6_takeByte_7 : decode cX6_takeByte 7 = .ok (.return_, 1) := by decide +kernel
theorem dX6_takeByte_8 : decode cX6_takeByte 8 = .ok (.aload_n 0, 1) := by decide +kernel
theorem dX6_takeByte_9 : decode cX6_takeByte 9 = .ok (.getfield 20, 3) := by decide +kernel
theorem dX6_takeByte_12 : decode cX6_takeByte 12 = .ok (.aload_n 0, 1) := by decide +kernel
theorem dX6_takeByte_13 : decode cX6_takeByte 13 = .ok (.getfield 15, 3) := by decide +kernel
theorem dX6_takeByte_16 : decode cX6_takeByte 16 = .ok (.if_icmp .ge 29, 3) := by decide +kernel
theorem dX6_takeByte_19 : decode cX6_takeByte 19 = .ok (.aload_n 0, 1) := by decide +kernel
theorem dX6_takeByte_20 : decode cX6_takeByte 20 = .ok (.getfield 11, 3) := by decide +kernel
theorem dX6_takeByte_23 : decode cX6_takeByte 23 = .ok (.aload_n 0, 1) := by decide +kernel
theorem dX6_takeByte_24 : decode cX6_takeByte 24 = .ok (.getfield 20, 3) := by decide +kernel
theorem dX6_takeByte_27 : decode cX6_takeByte 27 = .ok (.iaload, 1) := by decide +kernel
theorem dX6_takeByte_28 : decode cX6_takeByte 28 = .ok (.iload_n 1, 1) := by decide +kernel
theorem dX6_takeByte_29 : decode cX6_takeByte 29 = .ok (.if_icmp .ne 16, 3) := by decide +kernel
theorem dX6_takeByte_32 : decode cX6_takeByte 32 = .ok (.aload_n 0, 1) := by decide +kernel
theorem dX6_takeByte_33 : decode cX6_takeByte 33 = .ok (.dup, 1) := by decide +kernel
theorem dX6_takeByte_34 : decode cX6_takeByte 34 = .ok (.getfield 20, 3) := by decide +kernel
theorem dX6_takeByte_37 : decode cX6_takeByte 37 = .ok (.iconst 1, 1) := by decide +kernel
theorem dX6_takeByte_38 : decode cX6_takeByte 38 = .ok (.iadd, 1) := by decide +kernel
theorem dX6_takeByte_39 : decode cX6_takeByte 39 = .ok (.putfield 20, 3) := by decide +kernel
theorem dX6_takeByte_42 : decode cX6_takeByte 42 = .ok (.goto 8, 3) := by decide +kernel
theorem dX6_takeByte_45 : decode cX6_takeByte 45 = .ok (.aload_n 0, 1) := by decide +kernel
theorem dX6_takeByte_46 : decode cX6_takeByte 46 = .ok (.iconst 1, 1) := by decide +kernel
theorem dX6_takeByte_47 : decode cX6_takeByte 47 = .ok (.putfield 23, 3) := by decide +kernel
theorem dX6_takeByte_50 : decode cX6_takeByte 50 = .ok (.return_, 1) := by decide +kernel
theorem dX6_takeNumber_0 : decode cX6_takeNumber 0 = .ok (.aload_n 0, 1) := by decide +kernel
theorem dX6_takeNumber_1 : decode cX6_takeNumber 1 = .ok (.getfield 23, 3) := by decide +kernel
theorem dX6_takeNumber_4 : decode cX6_takeNumber 4 = .ok (.ifCond .eq 5, 3) := by decide +kernel
theorem dX6_takeNumber_7 : decode cX6_takeNumber 7 = .ok (.iconst 0, 1) := by decide +kernel
theorem dX6_takeNumber_8 : decode cX6_takeNumber 8 = .ok (.ireturn, 1) := by decide +kernel
theorem dX6_takeNumber_9 : decode cX6_takeNumber 9 = .ok (.aload_n 0, 1) := by decide +kernel
theorem dX6_takeNumber_10 : decode cX6_takeNumber 10 = .ok (.invokevirtual 67, 3) := by decide +kernel
theorem dX6_takeNumber_13 : decode cX6_takeNumber 13 = .ok (.istore_n 2, 1) := by decide +kernel
theorem dX6_takeNumber_14 : decode cX6_takeNumber 14 = .ok (.iload_n 2, 1) := by decide +kernel
theorem dX6_takeNumber_15 : decode cX6_takeNumber 15 = .ok (.ifCond .eq 8, 3) := by decide +kernel
theorem dX6_takeNumber_18 : decode cX6_takeNumber 18 = .ok (.iload_n 2, 1) := by decide +kernel
theorem dX6_takeNumber_19 : decode cX6_takeNumber 19 = .ok (.iconst 2, 1) := by decide +kernel
theorem dX6_takeNumber_20 : decode cX6_takeNumber 20 = .ok (.if_icmp .le 10, 3) := by decide +kernel
theorem dX6_takeNumber_23 : decode cX6_takeNumber 23 = .ok (.aload_n 0, 1) := by decide +kernel
theorem dX6_takeNumber_24 : decode cX6_takeNumber 24 = .ok (.iconst 1, 1) := by decide +kernel
theorem dX6_takeNumber_25 : decode cX6_takeNumber 25 = .ok (.putfield 23, 3) := by decide +kernel
theorem dX6_takeNumber_28 : decode cX6_takeNumber 28 = .ok (.iconst 0, 1) := by decide +kernel
theorem dX6_takeNumber_29 : decode cX6_takeNumber 29 = .ok (.ireturn, 1) := by decide +kernel
theorem dX6_takeNumber_30 : decode cX6_takeNumber 30 = .ok (.iconst 0, 1) := by decide +kernel
theorem dX6_takeNumber_31 : decode cX6_takeNumber 31 = .ok (.istore_n 3, 1) := by decide +kernel
theorem dX6_takeNumber_32 : decode cX6_takeNumber 32 = .ok (.aload_n 0, 1) := by decide +kernel
theorem dX6_takeNumber_33 : decode cX6_takeNumber 33 = .ok (.getfield 20, 3) := by decide +kernel
theorem dX6_takeNumber_36 : decode cX6_takeNumber 36 = .ok (.istore 4, 2) := by decide +kernel
theorem dX6_takeNumber_38 : decode cX6_takeNumber 38 = .ok (.iload 4, 2) := by decide +kernel
theorem dX6_takeNumber_40 : decode cX6_takeNumber 40 = .ok (.aload_n 0, 1) := by decide +kernel
theorem dX6_takeNumber_41 : decode cX6_takeNumber 41 = .ok (.getfield 20, 3) := by decide +kernel
theorem dX6_takeNumber_44 : decode cX6_takeNumber 44 = .ok (.iload_n 2, 1) := by decide +kernel
theorem dX6_takeNumber_45 : decode cX6_takeNumber 45 = .ok (.iadd, 1) := by decide +kernel
theorem dX6_takeNumber_46 : decode cX6_takeNumber 46 = .ok (.if_icmp .ge 25, 3) := by decide +kernel
theorem dX6_takeNumber_49 : decode cX6_takeNumber 49 = .ok (.iload_n 3, 1) := by decide +kernel
theorem dX6_takeNumber_50 : decode cX6_takeNumber 50 = .ok (.bipush 10, 2) := by decide +kernel
theorem dX6_takeNumber_52 : decode cX6_takeNumber 52 = .ok (.imul, 1) := by decide +kernel
theorem dX6_takeNumber_53 : decode cX6_takeNumber 53 = .ok (.aload_n 0, 1) := by decide +kernel
theorem dX6_takeNumber_54 : decode cX6_takeNumber 54 = .ok (.getfield 11, 3) := by decide +kernel
theorem dX6_takeNumber_57 : decode cX6_takeNumber 57 = .ok (.iload 4, 2) := by decide +kernel
theorem dX6_takeNumber_59 : decode cX6_takeNumber 59 = .ok (.iaload, 1) := by decide +kernel
theorem dX6_takeNumber_60 : decode cX6_takeNumber 60 = .ok (.iadd, 1) := by decide +kernel
theorem dX6_takeNumber_61 : decode cX6_takeNumber 61 = .ok (.bipush 48, 2) := by decide +kernel
theorem dX6_takeNumber_63 : decode cX6_takeNumber 63 = .ok (.isub, 1) := by decide +kernel
theorem dX6_takeNumber_64 : decode cX6_takeNumber 64 = .ok (.istore_n 3, 1) := by decide +kernel
theorem dX6_takeNumber_65 : decode cX6_takeNumber 65 = .ok (.iinc 4 1, 3) := by decide +kernel
theorem dX6_takeNumber_68 : decode cX6_takeNumber 68 = .ok (.goto (-30), 3) := by decide +kernel
theorem dX6_takeNumber_71 : decode cX6_takeNumber 71 = .ok (.iload_n 3, 1) := by decide +kernel
theorem dX6_takeNumber_72 : decode cX6_takeNumber 72 = .ok (.iload_n 1, 1) := by decide +kernel
theorem dX6_takeNumber_73 : decode cX6_takeNumber 73 = .ok (.if_icmp .le 10, 3) := by decide +kernel
theorem dX6_takeNumber_76 : decode cX6_takeNumber 76 = .ok (.aload_n 0, 1) := by decide +kernel
theorem dX6_takeNumber_77 : decode cX6_takeNumber 77 = .ok (.iconst 2, 1) := by decide +kernel
theorem dX6_takeNumber_78 : decode cX6_takeNumber 78 = .ok (.putfield 23, 3) := by decide +kernel
theorem dX6_takeNumber_81 : decode cX6_takeNumber 81 = .ok (.iconst 0, 1) := by decide +kernel
theorem dX6_takeNumber_82 : decode cX6_takeNumber 82 = .ok (.ireturn, 1) := by decide +kernel
theorem dX6_takeNumber_83 : decode cX6_takeNumber 83 = .ok (.aload_n 0, 1) := by decide +kernel
theorem dX6_takeNumber_84 : decode cX6_takeNumber 84 = .ok (.dup, 1) := by decide +kernel
theorem dX6_takeNumber_85 : decode cX6_takeNumber 85 = .ok (.getfield 20, 3) := by decide +kernel
theorem dX6_takeNumber_88 : decode cX6_takeNumber 88 = .ok (.iload_n 2, 1) := by decide +kernel
theorem dX6_takeNumber_89 : decode cX6_takeNumber 89 = .ok (.iadd, 1) := by decide +kernel
theorem dX6_takeNumber_90 : decode cX6_takeNumber 90 = .ok (.putfield 20, 3) := by decide +kernel
theorem dX6_takeNumber_93 : decode cX6_takeNumber 93 = .ok (.iload_n 3, 1) := by decide +kernel
theorem dX6_takeNumber_94 : decode cX6_takeNumber 94 = .ok (.ireturn, 1) := by decide +kernel
theorem dX6_figuresHere_0 : decode cX6_figuresHere 0 = .ok (.iconst 0, 1) := by decide +kernel
theorem dX6_figuresHere_1 : decode cX6_figuresHere 1 = .ok (.istore_n 1, 1) := by decide +kernel
theorem dX6_figuresHere_2 : decode cX6_figuresHere 2 = .ok (.iload_n 1, 1) := by decide +kernel
theorem dX6_figuresHere_3 : decode cX6_figuresHere 3 = .ok (.iconst 3, 1) := by decide +kernel
theorem dX6_figuresHere_4 : decode cX6_figuresHere 4 = .ok (.if_icmp .ge 39, 3) := by decide +kernel
theorem dX6_figuresHere_7 : decode cX6_figuresHere 7 = .ok (.aload_n 0, 1) := by decide +kernel
theorem dX6_figuresHere_8 : decode cX6_figuresHere 8 = .ok (.getfield 20, 3) := by decide +kernel
theorem dX6_figuresHere_11 : decode cX6_figuresHere 11 = .ok (.iload_n 1, 1) := by decide +kernel
theorem dX6_figuresHere_12 : decode cX6_figuresHere 12 = .ok (.iadd, 1) := by decide +kernel
theorem dX6_figuresHere_13 : decode cX6_figuresHere 13 = .ok (.aload_n 0, 1) := by decide +kernel
theorem dX6_figuresHere_14 : decode cX6_figuresHere 14 = .ok (.getfield 15, 3) := by decide +kernel
theorem dX6_figuresHere_17 : decode cX6_figuresHere 17 = .ok (.if_icmp .ge 26, 3) := by decide +kernel
theorem dX6_figuresHere_20 : decode cX6_figuresHere 20 = .ok (.aload_n 0, 1) := by decide +kernel
theorem dX6_figuresHere_21 : decode cX6_figuresHere 21 = .ok (.getfield 11, 3) := by decide +kernel
theorem dX6_figuresHere_24 : decode cX6_figuresHere 24 = .ok (.aload_n 0, 1) := by decide +kernel
theorem dX6_figuresHere_25 : decode cX6_figuresHere 25 = .ok (.getfield 20, 3) := by decide +kernel
theorem dX6_figuresHere_28 : decode cX6_figuresHere 28 = .ok (.iload_n 1, 1) := by decide +kernel
theorem dX6_figuresHere_29 : decode cX6_figuresHere 29 = .ok (.iadd, 1) := by decide +kernel
theorem dX6_figuresHere_30 : decode cX6_figuresHere 30 = .ok (.iaload, 1) := by decide +kernel
theorem dX6_figuresHere_31 : decode cX6_figuresHere 31 = .ok (.invokestatic 71, 3) := by decide +kernel
theorem dX6_figuresHere_34 : decode cX6_figuresHere 34 = .ok (.ifCond .eq 9, 3) := by decide +kernel
theorem dX6_figuresHere_37 : decode cX6_figuresHere 37 = .ok (.iinc 1 1, 3) := by decide +kernel
theorem dX6_figuresHere_40 : decode cX6_figuresHere 40 = .ok (.goto (-38), 3) := by decide +kernel
theorem dX6_figuresHere_43 : decode cX6_figuresHere 43 = .ok (.iload_n 1, 1) := by decide +kernel
theorem dX6_figuresHere_44 : decode cX6_figuresHere 44 = .ok (.ireturn, 1) := by decide +kernel
theorem dX6_isFigure_0 : decode cX6_isFigure 0 = .ok (.iload_n 0, 1) := by decide +kernel
theorem dX6_isFigure_1 : decode cX6_isFigure 1 = .ok (.bipush 48, 2) := by decide +kernel
theorem dX6_isFigure_3 : decode cX6_isFigure 3 = .ok (.if_icmp .lt 13, 3) := by decide +kernel
theorem dX6_isFigure_6 : decode cX6_isFigure 6 = .ok (.iload_n 0, 1) := by decide +kernel
theorem dX6_isFigure_7 : decode cX6_isFigure 7 = .ok (.bipush 57, 2) := by decide +kernel
theorem dX6_isFigure_9 : decode cX6_isFigure 9 = .ok (.if_icmp .gt 7, 3) := by decide +kernel
theorem dX6_isFigure_12 : decode cX6_isFigure 12 = .ok (.iconst 1, 1) := by decide +kernel
theorem dX6_isFigure_13 : decode cX6_isFigure 13 = .ok (.goto 4, 3) := by decide +kernel
theorem dX6_isFigure_16 : decode cX6_isFigure 16 = .ok (.iconst 0, 1) := by decide +kernel
theorem dX6_isFigure_17 : decode cX6_isFigure 17 = .ok (.ireturn, 1) := by decide +kernel
theorem dJ6_bitCount_0f7a4_0 : decode cJ6_bitCount_0f7a4 0 = .ok (.iload_n 0, 1) := by decide +kernel
theorem dJ6_bitCount_0f7a4_1 : decode cJ6_bitCount_0f7a4 1 = .ok (.iload_n 0, 1) := by decide +kernel
theorem dJ6_bitCount_0f7a4_2 : decode cJ6_bitCount_0f7a4 2 = .ok (.iconst 1, 1) := by decide +kernel
theorem dJ6_bitCount_0f7a4_3 : decode cJ6_bitCount_0f7a4 3 = .ok (.iushr, 1) := by decide +kernel
theorem dJ6_bitCount_0f7a4_4 : decode cJ6_bitCount_0f7a4 4 = .ok (.ldc_w 265, 3) := by decide +kernel
theorem dJ6_bitCount_0f7a4_7 : decode cJ6_bitCount_0f7a4 7 = .ok (.iand, 1) := by decide +kernel
theorem dJ6_bitCount_0f7a4_8 : decode cJ6_bitCount_0f7a4 8 = .ok (.isub, 1) := by decide +kernel
theorem dJ6_bitCount_0f7a4_9 : decode cJ6_bitCount_0f7a4 9 = .ok (.istore_n 0, 1) := by decide +kernel
theorem dJ6_bitCount_0f7a4_10 : decode cJ6_bitCount_0f7a4 10 = .ok (.iload_n 0, 1) := by decide +kernel
theorem dJ6_bitCount_0f7a4_11 : decode cJ6_bitCount_0f7a4 11 = .ok (.ldc_w 266, 3) := by decide +kernel
theorem dJ6_bitCount_0f7a4_14 : decode cJ6_bitCount_0f7a4 14 = .ok (.iand, 1) := by decide +kernel
theorem dJ6_bitCount_0f7a4_15 : decode cJ6_bitCount_0f7a4 15 = .ok (.iload_n 0, 1) := by decide +kernel
theorem dJ6_bitCount_0f7a4_16 : decode cJ6_bitCount_0f7a4 16 = .ok (.iconst 2, 1) := by decide +kernel
theorem dJ6_bitCount_0f7a4_17 : decode cJ6_bitCount_0f7a4 17 = .ok (.iushr, 1) := by decide +kernel
theorem dJ6_bitCount_0f7a4_18 : decode cJ6_bitCount_0f7a4 18 = .ok (.ldc_w 266, 3) := by decide +kernel
theorem dJ6_bitCount_0f7a4_21 : decode cJ6_bitCount_0f7a4 21 = .ok (.iand, 1) := by decide +kernel
theorem dJ6_bitCount_0f7a4_22 : decode cJ6_bitCount_0f7a4 22 = .ok (.iadd, 1) := by decide +kernel
theorem dJ6_bitCount_0f7a4_23 : decode cJ6_bitCount_0f7a4 23 = .ok (.istore_n 0, 1) := by decide +kernel
theorem dJ6_bitCount_0f7a4_24 : decode cJ6_bitCount_0f7a4 24 = .ok (.iload_n 0, 1) := by decide +kernel
theorem dJ6_bitCount_0f7a4_25 : decode cJ6_bitCount_0f7a4 25 = .ok (.iload_n 0, 1) := by decide +kernel
theorem dJ6_bitCount_0f7a4_26 : decode cJ6_bitCount_0f7a4 26 = .ok (.iconst 4, 1) := by decide +kernel
theorem dJ6_bitCount_0f7a4_27 : decode cJ6_bitCount_0f7a4 27 = .ok (.iushr, 1) := by decide +kernel
theorem dJ6_bitCount_0f7a4_28 : decode cJ6_bitCount_0f7a4 28 = .ok (.iadd, 1) := by decide +kernel
theorem dJ6_bitCount_0f7a4_29 : decode cJ6_bitCount_0f7a4 29 = .ok (.ldc_w 267, 3) := by decide +kernel
theorem dJ6_bitCount_0f7a4_32 : decode cJ6_bitCount_0f7a4 32 = .ok (.iand, 1) := by decide +kernel
theorem dJ6_bitCount_0f7a4_33 : decode cJ6_bitCount_0f7a4 33 = .ok (.istore_n 0, 1) := by decide +kernel
theorem dJ6_bitCount_0f7a4_34 : decode cJ6_bitCount_0f7a4 34 = .ok (.iload_n 0, 1) := by decide +kernel
theorem dJ6_bitCount_0f7a4_35 : decode cJ6_bitCount_0f7a4 35 = .ok (.iload_n 0, 1) := by decide +kernel
theorem dJ6_bitCount_0f7a4_36 : decode cJ6_bitCount_0f7a4 36 = .ok (.bipush 8, 2) := by decide +kernel
theorem dJ6_bitCount_0f7a4_38 : decode cJ6_bitCount_0f7a4 38 = .ok (.iushr, 1) := by decide +kernel
theorem dJ6_bitCount_0f7a4_39 : decode cJ6_bitCount_0f7a4 39 = .ok (.iadd, 1) := by decide +kernel
theorem dJ6_bitCount_0f7a4_40 : decode cJ6_bitCount_0f7a4 40 = .ok (.istore_n 0, 1) := by decide +kernel
theorem dJ6_bitCount_0f7a4_41 : decode cJ6_bitCount_0f7a4 41 = .ok (.iload_n 0, 1) := by decide +kernel
theorem dJ6_bitCount_0f7a4_42 : decode cJ6_bitCount_0f7a4 42 = .ok (.iload_n 0, 1) := by decide +kernel
theorem dJ6_bitCount_0f7a4_43 : decode cJ6_bitCount_0f7a4 43 = .ok (.bipush 16, 2) := by decide +kernel
theorem dJ6_bitCount_0f7a4_45 : decode cJ6_bitCount_0f7a4 45 = .ok (.iushr, 1) := by decide +kernel
theorem dJ6_bitCount_0f7a4_46 : decode cJ6_bitCount_0f7a4 46 = .ok (.iadd, 1) := by decide +kernel
theorem dJ6_bitCount_0f7a4_47 : decode cJ6_bitCount_0f7a4 47 = .ok (.istore_n 0, 1) := by decide +kernel
theorem dJ6_bitCount_0f7a4_48 : decode cJ6_bitCount_0f7a4 48 = .ok (.iload_n 0, 1) := by decide +kernel
theorem dJ6_bitCount_0f7a4_49 : decode cJ6_bitCount_0f7a4 49 = .ok (.bipush 63, 2) := by decide +kernel
theorem dJ6_bitCount_0f7a4_51 : decode cJ6_bitCount_0f7a4 51 = .ok (.iand, 1) := by decide +kernel
theorem dJ6_bitCount_0f7a4_52 : decode cJ6_bitCount_0f7a4 52 = .ok (.ireturn, 1) := by decide +kernel
theorem dJ7_fill_53178_0 : decode cJ7_fill_53178 0 = .ok (.iconst 0, 1) := by decide +kernel
theorem dJ7_fill_53178_1 : decode cJ7_fill_53178 1 = .ok (.istore_n 2, 1) := by decide +kernel
theorem dJ7_fill_53178_2 : decode cJ7_fill_53178 2 = .ok (.aload_n 0, 1) := by decide +kernel
theorem dJ7_fill_53178_3 : decode cJ7_fill_53178 3 = .ok (.arraylength, 1) := by decide +kernel
theorem dJ7_fill_53178_4 : decode cJ7_fill_53178 4 = .ok (.istore_n 3, 1) := by decide +kernel
theorem dJ7_fill_53178_5 : decode cJ7_fill_53178 5 = .ok (.iload_n 2, 1) := by decide +kernel
theorem dJ7_fill_53178_6 : decode cJ7_fill_53178 6 = .ok (.iload_n 3, 1) := by decide +kernel
theorem dJ7_fill_53178_7 : decode cJ7_fill_53178 7 = .ok (.if_icmp .ge 13, 3) := by decide +kernel
theorem dJ7_fill_53178_10 : decode cJ7_fill_53178 10 = .ok (.aload_n 0, 1) := by decide +kernel
theorem dJ7_fill_53178_11 : decode cJ7_fill_53178 11 = .ok (.iload_n 2, 1) := by decide +kernel
theorem dJ7_fill_53178_12 : decode cJ7_fill_53178 12 = .ok (.iload_n 1, 1) := by decide +kernel
theorem dJ7_fill_53178_13 : decode cJ7_fill_53178 13 = .ok (.iastore, 1) := by decide +kernel
theorem dJ7_fill_53178_14 : decode cJ7_fill_53178 14 = .ok (.iinc 2 1, 3) := by decide +kernel
theorem dJ7_fill_53178_17 : decode cJ7_fill_53178 17 = .ok (.goto (-12), 3) := by decide +kernel
theorem dJ7_fill_53178_20 : decode cJ7_fill_53178 20 = .ok (.return_, 1) := by decide +kernel
theorem dJ9_max_7cf53_0 : decode cJ9_max_7cf53 0 = .ok (.iload_n 0, 1) := by decide +kernel
theorem dJ9_max_7cf53_1 : decode cJ9_max_7cf53 1 = .ok (.iload_n 1, 1) := by decide +kernel
theorem dJ9_max_7cf53_2 : decode cJ9_max_7cf53 2 = .ok (.if_icmp .lt 7, 3) := by decide +kernel
theorem dJ9_max_7cf53_5 : decode cJ9_max_7cf53 5 = .ok (.iload_n 0, 1) := by decide +kernel
theorem dJ9_max_7cf53_6 : decode cJ9_max_7cf53 6 = .ok (.goto 4, 3) := by decide +kernel
theorem dJ9_max_7cf53_9 : decode cJ9_max_7cf53 9 = .ok (.iload_n 1, 1) := by decide +kernel
theorem dJ9_max_7cf53_10 : decode cJ9_max_7cf53 10 = .ok (.ireturn, 1) := by decide +kernel
theorem dJ9_min_7cf53_0 : decode cJ9_min_7cf53 0 = .ok (.iload_n 0, 1) := by decide +kernel
theorem dJ9_min_7cf53_1 : decode cJ9_min_7cf53 1 = .ok (.iload_n 1, 1) := by decide +kernel
theorem dJ9_min_7cf53_2 : decode cJ9_min_7cf53 2 = .ok (.if_icmp .gt 7, 3) := by decide +kernel
theorem dJ9_min_7cf53_5 : decode cJ9_min_7cf53 5 = .ok (.iload_n 0, 1) := by decide +kernel
theorem dJ9_min_7cf53_6 : decode cJ9_min_7cf53 6 = .ok (.goto 4, 3) := by decide +kernel
theorem dJ9_min_7cf53_9 : decode cJ9_min_7cf53 9 = .ok (.iload_n 1, 1) := by decide +kernel
theorem dJ9_min_7cf53_10 : decode cJ9_min_7cf53 10 = .ok (.ireturn, 1) := by decide +kernel
