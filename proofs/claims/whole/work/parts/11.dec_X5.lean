theorem dX5_init_0 : decode cX5_init 0 = .ok (.aload_n 0, 1) := by decide +kernel
theorem dX5_init_1 : decode cX5_init 1 = .ok (.invokespecial 1, 3) := by decide +kernel
theorem dX5_init_4 : decode cX5_init 4 = .ok (.aload_n 0, 1) := by decide +kernel
theorem dX5_init_5 : decode cX5_init 5 = .ok (.iconst 4, 1) := by decide +kernel
theorem dX5_init_6 : decode cX5_init 6 = .ok (.newarray .int, 2) := by decide +kernel
theorem dX5_init_8 : decode cX5_init 8 = .ok (.putfield 9, 3) := by decide +kernel
theorem dX5_init_11 : decode cX5_init 11 = .ok (.aload_n 0, 1) := by decide +kernel
theorem dX5_init_12 : decode cX5_init 12 = .ok (.iconst 5, 1) := by decide +kernel
theorem dX5_init_13 : decode cX5_init 13 = .ok (.newarray .int, 2) := by decide +kernel
theorem dX5_init_15 : decode cX5_init 15 = .ok (.putfield 13, 3) := by decide +kernel
theorem dX5_init_18 : decode cX5_init 18 = .ok (.aload_n 0, 1) := by decide +kernel
theorem dX5_init_19 : decode cX5_init 19 = .ok (.iconst 5, 1) := by decide +kernel
theorem dX5_init_20 : decode cX5_init 20 = .ok (.newarray .int, 2) := by decide +kernel
theorem dX5_init_22 : decode cX5_init 22 = .ok (.putfield 16, 3) := by decide +kernel
theorem dX5_init_25 : decode cX5_init 25 = .ok (.aload_n 0, 1) := by decide +kernel
theorem dX5_init_26 : decode cX5_init 26 = .ok (.iconst 5, 1) := by decide +kernel
theorem dX5_init_27 : decode cX5_init 27 = .ok (.newarray .int, 2) := by decide +kernel
theorem dX5_init_29 : decode cX5_init 29 = .ok (.putfield 19, 3) := by decide +kernel
theorem dX5_init_32 : decode cX5_init 32 = .ok (.aload_n 0, 1) := by decide +kernel
theorem dX5_init_33 : decode cX5_init 33 = .ok (.iconst 5, 1) := by decide +kernel
theorem dX5_init_34 : decode cX5_init 34 = .ok (.newarray .int, 2) := by decide +kernel
theorem dX5_init_36 : decode cX5_init 36 = .ok (.putfield 22, 3) := by decide +kernel
theorem dX5_init_39 : decode cX5_init 39 = .ok (.aload_n 0, 1) := by decide +kernel
theorem dX5_init_40 : decode cX5_init 40 = .ok (.iconst 5, 1) := by decide +kernel
theorem dX5_init_41 : decode cX5_init 41 = .ok (.newarray .int, 2) := by decide +kernel
theorem dX5_init_43 : decode cX5_init 43 = .ok (.putfield 25, 3) := by decide +kernel
theorem dX5_init_46 : decode cX5_init 46 = .ok (.return_, 1) := by decide +kernel
theorem dX5_begin_0 : decode cX5_begin 0 = .ok (.aload_n 0, 1) := by decide +kernel
theorem dX5_begin_1 : decode cX5_begin 1 = .ok (.iconst 0, 1) := by decide +kernel
theorem dX5_begin_2 : decode cX5_begin 2 = .ok (.putfield 28, 3) := by decide +kernel
theorem dX5_begin_5 : decode cX5_begin 5 = .ok (.aload_n 0, 1) := by decide +kernel
theorem dX5_begin_6 : decode cX5_begin 6 = .ok (.iconst 0, 1) := by decide +kernel
theorem dX5_begin_7 : decode cX5_begin 7 = .ok (.putfield 32, 3) := by decide +kernel
theorem dX5_begin_10 : decode cX5_begin 10 = .ok (.aload_n 0, 1) := by decide +kernel
theorem dX5_begin_11 : decode cX5_begin 11 = .ok (.iconst 0, 1) := by decide +kernel
theorem dX5_begin_12 : decode cX5_begin 12 = .ok (.putfield 35, 3) := by decide +kernel
theorem dX5_begin_15 : decode cX5_begin 15 = .ok (.return_, 1) := by decide +kernel
theorem dX5_addOffice_0 : decode cX5_addOffice 0 = .ok (.aload_n 0, 1) := by decide +kernel
theorem dX5_addOffice_1 : decode cX5_addOffice 1 = .ok (.getfield 28, 3) := by decide +kernel
theorem dX5_addOffice_4 : decode cX5_addOffice 4 = .ok (.iconst 5, 1) := by decide +kernel
theorem dX5_addOffice_5 : decode cX5_addOffice 5 = .ok (.if_icmp .lt 4, 3) := by decide +kernel
theorem dX5_addOffice_8 : decode cX5_addOffice 8 = .ok (.return_, 1) := by decide +kernel
theorem dX5_addOffice_9 : decode cX5_addOffice 9 = .ok (.aload_n 0, 1) := by decide +kernel
theorem dX5_addOffice_10 : decode cX5_addOffice 10 = .ok (.getfield 13, 3) := by decide +kernel
theorem dX5_addOffice_13 : decode cX5_addOffice 13 = .ok (.aload_n 0, 1) := by decide +kernel
theorem dX5_addOffice_14 : decode cX5_addOffice 14 = .ok (.getfield 28, 3) := by decide +kernel
theorem dX5_addOffice_17 : decode cX5_addOffice 17 = .ok (.iload_n 1, 1) := by decide +kernel
theorem dX5_addOffice_18 : decode cX5_addOffice 18 = .ok (.iastore, 1) := by decide +kernel
theorem dX5_addOffice_19 : decode cX5_addOffice 19 = .ok (.aload_n 0, 1) := by decide +kernel
theorem dX5_addOffice_20 : decode cX5_addOffice 20 = .ok (.getfield 16, 3) := by decide +kernel
theorem dX5_addOffice_23 : decode cX5_addOffice 23 = .ok (.aload_n 0, 1) := by decide +kernel
theorem dX5_addOffice_24 : decode cX5_addOffice 24 = .ok (.getfield 28, 3) := by decide +kernel
theorem dX5_addOffice_27 : decode cX5_addOffice 27 = .ok (.iload_n 2, 1) := by decide +kernel
theorem dX5_addOffice_28 : decode cX5_addOffice 28 = .ok (.iastore, 1) := by decide +kernel
theorem dX5_addOffice_29 : decode cX5_addOffice 29 = .ok (.aload_n 0, 1) := by decide +kernel
theorem dX5_addOffice_30 : decode cX5_addOffice 30 = .ok (.getfield 19, 3) := by decide +kernel
theorem dX5_addOffice_33 : decode cX5_addOffice 33 = .ok (.aload_n 0, 1) := by decide +kernel
theorem dX5_addOffice_34 : decode cX5_addOffice 34 = .ok (.getfield 28, 3) := by decide +kernel
theorem dX5_addOffice_37 : decode cX5_addOffice 37 = .ok (.iload_n 3, 1) := by decide +kernel
theorem dX5_addOffice_38 : decode cX5_addOffice 38 = .ok (.iastore, 1) := by decide +kernel
theorem dX5_addOffice_39 : decode cX5_addOffice 39 = .ok (.aload_n 0, 1) := by decide +kernel
theorem dX5_addOffice_40 : decode cX5_addOffice 40 = .ok (.getfield 22, 3) := by decide +kernel
theorem dX5_addOffice_43 : decode cX5_addOffice 43 = .ok (.aload_n 0, 1) := by decide +kernel
theorem dX5_addOffice_44 : decode cX5_addOffice 44 = .ok (.getfield 28, 3) := by decide +kernel
theorem dX5_addOffice_47 : decode cX5_addOffice 47 = .ok (.iload 4, 2) := by decide +kernel
theorem dX5_addOffice_49 : decode cX5_addOffice 49 = .ok (.iastore, 1) := by decide +kernel
theorem dX5_addOffice_50 : decode cX5_addOffice 50 = .ok (.aload_n 0, 1) := by decide +kernel
theorem dX5_addOffice_51 : decode cX5_addOffice 51 = .ok (.getfield 25, 3) := by decide +kernel
theorem dX5_addOffice_54 : decode cX5_addOffice 54 = .ok (.aload_n 0, 1) := by decide +kernel
theorem dX5_addOffice_55 : decode cX5_addOffice 55 = .ok (.getfield 28, 3) := by decide +kernel
theorem dX5_addOffice_58 : decode cX5_addOffice 58 = .ok (.iconst 0, 1) := by decide +kernel
theorem dX5_addOffice_59 : decode cX5_addOffice 59 = .ok (.iastore, 1) := by decide +kernel
theorem dX5_addOffice_60 : decode cX5_addOffice 60 = .ok (.aload_n 0, 1) := by decide +kernel
theorem dX5_addOffice_61 : decode cX5_addOffice 61 = .ok (.dup, 1) := by decide +kernel
theorem dX5_addOffice_62 : decode cX5_addOffice 62 = .ok (.getfield 28, 3) := by decide +kernel
theorem dX5_addOffice_65 : decode cX5_addOffice 65 = .ok (.iconst 1, 1) := by decide +kernel
theorem dX5_addOffice_66 : decode cX5_addOffice 66 = .ok (.iadd, 1) := by decide +kernel
theorem dX5_addOffice_67 : decode cX5_addOffice 67 = .ok (.putfield 28, 3) := by decide +kernel
theorem dX5_addOffice_70 : decode cX5_addOffice 70 = .ok (.return_, 1) := by decide +kernel
theorem dX5_become_0 : decode cX5_become 0 = .ok (.aload_n 0, 1) := by decide +kernel
theorem dX5_become_1 : decode cX5_become 1 = .ok (.aload_n 1, 1) := by decide +kernel
theorem dX5_become_2 : decode cX5_become 2 = .ok (.getfield 28, 3) := by decide +kernel
theorem dX5_become_5 : decode cX5_become 5 = .ok (.putfield 28, 3) := by decide +kernel
theorem dX5_become_8 : decode cX5_become 8 = .ok (.aload_n 0, 1) := by decide +kernel
theorem dX5_become_9 : decode cX5_become 9 = .ok (.aload_n 1, 1) := by decide +kernel
theorem dX5_become_10 : decode cX5_become 10 = .ok (.getfield 32, 3) := by decide +kernel
theorem dX5_become_13 : decode cX5_become 13 = .ok (.putfield 32, 3) := by decide +kernel
theorem dX5_become_16 : decode cX5_become 16 = .ok (.aload_n 0, 1) := by decide +kernel
theorem dX5_become_17 : decode cX5_become 17 = .ok (.aload_n 1, 1) := by decide +kernel
theorem dX5_become_18 : decode cX5_become 18 = .ok (.getfield 35, 3) := by decide +kernel
theorem dX5_become_21 : decode cX5_become 21 = .ok (.putfield 35, 3) := by decide +kernel
theorem dX5_become_24 : decode cX5_become 24 = .ok (.aload_n 1, 1) := by decide +kernel
theorem dX5_become_25 : decode cX5_become 25 = .ok (.getfield 9, 3) := by decide +kernel
theorem dX5_become_28 : decode cX5_become 28 = .ok (.iconst 0, 1) := by decide +kernel
theorem dX5_become_29 : decode cX5_become 29 = .ok (.aload_n 0, 1) := by decide +kernel
theorem dX5_become_30 : decode cX5_become 30 = .ok (.getfield 9, 3) := by decide +kernel
theorem dX5_become_33 : decode cX5_become 33 = .ok (.iconst 0, 1) := by decide +kernel
theorem dX5_become_34 : decode cX5_become 34 = .ok (.iconst 4, 1) := by decide +kernel
theorem dX5_become_35 : decode cX5_become 35 = .ok (.invokestatic 38, 3) := by decide +kernel
theorem dX5_become_38 : decode cX5_become 38 = .ok (.aload_n 1, 1) := by decide +kernel
theorem dX5_become_39 : decode cX5_become 39 = .ok (.getfield 13, 3) := by decide +kernel
theorem dX5_become_42 : decode cX5_become 42 = .ok (.iconst 0, 1) := by decide +kernel
theorem dX5_become_43 : decode cX5_become 43 = .ok (.aload_n 0, 1) := by decide +kernel
theorem dX5_become_44 : decode cX5_become 44 = .ok (.getfield 13, 3) := by decide +kernel
theorem dX5_become_47 : decode cX5_become 47 = .ok (.iconst 0, 1) := by decide +kernel
theorem dX5_become_48 : decode cX5_become 48 = .ok (.iconst 5, 1) := by decide +kernel
theorem dX5_become_49 : decode cX5_become 49 = .ok (.invokestatic 38, 3) := by decide +kernel
theorem dX5_become_52 : decode cX5_become 52 = .ok (.aload_n 1, 1) := by decide +kernel
theorem dX5_become_53 : decode cX5_become 53 = .ok (.getfield 16, 3) := by decide +kernel
theorem dX5_become_56 : decode cX5_become 56 = .ok (.iconst 0, 1) := by decide +kernel
theorem dX5_become_57 : decode cX5_become 57 = .ok (.aload_n 0, 1) := by decide +kernel
theorem dX5_become_58 : decode cX5_become 58 = .ok (.getfield 16, 3) := by decide +kernel
theorem dX5_become_61 : decode cX5_become 61 = .ok (.iconst 0, 1) := by decide +kernel
theorem dX5_become_62 : decode cX5_become 62 = .ok (.iconst 5, 1) := by decide +kernel
theorem dX5_become_63 : decode cX5_become 63 = .ok (.invokestatic 38, 3) := by decide +kernel
theorem dX5_become_66 : decode cX5_become 66 = .ok (.aload_n 1, 1) := by decide +kernel
theorem dX5_become_67 : decode cX5_become 67 = .ok (.getfield 19, 3) := by decide +kernel
theorem dX5_become_70 : decode cX5_become 70 = .ok (.iconst 0, 1) := by decide +kernel
theorem dX5_become_71 : decode cX5_become 71 = .ok (.aload_n 0, 1) := by decide +kernel
theorem dX5_become_72 : decode cX5_become 72 = .ok (.getfield 19, 3) := by decide +kernel
theorem dX5_become_75 : decode cX5_become 75 = .ok (.iconst 0, 1) := by decide +kernel
theorem dX5_become_76 : decode cX5_become 76 = .ok (.iconst 5, 1) := by decide +kernel
theorem dX5_become_77 : decode cX5_become 77 = .ok (.invokestatic 38, 3) := by decide +kernel
theorem dX5_become_80 : decode cX5_become 80 = .ok (.aload_n 1, 1) := by decide +kernel
theorem dX5_become_81 : decode cX5_become 81 = .ok (.getfield 22, 3) := by decide +kernel
theorem dX5_become_84 : decode cX5_become 84 = .ok (.iconst 0, 1) := by decide +kernel
theorem dX5_become_85 : decode cX5_become 85 = .ok (.aload_n 0, 1) := by decide +kernel
theorem dX5_become_86 : decode cX5_become 86 = .ok (.getfield 22, 3) := by decide +kernel
theorem dX5_become_89 : decode cX5_become 89 = .ok (.iconst 0, 1) := by decide +kernel
theorem dX5_become_90 : decode cX5_become 90 = .ok (.iconst 5, 1) := by decide +kernel
theorem dX5_become_91 : decode cX5_become 91 = .ok (.invokestatic 38, 3) := by decide +kernel
theorem dX5_become_94 : decode cX5_become 94 = .ok (.aload_n 1, 1) := by decide +kernel
theorem dX5_become_95 : decode cX5_become 95 = .ok (.getfield 25, 3) := by decide +kernel
theorem dX5_become_98 : decode cX5_become 98 = .ok (.iconst 0, 1) := by decide +kernel
theorem dX5_become_99 : decode cX5_become 99 = .ok (.aload_n 0, 1) := by decide +kernel
theorem dX5_become_100 : decode cX5_become 100 = .ok (.getfield 25, 3) := by decide +kernel
theorem dX5_become_103 : decode cX5_become 103 = .ok (.iconst 0, 1) := by decide +kernel
theorem dX5_become_104 : decode cX5_become 104 = .ok (.iconst 5, 1) := by decide +kernel
theorem dX5_become_105 : decode cX5_become 105 = .ok (.invokestatic 38, 3) := by decide +kernel
theorem dX5_become_108 : decode cX5_become 108 = .ok (.return_, 1) := by decide +kernel
theorem dX5_passHour_0 : decode cX5_passHour 0 = .ok (.iconst 0, 1) := by decide +kernel
theorem dX5_passHour_1 : decode cX5_passHour 1 = .ok (.istore_n 1, 1) := by decide +kernel
theorem dX5_passHour_2 : decode cX5_passHour 2 = .ok (.iload_n 1, 1) := by decide +kernel
theorem dX5_passHour_3 : decode cX5_passHour 3 = .ok (.aload_n 0, 1) := by decide +kernel
theorem dX5_passHour_4 : decode cX5_passHour 4 = .ok (.getfield 28, 3) := by decide +kernel
theorem dX5_passHour_7 : decode cX5_passHour 7 = .ok (.if_icmp .ge 47, 3) := by decide +kernel
theorem dX5_passHour_10 : decode cX5_passHour 10 = .ok (.aload_n 0, 1) := by decide +kernel
theorem dX5_passHour_11 : decode cX5_passHour 11 = .ok (.getfield 19, 3) := by decide +kernel
theorem dX5_passHour_14 : decode cX5_passHour 14 = .ok (.iload_n 1, 1) := by decide +kernel
theorem dX5_passHour_15 : decode cX5_passHour 15 = .ok (.aload_n 0, 1) := by decide +kernel
theorem dX5_passHour_16 : decode cX5_passHour 16 = .ok (.aload_n 0, 1) := by decide +kernel
theorem dX5_passHour_17 : decode cX5_passHour 17 = .ok (.getfield 19, 3) := by decide +kernel
theorem dX5_passHour_20 : decode cX5_passHour 20 = .ok (.iload_n 1, 1) := by decide +kernel
theorem dX5_passHour_21 : decode cX5_passHour 21 = .ok (.iaload, 1) := by decide +kernel
theorem dX5_passHour_22 : decode cX5_passHour 22 = .ok (.invokevirtual 44, 3) := by decide +kernel
theorem dX5_passHour_25 : decode cX5_passHour 25 = .ok (.iastore, 1) := by decide +kernel
theorem dX5_passHour_26 : decode cX5_passHour 26 = .ok (.aload_n 0, 1) := by decide +kernel
theorem dX5_passHour_27 : decode cX5_passHour 27 = .ok (.getfield 16, 3) := by decide +kernel
theorem dX5_passHour_30 : decode cX5_passHour 30 = .ok (.iload_n 1, 1) := by decide +kernel
theorem dX5_passHour_31 : decode cX5_passHour 31 = .ok (.aload_n 0, 1) := by decide +kernel
theorem dX5_passHour_32 : decode cX5_passHour 32 = .ok (.aload_n 0, 1) := by decide +kernel
theorem dX5_passHour_33 : decode cX5_passHour 33 = .ok (.getfield 16, 3) := by decide +kernel
theorem dX5_passHour_36 : decode cX5_passHour 36 = .ok (.iload_n 1, 1) := by decide +kernel
theorem dX5_passHour_37 : decode cX5_passHour 37 = .ok (.iaload, 1) := by decide +kernel
theorem dX5_passHour_38 : decode cX5_passHour 38 = .ok (.aload_n 0, 1) := by decide +kernel
theorem dX5_passHour_39 : decode cX5_passHour 39 = .ok (.getfield 19, 3) := by decide +kernel
theorem dX5_passHour_42 : decode cX5_passHour 42 = .ok (.iload_n 1, 1) := by decide +kernel
theorem dX5_passHour_43 : decode cX5_passHour 43 = .ok (.iaload, 1) := by decide +kernel
theorem dX5_passHour_44 : decode cX5_passHour 44 = .ok (.invokevirtual 48, 3) := by decide +kernel
theorem dX5_passHour_47 : decode cX5_passHour 47 = .ok (.iastore, 1) := by decide +kernel
theorem dX5_passHour_48 : decode cX5_passHour 48 = .ok (.iinc 1 1, 3) := by decide +kernel
theorem dX5_passHour_51 : decode cX5_passHour 51 = .ok (.goto (-49), 3) := by decide +kernel
theorem dX5_passHour_54 : decode cX5_passHour 54 = .ok (.aload_n 0, 1) := by decide +kernel
theorem dX5_passHour_55 : decode cX5_passHour 55 = .ok (.dup, 1) := by decide +kernel
theorem dX5_passHour_56 : decode cX5_passHour 56 = .ok (.getfield 35, 3) := by decide +kernel
theorem dX5_passHour_59 : decode cX5_passHour 59 = .ok (.iconst 1, 1) := by decide +kernel
theorem dX5_passHour_60 : decode cX5_passHour 60 = .ok (.iadd, 1) := by decide +kernel
theorem dX5_passHour_61 : decode cX5_passHour 61 = .ok (.putfield 35, 3) := by decide +kernel
theorem dX5_passHour_64 : decode cX5_passHour 64 = .ok (.return_, 1) := by decide +kernel
theorem dX5_useSheets_0 : decode cX5_useSheets 0 = .ok (.aload_n 0, 1) := by decide +kernel
theorem dX5_useSheets_1 : decode cX5_useSheets 1 = .ok (.getfield 22, 3) := by decide +kernel
theorem dX5_useSheets_4 : decode cX5_useSheets 4 = .ok (.iload_n 1, 1) := by decide +kernel
theorem dX5_useSheets_5 : decode cX5_useSheets 5 = .ok (.dup2, 1) := by decide +kernel
theorem dX5_useSheets_6 : decode cX5_useSheets 6 = .ok (.iaload, 1) := by decide +kernel
theorem dX5_useSheets_7 : decode cX5_useSheets 7 = .ok (.iload_n 2, 1) := by decide +kernel
theorem dX5_useSheets_8 : decode cX5_useSheets 8 = .ok (.isub, 1) := by decide +kernel
theorem dX5_useSheets_9 : decode cX5_useSheets 9 = .ok (.iastore, 1) := by decide +kernel
theorem dX5_useSheets_10 : decode cX5_useSheets 10 = .ok (.aload_n 0, 1) := by decide +kernel
theorem dX5_useSheets_11 : decode cX5_useSheets 11 = .ok (.getfield 25, 3) := by decide +kernel
theorem dX5_useSheets_14 : decode cX5_useSheets 14 = .ok (.iload_n 1, 1) := by decide +kernel
theorem dX5_useSheets_15 : decode cX5_useSheets 15 = .ok (.dup2, 1) := by decide +kernel
theorem dX5_useSheets_16 : decode cX5_useSheets 16 = .ok (.iaload, 1) := by decide +kernel
theorem dX5_useSheets_17 : decode cX5_useSheets 17 = .ok (.iload_n 2, 1) := by decide +kernel
theorem dX5_useSheets_18 : decode cX5_useSheets 18 = .ok (.iadd, 1) := by decide +kernel
theorem dX5_useSheets_19 : decode cX5_useSheets 19 = .ok (.iastore, 1) := by decide +kernel
theorem dX5_useSheets_20 : decode cX5_useSheets 20 = .ok (.aload_n 0, 1) := by decide +kernel
theorem dX5_useSheets_21 : decode cX5_useSheets 21 = .ok (.getfield 19, 3) := by decide +kernel
theorem dX5_useSheets_24 : decode cX5_useSheets 24 = .ok (.iload_n 1, 1) := by decide +kernel
theorem dX5_useSheets_25 : decode cX5_useSheets 25 = .ok (.aload_n 0, 1) := by decide +kernel
theorem dX5_useSheets_26 : decode cX5_useSheets 26 = .ok (.getfield 13, 3) := by decide +kernel
theorem dX5_useSheets_29 : decode cX5_useSheets 29 = .ok (.iload_n 1, 1) := by decide +kernel
theorem dX5_useSheets_30 : decode cX5_useSheets 30 = .ok (.iaload, 1) := by decide +kernel
theorem dX5_useSheets_31 : decode cX5_useSheets 31 = .ok (.aload_n 0, 1) := by decide +kernel
theorem dX5_useSheets_32 : decode cX5_useSheets 32 = .ok (.getfield 19, 3) := by decide +kernel
theorem dX5_useSheets_35 : decode cX5_useSheets 35 = .ok (.iload_n 1, 1) := by decide +kernel
theorem dX5_useSheets_36 : decode cX5_useSheets 36 = .ok (.iaload, 1) := by decide +kernel
theorem dX5_useSheets_37 : decode cX5_useSheets 37 = .ok (.iload_n 2, 1) := by decide +kernel
theorem dX5_useSheets_38 : decode cX5_useSheets 38 = .ok (.invokestatic 52, 3) := by decide +kernel
theorem dX5_useSheets_41 : decode cX5_useSheets 41 = .ok (.iastore, 1) := by decide +kernel
theorem dX5_useSheets_42 : decode cX5_useSheets 42 = .ok (.return_, 1) := by decide +kernel
theorem dX5_sunk_0 : decode cX5_sunk 0 = .ok (.iconst 0, 1) := by decide +kernel
theorem dX5_sunk_1 : decode cX5_sunk 1 = .ok (.iload_n 1, 1) := by decide +kernel
theorem dX5_sunk_2 : decode cX5_sunk 2 = .ok (.aload_n 0, 1) := by decide +kernel
theorem dX5_sunk_3 : decode cX5_sunk 3 = .ok (.getfield 32, 3) := by decide +kernel
theorem dX5_sunk_6 : decode cX5_sunk 6 = .ok (.isub, 1) := by decide +kernel
theorem dX5_sunk_7 : decode cX5_sunk 7 = .ok (.invokestatic 56, 3) := by decide +kernel
theorem dX5_sunk_10 : decode cX5_sunk 10 = .ok (.ireturn, 1) := by decide +kernel
theorem dX5_carried_0 : decode cX5_carried 0 = .ok (.iload_n 1, 1) := by decide +kernel
theorem dX5_carried_1 : decode cX5_carried 1 = .ok (.aload_n 0, 1) := by decide +kernel
theorem dX5_carried_2 : decode cX5_carried 2 = .ok (.iload_n 2, 1) := by decide +kernel
theorem dX5_carried_3 : decode cX5_carried 3 = .ok (.invokevirtual 61, 3) := by decide +kernel
theorem dX5_carried_6 : decode cX5_carried 6 = .ok (.invokestatic 64, 3) := by decide +kernel
theorem dX5_carried_9 : decode cX5_carried 9 = .ok (.ireturn, 1) := by decide +kernel
theorem dX5_driftAt_0 : decode cX5_driftAt 0 = .ok (.iload_n 1, 1) := by decide +kernel
theorem dX5_driftAt_1 : decode cX5_driftAt 1 = .ok (.ifCond .le 17, 3) := by decide +kernel
theorem dX5_driftAt_4 : decode cX5_driftAt 4 = .ok (.aload_n 0, 1) := by decide +kernel
theorem dX5_driftAt_5 : decode cX5_driftAt 5 = .ok (.getfield 9, 3) := by decide +kernel
theorem dX5_driftAt_8 : decode cX5_driftAt 8 = .ok (.iload_n 1, 1) := by decide +kernel
theorem dX5_driftAt_9 : decode cX5_driftAt 9 = .ok (.invokestatic 67, 3) := by decide +kernel
theorem dX5_driftAt_12 : decode cX5_driftAt 12 = .ok (.iaload, 1) := by decide +kernel
theorem dX5_driftAt_13 : decode cX5_driftAt 13 = .ok (.iconst 2, 1) := by decide +kernel
theorem dX5_driftAt_14 : decode cX5_driftAt 14 = .ok (.isub, 1) := by decide +kernel
theorem dX5_driftAt_15 : decode cX5_driftAt 15 = .ok (.goto 4, 3) := by decide +kernel
theorem dX5_driftAt_18 : decode cX5_driftAt 18 = .ok (.iconst 0, 1) := by decide +kernel
theorem dX5_driftAt_19 : decode cX5_driftAt 19 = .ok (.ireturn, 1) := by decide +kernel
theorem dX5_moved_0 : decode cX5_moved 0 = .ok (.iconst 0, 1) := by decide +kernel
theorem dX5_moved_1 : decode cX5_moved 1 = .ok (.bipush 9, 2) := by decide +kernel
theorem dX5_moved_3 : decode cX5_moved 3 = .ok (.iload_n 0, 1) := by decide +kernel
theorem dX5_moved_4 : decode cX5_moved 4 = .ok (.iload_n 1, 1) := by decide +kernel
theorem dX5_moved_5 : decode cX5_moved 5 = .ok (.iadd, 1) := by decide +kernel
theorem dX5_moved_6 : decode cX5_moved 6 = .ok (.invokestatic 70, 3) := by decide +kernel
theorem dX5_moved_9 : decode cX5_moved 9 = .ok (.invokestatic 56, 3) := by decide +kernel
theorem dX5_moved_12 : decode cX5_moved 12 = .ok (.ireturn, 1) := by decide +kernel
theorem dX5_bandOf_0 : decode cX5_bandOf 0 = .ok (.iload_n 0, 1) := by decide +kernel
theorem dX5_bandOf_1 : decode cX5_bandOf 1 = .ok (.bipush 6, 2) := by decide +kernel
theorem dX5_bandOf_3 : decode cX5_bandOf 3 = .ok (.if_icmp .ge 5, 3) := by decide +kernel
theorem dX5_bandOf_6 : decode cX5_bandOf 6 = .ok (.iconst 0, 1) := by decide +kernel
theorem dX5_bandOf_7 : decode cX5_bandOf 7 = .ok (.ireturn, 1) := by decide +kernel
theorem dX5_bandOf_8 : decode cX5_bandOf 8 = .ok (.iload_n 0, 1) := by decide +kernel
theorem dX5_bandOf_9 : decode cX5_bandOf 9 = .ok (.bipush 11, 2) := by decide +kernel
theorem dX5_bandOf_11 : decode cX5_bandOf 11 = .ok (.if_icmp .ge 5, 3) := by decide +kernel
theorem dX5_bandOf_14 : decode cX5_bandOf 14 = .ok (.iconst 1, 1) := by decide +kernel
theorem dX5_bandOf_15 : decode cX5_bandOf 15 = .ok (.ireturn, 1) := by decide +kernel
theorem dX5_bandOf_16 : decode cX5_bandOf 16 = .ok (.iload_n 0, 1) := by decide +kernel
theorem dX5_bandOf_17 : decode cX5_bandOf 17 = .ok (.bipush 16, 2) := by decide +kernel
theorem dX5_bandOf_19 : decode cX5_bandOf 19 = .ok (.if_icmp .ge 7, 3) := by decide +kernel
theorem dX5_bandOf_22 : decode cX5_bandOf 22 = .ok (.iconst 2, 1) := by decide +kernel
theorem dX5_bandOf_23 : decode cX5_bandOf 23 = .ok (.goto 4, 3) := by decide +kernel
theorem dX5_bandOf_26 : decode cX5_bandOf 26 = .ok (.iconst 3, 1) := by decide +kernel
theorem dX5_bandOf_27 : decode cX5_bandOf 27 = .ok (.ireturn, 1) := by decide +kernel
theorem dX5_liftOf_0 : decode cX5_liftOf 0 = .ok (.iload_n 0, 1) := by decide +kernel
theorem dX5_liftOf_1 : decode cX5_liftOf 1 = .ok (.tableswitch 50 1 5 #[35, 50, 37, 50, 39], 35) := by decide +kernel
theorem dX5_liftOf_36 : decode cX5_liftOf 36 = .ok (.iconst 2, 1) := by decide +kernel
theorem dX5_liftOf_37 : decode cX5_liftOf 37 = .ok (.ireturn, 1) := by decide +kernel
theorem dX5_liftOf_38 : decode cX5_liftOf 38 = .ok (.iconst 3, 1) := by decide +kernel
theorem dX5_liftOf_39 : decode cX5_liftOf 39 = .ok (.ireturn, 1) := by decide +kernel
theorem dX5_liftOf_40 : decode cX5_liftOf 40 = .ok (.iload_n 1, 1) := by decide +kernel
theorem dX5_liftOf_41 : decode cX5_liftOf 41 = .ok (.iconst 5, 1) := by decide +kernel
theorem dX5_liftOf_42 : decode cX5_liftOf 42 = .ok (.if_icmp .le 7, 3) := by decide +kernel
theorem dX5_liftOf_45 : decode cX5_liftOf 45 = .ok (.iconst 0, 1) := by decide +kernel
theorem dX5_liftOf_46 : decode cX5_liftOf 46 = .ok (.goto 4, 3) := by decide +kernel
theorem dX5_liftOf_49 : decode cX5_liftOf 49 = .ok (.iconst 1, 1) := by decide +kernel
theorem dX5_liftOf_50 : decode cX5_liftOf 50 = .ok (.ireturn, 1) := by decide +kernel
theorem dX5_liftOf_51 : decode cX5_liftOf 51 = .ok (.iconst 1, 1) := by decide +kernel
theorem dX5_liftOf_52 : decode cX5_liftOf 52 = .ok (.ireturn, 1) := by decide +kernel
theorem dX5_lifted_0 : decode cX5_lifted 0 = .ok (.iload_n 1, 1) := by decide +kernel
theorem dX5_lifted_1 : decode cX5_lifted 1 = .ok (.istore_n 3, 1) := by decide +kernel
theorem dX5_lifted_2 : decode cX5_lifted 2 = .ok (.iconst 0, 1) := by decide +kernel
theorem dX5_lifted_3 : decode cX5_lifted 3 = .ok (.istore 4, 2) := by decide +kernel
theorem dX5_lifted_5 : decode cX5_lifted 5 = .ok (.iload 4, 2) := by decide +kernel
theorem dX5_lifted_7 : decode cX5_lifted 7 = .ok (.iload_n 2, 1) := by decide +kernel
theorem dX5_lifted_8 : decode cX5_lifted 8 = .ok (.if_icmp .ge 22, 3) := by decide +kernel
theorem dX5_lifted_11 : decode cX5_lifted 11 = .ok (.bipush 20, 2) := by decide +kernel
theorem dX5_lifted_13 : decode cX5_lifted 13 = .ok (.iload_n 3, 1) := by decide +kernel
theorem dX5_lifted_14 : decode cX5_lifted 14 = .ok (.iload_n 0, 1) := by decide +kernel
theorem dX5_lifted_15 : decode cX5_lifted 15 = .ok (.iload_n 3, 1) := by decide +kernel
theorem dX5_lifted_16 : decode cX5_lifted 16 = .ok (.invokestatic 73, 3) := by decide +kernel
theorem dX5_lifted_19 : decode cX5_lifted 19 = .ok (.iadd, 1) := by decide +kernel
theorem dX5_lifted_20 : decode cX5_lifted 20 = .ok (.invokestatic 70, 3) := by decide +kernel
theorem dX5_lifted_23 : decode cX5_lifted 23 = .ok (.istore_n 3, 1) := by decide +kernel
theorem dX5_lifted_24 : decode cX5_lifted 24 = .ok (.iinc 4 1, 3) := by decide +kernel
theorem dX5_lifted_27 : decode cX5_lifted 27 = .ok (.goto (-22), 3) := by decide +kernel
theorem dX5_lifted_30 : decode cX5_lifted 30 = .ok (.iload_n 3, 1) := by decide +kernel
theorem dX5_lifted_31 : decode cX5_lifted 31 = .ok (.ireturn, 1) := by decide +kernel
theorem dX5_officesIn_0 : decode cX5_officesIn 0 = .ok (.iconst 0, 1) := by decide +kernel
theorem dX5_officesIn_1 : decode cX5_officesIn 1 = .ok (.istore_n 2, 1) := by decide +kernel
theorem dX5_officesIn_2 : decode cX5_officesIn 2 = .ok (.iconst 0, 1) := by decide +kernel
theorem dX5_officesIn_3 : decode cX5_officesIn 3 = .ok (.istore_n 3, 1) := by decide +kernel
theorem dX5_officesIn_4 : decode cX5_officesIn 4 = .ok (.iload_n 3, 1) := by decide +kernel
theorem dX5_officesIn_5 : decode cX5_officesIn 5 = .ok (.aload_n 0, 1) := by decide +kernel
theorem dX5_officesIn_6 : decode cX5_officesIn 6 = .ok (.getfield 28, 3) := by decide +kernel
theorem dX5_officesIn_9 : decode cX5_officesIn 9 = .ok (.if_icmp .ge 25, 3) := by decide +kernel
theorem dX5_officesIn_12 : decode cX5_officesIn 12 = .ok (.aload_n 0, 1) := by decide +kernel
theorem dX5_officesIn_13 : decode cX5_officesIn 13 = .ok (.getfield 16, 3) := by decide +kernel
theorem dX5_officesIn_16 : decode cX5_officesIn 16 = .ok (.iload_n 3, 1) := by decide +kernel
theorem dX5_officesIn_17 : decode cX5_officesIn 17 = .ok (.iaload, 1) := by decide +kernel
theorem dX5_officesIn_18 : decode cX5_officesIn 18 = .ok (.iload_n 1, 1) := by decide +kernel
theorem dX5_officesIn_19 : decode cX5_officesIn 19 = .ok (.if_icmp .ne 9, 3) := by decide +kernel
theorem dX5_officesIn_22 : decode cX5_officesIn 22 = .ok (.iload_n 2, 1) := by decide +kernel
theorem dX5_officesIn_23 : decode cX5_officesIn 23 = .ok (.iconst 1, 1) := by decide +kernel
theorem dX5_officesIn_24 : decode cX5_officesIn 24 = .ok (.iload_n 3, 1) := by decide +kernel
theorem dX5_officesIn_25 : decode cX5_officesIn 25 = .ok (.ishl, 1) := by decide +kernel
theorem dX5_officesIn_26 : decode cX5_officesIn 26 = .ok (.ior, 1) := by decide +kernel
theorem dX5_officesIn_27 : decode cX5_officesIn 27 = .ok (.istore_n 2, 1) := by decide +kernel
theorem dX5_officesIn_28 : decode cX5_officesIn 28 = .ok (.iinc 3 1, 3) := by decide +kernel
theorem dX5_officesIn_31 : decode cX5_officesIn 31 = .ok (.goto (-27), 3) := by decide +kernel
theorem dX5_officesIn_34 : decode cX5_officesIn 34 = .ok (.iload_n 2, 1) := by decide +kernel
theorem dX5_officesIn_35 : decode cX5_officesIn 35 = .ok (.ireturn, 1) := by decide +kernel
theorem dX5_floating_0 : decode cX5_floating 0 = .ok (.iconst 0, 1) := by decide +kernel
theorem dX5_floating_1 : decode cX5_floating 1 = .ok (.istore_n 1, 1) := by decide +kernel
theorem dX5_floating_2 : decode cX5_floating 2 = .ok (.iconst 0, 1) := by decide +kernel
theorem dX5_floating_3 : decode cX5_floating 3 = .ok (.istore_n 2, 1) := by decide +kernel
theorem dX5_floating_4 : decode cX5_floating 4 = .ok (.iload_n 2, 1) := by decide +kernel
theorem dX5_floating_5 : decode cX5_floating 5 = .ok (.aload_n 0, 1) := by decide +kernel
theorem dX5_floating_6 : decode cX5_floating 6 = .ok (.getfield 28, 3) := by decide +kernel
theorem dX5_floating_9 : decode cX5_floating 9 = .ok (.if_icmp .ge 24, 3) := by decide +kernel
theorem dX5_floating_12 : decode cX5_floating 12 = .ok (.aload_n 0, 1) := by decide +kernel
theorem dX5_floating_13 : decode cX5_floating 13 = .ok (.getfield 19, 3) := by decide +kernel
theorem dX5_floating_16 : decode cX5_floating 16 = .ok (.iload_n 2, 1) := by decide +kernel
theorem dX5_floating_17 : decode cX5_floating 17 = .ok (.iaload, 1) := by decide +kernel
theorem dX5_floating_18 : decode cX5_floating 18 = .ok (.ifCond .le 9, 3) := by decide +kernel
theorem dX5_floating_21 : decode cX5_floating 21 = .ok (.iload_n 1, 1) := by decide +kernel
theorem dX5_floating_22 : decode cX5_floating 22 = .ok (.iconst 1, 1) := by decide +kernel
theorem dX5_floating_23 : decode cX5_floating 23 = .ok (.iload_n 2, 1) := by decide +kernel
theorem dX5_floating_24 : decode cX5_floating 24 = .ok (.ishl, 1) := by decide +kernel
theorem dX5_floating_25 : decode cX5_floating 25 = .ok (.ior, 1) := by decide +kernel
theorem dX5_floating_26 : decode cX5_floating 26 = .ok (.istore_n 1, 1) := by decide +kernel
theorem dX5_floating_27 : decode cX5_floating 27 = .ok (.iinc 2 1, 3) := by decide +kernel
theorem dX5_floating_30 : decode cX5_floating 30 = .ok (.goto (-26), 3) := by decide +kernel
theorem dX5_floating_33 : decode cX5_floating 33 = .ok (.iload_n 1, 1) := by decide +kernel
theorem dX5_floating_34 : decode cX5_floating 34 = .ok (.ireturn, 1) := by decide +kernel
theorem dX5_allBurnt_0 : decode cX5_allBurnt 0 = .ok (.iconst 0, 1) := by decide +kernel
theorem dX5_allBurnt_1 : decode cX5_allBurnt 1 = .ok (.istore_n 1, 1) := by decide +kernel
theorem dX5_allBurnt_2 : decode cX5_allBurnt 2 = .ok (.iconst 0, 1) := by decide +kernel
theorem dX5_allBurnt_3 : decode cX5_allBurnt 3 = .ok (.istore_n 2, 1) := by decide +kernel
theorem dX5_allBurnt_4 : decode cX5_allBurnt 4 = .ok (.iload_n 2, 1) := by decide +kernel
theorem dX5_allBurnt_5 : decode cX5_allBurnt 5 = .ok (.aload_n 0, 1) := by decide +kernel
theorem dX5_allBurnt_6 : decode cX5_allBurnt 6 = .ok (.getfield 28, 3) := by decide +kernel
theorem dX5_allBurnt_9 : decode cX5_allBurnt 9 = .ok (.if_icmp .ge 18, 3) := by decide +kernel
theorem dX5_allBurnt_12 : decode cX5_allBurnt 12 = .ok (.iload_n 1, 1) := by decide +kernel
theorem dX5_allBurnt_13 : decode cX5_allBurnt 13 = .ok (.aload_n 0, 1) := by decide +kernel
theorem dX5_allBurnt_14 : decode cX5_allBurnt 14 = .ok (.getfield 25, 3) := by decide +kernel
theorem dX5_allBurnt_17 : decode cX5_allBurnt 17 = .ok (.iload_n 2, 1) := by decide +kernel
theorem dX5_allBurnt_18 : decode cX5_allBurnt 18 = .ok (.iaload, 1) := by decide +kernel
theorem dX5_allBurnt_19 : decode cX5_allBurnt 19 = .ok (.iadd, 1) := by decide +kernel
theorem dX5_allBurnt_20 : decode cX5_allBurnt 20 = .ok (.istore_n 1, 1) := by decide +kernel
theorem dX5_allBurnt_21 : decode cX5_allBurnt 21 = .ok (.iinc 2 1, 3) := by decide +kernel
theorem dX5_allBurnt_24 : decode cX5_allBurnt 24 = .ok (.goto (-20), 3) := by decide +kernel
theorem dX5_allBurnt_27 : decode cX5_allBurnt 27 = .ok (.iload_n 1, 1) := by decide +kernel
theorem dX5_allBurnt_28 : decode cX5_allBurnt 28 = .ok (.ireturn, 1) := by decide +kernel
theorem dX5_landsAdded_0 : decode cX5_landsAdded 0 = .ok (.iconst 0, 1) := by decide +kernel
theorem dX5_landsAdded_1 : decode cX5_landsAdded 1 = .ok (.istore_n 1, 1) := by decide +kernel
theorem dX5_landsAdded_2 : decode cX5_landsAdded 2 = .ok (.iconst 0, 1) := by decide +kernel
theorem dX5_landsAdded_3 : decode cX5_landsAdded 3 = .ok (.istore_n 2, 1) := by decide +kernel
theorem dX5_landsAdded_4 : decode cX5_landsAdded 4 = .ok (.iload_n 2, 1) := by decide +kernel
theorem dX5_landsAdded_5 : decode cX5_landsAdded 5 = .ok (.aload_n 0, 1) := by decide +kernel
theorem dX5_landsAdded_6 : decode cX5_landsAdded 6 = .ok (.getfield 28, 3) := by decide +kernel
theorem dX5_landsAdded_9 : decode cX5_landsAdded 9 = .ok (.if_icmp .ge 18, 3) := by decide +kernel
theorem dX5_landsAdded_12 : decode cX5_landsAdded 12 = .ok (.iload_n 1, 1) := by decide +kernel
theorem dX5_landsAdded_13 : decode cX5_landsAdded 13 = .ok (.aload_n 0, 1) := by decide +kernel
theorem dX5_landsAdded_14 : decode cX5_landsAdded 14 = .ok (.getfield 16, 3) := by decide +kernel
theorem dX5_landsAdded_17 : decode cX5_landsAdded 17 = .ok (.iload_n 2, 1) := by decide +kernel
theorem dX5_landsAdded_18 : decode cX5_landsAdded 18 = .ok (.iaload, 1) := by decide +kernel
theorem dX5_landsAdded_19 : decode cX5_landsAdded 19 = .ok (.iadd, 1) := by decide +kernel
theorem dX5_landsAdded_20 : decode cX5_landsAdded 20 = .ok (.istore_n 1, 1) := by decide +kernel
theorem dX5_landsAdded_21 : decode cX5_landsAdded 21 = .ok (.iinc 2 1, 3) := by decide +kernel
theorem dX5_landsAdded_24 : decode cX5_landsAdded 24 = .ok (.goto (-20), 3) := by decide +kernel
theorem dX5_landsAdded_27 : decode cX5_landsAdded 27 = .ok (.iload_n 1, 1) := by decide +kernel
theorem dX5_landsAdded_28 : decode cX5_landsAdded 28 = .ok (.ireturn, 1) := by decide +kernel
