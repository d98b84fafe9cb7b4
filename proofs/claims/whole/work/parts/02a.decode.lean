-- decode rows printed of the program (NAMES.whole)
theorem dX0_init_0 : decode cX0_init 0 = .ok (.aload_n 0, 1) := by decide +kernel
theorem dX0_init_1 : decode cX0_init 1 = .ok (.invokespecial 3, 3) := by decide +kernel
theorem dX0_init_4 : decode cX0_init 4 = .ok (.aload_n 0, 1) := by decide +kernel
theorem dX0_init_5 : decode cX0_init 5 = .ok (.bipush 24, 2) := by decide +kernel
theorem dX0_init_7 : decode cX0_init 7 = .ok (.anewarray 9, 3) := by decide +kernel
theorem dX0_init_10 : decode cX0_init 10 = .ok (.putfield 11, 3) := by decide +kernel
theorem dX0_init_13 : decode cX0_init 13 = .ok (.iconst 0, 1) := by decide +kernel
theorem dX0_init_14 : decode cX0_init 14 = .ok (.istore_n 1, 1) := by decide +kernel
theorem dX0_init_15 : decode cX0_init 15 = .ok (.iload_n 1, 1) := by decide +kernel
theorem dX0_init_16 : decode cX0_init 16 = .ok (.bipush 24, 2) := by decide +kernel
theorem dX0_init_18 : decode cX0_init 18 = .ok (.if_icmp .ge 22, 3) := by decide +kernel
theorem dX0_init_21 : decode cX0_init 21 = .ok (.aload_n 0, 1) := by decide +kernel
theorem dX0_init_22 : decode cX0_init 22 = .ok (.getfield 11, 3) := by decide +kernel
theorem dX0_init_25 : decode cX0_init 25 = .ok (.iload_n 1, 1) := by decide +kernel
theorem dX0_init_26 : decode cX0_init 26 = .ok (.new 9, 3) := by decide +kernel
theorem dX0_init_29 : decode cX0_init 29 = .ok (.dup, 1) := by decide +kernel
theorem dX0_init_30 : decode cX0_init 30 = .ok (.invokespecial 17, 3) := by decide +kernel
theorem dX0_init_33 : decode cX0_init 33 = .ok (.aastore, 1) := by decide +kernel
theorem dX0_init_34 : decode cX0_init 34 = .ok (.iinc 1 1, 3) := by decide +kernel
theorem dX0_init_37 : decode cX0_init 37 = .ok (.goto (-22), 3) := by decide +kernel
theorem dX0_init_40 : decode cX0_init 40 = .ok (.aload_n 0, 1) := by decide +kernel
theorem dX0_init_41 : decode cX0_init 41 = .ok (.iconst 0, 1) := by decide +kernel
theorem dX0_init_42 : decode cX0_init 42 = .ok (.putfield 18, 3) := by decide +kernel
theorem dX0_init_45 : decode cX0_init 45 = .ok (.aload_n 0, 1) := by decide +kernel
theorem dX0_init_46 : decode cX0_init 46 = .ok (.iconst 0, 1) := by decide +kernel
theorem dX0_init_47 : decode cX0_init 47 = .ok (.putfield 22, 3) := by decide +kernel
theorem dX0_init_50 : decode cX0_init 50 = .ok (.return_, 1) := by decide +kernel
theorem dX0_forgetAll_0 : decode cX0_forgetAll 0 = .ok (.aload_n 0, 1) := by decide +kernel
theorem dX0_forgetAll_1 : decode cX0_forgetAll 1 = .ok (.iconst 0, 1) := by decide +kernel
theorem dX0_forgetAll_2 : decode cX0_forgetAll 2 = .ok (.putfield 22, 3) := by decide +kernel
theorem dX0_forgetAll_5 : decode cX0_forgetAll 5 = .ok (.return_, 1) := by decide +kernel
theorem dX0_keep_0 : decode cX0_keep 0 = .ok (.aload_n 0, 1) := by decide +kernel
theorem dX0_keep_1 : decode cX0_keep 1 = .ok (.getfield 11, 3) := by decide +kernel
theorem dX0_keep_4 : decode cX0_keep 4 = .ok (.aload_n 0, 1) := by decide +kernel
theorem dX0_keep_5 : decode cX0_keep 5 = .ok (.getfield 18, 3) := by decide +kernel
theorem dX0_keep_8 : decode cX0_keep 8 = .ok (.aaload, 1) := by decide +kernel
theorem dX0_keep_9 : decode cX0_keep 9 = .ok (.aload_n 1, 1) := by decide +kernel
theorem dX0_keep_10 : decode cX0_keep 10 = .ok (.invokevirtual 25, 3) := by decide +kernel
theorem dX0_keep_13 : decode cX0_keep 13 = .ok (.aload_n 0, 1) := by decide +kernel
theorem dX0_keep_14 : decode cX0_keep 14 = .ok (.aload_n 0, 1) := by decide +kernel
theorem dX0_keep_15 : decode cX0_keep 15 = .ok (.getfield 18, 3) := by decide +kernel
theorem dX0_keep_18 : decode cX0_keep 18 = .ok (.iconst 1, 1) := by decide +kernel
theorem dX0_keep_19 : decode cX0_keep 19 = .ok (.iadd, 1) := by decide +kernel
theorem dX0_keep_20 : decode cX0_keep 20 = .ok (.bipush 24, 2) := by decide +kernel
theorem dX0_keep_22 : decode cX0_keep 22 = .ok (.if_icmp .ge 12, 3) := by decide +kernel
theorem dX0_keep_25 : decode cX0_keep 25 = .ok (.aload_n 0, 1) := by decide +kernel
theorem dX0_keep_26 : decode cX0_keep 26 = .ok (.getfield 18, 3) := by decide +kernel
theorem dX0_keep_29 : decode cX0_keep 29 = .ok (.iconst 1, 1) := by decide +kernel
theorem dX0_keep_30 : decode cX0_keep 30 = .ok (.iadd, 1) := by decide +kernel
theorem dX0_keep_31 : decode cX0_keep 31 = .ok (.goto 4, 3) := by decide +kernel
theorem dX0_keep_34 : decode cX0_keep 34 = .ok (.iconst 0, 1) := by decide +kernel
theorem dX0_keep_35 : decode cX0_keep 35 = .ok (.putfield 18, 3) := by decide +kernel
theorem dX0_keep_38 : decode cX0_keep 38 = .ok (.aload_n 0, 1) := by decide +kernel
theorem dX0_keep_39 : decode cX0_keep 39 = .ok (.bipush 24, 2) := by decide +kernel
theorem dX0_keep_41 : decode cX0_keep 41 = .ok (.aload_n 0, 1) := by decide +kernel
theorem dX0_keep_42 : decode cX0_keep 42 = .ok (.getfield 22, 3) := by decide +kernel
theorem dX0_keep_45 : decode cX0_keep 45 = .ok (.iconst 1, 1) := by decide +kernel
theorem dX0_keep_46 : decode cX0_keep 46 = .ok (.iadd, 1) := by decide +kernel
theorem dX0_keep_47 : decode cX0_keep 47 = .ok (.invokestatic 29, 3) := by decide +kernel
theorem dX0_keep_50 : decode cX0_keep 50 = .ok (.putfield 22, 3) := by decide +kernel
theorem dX0_keep_53 : decode cX0_keep 53 = .ok (.return_, 1) := by decide +kernel
theorem dX0_bringBack_0 : decode cX0_bringBack 0 = .ok (.aload_n 0, 1) := by decide +kernel
theorem dX0_bringBack_1 : decode cX0_bringBack 1 = .ok (.getfield 22, 3) := by decide +kernel
theorem dX0_bringBack_4 : decode cX0_bringBack 4 = .ok (.ifCond .le 48, 3) := by decide +kernel
theorem dX0_bringBack_7 : decode cX0_bringBack 7 = .ok (.aload_n 0, 1) := by decide +kernel
theorem dX0_bringBack_8 : decode cX0_bringBack 8 = .ok (.aload_n 0, 1) := by decide +kernel
theorem dX0_bringBack_9 : decode cX0_bringBack 9 = .ok (.getfield 18, 3) := by decide +kernel
theorem dX0_bringBack_12 : decode cX0_bringBack 12 = .ok (.ifCond .le 12, 3) := by decide +kernel
theorem dX0_bringBack_15 : decode cX0_bringBack 15 = .ok (.aload_n 0, 1) := by decide +kernel
theorem dX0_bringBack_16 : decode cX0_bringBack 16 = .ok (.getfield 18, 3) := by decide +kernel
theorem dX0_bringBack_19 : decode cX0_bringBack 19 = .ok (.iconst 1, 1) := by decide +kernel
theorem dX0_bringBack_20 : decode cX0_bringBack 20 = .ok (.isub, 1) := by decide +kernel
theorem dX0_bringBack_21 : decode cX0_bringBack 21 = .ok (.goto 5, 3) := by decide +kernel
theorem dX0_bringBack_24 : decode cX0_bringBack 24 = .ok (.bipush 23, 2) := by decide +kernel
theorem dX0_bringBack_26 : decode cX0_bringBack 26 = .ok (.putfield 18, 3) := by decide +kernel
theorem dX0_bringBack_29 : decode cX0_bringBack 29 = .ok (.aload_n 0, 1) := by decide +kernel
theorem dX0_bringBack_30 : decode cX0_bringBack 30 = .ok (.dup, 1) := by decide +kernel
theorem dX0_bringBack_31 : decode cX0_bringBack 31 = .ok (.getfield 22, 3) := by decide +kernel
theorem dX0_bringBack_34 : decode cX0_bringBack 34 = .ok (.iconst 1, 1) := by decide +kernel
theorem dX0_bringBack_35 : decode cX0_bringBack 35 = .ok (.isub, 1) := by decide +kernel
theorem dX0_bringBack_36 : decode cX0_bringBack 36 = .ok (.putfield 22, 3) := by decide +kernel
theorem dX0_bringBack_39 : decode cX0_bringBack 39 = .ok (.aload_n 1, 1) := by decide +kernel
theorem dX0_bringBack_40 : decode cX0_bringBack 40 = .ok (.aload_n 0, 1) := by decide +kernel
theorem dX0_bringBack_41 : decode cX0_bringBack 41 = .ok (.getfield 11, 3) := by decide +kernel
theorem dX0_bringBack_44 : decode cX0_bringBack 44 = .ok (.aload_n 0, 1) := by decide +kernel
theorem dX0_bringBack_45 : decode cX0_bringBack 45 = .ok (.getfield 18, 3) := by decide +kernel
theorem dX0_bringBack_48 : decode cX0_bringBack 48 = .ok (.aaload, 1) := by decide +kernel
theorem dX0_bringBack_49 : decode cX0_bringBack 49 = .ok (.invokevirtual 25, 3) := by decide +kernel
theorem dX0_bringBack_52 : decode cX0_bringBack 52 = .ok (.return_, 1) := by decide +kernel
theorem dX1_init_0 : decode cX1_init 0 = .ok (.aload_n 0, 1) := by decide +kernel
theorem dX1_init_1 : decode cX1_init 1 = .ok (.invokespecial 3, 3) := by decide +kernel
theorem dX1_init_4 : decode cX1_init 4 = .ok (.aload_n 0, 1) := by decide +kernel
theorem dX1_init_5 : decode cX1_init 5 = .ok (.bipush 7, 2) := by decide +kernel
theorem dX1_init_7 : decode cX1_init 7 = .ok (.newarray .int, 2) := by decide +kernel
theorem dX1_init_9 : decode cX1_init 9 = .ok (.putfield 9, 3) := by decide +kernel
theorem dX1_init_12 : decode cX1_init 12 = .ok (.aload_n 0, 1) := by decide +kernel
theorem dX1_init_13 : decode cX1_init 13 = .ok (.bipush 7, 2) := by decide +kernel
theorem dX1_init_15 : decode cX1_init 15 = .ok (.newarray .int, 2) := by decide +kernel
theorem dX1_init_17 : decode cX1_init 17 = .ok (.putfield 15, 3) := by decide +kernel
theorem dX1_init_20 : decode cX1_init 20 = .ok (.aload_n 0, 1) := by decide +kernel
theorem dX1_init_21 : decode cX1_init 21 = .ok (.bipush 7, 2) := by decide +kernel
theorem dX1_init_23 : decode cX1_init 23 = .ok (.newarray .int, 2) := by decide +kernel
theorem dX1_init_25 : decode cX1_init 25 = .ok (.putfield 18, 3) := by decide +kernel
theorem dX1_init_28 : decode cX1_init 28 = .ok (.aload_n 0, 1) := by decide +kernel
theorem dX1_init_29 : decode cX1_init 29 = .ok (.bipush 7, 2) := by decide +kernel
theorem dX1_init_31 : decode cX1_init 31 = .ok (.newarray .int, 2) := by decide +kernel
theorem dX1_init_33 : decode cX1_init 33 = .ok (.putfield 21, 3) := by decide +kernel
theorem dX1_init_36 : decode cX1_init 36 = .ok (.aload_n 0, 1) := by decide +kernel
theorem dX1_init_37 : decode cX1_init 37 = .ok (.bipush 7, 2) := by decide +kernel
theorem dX1_init_39 : decode cX1_init 39 = .ok (.newarray .int, 2) := by decide +kernel
theorem dX1_init_41 : decode cX1_init 41 = .ok (.putfield 24, 3) := by decide +kernel
theorem dX1_init_44 : decode cX1_init 44 = .ok (.return_, 1) := by decide +kernel
theorem dX1_begin_0 : decode cX1_begin 0 = .ok (.aload_n 0, 1) := by decide +kernel
theorem dX1_begin_1 : decode cX1_begin 1 = .ok (.iconst 1, 1) := by decide +kernel
theorem dX1_begin_2 : decode cX1_begin 2 = .ok (.putfield 27, 3) := by decide +kernel
theorem dX1_begin_5 : decode cX1_begin 5 = .ok (.aload_n 0, 1) := by decide +kernel
theorem dX1_begin_6 : decode cX1_begin 6 = .ok (.iload_n 1, 1) := by decide +kernel
theorem dX1_begin_7 : decode cX1_begin 7 = .ok (.putfield 31, 3) := by decide +kernel
theorem dX1_begin_10 : decode cX1_begin 10 = .ok (.aload_n 0, 1) := by decide +kernel
theorem dX1_begin_11 : decode cX1_begin 11 = .ok (.iload_n 2, 1) := by decide +kernel
theorem dX1_begin_12 : decode cX1_begin 12 = .ok (.putfield 35, 3) := by decide +kernel
theorem dX1_begin_15 : decode cX1_begin 15 = .ok (.aload_n 0, 1) := by decide +kernel
theorem dX1_begin_16 : decode cX1_begin 16 = .ok (.iconst 0, 1) := by decide +kernel
theorem dX1_begin_17 : decode cX1_begin 17 = .ok (.putfield 38, 3) := by decide +kernel
theorem dX1_begin_20 : decode cX1_begin 20 = .ok (.aload_n 0, 1) := by decide +kernel
theorem dX1_begin_21 : decode cX1_begin 21 = .ok (.iconst 0, 1) := by decide +kernel
theorem dX1_begin_22 : decode cX1_begin 22 = .ok (.putfield 41, 3) := by decide +kernel
theorem dX1_begin_25 : decode cX1_begin 25 = .ok (.aload_n 0, 1) := by decide +kernel
theorem dX1_begin_26 : decode cX1_begin 26 = .ok (.iconst 0, 1) := by decide +kernel
theorem dX1_begin_27 : decode cX1_begin 27 = .ok (.putfield 44, 3) := by decide +kernel
theorem dX1_begin_30 : decode cX1_begin 30 = .ok (.aload_n 0, 1) := by decide +kernel
theorem dX1_begin_31 : decode cX1_begin 31 = .ok (.invokevirtual 47, 3) := by decide +kernel
theorem dX1_begin_34 : decode cX1_begin 34 = .ok (.return_, 1) := by decide +kernel
theorem dX1_take_0 : decode cX1_take 0 = .ok (.aload_n 0, 1) := by decide +kernel
theorem dX1_take_1 : decode cX1_take 1 = .ok (.aload_n 1, 1) := by decide +kernel
theorem dX1_take_2 : decode cX1_take 2 = .ok (.getfield 27, 3) := by decide +kernel
theorem dX1_take_5 : decode cX1_take 5 = .ok (.putfield 27, 3) := by decide +kernel
theorem dX1_take_8 : decode cX1_take 8 = .ok (.aload_n 0, 1) := by decide +kernel
theorem dX1_take_9 : decode cX1_take 9 = .ok (.aload_n 1, 1) := by decide +kernel
theorem dX1_take_10 : decode cX1_take 10 = .ok (.getfield 31, 3) := by decide +kernel
theorem dX1_take_13 : decode cX1_take 13 = .ok (.putfield 31, 3) := by decide +kernel
theorem dX1_take_16 : decode cX1_take 16 = .ok (.aload_n 0, 1) := by decide +kernel
theorem dX1_take_17 : decode cX1_take 17 = .ok (.aload_n 1, 1) := by decide +kernel
theorem dX1_take_18 : decode cX1_take 18 = .ok (.getfield 35, 3) := by decide +kernel
theorem dX1_take_21 : decode cX1_take 21 = .ok (.putfield 35, 3) := by decide +kernel
theorem dX1_take_24 : decode cX1_take 24 = .ok (.aload_n 0, 1) := by decide +kernel
theorem dX1_take_25 : decode cX1_take 25 = .ok (.aload_n 1, 1) := by decide +kernel
theorem dX1_take_26 : decode cX1_take 26 = .ok (.getfield 38, 3) := by decide +kernel
theorem dX1_take_29 : decode cX1_take 29 = .ok (.putfield 38, 3) := by decide +kernel
theorem dX1_take_32 : decode cX1_take 32 = .ok (.aload_n 0, 1) := by decide +kernel
theorem dX1_take_33 : decode cX1_take 33 = .ok (.aload_n 1, 1) := by decide +kernel
theorem dX1_take_34 : decode cX1_take 34 = .ok (.getfield 41, 3) := by decide +kernel
theorem dX1_take_37 : decode cX1_take 37 = .ok (.putfield 41, 3) := by decide +kernel
theorem dX1_take_40 : decode cX1_take 40 = .ok (.aload_n 0, 1) := by decide +kernel
theorem dX1_take_41 : decode cX1_take 41 = .ok (.aload_n 1, 1) := by decide +kernel
theorem dX1_take_42 : decode cX1_take 42 = .ok (.getfield 44, 3) := by decide +kernel
theorem dX1_take_45 : decode cX1_take 45 = .ok (.putfield 44, 3) := by decide +kernel
theorem dX1_take_48 : decode cX1_take 48 = .ok (.iconst 0, 1) := by decide +kernel
theorem dX1_take_49 : decode cX1_take 49 = .ok (.istore_n 2, 1) := by decide +kernel
theorem dX1_take_50 : decode cX1_take 50 = .ok (.iload_n 2, 1) := by decide +kernel
theorem dX1_take_51 : decode cX1_take 51 = .ok (.bipush 7, 2) := by decide +kernel
theorem dX1_take_53 : decode cX1_take 53 = .ok (.if_icmp .ge 69, 3) := by decide +kernel
theorem dX1_take_56 : decode cX1_take 56 = .ok (.aload_n 0, 1) := by decide +kernel
theorem dX1_take_57 : decode cX1_take 57 = .ok (.getfield 9, 3) := by decide +kernel
theorem dX1_take_60 : decode cX1_take 60 = .ok (.iload_n 2, 1) := by decide +kernel
theorem dX1_take_61 : decode cX1_take 61 = .ok (.aload_n 1, 1) := by decide +kernel
theorem dX1_take_62 : decode cX1_take 62 = .ok (.getfield 9, 3) := by decide +kernel
theorem dX1_take_65 : decode cX1_take 65 = .ok (.iload_n 2, 1) := by decide +kernel
theorem dX1_take_66 : decode cX1_take 66 = .ok (.iaload, 1) := by decide +kernel
theorem dX1_take_67 : decode cX1_take 67 = .ok (.iastore, 1) := by decide +kernel
theorem dX1_take_68 : decode cX1_take 68 = .ok (.aload_n 0, 1) := by decide +kernel
theorem dX1_take_69 : decode cX1_take 69 = .ok (.getfield 15, 3) := by decide +kernel
theorem dX1_take_72 : decode cX1_take 72 = .ok (.iload_n 2, 1) := by decide +kernel
theorem dX1_take_73 : decode cX1_take 73 = .ok (.aload_n 1, 1) := by decide +kernel
theorem dX1_take_74 : decode cX1_take 74 = .ok (.getfield 15, 3) := by decide +kernel
theorem dX1_take_77 : decode cX1_take 77 = .ok (.iload_n 2, 1) := by decide +kernel
theorem dX1_take_78 : decode cX1_take 78 = .ok (.iaload, 1) := by decide +kernel
theorem dX1_take_79 : decode cX1_take 79 = .ok (.iastore, 1) := by decide +kernel
theorem dX1_take_80 : decode cX1_take 80 = .ok (.aload_n 0, 1) := by decide +kernel
theorem dX1_take_81 : decode cX1_take 81 = .ok (.getfield 18, 3) := by decide +kernel
theorem dX1_take_84 : decode cX1_take 84 = .ok (.iload_n 2, 1) := by decide +kernel
theorem dX1_take_85 : decode cX1_take 85 = .ok (.aload_n 1, 1) := by decide +kernel
theorem dX1_take_86 : decode cX1_take 86 = .ok (.getfield 18, 3) := by decide +kernel
theorem dX1_take_89 : decode cX1_take 89 = .ok (.iload_n 2, 1) := by decide +kernel
theorem dX1_take_90 : decode cX1_take 90 = .ok (.iaload, 1) := by decide +kernel
theorem dX1_take_91 : decode cX1_take 91 = .ok (.iastore, 1) := by decide +kernel
theorem dX1_take_92 : decode cX1_take 92 = .ok (.aload_n 0, 1) := by decide +kernel
theorem dX1_take_93 : decode cX1_take 93 = .ok (.getfield 21, 3) := by decide +kernel
theorem dX1_take_96 : decode cX1_take 96 = .ok (.iload_n 2, 1) := by decide +kernel
theorem dX1_take_97 : decode cX1_take 97 = .ok (.aload_n 1, 1) := by decide +kernel
theorem dX1_take_98 : decode cX1_take 98 = .ok (.getfield 21, 3) := by decide +kernel
theorem dX1_take_101 : decode cX1_take 101 = .ok (.iload_n 2, 1) := by decide +kernel
theorem dX1_take_102 : decode cX1_take 102 = .ok (.iaload, 1) := by decide +kernel
theorem dX1_take_103 : decode cX1_take 103 = .ok (.iastore, 1) := by decide +kernel
theorem dX1_take_104 : decode cX1_take 104 = .ok (.aload_n 0, 1) := by decide +kernel
theorem dX1_take_105 : decode cX1_take 105 = .ok (.getfield 24, 3) := by decide +kernel
theorem dX1_take_108 : decode cX1_take 108 = .ok (.iload_n 2, 1) := by decide +kernel
theorem dX1_take_109 : decode cX1_take 109 = .ok (.aload_n 1, 1) := by decide +kernel
theorem dX1_take_110 : decode cX1_take 110 = .ok (.getfield 24, 3) := by decide +kernel
theorem dX1_take_113 : decode cX1_take 113 = .ok (.iload_n 2, 1) := by decide +kernel
theorem dX1_take_114 : decode cX1_take 114 = .ok (.iaload, 1) := by decide +kernel
theorem dX1_take_115 : decode cX1_take 115 = .ok (.iastore, 1) := by decide +kernel
theorem dX1_take_116 : decode cX1_take 116 = .ok (.iinc 2 1, 3) := by decide +kernel
theorem dX1_take_119 : decode cX1_take 119 = .ok (.goto (-69), 3) := by decide +kernel
theorem dX1_take_122 : decode cX1_take 122 = .ok (.return_, 1) := by decide +kernel
theorem dX1_forgetLacks_0 : decode cX1_forgetLacks 0 = .ok (.iconst 0, 1) := by decide +kernel
theorem dX1_forgetLacks_1 : decode cX1_forgetLacks 1 = .ok (.istore_n 1, 1) := by decide +kernel
theorem dX1_forgetLacks_2 : decode cX1_forgetLacks 2 = .ok (.iload_n 1, 1) := by decide +kernel
theorem dX1_forgetLacks_3 : decode cX1_forgetLacks 3 = .ok (.bipush 7, 2) := by decide +kernel
theorem dX1_forgetLacks_5 : decode cX1_forgetLacks 5 = .ok (.if_icmp .ge 16, 3) := by decide +kernel
theorem dX1_forgetLacks_8 : decode cX1_forgetLacks 8 = .ok (.aload_n 0, 1) := by decide +kernel
theorem dX1_forgetLacks_9 : decode cX1_forgetLacks 9 = .ok (.getfield 24, 3) := by decide +kernel
theorem dX1_forgetLacks_12 : decode cX1_forgetLacks 12 = .ok (.iload_n 1, 1) := by decide +kernel
theorem dX1_forgetLacks_13 : decode cX1_forgetLacks 13 = .ok (.iconst 0, 1) := by decide +kernel
theorem dX1_forgetLacks_14 : decode cX1_forgetLacks 14 = .ok (.iastore, 1) := by decide +kernel
theorem dX1_forgetLacks_15 : decode cX1_forgetLacks 15 = .ok (.iinc 1 1, 3) := by decide +kernel
theorem dX1_forgetLacks_18 : decode cX1_forgetLacks 18 = .ok (.goto (-16), 3) := by decide +kernel
theorem dX1_forgetLacks_21 : decode cX1_forgetLacks 21 = .ok (.return_, 1) := by decide +kernel
theorem dX1_has_0 : decode cX1_has 0 = .ok (.iload_n 1, 1) := by decide +kernel
theorem dX1_has_1 : decode cX1_has 1 = .ok (.ifCond .lt 15, 3) := by decide +kernel
theorem dX1_has_4 : decode cX1_has 4 = .ok (.iload_n 1, 1) := by decide +kernel
theorem dX1_has_5 : decode cX1_has 5 = .ok (.aload_n 0, 1) := by decide +kernel
theorem dX1_has_6 : decode cX1_has 6 = .ok (.getfield 38, 3) := by decide +kernel
theorem dX1_has_9 : decode cX1_has 9 = .ok (.if_icmp .ge 7, 3) := by decide +kernel
theorem dX1_has_12 : decode cX1_has 12 = .ok (.iconst 1, 1) := by decide +kernel
theorem dX1_has_13 : decode cX1_has 13 = .ok (.goto 4, 3) := by decide +kernel
theorem dX1_has_16 : decode cX1_has 16 = .ok (.iconst 0, 1) := by decide +kernel
theorem dX1_has_17 : decode cX1_has 17 = .ok (.ireturn, 1) := by decide +kernel
theorem dX1_hasFillsOf_0 : decode cX1_hasFillsOf 0 = .ok (.iconst 0, 1) := by decide +kernel
theorem dX1_hasFillsOf_1 : decode cX1_hasFillsOf 1 = .ok (.istore_n 2, 1) := by decide +kernel
theorem dX1_hasFillsOf_2 : decode cX1_hasFillsOf 2 = .ok (.iload_n 2, 1) := by decide +kernel
theorem dX1_hasFillsOf_3 : decode cX1_hasFillsOf 3 = .ok (.aload_n 0, 1) := by decide +kernel
theorem dX1_hasFillsOf_4 : decode cX1_hasFillsOf 4 = .ok (.getfield 38, 3) := by decide +kernel
theorem dX1_hasFillsOf_7 : decode cX1_hasFillsOf 7 = .ok (.if_icmp .ge 26, 3) := by decide +kernel
theorem dX1_hasFillsOf_10 : decode cX1_hasFillsOf 10 = .ok (.aload_n 0, 1) := by decide +kernel
theorem dX1_hasFillsOf_11 : decode cX1_hasFillsOf 11 = .ok (.getfield 15, 3) := by decide +kernel
theorem dX1_hasFillsOf_14 : decode cX1_hasFillsOf 14 = .ok (.iload_n 2, 1) := by decide +kernel
theorem dX1_hasFillsOf_15 : decode cX1_hasFillsOf 15 = .ok (.iaload, 1) := by decide +kernel
theorem dX1_hasFillsOf_16 : decode cX1_hasFillsOf 16 = .ok (.aload_n 1, 1) := by decide +kernel
theorem dX1_hasFillsOf_17 : decode cX1_hasFillsOf 17 = .ok (.getfield 15, 3) := by decide +kernel
theorem dX1_hasFillsOf_20 : decode cX1_hasFillsOf 20 = .ok (.iload_n 2, 1) := by decide +kernel
theorem dX1_hasFillsOf_21 : decode cX1_hasFillsOf 21 = .ok (.iaload, 1) := by decide +kernel
theorem dX1_hasFillsOf_22 : decode cX1_hasFillsOf 22 = .ok (.if_icmp .eq 5, 3) := by decide +kernel
theorem dX1_hasFillsOf_25 : decode cX1_hasFillsOf 25 = .ok (.iconst 0, 1) := by decide +kernel
theorem dX1_hasFillsOf_26 : decode cX1_hasFillsOf 26 = .ok (.ireturn, 1) := by decide +kernel
theorem dX1_hasFillsOf_27 : decode cX1_hasFillsOf 27 = .ok (.iinc 2 1, 3) := by decide +kernel
theorem dX1_hasFillsOf_30 : decode cX1_hasFillsOf 30 = .ok (.goto (-28), 3) := by decide +kernel
theorem dX1_hasFillsOf_33 : decode cX1_hasFillsOf 33 = .ok (.iconst 1, 1) := by decide +kernel
theorem dX1_hasFillsOf_34 : decode cX1_hasFillsOf 34 = .ok (.ireturn, 1) := by decide +kernel
theorem dX1_sum_0 : decode cX1_sum 0 = .ok (.iconst 0, 1) := by decide +kernel
theorem dX1_sum_1 : decode cX1_sum 1 = .ok (.istore_n 2, 1) := by decide +kernel
theorem dX1_sum_2 : decode cX1_sum 2 = .ok (.iconst 0, 1) := by decide +kernel
theorem dX1_sum_3 : decode cX1_sum 3 = .ok (.istore_n 3, 1) := by decide +kernel
theorem dX1_sum_4 : decode cX1_sum 4 = .ok (.iload_n 3, 1) := by decide +kernel
theorem dX1_sum_5 : decode cX1_sum 5 = .ok (.aload_n 0, 1) := by decide +kernel
theorem dX1_sum_6 : decode cX1_sum 6 = .ok (.getfield 38, 3) := by decide +kernel
theorem dX1_sum_9 : decode cX1_sum 9 = .ok (.if_icmp .ge 15, 3) := by decide +kernel
theorem dX1_sum_12 : decode cX1_sum 12 = .ok (.iload_n 2, 1) := by decide +kernel
theorem dX1_sum_13 : decode cX1_sum 13 = .ok (.aload_n 1, 1) := by decide +kernel
theorem dX1_sum_14 : decode cX1_sum 14 = .ok (.iload_n 3, 1) := by decide +kernel
theorem dX1_sum_15 : decode cX1_sum 15 = .ok (.iaload, 1) := by decide +kernel
theorem dX1_sum_16 : decode cX1_sum 16 = .ok (.iadd, 1) := by decide +kernel
theorem dX1_sum_17 : decode cX1_sum 17 = .ok (.istore_n 2, 1) := by decide +kernel
theorem dX1_sum_18 : decode cX1_sum 18 = .ok (.iinc 3 1, 3) := by decide +kernel
theorem dX1_sum_21 : decode cX1_sum 21 = .ok (.goto (-17), 3) := by decide +kernel
theorem dX1_sum_24 : decode cX1_sum 24 = .ok (.iload_n 2, 1) := by decide +kernel
theorem dX1_sum_25 : decode cX1_sum 25 = .ok (.ireturn, 1) := by decide +kernel
theorem dX1_wants_0 : decode cX1_wants 0 = .ok (.aload_n 0, 1) := by decide +kernel
theorem dX1_wants_1 : decode cX1_wants 1 = .ok (.getfield 9, 3) := by decide +kernel
theorem dX1_wants_4 : decode cX1_wants 4 = .ok (.iload_n 1, 1) := by decide +kernel
theorem dX1_wants_5 : decode cX1_wants 5 = .ok (.iaload, 1) := by decide +kernel
theorem dX1_wants_6 : decode cX1_wants 6 = .ok (.tableswitch 42 2 4 #[26, 40, 33], 26) := by decide +kernel
theorem dX1_wants_32 : decode cX1_wants 32 = .ok (.aload_n 0, 1) := by decide +kernel
theorem dX1_wants_33 : decode cX1_wants 33 = .ok (.getfield 31, 3) := by decide +kernel
theorem dX1_wants_36 : decode cX1_wants 36 = .ok (.iconst 2, 1) := by decide +kernel
theorem dX1_wants_37 : decode cX1_wants 37 = .ok (.idiv, 1) := by decide +kernel
theorem dX1_wants_38 : decode cX1_wants 38 = .ok (.ireturn, 1) := by decide +kernel
theorem dX1_wants_39 : decode cX1_wants 39 = .ok (.aload_n 0, 1) := by decide +kernel
theorem dX1_wants_40 : decode cX1_wants 40 = .ok (.getfield 31, 3) := by decide +kernel
theorem dX1_wants_43 : decode cX1_wants 43 = .ok (.iconst 2, 1) := by decide +kernel
theorem dX1_wants_44 : decode cX1_wants 44 = .ok (.imul, 1) := by decide +kernel
theorem dX1_wants_45 : decode cX1_wants 45 = .ok (.ireturn, 1) := by decide +kernel
theorem dX1_wants_46 : decode cX1_wants 46 = .ok (.iconst 0, 1) := by decide +kernel
theorem dX1_wants_47 : decode cX1_wants 47 = .ok (.ireturn, 1) := by decide +kernel
theorem dX1_wants_48 : decode cX1_wants 48 = .ok (.aload_n 0, 1) := by decide +kernel
theorem dX1_wants_49 : decode cX1_wants 49 = .ok (.getfield 31, 3) := by decide +kernel
theorem dX1_wants_52 : decode cX1_wants 52 = .ok (.ireturn, 1) := by decide +kernel
theorem dX1_passDay_0 : decode cX1_passDay 0 = .ok (.iconst 0, 1) := by decide +kernel
theorem dX1_passDay_1 : decode cX1_passDay 1 = .ok (.istore_n 2, 1) := by decide +kernel
theorem dX1_passDay_2 : decode cX1_passDay 2 = .ok (.iconst 0, 1) := by decide +kernel
theorem dX1_passDay_3 : decode cX1_passDay 3 = .ok (.istore_n 3, 1) := by decide +kernel
theorem dX1_passDay_4 : decode cX1_passDay 4 = .ok (.iload_n 3, 1) := by decide +kernel
theorem dX1_passDay_5 : decode cX1_passDay 5 = .ok (.aload_n 0, 1) := by decide +kernel
theorem dX1_passDay_6 : decode cX1_passDay 6 = .ok (.getfield 38, 3) := by decide +kernel
theorem dX1_passDay_9 : decode cX1_passDay 9 = .ok (.if_icmp .ge 92, 3) := by decide +kernel
theorem dX1_passDay_12 : decode cX1_passDay 12 = .ok (.aload_n 0, 1) := by decide +kernel
theorem dX1_passDay_13 : decode cX1_passDay 13 = .ok (.getfield 35, 3) := by decide +kernel
theorem dX1_passDay_16 : decode cX1_passDay 16 = .ok (.aload_n 0, 1) := by decide +kernel
theorem dX1_passDay_17 : decode cX1_passDay 17 = .ok (.getfield 15, 3) := by decide +kernel
theorem dX1_passDay_20 : decode cX1_passDay 20 = .ok (.iload_n 3, 1) := by decide +kernel
theorem dX1_passDay_21 : decode cX1_passDay 21 = .ok (.iaload, 1) := by decide +kernel
theorem dX1_passDay_22 : decode cX1_passDay 22 = .ok (.aload_n 0, 1) := by decide +kernel
theorem dX1_passDay_23 : decode cX1_passDay 23 = .ok (.getfield 18, 3) := by decide +kernel
theorem dX1_passDay_26 : decode cX1_passDay 26 = .ok (.iload_n 3, 1) := by decide +kernel
theorem dX1_passDay_27 : decode cX1_passDay 27 = .ok (.iaload, 1) := by decide +kernel
theorem dX1_passDay_28 : decode cX1_passDay 28 = .ok (.iadd, 1) := by decide +kernel
theorem dX1_passDay_29 : decode cX1_passDay 29 = .ok (.iload_n 1, 1) := by decide +kernel
theorem dX1_passDay_30 : decode cX1_passDay 30 = .ok (.iadd, 1) := by decide +kernel
theorem dX1_passDay_31 : decode cX1_passDay 31 = .ok (.invokestatic 50, 3) := by decide +kernel
theorem dX1_passDay_34 : decode cX1_passDay 34 = .ok (.istore 4, 2) := by decide +kernel
theorem dX1_passDay_36 : decode cX1_passDay 36 = .ok (.aload_n 0, 1) := by decide +kernel
theorem dX1_passDay_37 : decode cX1_passDay 37 = .ok (.getfield 21, 3) := by decide +kernel
theorem dX1_passDay_40 : decode cX1_passDay 40 = .ok (.iload_n 3, 1) := by decide +kernel
theorem dX1_passDay_41 : decode cX1_passDay 41 = .ok (.iaload, 1) := by decide +kernel
theorem dX1_passDay_42 : decode cX1_passDay 42 = .ok (.iload 4, 2) := by decide +kernel
theorem dX1_passDay_44 : decode cX1_passDay 44 = .ok (.invokestatic 50, 3) := by decide +kernel
theorem dX1_passDay_47 : decode cX1_passDay 47 = .ok (.istore 5, 2) := by decide +kernel
theorem dX1_passDay_49 : decode cX1_passDay 49 = .ok (.aload_n 0, 1) := by decide +kernel
theorem dX1_passDay_50 : decode cX1_passDay 50 = .ok (.getfield 15, 3) := by decide +kernel
theorem dX1_passDay_53 : decode cX1_passDay 53 = .ok (.iload_n 3, 1) := by decide +kernel
theorem dX1_passDay_54 : decode cX1_passDay 54 = .ok (.iload 4, 2) := by decide +kernel
theorem dX1_passDay_56 : decode cX1_passDay 56 = .ok (.iload 5, 2) := by decide +kernel
theorem dX1_passDay_58 : decode cX1_passDay 58 = .ok (.isub, 1) := by decide +kernel
theorem dX1_passDay_59 : decode cX1_passDay 59 = .ok (.iastore, 1) := by decide +kernel
theorem dX1_passDay_60 : decode cX1_passDay 60 = .ok (.iload 5, 2) := by decide +kernel
theorem dX1_passDay_62 : decode cX1_passDay 62 = .ok (.aload_n 0, 1) := by decide +kernel
theorem dX1_passDay_63 : decode cX1_passDay 63 = .ok (.getfield 21, 3) := by decide +kernel
theorem dX1_passDay_66 : decode cX1_passDay 66 = .ok (.iload_n 3, 1) := by decide +kernel
theorem dX1_passDay_67 : decode cX1_passDay 67 = .ok (.iaload, 1) := by decide +kernel
theorem dX1_passDay_68 : decode cX1_passDay 68 = .ok (.if_icmp .ge 27, 3) := by decide +kernel
theorem dX1_passDay_71 : decode cX1_passDay 71 = .ok (.aload_n 0, 1) := by decide +kernel
theorem dX1_passDay_72 : decode cX1_passDay 72 = .ok (.getfield 24, 3) := by decide +kernel
theorem dX1_passDay_75 : decode cX1_passDay 75 = .ok (.iload_n 3, 1) := by decide +kernel
theorem dX1_passDay_76 : decode cX1_passDay 76 = .ok (.dup2, 1) := by decide +kernel
theorem dX1_passDay_77 : decode cX1_passDay 77 = .ok (.iaload, 1) := by decide +kernel
theorem dX1_passDay_78 : decode cX1_passDay 78 = .ok (.aload_n 0, 1) := by decide +kernel
theorem dX1_passDay_79 : decode cX1_passDay 79 = .ok (.getfield 21, 3) := by decide +kernel
theorem dX1_passDay_82 : decode cX1_passDay 82 = .ok (.iload_n 3, 1) := by decide +kernel
theorem dX1_passDay_83 : decode cX1_passDay 83 = .ok (.iaload, 1) := by decide +kernel
theorem dX1_passDay_84 : decode cX1_passDay 84 = .ok (.iload 5, 2) := by decide +kernel
theorem dX1_passDay_86 : decode cX1_passDay 86 = .ok (.isub, 1) := by decide +kernel
theorem dX1_passDay_87 : decode cX1_passDay 87 = .ok (.iadd, 1) := by decide +kernel
theorem dX1_passDay_88 : decode cX1_passDay 88 = .ok (.iastore, 1) := by decide +kernel
theorem dX1_passDay_89 : decode cX1_passDay 89 = .ok (.iload_n 2, 1) := by decide +kernel
theorem dX1_passDay_90 : decode cX1_passDay 90 = .ok (.iconst 1, 1) := by decide +kernel
theorem dX1_passDay_91 : decode cX1_passDay 91 = .ok (.iload_n 3, 1) := by decide +kernel
theorem dX1_passDay_92 : decode cX1_passDay 92 = .ok (.ishl, 1) := by decide +kernel
theorem dX1_passDay_93 : decode cX1_passDay 93 = .ok (.ior, 1) := by decide +kernel
theorem dX1_passDay_94 : decode cX1_passDay 94 = .ok (.istore_n 2, 1) := by decide +kernel
theorem dX1_passDay_95 : decode cX1_passDay 95 = .ok (.iinc 3 1, 3) := by decide +kernel
theorem dX1_passDay_98 : decode cX1_passDay 98 = .ok (.goto (-94), 3) := by decide +kernel
theorem dX1_passDay_101 : decode cX1_passDay 101 = .ok (.aload_n 0, 1) := by decide +kernel
theorem dX1_passDay_102 : decode cX1_passDay 102 = .ok (.iconst 1, 1) := by decide +kernel
theorem dX1_passDay_103 : decode cX1_passDay 103 = .ok (.aload_n 0, 1) := by decide +kernel
theorem dX1_passDay_104 : decode cX1_passDay 104 = .ok (.getfield 38, 3) := by decide +kernel
theorem dX1_passDay_107 : decode cX1_passDay 107 = .ok (.ishl, 1) := by decide +kernel
theorem dX1_passDay_108 : decode cX1_passDay 108 = .ok (.iconst 1, 1) := by decide +kernel
theorem dX1_passDay_109 : decode cX1_passDay 109 = .ok (.isub, 1) := by decide +kernel
theorem dX1_passDay_110 : decode cX1_passDay 110 = .ok (.invokevirtual 56, 3) := by decide +kernel
theorem dX1_passDay_113 : decode cX1_passDay 113 = .ok (.aload_n 0, 1) := by decide +kernel
theorem dX1_passDay_114 : decode cX1_passDay 114 = .ok (.dup, 1) := by decide +kernel
theorem dX1_passDay_115 : decode cX1_passDay 115 = .ok (.getfield 41, 3) := by decide +kernel
theorem dX1_passDay_118 : decode cX1_passDay 118 = .ok (.iconst 1, 1) := by decide +kernel
theorem dX1_passDay_119 : decode cX1_passDay 119 = .ok (.iadd, 1) := by decide +kernel
theorem dX1_passDay_120 : decode cX1_passDay 120 = .ok (.putfield 41, 3) := by decide +kernel
theorem dX1_passDay_123 : decode cX1_passDay 123 = .ok (.iload_n 2, 1) := by decide +kernel
theorem dX1_passDay_124 : decode cX1_passDay 124 = .ok (.ireturn, 1) := by decide +kernel
theorem dX1_passNight_0 : decode cX1_passNight 0 = .ok (.iconst 0, 1) := by decide +kernel
theorem dX1_passNight_1 : decode cX1_passNight 1 = .ok (.istore_n 2, 1) := by decide +kernel
theorem dX1_passNight_2 : decode cX1_passNight 2 = .ok (.iload_n 2, 1) := by decide +kernel
theorem dX1_passNight_3 : decode cX1_passNight 3 = .ok (.aload_n 0, 1) := by decide +kernel
theorem dX1_passNight_4 : decode cX1_passNight 4 = .ok (.getfield 38, 3) := by decide +kernel
theorem dX1_passNight_7 : decode cX1_passNight 7 = .ok (.if_icmp .ge 101, 3) := by decide +kernel
theorem dX1_passNight_10 : decode cX1_passNight 10 = .ok (.iload_n 2, 1) := by decide +kernel
theorem dX1_passNight_11 : decode cX1_passNight 11 = .ok (.iconst 1, 1) := by decide +kernel
theorem dX1_passNight_12 : decode cX1_passNight 12 = .ok (.iadd, 1) := by decide +kernel
theorem dX1_passNight_13 : decode cX1_passNight 13 = .ok (.aload_n 0, 1) := by decide +kernel
theorem dX1_passNight_14 : decode cX1_passNight 14 = .ok (.getfield 38, 3) := by decide +kernel
theorem dX1_passNight_17 : decode cX1_passNight 17 = .ok (.if_icmp .ge 9, 3) := by decide +kernel
theorem dX1_passNight_20 : decode cX1_passNight 20 = .ok (.iload_n 2, 1) := by decide +kernel
theorem dX1_passNight_21 : decode cX1_passNight 21 = .ok (.iconst 1, 1) := by decide +kernel
theorem dX1_passNight_22 : decode cX1_passNight 22 = .ok (.iadd, 1) := by decide +kernel
theorem dX1_passNight_23 : decode cX1_passNight 23 = .ok (.goto 4, 3) := by decide +kernel
theorem dX1_passNight_26 : decode cX1_passNight 26 = .ok (.iconst 0, 1) := by decide +kernel
theorem dX1_passNight_27 : decode cX1_passNight 27 = .ok (.istore_n 3, 1) := by decide +kernel
theorem dX1_passNight_28 : decode cX1_passNight 28 = .ok (.iload_n 1, 1) := by decide +kernel
theorem dX1_passNight_29 : decode cX1_passNight 29 = .ok (.iload_n 2, 1) := by decide +kernel
theorem dX1_passNight_30 : decode cX1_passNight 30 = .ok (.ishr, 1) := by decide +kernel
theorem dX1_passNight_31 : decode cX1_passNight 31 = .ok (.iconst 1, 1) := by decide +kernel
theorem dX1_passNight_32 : decode cX1_passNight 32 = .ok (.iand, 1) := by decide +kernel
theorem dX1_passNight_33 : decode cX1_passNight 33 = .ok (.iconst 1, 1) := by decide +kernel
theorem dX1_passNight_34 : decode cX1_passNight 34 = .ok (.if_icmp .ne 68, 3) := by decide +kernel
theorem dX1_passNight_37 : decode cX1_passNight 37 = .ok (.aload_n 0, 1) := by decide +kernel
theorem dX1_passNight_38 : decode cX1_passNight 38 = .ok (.iload_n 2, 1) := by decide +kernel
theorem dX1_passNight_39 : decode cX1_passNight 39 = .ok (.invokevirtual 60, 3) := by decide +kernel
theorem dX1_passNight_42 : decode cX1_passNight 42 = .ok (.ifCond .ne 60, 3) := by decide +kernel
theorem dX1_passNight_45 : decode cX1_passNight 45 = .ok (.aload_n 0, 1) := by decide +kernel
theorem dX1_passNight_46 : decode cX1_passNight 46 = .ok (.iload_n 3, 1) := by decide +kernel
theorem dX1_passNight_47 : decode cX1_passNight 47 = .ok (.invokevirtual 64, 3) := by decide +kernel
theorem dX1_passNight_50 : decode cX1_passNight 50 = .ok (.ifCond .ne 52, 3) := by decide +kernel
theorem dX1_passNight_53 : decode cX1_passNight 53 = .ok (.aload_n 0, 1) := by decide +kernel
theorem dX1_passNight_54 : decode cX1_passNight 54 = .ok (.iload_n 2, 1) := by decide +kernel
theorem dX1_passNight_55 : decode cX1_passNight 55 = .ok (.invokevirtual 67, 3) := by decide +kernel
theorem dX1_passNight_58 : decode cX1_passNight 58 = .ok (.aload_n 0, 1) := by decide +kernel
theorem dX1_passNight_59 : decode cX1_passNight 59 = .ok (.getfield 15, 3) := by decide +kernel
theorem dX1_passNight_62 : decode cX1_passNight 62 = .ok (.iload_n 3, 1) := by decide +kernel
theorem dX1_passNight_63 : decode cX1_passNight 63 = .ok (.iaload, 1) := by decide +kernel
theorem dX1_passNight_64 : decode cX1_passNight 64 = .ok (.invokestatic 50, 3) := by decide +kernel
theorem dX1_passNight_67 : decode cX1_passNight 67 = .ok (.istore 4, 2) := by decide +kernel
theorem dX1_passNight_69 : decode cX1_passNight 69 = .ok (.aload_n 0, 1) := by decide +kernel
theorem dX1_passNight_70 : decode cX1_passNight 70 = .ok (.getfield 15, 3) := by decide +kernel
theorem dX1_passNight_73 : decode cX1_passNight 73 = .ok (.iload_n 3, 1) := by decide +kernel
theorem dX1_passNight_74 : decode cX1_passNight 74 = .ok (.dup2, 1) := by decide +kernel
theorem dX1_passNight_75 : decode cX1_passNight 75 = .ok (.iaload, 1) := by decide +kernel
theorem dX1_passNight_76 : decode cX1_passNight 76 = .ok (.iload 4, 2) := by decide +kernel
theorem dX1_passNight_78 : decode cX1_passNight 78 = .ok (.isub, 1) := by decide +kernel
theorem dX1_passNight_79 : decode cX1_passNight 79 = .ok (.iastore, 1) := by decide +kernel
theorem dX1_passNight_80 : decode cX1_passNight 80 = .ok (.aload_n 0, 1) := by decide +kernel
theorem dX1_passNight_81 : decode cX1_passNight 81 = .ok (.getfield 15, 3) := by decide +kernel
theorem dX1_passNight_84 : decode cX1_passNight 84 = .ok (.iload_n 2, 1) := by decide +kernel
theorem dX1_passNight_85 : decode cX1_passNight 85 = .ok (.aload_n 0, 1) := by decide +kernel
theorem dX1_passNight_86 : decode cX1_passNight 86 = .ok (.getfield 35, 3) := by decide +kernel
theorem dX1_passNight_89 : decode cX1_passNight 89 = .ok (.aload_n 0, 1) := by decide +kernel
theorem dX1_passNight_90 : decode cX1_passNight 90 = .ok (.getfield 15, 3) := by decide +kernel
theorem dX1_passNight_93 : decode cX1_passNight 93 = .ok (.iload_n 2, 1) := by decide +kernel
theorem dX1_passNight_94 : decode cX1_passNight 94 = .ok (.iaload, 1) := by decide +kernel
theorem dX1_passNight_95 : decode cX1_passNight 95 = .ok (.iload 4, 2) := by decide +kernel
theorem dX1_passNight_97 : decode cX1_passNight 97 = .ok (.iadd, 1) := by decide +kernel
theorem dX1_passNight_98 : decode cX1_passNight 98 = .ok (.invokestatic 50, 3) := by decide +kernel
theorem dX1_passNight_101 : decode cX1_passNight 101 = .ok (.iastore, 1) := by decide +kernel
theorem dX1_passNight_102 : decode cX1_passNight 102 = .ok (.iinc 2 1, 3) := by decide +kernel
theorem dX1_passNight_105 : decode cX1_passNight 105 = .ok (.goto (-103), 3) := by decide +kernel
theorem dX1_passNight_108 : decode cX1_passNight 108 = .ok (.return_, 1) := by decide +kernel
theorem dX1_isGuarding_0 : decode cX1_isGuarding 0 = .ok (.aload_n 0, 1) := by decide +kernel
theorem dX1_isGuarding_1 : decode cX1_isGuarding 1 = .ok (.getfield 44, 3) := by decide +kernel
theorem dX1_isGuarding_4 : decode cX1_isGuarding 4 = .ok (.iload_n 1, 1) := by decide +kernel
theorem dX1_isGuarding_5 : decode cX1_isGuarding 5 = .ok (.ishr, 1) := by decide +kernel
theorem dX1_isGuarding_6 : decode cX1_isGuarding 6 = .ok (.iconst 1, 1) := by decide +kernel
theorem dX1_isGuarding_7 : decode cX1_isGuarding 7 = .ok (.iand, 1) := by decide +kernel
theorem dX1_isGuarding_8 : decode cX1_isGuarding 8 = .ok (.iconst 1, 1) := by decide +kernel
theorem dX1_isGuarding_9 : decode cX1_isGuarding 9 = .ok (.if_icmp .ne 7, 3) := by decide +kernel
theorem dX1_isGuarding_12 : decode cX1_isGuarding 12 = .ok (.iconst 1, 1) := by decide +kernel
theorem dX1_isGuarding_13 : decode cX1_isGuarding 13 = .ok (.goto 4, 3) := by decide +kernel
theorem dX1_isGuarding_16 : decode cX1_isGuarding 16 = .ok (.iconst 0, 1) := by decide +kernel
theorem dX1_isGuarding_17 : decode cX1_isGuarding 17 = .ok (.ireturn, 1) := by decide +kernel
theorem dX1_isWatched_0 : decode cX1_isWatched 0 = .ok (.aload_n 0, 1) := by decide +kernel
theorem dX1_isWatched_1 : decode cX1_isWatched 1 = .ok (.iload_n 1, 1) := by decide +kernel
theorem dX1_isWatched_2 : decode cX1_isWatched 2 = .ok (.invokevirtual 60, 3) := by decide +kernel
theorem dX1_isWatched_5 : decode cX1_isWatched 5 = .ok (.ifCond .ne 13, 3) := by decide +kernel
theorem dX1_isWatched_8 : decode cX1_isWatched 8 = .ok (.aload_n 0, 1) := by decide +kernel
theorem dX1_isWatched_9 : decode cX1_isWatched 9 = .ok (.getfield 9, 3) := by decide +kernel
theorem dX1_isWatched_12 : decode cX1_isWatched 12 = .ok (.iload_n 1, 1) := by decide +kernel
theorem dX1_isWatched_13 : decode cX1_isWatched 13 = .ok (.iaload, 1) := by decide +kernel
theorem dX1_isWatched_14 : decode cX1_isWatched 14 = .ok (.iconst 5, 1) := by decide +kernel
theorem dX1_isWatched_15 : decode cX1_isWatched 15 = .ok (.if_icmp .ne 7, 3) := by decide +kernel
theorem dX1_isWatched_18 : decode cX1_isWatched 18 = .ok (.iconst 1, 1) := by decide +kernel
theorem dX1_isWatched_19 : decode cX1_isWatched 19 = .ok (.goto 4, 3) := by decide +kernel
theorem dX1_isWatched_22 : decode cX1_isWatched 22 = .ok (.iconst 0, 1) := by decide +kernel
theorem dX1_isWatched_23 : decode cX1_isWatched 23 = .ok (.ireturn, 1) := by decide +kernel
theorem dX1_passDays_0 : decode cX1_passDays 0 = .ok (.iconst 0, 1) := by decide +kernel
theorem dX1_passDays_1 : decode cX1_passDays 1 = .ok (.istore_n 2, 1) := by decide +kernel
theorem dX1_passDays_2 : decode cX1_passDays 2 = .ok (.iload_n 2, 1) := by decide +kernel
theorem dX1_passDays_3 : decode cX1_passDays 3 = .ok (.iload_n 1, 1) := by decide +kernel
theorem dX1_passDays_4 : decode cX1_passDays 4 = .ok (.if_icmp .ge 15, 3) := by decide +kernel
theorem dX1_passDays_7 : decode cX1_passDays 7 = .ok (.aload_n 0, 1) := by decide +kernel
theorem dX1_passDays_8 : decode cX1_passDays 8 = .ok (.iconst 0, 1) := by decide +kernel
theorem dX1_passDays_9 : decode cX1_passDays 9 = .ok (.invokevirtual 71, 3) := by decide +kernel
theorem dX1_passDays_12 : decode cX1_passDays 12 = .ok (.pop, 1) := by decide +kernel
theorem dX1_passDays_13 : decode cX1_passDays 13 = .ok (.iinc 2 1, 3) := by decide +kernel
theorem dX1_passDays_16 : decode cX1_passDays 16 = .ok (.goto (-14), 3) := by decide +kernel
theorem dX1_passDays_19 : decode cX1_passDays 19 = .ok (.return_, 1) := by decide +kernel
theorem dX1_firstLack_0 : decode cX1_firstLack 0 = .ok (.iconst 0, 1) := by decide +kernel
theorem dX1_firstLack_1 : decode cX1_firstLack 1 = .ok (.istore_n 2, 1) := by decide +kernel
theorem dX1_firstLack_2 : decode cX1_firstLack 2 = .ok (.iload_n 2, 1) := by decide +kernel
theorem dX1_firstLack_3 : decode cX1_firstLack 3 = .ok (.iload_n 1, 1) := by decide +kernel
theorem dX1_firstLack_4 : decode cX1_firstLack 4 = .ok (.if_icmp .ge 19, 3) := by decide +kernel
theorem dX1_firstLack_7 : decode cX1_firstLack 7 = .ok (.aload_n 0, 1) := by decide +kernel
theorem dX1_firstLack_8 : decode cX1_firstLack 8 = .ok (.iconst 0, 1) := by decide +kernel
theorem dX1_firstLack_9 : decode cX1_firstLack 9 = .ok (.invokevirtual 71, 3) := by decide +kernel
theorem dX1_firstLack_12 : decode cX1_firstLack 12 = .ok (.ifCond .eq 5, 3) := by decide +kernel
theorem dX1_firstLack_15 : decode cX1_firstLack 15 = .ok (.iload_n 2, 1) := by decide +kernel
theorem dX1_firstLack_16 : decode cX1_firstLack 16 = .ok (.ireturn, 1) := by decide +kernel
theorem dX1_firstLack_17 : decode cX1_firstLack 17 = .ok (.iinc 2 1, 3) := by decide +kernel
theorem dX1_firstLack_20 : decode cX1_firstLack 20 = .ok (.goto (-18), 3) := by decide +kernel
theorem dX1_firstLack_23 : decode cX1_firstLack 23 = .ok (.ldc 74, 2) := by decide +kernel
theorem dX1_firstLack_25 : decode cX1_firstLack 25 = .ok (.ireturn, 1) := by decide +kernel
theorem dX2_init_0 : decode cX2_init 0 = .ok (.aload_n 0, 1) := by decide +kernel
theorem dX2_init_1 : decode cX2_init 1 = .ok (.invokespecial 3, 3) := by decide +kernel
theorem dX2_init_4 : decode cX2_init 4 = .ok (.aload_n 0, 1) := by decide +kernel
theorem dX2_init_5 : decode cX2_init 5 = .ok (.bipush 40, 2) := by decide +kernel
theorem dX2_init_7 : decode cX2_init 7 = .ok (.newarray .int, 2) := by decide +kernel
theorem dX2_init_9 : decode cX2_init 9 = .ok (.putfield 9, 3) := by decide +kernel
theorem dX2_init_12 : decode cX2_init 12 = .ok (.return_, 1) := by decide +kernel
theorem dX2_make_0 : decode cX2_make 0 = .ok (.aload_n 0, 1) := by decide +kernel
theorem dX2_make_1 : decode cX2_make 1 = .ok (.iconst 1, 1) := by decide +kernel
theorem dX2_make_2 : decode cX2_make 2 = .ok (.putfield 15, 3) := by decide +kernel
theorem dX2_make_5 : decode cX2_make 5 = .ok (.aload_n 0, 1) := by decide +kernel
theorem dX2_make_6 : decode cX2_make 6 = .ok (.iload_n 1, 1) := by decide +kernel
theorem dX2_make_7 : decode cX2_make 7 = .ok (.putfield 19, 3) := by decide +kernel
theorem dX2_make_10 : decode cX2_make 10 = .ok (.aload_n 0, 1) := by decide +kernel
theorem dX2_make_11 : decode cX2_make 11 = .ok (.iload_n 2, 1) := by decide +kernel
theorem dX2_make_12 : decode cX2_make 12 = .ok (.putfield 23, 3) := by decide +kernel
theorem dX2_make_15 : decode cX2_make 15 = .ok (.iconst 0, 1) := by decide +kernel
theorem dX2_make_16 : decode cX2_make 16 = .ok (.istore_n 3, 1) := by decide +kernel
theorem dX2_make_17 : decode cX2_make 17 = .ok (.iload_n 3, 1) := by decide +kernel
theorem dX2_make_18 : decode cX2_make 18 = .ok (.bipush 40, 2) := by decide +kernel
theorem dX2_make_20 : decode cX2_make 20 = .ok (.if_icmp .ge 16, 3) := by decide +kernel
theorem dX2_make_23 : decode cX2_make 23 = .ok (.aload_n 0, 1) := by decide +kernel
theorem dX2_make_24 : decode cX2_make 24 = .ok (.getfield 9, 3) := by decide +kernel
theorem dX2_make_27 : decode cX2_make 27 = .ok (.iload_n 3, 1) := by decide +kernel
theorem dX2_make_28 : decode cX2_make 28 = .ok (.iconst 0, 1) := by decide +kernel
theorem dX2_make_29 : decode cX2_make 29 = .ok (.iastore, 1) := by decide +kernel
theorem dX2_make_30 : decode cX2_make 30 = .ok (.iinc 3 1, 3) := by decide +kernel
theorem dX2_make_33 : decode cX2_make 33 = .ok (.goto (-16), 3) := by decide +kernel
theorem dX2_make_36 : decode cX2_make 36 = .ok (.return_, 1) := by decide +kernel
theorem dX2_spans_0 : decode cX2_spans 0 = .ok (.iload_n 1, 1) := by decide +kernel
theorem dX2_spans_1 : decode cX2_spans 1 = .ok (.ifCond .lt 21, 3) := by decide +kernel
theorem dX2_spans_4 : decode cX2_spans 4 = .ok (.iload_n 2, 1) := by decide +kernel
theorem dX2_spans_5 : decode cX2_spans 5 = .ok (.ifCond .lt 17, 3) := by decide +kernel
theorem dX2_spans_8 : decode cX2_spans 8 = .ok (.iload_n 2, 1) := by decide +kernel
theorem dX2_spans_9 : decode cX2_spans 9 = .ok (.aload_n 0, 1) := by decide +kernel
theorem dX2_spans_10 : decode cX2_spans 10 = .ok (.getfield 23, 3) := by decide +kernel
theorem dX2_spans_13 : decode cX2_spans 13 = .ok (.iload_n 1, 1) := by decide +kernel
theorem dX2_spans_14 : decode cX2_spans 14 = .ok (.isub, 1) := by decide +kernel
theorem dX2_spans_15 : decode cX2_spans 15 = .ok (.if_icmp .gt 7, 3) := by decide +kernel
theorem dX2_spans_18 : decode cX2_spans 18 = .ok (.iconst 1, 1) := by decide +kernel
theorem dX2_spans_19 : decode cX2_spans 19 = .ok (.goto 4, 3) := by decide +kernel
theorem dX2_spans_22 : decode cX2_spans 22 = .ok (.iconst 0, 1) := by decide +kernel
theorem dX2_spans_23 : decode cX2_spans 23 = .ok (.ireturn, 1) := by decide +kernel
theorem dX2_put_0 : decode cX2_put 0 = .ok (.aload_n 0, 1) := by decide +kernel
theorem dX2_put_1 : decode cX2_put 1 = .ok (.iload_n 1, 1) := by decide +kernel
theorem dX2_put_2 : decode cX2_put 2 = .ok (.iconst 1, 1) := by decide +kernel
theorem dX2_put_3 : decode cX2_put 3 = .ok (.invokevirtual 26, 3) := by decide +kernel
theorem dX2_put_6 : decode cX2_put 6 = .ok (.ifCond .ne 5, 3) := by decide +kernel
theorem dX2_put_9 : decode cX2_put 9 = .ok (.iconst 0, 1) := by decide +kernel
theorem dX2_put_10 : decode cX2_put 10 = .ok (.ireturn, 1) := by decide +kernel
theorem dX2_put_11 : decode cX2_put 11 = .ok (.aload_n 0, 1) := by decide +kernel
theorem dX2_put_12 : decode cX2_put 12 = .ok (.getfield 9, 3) := by decide +kernel
theorem dX2_put_15 : decode cX2_put 15 = .ok (.iload_n 1, 1) := by decide +kernel
theorem dX2_put_16 : decode cX2_put 16 = .ok (.aload_n 0, 1) := by decide +kernel
theorem dX2_put_17 : decode cX2_put 17 = .ok (.iload_n 2, 1) := by decide +kernel
theorem dX2_put_18 : decode cX2_put 18 = .ok (.invokevirtual 30, 3) := by decide +kernel
theorem dX2_put_21 : decode cX2_put 21 = .ok (.iastore, 1) := by decide +kernel
theorem dX2_put_22 : decode cX2_put 22 = .ok (.aload_n 0, 1) := by decide +kernel
theorem dX2_put_23 : decode cX2_put 23 = .ok (.getfield 9, 3) := by decide +kernel
theorem dX2_put_26 : decode cX2_put 26 = .ok (.iload_n 1, 1) := by decide +kernel
theorem dX2_put_27 : decode cX2_put 27 = .ok (.iaload, 1) := by decide +kernel
theorem dX2_put_28 : decode cX2_put 28 = .ok (.ireturn, 1) := by decide +kernel
theorem dX2_inLane_0 : decode cX2_inLane 0 = .ok (.aload_n 0, 1) := by decide +kernel
theorem dX2_inLane_1 : decode cX2_inLane 1 = .ok (.getfield 19, 3) := by decide +kernel
theorem dX2_inLane_4 : decode cX2_inLane 4 = .ok (.lookupswitch 34 #[(0, 28), (1, 31)], 28) := by decide +kernel
theorem dX2_inLane_32 : decode cX2_inLane 32 = .ok (.iload_n 1, 1) := by decide +kernel
theorem dX2_inLane_33 : decode cX2_inLane 33 = .ok (.i2b, 1) := by decide +kernel
theorem dX2_inLane_34 : decode cX2_inLane 34 = .ok (.ireturn, 1) := by decide +kernel
theorem dX2_inLane_35 : decode cX2_inLane 35 = .ok (.iload_n 1, 1) := by decide +kernel
theorem dX2_inLane_36 : decode cX2_inLane 36 = .ok (.i2s, 1) := by decide +kernel
theorem dX2_inLane_37 : decode cX2_inLane 37 = .ok (.ireturn, 1) := by decide +kernel
theorem dX2_inLane_38 : decode cX2_inLane 38 = .ok (.iload_n 1, 1) := by decide +kernel
theorem dX2_inLane_39 : decode cX2_inLane 39 = .ok (.ireturn, 1) := by decide +kernel
theorem dX3_init_0 : decode cX3_init 0 = .ok (.aload_n 0, 1) := by decide +kernel
theorem dX3_init_1 : decode cX3_init 1 = .ok (.invokespecial 3, 3) := by decide +kernel
theorem dX3_init_4 : decode cX3_init 4 = .ok (.aload_n 0, 1) := by decide +kernel
theorem dX3_init_5 : decode cX3_init 5 = .ok (.sipush 400, 3) := by decide +kernel
theorem dX3_init_8 : decode cX3_init 8 = .ok (.newarray .byte, 2) := by decide +kernel
theorem dX3_init_10 : decode cX3_init 10 = .ok (.putfield 9, 3) := by decide +kernel
theorem dX3_init_13 : decode cX3_init 13 = .ok (.return_, 1) := by decide +kernel
theorem dX3_append_0 : decode cX3_append 0 = .ok (.iload_n 3, 1) := by decide +kernel
theorem dX3_append_1 : decode cX3_append 1 = .ok (.iconst 1, 1) := by decide +kernel
theorem dX3_append_2 : decode cX3_append 2 = .ok (.isub, 1) := by decide +kernel
theorem dX3_append_3 : decode cX3_append 3 = .ok (.istore 4, 2) := by decide +kernel
theorem dX3_append_5 : decode cX3_append 5 = .ok (.iload 4, 2) := by decide +kernel
theorem dX3_append_7 : decode cX3_append 7 = .ok (.ifCond .lt 47, 3) := by decide +kernel
theorem dX3_append_10 : decode cX3_append 10 = .ok (.aload_n 0, 1) := by decide +kernel
theorem dX3_append_11 : decode cX3_append 11 = .ok (.getfield 15, 3) := by decide +kernel
theorem dX3_append_14 : decode cX3_append 14 = .ok (.sipush 400, 3) := by decide +kernel
theorem dX3_append_17 : decode cX3_append 17 = .ok (.if_icmp .ge 37, 3) := by decide +kernel
theorem dX3_append_20 : decode cX3_append 20 = .ok (.aload_n 0, 1) := by decide +kernel
theorem dX3_append_21 : decode cX3_append 21 = .ok (.getfield 9, 3) := by decide +kernel
theorem dX3_append_24 : decode cX3_append 24 = .ok (.aload_n 0, 1) := by decide +kernel
theorem dX3_append_25 : decode cX3_append 25 = .ok (.getfield 15, 3) := by decide +kernel
theorem dX3_append_28 : decode cX3_append 28 = .ok (.lload_n 1, 1) := by decide +kernel
theorem dX3_append_29 : decode cX3_append 29 = .ok (.bipush 8, 2) := by decide +kernel
theorem dX3_append_31 : decode cX3_append 31 = .ok (.iload 4, 2) := by decide +kernel
theorem dX3_append_33 : decode cX3_append 33 = .ok (.imul, 1) := by decide +kernel
theorem dX3_append_34 : decode cX3_append 34 = .ok (.lshr, 1) := by decide +kernel
theorem dX3_append_35 : decode cX3_append 35 = .ok (.l2i, 1) := by decide +kernel
theorem dX3_append_36 : decode cX3_append 36 = .ok (.i2b, 1) := by decide +kernel
theorem dX3_append_37 : decode cX3_append 37 = .ok (.bastore, 1) := by decide +kernel
theorem dX3_append_38 : decode cX3_append 38 = .ok (.aload_n 0, 1) := by decide +kernel
theorem dX3_append_39 : decode cX3_append 39 = .ok (.dup, 1) := by decide +kernel
theorem dX3_append_40 : decode cX3_append 40 = .ok (.getfield 15, 3) := by decide +kernel
theorem dX3_append_43 : decode cX3_append 43 = .ok (.iconst 1, 1) := by decide +kernel
theorem dX3_append_44 : decode cX3_append 44 = .ok (.iadd, 1) := by decide +kernel
theorem dX3_append_45 : decode cX3_append 45 = .ok (.putfield 15, 3) := by decide +kernel
theorem dX3_append_48 : decode cX3_append 48 = .ok (.iinc 4 (-1), 3) := by decide +kernel
theorem dX3_append_51 : decode cX3_append 51 = .ok (.goto (-46), 3) := by decide +kernel
theorem dX3_append_54 : decode cX3_append 54 = .ok (.return_, 1) := by decide +kernel
theorem dX3_read_0 : decode cX3_read 0 = .ok (.aload_n 0, 1) := by decide +kernel
theorem dX3_read_1 : decode cX3_read 1 = .ok (.iconst 0, 1) := by decide +kernel
theorem dX3_read_2 : decode cX3_read 2 = .ok (.putfield 19, 3) := by decide +kernel
theorem dX3_read_5 : decode cX3_read 5 = .ok (.aload_n 0, 1) := by decide +kernel
theorem dX3_read_6 : decode cX3_read 6 = .ok (.iconst 0, 1) := by decide +kernel
theorem dX3_read_7 : decode cX3_read 7 = .ok (.putfield 22, 3) := by decide +kernel
theorem dX3_read_10 : decode cX3_read 10 = .ok (.aload_n 0, 1) := by decide +kernel
theorem dX3_read_11 : decode cX3_read 11 = .ok (.ldc 25, 2) := by decide +kernel
theorem dX3_read_13 : decode cX3_read 13 = .ok (.invokevirtual 27, 3) := by decide +kernel
theorem dX3_read_16 : decode cX3_read 16 = .ok (.aload_n 0, 1) := by decide +kernel
theorem dX3_read_17 : decode cX3_read 17 = .ok (.iconst 0, 1) := by decide +kernel
theorem dX3_read_18 : decode cX3_read 18 = .ok (.bipush 99, 2) := by decide +kernel
theorem dX3_read_20 : decode cX3_read 20 = .ok (.invokevirtual 31, 3) := by decide +kernel
theorem dX3_read_23 : decode cX3_read 23 = .ok (.istore_n 2, 1) := by decide +kernel
theorem dX3_read_24 : decode cX3_read 24 = .ok (.aload_n 0, 1) := by decide +kernel
theorem dX3_read_25 : decode cX3_read 25 = .ok (.iconst 1, 1) := by decide +kernel
theorem dX3_read_26 : decode cX3_read 26 = .ok (.sipush 999, 3) := by decide +kernel
theorem dX3_read_29 : decode cX3_read 29 = .ok (.invokevirtual 31, 3) := by decide +kernel
theorem dX3_read_32 : decode cX3_read 32 = .ok (.istore_n 3, 1) := by decide +kernel
theorem dX3_read_33 : decode cX3_read 33 = .ok (.aload_n 0, 1) := by decide +kernel
theorem dX3_read_34 : decode cX3_read 34 = .ok (.invokevirtual 35, 3) := by decide +kernel
theorem dX3_read_37 : decode cX3_read 37 = .ok (.aload_n 1, 1) := by decide +kernel
theorem dX3_read_38 : decode cX3_read 38 = .ok (.iload_n 2, 1) := by decide +kernel
theorem dX3_read_39 : decode cX3_read 39 = .ok (.iload_n 3, 1) := by decide +kernel
theorem dX3_read_40 : decode cX3_read 40 = .ok (.invokevirtual 38, 3) := by decide +kernel
theorem dX3_read_43 : decode cX3_read 43 = .ok (.iconst 0, 1) := by decide +kernel
theorem dX3_read_44 : decode cX3_read 44 = .ok (.istore 4, 2) := by decide +kernel
theorem dX3_read_46 : decode cX3_read 46 = .ok (.iload 4, 2) := by decide +kernel
theorem dX3_read_48 : decode cX3_read 48 = .ok (.bipush 7, 2) := by decide +kernel
theorem dX3_read_50 : decode cX3_read 50 = .ok (.if_icmp .gt 69, 3) := by decide +kernel
theorem dX3_read_53 : decode cX3_read 53 = .ok (.aload_n 0, 1) := by decide +kernel
theorem dX3_read_54 : decode cX3_read 54 = .ok (.getfield 22, 3) := by decide +kernel
theorem dX3_read_57 : decode cX3_read 57 = .ok (.ifCond .ne 62, 3) := by decide +kernel
theorem dX3_read_60 : decode cX3_read 60 = .ok (.aload_n 0, 1) := by decide +kernel
theorem dX3_read_61 : decode cX3_read 61 = .ok (.invokevirtual 44, 3) := by decide +kernel
theorem dX3_read_64 : decode cX3_read 64 = .ok (.aload_n 0, 1) := by decide +kernel
theorem dX3_read_65 : decode cX3_read 65 = .ok (.getfield 47, 3) := by decide +kernel
theorem dX3_read_68 : decode cX3_read 68 = .ok (.iconst 4, 1) := by decide +kernel
theorem dX3_read_69 : decode cX3_read 69 = .ok (.if_icmp .ne 5, 3) := by decide +kernel
theorem dX3_read_72 : decode cX3_read 72 = .ok (.iconst 1, 1) := by decide +kernel
theorem dX3_read_73 : decode cX3_read 73 = .ok (.ireturn, 1) := by decide +kernel
theorem dX3_read_74 : decode cX3_read 74 = .ok (.aload_n 0, 1) := by decide +kernel
theorem dX3_read_75 : decode cX3_read 75 = .ok (.ldc 50, 2) := by decide +kernel
theorem dX3_read_77 : decode cX3_read 77 = .ok (.invokevirtual 52, 3) := by decide +kernel
theorem dX3_read_80 : decode cX3_read 80 = .ok (.ifCond .ne 11, 3) := by decide +kernel
theorem dX3_read_83 : decode cX3_read 83 = .ok (.aload_n 0, 1) := by decide +kernel
theorem dX3_read_84 : decode cX3_read 84 = .ok (.iconst 1, 1) := by decide +kernel
theorem dX3_read_85 : decode cX3_read 85 = .ok (.invokevirtual 56, 3) := by decide +kernel
theorem dX3_read_88 : decode cX3_read 88 = .ok (.goto 25, 3) := by decide +kernel
theorem dX3_read_91 : decode cX3_read 91 = .ok (.iload 4, 2) := by decide +kernel
theorem dX3_read_93 : decode cX3_read 93 = .ok (.bipush 7, 2) := by decide +kernel
theorem dX3_read_95 : decode cX3_read 95 = .ok (.if_icmp .ne 11, 3) := by decide +kernel
theorem dX3_read_98 : decode cX3_read 98 = .ok (.aload_n 0, 1) := by decide +kernel
theorem dX3_read_99 : decode cX3_read 99 = .ok (.iconst 3, 1) := by decide +kernel
theorem dX3_read_100 : decode cX3_read 100 = .ok (.invokevirtual 56, 3) := by decide +kernel
theorem dX3_read_103 : decode cX3_read 103 = .ok (.goto 10, 3) := by decide +kernel
theorem dX3_read_106 : decode cX3_read 106 = .ok (.aload_n 0, 1) := by decide +kernel
theorem dX3_read_107 : decode cX3_read 107 = .ok (.aload_n 1, 1) := by decide +kernel
theorem dX3_read_108 : decode cX3_read 108 = .ok (.iload 4, 2) := by decide +kernel
theorem dX3_read_110 : decode cX3_read 110 = .ok (.invokevirtual 60, 3) := by decide +kernel
theorem dX3_read_113 : decode cX3_read 113 = .ok (.iinc 4 1, 3) := by decide +kernel
theorem dX3_read_116 : decode cX3_read 116 = .ok (.goto (-70), 3) := by decide +kernel
theorem dX3_read_119 : decode cX3_read 119 = .ok (.iconst 0, 1) := by decide +kernel
theorem dX3_read_120 : decode cX3_read 120 = .ok (.ireturn, 1) := by decide +kernel
theorem dX3_readVillage_0 : decode cX3_readVillage 0 = .ok (.aload_n 1, 1) := by decide +kernel
theorem dX3_readVillage_1 : decode cX3_readVillage 1 = .ok (.getfield 64, 3) := by decide +kernel
theorem dX3_readVillage_4 : decode cX3_readVillage 4 = .ok (.iload_n 2, 1) := by decide +kernel
theorem dX3_readVillage_5 : decode cX3_readVillage 5 = .ok (.aload_n 0, 1) := by decide +kernel
theorem dX3_readVillage_6 : decode cX3_readVillage 6 = .ok (.invokevirtual 68, 3) := by decide +kernel
theorem dX3_readVillage_9 : decode cX3_readVillage 9 = .ok (.iastore, 1) := by decide +kernel
theorem dX3_readVillage_10 : decode cX3_readVillage 10 = .ok (.aload_n 1, 1) := by decide +kernel
theorem dX3_readVillage_11 : decode cX3_readVillage 11 = .ok (.getfield 72, 3) := by decide +kernel
theorem dX3_readVillage_14 : decode cX3_readVillage 14 = .ok (.iload_n 2, 1) := by decide +kernel
theorem dX3_readVillage_15 : decode cX3_readVillage 15 = .ok (.aload_n 0, 1) := by decide +kernel
theorem dX3_readVillage_16 : decode cX3_readVillage 16 = .ok (.iconst 0, 1) := by decide +kernel
theorem dX3_readVillage_17 : decode cX3_readVillage 17 = .ok (.aload_n 1, 1) := by decide +kernel
theorem dX3_readVillage_18 : decode cX3_readVillage 18 = .ok (.getfield 75, 3) := by decide +kernel
theorem dX3_readVillage_21 : decode cX3_readVillage 21 = .ok (.invokevirtual 31, 3) := by decide +kernel
theorem dX3_readVillage_24 : decode cX3_readVillage 24 = .ok (.iastore, 1) := by decide +kernel
theorem dX3_readVillage_25 : decode cX3_readVillage 25 = .ok (.aload_n 1, 1) := by decide +kernel
theorem dX3_readVillage_26 : decode cX3_readVillage 26 = .ok (.getfield 78, 3) := by decide +kernel
theorem dX3_readVillage_29 : decode cX3_readVillage 29 = .ok (.iload_n 2, 1) := by decide +kernel
theorem dX3_readVillage_30 : decode cX3_readVillage 30 = .ok (.aload_n 0, 1) := by decide +kernel
theorem dX3_readVillage_31 : decode cX3_readVillage 31 = .ok (.iconst 0, 1) := by decide +kernel
theorem dX3_readVillage_32 : decode cX3_readVillage 32 = .ok (.bipush 99, 2) := by decide +kernel
theorem dX3_readVillage_34 : decode cX3_readVillage 34 = .ok (.invokevirtual 31, 3) := by decide +kernel
theorem dX3_readVillage_37 : decode cX3_readVillage 37 = .ok (.iastore, 1) := by decide +kernel
theorem dX3_readVillage_38 : decode cX3_readVillage 38 = .ok (.aload_n 1, 1) := by decide +kernel
theorem dX3_readVillage_39 : decode cX3_readVillage 39 = .ok (.getfield 81, 3) := by decide +kernel
theorem dX3_readVillage_42 : decode cX3_readVillage 42 = .ok (.iload_n 2, 1) := by decide +kernel
theorem dX3_readVillage_43 : decode cX3_readVillage 43 = .ok (.aload_n 0, 1) := by decide +kernel
theorem dX3_readVillage_44 : decode cX3_readVillage 44 = .ok (.iconst 0, 1) := by decide +kernel
theorem dX3_readVillage_45 : decode cX3_readVillage 45 = .ok (.bipush 99, 2) := by decide +kernel
theorem dX3_readVillage_47 : decode cX3_readVillage 47 = .ok (.invokevirtual 31, 3) := by decide +kernel
theorem dX3_readVillage_50 : decode cX3_readVillage 50 = .ok (.iastore, 1) := by decide +kernel
theorem dX3_readVillage_51 : decode cX3_readVillage 51 = .ok (.aload_n 0, 1) := by decide +kernel
theorem dX3_readVillage_52 : decode cX3_readVillage 52 = .ok (.invokevirtual 35, 3) := by decide +kernel
theorem dX3_readVillage_55 : decode cX3_readVillage 55 = .ok (.aload_n 1, 1) := by decide +kernel
theorem dX3_readVillage_56 : decode cX3_readVillage 56 = .ok (.iload_n 2, 1) := by decide +kernel
theorem dX3_readVillage_57 : decode cX3_readVillage 57 = .ok (.iconst 1, 1) := by decide +kernel
theorem dX3_readVillage_58 : decode cX3_readVillage 58 = .ok (.iadd, 1) := by decide +kernel
theorem dX3_readVillage_59 : decode cX3_readVillage 59 = .ok (.putfield 84, 3) := by decide +kernel
theorem dX3_readVillage_62 : decode cX3_readVillage 62 = .ok (.return_, 1) := by decide +kernel
theorem dX3_blame_0 : decode cX3_blame 0 = .ok (.aload_n 0, 1) := by decide +kernel
theorem dX3_blame_1 : decode cX3_blame 1 = .ok (.iload_n 1, 1) := by decide +kernel
theorem dX3_blame_2 : decode cX3_blame 2 = .ok (.putfield 22, 3) := by decide +kernel
theorem dX3_blame_5 : decode cX3_blame 5 = .ok (.aload_n 0, 1) := by decide +kernel
theorem dX3_blame_6 : decode cX3_blame 6 = .ok (.aload_n 0, 1) := by decide +kernel
theorem dX3_blame_7 : decode cX3_blame 7 = .ok (.getfield 87, 3) := by decide +kernel
theorem dX3_blame_10 : decode cX3_blame 10 = .ok (.putfield 90, 3) := by decide +kernel
theorem dX3_blame_13 : decode cX3_blame 13 = .ok (.return_, 1) := by decide +kernel
theorem dX3_readWord_0 : decode cX3_readWord 0 = .ok (.aload_n 0, 1) := by decide +kernel
theorem dX3_readWord_1 : decode cX3_readWord 1 = .ok (.getfield 22, 3) := by decide +kernel
theorem dX3_readWord_4 : decode cX3_readWord 4 = .ok (.ifCond .ne 20, 3) := by decide +kernel
theorem dX3_readWord_7 : decode cX3_readWord 7 = .ok (.aload_n 0, 1) := by decide +kernel
theorem dX3_readWord_8 : decode cX3_readWord 8 = .ok (.invokevirtual 44, 3) := by decide +kernel
theorem dX3_readWord_11 : decode cX3_readWord 11 = .ok (.aload_n 0, 1) := by decide +kernel
theorem dX3_readWord_12 : decode cX3_readWord 12 = .ok (.aload_n 1, 1) := by decide +kernel
theorem dX3_readWord_13 : decode cX3_readWord 13 = .ok (.invokevirtual 52, 3) := by decide +kernel
theorem dX3_readWord_16 : decode cX3_readWord 16 = .ok (.ifCond .ne 8, 3) := by decide +kernel
theorem dX3_readWord_19 : decode cX3_readWord 19 = .ok (.aload_n 0, 1) := by decide +kernel
theorem dX3_readWord_20 : decode cX3_readWord 20 = .ok (.iconst 1, 1) := by decide +kernel
theorem dX3_readWord_21 : decode cX3_readWord 21 = .ok (.invokevirtual 56, 3) := by decide +kernel
theorem dX3_readWord_24 : decode cX3_readWord 24 = .ok (.return_, 1) := by decide +kernel
theorem dX3_readSort_0 : decode cX3_readSort 0 = .ok (.aload_n 0, 1) := by decide +kernel
theorem dX3_readSort_1 : decode cX3_readSort 1 = .ok (.getfield 22, 3) := by decide +kernel
theorem dX3_readSort_4 : decode cX3_readSort 4 = .ok (.ifCond .eq 5, 3) := by decide +kernel
theorem dX3_readSort_7 : decode cX3_readSort 7 = .ok (.iconst 0, 1) := by decide +kernel
theorem dX3_readSort_8 : decode cX3_readSort 8 = .ok (.ireturn, 1) := by decide +kernel
theorem dX3_readSort_9 : decode cX3_readSort 9 = .ok (.aload_n 0, 1) := by decide +kernel
theorem dX3_readSort_10 : decode cX3_readSort 10 = .ok (.invokevirtual 44, 3) := by decide +kernel
theorem dX3_readSort_13 : decode cX3_readSort 13 = .ok (.aload_n 0, 1) := by decide +kernel
theorem dX3_readSort_14 : decode cX3_readSort 14 = .ok (.ldc 93, 2) := by decide +kernel
theorem dX3_readSort_16 : decode cX3_readSort 16 = .ok (.invokevirtual 52, 3) := by decide +kernel
theorem dX3_readSort_19 : decode cX3_readSort 19 = .ok (.ifCond .eq 5, 3) := by decide +kernel
theorem dX3_readSort_22 : decode cX3_readSort 22 = .ok (.iconst 1, 1) := by decide +kernel
theorem dX3_readSort_23 : decode cX3_readSort 23 = .ok (.ireturn, 1) := by decide +kernel
theorem dX3_readSort_24 : decode cX3_readSort 24 = .ok (.aload_n 0, 1) := by decide +kernel
theorem dX3_readSort_25 : decode cX3_readSort 25 = .ok (.ldc 95, 2) := by decide +kernel
theorem dX3_readSort_27 : decode cX3_readSort 27 = .ok (.invokevirtual 52, 3) := by decide +kernel
theorem dX3_readSort_30 : decode cX3_readSort 30 = .ok (.ifCond .eq 5, 3) := by decide +kernel
theorem dX3_readSort_33 : decode cX3_readSort 33 = .ok (.iconst 2, 1) := by decide +kernel
theorem dX3_readSort_34 : decode cX3_readSort 34 = .ok (.ireturn, 1) := by decide +kernel
theorem dX3_readSort_35 : decode cX3_readSort 35 = .ok (.aload_n 0, 1) := by decide +kernel
theorem dX3_readSort_36 : decode cX3_readSort 36 = .ok (.ldc 97, 2) := by decide +kernel
theorem dX3_readSort_38 : decode cX3_readSort 38 = .ok (.invokevirtual 52, 3) := by decide +kernel
theorem dX3_readSort_41 : decode cX3_readSort 41 = .ok (.ifCond .eq 5, 3) := by decide +kernel
theorem dX3_readSort_44 : decode cX3_readSort 44 = .ok (.iconst 3, 1) := by decide +kernel
theorem dX3_readSort_45 : decode cX3_readSort 45 = .ok (.ireturn, 1) := by decide +kernel
theorem dX3_readSort_46 : decode cX3_readSort 46 = .ok (.aload_n 0, 1) := by decide +kernel
theorem dX3_readSort_47 : decode cX3_readSort 47 = .ok (.ldc 99, 2) := by decide +kernel
theorem dX3_readSort_49 : decode cX3_readSort 49 = .ok (.invokevirtual 52, 3) := by decide +kernel
theorem dX3_readSort_52 : decode cX3_readSort 52 = .ok (.ifCond .eq 5, 3) := by decide +kernel
theorem dX3_readSort_55 : decode cX3_readSort 55 = .ok (.iconst 4, 1) := by decide +kernel
theorem dX3_readSort_56 : decode cX3_readSort 56 = .ok (.ireturn, 1) := by decide +kernel
theorem dX3_readSort_57 : decode cX3_readSort 57 = .ok (.aload_n 0, 1) := by decide +kernel
theorem dX3_readSort_58 : decode cX3_readSort 58 = .ok (.ldc 101, 2) := by decide +kernel
theorem dX3_readSort_60 : decode cX3_readSort 60 = .ok (.invokevirtual 52, 3) := by decide +kernel
theorem dX3_readSort_63 : decode cX3_readSort 63 = .ok (.ifCond .eq 5, 3) := by decide +kernel
theorem dX3_readSort_66 : decode cX3_readSort 66 = .ok (.iconst 5, 1) := by decide +kernel
theorem dX3_readSort_67 : decode cX3_readSort 67 = .ok (.ireturn, 1) := by decide +kernel
theorem dX3_readSort_68 : decode cX3_readSort 68 = .ok (.aload_n 0, 1) := by decide +kernel
theorem dX3_readSort_69 : decode cX3_readSort 69 = .ok (.iconst 1, 1) := by decide +kernel
theorem dX3_readSort_70 : decode cX3_readSort 70 = .ok (.invokevirtual 56, 3) := by decide +kernel
theorem dX3_readSort_73 : decode cX3_readSort 73 = .ok (.iconst 0, 1) := by decide +kernel
theorem dX3_readSort_74 : decode cX3_readSort 74 = .ok (.ireturn, 1) := by decide +kernel
theorem dX3_readNumber_0 : decode cX3_readNumber 0 = .ok (.aload_n 0, 1) := by decide +kernel
theorem dX3_readNumber_1 : decode cX3_readNumber 1 = .ok (.getfield 22, 3) := by decide +kernel
theorem dX3_readNumber_4 : decode cX3_readNumber 4 = .ok (.ifCond .eq 5, 3) := by decide +kernel
theorem dX3_readNumber_7 : decode cX3_readNumber 7 = .ok (.iconst 0, 1) := by decide +kernel
theorem dX3_readNumber_8 : decode cX3_readNumber 8 = .ok (.ireturn, 1) := by decide +kernel
theorem dX3_readNumber_9 : decode cX3_readNumber 9 = .ok (.aload_n 0, 1) := by decide +kernel
theorem dX3_readNumber_10 : decode cX3_readNumber 10 = .ok (.invokevirtual 44, 3) := by decide +kernel
theorem dX3_readNumber_13 : decode cX3_readNumber 13 = .ok (.aload_n 0, 1) := by decide +kernel
theorem dX3_readNumber_14 : decode cX3_readNumber 14 = .ok (.getfield 47, 3) := by decide +kernel
theorem dX3_readNumber_17 : decode cX3_readNumber 17 = .ok (.iconst 2, 1) := by decide +kernel
theorem dX3_readNumber_18 : decode cX3_readNumber 18 = .ok (.if_icmp .eq 10, 3) := by decide +kernel
theorem dX3_readNumber_21 : decode cX3_readNumber 21 = .ok (.aload_n 0, 1) := by decide +kernel
theorem dX3_readNumber_22 : decode cX3_readNumber 22 = .ok (.iconst 1, 1) := by decide +kernel
theorem dX3_readNumber_23 : decode cX3_readNumber 23 = .ok (.invokevirtual 56, 3) := by decide +kernel
theorem dX3_readNumber_26 : decode cX3_readNumber 26 = .ok (.iconst 0, 1) := by decide +kernel
theorem dX3_readNumber_27 : decode cX3_readNumber 27 = .ok (.ireturn, 1) := by decide +kernel
theorem dX3_readNumber_28 : decode cX3_readNumber 28 = .ok (.aload_n 0, 1) := by decide +kernel
theorem dX3_readNumber_29 : decode cX3_readNumber 29 = .ok (.getfield 103, 3) := by decide +kernel
theorem dX3_readNumber_32 : decode cX3_readNumber 32 = .ok (.iload_n 1, 1) := by decide +kernel
theorem dX3_readNumber_33 : decode cX3_readNumber 33 = .ok (.if_icmp .lt 11, 3) := by decide +kernel
theorem dX3_readNumber_36 : decode cX3_readNumber 36 = .ok (.aload_n 0, 1) := by decide +kernel
theorem dX3_readNumber_37 : decode cX3_readNumber 37 = .ok (.getfield 103, 3) := by decide +kernel
theorem dX3_readNumber_40 : decode cX3_readNumber 40 = .ok (.iload_n 2, 1) := by decide +kernel
theorem dX3_readNumber_41 : decode cX3_readNumber 41 = .ok (.if_icmp .le 10, 3) := by decide +kernel
theorem dX3_readNumber_44 : decode cX3_readNumber 44 = .ok (.aload_n 0, 1) := by decide +kernel
theorem dX3_readNumber_45 : decode cX3_readNumber 45 = .ok (.iconst 2, 1) := by decide +kernel
theorem dX3_readNumber_46 : decode cX3_readNumber 46 = .ok (.invokevirtual 56, 3) := by decide +kernel
theorem dX3_readNumber_49 : decode cX3_readNumber 49 = .ok (.iconst 0, 1) := by decide +kernel
theorem dX3_readNumber_50 : decode cX3_readNumber 50 = .ok (.ireturn, 1) := by decide +kernel
theorem dX3_readNumber_51 : decode cX3_readNumber 51 = .ok (.aload_n 0, 1) := by decide +kernel
theorem dX3_readNumber_52 : decode cX3_readNumber 52 = .ok (.getfield 103, 3) := by decide +kernel
theorem dX3_readNumber_55 : decode cX3_readNumber 55 = .ok (.ireturn, 1) := by decide +kernel
theorem dX3_readSign_0 : decode cX3_readSign 0 = .ok (.aload_n 0, 1) := by decide +kernel
theorem dX3_readSign_1 : decode cX3_readSign 1 = .ok (.getfield 22, 3) := by decide +kernel
theorem dX3_readSign_4 : decode cX3_readSign 4 = .ok (.ifCond .ne 20, 3) := by decide +kernel
theorem dX3_readSign_7 : decode cX3_readSign 7 = .ok (.aload_n 0, 1) := by decide +kernel
theorem dX3_readSign_8 : decode cX3_readSign 8 = .ok (.invokevirtual 44, 3) := by decide +kernel
theorem dX3_readSign_11 : decode cX3_readSign 11 = .ok (.aload_n 0, 1) := by decide +kernel
theorem dX3_readSign_12 : decode cX3_readSign 12 = .ok (.getfield 47, 3) := by decide +kernel
theorem dX3_readSign_15 : decode cX3_readSign 15 = .ok (.iconst 3, 1) := by decide +kernel
theorem dX3_readSign_16 : decode cX3_readSign 16 = .ok (.if_icmp .eq 8, 3) := by decide +kernel
theorem dX3_readSign_19 : decode cX3_readSign 19 = .ok (.aload_n 0, 1) := by decide +kernel
theorem dX3_readSign_20 : decode cX3_readSign 20 = .ok (.iconst 1, 1) := by decide +kernel
theorem dX3_readSign_21 : decode cX3_readSign 21 = .ok (.invokevirtual 56, 3) := by decide +kernel
theorem dX3_readSign_24 : decode cX3_readSign 24 = .ok (.return_, 1) := by decide +kernel
theorem dX3_advance_0 : decode cX3_advance 0 = .ok (.aload_n 0, 1) := by decide +kernel
theorem dX3_advance_1 : decode cX3_advance 1 = .ok (.getfield 19, 3) := by decide +kernel
theorem dX3_advance_4 : decode cX3_advance 4 = .ok (.aload_n 0, 1) := by decide +kernel
theorem dX3_advance_5 : decode cX3_advance 5 = .ok (.getfield 15, 3) := by decide +kernel
theorem dX3_advance_8 : decode cX3_advance 8 = .ok (.if_icmp .ge 44, 3) := by decide +kernel
theorem dX3_advance_11 : decode cX3_advance 11 = .ok (.aload_n 0, 1) := by decide +kernel
theorem dX3_advance_12 : decode cX3_advance 12 = .ok (.getfield 9, 3) := by decide +kernel
theorem dX3_advance_15 : decode cX3_advance 15 = .ok (.aload_n 0, 1) := by decide +kernel
theorem dX3_advance_16 : decode cX3_advance 16 = .ok (.getfield 19, 3) := by decide +kernel
theorem dX3_advance_19 : decode cX3_advance 19 = .ok (.baload, 1) := by decide +kernel
theorem dX3_advance_20 : decode cX3_advance 20 = .ok (.bipush 32, 2) := by decide +kernel
theorem dX3_advance_22 : decode cX3_advance 22 = .ok (.if_icmp .eq 17, 3) := by decide +kernel
theorem dX3_advance_25 : decode cX3_advance 25 = .ok (.aload_n 0, 1) := by decide +kernel
theorem dX3_advance_26 : decode cX3_advance 26 = .ok (.getfield 9, 3) := by decide +kernel
theorem dX3_advance_29 : decode cX3_advance 29 = .ok (.aload_n 0, 1) := by decide +kernel
theorem dX3_advance_30 : decode cX3_advance 30 = .ok (.getfield 19, 3) := by decide +kernel
theorem dX3_advance_33 : decode cX3_advance 33 = .ok (.baload, 1) := by decide +kernel
theorem dX3_advance_34 : decode cX3_advance 34 = .ok (.bipush 10, 2) := by decide +kernel
theorem dX3_advance_36 : decode cX3_advance 36 = .ok (.if_icmp .ne 16, 3) := by decide +kernel
theorem dX3_advance_39 : decode cX3_advance 39 = .ok (.aload_n 0, 1) := by decide +kernel
theorem dX3_advance_40 : decode cX3_advance 40 = .ok (.dup, 1) := by decide +kernel
theorem dX3_advance_41 : decode cX3_advance 41 = .ok (.getfield 19, 3) := by decide +kernel
theorem dX3_advance_44 : decode cX3_advance 44 = .ok (.iconst 1, 1) := by decide +kernel
theorem dX3_advance_45 : decode cX3_advance 45 = .ok (.iadd, 1) := by decide +kernel
theorem dX3_advance_46 : decode cX3_advance 46 = .ok (.putfield 19, 3) := by decide +kernel
theorem dX3_advance_49 : decode cX3_advance 49 = .ok (.goto (-49), 3) := by decide +kernel
theorem dX3_advance_52 : decode cX3_advance 52 = .ok (.aload_n 0, 1) := by decide +kernel
theorem dX3_advance_53 : decode cX3_advance 53 = .ok (.aload_n 0, 1) := by decide +kernel
theorem dX3_advance_54 : decode cX3_advance 54 = .ok (.getfield 19, 3) := by decide +kernel
theorem dX3_advance_57 : decode cX3_advance 57 = .ok (.putfield 87, 3) := by decide +kernel
theorem dX3_advance_60 : decode cX3_advance 60 = .ok (.aload_n 0, 1) := by decide +kernel
theorem dX3_advance_61 : decode cX3_advance 61 = .ok (.getfield 19, 3) := by decide +kernel
theorem dX3_advance_64 : decode cX3_advance 64 = .ok (.aload_n 0, 1) := by decide +kernel
theorem dX3_advance_65 : decode cX3_advance 65 = .ok (.getfield 15, 3) := by decide +kernel
theorem dX3_advance_68 : decode cX3_advance 68 = .ok (.if_icmp .lt 11, 3) := by decide +kernel
theorem dX3_advance_71 : decode cX3_advance 71 = .ok (.aload_n 0, 1) := by decide +kernel
theorem dX3_advance_72 : decode cX3_advance 72 = .ok (.iconst 4, 1) := by decide +kernel
theorem dX3_advance_73 : decode cX3_advance 73 = .ok (.putfield 47, 3) := by decide +kernel
theorem dX3_advance_76 : decode cX3_advance 76 = .ok (.goto 117, 3) := by decide +kernel
theorem dX3_advance_79 : decode cX3_advance 79 = .ok (.aload_n 0, 1) := by decide +kernel
theorem dX3_advance_80 : decode cX3_advance 80 = .ok (.getfield 9, 3) := by decide +kernel
theorem dX3_advance_83 : decode cX3_advance 83 = .ok (.aload_n 0, 1) := by decide +kernel
theorem dX3_advance_84 : decode cX3_advance 84 = .ok (.getfield 19, 3) := by decide +kernel
theorem dX3_advance_87 : decode cX3_advance 87 = .ok (.baload, 1) := by decide +kernel
theorem dX3_advance_88 : decode cX3_advance 88 = .ok (.invokestatic 106, 3) := by decide +kernel
theorem dX3_advance_91 : decode cX3_advance 91 = .ok (.ifCond .eq 47, 3) := by decide +kernel
theorem dX3_advance_94 : decode cX3_advance 94 = .ok (.aload_n 0, 1) := by decide +kernel
theorem dX3_advance_95 : decode cX3_advance 95 = .ok (.iconst 1, 1) := by decide +kernel
theorem dX3_advance_96 : decode cX3_advance 96 = .ok (.putfield 47, 3) := by decide +kernel
theorem dX3_advance_99 : decode cX3_advance 99 = .ok (.aload_n 0, 1) := by decide +kernel
theorem dX3_advance_100 : decode cX3_advance 100 = .ok (.getfield 19, 3) := by decide +kernel
theorem dX3_advance_103 : decode cX3_advance 103 = .ok (.aload_n 0, 1) := by decide +kernel
theorem dX3_advance_104 : decode cX3_advance 104 = .ok (.getfield 15, 3) := by decide +kernel
theorem dX3_advance_107 : decode cX3_advance 107 = .ok (.if_icmp .ge 86, 3) := by decide +kernel
theorem dX3_advance_110 : decode cX3_advance 110 = .ok (.aload_n 0, 1) := by decide +kernel
theorem dX3_advance_111 : decode cX3_advance 111 = .ok (.getfield 9, 3) := by decide +kernel
theorem dX3_advance_114 : decode cX3_advance 114 = .ok (.aload_n 0, 1) := by decide +kernel
theorem dX3_advance_115 : decode cX3_advance 115 = .ok (.getfield 19, 3) := by decide +kernel
theorem dX3_advance_118 : decode cX3_advance 118 = .ok (.baload, 1) := by decide +kernel
theorem dX3_advance_119 : decode cX3_advance 119 = .ok (.invokestatic 106, 3) := by decide +kernel
theorem dX3_advance_122 : decode cX3_advance 122 = .ok (.ifCond .eq 71, 3) := by decide +kernel
theorem dX3_advance_125 : decode cX3_advance 125 = .ok (.aload_n 0, 1) := by decide +kernel
theorem dX3_advance_126 : decode cX3_advance 126 = .ok (.dup, 1) := by decide +kernel
theorem dX3_advance_127 : decode cX3_advance 127 = .ok (.getfield 19, 3) := by decide +kernel
theorem dX3_advance_130 : decode cX3_advance 130 = .ok (.iconst 1, 1) := by decide +kernel
theorem dX3_advance_131 : decode cX3_advance 131 = .ok (.iadd, 1) := by decide +kernel
theorem dX3_advance_132 : decode cX3_advance 132 = .ok (.putfield 19, 3) := by decide +kernel
theorem dX3_advance_135 : decode cX3_advance 135 = .ok (.goto (-36), 3) := by decide +kernel
theorem dX3_advance_138 : decode cX3_advance 138 = .ok (.aload_n 0, 1) := by decide +kernel
theorem dX3_advance_139 : decode cX3_advance 139 = .ok (.getfield 9, 3) := by decide +kernel
theorem dX3_advance_142 : decode cX3_advance 142 = .ok (.aload_n 0, 1) := by decide +kernel
theorem dX3_advance_143 : decode cX3_advance 143 = .ok (.getfield 19, 3) := by decide +kernel
theorem dX3_advance_146 : decode cX3_advance 146 = .ok (.baload, 1) := by decide +kernel
theorem dX3_advance_147 : decode cX3_advance 147 = .ok (.invokestatic 110, 3) := by decide +kernel
theorem dX3_advance_150 : decode cX3_advance 150 = .ok (.ifCond .eq 10, 3) := by decide +kernel
theorem dX3_advance_153 : decode cX3_advance 153 = .ok (.aload_n 0, 1) := by decide +kernel
theorem dX3_advance_154 : decode cX3_advance 154 = .ok (.invokevirtual 113, 3) := by decide +kernel
theorem dX3_advance_157 : decode cX3_advance 157 = .ok (.goto 36, 3) := by decide +kernel
theorem dX3_advance_160 : decode cX3_advance 160 = .ok (.aload_n 0, 1) := by decide +kernel
theorem dX3_advance_161 : decode cX3_advance 161 = .ok (.aload_n 0, 1) := by decide +kernel
theorem dX3_advance_162 : decode cX3_advance 162 = .ok (.getfield 9, 3) := by decide +kernel
theorem dX3_advance_165 : decode cX3_advance 165 = .ok (.aload_n 0, 1) := by decide +kernel
theorem dX3_advance_166 : decode cX3_advance 166 = .ok (.getfield 19, 3) := by decide +kernel
theorem dX3_advance_169 : decode cX3_advance 169 = .ok (.baload, 1) := by decide +kernel
theorem dX3_advance_170 : decode cX3_advance 170 = .ok (.bipush 59, 2) := by decide +kernel
theorem dX3_advance_172 : decode cX3_advance 172 = .ok (.if_icmp .ne 7, 3) := by decide +kernel
theorem dX3_advance_175 : decode cX3_advance 175 = .ok (.iconst 3, 1) := by decide +kernel
theorem dX3_advance_176 : decode cX3_advance 176 = .ok (.goto 4, 3) := by decide +kernel
theorem dX3_advance_179 : decode cX3_advance 179 = .ok (.iconst 0, 1) := by decide +kernel
theorem dX3_advance_180 : decode cX3_advance 180 = .ok (.putfield 47, 3) := by decide +kernel
theorem dX3_advance_183 : decode cX3_advance 183 = .ok (.aload_n 0, 1) := by decide +kernel
theorem dX3_advance_184 : decode cX3_advance 184 = .ok (.dup, 1) := by decide +kernel
theorem dX3_advance_185 : decode cX3_advance 185 = .ok (.getfield 19, 3) := by decide +kernel
theorem dX3_advance_188 : decode cX3_advance 188 = .ok (.iconst 1, 1) := by decide +kernel
theorem dX3_advance_189 : decode cX3_advance 189 = .ok (.iadd, 1) := by decide +kernel
theorem dX3_advance_190 : decode cX3_advance 190 = .ok (.putfield 19, 3) := by decide +kernel
theorem dX3_advance_193 : decode cX3_advance 193 = .ok (.return_, 1) := by decide +kernel
theorem dX3_advanceNumber_0 : decode cX3_advanceNumber 0 = .ok (.aload_n 0, 1) := by decide +kernel
theorem dX3_advanceNumber_1 : decode cX3_advanceNumber 1 = .ok (.iconst 0, 1) := by decide +kernel
theorem dX3_advanceNumber_2 : decode cX3_advanceNumber 2 = .ok (.putfield 103, 3) := by decide +kernel
theorem dX3_advanceNumber_5 : decode cX3_advanceNumber 5 = .ok (.aload_n 0, 1) := by decide +kernel
theorem dX3_advanceNumber_6 : decode cX3_advanceNumber 6 = .ok (.getfield 19, 3) := by decide +kernel
theorem dX3_advanceNumber_9 : decode cX3_advanceNumber 9 = .ok (.aload_n 0, 1) := by decide +kernel
theorem dX3_advanceNumber_10 : decode cX3_advanceNumber 10 = .ok (.getfield 15, 3) := by decide +kernel
theorem dX3_advanceNumber_13 : decode cX3_advanceNumber 13 = .ok (.if_icmp .ge 68, 3) := by decide +kernel
theorem dX3_advanceNumber_16 : decode cX3_advanceNumber 16 = .ok (.aload_n 0, 1) := by decide +kernel
theorem dX3_advanceNumber_17 : decode cX3_advanceNumber 17 = .ok (.getfield 9, 3) := by decide +kernel
theorem dX3_advanceNumber_20 : decode cX3_advanceNumber 20 = .ok (.aload_n 0, 1) := by decide +kernel
theorem dX3_advanceNumber_21 : decode cX3_advanceNumber 21 = .ok (.getfield 19, 3) := by decide +kernel
theorem dX3_advanceNumber_24 : decode cX3_advanceNumber 24 = .ok (.baload, 1) := by decide +kernel
theorem dX3_advanceNumber_25 : decode cX3_advanceNumber 25 = .ok (.invokestatic 110, 3) := by decide +kernel
theorem dX3_advanceNumber_28 : decode cX3_advanceNumber 28 = .ok (.ifCond .eq 53, 3) := by decide +kernel
theorem dX3_advanceNumber_31 : decode cX3_advanceNumber 31 = .ok (.aload_n 0, 1) := by decide +kernel
theorem dX3_advanceNumber_32 : decode cX3_advanceNumber 32 = .ok (.getfield 19, 3) := by decide +kernel
theorem dX3_advanceNumber_35 : decode cX3_advanceNumber 35 = .ok (.aload_n 0, 1) := by decide +kernel
theorem dX3_advanceNumber_36 : decode cX3_advanceNumber 36 = .ok (.getfield 87, 3) := by decide +kernel
theorem dX3_advanceNumber_39 : decode cX3_advanceNumber 39 = .ok (.isub, 1) := by decide +kernel
theorem dX3_advanceNumber_40 : decode cX3_advanceNumber 40 = .ok (.iconst 3, 1) := by decide +kernel
theorem dX3_advanceNumber_41 : decode cX3_advanceNumber 41 = .ok (.if_icmp .ge 27, 3) := by decide +kernel
theorem dX3_advanceNumber_44 : decode cX3_advanceNumber 44 = .ok (.aload_n 0, 1) := by decide +kernel
theorem dX3_advanceNumber_45 : decode cX3_advanceNumber 45 = .ok (.aload_n 0, 1) := by decide +kernel
theorem dX3_advanceNumber_46 : decode cX3_advanceNumber 46 = .ok (.getfield 103, 3) := by decide +kernel
theorem dX3_advanceNumber_49 : decode cX3_advanceNumber 49 = .ok (.bipush 10, 2) := by decide +kernel
theorem dX3_advanceNumber_51 : decode cX3_advanceNumber 51 = .ok (.imul, 1) := by decide +kernel
theorem dX3_advanceNumber_52 : decode cX3_advanceNumber 52 = .ok (.aload_n 0, 1) := by decide +kernel
theorem dX3_advanceNumber_53 : decode cX3_advanceNumber 53 = .ok (.getfield 9, 3) := by decide +kernel
theorem dX3_advanceNumber_56 : decode cX3_advanceNumber 56 = .ok (.aload_n 0, 1) := by decide +kernel
theorem dX3_advanceNumber_57 : decode cX3_advanceNumber 57 = .ok (.getfield 19, 3) := by decide +kernel
theorem dX3_advanceNumber_60 : decode cX3_advanceNumber 60 = .ok (.baload, 1) := by decide +kernel
theorem dX3_advanceNumber_61 : decode cX3_advanceNumber 61 = .ok (.bipush 48, 2) := by decide +kernel
theorem dX3_advanceNumber_63 : decode cX3_advanceNumber 63 = .ok (.isub, 1) := by decide +kernel
theorem dX3_advanceNumber_64 : decode cX3_advanceNumber 64 = .ok (.iadd, 1) := by decide +kernel
theorem dX3_advanceNumber_65 : decode cX3_advanceNumber 65 = .ok (.putfield 103, 3) := by decide +kernel
theorem dX3_advanceNumber_68 : decode cX3_advanceNumber 68 = .ok (.aload_n 0, 1) := by decide +kernel
theorem dX3_advanceNumber_69 : decode cX3_advanceNumber 69 = .ok (.dup, 1) := by decide +kernel
theorem dX3_advanceNumber_70 : decode cX3_advanceNumber 70 = .ok (.getfield 19, 3) := by decide +kernel
theorem dX3_advanceNumber_73 : decode cX3_advanceNumber 73 = .ok (.iconst 1, 1) := by decide +kernel
theorem dX3_advanceNumber_74 : decode cX3_advanceNumber 74 = .ok (.iadd, 1) := by decide +kernel
theorem dX3_advanceNumber_75 : decode cX3_advanceNumber 75 = .ok (.putfield 19, 3) := by decide +kernel
theorem dX3_advanceNumber_78 : decode cX3_advanceNumber 78 = .ok (.goto (-73), 3) := by decide +kernel
theorem dX3_advanceNumber_81 : decode cX3_advanceNumber 81 = .ok (.aload_n 0, 1) := by decide +kernel
theorem dX3_advanceNumber_82 : decode cX3_advanceNumber 82 = .ok (.aload_n 0, 1) := by decide +kernel
theorem dX3_advanceNumber_83 : decode cX3_advanceNumber 83 = .ok (.getfield 19, 3) := by decide +kernel
theorem dX3_advanceNumber_86 : decode cX3_advanceNumber 86 = .ok (.aload_n 0, 1) := by decide +kernel
theorem dX3_advanceNumber_87 : decode cX3_advanceNumber 87 = .ok (.getfield 87, 3) := by decide +kernel
theorem dX3_advanceNumber_90 : decode cX3_advanceNumber 90 = .ok (.isub, 1) := by decide +kernel
theorem dX3_advanceNumber_91 : decode cX3_advanceNumber 91 = .ok (.iconst 3, 1) := by decide +kernel
theorem dX3_advanceNumber_92 : decode cX3_advanceNumber 92 = .ok (.if_icmp .gt 7, 3) := by decide +kernel
theorem dX3_advanceNumber_95 : decode cX3_advanceNumber 95 = .ok (.iconst 2, 1) := by decide +kernel
theorem dX3_advanceNumber_96 : decode cX3_advanceNumber 96 = .ok (.goto 4, 3) := by decide +kernel
theorem dX3_advanceNumber_99 : decode cX3_advanceNumber 99 = .ok (.iconst 0, 1) := by decide +kernel
theorem dX3_advanceNumber_100 : decode cX3_advanceNumber 100 = .ok (.putfield 47, 3) := by decide +kernel
theorem dX3_advanceNumber_103 : decode cX3_advanceNumber 103 = .ok (.return_, 1) := by decide +kernel
theorem dX3_isLetter_0 : decode cX3_isLetter 0 = .ok (.iload_n 0, 1) := by decide +kernel
theorem dX3_isLetter_1 : decode cX3_isLetter 1 = .ok (.bipush 97, 2) := by decide +kernel
theorem dX3_isLetter_3 : decode cX3_isLetter 3 = .ok (.if_icmp .lt 13, 3) := by decide +kernel
theorem dX3_isLetter_6 : decode cX3_isLetter 6 = .ok (.iload_n 0, 1) := by decide +kernel
theorem dX3_isLetter_7 : decode cX3_isLetter 7 = .ok (.bipush 122, 2) := by decide +kernel
theorem dX3_isLetter_9 : decode cX3_isLetter 9 = .ok (.if_icmp .gt 7, 3) := by decide +kernel
theorem dX3_isLetter_12 : decode cX3_isLetter 12 = .ok (.iconst 1, 1) := by decide +kernel
theorem dX3_isLetter_13 : decode cX3_isLetter 13 = .ok (.goto 4, 3) := by decide +kernel
theorem dX3_isLetter_16 : decode cX3_isLetter 16 = .ok (.iconst 0, 1) := by decide +kernel
theorem dX3_isLetter_17 : decode cX3_isLetter 17 = .ok (.ireturn, 1) := by decide +kernel
theorem dX3_isFigure_0 : decode cX3_isFigure 0 = .ok (.iload_n 0, 1) := by decide +kernel
theorem dX3_isFigure_1 : decode cX3_isFigure 1 = .ok (.bipush 48, 2) := by decide +kernel
theorem dX3_isFigure_3 : decode cX3_isFigure 3 = .ok (.if_icmp .lt 13, 3) := by decide +kernel
theorem dX3_isFigure_6 : decode cX3_isFigure 6 = .ok (.iload_n 0, 1) := by decide +kernel
theorem dX3_isFigure_7 : decode cX3_isFigure 7 = .ok (.bipush 57, 2) := by decide +kernel
theorem dX3_isFigure_9 : decode cX3_isFigure 9 = .ok (.if_icmp .gt 7, 3) := by decide +kernel
theorem dX3_isFigure_12 : decode cX3_isFigure 12 = .ok (.iconst 1, 1) := by decide +kernel
theorem dX3_isFigure_13 : decode cX3_isFigure 13 = .ok (.goto 4, 3) := by decide +kernel
theorem dX3_isFigure_16 : decode cX3_isFigure 16 = .ok (.iconst 0, 1) := by decide +kernel
theorem dX3_isFigure_17 : decode cX3_isFigure 17 = .ok (.ireturn, 1) := by decide +kernel
theorem dX3_spells_0 : decode cX3_spells 0 = .ok (.aload_n 0, 1) := by decide +kernel
theorem dX3_spells_1 : decode cX3_spells 1 = .ok (.getfield 47, 3) := by decide +kernel
theorem dX3_spells_4 : decode cX3_spells 4 = .ok (.iconst 1, 1) := by decide +kernel
theorem dX3_spells_5 : decode cX3_spells 5 = .ok (.if_icmp .ne 19, 3) := by decide +kernel
theorem dX3_spells_8 : decode cX3_spells 8 = .ok (.aload_n 0, 1) := by decide +kernel
theorem dX3_spells_9 : decode cX3_spells 9 = .ok (.getfield 19, 3) := by decide +kernel
theorem dX3_spells_12 : decode cX3_spells 12 = .ok (.aload_n 0, 1) := by decide +kernel
theorem dX3_spells_13 : decode cX3_spells 13 = .ok (.getfield 87, 3) := by decide +kernel
theorem dX3_spells_16 : decode cX3_spells 16 = .ok (.isub, 1) := by decide +kernel
theorem dX3_spells_17 : decode cX3_spells 17 = .ok (.aload_n 1, 1) := by decide +kernel
theorem dX3_spells_18 : decode cX3_spells 18 = .ok (.invokevirtual 116, 3) := by decide +kernel
theorem dX3_spells_21 : decode cX3_spells 21 = .ok (.if_icmp .eq 5, 3) := by decide +kernel
theorem dX3_spells_24 : decode cX3_spells 24 = .ok (.iconst 0, 1) := by decide +kernel
theorem dX3_spells_25 : decode cX3_spells 25 = .ok (.ireturn, 1) := by decide +kernel
theorem dX3_spells_26 : decode cX3_spells 26 = .ok (.iconst 0, 1) := by decide +kernel
theorem dX3_spells_27 : decode cX3_spells 27 = .ok (.istore_n 2, 1) := by decide +kernel
theorem dX3_spells_28 : decode cX3_spells 28 = .ok (.iload_n 2, 1) := by decide +kernel
theorem dX3_spells_29 : decode cX3_spells 29 = .ok (.aload_n 1, 1) := by decide +kernel
theorem dX3_spells_30 : decode cX3_spells 30 = .ok (.invokevirtual 116, 3) := by decide +kernel
theorem dX3_spells_33 : decode cX3_spells 33 = .ok (.if_icmp .ge 30, 3) := by decide +kernel
theorem dX3_spells_36 : decode cX3_spells 36 = .ok (.aload_n 0, 1) := by decide +kernel
theorem dX3_spells_37 : decode cX3_spells 37 = .ok (.getfield 9, 3) := by decide +kernel
theorem dX3_spells_40 : decode cX3_spells 40 = .ok (.aload_n 0, 1) := by decide +kernel
theorem dX3_spells_41 : decode cX3_spells 41 = .ok (.getfield 87, 3) := by decide +kernel
theorem dX3_spells_44 : decode cX3_spells 44 = .ok (.iload_n 2, 1) := by decide +kernel
theorem dX3_spells_45 : decode cX3_spells 45 = .ok (.iadd, 1) := by decide +kernel
theorem dX3_spells_46 : decode cX3_spells 46 = .ok (.baload, 1) := by decide +kernel
theorem dX3_spells_47 : decode cX3_spells 47 = .ok (.aload_n 1, 1) := by decide +kernel
theorem dX3_spells_48 : decode cX3_spells 48 = .ok (.iload_n 2, 1) := by decide +kernel
theorem dX3_spells_49 : decode cX3_spells 49 = .ok (.invokevirtual 120, 3) := by decide +kernel
theorem dX3_spells_52 : decode cX3_spells 52 = .ok (.if_icmp .eq 5, 3) := by decide +kernel
theorem dX3_spells_55 : decode cX3_spells 55 = .ok (.iconst 0, 1) := by decide +kernel
theorem dX3_spells_56 : decode cX3_spells 56 = .ok (.ireturn, 1) := by decide +kernel
theorem dX3_spells_57 : decode cX3_spells 57 = .ok (.iinc 2 1, 3) := by decide +kernel
theorem dX3_spells_60 : decode cX3_spells 60 = .ok (.goto (-32), 3) := by decide +kernel
theorem dX3_spells_63 : decode cX3_spells 63 = .ok (.iconst 1, 1) := by decide +kernel
theorem dX3_spells_64 : decode cX3_spells 64 = .ok (.ireturn, 1) := by decide +kernel
theorem dX4_init_0 : decode cX4_init 0 = .ok (.aload_n 0, 1) := by decide +kernel
theorem dX4_init_1 : decode cX4_init 1 = .ok (.invokespecial 3, 3) := by decide +kernel
theorem dX4_init_4 : decode cX4_init 4 = .ok (.aload_n 0, 1) := by decide +kernel
theorem dX4_init_5 : decode cX4_init 5 = .ok (.bipush 16, 2) := by decide +kernel
theorem dX4_init_7 : decode cX4_init 7 = .ok (.newarray .int, 2) := by decide +kernel
theorem dX4_init_9 : decode cX4_init 9 = .ok (.putfield 9, 3) := by decide +kernel
theorem dX4_init_12 : decode cX4_init 12 = .ok (.return_, 1) := by decide +kernel
theorem dX4_add_0 : decode cX4_add 0 = .ok (.aload_n 0, 1) := by decide +kernel
theorem dX4_add_1 : decode cX4_add 1 = .ok (.getfield 15, 3) := by decide +kernel
theorem dX4_add_4 : decode cX4_add 4 = .ok (.bipush 16, 2) := by decide +kernel
theorem dX4_add_6 : decode cX4_add 6 = .ok (.if_icmp .ge 23, 3) := by decide +kernel
theorem dX4_add_9 : decode cX4_add 9 = .ok (.aload_n 0, 1) := by decide +kernel
theorem dX4_add_10 : decode cX4_add 10 = .ok (.getfield 9, 3) := by decide +kernel
theorem dX4_add_13 : decode cX4_add 13 = .ok (.aload_n 0, 1) := by decide +kernel
theorem dX4_add_14 : decode cX4_add 14 = .ok (.getfield 15, 3) := by decide +kernel
theorem dX4_add_17 : decode cX4_add 17 = .ok (.iload_n 1, 1) := by decide +kernel
theorem dX4_add_18 : decode cX4_add 18 = .ok (.iastore, 1) := by decide +kernel
theorem dX4_add_19 : decode cX4_add 19 = .ok (.aload_n 0, 1) := by decide +kernel
theorem dX4_add_20 : decode cX4_add 20 = .ok (.dup, 1) := by decide +kernel
theorem dX4_add_21 : decode cX4_add 21 = .ok (.getfield 15, 3) := by decide +kernel
theorem dX4_add_24 : decode cX4_add 24 = .ok (.iconst 1, 1) := by decide +kernel
theorem dX4_add_25 : decode cX4_add 25 = .ok (.iadd, 1) := by decide +kernel
theorem dX4_add_26 : decode cX4_add 26 = .ok (.putfield 15, 3) := by decide +kernel
theorem dX4_add_29 : decode cX4_add 29 = .ok (.return_, 1) := by decide +kernel
theorem dX5_init_0 : decode cX5_init 0 = .ok (.aload_n 0, 1) := by decide +kernel
theorem dX5_init_1 : decode cX5_init 1 = .ok (.invokespecial 1, 3) := by decide +kernel
theorem dX5_init_4 : decode cX5_init 4 = .ok (.aload_n 0, 1) := by decide +kernel
theorem dX5_init_5 : decode cX5_init 5 = .ok (.bipush 8, 2) := by decide +kernel
theorem dX5_init_7 : decode cX5_init 7 = .ok (.anewarray 9, 3) := by decide +kernel
theorem dX5_init_10 : decode cX5_init 10 = .ok (.putfield 11, 3) := by decide +kernel
theorem dX5_init_13 : decode cX5_init 13 = .ok (.iconst 0, 1) := by decide +kernel
theorem dX5_init_14 : decode cX5_init 14 = .ok (.istore_n 1, 1) := by decide +kernel
theorem dX5_init_15 : decode cX5_init 15 = .ok (.iload_n 1, 1) := by decide +kernel
theorem dX5_init_16 : decode cX5_init 16 = .ok (.bipush 8, 2) := by decide +kernel
theorem dX5_init_18 : decode cX5_init 18 = .ok (.if_icmp .ge 22, 3) := by decide +kernel
theorem dX5_init_21 : decode cX5_init 21 = .ok (.aload_n 0, 1) := by decide +kernel
theorem dX5_init_22 : decode cX5_init 22 = .ok (.getfield 11, 3) := by decide +kernel
theorem dX5_init_25 : decode cX5_init 25 = .ok (.iload_n 1, 1) := by decide +kernel
theorem dX5_init_26 : decode cX5_init 26 = .ok (.new 9, 3) := by decide +kernel
theorem dX5_init_29 : decode cX5_init 29 = .ok (.dup, 1) := by decide +kernel
theorem dX5_init_30 : decode cX5_init 30 = .ok (.invokespecial 15, 3) := by decide +kernel
theorem dX5_init_33 : decode cX5_init 33 = .ok (.aastore, 1) := by decide +kernel
theorem dX5_init_34 : decode cX5_init 34 = .ok (.iinc 1 1, 3) := by decide +kernel
theorem dX5_init_37 : decode cX5_init 37 = .ok (.goto (-22), 3) := by decide +kernel
theorem dX5_init_40 : decode cX5_init 40 = .ok (.aload_n 0, 1) := by decide +kernel
theorem dX5_init_41 : decode cX5_init 41 = .ok (.iconst 2, 1) := by decide +kernel
theorem dX5_init_42 : decode cX5_init 42 = .ok (.anewarray 16, 3) := by decide +kernel
theorem dX5_init_45 : decode cX5_init 45 = .ok (.putfield 18, 3) := by decide +kernel
theorem dX5_init_48 : decode cX5_init 48 = .ok (.iconst 0, 1) := by decide +kernel
theorem dX5_init_49 : decode cX5_init 49 = .ok (.istore_n 1, 1) := by decide +kernel
theorem dX5_init_50 : decode cX5_init 50 = .ok (.iload_n 1, 1) := by decide +kernel
theorem dX5_init_51 : decode cX5_init 51 = .ok (.iconst 2, 1) := by decide +kernel
theorem dX5_init_52 : decode cX5_init 52 = .ok (.if_icmp .ge 22, 3) := by decide +kernel
theorem dX5_init_55 : decode cX5_init 55 = .ok (.aload_n 0, 1) := by decide +kernel
theorem dX5_init_56 : decode cX5_init 56 = .ok (.getfield 18, 3) := by decide +kernel
theorem dX5_init_59 : decode cX5_init 59 = .ok (.iload_n 1, 1) := by decide +kernel
theorem dX5_init_60 : decode cX5_init 60 = .ok (.new 16, 3) := by decide +kernel
theorem dX5_init_63 : decode cX5_init 63 = .ok (.dup, 1) := by decide +kernel
theorem dX5_init_64 : decode cX5_init 64 = .ok (.invokespecial 22, 3) := by decide +kernel
theorem dX5_init_67 : decode cX5_init 67 = .ok (.aastore, 1) := by decide +kernel
theorem dX5_init_68 : decode cX5_init 68 = .ok (.iinc 1 1, 3) := by decide +kernel
theorem dX5_init_71 : decode cX5_init 71 = .ok (.goto (-21), 3) := by decide +kernel
theorem dX5_init_74 : decode cX5_init 74 = .ok (.aload_n 0, 1) := by decide +kernel
theorem dX5_init_75 : decode cX5_init 75 = .ok (.new 23, 3) := by decide +kernel
theorem dX5_init_78 : decode cX5_init 78 = .ok (.dup, 1) := by decide +kernel
theorem dX5_init_79 : decode cX5_init 79 = .ok (.invokespecial 25, 3) := by decide +kernel
theorem dX5_init_82 : decode cX5_init 82 = .ok (.putfield 26, 3) := by decide +kernel
theorem dX5_init_85 : decode cX5_init 85 = .ok (.aload_n 0, 1) := by decide +kernel
theorem dX5_init_86 : decode cX5_init 86 = .ok (.new 16, 3) := by decide +kernel
theorem dX5_init_89 : decode cX5_init 89 = .ok (.dup, 1) := by decide +kernel
theorem dX5_init_90 : decode cX5_init 90 = .ok (.invokespecial 22, 3) := by decide +kernel
theorem dX5_init_93 : decode cX5_init 93 = .ok (.putfield 30, 3) := by decide +kernel
theorem dX5_init_96 : decode cX5_init 96 = .ok (.aload_n 0, 1) := by decide +kernel
theorem dX5_init_97 : decode cX5_init 97 = .ok (.new 16, 3) := by decide +kernel
theorem dX5_init_100 : decode cX5_init 100 = .ok (.dup, 1) := by decide +kernel
theorem dX5_init_101 : decode cX5_init 101 = .ok (.invokespecial 22, 3) := by decide +kernel
theorem dX5_init_104 : decode cX5_init 104 = .ok (.putfield 34, 3) := by decide +kernel
theorem dX5_init_107 : decode cX5_init 107 = .ok (.aload_n 0, 1) := by decide +kernel
theorem dX5_init_108 : decode cX5_init 108 = .ok (.new 16, 3) := by decide +kernel
theorem dX5_init_111 : decode cX5_init 111 = .ok (.dup, 1) := by decide +kernel
theorem dX5_init_112 : decode cX5_init 112 = .ok (.invokespecial 22, 3) := by decide +kernel
theorem dX5_init_115 : decode cX5_init 115 = .ok (.putfield 37, 3) := by decide +kernel
theorem dX5_init_118 : decode cX5_init 118 = .ok (.aload_n 0, 1) := by decide +kernel
theorem dX5_init_119 : decode cX5_init 119 = .ok (.new 40, 3) := by decide +kernel
theorem dX5_init_122 : decode cX5_init 122 = .ok (.dup, 1) := by decide +kernel
theorem dX5_init_123 : decode cX5_init 123 = .ok (.invokespecial 42, 3) := by decide +kernel
theorem dX5_init_126 : decode cX5_init 126 = .ok (.putfield 43, 3) := by decide +kernel
theorem dX5_init_129 : decode cX5_init 129 = .ok (.aload_n 0, 1) := by decide +kernel
theorem dX5_init_130 : decode cX5_init 130 = .ok (.new 47, 3) := by decide +kernel
theorem dX5_init_133 : decode cX5_init 133 = .ok (.dup, 1) := by decide +kernel
theorem dX5_init_134 : decode cX5_init 134 = .ok (.invokespecial 49, 3) := by decide +kernel
theorem dX5_init_137 : decode cX5_init 137 = .ok (.putfield 50, 3) := by decide +kernel
theorem dX5_init_140 : decode cX5_init 140 = .ok (.aload_n 0, 1) := by decide +kernel
theorem dX5_init_141 : decode cX5_init 141 = .ok (.iconst 0, 1) := by decide +kernel
theorem dX5_init_142 : decode cX5_init 142 = .ok (.putfield 54, 3) := by decide +kernel
theorem dX5_init_145 : decode cX5_init 145 = .ok (.aload_n 0, 1) := by decide +kernel
theorem dX5_init_146 : decode cX5_init 146 = .ok (.iconst 0, 1) := by decide +kernel
theorem dX5_init_147 : decode cX5_init 147 = .ok (.putfield 58, 3) := by decide +kernel
theorem dX5_init_150 : decode cX5_init 150 = .ok (.return_, 1) := by decide +kernel
theorem dX5_row_0 : decode cX5_row 0 = .ok (.iload_n 1, 1) := by decide +kernel
theorem dX5_row_1 : decode cX5_row 1 = .ok (.invokestatic 61, 3) := by decide +kernel
theorem dX5_row_4 : decode cX5_row 4 = .ok (.ifCond .eq 18, 3) := by decide +kernel
theorem dX5_row_7 : decode cX5_row 7 = .ok (.iload_n 2, 1) := by decide +kernel
theorem dX5_row_8 : decode cX5_row 8 = .ok (.ifCond .lt 14, 3) := by decide +kernel
theorem dX5_row_11 : decode cX5_row 11 = .ok (.iload_n 2, 1) := by decide +kernel
theorem dX5_row_12 : decode cX5_row 12 = .ok (.iconst 2, 1) := by decide +kernel
theorem dX5_row_13 : decode cX5_row 13 = .ok (.if_icmp .gt 9, 3) := by decide +kernel
theorem dX5_row_16 : decode cX5_row 16 = .ok (.iload_n 3, 1) := by decide +kernel
theorem dX5_row_17 : decode cX5_row 17 = .ok (.bipush 40, 2) := by decide +kernel
theorem dX5_row_19 : decode cX5_row 19 = .ok (.if_icmp .le 6, 3) := by decide +kernel
theorem dX5_row_22 : decode cX5_row 22 = .ok (.ldc 65, 2) := by decide +kernel
theorem dX5_row_24 : decode cX5_row 24 = .ok (.ireturn, 1) := by decide +kernel
theorem dX5_row_25 : decode cX5_row 25 = .ok (.iload_n 3, 1) := by decide +kernel
theorem dX5_row_26 : decode cX5_row 26 = .ok (.ifCond .ge 9, 3) := by decide +kernel
theorem dX5_row_29 : decode cX5_row 29 = .ok (.aload_n 0, 1) := by decide +kernel
theorem dX5_row_30 : decode cX5_row 30 = .ok (.iconst 4, 1) := by decide +kernel
theorem dX5_row_31 : decode cX5_row 31 = .ok (.invokevirtual 66, 3) := by decide +kernel
theorem dX5_row_34 : decode cX5_row 34 = .ok (.ireturn, 1) := by decide +kernel
theorem dX5_row_35 : decode cX5_row 35 = .ok (.aload_n 0, 1) := by decide +kernel
theorem dX5_row_36 : decode cX5_row 36 = .ok (.iconst 0, 1) := by decide +kernel
theorem dX5_row_37 : decode cX5_row 37 = .ok (.putfield 58, 3) := by decide +kernel
theorem dX5_row_40 : decode cX5_row 40 = .ok (.aload_n 0, 1) := by decide +kernel
theorem dX5_row_41 : decode cX5_row 41 = .ok (.getfield 11, 3) := by decide +kernel
theorem dX5_row_44 : decode cX5_row 44 = .ok (.iload_n 1, 1) := by decide +kernel
theorem dX5_row_45 : decode cX5_row 45 = .ok (.aaload, 1) := by decide +kernel
theorem dX5_row_46 : decode cX5_row 46 = .ok (.iload_n 2, 1) := by decide +kernel
theorem dX5_row_47 : decode cX5_row 47 = .ok (.iload_n 3, 1) := by decide +kernel
theorem dX5_row_48 : decode cX5_row 48 = .ok (.invokevirtual 70, 3) := by decide +kernel
theorem dX5_row_51 : decode cX5_row 51 = .ok (.iload_n 3, 1) := by decide +kernel
theorem dX5_row_52 : decode cX5_row 52 = .ok (.ireturn, 1) := by decide +kernel
theorem dX5_set_0 : decode cX5_set 0 = .ok (.iload_n 1, 1) := by decide +kernel
theorem dX5_set_1 : decode cX5_set 1 = .ok (.invokestatic 61, 3) := by decide +kernel
theorem dX5_set_4 : decode cX5_set 4 = .ok (.ifCond .ne 6, 3) := by decide +kernel
theorem dX5_set_7 : decode cX5_set 7 = .ok (.ldc 65, 2) := by decide +kernel
theorem dX5_set_9 : decode cX5_set 9 = .ok (.ireturn, 1) := by decide +kernel
theorem dX5_set_10 : decode cX5_set 10 = .ok (.aload_n 0, 1) := by decide +kernel
theorem dX5_set_11 : decode cX5_set 11 = .ok (.getfield 11, 3) := by decide +kernel
theorem dX5_set_14 : decode cX5_set 14 = .ok (.iload_n 1, 1) := by decide +kernel
theorem dX5_set_15 : decode cX5_set 15 = .ok (.aaload, 1) := by decide +kernel
theorem dX5_set_16 : decode cX5_set 16 = .ok (.getfield 74, 3) := by decide +kernel
theorem dX5_set_19 : decode cX5_set 19 = .ok (.ifCond .ne 9, 3) := by decide +kernel
theorem dX5_set_22 : decode cX5_set 22 = .ok (.aload_n 0, 1) := by decide +kernel
theorem dX5_set_23 : decode cX5_set 23 = .ok (.iconst 1, 1) := by decide +kernel
theorem dX5_set_24 : decode cX5_set 24 = .ok (.invokevirtual 66, 3) := by decide +kernel
theorem dX5_set_27 : decode cX5_set 27 = .ok (.ireturn, 1) := by decide +kernel
theorem dX5_set_28 : decode cX5_set 28 = .ok (.aload_n 0, 1) := by decide +kernel
theorem dX5_set_29 : decode cX5_set 29 = .ok (.getfield 11, 3) := by decide +kernel
theorem dX5_set_32 : decode cX5_set 32 = .ok (.iload_n 1, 1) := by decide +kernel
theorem dX5_set_33 : decode cX5_set 33 = .ok (.aaload, 1) := by decide +kernel
theorem dX5_set_34 : decode cX5_set 34 = .ok (.iload_n 2, 1) := by decide +kernel
theorem dX5_set_35 : decode cX5_set 35 = .ok (.iconst 1, 1) := by decide +kernel
theorem dX5_set_36 : decode cX5_set 36 = .ok (.invokevirtual 78, 3) := by decide +kernel
theorem dX5_set_39 : decode cX5_set 39 = .ok (.ifCond .ne 9, 3) := by decide +kernel
theorem dX5_set_42 : decode cX5_set 42 = .ok (.aload_n 0, 1) := by decide +kernel
theorem dX5_set_43 : decode cX5_set 43 = .ok (.iconst 2, 1) := by decide +kernel
theorem dX5_set_44 : decode cX5_set 44 = .ok (.invokevirtual 66, 3) := by decide +kernel
theorem dX5_set_47 : decode cX5_set 47 = .ok (.ireturn, 1) := by decide +kernel
theorem dX5_set_48 : decode cX5_set 48 = .ok (.aload_n 0, 1) := by decide +kernel
theorem dX5_set_49 : decode cX5_set 49 = .ok (.iconst 0, 1) := by decide +kernel
theorem dX5_set_50 : decode cX5_set 50 = .ok (.putfield 58, 3) := by decide +kernel
theorem dX5_set_53 : decode cX5_set 53 = .ok (.aload_n 0, 1) := by decide +kernel
theorem dX5_set_54 : decode cX5_set 54 = .ok (.getfield 11, 3) := by decide +kernel
theorem dX5_set_57 : decode cX5_set 57 = .ok (.iload_n 1, 1) := by decide +kernel
theorem dX5_set_58 : decode cX5_set 58 = .ok (.aaload, 1) := by decide +kernel
theorem dX5_set_59 : decode cX5_set 59 = .ok (.iload_n 2, 1) := by decide +kernel
theorem dX5_set_60 : decode cX5_set 60 = .ok (.iload_n 3, 1) := by decide +kernel
theorem dX5_set_61 : decode cX5_set 61 = .ok (.invokevirtual 82, 3) := by decide +kernel
theorem dX5_set_64 : decode cX5_set 64 = .ok (.ireturn, 1) := by decide +kernel
theorem dX5_copy_0 : decode cX5_copy 0 = .ok (.iload_n 1, 1) := by decide +kernel
theorem dX5_copy_1 : decode cX5_copy 1 = .ok (.invokestatic 61, 3) := by decide +kernel
theorem dX5_copy_4 : decode cX5_copy 4 = .ok (.ifCond .eq 10, 3) := by decide +kernel
theorem dX5_copy_7 : decode cX5_copy 7 = .ok (.iload_n 3, 1) := by decide +kernel
theorem dX5_copy_8 : decode cX5_copy 8 = .ok (.invokestatic 61, 3) := by decide +kernel
theorem dX5_copy_11 : decode cX5_copy 11 = .ok (.ifCond .ne 6, 3) := by decide +kernel
theorem dX5_copy_14 : decode cX5_copy 14 = .ok (.ldc 65, 2) := by decide +kernel
theorem dX5_copy_16 : decode cX5_copy 16 = .ok (.ireturn, 1) := by decide +kernel
theorem dX5_copy_17 : decode cX5_copy 17 = .ok (.aload_n 0, 1) := by decide +kernel
theorem dX5_copy_18 : decode cX5_copy 18 = .ok (.getfield 11, 3) := by decide +kernel
theorem dX5_copy_21 : decode cX5_copy 21 = .ok (.iload_n 1, 1) := by decide +kernel
theorem dX5_copy_22 : decode cX5_copy 22 = .ok (.aaload, 1) := by decide +kernel
theorem dX5_copy_23 : decode cX5_copy 23 = .ok (.astore 6, 2) := by decide +kernel
theorem dX5_copy_25 : decode cX5_copy 25 = .ok (.aload_n 0, 1) := by decide +kernel
theorem dX5_copy_26 : decode cX5_copy 26 = .ok (.getfield 11, 3) := by decide +kernel
theorem dX5_copy_29 : decode cX5_copy 29 = .ok (.iload_n 3, 1) := by decide +kernel
theorem dX5_copy_30 : decode cX5_copy 30 = .ok (.aaload, 1) := by decide +kernel
theorem dX5_copy_31 : decode cX5_copy 31 = .ok (.astore 7, 2) := by decide +kernel
theorem dX5_copy_33 : decode cX5_copy 33 = .ok (.aload 6, 2) := by decide +kernel
theorem dX5_copy_35 : decode cX5_copy 35 = .ok (.getfield 74, 3) := by decide +kernel
theorem dX5_copy_38 : decode cX5_copy 38 = .ok (.ifCond .eq 11, 3) := by decide +kernel
theorem dX5_copy_41 : decode cX5_copy 41 = .ok (.aload 7, 2) := by decide +kernel
theorem dX5_copy_43 : decode cX5_copy 43 = .ok (.getfield 74, 3) := by decide +kernel
theorem dX5_copy_46 : decode cX5_copy 46 = .ok (.ifCond .ne 9, 3) := by decide +kernel
theorem dX5_copy_49 : decode cX5_copy 49 = .ok (.aload_n 0, 1) := by decide +kernel
theorem dX5_copy_50 : decode cX5_copy 50 = .ok (.iconst 1, 1) := by decide +kernel
theorem dX5_copy_51 : decode cX5_copy 51 = .ok (.invokevirtual 66, 3) := by decide +kernel
theorem dX5_copy_54 : decode cX5_copy 54 = .ok (.ireturn, 1) := by decide +kernel
theorem dX5_copy_55 : decode cX5_copy 55 = .ok (.aload 6, 2) := by decide +kernel
theorem dX5_copy_57 : decode cX5_copy 57 = .ok (.getfield 86, 3) := by decide +kernel
theorem dX5_copy_60 : decode cX5_copy 60 = .ok (.aload 7, 2) := by decide +kernel
theorem dX5_copy_62 : decode cX5_copy 62 = .ok (.getfield 86, 3) := by decide +kernel
theorem dX5_copy_65 : decode cX5_copy 65 = .ok (.if_icmp .eq 9, 3) := by decide +kernel
theorem dX5_copy_68 : decode cX5_copy 68 = .ok (.aload_n 0, 1) := by decide +kernel
theorem dX5_copy_69 : decode cX5_copy 69 = .ok (.iconst 5, 1) := by decide +kernel
theorem dX5_copy_70 : decode cX5_copy 70 = .ok (.invokevirtual 66, 3) := by decide +kernel
theorem dX5_copy_73 : decode cX5_copy 73 = .ok (.ireturn, 1) := by decide +kernel
theorem dX5_copy_74 : decode cX5_copy 74 = .ok (.aload 6, 2) := by decide +kernel
theorem dX5_copy_76 : decode cX5_copy 76 = .ok (.iload_n 2, 1) := by decide +kernel
theorem dX5_copy_77 : decode cX5_copy 77 = .ok (.iload 5, 2) := by decide +kernel
theorem dX5_copy_79 : decode cX5_copy 79 = .ok (.invokevirtual 78, 3) := by decide +kernel
theorem dX5_copy_82 : decode cX5_copy 82 = .ok (.ifCond .eq 15, 3) := by decide +kernel
theorem dX5_copy_85 : decode cX5_copy 85 = .ok (.aload 7, 2) := by decide +kernel
theorem dX5_copy_87 : decode cX5_copy 87 = .ok (.iload 4, 2) := by decide +kernel
theorem dX5_copy_89 : decode cX5_copy 89 = .ok (.iload 5, 2) := by decide +kernel
theorem dX5_copy_91 : decode cX5_copy 91 = .ok (.invokevirtual 78, 3) := by decide +kernel
theorem dX5_copy_94 : decode cX5_copy 94 = .ok (.ifCond .ne 9, 3) := by decide +kernel
theorem dX5_copy_97 : decode cX5_copy 97 = .ok (.aload_n 0, 1) := by decide +kernel
theorem dX5_copy_98 : decode cX5_copy 98 = .ok (.iconst 2, 1) := by decide +kernel
theorem dX5_copy_99 : decode cX5_copy 99 = .ok (.invokevirtual 66, 3) := by decide +kernel
theorem dX5_copy_102 : decode cX5_copy 102 = .ok (.ireturn, 1) := by decide +kernel
theorem dX5_copy_103 : decode cX5_copy 103 = .ok (.aload_n 0, 1) := by decide +kernel
theorem dX5_copy_104 : decode cX5_copy 104 = .ok (.iconst 0, 1) := by decide +kernel
theorem dX5_copy_105 : decode cX5_copy 105 = .ok (.putfield 58, 3) := by decide +kernel
theorem dX5_copy_108 : decode cX5_copy 108 = .ok (.aload 6, 2) := by decide +kernel
theorem dX5_copy_110 : decode cX5_copy 110 = .ok (.getfield 89, 3) := by decide +kernel
theorem dX5_copy_113 : decode cX5_copy 113 = .ok (.iload_n 2, 1) := by decide +kernel
theorem dX5_copy_114 : decode cX5_copy 114 = .ok (.aload 7, 2) := by decide +kernel
theorem dX5_copy_116 : decode cX5_copy 116 = .ok (.getfield 89, 3) := by decide +kernel
theorem dX5_copy_119 : decode cX5_copy 119 = .ok (.iload 4, 2) := by decide +kernel
theorem dX5_copy_121 : decode cX5_copy 121 = .ok (.iload 5, 2) := by decide +kernel
theorem dX5_copy_123 : decode cX5_copy 123 = .ok (.invokestatic 93, 3) := by decide +kernel
theorem dX5_copy_126 : decode cX5_copy 126 = .ok (.iload 5, 2) := by decide +kernel
theorem dX5_copy_128 : decode cX5_copy 128 = .ok (.ireturn, 1) := by decide +kernel
theorem dX5_drop_0 : decode cX5_drop 0 = .ok (.iload_n 1, 1) := by decide +kernel
theorem dX5_drop_1 : decode cX5_drop 1 = .ok (.invokestatic 61, 3) := by decide +kernel
theorem dX5_drop_4 : decode cX5_drop 4 = .ok (.ifCond .ne 6, 3) := by decide +kernel
theorem dX5_drop_7 : decode cX5_drop 7 = .ok (.ldc 65, 2) := by decide +kernel
theorem dX5_drop_9 : decode cX5_drop 9 = .ok (.ireturn, 1) := by decide +kernel
theorem dX5_drop_10 : decode cX5_drop 10 = .ok (.aload_n 0, 1) := by decide +kernel
theorem dX5_drop_11 : decode cX5_drop 11 = .ok (.getfield 11, 3) := by decide +kernel
theorem dX5_drop_14 : decode cX5_drop 14 = .ok (.iload_n 1, 1) := by decide +kernel
theorem dX5_drop_15 : decode cX5_drop 15 = .ok (.aaload, 1) := by decide +kernel
theorem dX5_drop_16 : decode cX5_drop 16 = .ok (.getfield 74, 3) := by decide +kernel
theorem dX5_drop_19 : decode cX5_drop 19 = .ok (.ifCond .ne 9, 3) := by decide +kernel
theorem dX5_drop_22 : decode cX5_drop 22 = .ok (.aload_n 0, 1) := by decide +kernel
theorem dX5_drop_23 : decode cX5_drop 23 = .ok (.iconst 1, 1) := by decide +kernel
theorem dX5_drop_24 : decode cX5_drop 24 = .ok (.invokevirtual 66, 3) := by decide +kernel
theorem dX5_drop_27 : decode cX5_drop 27 = .ok (.ireturn, 1) := by decide +kernel
theorem dX5_drop_28 : decode cX5_drop 28 = .ok (.aload_n 0, 1) := by decide +kernel
theorem dX5_drop_29 : decode cX5_drop 29 = .ok (.iconst 0, 1) := by decide +kernel
theorem dX5_drop_30 : decode cX5_drop 30 = .ok (.putfield 58, 3) := by decide +kernel
theorem dX5_drop_33 : decode cX5_drop 33 = .ok (.aload_n 0, 1) := by decide +kernel
