-- decode rows printed of the program (NAMES.whole)
theorem dX6_found_7 : decode cX6_found 7 = .ok (.iload_n 1, 1) := by decide +kernel
theorem dX6_found_8 : decode cX6_found 8 = .ok (.isub, 1) := by decide +kernel
theorem dX6_found_9 : decode cX6_found 9 = .ok (.ireturn, 1) := by decide +kernel
theorem dX6_well_0 : decode cX6_well 0 = .ok (.aload_n 0, 1) := by decide +kernel
theorem dX6_well_1 : decode cX6_well 1 = .ok (.iconst 0, 1) := by decide +kernel
theorem dX6_well_2 : decode cX6_well 2 = .ok (.putfield 47, 3) := by decide +kernel
theorem dX6_well_5 : decode cX6_well 5 = .ok (.iload_n 1, 1) := by decide +kernel
theorem dX6_well_6 : decode cX6_well 6 = .ok (.ireturn, 1) := by decide +kernel
theorem dX6_isRow_0 : decode cX6_isRow 0 = .ok (.iload_n 0, 1) := by decide +kernel
theorem dX6_isRow_1 : decode cX6_isRow 1 = .ok (.i2l, 1) := by decide +kernel
theorem dX6_isRow_2 : decode cX6_isRow 2 = .ok (.lconst 0, 1) := by decide +kernel
theorem dX6_isRow_3 : decode cX6_isRow 3 = .ok (.ldc2_w 52, 3) := by decide +kernel
theorem dX6_isRow_6 : decode cX6_isRow 6 = .ok (.invokestatic 54, 3) := by decide +kernel
theorem dX6_isRow_9 : decode cX6_isRow 9 = .ok (.ireturn, 1) := by decide +kernel
theorem dX6_row_0 : decode cX6_row 0 = .ok (.iload_n 1, 1) := by decide +kernel
theorem dX6_row_1 : decode cX6_row 1 = .ok (.invokestatic 58, 3) := by decide +kernel
theorem dX6_row_4 : decode cX6_row 4 = .ok (.ifCond .eq 21, 3) := by decide +kernel
theorem dX6_row_7 : decode cX6_row 7 = .ok (.iload_n 2, 1) := by decide +kernel
theorem dX6_row_8 : decode cX6_row 8 = .ok (.i2l, 1) := by decide +kernel
theorem dX6_row_9 : decode cX6_row 9 = .ok (.lconst 0, 1) := by decide +kernel
theorem dX6_row_10 : decode cX6_row 10 = .ok (.ldc2_w 62, 3) := by decide +kernel
theorem dX6_row_13 : decode cX6_row 13 = .ok (.invokestatic 54, 3) := by decide +kernel
theorem dX6_row_16 : decode cX6_row 16 = .ok (.ifCond .eq 9, 3) := by decide +kernel
theorem dX6_row_19 : decode cX6_row 19 = .ok (.iload_n 3, 1) := by decide +kernel
theorem dX6_row_20 : decode cX6_row 20 = .ok (.bipush 40, 2) := by decide +kernel
theorem dX6_row_22 : decode cX6_row 22 = .ok (.if_icmp .le 6, 3) := by decide +kernel
theorem dX6_row_25 : decode cX6_row 25 = .ok (.ldc 64, 2) := by decide +kernel
theorem dX6_row_27 : decode cX6_row 27 = .ok (.ireturn, 1) := by decide +kernel
theorem dX6_row_28 : decode cX6_row 28 = .ok (.iload_n 3, 1) := by decide +kernel
theorem dX6_row_29 : decode cX6_row 29 = .ok (.ifCond .ge 9, 3) := by decide +kernel
theorem dX6_row_32 : decode cX6_row 32 = .ok (.aload_n 0, 1) := by decide +kernel
theorem dX6_row_33 : decode cX6_row 33 = .ok (.iconst 4, 1) := by decide +kernel
theorem dX6_row_34 : decode cX6_row 34 = .ok (.invokevirtual 65, 3) := by decide +kernel
theorem dX6_row_37 : decode cX6_row 37 = .ok (.ireturn, 1) := by decide +kernel
theorem dX6_row_38 : decode cX6_row 38 = .ok (.aload_n 0, 1) := by decide +kernel
theorem dX6_row_39 : decode cX6_row 39 = .ok (.getfield 7, 3) := by decide +kernel
theorem dX6_row_42 : decode cX6_row 42 = .ok (.iload_n 1, 1) := by decide +kernel
theorem dX6_row_43 : decode cX6_row 43 = .ok (.iload_n 2, 1) := by decide +kernel
theorem dX6_row_44 : decode cX6_row 44 = .ok (.iastore, 1) := by decide +kernel
theorem dX6_row_45 : decode cX6_row 45 = .ok (.aload_n 0, 1) := by decide +kernel
theorem dX6_row_46 : decode cX6_row 46 = .ok (.getfield 13, 3) := by decide +kernel
theorem dX6_row_49 : decode cX6_row 49 = .ok (.iload_n 1, 1) := by decide +kernel
theorem dX6_row_50 : decode cX6_row 50 = .ok (.iload_n 3, 1) := by decide +kernel
theorem dX6_row_51 : decode cX6_row 51 = .ok (.iastore, 1) := by decide +kernel
theorem dX6_row_52 : decode cX6_row 52 = .ok (.iconst 0, 1) := by decide +kernel
theorem dX6_row_53 : decode cX6_row 53 = .ok (.istore 4, 2) := by decide +kernel
theorem dX6_row_55 : decode cX6_row 55 = .ok (.iload 4, 2) := by decide +kernel
theorem dX6_row_57 : decode cX6_row 57 = .ok (.bipush 40, 2) := by decide +kernel
theorem dX6_row_59 : decode cX6_row 59 = .ok (.if_icmp .ge 22, 3) := by decide +kernel
theorem dX6_row_62 : decode cX6_row 62 = .ok (.aload_n 0, 1) := by decide +kernel
theorem dX6_row_63 : decode cX6_row 63 = .ok (.getfield 16, 3) := by decide +kernel
theorem dX6_row_66 : decode cX6_row 66 = .ok (.bipush 40, 2) := by decide +kernel
theorem dX6_row_68 : decode cX6_row 68 = .ok (.iload_n 1, 1) := by decide +kernel
theorem dX6_row_69 : decode cX6_row 69 = .ok (.imul, 1) := by decide +kernel
theorem dX6_row_70 : decode cX6_row 70 = .ok (.iload 4, 2) := by decide +kernel
theorem dX6_row_72 : decode cX6_row 72 = .ok (.iadd, 1) := by decide +kernel
theorem dX6_row_73 : decode cX6_row 73 = .ok (.iconst 0, 1) := by decide +kernel
theorem dX6_row_74 : decode cX6_row 74 = .ok (.iastore, 1) := by decide +kernel
theorem dX6_row_75 : decode cX6_row 75 = .ok (.iinc 4 1, 3) := by decide +kernel
theorem dX6_row_78 : decode cX6_row 78 = .ok (.goto (-23), 3) := by decide +kernel
theorem dX6_row_81 : decode cX6_row 81 = .ok (.aload_n 0, 1) := by decide +kernel
theorem dX6_row_82 : decode cX6_row 82 = .ok (.iload_n 3, 1) := by decide +kernel
theorem dX6_row_83 : decode cX6_row 83 = .ok (.invokevirtual 69, 3) := by decide +kernel
theorem dX6_row_86 : decode cX6_row 86 = .ok (.ireturn, 1) := by decide +kernel
theorem dX6_set_0 : decode cX6_set 0 = .ok (.iload_n 1, 1) := by decide +kernel
theorem dX6_set_1 : decode cX6_set 1 = .ok (.invokestatic 58, 3) := by decide +kernel
theorem dX6_set_4 : decode cX6_set 4 = .ok (.ifCond .ne 6, 3) := by decide +kernel
theorem dX6_set_7 : decode cX6_set 7 = .ok (.ldc 64, 2) := by decide +kernel
theorem dX6_set_9 : decode cX6_set 9 = .ok (.ireturn, 1) := by decide +kernel
theorem dX6_set_10 : decode cX6_set 10 = .ok (.aload_n 0, 1) := by decide +kernel
theorem dX6_set_11 : decode cX6_set 11 = .ok (.getfield 13, 3) := by decide +kernel
theorem dX6_set_14 : decode cX6_set 14 = .ok (.iload_n 1, 1) := by decide +kernel
theorem dX6_set_15 : decode cX6_set 15 = .ok (.iaload, 1) := by decide +kernel
theorem dX6_set_16 : decode cX6_set 16 = .ok (.ifCond .ge 9, 3) := by decide +kernel
theorem dX6_set_19 : decode cX6_set 19 = .ok (.aload_n 0, 1) := by decide +kernel
theorem dX6_set_20 : decode cX6_set 20 = .ok (.iconst 1, 1) := by decide +kernel
theorem dX6_set_21 : decode cX6_set 21 = .ok (.invokevirtual 65, 3) := by decide +kernel
theorem dX6_set_24 : decode cX6_set 24 = .ok (.ireturn, 1) := by decide +kernel
theorem dX6_set_25 : decode cX6_set 25 = .ok (.iload_n 2, 1) := by decide +kernel
theorem dX6_set_26 : decode cX6_set 26 = .ok (.i2l, 1) := by decide +kernel
theorem dX6_set_27 : decode cX6_set 27 = .ok (.lconst 0, 1) := by decide +kernel
theorem dX6_set_28 : decode cX6_set 28 = .ok (.aload_n 0, 1) := by decide +kernel
theorem dX6_set_29 : decode cX6_set 29 = .ok (.getfield 13, 3) := by decide +kernel
theorem dX6_set_32 : decode cX6_set 32 = .ok (.iload_n 1, 1) := by decide +kernel
theorem dX6_set_33 : decode cX6_set 33 = .ok (.iaload, 1) := by decide +kernel
theorem dX6_set_34 : decode cX6_set 34 = .ok (.iconst 1, 1) := by decide +kernel
theorem dX6_set_35 : decode cX6_set 35 = .ok (.isub, 1) := by decide +kernel
theorem dX6_set_36 : decode cX6_set 36 = .ok (.i2l, 1) := by decide +kernel
theorem dX6_set_37 : decode cX6_set 37 = .ok (.invokestatic 54, 3) := by decide +kernel
theorem dX6_set_40 : decode cX6_set 40 = .ok (.ifCond .ne 9, 3) := by decide +kernel
theorem dX6_set_43 : decode cX6_set 43 = .ok (.aload_n 0, 1) := by decide +kernel
theorem dX6_set_44 : decode cX6_set 44 = .ok (.iconst 2, 1) := by decide +kernel
theorem dX6_set_45 : decode cX6_set 45 = .ok (.invokevirtual 65, 3) := by decide +kernel
theorem dX6_set_48 : decode cX6_set 48 = .ok (.ireturn, 1) := by decide +kernel
theorem dX6_set_49 : decode cX6_set 49 = .ok (.aload_n 0, 1) := by decide +kernel
theorem dX6_set_50 : decode cX6_set 50 = .ok (.getfield 16, 3) := by decide +kernel
theorem dX6_set_53 : decode cX6_set 53 = .ok (.bipush 40, 2) := by decide +kernel
theorem dX6_set_55 : decode cX6_set 55 = .ok (.iload_n 1, 1) := by decide +kernel
theorem dX6_set_56 : decode cX6_set 56 = .ok (.imul, 1) := by decide +kernel
theorem dX6_set_57 : decode cX6_set 57 = .ok (.iload_n 2, 1) := by decide +kernel
theorem dX6_set_58 : decode cX6_set 58 = .ok (.iadd, 1) := by decide +kernel
theorem dX6_set_59 : decode cX6_set 59 = .ok (.aload_n 0, 1) := by decide +kernel
theorem dX6_set_60 : decode cX6_set 60 = .ok (.getfield 7, 3) := by decide +kernel
theorem dX6_set_63 : decode cX6_set 63 = .ok (.iload_n 1, 1) := by decide +kernel
theorem dX6_set_64 : decode cX6_set 64 = .ok (.iaload, 1) := by decide +kernel
theorem dX6_set_65 : decode cX6_set 65 = .ok (.ifCond .ne 8, 3) := by decide +kernel
theorem dX6_set_68 : decode cX6_set 68 = .ok (.iload_n 3, 1) := by decide +kernel
theorem dX6_set_69 : decode cX6_set 69 = .ok (.i2b, 1) := by decide +kernel
theorem dX6_set_70 : decode cX6_set 70 = .ok (.goto 19, 3) := by decide +kernel
theorem dX6_set_73 : decode cX6_set 73 = .ok (.aload_n 0, 1) := by decide +kernel
theorem dX6_set_74 : decode cX6_set 74 = .ok (.getfield 7, 3) := by decide +kernel
theorem dX6_set_77 : decode cX6_set 77 = .ok (.iload_n 1, 1) := by decide +kernel
theorem dX6_set_78 : decode cX6_set 78 = .ok (.iaload, 1) := by decide +kernel
theorem dX6_set_79 : decode cX6_set 79 = .ok (.iconst 1, 1) := by decide +kernel
theorem dX6_set_80 : decode cX6_set 80 = .ok (.if_icmp .ne 8, 3) := by decide +kernel
theorem dX6_set_83 : decode cX6_set 83 = .ok (.iload_n 3, 1) := by decide +kernel
theorem dX6_set_84 : decode cX6_set 84 = .ok (.i2s, 1) := by decide +kernel
theorem dX6_set_85 : decode cX6_set 85 = .ok (.goto 4, 3) := by decide +kernel
theorem dX6_set_88 : decode cX6_set 88 = .ok (.iload_n 3, 1) := by decide +kernel
theorem dX6_set_89 : decode cX6_set 89 = .ok (.iastore, 1) := by decide +kernel
theorem dX6_set_90 : decode cX6_set 90 = .ok (.aload_n 0, 1) := by decide +kernel
theorem dX6_set_91 : decode cX6_set 91 = .ok (.aload_n 0, 1) := by decide +kernel
theorem dX6_set_92 : decode cX6_set 92 = .ok (.getfield 16, 3) := by decide +kernel
theorem dX6_set_95 : decode cX6_set 95 = .ok (.bipush 40, 2) := by decide +kernel
theorem dX6_set_97 : decode cX6_set 97 = .ok (.iload_n 1, 1) := by decide +kernel
theorem dX6_set_98 : decode cX6_set 98 = .ok (.imul, 1) := by decide +kernel
theorem dX6_set_99 : decode cX6_set 99 = .ok (.iload_n 2, 1) := by decide +kernel
theorem dX6_set_100 : decode cX6_set 100 = .ok (.iadd, 1) := by decide +kernel
theorem dX6_set_101 : decode cX6_set 101 = .ok (.iaload, 1) := by decide +kernel
theorem dX6_set_102 : decode cX6_set 102 = .ok (.invokevirtual 69, 3) := by decide +kernel
theorem dX6_set_105 : decode cX6_set 105 = .ok (.ireturn, 1) := by decide +kernel
theorem dX6_copy_0 : decode cX6_copy 0 = .ok (.iload_n 1, 1) := by decide +kernel
theorem dX6_copy_1 : decode cX6_copy 1 = .ok (.invokestatic 58, 3) := by decide +kernel
theorem dX6_copy_4 : decode cX6_copy 4 = .ok (.ifCond .eq 10, 3) := by decide +kernel
theorem dX6_copy_7 : decode cX6_copy 7 = .ok (.iload_n 3, 1) := by decide +kernel
theorem dX6_copy_8 : decode cX6_copy 8 = .ok (.invokestatic 58, 3) := by decide +kernel
theorem dX6_copy_11 : decode cX6_copy 11 = .ok (.ifCond .ne 6, 3) := by decide +kernel
theorem dX6_copy_14 : decode cX6_copy 14 = .ok (.ldc 64, 2) := by decide +kernel
theorem dX6_copy_16 : decode cX6_copy 16 = .ok (.ireturn, 1) := by decide +kernel
theorem dX6_copy_17 : decode cX6_copy 17 = .ok (.aload_n 0, 1) := by decide +kernel
theorem dX6_copy_18 : decode cX6_copy 18 = .ok (.getfield 13, 3) := by decide +kernel
theorem dX6_copy_21 : decode cX6_copy 21 = .ok (.iload_n 1, 1) := by decide +kernel
theorem dX6_copy_22 : decode cX6_copy 22 = .ok (.iaload, 1) := by decide +kernel
theorem dX6_copy_23 : decode cX6_copy 23 = .ok (.ifCond .lt 12, 3) := by decide +kernel
theorem dX6_copy_26 : decode cX6_copy 26 = .ok (.aload_n 0, 1) := by decide +kernel
theorem dX6_copy_27 : decode cX6_copy 27 = .ok (.getfield 13, 3) := by decide +kernel
theorem dX6_copy_30 : decode cX6_copy 30 = .ok (.iload_n 3, 1) := by decide +kernel
theorem dX6_copy_31 : decode cX6_copy 31 = .ok (.iaload, 1) := by decide +kernel
theorem dX6_copy_32 : decode cX6_copy 32 = .ok (.ifCond .ge 9, 3) := by decide +kernel
theorem dX6_copy_35 : decode cX6_copy 35 = .ok (.aload_n 0, 1) := by decide +kernel
theorem dX6_copy_36 : decode cX6_copy 36 = .ok (.iconst 1, 1) := by decide +kernel
theorem dX6_copy_37 : decode cX6_copy 37 = .ok (.invokevirtual 65, 3) := by decide +kernel
theorem dX6_copy_40 : decode cX6_copy 40 = .ok (.ireturn, 1) := by decide +kernel
theorem dX6_copy_41 : decode cX6_copy 41 = .ok (.aload_n 0, 1) := by decide +kernel
theorem dX6_copy_42 : decode cX6_copy 42 = .ok (.getfield 7, 3) := by decide +kernel
theorem dX6_copy_45 : decode cX6_copy 45 = .ok (.iload_n 1, 1) := by decide +kernel
theorem dX6_copy_46 : decode cX6_copy 46 = .ok (.iaload, 1) := by decide +kernel
theorem dX6_copy_47 : decode cX6_copy 47 = .ok (.aload_n 0, 1) := by decide +kernel
theorem dX6_copy_48 : decode cX6_copy 48 = .ok (.getfield 7, 3) := by decide +kernel
theorem dX6_copy_51 : decode cX6_copy 51 = .ok (.iload_n 3, 1) := by decide +kernel
theorem dX6_copy_52 : decode cX6_copy 52 = .ok (.iaload, 1) := by decide +kernel
theorem dX6_copy_53 : decode cX6_copy 53 = .ok (.if_icmp .eq 9, 3) := by decide +kernel
theorem dX6_copy_56 : decode cX6_copy 56 = .ok (.aload_n 0, 1) := by decide +kernel
theorem dX6_copy_57 : decode cX6_copy 57 = .ok (.iconst 5, 1) := by decide +kernel
theorem dX6_copy_58 : decode cX6_copy 58 = .ok (.invokevirtual 65, 3) := by decide +kernel
theorem dX6_copy_61 : decode cX6_copy 61 = .ok (.ireturn, 1) := by decide +kernel
theorem dX6_copy_62 : decode cX6_copy 62 = .ok (.iload_n 2, 1) := by decide +kernel
theorem dX6_copy_63 : decode cX6_copy 63 = .ok (.ifCond .lt 48, 3) := by decide +kernel
theorem dX6_copy_66 : decode cX6_copy 66 = .ok (.iload 4, 2) := by decide +kernel
theorem dX6_copy_68 : decode cX6_copy 68 = .ok (.ifCond .lt 43, 3) := by decide +kernel
theorem dX6_copy_71 : decode cX6_copy 71 = .ok (.iload 5, 2) := by decide +kernel
theorem dX6_copy_73 : decode cX6_copy 73 = .ok (.ifCond .lt 38, 3) := by decide +kernel
theorem dX6_copy_76 : decode cX6_copy 76 = .ok (.iload_n 2, 1) := by decide +kernel
theorem dX6_copy_77 : decode cX6_copy 77 = .ok (.i2l, 1) := by decide +kernel
theorem dX6_copy_78 : decode cX6_copy 78 = .ok (.iload 5, 2) := by decide +kernel
theorem dX6_copy_80 : decode cX6_copy 80 = .ok (.i2l, 1) := by decide +kernel
theorem dX6_copy_81 : decode cX6_copy 81 = .ok (.ladd, 1) := by decide +kernel
theorem dX6_copy_82 : decode cX6_copy 82 = .ok (.aload_n 0, 1) := by decide +kernel
theorem dX6_copy_83 : decode cX6_copy 83 = .ok (.getfield 13, 3) := by decide +kernel
theorem dX6_copy_86 : decode cX6_copy 86 = .ok (.iload_n 1, 1) := by decide +kernel
theorem dX6_copy_87 : decode cX6_copy 87 = .ok (.iaload, 1) := by decide +kernel
theorem dX6_copy_88 : decode cX6_copy 88 = .ok (.i2l, 1) := by decide +kernel
theorem dX6_copy_89 : decode cX6_copy 89 = .ok (.lcmp, 1) := by decide +kernel
theorem dX6_copy_90 : decode cX6_copy 90 = .ok (.ifCond .gt 21, 3) := by decide +kernel
theorem dX6_copy_93 : decode cX6_copy 93 = .ok (.iload 4, 2) := by decide +kernel
theorem dX6_copy_95 : decode cX6_copy 95 = .ok (.i2l, 1) := by decide +kernel
theorem dX6_copy_96 : decode cX6_copy 96 = .ok (.iload 5, 2) := by decide +kernel
theorem dX6_copy_98 : decode cX6_copy 98 = .ok (.i2l, 1) := by decide +kernel
theorem dX6_copy_99 : decode cX6_copy 99 = .ok (.ladd, 1) := by decide +kernel
theorem dX6_copy_100 : decode cX6_copy 100 = .ok (.aload_n 0, 1) := by decide +kernel
theorem dX6_copy_101 : decode cX6_copy 101 = .ok (.getfield 13, 3) := by decide +kernel
theorem dX6_copy_104 : decode cX6_copy 104 = .ok (.iload_n 3, 1) := by decide +kernel
theorem dX6_copy_105 : decode cX6_copy 105 = .ok (.iaload, 1) := by decide +kernel
theorem dX6_copy_106 : decode cX6_copy 106 = .ok (.i2l, 1) := by decide +kernel
theorem dX6_copy_107 : decode cX6_copy 107 = .ok (.lcmp, 1) := by decide +kernel
theorem dX6_copy_108 : decode cX6_copy 108 = .ok (.ifCond .le 9, 3) := by decide +kernel
theorem dX6_copy_111 : decode cX6_copy 111 = .ok (.aload_n 0, 1) := by decide +kernel
theorem dX6_copy_112 : decode cX6_copy 112 = .ok (.iconst 2, 1) := by decide +kernel
theorem dX6_copy_113 : decode cX6_copy 113 = .ok (.invokevirtual 65, 3) := by decide +kernel
theorem dX6_copy_116 : decode cX6_copy 116 = .ok (.ireturn, 1) := by decide +kernel
theorem dX6_copy_117 : decode cX6_copy 117 = .ok (.iconst 0, 1) := by decide +kernel
theorem dX6_copy_118 : decode cX6_copy 118 = .ok (.istore 6, 2) := by decide +kernel
theorem dX6_copy_120 : decode cX6_copy 120 = .ok (.iload 6, 2) := by decide +kernel
theorem dX6_copy_122 : decode cX6_copy 122 = .ok (.iload 5, 2) := by decide +kernel
theorem dX6_copy_124 : decode cX6_copy 124 = .ok (.if_icmp .ge 58, 3) := by decide +kernel
theorem dX6_copy_127 : decode cX6_copy 127 = .ok (.iload 4, 2) := by decide +kernel
theorem dX6_copy_129 : decode cX6_copy 129 = .ok (.iload_n 2, 1) := by decide +kernel
theorem dX6_copy_130 : decode cX6_copy 130 = .ok (.if_icmp .le 13, 3) := by decide +kernel
theorem dX6_copy_133 : decode cX6_copy 133 = .ok (.iload 5, 2) := by decide +kernel
theorem dX6_copy_135 : decode cX6_copy 135 = .ok (.iconst 1, 1) := by decide +kernel
theorem dX6_copy_136 : decode cX6_copy 136 = .ok (.isub, 1) := by decide +kernel
theorem dX6_copy_137 : decode cX6_copy 137 = .ok (.iload 6, 2) := by decide +kernel
theorem dX6_copy_139 : decode cX6_copy 139 = .ok (.isub, 1) := by decide +kernel
theorem dX6_copy_140 : decode cX6_copy 140 = .ok (.goto 5, 3) := by decide +kernel
theorem dX6_copy_143 : decode cX6_copy 143 = .ok (.iload 6, 2) := by decide +kernel
theorem dX6_copy_145 : decode cX6_copy 145 = .ok (.istore 7, 2) := by decide +kernel
theorem dX6_copy_147 : decode cX6_copy 147 = .ok (.aload_n 0, 1) := by decide +kernel
theorem dX6_copy_148 : decode cX6_copy 148 = .ok (.getfield 16, 3) := by decide +kernel
theorem dX6_copy_151 : decode cX6_copy 151 = .ok (.bipush 40, 2) := by decide +kernel
theorem dX6_copy_153 : decode cX6_copy 153 = .ok (.iload_n 3, 1) := by decide +kernel
theorem dX6_copy_154 : decode cX6_copy 154 = .ok (.imul, 1) := by decide +kernel
theorem dX6_copy_155 : decode cX6_copy 155 = .ok (.iload 4, 2) := by decide +kernel
theorem dX6_copy_157 : decode cX6_copy 157 = .ok (.iadd, 1) := by decide +kernel
theorem dX6_copy_158 : decode cX6_copy 158 = .ok (.iload 7, 2) := by decide +kernel
theorem dX6_copy_160 : decode cX6_copy 160 = .ok (.iadd, 1) := by decide +kernel
theorem dX6_copy_161 : decode cX6_copy 161 = .ok (.aload_n 0, 1) := by decide +kernel
theorem dX6_copy_162 : decode cX6_copy 162 = .ok (.getfield 16, 3) := by decide +kernel
theorem dX6_copy_165 : decode cX6_copy 165 = .ok (.bipush 40, 2) := by decide +kernel
theorem dX6_copy_167 : decode cX6_copy 167 = .ok (.iload_n 1, 1) := by decide +kernel
theorem dX6_copy_168 : decode cX6_copy 168 = .ok (.imul, 1) := by decide +kernel
theorem dX6_copy_169 : decode cX6_copy 169 = .ok (.iload_n 2, 1) := by decide +kernel
theorem dX6_copy_170 : decode cX6_copy 170 = .ok (.iadd, 1) := by decide +kernel
theorem dX6_copy_171 : decode cX6_copy 171 = .ok (.iload 7, 2) := by decide +kernel
theorem dX6_copy_173 : decode cX6_copy 173 = .ok (.iadd, 1) := by decide +kernel
theorem dX6_copy_174 : decode cX6_copy 174 = .ok (.iaload, 1) := by decide +kernel
theorem dX6_copy_175 : decode cX6_copy 175 = .ok (.iastore, 1) := by decide +kernel
theorem dX6_copy_176 : decode cX6_copy 176 = .ok (.iinc 6 1, 3) := by decide +kernel
theorem dX6_copy_179 : decode cX6_copy 179 = .ok (.goto (-59), 3) := by decide +kernel
theorem dX6_copy_182 : decode cX6_copy 182 = .ok (.aload_n 0, 1) := by decide +kernel
theorem dX6_copy_183 : decode cX6_copy 183 = .ok (.iload 5, 2) := by decide +kernel
theorem dX6_copy_185 : decode cX6_copy 185 = .ok (.invokevirtual 69, 3) := by decide +kernel
theorem dX6_copy_188 : decode cX6_copy 188 = .ok (.ireturn, 1) := by decide +kernel
theorem dX6_drop_0 : decode cX6_drop 0 = .ok (.iload_n 1, 1) := by decide +kernel
theorem dX6_drop_1 : decode cX6_drop 1 = .ok (.invokestatic 58, 3) := by decide +kernel
theorem dX6_drop_4 : decode cX6_drop 4 = .ok (.ifCond .ne 6, 3) := by decide +kernel
theorem dX6_drop_7 : decode cX6_drop 7 = .ok (.ldc 64, 2) := by decide +kernel
theorem dX6_drop_9 : decode cX6_drop 9 = .ok (.ireturn, 1) := by decide +kernel
theorem dX6_drop_10 : decode cX6_drop 10 = .ok (.aload_n 0, 1) := by decide +kernel
theorem dX6_drop_11 : decode cX6_drop 11 = .ok (.getfield 13, 3) := by decide +kernel
theorem dX6_drop_14 : decode cX6_drop 14 = .ok (.iload_n 1, 1) := by decide +kernel
theorem dX6_drop_15 : decode cX6_drop 15 = .ok (.iaload, 1) := by decide +kernel
theorem dX6_drop_16 : decode cX6_drop 16 = .ok (.ifCond .ge 9, 3) := by decide +kernel
theorem dX6_drop_19 : decode cX6_drop 19 = .ok (.aload_n 0, 1) := by decide +kernel
theorem dX6_drop_20 : decode cX6_drop 20 = .ok (.iconst 1, 1) := by decide +kernel
theorem dX6_drop_21 : decode cX6_drop 21 = .ok (.invokevirtual 65, 3) := by decide +kernel
theorem dX6_drop_24 : decode cX6_drop 24 = .ok (.ireturn, 1) := by decide +kernel
theorem dX6_drop_25 : decode cX6_drop 25 = .ok (.aload_n 0, 1) := by decide +kernel
theorem dX6_drop_26 : decode cX6_drop 26 = .ok (.getfield 13, 3) := by decide +kernel
theorem dX6_drop_29 : decode cX6_drop 29 = .ok (.iload_n 1, 1) := by decide +kernel
theorem dX6_drop_30 : decode cX6_drop 30 = .ok (.iaload, 1) := by decide +kernel
theorem dX6_drop_31 : decode cX6_drop 31 = .ok (.istore_n 2, 1) := by decide +kernel
theorem dX6_drop_32 : decode cX6_drop 32 = .ok (.aload_n 0, 1) := by decide +kernel
theorem dX6_drop_33 : decode cX6_drop 33 = .ok (.getfield 13, 3) := by decide +kernel
theorem dX6_drop_36 : decode cX6_drop 36 = .ok (.iload_n 1, 1) := by decide +kernel
theorem dX6_drop_37 : decode cX6_drop 37 = .ok (.iconst (-1), 1) := by decide +kernel
theorem dX6_drop_38 : decode cX6_drop 38 = .ok (.iastore, 1) := by decide +kernel
theorem dX6_drop_39 : decode cX6_drop 39 = .ok (.aload_n 0, 1) := by decide +kernel
theorem dX6_drop_40 : decode cX6_drop 40 = .ok (.iload_n 2, 1) := by decide +kernel
theorem dX6_drop_41 : decode cX6_drop 41 = .ok (.invokevirtual 69, 3) := by decide +kernel
theorem dX6_drop_44 : decode cX6_drop 44 = .ok (.ireturn, 1) := by decide +kernel
theorem dX6_feed_0 : decode cX6_feed 0 = .ok (.iload_n 3, 1) := by decide +kernel
theorem dX6_feed_1 : decode cX6_feed 1 = .ok (.i2l, 1) := by decide +kernel
theorem dX6_feed_2 : decode cX6_feed 2 = .ok (.lconst 1, 1) := by decide +kernel
theorem dX6_feed_3 : decode cX6_feed 3 = .ok (.ldc2_w 72, 3) := by decide +kernel
theorem dX6_feed_6 : decode cX6_feed 6 = .ok (.invokestatic 54, 3) := by decide +kernel
theorem dX6_feed_9 : decode cX6_feed 9 = .ok (.ifCond .ne 6, 3) := by decide +kernel
theorem dX6_feed_12 : decode cX6_feed 12 = .ok (.ldc 64, 2) := by decide +kernel
theorem dX6_feed_14 : decode cX6_feed 14 = .ok (.ireturn, 1) := by decide +kernel
theorem dX6_feed_15 : decode cX6_feed 15 = .ok (.aload_n 0, 1) := by decide +kernel
theorem dX6_feed_16 : decode cX6_feed 16 = .ok (.getfield 74, 3) := by decide +kernel
theorem dX6_feed_19 : decode cX6_feed 19 = .ok (.iload_n 3, 1) := by decide +kernel
theorem dX6_feed_20 : decode cX6_feed 20 = .ok (.iadd, 1) := by decide +kernel
theorem dX6_feed_21 : decode cX6_feed 21 = .ok (.sipush 400, 3) := by decide +kernel
theorem dX6_feed_24 : decode cX6_feed 24 = .ok (.if_icmp .le 6, 3) := by decide +kernel
theorem dX6_feed_27 : decode cX6_feed 27 = .ok (.ldc 77, 2) := by decide +kernel
theorem dX6_feed_29 : decode cX6_feed 29 = .ok (.ireturn, 1) := by decide +kernel
theorem dX6_feed_30 : decode cX6_feed 30 = .ok (.iload_n 3, 1) := by decide +kernel
theorem dX6_feed_31 : decode cX6_feed 31 = .ok (.iconst 1, 1) := by decide +kernel
theorem dX6_feed_32 : decode cX6_feed 32 = .ok (.isub, 1) := by decide +kernel
theorem dX6_feed_33 : decode cX6_feed 33 = .ok (.istore 4, 2) := by decide +kernel
theorem dX6_feed_35 : decode cX6_feed 35 = .ok (.iload 4, 2) := by decide +kernel
theorem dX6_feed_37 : decode cX6_feed 37 = .ok (.ifCond .lt 40, 3) := by decide +kernel
theorem dX6_feed_40 : decode cX6_feed 40 = .ok (.aload_n 0, 1) := by decide +kernel
theorem dX6_feed_41 : decode cX6_feed 41 = .ok (.getfield 19, 3) := by decide +kernel
theorem dX6_feed_44 : decode cX6_feed 44 = .ok (.aload_n 0, 1) := by decide +kernel
theorem dX6_feed_45 : decode cX6_feed 45 = .ok (.getfield 74, 3) := by decide +kernel
theorem dX6_feed_48 : decode cX6_feed 48 = .ok (.lload_n 1, 1) := by decide +kernel
theorem dX6_feed_49 : decode cX6_feed 49 = .ok (.bipush 8, 2) := by decide +kernel
theorem dX6_feed_51 : decode cX6_feed 51 = .ok (.iload 4, 2) := by decide +kernel
theorem dX6_feed_53 : decode cX6_feed 53 = .ok (.imul, 1) := by decide +kernel
theorem dX6_feed_54 : decode cX6_feed 54 = .ok (.lshr, 1) := by decide +kernel
theorem dX6_feed_55 : decode cX6_feed 55 = .ok (.ldc2_w 78, 3) := by decide +kernel
theorem dX6_feed_58 : decode cX6_feed 58 = .ok (.land, 1) := by decide +kernel
theorem dX6_feed_59 : decode cX6_feed 59 = .ok (.l2i, 1) := by decide +kernel
theorem dX6_feed_60 : decode cX6_feed 60 = .ok (.iastore, 1) := by decide +kernel
theorem dX6_feed_61 : decode cX6_feed 61 = .ok (.aload_n 0, 1) := by decide +kernel
theorem dX6_feed_62 : decode cX6_feed 62 = .ok (.dup, 1) := by decide +kernel
theorem dX6_feed_63 : decode cX6_feed 63 = .ok (.getfield 74, 3) := by decide +kernel
theorem dX6_feed_66 : decode cX6_feed 66 = .ok (.iconst 1, 1) := by decide +kernel
theorem dX6_feed_67 : decode cX6_feed 67 = .ok (.iadd, 1) := by decide +kernel
theorem dX6_feed_68 : decode cX6_feed 68 = .ok (.putfield 74, 3) := by decide +kernel
theorem dX6_feed_71 : decode cX6_feed 71 = .ok (.iinc 4 (-1), 3) := by decide +kernel
theorem dX6_feed_74 : decode cX6_feed 74 = .ok (.goto (-39), 3) := by decide +kernel
theorem dX6_feed_77 : decode cX6_feed 77 = .ok (.aload_n 0, 1) := by decide +kernel
theorem dX6_feed_78 : decode cX6_feed 78 = .ok (.getfield 74, 3) := by decide +kernel
theorem dX6_feed_81 : decode cX6_feed 81 = .ok (.ireturn, 1) := by decide +kernel
theorem dX6_sort_0 : decode cX6_sort 0 = .ok (.iload_n 0, 1) := by decide +kernel
theorem dX6_sort_1 : decode cX6_sort 1 = .ok (.i2l, 1) := by decide +kernel
theorem dX6_sort_2 : decode cX6_sort 2 = .ok (.ldc2_w 80, 3) := by decide +kernel
theorem dX6_sort_5 : decode cX6_sort 5 = .ok (.ldc2_w 82, 3) := by decide +kernel
theorem dX6_sort_8 : decode cX6_sort 8 = .ok (.invokestatic 54, 3) := by decide +kernel
theorem dX6_sort_11 : decode cX6_sort 11 = .ok (.ifCond .eq 7, 3) := by decide +kernel
theorem dX6_sort_14 : decode cX6_sort 14 = .ok (.iconst 1, 1) := by decide +kernel
theorem dX6_sort_15 : decode cX6_sort 15 = .ok (.goto 32, 3) := by decide +kernel
theorem dX6_sort_18 : decode cX6_sort 18 = .ok (.iload_n 0, 1) := by decide +kernel
theorem dX6_sort_19 : decode cX6_sort 19 = .ok (.i2l, 1) := by decide +kernel
theorem dX6_sort_20 : decode cX6_sort 20 = .ok (.ldc2_w 84, 3) := by decide +kernel
theorem dX6_sort_23 : decode cX6_sort 23 = .ok (.ldc2_w 86, 3) := by decide +kernel
theorem dX6_sort_26 : decode cX6_sort 26 = .ok (.invokestatic 54, 3) := by decide +kernel
theorem dX6_sort_29 : decode cX6_sort 29 = .ok (.ifCond .eq 7, 3) := by decide +kernel
theorem dX6_sort_32 : decode cX6_sort 32 = .ok (.iconst 2, 1) := by decide +kernel
theorem dX6_sort_33 : decode cX6_sort 33 = .ok (.goto 14, 3) := by decide +kernel
theorem dX6_sort_36 : decode cX6_sort 36 = .ok (.iload_n 0, 1) := by decide +kernel
theorem dX6_sort_37 : decode cX6_sort 37 = .ok (.bipush 59, 2) := by decide +kernel
theorem dX6_sort_39 : decode cX6_sort 39 = .ok (.if_icmp .ne 7, 3) := by decide +kernel
theorem dX6_sort_42 : decode cX6_sort 42 = .ok (.iconst 3, 1) := by decide +kernel
theorem dX6_sort_43 : decode cX6_sort 43 = .ok (.goto 4, 3) := by decide +kernel
theorem dX6_sort_46 : decode cX6_sort 46 = .ok (.iconst 4, 1) := by decide +kernel
theorem dX6_sort_47 : decode cX6_sort 47 = .ok (.ireturn, 1) := by decide +kernel
theorem dX6_next_0 : decode cX6_next 0 = .ok (.aload_n 0, 1) := by decide +kernel
theorem dX6_next_1 : decode cX6_next 1 = .ok (.getfield 88, 3) := by decide +kernel
theorem dX6_next_4 : decode cX6_next 4 = .ok (.aload_n 0, 1) := by decide +kernel
theorem dX6_next_5 : decode cX6_next 5 = .ok (.getfield 91, 3) := by decide +kernel
theorem dX6_next_8 : decode cX6_next 8 = .ok (.if_icmp .ge 44, 3) := by decide +kernel
theorem dX6_next_11 : decode cX6_next 11 = .ok (.aload_n 0, 1) := by decide +kernel
theorem dX6_next_12 : decode cX6_next 12 = .ok (.getfield 19, 3) := by decide +kernel
theorem dX6_next_15 : decode cX6_next 15 = .ok (.aload_n 0, 1) := by decide +kernel
theorem dX6_next_16 : decode cX6_next 16 = .ok (.getfield 88, 3) := by decide +kernel
theorem dX6_next_19 : decode cX6_next 19 = .ok (.iaload, 1) := by decide +kernel
theorem dX6_next_20 : decode cX6_next 20 = .ok (.bipush 32, 2) := by decide +kernel
theorem dX6_next_22 : decode cX6_next 22 = .ok (.if_icmp .eq 17, 3) := by decide +kernel
theorem dX6_next_25 : decode cX6_next 25 = .ok (.aload_n 0, 1) := by decide +kernel
theorem dX6_next_26 : decode cX6_next 26 = .ok (.getfield 19, 3) := by decide +kernel
theorem dX6_next_29 : decode cX6_next 29 = .ok (.aload_n 0, 1) := by decide +kernel
theorem dX6_next_30 : decode cX6_next 30 = .ok (.getfield 88, 3) := by decide +kernel
theorem dX6_next_33 : decode cX6_next 33 = .ok (.iaload, 1) := by decide +kernel
theorem dX6_next_34 : decode cX6_next 34 = .ok (.bipush 10, 2) := by decide +kernel
theorem dX6_next_36 : decode cX6_next 36 = .ok (.if_icmp .ne 16, 3) := by decide +kernel
theorem dX6_next_39 : decode cX6_next 39 = .ok (.aload_n 0, 1) := by decide +kernel
theorem dX6_next_40 : decode cX6_next 40 = .ok (.dup, 1) := by decide +kernel
theorem dX6_next_41 : decode cX6_next 41 = .ok (.getfield 88, 3) := by decide +kernel
theorem dX6_next_44 : decode cX6_next 44 = .ok (.iconst 1, 1) := by decide +kernel
theorem dX6_next_45 : decode cX6_next 45 = .ok (.iadd, 1) := by decide +kernel
theorem dX6_next_46 : decode cX6_next 46 = .ok (.putfield 88, 3) := by decide +kernel
theorem dX6_next_49 : decode cX6_next 49 = .ok (.goto (-49), 3) := by decide +kernel
theorem dX6_next_52 : decode cX6_next 52 = .ok (.aload_n 0, 1) := by decide +kernel
theorem dX6_next_53 : decode cX6_next 53 = .ok (.aload_n 0, 1) := by decide +kernel
theorem dX6_next_54 : decode cX6_next 54 = .ok (.getfield 88, 3) := by decide +kernel
theorem dX6_next_57 : decode cX6_next 57 = .ok (.putfield 94, 3) := by decide +kernel
theorem dX6_next_60 : decode cX6_next 60 = .ok (.aload_n 0, 1) := by decide +kernel
theorem dX6_next_61 : decode cX6_next 61 = .ok (.aload_n 0, 1) := by decide +kernel
theorem dX6_next_62 : decode cX6_next 62 = .ok (.getfield 88, 3) := by decide +kernel
theorem dX6_next_65 : decode cX6_next 65 = .ok (.aload_n 0, 1) := by decide +kernel
theorem dX6_next_66 : decode cX6_next 66 = .ok (.getfield 91, 3) := by decide +kernel
theorem dX6_next_69 : decode cX6_next 69 = .ok (.if_icmp .ge 18, 3) := by decide +kernel
theorem dX6_next_72 : decode cX6_next 72 = .ok (.aload_n 0, 1) := by decide +kernel
theorem dX6_next_73 : decode cX6_next 73 = .ok (.getfield 19, 3) := by decide +kernel
theorem dX6_next_76 : decode cX6_next 76 = .ok (.aload_n 0, 1) := by decide +kernel
theorem dX6_next_77 : decode cX6_next 77 = .ok (.getfield 88, 3) := by decide +kernel
theorem dX6_next_80 : decode cX6_next 80 = .ok (.iaload, 1) := by decide +kernel
theorem dX6_next_81 : decode cX6_next 81 = .ok (.invokestatic 97, 3) := by decide +kernel
theorem dX6_next_84 : decode cX6_next 84 = .ok (.goto 4, 3) := by decide +kernel
theorem dX6_next_87 : decode cX6_next 87 = .ok (.iconst 0, 1) := by decide +kernel
theorem dX6_next_88 : decode cX6_next 88 = .ok (.putfield 100, 3) := by decide +kernel
theorem dX6_next_91 : decode cX6_next 91 = .ok (.aload_n 0, 1) := by decide +kernel
theorem dX6_next_92 : decode cX6_next 92 = .ok (.lconst 0, 1) := by decide +kernel
theorem dX6_next_93 : decode cX6_next 93 = .ok (.putfield 103, 3) := by decide +kernel
theorem dX6_next_96 : decode cX6_next 96 = .ok (.aload_n 0, 1) := by decide +kernel
theorem dX6_next_97 : decode cX6_next 97 = .ok (.dup, 1) := by decide +kernel
theorem dX6_next_98 : decode cX6_next 98 = .ok (.getfield 88, 3) := by decide +kernel
theorem dX6_next_101 : decode cX6_next 101 = .ok (.aload_n 0, 1) := by decide +kernel
theorem dX6_next_102 : decode cX6_next 102 = .ok (.getfield 100, 3) := by decide +kernel
theorem dX6_next_105 : decode cX6_next 105 = .ok (.iconst 2, 1) := by decide +kernel
theorem dX6_next_106 : decode cX6_next 106 = .ok (.if_icmp .le 7, 3) := by decide +kernel
theorem dX6_next_109 : decode cX6_next 109 = .ok (.iconst 1, 1) := by decide +kernel
theorem dX6_next_110 : decode cX6_next 110 = .ok (.goto 4, 3) := by decide +kernel
theorem dX6_next_113 : decode cX6_next 113 = .ok (.iconst 0, 1) := by decide +kernel
theorem dX6_next_114 : decode cX6_next 114 = .ok (.iadd, 1) := by decide +kernel
theorem dX6_next_115 : decode cX6_next 115 = .ok (.putfield 88, 3) := by decide +kernel
theorem dX6_next_118 : decode cX6_next 118 = .ok (.aload_n 0, 1) := by decide +kernel
theorem dX6_next_119 : decode cX6_next 119 = .ok (.getfield 100, 3) := by decide +kernel
theorem dX6_next_122 : decode cX6_next 122 = .ok (.ifCond .le 129, 3) := by decide +kernel
theorem dX6_next_125 : decode cX6_next 125 = .ok (.aload_n 0, 1) := by decide +kernel
theorem dX6_next_126 : decode cX6_next 126 = .ok (.getfield 100, 3) := by decide +kernel
theorem dX6_next_129 : decode cX6_next 129 = .ok (.iconst 3, 1) := by decide +kernel
theorem dX6_next_130 : decode cX6_next 130 = .ok (.if_icmp .ge 121, 3) := by decide +kernel
theorem dX6_next_133 : decode cX6_next 133 = .ok (.aload_n 0, 1) := by decide +kernel
theorem dX6_next_134 : decode cX6_next 134 = .ok (.getfield 88, 3) := by decide +kernel
theorem dX6_next_137 : decode cX6_next 137 = .ok (.aload_n 0, 1) := by decide +kernel
theorem dX6_next_138 : decode cX6_next 138 = .ok (.getfield 91, 3) := by decide +kernel
theorem dX6_next_141 : decode cX6_next 141 = .ok (.if_icmp .ge 110, 3) := by decide +kernel
theorem dX6_next_144 : decode cX6_next 144 = .ok (.aload_n 0, 1) := by decide +kernel
theorem dX6_next_145 : decode cX6_next 145 = .ok (.getfield 19, 3) := by decide +kernel
theorem dX6_next_148 : decode cX6_next 148 = .ok (.aload_n 0, 1) := by decide +kernel
theorem dX6_next_149 : decode cX6_next 149 = .ok (.getfield 88, 3) := by decide +kernel
theorem dX6_next_152 : decode cX6_next 152 = .ok (.iaload, 1) := by decide +kernel
theorem dX6_next_153 : decode cX6_next 153 = .ok (.invokestatic 97, 3) := by decide +kernel
theorem dX6_next_156 : decode cX6_next 156 = .ok (.aload_n 0, 1) := by decide +kernel
theorem dX6_next_157 : decode cX6_next 157 = .ok (.getfield 100, 3) := by decide +kernel
theorem dX6_next_160 : decode cX6_next 160 = .ok (.if_icmp .ne 91, 3) := by decide +kernel
theorem dX6_next_163 : decode cX6_next 163 = .ok (.aload_n 0, 1) := by decide +kernel
theorem dX6_next_164 : decode cX6_next 164 = .ok (.getfield 19, 3) := by decide +kernel
theorem dX6_next_167 : decode cX6_next 167 = .ok (.aload_n 0, 1) := by decide +kernel
theorem dX6_next_168 : decode cX6_next 168 = .ok (.getfield 88, 3) := by decide +kernel
theorem dX6_next_171 : decode cX6_next 171 = .ok (.iaload, 1) := by decide +kernel
theorem dX6_next_172 : decode cX6_next 172 = .ok (.istore_n 1, 1) := by decide +kernel
theorem dX6_next_173 : decode cX6_next 173 = .ok (.aload_n 0, 1) := by decide +kernel
theorem dX6_next_174 : decode cX6_next 174 = .ok (.aload_n 0, 1) := by decide +kernel
theorem dX6_next_175 : decode cX6_next 175 = .ok (.getfield 88, 3) := by decide +kernel
theorem dX6_next_178 : decode cX6_next 178 = .ok (.aload_n 0, 1) := by decide +kernel
theorem dX6_next_179 : decode cX6_next 179 = .ok (.getfield 94, 3) := by decide +kernel
theorem dX6_next_182 : decode cX6_next 182 = .ok (.isub, 1) := by decide +kernel
theorem dX6_next_183 : decode cX6_next 183 = .ok (.bipush 7, 2) := by decide +kernel
theorem dX6_next_185 : decode cX6_next 185 = .ok (.if_icmp .le 9, 3) := by decide +kernel
theorem dX6_next_188 : decode cX6_next 188 = .ok (.ldc2_w 107, 3) := by decide +kernel
theorem dX6_next_191 : decode cX6_next 191 = .ok (.goto 44, 3) := by decide +kernel
theorem dX6_next_194 : decode cX6_next 194 = .ok (.aload_n 0, 1) := by decide +kernel
theorem dX6_next_195 : decode cX6_next 195 = .ok (.getfield 100, 3) := by decide +kernel
theorem dX6_next_198 : decode cX6_next 198 = .ok (.iconst 1, 1) := by decide +kernel
theorem dX6_next_199 : decode cX6_next 199 = .ok (.if_icmp .ne 21, 3) := by decide +kernel
theorem dX6_next_202 : decode cX6_next 202 = .ok (.ldc2_w 109, 3) := by decide +kernel
theorem dX6_next_205 : decode cX6_next 205 = .ok (.aload_n 0, 1) := by decide +kernel
theorem dX6_next_206 : decode cX6_next 206 = .ok (.getfield 103, 3) := by decide +kernel
theorem dX6_next_209 : decode cX6_next 209 = .ok (.lmul, 1) := by decide +kernel
theorem dX6_next_210 : decode cX6_next 210 = .ok (.iload_n 1, 1) := by decide +kernel
theorem dX6_next_211 : decode cX6_next 211 = .ok (.i2l, 1) := by decide +kernel
theorem dX6_next_212 : decode cX6_next 212 = .ok (.ladd, 1) := by decide +kernel
theorem dX6_next_213 : decode cX6_next 213 = .ok (.ldc2_w 111, 3) := by decide +kernel
theorem dX6_next_216 : decode cX6_next 216 = .ok (.lsub, 1) := by decide +kernel
theorem dX6_next_217 : decode cX6_next 217 = .ok (.goto 18, 3) := by decide +kernel
theorem dX6_next_220 : decode cX6_next 220 = .ok (.ldc2_w 113, 3) := by decide +kernel
theorem dX6_next_223 : decode cX6_next 223 = .ok (.aload_n 0, 1) := by decide +kernel
theorem dX6_next_224 : decode cX6_next 224 = .ok (.getfield 103, 3) := by decide +kernel
theorem dX6_next_227 : decode cX6_next 227 = .ok (.lmul, 1) := by decide +kernel
theorem dX6_next_228 : decode cX6_next 228 = .ok (.iload_n 1, 1) := by decide +kernel
theorem dX6_next_229 : decode cX6_next 229 = .ok (.i2l, 1) := by decide +kernel
theorem dX6_next_230 : decode cX6_next 230 = .ok (.ladd, 1) := by decide +kernel
theorem dX6_next_231 : decode cX6_next 231 = .ok (.ldc2_w 84, 3) := by decide +kernel
theorem dX6_next_234 : decode cX6_next 234 = .ok (.lsub, 1) := by decide +kernel
theorem dX6_next_235 : decode cX6_next 235 = .ok (.putfield 103, 3) := by decide +kernel
theorem dX6_next_238 : decode cX6_next 238 = .ok (.aload_n 0, 1) := by decide +kernel
theorem dX6_next_239 : decode cX6_next 239 = .ok (.dup, 1) := by decide +kernel
theorem dX6_next_240 : decode cX6_next 240 = .ok (.getfield 88, 3) := by decide +kernel
theorem dX6_next_243 : decode cX6_next 243 = .ok (.iconst 1, 1) := by decide +kernel
theorem dX6_next_244 : decode cX6_next 244 = .ok (.iadd, 1) := by decide +kernel
theorem dX6_next_245 : decode cX6_next 245 = .ok (.putfield 88, 3) := by decide +kernel
theorem dX6_next_248 : decode cX6_next 248 = .ok (.goto (-130), 3) := by decide +kernel
theorem dX6_next_251 : decode cX6_next 251 = .ok (.aload_n 0, 1) := by decide +kernel
theorem dX6_next_252 : decode cX6_next 252 = .ok (.aload_n 0, 1) := by decide +kernel
theorem dX6_next_253 : decode cX6_next 253 = .ok (.getfield 100, 3) := by decide +kernel
theorem dX6_next_256 : decode cX6_next 256 = .ok (.iconst 2, 1) := by decide +kernel
theorem dX6_next_257 : decode cX6_next 257 = .ok (.if_icmp .ne 20, 3) := by decide +kernel
theorem dX6_next_260 : decode cX6_next 260 = .ok (.aload_n 0, 1) := by decide +kernel
theorem dX6_next_261 : decode cX6_next 261 = .ok (.getfield 88, 3) := by decide +kernel
theorem dX6_next_264 : decode cX6_next 264 = .ok (.aload_n 0, 1) := by decide +kernel
theorem dX6_next_265 : decode cX6_next 265 = .ok (.getfield 94, 3) := by decide +kernel
theorem dX6_next_268 : decode cX6_next 268 = .ok (.isub, 1) := by decide +kernel
theorem dX6_next_269 : decode cX6_next 269 = .ok (.iconst 3, 1) := by decide +kernel
theorem dX6_next_270 : decode cX6_next 270 = .ok (.if_icmp .le 7, 3) := by decide +kernel
theorem dX6_next_273 : decode cX6_next 273 = .ok (.iconst 4, 1) := by decide +kernel
theorem dX6_next_274 : decode cX6_next 274 = .ok (.goto 7, 3) := by decide +kernel
theorem dX6_next_277 : decode cX6_next 277 = .ok (.aload_n 0, 1) := by decide +kernel
theorem dX6_next_278 : decode cX6_next 278 = .ok (.getfield 100, 3) := by decide +kernel
theorem dX6_next_281 : decode cX6_next 281 = .ok (.putfield 100, 3) := by decide +kernel
theorem dX6_next_284 : decode cX6_next 284 = .ok (.return_, 1) := by decide +kernel
theorem dX6_number_0 : decode cX6_number 0 = .ok (.aload_n 0, 1) := by decide +kernel
theorem dX6_number_1 : decode cX6_number 1 = .ok (.invokevirtual 115, 3) := by decide +kernel
theorem dX6_number_4 : decode cX6_number 4 = .ok (.aload_n 0, 1) := by decide +kernel
theorem dX6_number_5 : decode cX6_number 5 = .ok (.getfield 100, 3) := by decide +kernel
theorem dX6_number_8 : decode cX6_number 8 = .ok (.iconst 2, 1) := by decide +kernel
theorem dX6_number_9 : decode cX6_number 9 = .ok (.if_icmp .eq 10, 3) := by decide +kernel
theorem dX6_number_12 : decode cX6_number 12 = .ok (.aload_n 0, 1) := by decide +kernel
theorem dX6_number_13 : decode cX6_number 13 = .ok (.iconst 1, 1) := by decide +kernel
theorem dX6_number_14 : decode cX6_number 14 = .ok (.putfield 118, 3) := by decide +kernel
theorem dX6_number_17 : decode cX6_number 17 = .ok (.iconst 0, 1) := by decide +kernel
theorem dX6_number_18 : decode cX6_number 18 = .ok (.ireturn, 1) := by decide +kernel
theorem dX6_number_19 : decode cX6_number 19 = .ok (.aload_n 0, 1) := by decide +kernel
theorem dX6_number_20 : decode cX6_number 20 = .ok (.getfield 103, 3) := by decide +kernel
theorem dX6_number_23 : decode cX6_number 23 = .ok (.iload_n 2, 1) := by decide +kernel
theorem dX6_number_24 : decode cX6_number 24 = .ok (.i2l, 1) := by decide +kernel
theorem dX6_number_25 : decode cX6_number 25 = .ok (.iload_n 3, 1) := by decide +kernel
theorem dX6_number_26 : decode cX6_number 26 = .ok (.i2l, 1) := by decide +kernel
theorem dX6_number_27 : decode cX6_number 27 = .ok (.invokestatic 54, 3) := by decide +kernel
theorem dX6_number_30 : decode cX6_number 30 = .ok (.ifCond .ne 10, 3) := by decide +kernel
theorem dX6_number_33 : decode cX6_number 33 = .ok (.aload_n 0, 1) := by decide +kernel
theorem dX6_number_34 : decode cX6_number 34 = .ok (.iconst 2, 1) := by decide +kernel
theorem dX6_number_35 : decode cX6_number 35 = .ok (.putfield 118, 3) := by decide +kernel
theorem dX6_number_38 : decode cX6_number 38 = .ok (.iconst 0, 1) := by decide +kernel
theorem dX6_number_39 : decode cX6_number 39 = .ok (.ireturn, 1) := by decide +kernel
theorem dX6_number_40 : decode cX6_number 40 = .ok (.aload_n 0, 1) := by decide +kernel
theorem dX6_number_41 : decode cX6_number 41 = .ok (.getfield 38, 3) := by decide +kernel
theorem dX6_number_44 : decode cX6_number 44 = .ok (.iload_n 1, 1) := by decide +kernel
theorem dX6_number_45 : decode cX6_number 45 = .ok (.aload_n 0, 1) := by decide +kernel
theorem dX6_number_46 : decode cX6_number 46 = .ok (.getfield 103, 3) := by decide +kernel
theorem dX6_number_49 : decode cX6_number 49 = .ok (.l2i, 1) := by decide +kernel
theorem dX6_number_50 : decode cX6_number 50 = .ok (.iastore, 1) := by decide +kernel
theorem dX6_number_51 : decode cX6_number 51 = .ok (.iconst 1, 1) := by decide +kernel
theorem dX6_number_52 : decode cX6_number 52 = .ok (.ireturn, 1) := by decide +kernel
theorem dX6_mustBe_0 : decode cX6_mustBe 0 = .ok (.aload_n 0, 1) := by decide +kernel
theorem dX6_mustBe_1 : decode cX6_mustBe 1 = .ok (.iload_n 1, 1) := by decide +kernel
theorem dX6_mustBe_2 : decode cX6_mustBe 2 = .ok (.ifCond .eq 10, 3) := by decide +kernel
theorem dX6_mustBe_5 : decode cX6_mustBe 5 = .ok (.aload_n 0, 1) := by decide +kernel
theorem dX6_mustBe_6 : decode cX6_mustBe 6 = .ok (.getfield 118, 3) := by decide +kernel
theorem dX6_mustBe_9 : decode cX6_mustBe 9 = .ok (.goto 4, 3) := by decide +kernel
theorem dX6_mustBe_12 : decode cX6_mustBe 12 = .ok (.iconst 1, 1) := by decide +kernel
theorem dX6_mustBe_13 : decode cX6_mustBe 13 = .ok (.putfield 118, 3) := by decide +kernel
theorem dX6_mustBe_16 : decode cX6_mustBe 16 = .ok (.iload_n 1, 1) := by decide +kernel
theorem dX6_mustBe_17 : decode cX6_mustBe 17 = .ok (.ireturn, 1) := by decide +kernel
theorem dX6_ends_0 : decode cX6_ends 0 = .ok (.aload_n 0, 1) := by decide +kernel
theorem dX6_ends_1 : decode cX6_ends 1 = .ok (.invokevirtual 115, 3) := by decide +kernel
theorem dX6_ends_4 : decode cX6_ends 4 = .ok (.aload_n 0, 1) := by decide +kernel
theorem dX6_ends_5 : decode cX6_ends 5 = .ok (.aload_n 0, 1) := by decide +kernel
theorem dX6_ends_6 : decode cX6_ends 6 = .ok (.getfield 100, 3) := by decide +kernel
theorem dX6_ends_9 : decode cX6_ends 9 = .ok (.iconst 3, 1) := by decide +kernel
theorem dX6_ends_10 : decode cX6_ends 10 = .ok (.if_icmp .ne 7, 3) := by decide +kernel
theorem dX6_ends_13 : decode cX6_ends 13 = .ok (.iconst 1, 1) := by decide +kernel
theorem dX6_ends_14 : decode cX6_ends 14 = .ok (.goto 4, 3) := by decide +kernel
theorem dX6_ends_17 : decode cX6_ends 17 = .ok (.iconst 0, 1) := by decide +kernel
theorem dX6_ends_18 : decode cX6_ends 18 = .ok (.invokevirtual 121, 3) := by decide +kernel
theorem dX6_ends_21 : decode cX6_ends 21 = .ok (.ireturn, 1) := by decide +kernel
theorem dX6_kindHere_0 : decode cX6_kindHere 0 = .ok (.aload_n 0, 1) := by decide +kernel
theorem dX6_kindHere_1 : decode cX6_kindHere 1 = .ok (.invokevirtual 115, 3) := by decide +kernel
theorem dX6_kindHere_4 : decode cX6_kindHere 4 = .ok (.aload_n 0, 1) := by decide +kernel
theorem dX6_kindHere_5 : decode cX6_kindHere 5 = .ok (.getfield 100, 3) := by decide +kernel
theorem dX6_kindHere_8 : decode cX6_kindHere 8 = .ok (.iconst 1, 1) := by decide +kernel
theorem dX6_kindHere_9 : decode cX6_kindHere 9 = .ok (.if_icmp .eq 7, 3) := by decide +kernel
theorem dX6_kindHere_12 : decode cX6_kindHere 12 = .ok (.iconst 0, 1) := by decide +kernel
theorem dX6_kindHere_13 : decode cX6_kindHere 13 = .ok (.goto 79, 3) := by decide +kernel
theorem dX6_kindHere_16 : decode cX6_kindHere 16 = .ok (.aload_n 0, 1) := by decide +kernel
theorem dX6_kindHere_17 : decode cX6_kindHere 17 = .ok (.getfield 103, 3) := by decide +kernel
theorem dX6_kindHere_20 : decode cX6_kindHere 20 = .ok (.ldc2_w 125, 3) := by decide +kernel
theorem dX6_kindHere_23 : decode cX6_kindHere 23 = .ok (.lcmp, 1) := by decide +kernel
theorem dX6_kindHere_24 : decode cX6_kindHere 24 = .ok (.ifCond .ne 7, 3) := by decide +kernel
theorem dX6_kindHere_27 : decode cX6_kindHere 27 = .ok (.iconst 1, 1) := by decide +kernel
theorem dX6_kindHere_28 : decode cX6_kindHere 28 = .ok (.goto 64, 3) := by decide +kernel
theorem dX6_kindHere_31 : decode cX6_kindHere 31 = .ok (.aload_n 0, 1) := by decide +kernel
theorem dX6_kindHere_32 : decode cX6_kindHere 32 = .ok (.getfield 103, 3) := by decide +kernel
theorem dX6_kindHere_35 : decode cX6_kindHere 35 = .ok (.ldc2_w 127, 3) := by decide +kernel
theorem dX6_kindHere_38 : decode cX6_kindHere 38 = .ok (.lcmp, 1) := by decide +kernel
theorem dX6_kindHere_39 : decode cX6_kindHere 39 = .ok (.ifCond .ne 7, 3) := by decide +kernel
theorem dX6_kindHere_42 : decode cX6_kindHere 42 = .ok (.iconst 2, 1) := by decide +kernel
theorem dX6_kindHere_43 : decode cX6_kindHere 43 = .ok (.goto 49, 3) := by decide +kernel
theorem dX6_kindHere_46 : decode cX6_kindHere 46 = .ok (.aload_n 0, 1) := by decide +kernel
theorem dX6_kindHere_47 : decode cX6_kindHere 47 = .ok (.getfield 103, 3) := by decide +kernel
theorem dX6_kindHere_50 : decode cX6_kindHere 50 = .ok (.ldc2_w 129, 3) := by decide +kernel
theorem dX6_kindHere_53 : decode cX6_kindHere 53 = .ok (.lcmp, 1) := by decide +kernel
theorem dX6_kindHere_54 : decode cX6_kindHere 54 = .ok (.ifCond .ne 7, 3) := by decide +kernel
theorem dX6_kindHere_57 : decode cX6_kindHere 57 = .ok (.iconst 3, 1) := by decide +kernel
theorem dX6_kindHere_58 : decode cX6_kindHere 58 = .ok (.goto 34, 3) := by decide +kernel
theorem dX6_kindHere_61 : decode cX6_kindHere 61 = .ok (.aload_n 0, 1) := by decide +kernel
theorem dX6_kindHere_62 : decode cX6_kindHere 62 = .ok (.getfield 103, 3) := by decide +kernel
theorem dX6_kindHere_65 : decode cX6_kindHere 65 = .ok (.ldc2_w 131, 3) := by decide +kernel
theorem dX6_kindHere_68 : decode cX6_kindHere 68 = .ok (.lcmp, 1) := by decide +kernel
theorem dX6_kindHere_69 : decode cX6_kindHere 69 = .ok (.ifCond .ne 7, 3) := by decide +kernel
theorem dX6_kindHere_72 : decode cX6_kindHere 72 = .ok (.iconst 4, 1) := by decide +kernel
theorem dX6_kindHere_73 : decode cX6_kindHere 73 = .ok (.goto 19, 3) := by decide +kernel
theorem dX6_kindHere_76 : decode cX6_kindHere 76 = .ok (.aload_n 0, 1) := by decide +kernel
theorem dX6_kindHere_77 : decode cX6_kindHere 77 = .ok (.getfield 103, 3) := by decide +kernel
theorem dX6_kindHere_80 : decode cX6_kindHere 80 = .ok (.ldc2_w 133, 3) := by decide +kernel
theorem dX6_kindHere_83 : decode cX6_kindHere 83 = .ok (.lcmp, 1) := by decide +kernel
theorem dX6_kindHere_84 : decode cX6_kindHere 84 = .ok (.ifCond .ne 7, 3) := by decide +kernel
theorem dX6_kindHere_87 : decode cX6_kindHere 87 = .ok (.iconst 5, 1) := by decide +kernel
theorem dX6_kindHere_88 : decode cX6_kindHere 88 = .ok (.goto 4, 3) := by decide +kernel
theorem dX6_kindHere_91 : decode cX6_kindHere 91 = .ok (.iconst 0, 1) := by decide +kernel
theorem dX6_kindHere_92 : decode cX6_kindHere 92 = .ok (.ireturn, 1) := by decide +kernel
theorem dX6_village_0 : decode cX6_village 0 = .ok (.aload_n 0, 1) := by decide +kernel
theorem dX6_village_1 : decode cX6_village 1 = .ok (.aload_n 0, 1) := by decide +kernel
theorem dX6_village_2 : decode cX6_village 2 = .ok (.getfield 100, 3) := by decide +kernel
theorem dX6_village_5 : decode cX6_village 5 = .ok (.iconst 1, 1) := by decide +kernel
theorem dX6_village_6 : decode cX6_village 6 = .ok (.if_icmp .ne 18, 3) := by decide +kernel
theorem dX6_village_9 : decode cX6_village 9 = .ok (.aload_n 0, 1) := by decide +kernel
theorem dX6_village_10 : decode cX6_village 10 = .ok (.getfield 103, 3) := by decide +kernel
theorem dX6_village_13 : decode cX6_village 13 = .ok (.ldc2_w 135, 3) := by decide +kernel
theorem dX6_village_16 : decode cX6_village 16 = .ok (.lcmp, 1) := by decide +kernel
theorem dX6_village_17 : decode cX6_village 17 = .ok (.ifCond .ne 7, 3) := by decide +kernel
theorem dX6_village_20 : decode cX6_village 20 = .ok (.iconst 1, 1) := by decide +kernel
theorem dX6_village_21 : decode cX6_village 21 = .ok (.goto 4, 3) := by decide +kernel
theorem dX6_village_24 : decode cX6_village 24 = .ok (.iconst 0, 1) := by decide +kernel
theorem dX6_village_25 : decode cX6_village 25 = .ok (.invokevirtual 121, 3) := by decide +kernel
theorem dX6_village_28 : decode cX6_village 28 = .ok (.ifCond .ne 5, 3) := by decide +kernel
theorem dX6_village_31 : decode cX6_village 31 = .ok (.iconst 0, 1) := by decide +kernel
theorem dX6_village_32 : decode cX6_village 32 = .ok (.ireturn, 1) := by decide +kernel
theorem dX6_village_33 : decode cX6_village 33 = .ok (.aload_n 0, 1) := by decide +kernel
theorem dX6_village_34 : decode cX6_village 34 = .ok (.getfield 38, 3) := by decide +kernel
theorem dX6_village_37 : decode cX6_village 37 = .ok (.iconst 2, 1) := by decide +kernel
theorem dX6_village_38 : decode cX6_village 38 = .ok (.iaload, 1) := by decide +kernel
theorem dX6_village_39 : decode cX6_village 39 = .ok (.bipush 7, 2) := by decide +kernel
theorem dX6_village_41 : decode cX6_village 41 = .ok (.if_icmp .ne 10, 3) := by decide +kernel
theorem dX6_village_44 : decode cX6_village 44 = .ok (.aload_n 0, 1) := by decide +kernel
theorem dX6_village_45 : decode cX6_village 45 = .ok (.iconst 3, 1) := by decide +kernel
theorem dX6_village_46 : decode cX6_village 46 = .ok (.putfield 118, 3) := by decide +kernel
theorem dX6_village_49 : decode cX6_village 49 = .ok (.iconst 0, 1) := by decide +kernel
theorem dX6_village_50 : decode cX6_village 50 = .ok (.ireturn, 1) := by decide +kernel
theorem dX6_village_51 : decode cX6_village 51 = .ok (.aload_n 0, 1) := by decide +kernel
theorem dX6_village_52 : decode cX6_village 52 = .ok (.getfield 38, 3) := by decide +kernel
theorem dX6_village_55 : decode cX6_village 55 = .ok (.iconst 2, 1) := by decide +kernel
theorem dX6_village_56 : decode cX6_village 56 = .ok (.iaload, 1) := by decide +kernel
theorem dX6_village_57 : decode cX6_village 57 = .ok (.istore_n 1, 1) := by decide +kernel
theorem dX6_village_58 : decode cX6_village 58 = .ok (.aload_n 0, 1) := by decide +kernel
theorem dX6_village_59 : decode cX6_village 59 = .ok (.invokevirtual 137, 3) := by decide +kernel
theorem dX6_village_62 : decode cX6_village 62 = .ok (.istore_n 2, 1) := by decide +kernel
theorem dX6_village_63 : decode cX6_village 63 = .ok (.aload_n 0, 1) := by decide +kernel
theorem dX6_village_64 : decode cX6_village 64 = .ok (.getfield 38, 3) := by decide +kernel
theorem dX6_village_67 : decode cX6_village 67 = .ok (.iconst 5, 1) := by decide +kernel
theorem dX6_village_68 : decode cX6_village 68 = .ok (.iload_n 1, 1) := by decide +kernel
theorem dX6_village_69 : decode cX6_village 69 = .ok (.iadd, 1) := by decide +kernel
theorem dX6_village_70 : decode cX6_village 70 = .ok (.iload_n 2, 1) := by decide +kernel
theorem dX6_village_71 : decode cX6_village 71 = .ok (.iastore, 1) := by decide +kernel
theorem dX6_village_72 : decode cX6_village 72 = .ok (.aload_n 0, 1) := by decide +kernel
theorem dX6_village_73 : decode cX6_village 73 = .ok (.iload_n 2, 1) := by decide +kernel
theorem dX6_village_74 : decode cX6_village 74 = .ok (.ifCond .le 7, 3) := by decide +kernel
theorem dX6_village_77 : decode cX6_village 77 = .ok (.iconst 1, 1) := by decide +kernel
theorem dX6_village_78 : decode cX6_village 78 = .ok (.goto 4, 3) := by decide +kernel
theorem dX6_village_81 : decode cX6_village 81 = .ok (.iconst 0, 1) := by decide +kernel
theorem dX6_village_82 : decode cX6_village 82 = .ok (.invokevirtual 121, 3) := by decide +kernel
theorem dX6_village_85 : decode cX6_village 85 = .ok (.ifCond .eq 49, 3) := by decide +kernel
theorem dX6_village_88 : decode cX6_village 88 = .ok (.aload_n 0, 1) := by decide +kernel
theorem dX6_village_89 : decode cX6_village 89 = .ok (.bipush 26, 2) := by decide +kernel
theorem dX6_village_91 : decode cX6_village 91 = .ok (.iload_n 1, 1) := by decide +kernel
theorem dX6_village_92 : decode cX6_village 92 = .ok (.iadd, 1) := by decide +kernel
theorem dX6_village_93 : decode cX6_village 93 = .ok (.iconst 0, 1) := by decide +kernel
theorem dX6_village_94 : decode cX6_village 94 = .ok (.aload_n 0, 1) := by decide +kernel
theorem dX6_village_95 : decode cX6_village 95 = .ok (.getfield 38, 3) := by decide +kernel
theorem dX6_village_98 : decode cX6_village 98 = .ok (.iconst 1, 1) := by decide +kernel
theorem dX6_village_99 : decode cX6_village 99 = .ok (.iaload, 1) := by decide +kernel
theorem dX6_village_100 : decode cX6_village 100 = .ok (.invokevirtual 141, 3) := by decide +kernel
theorem dX6_village_103 : decode cX6_village 103 = .ok (.ifCond .eq 31, 3) := by decide +kernel
theorem dX6_village_106 : decode cX6_village 106 = .ok (.aload_n 0, 1) := by decide +kernel
theorem dX6_village_107 : decode cX6_village 107 = .ok (.bipush 12, 2) := by decide +kernel
theorem dX6_village_109 : decode cX6_village 109 = .ok (.iload_n 1, 1) := by decide +kernel
theorem dX6_village_110 : decode cX6_village 110 = .ok (.iadd, 1) := by decide +kernel
theorem dX6_village_111 : decode cX6_village 111 = .ok (.iconst 0, 1) := by decide +kernel
theorem dX6_village_112 : decode cX6_village 112 = .ok (.bipush 99, 2) := by decide +kernel
theorem dX6_village_114 : decode cX6_village 114 = .ok (.invokevirtual 141, 3) := by decide +kernel
theorem dX6_village_117 : decode cX6_village 117 = .ok (.ifCond .eq 17, 3) := by decide +kernel
theorem dX6_village_120 : decode cX6_village 120 = .ok (.aload_n 0, 1) := by decide +kernel
theorem dX6_village_121 : decode cX6_village 121 = .ok (.bipush 19, 2) := by decide +kernel
theorem dX6_village_123 : decode cX6_village 123 = .ok (.iload_n 1, 1) := by decide +kernel
theorem dX6_village_124 : decode cX6_village 124 = .ok (.iadd, 1) := by decide +kernel
theorem dX6_village_125 : decode cX6_village 125 = .ok (.iconst 0, 1) := by decide +kernel
theorem dX6_village_126 : decode cX6_village 126 = .ok (.bipush 99, 2) := by decide +kernel
theorem dX6_village_128 : decode cX6_village 128 = .ok (.invokevirtual 141, 3) := by decide +kernel
theorem dX6_village_131 : decode cX6_village 131 = .ok (.ifCond .ne 5, 3) := by decide +kernel
theorem dX6_village_134 : decode cX6_village 134 = .ok (.iconst 0, 1) := by decide +kernel
theorem dX6_village_135 : decode cX6_village 135 = .ok (.ireturn, 1) := by decide +kernel
theorem dX6_village_136 : decode cX6_village 136 = .ok (.aload_n 0, 1) := by decide +kernel
theorem dX6_village_137 : decode cX6_village 137 = .ok (.getfield 38, 3) := by decide +kernel
theorem dX6_village_140 : decode cX6_village 140 = .ok (.iconst 2, 1) := by decide +kernel
theorem dX6_village_141 : decode cX6_village 141 = .ok (.dup2, 1) := by decide +kernel
theorem dX6_village_142 : decode cX6_village 142 = .ok (.iaload, 1) := by decide +kernel
theorem dX6_village_143 : decode cX6_village 143 = .ok (.iconst 1, 1) := by decide +kernel
theorem dX6_village_144 : decode cX6_village 144 = .ok (.iadd, 1) := by decide +kernel
theorem dX6_village_145 : decode cX6_village 145 = .ok (.iastore, 1) := by decide +kernel
theorem dX6_village_146 : decode cX6_village 146 = .ok (.aload_n 0, 1) := by decide +kernel
theorem dX6_village_147 : decode cX6_village 147 = .ok (.invokevirtual 145, 3) := by decide +kernel
theorem dX6_village_150 : decode cX6_village 150 = .ok (.ireturn, 1) := by decide +kernel
theorem dX6_reads_0 : decode cX6_reads 0 = .ok (.iconst 0, 1) := by decide +kernel
theorem dX6_reads_1 : decode cX6_reads 1 = .ok (.istore_n 1, 1) := by decide +kernel
theorem dX6_reads_2 : decode cX6_reads 2 = .ok (.iload_n 1, 1) := by decide +kernel
theorem dX6_reads_3 : decode cX6_reads 3 = .ok (.bipush 40, 2) := by decide +kernel
theorem dX6_reads_5 : decode cX6_reads 5 = .ok (.if_icmp .ge 16, 3) := by decide +kernel
theorem dX6_reads_8 : decode cX6_reads 8 = .ok (.aload_n 0, 1) := by decide +kernel
theorem dX6_reads_9 : decode cX6_reads 9 = .ok (.getfield 38, 3) := by decide +kernel
theorem dX6_reads_12 : decode cX6_reads 12 = .ok (.iload_n 1, 1) := by decide +kernel
theorem dX6_reads_13 : decode cX6_reads 13 = .ok (.iconst 0, 1) := by decide +kernel
theorem dX6_reads_14 : decode cX6_reads 14 = .ok (.iastore, 1) := by decide +kernel
theorem dX6_reads_15 : decode cX6_reads 15 = .ok (.iinc 1 1, 3) := by decide +kernel
theorem dX6_reads_18 : decode cX6_reads 18 = .ok (.goto (-16), 3) := by decide +kernel
theorem dX6_reads_21 : decode cX6_reads 21 = .ok (.aload_n 0, 1) := by decide +kernel
theorem dX6_reads_22 : decode cX6_reads 22 = .ok (.iconst 0, 1) := by decide +kernel
theorem dX6_reads_23 : decode cX6_reads 23 = .ok (.putfield 88, 3) := by decide +kernel
theorem dX6_reads_26 : decode cX6_reads 26 = .ok (.aload_n 0, 1) := by decide +kernel
theorem dX6_reads_27 : decode cX6_reads 27 = .ok (.invokevirtual 115, 3) := by decide +kernel
theorem dX6_reads_30 : decode cX6_reads 30 = .ok (.aload_n 0, 1) := by decide +kernel
theorem dX6_reads_31 : decode cX6_reads 31 = .ok (.aload_n 0, 1) := by decide +kernel
theorem dX6_reads_32 : decode cX6_reads 32 = .ok (.getfield 100, 3) := by decide +kernel
theorem dX6_reads_35 : decode cX6_reads 35 = .ok (.iconst 1, 1) := by decide +kernel
theorem dX6_reads_36 : decode cX6_reads 36 = .ok (.if_icmp .ne 18, 3) := by decide +kernel
theorem dX6_reads_39 : decode cX6_reads 39 = .ok (.aload_n 0, 1) := by decide +kernel
theorem dX6_reads_40 : decode cX6_reads 40 = .ok (.getfield 103, 3) := by decide +kernel
theorem dX6_reads_43 : decode cX6_reads 43 = .ok (.ldc2_w 149, 3) := by decide +kernel
theorem dX6_reads_46 : decode cX6_reads 46 = .ok (.lcmp, 1) := by decide +kernel
theorem dX6_reads_47 : decode cX6_reads 47 = .ok (.ifCond .ne 7, 3) := by decide +kernel
theorem dX6_reads_50 : decode cX6_reads 50 = .ok (.iconst 1, 1) := by decide +kernel
theorem dX6_reads_51 : decode cX6_reads 51 = .ok (.goto 4, 3) := by decide +kernel
theorem dX6_reads_54 : decode cX6_reads 54 = .ok (.iconst 0, 1) := by decide +kernel
theorem dX6_reads_55 : decode cX6_reads 55 = .ok (.invokevirtual 121, 3) := by decide +kernel
theorem dX6_reads_58 : decode cX6_reads 58 = .ok (.ifCond .eq 33, 3) := by decide +kernel
theorem dX6_reads_61 : decode cX6_reads 61 = .ok (.aload_n 0, 1) := by decide +kernel
theorem dX6_reads_62 : decode cX6_reads 62 = .ok (.iconst 0, 1) := by decide +kernel
theorem dX6_reads_63 : decode cX6_reads 63 = .ok (.iconst 0, 1) := by decide +kernel
theorem dX6_reads_64 : decode cX6_reads 64 = .ok (.bipush 99, 2) := by decide +kernel
theorem dX6_reads_66 : decode cX6_reads 66 = .ok (.invokevirtual 141, 3) := by decide +kernel
theorem dX6_reads_69 : decode cX6_reads 69 = .ok (.ifCond .eq 22, 3) := by decide +kernel
theorem dX6_reads_72 : decode cX6_reads 72 = .ok (.aload_n 0, 1) := by decide +kernel
theorem dX6_reads_73 : decode cX6_reads 73 = .ok (.iconst 1, 1) := by decide +kernel
theorem dX6_reads_74 : decode cX6_reads 74 = .ok (.iconst 1, 1) := by decide +kernel
theorem dX6_reads_75 : decode cX6_reads 75 = .ok (.sipush 999, 3) := by decide +kernel
theorem dX6_reads_78 : decode cX6_reads 78 = .ok (.invokevirtual 141, 3) := by decide +kernel
theorem dX6_reads_81 : decode cX6_reads 81 = .ok (.ifCond .eq 10, 3) := by decide +kernel
theorem dX6_reads_84 : decode cX6_reads 84 = .ok (.aload_n 0, 1) := by decide +kernel
theorem dX6_reads_85 : decode cX6_reads 85 = .ok (.invokevirtual 145, 3) := by decide +kernel
theorem dX6_reads_88 : decode cX6_reads 88 = .ok (.ifCond .ne 5, 3) := by decide +kernel
theorem dX6_reads_91 : decode cX6_reads 91 = .ok (.iconst 0, 1) := by decide +kernel
theorem dX6_reads_92 : decode cX6_reads 92 = .ok (.ireturn, 1) := by decide +kernel
theorem dX6_reads_93 : decode cX6_reads 93 = .ok (.aload_n 0, 1) := by decide +kernel
theorem dX6_reads_94 : decode cX6_reads 94 = .ok (.invokevirtual 115, 3) := by decide +kernel
theorem dX6_reads_97 : decode cX6_reads 97 = .ok (.aload_n 0, 1) := by decide +kernel
theorem dX6_reads_98 : decode cX6_reads 98 = .ok (.getfield 100, 3) := by decide +kernel
theorem dX6_reads_101 : decode cX6_reads 101 = .ok (.ifCond .eq 19, 3) := by decide +kernel
theorem dX6_reads_104 : decode cX6_reads 104 = .ok (.aload_n 0, 1) := by decide +kernel
theorem dX6_reads_105 : decode cX6_reads 105 = .ok (.invokevirtual 151, 3) := by decide +kernel
theorem dX6_reads_108 : decode cX6_reads 108 = .ok (.ifCond .ne 5, 3) := by decide +kernel
theorem dX6_reads_111 : decode cX6_reads 111 = .ok (.iconst 0, 1) := by decide +kernel
theorem dX6_reads_112 : decode cX6_reads 112 = .ok (.ireturn, 1) := by decide +kernel
theorem dX6_reads_113 : decode cX6_reads 113 = .ok (.aload_n 0, 1) := by decide +kernel
theorem dX6_reads_114 : decode cX6_reads 114 = .ok (.invokevirtual 115, 3) := by decide +kernel
theorem dX6_reads_117 : decode cX6_reads 117 = .ok (.goto (-20), 3) := by decide +kernel
theorem dX6_reads_120 : decode cX6_reads 120 = .ok (.iconst 1, 1) := by decide +kernel
theorem dX6_reads_121 : decode cX6_reads 121 = .ok (.ireturn, 1) := by decide +kernel
theorem dX6_plain_0 : decode cX6_plain 0 = .ok (.aload_n 0, 1) := by decide +kernel
theorem dX6_plain_1 : decode cX6_plain 1 = .ok (.aload_n 0, 1) := by decide +kernel
theorem dX6_plain_2 : decode cX6_plain 2 = .ok (.getfield 74, 3) := by decide +kernel
theorem dX6_plain_5 : decode cX6_plain 5 = .ok (.putfield 91, 3) := by decide +kernel
theorem dX6_plain_8 : decode cX6_plain 8 = .ok (.aload_n 0, 1) := by decide +kernel
theorem dX6_plain_9 : decode cX6_plain 9 = .ok (.iconst 0, 1) := by decide +kernel
theorem dX6_plain_10 : decode cX6_plain 10 = .ok (.putfield 74, 3) := by decide +kernel
theorem dX6_plain_13 : decode cX6_plain 13 = .ok (.aload_n 0, 1) := by decide +kernel
theorem dX6_plain_14 : decode cX6_plain 14 = .ok (.getfield 118, 3) := by decide +kernel
theorem dX6_plain_17 : decode cX6_plain 17 = .ok (.istore_n 1, 1) := by decide +kernel
theorem dX6_plain_18 : decode cX6_plain 18 = .ok (.aload_n 0, 1) := by decide +kernel
theorem dX6_plain_19 : decode cX6_plain 19 = .ok (.invokevirtual 154, 3) := by decide +kernel
theorem dX6_plain_22 : decode cX6_plain 22 = .ok (.ifCond .ne 11, 3) := by decide +kernel
theorem dX6_plain_25 : decode cX6_plain 25 = .ok (.ldc 157, 2) := by decide +kernel
theorem dX6_plain_27 : decode cX6_plain 27 = .ok (.aload_n 0, 1) := by decide +kernel
theorem dX6_plain_28 : decode cX6_plain 28 = .ok (.getfield 94, 3) := by decide +kernel
theorem dX6_plain_31 : decode cX6_plain 31 = .ok (.isub, 1) := by decide +kernel
theorem dX6_plain_32 : decode cX6_plain 32 = .ok (.ireturn, 1) := by decide +kernel
theorem dX6_plain_33 : decode cX6_plain 33 = .ok (.aload_n 0, 1) := by decide +kernel
theorem dX6_plain_34 : decode cX6_plain 34 = .ok (.iload_n 1, 1) := by decide +kernel
theorem dX6_plain_35 : decode cX6_plain 35 = .ok (.putfield 118, 3) := by decide +kernel
theorem dX6_plain_38 : decode cX6_plain 38 = .ok (.aload_n 0, 1) := by decide +kernel
theorem dX6_plain_39 : decode cX6_plain 39 = .ok (.iconst 1, 1) := by decide +kernel
theorem dX6_plain_40 : decode cX6_plain 40 = .ok (.putfield 158, 3) := by decide +kernel
theorem dX6_plain_43 : decode cX6_plain 43 = .ok (.aload_n 0, 1) := by decide +kernel
theorem dX6_plain_44 : decode cX6_plain 44 = .ok (.iconst 0, 1) := by decide +kernel
theorem dX6_plain_45 : decode cX6_plain 45 = .ok (.putfield 162, 3) := by decide +kernel
theorem dX6_plain_48 : decode cX6_plain 48 = .ok (.aload_n 0, 1) := by decide +kernel
theorem dX6_plain_49 : decode cX6_plain 49 = .ok (.getfield 38, 3) := by decide +kernel
theorem dX6_plain_52 : decode cX6_plain 52 = .ok (.iconst 0, 1) := by decide +kernel
theorem dX6_plain_53 : decode cX6_plain 53 = .ok (.aload_n 0, 1) := by decide +kernel
theorem dX6_plain_54 : decode cX6_plain 54 = .ok (.getfield 22, 3) := by decide +kernel
theorem dX6_plain_57 : decode cX6_plain 57 = .ok (.iconst 0, 1) := by decide +kernel
theorem dX6_plain_58 : decode cX6_plain 58 = .ok (.invokestatic 165, 3) := by decide +kernel
theorem dX6_plain_61 : decode cX6_plain 61 = .ok (.aload_n 0, 1) := by decide +kernel
theorem dX6_plain_62 : decode cX6_plain 62 = .ok (.getfield 22, 3) := by decide +kernel
theorem dX6_plain_65 : decode cX6_plain 65 = .ok (.iconst 2, 1) := by decide +kernel
theorem dX6_plain_66 : decode cX6_plain 66 = .ok (.iaload, 1) := by decide +kernel
theorem dX6_plain_67 : decode cX6_plain 67 = .ok (.ireturn, 1) := by decide +kernel
theorem dX6_fault_0 : decode cX6_fault 0 = .ok (.aload_n 0, 1) := by decide +kernel
theorem dX6_fault_1 : decode cX6_fault 1 = .ok (.getfield 118, 3) := by decide +kernel
theorem dX6_fault_4 : decode cX6_fault 4 = .ok (.ireturn, 1) := by decide +kernel
theorem dX6_copies_0 : decode cX6_copies 0 = .ok (.iconst 0, 1) := by decide +kernel
theorem dX6_copies_1 : decode cX6_copies 1 = .ok (.istore 4, 2) := by decide +kernel
theorem dX6_copies_3 : decode cX6_copies 3 = .ok (.iload 4, 2) := by decide +kernel
theorem dX6_copies_5 : decode cX6_copies 5 = .ok (.bipush 40, 2) := by decide +kernel
theorem dX6_copies_7 : decode cX6_copies 7 = .ok (.if_icmp .ge 21, 3) := by decide +kernel
theorem dX6_copies_10 : decode cX6_copies 10 = .ok (.aload_n 2, 1) := by decide +kernel
theorem dX6_copies_11 : decode cX6_copies 11 = .ok (.iload_n 3, 1) := by decide +kernel
theorem dX6_copies_12 : decode cX6_copies 12 = .ok (.iload 4, 2) := by decide +kernel
theorem dX6_copies_14 : decode cX6_copies 14 = .ok (.iadd, 1) := by decide +kernel
theorem dX6_copies_15 : decode cX6_copies 15 = .ok (.aload_n 0, 1) := by decide +kernel
theorem dX6_copies_16 : decode cX6_copies 16 = .ok (.iload_n 1, 1) := by decide +kernel
theorem dX6_copies_17 : decode cX6_copies 17 = .ok (.iload 4, 2) := by decide +kernel
theorem dX6_copies_19 : decode cX6_copies 19 = .ok (.iadd, 1) := by decide +kernel
theorem dX6_copies_20 : decode cX6_copies 20 = .ok (.iaload, 1) := by decide +kernel
theorem dX6_copies_21 : decode cX6_copies 21 = .ok (.iastore, 1) := by decide +kernel
theorem dX6_copies_22 : decode cX6_copies 22 = .ok (.iinc 4 1, 3) := by decide +kernel
theorem dX6_copies_25 : decode cX6_copies 25 = .ok (.goto (-22), 3) := by decide +kernel
theorem dX6_copies_28 : decode cX6_copies 28 = .ok (.return_, 1) := by decide +kernel
theorem dX6_isVillage_0 : decode cX6_isVillage 0 = .ok (.iload_n 1, 1) := by decide +kernel
theorem dX6_isVillage_1 : decode cX6_isVillage 1 = .ok (.i2l, 1) := by decide +kernel
theorem dX6_isVillage_2 : decode cX6_isVillage 2 = .ok (.lconst 0, 1) := by decide +kernel
theorem dX6_isVillage_3 : decode cX6_isVillage 3 = .ok (.aload_n 0, 1) := by decide +kernel
theorem dX6_isVillage_4 : decode cX6_isVillage 4 = .ok (.getfield 22, 3) := by decide +kernel
theorem dX6_isVillage_7 : decode cX6_isVillage 7 = .ok (.iconst 2, 1) := by decide +kernel
theorem dX6_isVillage_8 : decode cX6_isVillage 8 = .ok (.iaload, 1) := by decide +kernel
theorem dX6_isVillage_9 : decode cX6_isVillage 9 = .ok (.iconst 1, 1) := by decide +kernel
theorem dX6_isVillage_10 : decode cX6_isVillage 10 = .ok (.isub, 1) := by decide +kernel
theorem dX6_isVillage_11 : decode cX6_isVillage 11 = .ok (.i2l, 1) := by decide +kernel
theorem dX6_isVillage_12 : decode cX6_isVillage 12 = .ok (.invokestatic 54, 3) := by decide +kernel
theorem dX6_isVillage_15 : decode cX6_isVillage 15 = .ok (.ireturn, 1) := by decide +kernel
theorem dX6_has_0 : decode cX6_has 0 = .ok (.iload_n 0, 1) := by decide +kernel
theorem dX6_has_1 : decode cX6_has 1 = .ok (.iload_n 1, 1) := by decide +kernel
theorem dX6_has_2 : decode cX6_has 2 = .ok (.ishr, 1) := by decide +kernel
theorem dX6_has_3 : decode cX6_has 3 = .ok (.iconst 1, 1) := by decide +kernel
theorem dX6_has_4 : decode cX6_has 4 = .ok (.iand, 1) := by decide +kernel
theorem dX6_has_5 : decode cX6_has 5 = .ok (.iconst 1, 1) := by decide +kernel
theorem dX6_has_6 : decode cX6_has 6 = .ok (.if_icmp .ne 7, 3) := by decide +kernel
theorem dX6_has_9 : decode cX6_has 9 = .ok (.iconst 1, 1) := by decide +kernel
theorem dX6_has_10 : decode cX6_has 10 = .ok (.goto 4, 3) := by decide +kernel
theorem dX6_has_13 : decode cX6_has 13 = .ok (.iconst 0, 1) := by decide +kernel
theorem dX6_has_14 : decode cX6_has 14 = .ok (.ireturn, 1) := by decide +kernel
theorem dX6_wants_0 : decode cX6_wants 0 = .ok (.aload_n 0, 1) := by decide +kernel
theorem dX6_wants_1 : decode cX6_wants 1 = .ok (.iconst 5, 1) := by decide +kernel
theorem dX6_wants_2 : decode cX6_wants 2 = .ok (.iload_n 1, 1) := by decide +kernel
theorem dX6_wants_3 : decode cX6_wants 3 = .ok (.iadd, 1) := by decide +kernel
theorem dX6_wants_4 : decode cX6_wants 4 = .ok (.iaload, 1) := by decide +kernel
theorem dX6_wants_5 : decode cX6_wants 5 = .ok (.istore_n 2, 1) := by decide +kernel
theorem dX6_wants_6 : decode cX6_wants 6 = .ok (.iload_n 2, 1) := by decide +kernel
theorem dX6_wants_7 : decode cX6_wants 7 = .ok (.iconst 2, 1) := by decide +kernel
theorem dX6_wants_8 : decode cX6_wants 8 = .ok (.if_icmp .ne 11, 3) := by decide +kernel
theorem dX6_wants_11 : decode cX6_wants 11 = .ok (.aload_n 0, 1) := by decide +kernel
theorem dX6_wants_12 : decode cX6_wants 12 = .ok (.iconst 0, 1) := by decide +kernel
theorem dX6_wants_13 : decode cX6_wants 13 = .ok (.iaload, 1) := by decide +kernel
theorem dX6_wants_14 : decode cX6_wants 14 = .ok (.iconst 2, 1) := by decide +kernel
theorem dX6_wants_15 : decode cX6_wants 15 = .ok (.idiv, 1) := by decide +kernel
theorem dX6_wants_16 : decode cX6_wants 16 = .ok (.goto 28, 3) := by decide +kernel
theorem dX6_wants_19 : decode cX6_wants 19 = .ok (.iload_n 2, 1) := by decide +kernel
theorem dX6_wants_20 : decode cX6_wants 20 = .ok (.iconst 4, 1) := by decide +kernel
theorem dX6_wants_21 : decode cX6_wants 21 = .ok (.if_icmp .ne 11, 3) := by decide +kernel
theorem dX6_wants_24 : decode cX6_wants 24 = .ok (.iconst 2, 1) := by decide +kernel
theorem dX6_wants_25 : decode cX6_wants 25 = .ok (.aload_n 0, 1) := by decide +kernel
theorem dX6_wants_26 : decode cX6_wants 26 = .ok (.iconst 0, 1) := by decide +kernel
theorem dX6_wants_27 : decode cX6_wants 27 = .ok (.iaload, 1) := by decide +kernel
theorem dX6_wants_28 : decode cX6_wants 28 = .ok (.imul, 1) := by decide +kernel
theorem dX6_wants_29 : decode cX6_wants 29 = .ok (.goto 15, 3) := by decide +kernel
theorem dX6_wants_32 : decode cX6_wants 32 = .ok (.iload_n 2, 1) := by decide +kernel
theorem dX6_wants_33 : decode cX6_wants 33 = .ok (.iconst 3, 1) := by decide +kernel
theorem dX6_wants_34 : decode cX6_wants 34 = .ok (.if_icmp .ne 7, 3) := by decide +kernel
theorem dX6_wants_37 : decode cX6_wants 37 = .ok (.iconst 0, 1) := by decide +kernel
theorem dX6_wants_38 : decode cX6_wants 38 = .ok (.goto 6, 3) := by decide +kernel
theorem dX6_wants_41 : decode cX6_wants 41 = .ok (.aload_n 0, 1) := by decide +kernel
theorem dX6_wants_42 : decode cX6_wants 42 = .ok (.iconst 0, 1) := by decide +kernel
theorem dX6_wants_43 : decode cX6_wants 43 = .ok (.iaload, 1) := by decide +kernel
theorem dX6_wants_44 : decode cX6_wants 44 = .ok (.ireturn, 1) := by decide +kernel
theorem dX6_draws_0 : decode cX6_draws 0 = .ok (.iload_n 1, 1) := by decide +kernel
theorem dX6_draws_1 : decode cX6_draws 1 = .ok (.iconst 1, 1) := by decide +kernel
theorem dX6_draws_2 : decode cX6_draws 2 = .ok (.iadd, 1) := by decide +kernel
theorem dX6_draws_3 : decode cX6_draws 3 = .ok (.aload_n 0, 1) := by decide +kernel
theorem dX6_draws_4 : decode cX6_draws 4 = .ok (.iconst 2, 1) := by decide +kernel
theorem dX6_draws_5 : decode cX6_draws 5 = .ok (.iaload, 1) := by decide +kernel
theorem dX6_draws_6 : decode cX6_draws 6 = .ok (.if_icmp .ne 7, 3) := by decide +kernel
theorem dX6_draws_9 : decode cX6_draws 9 = .ok (.iconst 0, 1) := by decide +kernel
theorem dX6_draws_10 : decode cX6_draws 10 = .ok (.goto 6, 3) := by decide +kernel
theorem dX6_draws_13 : decode cX6_draws 13 = .ok (.iload_n 1, 1) := by decide +kernel
theorem dX6_draws_14 : decode cX6_draws 14 = .ok (.iconst 1, 1) := by decide +kernel
theorem dX6_draws_15 : decode cX6_draws 15 = .ok (.iadd, 1) := by decide +kernel
theorem dX6_draws_16 : decode cX6_draws 16 = .ok (.istore_n 2, 1) := by decide +kernel
theorem dX6_draws_17 : decode cX6_draws 17 = .ok (.aload_n 0, 1) := by decide +kernel
theorem dX6_draws_18 : decode cX6_draws 18 = .ok (.iconst 4, 1) := by decide +kernel
theorem dX6_draws_19 : decode cX6_draws 19 = .ok (.iaload, 1) := by decide +kernel
theorem dX6_draws_20 : decode cX6_draws 20 = .ok (.iload_n 1, 1) := by decide +kernel
theorem dX6_draws_21 : decode cX6_draws 21 = .ok (.invokestatic 169, 3) := by decide +kernel
theorem dX6_draws_24 : decode cX6_draws 24 = .ok (.ifCond .ne 22, 3) := by decide +kernel
theorem dX6_draws_27 : decode cX6_draws 27 = .ok (.aload_n 0, 1) := by decide +kernel
theorem dX6_draws_28 : decode cX6_draws 28 = .ok (.iconst 4, 1) := by decide +kernel
theorem dX6_draws_29 : decode cX6_draws 29 = .ok (.iaload, 1) := by decide +kernel
theorem dX6_draws_30 : decode cX6_draws 30 = .ok (.iload_n 2, 1) := by decide +kernel
theorem dX6_draws_31 : decode cX6_draws 31 = .ok (.invokestatic 169, 3) := by decide +kernel
theorem dX6_draws_34 : decode cX6_draws 34 = .ok (.ifCond .ne 12, 3) := by decide +kernel
theorem dX6_draws_37 : decode cX6_draws 37 = .ok (.aload_n 0, 1) := by decide +kernel
theorem dX6_draws_38 : decode cX6_draws 38 = .ok (.iconst 5, 1) := by decide +kernel
theorem dX6_draws_39 : decode cX6_draws 39 = .ok (.iload_n 2, 1) := by decide +kernel
theorem dX6_draws_40 : decode cX6_draws 40 = .ok (.iadd, 1) := by decide +kernel
theorem dX6_draws_41 : decode cX6_draws 41 = .ok (.iaload, 1) := by decide +kernel
theorem dX6_draws_42 : decode cX6_draws 42 = .ok (.iconst 5, 1) := by decide +kernel
theorem dX6_draws_43 : decode cX6_draws 43 = .ok (.if_icmp .ne 4, 3) := by decide +kernel
theorem dX6_draws_46 : decode cX6_draws 46 = .ok (.return_, 1) := by decide +kernel
theorem dX6_draws_47 : decode cX6_draws 47 = .ok (.aload_n 0, 1) := by decide +kernel
theorem dX6_draws_48 : decode cX6_draws 48 = .ok (.iload_n 1, 1) := by decide +kernel
theorem dX6_draws_49 : decode cX6_draws 49 = .ok (.invokestatic 173, 3) := by decide +kernel
theorem dX6_draws_52 : decode cX6_draws 52 = .ok (.istore_n 3, 1) := by decide +kernel
theorem dX6_draws_53 : decode cX6_draws 53 = .ok (.iload_n 3, 1) := by decide +kernel
theorem dX6_draws_54 : decode cX6_draws 54 = .ok (.aload_n 0, 1) := by decide +kernel
theorem dX6_draws_55 : decode cX6_draws 55 = .ok (.bipush 26, 2) := by decide +kernel
theorem dX6_draws_57 : decode cX6_draws 57 = .ok (.iload_n 2, 1) := by decide +kernel
theorem dX6_draws_58 : decode cX6_draws 58 = .ok (.iadd, 1) := by decide +kernel
theorem dX6_draws_59 : decode cX6_draws 59 = .ok (.iaload, 1) := by decide +kernel
theorem dX6_draws_60 : decode cX6_draws 60 = .ok (.if_icmp .ge 7, 3) := by decide +kernel
theorem dX6_draws_63 : decode cX6_draws 63 = .ok (.iload_n 3, 1) := by decide +kernel
theorem dX6_draws_64 : decode cX6_draws 64 = .ok (.goto 9, 3) := by decide +kernel
theorem dX6_draws_67 : decode cX6_draws 67 = .ok (.aload_n 0, 1) := by decide +kernel
theorem dX6_draws_68 : decode cX6_draws 68 = .ok (.bipush 26, 2) := by decide +kernel
theorem dX6_draws_70 : decode cX6_draws 70 = .ok (.iload_n 2, 1) := by decide +kernel
theorem dX6_draws_71 : decode cX6_draws 71 = .ok (.iadd, 1) := by decide +kernel
theorem dX6_draws_72 : decode cX6_draws 72 = .ok (.iaload, 1) := by decide +kernel
theorem dX6_draws_73 : decode cX6_draws 73 = .ok (.istore 4, 2) := by decide +kernel
theorem dX6_draws_75 : decode cX6_draws 75 = .ok (.aload_n 0, 1) := by decide +kernel
theorem dX6_draws_76 : decode cX6_draws 76 = .ok (.bipush 26, 2) := by decide +kernel
theorem dX6_draws_78 : decode cX6_draws 78 = .ok (.iload_n 2, 1) := by decide +kernel
theorem dX6_draws_79 : decode cX6_draws 79 = .ok (.iadd, 1) := by decide +kernel
theorem dX6_draws_80 : decode cX6_draws 80 = .ok (.dup2, 1) := by decide +kernel
theorem dX6_draws_81 : decode cX6_draws 81 = .ok (.iaload, 1) := by decide +kernel
theorem dX6_draws_82 : decode cX6_draws 82 = .ok (.iload 4, 2) := by decide +kernel
theorem dX6_draws_84 : decode cX6_draws 84 = .ok (.isub, 1) := by decide +kernel
theorem dX6_draws_85 : decode cX6_draws 85 = .ok (.iastore, 1) := by decide +kernel
theorem dX6_draws_86 : decode cX6_draws 86 = .ok (.aload_n 0, 1) := by decide +kernel
theorem dX6_draws_87 : decode cX6_draws 87 = .ok (.bipush 26, 2) := by decide +kernel
theorem dX6_draws_89 : decode cX6_draws 89 = .ok (.iload_n 1, 1) := by decide +kernel
theorem dX6_draws_90 : decode cX6_draws 90 = .ok (.iadd, 1) := by decide +kernel
theorem dX6_draws_91 : decode cX6_draws 91 = .ok (.iaload, 1) := by decide +kernel
theorem dX6_draws_92 : decode cX6_draws 92 = .ok (.iload 4, 2) := by decide +kernel
theorem dX6_draws_94 : decode cX6_draws 94 = .ok (.iadd, 1) := by decide +kernel
theorem dX6_draws_95 : decode cX6_draws 95 = .ok (.istore 5, 2) := by decide +kernel
theorem dX6_draws_97 : decode cX6_draws 97 = .ok (.aload_n 0, 1) := by decide +kernel
theorem dX6_draws_98 : decode cX6_draws 98 = .ok (.bipush 26, 2) := by decide +kernel
theorem dX6_draws_100 : decode cX6_draws 100 = .ok (.iload_n 1, 1) := by decide +kernel
theorem dX6_draws_101 : decode cX6_draws 101 = .ok (.iadd, 1) := by decide +kernel
theorem dX6_draws_102 : decode cX6_draws 102 = .ok (.iload 5, 2) := by decide +kernel
theorem dX6_draws_104 : decode cX6_draws 104 = .ok (.aload_n 0, 1) := by decide +kernel
theorem dX6_draws_105 : decode cX6_draws 105 = .ok (.iconst 1, 1) := by decide +kernel
theorem dX6_draws_106 : decode cX6_draws 106 = .ok (.iaload, 1) := by decide +kernel
theorem dX6_draws_107 : decode cX6_draws 107 = .ok (.if_icmp .ge 8, 3) := by decide +kernel
theorem dX6_draws_110 : decode cX6_draws 110 = .ok (.iload 5, 2) := by decide +kernel
theorem dX6_draws_112 : decode cX6_draws 112 = .ok (.goto 6, 3) := by decide +kernel
theorem dX6_draws_115 : decode cX6_draws 115 = .ok (.aload_n 0, 1) := by decide +kernel
theorem dX6_draws_116 : decode cX6_draws 116 = .ok (.iconst 1, 1) := by decide +kernel
theorem dX6_draws_117 : decode cX6_draws 117 = .ok (.iaload, 1) := by decide +kernel
theorem dX6_draws_118 : decode cX6_draws 118 = .ok (.iastore, 1) := by decide +kernel
theorem dX6_draws_119 : decode cX6_draws 119 = .ok (.return_, 1) := by decide +kernel
theorem dX6_goes_0 : decode cX6_goes 0 = .ok (.iconst 0, 1) := by decide +kernel
theorem dX6_goes_1 : decode cX6_goes 1 = .ok (.istore_n 2, 1) := by decide +kernel
theorem dX6_goes_2 : decode cX6_goes 2 = .ok (.iconst 0, 1) := by decide +kernel
theorem dX6_goes_3 : decode cX6_goes 3 = .ok (.istore_n 3, 1) := by decide +kernel
theorem dX6_goes_4 : decode cX6_goes 4 = .ok (.iload_n 3, 1) := by decide +kernel
theorem dX6_goes_5 : decode cX6_goes 5 = .ok (.aload_n 0, 1) := by decide +kernel
theorem dX6_goes_6 : decode cX6_goes 6 = .ok (.iconst 2, 1) := by decide +kernel
theorem dX6_goes_7 : decode cX6_goes 7 = .ok (.iaload, 1) := by decide +kernel
theorem dX6_goes_8 : decode cX6_goes 8 = .ok (.if_icmp .ge 48, 3) := by decide +kernel
theorem dX6_goes_11 : decode cX6_goes 11 = .ok (.aload_n 0, 1) := by decide +kernel
theorem dX6_goes_12 : decode cX6_goes 12 = .ok (.bipush 26, 2) := by decide +kernel
theorem dX6_goes_14 : decode cX6_goes 14 = .ok (.iload_n 3, 1) := by decide +kernel
theorem dX6_goes_15 : decode cX6_goes 15 = .ok (.iadd, 1) := by decide +kernel
theorem dX6_goes_16 : decode cX6_goes 16 = .ok (.iaload, 1) := by decide +kernel
theorem dX6_goes_17 : decode cX6_goes 17 = .ok (.aload_n 0, 1) := by decide +kernel
theorem dX6_goes_18 : decode cX6_goes 18 = .ok (.bipush 12, 2) := by decide +kernel
theorem dX6_goes_20 : decode cX6_goes 20 = .ok (.iload_n 3, 1) := by decide +kernel
theorem dX6_goes_21 : decode cX6_goes 21 = .ok (.iadd, 1) := by decide +kernel
theorem dX6_goes_22 : decode cX6_goes 22 = .ok (.iaload, 1) := by decide +kernel
theorem dX6_goes_23 : decode cX6_goes 23 = .ok (.iadd, 1) := by decide +kernel
theorem dX6_goes_24 : decode cX6_goes 24 = .ok (.iload_n 1, 1) := by decide +kernel
theorem dX6_goes_25 : decode cX6_goes 25 = .ok (.iadd, 1) := by decide +kernel
theorem dX6_goes_26 : decode cX6_goes 26 = .ok (.istore 4, 2) := by decide +kernel
theorem dX6_goes_28 : decode cX6_goes 28 = .ok (.aload_n 0, 1) := by decide +kernel
theorem dX6_goes_29 : decode cX6_goes 29 = .ok (.bipush 26, 2) := by decide +kernel
theorem dX6_goes_31 : decode cX6_goes 31 = .ok (.iload_n 3, 1) := by decide +kernel
theorem dX6_goes_32 : decode cX6_goes 32 = .ok (.iadd, 1) := by decide +kernel
theorem dX6_goes_33 : decode cX6_goes 33 = .ok (.iload 4, 2) := by decide +kernel
theorem dX6_goes_35 : decode cX6_goes 35 = .ok (.aload_n 0, 1) := by decide +kernel
theorem dX6_goes_36 : decode cX6_goes 36 = .ok (.iconst 1, 1) := by decide +kernel
theorem dX6_goes_37 : decode cX6_goes 37 = .ok (.iaload, 1) := by decide +kernel
theorem dX6_goes_38 : decode cX6_goes 38 = .ok (.if_icmp .ge 8, 3) := by decide +kernel
theorem dX6_goes_41 : decode cX6_goes 41 = .ok (.iload 4, 2) := by decide +kernel
theorem dX6_goes_43 : decode cX6_goes 43 = .ok (.goto 6, 3) := by decide +kernel
theorem dX6_goes_46 : decode cX6_goes 46 = .ok (.aload_n 0, 1) := by decide +kernel
theorem dX6_goes_47 : decode cX6_goes 47 = .ok (.iconst 1, 1) := by decide +kernel
theorem dX6_goes_48 : decode cX6_goes 48 = .ok (.iaload, 1) := by decide +kernel
theorem dX6_goes_49 : decode cX6_goes 49 = .ok (.iastore, 1) := by decide +kernel
theorem dX6_goes_50 : decode cX6_goes 50 = .ok (.iinc 3 1, 3) := by decide +kernel
theorem dX6_goes_53 : decode cX6_goes 53 = .ok (.goto (-49), 3) := by decide +kernel
theorem dX6_goes_56 : decode cX6_goes 56 = .ok (.iconst 0, 1) := by decide +kernel
theorem dX6_goes_57 : decode cX6_goes 57 = .ok (.istore_n 3, 1) := by decide +kernel
theorem dX6_goes_58 : decode cX6_goes 58 = .ok (.iload_n 3, 1) := by decide +kernel
theorem dX6_goes_59 : decode cX6_goes 59 = .ok (.aload_n 0, 1) := by decide +kernel
theorem dX6_goes_60 : decode cX6_goes 60 = .ok (.iconst 2, 1) := by decide +kernel
theorem dX6_goes_61 : decode cX6_goes 61 = .ok (.iaload, 1) := by decide +kernel
theorem dX6_goes_62 : decode cX6_goes 62 = .ok (.if_icmp .ge 91, 3) := by decide +kernel
theorem dX6_goes_65 : decode cX6_goes 65 = .ok (.aload_n 0, 1) := by decide +kernel
theorem dX6_goes_66 : decode cX6_goes 66 = .ok (.bipush 26, 2) := by decide +kernel
theorem dX6_goes_68 : decode cX6_goes 68 = .ok (.iload_n 3, 1) := by decide +kernel
theorem dX6_goes_69 : decode cX6_goes 69 = .ok (.iadd, 1) := by decide +kernel
theorem dX6_goes_70 : decode cX6_goes 70 = .ok (.iaload, 1) := by decide +kernel
theorem dX6_goes_71 : decode cX6_goes 71 = .ok (.aload_n 0, 1) := by decide +kernel
theorem dX6_goes_72 : decode cX6_goes 72 = .ok (.bipush 19, 2) := by decide +kernel
theorem dX6_goes_74 : decode cX6_goes 74 = .ok (.iload_n 3, 1) := by decide +kernel
theorem dX6_goes_75 : decode cX6_goes 75 = .ok (.iadd, 1) := by decide +kernel
theorem dX6_goes_76 : decode cX6_goes 76 = .ok (.iaload, 1) := by decide +kernel
theorem dX6_goes_77 : decode cX6_goes 77 = .ok (.if_icmp .ge 12, 3) := by decide +kernel
theorem dX6_goes_80 : decode cX6_goes 80 = .ok (.aload_n 0, 1) := by decide +kernel
theorem dX6_goes_81 : decode cX6_goes 81 = .ok (.bipush 26, 2) := by decide +kernel
theorem dX6_goes_83 : decode cX6_goes 83 = .ok (.iload_n 3, 1) := by decide +kernel
theorem dX6_goes_84 : decode cX6_goes 84 = .ok (.iadd, 1) := by decide +kernel
theorem dX6_goes_85 : decode cX6_goes 85 = .ok (.iaload, 1) := by decide +kernel
theorem dX6_goes_86 : decode cX6_goes 86 = .ok (.goto 9, 3) := by decide +kernel
theorem dX6_goes_89 : decode cX6_goes 89 = .ok (.aload_n 0, 1) := by decide +kernel
theorem dX6_goes_90 : decode cX6_goes 90 = .ok (.bipush 19, 2) := by decide +kernel
theorem dX6_goes_92 : decode cX6_goes 92 = .ok (.iload_n 3, 1) := by decide +kernel
theorem dX6_goes_93 : decode cX6_goes 93 = .ok (.iadd, 1) := by decide +kernel
theorem dX6_goes_94 : decode cX6_goes 94 = .ok (.iaload, 1) := by decide +kernel
theorem dX6_goes_95 : decode cX6_goes 95 = .ok (.istore 4, 2) := by decide +kernel
theorem dX6_goes_97 : decode cX6_goes 97 = .ok (.aload_n 0, 1) := by decide +kernel
theorem dX6_goes_98 : decode cX6_goes 98 = .ok (.bipush 26, 2) := by decide +kernel
theorem dX6_goes_100 : decode cX6_goes 100 = .ok (.iload_n 3, 1) := by decide +kernel
theorem dX6_goes_101 : decode cX6_goes 101 = .ok (.iadd, 1) := by decide +kernel
theorem dX6_goes_102 : decode cX6_goes 102 = .ok (.dup2, 1) := by decide +kernel
theorem dX6_goes_103 : decode cX6_goes 103 = .ok (.iaload, 1) := by decide +kernel
theorem dX6_goes_104 : decode cX6_goes 104 = .ok (.iload 4, 2) := by decide +kernel
theorem dX6_goes_106 : decode cX6_goes 106 = .ok (.isub, 1) := by decide +kernel
theorem dX6_goes_107 : decode cX6_goes 107 = .ok (.iastore, 1) := by decide +kernel
theorem dX6_goes_108 : decode cX6_goes 108 = .ok (.aload_n 0, 1) := by decide +kernel
theorem dX6_goes_109 : decode cX6_goes 109 = .ok (.bipush 33, 2) := by decide +kernel
theorem dX6_goes_111 : decode cX6_goes 111 = .ok (.iload_n 3, 1) := by decide +kernel
theorem dX6_goes_112 : decode cX6_goes 112 = .ok (.iadd, 1) := by decide +kernel
theorem dX6_goes_113 : decode cX6_goes 113 = .ok (.dup2, 1) := by decide +kernel
theorem dX6_goes_114 : decode cX6_goes 114 = .ok (.iaload, 1) := by decide +kernel
theorem dX6_goes_115 : decode cX6_goes 115 = .ok (.aload_n 0, 1) := by decide +kernel
theorem dX6_goes_116 : decode cX6_goes 116 = .ok (.bipush 19, 2) := by decide +kernel
theorem dX6_goes_118 : decode cX6_goes 118 = .ok (.iload_n 3, 1) := by decide +kernel
theorem dX6_goes_119 : decode cX6_goes 119 = .ok (.iadd, 1) := by decide +kernel
theorem dX6_goes_120 : decode cX6_goes 120 = .ok (.iaload, 1) := by decide +kernel
theorem dX6_goes_121 : decode cX6_goes 121 = .ok (.iload 4, 2) := by decide +kernel
theorem dX6_goes_123 : decode cX6_goes 123 = .ok (.isub, 1) := by decide +kernel
theorem dX6_goes_124 : decode cX6_goes 124 = .ok (.iadd, 1) := by decide +kernel
theorem dX6_goes_125 : decode cX6_goes 125 = .ok (.iastore, 1) := by decide +kernel
theorem dX6_goes_126 : decode cX6_goes 126 = .ok (.iload_n 2, 1) := by decide +kernel
theorem dX6_goes_127 : decode cX6_goes 127 = .ok (.iload 4, 2) := by decide +kernel
theorem dX6_goes_129 : decode cX6_goes 129 = .ok (.aload_n 0, 1) := by decide +kernel
theorem dX6_goes_130 : decode cX6_goes 130 = .ok (.bipush 19, 2) := by decide +kernel
theorem dX6_goes_132 : decode cX6_goes 132 = .ok (.iload_n 3, 1) := by decide +kernel
theorem dX6_goes_133 : decode cX6_goes 133 = .ok (.iadd, 1) := by decide +kernel
theorem dX6_goes_134 : decode cX6_goes 134 = .ok (.iaload, 1) := by decide +kernel
theorem dX6_goes_135 : decode cX6_goes 135 = .ok (.if_icmp .ge 9, 3) := by decide +kernel
theorem dX6_goes_138 : decode cX6_goes 138 = .ok (.iconst 1, 1) := by decide +kernel
theorem dX6_goes_139 : decode cX6_goes 139 = .ok (.iload_n 3, 1) := by decide +kernel
theorem dX6_goes_140 : decode cX6_goes 140 = .ok (.ishl, 1) := by decide +kernel
theorem dX6_goes_141 : decode cX6_goes 141 = .ok (.goto 4, 3) := by decide +kernel
theorem dX6_goes_144 : decode cX6_goes 144 = .ok (.iconst 0, 1) := by decide +kernel
theorem dX6_goes_145 : decode cX6_goes 145 = .ok (.ior, 1) := by decide +kernel
theorem dX6_goes_146 : decode cX6_goes 146 = .ok (.istore_n 2, 1) := by decide +kernel
theorem dX6_goes_147 : decode cX6_goes 147 = .ok (.iinc 3 1, 3) := by decide +kernel
theorem dX6_goes_150 : decode cX6_goes 150 = .ok (.goto (-92), 3) := by decide +kernel
theorem dX6_goes_153 : decode cX6_goes 153 = .ok (.iconst 0, 1) := by decide +kernel
theorem dX6_goes_154 : decode cX6_goes 154 = .ok (.istore_n 3, 1) := by decide +kernel
theorem dX6_goes_155 : decode cX6_goes 155 = .ok (.iload_n 3, 1) := by decide +kernel
theorem dX6_goes_156 : decode cX6_goes 156 = .ok (.aload_n 0, 1) := by decide +kernel
theorem dX6_goes_157 : decode cX6_goes 157 = .ok (.iconst 2, 1) := by decide +kernel
theorem dX6_goes_158 : decode cX6_goes 158 = .ok (.iaload, 1) := by decide +kernel
theorem dX6_goes_159 : decode cX6_goes 159 = .ok (.if_icmp .ge 14, 3) := by decide +kernel
theorem dX6_goes_162 : decode cX6_goes 162 = .ok (.aload_n 0, 1) := by decide +kernel
theorem dX6_goes_163 : decode cX6_goes 163 = .ok (.iload_n 3, 1) := by decide +kernel
theorem dX6_goes_164 : decode cX6_goes 164 = .ok (.invokestatic 177, 3) := by decide +kernel
theorem dX6_goes_167 : decode cX6_goes 167 = .ok (.iinc 3 1, 3) := by decide +kernel
theorem dX6_goes_170 : decode cX6_goes 170 = .ok (.goto (-15), 3) := by decide +kernel
theorem dX6_goes_173 : decode cX6_goes 173 = .ok (.aload_n 0, 1) := by decide +kernel
theorem dX6_goes_174 : decode cX6_goes 174 = .ok (.iconst 3, 1) := by decide +kernel
theorem dX6_goes_175 : decode cX6_goes 175 = .ok (.dup2, 1) := by decide +kernel
theorem dX6_goes_176 : decode cX6_goes 176 = .ok (.iaload, 1) := by decide +kernel
theorem dX6_goes_177 : decode cX6_goes 177 = .ok (.iconst 1, 1) := by decide +kernel
theorem dX6_goes_178 : decode cX6_goes 178 = .ok (.iadd, 1) := by decide +kernel
theorem dX6_goes_179 : decode cX6_goes 179 = .ok (.iastore, 1) := by decide +kernel
theorem dX6_goes_180 : decode cX6_goes 180 = .ok (.iload_n 2, 1) := by decide +kernel
theorem dX6_goes_181 : decode cX6_goes 181 = .ok (.ireturn, 1) := by decide +kernel
theorem dX6_remember_0 : decode cX6_remember 0 = .ok (.aload_n 0, 1) := by decide +kernel
theorem dX6_remember_1 : decode cX6_remember 1 = .ok (.getfield 162, 3) := by decide +kernel
theorem dX6_remember_4 : decode cX6_remember 4 = .ok (.bipush 24, 2) := by decide +kernel
theorem dX6_remember_6 : decode cX6_remember 6 = .ok (.if_icmp .ne 43, 3) := by decide +kernel
theorem dX6_remember_9 : decode cX6_remember 9 = .ok (.iconst 0, 1) := by decide +kernel
theorem dX6_remember_10 : decode cX6_remember 10 = .ok (.istore_n 1, 1) := by decide +kernel
theorem dX6_remember_11 : decode cX6_remember 11 = .ok (.iload_n 1, 1) := by decide +kernel
theorem dX6_remember_12 : decode cX6_remember 12 = .ok (.sipush 920, 3) := by decide +kernel
theorem dX6_remember_15 : decode cX6_remember 15 = .ok (.if_icmp .ge 24, 3) := by decide +kernel
theorem dX6_remember_18 : decode cX6_remember 18 = .ok (.aload_n 0, 1) := by decide +kernel
theorem dX6_remember_19 : decode cX6_remember 19 = .ok (.getfield 25, 3) := by decide +kernel
theorem dX6_remember_22 : decode cX6_remember 22 = .ok (.iload_n 1, 1) := by decide +kernel
theorem dX6_remember_23 : decode cX6_remember 23 = .ok (.aload_n 0, 1) := by decide +kernel
theorem dX6_remember_24 : decode cX6_remember 24 = .ok (.getfield 25, 3) := by decide +kernel
theorem dX6_remember_27 : decode cX6_remember 27 = .ok (.iload_n 1, 1) := by decide +kernel
theorem dX6_remember_28 : decode cX6_remember 28 = .ok (.bipush 40, 2) := by decide +kernel
theorem dX6_remember_30 : decode cX6_remember 30 = .ok (.iadd, 1) := by decide +kernel
theorem dX6_remember_31 : decode cX6_remember 31 = .ok (.iaload, 1) := by decide +kernel
theorem dX6_remember_32 : decode cX6_remember 32 = .ok (.iastore, 1) := by decide +kernel
theorem dX6_remember_33 : decode cX6_remember 33 = .ok (.iinc 1 1, 3) := by decide +kernel
theorem dX6_remember_36 : decode cX6_remember 36 = .ok (.goto (-25), 3) := by decide +kernel
theorem dX6_remember_39 : decode cX6_remember 39 = .ok (.aload_n 0, 1) := by decide +kernel
theorem dX6_remember_40 : decode cX6_remember 40 = .ok (.dup, 1) := by decide +kernel
theorem dX6_remember_41 : decode cX6_remember 41 = .ok (.getfield 162, 3) := by decide +kernel
theorem dX6_remember_44 : decode cX6_remember 44 = .ok (.iconst 1, 1) := by decide +kernel
theorem dX6_remember_45 : decode cX6_remember 45 = .ok (.isub, 1) := by decide +kernel
theorem dX6_remember_46 : decode cX6_remember 46 = .ok (.putfield 162, 3) := by decide +kernel
theorem dX6_remember_49 : decode cX6_remember 49 = .ok (.aload_n 0, 1) := by decide +kernel
theorem dX6_remember_50 : decode cX6_remember 50 = .ok (.getfield 22, 3) := by decide +kernel
theorem dX6_remember_53 : decode cX6_remember 53 = .ok (.iconst 0, 1) := by decide +kernel
theorem dX6_remember_54 : decode cX6_remember 54 = .ok (.aload_n 0, 1) := by decide +kernel
theorem dX6_remember_55 : decode cX6_remember 55 = .ok (.getfield 25, 3) := by decide +kernel
theorem dX6_remember_58 : decode cX6_remember 58 = .ok (.bipush 40, 2) := by decide +kernel
theorem dX6_remember_60 : decode cX6_remember 60 = .ok (.aload_n 0, 1) := by decide +kernel
theorem dX6_remember_61 : decode cX6_remember 61 = .ok (.getfield 162, 3) := by decide +kernel
theorem dX6_remember_64 : decode cX6_remember 64 = .ok (.imul, 1) := by decide +kernel
theorem dX6_remember_65 : decode cX6_remember 65 = .ok (.invokestatic 165, 3) := by decide +kernel
theorem dX6_remember_68 : decode cX6_remember 68 = .ok (.aload_n 0, 1) := by decide +kernel
theorem dX6_remember_69 : decode cX6_remember 69 = .ok (.dup, 1) := by decide +kernel
theorem dX6_remember_70 : decode cX6_remember 70 = .ok (.getfield 162, 3) := by decide +kernel
theorem dX6_remember_73 : decode cX6_remember 73 = .ok (.iconst 1, 1) := by decide +kernel
theorem dX6_remember_74 : decode cX6_remember 74 = .ok (.iadd, 1) := by decide +kernel
theorem dX6_remember_75 : decode cX6_remember 75 = .ok (.putfield 162, 3) := by decide +kernel
theorem dX6_remember_78 : decode cX6_remember 78 = .ok (.return_, 1) := by decide +kernel
theorem dX6_day_0 : decode cX6_day 0 = .ok (.aload_n 0, 1) := by decide +kernel
theorem dX6_day_1 : decode cX6_day 1 = .ok (.getfield 158, 3) := by decide +kernel
theorem dX6_day_4 : decode cX6_day 4 = .ok (.ifCond .ne 6, 3) := by decide +kernel
theorem dX6_day_7 : decode cX6_day 7 = .ok (.ldc 181, 2) := by decide +kernel
theorem dX6_day_9 : decode cX6_day 9 = .ok (.ireturn, 1) := by decide +kernel
theorem dX6_day_10 : decode cX6_day 10 = .ok (.iload_n 1, 1) := by decide +kernel
theorem dX6_day_11 : decode cX6_day 11 = .ok (.i2l, 1) := by decide +kernel
theorem dX6_day_12 : decode cX6_day 12 = .ok (.lconst 0, 1) := by decide +kernel
theorem dX6_day_13 : decode cX6_day 13 = .ok (.ldc2_w 182, 3) := by decide +kernel
theorem dX6_day_16 : decode cX6_day 16 = .ok (.invokestatic 54, 3) := by decide +kernel
theorem dX6_day_19 : decode cX6_day 19 = .ok (.ifCond .ne 6, 3) := by decide +kernel
theorem dX6_day_22 : decode cX6_day 22 = .ok (.ldc 64, 2) := by decide +kernel
theorem dX6_day_24 : decode cX6_day 24 = .ok (.ireturn, 1) := by decide +kernel
theorem dX6_day_25 : decode cX6_day 25 = .ok (.aload_n 0, 1) := by decide +kernel
theorem dX6_day_26 : decode cX6_day 26 = .ok (.getfield 22, 3) := by decide +kernel
theorem dX6_day_29 : decode cX6_day 29 = .ok (.iconst 3, 1) := by decide +kernel
theorem dX6_day_30 : decode cX6_day 30 = .ok (.iaload, 1) := by decide +kernel
theorem dX6_day_31 : decode cX6_day 31 = .ok (.sipush 9999, 3) := by decide +kernel
theorem dX6_day_34 : decode cX6_day 34 = .ok (.if_icmp .ne 6, 3) := by decide +kernel
theorem dX6_day_37 : decode cX6_day 37 = .ok (.ldc 77, 2) := by decide +kernel
theorem dX6_day_39 : decode cX6_day 39 = .ok (.ireturn, 1) := by decide +kernel
theorem dX6_day_40 : decode cX6_day 40 = .ok (.aload_n 0, 1) := by decide +kernel
theorem dX6_day_41 : decode cX6_day 41 = .ok (.invokevirtual 184, 3) := by decide +kernel
theorem dX6_day_44 : decode cX6_day 44 = .ok (.aload_n 0, 1) := by decide +kernel
theorem dX6_day_45 : decode cX6_day 45 = .ok (.getfield 22, 3) := by decide +kernel
theorem dX6_day_48 : decode cX6_day 48 = .ok (.iload_n 1, 1) := by decide +kernel
theorem dX6_day_49 : decode cX6_day 49 = .ok (.invokestatic 187, 3) := by decide +kernel
theorem dX6_day_52 : decode cX6_day 52 = .ok (.ireturn, 1) := by decide +kernel
theorem dX6_weather_0 : decode cX6_weather 0 = .ok (.aload_n 0, 1) := by decide +kernel
theorem dX6_weather_1 : decode cX6_weather 1 = .ok (.getfield 158, 3) := by decide +kernel
theorem dX6_weather_4 : decode cX6_weather 4 = .ok (.ifCond .ne 6, 3) := by decide +kernel
theorem dX6_weather_7 : decode cX6_weather 7 = .ok (.ldc 181, 2) := by decide +kernel
theorem dX6_weather_9 : decode cX6_weather 9 = .ok (.ireturn, 1) := by decide +kernel
theorem dX6_weather_10 : decode cX6_weather 10 = .ok (.iload_n 1, 1) := by decide +kernel
theorem dX6_weather_11 : decode cX6_weather 11 = .ok (.i2l, 1) := by decide +kernel
theorem dX6_weather_12 : decode cX6_weather 12 = .ok (.lconst 1, 1) := by decide +kernel
theorem dX6_weather_13 : decode cX6_weather 13 = .ok (.ldc2_w 190, 3) := by decide +kernel
theorem dX6_weather_16 : decode cX6_weather 16 = .ok (.invokestatic 54, 3) := by decide +kernel
theorem dX6_weather_19 : decode cX6_weather 19 = .ok (.ifCond .ne 6, 3) := by decide +kernel
theorem dX6_weather_22 : decode cX6_weather 22 = .ok (.ldc 64, 2) := by decide +kernel
theorem dX6_weather_24 : decode cX6_weather 24 = .ok (.ireturn, 1) := by decide +kernel
theorem dX6_weather_25 : decode cX6_weather 25 = .ok (.aload_n 0, 1) := by decide +kernel
theorem dX6_weather_26 : decode cX6_weather 26 = .ok (.getfield 22, 3) := by decide +kernel
theorem dX6_weather_29 : decode cX6_weather 29 = .ok (.iconst 3, 1) := by decide +kernel
theorem dX6_weather_30 : decode cX6_weather 30 = .ok (.iaload, 1) := by decide +kernel
theorem dX6_weather_31 : decode cX6_weather 31 = .ok (.sipush 9999, 3) := by decide +kernel
theorem dX6_weather_34 : decode cX6_weather 34 = .ok (.if_icmp .ne 6, 3) := by decide +kernel
theorem dX6_weather_37 : decode cX6_weather 37 = .ok (.ldc 77, 2) := by decide +kernel
theorem dX6_weather_39 : decode cX6_weather 39 = .ok (.ireturn, 1) := by decide +kernel
theorem dX6_weather_40 : decode cX6_weather 40 = .ok (.aload_n 0, 1) := by decide +kernel
theorem dX6_weather_41 : decode cX6_weather 41 = .ok (.invokevirtual 184, 3) := by decide +kernel
theorem dX6_weather_44 : decode cX6_weather 44 = .ok (.iload_n 1, 1) := by decide +kernel
theorem dX6_weather_45 : decode cX6_weather 45 = .ok (.i2l, 1) := by decide +kernel
theorem dX6_weather_46 : decode cX6_weather 46 = .ok (.ldc2_w 192, 3) := by decide +kernel
theorem dX6_weather_49 : decode cX6_weather 49 = .ok (.lmul, 1) := by decide +kernel
theorem dX6_weather_50 : decode cX6_weather 50 = .ok (.ldc2_w 194, 3) := by decide +kernel
theorem dX6_weather_53 : decode cX6_weather 53 = .ok (.lrem, 1) := by decide +kernel
theorem dX6_weather_54 : decode cX6_weather 54 = .ok (.ldc2_w 196, 3) := by decide +kernel
theorem dX6_weather_57 : decode cX6_weather 57 = .ok (.lrem, 1) := by decide +kernel
theorem dX6_weather_58 : decode cX6_weather 58 = .ok (.l2i, 1) := by decide +kernel
theorem dX6_weather_59 : decode cX6_weather 59 = .ok (.istore_n 2, 1) := by decide +kernel
theorem dX6_weather_60 : decode cX6_weather 60 = .ok (.aload_n 0, 1) := by decide +kernel
theorem dX6_weather_61 : decode cX6_weather 61 = .ok (.getfield 22, 3) := by decide +kernel
theorem dX6_weather_64 : decode cX6_weather 64 = .ok (.iload_n 2, 1) := by decide +kernel
theorem dX6_weather_65 : decode cX6_weather 65 = .ok (.invokestatic 187, 3) := by decide +kernel
theorem dX6_weather_68 : decode cX6_weather 68 = .ok (.istore_n 3, 1) := by decide +kernel
theorem dX6_weather_69 : decode cX6_weather 69 = .ok (.iload_n 2, 1) := by decide +kernel
theorem dX6_weather_70 : decode cX6_weather 70 = .ok (.ireturn, 1) := by decide +kernel
theorem dX6_guard_0 : decode cX6_guard 0 = .ok (.aload_n 0, 1) := by decide +kernel
theorem dX6_guard_1 : decode cX6_guard 1 = .ok (.iload_n 1, 1) := by decide +kernel
theorem dX6_guard_2 : decode cX6_guard 2 = .ok (.invokevirtual 198, 3) := by decide +kernel
theorem dX6_guard_5 : decode cX6_guard 5 = .ok (.ifCond .eq 13, 3) := by decide +kernel
theorem dX6_guard_8 : decode cX6_guard 8 = .ok (.iload_n 2, 1) := by decide +kernel
theorem dX6_guard_9 : decode cX6_guard 9 = .ok (.i2l, 1) := by decide +kernel
theorem dX6_guard_10 : decode cX6_guard 10 = .ok (.lconst 0, 1) := by decide +kernel
theorem dX6_guard_11 : decode cX6_guard 11 = .ok (.lconst 1, 1) := by decide +kernel
theorem dX6_guard_12 : decode cX6_guard 12 = .ok (.invokestatic 54, 3) := by decide +kernel
theorem dX6_guard_15 : decode cX6_guard 15 = .ok (.ifCond .ne 6, 3) := by decide +kernel
theorem dX6_guard_18 : decode cX6_guard 18 = .ok (.ldc 64, 2) := by decide +kernel
theorem dX6_guard_20 : decode cX6_guard 20 = .ok (.ireturn, 1) := by decide +kernel
theorem dX6_guard_21 : decode cX6_guard 21 = .ok (.aload_n 0, 1) := by decide +kernel
theorem dX6_guard_22 : decode cX6_guard 22 = .ok (.invokevirtual 184, 3) := by decide +kernel
theorem dX6_guard_25 : decode cX6_guard 25 = .ok (.aload_n 0, 1) := by decide +kernel
theorem dX6_guard_26 : decode cX6_guard 26 = .ok (.getfield 22, 3) := by decide +kernel
theorem dX6_guard_29 : decode cX6_guard 29 = .ok (.iconst 4, 1) := by decide +kernel
theorem dX6_guard_30 : decode cX6_guard 30 = .ok (.iaload, 1) := by decide +kernel
theorem dX6_guard_31 : decode cX6_guard 31 = .ok (.iload_n 1, 1) := by decide +kernel
theorem dX6_guard_32 : decode cX6_guard 32 = .ok (.ishr, 1) := by decide +kernel
theorem dX6_guard_33 : decode cX6_guard 33 = .ok (.iconst 1, 1) := by decide +kernel
theorem dX6_guard_34 : decode cX6_guard 34 = .ok (.iand, 1) := by decide +kernel
theorem dX6_guard_35 : decode cX6_guard 35 = .ok (.istore_n 3, 1) := by decide +kernel
theorem dX6_guard_36 : decode cX6_guard 36 = .ok (.aload_n 0, 1) := by decide +kernel
theorem dX6_guard_37 : decode cX6_guard 37 = .ok (.getfield 22, 3) := by decide +kernel
theorem dX6_guard_40 : decode cX6_guard 40 = .ok (.iconst 4, 1) := by decide +kernel
theorem dX6_guard_41 : decode cX6_guard 41 = .ok (.aload_n 0, 1) := by decide +kernel
theorem dX6_guard_42 : decode cX6_guard 42 = .ok (.getfield 22, 3) := by decide +kernel
theorem dX6_guard_45 : decode cX6_guard 45 = .ok (.iconst 4, 1) := by decide +kernel
theorem dX6_guard_46 : decode cX6_guard 46 = .ok (.iaload, 1) := by decide +kernel
theorem dX6_guard_47 : decode cX6_guard 47 = .ok (.iconst 1, 1) := by decide +kernel
theorem dX6_guard_48 : decode cX6_guard 48 = .ok (.iload_n 1, 1) := by decide +kernel
theorem dX6_guard_49 : decode cX6_guard 49 = .ok (.ishl, 1) := by decide +kernel
theorem dX6_guard_50 : decode cX6_guard 50 = .ok (.iconst (-1), 1) := by decide +kernel
theorem dX6_guard_51 : decode cX6_guard 51 = .ok (.ixor, 1) := by decide +kernel
theorem dX6_guard_52 : decode cX6_guard 52 = .ok (.iand, 1) := by decide +kernel
theorem dX6_guard_53 : decode cX6_guard 53 = .ok (.iload_n 2, 1) := by decide +kernel
theorem dX6_guard_54 : decode cX6_guard 54 = .ok (.iload_n 1, 1) := by decide +kernel
theorem dX6_guard_55 : decode cX6_guard 55 = .ok (.ishl, 1) := by decide +kernel
theorem dX6_guard_56 : decode cX6_guard 56 = .ok (.ior, 1) := by decide +kernel
theorem dX6_guard_57 : decode cX6_guard 57 = .ok (.iastore, 1) := by decide +kernel
theorem dX6_guard_58 : decode cX6_guard 58 = .ok (.iload_n 3, 1) := by decide +kernel
theorem dX6_guard_59 : decode cX6_guard 59 = .ok (.ireturn, 1) := by decide +kernel
theorem dX6_undo_0 : decode cX6_undo 0 = .ok (.aload_n 0, 1) := by decide +kernel
theorem dX6_undo_1 : decode cX6_undo 1 = .ok (.getfield 162, 3) := by decide +kernel
theorem dX6_undo_4 : decode cX6_undo 4 = .ok (.ifCond .ne 6, 3) := by decide +kernel
theorem dX6_undo_7 : decode cX6_undo 7 = .ok (.ldc 181, 2) := by decide +kernel
theorem dX6_undo_9 : decode cX6_undo 9 = .ok (.ireturn, 1) := by decide +kernel
theorem dX6_undo_10 : decode cX6_undo 10 = .ok (.aload_n 0, 1) := by decide +kernel
theorem dX6_undo_11 : decode cX6_undo 11 = .ok (.dup, 1) := by decide +kernel
theorem dX6_undo_12 : decode cX6_undo 12 = .ok (.getfield 162, 3) := by decide +kernel
theorem dX6_undo_15 : decode cX6_undo 15 = .ok (.iconst 1, 1) := by decide +kernel
theorem dX6_undo_16 : decode cX6_undo 16 = .ok (.isub, 1) := by decide +kernel
theorem dX6_undo_17 : decode cX6_undo 17 = .ok (.putfield 162, 3) := by decide +kernel
theorem dX6_undo_20 : decode cX6_undo 20 = .ok (.aload_n 0, 1) := by decide +kernel
theorem dX6_undo_21 : decode cX6_undo 21 = .ok (.getfield 25, 3) := by decide +kernel
theorem dX6_undo_24 : decode cX6_undo 24 = .ok (.bipush 40, 2) := by decide +kernel
theorem dX6_undo_26 : decode cX6_undo 26 = .ok (.aload_n 0, 1) := by decide +kernel
theorem dX6_undo_27 : decode cX6_undo 27 = .ok (.getfield 162, 3) := by decide +kernel
theorem dX6_undo_30 : decode cX6_undo 30 = .ok (.imul, 1) := by decide +kernel
theorem dX6_undo_31 : decode cX6_undo 31 = .ok (.aload_n 0, 1) := by decide +kernel
theorem dX6_undo_32 : decode cX6_undo 32 = .ok (.getfield 22, 3) := by decide +kernel
theorem dX6_undo_35 : decode cX6_undo 35 = .ok (.iconst 0, 1) := by decide +kernel
theorem dX6_undo_36 : decode cX6_undo 36 = .ok (.invokestatic 165, 3) := by decide +kernel
theorem dX6_undo_39 : decode cX6_undo 39 = .ok (.aload_n 0, 1) := by decide +kernel
theorem dX6_undo_40 : decode cX6_undo 40 = .ok (.getfield 162, 3) := by decide +kernel
theorem dX6_undo_43 : decode cX6_undo 43 = .ok (.ireturn, 1) := by decide +kernel
theorem dX6_village__0 : decode cX6_village_ 0 = .ok (.aload_n 0, 1) := by decide +kernel
theorem dX6_village__1 : decode cX6_village_ 1 = .ok (.iload_n 1, 1) := by decide +kernel
theorem dX6_village__2 : decode cX6_village_ 2 = .ok (.invokevirtual 198, 3) := by decide +kernel
theorem dX6_village__5 : decode cX6_village_ 5 = .ok (.ifCond .eq 15, 3) := by decide +kernel
theorem dX6_village__8 : decode cX6_village_ 8 = .ok (.iload_n 2, 1) := by decide +kernel
theorem dX6_village__9 : decode cX6_village_ 9 = .ok (.i2l, 1) := by decide +kernel
theorem dX6_village__10 : decode cX6_village_ 10 = .ok (.lconst 0, 1) := by decide +kernel
theorem dX6_village__11 : decode cX6_village_ 11 = .ok (.ldc2_w 201, 3) := by decide +kernel
theorem dX6_village__14 : decode cX6_village_ 14 = .ok (.invokestatic 54, 3) := by decide +kernel
theorem dX6_village__17 : decode cX6_village_ 17 = .ok (.ifCond .ne 6, 3) := by decide +kernel
theorem dX6_village__20 : decode cX6_village_ 20 = .ok (.ldc 64, 2) := by decide +kernel
theorem dX6_village__22 : decode cX6_village_ 22 = .ok (.ireturn, 1) := by decide +kernel
theorem dX6_village__23 : decode cX6_village_ 23 = .ok (.iload_n 2, 1) := by decide +kernel
theorem dX6_village__24 : decode cX6_village_ 24 = .ok (.tableswitch 87 0 4 #[36, 46, 56, 66, 77], 36) := by decide +kernel
theorem dX6_village__60 : decode cX6_village_ 60 = .ok (.aload_n 0, 1) := by decide +kernel
theorem dX6_village__61 : decode cX6_village_ 61 = .ok (.getfield 22, 3) := by decide +kernel
theorem dX6_village__64 : decode cX6_village_ 64 = .ok (.bipush 26, 2) := by decide +kernel
