-- decode rows printed of the program (NAMES.whole)
theorem dX6_village__66 : decode cX6_village_ 66 = .ok (.iload_n 1, 1) := by decide +kernel
theorem dX6_village__67 : decode cX6_village_ 67 = .ok (.iadd, 1) := by decide +kernel
theorem dX6_village__68 : decode cX6_village_ 68 = .ok (.iaload, 1) := by decide +kernel
theorem dX6_village__69 : decode cX6_village_ 69 = .ok (.ireturn, 1) := by decide +kernel
theorem dX6_village__70 : decode cX6_village_ 70 = .ok (.aload_n 0, 1) := by decide +kernel
theorem dX6_village__71 : decode cX6_village_ 71 = .ok (.getfield 22, 3) := by decide +kernel
theorem dX6_village__74 : decode cX6_village_ 74 = .ok (.bipush 12, 2) := by decide +kernel
theorem dX6_village__76 : decode cX6_village_ 76 = .ok (.iload_n 1, 1) := by decide +kernel
theorem dX6_village__77 : decode cX6_village_ 77 = .ok (.iadd, 1) := by decide +kernel
theorem dX6_village__78 : decode cX6_village_ 78 = .ok (.iaload, 1) := by decide +kernel
theorem dX6_village__79 : decode cX6_village_ 79 = .ok (.ireturn, 1) := by decide +kernel
theorem dX6_village__80 : decode cX6_village_ 80 = .ok (.aload_n 0, 1) := by decide +kernel
theorem dX6_village__81 : decode cX6_village_ 81 = .ok (.getfield 22, 3) := by decide +kernel
theorem dX6_village__84 : decode cX6_village_ 84 = .ok (.bipush 19, 2) := by decide +kernel
theorem dX6_village__86 : decode cX6_village_ 86 = .ok (.iload_n 1, 1) := by decide +kernel
theorem dX6_village__87 : decode cX6_village_ 87 = .ok (.iadd, 1) := by decide +kernel
theorem dX6_village__88 : decode cX6_village_ 88 = .ok (.iaload, 1) := by decide +kernel
theorem dX6_village__89 : decode cX6_village_ 89 = .ok (.ireturn, 1) := by decide +kernel
theorem dX6_village__90 : decode cX6_village_ 90 = .ok (.aload_n 0, 1) := by decide +kernel
theorem dX6_village__91 : decode cX6_village_ 91 = .ok (.getfield 22, 3) := by decide +kernel
theorem dX6_village__94 : decode cX6_village_ 94 = .ok (.iconst 4, 1) := by decide +kernel
theorem dX6_village__95 : decode cX6_village_ 95 = .ok (.iaload, 1) := by decide +kernel
theorem dX6_village__96 : decode cX6_village_ 96 = .ok (.iload_n 1, 1) := by decide +kernel
theorem dX6_village__97 : decode cX6_village_ 97 = .ok (.ishr, 1) := by decide +kernel
theorem dX6_village__98 : decode cX6_village_ 98 = .ok (.iconst 1, 1) := by decide +kernel
theorem dX6_village__99 : decode cX6_village_ 99 = .ok (.iand, 1) := by decide +kernel
theorem dX6_village__100 : decode cX6_village_ 100 = .ok (.ireturn, 1) := by decide +kernel
theorem dX6_village__101 : decode cX6_village_ 101 = .ok (.aload_n 0, 1) := by decide +kernel
theorem dX6_village__102 : decode cX6_village_ 102 = .ok (.getfield 22, 3) := by decide +kernel
theorem dX6_village__105 : decode cX6_village_ 105 = .ok (.bipush 33, 2) := by decide +kernel
theorem dX6_village__107 : decode cX6_village_ 107 = .ok (.iload_n 1, 1) := by decide +kernel
theorem dX6_village__108 : decode cX6_village_ 108 = .ok (.iadd, 1) := by decide +kernel
theorem dX6_village__109 : decode cX6_village_ 109 = .ok (.iaload, 1) := by decide +kernel
theorem dX6_village__110 : decode cX6_village_ 110 = .ok (.ireturn, 1) := by decide +kernel
theorem dX6_village__111 : decode cX6_village_ 111 = .ok (.aload_n 0, 1) := by decide +kernel
theorem dX6_village__112 : decode cX6_village_ 112 = .ok (.getfield 22, 3) := by decide +kernel
theorem dX6_village__115 : decode cX6_village_ 115 = .ok (.iload_n 1, 1) := by decide +kernel
theorem dX6_village__116 : decode cX6_village_ 116 = .ok (.invokestatic 173, 3) := by decide +kernel
theorem dX6_village__119 : decode cX6_village_ 119 = .ok (.ireturn, 1) := by decide +kernel
theorem dX6_tries_0 : decode cX6_tries 0 = .ok (.aload_n 0, 1) := by decide +kernel
theorem dX6_tries_1 : decode cX6_tries 1 = .ok (.getfield 22, 3) := by decide +kernel
theorem dX6_tries_4 : decode cX6_tries 4 = .ok (.iconst 0, 1) := by decide +kernel
theorem dX6_tries_5 : decode cX6_tries 5 = .ok (.aload_n 0, 1) := by decide +kernel
theorem dX6_tries_6 : decode cX6_tries 6 = .ok (.getfield 41, 3) := by decide +kernel
theorem dX6_tries_9 : decode cX6_tries 9 = .ok (.iconst 0, 1) := by decide +kernel
theorem dX6_tries_10 : decode cX6_tries 10 = .ok (.invokestatic 165, 3) := by decide +kernel
theorem dX6_tries_13 : decode cX6_tries 13 = .ok (.return_, 1) := by decide +kernel
theorem dX6_ahead_0 : decode cX6_ahead 0 = .ok (.aload_n 0, 1) := by decide +kernel
theorem dX6_ahead_1 : decode cX6_ahead 1 = .ok (.iload_n 1, 1) := by decide +kernel
theorem dX6_ahead_2 : decode cX6_ahead 2 = .ok (.invokevirtual 198, 3) := by decide +kernel
theorem dX6_ahead_5 : decode cX6_ahead 5 = .ok (.ifCond .eq 25, 3) := by decide +kernel
theorem dX6_ahead_8 : decode cX6_ahead 8 = .ok (.iload_n 2, 1) := by decide +kernel
theorem dX6_ahead_9 : decode cX6_ahead 9 = .ok (.i2l, 1) := by decide +kernel
theorem dX6_ahead_10 : decode cX6_ahead 10 = .ok (.lconst 0, 1) := by decide +kernel
theorem dX6_ahead_11 : decode cX6_ahead 11 = .ok (.ldc2_w 203, 3) := by decide +kernel
theorem dX6_ahead_14 : decode cX6_ahead 14 = .ok (.invokestatic 54, 3) := by decide +kernel
theorem dX6_ahead_17 : decode cX6_ahead 17 = .ok (.ifCond .eq 13, 3) := by decide +kernel
theorem dX6_ahead_20 : decode cX6_ahead 20 = .ok (.iload_n 3, 1) := by decide +kernel
theorem dX6_ahead_21 : decode cX6_ahead 21 = .ok (.i2l, 1) := by decide +kernel
theorem dX6_ahead_22 : decode cX6_ahead 22 = .ok (.lconst 0, 1) := by decide +kernel
theorem dX6_ahead_23 : decode cX6_ahead 23 = .ok (.lconst 1, 1) := by decide +kernel
theorem dX6_ahead_24 : decode cX6_ahead 24 = .ok (.invokestatic 54, 3) := by decide +kernel
theorem dX6_ahead_27 : decode cX6_ahead 27 = .ok (.ifCond .ne 6, 3) := by decide +kernel
theorem dX6_ahead_30 : decode cX6_ahead 30 = .ok (.ldc 64, 2) := by decide +kernel
theorem dX6_ahead_32 : decode cX6_ahead 32 = .ok (.ireturn, 1) := by decide +kernel
theorem dX6_ahead_33 : decode cX6_ahead 33 = .ok (.aload_n 0, 1) := by decide +kernel
theorem dX6_ahead_34 : decode cX6_ahead 34 = .ok (.invokevirtual 205, 3) := by decide +kernel
theorem dX6_ahead_37 : decode cX6_ahead 37 = .ok (.aload_n 0, 1) := by decide +kernel
theorem dX6_ahead_38 : decode cX6_ahead 38 = .ok (.getfield 41, 3) := by decide +kernel
theorem dX6_ahead_41 : decode cX6_ahead 41 = .ok (.bipush 33, 2) := by decide +kernel
theorem dX6_ahead_43 : decode cX6_ahead 43 = .ok (.iload_n 1, 1) := by decide +kernel
theorem dX6_ahead_44 : decode cX6_ahead 44 = .ok (.iadd, 1) := by decide +kernel
theorem dX6_ahead_45 : decode cX6_ahead 45 = .ok (.iconst 0, 1) := by decide +kernel
theorem dX6_ahead_46 : decode cX6_ahead 46 = .ok (.iastore, 1) := by decide +kernel
theorem dX6_ahead_47 : decode cX6_ahead 47 = .ok (.iconst 0, 1) := by decide +kernel
theorem dX6_ahead_48 : decode cX6_ahead 48 = .ok (.istore 4, 2) := by decide +kernel
theorem dX6_ahead_50 : decode cX6_ahead 50 = .ok (.iload 4, 2) := by decide +kernel
theorem dX6_ahead_52 : decode cX6_ahead 52 = .ok (.iload_n 2, 1) := by decide +kernel
theorem dX6_ahead_53 : decode cX6_ahead 53 = .ok (.if_icmp .ge 19, 3) := by decide +kernel
theorem dX6_ahead_56 : decode cX6_ahead 56 = .ok (.aload_n 0, 1) := by decide +kernel
theorem dX6_ahead_57 : decode cX6_ahead 57 = .ok (.getfield 41, 3) := by decide +kernel
theorem dX6_ahead_60 : decode cX6_ahead 60 = .ok (.iconst 0, 1) := by decide +kernel
theorem dX6_ahead_61 : decode cX6_ahead 61 = .ok (.invokestatic 187, 3) := by decide +kernel
theorem dX6_ahead_64 : decode cX6_ahead 64 = .ok (.istore 5, 2) := by decide +kernel
theorem dX6_ahead_66 : decode cX6_ahead 66 = .ok (.iinc 4 1, 3) := by decide +kernel
theorem dX6_ahead_69 : decode cX6_ahead 69 = .ok (.goto (-19), 3) := by decide +kernel
theorem dX6_ahead_72 : decode cX6_ahead 72 = .ok (.aload_n 0, 1) := by decide +kernel
theorem dX6_ahead_73 : decode cX6_ahead 73 = .ok (.getfield 41, 3) := by decide +kernel
theorem dX6_ahead_76 : decode cX6_ahead 76 = .ok (.iload_n 3, 1) := by decide +kernel
theorem dX6_ahead_77 : decode cX6_ahead 77 = .ok (.ifCond .ne 8, 3) := by decide +kernel
theorem dX6_ahead_80 : decode cX6_ahead 80 = .ok (.bipush 26, 2) := by decide +kernel
theorem dX6_ahead_82 : decode cX6_ahead 82 = .ok (.goto 5, 3) := by decide +kernel
theorem dX6_ahead_85 : decode cX6_ahead 85 = .ok (.bipush 33, 2) := by decide +kernel
theorem dX6_ahead_87 : decode cX6_ahead 87 = .ok (.iload_n 1, 1) := by decide +kernel
theorem dX6_ahead_88 : decode cX6_ahead 88 = .ok (.iadd, 1) := by decide +kernel
theorem dX6_ahead_89 : decode cX6_ahead 89 = .ok (.iaload, 1) := by decide +kernel
theorem dX6_ahead_90 : decode cX6_ahead 90 = .ok (.ireturn, 1) := by decide +kernel
theorem dX6_lacksIn_0 : decode cX6_lacksIn 0 = .ok (.iconst 0, 1) := by decide +kernel
theorem dX6_lacksIn_1 : decode cX6_lacksIn 1 = .ok (.istore_n 2, 1) := by decide +kernel
theorem dX6_lacksIn_2 : decode cX6_lacksIn 2 = .ok (.iload_n 2, 1) := by decide +kernel
theorem dX6_lacksIn_3 : decode cX6_lacksIn 3 = .ok (.iload_n 1, 1) := by decide +kernel
theorem dX6_lacksIn_4 : decode cX6_lacksIn 4 = .ok (.if_icmp .ge 22, 3) := by decide +kernel
theorem dX6_lacksIn_7 : decode cX6_lacksIn 7 = .ok (.aload_n 0, 1) := by decide +kernel
theorem dX6_lacksIn_8 : decode cX6_lacksIn 8 = .ok (.getfield 41, 3) := by decide +kernel
theorem dX6_lacksIn_11 : decode cX6_lacksIn 11 = .ok (.iconst 0, 1) := by decide +kernel
theorem dX6_lacksIn_12 : decode cX6_lacksIn 12 = .ok (.invokestatic 187, 3) := by decide +kernel
theorem dX6_lacksIn_15 : decode cX6_lacksIn 15 = .ok (.ifCond .eq 5, 3) := by decide +kernel
theorem dX6_lacksIn_18 : decode cX6_lacksIn 18 = .ok (.iload_n 2, 1) := by decide +kernel
theorem dX6_lacksIn_19 : decode cX6_lacksIn 19 = .ok (.ireturn, 1) := by decide +kernel
theorem dX6_lacksIn_20 : decode cX6_lacksIn 20 = .ok (.iinc 2 1, 3) := by decide +kernel
theorem dX6_lacksIn_23 : decode cX6_lacksIn 23 = .ok (.goto (-21), 3) := by decide +kernel
theorem dX6_lacksIn_26 : decode cX6_lacksIn 26 = .ok (.ldc 208, 2) := by decide +kernel
theorem dX6_lacksIn_28 : decode cX6_lacksIn 28 = .ok (.ireturn, 1) := by decide +kernel
theorem dX6_first_0 : decode cX6_first 0 = .ok (.aload_n 0, 1) := by decide +kernel
theorem dX6_first_1 : decode cX6_first 1 = .ok (.getfield 158, 3) := by decide +kernel
theorem dX6_first_4 : decode cX6_first 4 = .ok (.ifCond .ne 6, 3) := by decide +kernel
theorem dX6_first_7 : decode cX6_first 7 = .ok (.ldc 181, 2) := by decide +kernel
theorem dX6_first_9 : decode cX6_first 9 = .ok (.ireturn, 1) := by decide +kernel
theorem dX6_first_10 : decode cX6_first 10 = .ok (.iload_n 1, 1) := by decide +kernel
theorem dX6_first_11 : decode cX6_first 11 = .ok (.i2l, 1) := by decide +kernel
theorem dX6_first_12 : decode cX6_first 12 = .ok (.lconst 1, 1) := by decide +kernel
theorem dX6_first_13 : decode cX6_first 13 = .ok (.ldc2_w 203, 3) := by decide +kernel
theorem dX6_first_16 : decode cX6_first 16 = .ok (.invokestatic 54, 3) := by decide +kernel
theorem dX6_first_19 : decode cX6_first 19 = .ok (.ifCond .ne 6, 3) := by decide +kernel
theorem dX6_first_22 : decode cX6_first 22 = .ok (.ldc 64, 2) := by decide +kernel
theorem dX6_first_24 : decode cX6_first 24 = .ok (.ireturn, 1) := by decide +kernel
theorem dX6_first_25 : decode cX6_first 25 = .ok (.aload_n 0, 1) := by decide +kernel
theorem dX6_first_26 : decode cX6_first 26 = .ok (.invokevirtual 205, 3) := by decide +kernel
theorem dX6_first_29 : decode cX6_first 29 = .ok (.aload_n 0, 1) := by decide +kernel
theorem dX6_first_30 : decode cX6_first 30 = .ok (.iload_n 1, 1) := by decide +kernel
theorem dX6_first_31 : decode cX6_first 31 = .ok (.invokevirtual 209, 3) := by decide +kernel
theorem dX6_first_34 : decode cX6_first 34 = .ok (.ireturn, 1) := by decide +kernel
theorem dX6_isAsNow_0 : decode cX6_isAsNow 0 = .ok (.iconst 1, 1) := by decide +kernel
theorem dX6_isAsNow_1 : decode cX6_isAsNow 1 = .ok (.istore_n 1, 1) := by decide +kernel
theorem dX6_isAsNow_2 : decode cX6_isAsNow 2 = .ok (.iconst 0, 1) := by decide +kernel
theorem dX6_isAsNow_3 : decode cX6_isAsNow 3 = .ok (.istore_n 2, 1) := by decide +kernel
theorem dX6_isAsNow_4 : decode cX6_isAsNow 4 = .ok (.iload_n 2, 1) := by decide +kernel
theorem dX6_isAsNow_5 : decode cX6_isAsNow 5 = .ok (.aload_n 0, 1) := by decide +kernel
theorem dX6_isAsNow_6 : decode cX6_isAsNow 6 = .ok (.getfield 22, 3) := by decide +kernel
theorem dX6_isAsNow_9 : decode cX6_isAsNow 9 = .ok (.iconst 2, 1) := by decide +kernel
theorem dX6_isAsNow_10 : decode cX6_isAsNow 10 = .ok (.iaload, 1) := by decide +kernel
theorem dX6_isAsNow_11 : decode cX6_isAsNow 11 = .ok (.if_icmp .ge 37, 3) := by decide +kernel
theorem dX6_isAsNow_14 : decode cX6_isAsNow 14 = .ok (.iload_n 1, 1) := by decide +kernel
theorem dX6_isAsNow_15 : decode cX6_isAsNow 15 = .ok (.ifCond .eq 25, 3) := by decide +kernel
theorem dX6_isAsNow_18 : decode cX6_isAsNow 18 = .ok (.aload_n 0, 1) := by decide +kernel
theorem dX6_isAsNow_19 : decode cX6_isAsNow 19 = .ok (.getfield 41, 3) := by decide +kernel
theorem dX6_isAsNow_22 : decode cX6_isAsNow 22 = .ok (.bipush 26, 2) := by decide +kernel
theorem dX6_isAsNow_24 : decode cX6_isAsNow 24 = .ok (.iload_n 2, 1) := by decide +kernel
theorem dX6_isAsNow_25 : decode cX6_isAsNow 25 = .ok (.iadd, 1) := by decide +kernel
theorem dX6_isAsNow_26 : decode cX6_isAsNow 26 = .ok (.iaload, 1) := by decide +kernel
theorem dX6_isAsNow_27 : decode cX6_isAsNow 27 = .ok (.aload_n 0, 1) := by decide +kernel
theorem dX6_isAsNow_28 : decode cX6_isAsNow 28 = .ok (.getfield 44, 3) := by decide +kernel
theorem dX6_isAsNow_31 : decode cX6_isAsNow 31 = .ok (.iload_n 2, 1) := by decide +kernel
theorem dX6_isAsNow_32 : decode cX6_isAsNow 32 = .ok (.iaload, 1) := by decide +kernel
theorem dX6_isAsNow_33 : decode cX6_isAsNow 33 = .ok (.if_icmp .ne 7, 3) := by decide +kernel
theorem dX6_isAsNow_36 : decode cX6_isAsNow 36 = .ok (.iconst 1, 1) := by decide +kernel
theorem dX6_isAsNow_37 : decode cX6_isAsNow 37 = .ok (.goto 4, 3) := by decide +kernel
theorem dX6_isAsNow_40 : decode cX6_isAsNow 40 = .ok (.iconst 0, 1) := by decide +kernel
theorem dX6_isAsNow_41 : decode cX6_isAsNow 41 = .ok (.istore_n 1, 1) := by decide +kernel
theorem dX6_isAsNow_42 : decode cX6_isAsNow 42 = .ok (.iinc 2 1, 3) := by decide +kernel
theorem dX6_isAsNow_45 : decode cX6_isAsNow 45 = .ok (.goto (-41), 3) := by decide +kernel
theorem dX6_isAsNow_48 : decode cX6_isAsNow 48 = .ok (.iload_n 1, 1) := by decide +kernel
theorem dX6_isAsNow_49 : decode cX6_isAsNow 49 = .ok (.ireturn, 1) := by decide +kernel
theorem dX6_notes_0 : decode cX6_notes 0 = .ok (.iconst 0, 1) := by decide +kernel
theorem dX6_notes_1 : decode cX6_notes 1 = .ok (.istore_n 1, 1) := by decide +kernel
theorem dX6_notes_2 : decode cX6_notes 2 = .ok (.iload_n 1, 1) := by decide +kernel
theorem dX6_notes_3 : decode cX6_notes 3 = .ok (.aload_n 0, 1) := by decide +kernel
theorem dX6_notes_4 : decode cX6_notes 4 = .ok (.getfield 22, 3) := by decide +kernel
theorem dX6_notes_7 : decode cX6_notes 7 = .ok (.iconst 2, 1) := by decide +kernel
theorem dX6_notes_8 : decode cX6_notes 8 = .ok (.iaload, 1) := by decide +kernel
theorem dX6_notes_9 : decode cX6_notes 9 = .ok (.if_icmp .ge 24, 3) := by decide +kernel
theorem dX6_notes_12 : decode cX6_notes 12 = .ok (.aload_n 0, 1) := by decide +kernel
theorem dX6_notes_13 : decode cX6_notes 13 = .ok (.getfield 44, 3) := by decide +kernel
theorem dX6_notes_16 : decode cX6_notes 16 = .ok (.iload_n 1, 1) := by decide +kernel
theorem dX6_notes_17 : decode cX6_notes 17 = .ok (.aload_n 0, 1) := by decide +kernel
theorem dX6_notes_18 : decode cX6_notes 18 = .ok (.getfield 41, 3) := by decide +kernel
theorem dX6_notes_21 : decode cX6_notes 21 = .ok (.bipush 26, 2) := by decide +kernel
theorem dX6_notes_23 : decode cX6_notes 23 = .ok (.iload_n 1, 1) := by decide +kernel
theorem dX6_notes_24 : decode cX6_notes 24 = .ok (.iadd, 1) := by decide +kernel
theorem dX6_notes_25 : decode cX6_notes 25 = .ok (.iaload, 1) := by decide +kernel
theorem dX6_notes_26 : decode cX6_notes 26 = .ok (.iastore, 1) := by decide +kernel
theorem dX6_notes_27 : decode cX6_notes 27 = .ok (.iinc 1 1, 3) := by decide +kernel
theorem dX6_notes_30 : decode cX6_notes 30 = .ok (.goto (-28), 3) := by decide +kernel
theorem dX6_notes_33 : decode cX6_notes 33 = .ok (.return_, 1) := by decide +kernel
theorem dX6_rest_0 : decode cX6_rest 0 = .ok (.aload_n 0, 1) := by decide +kernel
theorem dX6_rest_1 : decode cX6_rest 1 = .ok (.getfield 158, 3) := by decide +kernel
theorem dX6_rest_4 : decode cX6_rest 4 = .ok (.ifCond .ne 6, 3) := by decide +kernel
theorem dX6_rest_7 : decode cX6_rest 7 = .ok (.ldc 181, 2) := by decide +kernel
theorem dX6_rest_9 : decode cX6_rest 9 = .ok (.ireturn, 1) := by decide +kernel
theorem dX6_rest_10 : decode cX6_rest 10 = .ok (.iload_n 1, 1) := by decide +kernel
theorem dX6_rest_11 : decode cX6_rest 11 = .ok (.i2l, 1) := by decide +kernel
theorem dX6_rest_12 : decode cX6_rest 12 = .ok (.lconst 0, 1) := by decide +kernel
theorem dX6_rest_13 : decode cX6_rest 13 = .ok (.lconst 1, 1) := by decide +kernel
theorem dX6_rest_14 : decode cX6_rest 14 = .ok (.invokestatic 54, 3) := by decide +kernel
theorem dX6_rest_17 : decode cX6_rest 17 = .ok (.ifCond .ne 6, 3) := by decide +kernel
theorem dX6_rest_20 : decode cX6_rest 20 = .ok (.ldc 64, 2) := by decide +kernel
theorem dX6_rest_22 : decode cX6_rest 22 = .ok (.ireturn, 1) := by decide +kernel
theorem dX6_rest_23 : decode cX6_rest 23 = .ok (.aload_n 0, 1) := by decide +kernel
theorem dX6_rest_24 : decode cX6_rest 24 = .ok (.invokevirtual 205, 3) := by decide +kernel
theorem dX6_rest_27 : decode cX6_rest 27 = .ok (.aload_n 0, 1) := by decide +kernel
theorem dX6_rest_28 : decode cX6_rest 28 = .ok (.invokevirtual 212, 3) := by decide +kernel
theorem dX6_rest_31 : decode cX6_rest 31 = .ok (.iconst 1, 1) := by decide +kernel
theorem dX6_rest_32 : decode cX6_rest 32 = .ok (.istore_n 2, 1) := by decide +kernel
theorem dX6_rest_33 : decode cX6_rest 33 = .ok (.iload_n 2, 1) := by decide +kernel
theorem dX6_rest_34 : decode cX6_rest 34 = .ok (.bipush 61, 2) := by decide +kernel
theorem dX6_rest_36 : decode cX6_rest 36 = .ok (.if_icmp .gt 53, 3) := by decide +kernel
theorem dX6_rest_39 : decode cX6_rest 39 = .ok (.aload_n 0, 1) := by decide +kernel
theorem dX6_rest_40 : decode cX6_rest 40 = .ok (.getfield 41, 3) := by decide +kernel
theorem dX6_rest_43 : decode cX6_rest 43 = .ok (.iconst 0, 1) := by decide +kernel
theorem dX6_rest_44 : decode cX6_rest 44 = .ok (.invokestatic 187, 3) := by decide +kernel
theorem dX6_rest_47 : decode cX6_rest 47 = .ok (.istore_n 3, 1) := by decide +kernel
theorem dX6_rest_48 : decode cX6_rest 48 = .ok (.aload_n 0, 1) := by decide +kernel
theorem dX6_rest_49 : decode cX6_rest 49 = .ok (.invokevirtual 215, 3) := by decide +kernel
theorem dX6_rest_52 : decode cX6_rest 52 = .ok (.ifCond .eq 23, 3) := by decide +kernel
theorem dX6_rest_55 : decode cX6_rest 55 = .ok (.iload_n 2, 1) := by decide +kernel
theorem dX6_rest_56 : decode cX6_rest 56 = .ok (.bipush 61, 2) := by decide +kernel
theorem dX6_rest_58 : decode cX6_rest 58 = .ok (.iload_n 1, 1) := by decide +kernel
theorem dX6_rest_59 : decode cX6_rest 59 = .ok (.isub, 1) := by decide +kernel
theorem dX6_rest_60 : decode cX6_rest 60 = .ok (.if_icmp .gt 15, 3) := by decide +kernel
theorem dX6_rest_63 : decode cX6_rest 63 = .ok (.iload_n 1, 1) := by decide +kernel
theorem dX6_rest_64 : decode cX6_rest 64 = .ok (.ifCond .ne 9, 3) := by decide +kernel
theorem dX6_rest_67 : decode cX6_rest 67 = .ok (.iload_n 2, 1) := by decide +kernel
theorem dX6_rest_68 : decode cX6_rest 68 = .ok (.iconst 1, 1) := by decide +kernel
theorem dX6_rest_69 : decode cX6_rest 69 = .ok (.isub, 1) := by decide +kernel
theorem dX6_rest_70 : decode cX6_rest 70 = .ok (.goto 4, 3) := by decide +kernel
theorem dX6_rest_73 : decode cX6_rest 73 = .ok (.iload_n 2, 1) := by decide +kernel
theorem dX6_rest_74 : decode cX6_rest 74 = .ok (.ireturn, 1) := by decide +kernel
theorem dX6_rest_75 : decode cX6_rest 75 = .ok (.iload_n 1, 1) := by decide +kernel
theorem dX6_rest_76 : decode cX6_rest 76 = .ok (.ifCond .ne 7, 3) := by decide +kernel
theorem dX6_rest_79 : decode cX6_rest 79 = .ok (.aload_n 0, 1) := by decide +kernel
theorem dX6_rest_80 : decode cX6_rest 80 = .ok (.invokevirtual 212, 3) := by decide +kernel
theorem dX6_rest_83 : decode cX6_rest 83 = .ok (.iinc 2 1, 3) := by decide +kernel
theorem dX6_rest_86 : decode cX6_rest 86 = .ok (.goto (-53), 3) := by decide +kernel
theorem dX6_rest_89 : decode cX6_rest 89 = .ok (.ldc 208, 2) := by decide +kernel
theorem dX6_rest_91 : decode cX6_rest 91 = .ok (.ireturn, 1) := by decide +kernel
theorem dX6_most_0 : decode cX6_most 0 = .ok (.aload_n 0, 1) := by decide +kernel
theorem dX6_most_1 : decode cX6_most 1 = .ok (.getfield 158, 3) := by decide +kernel
theorem dX6_most_4 : decode cX6_most 4 = .ok (.ifCond .ne 6, 3) := by decide +kernel
theorem dX6_most_7 : decode cX6_most 7 = .ok (.ldc 181, 2) := by decide +kernel
theorem dX6_most_9 : decode cX6_most 9 = .ok (.ireturn, 1) := by decide +kernel
theorem dX6_most_10 : decode cX6_most 10 = .ok (.iload_n 1, 1) := by decide +kernel
theorem dX6_most_11 : decode cX6_most 11 = .ok (.i2l, 1) := by decide +kernel
theorem dX6_most_12 : decode cX6_most 12 = .ok (.lconst 1, 1) := by decide +kernel
theorem dX6_most_13 : decode cX6_most 13 = .ok (.ldc2_w 196, 3) := by decide +kernel
theorem dX6_most_16 : decode cX6_most 16 = .ok (.invokestatic 54, 3) := by decide +kernel
theorem dX6_most_19 : decode cX6_most 19 = .ok (.ifCond .ne 6, 3) := by decide +kernel
theorem dX6_most_22 : decode cX6_most 22 = .ok (.ldc 64, 2) := by decide +kernel
theorem dX6_most_24 : decode cX6_most 24 = .ok (.ireturn, 1) := by decide +kernel
theorem dX6_most_25 : decode cX6_most 25 = .ok (.bipush 99, 2) := by decide +kernel
theorem dX6_most_27 : decode cX6_most 27 = .ok (.istore_n 2, 1) := by decide +kernel
theorem dX6_most_28 : decode cX6_most 28 = .ok (.iload_n 2, 1) := by decide +kernel
theorem dX6_most_29 : decode cX6_most 29 = .ok (.ifCond .lt 32, 3) := by decide +kernel
theorem dX6_most_32 : decode cX6_most 32 = .ok (.aload_n 0, 1) := by decide +kernel
theorem dX6_most_33 : decode cX6_most 33 = .ok (.invokevirtual 205, 3) := by decide +kernel
theorem dX6_most_36 : decode cX6_most 36 = .ok (.aload_n 0, 1) := by decide +kernel
theorem dX6_most_37 : decode cX6_most 37 = .ok (.getfield 41, 3) := by decide +kernel
theorem dX6_most_40 : decode cX6_most 40 = .ok (.iconst 0, 1) := by decide +kernel
theorem dX6_most_41 : decode cX6_most 41 = .ok (.iload_n 2, 1) := by decide +kernel
theorem dX6_most_42 : decode cX6_most 42 = .ok (.iastore, 1) := by decide +kernel
theorem dX6_most_43 : decode cX6_most 43 = .ok (.aload_n 0, 1) := by decide +kernel
theorem dX6_most_44 : decode cX6_most 44 = .ok (.iload_n 1, 1) := by decide +kernel
theorem dX6_most_45 : decode cX6_most 45 = .ok (.invokevirtual 209, 3) := by decide +kernel
theorem dX6_most_48 : decode cX6_most 48 = .ok (.ldc 208, 2) := by decide +kernel
theorem dX6_most_50 : decode cX6_most 50 = .ok (.if_icmp .ne 5, 3) := by decide +kernel
theorem dX6_most_53 : decode cX6_most 53 = .ok (.iload_n 2, 1) := by decide +kernel
theorem dX6_most_54 : decode cX6_most 54 = .ok (.ireturn, 1) := by decide +kernel
theorem dX6_most_55 : decode cX6_most 55 = .ok (.iinc 2 (-1), 3) := by decide +kernel
theorem dX6_most_58 : decode cX6_most 58 = .ok (.goto (-30), 3) := by decide +kernel
theorem dX6_most_61 : decode cX6_most 61 = .ok (.ldc 208, 2) := by decide +kernel
theorem dX6_most_63 : decode cX6_most 63 = .ok (.ireturn, 1) := by decide +kernel
theorem dX6_bits_0 : decode cX6_bits 0 = .ok (.iconst 0, 1) := by decide +kernel
theorem dX6_bits_1 : decode cX6_bits 1 = .ok (.istore_n 1, 1) := by decide +kernel
theorem dX6_bits_2 : decode cX6_bits 2 = .ok (.iload_n 0, 1) := by decide +kernel
theorem dX6_bits_3 : decode cX6_bits 3 = .ok (.istore_n 2, 1) := by decide +kernel
theorem dX6_bits_4 : decode cX6_bits 4 = .ok (.iload_n 2, 1) := by decide +kernel
theorem dX6_bits_5 : decode cX6_bits 5 = .ok (.ifCond .eq 15, 3) := by decide +kernel
theorem dX6_bits_8 : decode cX6_bits 8 = .ok (.iinc 1 1, 3) := by decide +kernel
theorem dX6_bits_11 : decode cX6_bits 11 = .ok (.iload_n 2, 1) := by decide +kernel
theorem dX6_bits_12 : decode cX6_bits 12 = .ok (.iload_n 2, 1) := by decide +kernel
theorem dX6_bits_13 : decode cX6_bits 13 = .ok (.iconst 1, 1) := by decide +kernel
theorem dX6_bits_14 : decode cX6_bits 14 = .ok (.isub, 1) := by decide +kernel
theorem dX6_bits_15 : decode cX6_bits 15 = .ok (.iand, 1) := by decide +kernel
theorem dX6_bits_16 : decode cX6_bits 16 = .ok (.istore_n 2, 1) := by decide +kernel
theorem dX6_bits_17 : decode cX6_bits 17 = .ok (.goto (-13), 3) := by decide +kernel
theorem dX6_bits_20 : decode cX6_bits 20 = .ok (.iload_n 1, 1) := by decide +kernel
theorem dX6_bits_21 : decode cX6_bits 21 = .ok (.ireturn, 1) := by decide +kernel
theorem dX6_guards_0 : decode cX6_guards 0 = .ok (.aload_n 0, 1) := by decide +kernel
theorem dX6_guards_1 : decode cX6_guards 1 = .ok (.getfield 158, 3) := by decide +kernel
theorem dX6_guards_4 : decode cX6_guards 4 = .ok (.ifCond .ne 6, 3) := by decide +kernel
theorem dX6_guards_7 : decode cX6_guards 7 = .ok (.ldc 181, 2) := by decide +kernel
theorem dX6_guards_9 : decode cX6_guards 9 = .ok (.ireturn, 1) := by decide +kernel
theorem dX6_guards_10 : decode cX6_guards 10 = .ok (.iload_n 1, 1) := by decide +kernel
theorem dX6_guards_11 : decode cX6_guards 11 = .ok (.i2l, 1) := by decide +kernel
theorem dX6_guards_12 : decode cX6_guards 12 = .ok (.lconst 1, 1) := by decide +kernel
theorem dX6_guards_13 : decode cX6_guards 13 = .ok (.ldc2_w 196, 3) := by decide +kernel
theorem dX6_guards_16 : decode cX6_guards 16 = .ok (.invokestatic 54, 3) := by decide +kernel
theorem dX6_guards_19 : decode cX6_guards 19 = .ok (.ifCond .ne 6, 3) := by decide +kernel
theorem dX6_guards_22 : decode cX6_guards 22 = .ok (.ldc 64, 2) := by decide +kernel
theorem dX6_guards_24 : decode cX6_guards 24 = .ok (.ireturn, 1) := by decide +kernel
theorem dX6_guards_25 : decode cX6_guards 25 = .ok (.ldc 208, 2) := by decide +kernel
theorem dX6_guards_27 : decode cX6_guards 27 = .ok (.istore_n 2, 1) := by decide +kernel
theorem dX6_guards_28 : decode cX6_guards 28 = .ok (.iconst 0, 1) := by decide +kernel
theorem dX6_guards_29 : decode cX6_guards 29 = .ok (.istore_n 3, 1) := by decide +kernel
theorem dX6_guards_30 : decode cX6_guards 30 = .ok (.iload_n 3, 1) := by decide +kernel
theorem dX6_guards_31 : decode cX6_guards 31 = .ok (.iconst 1, 1) := by decide +kernel
theorem dX6_guards_32 : decode cX6_guards 32 = .ok (.aload_n 0, 1) := by decide +kernel
theorem dX6_guards_33 : decode cX6_guards 33 = .ok (.getfield 22, 3) := by decide +kernel
theorem dX6_guards_36 : decode cX6_guards 36 = .ok (.iconst 2, 1) := by decide +kernel
theorem dX6_guards_37 : decode cX6_guards 37 = .ok (.iaload, 1) := by decide +kernel
theorem dX6_guards_38 : decode cX6_guards 38 = .ok (.ishl, 1) := by decide +kernel
theorem dX6_guards_39 : decode cX6_guards 39 = .ok (.if_icmp .ge 53, 3) := by decide +kernel
theorem dX6_guards_42 : decode cX6_guards 42 = .ok (.aload_n 0, 1) := by decide +kernel
theorem dX6_guards_43 : decode cX6_guards 43 = .ok (.invokevirtual 205, 3) := by decide +kernel
theorem dX6_guards_46 : decode cX6_guards 46 = .ok (.aload_n 0, 1) := by decide +kernel
theorem dX6_guards_47 : decode cX6_guards 47 = .ok (.getfield 41, 3) := by decide +kernel
theorem dX6_guards_50 : decode cX6_guards 50 = .ok (.iconst 4, 1) := by decide +kernel
theorem dX6_guards_51 : decode cX6_guards 51 = .ok (.iload_n 3, 1) := by decide +kernel
theorem dX6_guards_52 : decode cX6_guards 52 = .ok (.iastore, 1) := by decide +kernel
theorem dX6_guards_53 : decode cX6_guards 53 = .ok (.iload_n 2, 1) := by decide +kernel
theorem dX6_guards_54 : decode cX6_guards 54 = .ok (.ldc 208, 2) := by decide +kernel
theorem dX6_guards_56 : decode cX6_guards 56 = .ok (.if_icmp .eq 14, 3) := by decide +kernel
theorem dX6_guards_59 : decode cX6_guards 59 = .ok (.iload_n 3, 1) := by decide +kernel
theorem dX6_guards_60 : decode cX6_guards 60 = .ok (.invokestatic 218, 3) := by decide +kernel
theorem dX6_guards_63 : decode cX6_guards 63 = .ok (.iload_n 2, 1) := by decide +kernel
theorem dX6_guards_64 : decode cX6_guards 64 = .ok (.invokestatic 218, 3) := by decide +kernel
theorem dX6_guards_67 : decode cX6_guards 67 = .ok (.if_icmp .ge 17, 3) := by decide +kernel
theorem dX6_guards_70 : decode cX6_guards 70 = .ok (.aload_n 0, 1) := by decide +kernel
theorem dX6_guards_71 : decode cX6_guards 71 = .ok (.iload_n 1, 1) := by decide +kernel
theorem dX6_guards_72 : decode cX6_guards 72 = .ok (.invokevirtual 209, 3) := by decide +kernel
theorem dX6_guards_75 : decode cX6_guards 75 = .ok (.ldc 208, 2) := by decide +kernel
theorem dX6_guards_77 : decode cX6_guards 77 = .ok (.if_icmp .ne 7, 3) := by decide +kernel
theorem dX6_guards_80 : decode cX6_guards 80 = .ok (.iload_n 3, 1) := by decide +kernel
theorem dX6_guards_81 : decode cX6_guards 81 = .ok (.goto 4, 3) := by decide +kernel
theorem dX6_guards_84 : decode cX6_guards 84 = .ok (.iload_n 2, 1) := by decide +kernel
theorem dX6_guards_85 : decode cX6_guards 85 = .ok (.istore_n 2, 1) := by decide +kernel
theorem dX6_guards_86 : decode cX6_guards 86 = .ok (.iinc 3 1, 3) := by decide +kernel
theorem dX6_guards_89 : decode cX6_guards 89 = .ok (.goto (-59), 3) := by decide +kernel
theorem dX6_guards_92 : decode cX6_guards 92 = .ok (.iload_n 2, 1) := by decide +kernel
theorem dX6_guards_93 : decode cX6_guards 93 = .ok (.ireturn, 1) := by decide +kernel
theorem dX6_drew_0 : decode cX6_drew 0 = .ok (.aload_n 0, 1) := by decide +kernel
theorem dX6_drew_1 : decode cX6_drew 1 = .ok (.getfield 158, 3) := by decide +kernel
theorem dX6_drew_4 : decode cX6_drew 4 = .ok (.ifCond .ne 6, 3) := by decide +kernel
theorem dX6_drew_7 : decode cX6_drew 7 = .ok (.ldc 181, 2) := by decide +kernel
theorem dX6_drew_9 : decode cX6_drew 9 = .ok (.ireturn, 1) := by decide +kernel
theorem dX6_drew_10 : decode cX6_drew 10 = .ok (.iload_n 1, 1) := by decide +kernel
theorem dX6_drew_11 : decode cX6_drew 11 = .ok (.invokestatic 58, 3) := by decide +kernel
theorem dX6_drew_14 : decode cX6_drew 14 = .ok (.ifCond .eq 13, 3) := by decide +kernel
theorem dX6_drew_17 : decode cX6_drew 17 = .ok (.iload_n 2, 1) := by decide +kernel
theorem dX6_drew_18 : decode cX6_drew 18 = .ok (.i2l, 1) := by decide +kernel
theorem dX6_drew_19 : decode cX6_drew 19 = .ok (.lconst 0, 1) := by decide +kernel
theorem dX6_drew_20 : decode cX6_drew 20 = .ok (.lconst 1, 1) := by decide +kernel
theorem dX6_drew_21 : decode cX6_drew 21 = .ok (.invokestatic 54, 3) := by decide +kernel
theorem dX6_drew_24 : decode cX6_drew 24 = .ok (.ifCond .ne 6, 3) := by decide +kernel
theorem dX6_drew_27 : decode cX6_drew 27 = .ok (.ldc 64, 2) := by decide +kernel
theorem dX6_drew_29 : decode cX6_drew 29 = .ok (.ireturn, 1) := by decide +kernel
theorem dX6_drew_30 : decode cX6_drew 30 = .ok (.aload_n 0, 1) := by decide +kernel
theorem dX6_drew_31 : decode cX6_drew 31 = .ok (.getfield 13, 3) := by decide +kernel
theorem dX6_drew_34 : decode cX6_drew 34 = .ok (.iload_n 1, 1) := by decide +kernel
theorem dX6_drew_35 : decode cX6_drew 35 = .ok (.iaload, 1) := by decide +kernel
theorem dX6_drew_36 : decode cX6_drew 36 = .ok (.ifCond .ge 9, 3) := by decide +kernel
theorem dX6_drew_39 : decode cX6_drew 39 = .ok (.aload_n 0, 1) := by decide +kernel
theorem dX6_drew_40 : decode cX6_drew 40 = .ok (.iconst 1, 1) := by decide +kernel
theorem dX6_drew_41 : decode cX6_drew 41 = .ok (.invokevirtual 65, 3) := by decide +kernel
theorem dX6_drew_44 : decode cX6_drew 44 = .ok (.ireturn, 1) := by decide +kernel
theorem dX6_drew_45 : decode cX6_drew 45 = .ok (.aload_n 0, 1) := by decide +kernel
theorem dX6_drew_46 : decode cX6_drew 46 = .ok (.getfield 13, 3) := by decide +kernel
theorem dX6_drew_49 : decode cX6_drew 49 = .ok (.iload_n 1, 1) := by decide +kernel
theorem dX6_drew_50 : decode cX6_drew 50 = .ok (.iaload, 1) := by decide +kernel
theorem dX6_drew_51 : decode cX6_drew 51 = .ok (.aload_n 0, 1) := by decide +kernel
theorem dX6_drew_52 : decode cX6_drew 52 = .ok (.getfield 22, 3) := by decide +kernel
theorem dX6_drew_55 : decode cX6_drew 55 = .ok (.iconst 2, 1) := by decide +kernel
theorem dX6_drew_56 : decode cX6_drew 56 = .ok (.iaload, 1) := by decide +kernel
theorem dX6_drew_57 : decode cX6_drew 57 = .ok (.if_icmp .ge 9, 3) := by decide +kernel
theorem dX6_drew_60 : decode cX6_drew 60 = .ok (.aload_n 0, 1) := by decide +kernel
theorem dX6_drew_61 : decode cX6_drew 61 = .ok (.iconst 2, 1) := by decide +kernel
theorem dX6_drew_62 : decode cX6_drew 62 = .ok (.invokevirtual 65, 3) := by decide +kernel
theorem dX6_drew_65 : decode cX6_drew 65 = .ok (.ireturn, 1) := by decide +kernel
theorem dX6_drew_66 : decode cX6_drew 66 = .ok (.iconst 0, 1) := by decide +kernel
theorem dX6_drew_67 : decode cX6_drew 67 = .ok (.istore_n 3, 1) := by decide +kernel
theorem dX6_drew_68 : decode cX6_drew 68 = .ok (.iload_n 3, 1) := by decide +kernel
theorem dX6_drew_69 : decode cX6_drew 69 = .ok (.aload_n 0, 1) := by decide +kernel
theorem dX6_drew_70 : decode cX6_drew 70 = .ok (.getfield 22, 3) := by decide +kernel
theorem dX6_drew_73 : decode cX6_drew 73 = .ok (.iconst 2, 1) := by decide +kernel
theorem dX6_drew_74 : decode cX6_drew 74 = .ok (.iaload, 1) := by decide +kernel
theorem dX6_drew_75 : decode cX6_drew 75 = .ok (.if_icmp .ge 26, 3) := by decide +kernel
theorem dX6_drew_78 : decode cX6_drew 78 = .ok (.aload_n 0, 1) := by decide +kernel
theorem dX6_drew_79 : decode cX6_drew 79 = .ok (.getfield 44, 3) := by decide +kernel
theorem dX6_drew_82 : decode cX6_drew 82 = .ok (.iload_n 3, 1) := by decide +kernel
theorem dX6_drew_83 : decode cX6_drew 83 = .ok (.aload_n 0, 1) := by decide +kernel
theorem dX6_drew_84 : decode cX6_drew 84 = .ok (.getfield 16, 3) := by decide +kernel
theorem dX6_drew_87 : decode cX6_drew 87 = .ok (.bipush 40, 2) := by decide +kernel
theorem dX6_drew_89 : decode cX6_drew 89 = .ok (.iload_n 1, 1) := by decide +kernel
theorem dX6_drew_90 : decode cX6_drew 90 = .ok (.imul, 1) := by decide +kernel
theorem dX6_drew_91 : decode cX6_drew 91 = .ok (.iload_n 3, 1) := by decide +kernel
theorem dX6_drew_92 : decode cX6_drew 92 = .ok (.iadd, 1) := by decide +kernel
theorem dX6_drew_93 : decode cX6_drew 93 = .ok (.iaload, 1) := by decide +kernel
theorem dX6_drew_94 : decode cX6_drew 94 = .ok (.iastore, 1) := by decide +kernel
theorem dX6_drew_95 : decode cX6_drew 95 = .ok (.iinc 3 1, 3) := by decide +kernel
theorem dX6_drew_98 : decode cX6_drew 98 = .ok (.goto (-30), 3) := by decide +kernel
theorem dX6_drew_101 : decode cX6_drew 101 = .ok (.iconst 0, 1) := by decide +kernel
theorem dX6_drew_102 : decode cX6_drew 102 = .ok (.istore_n 3, 1) := by decide +kernel
theorem dX6_drew_103 : decode cX6_drew 103 = .ok (.ldc 208, 2) := by decide +kernel
theorem dX6_drew_105 : decode cX6_drew 105 = .ok (.istore 4, 2) := by decide +kernel
theorem dX6_drew_107 : decode cX6_drew 107 = .ok (.iconst 0, 1) := by decide +kernel
theorem dX6_drew_108 : decode cX6_drew 108 = .ok (.istore 5, 2) := by decide +kernel
theorem dX6_drew_110 : decode cX6_drew 110 = .ok (.iload 5, 2) := by decide +kernel
theorem dX6_drew_112 : decode cX6_drew 112 = .ok (.iconst 1, 1) := by decide +kernel
theorem dX6_drew_113 : decode cX6_drew 113 = .ok (.aload_n 0, 1) := by decide +kernel
theorem dX6_drew_114 : decode cX6_drew 114 = .ok (.getfield 22, 3) := by decide +kernel
theorem dX6_drew_117 : decode cX6_drew 117 = .ok (.iconst 2, 1) := by decide +kernel
theorem dX6_drew_118 : decode cX6_drew 118 = .ok (.iaload, 1) := by decide +kernel
theorem dX6_drew_119 : decode cX6_drew 119 = .ok (.ishl, 1) := by decide +kernel
theorem dX6_drew_120 : decode cX6_drew 120 = .ok (.if_icmp .ge 90, 3) := by decide +kernel
theorem dX6_drew_123 : decode cX6_drew 123 = .ok (.aload_n 0, 1) := by decide +kernel
theorem dX6_drew_124 : decode cX6_drew 124 = .ok (.invokevirtual 205, 3) := by decide +kernel
theorem dX6_drew_127 : decode cX6_drew 127 = .ok (.iconst 0, 1) := by decide +kernel
theorem dX6_drew_128 : decode cX6_drew 128 = .ok (.istore 6, 2) := by decide +kernel
theorem dX6_drew_130 : decode cX6_drew 130 = .ok (.iload 6, 2) := by decide +kernel
theorem dX6_drew_132 : decode cX6_drew 132 = .ok (.aload_n 0, 1) := by decide +kernel
theorem dX6_drew_133 : decode cX6_drew 133 = .ok (.getfield 22, 3) := by decide +kernel
theorem dX6_drew_136 : decode cX6_drew 136 = .ok (.iconst 2, 1) := by decide +kernel
theorem dX6_drew_137 : decode cX6_drew 137 = .ok (.iaload, 1) := by decide +kernel
theorem dX6_drew_138 : decode cX6_drew 138 = .ok (.if_icmp .ge 28, 3) := by decide +kernel
theorem dX6_drew_141 : decode cX6_drew 141 = .ok (.iload 5, 2) := by decide +kernel
theorem dX6_drew_143 : decode cX6_drew 143 = .ok (.iload 6, 2) := by decide +kernel
theorem dX6_drew_145 : decode cX6_drew 145 = .ok (.invokestatic 169, 3) := by decide +kernel
theorem dX6_drew_148 : decode cX6_drew 148 = .ok (.ifCond .eq 12, 3) := by decide +kernel
theorem dX6_drew_151 : decode cX6_drew 151 = .ok (.aload_n 0, 1) := by decide +kernel
theorem dX6_drew_152 : decode cX6_drew 152 = .ok (.getfield 41, 3) := by decide +kernel
theorem dX6_drew_155 : decode cX6_drew 155 = .ok (.iload 6, 2) := by decide +kernel
theorem dX6_drew_157 : decode cX6_drew 157 = .ok (.invokestatic 177, 3) := by decide +kernel
theorem dX6_drew_160 : decode cX6_drew 160 = .ok (.iinc 6 1, 3) := by decide +kernel
theorem dX6_drew_163 : decode cX6_drew 163 = .ok (.goto (-33), 3) := by decide +kernel
theorem dX6_drew_166 : decode cX6_drew 166 = .ok (.iload_n 3, 1) := by decide +kernel
theorem dX6_drew_167 : decode cX6_drew 167 = .ok (.aload_n 0, 1) := by decide +kernel
theorem dX6_drew_168 : decode cX6_drew 168 = .ok (.invokevirtual 215, 3) := by decide +kernel
theorem dX6_drew_171 : decode cX6_drew 171 = .ok (.ifCond .eq 7, 3) := by decide +kernel
theorem dX6_drew_174 : decode cX6_drew 174 = .ok (.iconst 1, 1) := by decide +kernel
theorem dX6_drew_175 : decode cX6_drew 175 = .ok (.goto 4, 3) := by decide +kernel
theorem dX6_drew_178 : decode cX6_drew 178 = .ok (.iconst 0, 1) := by decide +kernel
theorem dX6_drew_179 : decode cX6_drew 179 = .ok (.iadd, 1) := by decide +kernel
theorem dX6_drew_180 : decode cX6_drew 180 = .ok (.istore_n 3, 1) := by decide +kernel
theorem dX6_drew_181 : decode cX6_drew 181 = .ok (.aload_n 0, 1) := by decide +kernel
theorem dX6_drew_182 : decode cX6_drew 182 = .ok (.invokevirtual 215, 3) := by decide +kernel
theorem dX6_drew_185 : decode cX6_drew 185 = .ok (.ifCond .eq 15, 3) := by decide +kernel
theorem dX6_drew_188 : decode cX6_drew 188 = .ok (.iload 4, 2) := by decide +kernel
theorem dX6_drew_190 : decode cX6_drew 190 = .ok (.ldc 208, 2) := by decide +kernel
theorem dX6_drew_192 : decode cX6_drew 192 = .ok (.if_icmp .ne 8, 3) := by decide +kernel
theorem dX6_drew_195 : decode cX6_drew 195 = .ok (.iload 5, 2) := by decide +kernel
theorem dX6_drew_197 : decode cX6_drew 197 = .ok (.goto 5, 3) := by decide +kernel
theorem dX6_drew_200 : decode cX6_drew 200 = .ok (.iload 4, 2) := by decide +kernel
theorem dX6_drew_202 : decode cX6_drew 202 = .ok (.istore 4, 2) := by decide +kernel
theorem dX6_drew_204 : decode cX6_drew 204 = .ok (.iinc 5 1, 3) := by decide +kernel
theorem dX6_drew_207 : decode cX6_drew 207 = .ok (.goto (-97), 3) := by decide +kernel
theorem dX6_drew_210 : decode cX6_drew 210 = .ok (.aload_n 0, 1) := by decide +kernel
theorem dX6_drew_211 : decode cX6_drew 211 = .ok (.iload_n 2, 1) := by decide +kernel
theorem dX6_drew_212 : decode cX6_drew 212 = .ok (.ifCond .ne 7, 3) := by decide +kernel
theorem dX6_drew_215 : decode cX6_drew 215 = .ok (.iload_n 3, 1) := by decide +kernel
theorem dX6_drew_216 : decode cX6_drew 216 = .ok (.goto 5, 3) := by decide +kernel
theorem dX6_drew_219 : decode cX6_drew 219 = .ok (.iload 4, 2) := by decide +kernel
theorem dX6_drew_221 : decode cX6_drew 221 = .ok (.invokevirtual 69, 3) := by decide +kernel
theorem dX6_drew_224 : decode cX6_drew 224 = .ok (.ireturn, 1) := by decide +kernel
theorem dX6_lacks_0 : decode cX6_lacks 0 = .ok (.iconst 0, 1) := by decide +kernel
theorem dX6_lacks_1 : decode cX6_lacks 1 = .ok (.istore_n 2, 1) := by decide +kernel
theorem dX6_lacks_2 : decode cX6_lacks 2 = .ok (.iload_n 2, 1) := by decide +kernel
theorem dX6_lacks_3 : decode cX6_lacks 3 = .ok (.aload_n 0, 1) := by decide +kernel
theorem dX6_lacks_4 : decode cX6_lacks 4 = .ok (.getfield 22, 3) := by decide +kernel
theorem dX6_lacks_7 : decode cX6_lacks 7 = .ok (.iconst 2, 1) := by decide +kernel
theorem dX6_lacks_8 : decode cX6_lacks 8 = .ok (.iaload, 1) := by decide +kernel
theorem dX6_lacks_9 : decode cX6_lacks 9 = .ok (.if_icmp .ge 19, 3) := by decide +kernel
theorem dX6_lacks_12 : decode cX6_lacks 12 = .ok (.aload_n 0, 1) := by decide +kernel
theorem dX6_lacks_13 : decode cX6_lacks 13 = .ok (.getfield 41, 3) := by decide +kernel
theorem dX6_lacks_16 : decode cX6_lacks 16 = .ok (.bipush 33, 2) := by decide +kernel
theorem dX6_lacks_18 : decode cX6_lacks 18 = .ok (.iload_n 2, 1) := by decide +kernel
theorem dX6_lacks_19 : decode cX6_lacks 19 = .ok (.iadd, 1) := by decide +kernel
theorem dX6_lacks_20 : decode cX6_lacks 20 = .ok (.iconst 0, 1) := by decide +kernel
theorem dX6_lacks_21 : decode cX6_lacks 21 = .ok (.iastore, 1) := by decide +kernel
theorem dX6_lacks_22 : decode cX6_lacks 22 = .ok (.iinc 2 1, 3) := by decide +kernel
theorem dX6_lacks_25 : decode cX6_lacks 25 = .ok (.goto (-23), 3) := by decide +kernel
theorem dX6_lacks_28 : decode cX6_lacks 28 = .ok (.iconst 0, 1) := by decide +kernel
theorem dX6_lacks_29 : decode cX6_lacks 29 = .ok (.istore_n 2, 1) := by decide +kernel
theorem dX6_lacks_30 : decode cX6_lacks 30 = .ok (.iload_n 2, 1) := by decide +kernel
theorem dX6_lacks_31 : decode cX6_lacks 31 = .ok (.iload_n 1, 1) := by decide +kernel
theorem dX6_lacks_32 : decode cX6_lacks 32 = .ok (.if_icmp .ge 18, 3) := by decide +kernel
theorem dX6_lacks_35 : decode cX6_lacks 35 = .ok (.aload_n 0, 1) := by decide +kernel
theorem dX6_lacks_36 : decode cX6_lacks 36 = .ok (.getfield 41, 3) := by decide +kernel
theorem dX6_lacks_39 : decode cX6_lacks 39 = .ok (.iconst 0, 1) := by decide +kernel
theorem dX6_lacks_40 : decode cX6_lacks 40 = .ok (.invokestatic 187, 3) := by decide +kernel
theorem dX6_lacks_43 : decode cX6_lacks 43 = .ok (.istore_n 3, 1) := by decide +kernel
theorem dX6_lacks_44 : decode cX6_lacks 44 = .ok (.iinc 2 1, 3) := by decide +kernel
theorem dX6_lacks_47 : decode cX6_lacks 47 = .ok (.goto (-17), 3) := by decide +kernel
theorem dX6_lacks_50 : decode cX6_lacks 50 = .ok (.iconst 0, 1) := by decide +kernel
theorem dX6_lacks_51 : decode cX6_lacks 51 = .ok (.istore_n 2, 1) := by decide +kernel
theorem dX6_lacks_52 : decode cX6_lacks 52 = .ok (.iconst 0, 1) := by decide +kernel
theorem dX6_lacks_53 : decode cX6_lacks 53 = .ok (.istore_n 3, 1) := by decide +kernel
theorem dX6_lacks_54 : decode cX6_lacks 54 = .ok (.iload_n 3, 1) := by decide +kernel
theorem dX6_lacks_55 : decode cX6_lacks 55 = .ok (.aload_n 0, 1) := by decide +kernel
theorem dX6_lacks_56 : decode cX6_lacks 56 = .ok (.getfield 22, 3) := by decide +kernel
theorem dX6_lacks_59 : decode cX6_lacks 59 = .ok (.iconst 2, 1) := by decide +kernel
theorem dX6_lacks_60 : decode cX6_lacks 60 = .ok (.iaload, 1) := by decide +kernel
theorem dX6_lacks_61 : decode cX6_lacks 61 = .ok (.if_icmp .ge 21, 3) := by decide +kernel
theorem dX6_lacks_64 : decode cX6_lacks 64 = .ok (.iload_n 2, 1) := by decide +kernel
theorem dX6_lacks_65 : decode cX6_lacks 65 = .ok (.aload_n 0, 1) := by decide +kernel
theorem dX6_lacks_66 : decode cX6_lacks 66 = .ok (.getfield 41, 3) := by decide +kernel
theorem dX6_lacks_69 : decode cX6_lacks 69 = .ok (.bipush 33, 2) := by decide +kernel
theorem dX6_lacks_71 : decode cX6_lacks 71 = .ok (.iload_n 3, 1) := by decide +kernel
theorem dX6_lacks_72 : decode cX6_lacks 72 = .ok (.iadd, 1) := by decide +kernel
theorem dX6_lacks_73 : decode cX6_lacks 73 = .ok (.iaload, 1) := by decide +kernel
theorem dX6_lacks_74 : decode cX6_lacks 74 = .ok (.iadd, 1) := by decide +kernel
theorem dX6_lacks_75 : decode cX6_lacks 75 = .ok (.istore_n 2, 1) := by decide +kernel
theorem dX6_lacks_76 : decode cX6_lacks 76 = .ok (.iinc 3 1, 3) := by decide +kernel
theorem dX6_lacks_79 : decode cX6_lacks 79 = .ok (.goto (-25), 3) := by decide +kernel
theorem dX6_lacks_82 : decode cX6_lacks 82 = .ok (.iload_n 2, 1) := by decide +kernel
theorem dX6_lacks_83 : decode cX6_lacks 83 = .ok (.ireturn, 1) := by decide +kernel
theorem dX6_where_0 : decode cX6_where 0 = .ok (.aload_n 0, 1) := by decide +kernel
theorem dX6_where_1 : decode cX6_where 1 = .ok (.getfield 22, 3) := by decide +kernel
theorem dX6_where_4 : decode cX6_where 4 = .ok (.iconst 2, 1) := by decide +kernel
theorem dX6_where_5 : decode cX6_where 5 = .ok (.iaload, 1) := by decide +kernel
theorem dX6_where_6 : decode cX6_where 6 = .ok (.ifCond .ne 6, 3) := by decide +kernel
theorem dX6_where_9 : decode cX6_where 9 = .ok (.ldc 181, 2) := by decide +kernel
theorem dX6_where_11 : decode cX6_where 11 = .ok (.ireturn, 1) := by decide +kernel
theorem dX6_where_12 : decode cX6_where 12 = .ok (.iload_n 1, 1) := by decide +kernel
theorem dX6_where_13 : decode cX6_where 13 = .ok (.i2l, 1) := by decide +kernel
theorem dX6_where_14 : decode cX6_where 14 = .ok (.lconst 1, 1) := by decide +kernel
theorem dX6_where_15 : decode cX6_where 15 = .ok (.ldc2_w 182, 3) := by decide +kernel
theorem dX6_where_18 : decode cX6_where 18 = .ok (.invokestatic 54, 3) := by decide +kernel
theorem dX6_where_21 : decode cX6_where 21 = .ok (.ifCond .eq 25, 3) := by decide +kernel
theorem dX6_where_24 : decode cX6_where 24 = .ok (.iload_n 2, 1) := by decide +kernel
theorem dX6_where_25 : decode cX6_where 25 = .ok (.i2l, 1) := by decide +kernel
theorem dX6_where_26 : decode cX6_where 26 = .ok (.lconst 1, 1) := by decide +kernel
theorem dX6_where_27 : decode cX6_where 27 = .ok (.ldc2_w 196, 3) := by decide +kernel
theorem dX6_where_30 : decode cX6_where 30 = .ok (.invokestatic 54, 3) := by decide +kernel
theorem dX6_where_33 : decode cX6_where 33 = .ok (.ifCond .eq 13, 3) := by decide +kernel
theorem dX6_where_36 : decode cX6_where 36 = .ok (.iload_n 3, 1) := by decide +kernel
theorem dX6_where_37 : decode cX6_where 37 = .ok (.i2l, 1) := by decide +kernel
theorem dX6_where_38 : decode cX6_where 38 = .ok (.lconst 0, 1) := by decide +kernel
theorem dX6_where_39 : decode cX6_where 39 = .ok (.lconst 1, 1) := by decide +kernel
theorem dX6_where_40 : decode cX6_where 40 = .ok (.invokestatic 54, 3) := by decide +kernel
theorem dX6_where_43 : decode cX6_where 43 = .ok (.ifCond .ne 6, 3) := by decide +kernel
theorem dX6_where_46 : decode cX6_where 46 = .ok (.ldc 64, 2) := by decide +kernel
theorem dX6_where_48 : decode cX6_where 48 = .ok (.ireturn, 1) := by decide +kernel
theorem dX6_where_49 : decode cX6_where 49 = .ok (.ldc 208, 2) := by decide +kernel
theorem dX6_where_51 : decode cX6_where 51 = .ok (.istore 4, 2) := by decide +kernel
theorem dX6_where_53 : decode cX6_where 53 = .ok (.iconst 0, 1) := by decide +kernel
theorem dX6_where_54 : decode cX6_where 54 = .ok (.istore 5, 2) := by decide +kernel
theorem dX6_where_56 : decode cX6_where 56 = .ok (.iconst 0, 1) := by decide +kernel
theorem dX6_where_57 : decode cX6_where 57 = .ok (.istore 6, 2) := by decide +kernel
theorem dX6_where_59 : decode cX6_where 59 = .ok (.iload 6, 2) := by decide +kernel
theorem dX6_where_61 : decode cX6_where 61 = .ok (.aload_n 0, 1) := by decide +kernel
theorem dX6_where_62 : decode cX6_where 62 = .ok (.getfield 22, 3) := by decide +kernel
theorem dX6_where_65 : decode cX6_where 65 = .ok (.iconst 2, 1) := by decide +kernel
theorem dX6_where_66 : decode cX6_where 66 = .ok (.iaload, 1) := by decide +kernel
theorem dX6_where_67 : decode cX6_where 67 = .ok (.if_icmp .ge 56, 3) := by decide +kernel
theorem dX6_where_70 : decode cX6_where 70 = .ok (.aload_n 0, 1) := by decide +kernel
theorem dX6_where_71 : decode cX6_where 71 = .ok (.invokevirtual 205, 3) := by decide +kernel
theorem dX6_where_74 : decode cX6_where 74 = .ok (.aload_n 0, 1) := by decide +kernel
theorem dX6_where_75 : decode cX6_where 75 = .ok (.getfield 41, 3) := by decide +kernel
theorem dX6_where_78 : decode cX6_where 78 = .ok (.bipush 12, 2) := by decide +kernel
theorem dX6_where_80 : decode cX6_where 80 = .ok (.iload 6, 2) := by decide +kernel
theorem dX6_where_82 : decode cX6_where 82 = .ok (.iadd, 1) := by decide +kernel
theorem dX6_where_83 : decode cX6_where 83 = .ok (.dup2, 1) := by decide +kernel
theorem dX6_where_84 : decode cX6_where 84 = .ok (.iaload, 1) := by decide +kernel
theorem dX6_where_85 : decode cX6_where 85 = .ok (.iload_n 1, 1) := by decide +kernel
theorem dX6_where_86 : decode cX6_where 86 = .ok (.iadd, 1) := by decide +kernel
theorem dX6_where_87 : decode cX6_where 87 = .ok (.iastore, 1) := by decide +kernel
theorem dX6_where_88 : decode cX6_where 88 = .ok (.aload_n 0, 1) := by decide +kernel
theorem dX6_where_89 : decode cX6_where 89 = .ok (.iload_n 2, 1) := by decide +kernel
theorem dX6_where_90 : decode cX6_where 90 = .ok (.invokevirtual 221, 3) := by decide +kernel
theorem dX6_where_93 : decode cX6_where 93 = .ok (.istore 7, 2) := by decide +kernel
theorem dX6_where_95 : decode cX6_where 95 = .ok (.iload 4, 2) := by decide +kernel
theorem dX6_where_97 : decode cX6_where 97 = .ok (.ldc 208, 2) := by decide +kernel
theorem dX6_where_99 : decode cX6_where 99 = .ok (.if_icmp .eq 10, 3) := by decide +kernel
theorem dX6_where_102 : decode cX6_where 102 = .ok (.iload 7, 2) := by decide +kernel
theorem dX6_where_104 : decode cX6_where 104 = .ok (.iload 5, 2) := by decide +kernel
theorem dX6_where_106 : decode cX6_where 106 = .ok (.if_icmp .ge 11, 3) := by decide +kernel
theorem dX6_where_109 : decode cX6_where 109 = .ok (.iload 6, 2) := by decide +kernel
theorem dX6_where_111 : decode cX6_where 111 = .ok (.istore 4, 2) := by decide +kernel
theorem dX6_where_113 : decode cX6_where 113 = .ok (.iload 7, 2) := by decide +kernel
theorem dX6_where_115 : decode cX6_where 115 = .ok (.istore 5, 2) := by decide +kernel
theorem dX6_where_117 : decode cX6_where 117 = .ok (.iinc 6 1, 3) := by decide +kernel
theorem dX6_where_120 : decode cX6_where 120 = .ok (.goto (-61), 3) := by decide +kernel
theorem dX6_where_123 : decode cX6_where 123 = .ok (.iload_n 3, 1) := by decide +kernel
theorem dX6_where_124 : decode cX6_where 124 = .ok (.ifCond .ne 8, 3) := by decide +kernel
theorem dX6_where_127 : decode cX6_where 127 = .ok (.iload 4, 2) := by decide +kernel
theorem dX6_where_129 : decode cX6_where 129 = .ok (.goto 5, 3) := by decide +kernel
theorem dX6_where_132 : decode cX6_where 132 = .ok (.iload 5, 2) := by decide +kernel
theorem dX6_where_134 : decode cX6_where 134 = .ok (.ireturn, 1) := by decide +kernel
theorem dX6_wed_0 : decode cX6_wed 0 = .ok (.aload_n 0, 1) := by decide +kernel
theorem dX6_wed_1 : decode cX6_wed 1 = .ok (.iload_n 1, 1) := by decide +kernel
theorem dX6_wed_2 : decode cX6_wed 2 = .ok (.invokevirtual 198, 3) := by decide +kernel
theorem dX6_wed_5 : decode cX6_wed 5 = .ok (.ifCond .eq 28, 3) := by decide +kernel
theorem dX6_wed_8 : decode cX6_wed 8 = .ok (.aload_n 0, 1) := by decide +kernel
theorem dX6_wed_9 : decode cX6_wed 9 = .ok (.iload_n 2, 1) := by decide +kernel
theorem dX6_wed_10 : decode cX6_wed 10 = .ok (.invokevirtual 198, 3) := by decide +kernel
theorem dX6_wed_13 : decode cX6_wed 13 = .ok (.ifCond .eq 20, 3) := by decide +kernel
theorem dX6_wed_16 : decode cX6_wed 16 = .ok (.iload_n 1, 1) := by decide +kernel
theorem dX6_wed_17 : decode cX6_wed 17 = .ok (.iload_n 2, 1) := by decide +kernel
theorem dX6_wed_18 : decode cX6_wed 18 = .ok (.if_icmp .eq 15, 3) := by decide +kernel
theorem dX6_wed_21 : decode cX6_wed 21 = .ok (.iload_n 3, 1) := by decide +kernel
theorem dX6_wed_22 : decode cX6_wed 22 = .ok (.i2l, 1) := by decide +kernel
theorem dX6_wed_23 : decode cX6_wed 23 = .ok (.lconst 1, 1) := by decide +kernel
theorem dX6_wed_24 : decode cX6_wed 24 = .ok (.ldc2_w 196, 3) := by decide +kernel
theorem dX6_wed_27 : decode cX6_wed 27 = .ok (.invokestatic 54, 3) := by decide +kernel
theorem dX6_wed_30 : decode cX6_wed 30 = .ok (.ifCond .ne 6, 3) := by decide +kernel
theorem dX6_wed_33 : decode cX6_wed 33 = .ok (.ldc 64, 2) := by decide +kernel
theorem dX6_wed_35 : decode cX6_wed 35 = .ok (.ireturn, 1) := by decide +kernel
theorem dX6_wed_36 : decode cX6_wed 36 = .ok (.aload_n 0, 1) := by decide +kernel
theorem dX6_wed_37 : decode cX6_wed 37 = .ok (.invokevirtual 205, 3) := by decide +kernel
theorem dX6_wed_40 : decode cX6_wed 40 = .ok (.aload_n 0, 1) := by decide +kernel
theorem dX6_wed_41 : decode cX6_wed 41 = .ok (.getfield 41, 3) := by decide +kernel
theorem dX6_wed_44 : decode cX6_wed 44 = .ok (.bipush 26, 2) := by decide +kernel
theorem dX6_wed_46 : decode cX6_wed 46 = .ok (.iload_n 1, 1) := by decide +kernel
theorem dX6_wed_47 : decode cX6_wed 47 = .ok (.iadd, 1) := by decide +kernel
theorem dX6_wed_48 : decode cX6_wed 48 = .ok (.iaload, 1) := by decide +kernel
theorem dX6_wed_49 : decode cX6_wed 49 = .ok (.aload_n 0, 1) := by decide +kernel
theorem dX6_wed_50 : decode cX6_wed 50 = .ok (.getfield 41, 3) := by decide +kernel
theorem dX6_wed_53 : decode cX6_wed 53 = .ok (.bipush 26, 2) := by decide +kernel
theorem dX6_wed_55 : decode cX6_wed 55 = .ok (.iload_n 2, 1) := by decide +kernel
theorem dX6_wed_56 : decode cX6_wed 56 = .ok (.iadd, 1) := by decide +kernel
theorem dX6_wed_57 : decode cX6_wed 57 = .ok (.iaload, 1) := by decide +kernel
theorem dX6_wed_58 : decode cX6_wed 58 = .ok (.iadd, 1) := by decide +kernel
theorem dX6_wed_59 : decode cX6_wed 59 = .ok (.istore 4, 2) := by decide +kernel
theorem dX6_wed_61 : decode cX6_wed 61 = .ok (.aload_n 0, 1) := by decide +kernel
theorem dX6_wed_62 : decode cX6_wed 62 = .ok (.getfield 41, 3) := by decide +kernel
theorem dX6_wed_65 : decode cX6_wed 65 = .ok (.bipush 26, 2) := by decide +kernel
theorem dX6_wed_67 : decode cX6_wed 67 = .ok (.iload_n 2, 1) := by decide +kernel
theorem dX6_wed_68 : decode cX6_wed 68 = .ok (.iadd, 1) := by decide +kernel
theorem dX6_wed_69 : decode cX6_wed 69 = .ok (.iload 4, 2) := by decide +kernel
theorem dX6_wed_71 : decode cX6_wed 71 = .ok (.iconst 2, 1) := by decide +kernel
theorem dX6_wed_72 : decode cX6_wed 72 = .ok (.idiv, 1) := by decide +kernel
theorem dX6_wed_73 : decode cX6_wed 73 = .ok (.iastore, 1) := by decide +kernel
theorem dX6_wed_74 : decode cX6_wed 74 = .ok (.aload_n 0, 1) := by decide +kernel
theorem dX6_wed_75 : decode cX6_wed 75 = .ok (.getfield 41, 3) := by decide +kernel
theorem dX6_wed_78 : decode cX6_wed 78 = .ok (.bipush 26, 2) := by decide +kernel
theorem dX6_wed_80 : decode cX6_wed 80 = .ok (.iload_n 1, 1) := by decide +kernel
theorem dX6_wed_81 : decode cX6_wed 81 = .ok (.iadd, 1) := by decide +kernel
theorem dX6_wed_82 : decode cX6_wed 82 = .ok (.iload 4, 2) := by decide +kernel
theorem dX6_wed_84 : decode cX6_wed 84 = .ok (.iload 4, 2) := by decide +kernel
theorem dX6_wed_86 : decode cX6_wed 86 = .ok (.iconst 2, 1) := by decide +kernel
theorem dX6_wed_87 : decode cX6_wed 87 = .ok (.idiv, 1) := by decide +kernel
theorem dX6_wed_88 : decode cX6_wed 88 = .ok (.isub, 1) := by decide +kernel
theorem dX6_wed_89 : decode cX6_wed 89 = .ok (.aload_n 0, 1) := by decide +kernel
theorem dX6_wed_90 : decode cX6_wed 90 = .ok (.getfield 41, 3) := by decide +kernel
theorem dX6_wed_93 : decode cX6_wed 93 = .ok (.iconst 1, 1) := by decide +kernel
theorem dX6_wed_94 : decode cX6_wed 94 = .ok (.iaload, 1) := by decide +kernel
theorem dX6_wed_95 : decode cX6_wed 95 = .ok (.if_icmp .ge 13, 3) := by decide +kernel
theorem dX6_wed_98 : decode cX6_wed 98 = .ok (.iload 4, 2) := by decide +kernel
theorem dX6_wed_100 : decode cX6_wed 100 = .ok (.iload 4, 2) := by decide +kernel
theorem dX6_wed_102 : decode cX6_wed 102 = .ok (.iconst 2, 1) := by decide +kernel
theorem dX6_wed_103 : decode cX6_wed 103 = .ok (.idiv, 1) := by decide +kernel
theorem dX6_wed_104 : decode cX6_wed 104 = .ok (.isub, 1) := by decide +kernel
theorem dX6_wed_105 : decode cX6_wed 105 = .ok (.goto 9, 3) := by decide +kernel
theorem dX6_wed_108 : decode cX6_wed 108 = .ok (.aload_n 0, 1) := by decide +kernel
theorem dX6_wed_109 : decode cX6_wed 109 = .ok (.getfield 41, 3) := by decide +kernel
theorem dX6_wed_112 : decode cX6_wed 112 = .ok (.iconst 1, 1) := by decide +kernel
theorem dX6_wed_113 : decode cX6_wed 113 = .ok (.iaload, 1) := by decide +kernel
theorem dX6_wed_114 : decode cX6_wed 114 = .ok (.iastore, 1) := by decide +kernel
theorem dX6_wed_115 : decode cX6_wed 115 = .ok (.iconst 0, 1) := by decide +kernel
theorem dX6_wed_116 : decode cX6_wed 116 = .ok (.istore 5, 2) := by decide +kernel
theorem dX6_wed_118 : decode cX6_wed 118 = .ok (.iconst 0, 1) := by decide +kernel
theorem dX6_wed_119 : decode cX6_wed 119 = .ok (.istore 6, 2) := by decide +kernel
theorem dX6_wed_121 : decode cX6_wed 121 = .ok (.iload 6, 2) := by decide +kernel
theorem dX6_wed_123 : decode cX6_wed 123 = .ok (.iload_n 3, 1) := by decide +kernel
theorem dX6_wed_124 : decode cX6_wed 124 = .ok (.if_icmp .ge 30, 3) := by decide +kernel
theorem dX6_wed_127 : decode cX6_wed 127 = .ok (.iload 5, 2) := by decide +kernel
theorem dX6_wed_129 : decode cX6_wed 129 = .ok (.aload_n 0, 1) := by decide +kernel
theorem dX6_wed_130 : decode cX6_wed 130 = .ok (.getfield 41, 3) := by decide +kernel
theorem dX6_wed_133 : decode cX6_wed 133 = .ok (.iconst 0, 1) := by decide +kernel
theorem dX6_wed_134 : decode cX6_wed 134 = .ok (.invokestatic 187, 3) := by decide +kernel
theorem dX6_wed_137 : decode cX6_wed 137 = .ok (.ifCond .eq 7, 3) := by decide +kernel
theorem dX6_wed_140 : decode cX6_wed 140 = .ok (.iconst 1, 1) := by decide +kernel
theorem dX6_wed_141 : decode cX6_wed 141 = .ok (.goto 4, 3) := by decide +kernel
theorem dX6_wed_144 : decode cX6_wed 144 = .ok (.iconst 0, 1) := by decide +kernel
theorem dX6_wed_145 : decode cX6_wed 145 = .ok (.iadd, 1) := by decide +kernel
theorem dX6_wed_146 : decode cX6_wed 146 = .ok (.istore 5, 2) := by decide +kernel
theorem dX6_wed_148 : decode cX6_wed 148 = .ok (.iinc 6 1, 3) := by decide +kernel
theorem dX6_wed_151 : decode cX6_wed 151 = .ok (.goto (-30), 3) := by decide +kernel
theorem dX6_wed_154 : decode cX6_wed 154 = .ok (.iload 5, 2) := by decide +kernel
theorem dX6_wed_156 : decode cX6_wed 156 = .ok (.ireturn, 1) := by decide +kernel
theorem dX6_image_0 : decode cX6_image 0 = .ok (.iload_n 1, 1) := by decide +kernel
theorem dX6_image_1 : decode cX6_image 1 = .ok (.i2l, 1) := by decide +kernel
theorem dX6_image_2 : decode cX6_image 2 = .ok (.lconst 0, 1) := by decide +kernel
theorem dX6_image_3 : decode cX6_image 3 = .ok (.lconst 1, 1) := by decide +kernel
theorem dX6_image_4 : decode cX6_image 4 = .ok (.invokestatic 54, 3) := by decide +kernel
theorem dX6_image_7 : decode cX6_image 7 = .ok (.ifCond .ne 6, 3) := by decide +kernel
theorem dX6_image_10 : decode cX6_image 10 = .ok (.ldc 64, 2) := by decide +kernel
theorem dX6_image_12 : decode cX6_image 12 = .ok (.ireturn, 1) := by decide +kernel
theorem dX6_image_13 : decode cX6_image 13 = .ok (.aload_n 0, 1) := by decide +kernel
theorem dX6_image_14 : decode cX6_image 14 = .ok (.getfield 158, 3) := by decide +kernel
theorem dX6_image_17 : decode cX6_image 17 = .ok (.ifCond .ne 6, 3) := by decide +kernel
theorem dX6_image_20 : decode cX6_image 20 = .ok (.ldc 181, 2) := by decide +kernel
theorem dX6_image_22 : decode cX6_image 22 = .ok (.ireturn, 1) := by decide +kernel
theorem dX6_image_23 : decode cX6_image 23 = .ok (.aload_n 0, 1) := by decide +kernel
theorem dX6_image_24 : decode cX6_image 24 = .ok (.getfield 22, 3) := by decide +kernel
theorem dX6_image_27 : decode cX6_image 27 = .ok (.iconst 0, 1) := by decide +kernel
theorem dX6_image_28 : decode cX6_image 28 = .ok (.aload_n 0, 1) := by decide +kernel
theorem dX6_image_29 : decode cX6_image 29 = .ok (.getfield 28, 3) := by decide +kernel
theorem dX6_image_32 : decode cX6_image 32 = .ok (.bipush 40, 2) := by decide +kernel
theorem dX6_image_34 : decode cX6_image 34 = .ok (.iload_n 1, 1) := by decide +kernel
theorem dX6_image_35 : decode cX6_image 35 = .ok (.imul, 1) := by decide +kernel
theorem dX6_image_36 : decode cX6_image 36 = .ok (.invokestatic 165, 3) := by decide +kernel
theorem dX6_image_39 : decode cX6_image 39 = .ok (.aload_n 0, 1) := by decide +kernel
theorem dX6_image_40 : decode cX6_image 40 = .ok (.getfield 31, 3) := by decide +kernel
theorem dX6_image_43 : decode cX6_image 43 = .ok (.iload_n 1, 1) := by decide +kernel
theorem dX6_image_44 : decode cX6_image 44 = .ok (.iconst 1, 1) := by decide +kernel
theorem dX6_image_45 : decode cX6_image 45 = .ok (.bastore, 1) := by decide +kernel
theorem dX6_image_46 : decode cX6_image 46 = .ok (.iconst 1, 1) := by decide +kernel
theorem dX6_image_47 : decode cX6_image 47 = .ok (.ireturn, 1) := by decide +kernel
theorem dX6_restore_0 : decode cX6_restore 0 = .ok (.iload_n 1, 1) := by decide +kernel
theorem dX6_restore_1 : decode cX6_restore 1 = .ok (.i2l, 1) := by decide +kernel
theorem dX6_restore_2 : decode cX6_restore 2 = .ok (.lconst 0, 1) := by decide +kernel
theorem dX6_restore_3 : decode cX6_restore 3 = .ok (.lconst 1, 1) := by decide +kernel
theorem dX6_restore_4 : decode cX6_restore 4 = .ok (.invokestatic 54, 3) := by decide +kernel
theorem dX6_restore_7 : decode cX6_restore 7 = .ok (.ifCond .ne 6, 3) := by decide +kernel
theorem dX6_restore_10 : decode cX6_restore 10 = .ok (.ldc 64, 2) := by decide +kernel
theorem dX6_restore_12 : decode cX6_restore 12 = .ok (.ireturn, 1) := by decide +kernel
theorem dX6_restore_13 : decode cX6_restore 13 = .ok (.aload_n 0, 1) := by decide +kernel
theorem dX6_restore_14 : decode cX6_restore 14 = .ok (.getfield 31, 3) := by decide +kernel
theorem dX6_restore_17 : decode cX6_restore 17 = .ok (.iload_n 1, 1) := by decide +kernel
theorem dX6_restore_18 : decode cX6_restore 18 = .ok (.baload, 1) := by decide +kernel
theorem dX6_restore_19 : decode cX6_restore 19 = .ok (.ifCond .ne 6, 3) := by decide +kernel
theorem dX6_restore_22 : decode cX6_restore 22 = .ok (.ldc 181, 2) := by decide +kernel
theorem dX6_restore_24 : decode cX6_restore 24 = .ok (.ireturn, 1) := by decide +kernel
theorem dX6_restore_25 : decode cX6_restore 25 = .ok (.aload_n 0, 1) := by decide +kernel
theorem dX6_restore_26 : decode cX6_restore 26 = .ok (.getfield 28, 3) := by decide +kernel
theorem dX6_restore_29 : decode cX6_restore 29 = .ok (.bipush 40, 2) := by decide +kernel
theorem dX6_restore_31 : decode cX6_restore 31 = .ok (.iload_n 1, 1) := by decide +kernel
theorem dX6_restore_32 : decode cX6_restore 32 = .ok (.imul, 1) := by decide +kernel
theorem dX6_restore_33 : decode cX6_restore 33 = .ok (.aload_n 0, 1) := by decide +kernel
theorem dX6_restore_34 : decode cX6_restore 34 = .ok (.getfield 22, 3) := by decide +kernel
theorem dX6_restore_37 : decode cX6_restore 37 = .ok (.iconst 0, 1) := by decide +kernel
theorem dX6_restore_38 : decode cX6_restore 38 = .ok (.invokestatic 165, 3) := by decide +kernel
theorem dX6_restore_41 : decode cX6_restore 41 = .ok (.aload_n 0, 1) := by decide +kernel
theorem dX6_restore_42 : decode cX6_restore 42 = .ok (.iconst 0, 1) := by decide +kernel
theorem dX6_restore_43 : decode cX6_restore 43 = .ok (.putfield 162, 3) := by decide +kernel
theorem dX6_restore_46 : decode cX6_restore 46 = .ok (.iconst 1, 1) := by decide +kernel
theorem dX6_restore_47 : decode cX6_restore 47 = .ok (.ireturn, 1) := by decide +kernel
theorem dX6_kind_0 : decode cX6_kind 0 = .ok (.aload_n 0, 1) := by decide +kernel
theorem dX6_kind_1 : decode cX6_kind 1 = .ok (.iload_n 1, 1) := by decide +kernel
theorem dX6_kind_2 : decode cX6_kind 2 = .ok (.invokevirtual 198, 3) := by decide +kernel
theorem dX6_kind_5 : decode cX6_kind 5 = .ok (.ifCond .eq 14, 3) := by decide +kernel
theorem dX6_kind_8 : decode cX6_kind 8 = .ok (.aload_n 0, 1) := by decide +kernel
theorem dX6_kind_9 : decode cX6_kind 9 = .ok (.getfield 22, 3) := by decide +kernel
theorem dX6_kind_12 : decode cX6_kind 12 = .ok (.iconst 5, 1) := by decide +kernel
theorem dX6_kind_13 : decode cX6_kind 13 = .ok (.iload_n 1, 1) := by decide +kernel
theorem dX6_kind_14 : decode cX6_kind 14 = .ok (.iadd, 1) := by decide +kernel
theorem dX6_kind_15 : decode cX6_kind 15 = .ok (.iaload, 1) := by decide +kernel
theorem dX6_kind_16 : decode cX6_kind 16 = .ok (.goto 5, 3) := by decide +kernel
theorem dX6_kind_19 : decode cX6_kind 19 = .ok (.ldc 64, 2) := by decide +kernel
theorem dX6_kind_21 : decode cX6_kind 21 = .ok (.ireturn, 1) := by decide +kernel
theorem dX6_isOf_0 : decode cX6_isOf 0 = .ok (.iload_n 1, 1) := by decide +kernel
theorem dX6_isOf_1 : decode cX6_isOf 1 = .ok (.ifCond .eq 33, 3) := by decide +kernel
theorem dX6_isOf_4 : decode cX6_isOf 4 = .ok (.iload_n 0, 1) := by decide +kernel
theorem dX6_isOf_5 : decode cX6_isOf 5 = .ok (.iload_n 1, 1) := by decide +kernel
theorem dX6_isOf_6 : decode cX6_isOf 6 = .ok (.if_icmp .eq 28, 3) := by decide +kernel
theorem dX6_isOf_9 : decode cX6_isOf 9 = .ok (.iload_n 1, 1) := by decide +kernel
theorem dX6_isOf_10 : decode cX6_isOf 10 = .ok (.iconst 1, 1) := by decide +kernel
theorem dX6_isOf_11 : decode cX6_isOf 11 = .ok (.if_icmp .ne 13, 3) := by decide +kernel
theorem dX6_isOf_14 : decode cX6_isOf 14 = .ok (.iload_n 0, 1) := by decide +kernel
theorem dX6_isOf_15 : decode cX6_isOf 15 = .ok (.iconst 2, 1) := by decide +kernel
theorem dX6_isOf_16 : decode cX6_isOf 16 = .ok (.if_icmp .eq 18, 3) := by decide +kernel
theorem dX6_isOf_19 : decode cX6_isOf 19 = .ok (.iload_n 0, 1) := by decide +kernel
theorem dX6_isOf_20 : decode cX6_isOf 20 = .ok (.iconst 3, 1) := by decide +kernel
theorem dX6_isOf_21 : decode cX6_isOf 21 = .ok (.if_icmp .eq 13, 3) := by decide +kernel
theorem dX6_isOf_24 : decode cX6_isOf 24 = .ok (.iload_n 1, 1) := by decide +kernel
theorem dX6_isOf_25 : decode cX6_isOf 25 = .ok (.iconst 4, 1) := by decide +kernel
theorem dX6_isOf_26 : decode cX6_isOf 26 = .ok (.if_icmp .ne 12, 3) := by decide +kernel
theorem dX6_isOf_29 : decode cX6_isOf 29 = .ok (.iload_n 0, 1) := by decide +kernel
theorem dX6_isOf_30 : decode cX6_isOf 30 = .ok (.iconst 5, 1) := by decide +kernel
theorem dX6_isOf_31 : decode cX6_isOf 31 = .ok (.if_icmp .ne 7, 3) := by decide +kernel
theorem dX6_isOf_34 : decode cX6_isOf 34 = .ok (.iconst 1, 1) := by decide +kernel
theorem dX6_isOf_35 : decode cX6_isOf 35 = .ok (.goto 4, 3) := by decide +kernel
theorem dX6_isOf_38 : decode cX6_isOf 38 = .ok (.iconst 0, 1) := by decide +kernel
theorem dX6_isOf_39 : decode cX6_isOf 39 = .ok (.ireturn, 1) := by decide +kernel
theorem dX6_as_0 : decode cX6_as 0 = .ok (.aload_n 0, 1) := by decide +kernel
theorem dX6_as_1 : decode cX6_as 1 = .ok (.iload_n 1, 1) := by decide +kernel
theorem dX6_as_2 : decode cX6_as 2 = .ok (.invokevirtual 198, 3) := by decide +kernel
theorem dX6_as_5 : decode cX6_as 5 = .ok (.ifCond .eq 15, 3) := by decide +kernel
theorem dX6_as_8 : decode cX6_as 8 = .ok (.iload_n 2, 1) := by decide +kernel
theorem dX6_as_9 : decode cX6_as 9 = .ok (.i2l, 1) := by decide +kernel
theorem dX6_as_10 : decode cX6_as 10 = .ok (.lconst 0, 1) := by decide +kernel
theorem dX6_as_11 : decode cX6_as 11 = .ok (.ldc2_w 201, 3) := by decide +kernel
theorem dX6_as_14 : decode cX6_as 14 = .ok (.invokestatic 54, 3) := by decide +kernel
theorem dX6_as_17 : decode cX6_as 17 = .ok (.ifCond .ne 6, 3) := by decide +kernel
theorem dX6_as_20 : decode cX6_as 20 = .ok (.ldc 64, 2) := by decide +kernel
theorem dX6_as_22 : decode cX6_as 22 = .ok (.ireturn, 1) := by decide +kernel
theorem dX6_as_23 : decode cX6_as 23 = .ok (.aload_n 0, 1) := by decide +kernel
theorem dX6_as_24 : decode cX6_as 24 = .ok (.getfield 22, 3) := by decide +kernel
theorem dX6_as_27 : decode cX6_as 27 = .ok (.iconst 5, 1) := by decide +kernel
theorem dX6_as_28 : decode cX6_as 28 = .ok (.iload_n 1, 1) := by decide +kernel
theorem dX6_as_29 : decode cX6_as 29 = .ok (.iadd, 1) := by decide +kernel
theorem dX6_as_30 : decode cX6_as 30 = .ok (.iaload, 1) := by decide +kernel
theorem dX6_as_31 : decode cX6_as 31 = .ok (.iload_n 2, 1) := by decide +kernel
theorem dX6_as_32 : decode cX6_as 32 = .ok (.invokestatic 224, 3) := by decide +kernel
theorem dX6_as_35 : decode cX6_as 35 = .ok (.ifCond .eq 11, 3) := by decide +kernel
theorem dX6_as_38 : decode cX6_as 38 = .ok (.aload_n 0, 1) := by decide +kernel
theorem dX6_as_39 : decode cX6_as 39 = .ok (.iload_n 1, 1) := by decide +kernel
theorem dX6_as_40 : decode cX6_as 40 = .ok (.invokevirtual 69, 3) := by decide +kernel
theorem dX6_as_43 : decode cX6_as 43 = .ok (.goto 8, 3) := by decide +kernel
theorem dX6_as_46 : decode cX6_as 46 = .ok (.aload_n 0, 1) := by decide +kernel
theorem dX6_as_47 : decode cX6_as 47 = .ok (.iconst 3, 1) := by decide +kernel
theorem dX6_as_48 : decode cX6_as 48 = .ok (.invokevirtual 65, 3) := by decide +kernel
theorem dX6_as_51 : decode cX6_as 51 = .ok (.ireturn, 1) := by decide +kernel
theorem dX6_leave_0 : decode cX6_leave 0 = .ok (.lconst 1, 1) := by decide +kernel
theorem dX6_leave_1 : decode cX6_leave 1 = .ok (.lstore_n 3, 1) := by decide +kernel
theorem dX6_leave_2 : decode cX6_leave 2 = .ok (.lload_n 3, 1) := by decide +kernel
theorem dX6_leave_3 : decode cX6_leave 3 = .ok (.ldc2_w 227, 3) := by decide +kernel
theorem dX6_leave_6 : decode cX6_leave 6 = .ok (.lmul, 1) := by decide +kernel
theorem dX6_leave_7 : decode cX6_leave 7 = .ok (.lload_n 1, 1) := by decide +kernel
theorem dX6_leave_8 : decode cX6_leave 8 = .ok (.lcmp, 1) := by decide +kernel
theorem dX6_leave_9 : decode cX6_leave 9 = .ok (.ifCond .gt 12, 3) := by decide +kernel
theorem dX6_leave_12 : decode cX6_leave 12 = .ok (.lload_n 3, 1) := by decide +kernel
theorem dX6_leave_13 : decode cX6_leave 13 = .ok (.ldc2_w 227, 3) := by decide +kernel
theorem dX6_leave_16 : decode cX6_leave 16 = .ok (.lmul, 1) := by decide +kernel
theorem dX6_leave_17 : decode cX6_leave 17 = .ok (.lstore_n 3, 1) := by decide +kernel
theorem dX6_leave_18 : decode cX6_leave 18 = .ok (.goto (-16), 3) := by decide +kernel
theorem dX6_leave_21 : decode cX6_leave 21 = .ok (.lload_n 1, 1) := by decide +kernel
theorem dX6_leave_22 : decode cX6_leave 22 = .ok (.lstore 5, 2) := by decide +kernel
theorem dX6_leave_24 : decode cX6_leave 24 = .ok (.lload_n 3, 1) := by decide +kernel
theorem dX6_leave_25 : decode cX6_leave 25 = .ok (.lconst 0, 1) := by decide +kernel
theorem dX6_leave_26 : decode cX6_leave 26 = .ok (.lcmp, 1) := by decide +kernel
theorem dX6_leave_27 : decode cX6_leave 27 = .ok (.ifCond .le 42, 3) := by decide +kernel
theorem dX6_leave_30 : decode cX6_leave 30 = .ok (.aload_n 0, 1) := by decide +kernel
theorem dX6_leave_31 : decode cX6_leave 31 = .ok (.getfield 35, 3) := by decide +kernel
theorem dX6_leave_34 : decode cX6_leave 34 = .ok (.aload_n 0, 1) := by decide +kernel
theorem dX6_leave_35 : decode cX6_leave 35 = .ok (.getfield 229, 3) := by decide +kernel
theorem dX6_leave_38 : decode cX6_leave 38 = .ok (.lload 5, 2) := by decide +kernel
theorem dX6_leave_40 : decode cX6_leave 40 = .ok (.lload_n 3, 1) := by decide +kernel
theorem dX6_leave_41 : decode cX6_leave 41 = .ok (.ldiv, 1) := by decide +kernel
theorem dX6_leave_42 : decode cX6_leave 42 = .ok (.l2i, 1) := by decide +kernel
theorem dX6_leave_43 : decode cX6_leave 43 = .ok (.iastore, 1) := by decide +kernel
theorem dX6_leave_44 : decode cX6_leave 44 = .ok (.lload 5, 2) := by decide +kernel
theorem dX6_leave_46 : decode cX6_leave 46 = .ok (.lload_n 3, 1) := by decide +kernel
theorem dX6_leave_47 : decode cX6_leave 47 = .ok (.lrem, 1) := by decide +kernel
theorem dX6_leave_48 : decode cX6_leave 48 = .ok (.lstore 5, 2) := by decide +kernel
theorem dX6_leave_50 : decode cX6_leave 50 = .ok (.aload_n 0, 1) := by decide +kernel
theorem dX6_leave_51 : decode cX6_leave 51 = .ok (.dup, 1) := by decide +kernel
theorem dX6_leave_52 : decode cX6_leave 52 = .ok (.getfield 229, 3) := by decide +kernel
theorem dX6_leave_55 : decode cX6_leave 55 = .ok (.iconst 1, 1) := by decide +kernel
theorem dX6_leave_56 : decode cX6_leave 56 = .ok (.iadd, 1) := by decide +kernel
theorem dX6_leave_57 : decode cX6_leave 57 = .ok (.putfield 229, 3) := by decide +kernel
theorem dX6_leave_60 : decode cX6_leave 60 = .ok (.lload_n 3, 1) := by decide +kernel
theorem dX6_leave_61 : decode cX6_leave 61 = .ok (.ldc2_w 227, 3) := by decide +kernel
theorem dX6_leave_64 : decode cX6_leave 64 = .ok (.ldiv, 1) := by decide +kernel
theorem dX6_leave_65 : decode cX6_leave 65 = .ok (.lstore_n 3, 1) := by decide +kernel
theorem dX6_leave_66 : decode cX6_leave 66 = .ok (.goto (-42), 3) := by decide +kernel
theorem dX6_leave_69 : decode cX6_leave 69 = .ok (.return_, 1) := by decide +kernel
theorem dX6_mark_0 : decode cX6_mark 0 = .ok (.aload_n 0, 1) := by decide +kernel
theorem dX6_mark_1 : decode cX6_mark 1 = .ok (.getfield 22, 3) := by decide +kernel
theorem dX6_mark_4 : decode cX6_mark 4 = .ok (.iconst 5, 1) := by decide +kernel
theorem dX6_mark_5 : decode cX6_mark 5 = .ok (.iload_n 1, 1) := by decide +kernel
theorem dX6_mark_6 : decode cX6_mark 6 = .ok (.iadd, 1) := by decide +kernel
theorem dX6_mark_7 : decode cX6_mark 7 = .ok (.iaload, 1) := by decide +kernel
theorem dX6_mark_8 : decode cX6_mark 8 = .ok (.istore_n 2, 1) := by decide +kernel
theorem dX6_mark_9 : decode cX6_mark 9 = .ok (.iload_n 1, 1) := by decide +kernel
theorem dX6_mark_10 : decode cX6_mark 10 = .ok (.aload_n 0, 1) := by decide +kernel
theorem dX6_mark_11 : decode cX6_mark 11 = .ok (.getfield 22, 3) := by decide +kernel
theorem dX6_mark_14 : decode cX6_mark 14 = .ok (.bipush 12, 2) := by decide +kernel
theorem dX6_mark_16 : decode cX6_mark 16 = .ok (.iload_n 1, 1) := by decide +kernel
theorem dX6_mark_17 : decode cX6_mark 17 = .ok (.iadd, 1) := by decide +kernel
theorem dX6_mark_18 : decode cX6_mark 18 = .ok (.iaload, 1) := by decide +kernel
theorem dX6_mark_19 : decode cX6_mark 19 = .ok (.iadd, 1) := by decide +kernel
theorem dX6_mark_20 : decode cX6_mark 20 = .ok (.istore_n 3, 1) := by decide +kernel
theorem dX6_mark_21 : decode cX6_mark 21 = .ok (.aload_n 0, 1) := by decide +kernel
theorem dX6_mark_22 : decode cX6_mark 22 = .ok (.iload_n 2, 1) := by decide +kernel
theorem dX6_mark_23 : decode cX6_mark 23 = .ok (.iconst 2, 1) := by decide +kernel
theorem dX6_mark_24 : decode cX6_mark 24 = .ok (.if_icmp .ne 9, 3) := by decide +kernel
theorem dX6_mark_27 : decode cX6_mark 27 = .ok (.ldc2_w 232, 3) := by decide +kernel
theorem dX6_mark_30 : decode cX6_mark 30 = .ok (.goto 17, 3) := by decide +kernel
theorem dX6_mark_33 : decode cX6_mark 33 = .ok (.iload_n 2, 1) := by decide +kernel
theorem dX6_mark_34 : decode cX6_mark 34 = .ok (.iconst 3, 1) := by decide +kernel
theorem dX6_mark_35 : decode cX6_mark 35 = .ok (.if_icmp .ne 9, 3) := by decide +kernel
theorem dX6_mark_38 : decode cX6_mark 38 = .ok (.ldc2_w 234, 3) := by decide +kernel
theorem dX6_mark_41 : decode cX6_mark 41 = .ok (.goto 6, 3) := by decide +kernel
theorem dX6_mark_44 : decode cX6_mark 44 = .ok (.ldc2_w 236, 3) := by decide +kernel
theorem dX6_mark_47 : decode cX6_mark 47 = .ok (.invokevirtual 238, 3) := by decide +kernel
theorem dX6_mark_50 : decode cX6_mark 50 = .ok (.iload_n 2, 1) := by decide +kernel
theorem dX6_mark_51 : decode cX6_mark 51 = .ok (.iconst 2, 1) := by decide +kernel
theorem dX6_mark_52 : decode cX6_mark 52 = .ok (.if_icmp .ne 9, 3) := by decide +kernel
theorem dX6_mark_55 : decode cX6_mark 55 = .ok (.iconst 2, 1) := by decide +kernel
theorem dX6_mark_56 : decode cX6_mark 56 = .ok (.iload_n 3, 1) := by decide +kernel
theorem dX6_mark_57 : decode cX6_mark 57 = .ok (.imul, 1) := by decide +kernel
theorem dX6_mark_58 : decode cX6_mark 58 = .ok (.goto 17, 3) := by decide +kernel
theorem dX6_mark_61 : decode cX6_mark 61 = .ok (.iload_n 2, 1) := by decide +kernel
theorem dX6_mark_62 : decode cX6_mark 62 = .ok (.iconst 3, 1) := by decide +kernel
theorem dX6_mark_63 : decode cX6_mark 63 = .ok (.if_icmp .ne 11, 3) := by decide +kernel
theorem dX6_mark_66 : decode cX6_mark 66 = .ok (.iload_n 3, 1) := by decide +kernel
theorem dX6_mark_67 : decode cX6_mark 67 = .ok (.sipush 1000, 3) := by decide +kernel
theorem dX6_mark_70 : decode cX6_mark 70 = .ok (.isub, 1) := by decide +kernel
theorem dX6_mark_71 : decode cX6_mark 71 = .ok (.goto 4, 3) := by decide +kernel
theorem dX6_mark_74 : decode cX6_mark 74 = .ok (.iload_n 3, 1) := by decide +kernel
theorem dX6_mark_75 : decode cX6_mark 75 = .ok (.ireturn, 1) := by decide +kernel
theorem dX6_sizeOf_0 : decode cX6_sizeOf 0 = .ok (.aload_n 0, 1) := by decide +kernel
theorem dX6_sizeOf_1 : decode cX6_sizeOf 1 = .ok (.getfield 22, 3) := by decide +kernel
theorem dX6_sizeOf_4 : decode cX6_sizeOf 4 = .ok (.bipush 26, 2) := by decide +kernel
theorem dX6_sizeOf_6 : decode cX6_sizeOf 6 = .ok (.iload_n 1, 1) := by decide +kernel
theorem dX6_sizeOf_7 : decode cX6_sizeOf 7 = .ok (.iadd, 1) := by decide +kernel
theorem dX6_sizeOf_8 : decode cX6_sizeOf 8 = .ok (.iaload, 1) := by decide +kernel
theorem dX6_sizeOf_9 : decode cX6_sizeOf 9 = .ok (.bipush 100, 2) := by decide +kernel
theorem dX6_sizeOf_11 : decode cX6_sizeOf 11 = .ok (.isub, 1) := by decide +kernel
theorem dX6_sizeOf_12 : decode cX6_sizeOf 12 = .ok (.istore_n 2, 1) := by decide +kernel
theorem dX6_sizeOf_13 : decode cX6_sizeOf 13 = .ok (.aload_n 0, 1) := by decide +kernel
theorem dX6_sizeOf_14 : decode cX6_sizeOf 14 = .ok (.getfield 22, 3) := by decide +kernel
theorem dX6_sizeOf_17 : decode cX6_sizeOf 17 = .ok (.iconst 5, 1) := by decide +kernel
theorem dX6_sizeOf_18 : decode cX6_sizeOf 18 = .ok (.iload_n 1, 1) := by decide +kernel
theorem dX6_sizeOf_19 : decode cX6_sizeOf 19 = .ok (.iadd, 1) := by decide +kernel
theorem dX6_sizeOf_20 : decode cX6_sizeOf 20 = .ok (.iaload, 1) := by decide +kernel
theorem dX6_sizeOf_21 : decode cX6_sizeOf 21 = .ok (.iconst 5, 1) := by decide +kernel
theorem dX6_sizeOf_22 : decode cX6_sizeOf 22 = .ok (.if_icmp .ne 7, 3) := by decide +kernel
theorem dX6_sizeOf_25 : decode cX6_sizeOf 25 = .ok (.iconst 1, 1) := by decide +kernel
theorem dX6_sizeOf_26 : decode cX6_sizeOf 26 = .ok (.goto 4, 3) := by decide +kernel
theorem dX6_sizeOf_29 : decode cX6_sizeOf 29 = .ok (.iconst 0, 1) := by decide +kernel
theorem dX6_sizeOf_30 : decode cX6_sizeOf 30 = .ok (.istore_n 3, 1) := by decide +kernel
theorem dX6_sizeOf_31 : decode cX6_sizeOf 31 = .ok (.aload_n 0, 1) := by decide +kernel
theorem dX6_sizeOf_32 : decode cX6_sizeOf 32 = .ok (.iload_n 3, 1) := by decide +kernel
theorem dX6_sizeOf_33 : decode cX6_sizeOf 33 = .ok (.ifCond .eq 9, 3) := by decide +kernel
theorem dX6_sizeOf_36 : decode cX6_sizeOf 36 = .ok (.ldc2_w 242, 3) := by decide +kernel
theorem dX6_sizeOf_39 : decode cX6_sizeOf 39 = .ok (.goto 6, 3) := by decide +kernel
theorem dX6_sizeOf_42 : decode cX6_sizeOf 42 = .ok (.ldc2_w 244, 3) := by decide +kernel
theorem dX6_sizeOf_45 : decode cX6_sizeOf 45 = .ok (.invokevirtual 238, 3) := by decide +kernel
theorem dX6_sizeOf_48 : decode cX6_sizeOf 48 = .ok (.iload_n 3, 1) := by decide +kernel
theorem dX6_sizeOf_49 : decode cX6_sizeOf 49 = .ok (.ifCond .eq 9, 3) := by decide +kernel
theorem dX6_sizeOf_52 : decode cX6_sizeOf 52 = .ok (.iconst 2, 1) := by decide +kernel
theorem dX6_sizeOf_53 : decode cX6_sizeOf 53 = .ok (.iload_n 2, 1) := by decide +kernel
theorem dX6_sizeOf_54 : decode cX6_sizeOf 54 = .ok (.imul, 1) := by decide +kernel
theorem dX6_sizeOf_55 : decode cX6_sizeOf 55 = .ok (.goto 4, 3) := by decide +kernel
theorem dX6_sizeOf_58 : decode cX6_sizeOf 58 = .ok (.iload_n 2, 1) := by decide +kernel
theorem dX6_sizeOf_59 : decode cX6_sizeOf 59 = .ok (.ireturn, 1) := by decide +kernel
theorem dX6_ask_0 : decode cX6_ask 0 = .ok (.aload_n 0, 1) := by decide +kernel
theorem dX6_ask_1 : decode cX6_ask 1 = .ok (.iload_n 1, 1) := by decide +kernel
theorem dX6_ask_2 : decode cX6_ask 2 = .ok (.invokevirtual 198, 3) := by decide +kernel
theorem dX6_ask_5 : decode cX6_ask 5 = .ok (.ifCond .eq 13, 3) := by decide +kernel
theorem dX6_ask_8 : decode cX6_ask 8 = .ok (.iload_n 2, 1) := by decide +kernel
theorem dX6_ask_9 : decode cX6_ask 9 = .ok (.i2l, 1) := by decide +kernel
theorem dX6_ask_10 : decode cX6_ask 10 = .ok (.lconst 0, 1) := by decide +kernel
theorem dX6_ask_11 : decode cX6_ask 11 = .ok (.lconst 1, 1) := by decide +kernel
theorem dX6_ask_12 : decode cX6_ask 12 = .ok (.invokestatic 54, 3) := by decide +kernel
theorem dX6_ask_15 : decode cX6_ask 15 = .ok (.ifCond .ne 6, 3) := by decide +kernel
theorem dX6_ask_18 : decode cX6_ask 18 = .ok (.ldc 64, 2) := by decide +kernel
theorem dX6_ask_20 : decode cX6_ask 20 = .ok (.ireturn, 1) := by decide +kernel
theorem dX6_ask_21 : decode cX6_ask 21 = .ok (.aload_n 0, 1) := by decide +kernel
theorem dX6_ask_22 : decode cX6_ask 22 = .ok (.iconst 0, 1) := by decide +kernel
theorem dX6_ask_23 : decode cX6_ask 23 = .ok (.putfield 229, 3) := by decide +kernel
theorem dX6_ask_26 : decode cX6_ask 26 = .ok (.aload_n 0, 1) := by decide +kernel
theorem dX6_ask_27 : decode cX6_ask 27 = .ok (.getfield 22, 3) := by decide +kernel
theorem dX6_ask_30 : decode cX6_ask 30 = .ok (.iconst 5, 1) := by decide +kernel
theorem dX6_ask_31 : decode cX6_ask 31 = .ok (.iload_n 1, 1) := by decide +kernel
theorem dX6_ask_32 : decode cX6_ask 32 = .ok (.iadd, 1) := by decide +kernel
theorem dX6_ask_33 : decode cX6_ask 33 = .ok (.iaload, 1) := by decide +kernel
theorem dX6_ask_34 : decode cX6_ask 34 = .ok (.istore_n 3, 1) := by decide +kernel
theorem dX6_ask_35 : decode cX6_ask 35 = .ok (.iload_n 3, 1) := by decide +kernel
theorem dX6_ask_36 : decode cX6_ask 36 = .ok (.iconst 4, 1) := by decide +kernel
theorem dX6_ask_37 : decode cX6_ask 37 = .ok (.if_icmp .ge 63, 3) := by decide +kernel
theorem dX6_ask_40 : decode cX6_ask 40 = .ok (.iload_n 2, 1) := by decide +kernel
theorem dX6_ask_41 : decode cX6_ask 41 = .ok (.iconst 1, 1) := by decide +kernel
theorem dX6_ask_42 : decode cX6_ask 42 = .ok (.if_icmp .ne 9, 3) := by decide +kernel
theorem dX6_ask_45 : decode cX6_ask 45 = .ok (.aload_n 0, 1) := by decide +kernel
theorem dX6_ask_46 : decode cX6_ask 46 = .ok (.iload_n 1, 1) := by decide +kernel
theorem dX6_ask_47 : decode cX6_ask 47 = .ok (.invokevirtual 246, 3) := by decide +kernel
theorem dX6_ask_50 : decode cX6_ask 50 = .ok (.ireturn, 1) := by decide +kernel
theorem dX6_ask_51 : decode cX6_ask 51 = .ok (.aload_n 0, 1) := by decide +kernel
theorem dX6_ask_52 : decode cX6_ask 52 = .ok (.iload_n 3, 1) := by decide +kernel
theorem dX6_ask_53 : decode cX6_ask 53 = .ok (.iconst 2, 1) := by decide +kernel
theorem dX6_ask_54 : decode cX6_ask 54 = .ok (.if_icmp .ne 9, 3) := by decide +kernel
theorem dX6_ask_57 : decode cX6_ask 57 = .ok (.ldc2_w 249, 3) := by decide +kernel
theorem dX6_ask_60 : decode cX6_ask 60 = .ok (.goto 6, 3) := by decide +kernel
theorem dX6_ask_63 : decode cX6_ask 63 = .ok (.ldc2_w 251, 3) := by decide +kernel
theorem dX6_ask_66 : decode cX6_ask 66 = .ok (.invokevirtual 238, 3) := by decide +kernel
theorem dX6_ask_69 : decode cX6_ask 69 = .ok (.aload_n 0, 1) := by decide +kernel
theorem dX6_ask_70 : decode cX6_ask 70 = .ok (.getfield 22, 3) := by decide +kernel
theorem dX6_ask_73 : decode cX6_ask 73 = .ok (.bipush 26, 2) := by decide +kernel
theorem dX6_ask_75 : decode cX6_ask 75 = .ok (.iload_n 1, 1) := by decide +kernel
theorem dX6_ask_76 : decode cX6_ask 76 = .ok (.iadd, 1) := by decide +kernel
theorem dX6_ask_77 : decode cX6_ask 77 = .ok (.iaload, 1) := by decide +kernel
theorem dX6_ask_78 : decode cX6_ask 78 = .ok (.aload_n 0, 1) := by decide +kernel
theorem dX6_ask_79 : decode cX6_ask 79 = .ok (.iload_n 1, 1) := by decide +kernel
theorem dX6_ask_80 : decode cX6_ask 80 = .ok (.invokevirtual 246, 3) := by decide +kernel
theorem dX6_ask_83 : decode cX6_ask 83 = .ok (.iadd, 1) := by decide +kernel
theorem dX6_ask_84 : decode cX6_ask 84 = .ok (.istore 4, 2) := by decide +kernel
theorem dX6_ask_86 : decode cX6_ask 86 = .ok (.iload_n 3, 1) := by decide +kernel
theorem dX6_ask_87 : decode cX6_ask 87 = .ok (.iconst 2, 1) := by decide +kernel
theorem dX6_ask_88 : decode cX6_ask 88 = .ok (.if_icmp .ne 9, 3) := by decide +kernel
theorem dX6_ask_91 : decode cX6_ask 91 = .ok (.iload 4, 2) := by decide +kernel
theorem dX6_ask_93 : decode cX6_ask 93 = .ok (.ineg, 1) := by decide +kernel
theorem dX6_ask_94 : decode cX6_ask 94 = .ok (.goto 5, 3) := by decide +kernel
theorem dX6_ask_97 : decode cX6_ask 97 = .ok (.iload 4, 2) := by decide +kernel
theorem dX6_ask_99 : decode cX6_ask 99 = .ok (.ireturn, 1) := by decide +kernel
theorem dX6_ask_100 : decode cX6_ask 100 = .ok (.iload_n 2, 1) := by decide +kernel
theorem dX6_ask_101 : decode cX6_ask 101 = .ok (.ifCond .ne 9, 3) := by decide +kernel
theorem dX6_ask_104 : decode cX6_ask 104 = .ok (.aload_n 0, 1) := by decide +kernel
theorem dX6_ask_105 : decode cX6_ask 105 = .ok (.iload_n 1, 1) := by decide +kernel
theorem dX6_ask_106 : decode cX6_ask 106 = .ok (.invokevirtual 253, 3) := by decide +kernel
theorem dX6_ask_109 : decode cX6_ask 109 = .ok (.ireturn, 1) := by decide +kernel
theorem dX6_ask_110 : decode cX6_ask 110 = .ok (.aload_n 0, 1) := by decide +kernel
theorem dX6_ask_111 : decode cX6_ask 111 = .ok (.ldc2_w 256, 3) := by decide +kernel
theorem dX6_ask_114 : decode cX6_ask 114 = .ok (.invokevirtual 238, 3) := by decide +kernel
theorem dX6_ask_117 : decode cX6_ask 117 = .ok (.iload_n 1, 1) := by decide +kernel
theorem dX6_ask_118 : decode cX6_ask 118 = .ok (.aload_n 0, 1) := by decide +kernel
theorem dX6_ask_119 : decode cX6_ask 119 = .ok (.iload_n 1, 1) := by decide +kernel
theorem dX6_ask_120 : decode cX6_ask 120 = .ok (.invokevirtual 253, 3) := by decide +kernel
theorem dX6_ask_123 : decode cX6_ask 123 = .ok (.isub, 1) := by decide +kernel
theorem dX6_ask_124 : decode cX6_ask 124 = .ok (.ireturn, 1) := by decide +kernel
theorem dX6_trace_0 : decode cX6_trace 0 = .ok (.iload_n 1, 1) := by decide +kernel
theorem dX6_trace_1 : decode cX6_trace 1 = .ok (.i2l, 1) := by decide +kernel
theorem dX6_trace_2 : decode cX6_trace 2 = .ok (.lconst 0, 1) := by decide +kernel
theorem dX6_trace_3 : decode cX6_trace 3 = .ok (.aload_n 0, 1) := by decide +kernel
theorem dX6_trace_4 : decode cX6_trace 4 = .ok (.getfield 229, 3) := by decide +kernel
theorem dX6_trace_7 : decode cX6_trace 7 = .ok (.iconst 1, 1) := by decide +kernel
theorem dX6_trace_8 : decode cX6_trace 8 = .ok (.isub, 1) := by decide +kernel
theorem dX6_trace_9 : decode cX6_trace 9 = .ok (.i2l, 1) := by decide +kernel
theorem dX6_trace_10 : decode cX6_trace 10 = .ok (.invokestatic 54, 3) := by decide +kernel
theorem dX6_trace_13 : decode cX6_trace 13 = .ok (.ifCond .eq 12, 3) := by decide +kernel
theorem dX6_trace_16 : decode cX6_trace 16 = .ok (.aload_n 0, 1) := by decide +kernel
theorem dX6_trace_17 : decode cX6_trace 17 = .ok (.getfield 35, 3) := by decide +kernel
theorem dX6_trace_20 : decode cX6_trace 20 = .ok (.iload_n 1, 1) := by decide +kernel
theorem dX6_trace_21 : decode cX6_trace 21 = .ok (.iaload, 1) := by decide +kernel
theorem dX6_trace_22 : decode cX6_trace 22 = .ok (.goto 5, 3) := by decide +kernel
theorem dX6_trace_25 : decode cX6_trace 25 = .ok (.ldc 208, 2) := by decide +kernel
theorem dX6_trace_27 : decode cX6_trace 27 = .ok (.ireturn, 1) := by decide +kernel
theorem dX6_count_0 : decode cX6_count 0 = .ok (.iconst 0, 1) := by decide +kernel
theorem dX6_count_1 : decode cX6_count 1 = .ok (.istore_n 2, 1) := by decide +kernel
theorem dX6_count_2 : decode cX6_count 2 = .ok (.iconst 0, 1) := by decide +kernel
theorem dX6_count_3 : decode cX6_count 3 = .ok (.istore_n 3, 1) := by decide +kernel
theorem dX6_count_4 : decode cX6_count 4 = .ok (.iconst 0, 1) := by decide +kernel
theorem dX6_count_5 : decode cX6_count 5 = .ok (.istore 4, 2) := by decide +kernel
theorem dX6_count_7 : decode cX6_count 7 = .ok (.iconst 0, 1) := by decide +kernel
theorem dX6_count_8 : decode cX6_count 8 = .ok (.istore 5, 2) := by decide +kernel
theorem dX6_count_10 : decode cX6_count 10 = .ok (.iload 5, 2) := by decide +kernel
theorem dX6_count_12 : decode cX6_count 12 = .ok (.bipush 8, 2) := by decide +kernel
theorem dX6_count_14 : decode cX6_count 14 = .ok (.if_icmp .ge 27, 3) := by decide +kernel
theorem dX6_count_17 : decode cX6_count 17 = .ok (.iload_n 2, 1) := by decide +kernel
theorem dX6_count_18 : decode cX6_count 18 = .ok (.aload_n 0, 1) := by decide +kernel
theorem dX6_count_19 : decode cX6_count 19 = .ok (.getfield 13, 3) := by decide +kernel
theorem dX6_count_22 : decode cX6_count 22 = .ok (.iload 5, 2) := by decide +kernel
theorem dX6_count_24 : decode cX6_count 24 = .ok (.iaload, 1) := by decide +kernel
theorem dX6_count_25 : decode cX6_count 25 = .ok (.ifCond .ge 7, 3) := by decide +kernel
theorem dX6_count_28 : decode cX6_count 28 = .ok (.iconst 0, 1) := by decide +kernel
theorem dX6_count_29 : decode cX6_count 29 = .ok (.goto 4, 3) := by decide +kernel
theorem dX6_count_32 : decode cX6_count 32 = .ok (.iconst 1, 1) := by decide +kernel
theorem dX6_count_33 : decode cX6_count 33 = .ok (.iadd, 1) := by decide +kernel
theorem dX6_count_34 : decode cX6_count 34 = .ok (.istore_n 2, 1) := by decide +kernel
theorem dX6_count_35 : decode cX6_count 35 = .ok (.iinc 5 1, 3) := by decide +kernel
theorem dX6_count_38 : decode cX6_count 38 = .ok (.goto (-28), 3) := by decide +kernel
theorem dX6_count_41 : decode cX6_count 41 = .ok (.iconst 0, 1) := by decide +kernel
theorem dX6_count_42 : decode cX6_count 42 = .ok (.istore 5, 2) := by decide +kernel
theorem dX6_count_44 : decode cX6_count 44 = .ok (.iload 5, 2) := by decide +kernel
theorem dX6_count_46 : decode cX6_count 46 = .ok (.aload_n 0, 1) := by decide +kernel
theorem dX6_count_47 : decode cX6_count 47 = .ok (.getfield 22, 3) := by decide +kernel
theorem dX6_count_50 : decode cX6_count 50 = .ok (.iconst 2, 1) := by decide +kernel
theorem dX6_count_51 : decode cX6_count 51 = .ok (.iaload, 1) := by decide +kernel
theorem dX6_count_52 : decode cX6_count 52 = .ok (.if_icmp .ge 37, 3) := by decide +kernel
theorem dX6_count_55 : decode cX6_count 55 = .ok (.iload_n 3, 1) := by decide +kernel
theorem dX6_count_56 : decode cX6_count 56 = .ok (.aload_n 0, 1) := by decide +kernel
theorem dX6_count_57 : decode cX6_count 57 = .ok (.getfield 22, 3) := by decide +kernel
theorem dX6_count_60 : decode cX6_count 60 = .ok (.bipush 26, 2) := by decide +kernel
theorem dX6_count_62 : decode cX6_count 62 = .ok (.iload 5, 2) := by decide +kernel
theorem dX6_count_64 : decode cX6_count 64 = .ok (.iadd, 1) := by decide +kernel
theorem dX6_count_65 : decode cX6_count 65 = .ok (.iaload, 1) := by decide +kernel
theorem dX6_count_66 : decode cX6_count 66 = .ok (.iadd, 1) := by decide +kernel
theorem dX6_count_67 : decode cX6_count 67 = .ok (.istore_n 3, 1) := by decide +kernel
theorem dX6_count_68 : decode cX6_count 68 = .ok (.iload 4, 2) := by decide +kernel
theorem dX6_count_70 : decode cX6_count 70 = .ok (.aload_n 0, 1) := by decide +kernel
theorem dX6_count_71 : decode cX6_count 71 = .ok (.getfield 22, 3) := by decide +kernel
theorem dX6_count_74 : decode cX6_count 74 = .ok (.bipush 33, 2) := by decide +kernel
theorem dX6_count_76 : decode cX6_count 76 = .ok (.iload 5, 2) := by decide +kernel
theorem dX6_count_78 : decode cX6_count 78 = .ok (.iadd, 1) := by decide +kernel
theorem dX6_count_79 : decode cX6_count 79 = .ok (.iaload, 1) := by decide +kernel
theorem dX6_count_80 : decode cX6_count 80 = .ok (.iadd, 1) := by decide +kernel
theorem dX6_count_81 : decode cX6_count 81 = .ok (.istore 4, 2) := by decide +kernel
theorem dX6_count_83 : decode cX6_count 83 = .ok (.iinc 5 1, 3) := by decide +kernel
theorem dX6_count_86 : decode cX6_count 86 = .ok (.goto (-42), 3) := by decide +kernel
theorem dX6_count_89 : decode cX6_count 89 = .ok (.iload_n 1, 1) := by decide +kernel
theorem dX6_count_90 : decode cX6_count 90 = .ok (.tableswitch 73 0 6 #[42, 44, 51, 58, 60, 65, 68], 42) := by decide +kernel
theorem dX6_count_132 : decode cX6_count 132 = .ok (.iload_n 2, 1) := by decide +kernel
theorem dX6_count_133 : decode cX6_count 133 = .ok (.ireturn, 1) := by decide +kernel
theorem dX6_count_134 : decode cX6_count 134 = .ok (.aload_n 0, 1) := by decide +kernel
theorem dX6_count_135 : decode cX6_count 135 = .ok (.getfield 22, 3) := by decide +kernel
theorem dX6_count_138 : decode cX6_count 138 = .ok (.iconst 2, 1) := by decide +kernel
theorem dX6_count_139 : decode cX6_count 139 = .ok (.iaload, 1) := by decide +kernel
theorem dX6_count_140 : decode cX6_count 140 = .ok (.ireturn, 1) := by decide +kernel
theorem dX6_count_141 : decode cX6_count 141 = .ok (.aload_n 0, 1) := by decide +kernel
theorem dX6_count_142 : decode cX6_count 142 = .ok (.getfield 22, 3) := by decide +kernel
theorem dX6_count_145 : decode cX6_count 145 = .ok (.iconst 3, 1) := by decide +kernel
theorem dX6_count_146 : decode cX6_count 146 = .ok (.iaload, 1) := by decide +kernel
theorem dX6_count_147 : decode cX6_count 147 = .ok (.ireturn, 1) := by decide +kernel
theorem dX6_count_148 : decode cX6_count 148 = .ok (.iload_n 3, 1) := by decide +kernel
theorem dX6_count_149 : decode cX6_count 149 = .ok (.ireturn, 1) := by decide +kernel
theorem dX6_count_150 : decode cX6_count 150 = .ok (.aload_n 0, 1) := by decide +kernel
theorem dX6_count_151 : decode cX6_count 151 = .ok (.getfield 162, 3) := by decide +kernel
theorem dX6_count_154 : decode cX6_count 154 = .ok (.ireturn, 1) := by decide +kernel
theorem dX6_count_155 : decode cX6_count 155 = .ok (.iload 4, 2) := by decide +kernel
theorem dX6_count_157 : decode cX6_count 157 = .ok (.ireturn, 1) := by decide +kernel
theorem dX6_count_158 : decode cX6_count 158 = .ok (.aload_n 0, 1) := by decide +kernel
theorem dX6_count_159 : decode cX6_count 159 = .ok (.getfield 74, 3) := by decide +kernel
theorem dX6_count_162 : decode cX6_count 162 = .ok (.ireturn, 1) := by decide +kernel
theorem dX6_count_163 : decode cX6_count 163 = .ok (.ldc 64, 2) := by decide +kernel
theorem dX6_count_165 : decode cX6_count 165 = .ok (.ireturn, 1) := by decide +kernel
theorem dX6_status_0 : decode cX6_status 0 = .ok (.aload_n 0, 1) := by decide +kernel
theorem dX6_status_1 : decode cX6_status 1 = .ok (.getfield 47, 3) := by decide +kernel
theorem dX6_status_4 : decode cX6_status 4 = .ok (.ireturn, 1) := by decide +kernel
theorem dJ6_bitCount_0f7a4_0 : decode cJ6_bitCount_0f7a4 0 = .ok (.iload_n 0, 1) := by decide +kernel
theorem dJ6_bitCount_0f7a4_1 : decode cJ6_bitCount_0f7a4 1 = .ok (.iload_n 0, 1) := by decide +kernel
theorem dJ6_bitCount_0f7a4_2 : decode cJ6_bitCount_0f7a4 2 = .ok (.iconst 1, 1) := by decide +kernel
theorem dJ6_bitCount_0f7a4_3 : decode cJ6_bitCount_0f7a4 3 = .ok (.iushr, 1) := by decide +kernel
theorem dJ6_bitCount_0f7a4_4 : decode cJ6_bitCount_0f7a4 4 = .ok (.ldc_w 265, 3) := by decide +kernel
theorem dJ6_bitCount_0f7a4_7 : decode cJ6_bitCount_0f7a4 7 = .ok (.iand, 1) := by decide +kernel
theorem dJ6_bitCount_0f7a4_8 : decode cJ6_bitCount_0f7a4 8 = .ok (.isub, 1) := by decide +kernel
theorem dJ6_bitCount_0f7a4_9 : decode cJ6_bitCount_0f7a4 9 = .ok (.istore_n 0, 1) := by decide +kernel
theorem dJ6_bitCount_0f7a4_10 : decode cJ6_bitCount_0f7a4 10 = .ok (.iload_n 0, 1) := by decide +kernel
theorem dJ6_bitCount_0f7a4_11 : decode cJ6_bitCount_0f7a4 11 = .ok (.ldc_w 266, 3) := by decide +kernel
theorem dJ6_bitCount_0f7a4_14 : decode cJ6_bitCount_0f7a4 14 = .ok (.iand, 1) := by decide +kernel
theorem dJ6_bitCount_0f7a4_15 : decode cJ6_bitCount_0f7a4 15 = .ok (.iload_n 0, 1) := by decide +kernel
theorem dJ6_bitCount_0f7a4_16 : decode cJ6_bitCount_0f7a4 16 = .ok (.iconst 2, 1) := by decide +kernel
theorem dJ6_bitCount_0f7a4_17 : decode cJ6_bitCount_0f7a4 17 = .ok (.iushr, 1) := by decide +kernel
theorem dJ6_bitCount_0f7a4_18 : decode cJ6_bitCount_0f7a4 18 = .ok (.ldc_w 266, 3) := by decide +kernel
theorem dJ6_bitCount_0f7a4_21 : decode cJ6_bitCount_0f7a4 21 = .ok (.iand, 1) := by decide +kernel
theorem dJ6_bitCount_0f7a4_22 : decode cJ6_bitCount_0f7a4 22 = .ok (.iadd, 1) := by decide +kernel
theorem dJ6_bitCount_0f7a4_23 : decode cJ6_bitCount_0f7a4 23 = .ok (.istore_n 0, 1) := by decide +kernel
theorem dJ6_bitCount_0f7a4_24 : decode cJ6_bitCount_0f7a4 24 = .ok (.iload_n 0, 1) := by decide +kernel
theorem dJ6_bitCount_0f7a4_25 : decode cJ6_bitCount_0f7a4 25 = .ok (.iload_n 0, 1) := by decide +kernel
theorem dJ6_bitCount_0f7a4_26 : decode cJ6_bitCount_0f7a4 26 = .ok (.iconst 4, 1) := by decide +kernel
theorem dJ6_bitCount_0f7a4_27 : decode cJ6_bitCount_0f7a4 27 = .ok (.iushr, 1) := by decide +kernel
theorem dJ6_bitCount_0f7a4_28 : decode cJ6_bitCount_0f7a4 28 = .ok (.iadd, 1) := by decide +kernel
theorem dJ6_bitCount_0f7a4_29 : decode cJ6_bitCount_0f7a4 29 = .ok (.ldc_w 267, 3) := by decide +kernel
theorem dJ6_bitCount_0f7a4_32 : decode cJ6_bitCount_0f7a4 32 = .ok (.iand, 1) := by decide +kernel
theorem dJ6_bitCount_0f7a4_33 : decode cJ6_bitCount_0f7a4 33 = .ok (.istore_n 0, 1) := by decide +kernel
theorem dJ6_bitCount_0f7a4_34 : decode cJ6_bitCount_0f7a4 34 = .ok (.iload_n 0, 1) := by decide +kernel
theorem dJ6_bitCount_0f7a4_35 : decode cJ6_bitCount_0f7a4 35 = .ok (.iload_n 0, 1) := by decide +kernel
theorem dJ6_bitCount_0f7a4_36 : decode cJ6_bitCount_0f7a4 36 = .ok (.bipush 8, 2) := by decide +kernel
theorem dJ6_bitCount_0f7a4_38 : decode cJ6_bitCount_0f7a4 38 = .ok (.iushr, 1) := by decide +kernel
theorem dJ6_bitCount_0f7a4_39 : decode cJ6_bitCount_0f7a4 39 = .ok (.iadd, 1) := by decide +kernel
theorem dJ6_bitCount_0f7a4_40 : decode cJ6_bitCount_0f7a4 40 = .ok (.istore_n 0, 1) := by decide +kernel
theorem dJ6_bitCount_0f7a4_41 : decode cJ6_bitCount_0f7a4 41 = .ok (.iload_n 0, 1) := by decide +kernel
theorem dJ6_bitCount_0f7a4_42 : decode cJ6_bitCount_0f7a4 42 = .ok (.iload_n 0, 1) := by decide +kernel
theorem dJ6_bitCount_0f7a4_43 : decode cJ6_bitCount_0f7a4 43 = .ok (.bipush 16, 2) := by decide +kernel
theorem dJ6_bitCount_0f7a4_45 : decode cJ6_bitCount_0f7a4 45 = .ok (.iushr, 1) := by decide +kernel
theorem dJ6_bitCount_0f7a4_46 : decode cJ6_bitCount_0f7a4 46 = .ok (.iadd, 1) := by decide +kernel
theorem dJ6_bitCount_0f7a4_47 : decode cJ6_bitCount_0f7a4 47 = .ok (.istore_n 0, 1) := by decide +kernel
theorem dJ6_bitCount_0f7a4_48 : decode cJ6_bitCount_0f7a4 48 = .ok (.iload_n 0, 1) := by decide +kernel
theorem dJ6_bitCount_0f7a4_49 : decode cJ6_bitCount_0f7a4 49 = .ok (.bipush 63, 2) := by decide +kernel
theorem dJ6_bitCount_0f7a4_51 : decode cJ6_bitCount_0f7a4 51 = .ok (.iand, 1) := by decide +kernel
theorem dJ6_bitCount_0f7a4_52 : decode cJ6_bitCount_0f7a4 52 = .ok (.ireturn, 1) := by decide +kernel
theorem dJ9_min_7cf53_0 : decode cJ9_min_7cf53 0 = .ok (.iload_n 0, 1) := by decide +kernel
theorem dJ9_min_7cf53_1 : decode cJ9_min_7cf53 1 = .ok (.iload_n 1, 1) := by decide +kernel
theorem dJ9_min_7cf53_2 : decode cJ9_min_7cf53 2 = .ok (.if_icmp .gt 7, 3) := by decide +kernel
theorem dJ9_min_7cf53_5 : decode cJ9_min_7cf53 5 = .ok (.iload_n 0, 1) := by decide +kernel
theorem dJ9_min_7cf53_6 : decode cJ9_min_7cf53 6 = .ok (.goto 4, 3) := by decide +kernel
theorem dJ9_min_7cf53_9 : decode cJ9_min_7cf53 9 = .ok (.iload_n 1, 1) := by decide +kernel
theorem dJ9_min_7cf53_10 : decode cJ9_min_7cf53 10 = .ok (.ireturn, 1) := by decide +kernel
theorem dJ0_length_8abf5_0 : decode cJ0_length_8abf5 0 = .ok (.aload_n 0, 1) := by decide +kernel
theorem dJ0_length_8abf5_1 : decode cJ0_length_8abf5 1 = .ok (.getfield 9, 3) := by decide +kernel
theorem dJ0_length_8abf5_4 : decode cJ0_length_8abf5 4 = .ok (.arraylength, 1) := by decide +kernel
theorem dJ0_length_8abf5_5 : decode cJ0_length_8abf5 5 = .ok (.aload_n 0, 1) := by decide +kernel
theorem dJ0_length_8abf5_6 : decode cJ0_length_8abf5 6 = .ok (.invokevirtual 335, 3) := by decide +kernel
theorem dJ0_length_8abf5_9 : decode cJ0_length_8abf5 9 = .ok (.ishr, 1) := by decide +kernel
theorem dJ0_length_8abf5_10 : decode cJ0_length_8abf5 10 = .ok (.ireturn, 1) := by decide +kernel
theorem dJ0_charAt_5068e_0 : decode cJ0_charAt_5068e 0 = .ok (.aload_n 0, 1) := by decide +kernel
theorem dJ0_charAt_5068e_1 : decode cJ0_charAt_5068e 1 = .ok (.invokevirtual 492, 3) := by decide +kernel
theorem dJ0_charAt_5068e_4 : decode cJ0_charAt_5068e 4 = .ok (.ifCond .eq 12, 3) := by decide +kernel
theorem dJ0_charAt_5068e_7 : decode cJ0_charAt_5068e 7 = .ok (.aload_n 0, 1) := by decide +kernel
theorem dJ0_charAt_5068e_8 : decode cJ0_charAt_5068e 8 = .ok (.getfield 9, 3) := by decide +kernel
theorem dJ0_charAt_5068e_11 : decode cJ0_charAt_5068e 11 = .ok (.iload_n 1, 1) := by decide +kernel
theorem dJ0_charAt_5068e_12 : decode cJ0_charAt_5068e 12 = .ok (.invokestatic 495, 3) := by decide +kernel
theorem dJ0_charAt_5068e_15 : decode cJ0_charAt_5068e 15 = .ok (.ireturn, 1) := by decide +kernel
theorem dJ0_charAt_5068e_16 : decode cJ0_charAt_5068e 16 = .ok (.aload_n 0, 1) := by decide +kernel
theorem dJ0_charAt_5068e_17 : decode cJ0_charAt_5068e 17 = .ok (.getfield 9, 3) := by decide +kernel
theorem dJ0_charAt_5068e_20 : decode cJ0_charAt_5068e 20 = .ok (.iload_n 1, 1) := by decide +kernel
theorem dJ0_charAt_5068e_21 : decode cJ0_charAt_5068e 21 = .ok (.invokestatic 498, 3) := by decide +kernel
theorem dJ0_charAt_5068e_24 : decode cJ0_charAt_5068e 24 = .ok (.ireturn, 1) := by decide +kernel
theorem dJ0_coder_7d493_0 : decode cJ0_coder_7d493 0 = .ok (.getstatic 38, 3) := by decide +kernel
theorem dJ0_coder_7d493_3 : decode cJ0_coder_7d493 3 = .ok (.ifCond .eq 10, 3) := by decide +kernel
theorem dJ0_coder_7d493_6 : decode cJ0_coder_7d493 6 = .ok (.aload_n 0, 1) := by decide +kernel
theorem dJ0_coder_7d493_7 : decode cJ0_coder_7d493 7 = .ok (.getfield 15, 3) := by decide +kernel
theorem dJ0_coder_7d493_10 : decode cJ0_coder_7d493 10 = .ok (.goto 4, 3) := by decide +kernel
theorem dJ0_coder_7d493_13 : decode cJ0_coder_7d493 13 = .ok (.iconst 1, 1) := by decide +kernel
theorem dJ0_coder_7d493_14 : decode cJ0_coder_7d493 14 = .ok (.ireturn, 1) := by decide +kernel
theorem dJ0_isLatin1_aae02_0 : decode cJ0_isLatin1_aae02 0 = .ok (.getstatic 38, 3) := by decide +kernel
theorem dJ0_isLatin1_aae02_3 : decode cJ0_isLatin1_aae02 3 = .ok (.ifCond .eq 14, 3) := by decide +kernel
theorem dJ0_isLatin1_aae02_6 : decode cJ0_isLatin1_aae02 6 = .ok (.aload_n 0, 1) := by decide +kernel
theorem dJ0_isLatin1_aae02_7 : decode cJ0_isLatin1_aae02 7 = .ok (.getfield 15, 3) := by decide +kernel
theorem dJ0_isLatin1_aae02_10 : decode cJ0_isLatin1_aae02 10 = .ok (.ifCond .ne 7, 3) := by decide +kernel
theorem dJ0_isLatin1_aae02_13 : decode cJ0_isLatin1_aae02 13 = .ok (.iconst 1, 1) := by decide +kernel
theorem dJ0_isLatin1_aae02_14 : decode cJ0_isLatin1_aae02 14 = .ok (.goto 4, 3) := by decide +kernel
theorem dJ0_isLatin1_aae02_17 : decode cJ0_isLatin1_aae02 17 = .ok (.iconst 0, 1) := by decide +kernel
theorem dJ0_isLatin1_aae02_18 : decode cJ0_isLatin1_aae02 18 = .ok (.ireturn, 1) := by decide +kernel
theorem dJ0_checkIndex_df160_0 : decode cJ0_checkIndex_df160 0 = .ok (.iload_n 0, 1) := by decide +kernel
theorem dJ0_checkIndex_df160_1 : decode cJ0_checkIndex_df160 1 = .ok (.iload_n 1, 1) := by decide +kernel
theorem dJ0_checkIndex_df160_2 : decode cJ0_checkIndex_df160 2 = .ok (.getstatic 1053, 3) := by decide +kernel
theorem dJ0_checkIndex_df160_5 : decode cJ0_checkIndex_df160 5 = .ok (.invokestatic 1059, 3) := by decide +kernel
theorem dJ0_checkIndex_df160_8 : decode cJ0_checkIndex_df160 8 = .ok (.pop, 1) := by decide +kernel
theorem dJ0_checkIndex_df160_9 : decode cJ0_checkIndex_df160 9 = .ok (.return_, 1) := by decide +kernel
theorem dJ1_charAt_3b067_0 : decode cJ1_charAt_3b067 0 = .ok (.iload_n 1, 1) := by decide +kernel
theorem dJ1_charAt_3b067_1 : decode cJ1_charAt_3b067 1 = .ok (.aload_n 0, 1) := by decide +kernel
theorem dJ1_charAt_3b067_2 : decode cJ1_charAt_3b067 2 = .ok (.arraylength, 1) := by decide +kernel
theorem dJ1_charAt_3b067_3 : decode cJ1_charAt_3b067 3 = .ok (.invokestatic 9, 3) := by decide +kernel
theorem dJ1_charAt_3b067_6 : decode cJ1_charAt_3b067 6 = .ok (.aload_n 0, 1) := by decide +kernel
theorem dJ1_charAt_3b067_7 : decode cJ1_charAt_3b067 7 = .ok (.iload_n 1, 1) := by decide +kernel
theorem dJ1_charAt_3b067_8 : decode cJ1_charAt_3b067 8 = .ok (.baload, 1) := by decide +kernel
theorem dJ1_charAt_3b067_9 : decode cJ1_charAt_3b067 9 = .ok (.sipush 255, 3) := by decide +kernel
theorem dJ1_charAt_3b067_12 : decode cJ1_charAt_3b067 12 = .ok (.iand, 1) := by decide +kernel
theorem dJ1_charAt_3b067_13 : decode cJ1_charAt_3b067 13 = .ok (.i2c, 1) := by decide +kernel
theorem dJ1_charAt_3b067_14 : decode cJ1_charAt_3b067 14 = .ok (.ireturn, 1) := by decide +kernel
theorem dJ2_getChar_3b067_0 : decode cJ2_getChar_3b067 0 = .ok (.getstatic 44, 3) := by decide +kernel
theorem dJ2_getChar_3b067_3 : decode cJ2_getChar_3b067 3 = .ok (.ifCond .ne 25, 3) := by decide +kernel
theorem dJ2_getChar_3b067_6 : decode cJ2_getChar_3b067 6 = .ok (.iload_n 1, 1) := by decide +kernel
theorem dJ2_getChar_3b067_7 : decode cJ2_getChar_3b067 7 = .ok (.ifCond .lt 11, 3) := by decide +kernel
theorem dJ2_getChar_3b067_10 : decode cJ2_getChar_3b067 10 = .ok (.iload_n 1, 1) := by decide +kernel
theorem dJ2_getChar_3b067_11 : decode cJ2_getChar_3b067 11 = .ok (.aload_n 0, 1) := by decide +kernel
theorem dJ2_getChar_3b067_12 : decode cJ2_getChar_3b067 12 = .ok (.invokestatic 48, 3) := by decide +kernel
theorem dJ2_getChar_3b067_15 : decode cJ2_getChar_3b067 15 = .ok (.if_icmp .lt 13, 3) := by decide +kernel
theorem dJ2_getChar_3b067_18 : decode cJ2_getChar_3b067 18 = .ok (.new 52, 3) := by decide +kernel
theorem dJ2_getChar_3b067_21 : decode cJ2_getChar_3b067 21 = .ok (.dup, 1) := by decide +kernel
theorem dJ2_getChar_3b067_22 : decode cJ2_getChar_3b067 22 = .ok (.ldc 54, 2) := by decide +kernel
theorem dJ2_getChar_3b067_24 : decode cJ2_getChar_3b067 24 = .ok (.invokespecial 56, 3) := by decide +kernel
theorem dJ2_getChar_3b067_27 : decode cJ2_getChar_3b067 27 = .ok (.athrow, 1) := by decide +kernel
theorem dJ2_getChar_3b067_28 : decode cJ2_getChar_3b067 28 = .ok (.iload_n 1, 1) := by decide +kernel
theorem dJ2_getChar_3b067_29 : decode cJ2_getChar_3b067 29 = .ok (.iconst 1, 1) := by decide +kernel
theorem dJ2_getChar_3b067_30 : decode cJ2_getChar_3b067 30 = .ok (.ishl, 1) := by decide +kernel
theorem dJ2_getChar_3b067_31 : decode cJ2_getChar_3b067 31 = .ok (.istore_n 1, 1) := by decide +kernel
theorem dJ2_getChar_3b067_32 : decode cJ2_getChar_3b067 32 = .ok (.aload_n 0, 1) := by decide +kernel
theorem dJ2_getChar_3b067_33 : decode cJ2_getChar_3b067 33 = .ok (.iload_n 1, 1) := by decide +kernel
theorem dJ2_getChar_3b067_34 : decode cJ2_getChar_3b067 34 = .ok (.iinc 1 1, 3) := by decide +kernel
theorem dJ2_getChar_3b067_37 : decode cJ2_getChar_3b067 37 = .ok (.baload, 1) := by decide +kernel
theorem dJ2_getChar_3b067_38 : decode cJ2_getChar_3b067 38 = .ok (.sipush 255, 3) := by decide +kernel
theorem dJ2_getChar_3b067_41 : decode cJ2_getChar_3b067 41 = .ok (.iand, 1) := by decide +kernel
theorem dJ2_getChar_3b067_42 : decode cJ2_getChar_3b067 42 = .ok (.getstatic 59, 3) := by decide +kernel
theorem dJ2_getChar_3b067_45 : decode cJ2_getChar_3b067 45 = .ok (.ishl, 1) := by decide +kernel
theorem dJ2_getChar_3b067_46 : decode cJ2_getChar_3b067 46 = .ok (.aload_n 0, 1) := by decide +kernel
theorem dJ2_getChar_3b067_47 : decode cJ2_getChar_3b067 47 = .ok (.iload_n 1, 1) := by decide +kernel
theorem dJ2_getChar_3b067_48 : decode cJ2_getChar_3b067 48 = .ok (.baload, 1) := by decide +kernel
theorem dJ2_getChar_3b067_49 : decode cJ2_getChar_3b067 49 = .ok (.sipush 255, 3) := by decide +kernel
theorem dJ2_getChar_3b067_52 : decode cJ2_getChar_3b067 52 = .ok (.iand, 1) := by decide +kernel
theorem dJ2_getChar_3b067_53 : decode cJ2_getChar_3b067 53 = .ok (.getstatic 63, 3) := by decide +kernel
theorem dJ2_getChar_3b067_56 : decode cJ2_getChar_3b067 56 = .ok (.ishl, 1) := by decide +kernel
theorem dJ2_getChar_3b067_57 : decode cJ2_getChar_3b067 57 = .ok (.ior, 1) := by decide +kernel
theorem dJ2_getChar_3b067_58 : decode cJ2_getChar_3b067 58 = .ok (.i2c, 1) := by decide +kernel
theorem dJ2_getChar_3b067_59 : decode cJ2_getChar_3b067 59 = .ok (.ireturn, 1) := by decide +kernel
theorem dJ2_length_9d52b_0 : decode cJ2_length_9d52b 0 = .ok (.aload_n 0, 1) := by decide +kernel
theorem dJ2_length_9d52b_1 : decode cJ2_length_9d52b 1 = .ok (.arraylength, 1) := by decide +kernel
theorem dJ2_length_9d52b_2 : decode cJ2_length_9d52b 2 = .ok (.iconst 1, 1) := by decide +kernel
theorem dJ2_length_9d52b_3 : decode cJ2_length_9d52b 3 = .ok (.ishr, 1) := by decide +kernel
theorem dJ2_length_9d52b_4 : decode cJ2_length_9d52b 4 = .ok (.ireturn, 1) := by decide +kernel
theorem dJ2_charAt_3b067_0 : decode cJ2_charAt_3b067 0 = .ok (.iload_n 1, 1) := by decide +kernel
theorem dJ2_charAt_3b067_1 : decode cJ2_charAt_3b067 1 = .ok (.aload_n 0, 1) := by decide +kernel
theorem dJ2_charAt_3b067_2 : decode cJ2_charAt_3b067 2 = .ok (.invokestatic 67, 3) := by decide +kernel
theorem dJ2_charAt_3b067_5 : decode cJ2_charAt_3b067 5 = .ok (.aload_n 0, 1) := by decide +kernel
theorem dJ2_charAt_3b067_6 : decode cJ2_charAt_3b067 6 = .ok (.iload_n 1, 1) := by decide +kernel
theorem dJ2_charAt_3b067_7 : decode cJ2_charAt_3b067 7 = .ok (.invokestatic 71, 3) := by decide +kernel
theorem dJ2_charAt_3b067_10 : decode cJ2_charAt_3b067 10 = .ok (.ireturn, 1) := by decide +kernel
theorem dJ2_checkIndex_2214a_0 : decode cJ2_checkIndex_2214a 0 = .ok (.iload_n 0, 1) := by decide +kernel
theorem dJ2_checkIndex_2214a_1 : decode cJ2_checkIndex_2214a 1 = .ok (.aload_n 1, 1) := by decide +kernel
theorem dJ2_checkIndex_2214a_2 : decode cJ2_checkIndex_2214a 2 = .ok (.invokestatic 48, 3) := by decide +kernel
theorem dJ2_checkIndex_2214a_5 : decode cJ2_checkIndex_2214a 5 = .ok (.invokestatic 414, 3) := by decide +kernel
theorem dJ2_checkIndex_2214a_8 : decode cJ2_checkIndex_2214a 8 = .ok (.return_, 1) := by decide +kernel
theorem dJ3_checkIndex_8e157_0 : decode cJ3_checkIndex_8e157 0 = .ok (.iload_n 0, 1) := by decide +kernel
theorem dJ3_checkIndex_8e157_1 : decode cJ3_checkIndex_8e157 1 = .ok (.ifCond .lt 8, 3) := by decide +kernel
theorem dJ3_checkIndex_8e157_4 : decode cJ3_checkIndex_8e157 4 = .ok (.iload_n 0, 1) := by decide +kernel
theorem dJ3_checkIndex_8e157_5 : decode cJ3_checkIndex_8e157 5 = .ok (.iload_n 1, 1) := by decide +kernel
theorem dJ3_checkIndex_8e157_6 : decode cJ3_checkIndex_8e157 6 = .ok (.if_icmp .lt 10, 3) := by decide +kernel
theorem dJ3_checkIndex_8e157_9 : decode cJ3_checkIndex_8e157 9 = .ok (.aload_n 2, 1) := by decide +kernel
theorem dJ3_checkIndex_8e157_10 : decode cJ3_checkIndex_8e157 10 = .ok (.iload_n 0, 1) := by decide +kernel
theorem dJ3_checkIndex_8e157_11 : decode cJ3_checkIndex_8e157 11 = .ok (.iload_n 1, 1) := by decide +kernel
theorem dJ3_checkIndex_8e157_12 : decode cJ3_checkIndex_8e157 12 = .ok (.invokestatic 95, 3) := by decide +kernel
theorem dJ3_checkIndex_8e157_15 : decode cJ3_checkIndex_8e157 15 = .ok (.athrow, 1) := by decide +kernel
theorem dJ3_checkIndex_8e157_16 : decode cJ3_checkIndex_8e157 16 = .ok (.iload_n 0, 1) := by decide +kernel
theorem dJ3_checkIndex_8e157_17 : decode cJ3_checkIndex_8e157 17 = .ok (.ireturn, 1) := by decide +kernel
