-- decode rows printed of the program (NAMES.whole)
theorem dX5_drop_34 : decode cX5_drop 34 = .ok (.getfield 11, 3) := by decide +kernel
theorem dX5_drop_37 : decode cX5_drop 37 = .ok (.iload_n 1, 1) := by decide +kernel
theorem dX5_drop_38 : decode cX5_drop 38 = .ok (.aaload, 1) := by decide +kernel
theorem dX5_drop_39 : decode cX5_drop 39 = .ok (.iconst 0, 1) := by decide +kernel
theorem dX5_drop_40 : decode cX5_drop 40 = .ok (.putfield 74, 3) := by decide +kernel
theorem dX5_drop_43 : decode cX5_drop 43 = .ok (.aload_n 0, 1) := by decide +kernel
theorem dX5_drop_44 : decode cX5_drop 44 = .ok (.getfield 11, 3) := by decide +kernel
theorem dX5_drop_47 : decode cX5_drop 47 = .ok (.iload_n 1, 1) := by decide +kernel
theorem dX5_drop_48 : decode cX5_drop 48 = .ok (.aaload, 1) := by decide +kernel
theorem dX5_drop_49 : decode cX5_drop 49 = .ok (.getfield 99, 3) := by decide +kernel
theorem dX5_drop_52 : decode cX5_drop 52 = .ok (.ireturn, 1) := by decide +kernel
theorem dX5_feed_0 : decode cX5_feed 0 = .ok (.iload_n 3, 1) := by decide +kernel
theorem dX5_feed_1 : decode cX5_feed 1 = .ok (.iconst 1, 1) := by decide +kernel
theorem dX5_feed_2 : decode cX5_feed 2 = .ok (.if_icmp .lt 9, 3) := by decide +kernel
theorem dX5_feed_5 : decode cX5_feed 5 = .ok (.iload_n 3, 1) := by decide +kernel
theorem dX5_feed_6 : decode cX5_feed 6 = .ok (.bipush 8, 2) := by decide +kernel
theorem dX5_feed_8 : decode cX5_feed 8 = .ok (.if_icmp .le 6, 3) := by decide +kernel
theorem dX5_feed_11 : decode cX5_feed 11 = .ok (.ldc 65, 2) := by decide +kernel
theorem dX5_feed_13 : decode cX5_feed 13 = .ok (.ireturn, 1) := by decide +kernel
theorem dX5_feed_14 : decode cX5_feed 14 = .ok (.iload_n 3, 1) := by decide +kernel
theorem dX5_feed_15 : decode cX5_feed 15 = .ok (.sipush 400, 3) := by decide +kernel
theorem dX5_feed_18 : decode cX5_feed 18 = .ok (.aload_n 0, 1) := by decide +kernel
theorem dX5_feed_19 : decode cX5_feed 19 = .ok (.getfield 26, 3) := by decide +kernel
theorem dX5_feed_22 : decode cX5_feed 22 = .ok (.getfield 102, 3) := by decide +kernel
theorem dX5_feed_25 : decode cX5_feed 25 = .ok (.isub, 1) := by decide +kernel
theorem dX5_feed_26 : decode cX5_feed 26 = .ok (.if_icmp .le 6, 3) := by decide +kernel
theorem dX5_feed_29 : decode cX5_feed 29 = .ok (.ldc 103, 2) := by decide +kernel
theorem dX5_feed_31 : decode cX5_feed 31 = .ok (.ireturn, 1) := by decide +kernel
theorem dX5_feed_32 : decode cX5_feed 32 = .ok (.aload_n 0, 1) := by decide +kernel
theorem dX5_feed_33 : decode cX5_feed 33 = .ok (.getfield 26, 3) := by decide +kernel
theorem dX5_feed_36 : decode cX5_feed 36 = .ok (.lload_n 1, 1) := by decide +kernel
theorem dX5_feed_37 : decode cX5_feed 37 = .ok (.iload_n 3, 1) := by decide +kernel
theorem dX5_feed_38 : decode cX5_feed 38 = .ok (.invokevirtual 104, 3) := by decide +kernel
theorem dX5_feed_41 : decode cX5_feed 41 = .ok (.aload_n 0, 1) := by decide +kernel
theorem dX5_feed_42 : decode cX5_feed 42 = .ok (.getfield 26, 3) := by decide +kernel
theorem dX5_feed_45 : decode cX5_feed 45 = .ok (.getfield 102, 3) := by decide +kernel
theorem dX5_feed_48 : decode cX5_feed 48 = .ok (.ireturn, 1) := by decide +kernel
theorem dX5_plain_0 : decode cX5_plain 0 = .ok (.aload_n 0, 1) := by decide +kernel
theorem dX5_plain_1 : decode cX5_plain 1 = .ok (.getfield 26, 3) := by decide +kernel
theorem dX5_plain_4 : decode cX5_plain 4 = .ok (.aload_n 0, 1) := by decide +kernel
theorem dX5_plain_5 : decode cX5_plain 5 = .ok (.getfield 34, 3) := by decide +kernel
theorem dX5_plain_8 : decode cX5_plain 8 = .ok (.invokevirtual 108, 3) := by decide +kernel
theorem dX5_plain_11 : decode cX5_plain 11 = .ok (.istore_n 1, 1) := by decide +kernel
theorem dX5_plain_12 : decode cX5_plain 12 = .ok (.aload_n 0, 1) := by decide +kernel
theorem dX5_plain_13 : decode cX5_plain 13 = .ok (.getfield 26, 3) := by decide +kernel
theorem dX5_plain_16 : decode cX5_plain 16 = .ok (.iconst 0, 1) := by decide +kernel
theorem dX5_plain_17 : decode cX5_plain 17 = .ok (.putfield 102, 3) := by decide +kernel
theorem dX5_plain_20 : decode cX5_plain 20 = .ok (.iload_n 1, 1) := by decide +kernel
theorem dX5_plain_21 : decode cX5_plain 21 = .ok (.ifCond .ne 25, 3) := by decide +kernel
theorem dX5_plain_24 : decode cX5_plain 24 = .ok (.aload_n 0, 1) := by decide +kernel
theorem dX5_plain_25 : decode cX5_plain 25 = .ok (.aload_n 0, 1) := by decide +kernel
theorem dX5_plain_26 : decode cX5_plain 26 = .ok (.getfield 26, 3) := by decide +kernel
theorem dX5_plain_29 : decode cX5_plain 29 = .ok (.getfield 112, 3) := by decide +kernel
theorem dX5_plain_32 : decode cX5_plain 32 = .ok (.putfield 54, 3) := by decide +kernel
theorem dX5_plain_35 : decode cX5_plain 35 = .ok (.ldc 115, 2) := by decide +kernel
theorem dX5_plain_37 : decode cX5_plain 37 = .ok (.aload_n 0, 1) := by decide +kernel
theorem dX5_plain_38 : decode cX5_plain 38 = .ok (.getfield 26, 3) := by decide +kernel
theorem dX5_plain_41 : decode cX5_plain 41 = .ok (.getfield 116, 3) := by decide +kernel
theorem dX5_plain_44 : decode cX5_plain 44 = .ok (.isub, 1) := by decide +kernel
theorem dX5_plain_45 : decode cX5_plain 45 = .ok (.ireturn, 1) := by decide +kernel
theorem dX5_plain_46 : decode cX5_plain 46 = .ok (.aload_n 0, 1) := by decide +kernel
theorem dX5_plain_47 : decode cX5_plain 47 = .ok (.getfield 30, 3) := by decide +kernel
theorem dX5_plain_50 : decode cX5_plain 50 = .ok (.aload_n 0, 1) := by decide +kernel
theorem dX5_plain_51 : decode cX5_plain 51 = .ok (.getfield 34, 3) := by decide +kernel
theorem dX5_plain_54 : decode cX5_plain 54 = .ok (.invokevirtual 119, 3) := by decide +kernel
theorem dX5_plain_57 : decode cX5_plain 57 = .ok (.aload_n 0, 1) := by decide +kernel
theorem dX5_plain_58 : decode cX5_plain 58 = .ok (.getfield 43, 3) := by decide +kernel
theorem dX5_plain_61 : decode cX5_plain 61 = .ok (.invokevirtual 123, 3) := by decide +kernel
theorem dX5_plain_64 : decode cX5_plain 64 = .ok (.aload_n 0, 1) := by decide +kernel
theorem dX5_plain_65 : decode cX5_plain 65 = .ok (.getfield 30, 3) := by decide +kernel
theorem dX5_plain_68 : decode cX5_plain 68 = .ok (.getfield 126, 3) := by decide +kernel
theorem dX5_plain_71 : decode cX5_plain 71 = .ok (.ireturn, 1) := by decide +kernel
theorem dX5_fault_0 : decode cX5_fault 0 = .ok (.aload_n 0, 1) := by decide +kernel
theorem dX5_fault_1 : decode cX5_fault 1 = .ok (.getfield 54, 3) := by decide +kernel
theorem dX5_fault_4 : decode cX5_fault 4 = .ok (.ireturn, 1) := by decide +kernel
theorem dX5_day_0 : decode cX5_day 0 = .ok (.aload_n 0, 1) := by decide +kernel
theorem dX5_day_1 : decode cX5_day 1 = .ok (.getfield 30, 3) := by decide +kernel
theorem dX5_day_4 : decode cX5_day 4 = .ok (.getfield 129, 3) := by decide +kernel
theorem dX5_day_7 : decode cX5_day 7 = .ok (.ifCond .ne 6, 3) := by decide +kernel
theorem dX5_day_10 : decode cX5_day 10 = .ok (.ldc 132, 2) := by decide +kernel
theorem dX5_day_12 : decode cX5_day 12 = .ok (.ireturn, 1) := by decide +kernel
theorem dX5_day_13 : decode cX5_day 13 = .ok (.iload_n 1, 1) := by decide +kernel
theorem dX5_day_14 : decode cX5_day 14 = .ok (.ifCond .lt 9, 3) := by decide +kernel
theorem dX5_day_17 : decode cX5_day 17 = .ok (.iload_n 1, 1) := by decide +kernel
theorem dX5_day_18 : decode cX5_day 18 = .ok (.bipush 99, 2) := by decide +kernel
theorem dX5_day_20 : decode cX5_day 20 = .ok (.if_icmp .le 6, 3) := by decide +kernel
theorem dX5_day_23 : decode cX5_day 23 = .ok (.ldc 65, 2) := by decide +kernel
theorem dX5_day_25 : decode cX5_day 25 = .ok (.ireturn, 1) := by decide +kernel
theorem dX5_day_26 : decode cX5_day 26 = .ok (.aload_n 0, 1) := by decide +kernel
theorem dX5_day_27 : decode cX5_day 27 = .ok (.getfield 30, 3) := by decide +kernel
theorem dX5_day_30 : decode cX5_day 30 = .ok (.getfield 133, 3) := by decide +kernel
theorem dX5_day_33 : decode cX5_day 33 = .ok (.sipush 9999, 3) := by decide +kernel
theorem dX5_day_36 : decode cX5_day 36 = .ok (.if_icmp .lt 6, 3) := by decide +kernel
theorem dX5_day_39 : decode cX5_day 39 = .ok (.ldc 103, 2) := by decide +kernel
theorem dX5_day_41 : decode cX5_day 41 = .ok (.ireturn, 1) := by decide +kernel
theorem dX5_day_42 : decode cX5_day 42 = .ok (.aload_n 0, 1) := by decide +kernel
theorem dX5_day_43 : decode cX5_day 43 = .ok (.getfield 43, 3) := by decide +kernel
theorem dX5_day_46 : decode cX5_day 46 = .ok (.aload_n 0, 1) := by decide +kernel
theorem dX5_day_47 : decode cX5_day 47 = .ok (.getfield 30, 3) := by decide +kernel
theorem dX5_day_50 : decode cX5_day 50 = .ok (.invokevirtual 136, 3) := by decide +kernel
theorem dX5_day_53 : decode cX5_day 53 = .ok (.aload_n 0, 1) := by decide +kernel
theorem dX5_day_54 : decode cX5_day 54 = .ok (.getfield 30, 3) := by decide +kernel
theorem dX5_day_57 : decode cX5_day 57 = .ok (.iload_n 1, 1) := by decide +kernel
theorem dX5_day_58 : decode cX5_day 58 = .ok (.invokevirtual 139, 3) := by decide +kernel
theorem dX5_day_61 : decode cX5_day 61 = .ok (.ireturn, 1) := by decide +kernel
theorem dX5_weather_0 : decode cX5_weather 0 = .ok (.aload_n 0, 1) := by decide +kernel
theorem dX5_weather_1 : decode cX5_weather 1 = .ok (.getfield 30, 3) := by decide +kernel
theorem dX5_weather_4 : decode cX5_weather 4 = .ok (.getfield 129, 3) := by decide +kernel
theorem dX5_weather_7 : decode cX5_weather 7 = .ok (.ifCond .ne 6, 3) := by decide +kernel
theorem dX5_weather_10 : decode cX5_weather 10 = .ok (.ldc 132, 2) := by decide +kernel
theorem dX5_weather_12 : decode cX5_weather 12 = .ok (.ireturn, 1) := by decide +kernel
theorem dX5_weather_13 : decode cX5_weather 13 = .ok (.iload_n 1, 1) := by decide +kernel
theorem dX5_weather_14 : decode cX5_weather 14 = .ok (.iconst 1, 1) := by decide +kernel
theorem dX5_weather_15 : decode cX5_weather 15 = .ok (.if_icmp .lt 9, 3) := by decide +kernel
theorem dX5_weather_18 : decode cX5_weather 18 = .ok (.iload_n 1, 1) := by decide +kernel
theorem dX5_weather_19 : decode cX5_weather 19 = .ok (.ldc 142, 2) := by decide +kernel
theorem dX5_weather_21 : decode cX5_weather 21 = .ok (.if_icmp .le 6, 3) := by decide +kernel
theorem dX5_weather_24 : decode cX5_weather 24 = .ok (.ldc 65, 2) := by decide +kernel
theorem dX5_weather_26 : decode cX5_weather 26 = .ok (.ireturn, 1) := by decide +kernel
theorem dX5_weather_27 : decode cX5_weather 27 = .ok (.aload_n 0, 1) := by decide +kernel
theorem dX5_weather_28 : decode cX5_weather 28 = .ok (.getfield 30, 3) := by decide +kernel
theorem dX5_weather_31 : decode cX5_weather 31 = .ok (.getfield 133, 3) := by decide +kernel
theorem dX5_weather_34 : decode cX5_weather 34 = .ok (.sipush 9999, 3) := by decide +kernel
theorem dX5_weather_37 : decode cX5_weather 37 = .ok (.if_icmp .lt 6, 3) := by decide +kernel
theorem dX5_weather_40 : decode cX5_weather 40 = .ok (.ldc 103, 2) := by decide +kernel
theorem dX5_weather_42 : decode cX5_weather 42 = .ok (.ireturn, 1) := by decide +kernel
theorem dX5_weather_43 : decode cX5_weather 43 = .ok (.iload_n 1, 1) := by decide +kernel
theorem dX5_weather_44 : decode cX5_weather 44 = .ok (.i2l, 1) := by decide +kernel
theorem dX5_weather_45 : decode cX5_weather 45 = .ok (.ldc2_w 143, 3) := by decide +kernel
theorem dX5_weather_48 : decode cX5_weather 48 = .ok (.lmul, 1) := by decide +kernel
theorem dX5_weather_49 : decode cX5_weather 49 = .ok (.ldc2_w 145, 3) := by decide +kernel
theorem dX5_weather_52 : decode cX5_weather 52 = .ok (.lrem, 1) := by decide +kernel
theorem dX5_weather_53 : decode cX5_weather 53 = .ok (.ldc2_w 147, 3) := by decide +kernel
theorem dX5_weather_56 : decode cX5_weather 56 = .ok (.lrem, 1) := by decide +kernel
theorem dX5_weather_57 : decode cX5_weather 57 = .ok (.l2i, 1) := by decide +kernel
theorem dX5_weather_58 : decode cX5_weather 58 = .ok (.istore_n 2, 1) := by decide +kernel
theorem dX5_weather_59 : decode cX5_weather 59 = .ok (.aload_n 0, 1) := by decide +kernel
theorem dX5_weather_60 : decode cX5_weather 60 = .ok (.getfield 43, 3) := by decide +kernel
theorem dX5_weather_63 : decode cX5_weather 63 = .ok (.aload_n 0, 1) := by decide +kernel
theorem dX5_weather_64 : decode cX5_weather 64 = .ok (.getfield 30, 3) := by decide +kernel
theorem dX5_weather_67 : decode cX5_weather 67 = .ok (.invokevirtual 136, 3) := by decide +kernel
theorem dX5_weather_70 : decode cX5_weather 70 = .ok (.aload_n 0, 1) := by decide +kernel
theorem dX5_weather_71 : decode cX5_weather 71 = .ok (.getfield 30, 3) := by decide +kernel
theorem dX5_weather_74 : decode cX5_weather 74 = .ok (.iload_n 2, 1) := by decide +kernel
theorem dX5_weather_75 : decode cX5_weather 75 = .ok (.invokevirtual 139, 3) := by decide +kernel
theorem dX5_weather_78 : decode cX5_weather 78 = .ok (.pop, 1) := by decide +kernel
theorem dX5_weather_79 : decode cX5_weather 79 = .ok (.iload_n 2, 1) := by decide +kernel
theorem dX5_weather_80 : decode cX5_weather 80 = .ok (.ireturn, 1) := by decide +kernel
theorem dX5_guard_0 : decode cX5_guard 0 = .ok (.aload_n 0, 1) := by decide +kernel
theorem dX5_guard_1 : decode cX5_guard 1 = .ok (.getfield 30, 3) := by decide +kernel
theorem dX5_guard_4 : decode cX5_guard 4 = .ok (.iload_n 1, 1) := by decide +kernel
theorem dX5_guard_5 : decode cX5_guard 5 = .ok (.invokevirtual 149, 3) := by decide +kernel
theorem dX5_guard_8 : decode cX5_guard 8 = .ok (.ifCond .eq 12, 3) := by decide +kernel
theorem dX5_guard_11 : decode cX5_guard 11 = .ok (.iload_n 2, 1) := by decide +kernel
theorem dX5_guard_12 : decode cX5_guard 12 = .ok (.ifCond .lt 8, 3) := by decide +kernel
theorem dX5_guard_15 : decode cX5_guard 15 = .ok (.iload_n 2, 1) := by decide +kernel
theorem dX5_guard_16 : decode cX5_guard 16 = .ok (.iconst 1, 1) := by decide +kernel
theorem dX5_guard_17 : decode cX5_guard 17 = .ok (.if_icmp .le 6, 3) := by decide +kernel
theorem dX5_guard_20 : decode cX5_guard 20 = .ok (.ldc 65, 2) := by decide +kernel
theorem dX5_guard_22 : decode cX5_guard 22 = .ok (.ireturn, 1) := by decide +kernel
theorem dX5_guard_23 : decode cX5_guard 23 = .ok (.aload_n 0, 1) := by decide +kernel
theorem dX5_guard_24 : decode cX5_guard 24 = .ok (.getfield 30, 3) := by decide +kernel
theorem dX5_guard_27 : decode cX5_guard 27 = .ok (.iload_n 1, 1) := by decide +kernel
theorem dX5_guard_28 : decode cX5_guard 28 = .ok (.invokevirtual 152, 3) := by decide +kernel
theorem dX5_guard_31 : decode cX5_guard 31 = .ok (.ifCond .eq 7, 3) := by decide +kernel
theorem dX5_guard_34 : decode cX5_guard 34 = .ok (.iconst 1, 1) := by decide +kernel
theorem dX5_guard_35 : decode cX5_guard 35 = .ok (.goto 4, 3) := by decide +kernel
theorem dX5_guard_38 : decode cX5_guard 38 = .ok (.iconst 0, 1) := by decide +kernel
theorem dX5_guard_39 : decode cX5_guard 39 = .ok (.istore_n 3, 1) := by decide +kernel
theorem dX5_guard_40 : decode cX5_guard 40 = .ok (.aload_n 0, 1) := by decide +kernel
theorem dX5_guard_41 : decode cX5_guard 41 = .ok (.getfield 43, 3) := by decide +kernel
theorem dX5_guard_44 : decode cX5_guard 44 = .ok (.aload_n 0, 1) := by decide +kernel
theorem dX5_guard_45 : decode cX5_guard 45 = .ok (.getfield 30, 3) := by decide +kernel
theorem dX5_guard_48 : decode cX5_guard 48 = .ok (.invokevirtual 136, 3) := by decide +kernel
theorem dX5_guard_51 : decode cX5_guard 51 = .ok (.aload_n 0, 1) := by decide +kernel
theorem dX5_guard_52 : decode cX5_guard 52 = .ok (.getfield 30, 3) := by decide +kernel
theorem dX5_guard_55 : decode cX5_guard 55 = .ok (.aload_n 0, 1) := by decide +kernel
theorem dX5_guard_56 : decode cX5_guard 56 = .ok (.getfield 30, 3) := by decide +kernel
theorem dX5_guard_59 : decode cX5_guard 59 = .ok (.getfield 155, 3) := by decide +kernel
theorem dX5_guard_62 : decode cX5_guard 62 = .ok (.iconst 1, 1) := by decide +kernel
theorem dX5_guard_63 : decode cX5_guard 63 = .ok (.iload_n 1, 1) := by decide +kernel
theorem dX5_guard_64 : decode cX5_guard 64 = .ok (.ishl, 1) := by decide +kernel
theorem dX5_guard_65 : decode cX5_guard 65 = .ok (.iconst (-1), 1) := by decide +kernel
theorem dX5_guard_66 : decode cX5_guard 66 = .ok (.ixor, 1) := by decide +kernel
theorem dX5_guard_67 : decode cX5_guard 67 = .ok (.iand, 1) := by decide +kernel
theorem dX5_guard_68 : decode cX5_guard 68 = .ok (.iload_n 2, 1) := by decide +kernel
theorem dX5_guard_69 : decode cX5_guard 69 = .ok (.iload_n 1, 1) := by decide +kernel
theorem dX5_guard_70 : decode cX5_guard 70 = .ok (.ishl, 1) := by decide +kernel
theorem dX5_guard_71 : decode cX5_guard 71 = .ok (.ior, 1) := by decide +kernel
theorem dX5_guard_72 : decode cX5_guard 72 = .ok (.putfield 155, 3) := by decide +kernel
theorem dX5_guard_75 : decode cX5_guard 75 = .ok (.iload_n 3, 1) := by decide +kernel
theorem dX5_guard_76 : decode cX5_guard 76 = .ok (.ireturn, 1) := by decide +kernel
theorem dX5_undo_0 : decode cX5_undo 0 = .ok (.aload_n 0, 1) := by decide +kernel
theorem dX5_undo_1 : decode cX5_undo 1 = .ok (.getfield 43, 3) := by decide +kernel
theorem dX5_undo_4 : decode cX5_undo 4 = .ok (.getfield 158, 3) := by decide +kernel
theorem dX5_undo_7 : decode cX5_undo 7 = .ok (.ifCond .ne 6, 3) := by decide +kernel
theorem dX5_undo_10 : decode cX5_undo 10 = .ok (.ldc 132, 2) := by decide +kernel
theorem dX5_undo_12 : decode cX5_undo 12 = .ok (.ireturn, 1) := by decide +kernel
theorem dX5_undo_13 : decode cX5_undo 13 = .ok (.aload_n 0, 1) := by decide +kernel
theorem dX5_undo_14 : decode cX5_undo 14 = .ok (.getfield 43, 3) := by decide +kernel
theorem dX5_undo_17 : decode cX5_undo 17 = .ok (.aload_n 0, 1) := by decide +kernel
theorem dX5_undo_18 : decode cX5_undo 18 = .ok (.getfield 30, 3) := by decide +kernel
theorem dX5_undo_21 : decode cX5_undo 21 = .ok (.invokevirtual 161, 3) := by decide +kernel
theorem dX5_undo_24 : decode cX5_undo 24 = .ok (.aload_n 0, 1) := by decide +kernel
theorem dX5_undo_25 : decode cX5_undo 25 = .ok (.getfield 43, 3) := by decide +kernel
theorem dX5_undo_28 : decode cX5_undo 28 = .ok (.getfield 158, 3) := by decide +kernel
theorem dX5_undo_31 : decode cX5_undo 31 = .ok (.ireturn, 1) := by decide +kernel
theorem dX5_village_0 : decode cX5_village 0 = .ok (.aload_n 0, 1) := by decide +kernel
theorem dX5_village_1 : decode cX5_village 1 = .ok (.getfield 30, 3) := by decide +kernel
theorem dX5_village_4 : decode cX5_village 4 = .ok (.iload_n 1, 1) := by decide +kernel
theorem dX5_village_5 : decode cX5_village 5 = .ok (.invokevirtual 149, 3) := by decide +kernel
theorem dX5_village_8 : decode cX5_village 8 = .ok (.ifCond .ne 6, 3) := by decide +kernel
theorem dX5_village_11 : decode cX5_village 11 = .ok (.ldc 65, 2) := by decide +kernel
theorem dX5_village_13 : decode cX5_village 13 = .ok (.ireturn, 1) := by decide +kernel
theorem dX5_village_14 : decode cX5_village 14 = .ok (.iload_n 2, 1) := by decide +kernel
theorem dX5_village_15 : decode cX5_village 15 = .ok (.tableswitch 103 0 5 #[37, 47, 57, 67, 84, 94], 37) := by decide +kernel
theorem dX5_village_52 : decode cX5_village 52 = .ok (.aload_n 0, 1) := by decide +kernel
theorem dX5_village_53 : decode cX5_village 53 = .ok (.getfield 30, 3) := by decide +kernel
theorem dX5_village_56 : decode cX5_village 56 = .ok (.getfield 164, 3) := by decide +kernel
theorem dX5_village_59 : decode cX5_village 59 = .ok (.iload_n 1, 1) := by decide +kernel
theorem dX5_village_60 : decode cX5_village 60 = .ok (.iaload, 1) := by decide +kernel
theorem dX5_village_61 : decode cX5_village 61 = .ok (.ireturn, 1) := by decide +kernel
theorem dX5_village_62 : decode cX5_village 62 = .ok (.aload_n 0, 1) := by decide +kernel
theorem dX5_village_63 : decode cX5_village 63 = .ok (.getfield 30, 3) := by decide +kernel
theorem dX5_village_66 : decode cX5_village 66 = .ok (.getfield 167, 3) := by decide +kernel
theorem dX5_village_69 : decode cX5_village 69 = .ok (.iload_n 1, 1) := by decide +kernel
theorem dX5_village_70 : decode cX5_village 70 = .ok (.iaload, 1) := by decide +kernel
theorem dX5_village_71 : decode cX5_village 71 = .ok (.ireturn, 1) := by decide +kernel
theorem dX5_village_72 : decode cX5_village 72 = .ok (.aload_n 0, 1) := by decide +kernel
theorem dX5_village_73 : decode cX5_village 73 = .ok (.getfield 30, 3) := by decide +kernel
theorem dX5_village_76 : decode cX5_village 76 = .ok (.getfield 170, 3) := by decide +kernel
theorem dX5_village_79 : decode cX5_village 79 = .ok (.iload_n 1, 1) := by decide +kernel
theorem dX5_village_80 : decode cX5_village 80 = .ok (.iaload, 1) := by decide +kernel
theorem dX5_village_81 : decode cX5_village 81 = .ok (.ireturn, 1) := by decide +kernel
theorem dX5_village_82 : decode cX5_village 82 = .ok (.aload_n 0, 1) := by decide +kernel
theorem dX5_village_83 : decode cX5_village 83 = .ok (.getfield 30, 3) := by decide +kernel
theorem dX5_village_86 : decode cX5_village 86 = .ok (.iload_n 1, 1) := by decide +kernel
theorem dX5_village_87 : decode cX5_village 87 = .ok (.invokevirtual 152, 3) := by decide +kernel
theorem dX5_village_90 : decode cX5_village 90 = .ok (.ifCond .eq 7, 3) := by decide +kernel
theorem dX5_village_93 : decode cX5_village 93 = .ok (.iconst 1, 1) := by decide +kernel
theorem dX5_village_94 : decode cX5_village 94 = .ok (.goto 4, 3) := by decide +kernel
theorem dX5_village_97 : decode cX5_village 97 = .ok (.iconst 0, 1) := by decide +kernel
theorem dX5_village_98 : decode cX5_village 98 = .ok (.ireturn, 1) := by decide +kernel
theorem dX5_village_99 : decode cX5_village 99 = .ok (.aload_n 0, 1) := by decide +kernel
theorem dX5_village_100 : decode cX5_village 100 = .ok (.getfield 30, 3) := by decide +kernel
theorem dX5_village_103 : decode cX5_village 103 = .ok (.getfield 173, 3) := by decide +kernel
theorem dX5_village_106 : decode cX5_village 106 = .ok (.iload_n 1, 1) := by decide +kernel
theorem dX5_village_107 : decode cX5_village 107 = .ok (.iaload, 1) := by decide +kernel
theorem dX5_village_108 : decode cX5_village 108 = .ok (.ireturn, 1) := by decide +kernel
theorem dX5_village_109 : decode cX5_village 109 = .ok (.aload_n 0, 1) := by decide +kernel
theorem dX5_village_110 : decode cX5_village 110 = .ok (.getfield 30, 3) := by decide +kernel
theorem dX5_village_113 : decode cX5_village 113 = .ok (.iload_n 1, 1) := by decide +kernel
theorem dX5_village_114 : decode cX5_village 114 = .ok (.invokevirtual 176, 3) := by decide +kernel
theorem dX5_village_117 : decode cX5_village 117 = .ok (.ireturn, 1) := by decide +kernel
theorem dX5_village_118 : decode cX5_village 118 = .ok (.ldc 65, 2) := by decide +kernel
theorem dX5_village_120 : decode cX5_village 120 = .ok (.ireturn, 1) := by decide +kernel
theorem dX5_ahead_0 : decode cX5_ahead 0 = .ok (.aload_n 0, 1) := by decide +kernel
theorem dX5_ahead_1 : decode cX5_ahead 1 = .ok (.getfield 30, 3) := by decide +kernel
theorem dX5_ahead_4 : decode cX5_ahead 4 = .ok (.iload_n 1, 1) := by decide +kernel
theorem dX5_ahead_5 : decode cX5_ahead 5 = .ok (.invokevirtual 149, 3) := by decide +kernel
theorem dX5_ahead_8 : decode cX5_ahead 8 = .ok (.ifCond .eq 22, 3) := by decide +kernel
theorem dX5_ahead_11 : decode cX5_ahead 11 = .ok (.iload_n 2, 1) := by decide +kernel
theorem dX5_ahead_12 : decode cX5_ahead 12 = .ok (.ifCond .lt 18, 3) := by decide +kernel
theorem dX5_ahead_15 : decode cX5_ahead 15 = .ok (.iload_n 2, 1) := by decide +kernel
theorem dX5_ahead_16 : decode cX5_ahead 16 = .ok (.bipush 60, 2) := by decide +kernel
theorem dX5_ahead_18 : decode cX5_ahead 18 = .ok (.if_icmp .gt 12, 3) := by decide +kernel
theorem dX5_ahead_21 : decode cX5_ahead 21 = .ok (.iload_n 3, 1) := by decide +kernel
theorem dX5_ahead_22 : decode cX5_ahead 22 = .ok (.ifCond .lt 8, 3) := by decide +kernel
theorem dX5_ahead_25 : decode cX5_ahead 25 = .ok (.iload_n 3, 1) := by decide +kernel
theorem dX5_ahead_26 : decode cX5_ahead 26 = .ok (.iconst 1, 1) := by decide +kernel
theorem dX5_ahead_27 : decode cX5_ahead 27 = .ok (.if_icmp .le 6, 3) := by decide +kernel
theorem dX5_ahead_30 : decode cX5_ahead 30 = .ok (.ldc 65, 2) := by decide +kernel
theorem dX5_ahead_32 : decode cX5_ahead 32 = .ok (.ireturn, 1) := by decide +kernel
theorem dX5_ahead_33 : decode cX5_ahead 33 = .ok (.aload_n 0, 1) := by decide +kernel
theorem dX5_ahead_34 : decode cX5_ahead 34 = .ok (.invokevirtual 179, 3) := by decide +kernel
theorem dX5_ahead_37 : decode cX5_ahead 37 = .ok (.aload_n 0, 1) := by decide +kernel
theorem dX5_ahead_38 : decode cX5_ahead 38 = .ok (.getfield 37, 3) := by decide +kernel
theorem dX5_ahead_41 : decode cX5_ahead 41 = .ok (.iload_n 2, 1) := by decide +kernel
theorem dX5_ahead_42 : decode cX5_ahead 42 = .ok (.invokevirtual 182, 3) := by decide +kernel
theorem dX5_ahead_45 : decode cX5_ahead 45 = .ok (.iload_n 3, 1) := by decide +kernel
theorem dX5_ahead_46 : decode cX5_ahead 46 = .ok (.ifCond .ne 15, 3) := by decide +kernel
theorem dX5_ahead_49 : decode cX5_ahead 49 = .ok (.aload_n 0, 1) := by decide +kernel
theorem dX5_ahead_50 : decode cX5_ahead 50 = .ok (.getfield 37, 3) := by decide +kernel
theorem dX5_ahead_53 : decode cX5_ahead 53 = .ok (.getfield 164, 3) := by decide +kernel
theorem dX5_ahead_56 : decode cX5_ahead 56 = .ok (.iload_n 1, 1) := by decide +kernel
theorem dX5_ahead_57 : decode cX5_ahead 57 = .ok (.iaload, 1) := by decide +kernel
theorem dX5_ahead_58 : decode cX5_ahead 58 = .ok (.goto 12, 3) := by decide +kernel
theorem dX5_ahead_61 : decode cX5_ahead 61 = .ok (.aload_n 0, 1) := by decide +kernel
theorem dX5_ahead_62 : decode cX5_ahead 62 = .ok (.getfield 37, 3) := by decide +kernel
theorem dX5_ahead_65 : decode cX5_ahead 65 = .ok (.getfield 173, 3) := by decide +kernel
theorem dX5_ahead_68 : decode cX5_ahead 68 = .ok (.iload_n 1, 1) := by decide +kernel
theorem dX5_ahead_69 : decode cX5_ahead 69 = .ok (.iaload, 1) := by decide +kernel
theorem dX5_ahead_70 : decode cX5_ahead 70 = .ok (.ireturn, 1) := by decide +kernel
theorem dX5_first_0 : decode cX5_first 0 = .ok (.aload_n 0, 1) := by decide +kernel
theorem dX5_first_1 : decode cX5_first 1 = .ok (.getfield 30, 3) := by decide +kernel
theorem dX5_first_4 : decode cX5_first 4 = .ok (.getfield 129, 3) := by decide +kernel
theorem dX5_first_7 : decode cX5_first 7 = .ok (.ifCond .ne 6, 3) := by decide +kernel
theorem dX5_first_10 : decode cX5_first 10 = .ok (.ldc 132, 2) := by decide +kernel
theorem dX5_first_12 : decode cX5_first 12 = .ok (.ireturn, 1) := by decide +kernel
theorem dX5_first_13 : decode cX5_first 13 = .ok (.iload_n 1, 1) := by decide +kernel
theorem dX5_first_14 : decode cX5_first 14 = .ok (.iconst 1, 1) := by decide +kernel
theorem dX5_first_15 : decode cX5_first 15 = .ok (.if_icmp .lt 9, 3) := by decide +kernel
theorem dX5_first_18 : decode cX5_first 18 = .ok (.iload_n 1, 1) := by decide +kernel
theorem dX5_first_19 : decode cX5_first 19 = .ok (.bipush 60, 2) := by decide +kernel
theorem dX5_first_21 : decode cX5_first 21 = .ok (.if_icmp .le 6, 3) := by decide +kernel
theorem dX5_first_24 : decode cX5_first 24 = .ok (.ldc 65, 2) := by decide +kernel
theorem dX5_first_26 : decode cX5_first 26 = .ok (.ireturn, 1) := by decide +kernel
theorem dX5_first_27 : decode cX5_first 27 = .ok (.aload_n 0, 1) := by decide +kernel
theorem dX5_first_28 : decode cX5_first 28 = .ok (.invokevirtual 179, 3) := by decide +kernel
theorem dX5_first_31 : decode cX5_first 31 = .ok (.aload_n 0, 1) := by decide +kernel
theorem dX5_first_32 : decode cX5_first 32 = .ok (.getfield 37, 3) := by decide +kernel
theorem dX5_first_35 : decode cX5_first 35 = .ok (.iload_n 1, 1) := by decide +kernel
theorem dX5_first_36 : decode cX5_first 36 = .ok (.invokevirtual 186, 3) := by decide +kernel
theorem dX5_first_39 : decode cX5_first 39 = .ok (.ireturn, 1) := by decide +kernel
theorem dX5_rest_0 : decode cX5_rest 0 = .ok (.aload_n 0, 1) := by decide +kernel
theorem dX5_rest_1 : decode cX5_rest 1 = .ok (.getfield 30, 3) := by decide +kernel
theorem dX5_rest_4 : decode cX5_rest 4 = .ok (.getfield 129, 3) := by decide +kernel
theorem dX5_rest_7 : decode cX5_rest 7 = .ok (.ifCond .ne 6, 3) := by decide +kernel
theorem dX5_rest_10 : decode cX5_rest 10 = .ok (.ldc 132, 2) := by decide +kernel
theorem dX5_rest_12 : decode cX5_rest 12 = .ok (.ireturn, 1) := by decide +kernel
theorem dX5_rest_13 : decode cX5_rest 13 = .ok (.iload_n 1, 1) := by decide +kernel
theorem dX5_rest_14 : decode cX5_rest 14 = .ok (.ifCond .lt 8, 3) := by decide +kernel
theorem dX5_rest_17 : decode cX5_rest 17 = .ok (.iload_n 1, 1) := by decide +kernel
theorem dX5_rest_18 : decode cX5_rest 18 = .ok (.iconst 1, 1) := by decide +kernel
theorem dX5_rest_19 : decode cX5_rest 19 = .ok (.if_icmp .le 6, 3) := by decide +kernel
theorem dX5_rest_22 : decode cX5_rest 22 = .ok (.ldc 65, 2) := by decide +kernel
theorem dX5_rest_24 : decode cX5_rest 24 = .ok (.ireturn, 1) := by decide +kernel
theorem dX5_rest_25 : decode cX5_rest 25 = .ok (.aload_n 0, 1) := by decide +kernel
theorem dX5_rest_26 : decode cX5_rest 26 = .ok (.invokevirtual 179, 3) := by decide +kernel
theorem dX5_rest_29 : decode cX5_rest 29 = .ok (.iload_n 1, 1) := by decide +kernel
theorem dX5_rest_30 : decode cX5_rest 30 = .ok (.ifCond .ne 10, 3) := by decide +kernel
theorem dX5_rest_33 : decode cX5_rest 33 = .ok (.aload_n 0, 1) := by decide +kernel
theorem dX5_rest_34 : decode cX5_rest 34 = .ok (.invokevirtual 189, 3) := by decide +kernel
theorem dX5_rest_37 : decode cX5_rest 37 = .ok (.goto 7, 3) := by decide +kernel
theorem dX5_rest_40 : decode cX5_rest 40 = .ok (.aload_n 0, 1) := by decide +kernel
theorem dX5_rest_41 : decode cX5_rest 41 = .ok (.invokevirtual 193, 3) := by decide +kernel
theorem dX5_rest_44 : decode cX5_rest 44 = .ok (.ireturn, 1) := by decide +kernel
theorem dX5_most_0 : decode cX5_most 0 = .ok (.aload_n 0, 1) := by decide +kernel
theorem dX5_most_1 : decode cX5_most 1 = .ok (.getfield 30, 3) := by decide +kernel
theorem dX5_most_4 : decode cX5_most 4 = .ok (.getfield 129, 3) := by decide +kernel
theorem dX5_most_7 : decode cX5_most 7 = .ok (.ifCond .ne 6, 3) := by decide +kernel
theorem dX5_most_10 : decode cX5_most 10 = .ok (.ldc 132, 2) := by decide +kernel
theorem dX5_most_12 : decode cX5_most 12 = .ok (.ireturn, 1) := by decide +kernel
theorem dX5_most_13 : decode cX5_most 13 = .ok (.iload_n 1, 1) := by decide +kernel
theorem dX5_most_14 : decode cX5_most 14 = .ok (.iconst 1, 1) := by decide +kernel
theorem dX5_most_15 : decode cX5_most 15 = .ok (.if_icmp .lt 9, 3) := by decide +kernel
theorem dX5_most_18 : decode cX5_most 18 = .ok (.iload_n 1, 1) := by decide +kernel
theorem dX5_most_19 : decode cX5_most 19 = .ok (.bipush 20, 2) := by decide +kernel
theorem dX5_most_21 : decode cX5_most 21 = .ok (.if_icmp .le 6, 3) := by decide +kernel
theorem dX5_most_24 : decode cX5_most 24 = .ok (.ldc 65, 2) := by decide +kernel
theorem dX5_most_26 : decode cX5_most 26 = .ok (.ireturn, 1) := by decide +kernel
theorem dX5_most_27 : decode cX5_most 27 = .ok (.bipush 99, 2) := by decide +kernel
theorem dX5_most_29 : decode cX5_most 29 = .ok (.istore_n 2, 1) := by decide +kernel
theorem dX5_most_30 : decode cX5_most 30 = .ok (.iload_n 2, 1) := by decide +kernel
theorem dX5_most_31 : decode cX5_most 31 = .ok (.ifCond .lt 36, 3) := by decide +kernel
theorem dX5_most_34 : decode cX5_most 34 = .ok (.aload_n 0, 1) := by decide +kernel
theorem dX5_most_35 : decode cX5_most 35 = .ok (.invokevirtual 179, 3) := by decide +kernel
theorem dX5_most_38 : decode cX5_most 38 = .ok (.aload_n 0, 1) := by decide +kernel
theorem dX5_most_39 : decode cX5_most 39 = .ok (.getfield 37, 3) := by decide +kernel
theorem dX5_most_42 : decode cX5_most 42 = .ok (.iload_n 2, 1) := by decide +kernel
theorem dX5_most_43 : decode cX5_most 43 = .ok (.putfield 196, 3) := by decide +kernel
theorem dX5_most_46 : decode cX5_most 46 = .ok (.aload_n 0, 1) := by decide +kernel
theorem dX5_most_47 : decode cX5_most 47 = .ok (.getfield 37, 3) := by decide +kernel
theorem dX5_most_50 : decode cX5_most 50 = .ok (.iload_n 1, 1) := by decide +kernel
theorem dX5_most_51 : decode cX5_most 51 = .ok (.invokevirtual 186, 3) := by decide +kernel
theorem dX5_most_54 : decode cX5_most 54 = .ok (.ldc 199, 2) := by decide +kernel
theorem dX5_most_56 : decode cX5_most 56 = .ok (.if_icmp .ne 5, 3) := by decide +kernel
theorem dX5_most_59 : decode cX5_most 59 = .ok (.iload_n 2, 1) := by decide +kernel
theorem dX5_most_60 : decode cX5_most 60 = .ok (.ireturn, 1) := by decide +kernel
theorem dX5_most_61 : decode cX5_most 61 = .ok (.iinc 2 (-1), 3) := by decide +kernel
theorem dX5_most_64 : decode cX5_most 64 = .ok (.goto (-34), 3) := by decide +kernel
theorem dX5_most_67 : decode cX5_most 67 = .ok (.ldc 199, 2) := by decide +kernel
theorem dX5_most_69 : decode cX5_most 69 = .ok (.ireturn, 1) := by decide +kernel
theorem dX5_guards_0 : decode cX5_guards 0 = .ok (.aload_n 0, 1) := by decide +kernel
theorem dX5_guards_1 : decode cX5_guards 1 = .ok (.getfield 30, 3) := by decide +kernel
theorem dX5_guards_4 : decode cX5_guards 4 = .ok (.getfield 129, 3) := by decide +kernel
theorem dX5_guards_7 : decode cX5_guards 7 = .ok (.ifCond .ne 6, 3) := by decide +kernel
theorem dX5_guards_10 : decode cX5_guards 10 = .ok (.ldc 132, 2) := by decide +kernel
theorem dX5_guards_12 : decode cX5_guards 12 = .ok (.ireturn, 1) := by decide +kernel
theorem dX5_guards_13 : decode cX5_guards 13 = .ok (.iload_n 1, 1) := by decide +kernel
theorem dX5_guards_14 : decode cX5_guards 14 = .ok (.iconst 1, 1) := by decide +kernel
theorem dX5_guards_15 : decode cX5_guards 15 = .ok (.if_icmp .lt 9, 3) := by decide +kernel
theorem dX5_guards_18 : decode cX5_guards 18 = .ok (.iload_n 1, 1) := by decide +kernel
theorem dX5_guards_19 : decode cX5_guards 19 = .ok (.bipush 20, 2) := by decide +kernel
theorem dX5_guards_21 : decode cX5_guards 21 = .ok (.if_icmp .le 6, 3) := by decide +kernel
theorem dX5_guards_24 : decode cX5_guards 24 = .ok (.ldc 65, 2) := by decide +kernel
theorem dX5_guards_26 : decode cX5_guards 26 = .ok (.ireturn, 1) := by decide +kernel
theorem dX5_guards_27 : decode cX5_guards 27 = .ok (.iconst 0, 1) := by decide +kernel
theorem dX5_guards_28 : decode cX5_guards 28 = .ok (.istore_n 2, 1) := by decide +kernel
theorem dX5_guards_29 : decode cX5_guards 29 = .ok (.iload_n 2, 1) := by decide +kernel
theorem dX5_guards_30 : decode cX5_guards 30 = .ok (.aload_n 0, 1) := by decide +kernel
theorem dX5_guards_31 : decode cX5_guards 31 = .ok (.getfield 30, 3) := by decide +kernel
theorem dX5_guards_34 : decode cX5_guards 34 = .ok (.getfield 126, 3) := by decide +kernel
theorem dX5_guards_37 : decode cX5_guards 37 = .ok (.if_icmp .gt 24, 3) := by decide +kernel
theorem dX5_guards_40 : decode cX5_guards 40 = .ok (.aload_n 0, 1) := by decide +kernel
theorem dX5_guards_41 : decode cX5_guards 41 = .ok (.iload_n 2, 1) := by decide +kernel
theorem dX5_guards_42 : decode cX5_guards 42 = .ok (.iload_n 1, 1) := by decide +kernel
theorem dX5_guards_43 : decode cX5_guards 43 = .ok (.invokevirtual 200, 3) := by decide +kernel
theorem dX5_guards_46 : decode cX5_guards 46 = .ok (.istore_n 3, 1) := by decide +kernel
theorem dX5_guards_47 : decode cX5_guards 47 = .ok (.iload_n 3, 1) := by decide +kernel
theorem dX5_guards_48 : decode cX5_guards 48 = .ok (.ldc 199, 2) := by decide +kernel
theorem dX5_guards_50 : decode cX5_guards 50 = .ok (.if_icmp .eq 5, 3) := by decide +kernel
theorem dX5_guards_53 : decode cX5_guards 53 = .ok (.iload_n 3, 1) := by decide +kernel
theorem dX5_guards_54 : decode cX5_guards 54 = .ok (.ireturn, 1) := by decide +kernel
theorem dX5_guards_55 : decode cX5_guards 55 = .ok (.iinc 2 1, 3) := by decide +kernel
theorem dX5_guards_58 : decode cX5_guards 58 = .ok (.goto (-29), 3) := by decide +kernel
theorem dX5_guards_61 : decode cX5_guards 61 = .ok (.ldc 199, 2) := by decide +kernel
theorem dX5_guards_63 : decode cX5_guards 63 = .ok (.ireturn, 1) := by decide +kernel
theorem dX5_drew_0 : decode cX5_drew 0 = .ok (.aload_n 0, 1) := by decide +kernel
theorem dX5_drew_1 : decode cX5_drew 1 = .ok (.getfield 30, 3) := by decide +kernel
theorem dX5_drew_4 : decode cX5_drew 4 = .ok (.getfield 129, 3) := by decide +kernel
theorem dX5_drew_7 : decode cX5_drew 7 = .ok (.ifCond .ne 6, 3) := by decide +kernel
theorem dX5_drew_10 : decode cX5_drew 10 = .ok (.ldc 132, 2) := by decide +kernel
theorem dX5_drew_12 : decode cX5_drew 12 = .ok (.ireturn, 1) := by decide +kernel
theorem dX5_drew_13 : decode cX5_drew 13 = .ok (.iload_n 1, 1) := by decide +kernel
theorem dX5_drew_14 : decode cX5_drew 14 = .ok (.invokestatic 61, 3) := by decide +kernel
theorem dX5_drew_17 : decode cX5_drew 17 = .ok (.ifCond .eq 12, 3) := by decide +kernel
theorem dX5_drew_20 : decode cX5_drew 20 = .ok (.iload_n 2, 1) := by decide +kernel
theorem dX5_drew_21 : decode cX5_drew 21 = .ok (.ifCond .lt 8, 3) := by decide +kernel
theorem dX5_drew_24 : decode cX5_drew 24 = .ok (.iload_n 2, 1) := by decide +kernel
theorem dX5_drew_25 : decode cX5_drew 25 = .ok (.iconst 1, 1) := by decide +kernel
theorem dX5_drew_26 : decode cX5_drew 26 = .ok (.if_icmp .le 6, 3) := by decide +kernel
theorem dX5_drew_29 : decode cX5_drew 29 = .ok (.ldc 65, 2) := by decide +kernel
theorem dX5_drew_31 : decode cX5_drew 31 = .ok (.ireturn, 1) := by decide +kernel
theorem dX5_drew_32 : decode cX5_drew 32 = .ok (.aload_n 0, 1) := by decide +kernel
theorem dX5_drew_33 : decode cX5_drew 33 = .ok (.getfield 11, 3) := by decide +kernel
theorem dX5_drew_36 : decode cX5_drew 36 = .ok (.iload_n 1, 1) := by decide +kernel
theorem dX5_drew_37 : decode cX5_drew 37 = .ok (.aaload, 1) := by decide +kernel
theorem dX5_drew_38 : decode cX5_drew 38 = .ok (.getfield 74, 3) := by decide +kernel
theorem dX5_drew_41 : decode cX5_drew 41 = .ok (.ifCond .ne 9, 3) := by decide +kernel
theorem dX5_drew_44 : decode cX5_drew 44 = .ok (.aload_n 0, 1) := by decide +kernel
theorem dX5_drew_45 : decode cX5_drew 45 = .ok (.iconst 1, 1) := by decide +kernel
theorem dX5_drew_46 : decode cX5_drew 46 = .ok (.invokevirtual 66, 3) := by decide +kernel
theorem dX5_drew_49 : decode cX5_drew 49 = .ok (.ireturn, 1) := by decide +kernel
theorem dX5_drew_50 : decode cX5_drew 50 = .ok (.aload_n 0, 1) := by decide +kernel
theorem dX5_drew_51 : decode cX5_drew 51 = .ok (.getfield 11, 3) := by decide +kernel
theorem dX5_drew_54 : decode cX5_drew 54 = .ok (.iload_n 1, 1) := by decide +kernel
theorem dX5_drew_55 : decode cX5_drew 55 = .ok (.aaload, 1) := by decide +kernel
theorem dX5_drew_56 : decode cX5_drew 56 = .ok (.iconst 0, 1) := by decide +kernel
theorem dX5_drew_57 : decode cX5_drew 57 = .ok (.aload_n 0, 1) := by decide +kernel
theorem dX5_drew_58 : decode cX5_drew 58 = .ok (.getfield 30, 3) := by decide +kernel
theorem dX5_drew_61 : decode cX5_drew 61 = .ok (.getfield 126, 3) := by decide +kernel
theorem dX5_drew_64 : decode cX5_drew 64 = .ok (.invokevirtual 78, 3) := by decide +kernel
theorem dX5_drew_67 : decode cX5_drew 67 = .ok (.ifCond .ne 9, 3) := by decide +kernel
theorem dX5_drew_70 : decode cX5_drew 70 = .ok (.aload_n 0, 1) := by decide +kernel
theorem dX5_drew_71 : decode cX5_drew 71 = .ok (.iconst 2, 1) := by decide +kernel
theorem dX5_drew_72 : decode cX5_drew 72 = .ok (.invokevirtual 66, 3) := by decide +kernel
theorem dX5_drew_75 : decode cX5_drew 75 = .ok (.ireturn, 1) := by decide +kernel
theorem dX5_drew_76 : decode cX5_drew 76 = .ok (.aload_n 0, 1) := by decide +kernel
theorem dX5_drew_77 : decode cX5_drew 77 = .ok (.iconst 0, 1) := by decide +kernel
theorem dX5_drew_78 : decode cX5_drew 78 = .ok (.putfield 58, 3) := by decide +kernel
theorem dX5_drew_81 : decode cX5_drew 81 = .ok (.iload_n 2, 1) := by decide +kernel
theorem dX5_drew_82 : decode cX5_drew 82 = .ok (.ifCond .ne 16, 3) := by decide +kernel
theorem dX5_drew_85 : decode cX5_drew 85 = .ok (.aload_n 0, 1) := by decide +kernel
theorem dX5_drew_86 : decode cX5_drew 86 = .ok (.aload_n 0, 1) := by decide +kernel
theorem dX5_drew_87 : decode cX5_drew 87 = .ok (.getfield 11, 3) := by decide +kernel
theorem dX5_drew_90 : decode cX5_drew 90 = .ok (.iload_n 1, 1) := by decide +kernel
theorem dX5_drew_91 : decode cX5_drew 91 = .ok (.aaload, 1) := by decide +kernel
theorem dX5_drew_92 : decode cX5_drew 92 = .ok (.invokevirtual 203, 3) := by decide +kernel
theorem dX5_drew_95 : decode cX5_drew 95 = .ok (.goto 13, 3) := by decide +kernel
theorem dX5_drew_98 : decode cX5_drew 98 = .ok (.aload_n 0, 1) := by decide +kernel
theorem dX5_drew_99 : decode cX5_drew 99 = .ok (.aload_n 0, 1) := by decide +kernel
theorem dX5_drew_100 : decode cX5_drew 100 = .ok (.getfield 11, 3) := by decide +kernel
theorem dX5_drew_103 : decode cX5_drew 103 = .ok (.iload_n 1, 1) := by decide +kernel
theorem dX5_drew_104 : decode cX5_drew 104 = .ok (.aaload, 1) := by decide +kernel
theorem dX5_drew_105 : decode cX5_drew 105 = .ok (.invokevirtual 207, 3) := by decide +kernel
theorem dX5_drew_108 : decode cX5_drew 108 = .ok (.ireturn, 1) := by decide +kernel
theorem dX5_where_0 : decode cX5_where 0 = .ok (.aload_n 0, 1) := by decide +kernel
theorem dX5_where_1 : decode cX5_where 1 = .ok (.getfield 30, 3) := by decide +kernel
theorem dX5_where_4 : decode cX5_where 4 = .ok (.getfield 126, 3) := by decide +kernel
theorem dX5_where_7 : decode cX5_where 7 = .ok (.ifCond .ne 6, 3) := by decide +kernel
theorem dX5_where_10 : decode cX5_where 10 = .ok (.ldc 132, 2) := by decide +kernel
theorem dX5_where_12 : decode cX5_where 12 = .ok (.ireturn, 1) := by decide +kernel
theorem dX5_where_13 : decode cX5_where 13 = .ok (.iload_n 1, 1) := by decide +kernel
theorem dX5_where_14 : decode cX5_where 14 = .ok (.iconst 1, 1) := by decide +kernel
theorem dX5_where_15 : decode cX5_where 15 = .ok (.if_icmp .lt 29, 3) := by decide +kernel
theorem dX5_where_18 : decode cX5_where 18 = .ok (.iload_n 1, 1) := by decide +kernel
theorem dX5_where_19 : decode cX5_where 19 = .ok (.bipush 99, 2) := by decide +kernel
theorem dX5_where_21 : decode cX5_where 21 = .ok (.if_icmp .gt 23, 3) := by decide +kernel
theorem dX5_where_24 : decode cX5_where 24 = .ok (.iload_n 2, 1) := by decide +kernel
theorem dX5_where_25 : decode cX5_where 25 = .ok (.iconst 1, 1) := by decide +kernel
theorem dX5_where_26 : decode cX5_where 26 = .ok (.if_icmp .lt 18, 3) := by decide +kernel
theorem dX5_where_29 : decode cX5_where 29 = .ok (.iload_n 2, 1) := by decide +kernel
theorem dX5_where_30 : decode cX5_where 30 = .ok (.bipush 20, 2) := by decide +kernel
theorem dX5_where_32 : decode cX5_where 32 = .ok (.if_icmp .gt 12, 3) := by decide +kernel
theorem dX5_where_35 : decode cX5_where 35 = .ok (.iload_n 3, 1) := by decide +kernel
theorem dX5_where_36 : decode cX5_where 36 = .ok (.ifCond .lt 8, 3) := by decide +kernel
theorem dX5_where_39 : decode cX5_where 39 = .ok (.iload_n 3, 1) := by decide +kernel
theorem dX5_where_40 : decode cX5_where 40 = .ok (.iconst 1, 1) := by decide +kernel
theorem dX5_where_41 : decode cX5_where 41 = .ok (.if_icmp .le 6, 3) := by decide +kernel
theorem dX5_where_44 : decode cX5_where 44 = .ok (.ldc 65, 2) := by decide +kernel
theorem dX5_where_46 : decode cX5_where 46 = .ok (.ireturn, 1) := by decide +kernel
theorem dX5_where_47 : decode cX5_where 47 = .ok (.iconst 0, 1) := by decide +kernel
theorem dX5_where_48 : decode cX5_where 48 = .ok (.istore 4, 2) := by decide +kernel
theorem dX5_where_50 : decode cX5_where 50 = .ok (.aload_n 0, 1) := by decide +kernel
theorem dX5_where_51 : decode cX5_where 51 = .ok (.iconst 0, 1) := by decide +kernel
theorem dX5_where_52 : decode cX5_where 52 = .ok (.iload_n 1, 1) := by decide +kernel
theorem dX5_where_53 : decode cX5_where 53 = .ok (.iload_n 2, 1) := by decide +kernel
theorem dX5_where_54 : decode cX5_where 54 = .ok (.invokevirtual 210, 3) := by decide +kernel
theorem dX5_where_57 : decode cX5_where 57 = .ok (.istore 5, 2) := by decide +kernel
theorem dX5_where_59 : decode cX5_where 59 = .ok (.iconst 1, 1) := by decide +kernel
theorem dX5_where_60 : decode cX5_where 60 = .ok (.istore 6, 2) := by decide +kernel
theorem dX5_where_62 : decode cX5_where 62 = .ok (.iload 6, 2) := by decide +kernel
theorem dX5_where_64 : decode cX5_where 64 = .ok (.aload_n 0, 1) := by decide +kernel
theorem dX5_where_65 : decode cX5_where 65 = .ok (.getfield 30, 3) := by decide +kernel
theorem dX5_where_68 : decode cX5_where 68 = .ok (.getfield 126, 3) := by decide +kernel
theorem dX5_where_71 : decode cX5_where 71 = .ok (.if_icmp .ge 34, 3) := by decide +kernel
theorem dX5_where_74 : decode cX5_where 74 = .ok (.aload_n 0, 1) := by decide +kernel
theorem dX5_where_75 : decode cX5_where 75 = .ok (.iload 6, 2) := by decide +kernel
theorem dX5_where_77 : decode cX5_where 77 = .ok (.iload_n 1, 1) := by decide +kernel
theorem dX5_where_78 : decode cX5_where 78 = .ok (.iload_n 2, 1) := by decide +kernel
theorem dX5_where_79 : decode cX5_where 79 = .ok (.invokevirtual 210, 3) := by decide +kernel
theorem dX5_where_82 : decode cX5_where 82 = .ok (.istore 7, 2) := by decide +kernel
theorem dX5_where_84 : decode cX5_where 84 = .ok (.iload 7, 2) := by decide +kernel
theorem dX5_where_86 : decode cX5_where 86 = .ok (.iload 5, 2) := by decide +kernel
theorem dX5_where_88 : decode cX5_where 88 = .ok (.if_icmp .ge 11, 3) := by decide +kernel
theorem dX5_where_91 : decode cX5_where 91 = .ok (.iload 6, 2) := by decide +kernel
theorem dX5_where_93 : decode cX5_where 93 = .ok (.istore 4, 2) := by decide +kernel
theorem dX5_where_95 : decode cX5_where 95 = .ok (.iload 7, 2) := by decide +kernel
theorem dX5_where_97 : decode cX5_where 97 = .ok (.istore 5, 2) := by decide +kernel
theorem dX5_where_99 : decode cX5_where 99 = .ok (.iinc 6 1, 3) := by decide +kernel
theorem dX5_where_102 : decode cX5_where 102 = .ok (.goto (-40), 3) := by decide +kernel
theorem dX5_where_105 : decode cX5_where 105 = .ok (.iload_n 3, 1) := by decide +kernel
theorem dX5_where_106 : decode cX5_where 106 = .ok (.ifCond .ne 8, 3) := by decide +kernel
theorem dX5_where_109 : decode cX5_where 109 = .ok (.iload 4, 2) := by decide +kernel
theorem dX5_where_111 : decode cX5_where 111 = .ok (.goto 5, 3) := by decide +kernel
theorem dX5_where_114 : decode cX5_where 114 = .ok (.iload 5, 2) := by decide +kernel
theorem dX5_where_116 : decode cX5_where 116 = .ok (.ireturn, 1) := by decide +kernel
theorem dX5_wed_0 : decode cX5_wed 0 = .ok (.aload_n 0, 1) := by decide +kernel
theorem dX5_wed_1 : decode cX5_wed 1 = .ok (.getfield 30, 3) := by decide +kernel
theorem dX5_wed_4 : decode cX5_wed 4 = .ok (.iload_n 1, 1) := by decide +kernel
theorem dX5_wed_5 : decode cX5_wed 5 = .ok (.invokevirtual 149, 3) := by decide +kernel
theorem dX5_wed_8 : decode cX5_wed 8 = .ok (.ifCond .eq 30, 3) := by decide +kernel
theorem dX5_wed_11 : decode cX5_wed 11 = .ok (.aload_n 0, 1) := by decide +kernel
theorem dX5_wed_12 : decode cX5_wed 12 = .ok (.getfield 30, 3) := by decide +kernel
theorem dX5_wed_15 : decode cX5_wed 15 = .ok (.iload_n 2, 1) := by decide +kernel
theorem dX5_wed_16 : decode cX5_wed 16 = .ok (.invokevirtual 149, 3) := by decide +kernel
theorem dX5_wed_19 : decode cX5_wed 19 = .ok (.ifCond .eq 19, 3) := by decide +kernel
theorem dX5_wed_22 : decode cX5_wed 22 = .ok (.iload_n 1, 1) := by decide +kernel
theorem dX5_wed_23 : decode cX5_wed 23 = .ok (.iload_n 2, 1) := by decide +kernel
theorem dX5_wed_24 : decode cX5_wed 24 = .ok (.if_icmp .eq 14, 3) := by decide +kernel
theorem dX5_wed_27 : decode cX5_wed 27 = .ok (.iload_n 3, 1) := by decide +kernel
theorem dX5_wed_28 : decode cX5_wed 28 = .ok (.iconst 1, 1) := by decide +kernel
theorem dX5_wed_29 : decode cX5_wed 29 = .ok (.if_icmp .lt 9, 3) := by decide +kernel
theorem dX5_wed_32 : decode cX5_wed 32 = .ok (.iload_n 3, 1) := by decide +kernel
theorem dX5_wed_33 : decode cX5_wed 33 = .ok (.bipush 20, 2) := by decide +kernel
theorem dX5_wed_35 : decode cX5_wed 35 = .ok (.if_icmp .le 6, 3) := by decide +kernel
theorem dX5_wed_38 : decode cX5_wed 38 = .ok (.ldc 65, 2) := by decide +kernel
theorem dX5_wed_40 : decode cX5_wed 40 = .ok (.ireturn, 1) := by decide +kernel
theorem dX5_wed_41 : decode cX5_wed 41 = .ok (.aload_n 0, 1) := by decide +kernel
theorem dX5_wed_42 : decode cX5_wed 42 = .ok (.invokevirtual 179, 3) := by decide +kernel
theorem dX5_wed_45 : decode cX5_wed 45 = .ok (.aload_n 0, 1) := by decide +kernel
theorem dX5_wed_46 : decode cX5_wed 46 = .ok (.getfield 30, 3) := by decide +kernel
theorem dX5_wed_49 : decode cX5_wed 49 = .ok (.getfield 164, 3) := by decide +kernel
theorem dX5_wed_52 : decode cX5_wed 52 = .ok (.iload_n 1, 1) := by decide +kernel
theorem dX5_wed_53 : decode cX5_wed 53 = .ok (.iaload, 1) := by decide +kernel
theorem dX5_wed_54 : decode cX5_wed 54 = .ok (.aload_n 0, 1) := by decide +kernel
theorem dX5_wed_55 : decode cX5_wed 55 = .ok (.getfield 30, 3) := by decide +kernel
theorem dX5_wed_58 : decode cX5_wed 58 = .ok (.getfield 164, 3) := by decide +kernel
theorem dX5_wed_61 : decode cX5_wed 61 = .ok (.iload_n 2, 1) := by decide +kernel
theorem dX5_wed_62 : decode cX5_wed 62 = .ok (.iaload, 1) := by decide +kernel
theorem dX5_wed_63 : decode cX5_wed 63 = .ok (.iadd, 1) := by decide +kernel
theorem dX5_wed_64 : decode cX5_wed 64 = .ok (.istore 4, 2) := by decide +kernel
theorem dX5_wed_66 : decode cX5_wed 66 = .ok (.iload 4, 2) := by decide +kernel
theorem dX5_wed_68 : decode cX5_wed 68 = .ok (.iconst 2, 1) := by decide +kernel
theorem dX5_wed_69 : decode cX5_wed 69 = .ok (.idiv, 1) := by decide +kernel
theorem dX5_wed_70 : decode cX5_wed 70 = .ok (.istore 5, 2) := by decide +kernel
theorem dX5_wed_72 : decode cX5_wed 72 = .ok (.aload_n 0, 1) := by decide +kernel
theorem dX5_wed_73 : decode cX5_wed 73 = .ok (.getfield 37, 3) := by decide +kernel
theorem dX5_wed_76 : decode cX5_wed 76 = .ok (.getfield 164, 3) := by decide +kernel
theorem dX5_wed_79 : decode cX5_wed 79 = .ok (.iload_n 1, 1) := by decide +kernel
theorem dX5_wed_80 : decode cX5_wed 80 = .ok (.aload_n 0, 1) := by decide +kernel
theorem dX5_wed_81 : decode cX5_wed 81 = .ok (.getfield 30, 3) := by decide +kernel
theorem dX5_wed_84 : decode cX5_wed 84 = .ok (.getfield 214, 3) := by decide +kernel
theorem dX5_wed_87 : decode cX5_wed 87 = .ok (.iload 4, 2) := by decide +kernel
theorem dX5_wed_89 : decode cX5_wed 89 = .ok (.iload 5, 2) := by decide +kernel
theorem dX5_wed_91 : decode cX5_wed 91 = .ok (.isub, 1) := by decide +kernel
theorem dX5_wed_92 : decode cX5_wed 92 = .ok (.invokestatic 217, 3) := by decide +kernel
theorem dX5_wed_95 : decode cX5_wed 95 = .ok (.iastore, 1) := by decide +kernel
theorem dX5_wed_96 : decode cX5_wed 96 = .ok (.aload_n 0, 1) := by decide +kernel
theorem dX5_wed_97 : decode cX5_wed 97 = .ok (.getfield 37, 3) := by decide +kernel
theorem dX5_wed_100 : decode cX5_wed 100 = .ok (.getfield 164, 3) := by decide +kernel
theorem dX5_wed_103 : decode cX5_wed 103 = .ok (.iload_n 2, 1) := by decide +kernel
theorem dX5_wed_104 : decode cX5_wed 104 = .ok (.aload_n 0, 1) := by decide +kernel
theorem dX5_wed_105 : decode cX5_wed 105 = .ok (.getfield 30, 3) := by decide +kernel
theorem dX5_wed_108 : decode cX5_wed 108 = .ok (.getfield 214, 3) := by decide +kernel
theorem dX5_wed_111 : decode cX5_wed 111 = .ok (.iload 5, 2) := by decide +kernel
theorem dX5_wed_113 : decode cX5_wed 113 = .ok (.invokestatic 217, 3) := by decide +kernel
theorem dX5_wed_116 : decode cX5_wed 116 = .ok (.iastore, 1) := by decide +kernel
theorem dX5_wed_117 : decode cX5_wed 117 = .ok (.iconst 0, 1) := by decide +kernel
theorem dX5_wed_118 : decode cX5_wed 118 = .ok (.istore 6, 2) := by decide +kernel
theorem dX5_wed_120 : decode cX5_wed 120 = .ok (.iconst 0, 1) := by decide +kernel
theorem dX5_wed_121 : decode cX5_wed 121 = .ok (.istore 7, 2) := by decide +kernel
theorem dX5_wed_123 : decode cX5_wed 123 = .ok (.iload 7, 2) := by decide +kernel
theorem dX5_wed_125 : decode cX5_wed 125 = .ok (.iload_n 3, 1) := by decide +kernel
theorem dX5_wed_126 : decode cX5_wed 126 = .ok (.if_icmp .ge 23, 3) := by decide +kernel
theorem dX5_wed_129 : decode cX5_wed 129 = .ok (.aload_n 0, 1) := by decide +kernel
theorem dX5_wed_130 : decode cX5_wed 130 = .ok (.getfield 37, 3) := by decide +kernel
theorem dX5_wed_133 : decode cX5_wed 133 = .ok (.iconst 0, 1) := by decide +kernel
theorem dX5_wed_134 : decode cX5_wed 134 = .ok (.invokevirtual 139, 3) := by decide +kernel
theorem dX5_wed_137 : decode cX5_wed 137 = .ok (.ifCond .eq 6, 3) := by decide +kernel
theorem dX5_wed_140 : decode cX5_wed 140 = .ok (.iinc 6 1, 3) := by decide +kernel
theorem dX5_wed_143 : decode cX5_wed 143 = .ok (.iinc 7 1, 3) := by decide +kernel
theorem dX5_wed_146 : decode cX5_wed 146 = .ok (.goto (-23), 3) := by decide +kernel
theorem dX5_wed_149 : decode cX5_wed 149 = .ok (.iload 6, 2) := by decide +kernel
theorem dX5_wed_151 : decode cX5_wed 151 = .ok (.ireturn, 1) := by decide +kernel
theorem dX5_image_0 : decode cX5_image 0 = .ok (.iload_n 1, 1) := by decide +kernel
theorem dX5_image_1 : decode cX5_image 1 = .ok (.ifCond .lt 8, 3) := by decide +kernel
theorem dX5_image_4 : decode cX5_image 4 = .ok (.iload_n 1, 1) := by decide +kernel
theorem dX5_image_5 : decode cX5_image 5 = .ok (.iconst 2, 1) := by decide +kernel
theorem dX5_image_6 : decode cX5_image 6 = .ok (.if_icmp .lt 6, 3) := by decide +kernel
theorem dX5_image_9 : decode cX5_image 9 = .ok (.ldc 65, 2) := by decide +kernel
theorem dX5_image_11 : decode cX5_image 11 = .ok (.ireturn, 1) := by decide +kernel
theorem dX5_image_12 : decode cX5_image 12 = .ok (.aload_n 0, 1) := by decide +kernel
theorem dX5_image_13 : decode cX5_image 13 = .ok (.getfield 30, 3) := by decide +kernel
theorem dX5_image_16 : decode cX5_image 16 = .ok (.getfield 129, 3) := by decide +kernel
theorem dX5_image_19 : decode cX5_image 19 = .ok (.ifCond .ne 6, 3) := by decide +kernel
theorem dX5_image_22 : decode cX5_image 22 = .ok (.ldc 132, 2) := by decide +kernel
theorem dX5_image_24 : decode cX5_image 24 = .ok (.ireturn, 1) := by decide +kernel
theorem dX5_image_25 : decode cX5_image 25 = .ok (.aload_n 0, 1) := by decide +kernel
theorem dX5_image_26 : decode cX5_image 26 = .ok (.getfield 18, 3) := by decide +kernel
theorem dX5_image_29 : decode cX5_image 29 = .ok (.iload_n 1, 1) := by decide +kernel
theorem dX5_image_30 : decode cX5_image 30 = .ok (.aaload, 1) := by decide +kernel
theorem dX5_image_31 : decode cX5_image 31 = .ok (.aload_n 0, 1) := by decide +kernel
theorem dX5_image_32 : decode cX5_image 32 = .ok (.getfield 30, 3) := by decide +kernel
theorem dX5_image_35 : decode cX5_image 35 = .ok (.invokevirtual 119, 3) := by decide +kernel
theorem dX5_image_38 : decode cX5_image 38 = .ok (.iconst 1, 1) := by decide +kernel
theorem dX5_image_39 : decode cX5_image 39 = .ok (.ireturn, 1) := by decide +kernel
theorem dX5_restore_0 : decode cX5_restore 0 = .ok (.iload_n 1, 1) := by decide +kernel
theorem dX5_restore_1 : decode cX5_restore 1 = .ok (.ifCond .lt 8, 3) := by decide +kernel
theorem dX5_restore_4 : decode cX5_restore 4 = .ok (.iload_n 1, 1) := by decide +kernel
theorem dX5_restore_5 : decode cX5_restore 5 = .ok (.iconst 2, 1) := by decide +kernel
theorem dX5_restore_6 : decode cX5_restore 6 = .ok (.if_icmp .lt 6, 3) := by decide +kernel
theorem dX5_restore_9 : decode cX5_restore 9 = .ok (.ldc 65, 2) := by decide +kernel
theorem dX5_restore_11 : decode cX5_restore 11 = .ok (.ireturn, 1) := by decide +kernel
theorem dX5_restore_12 : decode cX5_restore 12 = .ok (.aload_n 0, 1) := by decide +kernel
theorem dX5_restore_13 : decode cX5_restore 13 = .ok (.getfield 18, 3) := by decide +kernel
theorem dX5_restore_16 : decode cX5_restore 16 = .ok (.iload_n 1, 1) := by decide +kernel
theorem dX5_restore_17 : decode cX5_restore 17 = .ok (.aaload, 1) := by decide +kernel
theorem dX5_restore_18 : decode cX5_restore 18 = .ok (.getfield 129, 3) := by decide +kernel
theorem dX5_restore_21 : decode cX5_restore 21 = .ok (.ifCond .ne 6, 3) := by decide +kernel
theorem dX5_restore_24 : decode cX5_restore 24 = .ok (.ldc 132, 2) := by decide +kernel
theorem dX5_restore_26 : decode cX5_restore 26 = .ok (.ireturn, 1) := by decide +kernel
theorem dX5_restore_27 : decode cX5_restore 27 = .ok (.aload_n 0, 1) := by decide +kernel
theorem dX5_restore_28 : decode cX5_restore 28 = .ok (.getfield 30, 3) := by decide +kernel
theorem dX5_restore_31 : decode cX5_restore 31 = .ok (.aload_n 0, 1) := by decide +kernel
theorem dX5_restore_32 : decode cX5_restore 32 = .ok (.getfield 18, 3) := by decide +kernel
theorem dX5_restore_35 : decode cX5_restore 35 = .ok (.iload_n 1, 1) := by decide +kernel
theorem dX5_restore_36 : decode cX5_restore 36 = .ok (.aaload, 1) := by decide +kernel
theorem dX5_restore_37 : decode cX5_restore 37 = .ok (.invokevirtual 119, 3) := by decide +kernel
theorem dX5_restore_40 : decode cX5_restore 40 = .ok (.aload_n 0, 1) := by decide +kernel
theorem dX5_restore_41 : decode cX5_restore 41 = .ok (.getfield 43, 3) := by decide +kernel
theorem dX5_restore_44 : decode cX5_restore 44 = .ok (.invokevirtual 123, 3) := by decide +kernel
theorem dX5_restore_47 : decode cX5_restore 47 = .ok (.iconst 1, 1) := by decide +kernel
theorem dX5_restore_48 : decode cX5_restore 48 = .ok (.ireturn, 1) := by decide +kernel
theorem dX5_kind_0 : decode cX5_kind 0 = .ok (.aload_n 0, 1) := by decide +kernel
theorem dX5_kind_1 : decode cX5_kind 1 = .ok (.getfield 30, 3) := by decide +kernel
theorem dX5_kind_4 : decode cX5_kind 4 = .ok (.iload_n 1, 1) := by decide +kernel
theorem dX5_kind_5 : decode cX5_kind 5 = .ok (.invokevirtual 149, 3) := by decide +kernel
theorem dX5_kind_8 : decode cX5_kind 8 = .ok (.ifCond .eq 15, 3) := by decide +kernel
theorem dX5_kind_11 : decode cX5_kind 11 = .ok (.aload_n 0, 1) := by decide +kernel
theorem dX5_kind_12 : decode cX5_kind 12 = .ok (.getfield 30, 3) := by decide +kernel
theorem dX5_kind_15 : decode cX5_kind 15 = .ok (.getfield 222, 3) := by decide +kernel
theorem dX5_kind_18 : decode cX5_kind 18 = .ok (.iload_n 1, 1) := by decide +kernel
theorem dX5_kind_19 : decode cX5_kind 19 = .ok (.iaload, 1) := by decide +kernel
theorem dX5_kind_20 : decode cX5_kind 20 = .ok (.goto 5, 3) := by decide +kernel
theorem dX5_kind_23 : decode cX5_kind 23 = .ok (.ldc 65, 2) := by decide +kernel
theorem dX5_kind_25 : decode cX5_kind 25 = .ok (.ireturn, 1) := by decide +kernel
theorem dX5_as_0 : decode cX5_as 0 = .ok (.aload_n 0, 1) := by decide +kernel
theorem dX5_as_1 : decode cX5_as 1 = .ok (.getfield 30, 3) := by decide +kernel
theorem dX5_as_4 : decode cX5_as 4 = .ok (.iload_n 1, 1) := by decide +kernel
theorem dX5_as_5 : decode cX5_as 5 = .ok (.invokevirtual 149, 3) := by decide +kernel
theorem dX5_as_8 : decode cX5_as 8 = .ok (.ifCond .eq 12, 3) := by decide +kernel
theorem dX5_as_11 : decode cX5_as 11 = .ok (.iload_n 2, 1) := by decide +kernel
theorem dX5_as_12 : decode cX5_as 12 = .ok (.ifCond .lt 8, 3) := by decide +kernel
theorem dX5_as_15 : decode cX5_as 15 = .ok (.iload_n 2, 1) := by decide +kernel
theorem dX5_as_16 : decode cX5_as 16 = .ok (.iconst 5, 1) := by decide +kernel
theorem dX5_as_17 : decode cX5_as 17 = .ok (.if_icmp .le 6, 3) := by decide +kernel
theorem dX5_as_20 : decode cX5_as 20 = .ok (.ldc 65, 2) := by decide +kernel
theorem dX5_as_22 : decode cX5_as 22 = .ok (.ireturn, 1) := by decide +kernel
theorem dX5_as_23 : decode cX5_as 23 = .ok (.aload_n 0, 1) := by decide +kernel
theorem dX5_as_24 : decode cX5_as 24 = .ok (.getfield 30, 3) := by decide +kernel
theorem dX5_as_27 : decode cX5_as 27 = .ok (.getfield 222, 3) := by decide +kernel
theorem dX5_as_30 : decode cX5_as 30 = .ok (.iload_n 1, 1) := by decide +kernel
theorem dX5_as_31 : decode cX5_as 31 = .ok (.iaload, 1) := by decide +kernel
theorem dX5_as_32 : decode cX5_as 32 = .ok (.iload_n 2, 1) := by decide +kernel
theorem dX5_as_33 : decode cX5_as 33 = .ok (.invokestatic 225, 3) := by decide +kernel
theorem dX5_as_36 : decode cX5_as 36 = .ok (.ifCond .ne 9, 3) := by decide +kernel
theorem dX5_as_39 : decode cX5_as 39 = .ok (.aload_n 0, 1) := by decide +kernel
theorem dX5_as_40 : decode cX5_as 40 = .ok (.iconst 3, 1) := by decide +kernel
theorem dX5_as_41 : decode cX5_as 41 = .ok (.invokevirtual 66, 3) := by decide +kernel
theorem dX5_as_44 : decode cX5_as 44 = .ok (.ireturn, 1) := by decide +kernel
theorem dX5_as_45 : decode cX5_as 45 = .ok (.aload_n 0, 1) := by decide +kernel
theorem dX5_as_46 : decode cX5_as 46 = .ok (.iconst 0, 1) := by decide +kernel
theorem dX5_as_47 : decode cX5_as 47 = .ok (.putfield 58, 3) := by decide +kernel
theorem dX5_as_50 : decode cX5_as 50 = .ok (.iload_n 1, 1) := by decide +kernel
theorem dX5_as_51 : decode cX5_as 51 = .ok (.ireturn, 1) := by decide +kernel
theorem dX5_ask_0 : decode cX5_ask 0 = .ok (.aload_n 0, 1) := by decide +kernel
theorem dX5_ask_1 : decode cX5_ask 1 = .ok (.getfield 30, 3) := by decide +kernel
theorem dX5_ask_4 : decode cX5_ask 4 = .ok (.iload_n 1, 1) := by decide +kernel
theorem dX5_ask_5 : decode cX5_ask 5 = .ok (.invokevirtual 149, 3) := by decide +kernel
theorem dX5_ask_8 : decode cX5_ask 8 = .ok (.ifCond .eq 12, 3) := by decide +kernel
theorem dX5_ask_11 : decode cX5_ask 11 = .ok (.iload_n 2, 1) := by decide +kernel
theorem dX5_ask_12 : decode cX5_ask 12 = .ok (.ifCond .lt 8, 3) := by decide +kernel
theorem dX5_ask_15 : decode cX5_ask 15 = .ok (.iload_n 2, 1) := by decide +kernel
theorem dX5_ask_16 : decode cX5_ask 16 = .ok (.iconst 1, 1) := by decide +kernel
theorem dX5_ask_17 : decode cX5_ask 17 = .ok (.if_icmp .le 6, 3) := by decide +kernel
theorem dX5_ask_20 : decode cX5_ask 20 = .ok (.ldc 65, 2) := by decide +kernel
theorem dX5_ask_22 : decode cX5_ask 22 = .ok (.ireturn, 1) := by decide +kernel
theorem dX5_ask_23 : decode cX5_ask 23 = .ok (.aload_n 0, 1) := by decide +kernel
theorem dX5_ask_24 : decode cX5_ask 24 = .ok (.getfield 50, 3) := by decide +kernel
theorem dX5_ask_27 : decode cX5_ask 27 = .ok (.iconst 0, 1) := by decide +kernel
theorem dX5_ask_28 : decode cX5_ask 28 = .ok (.putfield 228, 3) := by decide +kernel
theorem dX5_ask_31 : decode cX5_ask 31 = .ok (.aload_n 0, 1) := by decide +kernel
theorem dX5_ask_32 : decode cX5_ask 32 = .ok (.getfield 30, 3) := by decide +kernel
theorem dX5_ask_35 : decode cX5_ask 35 = .ok (.getfield 222, 3) := by decide +kernel
theorem dX5_ask_38 : decode cX5_ask 38 = .ok (.iload_n 1, 1) := by decide +kernel
theorem dX5_ask_39 : decode cX5_ask 39 = .ok (.iaload, 1) := by decide +kernel
theorem dX5_ask_40 : decode cX5_ask 40 = .ok (.istore_n 3, 1) := by decide +kernel
theorem dX5_ask_41 : decode cX5_ask 41 = .ok (.iload_n 2, 1) := by decide +kernel
theorem dX5_ask_42 : decode cX5_ask 42 = .ok (.ifCond .ne 10, 3) := by decide +kernel
theorem dX5_ask_45 : decode cX5_ask 45 = .ok (.iload_n 3, 1) := by decide +kernel
theorem dX5_ask_46 : decode cX5_ask 46 = .ok (.invokestatic 229, 3) := by decide +kernel
theorem dX5_ask_49 : decode cX5_ask 49 = .ok (.goto 7, 3) := by decide +kernel
theorem dX5_ask_52 : decode cX5_ask 52 = .ok (.iload_n 3, 1) := by decide +kernel
theorem dX5_ask_53 : decode cX5_ask 53 = .ok (.invokestatic 232, 3) := by decide +kernel
theorem dX5_ask_56 : decode cX5_ask 56 = .ok (.aload_n 0, 1) := by decide +kernel
theorem dX5_ask_57 : decode cX5_ask 57 = .ok (.getfield 30, 3) := by decide +kernel
theorem dX5_ask_60 : decode cX5_ask 60 = .ok (.iload_n 1, 1) := by decide +kernel
theorem dX5_ask_61 : decode cX5_ask 61 = .ok (.aload_n 0, 1) := by decide +kernel
theorem dX5_ask_62 : decode cX5_ask 62 = .ok (.getfield 50, 3) := by decide +kernel
theorem dX5_ask_65 : decode cX5_ask 65 = .ok (.iconst 1, 1) := by decide +kernel
theorem dX5_ask_66 : decode cX5_ask 66 = .ok (.invokestatic 235, 3) := by decide +kernel
theorem dX5_ask_69 : decode cX5_ask 69 = .ok (.ireturn, 1) := by decide +kernel
theorem dX5_trace_0 : decode cX5_trace 0 = .ok (.iload_n 1, 1) := by decide +kernel
theorem dX5_trace_1 : decode cX5_trace 1 = .ok (.ifCond .lt 26, 3) := by decide +kernel
theorem dX5_trace_4 : decode cX5_trace 4 = .ok (.iload_n 1, 1) := by decide +kernel
theorem dX5_trace_5 : decode cX5_trace 5 = .ok (.aload_n 0, 1) := by decide +kernel
theorem dX5_trace_6 : decode cX5_trace 6 = .ok (.getfield 50, 3) := by decide +kernel
theorem dX5_trace_9 : decode cX5_trace 9 = .ok (.getfield 228, 3) := by decide +kernel
theorem dX5_trace_12 : decode cX5_trace 12 = .ok (.if_icmp .ge 15, 3) := by decide +kernel
theorem dX5_trace_15 : decode cX5_trace 15 = .ok (.aload_n 0, 1) := by decide +kernel
theorem dX5_trace_16 : decode cX5_trace 16 = .ok (.getfield 50, 3) := by decide +kernel
theorem dX5_trace_19 : decode cX5_trace 19 = .ok (.getfield 239, 3) := by decide +kernel
theorem dX5_trace_22 : decode cX5_trace 22 = .ok (.iload_n 1, 1) := by decide +kernel
theorem dX5_trace_23 : decode cX5_trace 23 = .ok (.iaload, 1) := by decide +kernel
theorem dX5_trace_24 : decode cX5_trace 24 = .ok (.goto 5, 3) := by decide +kernel
theorem dX5_trace_27 : decode cX5_trace 27 = .ok (.ldc 199, 2) := by decide +kernel
theorem dX5_trace_29 : decode cX5_trace 29 = .ok (.ireturn, 1) := by decide +kernel
theorem dX5_count_0 : decode cX5_count 0 = .ok (.iload_n 1, 1) := by decide +kernel
theorem dX5_count_1 : decode cX5_count 1 = .ok (.tableswitch 110 0 6 #[43, 48, 56, 64, 79, 87, 102], 43) := by decide +kernel
theorem dX5_count_44 : decode cX5_count 44 = .ok (.aload_n 0, 1) := by decide +kernel
theorem dX5_count_45 : decode cX5_count 45 = .ok (.invokevirtual 242, 3) := by decide +kernel
theorem dX5_count_48 : decode cX5_count 48 = .ok (.ireturn, 1) := by decide +kernel
theorem dX5_count_49 : decode cX5_count 49 = .ok (.aload_n 0, 1) := by decide +kernel
theorem dX5_count_50 : decode cX5_count 50 = .ok (.getfield 30, 3) := by decide +kernel
theorem dX5_count_53 : decode cX5_count 53 = .ok (.getfield 126, 3) := by decide +kernel
theorem dX5_count_56 : decode cX5_count 56 = .ok (.ireturn, 1) := by decide +kernel
theorem dX5_count_57 : decode cX5_count 57 = .ok (.aload_n 0, 1) := by decide +kernel
theorem dX5_count_58 : decode cX5_count 58 = .ok (.getfield 30, 3) := by decide +kernel
theorem dX5_count_61 : decode cX5_count 61 = .ok (.getfield 133, 3) := by decide +kernel
theorem dX5_count_64 : decode cX5_count 64 = .ok (.ireturn, 1) := by decide +kernel
theorem dX5_count_65 : decode cX5_count 65 = .ok (.aload_n 0, 1) := by decide +kernel
theorem dX5_count_66 : decode cX5_count 66 = .ok (.getfield 30, 3) := by decide +kernel
theorem dX5_count_69 : decode cX5_count 69 = .ok (.aload_n 0, 1) := by decide +kernel
theorem dX5_count_70 : decode cX5_count 70 = .ok (.getfield 30, 3) := by decide +kernel
theorem dX5_count_73 : decode cX5_count 73 = .ok (.getfield 164, 3) := by decide +kernel
theorem dX5_count_76 : decode cX5_count 76 = .ok (.invokevirtual 245, 3) := by decide +kernel
theorem dX5_count_79 : decode cX5_count 79 = .ok (.ireturn, 1) := by decide +kernel
theorem dX5_count_80 : decode cX5_count 80 = .ok (.aload_n 0, 1) := by decide +kernel
theorem dX5_count_81 : decode cX5_count 81 = .ok (.getfield 43, 3) := by decide +kernel
theorem dX5_count_84 : decode cX5_count 84 = .ok (.getfield 158, 3) := by decide +kernel
theorem dX5_count_87 : decode cX5_count 87 = .ok (.ireturn, 1) := by decide +kernel
theorem dX5_count_88 : decode cX5_count 88 = .ok (.aload_n 0, 1) := by decide +kernel
theorem dX5_count_89 : decode cX5_count 89 = .ok (.getfield 30, 3) := by decide +kernel
theorem dX5_count_92 : decode cX5_count 92 = .ok (.aload_n 0, 1) := by decide +kernel
theorem dX5_count_93 : decode cX5_count 93 = .ok (.getfield 30, 3) := by decide +kernel
theorem dX5_count_96 : decode cX5_count 96 = .ok (.getfield 173, 3) := by decide +kernel
theorem dX5_count_99 : decode cX5_count 99 = .ok (.invokevirtual 245, 3) := by decide +kernel
theorem dX5_count_102 : decode cX5_count 102 = .ok (.ireturn, 1) := by decide +kernel
theorem dX5_count_103 : decode cX5_count 103 = .ok (.aload_n 0, 1) := by decide +kernel
theorem dX5_count_104 : decode cX5_count 104 = .ok (.getfield 26, 3) := by decide +kernel
theorem dX5_count_107 : decode cX5_count 107 = .ok (.getfield 102, 3) := by decide +kernel
theorem dX5_count_110 : decode cX5_count 110 = .ok (.ireturn, 1) := by decide +kernel
theorem dX5_count_111 : decode cX5_count 111 = .ok (.ldc 65, 2) := by decide +kernel
theorem dX5_count_113 : decode cX5_count 113 = .ok (.ireturn, 1) := by decide +kernel
theorem dX5_status_0 : decode cX5_status 0 = .ok (.aload_n 0, 1) := by decide +kernel
theorem dX5_status_1 : decode cX5_status 1 = .ok (.getfield 58, 3) := by decide +kernel
theorem dX5_status_4 : decode cX5_status 4 = .ok (.ireturn, 1) := by decide +kernel
theorem dX5_isRow_0 : decode cX5_isRow 0 = .ok (.iload_n 0, 1) := by decide +kernel
theorem dX5_isRow_1 : decode cX5_isRow 1 = .ok (.ifCond .lt 13, 3) := by decide +kernel
theorem dX5_isRow_4 : decode cX5_isRow 4 = .ok (.iload_n 0, 1) := by decide +kernel
theorem dX5_isRow_5 : decode cX5_isRow 5 = .ok (.bipush 8, 2) := by decide +kernel
theorem dX5_isRow_7 : decode cX5_isRow 7 = .ok (.if_icmp .ge 7, 3) := by decide +kernel
theorem dX5_isRow_10 : decode cX5_isRow 10 = .ok (.iconst 1, 1) := by decide +kernel
theorem dX5_isRow_11 : decode cX5_isRow 11 = .ok (.goto 4, 3) := by decide +kernel
theorem dX5_isRow_14 : decode cX5_isRow 14 = .ok (.iconst 0, 1) := by decide +kernel
theorem dX5_isRow_15 : decode cX5_isRow 15 = .ok (.ireturn, 1) := by decide +kernel
theorem dX5_found_0 : decode cX5_found 0 = .ok (.aload_n 0, 1) := by decide +kernel
theorem dX5_found_1 : decode cX5_found 1 = .ok (.iload_n 1, 1) := by decide +kernel
theorem dX5_found_2 : decode cX5_found 2 = .ok (.putfield 58, 3) := by decide +kernel
theorem dX5_found_5 : decode cX5_found 5 = .ok (.ldc 249, 2) := by decide +kernel
theorem dX5_found_7 : decode cX5_found 7 = .ok (.iload_n 1, 1) := by decide +kernel
theorem dX5_found_8 : decode cX5_found 8 = .ok (.isub, 1) := by decide +kernel
theorem dX5_found_9 : decode cX5_found 9 = .ok (.ireturn, 1) := by decide +kernel
theorem dX5_rowsThere_0 : decode cX5_rowsThere 0 = .ok (.iconst 0, 1) := by decide +kernel
theorem dX5_rowsThere_1 : decode cX5_rowsThere 1 = .ok (.istore_n 1, 1) := by decide +kernel
theorem dX5_rowsThere_2 : decode cX5_rowsThere 2 = .ok (.iconst 0, 1) := by decide +kernel
theorem dX5_rowsThere_3 : decode cX5_rowsThere 3 = .ok (.istore_n 2, 1) := by decide +kernel
theorem dX5_rowsThere_4 : decode cX5_rowsThere 4 = .ok (.iload_n 2, 1) := by decide +kernel
theorem dX5_rowsThere_5 : decode cX5_rowsThere 5 = .ok (.bipush 8, 2) := by decide +kernel
theorem dX5_rowsThere_7 : decode cX5_rowsThere 7 = .ok (.if_icmp .ge 24, 3) := by decide +kernel
theorem dX5_rowsThere_10 : decode cX5_rowsThere 10 = .ok (.aload_n 0, 1) := by decide +kernel
theorem dX5_rowsThere_11 : decode cX5_rowsThere 11 = .ok (.getfield 11, 3) := by decide +kernel
theorem dX5_rowsThere_14 : decode cX5_rowsThere 14 = .ok (.iload_n 2, 1) := by decide +kernel
theorem dX5_rowsThere_15 : decode cX5_rowsThere 15 = .ok (.aaload, 1) := by decide +kernel
theorem dX5_rowsThere_16 : decode cX5_rowsThere 16 = .ok (.getfield 74, 3) := by decide +kernel
theorem dX5_rowsThere_19 : decode cX5_rowsThere 19 = .ok (.ifCond .eq 6, 3) := by decide +kernel
theorem dX5_rowsThere_22 : decode cX5_rowsThere 22 = .ok (.iinc 1 1, 3) := by decide +kernel
theorem dX5_rowsThere_25 : decode cX5_rowsThere 25 = .ok (.iinc 2 1, 3) := by decide +kernel
theorem dX5_rowsThere_28 : decode cX5_rowsThere 28 = .ok (.goto (-24), 3) := by decide +kernel
theorem dX5_rowsThere_31 : decode cX5_rowsThere 31 = .ok (.iload_n 1, 1) := by decide +kernel
theorem dX5_rowsThere_32 : decode cX5_rowsThere 32 = .ok (.ireturn, 1) := by decide +kernel
theorem dX5_startForetelling_0 : decode cX5_startForetelling 0 = .ok (.aload_n 0, 1) := by decide +kernel
theorem dX5_startForetelling_1 : decode cX5_startForetelling 1 = .ok (.getfield 37, 3) := by decide +kernel
theorem dX5_startForetelling_4 : decode cX5_startForetelling 4 = .ok (.aload_n 0, 1) := by decide +kernel
theorem dX5_startForetelling_5 : decode cX5_startForetelling 5 = .ok (.getfield 30, 3) := by decide +kernel
theorem dX5_startForetelling_8 : decode cX5_startForetelling 8 = .ok (.invokevirtual 119, 3) := by decide +kernel
theorem dX5_startForetelling_11 : decode cX5_startForetelling 11 = .ok (.aload_n 0, 1) := by decide +kernel
theorem dX5_startForetelling_12 : decode cX5_startForetelling 12 = .ok (.getfield 37, 3) := by decide +kernel
theorem dX5_startForetelling_15 : decode cX5_startForetelling 15 = .ok (.invokevirtual 250, 3) := by decide +kernel
theorem dX5_startForetelling_18 : decode cX5_startForetelling 18 = .ok (.return_, 1) := by decide +kernel
theorem dX5_daysToRest_0 : decode cX5_daysToRest 0 = .ok (.iconst 0, 1) := by decide +kernel
theorem dX5_daysToRest_1 : decode cX5_daysToRest 1 = .ok (.istore_n 1, 1) := by decide +kernel
theorem dX5_daysToRest_2 : decode cX5_daysToRest 2 = .ok (.iload_n 1, 1) := by decide +kernel
theorem dX5_daysToRest_3 : decode cX5_daysToRest 3 = .ok (.bipush 60, 2) := by decide +kernel
theorem dX5_daysToRest_5 : decode cX5_daysToRest 5 = .ok (.if_icmp .gt 45, 3) := by decide +kernel
theorem dX5_daysToRest_8 : decode cX5_daysToRest 8 = .ok (.aload_n 0, 1) := by decide +kernel
theorem dX5_daysToRest_9 : decode cX5_daysToRest 9 = .ok (.getfield 34, 3) := by decide +kernel
theorem dX5_daysToRest_12 : decode cX5_daysToRest 12 = .ok (.aload_n 0, 1) := by decide +kernel
theorem dX5_daysToRest_13 : decode cX5_daysToRest 13 = .ok (.getfield 37, 3) := by decide +kernel
theorem dX5_daysToRest_16 : decode cX5_daysToRest 16 = .ok (.invokevirtual 119, 3) := by decide +kernel
theorem dX5_daysToRest_19 : decode cX5_daysToRest 19 = .ok (.aload_n 0, 1) := by decide +kernel
theorem dX5_daysToRest_20 : decode cX5_daysToRest 20 = .ok (.getfield 37, 3) := by decide +kernel
theorem dX5_daysToRest_23 : decode cX5_daysToRest 23 = .ok (.iconst 0, 1) := by decide +kernel
theorem dX5_daysToRest_24 : decode cX5_daysToRest 24 = .ok (.invokevirtual 139, 3) := by decide +kernel
theorem dX5_daysToRest_27 : decode cX5_daysToRest 27 = .ok (.pop, 1) := by decide +kernel
theorem dX5_daysToRest_28 : decode cX5_daysToRest 28 = .ok (.aload_n 0, 1) := by decide +kernel
theorem dX5_daysToRest_29 : decode cX5_daysToRest 29 = .ok (.getfield 37, 3) := by decide +kernel
theorem dX5_daysToRest_32 : decode cX5_daysToRest 32 = .ok (.aload_n 0, 1) := by decide +kernel
theorem dX5_daysToRest_33 : decode cX5_daysToRest 33 = .ok (.getfield 34, 3) := by decide +kernel
theorem dX5_daysToRest_36 : decode cX5_daysToRest 36 = .ok (.invokevirtual 253, 3) := by decide +kernel
theorem dX5_daysToRest_39 : decode cX5_daysToRest 39 = .ok (.ifCond .eq 5, 3) := by decide +kernel
theorem dX5_daysToRest_42 : decode cX5_daysToRest 42 = .ok (.iload_n 1, 1) := by decide +kernel
theorem dX5_daysToRest_43 : decode cX5_daysToRest 43 = .ok (.ireturn, 1) := by decide +kernel
theorem dX5_daysToRest_44 : decode cX5_daysToRest 44 = .ok (.iinc 1 1, 3) := by decide +kernel
theorem dX5_daysToRest_47 : decode cX5_daysToRest 47 = .ok (.goto (-45), 3) := by decide +kernel
theorem dX5_daysToRest_50 : decode cX5_daysToRest 50 = .ok (.ldc 199, 2) := by decide +kernel
theorem dX5_daysToRest_52 : decode cX5_daysToRest 52 = .ok (.ireturn, 1) := by decide +kernel
theorem dX5_daysToReturn_0 : decode cX5_daysToReturn 0 = .ok (.iconst 1, 1) := by decide +kernel
theorem dX5_daysToReturn_1 : decode cX5_daysToReturn 1 = .ok (.istore_n 1, 1) := by decide +kernel
theorem dX5_daysToReturn_2 : decode cX5_daysToReturn 2 = .ok (.iload_n 1, 1) := by decide +kernel
theorem dX5_daysToReturn_3 : decode cX5_daysToReturn 3 = .ok (.bipush 60, 2) := by decide +kernel
theorem dX5_daysToReturn_5 : decode cX5_daysToReturn 5 = .ok (.if_icmp .gt 34, 3) := by decide +kernel
theorem dX5_daysToReturn_8 : decode cX5_daysToReturn 8 = .ok (.aload_n 0, 1) := by decide +kernel
theorem dX5_daysToReturn_9 : decode cX5_daysToReturn 9 = .ok (.getfield 37, 3) := by decide +kernel
theorem dX5_daysToReturn_12 : decode cX5_daysToReturn 12 = .ok (.iconst 0, 1) := by decide +kernel
theorem dX5_daysToReturn_13 : decode cX5_daysToReturn 13 = .ok (.invokevirtual 139, 3) := by decide +kernel
theorem dX5_daysToReturn_16 : decode cX5_daysToReturn 16 = .ok (.pop, 1) := by decide +kernel
theorem dX5_daysToReturn_17 : decode cX5_daysToReturn 17 = .ok (.aload_n 0, 1) := by decide +kernel
theorem dX5_daysToReturn_18 : decode cX5_daysToReturn 18 = .ok (.getfield 37, 3) := by decide +kernel
theorem dX5_daysToReturn_21 : decode cX5_daysToReturn 21 = .ok (.aload_n 0, 1) := by decide +kernel
theorem dX5_daysToReturn_22 : decode cX5_daysToReturn 22 = .ok (.getfield 30, 3) := by decide +kernel
theorem dX5_daysToReturn_25 : decode cX5_daysToReturn 25 = .ok (.invokevirtual 253, 3) := by decide +kernel
theorem dX5_daysToReturn_28 : decode cX5_daysToReturn 28 = .ok (.ifCond .eq 5, 3) := by decide +kernel
theorem dX5_daysToReturn_31 : decode cX5_daysToReturn 31 = .ok (.iload_n 1, 1) := by decide +kernel
theorem dX5_daysToReturn_32 : decode cX5_daysToReturn 32 = .ok (.ireturn, 1) := by decide +kernel
theorem dX5_daysToReturn_33 : decode cX5_daysToReturn 33 = .ok (.iinc 1 1, 3) := by decide +kernel
theorem dX5_daysToReturn_36 : decode cX5_daysToReturn 36 = .ok (.goto (-34), 3) := by decide +kernel
theorem dX5_daysToReturn_39 : decode cX5_daysToReturn 39 = .ok (.ldc 199, 2) := by decide +kernel
theorem dX5_daysToReturn_41 : decode cX5_daysToReturn 41 = .ok (.ireturn, 1) := by decide +kernel
theorem dX5_leastGuards_0 : decode cX5_leastGuards 0 = .ok (.iconst 1, 1) := by decide +kernel
theorem dX5_leastGuards_1 : decode cX5_leastGuards 1 = .ok (.aload_n 0, 1) := by decide +kernel
theorem dX5_leastGuards_2 : decode cX5_leastGuards 2 = .ok (.getfield 30, 3) := by decide +kernel
theorem dX5_leastGuards_5 : decode cX5_leastGuards 5 = .ok (.getfield 126, 3) := by decide +kernel
theorem dX5_leastGuards_8 : decode cX5_leastGuards 8 = .ok (.ishl, 1) := by decide +kernel
theorem dX5_leastGuards_9 : decode cX5_leastGuards 9 = .ok (.istore_n 3, 1) := by decide +kernel
theorem dX5_leastGuards_10 : decode cX5_leastGuards 10 = .ok (.iconst 0, 1) := by decide +kernel
theorem dX5_leastGuards_11 : decode cX5_leastGuards 11 = .ok (.istore 4, 2) := by decide +kernel
theorem dX5_leastGuards_13 : decode cX5_leastGuards 13 = .ok (.iload 4, 2) := by decide +kernel
theorem dX5_leastGuards_15 : decode cX5_leastGuards 15 = .ok (.iload_n 3, 1) := by decide +kernel
theorem dX5_leastGuards_16 : decode cX5_leastGuards 16 = .ok (.if_icmp .ge 47, 3) := by decide +kernel
theorem dX5_leastGuards_19 : decode cX5_leastGuards 19 = .ok (.iload 4, 2) := by decide +kernel
theorem dX5_leastGuards_21 : decode cX5_leastGuards 21 = .ok (.invokestatic 256, 3) := by decide +kernel
theorem dX5_leastGuards_24 : decode cX5_leastGuards 24 = .ok (.iload_n 1, 1) := by decide +kernel
theorem dX5_leastGuards_25 : decode cX5_leastGuards 25 = .ok (.if_icmp .ne 32, 3) := by decide +kernel
theorem dX5_leastGuards_28 : decode cX5_leastGuards 28 = .ok (.aload_n 0, 1) := by decide +kernel
theorem dX5_leastGuards_29 : decode cX5_leastGuards 29 = .ok (.invokevirtual 179, 3) := by decide +kernel
theorem dX5_leastGuards_32 : decode cX5_leastGuards 32 = .ok (.aload_n 0, 1) := by decide +kernel
theorem dX5_leastGuards_33 : decode cX5_leastGuards 33 = .ok (.getfield 37, 3) := by decide +kernel
theorem dX5_leastGuards_36 : decode cX5_leastGuards 36 = .ok (.iload 4, 2) := by decide +kernel
theorem dX5_leastGuards_38 : decode cX5_leastGuards 38 = .ok (.putfield 155, 3) := by decide +kernel
theorem dX5_leastGuards_41 : decode cX5_leastGuards 41 = .ok (.aload_n 0, 1) := by decide +kernel
theorem dX5_leastGuards_42 : decode cX5_leastGuards 42 = .ok (.getfield 37, 3) := by decide +kernel
theorem dX5_leastGuards_45 : decode cX5_leastGuards 45 = .ok (.iload_n 2, 1) := by decide +kernel
theorem dX5_leastGuards_46 : decode cX5_leastGuards 46 = .ok (.invokevirtual 186, 3) := by decide +kernel
theorem dX5_leastGuards_49 : decode cX5_leastGuards 49 = .ok (.ldc 199, 2) := by decide +kernel
theorem dX5_leastGuards_51 : decode cX5_leastGuards 51 = .ok (.if_icmp .ne 6, 3) := by decide +kernel
theorem dX5_leastGuards_54 : decode cX5_leastGuards 54 = .ok (.iload 4, 2) := by decide +kernel
theorem dX5_leastGuards_56 : decode cX5_leastGuards 56 = .ok (.ireturn, 1) := by decide +kernel
theorem dX5_leastGuards_57 : decode cX5_leastGuards 57 = .ok (.iinc 4 1, 3) := by decide +kernel
theorem dX5_leastGuards_60 : decode cX5_leastGuards 60 = .ok (.goto (-47), 3) := by decide +kernel
theorem dX5_leastGuards_63 : decode cX5_leastGuards 63 = .ok (.ldc 199, 2) := by decide +kernel
theorem dX5_leastGuards_65 : decode cX5_leastGuards 65 = .ok (.ireturn, 1) := by decide +kernel
theorem dX5_drawingSets_0 : decode cX5_drawingSets 0 = .ok (.iconst 1, 1) := by decide +kernel
theorem dX5_drawingSets_1 : decode cX5_drawingSets 1 = .ok (.aload_n 0, 1) := by decide +kernel
theorem dX5_drawingSets_2 : decode cX5_drawingSets 2 = .ok (.getfield 30, 3) := by decide +kernel
theorem dX5_drawingSets_5 : decode cX5_drawingSets 5 = .ok (.getfield 126, 3) := by decide +kernel
theorem dX5_drawingSets_8 : decode cX5_drawingSets 8 = .ok (.ishl, 1) := by decide +kernel
theorem dX5_drawingSets_9 : decode cX5_drawingSets 9 = .ok (.istore_n 2, 1) := by decide +kernel
theorem dX5_drawingSets_10 : decode cX5_drawingSets 10 = .ok (.iconst 0, 1) := by decide +kernel
theorem dX5_drawingSets_11 : decode cX5_drawingSets 11 = .ok (.istore_n 3, 1) := by decide +kernel
theorem dX5_drawingSets_12 : decode cX5_drawingSets 12 = .ok (.iconst 0, 1) := by decide +kernel
theorem dX5_drawingSets_13 : decode cX5_drawingSets 13 = .ok (.istore 4, 2) := by decide +kernel
theorem dX5_drawingSets_15 : decode cX5_drawingSets 15 = .ok (.iload 4, 2) := by decide +kernel
theorem dX5_drawingSets_17 : decode cX5_drawingSets 17 = .ok (.iload_n 2, 1) := by decide +kernel
theorem dX5_drawingSets_18 : decode cX5_drawingSets 18 = .ok (.if_icmp .ge 22, 3) := by decide +kernel
theorem dX5_drawingSets_21 : decode cX5_drawingSets 21 = .ok (.aload_n 0, 1) := by decide +kernel
theorem dX5_drawingSets_22 : decode cX5_drawingSets 22 = .ok (.iload 4, 2) := by decide +kernel
theorem dX5_drawingSets_24 : decode cX5_drawingSets 24 = .ok (.aload_n 1, 1) := by decide +kernel
theorem dX5_drawingSets_25 : decode cX5_drawingSets 25 = .ok (.invokevirtual 261, 3) := by decide +kernel
theorem dX5_drawingSets_28 : decode cX5_drawingSets 28 = .ok (.ifCond .eq 6, 3) := by decide +kernel
theorem dX5_drawingSets_31 : decode cX5_drawingSets 31 = .ok (.iinc 3 1, 3) := by decide +kernel
theorem dX5_drawingSets_34 : decode cX5_drawingSets 34 = .ok (.iinc 4 1, 3) := by decide +kernel
theorem dX5_drawingSets_37 : decode cX5_drawingSets 37 = .ok (.goto (-22), 3) := by decide +kernel
theorem dX5_drawingSets_40 : decode cX5_drawingSets 40 = .ok (.iload_n 3, 1) := by decide +kernel
theorem dX5_drawingSets_41 : decode cX5_drawingSets 41 = .ok (.ireturn, 1) := by decide +kernel
theorem dX5_leastDrawingSet_0 : decode cX5_leastDrawingSet 0 = .ok (.iconst 1, 1) := by decide +kernel
theorem dX5_leastDrawingSet_1 : decode cX5_leastDrawingSet 1 = .ok (.aload_n 0, 1) := by decide +kernel
theorem dX5_leastDrawingSet_2 : decode cX5_leastDrawingSet 2 = .ok (.getfield 30, 3) := by decide +kernel
theorem dX5_leastDrawingSet_5 : decode cX5_leastDrawingSet 5 = .ok (.getfield 126, 3) := by decide +kernel
theorem dX5_leastDrawingSet_8 : decode cX5_leastDrawingSet 8 = .ok (.ishl, 1) := by decide +kernel
theorem dX5_leastDrawingSet_9 : decode cX5_leastDrawingSet 9 = .ok (.istore_n 2, 1) := by decide +kernel
theorem dX5_leastDrawingSet_10 : decode cX5_leastDrawingSet 10 = .ok (.iconst 0, 1) := by decide +kernel
theorem dX5_leastDrawingSet_11 : decode cX5_leastDrawingSet 11 = .ok (.istore_n 3, 1) := by decide +kernel
theorem dX5_leastDrawingSet_12 : decode cX5_leastDrawingSet 12 = .ok (.iload_n 3, 1) := by decide +kernel
theorem dX5_leastDrawingSet_13 : decode cX5_leastDrawingSet 13 = .ok (.iload_n 2, 1) := by decide +kernel
theorem dX5_leastDrawingSet_14 : decode cX5_leastDrawingSet 14 = .ok (.if_icmp .ge 20, 3) := by decide +kernel
theorem dX5_leastDrawingSet_17 : decode cX5_leastDrawingSet 17 = .ok (.aload_n 0, 1) := by decide +kernel
theorem dX5_leastDrawingSet_18 : decode cX5_leastDrawingSet 18 = .ok (.iload_n 3, 1) := by decide +kernel
theorem dX5_leastDrawingSet_19 : decode cX5_leastDrawingSet 19 = .ok (.aload_n 1, 1) := by decide +kernel
theorem dX5_leastDrawingSet_20 : decode cX5_leastDrawingSet 20 = .ok (.invokevirtual 261, 3) := by decide +kernel
theorem dX5_leastDrawingSet_23 : decode cX5_leastDrawingSet 23 = .ok (.ifCond .eq 5, 3) := by decide +kernel
theorem dX5_leastDrawingSet_26 : decode cX5_leastDrawingSet 26 = .ok (.iload_n 3, 1) := by decide +kernel
theorem dX5_leastDrawingSet_27 : decode cX5_leastDrawingSet 27 = .ok (.ireturn, 1) := by decide +kernel
theorem dX5_leastDrawingSet_28 : decode cX5_leastDrawingSet 28 = .ok (.iinc 3 1, 3) := by decide +kernel
theorem dX5_leastDrawingSet_31 : decode cX5_leastDrawingSet 31 = .ok (.goto (-19), 3) := by decide +kernel
theorem dX5_leastDrawingSet_34 : decode cX5_leastDrawingSet 34 = .ok (.ldc 199, 2) := by decide +kernel
theorem dX5_leastDrawingSet_36 : decode cX5_leastDrawingSet 36 = .ok (.ireturn, 1) := by decide +kernel
theorem dX5_wouldLeave_0 : decode cX5_wouldLeave 0 = .ok (.aload_n 0, 1) := by decide +kernel
theorem dX5_wouldLeave_1 : decode cX5_wouldLeave 1 = .ok (.invokevirtual 179, 3) := by decide +kernel
theorem dX5_wouldLeave_4 : decode cX5_wouldLeave 4 = .ok (.aload_n 0, 1) := by decide +kernel
theorem dX5_wouldLeave_5 : decode cX5_wouldLeave 5 = .ok (.getfield 37, 3) := by decide +kernel
theorem dX5_wouldLeave_8 : decode cX5_wouldLeave 8 = .ok (.iload_n 1, 1) := by decide +kernel
theorem dX5_wouldLeave_9 : decode cX5_wouldLeave 9 = .ok (.invokevirtual 265, 3) := by decide +kernel
theorem dX5_wouldLeave_12 : decode cX5_wouldLeave 12 = .ok (.iconst 0, 1) := by decide +kernel
theorem dX5_wouldLeave_13 : decode cX5_wouldLeave 13 = .ok (.istore_n 3, 1) := by decide +kernel
theorem dX5_wouldLeave_14 : decode cX5_wouldLeave 14 = .ok (.iload_n 3, 1) := by decide +kernel
theorem dX5_wouldLeave_15 : decode cX5_wouldLeave 15 = .ok (.aload_n 0, 1) := by decide +kernel
theorem dX5_wouldLeave_16 : decode cX5_wouldLeave 16 = .ok (.getfield 37, 3) := by decide +kernel
theorem dX5_wouldLeave_19 : decode cX5_wouldLeave 19 = .ok (.getfield 126, 3) := by decide +kernel
theorem dX5_wouldLeave_22 : decode cX5_wouldLeave 22 = .ok (.if_icmp .ge 29, 3) := by decide +kernel
theorem dX5_wouldLeave_25 : decode cX5_wouldLeave 25 = .ok (.aload_n 0, 1) := by decide +kernel
theorem dX5_wouldLeave_26 : decode cX5_wouldLeave 26 = .ok (.getfield 37, 3) := by decide +kernel
theorem dX5_wouldLeave_29 : decode cX5_wouldLeave 29 = .ok (.getfield 164, 3) := by decide +kernel
theorem dX5_wouldLeave_32 : decode cX5_wouldLeave 32 = .ok (.iload_n 3, 1) := by decide +kernel
theorem dX5_wouldLeave_33 : decode cX5_wouldLeave 33 = .ok (.iaload, 1) := by decide +kernel
theorem dX5_wouldLeave_34 : decode cX5_wouldLeave 34 = .ok (.aload_n 2, 1) := by decide +kernel
theorem dX5_wouldLeave_35 : decode cX5_wouldLeave 35 = .ok (.getfield 89, 3) := by decide +kernel
theorem dX5_wouldLeave_38 : decode cX5_wouldLeave 38 = .ok (.iload_n 3, 1) := by decide +kernel
theorem dX5_wouldLeave_39 : decode cX5_wouldLeave 39 = .ok (.iaload, 1) := by decide +kernel
theorem dX5_wouldLeave_40 : decode cX5_wouldLeave 40 = .ok (.if_icmp .eq 5, 3) := by decide +kernel
theorem dX5_wouldLeave_43 : decode cX5_wouldLeave 43 = .ok (.iconst 0, 1) := by decide +kernel
theorem dX5_wouldLeave_44 : decode cX5_wouldLeave 44 = .ok (.ireturn, 1) := by decide +kernel
theorem dX5_wouldLeave_45 : decode cX5_wouldLeave 45 = .ok (.iinc 3 1, 3) := by decide +kernel
theorem dX5_wouldLeave_48 : decode cX5_wouldLeave 48 = .ok (.goto (-34), 3) := by decide +kernel
theorem dX5_wouldLeave_51 : decode cX5_wouldLeave 51 = .ok (.iconst 1, 1) := by decide +kernel
theorem dX5_wouldLeave_52 : decode cX5_wouldLeave 52 = .ok (.ireturn, 1) := by decide +kernel
theorem dX5_lackedWithMoreFlow_0 : decode cX5_lackedWithMoreFlow 0 = .ok (.aload_n 0, 1) := by decide +kernel
theorem dX5_lackedWithMoreFlow_1 : decode cX5_lackedWithMoreFlow 1 = .ok (.invokevirtual 179, 3) := by decide +kernel
theorem dX5_lackedWithMoreFlow_4 : decode cX5_lackedWithMoreFlow 4 = .ok (.aload_n 0, 1) := by decide +kernel
theorem dX5_lackedWithMoreFlow_5 : decode cX5_lackedWithMoreFlow 5 = .ok (.getfield 37, 3) := by decide +kernel
theorem dX5_lackedWithMoreFlow_8 : decode cX5_lackedWithMoreFlow 8 = .ok (.getfield 167, 3) := by decide +kernel
theorem dX5_lackedWithMoreFlow_11 : decode cX5_lackedWithMoreFlow 11 = .ok (.iload_n 1, 1) := by decide +kernel
theorem dX5_lackedWithMoreFlow_12 : decode cX5_lackedWithMoreFlow 12 = .ok (.dup2, 1) := by decide +kernel
theorem dX5_lackedWithMoreFlow_13 : decode cX5_lackedWithMoreFlow 13 = .ok (.iaload, 1) := by decide +kernel
theorem dX5_lackedWithMoreFlow_14 : decode cX5_lackedWithMoreFlow 14 = .ok (.iload_n 2, 1) := by decide +kernel
theorem dX5_lackedWithMoreFlow_15 : decode cX5_lackedWithMoreFlow 15 = .ok (.iadd, 1) := by decide +kernel
theorem dX5_lackedWithMoreFlow_16 : decode cX5_lackedWithMoreFlow 16 = .ok (.iastore, 1) := by decide +kernel
theorem dX5_lackedWithMoreFlow_17 : decode cX5_lackedWithMoreFlow 17 = .ok (.aload_n 0, 1) := by decide +kernel
theorem dX5_lackedWithMoreFlow_18 : decode cX5_lackedWithMoreFlow 18 = .ok (.getfield 37, 3) := by decide +kernel
theorem dX5_lackedWithMoreFlow_21 : decode cX5_lackedWithMoreFlow 21 = .ok (.iload_n 3, 1) := by decide +kernel
theorem dX5_lackedWithMoreFlow_22 : decode cX5_lackedWithMoreFlow 22 = .ok (.invokevirtual 182, 3) := by decide +kernel
theorem dX5_lackedWithMoreFlow_25 : decode cX5_lackedWithMoreFlow 25 = .ok (.aload_n 0, 1) := by decide +kernel
theorem dX5_lackedWithMoreFlow_26 : decode cX5_lackedWithMoreFlow 26 = .ok (.getfield 37, 3) := by decide +kernel
theorem dX5_lackedWithMoreFlow_29 : decode cX5_lackedWithMoreFlow 29 = .ok (.aload_n 0, 1) := by decide +kernel
theorem dX5_lackedWithMoreFlow_30 : decode cX5_lackedWithMoreFlow 30 = .ok (.getfield 37, 3) := by decide +kernel
theorem dX5_lackedWithMoreFlow_33 : decode cX5_lackedWithMoreFlow 33 = .ok (.getfield 173, 3) := by decide +kernel
theorem dX5_lackedWithMoreFlow_36 : decode cX5_lackedWithMoreFlow 36 = .ok (.invokevirtual 245, 3) := by decide +kernel
theorem dX5_lackedWithMoreFlow_39 : decode cX5_lackedWithMoreFlow 39 = .ok (.ireturn, 1) := by decide +kernel
theorem dX5_isOne_0 : decode cX5_isOne 0 = .ok (.iload_n 0, 1) := by decide +kernel
theorem dX5_isOne_1 : decode cX5_isOne 1 = .ok (.iload_n 1, 1) := by decide +kernel
theorem dX5_isOne_2 : decode cX5_isOne 2 = .ok (.if_icmp .eq 15, 3) := by decide +kernel
theorem dX5_isOne_5 : decode cX5_isOne 5 = .ok (.iload_n 0, 1) := by decide +kernel
theorem dX5_isOne_6 : decode cX5_isOne 6 = .ok (.invokestatic 268, 3) := by decide +kernel
theorem dX5_isOne_9 : decode cX5_isOne 9 = .ok (.iload_n 1, 1) := by decide +kernel
theorem dX5_isOne_10 : decode cX5_isOne 10 = .ok (.if_icmp .eq 7, 3) := by decide +kernel
theorem dX5_isOne_13 : decode cX5_isOne 13 = .ok (.iload_n 1, 1) := by decide +kernel
theorem dX5_isOne_14 : decode cX5_isOne 14 = .ok (.ifCond .ne 7, 3) := by decide +kernel
theorem dX5_isOne_17 : decode cX5_isOne 17 = .ok (.iconst 1, 1) := by decide +kernel
theorem dX5_isOne_18 : decode cX5_isOne 18 = .ok (.goto 4, 3) := by decide +kernel
theorem dX5_isOne_21 : decode cX5_isOne 21 = .ok (.iconst 0, 1) := by decide +kernel
theorem dX5_isOne_22 : decode cX5_isOne 22 = .ok (.ireturn, 1) := by decide +kernel
theorem dX5_nextKind_0 : decode cX5_nextKind 0 = .ok (.iload_n 0, 1) := by decide +kernel
theorem dX5_nextKind_1 : decode cX5_nextKind 1 = .ok (.tableswitch 35 2 5 #[31, 31, 35, 33], 31) := by decide +kernel
theorem dX5_nextKind_32 : decode cX5_nextKind 32 = .ok (.iconst 1, 1) := by decide +kernel
theorem dX5_nextKind_33 : decode cX5_nextKind 33 = .ok (.ireturn, 1) := by decide +kernel
theorem dX5_nextKind_34 : decode cX5_nextKind 34 = .ok (.iconst 4, 1) := by decide +kernel
theorem dX5_nextKind_35 : decode cX5_nextKind 35 = .ok (.ireturn, 1) := by decide +kernel
theorem dX5_nextKind_36 : decode cX5_nextKind 36 = .ok (.iconst 0, 1) := by decide +kernel
theorem dX5_nextKind_37 : decode cX5_nextKind 37 = .ok (.ireturn, 1) := by decide +kernel
theorem dX5_sizeBody_0 : decode cX5_sizeBody 0 = .ok (.iload_n 0, 1) := by decide +kernel
theorem dX5_sizeBody_1 : decode cX5_sizeBody 1 = .ok (.tableswitch 47 1 5 #[35, 38, 35, 41, 44], 35) := by decide +kernel
theorem dX5_sizeBody_36 : decode cX5_sizeBody 36 = .ok (.bipush 11, 2) := by decide +kernel
theorem dX5_sizeBody_38 : decode cX5_sizeBody 38 = .ok (.ireturn, 1) := by decide +kernel
theorem dX5_sizeBody_39 : decode cX5_sizeBody 39 = .ok (.bipush 12, 2) := by decide +kernel
theorem dX5_sizeBody_41 : decode cX5_sizeBody 41 = .ok (.ireturn, 1) := by decide +kernel
theorem dX5_sizeBody_42 : decode cX5_sizeBody 42 = .ok (.bipush 13, 2) := by decide +kernel
theorem dX5_sizeBody_44 : decode cX5_sizeBody 44 = .ok (.ireturn, 1) := by decide +kernel
theorem dX5_sizeBody_45 : decode cX5_sizeBody 45 = .ok (.bipush 14, 2) := by decide +kernel
theorem dX5_sizeBody_47 : decode cX5_sizeBody 47 = .ok (.ireturn, 1) := by decide +kernel
theorem dX5_sizeBody_48 : decode cX5_sizeBody 48 = .ok (.bipush 10, 2) := by decide +kernel
theorem dX5_sizeBody_50 : decode cX5_sizeBody 50 = .ok (.ireturn, 1) := by decide +kernel
theorem dX5_markBody_0 : decode cX5_markBody 0 = .ok (.iload_n 0, 1) := by decide +kernel
theorem dX5_markBody_1 : decode cX5_markBody 1 = .ok (.tableswitch 47 1 5 #[35, 44, 38, 41, 41], 35) := by decide +kernel
theorem dX5_markBody_36 : decode cX5_markBody 36 = .ok (.bipush 21, 2) := by decide +kernel
theorem dX5_markBody_38 : decode cX5_markBody 38 = .ok (.ireturn, 1) := by decide +kernel
theorem dX5_markBody_39 : decode cX5_markBody 39 = .ok (.bipush 22, 2) := by decide +kernel
theorem dX5_markBody_41 : decode cX5_markBody 41 = .ok (.ireturn, 1) := by decide +kernel
theorem dX5_markBody_42 : decode cX5_markBody 42 = .ok (.bipush 23, 2) := by decide +kernel
theorem dX5_markBody_44 : decode cX5_markBody 44 = .ok (.ireturn, 1) := by decide +kernel
theorem dX5_markBody_45 : decode cX5_markBody 45 = .ok (.bipush 24, 2) := by decide +kernel
theorem dX5_markBody_47 : decode cX5_markBody 47 = .ok (.ireturn, 1) := by decide +kernel
theorem dX5_markBody_48 : decode cX5_markBody 48 = .ok (.bipush 20, 2) := by decide +kernel
theorem dX5_markBody_50 : decode cX5_markBody 50 = .ok (.ireturn, 1) := by decide +kernel
theorem dX5_answer_0 : decode cX5_answer 0 = .ok (.iload 4, 2) := by decide +kernel
theorem dX5_answer_2 : decode cX5_answer 2 = .ok (.bipush 8, 2) := by decide +kernel
theorem dX5_answer_4 : decode cX5_answer 4 = .ok (.if_icmp .gt 11, 3) := by decide +kernel
theorem dX5_answer_7 : decode cX5_answer 7 = .ok (.aload_n 1, 1) := by decide +kernel
theorem dX5_answer_8 : decode cX5_answer 8 = .ok (.iload_n 2, 1) := by decide +kernel
theorem dX5_answer_9 : decode cX5_answer 9 = .ok (.invokevirtual 149, 3) := by decide +kernel
theorem dX5_answer_12 : decode cX5_answer 12 = .ok (.ifCond .ne 5, 3) := by decide +kernel
theorem dX5_answer_15 : decode cX5_answer 15 = .ok (.iconst 0, 1) := by decide +kernel
theorem dX5_answer_16 : decode cX5_answer 16 = .ok (.ireturn, 1) := by decide +kernel
theorem dX5_answer_17 : decode cX5_answer 17 = .ok (.aload_n 3, 1) := by decide +kernel
theorem dX5_answer_18 : decode cX5_answer 18 = .ok (.iload_n 0, 1) := by decide +kernel
theorem dX5_answer_19 : decode cX5_answer 19 = .ok (.invokevirtual 271, 3) := by decide +kernel
theorem dX5_answer_22 : decode cX5_answer 22 = .ok (.iload_n 0, 1) := by decide +kernel
theorem dX5_answer_23 : decode cX5_answer 23 = .ok (.tableswitch 245 10 24 #[73, 80, 113, 127, 143, 245, 245, 245, 245, 245, 158, 160, 180, 197, 230], 73) := by decide +kernel
theorem dX5_answer_96 : decode cX5_answer 96 = .ok (.aload_n 1, 1) := by decide +kernel
theorem dX5_answer_97 : decode cX5_answer 97 = .ok (.getfield 164, 3) := by decide +kernel
theorem dX5_answer_100 : decode cX5_answer 100 = .ok (.iload_n 2, 1) := by decide +kernel
theorem dX5_answer_101 : decode cX5_answer 101 = .ok (.iaload, 1) := by decide +kernel
theorem dX5_answer_102 : decode cX5_answer 102 = .ok (.ireturn, 1) := by decide +kernel
theorem dX5_answer_103 : decode cX5_answer 103 = .ok (.bipush 10, 2) := by decide +kernel
theorem dX5_answer_105 : decode cX5_answer 105 = .ok (.aload_n 1, 1) := by decide +kernel
theorem dX5_answer_106 : decode cX5_answer 106 = .ok (.iload_n 2, 1) := by decide +kernel
theorem dX5_answer_107 : decode cX5_answer 107 = .ok (.aload_n 3, 1) := by decide +kernel
theorem dX5_answer_108 : decode cX5_answer 108 = .ok (.iload 4, 2) := by decide +kernel
theorem dX5_answer_110 : decode cX5_answer 110 = .ok (.iconst 1, 1) := by decide +kernel
theorem dX5_answer_111 : decode cX5_answer 111 = .ok (.iadd, 1) := by decide +kernel
theorem dX5_answer_112 : decode cX5_answer 112 = .ok (.invokestatic 235, 3) := by decide +kernel
theorem dX5_answer_115 : decode cX5_answer 115 = .ok (.aload_n 1, 1) := by decide +kernel
theorem dX5_answer_116 : decode cX5_answer 116 = .ok (.getfield 222, 3) := by decide +kernel
theorem dX5_answer_119 : decode cX5_answer 119 = .ok (.iload_n 2, 1) := by decide +kernel
theorem dX5_answer_120 : decode cX5_answer 120 = .ok (.iaload, 1) := by decide +kernel
theorem dX5_answer_121 : decode cX5_answer 121 = .ok (.invokestatic 232, 3) := by decide +kernel
theorem dX5_answer_124 : decode cX5_answer 124 = .ok (.aload_n 1, 1) := by decide +kernel
theorem dX5_answer_125 : decode cX5_answer 125 = .ok (.iload_n 2, 1) := by decide +kernel
theorem dX5_answer_126 : decode cX5_answer 126 = .ok (.aload_n 3, 1) := by decide +kernel
theorem dX5_answer_127 : decode cX5_answer 127 = .ok (.iload 4, 2) := by decide +kernel
theorem dX5_answer_129 : decode cX5_answer 129 = .ok (.iconst 1, 1) := by decide +kernel
theorem dX5_answer_130 : decode cX5_answer 130 = .ok (.iadd, 1) := by decide +kernel
theorem dX5_answer_131 : decode cX5_answer 131 = .ok (.invokestatic 235, 3) := by decide +kernel
theorem dX5_answer_134 : decode cX5_answer 134 = .ok (.iadd, 1) := by decide +kernel
theorem dX5_answer_135 : decode cX5_answer 135 = .ok (.ireturn, 1) := by decide +kernel
theorem dX5_answer_136 : decode cX5_answer 136 = .ok (.bipush 11, 2) := by decide +kernel
theorem dX5_answer_138 : decode cX5_answer 138 = .ok (.aload_n 1, 1) := by decide +kernel
theorem dX5_answer_139 : decode cX5_answer 139 = .ok (.iload_n 2, 1) := by decide +kernel
theorem dX5_answer_140 : decode cX5_answer 140 = .ok (.aload_n 3, 1) := by decide +kernel
theorem dX5_answer_141 : decode cX5_answer 141 = .ok (.iload 4, 2) := by decide +kernel
theorem dX5_answer_143 : decode cX5_answer 143 = .ok (.iconst 1, 1) := by decide +kernel
theorem dX5_answer_144 : decode cX5_answer 144 = .ok (.iadd, 1) := by decide +kernel
theorem dX5_answer_145 : decode cX5_answer 145 = .ok (.invokestatic 235, 3) := by decide +kernel
theorem dX5_answer_148 : decode cX5_answer 148 = .ok (.ineg, 1) := by decide +kernel
theorem dX5_answer_149 : decode cX5_answer 149 = .ok (.ireturn, 1) := by decide +kernel
theorem dX5_answer_150 : decode cX5_answer 150 = .ok (.bipush 10, 2) := by decide +kernel
theorem dX5_answer_152 : decode cX5_answer 152 = .ok (.aload_n 1, 1) := by decide +kernel
theorem dX5_answer_153 : decode cX5_answer 153 = .ok (.iload_n 2, 1) := by decide +kernel
theorem dX5_answer_154 : decode cX5_answer 154 = .ok (.aload_n 3, 1) := by decide +kernel
theorem dX5_answer_155 : decode cX5_answer 155 = .ok (.iload 4, 2) := by decide +kernel
theorem dX5_answer_157 : decode cX5_answer 157 = .ok (.iconst 1, 1) := by decide +kernel
theorem dX5_answer_158 : decode cX5_answer 158 = .ok (.iadd, 1) := by decide +kernel
theorem dX5_answer_159 : decode cX5_answer 159 = .ok (.invokestatic 235, 3) := by decide +kernel
theorem dX5_answer_162 : decode cX5_answer 162 = .ok (.bipush 100, 2) := by decide +kernel
theorem dX5_answer_164 : decode cX5_answer 164 = .ok (.isub, 1) := by decide +kernel
theorem dX5_answer_165 : decode cX5_answer 165 = .ok (.ireturn, 1) := by decide +kernel
theorem dX5_answer_166 : decode cX5_answer 166 = .ok (.iconst 2, 1) := by decide +kernel
theorem dX5_answer_167 : decode cX5_answer 167 = .ok (.bipush 13, 2) := by decide +kernel
theorem dX5_answer_169 : decode cX5_answer 169 = .ok (.aload_n 1, 1) := by decide +kernel
theorem dX5_answer_170 : decode cX5_answer 170 = .ok (.iload_n 2, 1) := by decide +kernel
theorem dX5_answer_171 : decode cX5_answer 171 = .ok (.aload_n 3, 1) := by decide +kernel
theorem dX5_answer_172 : decode cX5_answer 172 = .ok (.iload 4, 2) := by decide +kernel
theorem dX5_answer_174 : decode cX5_answer 174 = .ok (.iconst 1, 1) := by decide +kernel
theorem dX5_answer_175 : decode cX5_answer 175 = .ok (.iadd, 1) := by decide +kernel
theorem dX5_answer_176 : decode cX5_answer 176 = .ok (.invokestatic 235, 3) := by decide +kernel
theorem dX5_answer_179 : decode cX5_answer 179 = .ok (.imul, 1) := by decide +kernel
theorem dX5_answer_180 : decode cX5_answer 180 = .ok (.ireturn, 1) := by decide +kernel
theorem dX5_answer_181 : decode cX5_answer 181 = .ok (.iload_n 2, 1) := by decide +kernel
theorem dX5_answer_182 : decode cX5_answer 182 = .ok (.ireturn, 1) := by decide +kernel
theorem dX5_answer_183 : decode cX5_answer 183 = .ok (.bipush 20, 2) := by decide +kernel
theorem dX5_answer_185 : decode cX5_answer 185 = .ok (.aload_n 1, 1) := by decide +kernel
theorem dX5_answer_186 : decode cX5_answer 186 = .ok (.iload_n 2, 1) := by decide +kernel
theorem dX5_answer_187 : decode cX5_answer 187 = .ok (.aload_n 3, 1) := by decide +kernel
theorem dX5_answer_188 : decode cX5_answer 188 = .ok (.iload 4, 2) := by decide +kernel
theorem dX5_answer_190 : decode cX5_answer 190 = .ok (.iconst 1, 1) := by decide +kernel
theorem dX5_answer_191 : decode cX5_answer 191 = .ok (.iadd, 1) := by decide +kernel
theorem dX5_answer_192 : decode cX5_answer 192 = .ok (.invokestatic 235, 3) := by decide +kernel
theorem dX5_answer_195 : decode cX5_answer 195 = .ok (.aload_n 1, 1) := by decide +kernel
theorem dX5_answer_196 : decode cX5_answer 196 = .ok (.getfield 167, 3) := by decide +kernel
theorem dX5_answer_199 : decode cX5_answer 199 = .ok (.iload_n 2, 1) := by decide +kernel
theorem dX5_answer_200 : decode cX5_answer 200 = .ok (.iaload, 1) := by decide +kernel
theorem dX5_answer_201 : decode cX5_answer 201 = .ok (.iadd, 1) := by decide +kernel
theorem dX5_answer_202 : decode cX5_answer 202 = .ok (.ireturn, 1) := by decide +kernel
theorem dX5_answer_203 : decode cX5_answer 203 = .ok (.bipush 21, 2) := by decide +kernel
theorem dX5_answer_205 : decode cX5_answer 205 = .ok (.aload_n 1, 1) := by decide +kernel
theorem dX5_answer_206 : decode cX5_answer 206 = .ok (.iload_n 2, 1) := by decide +kernel
theorem dX5_answer_207 : decode cX5_answer 207 = .ok (.aload_n 3, 1) := by decide +kernel
theorem dX5_answer_208 : decode cX5_answer 208 = .ok (.iload 4, 2) := by decide +kernel
theorem dX5_answer_210 : decode cX5_answer 210 = .ok (.iconst 1, 1) := by decide +kernel
theorem dX5_answer_211 : decode cX5_answer 211 = .ok (.iadd, 1) := by decide +kernel
theorem dX5_answer_212 : decode cX5_answer 212 = .ok (.invokestatic 235, 3) := by decide +kernel
theorem dX5_answer_215 : decode cX5_answer 215 = .ok (.sipush 1000, 3) := by decide +kernel
theorem dX5_answer_218 : decode cX5_answer 218 = .ok (.isub, 1) := by decide +kernel
theorem dX5_answer_219 : decode cX5_answer 219 = .ok (.ireturn, 1) := by decide +kernel
theorem dX5_answer_220 : decode cX5_answer 220 = .ok (.bipush 20, 2) := by decide +kernel
theorem dX5_answer_222 : decode cX5_answer 222 = .ok (.aload_n 1, 1) := by decide +kernel
theorem dX5_answer_223 : decode cX5_answer 223 = .ok (.iload_n 2, 1) := by decide +kernel
theorem dX5_answer_224 : decode cX5_answer 224 = .ok (.aload_n 3, 1) := by decide +kernel
theorem dX5_answer_225 : decode cX5_answer 225 = .ok (.iload 4, 2) := by decide +kernel
theorem dX5_answer_227 : decode cX5_answer 227 = .ok (.iconst 1, 1) := by decide +kernel
theorem dX5_answer_228 : decode cX5_answer 228 = .ok (.iadd, 1) := by decide +kernel
theorem dX5_answer_229 : decode cX5_answer 229 = .ok (.invokestatic 235, 3) := by decide +kernel
theorem dX5_answer_232 : decode cX5_answer 232 = .ok (.aload_n 1, 1) := by decide +kernel
theorem dX5_answer_233 : decode cX5_answer 233 = .ok (.getfield 222, 3) := by decide +kernel
theorem dX5_answer_236 : decode cX5_answer 236 = .ok (.iload_n 2, 1) := by decide +kernel
theorem dX5_answer_237 : decode cX5_answer 237 = .ok (.iaload, 1) := by decide +kernel
theorem dX5_answer_238 : decode cX5_answer 238 = .ok (.invokestatic 229, 3) := by decide +kernel
theorem dX5_answer_241 : decode cX5_answer 241 = .ok (.aload_n 1, 1) := by decide +kernel
theorem dX5_answer_242 : decode cX5_answer 242 = .ok (.iload_n 2, 1) := by decide +kernel
theorem dX5_answer_243 : decode cX5_answer 243 = .ok (.aload_n 3, 1) := by decide +kernel
theorem dX5_answer_244 : decode cX5_answer 244 = .ok (.iload 4, 2) := by decide +kernel
theorem dX5_answer_246 : decode cX5_answer 246 = .ok (.iconst 1, 1) := by decide +kernel
theorem dX5_answer_247 : decode cX5_answer 247 = .ok (.iadd, 1) := by decide +kernel
theorem dX5_answer_248 : decode cX5_answer 248 = .ok (.invokestatic 235, 3) := by decide +kernel
theorem dX5_answer_251 : decode cX5_answer 251 = .ok (.isub, 1) := by decide +kernel
theorem dX5_answer_252 : decode cX5_answer 252 = .ok (.ireturn, 1) := by decide +kernel
theorem dX5_answer_253 : decode cX5_answer 253 = .ok (.iconst 2, 1) := by decide +kernel
theorem dX5_answer_254 : decode cX5_answer 254 = .ok (.bipush 21, 2) := by decide +kernel
theorem dX5_answer_256 : decode cX5_answer 256 = .ok (.aload_n 1, 1) := by decide +kernel
theorem dX5_answer_257 : decode cX5_answer 257 = .ok (.iload_n 2, 1) := by decide +kernel
theorem dX5_answer_258 : decode cX5_answer 258 = .ok (.aload_n 3, 1) := by decide +kernel
theorem dX5_answer_259 : decode cX5_answer 259 = .ok (.iload 4, 2) := by decide +kernel
theorem dX5_answer_261 : decode cX5_answer 261 = .ok (.iconst 1, 1) := by decide +kernel
theorem dX5_answer_262 : decode cX5_answer 262 = .ok (.iadd, 1) := by decide +kernel
theorem dX5_answer_263 : decode cX5_answer 263 = .ok (.invokestatic 235, 3) := by decide +kernel
theorem dX5_answer_266 : decode cX5_answer 266 = .ok (.imul, 1) := by decide +kernel
theorem dX5_answer_267 : decode cX5_answer 267 = .ok (.ireturn, 1) := by decide +kernel
theorem dX5_answer_268 : decode cX5_answer 268 = .ok (.iconst 0, 1) := by decide +kernel
theorem dX5_answer_269 : decode cX5_answer 269 = .ok (.ireturn, 1) := by decide +kernel
theorem dX6_init_0 : decode cX6_init 0 = .ok (.aload_n 0, 1) := by decide +kernel
theorem dX6_init_1 : decode cX6_init 1 = .ok (.invokespecial 1, 3) := by decide +kernel
theorem dX6_init_4 : decode cX6_init 4 = .ok (.aload_n 0, 1) := by decide +kernel
theorem dX6_init_5 : decode cX6_init 5 = .ok (.bipush 8, 2) := by decide +kernel
theorem dX6_init_7 : decode cX6_init 7 = .ok (.newarray .int, 2) := by decide +kernel
theorem dX6_init_9 : decode cX6_init 9 = .ok (.putfield 7, 3) := by decide +kernel
theorem dX6_init_12 : decode cX6_init 12 = .ok (.aload_n 0, 1) := by decide +kernel
theorem dX6_init_13 : decode cX6_init 13 = .ok (.bipush 8, 2) := by decide +kernel
theorem dX6_init_15 : decode cX6_init 15 = .ok (.newarray .int, 2) := by decide +kernel
theorem dX6_init_17 : decode cX6_init 17 = .ok (.putfield 13, 3) := by decide +kernel
theorem dX6_init_20 : decode cX6_init 20 = .ok (.aload_n 0, 1) := by decide +kernel
theorem dX6_init_21 : decode cX6_init 21 = .ok (.sipush 320, 3) := by decide +kernel
theorem dX6_init_24 : decode cX6_init 24 = .ok (.newarray .int, 2) := by decide +kernel
theorem dX6_init_26 : decode cX6_init 26 = .ok (.putfield 16, 3) := by decide +kernel
theorem dX6_init_29 : decode cX6_init 29 = .ok (.aload_n 0, 1) := by decide +kernel
theorem dX6_init_30 : decode cX6_init 30 = .ok (.sipush 400, 3) := by decide +kernel
theorem dX6_init_33 : decode cX6_init 33 = .ok (.newarray .int, 2) := by decide +kernel
theorem dX6_init_35 : decode cX6_init 35 = .ok (.putfield 19, 3) := by decide +kernel
theorem dX6_init_38 : decode cX6_init 38 = .ok (.aload_n 0, 1) := by decide +kernel
theorem dX6_init_39 : decode cX6_init 39 = .ok (.bipush 40, 2) := by decide +kernel
theorem dX6_init_41 : decode cX6_init 41 = .ok (.newarray .int, 2) := by decide +kernel
theorem dX6_init_43 : decode cX6_init 43 = .ok (.putfield 22, 3) := by decide +kernel
theorem dX6_init_46 : decode cX6_init 46 = .ok (.aload_n 0, 1) := by decide +kernel
theorem dX6_init_47 : decode cX6_init 47 = .ok (.sipush 960, 3) := by decide +kernel
theorem dX6_init_50 : decode cX6_init 50 = .ok (.newarray .int, 2) := by decide +kernel
theorem dX6_init_52 : decode cX6_init 52 = .ok (.putfield 25, 3) := by decide +kernel
theorem dX6_init_55 : decode cX6_init 55 = .ok (.aload_n 0, 1) := by decide +kernel
theorem dX6_init_56 : decode cX6_init 56 = .ok (.bipush 80, 2) := by decide +kernel
theorem dX6_init_58 : decode cX6_init 58 = .ok (.newarray .int, 2) := by decide +kernel
theorem dX6_init_60 : decode cX6_init 60 = .ok (.putfield 28, 3) := by decide +kernel
theorem dX6_init_63 : decode cX6_init 63 = .ok (.aload_n 0, 1) := by decide +kernel
theorem dX6_init_64 : decode cX6_init 64 = .ok (.iconst 2, 1) := by decide +kernel
theorem dX6_init_65 : decode cX6_init 65 = .ok (.newarray .boolean, 2) := by decide +kernel
theorem dX6_init_67 : decode cX6_init 67 = .ok (.putfield 31, 3) := by decide +kernel
theorem dX6_init_70 : decode cX6_init 70 = .ok (.aload_n 0, 1) := by decide +kernel
theorem dX6_init_71 : decode cX6_init 71 = .ok (.bipush 16, 2) := by decide +kernel
theorem dX6_init_73 : decode cX6_init 73 = .ok (.newarray .int, 2) := by decide +kernel
theorem dX6_init_75 : decode cX6_init 75 = .ok (.putfield 35, 3) := by decide +kernel
theorem dX6_init_78 : decode cX6_init 78 = .ok (.aload_n 0, 1) := by decide +kernel
theorem dX6_init_79 : decode cX6_init 79 = .ok (.bipush 40, 2) := by decide +kernel
theorem dX6_init_81 : decode cX6_init 81 = .ok (.newarray .int, 2) := by decide +kernel
theorem dX6_init_83 : decode cX6_init 83 = .ok (.putfield 38, 3) := by decide +kernel
theorem dX6_init_86 : decode cX6_init 86 = .ok (.aload_n 0, 1) := by decide +kernel
theorem dX6_init_87 : decode cX6_init 87 = .ok (.bipush 40, 2) := by decide +kernel
theorem dX6_init_89 : decode cX6_init 89 = .ok (.newarray .int, 2) := by decide +kernel
theorem dX6_init_91 : decode cX6_init 91 = .ok (.putfield 41, 3) := by decide +kernel
theorem dX6_init_94 : decode cX6_init 94 = .ok (.aload_n 0, 1) := by decide +kernel
theorem dX6_init_95 : decode cX6_init 95 = .ok (.bipush 7, 2) := by decide +kernel
theorem dX6_init_97 : decode cX6_init 97 = .ok (.newarray .int, 2) := by decide +kernel
theorem dX6_init_99 : decode cX6_init 99 = .ok (.putfield 44, 3) := by decide +kernel
theorem dX6_init_102 : decode cX6_init 102 = .ok (.iconst 0, 1) := by decide +kernel
theorem dX6_init_103 : decode cX6_init 103 = .ok (.istore_n 1, 1) := by decide +kernel
theorem dX6_init_104 : decode cX6_init 104 = .ok (.iload_n 1, 1) := by decide +kernel
theorem dX6_init_105 : decode cX6_init 105 = .ok (.bipush 8, 2) := by decide +kernel
theorem dX6_init_107 : decode cX6_init 107 = .ok (.if_icmp .ge 16, 3) := by decide +kernel
theorem dX6_init_110 : decode cX6_init 110 = .ok (.aload_n 0, 1) := by decide +kernel
theorem dX6_init_111 : decode cX6_init 111 = .ok (.getfield 13, 3) := by decide +kernel
theorem dX6_init_114 : decode cX6_init 114 = .ok (.iload_n 1, 1) := by decide +kernel
theorem dX6_init_115 : decode cX6_init 115 = .ok (.iconst (-1), 1) := by decide +kernel
theorem dX6_init_116 : decode cX6_init 116 = .ok (.iastore, 1) := by decide +kernel
theorem dX6_init_117 : decode cX6_init 117 = .ok (.iinc 1 1, 3) := by decide +kernel
theorem dX6_init_120 : decode cX6_init 120 = .ok (.goto (-16), 3) := by decide +kernel
theorem dX6_init_123 : decode cX6_init 123 = .ok (.return_, 1) := by decide +kernel
theorem dX6_in_0 : decode cX6_in 0 = .ok (.lload_n 0, 1) := by decide +kernel
theorem dX6_in_1 : decode cX6_in 1 = .ok (.lload_n 2, 1) := by decide +kernel
theorem dX6_in_2 : decode cX6_in 2 = .ok (.lcmp, 1) := by decide +kernel
theorem dX6_in_3 : decode cX6_in 3 = .ok (.ifCond .lt 14, 3) := by decide +kernel
theorem dX6_in_6 : decode cX6_in 6 = .ok (.lload_n 0, 1) := by decide +kernel
theorem dX6_in_7 : decode cX6_in 7 = .ok (.lload 4, 2) := by decide +kernel
theorem dX6_in_9 : decode cX6_in 9 = .ok (.lcmp, 1) := by decide +kernel
theorem dX6_in_10 : decode cX6_in 10 = .ok (.ifCond .gt 7, 3) := by decide +kernel
theorem dX6_in_13 : decode cX6_in 13 = .ok (.iconst 1, 1) := by decide +kernel
theorem dX6_in_14 : decode cX6_in 14 = .ok (.goto 4, 3) := by decide +kernel
theorem dX6_in_17 : decode cX6_in 17 = .ok (.iconst 0, 1) := by decide +kernel
theorem dX6_in_18 : decode cX6_in 18 = .ok (.ireturn, 1) := by decide +kernel
theorem dX6_found_0 : decode cX6_found 0 = .ok (.aload_n 0, 1) := by decide +kernel
theorem dX6_found_1 : decode cX6_found 1 = .ok (.iload_n 1, 1) := by decide +kernel
theorem dX6_found_2 : decode cX6_found 2 = .ok (.putfield 47, 3) := by decide +kernel
theorem dX6_found_5 : decode cX6_found 5 = .ok (.ldc 51, 2) := by decide +kernel
